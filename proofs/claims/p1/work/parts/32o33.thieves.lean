/-! thieves, on a new object: laid by wip/am/p1g.py. -/
set_option maxRecDepth 100000 in
def p33x_133 : ck_Sum := ((6, 1, 6), 245, [.inr (.inr (.inl 1)), .inl ((-2147483648), 0, none)], ([], [], []), ([], []), [(.inl 0, 245, ([], [], []))])
set_option maxRecDepth 100000 in
theorem p33x_133_e : ck_ok p1_O none [] [] 214 [] 78 p33x_133 = true := by decide +kernel
theorem p33x_133_s {X : Int → Int} {LX : Nat} : ck_Ok p1_O X LX 214 p33x_133 := ck_ok_s (ck_E0) ck_X0 ck_l0 p33x_133_e
set_option maxRecDepth 100000 in
def p33x_134 : ck_Sum := ((7, 1, 6), 245, [.inr (.inr (.inl 1)), .inl ((-2147483648), 0, none), .inl (ck_one 1)], ([], [], []), ([], []), [(.inl 0, 245, ([], [], []))])
set_option maxRecDepth 100000 in
theorem p33x_134_e : ck_ok p1_O none [] [(214, [p33x_133])] 213 [] 76 p33x_134 = true := by decide +kernel
theorem p33x_134_s {X : Int → Int} {LX : Nat} : ck_Ok p1_O X LX 213 p33x_134 := ck_ok_s (ck_E1 (ck_S1 p33x_133_s ck_S0) ck_E0) ck_X0 ck_l0 p33x_134_e
set_option maxRecDepth 100000 in
def p33x_135 : ck_Sum := ((8, 1, 6), 245, [.inr (.inr (.inl 1)), .inl ((-2147483648), 0, none), .inl (ck_one 1), .inr (.inr (.inl 245))], ([], [], []), ([], []), [(.inr (some (.inl (ck_one 1))), 245, ([], [], []))])
set_option maxRecDepth 100000 in
theorem p33x_135_e : ck_ok p1_O none [] [(213, [p33x_134])] 212 [] 88 p33x_135 = true := by decide +kernel
theorem p33x_135_s {X : Int → Int} {LX : Nat} : ck_Ok p1_O X LX 212 p33x_135 := ck_ok_s (ck_E1 (ck_S1 p33x_134_s ck_S0) ck_E0) ck_X0 ck_l0 p33x_135_e
set_option maxRecDepth 100000 in
def p33x_140 : ck_Sum := ((7, 1, 6), 245, [.inr (.inr (.inl 1)), .inl ((-2147483648), 0, none), .inl (ck_one 0)], ([], [], []), ([], []), [(.inl 0, 245, ([], [], []))])
set_option maxRecDepth 100000 in
theorem p33x_140_e : ck_ok p1_O none [] [(214, [p33x_133])] 213 [] 76 p33x_140 = true := by decide +kernel
theorem p33x_140_s {X : Int → Int} {LX : Nat} : ck_Ok p1_O X LX 213 p33x_140 := ck_ok_s (ck_E1 (ck_S1 p33x_133_s ck_S0) ck_E0) ck_X0 ck_l0 p33x_140_e
set_option maxRecDepth 100000 in
def p33x_141 : ck_Sum := ((8, 1, 6), 245, [.inr (.inr (.inl 1)), .inl ((-2147483648), 0, none), .inl (ck_one 0), .inr (.inr (.inl 245))], ([], [], []), ([], []), [(.inr (some (.inl (ck_one 1))), 245, ([], [], []))])
set_option maxRecDepth 100000 in
theorem p33x_141_e : ck_ok p1_O none [] [(213, [p33x_140])] 212 [] 88 p33x_141 = true := by decide +kernel
theorem p33x_141_s {X : Int → Int} {LX : Nat} : ck_Ok p1_O X LX 212 p33x_141 := ck_ok_s (ck_E1 (ck_S1 p33x_140_s ck_S0) ck_E0) ck_X0 ck_l0 p33x_141_e
set_option maxRecDepth 100000 in
def p33x_143 : ck_Sum := ((0, 0, 0), 245, [.inr (.inr (.inl 1)), .inl (ck_one 1)], ([], [], []), ([], []), [(.inr none, 245, ([], [], []))])
set_option maxRecDepth 100000 in
theorem p33x_143_e : ck_ok p1_O none [] [] 214 [] 84 p33x_143 = true := by decide +kernel
theorem p33x_143_s {X : Int → Int} {LX : Nat} : ck_Ok p1_O X LX 214 p33x_143 := ck_ok_s (ck_E0) ck_X0 ck_l0 p33x_143_e
set_option maxRecDepth 100000 in
def p33x_144 : ck_Sum := ((0, 0, 0), 245, [.inr (.inr (.inl 10))], ([], [], [(10, 3, 3, ck_one 0)]), ([], []), [(.inr (some (.inl (ck_one 0))), 245, ([], [], []))])
set_option maxRecDepth 100000 in
theorem p33x_144_e : ck_ok p1_O none [] [] 9 [] 76 p33x_144 = true := by decide +kernel
theorem p33x_144_s {X : Int → Int} {LX : Nat} : ck_Ok p1_O X LX 9 p33x_144 := ck_ok_s (ck_E0) ck_X0 ck_l0 p33x_144_e
set_option maxRecDepth 100000 in
def p33x_147 : ck_Sum := ((0, 0, 0), 245, [.inr (.inr (.inl 220))], ([], [], [(220, 3, 3, ck_one 0)]), ([], []), [(.inr (some (.inl (ck_one 0))), 245, ([], [], []))])
set_option maxRecDepth 100000 in
theorem p33x_147_e : ck_ok p1_O none [] [] 9 [] 76 p33x_147 = true := by decide +kernel
theorem p33x_147_s {X : Int → Int} {LX : Nat} : ck_Ok p1_O X LX 9 p33x_147 := ck_ok_s (ck_E0) ck_X0 ck_l0 p33x_147_e
set_option maxRecDepth 100000 in
def p33x_145 : ck_Sum := ((0, 0, 0), 245, [.inr (.inr (.inl 221)), .inl (ck_one 0)], ([], [], []), ([(221, 0, 47)], []), [(.inr none, 245, ([], [], []))])
set_option maxRecDepth 100000 in
theorem p33x_145_e : ck_ok p1_O none [] [] 8 [(5, [some (.inr (.inr (.inl 221))), some (.inl (ck_one 0)), some (.inl (0, 48, none)), some (.inl (ck_one 48))], ([], [], []), 100, .inl 2, true)] 130 p33x_145 = true := by decide +kernel
theorem p33x_145_s {X : Int → Int} {LX : Nat} : ck_Ok p1_O X LX 8 p33x_145 := ck_ok_s (ck_E0) ck_X0 ck_l0 p33x_145_e
set_option maxRecDepth 100000 in
def p33x_146 : ck_Sum := ((1, 0, 0), 245, [.inr (.inr (.inl 220)), .inl (ck_one 0)], ([], [], [(220, 0, 0, ck_one 24)]), ([(220, 3, 3), (221, 0, 47)], []), [(.inr none, 245, ([], [], [(220, 3, 3, ck_one 0)]))])
set_option maxRecDepth 100000 in
theorem p33x_146_e : ck_ok p1_O none [] [(8, [p33x_145])] 25 [] 96 p33x_146 = true := by decide +kernel
theorem p33x_146_s {X : Int → Int} {LX : Nat} : ck_Ok p1_O X LX 25 p33x_146 := ck_ok_s (ck_E1 (ck_S1 p33x_145_s ck_S0) ck_E0) ck_X0 ck_l0 p33x_146_e
set_option maxRecDepth 100000 in
def p33x_148 : ck_Sum := ((2, 0, 0), 245, [.inr (.inr (.inl 1))], ([], [], [(1, 15, 15, ck_one 0), (220, 0, 0, ck_one 24), (220, 3, 3, ck_one 0), (10, 3, 3, ck_one 0)]), ([(1, 15, 15), (220, 3, 3), (221, 0, 47)], []), [(.inr none, 245, ([], [], [(1, 15, 15, ck_one 1), (220, 3, 3, ck_one 0)]))])
set_option maxRecDepth 100000 in
theorem p33x_148_e : ck_ok p1_O none [] [(9, [p33x_144, p33x_147]), (25, [p33x_146])] 24 [(27, [some (.inr (.inr (.inl 1))), some (.inl (ck_one 0))], ([], [], [(220, 3, 3, ck_one 0), (1, 15, 15, ck_one 0), (220, 0, 0, ck_one 24), (10, 3, 3, ck_one 0)]), 100, .inl 1, true)] 142 p33x_148 = true := by decide +kernel
theorem p33x_148_s {X : Int → Int} {LX : Nat} : ck_Ok p1_O X LX 24 p33x_148 := ck_ok_s (ck_E1 (ck_S1 p33x_144_s (ck_S1 p33x_147_s ck_S0)) (ck_E1 (ck_S1 p33x_146_s ck_S0) ck_E0)) ck_X0 ck_l0 p33x_148_e
set_option maxRecDepth 100000 in
def p33x_149 : ck_Sum := ((0, 0, 0), 245, [.inr (.inr (.inl 223)), .inl (ck_one 0)], ([], [], [(223, 0, 179, ck_one 0)]), ([(223, 0, 179)], []), [(.inr none, 245, ([], [], [(223, 0, 179, ck_one 0)]))])
set_option maxRecDepth 100000 in
theorem p33x_149_e : ck_ok p1_O none [] [] 8 [(5, [some (.inr (.inr (.inl 223))), some (.inl (ck_one 0)), some (.inl (0, 180, none)), some (.inl (ck_one 180))], ([], [], [(223, 0, 179, ck_one 0)]), 100, .inl 2, true)] 130 p33x_149 = true := by decide +kernel
theorem p33x_149_s {X : Int → Int} {LX : Nat} : ck_Ok p1_O X LX 8 p33x_149 := ck_ok_s (ck_E0) ck_X0 ck_l0 p33x_149_e
set_option maxRecDepth 100000 in
def p33x_150 : ck_Sum := ((1, 0, 0), 245, [.inr (.inr (.inl 222)), .inl (ck_one 1)], ([], [], [(222, 0, 0, ck_one 30), (223, 0, 179, ck_one 0)]), ([(222, 3, 3), (223, 0, 179)], []), [(.inr none, 245, ([], [], [(222, 3, 3, ck_one 1), (223, 0, 179, ck_one 0)]))])
set_option maxRecDepth 100000 in
theorem p33x_150_e : ck_ok p1_O none [] [(8, [p33x_149])] 25 [] 96 p33x_150 = true := by decide +kernel
theorem p33x_150_s {X : Int → Int} {LX : Nat} : ck_Ok p1_O X LX 25 p33x_150 := ck_ok_s (ck_E1 (ck_S1 p33x_149_s ck_S0) ck_E0) ck_X0 ck_l0 p33x_150_e
set_option maxRecDepth 100000 in
def p33x_151 : ck_Sum := ((2, 0, 0), 245, [.inr (.inr (.inl 1)), .inl (ck_one 1)], ([], [], [(220, 3, 3, ck_one 0), (222, 0, 0, ck_one 30), (222, 3, 3, ck_one 0), (223, 0, 179, ck_one 0)]), ([(222, 3, 3), (223, 0, 179)], []), [(.inr none, 245, ([], [], [(222, 3, 3, ck_one 1), (223, 0, 179, ck_one 0)]))])
set_option maxRecDepth 100000 in
theorem p33x_151_e : ck_ok p1_O none [] [(25, [p33x_150]), (9, [p33x_147])] 215 [(10, [some (.inr (.inr (.inl 1))), some (.inl (ck_one 1)), some (.inl (ck_one 0)), none, none], ([], [], [(222, 3, 3, ck_one 1), (223, 0, 179, ck_one 0), (220, 3, 3, ck_one 0), (222, 0, 0, ck_one 30)]), 100, .inl 2, true)] 118 p33x_151 = true := by decide +kernel
theorem p33x_151_s {X : Int → Int} {LX : Nat} : ck_Ok p1_O X LX 215 p33x_151 := ck_ok_s (ck_E1 (ck_S1 p33x_150_s ck_S0) (ck_E1 (ck_S1 p33x_147_s ck_S0) ck_E0)) ck_X0 ck_l0 p33x_151_e
set_option maxRecDepth 100000 in
def p33x_152 : ck_Sum := ((0, 0, 0), 245, [.inr (.inr (.inl 225)), .inl (ck_one 0)], ([], [], [(225, 0, 185, ck_one 0)]), ([(225, 0, 185)], []), [(.inr none, 245, ([], [], [(225, 0, 185, ck_one 0)]))])
set_option maxRecDepth 100000 in
theorem p33x_152_e : ck_ok p1_O none [] [] 8 [(5, [some (.inr (.inr (.inl 225))), some (.inl (ck_one 0)), some (.inl (0, 186, none)), some (.inl (ck_one 186))], ([], [], [(225, 0, 185, ck_one 0)]), 100, .inl 2, true)] 130 p33x_152 = true := by decide +kernel
theorem p33x_152_s {X : Int → Int} {LX : Nat} : ck_Ok p1_O X LX 8 p33x_152 := ck_ok_s (ck_E0) ck_X0 ck_l0 p33x_152_e
set_option maxRecDepth 100000 in
def p33x_153 : ck_Sum := ((1, 0, 0), 245, [.inr (.inr (.inl 224)), .inl (ck_one 2)], ([], [], [(224, 0, 0, ck_one 31), (225, 0, 185, ck_one 0)]), ([(224, 3, 3), (225, 0, 185)], []), [(.inr none, 245, ([], [], [(224, 3, 3, ck_one 2), (225, 0, 185, ck_one 0)]))])
set_option maxRecDepth 100000 in
theorem p33x_153_e : ck_ok p1_O none [] [(8, [p33x_152])] 25 [] 96 p33x_153 = true := by decide +kernel
theorem p33x_153_s {X : Int → Int} {LX : Nat} : ck_Ok p1_O X LX 25 p33x_153 := ck_ok_s (ck_E1 (ck_S1 p33x_152_s ck_S0) ck_E0) ck_X0 ck_l0 p33x_153_e
set_option maxRecDepth 100000 in
def p33x_166 : ck_Sum := ((0, 0, 0), 245, [.inr (.inr (.inl 222)), .inl (ck_one 0), .inl (0, 2, none)], ([], [], [(222, 3, 3, ck_one 1), (223, 0, 179, ck_one 0), (222, 1, 1, ck_one 6)]), ([], []), [(.inr (some (.inl (ck_one 0))), 245, ([], [], []))])
set_option maxRecDepth 100000 in
theorem p33x_166_e : ck_ok p1_O none [] [] 10 [] 114 p33x_166 = true := by decide +kernel
theorem p33x_166_s {X : Int → Int} {LX : Nat} : ck_Ok p1_O X LX 10 p33x_166 := ck_ok_s (ck_E0) ck_X0 ck_l0 p33x_166_e
set_option maxRecDepth 100000 in
def p33x_174 : ck_Sum := ((0, 0, 0), 245, [.inr (.inr (.inl 224)), .inl (ck_one 0), .inl (1, 2, none)], ([], [], [(224, 3, 3, ck_one 2), (225, 0, 185, ck_one 0), (224, 1, 1, ck_one 6)]), ([], []), [(.inr (some (.inl (ck_one 0))), 245, ([], [], []))])
set_option maxRecDepth 100000 in
theorem p33x_174_e : ck_ok p1_O none [] [] 10 [] 114 p33x_174 = true := by decide +kernel
theorem p33x_174_s {X : Int → Int} {LX : Nat} : ck_Ok p1_O X LX 10 p33x_174 := ck_ok_s (ck_E0) ck_X0 ck_l0 p33x_174_e
set_option maxRecDepth 100000 in
def p33x_173 : ck_Sum := ((0, 0, 0), 245, [.inr (.inr (.inl 224)), .inl (ck_one 0), .inl (ck_one 0)], ([], [], [(224, 3, 3, ck_one 2), (225, 0, 185, ck_one 0), (224, 1, 1, ck_one 6)]), ([], []), [(.inr (some (.inl (ck_one 0))), 245, ([], [], []))])
set_option maxRecDepth 100000 in
theorem p33x_173_e : ck_ok p1_O none [] [] 10 [] 114 p33x_173 = true := by decide +kernel
theorem p33x_173_s {X : Int → Int} {LX : Nat} : ck_Ok p1_O X LX 10 p33x_173 := ck_ok_s (ck_E0) ck_X0 ck_l0 p33x_173_e
set_option maxRecDepth 100000 in
def p33x_167 : ck_Sum := ((0, 0, 0), 245, [.inr (.inr (.inl 224)), .inl (ck_one 1), .inl ((-1), 1, none)], ([], [], [(224, 3, 3, ck_one 2), (225, 0, 185, ck_one 0), (224, 1, 1, ck_one 6)]), ([], []), [(.inr (some (.inl (ck_one (-1)))), 245, ([], [], [])), (.inr (some (.inl (ck_one 0))), 245, ([], [], []))])
set_option maxRecDepth 100000 in
theorem p33x_167_e : ck_ok p1_O none [] [] 10 [] 114 p33x_167 = true := by decide +kernel
theorem p33x_167_s {X : Int → Int} {LX : Nat} : ck_Ok p1_O X LX 10 p33x_167 := ck_ok_s (ck_E0) ck_X0 ck_l0 p33x_167_e
set_option maxRecDepth 100000 in
def p33x_168 : ck_Sum := ((0, 0, 0), 245, [.inr (.inr (.inl 224)), .inl (ck_one 1), .inl (1, 3, none)], ([], [], [(224, 3, 3, ck_one 2), (225, 0, 185, ck_one 0), (224, 1, 1, ck_one 6)]), ([], []), [(.inr (some (.inl (ck_one 0))), 245, ([], [], []))])
set_option maxRecDepth 100000 in
theorem p33x_168_e : ck_ok p1_O none [] [] 10 [] 114 p33x_168 = true := by decide +kernel
theorem p33x_168_s {X : Int → Int} {LX : Nat} : ck_Ok p1_O X LX 10 p33x_168 := ck_ok_s (ck_E0) ck_X0 ck_l0 p33x_168_e
set_option maxRecDepth 100000 in
def p33x_169 : ck_Sum := ((0, 0, 0), 245, [.inr (.inr (.inl 224)), .inl (ck_one 1), .inl (0, 2, none)], ([], [], [(224, 3, 3, ck_one 2), (225, 0, 185, ck_one 0), (224, 1, 1, ck_one 6)]), ([], []), [(.inr (some (.inl (ck_one 0))), 245, ([], [], []))])
set_option maxRecDepth 100000 in
theorem p33x_169_e : ck_ok p1_O none [] [] 10 [] 114 p33x_169 = true := by decide +kernel
theorem p33x_169_s {X : Int → Int} {LX : Nat} : ck_Ok p1_O X LX 10 p33x_169 := ck_ok_s (ck_E0) ck_X0 ck_l0 p33x_169_e
set_option maxRecDepth 100000 in
def p33x_170 : ck_Sum := ((1, 0, 0), 245, [.inr (.inr (.inl 1)), .inl (ck_one 1), .inl (0, 2, none)], ([], [], [(224, 3, 3, ck_one 2), (225, 0, 185, ck_one 0), (224, 1, 1, ck_one 6)]), ([], []), [(.inr (some (.inl (ck_one 0))), 245, ([], [], []))])
set_option maxRecDepth 100000 in
theorem p33x_170_e : ck_ok p1_O none [] [(10, [p33x_167, p33x_168, p33x_169])] 216 [] 118 p33x_170 = true := by decide +kernel
theorem p33x_170_s {X : Int → Int} {LX : Nat} : ck_Ok p1_O X LX 216 p33x_170 := ck_ok_s (ck_E1 (ck_S1 p33x_167_s (ck_S1 p33x_168_s (ck_S1 p33x_169_s ck_S0))) ck_E0) ck_X0 ck_l0 p33x_170_e
set_option maxRecDepth 100000 in
def p33x_171 : ck_Sum := ((0, 0, 0), 245, [.inr (.inr (.inl 224)), .inl (ck_one 0), .inl (0, 2, none), .inl (ck_one 0)], ([], [], [(224, 3, 3, ck_one 2), (225, 0, 185, ck_one 0), (224, 1, 1, ck_one 6)]), ([(225, 0, 2)], []), [(.inr none, 245, ([], [], [(225, 0, 185, ck_one 0)]))])
set_option maxRecDepth 100000 in
theorem p33x_171_e : ck_ok p1_O none [] [] 45 [] 116 p33x_171 = true := by decide +kernel
theorem p33x_171_s {X : Int → Int} {LX : Nat} : ck_Ok p1_O X LX 45 p33x_171 := ck_ok_s (ck_E0) ck_X0 ck_l0 p33x_171_e
set_option maxRecDepth 100000 in
def p33x_175 : ck_Sum := ((3, 0, 0), 245, [.inr (.inr (.inl 1)), .inl (ck_one 1), .inl (ck_one 1)], ([], [], [(224, 1, 1, ck_one 6), (224, 0, 0, ck_one 31), (224, 3, 3, ck_one 0), (222, 1, 1, ck_one 6), (222, 0, 0, ck_one 30), (222, 3, 3, ck_one 0), (1, 15, 15, ck_one 0), (220, 0, 0, ck_one 24), (220, 3, 3, ck_one 0), (10, 3, 3, ck_one 0), (3, 0, 0, ck_one 3), (223, 0, 179, ck_one 0), (225, 0, 185, ck_one 0)]), ([(1, 15, 15), (220, 3, 3), (221, 0, 47), (222, 3, 3), (223, 0, 179), (224, 3, 3), (225, 0, 185)], []), [(.inr (some (.inl (ck_one 0))), 245, ([], [], [(224, 3, 3, ck_one 2), (222, 3, 3, ck_one 1), (1, 15, 15, ck_one 1), (220, 3, 3, ck_one 0), (223, 0, 179, ck_one 0), (225, 0, 185, ck_one 0)]))])
set_option maxRecDepth 100000 in
theorem p33x_175_e : ck_ok p1_O none [] [(214, [p33x_143]), (24, [p33x_148]), (215, [p33x_151]), (25, [p33x_153]), (10, [p33x_166, p33x_174, p33x_173]), (216, [p33x_170]), (45, [p33x_171])] 213 [(28, [some (.inr (.inr (.inl 1))), some (.inl (ck_one 1)), some (.inl (ck_one 1)), some (.inl ((-1), 0, none)), none], ([], [], [(224, 3, 3, ck_one 2), (225, 0, 185, ck_one 0), (222, 3, 3, ck_one 1), (223, 0, 179, ck_one 0), (1, 15, 15, ck_one 1), (220, 3, 3, ck_one 0), (224, 1, 1, ck_one 6), (224, 0, 0, ck_one 31), (222, 1, 1, ck_one 6), (222, 0, 0, ck_one 30), (220, 0, 0, ck_one 24), (10, 3, 3, ck_one 0), (3, 0, 0, ck_one 3)]), 100, .inl 3, false), (35, [some (.inr (.inr (.inl 1))), some (.inl (ck_one 1)), some (.inl (ck_one 1)), some (.inl (0, 0, some (100, 0))), some (.inl (0, 3, none))], ([], [], [(224, 3, 3, ck_one 2), (225, 0, 185, ck_one 0), (222, 3, 3, ck_one 1), (223, 0, 179, ck_one 0), (1, 15, 15, ck_one 1), (220, 3, 3, ck_one 0), (224, 1, 1, ck_one 6), (224, 0, 0, ck_one 31), (222, 1, 1, ck_one 6), (222, 0, 0, ck_one 30), (220, 0, 0, ck_one 24), (10, 3, 3, ck_one 0), (3, 0, 0, ck_one 3)]), 300, .inl 4, true), (94, [some (.inr (.inr (.inl 1))), some (.inl (ck_one 1)), some (.inl (ck_one 1)), some (.inl (ck_one 0)), some (.inl (1, 3, none))], ([], [], [(224, 3, 3, ck_one 2), (225, 0, 185, ck_one 0), (222, 3, 3, ck_one 1), (223, 0, 179, ck_one 0), (1, 15, 15, ck_one 1), (220, 3, 3, ck_one 0), (224, 1, 1, ck_one 6), (224, 0, 0, ck_one 31), (222, 1, 1, ck_one 6), (222, 0, 0, ck_one 30), (220, 0, 0, ck_one 24), (10, 3, 3, ck_one 0), (3, 0, 0, ck_one 3)]), 500, .inl 4, true)] 330 p33x_175 = true := by decide +kernel
theorem p33x_175_s {X : Int → Int} {LX : Nat} : ck_Ok p1_O X LX 213 p33x_175 := ck_ok_s (ck_E1 (ck_S1 p33x_143_s ck_S0) (ck_E1 (ck_S1 p33x_148_s ck_S0) (ck_E1 (ck_S1 p33x_151_s ck_S0) (ck_E1 (ck_S1 p33x_153_s ck_S0) (ck_E1 (ck_S1 p33x_166_s (ck_S1 p33x_174_s (ck_S1 p33x_173_s ck_S0))) (ck_E1 (ck_S1 p33x_170_s ck_S0) (ck_E1 (ck_S1 p33x_171_s ck_S0) ck_E0))))))) ck_X0 ck_l0 p33x_175_e
set_option maxRecDepth 100000 in
def p33x_176 : ck_Sum := ((4, 0, 0), 245, [.inr (.inr (.inl 1)), .inl (ck_one 1), .inl (ck_one 1), .inr (.inr (.inl 245))], ([], [], [(224, 1, 1, ck_one 6), (224, 0, 0, ck_one 31), (224, 3, 3, ck_one 0), (222, 1, 1, ck_one 6), (222, 0, 0, ck_one 30), (222, 3, 3, ck_one 0), (1, 15, 15, ck_one 0), (220, 0, 0, ck_one 24), (220, 3, 3, ck_one 0), (10, 3, 3, ck_one 0), (3, 0, 0, ck_one 3), (223, 0, 179, ck_one 0), (225, 0, 185, ck_one 0)]), ([(1, 15, 15), (220, 3, 3), (221, 0, 47), (222, 3, 3), (223, 0, 179), (224, 3, 3), (225, 0, 185), (245, 0, 0)], []), [(.inr (some (.inl (ck_one 0))), 245, ([], [], [(245, 0, 0, ck_one 0), (224, 3, 3, ck_one 2), (222, 3, 3, ck_one 1), (1, 15, 15, ck_one 1), (220, 3, 3, ck_one 0), (223, 0, 179, ck_one 0), (225, 0, 185, ck_one 0)]))])
set_option maxRecDepth 100000 in
theorem p33x_176_e : ck_ok p1_O none [] [(213, [p33x_175])] 212 [] 92 p33x_176 = true := by decide +kernel
theorem p33x_176_s {X : Int → Int} {LX : Nat} : ck_Ok p1_O X LX 212 p33x_176 := ck_ok_s (ck_E1 (ck_S1 p33x_175_s ck_S0) ck_E0) ck_X0 ck_l0 p33x_176_e
set_option maxRecDepth 100000 in
def p33x_189 : ck_Sum := ((3, 0, 0), 245, [.inr (.inr (.inl 1)), .inl (ck_one 1), .inl (ck_one 0)], ([], [], [(224, 1, 1, ck_one 6), (224, 0, 0, ck_one 31), (224, 3, 3, ck_one 0), (222, 1, 1, ck_one 6), (222, 0, 0, ck_one 30), (222, 3, 3, ck_one 0), (1, 15, 15, ck_one 0), (220, 0, 0, ck_one 24), (220, 3, 3, ck_one 0), (10, 3, 3, ck_one 0), (3, 0, 0, ck_one 3), (223, 0, 179, ck_one 0), (225, 0, 185, ck_one 0)]), ([(1, 15, 15), (220, 3, 3), (221, 0, 47), (222, 3, 3), (223, 0, 179), (224, 3, 3), (225, 0, 185)], []), [(.inr (some (.inl (ck_one 0))), 245, ([], [], [(224, 3, 3, ck_one 2), (222, 3, 3, ck_one 1), (1, 15, 15, ck_one 1), (220, 3, 3, ck_one 0), (223, 0, 179, ck_one 0), (225, 0, 185, ck_one 0)]))])
set_option maxRecDepth 100000 in
theorem p33x_189_e : ck_ok p1_O none [] [(214, [p33x_143]), (24, [p33x_148]), (215, [p33x_151]), (25, [p33x_153]), (10, [p33x_166, p33x_173, p33x_174]), (216, [p33x_170]), (45, [p33x_171])] 213 [(28, [some (.inr (.inr (.inl 1))), some (.inl (ck_one 1)), some (.inl (ck_one 0)), some (.inl ((-1), 0, none)), none], ([], [], [(224, 3, 3, ck_one 2), (225, 0, 185, ck_one 0), (222, 3, 3, ck_one 1), (223, 0, 179, ck_one 0), (1, 15, 15, ck_one 1), (220, 3, 3, ck_one 0), (224, 1, 1, ck_one 6), (224, 0, 0, ck_one 31), (222, 1, 1, ck_one 6), (222, 0, 0, ck_one 30), (220, 0, 0, ck_one 24), (10, 3, 3, ck_one 0), (3, 0, 0, ck_one 3)]), 100, .inl 3, false), (35, [some (.inr (.inr (.inl 1))), some (.inl (ck_one 1)), some (.inl (ck_one 0)), some (.inl (0, 0, some (100, 0))), some (.inl (0, 3, none))], ([], [], [(224, 3, 3, ck_one 2), (225, 0, 185, ck_one 0), (222, 3, 3, ck_one 1), (223, 0, 179, ck_one 0), (1, 15, 15, ck_one 1), (220, 3, 3, ck_one 0), (224, 1, 1, ck_one 6), (224, 0, 0, ck_one 31), (222, 1, 1, ck_one 6), (222, 0, 0, ck_one 30), (220, 0, 0, ck_one 24), (10, 3, 3, ck_one 0), (3, 0, 0, ck_one 3)]), 300, .inl 4, true), (94, [some (.inr (.inr (.inl 1))), some (.inl (ck_one 1)), some (.inl (ck_one 0)), some (.inl (ck_one 0)), some (.inl (1, 3, none))], ([], [], [(224, 3, 3, ck_one 2), (225, 0, 185, ck_one 0), (222, 3, 3, ck_one 1), (223, 0, 179, ck_one 0), (1, 15, 15, ck_one 1), (220, 3, 3, ck_one 0), (224, 1, 1, ck_one 6), (224, 0, 0, ck_one 31), (222, 1, 1, ck_one 6), (222, 0, 0, ck_one 30), (220, 0, 0, ck_one 24), (10, 3, 3, ck_one 0), (3, 0, 0, ck_one 3)]), 500, .inl 4, true)] 330 p33x_189 = true := by decide +kernel
theorem p33x_189_s {X : Int → Int} {LX : Nat} : ck_Ok p1_O X LX 213 p33x_189 := ck_ok_s (ck_E1 (ck_S1 p33x_143_s ck_S0) (ck_E1 (ck_S1 p33x_148_s ck_S0) (ck_E1 (ck_S1 p33x_151_s ck_S0) (ck_E1 (ck_S1 p33x_153_s ck_S0) (ck_E1 (ck_S1 p33x_166_s (ck_S1 p33x_173_s (ck_S1 p33x_174_s ck_S0))) (ck_E1 (ck_S1 p33x_170_s ck_S0) (ck_E1 (ck_S1 p33x_171_s ck_S0) ck_E0))))))) ck_X0 ck_l0 p33x_189_e
set_option maxRecDepth 100000 in
def p33x_190 : ck_Sum := ((4, 0, 0), 245, [.inr (.inr (.inl 1)), .inl (ck_one 1), .inl (ck_one 0), .inr (.inr (.inl 245))], ([], [], [(224, 1, 1, ck_one 6), (224, 0, 0, ck_one 31), (224, 3, 3, ck_one 0), (222, 1, 1, ck_one 6), (222, 0, 0, ck_one 30), (222, 3, 3, ck_one 0), (1, 15, 15, ck_one 0), (220, 0, 0, ck_one 24), (220, 3, 3, ck_one 0), (10, 3, 3, ck_one 0), (3, 0, 0, ck_one 3), (223, 0, 179, ck_one 0), (225, 0, 185, ck_one 0)]), ([(1, 15, 15), (220, 3, 3), (221, 0, 47), (222, 3, 3), (223, 0, 179), (224, 3, 3), (225, 0, 185), (245, 0, 0)], []), [(.inr (some (.inl (ck_one 0))), 245, ([], [], [(245, 0, 0, ck_one 0), (224, 3, 3, ck_one 2), (222, 3, 3, ck_one 1), (1, 15, 15, ck_one 1), (220, 3, 3, ck_one 0), (223, 0, 179, ck_one 0), (225, 0, 185, ck_one 0)]))])
set_option maxRecDepth 100000 in
theorem p33x_190_e : ck_ok p1_O none [] [(213, [p33x_189])] 212 [] 92 p33x_190 = true := by decide +kernel
theorem p33x_190_s {X : Int → Int} {LX : Nat} : ck_Ok p1_O X LX 212 p33x_190 := ck_ok_s (ck_E1 (ck_S1 p33x_189_s ck_S0) ck_E0) ck_X0 ck_l0 p33x_190_e
set_option maxRecDepth 100000 in
def p33x_192 : ck_Sum := ((0, 0, 0), 245, [.inr (.inr (.inl 1)), .inl (ck_one 2)], ([], [], []), ([], []), [(.inr none, 245, ([], [], []))])
set_option maxRecDepth 100000 in
theorem p33x_192_e : ck_ok p1_O none [] [] 214 [] 84 p33x_192 = true := by decide +kernel
theorem p33x_192_s {X : Int → Int} {LX : Nat} : ck_Ok p1_O X LX 214 p33x_192 := ck_ok_s (ck_E0) ck_X0 ck_l0 p33x_192_e
set_option maxRecDepth 100000 in
def p33x_193 : ck_Sum := ((1, 0, 0), 245, [.inr (.inr (.inl 222)), .inl (ck_one 2)], ([], [], [(222, 0, 0, ck_one 30), (223, 0, 179, ck_one 0)]), ([(222, 3, 3), (223, 0, 179)], []), [(.inr none, 245, ([], [], [(222, 3, 3, ck_one 2), (223, 0, 179, ck_one 0)]))])
set_option maxRecDepth 100000 in
theorem p33x_193_e : ck_ok p1_O none [] [(8, [p33x_149])] 25 [] 96 p33x_193 = true := by decide +kernel
theorem p33x_193_s {X : Int → Int} {LX : Nat} : ck_Ok p1_O X LX 25 p33x_193 := ck_ok_s (ck_E1 (ck_S1 p33x_149_s ck_S0) ck_E0) ck_X0 ck_l0 p33x_193_e
set_option maxRecDepth 100000 in
def p33x_194 : ck_Sum := ((2, 0, 0), 245, [.inr (.inr (.inl 1)), .inl (ck_one 2)], ([], [], [(220, 3, 3, ck_one 0), (222, 0, 0, ck_one 30), (222, 3, 3, ck_one 0), (223, 0, 179, ck_one 0)]), ([(222, 3, 3), (223, 0, 179)], []), [(.inr none, 245, ([], [], [(222, 3, 3, ck_one 2), (223, 0, 179, ck_one 0)]))])
set_option maxRecDepth 100000 in
theorem p33x_194_e : ck_ok p1_O none [] [(25, [p33x_193]), (9, [p33x_147])] 215 [(10, [some (.inr (.inr (.inl 1))), some (.inl (ck_one 2)), some (.inl (ck_one 0)), none, none], ([], [], [(222, 3, 3, ck_one 2), (223, 0, 179, ck_one 0), (220, 3, 3, ck_one 0), (222, 0, 0, ck_one 30)]), 100, .inl 2, true)] 118 p33x_194 = true := by decide +kernel
theorem p33x_194_s {X : Int → Int} {LX : Nat} : ck_Ok p1_O X LX 215 p33x_194 := ck_ok_s (ck_E1 (ck_S1 p33x_193_s ck_S0) (ck_E1 (ck_S1 p33x_147_s ck_S0) ck_E0)) ck_X0 ck_l0 p33x_194_e
set_option maxRecDepth 100000 in
def p33x_195 : ck_Sum := ((1, 0, 0), 245, [.inr (.inr (.inl 224)), .inl (ck_one 3)], ([], [], [(224, 0, 0, ck_one 31), (225, 0, 185, ck_one 0)]), ([(224, 3, 3), (225, 0, 185)], []), [(.inr none, 245, ([], [], [(224, 3, 3, ck_one 3), (225, 0, 185, ck_one 0)]))])
set_option maxRecDepth 100000 in
theorem p33x_195_e : ck_ok p1_O none [] [(8, [p33x_152])] 25 [] 96 p33x_195 = true := by decide +kernel
theorem p33x_195_s {X : Int → Int} {LX : Nat} : ck_Ok p1_O X LX 25 p33x_195 := ck_ok_s (ck_E1 (ck_S1 p33x_152_s ck_S0) ck_E0) ck_X0 ck_l0 p33x_195_e
set_option maxRecDepth 100000 in
def p33x_214 : ck_Sum := ((0, 0, 0), 245, [.inr (.inr (.inl 222)), .inl (0, 1, none), .inl (0, 2, none)], ([], [], [(222, 3, 3, ck_one 2), (223, 0, 179, ck_one 0), (222, 1, 1, ck_one 6)]), ([], []), [(.inr (some (.inl (ck_one 0))), 245, ([], [], []))])
set_option maxRecDepth 100000 in
theorem p33x_214_e : ck_ok p1_O none [] [] 10 [] 114 p33x_214 = true := by decide +kernel
theorem p33x_214_s {X : Int → Int} {LX : Nat} : ck_Ok p1_O X LX 10 p33x_214 := ck_ok_s (ck_E0) ck_X0 ck_l0 p33x_214_e
set_option maxRecDepth 100000 in
def p33x_222 : ck_Sum := ((0, 0, 0), 245, [.inr (.inr (.inl 224)), .inl (ck_one 0), .inl (1, 2, none)], ([], [], [(224, 3, 3, ck_one 3), (225, 0, 185, ck_one 0), (224, 1, 1, ck_one 6)]), ([], []), [(.inr (some (.inl (ck_one 0))), 245, ([], [], []))])
set_option maxRecDepth 100000 in
theorem p33x_222_e : ck_ok p1_O none [] [] 10 [] 114 p33x_222 = true := by decide +kernel
theorem p33x_222_s {X : Int → Int} {LX : Nat} : ck_Ok p1_O X LX 10 p33x_222 := ck_ok_s (ck_E0) ck_X0 ck_l0 p33x_222_e
set_option maxRecDepth 100000 in
def p33x_221 : ck_Sum := ((0, 0, 0), 245, [.inr (.inr (.inl 224)), .inl (ck_one 0), .inl (ck_one 0)], ([], [], [(224, 3, 3, ck_one 3), (225, 0, 185, ck_one 0), (224, 1, 1, ck_one 6)]), ([], []), [(.inr (some (.inl (ck_one 0))), 245, ([], [], []))])
set_option maxRecDepth 100000 in
theorem p33x_221_e : ck_ok p1_O none [] [] 10 [] 114 p33x_221 = true := by decide +kernel
theorem p33x_221_s {X : Int → Int} {LX : Nat} : ck_Ok p1_O X LX 10 p33x_221 := ck_ok_s (ck_E0) ck_X0 ck_l0 p33x_221_e
set_option maxRecDepth 100000 in
def p33x_215 : ck_Sum := ((0, 0, 0), 245, [.inr (.inr (.inl 224)), .inl (1, 2, none), .inl ((-1), 1, none)], ([], [], [(224, 3, 3, ck_one 3), (225, 0, 185, ck_one 0), (224, 1, 1, ck_one 6)]), ([], []), [(.inr (some (.inl (ck_one (-1)))), 245, ([], [], [])), (.inr (some (.inl (ck_one 0))), 245, ([], [], []))])
set_option maxRecDepth 100000 in
theorem p33x_215_e : ck_ok p1_O none [] [] 10 [] 114 p33x_215 = true := by decide +kernel
theorem p33x_215_s {X : Int → Int} {LX : Nat} : ck_Ok p1_O X LX 10 p33x_215 := ck_ok_s (ck_E0) ck_X0 ck_l0 p33x_215_e
set_option maxRecDepth 100000 in
def p33x_216 : ck_Sum := ((0, 0, 0), 245, [.inr (.inr (.inl 224)), .inl (1, 2, none), .inl (1, 3, none)], ([], [], [(224, 3, 3, ck_one 3), (225, 0, 185, ck_one 0), (224, 1, 1, ck_one 6)]), ([], []), [(.inr (some (.inl (ck_one 0))), 245, ([], [], []))])
set_option maxRecDepth 100000 in
theorem p33x_216_e : ck_ok p1_O none [] [] 10 [] 114 p33x_216 = true := by decide +kernel
theorem p33x_216_s {X : Int → Int} {LX : Nat} : ck_Ok p1_O X LX 10 p33x_216 := ck_ok_s (ck_E0) ck_X0 ck_l0 p33x_216_e
set_option maxRecDepth 100000 in
def p33x_217 : ck_Sum := ((0, 0, 0), 245, [.inr (.inr (.inl 224)), .inl (1, 2, none), .inl (0, 2, none)], ([], [], [(224, 3, 3, ck_one 3), (225, 0, 185, ck_one 0), (224, 1, 1, ck_one 6)]), ([], []), [(.inr (some (.inl (ck_one 0))), 245, ([], [], []))])
set_option maxRecDepth 100000 in
theorem p33x_217_e : ck_ok p1_O none [] [] 10 [] 114 p33x_217 = true := by decide +kernel
theorem p33x_217_s {X : Int → Int} {LX : Nat} : ck_Ok p1_O X LX 10 p33x_217 := ck_ok_s (ck_E0) ck_X0 ck_l0 p33x_217_e
set_option maxRecDepth 100000 in
def p33x_218 : ck_Sum := ((1, 0, 0), 245, [.inr (.inr (.inl 1)), .inl (1, 2, none), .inl (0, 2, none)], ([], [], [(224, 3, 3, ck_one 3), (225, 0, 185, ck_one 0), (224, 1, 1, ck_one 6)]), ([], []), [(.inr (some (.inl (ck_one 0))), 245, ([], [], []))])
set_option maxRecDepth 100000 in
theorem p33x_218_e : ck_ok p1_O none [] [(10, [p33x_215, p33x_216, p33x_217])] 216 [] 118 p33x_218 = true := by decide +kernel
theorem p33x_218_s {X : Int → Int} {LX : Nat} : ck_Ok p1_O X LX 216 p33x_218 := ck_ok_s (ck_E1 (ck_S1 p33x_215_s (ck_S1 p33x_216_s (ck_S1 p33x_217_s ck_S0))) ck_E0) ck_X0 ck_l0 p33x_218_e
set_option maxRecDepth 100000 in
def p33x_219 : ck_Sum := ((0, 0, 0), 245, [.inr (.inr (.inl 224)), .inl (0, 1, none), .inl (0, 2, none), .inl (ck_one 0)], ([], [], [(224, 3, 3, ck_one 3), (225, 0, 185, ck_one 0), (224, 1, 1, ck_one 6)]), ([(225, 0, 8)], []), [(.inr none, 245, ([], [], [(225, 0, 185, ck_one 0)]))])
set_option maxRecDepth 100000 in
theorem p33x_219_e : ck_ok p1_O none [] [] 45 [] 116 p33x_219 = true := by decide +kernel
theorem p33x_219_s {X : Int → Int} {LX : Nat} : ck_Ok p1_O X LX 45 p33x_219 := ck_ok_s (ck_E0) ck_X0 ck_l0 p33x_219_e
set_option maxRecDepth 100000 in
def p33x_223 : ck_Sum := ((3, 0, 0), 245, [.inr (.inr (.inl 1)), .inl (ck_one 2), .inl (ck_one 1)], ([], [], [(224, 1, 1, ck_one 6), (224, 0, 0, ck_one 31), (224, 3, 3, ck_one 0), (222, 1, 1, ck_one 6), (222, 0, 0, ck_one 30), (222, 3, 3, ck_one 0), (1, 15, 15, ck_one 0), (220, 0, 0, ck_one 24), (220, 3, 3, ck_one 0), (10, 3, 3, ck_one 0), (3, 0, 0, ck_one 3), (223, 0, 179, ck_one 0), (225, 0, 185, ck_one 0)]), ([(1, 15, 15), (220, 3, 3), (221, 0, 47), (222, 3, 3), (223, 0, 179), (224, 3, 3), (225, 0, 185)], []), [(.inr (some (.inl (ck_one 0))), 245, ([], [], [(224, 3, 3, ck_one 3), (222, 3, 3, ck_one 2), (1, 15, 15, ck_one 1), (220, 3, 3, ck_one 0), (223, 0, 179, ck_one 0), (225, 0, 185, ck_one 0)]))])
set_option maxRecDepth 100000 in
theorem p33x_223_e : ck_ok p1_O none [] [(214, [p33x_192]), (24, [p33x_148]), (215, [p33x_194]), (25, [p33x_195]), (10, [p33x_214, p33x_222, p33x_221]), (216, [p33x_218]), (45, [p33x_219])] 213 [(28, [some (.inr (.inr (.inl 1))), some (.inl (ck_one 2)), some (.inl (ck_one 1)), some (.inl ((-1), 1, none)), none], ([], [], [(224, 3, 3, ck_one 3), (225, 0, 185, ck_one 0), (222, 3, 3, ck_one 2), (223, 0, 179, ck_one 0), (1, 15, 15, ck_one 1), (220, 3, 3, ck_one 0), (224, 1, 1, ck_one 6), (224, 0, 0, ck_one 31), (222, 1, 1, ck_one 6), (222, 0, 0, ck_one 30), (220, 0, 0, ck_one 24), (10, 3, 3, ck_one 0), (3, 0, 0, ck_one 3)]), 100, .inl 3, false), (35, [some (.inr (.inr (.inl 1))), some (.inl (ck_one 2)), some (.inl (ck_one 1)), some (.inl (0, 1, some (100, 0))), some (.inl (0, 3, none))], ([], [], [(224, 3, 3, ck_one 3), (225, 0, 185, ck_one 0), (222, 3, 3, ck_one 2), (223, 0, 179, ck_one 0), (1, 15, 15, ck_one 1), (220, 3, 3, ck_one 0), (224, 1, 1, ck_one 6), (224, 0, 0, ck_one 31), (222, 1, 1, ck_one 6), (222, 0, 0, ck_one 30), (220, 0, 0, ck_one 24), (10, 3, 3, ck_one 0), (3, 0, 0, ck_one 3)]), 300, .inl 4, true), (94, [some (.inr (.inr (.inl 1))), some (.inl (ck_one 2)), some (.inl (ck_one 1)), some (.inl (ck_one 0)), some (.inl (1, 3, none))], ([], [], [(224, 3, 3, ck_one 3), (225, 0, 185, ck_one 0), (222, 3, 3, ck_one 2), (223, 0, 179, ck_one 0), (1, 15, 15, ck_one 1), (220, 3, 3, ck_one 0), (224, 1, 1, ck_one 6), (224, 0, 0, ck_one 31), (222, 1, 1, ck_one 6), (222, 0, 0, ck_one 30), (220, 0, 0, ck_one 24), (10, 3, 3, ck_one 0), (3, 0, 0, ck_one 3)]), 500, .inl 4, true)] 330 p33x_223 = true := by decide +kernel
theorem p33x_223_s {X : Int → Int} {LX : Nat} : ck_Ok p1_O X LX 213 p33x_223 := ck_ok_s (ck_E1 (ck_S1 p33x_192_s ck_S0) (ck_E1 (ck_S1 p33x_148_s ck_S0) (ck_E1 (ck_S1 p33x_194_s ck_S0) (ck_E1 (ck_S1 p33x_195_s ck_S0) (ck_E1 (ck_S1 p33x_214_s (ck_S1 p33x_222_s (ck_S1 p33x_221_s ck_S0))) (ck_E1 (ck_S1 p33x_218_s ck_S0) (ck_E1 (ck_S1 p33x_219_s ck_S0) ck_E0))))))) ck_X0 ck_l0 p33x_223_e
set_option maxRecDepth 100000 in
def p33x_224 : ck_Sum := ((4, 0, 0), 245, [.inr (.inr (.inl 1)), .inl (ck_one 2), .inl (ck_one 1), .inr (.inr (.inl 245))], ([], [], [(224, 1, 1, ck_one 6), (224, 0, 0, ck_one 31), (224, 3, 3, ck_one 0), (222, 1, 1, ck_one 6), (222, 0, 0, ck_one 30), (222, 3, 3, ck_one 0), (1, 15, 15, ck_one 0), (220, 0, 0, ck_one 24), (220, 3, 3, ck_one 0), (10, 3, 3, ck_one 0), (3, 0, 0, ck_one 3), (223, 0, 179, ck_one 0), (225, 0, 185, ck_one 0)]), ([(1, 15, 15), (220, 3, 3), (221, 0, 47), (222, 3, 3), (223, 0, 179), (224, 3, 3), (225, 0, 185), (245, 0, 0)], []), [(.inr (some (.inl (ck_one 0))), 245, ([], [], [(245, 0, 0, ck_one 0), (224, 3, 3, ck_one 3), (222, 3, 3, ck_one 2), (1, 15, 15, ck_one 1), (220, 3, 3, ck_one 0), (223, 0, 179, ck_one 0), (225, 0, 185, ck_one 0)]))])
set_option maxRecDepth 100000 in
theorem p33x_224_e : ck_ok p1_O none [] [(213, [p33x_223])] 212 [] 92 p33x_224 = true := by decide +kernel
theorem p33x_224_s {X : Int → Int} {LX : Nat} : ck_Ok p1_O X LX 212 p33x_224 := ck_ok_s (ck_E1 (ck_S1 p33x_223_s ck_S0) ck_E0) ck_X0 ck_l0 p33x_224_e
set_option maxRecDepth 100000 in
def p33x_232 : ck_Sum := ((3, 0, 0), 245, [.inr (.inr (.inl 1)), .inl (ck_one 2), .inl (ck_one 0)], ([], [], [(224, 1, 1, ck_one 6), (224, 0, 0, ck_one 31), (224, 3, 3, ck_one 0), (222, 1, 1, ck_one 6), (222, 0, 0, ck_one 30), (222, 3, 3, ck_one 0), (1, 15, 15, ck_one 0), (220, 0, 0, ck_one 24), (220, 3, 3, ck_one 0), (10, 3, 3, ck_one 0), (3, 0, 0, ck_one 3), (223, 0, 179, ck_one 0), (225, 0, 185, ck_one 0)]), ([(1, 15, 15), (220, 3, 3), (221, 0, 47), (222, 3, 3), (223, 0, 179), (224, 3, 3), (225, 0, 185)], []), [(.inr (some (.inl (ck_one 0))), 245, ([], [], [(224, 3, 3, ck_one 3), (222, 3, 3, ck_one 2), (1, 15, 15, ck_one 1), (220, 3, 3, ck_one 0), (223, 0, 179, ck_one 0), (225, 0, 185, ck_one 0)]))])
set_option maxRecDepth 100000 in
theorem p33x_232_e : ck_ok p1_O none [] [(214, [p33x_192]), (24, [p33x_148]), (215, [p33x_194]), (25, [p33x_195]), (10, [p33x_214, p33x_221, p33x_222]), (216, [p33x_218]), (45, [p33x_219])] 213 [(28, [some (.inr (.inr (.inl 1))), some (.inl (ck_one 2)), some (.inl (ck_one 0)), some (.inl ((-1), 1, none)), none], ([], [], [(224, 3, 3, ck_one 3), (225, 0, 185, ck_one 0), (222, 3, 3, ck_one 2), (223, 0, 179, ck_one 0), (1, 15, 15, ck_one 1), (220, 3, 3, ck_one 0), (224, 1, 1, ck_one 6), (224, 0, 0, ck_one 31), (222, 1, 1, ck_one 6), (222, 0, 0, ck_one 30), (220, 0, 0, ck_one 24), (10, 3, 3, ck_one 0), (3, 0, 0, ck_one 3)]), 100, .inl 3, false), (35, [some (.inr (.inr (.inl 1))), some (.inl (ck_one 2)), some (.inl (ck_one 0)), some (.inl (0, 1, some (100, 0))), some (.inl (0, 3, none))], ([], [], [(224, 3, 3, ck_one 3), (225, 0, 185, ck_one 0), (222, 3, 3, ck_one 2), (223, 0, 179, ck_one 0), (1, 15, 15, ck_one 1), (220, 3, 3, ck_one 0), (224, 1, 1, ck_one 6), (224, 0, 0, ck_one 31), (222, 1, 1, ck_one 6), (222, 0, 0, ck_one 30), (220, 0, 0, ck_one 24), (10, 3, 3, ck_one 0), (3, 0, 0, ck_one 3)]), 300, .inl 4, true), (94, [some (.inr (.inr (.inl 1))), some (.inl (ck_one 2)), some (.inl (ck_one 0)), some (.inl (ck_one 0)), some (.inl (1, 3, none))], ([], [], [(224, 3, 3, ck_one 3), (225, 0, 185, ck_one 0), (222, 3, 3, ck_one 2), (223, 0, 179, ck_one 0), (1, 15, 15, ck_one 1), (220, 3, 3, ck_one 0), (224, 1, 1, ck_one 6), (224, 0, 0, ck_one 31), (222, 1, 1, ck_one 6), (222, 0, 0, ck_one 30), (220, 0, 0, ck_one 24), (10, 3, 3, ck_one 0), (3, 0, 0, ck_one 3)]), 500, .inl 4, true)] 330 p33x_232 = true := by decide +kernel
theorem p33x_232_s {X : Int → Int} {LX : Nat} : ck_Ok p1_O X LX 213 p33x_232 := ck_ok_s (ck_E1 (ck_S1 p33x_192_s ck_S0) (ck_E1 (ck_S1 p33x_148_s ck_S0) (ck_E1 (ck_S1 p33x_194_s ck_S0) (ck_E1 (ck_S1 p33x_195_s ck_S0) (ck_E1 (ck_S1 p33x_214_s (ck_S1 p33x_221_s (ck_S1 p33x_222_s ck_S0))) (ck_E1 (ck_S1 p33x_218_s ck_S0) (ck_E1 (ck_S1 p33x_219_s ck_S0) ck_E0))))))) ck_X0 ck_l0 p33x_232_e
set_option maxRecDepth 100000 in
def p33x_233 : ck_Sum := ((4, 0, 0), 245, [.inr (.inr (.inl 1)), .inl (ck_one 2), .inl (ck_one 0), .inr (.inr (.inl 245))], ([], [], [(224, 1, 1, ck_one 6), (224, 0, 0, ck_one 31), (224, 3, 3, ck_one 0), (222, 1, 1, ck_one 6), (222, 0, 0, ck_one 30), (222, 3, 3, ck_one 0), (1, 15, 15, ck_one 0), (220, 0, 0, ck_one 24), (220, 3, 3, ck_one 0), (10, 3, 3, ck_one 0), (3, 0, 0, ck_one 3), (223, 0, 179, ck_one 0), (225, 0, 185, ck_one 0)]), ([(1, 15, 15), (220, 3, 3), (221, 0, 47), (222, 3, 3), (223, 0, 179), (224, 3, 3), (225, 0, 185), (245, 0, 0)], []), [(.inr (some (.inl (ck_one 0))), 245, ([], [], [(245, 0, 0, ck_one 0), (224, 3, 3, ck_one 3), (222, 3, 3, ck_one 2), (1, 15, 15, ck_one 1), (220, 3, 3, ck_one 0), (223, 0, 179, ck_one 0), (225, 0, 185, ck_one 0)]))])
set_option maxRecDepth 100000 in
theorem p33x_233_e : ck_ok p1_O none [] [(213, [p33x_232])] 212 [] 92 p33x_233 = true := by decide +kernel
theorem p33x_233_s {X : Int → Int} {LX : Nat} : ck_Ok p1_O X LX 212 p33x_233 := ck_ok_s (ck_E1 (ck_S1 p33x_232_s ck_S0) ck_E0) ck_X0 ck_l0 p33x_233_e
set_option maxRecDepth 100000 in
def p33x_235 : ck_Sum := ((0, 0, 0), 245, [.inr (.inr (.inl 1)), .inl (ck_one 3)], ([], [], []), ([], []), [(.inr none, 245, ([], [], []))])
set_option maxRecDepth 100000 in
theorem p33x_235_e : ck_ok p1_O none [] [] 214 [] 84 p33x_235 = true := by decide +kernel
theorem p33x_235_s {X : Int → Int} {LX : Nat} : ck_Ok p1_O X LX 214 p33x_235 := ck_ok_s (ck_E0) ck_X0 ck_l0 p33x_235_e
set_option maxRecDepth 100000 in
def p33x_236 : ck_Sum := ((1, 0, 0), 245, [.inr (.inr (.inl 222)), .inl (ck_one 3)], ([], [], [(222, 0, 0, ck_one 30), (223, 0, 179, ck_one 0)]), ([(222, 3, 3), (223, 0, 179)], []), [(.inr none, 245, ([], [], [(222, 3, 3, ck_one 3), (223, 0, 179, ck_one 0)]))])
set_option maxRecDepth 100000 in
theorem p33x_236_e : ck_ok p1_O none [] [(8, [p33x_149])] 25 [] 96 p33x_236 = true := by decide +kernel
theorem p33x_236_s {X : Int → Int} {LX : Nat} : ck_Ok p1_O X LX 25 p33x_236 := ck_ok_s (ck_E1 (ck_S1 p33x_149_s ck_S0) ck_E0) ck_X0 ck_l0 p33x_236_e
set_option maxRecDepth 100000 in
def p33x_237 : ck_Sum := ((2, 0, 0), 245, [.inr (.inr (.inl 1)), .inl (ck_one 3)], ([], [], [(220, 3, 3, ck_one 0), (222, 0, 0, ck_one 30), (222, 3, 3, ck_one 0), (223, 0, 179, ck_one 0)]), ([(222, 3, 3), (223, 0, 179)], []), [(.inr none, 245, ([], [], [(222, 3, 3, ck_one 3), (223, 0, 179, ck_one 0)]))])
set_option maxRecDepth 100000 in
theorem p33x_237_e : ck_ok p1_O none [] [(25, [p33x_236]), (9, [p33x_147])] 215 [(10, [some (.inr (.inr (.inl 1))), some (.inl (ck_one 3)), some (.inl (ck_one 0)), none, none], ([], [], [(222, 3, 3, ck_one 3), (223, 0, 179, ck_one 0), (220, 3, 3, ck_one 0), (222, 0, 0, ck_one 30)]), 100, .inl 2, true)] 118 p33x_237 = true := by decide +kernel
theorem p33x_237_s {X : Int → Int} {LX : Nat} : ck_Ok p1_O X LX 215 p33x_237 := ck_ok_s (ck_E1 (ck_S1 p33x_236_s ck_S0) (ck_E1 (ck_S1 p33x_147_s ck_S0) ck_E0)) ck_X0 ck_l0 p33x_237_e
set_option maxRecDepth 100000 in
def p33x_238 : ck_Sum := ((1, 0, 0), 245, [.inr (.inr (.inl 224)), .inl (ck_one 4)], ([], [], [(224, 0, 0, ck_one 31), (225, 0, 185, ck_one 0)]), ([(224, 3, 3), (225, 0, 185)], []), [(.inr none, 245, ([], [], [(224, 3, 3, ck_one 4), (225, 0, 185, ck_one 0)]))])
set_option maxRecDepth 100000 in
theorem p33x_238_e : ck_ok p1_O none [] [(8, [p33x_152])] 25 [] 96 p33x_238 = true := by decide +kernel
theorem p33x_238_s {X : Int → Int} {LX : Nat} : ck_Ok p1_O X LX 25 p33x_238 := ck_ok_s (ck_E1 (ck_S1 p33x_152_s ck_S0) ck_E0) ck_X0 ck_l0 p33x_238_e
set_option maxRecDepth 100000 in
def p33x_263 : ck_Sum := ((0, 0, 0), 245, [.inr (.inr (.inl 222)), .inl (0, 2, none), .inl (0, 2, none)], ([], [], [(222, 3, 3, ck_one 3), (223, 0, 179, ck_one 0), (222, 1, 1, ck_one 6)]), ([], []), [(.inr (some (.inl (ck_one 0))), 245, ([], [], []))])
set_option maxRecDepth 100000 in
theorem p33x_263_e : ck_ok p1_O none [] [] 10 [] 114 p33x_263 = true := by decide +kernel
theorem p33x_263_s {X : Int → Int} {LX : Nat} : ck_Ok p1_O X LX 10 p33x_263 := ck_ok_s (ck_E0) ck_X0 ck_l0 p33x_263_e
set_option maxRecDepth 100000 in
def p33x_271 : ck_Sum := ((0, 0, 0), 245, [.inr (.inr (.inl 224)), .inl (ck_one 0), .inl (1, 2, none)], ([], [], [(224, 3, 3, ck_one 4), (225, 0, 185, ck_one 0), (224, 1, 1, ck_one 6)]), ([], []), [(.inr (some (.inl (ck_one 0))), 245, ([], [], []))])
set_option maxRecDepth 100000 in
theorem p33x_271_e : ck_ok p1_O none [] [] 10 [] 114 p33x_271 = true := by decide +kernel
theorem p33x_271_s {X : Int → Int} {LX : Nat} : ck_Ok p1_O X LX 10 p33x_271 := ck_ok_s (ck_E0) ck_X0 ck_l0 p33x_271_e
set_option maxRecDepth 100000 in
def p33x_270 : ck_Sum := ((0, 0, 0), 245, [.inr (.inr (.inl 224)), .inl (ck_one 0), .inl (ck_one 0)], ([], [], [(224, 3, 3, ck_one 4), (225, 0, 185, ck_one 0), (224, 1, 1, ck_one 6)]), ([], []), [(.inr (some (.inl (ck_one 0))), 245, ([], [], []))])
set_option maxRecDepth 100000 in
theorem p33x_270_e : ck_ok p1_O none [] [] 10 [] 114 p33x_270 = true := by decide +kernel
theorem p33x_270_s {X : Int → Int} {LX : Nat} : ck_Ok p1_O X LX 10 p33x_270 := ck_ok_s (ck_E0) ck_X0 ck_l0 p33x_270_e
set_option maxRecDepth 100000 in
def p33x_264 : ck_Sum := ((0, 0, 0), 245, [.inr (.inr (.inl 224)), .inl (1, 3, none), .inl ((-1), 1, none)], ([], [], [(224, 3, 3, ck_one 4), (225, 0, 185, ck_one 0), (224, 1, 1, ck_one 6)]), ([], []), [(.inr (some (.inl (ck_one (-1)))), 245, ([], [], [])), (.inr (some (.inl (ck_one 0))), 245, ([], [], []))])
set_option maxRecDepth 100000 in
theorem p33x_264_e : ck_ok p1_O none [] [] 10 [] 114 p33x_264 = true := by decide +kernel
theorem p33x_264_s {X : Int → Int} {LX : Nat} : ck_Ok p1_O X LX 10 p33x_264 := ck_ok_s (ck_E0) ck_X0 ck_l0 p33x_264_e
set_option maxRecDepth 100000 in
def p33x_265 : ck_Sum := ((0, 0, 0), 245, [.inr (.inr (.inl 224)), .inl (1, 3, none), .inl (1, 3, none)], ([], [], [(224, 3, 3, ck_one 4), (225, 0, 185, ck_one 0), (224, 1, 1, ck_one 6)]), ([], []), [(.inr (some (.inl (ck_one 0))), 245, ([], [], []))])
set_option maxRecDepth 100000 in
theorem p33x_265_e : ck_ok p1_O none [] [] 10 [] 114 p33x_265 = true := by decide +kernel
theorem p33x_265_s {X : Int → Int} {LX : Nat} : ck_Ok p1_O X LX 10 p33x_265 := ck_ok_s (ck_E0) ck_X0 ck_l0 p33x_265_e
set_option maxRecDepth 100000 in
def p33x_266 : ck_Sum := ((0, 0, 0), 245, [.inr (.inr (.inl 224)), .inl (1, 3, none), .inl (0, 2, none)], ([], [], [(224, 3, 3, ck_one 4), (225, 0, 185, ck_one 0), (224, 1, 1, ck_one 6)]), ([], []), [(.inr (some (.inl (ck_one 0))), 245, ([], [], []))])
set_option maxRecDepth 100000 in
theorem p33x_266_e : ck_ok p1_O none [] [] 10 [] 114 p33x_266 = true := by decide +kernel
theorem p33x_266_s {X : Int → Int} {LX : Nat} : ck_Ok p1_O X LX 10 p33x_266 := ck_ok_s (ck_E0) ck_X0 ck_l0 p33x_266_e
set_option maxRecDepth 100000 in
def p33x_267 : ck_Sum := ((1, 0, 0), 245, [.inr (.inr (.inl 1)), .inl (1, 3, none), .inl (0, 2, none)], ([], [], [(224, 3, 3, ck_one 4), (225, 0, 185, ck_one 0), (224, 1, 1, ck_one 6)]), ([], []), [(.inr (some (.inl (ck_one 0))), 245, ([], [], []))])
set_option maxRecDepth 100000 in
theorem p33x_267_e : ck_ok p1_O none [] [(10, [p33x_264, p33x_265, p33x_266])] 216 [] 118 p33x_267 = true := by decide +kernel
theorem p33x_267_s {X : Int → Int} {LX : Nat} : ck_Ok p1_O X LX 216 p33x_267 := ck_ok_s (ck_E1 (ck_S1 p33x_264_s (ck_S1 p33x_265_s (ck_S1 p33x_266_s ck_S0))) ck_E0) ck_X0 ck_l0 p33x_267_e
set_option maxRecDepth 100000 in
def p33x_268 : ck_Sum := ((0, 0, 0), 245, [.inr (.inr (.inl 224)), .inl (0, 2, none), .inl (0, 2, none), .inl (ck_one 0)], ([], [], [(224, 3, 3, ck_one 4), (225, 0, 185, ck_one 0), (224, 1, 1, ck_one 6)]), ([(225, 0, 14)], []), [(.inr none, 245, ([], [], [(225, 0, 185, ck_one 0)]))])
set_option maxRecDepth 100000 in
theorem p33x_268_e : ck_ok p1_O none [] [] 45 [] 116 p33x_268 = true := by decide +kernel
theorem p33x_268_s {X : Int → Int} {LX : Nat} : ck_Ok p1_O X LX 45 p33x_268 := ck_ok_s (ck_E0) ck_X0 ck_l0 p33x_268_e
set_option maxRecDepth 100000 in
def p33x_272 : ck_Sum := ((3, 0, 0), 245, [.inr (.inr (.inl 1)), .inl (ck_one 3), .inl (ck_one 1)], ([], [], [(224, 1, 1, ck_one 6), (224, 0, 0, ck_one 31), (224, 3, 3, ck_one 0), (222, 1, 1, ck_one 6), (222, 0, 0, ck_one 30), (222, 3, 3, ck_one 0), (1, 15, 15, ck_one 0), (220, 0, 0, ck_one 24), (220, 3, 3, ck_one 0), (10, 3, 3, ck_one 0), (3, 0, 0, ck_one 3), (223, 0, 179, ck_one 0), (225, 0, 185, ck_one 0)]), ([(1, 15, 15), (220, 3, 3), (221, 0, 47), (222, 3, 3), (223, 0, 179), (224, 3, 3), (225, 0, 185)], []), [(.inr (some (.inl (ck_one 0))), 245, ([], [], [(224, 3, 3, ck_one 4), (222, 3, 3, ck_one 3), (1, 15, 15, ck_one 1), (220, 3, 3, ck_one 0), (223, 0, 179, ck_one 0), (225, 0, 185, ck_one 0)]))])
set_option maxRecDepth 100000 in
theorem p33x_272_e : ck_ok p1_O none [] [(214, [p33x_235]), (24, [p33x_148]), (215, [p33x_237]), (25, [p33x_238]), (10, [p33x_263, p33x_271, p33x_270]), (216, [p33x_267]), (45, [p33x_268])] 213 [(28, [some (.inr (.inr (.inl 1))), some (.inl (ck_one 3)), some (.inl (ck_one 1)), some (.inl ((-1), 2, none)), none], ([], [], [(224, 3, 3, ck_one 4), (225, 0, 185, ck_one 0), (222, 3, 3, ck_one 3), (223, 0, 179, ck_one 0), (1, 15, 15, ck_one 1), (220, 3, 3, ck_one 0), (224, 1, 1, ck_one 6), (224, 0, 0, ck_one 31), (222, 1, 1, ck_one 6), (222, 0, 0, ck_one 30), (220, 0, 0, ck_one 24), (10, 3, 3, ck_one 0), (3, 0, 0, ck_one 3)]), 100, .inl 3, false), (35, [some (.inr (.inr (.inl 1))), some (.inl (ck_one 3)), some (.inl (ck_one 1)), some (.inl (0, 2, some (100, 0))), some (.inl (0, 3, none))], ([], [], [(224, 3, 3, ck_one 4), (225, 0, 185, ck_one 0), (222, 3, 3, ck_one 3), (223, 0, 179, ck_one 0), (1, 15, 15, ck_one 1), (220, 3, 3, ck_one 0), (224, 1, 1, ck_one 6), (224, 0, 0, ck_one 31), (222, 1, 1, ck_one 6), (222, 0, 0, ck_one 30), (220, 0, 0, ck_one 24), (10, 3, 3, ck_one 0), (3, 0, 0, ck_one 3)]), 300, .inl 4, true), (94, [some (.inr (.inr (.inl 1))), some (.inl (ck_one 3)), some (.inl (ck_one 1)), some (.inl (ck_one 0)), some (.inl (1, 3, none))], ([], [], [(224, 3, 3, ck_one 4), (225, 0, 185, ck_one 0), (222, 3, 3, ck_one 3), (223, 0, 179, ck_one 0), (1, 15, 15, ck_one 1), (220, 3, 3, ck_one 0), (224, 1, 1, ck_one 6), (224, 0, 0, ck_one 31), (222, 1, 1, ck_one 6), (222, 0, 0, ck_one 30), (220, 0, 0, ck_one 24), (10, 3, 3, ck_one 0), (3, 0, 0, ck_one 3)]), 500, .inl 4, true)] 330 p33x_272 = true := by decide +kernel
theorem p33x_272_s {X : Int → Int} {LX : Nat} : ck_Ok p1_O X LX 213 p33x_272 := ck_ok_s (ck_E1 (ck_S1 p33x_235_s ck_S0) (ck_E1 (ck_S1 p33x_148_s ck_S0) (ck_E1 (ck_S1 p33x_237_s ck_S0) (ck_E1 (ck_S1 p33x_238_s ck_S0) (ck_E1 (ck_S1 p33x_263_s (ck_S1 p33x_271_s (ck_S1 p33x_270_s ck_S0))) (ck_E1 (ck_S1 p33x_267_s ck_S0) (ck_E1 (ck_S1 p33x_268_s ck_S0) ck_E0))))))) ck_X0 ck_l0 p33x_272_e
set_option maxRecDepth 100000 in
def p33x_273 : ck_Sum := ((4, 0, 0), 245, [.inr (.inr (.inl 1)), .inl (ck_one 3), .inl (ck_one 1), .inr (.inr (.inl 245))], ([], [], [(224, 1, 1, ck_one 6), (224, 0, 0, ck_one 31), (224, 3, 3, ck_one 0), (222, 1, 1, ck_one 6), (222, 0, 0, ck_one 30), (222, 3, 3, ck_one 0), (1, 15, 15, ck_one 0), (220, 0, 0, ck_one 24), (220, 3, 3, ck_one 0), (10, 3, 3, ck_one 0), (3, 0, 0, ck_one 3), (223, 0, 179, ck_one 0), (225, 0, 185, ck_one 0)]), ([(1, 15, 15), (220, 3, 3), (221, 0, 47), (222, 3, 3), (223, 0, 179), (224, 3, 3), (225, 0, 185), (245, 0, 0)], []), [(.inr (some (.inl (ck_one 0))), 245, ([], [], [(245, 0, 0, ck_one 0), (224, 3, 3, ck_one 4), (222, 3, 3, ck_one 3), (1, 15, 15, ck_one 1), (220, 3, 3, ck_one 0), (223, 0, 179, ck_one 0), (225, 0, 185, ck_one 0)]))])
set_option maxRecDepth 100000 in
theorem p33x_273_e : ck_ok p1_O none [] [(213, [p33x_272])] 212 [] 92 p33x_273 = true := by decide +kernel
theorem p33x_273_s {X : Int → Int} {LX : Nat} : ck_Ok p1_O X LX 212 p33x_273 := ck_ok_s (ck_E1 (ck_S1 p33x_272_s ck_S0) ck_E0) ck_X0 ck_l0 p33x_273_e
set_option maxRecDepth 100000 in
def p33x_283 : ck_Sum := ((3, 0, 0), 245, [.inr (.inr (.inl 1)), .inl (ck_one 3), .inl (ck_one 0)], ([], [], [(224, 1, 1, ck_one 6), (224, 0, 0, ck_one 31), (224, 3, 3, ck_one 0), (222, 1, 1, ck_one 6), (222, 0, 0, ck_one 30), (222, 3, 3, ck_one 0), (1, 15, 15, ck_one 0), (220, 0, 0, ck_one 24), (220, 3, 3, ck_one 0), (10, 3, 3, ck_one 0), (3, 0, 0, ck_one 3), (223, 0, 179, ck_one 0), (225, 0, 185, ck_one 0)]), ([(1, 15, 15), (220, 3, 3), (221, 0, 47), (222, 3, 3), (223, 0, 179), (224, 3, 3), (225, 0, 185)], []), [(.inr (some (.inl (ck_one 0))), 245, ([], [], [(224, 3, 3, ck_one 4), (222, 3, 3, ck_one 3), (1, 15, 15, ck_one 1), (220, 3, 3, ck_one 0), (223, 0, 179, ck_one 0), (225, 0, 185, ck_one 0)]))])
set_option maxRecDepth 100000 in
theorem p33x_283_e : ck_ok p1_O none [] [(214, [p33x_235]), (24, [p33x_148]), (215, [p33x_237]), (25, [p33x_238]), (10, [p33x_263, p33x_270, p33x_271]), (216, [p33x_267]), (45, [p33x_268])] 213 [(28, [some (.inr (.inr (.inl 1))), some (.inl (ck_one 3)), some (.inl (ck_one 0)), some (.inl ((-1), 2, none)), none], ([], [], [(224, 3, 3, ck_one 4), (225, 0, 185, ck_one 0), (222, 3, 3, ck_one 3), (223, 0, 179, ck_one 0), (1, 15, 15, ck_one 1), (220, 3, 3, ck_one 0), (224, 1, 1, ck_one 6), (224, 0, 0, ck_one 31), (222, 1, 1, ck_one 6), (222, 0, 0, ck_one 30), (220, 0, 0, ck_one 24), (10, 3, 3, ck_one 0), (3, 0, 0, ck_one 3)]), 100, .inl 3, false), (35, [some (.inr (.inr (.inl 1))), some (.inl (ck_one 3)), some (.inl (ck_one 0)), some (.inl (0, 2, some (100, 0))), some (.inl (0, 3, none))], ([], [], [(224, 3, 3, ck_one 4), (225, 0, 185, ck_one 0), (222, 3, 3, ck_one 3), (223, 0, 179, ck_one 0), (1, 15, 15, ck_one 1), (220, 3, 3, ck_one 0), (224, 1, 1, ck_one 6), (224, 0, 0, ck_one 31), (222, 1, 1, ck_one 6), (222, 0, 0, ck_one 30), (220, 0, 0, ck_one 24), (10, 3, 3, ck_one 0), (3, 0, 0, ck_one 3)]), 300, .inl 4, true), (94, [some (.inr (.inr (.inl 1))), some (.inl (ck_one 3)), some (.inl (ck_one 0)), some (.inl (ck_one 0)), some (.inl (1, 3, none))], ([], [], [(224, 3, 3, ck_one 4), (225, 0, 185, ck_one 0), (222, 3, 3, ck_one 3), (223, 0, 179, ck_one 0), (1, 15, 15, ck_one 1), (220, 3, 3, ck_one 0), (224, 1, 1, ck_one 6), (224, 0, 0, ck_one 31), (222, 1, 1, ck_one 6), (222, 0, 0, ck_one 30), (220, 0, 0, ck_one 24), (10, 3, 3, ck_one 0), (3, 0, 0, ck_one 3)]), 500, .inl 4, true)] 330 p33x_283 = true := by decide +kernel
theorem p33x_283_s {X : Int → Int} {LX : Nat} : ck_Ok p1_O X LX 213 p33x_283 := ck_ok_s (ck_E1 (ck_S1 p33x_235_s ck_S0) (ck_E1 (ck_S1 p33x_148_s ck_S0) (ck_E1 (ck_S1 p33x_237_s ck_S0) (ck_E1 (ck_S1 p33x_238_s ck_S0) (ck_E1 (ck_S1 p33x_263_s (ck_S1 p33x_270_s (ck_S1 p33x_271_s ck_S0))) (ck_E1 (ck_S1 p33x_267_s ck_S0) (ck_E1 (ck_S1 p33x_268_s ck_S0) ck_E0))))))) ck_X0 ck_l0 p33x_283_e
set_option maxRecDepth 100000 in
def p33x_284 : ck_Sum := ((4, 0, 0), 245, [.inr (.inr (.inl 1)), .inl (ck_one 3), .inl (ck_one 0), .inr (.inr (.inl 245))], ([], [], [(224, 1, 1, ck_one 6), (224, 0, 0, ck_one 31), (224, 3, 3, ck_one 0), (222, 1, 1, ck_one 6), (222, 0, 0, ck_one 30), (222, 3, 3, ck_one 0), (1, 15, 15, ck_one 0), (220, 0, 0, ck_one 24), (220, 3, 3, ck_one 0), (10, 3, 3, ck_one 0), (3, 0, 0, ck_one 3), (223, 0, 179, ck_one 0), (225, 0, 185, ck_one 0)]), ([(1, 15, 15), (220, 3, 3), (221, 0, 47), (222, 3, 3), (223, 0, 179), (224, 3, 3), (225, 0, 185), (245, 0, 0)], []), [(.inr (some (.inl (ck_one 0))), 245, ([], [], [(245, 0, 0, ck_one 0), (224, 3, 3, ck_one 4), (222, 3, 3, ck_one 3), (1, 15, 15, ck_one 1), (220, 3, 3, ck_one 0), (223, 0, 179, ck_one 0), (225, 0, 185, ck_one 0)]))])
set_option maxRecDepth 100000 in
theorem p33x_284_e : ck_ok p1_O none [] [(213, [p33x_283])] 212 [] 92 p33x_284 = true := by decide +kernel
theorem p33x_284_s {X : Int → Int} {LX : Nat} : ck_Ok p1_O X LX 212 p33x_284 := ck_ok_s (ck_E1 (ck_S1 p33x_283_s ck_S0) ck_E0) ck_X0 ck_l0 p33x_284_e
set_option maxRecDepth 100000 in
def p33x_286 : ck_Sum := ((0, 0, 0), 245, [.inr (.inr (.inl 1)), .inl (ck_one 4)], ([], [], []), ([], []), [(.inr none, 245, ([], [], []))])
set_option maxRecDepth 100000 in
theorem p33x_286_e : ck_ok p1_O none [] [] 214 [] 84 p33x_286 = true := by decide +kernel
theorem p33x_286_s {X : Int → Int} {LX : Nat} : ck_Ok p1_O X LX 214 p33x_286 := ck_ok_s (ck_E0) ck_X0 ck_l0 p33x_286_e
set_option maxRecDepth 100000 in
def p33x_287 : ck_Sum := ((1, 0, 0), 245, [.inr (.inr (.inl 222)), .inl (ck_one 4)], ([], [], [(222, 0, 0, ck_one 30), (223, 0, 179, ck_one 0)]), ([(222, 3, 3), (223, 0, 179)], []), [(.inr none, 245, ([], [], [(222, 3, 3, ck_one 4), (223, 0, 179, ck_one 0)]))])
set_option maxRecDepth 100000 in
theorem p33x_287_e : ck_ok p1_O none [] [(8, [p33x_149])] 25 [] 96 p33x_287 = true := by decide +kernel
theorem p33x_287_s {X : Int → Int} {LX : Nat} : ck_Ok p1_O X LX 25 p33x_287 := ck_ok_s (ck_E1 (ck_S1 p33x_149_s ck_S0) ck_E0) ck_X0 ck_l0 p33x_287_e
set_option maxRecDepth 100000 in
def p33x_288 : ck_Sum := ((2, 0, 0), 245, [.inr (.inr (.inl 1)), .inl (ck_one 4)], ([], [], [(220, 3, 3, ck_one 0), (222, 0, 0, ck_one 30), (222, 3, 3, ck_one 0), (223, 0, 179, ck_one 0)]), ([(222, 3, 3), (223, 0, 179)], []), [(.inr none, 245, ([], [], [(222, 3, 3, ck_one 4), (223, 0, 179, ck_one 0)]))])
set_option maxRecDepth 100000 in
theorem p33x_288_e : ck_ok p1_O none [] [(25, [p33x_287]), (9, [p33x_147])] 215 [(10, [some (.inr (.inr (.inl 1))), some (.inl (ck_one 4)), some (.inl (ck_one 0)), none, none], ([], [], [(222, 3, 3, ck_one 4), (223, 0, 179, ck_one 0), (220, 3, 3, ck_one 0), (222, 0, 0, ck_one 30)]), 100, .inl 2, true)] 118 p33x_288 = true := by decide +kernel
theorem p33x_288_s {X : Int → Int} {LX : Nat} : ck_Ok p1_O X LX 215 p33x_288 := ck_ok_s (ck_E1 (ck_S1 p33x_287_s ck_S0) (ck_E1 (ck_S1 p33x_147_s ck_S0) ck_E0)) ck_X0 ck_l0 p33x_288_e
set_option maxRecDepth 100000 in
def p33x_289 : ck_Sum := ((1, 0, 0), 245, [.inr (.inr (.inl 224)), .inl (ck_one 5)], ([], [], [(224, 0, 0, ck_one 31), (225, 0, 185, ck_one 0)]), ([(224, 3, 3), (225, 0, 185)], []), [(.inr none, 245, ([], [], [(224, 3, 3, ck_one 5), (225, 0, 185, ck_one 0)]))])
set_option maxRecDepth 100000 in
theorem p33x_289_e : ck_ok p1_O none [] [(8, [p33x_152])] 25 [] 96 p33x_289 = true := by decide +kernel
theorem p33x_289_s {X : Int → Int} {LX : Nat} : ck_Ok p1_O X LX 25 p33x_289 := ck_ok_s (ck_E1 (ck_S1 p33x_152_s ck_S0) ck_E0) ck_X0 ck_l0 p33x_289_e
set_option maxRecDepth 100000 in
def p33x_320 : ck_Sum := ((0, 0, 0), 245, [.inr (.inr (.inl 222)), .inl (0, 3, none), .inl (0, 2, none)], ([], [], [(222, 3, 3, ck_one 4), (223, 0, 179, ck_one 0), (222, 1, 1, ck_one 6)]), ([], []), [(.inr (some (.inl (ck_one 0))), 245, ([], [], []))])
set_option maxRecDepth 100000 in
theorem p33x_320_e : ck_ok p1_O none [] [] 10 [] 114 p33x_320 = true := by decide +kernel
theorem p33x_320_s {X : Int → Int} {LX : Nat} : ck_Ok p1_O X LX 10 p33x_320 := ck_ok_s (ck_E0) ck_X0 ck_l0 p33x_320_e
set_option maxRecDepth 100000 in
def p33x_328 : ck_Sum := ((0, 0, 0), 245, [.inr (.inr (.inl 224)), .inl (ck_one 0), .inl (1, 2, none)], ([], [], [(224, 3, 3, ck_one 5), (225, 0, 185, ck_one 0), (224, 1, 1, ck_one 6)]), ([], []), [(.inr (some (.inl (ck_one 0))), 245, ([], [], []))])
set_option maxRecDepth 100000 in
theorem p33x_328_e : ck_ok p1_O none [] [] 10 [] 114 p33x_328 = true := by decide +kernel
theorem p33x_328_s {X : Int → Int} {LX : Nat} : ck_Ok p1_O X LX 10 p33x_328 := ck_ok_s (ck_E0) ck_X0 ck_l0 p33x_328_e
set_option maxRecDepth 100000 in
def p33x_327 : ck_Sum := ((0, 0, 0), 245, [.inr (.inr (.inl 224)), .inl (ck_one 0), .inl (ck_one 0)], ([], [], [(224, 3, 3, ck_one 5), (225, 0, 185, ck_one 0), (224, 1, 1, ck_one 6)]), ([], []), [(.inr (some (.inl (ck_one 0))), 245, ([], [], []))])
set_option maxRecDepth 100000 in
theorem p33x_327_e : ck_ok p1_O none [] [] 10 [] 114 p33x_327 = true := by decide +kernel
theorem p33x_327_s {X : Int → Int} {LX : Nat} : ck_Ok p1_O X LX 10 p33x_327 := ck_ok_s (ck_E0) ck_X0 ck_l0 p33x_327_e
set_option maxRecDepth 100000 in
def p33x_321 : ck_Sum := ((0, 0, 0), 245, [.inr (.inr (.inl 224)), .inl (1, 4, none), .inl ((-1), 1, none)], ([], [], [(224, 3, 3, ck_one 5), (225, 0, 185, ck_one 0), (224, 1, 1, ck_one 6)]), ([], []), [(.inr (some (.inl (ck_one (-1)))), 245, ([], [], [])), (.inr (some (.inl (ck_one 0))), 245, ([], [], []))])
set_option maxRecDepth 100000 in
theorem p33x_321_e : ck_ok p1_O none [] [] 10 [] 114 p33x_321 = true := by decide +kernel
theorem p33x_321_s {X : Int → Int} {LX : Nat} : ck_Ok p1_O X LX 10 p33x_321 := ck_ok_s (ck_E0) ck_X0 ck_l0 p33x_321_e
set_option maxRecDepth 100000 in
def p33x_322 : ck_Sum := ((0, 0, 0), 245, [.inr (.inr (.inl 224)), .inl (1, 4, none), .inl (1, 3, none)], ([], [], [(224, 3, 3, ck_one 5), (225, 0, 185, ck_one 0), (224, 1, 1, ck_one 6)]), ([], []), [(.inr (some (.inl (ck_one 0))), 245, ([], [], []))])
set_option maxRecDepth 100000 in
theorem p33x_322_e : ck_ok p1_O none [] [] 10 [] 114 p33x_322 = true := by decide +kernel
theorem p33x_322_s {X : Int → Int} {LX : Nat} : ck_Ok p1_O X LX 10 p33x_322 := ck_ok_s (ck_E0) ck_X0 ck_l0 p33x_322_e
set_option maxRecDepth 100000 in
def p33x_323 : ck_Sum := ((0, 0, 0), 245, [.inr (.inr (.inl 224)), .inl (1, 4, none), .inl (0, 2, none)], ([], [], [(224, 3, 3, ck_one 5), (225, 0, 185, ck_one 0), (224, 1, 1, ck_one 6)]), ([], []), [(.inr (some (.inl (ck_one 0))), 245, ([], [], []))])
set_option maxRecDepth 100000 in
theorem p33x_323_e : ck_ok p1_O none [] [] 10 [] 114 p33x_323 = true := by decide +kernel
theorem p33x_323_s {X : Int → Int} {LX : Nat} : ck_Ok p1_O X LX 10 p33x_323 := ck_ok_s (ck_E0) ck_X0 ck_l0 p33x_323_e
set_option maxRecDepth 100000 in
def p33x_324 : ck_Sum := ((1, 0, 0), 245, [.inr (.inr (.inl 1)), .inl (1, 4, none), .inl (0, 2, none)], ([], [], [(224, 3, 3, ck_one 5), (225, 0, 185, ck_one 0), (224, 1, 1, ck_one 6)]), ([], []), [(.inr (some (.inl (ck_one 0))), 245, ([], [], []))])
set_option maxRecDepth 100000 in
theorem p33x_324_e : ck_ok p1_O none [] [(10, [p33x_321, p33x_322, p33x_323])] 216 [] 118 p33x_324 = true := by decide +kernel
theorem p33x_324_s {X : Int → Int} {LX : Nat} : ck_Ok p1_O X LX 216 p33x_324 := ck_ok_s (ck_E1 (ck_S1 p33x_321_s (ck_S1 p33x_322_s (ck_S1 p33x_323_s ck_S0))) ck_E0) ck_X0 ck_l0 p33x_324_e
set_option maxRecDepth 100000 in
def p33x_325 : ck_Sum := ((0, 0, 0), 245, [.inr (.inr (.inl 224)), .inl (0, 3, none), .inl (0, 2, none), .inl (ck_one 0)], ([], [], [(224, 3, 3, ck_one 5), (225, 0, 185, ck_one 0), (224, 1, 1, ck_one 6)]), ([(225, 0, 20)], []), [(.inr none, 245, ([], [], [(225, 0, 185, ck_one 0)]))])
set_option maxRecDepth 100000 in
theorem p33x_325_e : ck_ok p1_O none [] [] 45 [] 116 p33x_325 = true := by decide +kernel
theorem p33x_325_s {X : Int → Int} {LX : Nat} : ck_Ok p1_O X LX 45 p33x_325 := ck_ok_s (ck_E0) ck_X0 ck_l0 p33x_325_e
set_option maxRecDepth 100000 in
def p33x_329 : ck_Sum := ((3, 0, 0), 245, [.inr (.inr (.inl 1)), .inl (ck_one 4), .inl (ck_one 1)], ([], [], [(224, 1, 1, ck_one 6), (224, 0, 0, ck_one 31), (224, 3, 3, ck_one 0), (222, 1, 1, ck_one 6), (222, 0, 0, ck_one 30), (222, 3, 3, ck_one 0), (1, 15, 15, ck_one 0), (220, 0, 0, ck_one 24), (220, 3, 3, ck_one 0), (10, 3, 3, ck_one 0), (3, 0, 0, ck_one 3), (223, 0, 179, ck_one 0), (225, 0, 185, ck_one 0)]), ([(1, 15, 15), (220, 3, 3), (221, 0, 47), (222, 3, 3), (223, 0, 179), (224, 3, 3), (225, 0, 185)], []), [(.inr (some (.inl (ck_one 0))), 245, ([], [], [(224, 3, 3, ck_one 5), (222, 3, 3, ck_one 4), (1, 15, 15, ck_one 1), (220, 3, 3, ck_one 0), (223, 0, 179, ck_one 0), (225, 0, 185, ck_one 0)]))])
set_option maxRecDepth 100000 in
theorem p33x_329_e : ck_ok p1_O none [] [(214, [p33x_286]), (24, [p33x_148]), (215, [p33x_288]), (25, [p33x_289]), (10, [p33x_320, p33x_328, p33x_327]), (216, [p33x_324]), (45, [p33x_325])] 213 [(28, [some (.inr (.inr (.inl 1))), some (.inl (ck_one 4)), some (.inl (ck_one 1)), some (.inl ((-1), 3, none)), none], ([], [], [(224, 3, 3, ck_one 5), (225, 0, 185, ck_one 0), (222, 3, 3, ck_one 4), (223, 0, 179, ck_one 0), (1, 15, 15, ck_one 1), (220, 3, 3, ck_one 0), (224, 1, 1, ck_one 6), (224, 0, 0, ck_one 31), (222, 1, 1, ck_one 6), (222, 0, 0, ck_one 30), (220, 0, 0, ck_one 24), (10, 3, 3, ck_one 0), (3, 0, 0, ck_one 3)]), 100, .inl 3, false), (35, [some (.inr (.inr (.inl 1))), some (.inl (ck_one 4)), some (.inl (ck_one 1)), some (.inl (0, 3, some (100, 0))), some (.inl (0, 3, none))], ([], [], [(224, 3, 3, ck_one 5), (225, 0, 185, ck_one 0), (222, 3, 3, ck_one 4), (223, 0, 179, ck_one 0), (1, 15, 15, ck_one 1), (220, 3, 3, ck_one 0), (224, 1, 1, ck_one 6), (224, 0, 0, ck_one 31), (222, 1, 1, ck_one 6), (222, 0, 0, ck_one 30), (220, 0, 0, ck_one 24), (10, 3, 3, ck_one 0), (3, 0, 0, ck_one 3)]), 300, .inl 4, true), (94, [some (.inr (.inr (.inl 1))), some (.inl (ck_one 4)), some (.inl (ck_one 1)), some (.inl (ck_one 0)), some (.inl (1, 3, none))], ([], [], [(224, 3, 3, ck_one 5), (225, 0, 185, ck_one 0), (222, 3, 3, ck_one 4), (223, 0, 179, ck_one 0), (1, 15, 15, ck_one 1), (220, 3, 3, ck_one 0), (224, 1, 1, ck_one 6), (224, 0, 0, ck_one 31), (222, 1, 1, ck_one 6), (222, 0, 0, ck_one 30), (220, 0, 0, ck_one 24), (10, 3, 3, ck_one 0), (3, 0, 0, ck_one 3)]), 500, .inl 4, true)] 330 p33x_329 = true := by decide +kernel
theorem p33x_329_s {X : Int → Int} {LX : Nat} : ck_Ok p1_O X LX 213 p33x_329 := ck_ok_s (ck_E1 (ck_S1 p33x_286_s ck_S0) (ck_E1 (ck_S1 p33x_148_s ck_S0) (ck_E1 (ck_S1 p33x_288_s ck_S0) (ck_E1 (ck_S1 p33x_289_s ck_S0) (ck_E1 (ck_S1 p33x_320_s (ck_S1 p33x_328_s (ck_S1 p33x_327_s ck_S0))) (ck_E1 (ck_S1 p33x_324_s ck_S0) (ck_E1 (ck_S1 p33x_325_s ck_S0) ck_E0))))))) ck_X0 ck_l0 p33x_329_e
set_option maxRecDepth 100000 in
def p33x_330 : ck_Sum := ((4, 0, 0), 245, [.inr (.inr (.inl 1)), .inl (ck_one 4), .inl (ck_one 1), .inr (.inr (.inl 245))], ([], [], [(224, 1, 1, ck_one 6), (224, 0, 0, ck_one 31), (224, 3, 3, ck_one 0), (222, 1, 1, ck_one 6), (222, 0, 0, ck_one 30), (222, 3, 3, ck_one 0), (1, 15, 15, ck_one 0), (220, 0, 0, ck_one 24), (220, 3, 3, ck_one 0), (10, 3, 3, ck_one 0), (3, 0, 0, ck_one 3), (223, 0, 179, ck_one 0), (225, 0, 185, ck_one 0)]), ([(1, 15, 15), (220, 3, 3), (221, 0, 47), (222, 3, 3), (223, 0, 179), (224, 3, 3), (225, 0, 185), (245, 0, 0)], []), [(.inr (some (.inl (ck_one 0))), 245, ([], [], [(245, 0, 0, ck_one 0), (224, 3, 3, ck_one 5), (222, 3, 3, ck_one 4), (1, 15, 15, ck_one 1), (220, 3, 3, ck_one 0), (223, 0, 179, ck_one 0), (225, 0, 185, ck_one 0)]))])
set_option maxRecDepth 100000 in
theorem p33x_330_e : ck_ok p1_O none [] [(213, [p33x_329])] 212 [] 92 p33x_330 = true := by decide +kernel
theorem p33x_330_s {X : Int → Int} {LX : Nat} : ck_Ok p1_O X LX 212 p33x_330 := ck_ok_s (ck_E1 (ck_S1 p33x_329_s ck_S0) ck_E0) ck_X0 ck_l0 p33x_330_e
set_option maxRecDepth 100000 in
def p33x_342 : ck_Sum := ((3, 0, 0), 245, [.inr (.inr (.inl 1)), .inl (ck_one 4), .inl (ck_one 0)], ([], [], [(224, 1, 1, ck_one 6), (224, 0, 0, ck_one 31), (224, 3, 3, ck_one 0), (222, 1, 1, ck_one 6), (222, 0, 0, ck_one 30), (222, 3, 3, ck_one 0), (1, 15, 15, ck_one 0), (220, 0, 0, ck_one 24), (220, 3, 3, ck_one 0), (10, 3, 3, ck_one 0), (3, 0, 0, ck_one 3), (223, 0, 179, ck_one 0), (225, 0, 185, ck_one 0)]), ([(1, 15, 15), (220, 3, 3), (221, 0, 47), (222, 3, 3), (223, 0, 179), (224, 3, 3), (225, 0, 185)], []), [(.inr (some (.inl (ck_one 0))), 245, ([], [], [(224, 3, 3, ck_one 5), (222, 3, 3, ck_one 4), (1, 15, 15, ck_one 1), (220, 3, 3, ck_one 0), (223, 0, 179, ck_one 0), (225, 0, 185, ck_one 0)]))])
set_option maxRecDepth 100000 in
theorem p33x_342_e : ck_ok p1_O none [] [(214, [p33x_286]), (24, [p33x_148]), (215, [p33x_288]), (25, [p33x_289]), (10, [p33x_320, p33x_327, p33x_328]), (216, [p33x_324]), (45, [p33x_325])] 213 [(28, [some (.inr (.inr (.inl 1))), some (.inl (ck_one 4)), some (.inl (ck_one 0)), some (.inl ((-1), 3, none)), none], ([], [], [(224, 3, 3, ck_one 5), (225, 0, 185, ck_one 0), (222, 3, 3, ck_one 4), (223, 0, 179, ck_one 0), (1, 15, 15, ck_one 1), (220, 3, 3, ck_one 0), (224, 1, 1, ck_one 6), (224, 0, 0, ck_one 31), (222, 1, 1, ck_one 6), (222, 0, 0, ck_one 30), (220, 0, 0, ck_one 24), (10, 3, 3, ck_one 0), (3, 0, 0, ck_one 3)]), 100, .inl 3, false), (35, [some (.inr (.inr (.inl 1))), some (.inl (ck_one 4)), some (.inl (ck_one 0)), some (.inl (0, 3, some (100, 0))), some (.inl (0, 3, none))], ([], [], [(224, 3, 3, ck_one 5), (225, 0, 185, ck_one 0), (222, 3, 3, ck_one 4), (223, 0, 179, ck_one 0), (1, 15, 15, ck_one 1), (220, 3, 3, ck_one 0), (224, 1, 1, ck_one 6), (224, 0, 0, ck_one 31), (222, 1, 1, ck_one 6), (222, 0, 0, ck_one 30), (220, 0, 0, ck_one 24), (10, 3, 3, ck_one 0), (3, 0, 0, ck_one 3)]), 300, .inl 4, true), (94, [some (.inr (.inr (.inl 1))), some (.inl (ck_one 4)), some (.inl (ck_one 0)), some (.inl (ck_one 0)), some (.inl (1, 3, none))], ([], [], [(224, 3, 3, ck_one 5), (225, 0, 185, ck_one 0), (222, 3, 3, ck_one 4), (223, 0, 179, ck_one 0), (1, 15, 15, ck_one 1), (220, 3, 3, ck_one 0), (224, 1, 1, ck_one 6), (224, 0, 0, ck_one 31), (222, 1, 1, ck_one 6), (222, 0, 0, ck_one 30), (220, 0, 0, ck_one 24), (10, 3, 3, ck_one 0), (3, 0, 0, ck_one 3)]), 500, .inl 4, true)] 330 p33x_342 = true := by decide +kernel
theorem p33x_342_s {X : Int → Int} {LX : Nat} : ck_Ok p1_O X LX 213 p33x_342 := ck_ok_s (ck_E1 (ck_S1 p33x_286_s ck_S0) (ck_E1 (ck_S1 p33x_148_s ck_S0) (ck_E1 (ck_S1 p33x_288_s ck_S0) (ck_E1 (ck_S1 p33x_289_s ck_S0) (ck_E1 (ck_S1 p33x_320_s (ck_S1 p33x_327_s (ck_S1 p33x_328_s ck_S0))) (ck_E1 (ck_S1 p33x_324_s ck_S0) (ck_E1 (ck_S1 p33x_325_s ck_S0) ck_E0))))))) ck_X0 ck_l0 p33x_342_e
set_option maxRecDepth 100000 in
def p33x_343 : ck_Sum := ((4, 0, 0), 245, [.inr (.inr (.inl 1)), .inl (ck_one 4), .inl (ck_one 0), .inr (.inr (.inl 245))], ([], [], [(224, 1, 1, ck_one 6), (224, 0, 0, ck_one 31), (224, 3, 3, ck_one 0), (222, 1, 1, ck_one 6), (222, 0, 0, ck_one 30), (222, 3, 3, ck_one 0), (1, 15, 15, ck_one 0), (220, 0, 0, ck_one 24), (220, 3, 3, ck_one 0), (10, 3, 3, ck_one 0), (3, 0, 0, ck_one 3), (223, 0, 179, ck_one 0), (225, 0, 185, ck_one 0)]), ([(1, 15, 15), (220, 3, 3), (221, 0, 47), (222, 3, 3), (223, 0, 179), (224, 3, 3), (225, 0, 185), (245, 0, 0)], []), [(.inr (some (.inl (ck_one 0))), 245, ([], [], [(245, 0, 0, ck_one 0), (224, 3, 3, ck_one 5), (222, 3, 3, ck_one 4), (1, 15, 15, ck_one 1), (220, 3, 3, ck_one 0), (223, 0, 179, ck_one 0), (225, 0, 185, ck_one 0)]))])
set_option maxRecDepth 100000 in
theorem p33x_343_e : ck_ok p1_O none [] [(213, [p33x_342])] 212 [] 92 p33x_343 = true := by decide +kernel
theorem p33x_343_s {X : Int → Int} {LX : Nat} : ck_Ok p1_O X LX 212 p33x_343 := ck_ok_s (ck_E1 (ck_S1 p33x_342_s ck_S0) ck_E0) ck_X0 ck_l0 p33x_343_e
set_option maxRecDepth 100000 in
def p33x_345 : ck_Sum := ((0, 0, 0), 245, [.inr (.inr (.inl 1)), .inl (ck_one 5)], ([], [], []), ([], []), [(.inr none, 245, ([], [], []))])
set_option maxRecDepth 100000 in
theorem p33x_345_e : ck_ok p1_O none [] [] 214 [] 84 p33x_345 = true := by decide +kernel
theorem p33x_345_s {X : Int → Int} {LX : Nat} : ck_Ok p1_O X LX 214 p33x_345 := ck_ok_s (ck_E0) ck_X0 ck_l0 p33x_345_e
set_option maxRecDepth 100000 in
def p33x_346 : ck_Sum := ((1, 0, 0), 245, [.inr (.inr (.inl 222)), .inl (ck_one 5)], ([], [], [(222, 0, 0, ck_one 30), (223, 0, 179, ck_one 0)]), ([(222, 3, 3), (223, 0, 179)], []), [(.inr none, 245, ([], [], [(222, 3, 3, ck_one 5), (223, 0, 179, ck_one 0)]))])
set_option maxRecDepth 100000 in
theorem p33x_346_e : ck_ok p1_O none [] [(8, [p33x_149])] 25 [] 96 p33x_346 = true := by decide +kernel
theorem p33x_346_s {X : Int → Int} {LX : Nat} : ck_Ok p1_O X LX 25 p33x_346 := ck_ok_s (ck_E1 (ck_S1 p33x_149_s ck_S0) ck_E0) ck_X0 ck_l0 p33x_346_e
set_option maxRecDepth 100000 in
def p33x_347 : ck_Sum := ((2, 0, 0), 245, [.inr (.inr (.inl 1)), .inl (ck_one 5)], ([], [], [(220, 3, 3, ck_one 0), (222, 0, 0, ck_one 30), (222, 3, 3, ck_one 0), (223, 0, 179, ck_one 0)]), ([(222, 3, 3), (223, 0, 179)], []), [(.inr none, 245, ([], [], [(222, 3, 3, ck_one 5), (223, 0, 179, ck_one 0)]))])
set_option maxRecDepth 100000 in
theorem p33x_347_e : ck_ok p1_O none [] [(25, [p33x_346]), (9, [p33x_147])] 215 [(10, [some (.inr (.inr (.inl 1))), some (.inl (ck_one 5)), some (.inl (ck_one 0)), none, none], ([], [], [(222, 3, 3, ck_one 5), (223, 0, 179, ck_one 0), (220, 3, 3, ck_one 0), (222, 0, 0, ck_one 30)]), 100, .inl 2, true)] 118 p33x_347 = true := by decide +kernel
theorem p33x_347_s {X : Int → Int} {LX : Nat} : ck_Ok p1_O X LX 215 p33x_347 := ck_ok_s (ck_E1 (ck_S1 p33x_346_s ck_S0) (ck_E1 (ck_S1 p33x_147_s ck_S0) ck_E0)) ck_X0 ck_l0 p33x_347_e
set_option maxRecDepth 100000 in
def p33x_348 : ck_Sum := ((1, 0, 0), 245, [.inr (.inr (.inl 224)), .inl (ck_one 6)], ([], [], [(224, 0, 0, ck_one 31), (225, 0, 185, ck_one 0)]), ([(224, 3, 3), (225, 0, 185)], []), [(.inr none, 245, ([], [], [(224, 3, 3, ck_one 6), (225, 0, 185, ck_one 0)]))])
set_option maxRecDepth 100000 in
theorem p33x_348_e : ck_ok p1_O none [] [(8, [p33x_152])] 25 [] 96 p33x_348 = true := by decide +kernel
theorem p33x_348_s {X : Int → Int} {LX : Nat} : ck_Ok p1_O X LX 25 p33x_348 := ck_ok_s (ck_E1 (ck_S1 p33x_152_s ck_S0) ck_E0) ck_X0 ck_l0 p33x_348_e
set_option maxRecDepth 100000 in
def p33x_385 : ck_Sum := ((0, 0, 0), 245, [.inr (.inr (.inl 222)), .inl (0, 4, none), .inl (0, 2, none)], ([], [], [(222, 3, 3, ck_one 5), (223, 0, 179, ck_one 0), (222, 1, 1, ck_one 6)]), ([], []), [(.inr (some (.inl (ck_one 0))), 245, ([], [], []))])
set_option maxRecDepth 100000 in
theorem p33x_385_e : ck_ok p1_O none [] [] 10 [] 114 p33x_385 = true := by decide +kernel
theorem p33x_385_s {X : Int → Int} {LX : Nat} : ck_Ok p1_O X LX 10 p33x_385 := ck_ok_s (ck_E0) ck_X0 ck_l0 p33x_385_e
set_option maxRecDepth 100000 in
def p33x_393 : ck_Sum := ((0, 0, 0), 245, [.inr (.inr (.inl 224)), .inl (ck_one 0), .inl (1, 2, none)], ([], [], [(224, 3, 3, ck_one 6), (225, 0, 185, ck_one 0), (224, 1, 1, ck_one 6)]), ([], []), [(.inr (some (.inl (ck_one 0))), 245, ([], [], []))])
set_option maxRecDepth 100000 in
theorem p33x_393_e : ck_ok p1_O none [] [] 10 [] 114 p33x_393 = true := by decide +kernel
theorem p33x_393_s {X : Int → Int} {LX : Nat} : ck_Ok p1_O X LX 10 p33x_393 := ck_ok_s (ck_E0) ck_X0 ck_l0 p33x_393_e
set_option maxRecDepth 100000 in
def p33x_392 : ck_Sum := ((0, 0, 0), 245, [.inr (.inr (.inl 224)), .inl (ck_one 0), .inl (ck_one 0)], ([], [], [(224, 3, 3, ck_one 6), (225, 0, 185, ck_one 0), (224, 1, 1, ck_one 6)]), ([], []), [(.inr (some (.inl (ck_one 0))), 245, ([], [], []))])
set_option maxRecDepth 100000 in
theorem p33x_392_e : ck_ok p1_O none [] [] 10 [] 114 p33x_392 = true := by decide +kernel
theorem p33x_392_s {X : Int → Int} {LX : Nat} : ck_Ok p1_O X LX 10 p33x_392 := ck_ok_s (ck_E0) ck_X0 ck_l0 p33x_392_e
set_option maxRecDepth 100000 in
def p33x_386 : ck_Sum := ((0, 0, 0), 245, [.inr (.inr (.inl 224)), .inl (1, 5, none), .inl ((-1), 1, none)], ([], [], [(224, 3, 3, ck_one 6), (225, 0, 185, ck_one 0), (224, 1, 1, ck_one 6)]), ([], []), [(.inr (some (.inl (ck_one (-1)))), 245, ([], [], [])), (.inr (some (.inl (ck_one 0))), 245, ([], [], []))])
set_option maxRecDepth 100000 in
theorem p33x_386_e : ck_ok p1_O none [] [] 10 [] 114 p33x_386 = true := by decide +kernel
theorem p33x_386_s {X : Int → Int} {LX : Nat} : ck_Ok p1_O X LX 10 p33x_386 := ck_ok_s (ck_E0) ck_X0 ck_l0 p33x_386_e
set_option maxRecDepth 100000 in
def p33x_387 : ck_Sum := ((0, 0, 0), 245, [.inr (.inr (.inl 224)), .inl (1, 5, none), .inl (1, 3, none)], ([], [], [(224, 3, 3, ck_one 6), (225, 0, 185, ck_one 0), (224, 1, 1, ck_one 6)]), ([], []), [(.inr (some (.inl (ck_one 0))), 245, ([], [], []))])
set_option maxRecDepth 100000 in
theorem p33x_387_e : ck_ok p1_O none [] [] 10 [] 114 p33x_387 = true := by decide +kernel
theorem p33x_387_s {X : Int → Int} {LX : Nat} : ck_Ok p1_O X LX 10 p33x_387 := ck_ok_s (ck_E0) ck_X0 ck_l0 p33x_387_e
set_option maxRecDepth 100000 in
def p33x_388 : ck_Sum := ((0, 0, 0), 245, [.inr (.inr (.inl 224)), .inl (1, 5, none), .inl (0, 2, none)], ([], [], [(224, 3, 3, ck_one 6), (225, 0, 185, ck_one 0), (224, 1, 1, ck_one 6)]), ([], []), [(.inr (some (.inl (ck_one 0))), 245, ([], [], []))])
set_option maxRecDepth 100000 in
theorem p33x_388_e : ck_ok p1_O none [] [] 10 [] 114 p33x_388 = true := by decide +kernel
theorem p33x_388_s {X : Int → Int} {LX : Nat} : ck_Ok p1_O X LX 10 p33x_388 := ck_ok_s (ck_E0) ck_X0 ck_l0 p33x_388_e
set_option maxRecDepth 100000 in
def p33x_389 : ck_Sum := ((1, 0, 0), 245, [.inr (.inr (.inl 1)), .inl (1, 5, none), .inl (0, 2, none)], ([], [], [(224, 3, 3, ck_one 6), (225, 0, 185, ck_one 0), (224, 1, 1, ck_one 6)]), ([], []), [(.inr (some (.inl (ck_one 0))), 245, ([], [], []))])
set_option maxRecDepth 100000 in
theorem p33x_389_e : ck_ok p1_O none [] [(10, [p33x_386, p33x_387, p33x_388])] 216 [] 118 p33x_389 = true := by decide +kernel
theorem p33x_389_s {X : Int → Int} {LX : Nat} : ck_Ok p1_O X LX 216 p33x_389 := ck_ok_s (ck_E1 (ck_S1 p33x_386_s (ck_S1 p33x_387_s (ck_S1 p33x_388_s ck_S0))) ck_E0) ck_X0 ck_l0 p33x_389_e
set_option maxRecDepth 100000 in
def p33x_390 : ck_Sum := ((0, 0, 0), 245, [.inr (.inr (.inl 224)), .inl (0, 4, none), .inl (0, 2, none), .inl (ck_one 0)], ([], [], [(224, 3, 3, ck_one 6), (225, 0, 185, ck_one 0), (224, 1, 1, ck_one 6)]), ([(225, 0, 26)], []), [(.inr none, 245, ([], [], [(225, 0, 185, ck_one 0)]))])
set_option maxRecDepth 100000 in
theorem p33x_390_e : ck_ok p1_O none [] [] 45 [] 116 p33x_390 = true := by decide +kernel
theorem p33x_390_s {X : Int → Int} {LX : Nat} : ck_Ok p1_O X LX 45 p33x_390 := ck_ok_s (ck_E0) ck_X0 ck_l0 p33x_390_e
set_option maxRecDepth 100000 in
def p33x_394 : ck_Sum := ((3, 0, 0), 245, [.inr (.inr (.inl 1)), .inl (ck_one 5), .inl (ck_one 1)], ([], [], [(224, 1, 1, ck_one 6), (224, 0, 0, ck_one 31), (224, 3, 3, ck_one 0), (222, 1, 1, ck_one 6), (222, 0, 0, ck_one 30), (222, 3, 3, ck_one 0), (1, 15, 15, ck_one 0), (220, 0, 0, ck_one 24), (220, 3, 3, ck_one 0), (10, 3, 3, ck_one 0), (3, 0, 0, ck_one 3), (223, 0, 179, ck_one 0), (225, 0, 185, ck_one 0)]), ([(1, 15, 15), (220, 3, 3), (221, 0, 47), (222, 3, 3), (223, 0, 179), (224, 3, 3), (225, 0, 185)], []), [(.inr (some (.inl (ck_one 0))), 245, ([], [], [(224, 3, 3, ck_one 6), (222, 3, 3, ck_one 5), (1, 15, 15, ck_one 1), (220, 3, 3, ck_one 0), (223, 0, 179, ck_one 0), (225, 0, 185, ck_one 0)]))])
set_option maxRecDepth 100000 in
theorem p33x_394_e : ck_ok p1_O none [] [(214, [p33x_345]), (24, [p33x_148]), (215, [p33x_347]), (25, [p33x_348]), (10, [p33x_385, p33x_393, p33x_392]), (216, [p33x_389]), (45, [p33x_390])] 213 [(28, [some (.inr (.inr (.inl 1))), some (.inl (ck_one 5)), some (.inl (ck_one 1)), some (.inl ((-1), 4, none)), none], ([], [], [(224, 3, 3, ck_one 6), (225, 0, 185, ck_one 0), (222, 3, 3, ck_one 5), (223, 0, 179, ck_one 0), (1, 15, 15, ck_one 1), (220, 3, 3, ck_one 0), (224, 1, 1, ck_one 6), (224, 0, 0, ck_one 31), (222, 1, 1, ck_one 6), (222, 0, 0, ck_one 30), (220, 0, 0, ck_one 24), (10, 3, 3, ck_one 0), (3, 0, 0, ck_one 3)]), 100, .inl 3, false), (35, [some (.inr (.inr (.inl 1))), some (.inl (ck_one 5)), some (.inl (ck_one 1)), some (.inl (0, 4, some (100, 0))), some (.inl (0, 3, none))], ([], [], [(224, 3, 3, ck_one 6), (225, 0, 185, ck_one 0), (222, 3, 3, ck_one 5), (223, 0, 179, ck_one 0), (1, 15, 15, ck_one 1), (220, 3, 3, ck_one 0), (224, 1, 1, ck_one 6), (224, 0, 0, ck_one 31), (222, 1, 1, ck_one 6), (222, 0, 0, ck_one 30), (220, 0, 0, ck_one 24), (10, 3, 3, ck_one 0), (3, 0, 0, ck_one 3)]), 300, .inl 4, true), (94, [some (.inr (.inr (.inl 1))), some (.inl (ck_one 5)), some (.inl (ck_one 1)), some (.inl (ck_one 0)), some (.inl (1, 3, none))], ([], [], [(224, 3, 3, ck_one 6), (225, 0, 185, ck_one 0), (222, 3, 3, ck_one 5), (223, 0, 179, ck_one 0), (1, 15, 15, ck_one 1), (220, 3, 3, ck_one 0), (224, 1, 1, ck_one 6), (224, 0, 0, ck_one 31), (222, 1, 1, ck_one 6), (222, 0, 0, ck_one 30), (220, 0, 0, ck_one 24), (10, 3, 3, ck_one 0), (3, 0, 0, ck_one 3)]), 500, .inl 4, true)] 330 p33x_394 = true := by decide +kernel
theorem p33x_394_s {X : Int → Int} {LX : Nat} : ck_Ok p1_O X LX 213 p33x_394 := ck_ok_s (ck_E1 (ck_S1 p33x_345_s ck_S0) (ck_E1 (ck_S1 p33x_148_s ck_S0) (ck_E1 (ck_S1 p33x_347_s ck_S0) (ck_E1 (ck_S1 p33x_348_s ck_S0) (ck_E1 (ck_S1 p33x_385_s (ck_S1 p33x_393_s (ck_S1 p33x_392_s ck_S0))) (ck_E1 (ck_S1 p33x_389_s ck_S0) (ck_E1 (ck_S1 p33x_390_s ck_S0) ck_E0))))))) ck_X0 ck_l0 p33x_394_e
set_option maxRecDepth 100000 in
def p33x_395 : ck_Sum := ((4, 0, 0), 245, [.inr (.inr (.inl 1)), .inl (ck_one 5), .inl (ck_one 1), .inr (.inr (.inl 245))], ([], [], [(224, 1, 1, ck_one 6), (224, 0, 0, ck_one 31), (224, 3, 3, ck_one 0), (222, 1, 1, ck_one 6), (222, 0, 0, ck_one 30), (222, 3, 3, ck_one 0), (1, 15, 15, ck_one 0), (220, 0, 0, ck_one 24), (220, 3, 3, ck_one 0), (10, 3, 3, ck_one 0), (3, 0, 0, ck_one 3), (223, 0, 179, ck_one 0), (225, 0, 185, ck_one 0)]), ([(1, 15, 15), (220, 3, 3), (221, 0, 47), (222, 3, 3), (223, 0, 179), (224, 3, 3), (225, 0, 185), (245, 0, 0)], []), [(.inr (some (.inl (ck_one 0))), 245, ([], [], [(245, 0, 0, ck_one 0), (224, 3, 3, ck_one 6), (222, 3, 3, ck_one 5), (1, 15, 15, ck_one 1), (220, 3, 3, ck_one 0), (223, 0, 179, ck_one 0), (225, 0, 185, ck_one 0)]))])
set_option maxRecDepth 100000 in
theorem p33x_395_e : ck_ok p1_O none [] [(213, [p33x_394])] 212 [] 92 p33x_395 = true := by decide +kernel
theorem p33x_395_s {X : Int → Int} {LX : Nat} : ck_Ok p1_O X LX 212 p33x_395 := ck_ok_s (ck_E1 (ck_S1 p33x_394_s ck_S0) ck_E0) ck_X0 ck_l0 p33x_395_e
set_option maxRecDepth 100000 in
def p33x_409 : ck_Sum := ((3, 0, 0), 245, [.inr (.inr (.inl 1)), .inl (ck_one 5), .inl (ck_one 0)], ([], [], [(224, 1, 1, ck_one 6), (224, 0, 0, ck_one 31), (224, 3, 3, ck_one 0), (222, 1, 1, ck_one 6), (222, 0, 0, ck_one 30), (222, 3, 3, ck_one 0), (1, 15, 15, ck_one 0), (220, 0, 0, ck_one 24), (220, 3, 3, ck_one 0), (10, 3, 3, ck_one 0), (3, 0, 0, ck_one 3), (223, 0, 179, ck_one 0), (225, 0, 185, ck_one 0)]), ([(1, 15, 15), (220, 3, 3), (221, 0, 47), (222, 3, 3), (223, 0, 179), (224, 3, 3), (225, 0, 185)], []), [(.inr (some (.inl (ck_one 0))), 245, ([], [], [(224, 3, 3, ck_one 6), (222, 3, 3, ck_one 5), (1, 15, 15, ck_one 1), (220, 3, 3, ck_one 0), (223, 0, 179, ck_one 0), (225, 0, 185, ck_one 0)]))])
set_option maxRecDepth 100000 in
theorem p33x_409_e : ck_ok p1_O none [] [(214, [p33x_345]), (24, [p33x_148]), (215, [p33x_347]), (25, [p33x_348]), (10, [p33x_385, p33x_392, p33x_393]), (216, [p33x_389]), (45, [p33x_390])] 213 [(28, [some (.inr (.inr (.inl 1))), some (.inl (ck_one 5)), some (.inl (ck_one 0)), some (.inl ((-1), 4, none)), none], ([], [], [(224, 3, 3, ck_one 6), (225, 0, 185, ck_one 0), (222, 3, 3, ck_one 5), (223, 0, 179, ck_one 0), (1, 15, 15, ck_one 1), (220, 3, 3, ck_one 0), (224, 1, 1, ck_one 6), (224, 0, 0, ck_one 31), (222, 1, 1, ck_one 6), (222, 0, 0, ck_one 30), (220, 0, 0, ck_one 24), (10, 3, 3, ck_one 0), (3, 0, 0, ck_one 3)]), 100, .inl 3, false), (35, [some (.inr (.inr (.inl 1))), some (.inl (ck_one 5)), some (.inl (ck_one 0)), some (.inl (0, 4, some (100, 0))), some (.inl (0, 3, none))], ([], [], [(224, 3, 3, ck_one 6), (225, 0, 185, ck_one 0), (222, 3, 3, ck_one 5), (223, 0, 179, ck_one 0), (1, 15, 15, ck_one 1), (220, 3, 3, ck_one 0), (224, 1, 1, ck_one 6), (224, 0, 0, ck_one 31), (222, 1, 1, ck_one 6), (222, 0, 0, ck_one 30), (220, 0, 0, ck_one 24), (10, 3, 3, ck_one 0), (3, 0, 0, ck_one 3)]), 300, .inl 4, true), (94, [some (.inr (.inr (.inl 1))), some (.inl (ck_one 5)), some (.inl (ck_one 0)), some (.inl (ck_one 0)), some (.inl (1, 3, none))], ([], [], [(224, 3, 3, ck_one 6), (225, 0, 185, ck_one 0), (222, 3, 3, ck_one 5), (223, 0, 179, ck_one 0), (1, 15, 15, ck_one 1), (220, 3, 3, ck_one 0), (224, 1, 1, ck_one 6), (224, 0, 0, ck_one 31), (222, 1, 1, ck_one 6), (222, 0, 0, ck_one 30), (220, 0, 0, ck_one 24), (10, 3, 3, ck_one 0), (3, 0, 0, ck_one 3)]), 500, .inl 4, true)] 330 p33x_409 = true := by decide +kernel
theorem p33x_409_s {X : Int → Int} {LX : Nat} : ck_Ok p1_O X LX 213 p33x_409 := ck_ok_s (ck_E1 (ck_S1 p33x_345_s ck_S0) (ck_E1 (ck_S1 p33x_148_s ck_S0) (ck_E1 (ck_S1 p33x_347_s ck_S0) (ck_E1 (ck_S1 p33x_348_s ck_S0) (ck_E1 (ck_S1 p33x_385_s (ck_S1 p33x_392_s (ck_S1 p33x_393_s ck_S0))) (ck_E1 (ck_S1 p33x_389_s ck_S0) (ck_E1 (ck_S1 p33x_390_s ck_S0) ck_E0))))))) ck_X0 ck_l0 p33x_409_e
set_option maxRecDepth 100000 in
def p33x_410 : ck_Sum := ((4, 0, 0), 245, [.inr (.inr (.inl 1)), .inl (ck_one 5), .inl (ck_one 0), .inr (.inr (.inl 245))], ([], [], [(224, 1, 1, ck_one 6), (224, 0, 0, ck_one 31), (224, 3, 3, ck_one 0), (222, 1, 1, ck_one 6), (222, 0, 0, ck_one 30), (222, 3, 3, ck_one 0), (1, 15, 15, ck_one 0), (220, 0, 0, ck_one 24), (220, 3, 3, ck_one 0), (10, 3, 3, ck_one 0), (3, 0, 0, ck_one 3), (223, 0, 179, ck_one 0), (225, 0, 185, ck_one 0)]), ([(1, 15, 15), (220, 3, 3), (221, 0, 47), (222, 3, 3), (223, 0, 179), (224, 3, 3), (225, 0, 185), (245, 0, 0)], []), [(.inr (some (.inl (ck_one 0))), 245, ([], [], [(245, 0, 0, ck_one 0), (224, 3, 3, ck_one 6), (222, 3, 3, ck_one 5), (1, 15, 15, ck_one 1), (220, 3, 3, ck_one 0), (223, 0, 179, ck_one 0), (225, 0, 185, ck_one 0)]))])
set_option maxRecDepth 100000 in
theorem p33x_410_e : ck_ok p1_O none [] [(213, [p33x_409])] 212 [] 92 p33x_410 = true := by decide +kernel
theorem p33x_410_s {X : Int → Int} {LX : Nat} : ck_Ok p1_O X LX 212 p33x_410 := ck_ok_s (ck_E1 (ck_S1 p33x_409_s ck_S0) ck_E0) ck_X0 ck_l0 p33x_410_e
set_option maxRecDepth 100000 in
def p33x_412 : ck_Sum := ((0, 0, 0), 245, [.inr (.inr (.inl 1)), .inl (ck_one 6)], ([], [], []), ([], []), [(.inr none, 245, ([], [], []))])
set_option maxRecDepth 100000 in
theorem p33x_412_e : ck_ok p1_O none [] [] 214 [] 84 p33x_412 = true := by decide +kernel
theorem p33x_412_s {X : Int → Int} {LX : Nat} : ck_Ok p1_O X LX 214 p33x_412 := ck_ok_s (ck_E0) ck_X0 ck_l0 p33x_412_e
set_option maxRecDepth 100000 in
def p33x_413 : ck_Sum := ((1, 0, 0), 245, [.inr (.inr (.inl 222)), .inl (ck_one 6)], ([], [], [(222, 0, 0, ck_one 30), (223, 0, 179, ck_one 0)]), ([(222, 3, 3), (223, 0, 179)], []), [(.inr none, 245, ([], [], [(222, 3, 3, ck_one 6), (223, 0, 179, ck_one 0)]))])
set_option maxRecDepth 100000 in
theorem p33x_413_e : ck_ok p1_O none [] [(8, [p33x_149])] 25 [] 96 p33x_413 = true := by decide +kernel
theorem p33x_413_s {X : Int → Int} {LX : Nat} : ck_Ok p1_O X LX 25 p33x_413 := ck_ok_s (ck_E1 (ck_S1 p33x_149_s ck_S0) ck_E0) ck_X0 ck_l0 p33x_413_e
set_option maxRecDepth 100000 in
def p33x_414 : ck_Sum := ((2, 0, 0), 245, [.inr (.inr (.inl 1)), .inl (ck_one 6)], ([], [], [(220, 3, 3, ck_one 0), (222, 0, 0, ck_one 30), (222, 3, 3, ck_one 0), (223, 0, 179, ck_one 0)]), ([(222, 3, 3), (223, 0, 179)], []), [(.inr none, 245, ([], [], [(222, 3, 3, ck_one 6), (223, 0, 179, ck_one 0)]))])
set_option maxRecDepth 100000 in
theorem p33x_414_e : ck_ok p1_O none [] [(25, [p33x_413]), (9, [p33x_147])] 215 [(10, [some (.inr (.inr (.inl 1))), some (.inl (ck_one 6)), some (.inl (ck_one 0)), none, none], ([], [], [(222, 3, 3, ck_one 6), (223, 0, 179, ck_one 0), (220, 3, 3, ck_one 0), (222, 0, 0, ck_one 30)]), 100, .inl 2, true)] 118 p33x_414 = true := by decide +kernel
theorem p33x_414_s {X : Int → Int} {LX : Nat} : ck_Ok p1_O X LX 215 p33x_414 := ck_ok_s (ck_E1 (ck_S1 p33x_413_s ck_S0) (ck_E1 (ck_S1 p33x_147_s ck_S0) ck_E0)) ck_X0 ck_l0 p33x_414_e
set_option maxRecDepth 100000 in
def p33x_415 : ck_Sum := ((1, 0, 0), 245, [.inr (.inr (.inl 224)), .inl (ck_one 7)], ([], [], [(224, 0, 0, ck_one 31), (225, 0, 185, ck_one 0)]), ([(224, 3, 3), (225, 0, 185)], []), [(.inr none, 245, ([], [], [(224, 3, 3, ck_one 7), (225, 0, 185, ck_one 0)]))])
set_option maxRecDepth 100000 in
theorem p33x_415_e : ck_ok p1_O none [] [(8, [p33x_152])] 25 [] 96 p33x_415 = true := by decide +kernel
theorem p33x_415_s {X : Int → Int} {LX : Nat} : ck_Ok p1_O X LX 25 p33x_415 := ck_ok_s (ck_E1 (ck_S1 p33x_152_s ck_S0) ck_E0) ck_X0 ck_l0 p33x_415_e
set_option maxRecDepth 100000 in
def p33x_458 : ck_Sum := ((0, 0, 0), 245, [.inr (.inr (.inl 222)), .inl (0, 5, none), .inl (0, 2, none)], ([], [], [(222, 3, 3, ck_one 6), (223, 0, 179, ck_one 0), (222, 1, 1, ck_one 6)]), ([], []), [(.inr (some (.inl (ck_one 0))), 245, ([], [], []))])
set_option maxRecDepth 100000 in
theorem p33x_458_e : ck_ok p1_O none [] [] 10 [] 114 p33x_458 = true := by decide +kernel
theorem p33x_458_s {X : Int → Int} {LX : Nat} : ck_Ok p1_O X LX 10 p33x_458 := ck_ok_s (ck_E0) ck_X0 ck_l0 p33x_458_e
set_option maxRecDepth 100000 in
def p33x_466 : ck_Sum := ((0, 0, 0), 245, [.inr (.inr (.inl 224)), .inl (ck_one 0), .inl (1, 2, none)], ([], [], [(224, 3, 3, ck_one 7), (225, 0, 185, ck_one 0), (224, 1, 1, ck_one 6)]), ([], []), [(.inr (some (.inl (ck_one 0))), 245, ([], [], []))])
set_option maxRecDepth 100000 in
theorem p33x_466_e : ck_ok p1_O none [] [] 10 [] 114 p33x_466 = true := by decide +kernel
theorem p33x_466_s {X : Int → Int} {LX : Nat} : ck_Ok p1_O X LX 10 p33x_466 := ck_ok_s (ck_E0) ck_X0 ck_l0 p33x_466_e
set_option maxRecDepth 100000 in
def p33x_465 : ck_Sum := ((0, 0, 0), 245, [.inr (.inr (.inl 224)), .inl (ck_one 0), .inl (ck_one 0)], ([], [], [(224, 3, 3, ck_one 7), (225, 0, 185, ck_one 0), (224, 1, 1, ck_one 6)]), ([], []), [(.inr (some (.inl (ck_one 0))), 245, ([], [], []))])
set_option maxRecDepth 100000 in
theorem p33x_465_e : ck_ok p1_O none [] [] 10 [] 114 p33x_465 = true := by decide +kernel
theorem p33x_465_s {X : Int → Int} {LX : Nat} : ck_Ok p1_O X LX 10 p33x_465 := ck_ok_s (ck_E0) ck_X0 ck_l0 p33x_465_e
set_option maxRecDepth 100000 in
def p33x_459 : ck_Sum := ((0, 0, 0), 245, [.inr (.inr (.inl 224)), .inl (1, 6, none), .inl ((-1), 1, none)], ([], [], [(224, 3, 3, ck_one 7), (225, 0, 185, ck_one 0), (224, 1, 1, ck_one 6)]), ([], []), [(.inr (some (.inl (ck_one (-1)))), 245, ([], [], [])), (.inr (some (.inl (ck_one 0))), 245, ([], [], []))])
set_option maxRecDepth 100000 in
theorem p33x_459_e : ck_ok p1_O none [] [] 10 [] 114 p33x_459 = true := by decide +kernel
theorem p33x_459_s {X : Int → Int} {LX : Nat} : ck_Ok p1_O X LX 10 p33x_459 := ck_ok_s (ck_E0) ck_X0 ck_l0 p33x_459_e
set_option maxRecDepth 100000 in
def p33x_460 : ck_Sum := ((0, 0, 0), 245, [.inr (.inr (.inl 224)), .inl (1, 6, none), .inl (1, 3, none)], ([], [], [(224, 3, 3, ck_one 7), (225, 0, 185, ck_one 0), (224, 1, 1, ck_one 6)]), ([], []), [(.inr (some (.inl (ck_one 0))), 245, ([], [], []))])
set_option maxRecDepth 100000 in
theorem p33x_460_e : ck_ok p1_O none [] [] 10 [] 114 p33x_460 = true := by decide +kernel
theorem p33x_460_s {X : Int → Int} {LX : Nat} : ck_Ok p1_O X LX 10 p33x_460 := ck_ok_s (ck_E0) ck_X0 ck_l0 p33x_460_e
set_option maxRecDepth 100000 in
def p33x_461 : ck_Sum := ((0, 0, 0), 245, [.inr (.inr (.inl 224)), .inl (1, 6, none), .inl (0, 2, none)], ([], [], [(224, 3, 3, ck_one 7), (225, 0, 185, ck_one 0), (224, 1, 1, ck_one 6)]), ([], []), [(.inr (some (.inl (ck_one 0))), 245, ([], [], []))])
set_option maxRecDepth 100000 in
theorem p33x_461_e : ck_ok p1_O none [] [] 10 [] 114 p33x_461 = true := by decide +kernel
theorem p33x_461_s {X : Int → Int} {LX : Nat} : ck_Ok p1_O X LX 10 p33x_461 := ck_ok_s (ck_E0) ck_X0 ck_l0 p33x_461_e
set_option maxRecDepth 100000 in
def p33x_462 : ck_Sum := ((1, 0, 0), 245, [.inr (.inr (.inl 1)), .inl (1, 6, none), .inl (0, 2, none)], ([], [], [(224, 3, 3, ck_one 7), (225, 0, 185, ck_one 0), (224, 1, 1, ck_one 6)]), ([], []), [(.inr (some (.inl (ck_one 0))), 245, ([], [], []))])
set_option maxRecDepth 100000 in
theorem p33x_462_e : ck_ok p1_O none [] [(10, [p33x_459, p33x_460, p33x_461])] 216 [] 118 p33x_462 = true := by decide +kernel
theorem p33x_462_s {X : Int → Int} {LX : Nat} : ck_Ok p1_O X LX 216 p33x_462 := ck_ok_s (ck_E1 (ck_S1 p33x_459_s (ck_S1 p33x_460_s (ck_S1 p33x_461_s ck_S0))) ck_E0) ck_X0 ck_l0 p33x_462_e
set_option maxRecDepth 100000 in
def p33x_463 : ck_Sum := ((0, 0, 0), 245, [.inr (.inr (.inl 224)), .inl (0, 5, none), .inl (0, 2, none), .inl (ck_one 0)], ([], [], [(224, 3, 3, ck_one 7), (225, 0, 185, ck_one 0), (224, 1, 1, ck_one 6)]), ([(225, 0, 32)], []), [(.inr none, 245, ([], [], [(225, 0, 185, ck_one 0)]))])
set_option maxRecDepth 100000 in
theorem p33x_463_e : ck_ok p1_O none [] [] 45 [] 116 p33x_463 = true := by decide +kernel
theorem p33x_463_s {X : Int → Int} {LX : Nat} : ck_Ok p1_O X LX 45 p33x_463 := ck_ok_s (ck_E0) ck_X0 ck_l0 p33x_463_e
set_option maxRecDepth 100000 in
def p33x_467 : ck_Sum := ((3, 0, 0), 245, [.inr (.inr (.inl 1)), .inl (ck_one 6), .inl (ck_one 1)], ([], [], [(224, 1, 1, ck_one 6), (224, 0, 0, ck_one 31), (224, 3, 3, ck_one 0), (222, 1, 1, ck_one 6), (222, 0, 0, ck_one 30), (222, 3, 3, ck_one 0), (1, 15, 15, ck_one 0), (220, 0, 0, ck_one 24), (220, 3, 3, ck_one 0), (10, 3, 3, ck_one 0), (3, 0, 0, ck_one 3), (223, 0, 179, ck_one 0), (225, 0, 185, ck_one 0)]), ([(1, 15, 15), (220, 3, 3), (221, 0, 47), (222, 3, 3), (223, 0, 179), (224, 3, 3), (225, 0, 185)], []), [(.inr (some (.inl (ck_one 0))), 245, ([], [], [(224, 3, 3, ck_one 7), (222, 3, 3, ck_one 6), (1, 15, 15, ck_one 1), (220, 3, 3, ck_one 0), (223, 0, 179, ck_one 0), (225, 0, 185, ck_one 0)]))])
set_option maxRecDepth 100000 in
theorem p33x_467_e : ck_ok p1_O none [] [(214, [p33x_412]), (24, [p33x_148]), (215, [p33x_414]), (25, [p33x_415]), (10, [p33x_458, p33x_466, p33x_465]), (216, [p33x_462]), (45, [p33x_463])] 213 [(28, [some (.inr (.inr (.inl 1))), some (.inl (ck_one 6)), some (.inl (ck_one 1)), some (.inl ((-1), 5, none)), none], ([], [], [(224, 3, 3, ck_one 7), (225, 0, 185, ck_one 0), (222, 3, 3, ck_one 6), (223, 0, 179, ck_one 0), (1, 15, 15, ck_one 1), (220, 3, 3, ck_one 0), (224, 1, 1, ck_one 6), (224, 0, 0, ck_one 31), (222, 1, 1, ck_one 6), (222, 0, 0, ck_one 30), (220, 0, 0, ck_one 24), (10, 3, 3, ck_one 0), (3, 0, 0, ck_one 3)]), 100, .inl 3, false), (35, [some (.inr (.inr (.inl 1))), some (.inl (ck_one 6)), some (.inl (ck_one 1)), some (.inl (0, 5, some (100, 0))), some (.inl (0, 3, none))], ([], [], [(224, 3, 3, ck_one 7), (225, 0, 185, ck_one 0), (222, 3, 3, ck_one 6), (223, 0, 179, ck_one 0), (1, 15, 15, ck_one 1), (220, 3, 3, ck_one 0), (224, 1, 1, ck_one 6), (224, 0, 0, ck_one 31), (222, 1, 1, ck_one 6), (222, 0, 0, ck_one 30), (220, 0, 0, ck_one 24), (10, 3, 3, ck_one 0), (3, 0, 0, ck_one 3)]), 300, .inl 4, true), (94, [some (.inr (.inr (.inl 1))), some (.inl (ck_one 6)), some (.inl (ck_one 1)), some (.inl (ck_one 0)), some (.inl (1, 3, none))], ([], [], [(224, 3, 3, ck_one 7), (225, 0, 185, ck_one 0), (222, 3, 3, ck_one 6), (223, 0, 179, ck_one 0), (1, 15, 15, ck_one 1), (220, 3, 3, ck_one 0), (224, 1, 1, ck_one 6), (224, 0, 0, ck_one 31), (222, 1, 1, ck_one 6), (222, 0, 0, ck_one 30), (220, 0, 0, ck_one 24), (10, 3, 3, ck_one 0), (3, 0, 0, ck_one 3)]), 500, .inl 4, true)] 330 p33x_467 = true := by decide +kernel
theorem p33x_467_s {X : Int → Int} {LX : Nat} : ck_Ok p1_O X LX 213 p33x_467 := ck_ok_s (ck_E1 (ck_S1 p33x_412_s ck_S0) (ck_E1 (ck_S1 p33x_148_s ck_S0) (ck_E1 (ck_S1 p33x_414_s ck_S0) (ck_E1 (ck_S1 p33x_415_s ck_S0) (ck_E1 (ck_S1 p33x_458_s (ck_S1 p33x_466_s (ck_S1 p33x_465_s ck_S0))) (ck_E1 (ck_S1 p33x_462_s ck_S0) (ck_E1 (ck_S1 p33x_463_s ck_S0) ck_E0))))))) ck_X0 ck_l0 p33x_467_e
set_option maxRecDepth 100000 in
def p33x_468 : ck_Sum := ((4, 0, 0), 245, [.inr (.inr (.inl 1)), .inl (ck_one 6), .inl (ck_one 1), .inr (.inr (.inl 245))], ([], [], [(224, 1, 1, ck_one 6), (224, 0, 0, ck_one 31), (224, 3, 3, ck_one 0), (222, 1, 1, ck_one 6), (222, 0, 0, ck_one 30), (222, 3, 3, ck_one 0), (1, 15, 15, ck_one 0), (220, 0, 0, ck_one 24), (220, 3, 3, ck_one 0), (10, 3, 3, ck_one 0), (3, 0, 0, ck_one 3), (223, 0, 179, ck_one 0), (225, 0, 185, ck_one 0)]), ([(1, 15, 15), (220, 3, 3), (221, 0, 47), (222, 3, 3), (223, 0, 179), (224, 3, 3), (225, 0, 185), (245, 0, 0)], []), [(.inr (some (.inl (ck_one 0))), 245, ([], [], [(245, 0, 0, ck_one 0), (224, 3, 3, ck_one 7), (222, 3, 3, ck_one 6), (1, 15, 15, ck_one 1), (220, 3, 3, ck_one 0), (223, 0, 179, ck_one 0), (225, 0, 185, ck_one 0)]))])
set_option maxRecDepth 100000 in
theorem p33x_468_e : ck_ok p1_O none [] [(213, [p33x_467])] 212 [] 92 p33x_468 = true := by decide +kernel
theorem p33x_468_s {X : Int → Int} {LX : Nat} : ck_Ok p1_O X LX 212 p33x_468 := ck_ok_s (ck_E1 (ck_S1 p33x_467_s ck_S0) ck_E0) ck_X0 ck_l0 p33x_468_e
set_option maxRecDepth 100000 in
def p33x_484 : ck_Sum := ((3, 0, 0), 245, [.inr (.inr (.inl 1)), .inl (ck_one 6), .inl (ck_one 0)], ([], [], [(224, 1, 1, ck_one 6), (224, 0, 0, ck_one 31), (224, 3, 3, ck_one 0), (222, 1, 1, ck_one 6), (222, 0, 0, ck_one 30), (222, 3, 3, ck_one 0), (1, 15, 15, ck_one 0), (220, 0, 0, ck_one 24), (220, 3, 3, ck_one 0), (10, 3, 3, ck_one 0), (3, 0, 0, ck_one 3), (223, 0, 179, ck_one 0), (225, 0, 185, ck_one 0)]), ([(1, 15, 15), (220, 3, 3), (221, 0, 47), (222, 3, 3), (223, 0, 179), (224, 3, 3), (225, 0, 185)], []), [(.inr (some (.inl (ck_one 0))), 245, ([], [], [(224, 3, 3, ck_one 7), (222, 3, 3, ck_one 6), (1, 15, 15, ck_one 1), (220, 3, 3, ck_one 0), (223, 0, 179, ck_one 0), (225, 0, 185, ck_one 0)]))])
set_option maxRecDepth 100000 in
theorem p33x_484_e : ck_ok p1_O none [] [(214, [p33x_412]), (24, [p33x_148]), (215, [p33x_414]), (25, [p33x_415]), (10, [p33x_458, p33x_465, p33x_466]), (216, [p33x_462]), (45, [p33x_463])] 213 [(28, [some (.inr (.inr (.inl 1))), some (.inl (ck_one 6)), some (.inl (ck_one 0)), some (.inl ((-1), 5, none)), none], ([], [], [(224, 3, 3, ck_one 7), (225, 0, 185, ck_one 0), (222, 3, 3, ck_one 6), (223, 0, 179, ck_one 0), (1, 15, 15, ck_one 1), (220, 3, 3, ck_one 0), (224, 1, 1, ck_one 6), (224, 0, 0, ck_one 31), (222, 1, 1, ck_one 6), (222, 0, 0, ck_one 30), (220, 0, 0, ck_one 24), (10, 3, 3, ck_one 0), (3, 0, 0, ck_one 3)]), 100, .inl 3, false), (35, [some (.inr (.inr (.inl 1))), some (.inl (ck_one 6)), some (.inl (ck_one 0)), some (.inl (0, 5, some (100, 0))), some (.inl (0, 3, none))], ([], [], [(224, 3, 3, ck_one 7), (225, 0, 185, ck_one 0), (222, 3, 3, ck_one 6), (223, 0, 179, ck_one 0), (1, 15, 15, ck_one 1), (220, 3, 3, ck_one 0), (224, 1, 1, ck_one 6), (224, 0, 0, ck_one 31), (222, 1, 1, ck_one 6), (222, 0, 0, ck_one 30), (220, 0, 0, ck_one 24), (10, 3, 3, ck_one 0), (3, 0, 0, ck_one 3)]), 300, .inl 4, true), (94, [some (.inr (.inr (.inl 1))), some (.inl (ck_one 6)), some (.inl (ck_one 0)), some (.inl (ck_one 0)), some (.inl (1, 3, none))], ([], [], [(224, 3, 3, ck_one 7), (225, 0, 185, ck_one 0), (222, 3, 3, ck_one 6), (223, 0, 179, ck_one 0), (1, 15, 15, ck_one 1), (220, 3, 3, ck_one 0), (224, 1, 1, ck_one 6), (224, 0, 0, ck_one 31), (222, 1, 1, ck_one 6), (222, 0, 0, ck_one 30), (220, 0, 0, ck_one 24), (10, 3, 3, ck_one 0), (3, 0, 0, ck_one 3)]), 500, .inl 4, true)] 330 p33x_484 = true := by decide +kernel
theorem p33x_484_s {X : Int → Int} {LX : Nat} : ck_Ok p1_O X LX 213 p33x_484 := ck_ok_s (ck_E1 (ck_S1 p33x_412_s ck_S0) (ck_E1 (ck_S1 p33x_148_s ck_S0) (ck_E1 (ck_S1 p33x_414_s ck_S0) (ck_E1 (ck_S1 p33x_415_s ck_S0) (ck_E1 (ck_S1 p33x_458_s (ck_S1 p33x_465_s (ck_S1 p33x_466_s ck_S0))) (ck_E1 (ck_S1 p33x_462_s ck_S0) (ck_E1 (ck_S1 p33x_463_s ck_S0) ck_E0))))))) ck_X0 ck_l0 p33x_484_e
set_option maxRecDepth 100000 in
def p33x_485 : ck_Sum := ((4, 0, 0), 245, [.inr (.inr (.inl 1)), .inl (ck_one 6), .inl (ck_one 0), .inr (.inr (.inl 245))], ([], [], [(224, 1, 1, ck_one 6), (224, 0, 0, ck_one 31), (224, 3, 3, ck_one 0), (222, 1, 1, ck_one 6), (222, 0, 0, ck_one 30), (222, 3, 3, ck_one 0), (1, 15, 15, ck_one 0), (220, 0, 0, ck_one 24), (220, 3, 3, ck_one 0), (10, 3, 3, ck_one 0), (3, 0, 0, ck_one 3), (223, 0, 179, ck_one 0), (225, 0, 185, ck_one 0)]), ([(1, 15, 15), (220, 3, 3), (221, 0, 47), (222, 3, 3), (223, 0, 179), (224, 3, 3), (225, 0, 185), (245, 0, 0)], []), [(.inr (some (.inl (ck_one 0))), 245, ([], [], [(245, 0, 0, ck_one 0), (224, 3, 3, ck_one 7), (222, 3, 3, ck_one 6), (1, 15, 15, ck_one 1), (220, 3, 3, ck_one 0), (223, 0, 179, ck_one 0), (225, 0, 185, ck_one 0)]))])
set_option maxRecDepth 100000 in
theorem p33x_485_e : ck_ok p1_O none [] [(213, [p33x_484])] 212 [] 92 p33x_485 = true := by decide +kernel
theorem p33x_485_s {X : Int → Int} {LX : Nat} : ck_Ok p1_O X LX 212 p33x_485 := ck_ok_s (ck_E1 (ck_S1 p33x_484_s ck_S0) ck_E0) ck_X0 ck_l0 p33x_485_e
set_option maxRecDepth 100000 in
def p33x_487 : ck_Sum := ((0, 0, 0), 245, [.inr (.inr (.inl 1)), .inl (ck_one 7)], ([], [], []), ([], []), [(.inr none, 245, ([], [], []))])
set_option maxRecDepth 100000 in
theorem p33x_487_e : ck_ok p1_O none [] [] 214 [] 84 p33x_487 = true := by decide +kernel
theorem p33x_487_s {X : Int → Int} {LX : Nat} : ck_Ok p1_O X LX 214 p33x_487 := ck_ok_s (ck_E0) ck_X0 ck_l0 p33x_487_e
set_option maxRecDepth 100000 in
def p33x_488 : ck_Sum := ((1, 0, 0), 245, [.inr (.inr (.inl 222)), .inl (ck_one 7)], ([], [], [(222, 0, 0, ck_one 30), (223, 0, 179, ck_one 0)]), ([(222, 3, 3), (223, 0, 179)], []), [(.inr none, 245, ([], [], [(222, 3, 3, ck_one 7), (223, 0, 179, ck_one 0)]))])
set_option maxRecDepth 100000 in
theorem p33x_488_e : ck_ok p1_O none [] [(8, [p33x_149])] 25 [] 96 p33x_488 = true := by decide +kernel
theorem p33x_488_s {X : Int → Int} {LX : Nat} : ck_Ok p1_O X LX 25 p33x_488 := ck_ok_s (ck_E1 (ck_S1 p33x_149_s ck_S0) ck_E0) ck_X0 ck_l0 p33x_488_e
set_option maxRecDepth 100000 in
def p33x_489 : ck_Sum := ((2, 0, 0), 245, [.inr (.inr (.inl 1)), .inl (ck_one 7)], ([], [], [(220, 3, 3, ck_one 0), (222, 0, 0, ck_one 30), (222, 3, 3, ck_one 0), (223, 0, 179, ck_one 0)]), ([(222, 3, 3), (223, 0, 179)], []), [(.inr none, 245, ([], [], [(222, 3, 3, ck_one 7), (223, 0, 179, ck_one 0)]))])
set_option maxRecDepth 100000 in
theorem p33x_489_e : ck_ok p1_O none [] [(25, [p33x_488]), (9, [p33x_147])] 215 [(10, [some (.inr (.inr (.inl 1))), some (.inl (ck_one 7)), some (.inl (ck_one 0)), none, none], ([], [], [(222, 3, 3, ck_one 7), (223, 0, 179, ck_one 0), (220, 3, 3, ck_one 0), (222, 0, 0, ck_one 30)]), 100, .inl 2, true)] 118 p33x_489 = true := by decide +kernel
theorem p33x_489_s {X : Int → Int} {LX : Nat} : ck_Ok p1_O X LX 215 p33x_489 := ck_ok_s (ck_E1 (ck_S1 p33x_488_s ck_S0) (ck_E1 (ck_S1 p33x_147_s ck_S0) ck_E0)) ck_X0 ck_l0 p33x_489_e
set_option maxRecDepth 100000 in
def p33x_490 : ck_Sum := ((1, 0, 0), 245, [.inr (.inr (.inl 224)), .inl (ck_one 8)], ([], [], [(224, 0, 0, ck_one 31), (225, 0, 185, ck_one 0)]), ([(224, 3, 3), (225, 0, 185)], []), [(.inr none, 245, ([], [], [(224, 3, 3, ck_one 8), (225, 0, 185, ck_one 0)]))])
set_option maxRecDepth 100000 in
theorem p33x_490_e : ck_ok p1_O none [] [(8, [p33x_152])] 25 [] 96 p33x_490 = true := by decide +kernel
theorem p33x_490_s {X : Int → Int} {LX : Nat} : ck_Ok p1_O X LX 25 p33x_490 := ck_ok_s (ck_E1 (ck_S1 p33x_152_s ck_S0) ck_E0) ck_X0 ck_l0 p33x_490_e
set_option maxRecDepth 100000 in
def p33x_539 : ck_Sum := ((0, 0, 0), 245, [.inr (.inr (.inl 222)), .inl (0, 6, none), .inl (0, 2, none)], ([], [], [(222, 3, 3, ck_one 7), (223, 0, 179, ck_one 0), (222, 1, 1, ck_one 6)]), ([], []), [(.inr (some (.inl (ck_one 0))), 245, ([], [], []))])
set_option maxRecDepth 100000 in
theorem p33x_539_e : ck_ok p1_O none [] [] 10 [] 114 p33x_539 = true := by decide +kernel
theorem p33x_539_s {X : Int → Int} {LX : Nat} : ck_Ok p1_O X LX 10 p33x_539 := ck_ok_s (ck_E0) ck_X0 ck_l0 p33x_539_e
set_option maxRecDepth 100000 in
def p33x_547 : ck_Sum := ((0, 0, 0), 245, [.inr (.inr (.inl 224)), .inl (ck_one 0), .inl (1, 2, none)], ([], [], [(224, 3, 3, ck_one 8), (225, 0, 185, ck_one 0), (224, 1, 1, ck_one 6)]), ([], []), [(.inr (some (.inl (ck_one 0))), 245, ([], [], []))])
set_option maxRecDepth 100000 in
theorem p33x_547_e : ck_ok p1_O none [] [] 10 [] 114 p33x_547 = true := by decide +kernel
theorem p33x_547_s {X : Int → Int} {LX : Nat} : ck_Ok p1_O X LX 10 p33x_547 := ck_ok_s (ck_E0) ck_X0 ck_l0 p33x_547_e
set_option maxRecDepth 100000 in
def p33x_546 : ck_Sum := ((0, 0, 0), 245, [.inr (.inr (.inl 224)), .inl (ck_one 0), .inl (ck_one 0)], ([], [], [(224, 3, 3, ck_one 8), (225, 0, 185, ck_one 0), (224, 1, 1, ck_one 6)]), ([], []), [(.inr (some (.inl (ck_one 0))), 245, ([], [], []))])
set_option maxRecDepth 100000 in
theorem p33x_546_e : ck_ok p1_O none [] [] 10 [] 114 p33x_546 = true := by decide +kernel
theorem p33x_546_s {X : Int → Int} {LX : Nat} : ck_Ok p1_O X LX 10 p33x_546 := ck_ok_s (ck_E0) ck_X0 ck_l0 p33x_546_e
set_option maxRecDepth 100000 in
def p33x_540 : ck_Sum := ((0, 0, 0), 245, [.inr (.inr (.inl 224)), .inl (1, 7, none), .inl ((-1), 1, none)], ([], [], [(224, 3, 3, ck_one 8), (225, 0, 185, ck_one 0), (224, 1, 1, ck_one 6)]), ([], []), [(.inr (some (.inl (ck_one (-1)))), 245, ([], [], [])), (.inr (some (.inl (ck_one 0))), 245, ([], [], []))])
set_option maxRecDepth 100000 in
theorem p33x_540_e : ck_ok p1_O none [] [] 10 [] 114 p33x_540 = true := by decide +kernel
theorem p33x_540_s {X : Int → Int} {LX : Nat} : ck_Ok p1_O X LX 10 p33x_540 := ck_ok_s (ck_E0) ck_X0 ck_l0 p33x_540_e
set_option maxRecDepth 100000 in
def p33x_541 : ck_Sum := ((0, 0, 0), 245, [.inr (.inr (.inl 224)), .inl (1, 7, none), .inl (1, 3, none)], ([], [], [(224, 3, 3, ck_one 8), (225, 0, 185, ck_one 0), (224, 1, 1, ck_one 6)]), ([], []), [(.inr (some (.inl (ck_one 0))), 245, ([], [], []))])
set_option maxRecDepth 100000 in
theorem p33x_541_e : ck_ok p1_O none [] [] 10 [] 114 p33x_541 = true := by decide +kernel
theorem p33x_541_s {X : Int → Int} {LX : Nat} : ck_Ok p1_O X LX 10 p33x_541 := ck_ok_s (ck_E0) ck_X0 ck_l0 p33x_541_e
set_option maxRecDepth 100000 in
def p33x_542 : ck_Sum := ((0, 0, 0), 245, [.inr (.inr (.inl 224)), .inl (1, 7, none), .inl (0, 2, none)], ([], [], [(224, 3, 3, ck_one 8), (225, 0, 185, ck_one 0), (224, 1, 1, ck_one 6)]), ([], []), [(.inr (some (.inl (ck_one 0))), 245, ([], [], []))])
set_option maxRecDepth 100000 in
theorem p33x_542_e : ck_ok p1_O none [] [] 10 [] 114 p33x_542 = true := by decide +kernel
theorem p33x_542_s {X : Int → Int} {LX : Nat} : ck_Ok p1_O X LX 10 p33x_542 := ck_ok_s (ck_E0) ck_X0 ck_l0 p33x_542_e
set_option maxRecDepth 100000 in
def p33x_543 : ck_Sum := ((1, 0, 0), 245, [.inr (.inr (.inl 1)), .inl (1, 7, none), .inl (0, 2, none)], ([], [], [(224, 3, 3, ck_one 8), (225, 0, 185, ck_one 0), (224, 1, 1, ck_one 6)]), ([], []), [(.inr (some (.inl (ck_one 0))), 245, ([], [], []))])
set_option maxRecDepth 100000 in
theorem p33x_543_e : ck_ok p1_O none [] [(10, [p33x_540, p33x_541, p33x_542])] 216 [] 118 p33x_543 = true := by decide +kernel
theorem p33x_543_s {X : Int → Int} {LX : Nat} : ck_Ok p1_O X LX 216 p33x_543 := ck_ok_s (ck_E1 (ck_S1 p33x_540_s (ck_S1 p33x_541_s (ck_S1 p33x_542_s ck_S0))) ck_E0) ck_X0 ck_l0 p33x_543_e
set_option maxRecDepth 100000 in
def p33x_544 : ck_Sum := ((0, 0, 0), 245, [.inr (.inr (.inl 224)), .inl (0, 6, none), .inl (0, 2, none), .inl (ck_one 0)], ([], [], [(224, 3, 3, ck_one 8), (225, 0, 185, ck_one 0), (224, 1, 1, ck_one 6)]), ([(225, 0, 38)], []), [(.inr none, 245, ([], [], [(225, 0, 185, ck_one 0)]))])
set_option maxRecDepth 100000 in
theorem p33x_544_e : ck_ok p1_O none [] [] 45 [] 116 p33x_544 = true := by decide +kernel
theorem p33x_544_s {X : Int → Int} {LX : Nat} : ck_Ok p1_O X LX 45 p33x_544 := ck_ok_s (ck_E0) ck_X0 ck_l0 p33x_544_e
set_option maxRecDepth 100000 in
def p33x_548 : ck_Sum := ((3, 0, 0), 245, [.inr (.inr (.inl 1)), .inl (ck_one 7), .inl (ck_one 1)], ([], [], [(224, 1, 1, ck_one 6), (224, 0, 0, ck_one 31), (224, 3, 3, ck_one 0), (222, 1, 1, ck_one 6), (222, 0, 0, ck_one 30), (222, 3, 3, ck_one 0), (1, 15, 15, ck_one 0), (220, 0, 0, ck_one 24), (220, 3, 3, ck_one 0), (10, 3, 3, ck_one 0), (3, 0, 0, ck_one 3), (223, 0, 179, ck_one 0), (225, 0, 185, ck_one 0)]), ([(1, 15, 15), (220, 3, 3), (221, 0, 47), (222, 3, 3), (223, 0, 179), (224, 3, 3), (225, 0, 185)], []), [(.inr (some (.inl (ck_one 0))), 245, ([], [], [(224, 3, 3, ck_one 8), (222, 3, 3, ck_one 7), (1, 15, 15, ck_one 1), (220, 3, 3, ck_one 0), (223, 0, 179, ck_one 0), (225, 0, 185, ck_one 0)]))])
set_option maxRecDepth 100000 in
theorem p33x_548_e : ck_ok p1_O none [] [(214, [p33x_487]), (24, [p33x_148]), (215, [p33x_489]), (25, [p33x_490]), (10, [p33x_539, p33x_547, p33x_546]), (216, [p33x_543]), (45, [p33x_544])] 213 [(28, [some (.inr (.inr (.inl 1))), some (.inl (ck_one 7)), some (.inl (ck_one 1)), some (.inl ((-1), 6, none)), none], ([], [], [(224, 3, 3, ck_one 8), (225, 0, 185, ck_one 0), (222, 3, 3, ck_one 7), (223, 0, 179, ck_one 0), (1, 15, 15, ck_one 1), (220, 3, 3, ck_one 0), (224, 1, 1, ck_one 6), (224, 0, 0, ck_one 31), (222, 1, 1, ck_one 6), (222, 0, 0, ck_one 30), (220, 0, 0, ck_one 24), (10, 3, 3, ck_one 0), (3, 0, 0, ck_one 3)]), 100, .inl 3, false), (35, [some (.inr (.inr (.inl 1))), some (.inl (ck_one 7)), some (.inl (ck_one 1)), some (.inl (0, 6, some (100, 0))), some (.inl (0, 3, none))], ([], [], [(224, 3, 3, ck_one 8), (225, 0, 185, ck_one 0), (222, 3, 3, ck_one 7), (223, 0, 179, ck_one 0), (1, 15, 15, ck_one 1), (220, 3, 3, ck_one 0), (224, 1, 1, ck_one 6), (224, 0, 0, ck_one 31), (222, 1, 1, ck_one 6), (222, 0, 0, ck_one 30), (220, 0, 0, ck_one 24), (10, 3, 3, ck_one 0), (3, 0, 0, ck_one 3)]), 300, .inl 4, true), (94, [some (.inr (.inr (.inl 1))), some (.inl (ck_one 7)), some (.inl (ck_one 1)), some (.inl (ck_one 0)), some (.inl (1, 3, none))], ([], [], [(224, 3, 3, ck_one 8), (225, 0, 185, ck_one 0), (222, 3, 3, ck_one 7), (223, 0, 179, ck_one 0), (1, 15, 15, ck_one 1), (220, 3, 3, ck_one 0), (224, 1, 1, ck_one 6), (224, 0, 0, ck_one 31), (222, 1, 1, ck_one 6), (222, 0, 0, ck_one 30), (220, 0, 0, ck_one 24), (10, 3, 3, ck_one 0), (3, 0, 0, ck_one 3)]), 500, .inl 4, true)] 330 p33x_548 = true := by decide +kernel
theorem p33x_548_s {X : Int → Int} {LX : Nat} : ck_Ok p1_O X LX 213 p33x_548 := ck_ok_s (ck_E1 (ck_S1 p33x_487_s ck_S0) (ck_E1 (ck_S1 p33x_148_s ck_S0) (ck_E1 (ck_S1 p33x_489_s ck_S0) (ck_E1 (ck_S1 p33x_490_s ck_S0) (ck_E1 (ck_S1 p33x_539_s (ck_S1 p33x_547_s (ck_S1 p33x_546_s ck_S0))) (ck_E1 (ck_S1 p33x_543_s ck_S0) (ck_E1 (ck_S1 p33x_544_s ck_S0) ck_E0))))))) ck_X0 ck_l0 p33x_548_e
set_option maxRecDepth 100000 in
def p33x_549 : ck_Sum := ((4, 0, 0), 245, [.inr (.inr (.inl 1)), .inl (ck_one 7), .inl (ck_one 1), .inr (.inr (.inl 245))], ([], [], [(224, 1, 1, ck_one 6), (224, 0, 0, ck_one 31), (224, 3, 3, ck_one 0), (222, 1, 1, ck_one 6), (222, 0, 0, ck_one 30), (222, 3, 3, ck_one 0), (1, 15, 15, ck_one 0), (220, 0, 0, ck_one 24), (220, 3, 3, ck_one 0), (10, 3, 3, ck_one 0), (3, 0, 0, ck_one 3), (223, 0, 179, ck_one 0), (225, 0, 185, ck_one 0)]), ([(1, 15, 15), (220, 3, 3), (221, 0, 47), (222, 3, 3), (223, 0, 179), (224, 3, 3), (225, 0, 185), (245, 0, 0)], []), [(.inr (some (.inl (ck_one 0))), 245, ([], [], [(245, 0, 0, ck_one 0), (224, 3, 3, ck_one 8), (222, 3, 3, ck_one 7), (1, 15, 15, ck_one 1), (220, 3, 3, ck_one 0), (223, 0, 179, ck_one 0), (225, 0, 185, ck_one 0)]))])
set_option maxRecDepth 100000 in
theorem p33x_549_e : ck_ok p1_O none [] [(213, [p33x_548])] 212 [] 92 p33x_549 = true := by decide +kernel
theorem p33x_549_s {X : Int → Int} {LX : Nat} : ck_Ok p1_O X LX 212 p33x_549 := ck_ok_s (ck_E1 (ck_S1 p33x_548_s ck_S0) ck_E0) ck_X0 ck_l0 p33x_549_e
set_option maxRecDepth 100000 in
def p33x_567 : ck_Sum := ((3, 0, 0), 245, [.inr (.inr (.inl 1)), .inl (ck_one 7), .inl (ck_one 0)], ([], [], [(224, 1, 1, ck_one 6), (224, 0, 0, ck_one 31), (224, 3, 3, ck_one 0), (222, 1, 1, ck_one 6), (222, 0, 0, ck_one 30), (222, 3, 3, ck_one 0), (1, 15, 15, ck_one 0), (220, 0, 0, ck_one 24), (220, 3, 3, ck_one 0), (10, 3, 3, ck_one 0), (3, 0, 0, ck_one 3), (223, 0, 179, ck_one 0), (225, 0, 185, ck_one 0)]), ([(1, 15, 15), (220, 3, 3), (221, 0, 47), (222, 3, 3), (223, 0, 179), (224, 3, 3), (225, 0, 185)], []), [(.inr (some (.inl (ck_one 0))), 245, ([], [], [(224, 3, 3, ck_one 8), (222, 3, 3, ck_one 7), (1, 15, 15, ck_one 1), (220, 3, 3, ck_one 0), (223, 0, 179, ck_one 0), (225, 0, 185, ck_one 0)]))])
set_option maxRecDepth 100000 in
theorem p33x_567_e : ck_ok p1_O none [] [(214, [p33x_487]), (24, [p33x_148]), (215, [p33x_489]), (25, [p33x_490]), (10, [p33x_539, p33x_546, p33x_547]), (216, [p33x_543]), (45, [p33x_544])] 213 [(28, [some (.inr (.inr (.inl 1))), some (.inl (ck_one 7)), some (.inl (ck_one 0)), some (.inl ((-1), 6, none)), none], ([], [], [(224, 3, 3, ck_one 8), (225, 0, 185, ck_one 0), (222, 3, 3, ck_one 7), (223, 0, 179, ck_one 0), (1, 15, 15, ck_one 1), (220, 3, 3, ck_one 0), (224, 1, 1, ck_one 6), (224, 0, 0, ck_one 31), (222, 1, 1, ck_one 6), (222, 0, 0, ck_one 30), (220, 0, 0, ck_one 24), (10, 3, 3, ck_one 0), (3, 0, 0, ck_one 3)]), 100, .inl 3, false), (35, [some (.inr (.inr (.inl 1))), some (.inl (ck_one 7)), some (.inl (ck_one 0)), some (.inl (0, 6, some (100, 0))), some (.inl (0, 3, none))], ([], [], [(224, 3, 3, ck_one 8), (225, 0, 185, ck_one 0), (222, 3, 3, ck_one 7), (223, 0, 179, ck_one 0), (1, 15, 15, ck_one 1), (220, 3, 3, ck_one 0), (224, 1, 1, ck_one 6), (224, 0, 0, ck_one 31), (222, 1, 1, ck_one 6), (222, 0, 0, ck_one 30), (220, 0, 0, ck_one 24), (10, 3, 3, ck_one 0), (3, 0, 0, ck_one 3)]), 300, .inl 4, true), (94, [some (.inr (.inr (.inl 1))), some (.inl (ck_one 7)), some (.inl (ck_one 0)), some (.inl (ck_one 0)), some (.inl (1, 3, none))], ([], [], [(224, 3, 3, ck_one 8), (225, 0, 185, ck_one 0), (222, 3, 3, ck_one 7), (223, 0, 179, ck_one 0), (1, 15, 15, ck_one 1), (220, 3, 3, ck_one 0), (224, 1, 1, ck_one 6), (224, 0, 0, ck_one 31), (222, 1, 1, ck_one 6), (222, 0, 0, ck_one 30), (220, 0, 0, ck_one 24), (10, 3, 3, ck_one 0), (3, 0, 0, ck_one 3)]), 500, .inl 4, true)] 330 p33x_567 = true := by decide +kernel
theorem p33x_567_s {X : Int → Int} {LX : Nat} : ck_Ok p1_O X LX 213 p33x_567 := ck_ok_s (ck_E1 (ck_S1 p33x_487_s ck_S0) (ck_E1 (ck_S1 p33x_148_s ck_S0) (ck_E1 (ck_S1 p33x_489_s ck_S0) (ck_E1 (ck_S1 p33x_490_s ck_S0) (ck_E1 (ck_S1 p33x_539_s (ck_S1 p33x_546_s (ck_S1 p33x_547_s ck_S0))) (ck_E1 (ck_S1 p33x_543_s ck_S0) (ck_E1 (ck_S1 p33x_544_s ck_S0) ck_E0))))))) ck_X0 ck_l0 p33x_567_e
set_option maxRecDepth 100000 in
def p33x_568 : ck_Sum := ((4, 0, 0), 245, [.inr (.inr (.inl 1)), .inl (ck_one 7), .inl (ck_one 0), .inr (.inr (.inl 245))], ([], [], [(224, 1, 1, ck_one 6), (224, 0, 0, ck_one 31), (224, 3, 3, ck_one 0), (222, 1, 1, ck_one 6), (222, 0, 0, ck_one 30), (222, 3, 3, ck_one 0), (1, 15, 15, ck_one 0), (220, 0, 0, ck_one 24), (220, 3, 3, ck_one 0), (10, 3, 3, ck_one 0), (3, 0, 0, ck_one 3), (223, 0, 179, ck_one 0), (225, 0, 185, ck_one 0)]), ([(1, 15, 15), (220, 3, 3), (221, 0, 47), (222, 3, 3), (223, 0, 179), (224, 3, 3), (225, 0, 185), (245, 0, 0)], []), [(.inr (some (.inl (ck_one 0))), 245, ([], [], [(245, 0, 0, ck_one 0), (224, 3, 3, ck_one 8), (222, 3, 3, ck_one 7), (1, 15, 15, ck_one 1), (220, 3, 3, ck_one 0), (223, 0, 179, ck_one 0), (225, 0, 185, ck_one 0)]))])
set_option maxRecDepth 100000 in
theorem p33x_568_e : ck_ok p1_O none [] [(213, [p33x_567])] 212 [] 92 p33x_568 = true := by decide +kernel
theorem p33x_568_s {X : Int → Int} {LX : Nat} : ck_Ok p1_O X LX 212 p33x_568 := ck_ok_s (ck_E1 (ck_S1 p33x_567_s ck_S0) ck_E0) ck_X0 ck_l0 p33x_568_e
set_option maxRecDepth 100000 in
def p33x_570 : ck_Sum := ((0, 0, 0), 245, [.inr (.inr (.inl 1)), .inl (ck_one 8)], ([], [], []), ([], []), [(.inr none, 245, ([], [], []))])
set_option maxRecDepth 100000 in
theorem p33x_570_e : ck_ok p1_O none [] [] 214 [] 84 p33x_570 = true := by decide +kernel
theorem p33x_570_s {X : Int → Int} {LX : Nat} : ck_Ok p1_O X LX 214 p33x_570 := ck_ok_s (ck_E0) ck_X0 ck_l0 p33x_570_e
set_option maxRecDepth 100000 in
def p33x_571 : ck_Sum := ((1, 0, 0), 245, [.inr (.inr (.inl 222)), .inl (ck_one 8)], ([], [], [(222, 0, 0, ck_one 30), (223, 0, 179, ck_one 0)]), ([(222, 3, 3), (223, 0, 179)], []), [(.inr none, 245, ([], [], [(222, 3, 3, ck_one 8), (223, 0, 179, ck_one 0)]))])
set_option maxRecDepth 100000 in
theorem p33x_571_e : ck_ok p1_O none [] [(8, [p33x_149])] 25 [] 96 p33x_571 = true := by decide +kernel
theorem p33x_571_s {X : Int → Int} {LX : Nat} : ck_Ok p1_O X LX 25 p33x_571 := ck_ok_s (ck_E1 (ck_S1 p33x_149_s ck_S0) ck_E0) ck_X0 ck_l0 p33x_571_e
set_option maxRecDepth 100000 in
def p33x_572 : ck_Sum := ((2, 0, 0), 245, [.inr (.inr (.inl 1)), .inl (ck_one 8)], ([], [], [(220, 3, 3, ck_one 0), (222, 0, 0, ck_one 30), (222, 3, 3, ck_one 0), (223, 0, 179, ck_one 0)]), ([(222, 3, 3), (223, 0, 179)], []), [(.inr none, 245, ([], [], [(222, 3, 3, ck_one 8), (223, 0, 179, ck_one 0)]))])
set_option maxRecDepth 100000 in
theorem p33x_572_e : ck_ok p1_O none [] [(25, [p33x_571]), (9, [p33x_147])] 215 [(10, [some (.inr (.inr (.inl 1))), some (.inl (ck_one 8)), some (.inl (ck_one 0)), none, none], ([], [], [(222, 3, 3, ck_one 8), (223, 0, 179, ck_one 0), (220, 3, 3, ck_one 0), (222, 0, 0, ck_one 30)]), 100, .inl 2, true)] 118 p33x_572 = true := by decide +kernel
theorem p33x_572_s {X : Int → Int} {LX : Nat} : ck_Ok p1_O X LX 215 p33x_572 := ck_ok_s (ck_E1 (ck_S1 p33x_571_s ck_S0) (ck_E1 (ck_S1 p33x_147_s ck_S0) ck_E0)) ck_X0 ck_l0 p33x_572_e
set_option maxRecDepth 100000 in
def p33x_573 : ck_Sum := ((1, 0, 0), 245, [.inr (.inr (.inl 224)), .inl (ck_one 9)], ([], [], [(224, 0, 0, ck_one 31), (225, 0, 185, ck_one 0)]), ([(224, 3, 3), (225, 0, 185)], []), [(.inr none, 245, ([], [], [(224, 3, 3, ck_one 9), (225, 0, 185, ck_one 0)]))])
set_option maxRecDepth 100000 in
theorem p33x_573_e : ck_ok p1_O none [] [(8, [p33x_152])] 25 [] 96 p33x_573 = true := by decide +kernel
theorem p33x_573_s {X : Int → Int} {LX : Nat} : ck_Ok p1_O X LX 25 p33x_573 := ck_ok_s (ck_E1 (ck_S1 p33x_152_s ck_S0) ck_E0) ck_X0 ck_l0 p33x_573_e
set_option maxRecDepth 100000 in
def p33x_628 : ck_Sum := ((0, 0, 0), 245, [.inr (.inr (.inl 222)), .inl (0, 7, none), .inl (0, 2, none)], ([], [], [(222, 3, 3, ck_one 8), (223, 0, 179, ck_one 0), (222, 1, 1, ck_one 6)]), ([], []), [(.inr (some (.inl (ck_one 0))), 245, ([], [], []))])
set_option maxRecDepth 100000 in
theorem p33x_628_e : ck_ok p1_O none [] [] 10 [] 114 p33x_628 = true := by decide +kernel
theorem p33x_628_s {X : Int → Int} {LX : Nat} : ck_Ok p1_O X LX 10 p33x_628 := ck_ok_s (ck_E0) ck_X0 ck_l0 p33x_628_e
set_option maxRecDepth 100000 in
def p33x_636 : ck_Sum := ((0, 0, 0), 245, [.inr (.inr (.inl 224)), .inl (ck_one 0), .inl (1, 2, none)], ([], [], [(224, 3, 3, ck_one 9), (225, 0, 185, ck_one 0), (224, 1, 1, ck_one 6)]), ([], []), [(.inr (some (.inl (ck_one 0))), 245, ([], [], []))])
set_option maxRecDepth 100000 in
theorem p33x_636_e : ck_ok p1_O none [] [] 10 [] 114 p33x_636 = true := by decide +kernel
theorem p33x_636_s {X : Int → Int} {LX : Nat} : ck_Ok p1_O X LX 10 p33x_636 := ck_ok_s (ck_E0) ck_X0 ck_l0 p33x_636_e
set_option maxRecDepth 100000 in
def p33x_635 : ck_Sum := ((0, 0, 0), 245, [.inr (.inr (.inl 224)), .inl (ck_one 0), .inl (ck_one 0)], ([], [], [(224, 3, 3, ck_one 9), (225, 0, 185, ck_one 0), (224, 1, 1, ck_one 6)]), ([], []), [(.inr (some (.inl (ck_one 0))), 245, ([], [], []))])
set_option maxRecDepth 100000 in
theorem p33x_635_e : ck_ok p1_O none [] [] 10 [] 114 p33x_635 = true := by decide +kernel
theorem p33x_635_s {X : Int → Int} {LX : Nat} : ck_Ok p1_O X LX 10 p33x_635 := ck_ok_s (ck_E0) ck_X0 ck_l0 p33x_635_e
set_option maxRecDepth 100000 in
def p33x_629 : ck_Sum := ((0, 0, 0), 245, [.inr (.inr (.inl 224)), .inl (1, 8, none), .inl ((-1), 1, none)], ([], [], [(224, 3, 3, ck_one 9), (225, 0, 185, ck_one 0), (224, 1, 1, ck_one 6)]), ([], []), [(.inr (some (.inl (ck_one (-1)))), 245, ([], [], [])), (.inr (some (.inl (ck_one 0))), 245, ([], [], []))])
set_option maxRecDepth 100000 in
theorem p33x_629_e : ck_ok p1_O none [] [] 10 [] 114 p33x_629 = true := by decide +kernel
theorem p33x_629_s {X : Int → Int} {LX : Nat} : ck_Ok p1_O X LX 10 p33x_629 := ck_ok_s (ck_E0) ck_X0 ck_l0 p33x_629_e
set_option maxRecDepth 100000 in
def p33x_630 : ck_Sum := ((0, 0, 0), 245, [.inr (.inr (.inl 224)), .inl (1, 8, none), .inl (1, 3, none)], ([], [], [(224, 3, 3, ck_one 9), (225, 0, 185, ck_one 0), (224, 1, 1, ck_one 6)]), ([], []), [(.inr (some (.inl (ck_one 0))), 245, ([], [], []))])
set_option maxRecDepth 100000 in
theorem p33x_630_e : ck_ok p1_O none [] [] 10 [] 114 p33x_630 = true := by decide +kernel
theorem p33x_630_s {X : Int → Int} {LX : Nat} : ck_Ok p1_O X LX 10 p33x_630 := ck_ok_s (ck_E0) ck_X0 ck_l0 p33x_630_e
set_option maxRecDepth 100000 in
def p33x_631 : ck_Sum := ((0, 0, 0), 245, [.inr (.inr (.inl 224)), .inl (1, 8, none), .inl (0, 2, none)], ([], [], [(224, 3, 3, ck_one 9), (225, 0, 185, ck_one 0), (224, 1, 1, ck_one 6)]), ([], []), [(.inr (some (.inl (ck_one 0))), 245, ([], [], []))])
set_option maxRecDepth 100000 in
theorem p33x_631_e : ck_ok p1_O none [] [] 10 [] 114 p33x_631 = true := by decide +kernel
theorem p33x_631_s {X : Int → Int} {LX : Nat} : ck_Ok p1_O X LX 10 p33x_631 := ck_ok_s (ck_E0) ck_X0 ck_l0 p33x_631_e
set_option maxRecDepth 100000 in
def p33x_632 : ck_Sum := ((1, 0, 0), 245, [.inr (.inr (.inl 1)), .inl (1, 8, none), .inl (0, 2, none)], ([], [], [(224, 3, 3, ck_one 9), (225, 0, 185, ck_one 0), (224, 1, 1, ck_one 6)]), ([], []), [(.inr (some (.inl (ck_one 0))), 245, ([], [], []))])
set_option maxRecDepth 100000 in
theorem p33x_632_e : ck_ok p1_O none [] [(10, [p33x_629, p33x_630, p33x_631])] 216 [] 118 p33x_632 = true := by decide +kernel
theorem p33x_632_s {X : Int → Int} {LX : Nat} : ck_Ok p1_O X LX 216 p33x_632 := ck_ok_s (ck_E1 (ck_S1 p33x_629_s (ck_S1 p33x_630_s (ck_S1 p33x_631_s ck_S0))) ck_E0) ck_X0 ck_l0 p33x_632_e
set_option maxRecDepth 100000 in
def p33x_633 : ck_Sum := ((0, 0, 0), 245, [.inr (.inr (.inl 224)), .inl (0, 7, none), .inl (0, 2, none), .inl (ck_one 0)], ([], [], [(224, 3, 3, ck_one 9), (225, 0, 185, ck_one 0), (224, 1, 1, ck_one 6)]), ([(225, 0, 44)], []), [(.inr none, 245, ([], [], [(225, 0, 185, ck_one 0)]))])
set_option maxRecDepth 100000 in
theorem p33x_633_e : ck_ok p1_O none [] [] 45 [] 116 p33x_633 = true := by decide +kernel
theorem p33x_633_s {X : Int → Int} {LX : Nat} : ck_Ok p1_O X LX 45 p33x_633 := ck_ok_s (ck_E0) ck_X0 ck_l0 p33x_633_e
set_option maxRecDepth 100000 in
def p33x_637 : ck_Sum := ((3, 0, 0), 245, [.inr (.inr (.inl 1)), .inl (ck_one 8), .inl (ck_one 1)], ([], [], [(224, 1, 1, ck_one 6), (224, 0, 0, ck_one 31), (224, 3, 3, ck_one 0), (222, 1, 1, ck_one 6), (222, 0, 0, ck_one 30), (222, 3, 3, ck_one 0), (1, 15, 15, ck_one 0), (220, 0, 0, ck_one 24), (220, 3, 3, ck_one 0), (10, 3, 3, ck_one 0), (3, 0, 0, ck_one 3), (223, 0, 179, ck_one 0), (225, 0, 185, ck_one 0)]), ([(1, 15, 15), (220, 3, 3), (221, 0, 47), (222, 3, 3), (223, 0, 179), (224, 3, 3), (225, 0, 185)], []), [(.inr (some (.inl (ck_one 0))), 245, ([], [], [(224, 3, 3, ck_one 9), (222, 3, 3, ck_one 8), (1, 15, 15, ck_one 1), (220, 3, 3, ck_one 0), (223, 0, 179, ck_one 0), (225, 0, 185, ck_one 0)]))])
set_option maxRecDepth 100000 in
theorem p33x_637_e : ck_ok p1_O none [] [(214, [p33x_570]), (24, [p33x_148]), (215, [p33x_572]), (25, [p33x_573]), (10, [p33x_628, p33x_636, p33x_635]), (216, [p33x_632]), (45, [p33x_633])] 213 [(28, [some (.inr (.inr (.inl 1))), some (.inl (ck_one 8)), some (.inl (ck_one 1)), some (.inl ((-1), 7, none)), none], ([], [], [(224, 3, 3, ck_one 9), (225, 0, 185, ck_one 0), (222, 3, 3, ck_one 8), (223, 0, 179, ck_one 0), (1, 15, 15, ck_one 1), (220, 3, 3, ck_one 0), (224, 1, 1, ck_one 6), (224, 0, 0, ck_one 31), (222, 1, 1, ck_one 6), (222, 0, 0, ck_one 30), (220, 0, 0, ck_one 24), (10, 3, 3, ck_one 0), (3, 0, 0, ck_one 3)]), 100, .inl 3, false), (35, [some (.inr (.inr (.inl 1))), some (.inl (ck_one 8)), some (.inl (ck_one 1)), some (.inl (0, 7, some (100, 0))), some (.inl (0, 3, none))], ([], [], [(224, 3, 3, ck_one 9), (225, 0, 185, ck_one 0), (222, 3, 3, ck_one 8), (223, 0, 179, ck_one 0), (1, 15, 15, ck_one 1), (220, 3, 3, ck_one 0), (224, 1, 1, ck_one 6), (224, 0, 0, ck_one 31), (222, 1, 1, ck_one 6), (222, 0, 0, ck_one 30), (220, 0, 0, ck_one 24), (10, 3, 3, ck_one 0), (3, 0, 0, ck_one 3)]), 300, .inl 4, true), (94, [some (.inr (.inr (.inl 1))), some (.inl (ck_one 8)), some (.inl (ck_one 1)), some (.inl (ck_one 0)), some (.inl (1, 3, none))], ([], [], [(224, 3, 3, ck_one 9), (225, 0, 185, ck_one 0), (222, 3, 3, ck_one 8), (223, 0, 179, ck_one 0), (1, 15, 15, ck_one 1), (220, 3, 3, ck_one 0), (224, 1, 1, ck_one 6), (224, 0, 0, ck_one 31), (222, 1, 1, ck_one 6), (222, 0, 0, ck_one 30), (220, 0, 0, ck_one 24), (10, 3, 3, ck_one 0), (3, 0, 0, ck_one 3)]), 500, .inl 4, true)] 330 p33x_637 = true := by decide +kernel
theorem p33x_637_s {X : Int → Int} {LX : Nat} : ck_Ok p1_O X LX 213 p33x_637 := ck_ok_s (ck_E1 (ck_S1 p33x_570_s ck_S0) (ck_E1 (ck_S1 p33x_148_s ck_S0) (ck_E1 (ck_S1 p33x_572_s ck_S0) (ck_E1 (ck_S1 p33x_573_s ck_S0) (ck_E1 (ck_S1 p33x_628_s (ck_S1 p33x_636_s (ck_S1 p33x_635_s ck_S0))) (ck_E1 (ck_S1 p33x_632_s ck_S0) (ck_E1 (ck_S1 p33x_633_s ck_S0) ck_E0))))))) ck_X0 ck_l0 p33x_637_e
set_option maxRecDepth 100000 in
def p33x_638 : ck_Sum := ((4, 0, 0), 245, [.inr (.inr (.inl 1)), .inl (ck_one 8), .inl (ck_one 1), .inr (.inr (.inl 245))], ([], [], [(224, 1, 1, ck_one 6), (224, 0, 0, ck_one 31), (224, 3, 3, ck_one 0), (222, 1, 1, ck_one 6), (222, 0, 0, ck_one 30), (222, 3, 3, ck_one 0), (1, 15, 15, ck_one 0), (220, 0, 0, ck_one 24), (220, 3, 3, ck_one 0), (10, 3, 3, ck_one 0), (3, 0, 0, ck_one 3), (223, 0, 179, ck_one 0), (225, 0, 185, ck_one 0)]), ([(1, 15, 15), (220, 3, 3), (221, 0, 47), (222, 3, 3), (223, 0, 179), (224, 3, 3), (225, 0, 185), (245, 0, 0)], []), [(.inr (some (.inl (ck_one 0))), 245, ([], [], [(245, 0, 0, ck_one 0), (224, 3, 3, ck_one 9), (222, 3, 3, ck_one 8), (1, 15, 15, ck_one 1), (220, 3, 3, ck_one 0), (223, 0, 179, ck_one 0), (225, 0, 185, ck_one 0)]))])
set_option maxRecDepth 100000 in
theorem p33x_638_e : ck_ok p1_O none [] [(213, [p33x_637])] 212 [] 92 p33x_638 = true := by decide +kernel
theorem p33x_638_s {X : Int → Int} {LX : Nat} : ck_Ok p1_O X LX 212 p33x_638 := ck_ok_s (ck_E1 (ck_S1 p33x_637_s ck_S0) ck_E0) ck_X0 ck_l0 p33x_638_e
set_option maxRecDepth 100000 in
def p33x_658 : ck_Sum := ((3, 0, 0), 245, [.inr (.inr (.inl 1)), .inl (ck_one 8), .inl (ck_one 0)], ([], [], [(224, 1, 1, ck_one 6), (224, 0, 0, ck_one 31), (224, 3, 3, ck_one 0), (222, 1, 1, ck_one 6), (222, 0, 0, ck_one 30), (222, 3, 3, ck_one 0), (1, 15, 15, ck_one 0), (220, 0, 0, ck_one 24), (220, 3, 3, ck_one 0), (10, 3, 3, ck_one 0), (3, 0, 0, ck_one 3), (223, 0, 179, ck_one 0), (225, 0, 185, ck_one 0)]), ([(1, 15, 15), (220, 3, 3), (221, 0, 47), (222, 3, 3), (223, 0, 179), (224, 3, 3), (225, 0, 185)], []), [(.inr (some (.inl (ck_one 0))), 245, ([], [], [(224, 3, 3, ck_one 9), (222, 3, 3, ck_one 8), (1, 15, 15, ck_one 1), (220, 3, 3, ck_one 0), (223, 0, 179, ck_one 0), (225, 0, 185, ck_one 0)]))])
set_option maxRecDepth 100000 in
theorem p33x_658_e : ck_ok p1_O none [] [(214, [p33x_570]), (24, [p33x_148]), (215, [p33x_572]), (25, [p33x_573]), (10, [p33x_628, p33x_635, p33x_636]), (216, [p33x_632]), (45, [p33x_633])] 213 [(28, [some (.inr (.inr (.inl 1))), some (.inl (ck_one 8)), some (.inl (ck_one 0)), some (.inl ((-1), 7, none)), none], ([], [], [(224, 3, 3, ck_one 9), (225, 0, 185, ck_one 0), (222, 3, 3, ck_one 8), (223, 0, 179, ck_one 0), (1, 15, 15, ck_one 1), (220, 3, 3, ck_one 0), (224, 1, 1, ck_one 6), (224, 0, 0, ck_one 31), (222, 1, 1, ck_one 6), (222, 0, 0, ck_one 30), (220, 0, 0, ck_one 24), (10, 3, 3, ck_one 0), (3, 0, 0, ck_one 3)]), 100, .inl 3, false), (35, [some (.inr (.inr (.inl 1))), some (.inl (ck_one 8)), some (.inl (ck_one 0)), some (.inl (0, 7, some (100, 0))), some (.inl (0, 3, none))], ([], [], [(224, 3, 3, ck_one 9), (225, 0, 185, ck_one 0), (222, 3, 3, ck_one 8), (223, 0, 179, ck_one 0), (1, 15, 15, ck_one 1), (220, 3, 3, ck_one 0), (224, 1, 1, ck_one 6), (224, 0, 0, ck_one 31), (222, 1, 1, ck_one 6), (222, 0, 0, ck_one 30), (220, 0, 0, ck_one 24), (10, 3, 3, ck_one 0), (3, 0, 0, ck_one 3)]), 300, .inl 4, true), (94, [some (.inr (.inr (.inl 1))), some (.inl (ck_one 8)), some (.inl (ck_one 0)), some (.inl (ck_one 0)), some (.inl (1, 3, none))], ([], [], [(224, 3, 3, ck_one 9), (225, 0, 185, ck_one 0), (222, 3, 3, ck_one 8), (223, 0, 179, ck_one 0), (1, 15, 15, ck_one 1), (220, 3, 3, ck_one 0), (224, 1, 1, ck_one 6), (224, 0, 0, ck_one 31), (222, 1, 1, ck_one 6), (222, 0, 0, ck_one 30), (220, 0, 0, ck_one 24), (10, 3, 3, ck_one 0), (3, 0, 0, ck_one 3)]), 500, .inl 4, true)] 330 p33x_658 = true := by decide +kernel
theorem p33x_658_s {X : Int → Int} {LX : Nat} : ck_Ok p1_O X LX 213 p33x_658 := ck_ok_s (ck_E1 (ck_S1 p33x_570_s ck_S0) (ck_E1 (ck_S1 p33x_148_s ck_S0) (ck_E1 (ck_S1 p33x_572_s ck_S0) (ck_E1 (ck_S1 p33x_573_s ck_S0) (ck_E1 (ck_S1 p33x_628_s (ck_S1 p33x_635_s (ck_S1 p33x_636_s ck_S0))) (ck_E1 (ck_S1 p33x_632_s ck_S0) (ck_E1 (ck_S1 p33x_633_s ck_S0) ck_E0))))))) ck_X0 ck_l0 p33x_658_e
set_option maxRecDepth 100000 in
def p33x_659 : ck_Sum := ((4, 0, 0), 245, [.inr (.inr (.inl 1)), .inl (ck_one 8), .inl (ck_one 0), .inr (.inr (.inl 245))], ([], [], [(224, 1, 1, ck_one 6), (224, 0, 0, ck_one 31), (224, 3, 3, ck_one 0), (222, 1, 1, ck_one 6), (222, 0, 0, ck_one 30), (222, 3, 3, ck_one 0), (1, 15, 15, ck_one 0), (220, 0, 0, ck_one 24), (220, 3, 3, ck_one 0), (10, 3, 3, ck_one 0), (3, 0, 0, ck_one 3), (223, 0, 179, ck_one 0), (225, 0, 185, ck_one 0)]), ([(1, 15, 15), (220, 3, 3), (221, 0, 47), (222, 3, 3), (223, 0, 179), (224, 3, 3), (225, 0, 185), (245, 0, 0)], []), [(.inr (some (.inl (ck_one 0))), 245, ([], [], [(245, 0, 0, ck_one 0), (224, 3, 3, ck_one 9), (222, 3, 3, ck_one 8), (1, 15, 15, ck_one 1), (220, 3, 3, ck_one 0), (223, 0, 179, ck_one 0), (225, 0, 185, ck_one 0)]))])
set_option maxRecDepth 100000 in
theorem p33x_659_e : ck_ok p1_O none [] [(213, [p33x_658])] 212 [] 92 p33x_659 = true := by decide +kernel
theorem p33x_659_s {X : Int → Int} {LX : Nat} : ck_Ok p1_O X LX 212 p33x_659 := ck_ok_s (ck_E1 (ck_S1 p33x_658_s ck_S0) ck_E0) ck_X0 ck_l0 p33x_659_e
set_option maxRecDepth 100000 in
def p33x_661 : ck_Sum := ((0, 0, 0), 245, [.inr (.inr (.inl 1)), .inl (ck_one 9)], ([], [], []), ([], []), [(.inr none, 245, ([], [], []))])
set_option maxRecDepth 100000 in
theorem p33x_661_e : ck_ok p1_O none [] [] 214 [] 84 p33x_661 = true := by decide +kernel
theorem p33x_661_s {X : Int → Int} {LX : Nat} : ck_Ok p1_O X LX 214 p33x_661 := ck_ok_s (ck_E0) ck_X0 ck_l0 p33x_661_e
set_option maxRecDepth 100000 in
def p33x_662 : ck_Sum := ((1, 0, 0), 245, [.inr (.inr (.inl 222)), .inl (ck_one 9)], ([], [], [(222, 0, 0, ck_one 30), (223, 0, 179, ck_one 0)]), ([(222, 3, 3), (223, 0, 179)], []), [(.inr none, 245, ([], [], [(222, 3, 3, ck_one 9), (223, 0, 179, ck_one 0)]))])
set_option maxRecDepth 100000 in
theorem p33x_662_e : ck_ok p1_O none [] [(8, [p33x_149])] 25 [] 96 p33x_662 = true := by decide +kernel
theorem p33x_662_s {X : Int → Int} {LX : Nat} : ck_Ok p1_O X LX 25 p33x_662 := ck_ok_s (ck_E1 (ck_S1 p33x_149_s ck_S0) ck_E0) ck_X0 ck_l0 p33x_662_e
set_option maxRecDepth 100000 in
def p33x_663 : ck_Sum := ((2, 0, 0), 245, [.inr (.inr (.inl 1)), .inl (ck_one 9)], ([], [], [(220, 3, 3, ck_one 0), (222, 0, 0, ck_one 30), (222, 3, 3, ck_one 0), (223, 0, 179, ck_one 0)]), ([(222, 3, 3), (223, 0, 179)], []), [(.inr none, 245, ([], [], [(222, 3, 3, ck_one 9), (223, 0, 179, ck_one 0)]))])
set_option maxRecDepth 100000 in
theorem p33x_663_e : ck_ok p1_O none [] [(25, [p33x_662]), (9, [p33x_147])] 215 [(10, [some (.inr (.inr (.inl 1))), some (.inl (ck_one 9)), some (.inl (ck_one 0)), none, none], ([], [], [(222, 3, 3, ck_one 9), (223, 0, 179, ck_one 0), (220, 3, 3, ck_one 0), (222, 0, 0, ck_one 30)]), 100, .inl 2, true)] 118 p33x_663 = true := by decide +kernel
theorem p33x_663_s {X : Int → Int} {LX : Nat} : ck_Ok p1_O X LX 215 p33x_663 := ck_ok_s (ck_E1 (ck_S1 p33x_662_s ck_S0) (ck_E1 (ck_S1 p33x_147_s ck_S0) ck_E0)) ck_X0 ck_l0 p33x_663_e
set_option maxRecDepth 100000 in
def p33x_664 : ck_Sum := ((1, 0, 0), 245, [.inr (.inr (.inl 224)), .inl (ck_one 10)], ([], [], [(224, 0, 0, ck_one 31), (225, 0, 185, ck_one 0)]), ([(224, 3, 3), (225, 0, 185)], []), [(.inr none, 245, ([], [], [(224, 3, 3, ck_one 10), (225, 0, 185, ck_one 0)]))])
set_option maxRecDepth 100000 in
theorem p33x_664_e : ck_ok p1_O none [] [(8, [p33x_152])] 25 [] 96 p33x_664 = true := by decide +kernel
theorem p33x_664_s {X : Int → Int} {LX : Nat} : ck_Ok p1_O X LX 25 p33x_664 := ck_ok_s (ck_E1 (ck_S1 p33x_152_s ck_S0) ck_E0) ck_X0 ck_l0 p33x_664_e
set_option maxRecDepth 100000 in
def p33x_725 : ck_Sum := ((0, 0, 0), 245, [.inr (.inr (.inl 222)), .inl (0, 8, none), .inl (0, 2, none)], ([], [], [(222, 3, 3, ck_one 9), (223, 0, 179, ck_one 0), (222, 1, 1, ck_one 6)]), ([], []), [(.inr (some (.inl (ck_one 0))), 245, ([], [], []))])
set_option maxRecDepth 100000 in
theorem p33x_725_e : ck_ok p1_O none [] [] 10 [] 114 p33x_725 = true := by decide +kernel
theorem p33x_725_s {X : Int → Int} {LX : Nat} : ck_Ok p1_O X LX 10 p33x_725 := ck_ok_s (ck_E0) ck_X0 ck_l0 p33x_725_e
set_option maxRecDepth 100000 in
def p33x_733 : ck_Sum := ((0, 0, 0), 245, [.inr (.inr (.inl 224)), .inl (ck_one 0), .inl (1, 2, none)], ([], [], [(224, 3, 3, ck_one 10), (225, 0, 185, ck_one 0), (224, 1, 1, ck_one 6)]), ([], []), [(.inr (some (.inl (ck_one 0))), 245, ([], [], []))])
set_option maxRecDepth 100000 in
theorem p33x_733_e : ck_ok p1_O none [] [] 10 [] 114 p33x_733 = true := by decide +kernel
theorem p33x_733_s {X : Int → Int} {LX : Nat} : ck_Ok p1_O X LX 10 p33x_733 := ck_ok_s (ck_E0) ck_X0 ck_l0 p33x_733_e
set_option maxRecDepth 100000 in
def p33x_732 : ck_Sum := ((0, 0, 0), 245, [.inr (.inr (.inl 224)), .inl (ck_one 0), .inl (ck_one 0)], ([], [], [(224, 3, 3, ck_one 10), (225, 0, 185, ck_one 0), (224, 1, 1, ck_one 6)]), ([], []), [(.inr (some (.inl (ck_one 0))), 245, ([], [], []))])
set_option maxRecDepth 100000 in
theorem p33x_732_e : ck_ok p1_O none [] [] 10 [] 114 p33x_732 = true := by decide +kernel
theorem p33x_732_s {X : Int → Int} {LX : Nat} : ck_Ok p1_O X LX 10 p33x_732 := ck_ok_s (ck_E0) ck_X0 ck_l0 p33x_732_e
set_option maxRecDepth 100000 in
def p33x_726 : ck_Sum := ((0, 0, 0), 245, [.inr (.inr (.inl 224)), .inl (1, 9, none), .inl ((-1), 1, none)], ([], [], [(224, 3, 3, ck_one 10), (225, 0, 185, ck_one 0), (224, 1, 1, ck_one 6)]), ([], []), [(.inr (some (.inl (ck_one (-1)))), 245, ([], [], [])), (.inr (some (.inl (ck_one 0))), 245, ([], [], []))])
set_option maxRecDepth 100000 in
theorem p33x_726_e : ck_ok p1_O none [] [] 10 [] 114 p33x_726 = true := by decide +kernel
theorem p33x_726_s {X : Int → Int} {LX : Nat} : ck_Ok p1_O X LX 10 p33x_726 := ck_ok_s (ck_E0) ck_X0 ck_l0 p33x_726_e
set_option maxRecDepth 100000 in
def p33x_727 : ck_Sum := ((0, 0, 0), 245, [.inr (.inr (.inl 224)), .inl (1, 9, none), .inl (1, 3, none)], ([], [], [(224, 3, 3, ck_one 10), (225, 0, 185, ck_one 0), (224, 1, 1, ck_one 6)]), ([], []), [(.inr (some (.inl (ck_one 0))), 245, ([], [], []))])
set_option maxRecDepth 100000 in
theorem p33x_727_e : ck_ok p1_O none [] [] 10 [] 114 p33x_727 = true := by decide +kernel
theorem p33x_727_s {X : Int → Int} {LX : Nat} : ck_Ok p1_O X LX 10 p33x_727 := ck_ok_s (ck_E0) ck_X0 ck_l0 p33x_727_e
set_option maxRecDepth 100000 in
def p33x_728 : ck_Sum := ((0, 0, 0), 245, [.inr (.inr (.inl 224)), .inl (1, 9, none), .inl (0, 2, none)], ([], [], [(224, 3, 3, ck_one 10), (225, 0, 185, ck_one 0), (224, 1, 1, ck_one 6)]), ([], []), [(.inr (some (.inl (ck_one 0))), 245, ([], [], []))])
set_option maxRecDepth 100000 in
theorem p33x_728_e : ck_ok p1_O none [] [] 10 [] 114 p33x_728 = true := by decide +kernel
theorem p33x_728_s {X : Int → Int} {LX : Nat} : ck_Ok p1_O X LX 10 p33x_728 := ck_ok_s (ck_E0) ck_X0 ck_l0 p33x_728_e
set_option maxRecDepth 100000 in
def p33x_729 : ck_Sum := ((1, 0, 0), 245, [.inr (.inr (.inl 1)), .inl (1, 9, none), .inl (0, 2, none)], ([], [], [(224, 3, 3, ck_one 10), (225, 0, 185, ck_one 0), (224, 1, 1, ck_one 6)]), ([], []), [(.inr (some (.inl (ck_one 0))), 245, ([], [], []))])
set_option maxRecDepth 100000 in
theorem p33x_729_e : ck_ok p1_O none [] [(10, [p33x_726, p33x_727, p33x_728])] 216 [] 118 p33x_729 = true := by decide +kernel
theorem p33x_729_s {X : Int → Int} {LX : Nat} : ck_Ok p1_O X LX 216 p33x_729 := ck_ok_s (ck_E1 (ck_S1 p33x_726_s (ck_S1 p33x_727_s (ck_S1 p33x_728_s ck_S0))) ck_E0) ck_X0 ck_l0 p33x_729_e
set_option maxRecDepth 100000 in
def p33x_730 : ck_Sum := ((0, 0, 0), 245, [.inr (.inr (.inl 224)), .inl (0, 8, none), .inl (0, 2, none), .inl (ck_one 0)], ([], [], [(224, 3, 3, ck_one 10), (225, 0, 185, ck_one 0), (224, 1, 1, ck_one 6)]), ([(225, 0, 50)], []), [(.inr none, 245, ([], [], [(225, 0, 185, ck_one 0)]))])
set_option maxRecDepth 100000 in
theorem p33x_730_e : ck_ok p1_O none [] [] 45 [] 116 p33x_730 = true := by decide +kernel
theorem p33x_730_s {X : Int → Int} {LX : Nat} : ck_Ok p1_O X LX 45 p33x_730 := ck_ok_s (ck_E0) ck_X0 ck_l0 p33x_730_e
set_option maxRecDepth 100000 in
def p33x_734 : ck_Sum := ((3, 0, 0), 245, [.inr (.inr (.inl 1)), .inl (ck_one 9), .inl (ck_one 1)], ([], [], [(224, 1, 1, ck_one 6), (224, 0, 0, ck_one 31), (224, 3, 3, ck_one 0), (222, 1, 1, ck_one 6), (222, 0, 0, ck_one 30), (222, 3, 3, ck_one 0), (1, 15, 15, ck_one 0), (220, 0, 0, ck_one 24), (220, 3, 3, ck_one 0), (10, 3, 3, ck_one 0), (3, 0, 0, ck_one 3), (223, 0, 179, ck_one 0), (225, 0, 185, ck_one 0)]), ([(1, 15, 15), (220, 3, 3), (221, 0, 47), (222, 3, 3), (223, 0, 179), (224, 3, 3), (225, 0, 185)], []), [(.inr (some (.inl (ck_one 0))), 245, ([], [], [(224, 3, 3, ck_one 10), (222, 3, 3, ck_one 9), (1, 15, 15, ck_one 1), (220, 3, 3, ck_one 0), (223, 0, 179, ck_one 0), (225, 0, 185, ck_one 0)]))])
set_option maxRecDepth 100000 in
theorem p33x_734_e : ck_ok p1_O none [] [(214, [p33x_661]), (24, [p33x_148]), (215, [p33x_663]), (25, [p33x_664]), (10, [p33x_725, p33x_733, p33x_732]), (216, [p33x_729]), (45, [p33x_730])] 213 [(28, [some (.inr (.inr (.inl 1))), some (.inl (ck_one 9)), some (.inl (ck_one 1)), some (.inl ((-1), 8, none)), none], ([], [], [(224, 3, 3, ck_one 10), (225, 0, 185, ck_one 0), (222, 3, 3, ck_one 9), (223, 0, 179, ck_one 0), (1, 15, 15, ck_one 1), (220, 3, 3, ck_one 0), (224, 1, 1, ck_one 6), (224, 0, 0, ck_one 31), (222, 1, 1, ck_one 6), (222, 0, 0, ck_one 30), (220, 0, 0, ck_one 24), (10, 3, 3, ck_one 0), (3, 0, 0, ck_one 3)]), 100, .inl 3, false), (35, [some (.inr (.inr (.inl 1))), some (.inl (ck_one 9)), some (.inl (ck_one 1)), some (.inl (0, 8, some (100, 0))), some (.inl (0, 3, none))], ([], [], [(224, 3, 3, ck_one 10), (225, 0, 185, ck_one 0), (222, 3, 3, ck_one 9), (223, 0, 179, ck_one 0), (1, 15, 15, ck_one 1), (220, 3, 3, ck_one 0), (224, 1, 1, ck_one 6), (224, 0, 0, ck_one 31), (222, 1, 1, ck_one 6), (222, 0, 0, ck_one 30), (220, 0, 0, ck_one 24), (10, 3, 3, ck_one 0), (3, 0, 0, ck_one 3)]), 300, .inl 4, true), (94, [some (.inr (.inr (.inl 1))), some (.inl (ck_one 9)), some (.inl (ck_one 1)), some (.inl (ck_one 0)), some (.inl (1, 3, none))], ([], [], [(224, 3, 3, ck_one 10), (225, 0, 185, ck_one 0), (222, 3, 3, ck_one 9), (223, 0, 179, ck_one 0), (1, 15, 15, ck_one 1), (220, 3, 3, ck_one 0), (224, 1, 1, ck_one 6), (224, 0, 0, ck_one 31), (222, 1, 1, ck_one 6), (222, 0, 0, ck_one 30), (220, 0, 0, ck_one 24), (10, 3, 3, ck_one 0), (3, 0, 0, ck_one 3)]), 500, .inl 4, true)] 330 p33x_734 = true := by decide +kernel
theorem p33x_734_s {X : Int → Int} {LX : Nat} : ck_Ok p1_O X LX 213 p33x_734 := ck_ok_s (ck_E1 (ck_S1 p33x_661_s ck_S0) (ck_E1 (ck_S1 p33x_148_s ck_S0) (ck_E1 (ck_S1 p33x_663_s ck_S0) (ck_E1 (ck_S1 p33x_664_s ck_S0) (ck_E1 (ck_S1 p33x_725_s (ck_S1 p33x_733_s (ck_S1 p33x_732_s ck_S0))) (ck_E1 (ck_S1 p33x_729_s ck_S0) (ck_E1 (ck_S1 p33x_730_s ck_S0) ck_E0))))))) ck_X0 ck_l0 p33x_734_e
set_option maxRecDepth 100000 in
def p33x_735 : ck_Sum := ((4, 0, 0), 245, [.inr (.inr (.inl 1)), .inl (ck_one 9), .inl (ck_one 1), .inr (.inr (.inl 245))], ([], [], [(224, 1, 1, ck_one 6), (224, 0, 0, ck_one 31), (224, 3, 3, ck_one 0), (222, 1, 1, ck_one 6), (222, 0, 0, ck_one 30), (222, 3, 3, ck_one 0), (1, 15, 15, ck_one 0), (220, 0, 0, ck_one 24), (220, 3, 3, ck_one 0), (10, 3, 3, ck_one 0), (3, 0, 0, ck_one 3), (223, 0, 179, ck_one 0), (225, 0, 185, ck_one 0)]), ([(1, 15, 15), (220, 3, 3), (221, 0, 47), (222, 3, 3), (223, 0, 179), (224, 3, 3), (225, 0, 185), (245, 0, 0)], []), [(.inr (some (.inl (ck_one 0))), 245, ([], [], [(245, 0, 0, ck_one 0), (224, 3, 3, ck_one 10), (222, 3, 3, ck_one 9), (1, 15, 15, ck_one 1), (220, 3, 3, ck_one 0), (223, 0, 179, ck_one 0), (225, 0, 185, ck_one 0)]))])
set_option maxRecDepth 100000 in
theorem p33x_735_e : ck_ok p1_O none [] [(213, [p33x_734])] 212 [] 92 p33x_735 = true := by decide +kernel
theorem p33x_735_s {X : Int → Int} {LX : Nat} : ck_Ok p1_O X LX 212 p33x_735 := ck_ok_s (ck_E1 (ck_S1 p33x_734_s ck_S0) ck_E0) ck_X0 ck_l0 p33x_735_e
set_option maxRecDepth 100000 in
def p33x_757 : ck_Sum := ((3, 0, 0), 245, [.inr (.inr (.inl 1)), .inl (ck_one 9), .inl (ck_one 0)], ([], [], [(224, 1, 1, ck_one 6), (224, 0, 0, ck_one 31), (224, 3, 3, ck_one 0), (222, 1, 1, ck_one 6), (222, 0, 0, ck_one 30), (222, 3, 3, ck_one 0), (1, 15, 15, ck_one 0), (220, 0, 0, ck_one 24), (220, 3, 3, ck_one 0), (10, 3, 3, ck_one 0), (3, 0, 0, ck_one 3), (223, 0, 179, ck_one 0), (225, 0, 185, ck_one 0)]), ([(1, 15, 15), (220, 3, 3), (221, 0, 47), (222, 3, 3), (223, 0, 179), (224, 3, 3), (225, 0, 185)], []), [(.inr (some (.inl (ck_one 0))), 245, ([], [], [(224, 3, 3, ck_one 10), (222, 3, 3, ck_one 9), (1, 15, 15, ck_one 1), (220, 3, 3, ck_one 0), (223, 0, 179, ck_one 0), (225, 0, 185, ck_one 0)]))])
set_option maxRecDepth 100000 in
theorem p33x_757_e : ck_ok p1_O none [] [(214, [p33x_661]), (24, [p33x_148]), (215, [p33x_663]), (25, [p33x_664]), (10, [p33x_725, p33x_732, p33x_733]), (216, [p33x_729]), (45, [p33x_730])] 213 [(28, [some (.inr (.inr (.inl 1))), some (.inl (ck_one 9)), some (.inl (ck_one 0)), some (.inl ((-1), 8, none)), none], ([], [], [(224, 3, 3, ck_one 10), (225, 0, 185, ck_one 0), (222, 3, 3, ck_one 9), (223, 0, 179, ck_one 0), (1, 15, 15, ck_one 1), (220, 3, 3, ck_one 0), (224, 1, 1, ck_one 6), (224, 0, 0, ck_one 31), (222, 1, 1, ck_one 6), (222, 0, 0, ck_one 30), (220, 0, 0, ck_one 24), (10, 3, 3, ck_one 0), (3, 0, 0, ck_one 3)]), 100, .inl 3, false), (35, [some (.inr (.inr (.inl 1))), some (.inl (ck_one 9)), some (.inl (ck_one 0)), some (.inl (0, 8, some (100, 0))), some (.inl (0, 3, none))], ([], [], [(224, 3, 3, ck_one 10), (225, 0, 185, ck_one 0), (222, 3, 3, ck_one 9), (223, 0, 179, ck_one 0), (1, 15, 15, ck_one 1), (220, 3, 3, ck_one 0), (224, 1, 1, ck_one 6), (224, 0, 0, ck_one 31), (222, 1, 1, ck_one 6), (222, 0, 0, ck_one 30), (220, 0, 0, ck_one 24), (10, 3, 3, ck_one 0), (3, 0, 0, ck_one 3)]), 300, .inl 4, true), (94, [some (.inr (.inr (.inl 1))), some (.inl (ck_one 9)), some (.inl (ck_one 0)), some (.inl (ck_one 0)), some (.inl (1, 3, none))], ([], [], [(224, 3, 3, ck_one 10), (225, 0, 185, ck_one 0), (222, 3, 3, ck_one 9), (223, 0, 179, ck_one 0), (1, 15, 15, ck_one 1), (220, 3, 3, ck_one 0), (224, 1, 1, ck_one 6), (224, 0, 0, ck_one 31), (222, 1, 1, ck_one 6), (222, 0, 0, ck_one 30), (220, 0, 0, ck_one 24), (10, 3, 3, ck_one 0), (3, 0, 0, ck_one 3)]), 500, .inl 4, true)] 330 p33x_757 = true := by decide +kernel
theorem p33x_757_s {X : Int → Int} {LX : Nat} : ck_Ok p1_O X LX 213 p33x_757 := ck_ok_s (ck_E1 (ck_S1 p33x_661_s ck_S0) (ck_E1 (ck_S1 p33x_148_s ck_S0) (ck_E1 (ck_S1 p33x_663_s ck_S0) (ck_E1 (ck_S1 p33x_664_s ck_S0) (ck_E1 (ck_S1 p33x_725_s (ck_S1 p33x_732_s (ck_S1 p33x_733_s ck_S0))) (ck_E1 (ck_S1 p33x_729_s ck_S0) (ck_E1 (ck_S1 p33x_730_s ck_S0) ck_E0))))))) ck_X0 ck_l0 p33x_757_e
set_option maxRecDepth 100000 in
def p33x_758 : ck_Sum := ((4, 0, 0), 245, [.inr (.inr (.inl 1)), .inl (ck_one 9), .inl (ck_one 0), .inr (.inr (.inl 245))], ([], [], [(224, 1, 1, ck_one 6), (224, 0, 0, ck_one 31), (224, 3, 3, ck_one 0), (222, 1, 1, ck_one 6), (222, 0, 0, ck_one 30), (222, 3, 3, ck_one 0), (1, 15, 15, ck_one 0), (220, 0, 0, ck_one 24), (220, 3, 3, ck_one 0), (10, 3, 3, ck_one 0), (3, 0, 0, ck_one 3), (223, 0, 179, ck_one 0), (225, 0, 185, ck_one 0)]), ([(1, 15, 15), (220, 3, 3), (221, 0, 47), (222, 3, 3), (223, 0, 179), (224, 3, 3), (225, 0, 185), (245, 0, 0)], []), [(.inr (some (.inl (ck_one 0))), 245, ([], [], [(245, 0, 0, ck_one 0), (224, 3, 3, ck_one 10), (222, 3, 3, ck_one 9), (1, 15, 15, ck_one 1), (220, 3, 3, ck_one 0), (223, 0, 179, ck_one 0), (225, 0, 185, ck_one 0)]))])
set_option maxRecDepth 100000 in
theorem p33x_758_e : ck_ok p1_O none [] [(213, [p33x_757])] 212 [] 92 p33x_758 = true := by decide +kernel
theorem p33x_758_s {X : Int → Int} {LX : Nat} : ck_Ok p1_O X LX 212 p33x_758 := ck_ok_s (ck_E1 (ck_S1 p33x_757_s ck_S0) ck_E0) ck_X0 ck_l0 p33x_758_e
set_option maxRecDepth 100000 in
def p33x_760 : ck_Sum := ((0, 0, 0), 245, [.inr (.inr (.inl 1)), .inl (ck_one 10)], ([], [], []), ([], []), [(.inr none, 245, ([], [], []))])
set_option maxRecDepth 100000 in
theorem p33x_760_e : ck_ok p1_O none [] [] 214 [] 84 p33x_760 = true := by decide +kernel
theorem p33x_760_s {X : Int → Int} {LX : Nat} : ck_Ok p1_O X LX 214 p33x_760 := ck_ok_s (ck_E0) ck_X0 ck_l0 p33x_760_e
set_option maxRecDepth 100000 in
def p33x_761 : ck_Sum := ((1, 0, 0), 245, [.inr (.inr (.inl 222)), .inl (ck_one 10)], ([], [], [(222, 0, 0, ck_one 30), (223, 0, 179, ck_one 0)]), ([(222, 3, 3), (223, 0, 179)], []), [(.inr none, 245, ([], [], [(222, 3, 3, ck_one 10), (223, 0, 179, ck_one 0)]))])
set_option maxRecDepth 100000 in
theorem p33x_761_e : ck_ok p1_O none [] [(8, [p33x_149])] 25 [] 96 p33x_761 = true := by decide +kernel
theorem p33x_761_s {X : Int → Int} {LX : Nat} : ck_Ok p1_O X LX 25 p33x_761 := ck_ok_s (ck_E1 (ck_S1 p33x_149_s ck_S0) ck_E0) ck_X0 ck_l0 p33x_761_e
set_option maxRecDepth 100000 in
def p33x_762 : ck_Sum := ((2, 0, 0), 245, [.inr (.inr (.inl 1)), .inl (ck_one 10)], ([], [], [(220, 3, 3, ck_one 0), (222, 0, 0, ck_one 30), (222, 3, 3, ck_one 0), (223, 0, 179, ck_one 0)]), ([(222, 3, 3), (223, 0, 179)], []), [(.inr none, 245, ([], [], [(222, 3, 3, ck_one 10), (223, 0, 179, ck_one 0)]))])
set_option maxRecDepth 100000 in
theorem p33x_762_e : ck_ok p1_O none [] [(25, [p33x_761]), (9, [p33x_147])] 215 [(10, [some (.inr (.inr (.inl 1))), some (.inl (ck_one 10)), some (.inl (ck_one 0)), none, none], ([], [], [(222, 3, 3, ck_one 10), (223, 0, 179, ck_one 0), (220, 3, 3, ck_one 0), (222, 0, 0, ck_one 30)]), 100, .inl 2, true)] 118 p33x_762 = true := by decide +kernel
theorem p33x_762_s {X : Int → Int} {LX : Nat} : ck_Ok p1_O X LX 215 p33x_762 := ck_ok_s (ck_E1 (ck_S1 p33x_761_s ck_S0) (ck_E1 (ck_S1 p33x_147_s ck_S0) ck_E0)) ck_X0 ck_l0 p33x_762_e
set_option maxRecDepth 100000 in
def p33x_763 : ck_Sum := ((1, 0, 0), 245, [.inr (.inr (.inl 224)), .inl (ck_one 11)], ([], [], [(224, 0, 0, ck_one 31), (225, 0, 185, ck_one 0)]), ([(224, 3, 3), (225, 0, 185)], []), [(.inr none, 245, ([], [], [(224, 3, 3, ck_one 11), (225, 0, 185, ck_one 0)]))])
set_option maxRecDepth 100000 in
theorem p33x_763_e : ck_ok p1_O none [] [(8, [p33x_152])] 25 [] 96 p33x_763 = true := by decide +kernel
theorem p33x_763_s {X : Int → Int} {LX : Nat} : ck_Ok p1_O X LX 25 p33x_763 := ck_ok_s (ck_E1 (ck_S1 p33x_152_s ck_S0) ck_E0) ck_X0 ck_l0 p33x_763_e
set_option maxRecDepth 100000 in
def p33x_830 : ck_Sum := ((0, 0, 0), 245, [.inr (.inr (.inl 222)), .inl (0, 9, none), .inl (0, 2, none)], ([], [], [(222, 3, 3, ck_one 10), (223, 0, 179, ck_one 0), (222, 1, 1, ck_one 6)]), ([], []), [(.inr (some (.inl (ck_one 0))), 245, ([], [], []))])
set_option maxRecDepth 100000 in
theorem p33x_830_e : ck_ok p1_O none [] [] 10 [] 114 p33x_830 = true := by decide +kernel
theorem p33x_830_s {X : Int → Int} {LX : Nat} : ck_Ok p1_O X LX 10 p33x_830 := ck_ok_s (ck_E0) ck_X0 ck_l0 p33x_830_e
set_option maxRecDepth 100000 in
def p33x_838 : ck_Sum := ((0, 0, 0), 245, [.inr (.inr (.inl 224)), .inl (ck_one 0), .inl (1, 2, none)], ([], [], [(224, 3, 3, ck_one 11), (225, 0, 185, ck_one 0), (224, 1, 1, ck_one 6)]), ([], []), [(.inr (some (.inl (ck_one 0))), 245, ([], [], []))])
set_option maxRecDepth 100000 in
theorem p33x_838_e : ck_ok p1_O none [] [] 10 [] 114 p33x_838 = true := by decide +kernel
theorem p33x_838_s {X : Int → Int} {LX : Nat} : ck_Ok p1_O X LX 10 p33x_838 := ck_ok_s (ck_E0) ck_X0 ck_l0 p33x_838_e
set_option maxRecDepth 100000 in
def p33x_837 : ck_Sum := ((0, 0, 0), 245, [.inr (.inr (.inl 224)), .inl (ck_one 0), .inl (ck_one 0)], ([], [], [(224, 3, 3, ck_one 11), (225, 0, 185, ck_one 0), (224, 1, 1, ck_one 6)]), ([], []), [(.inr (some (.inl (ck_one 0))), 245, ([], [], []))])
set_option maxRecDepth 100000 in
theorem p33x_837_e : ck_ok p1_O none [] [] 10 [] 114 p33x_837 = true := by decide +kernel
theorem p33x_837_s {X : Int → Int} {LX : Nat} : ck_Ok p1_O X LX 10 p33x_837 := ck_ok_s (ck_E0) ck_X0 ck_l0 p33x_837_e
set_option maxRecDepth 100000 in
def p33x_831 : ck_Sum := ((0, 0, 0), 245, [.inr (.inr (.inl 224)), .inl (1, 10, none), .inl ((-1), 1, none)], ([], [], [(224, 3, 3, ck_one 11), (225, 0, 185, ck_one 0), (224, 1, 1, ck_one 6)]), ([], []), [(.inr (some (.inl (ck_one (-1)))), 245, ([], [], [])), (.inr (some (.inl (ck_one 0))), 245, ([], [], []))])
set_option maxRecDepth 100000 in
theorem p33x_831_e : ck_ok p1_O none [] [] 10 [] 114 p33x_831 = true := by decide +kernel
theorem p33x_831_s {X : Int → Int} {LX : Nat} : ck_Ok p1_O X LX 10 p33x_831 := ck_ok_s (ck_E0) ck_X0 ck_l0 p33x_831_e
set_option maxRecDepth 100000 in
def p33x_832 : ck_Sum := ((0, 0, 0), 245, [.inr (.inr (.inl 224)), .inl (1, 10, none), .inl (1, 3, none)], ([], [], [(224, 3, 3, ck_one 11), (225, 0, 185, ck_one 0), (224, 1, 1, ck_one 6)]), ([], []), [(.inr (some (.inl (ck_one 0))), 245, ([], [], []))])
set_option maxRecDepth 100000 in
theorem p33x_832_e : ck_ok p1_O none [] [] 10 [] 114 p33x_832 = true := by decide +kernel
theorem p33x_832_s {X : Int → Int} {LX : Nat} : ck_Ok p1_O X LX 10 p33x_832 := ck_ok_s (ck_E0) ck_X0 ck_l0 p33x_832_e
set_option maxRecDepth 100000 in
def p33x_833 : ck_Sum := ((0, 0, 0), 245, [.inr (.inr (.inl 224)), .inl (1, 10, none), .inl (0, 2, none)], ([], [], [(224, 3, 3, ck_one 11), (225, 0, 185, ck_one 0), (224, 1, 1, ck_one 6)]), ([], []), [(.inr (some (.inl (ck_one 0))), 245, ([], [], []))])
set_option maxRecDepth 100000 in
theorem p33x_833_e : ck_ok p1_O none [] [] 10 [] 114 p33x_833 = true := by decide +kernel
theorem p33x_833_s {X : Int → Int} {LX : Nat} : ck_Ok p1_O X LX 10 p33x_833 := ck_ok_s (ck_E0) ck_X0 ck_l0 p33x_833_e
set_option maxRecDepth 100000 in
def p33x_834 : ck_Sum := ((1, 0, 0), 245, [.inr (.inr (.inl 1)), .inl (1, 10, none), .inl (0, 2, none)], ([], [], [(224, 3, 3, ck_one 11), (225, 0, 185, ck_one 0), (224, 1, 1, ck_one 6)]), ([], []), [(.inr (some (.inl (ck_one 0))), 245, ([], [], []))])
set_option maxRecDepth 100000 in
theorem p33x_834_e : ck_ok p1_O none [] [(10, [p33x_831, p33x_832, p33x_833])] 216 [] 118 p33x_834 = true := by decide +kernel
theorem p33x_834_s {X : Int → Int} {LX : Nat} : ck_Ok p1_O X LX 216 p33x_834 := ck_ok_s (ck_E1 (ck_S1 p33x_831_s (ck_S1 p33x_832_s (ck_S1 p33x_833_s ck_S0))) ck_E0) ck_X0 ck_l0 p33x_834_e
set_option maxRecDepth 100000 in
def p33x_835 : ck_Sum := ((0, 0, 0), 245, [.inr (.inr (.inl 224)), .inl (0, 9, none), .inl (0, 2, none), .inl (ck_one 0)], ([], [], [(224, 3, 3, ck_one 11), (225, 0, 185, ck_one 0), (224, 1, 1, ck_one 6)]), ([(225, 0, 56)], []), [(.inr none, 245, ([], [], [(225, 0, 185, ck_one 0)]))])
set_option maxRecDepth 100000 in
theorem p33x_835_e : ck_ok p1_O none [] [] 45 [] 116 p33x_835 = true := by decide +kernel
theorem p33x_835_s {X : Int → Int} {LX : Nat} : ck_Ok p1_O X LX 45 p33x_835 := ck_ok_s (ck_E0) ck_X0 ck_l0 p33x_835_e
set_option maxRecDepth 100000 in
def p33x_839 : ck_Sum := ((3, 0, 0), 245, [.inr (.inr (.inl 1)), .inl (ck_one 10), .inl (ck_one 1)], ([], [], [(224, 1, 1, ck_one 6), (224, 0, 0, ck_one 31), (224, 3, 3, ck_one 0), (222, 1, 1, ck_one 6), (222, 0, 0, ck_one 30), (222, 3, 3, ck_one 0), (1, 15, 15, ck_one 0), (220, 0, 0, ck_one 24), (220, 3, 3, ck_one 0), (10, 3, 3, ck_one 0), (3, 0, 0, ck_one 3), (223, 0, 179, ck_one 0), (225, 0, 185, ck_one 0)]), ([(1, 15, 15), (220, 3, 3), (221, 0, 47), (222, 3, 3), (223, 0, 179), (224, 3, 3), (225, 0, 185)], []), [(.inr (some (.inl (ck_one 0))), 245, ([], [], [(224, 3, 3, ck_one 11), (222, 3, 3, ck_one 10), (1, 15, 15, ck_one 1), (220, 3, 3, ck_one 0), (223, 0, 179, ck_one 0), (225, 0, 185, ck_one 0)]))])
set_option maxRecDepth 100000 in
theorem p33x_839_e : ck_ok p1_O none [] [(214, [p33x_760]), (24, [p33x_148]), (215, [p33x_762]), (25, [p33x_763]), (10, [p33x_830, p33x_838, p33x_837]), (216, [p33x_834]), (45, [p33x_835])] 213 [(28, [some (.inr (.inr (.inl 1))), some (.inl (ck_one 10)), some (.inl (ck_one 1)), some (.inl ((-1), 9, none)), none], ([], [], [(224, 3, 3, ck_one 11), (225, 0, 185, ck_one 0), (222, 3, 3, ck_one 10), (223, 0, 179, ck_one 0), (1, 15, 15, ck_one 1), (220, 3, 3, ck_one 0), (224, 1, 1, ck_one 6), (224, 0, 0, ck_one 31), (222, 1, 1, ck_one 6), (222, 0, 0, ck_one 30), (220, 0, 0, ck_one 24), (10, 3, 3, ck_one 0), (3, 0, 0, ck_one 3)]), 100, .inl 3, false), (35, [some (.inr (.inr (.inl 1))), some (.inl (ck_one 10)), some (.inl (ck_one 1)), some (.inl (0, 9, some (100, 0))), some (.inl (0, 3, none))], ([], [], [(224, 3, 3, ck_one 11), (225, 0, 185, ck_one 0), (222, 3, 3, ck_one 10), (223, 0, 179, ck_one 0), (1, 15, 15, ck_one 1), (220, 3, 3, ck_one 0), (224, 1, 1, ck_one 6), (224, 0, 0, ck_one 31), (222, 1, 1, ck_one 6), (222, 0, 0, ck_one 30), (220, 0, 0, ck_one 24), (10, 3, 3, ck_one 0), (3, 0, 0, ck_one 3)]), 300, .inl 4, true), (94, [some (.inr (.inr (.inl 1))), some (.inl (ck_one 10)), some (.inl (ck_one 1)), some (.inl (ck_one 0)), some (.inl (1, 3, none))], ([], [], [(224, 3, 3, ck_one 11), (225, 0, 185, ck_one 0), (222, 3, 3, ck_one 10), (223, 0, 179, ck_one 0), (1, 15, 15, ck_one 1), (220, 3, 3, ck_one 0), (224, 1, 1, ck_one 6), (224, 0, 0, ck_one 31), (222, 1, 1, ck_one 6), (222, 0, 0, ck_one 30), (220, 0, 0, ck_one 24), (10, 3, 3, ck_one 0), (3, 0, 0, ck_one 3)]), 500, .inl 4, true)] 330 p33x_839 = true := by decide +kernel
theorem p33x_839_s {X : Int → Int} {LX : Nat} : ck_Ok p1_O X LX 213 p33x_839 := ck_ok_s (ck_E1 (ck_S1 p33x_760_s ck_S0) (ck_E1 (ck_S1 p33x_148_s ck_S0) (ck_E1 (ck_S1 p33x_762_s ck_S0) (ck_E1 (ck_S1 p33x_763_s ck_S0) (ck_E1 (ck_S1 p33x_830_s (ck_S1 p33x_838_s (ck_S1 p33x_837_s ck_S0))) (ck_E1 (ck_S1 p33x_834_s ck_S0) (ck_E1 (ck_S1 p33x_835_s ck_S0) ck_E0))))))) ck_X0 ck_l0 p33x_839_e
set_option maxRecDepth 100000 in
def p33x_840 : ck_Sum := ((4, 0, 0), 245, [.inr (.inr (.inl 1)), .inl (ck_one 10), .inl (ck_one 1), .inr (.inr (.inl 245))], ([], [], [(224, 1, 1, ck_one 6), (224, 0, 0, ck_one 31), (224, 3, 3, ck_one 0), (222, 1, 1, ck_one 6), (222, 0, 0, ck_one 30), (222, 3, 3, ck_one 0), (1, 15, 15, ck_one 0), (220, 0, 0, ck_one 24), (220, 3, 3, ck_one 0), (10, 3, 3, ck_one 0), (3, 0, 0, ck_one 3), (223, 0, 179, ck_one 0), (225, 0, 185, ck_one 0)]), ([(1, 15, 15), (220, 3, 3), (221, 0, 47), (222, 3, 3), (223, 0, 179), (224, 3, 3), (225, 0, 185), (245, 0, 0)], []), [(.inr (some (.inl (ck_one 0))), 245, ([], [], [(245, 0, 0, ck_one 0), (224, 3, 3, ck_one 11), (222, 3, 3, ck_one 10), (1, 15, 15, ck_one 1), (220, 3, 3, ck_one 0), (223, 0, 179, ck_one 0), (225, 0, 185, ck_one 0)]))])
set_option maxRecDepth 100000 in
theorem p33x_840_e : ck_ok p1_O none [] [(213, [p33x_839])] 212 [] 92 p33x_840 = true := by decide +kernel
theorem p33x_840_s {X : Int → Int} {LX : Nat} : ck_Ok p1_O X LX 212 p33x_840 := ck_ok_s (ck_E1 (ck_S1 p33x_839_s ck_S0) ck_E0) ck_X0 ck_l0 p33x_840_e
set_option maxRecDepth 100000 in
def p33x_864 : ck_Sum := ((3, 0, 0), 245, [.inr (.inr (.inl 1)), .inl (ck_one 10), .inl (ck_one 0)], ([], [], [(224, 1, 1, ck_one 6), (224, 0, 0, ck_one 31), (224, 3, 3, ck_one 0), (222, 1, 1, ck_one 6), (222, 0, 0, ck_one 30), (222, 3, 3, ck_one 0), (1, 15, 15, ck_one 0), (220, 0, 0, ck_one 24), (220, 3, 3, ck_one 0), (10, 3, 3, ck_one 0), (3, 0, 0, ck_one 3), (223, 0, 179, ck_one 0), (225, 0, 185, ck_one 0)]), ([(1, 15, 15), (220, 3, 3), (221, 0, 47), (222, 3, 3), (223, 0, 179), (224, 3, 3), (225, 0, 185)], []), [(.inr (some (.inl (ck_one 0))), 245, ([], [], [(224, 3, 3, ck_one 11), (222, 3, 3, ck_one 10), (1, 15, 15, ck_one 1), (220, 3, 3, ck_one 0), (223, 0, 179, ck_one 0), (225, 0, 185, ck_one 0)]))])
set_option maxRecDepth 100000 in
theorem p33x_864_e : ck_ok p1_O none [] [(214, [p33x_760]), (24, [p33x_148]), (215, [p33x_762]), (25, [p33x_763]), (10, [p33x_830, p33x_837, p33x_838]), (216, [p33x_834]), (45, [p33x_835])] 213 [(28, [some (.inr (.inr (.inl 1))), some (.inl (ck_one 10)), some (.inl (ck_one 0)), some (.inl ((-1), 9, none)), none], ([], [], [(224, 3, 3, ck_one 11), (225, 0, 185, ck_one 0), (222, 3, 3, ck_one 10), (223, 0, 179, ck_one 0), (1, 15, 15, ck_one 1), (220, 3, 3, ck_one 0), (224, 1, 1, ck_one 6), (224, 0, 0, ck_one 31), (222, 1, 1, ck_one 6), (222, 0, 0, ck_one 30), (220, 0, 0, ck_one 24), (10, 3, 3, ck_one 0), (3, 0, 0, ck_one 3)]), 100, .inl 3, false), (35, [some (.inr (.inr (.inl 1))), some (.inl (ck_one 10)), some (.inl (ck_one 0)), some (.inl (0, 9, some (100, 0))), some (.inl (0, 3, none))], ([], [], [(224, 3, 3, ck_one 11), (225, 0, 185, ck_one 0), (222, 3, 3, ck_one 10), (223, 0, 179, ck_one 0), (1, 15, 15, ck_one 1), (220, 3, 3, ck_one 0), (224, 1, 1, ck_one 6), (224, 0, 0, ck_one 31), (222, 1, 1, ck_one 6), (222, 0, 0, ck_one 30), (220, 0, 0, ck_one 24), (10, 3, 3, ck_one 0), (3, 0, 0, ck_one 3)]), 300, .inl 4, true), (94, [some (.inr (.inr (.inl 1))), some (.inl (ck_one 10)), some (.inl (ck_one 0)), some (.inl (ck_one 0)), some (.inl (1, 3, none))], ([], [], [(224, 3, 3, ck_one 11), (225, 0, 185, ck_one 0), (222, 3, 3, ck_one 10), (223, 0, 179, ck_one 0), (1, 15, 15, ck_one 1), (220, 3, 3, ck_one 0), (224, 1, 1, ck_one 6), (224, 0, 0, ck_one 31), (222, 1, 1, ck_one 6), (222, 0, 0, ck_one 30), (220, 0, 0, ck_one 24), (10, 3, 3, ck_one 0), (3, 0, 0, ck_one 3)]), 500, .inl 4, true)] 330 p33x_864 = true := by decide +kernel
theorem p33x_864_s {X : Int → Int} {LX : Nat} : ck_Ok p1_O X LX 213 p33x_864 := ck_ok_s (ck_E1 (ck_S1 p33x_760_s ck_S0) (ck_E1 (ck_S1 p33x_148_s ck_S0) (ck_E1 (ck_S1 p33x_762_s ck_S0) (ck_E1 (ck_S1 p33x_763_s ck_S0) (ck_E1 (ck_S1 p33x_830_s (ck_S1 p33x_837_s (ck_S1 p33x_838_s ck_S0))) (ck_E1 (ck_S1 p33x_834_s ck_S0) (ck_E1 (ck_S1 p33x_835_s ck_S0) ck_E0))))))) ck_X0 ck_l0 p33x_864_e
set_option maxRecDepth 100000 in
def p33x_865 : ck_Sum := ((4, 0, 0), 245, [.inr (.inr (.inl 1)), .inl (ck_one 10), .inl (ck_one 0), .inr (.inr (.inl 245))], ([], [], [(224, 1, 1, ck_one 6), (224, 0, 0, ck_one 31), (224, 3, 3, ck_one 0), (222, 1, 1, ck_one 6), (222, 0, 0, ck_one 30), (222, 3, 3, ck_one 0), (1, 15, 15, ck_one 0), (220, 0, 0, ck_one 24), (220, 3, 3, ck_one 0), (10, 3, 3, ck_one 0), (3, 0, 0, ck_one 3), (223, 0, 179, ck_one 0), (225, 0, 185, ck_one 0)]), ([(1, 15, 15), (220, 3, 3), (221, 0, 47), (222, 3, 3), (223, 0, 179), (224, 3, 3), (225, 0, 185), (245, 0, 0)], []), [(.inr (some (.inl (ck_one 0))), 245, ([], [], [(245, 0, 0, ck_one 0), (224, 3, 3, ck_one 11), (222, 3, 3, ck_one 10), (1, 15, 15, ck_one 1), (220, 3, 3, ck_one 0), (223, 0, 179, ck_one 0), (225, 0, 185, ck_one 0)]))])
set_option maxRecDepth 100000 in
theorem p33x_865_e : ck_ok p1_O none [] [(213, [p33x_864])] 212 [] 92 p33x_865 = true := by decide +kernel
theorem p33x_865_s {X : Int → Int} {LX : Nat} : ck_Ok p1_O X LX 212 p33x_865 := ck_ok_s (ck_E1 (ck_S1 p33x_864_s ck_S0) ck_E0) ck_X0 ck_l0 p33x_865_e
set_option maxRecDepth 100000 in
def p33x_867 : ck_Sum := ((0, 0, 0), 245, [.inr (.inr (.inl 1)), .inl (ck_one 11)], ([], [], []), ([], []), [(.inr none, 245, ([], [], []))])
set_option maxRecDepth 100000 in
theorem p33x_867_e : ck_ok p1_O none [] [] 214 [] 84 p33x_867 = true := by decide +kernel
theorem p33x_867_s {X : Int → Int} {LX : Nat} : ck_Ok p1_O X LX 214 p33x_867 := ck_ok_s (ck_E0) ck_X0 ck_l0 p33x_867_e
set_option maxRecDepth 100000 in
def p33x_868 : ck_Sum := ((1, 0, 0), 245, [.inr (.inr (.inl 222)), .inl (ck_one 11)], ([], [], [(222, 0, 0, ck_one 30), (223, 0, 179, ck_one 0)]), ([(222, 3, 3), (223, 0, 179)], []), [(.inr none, 245, ([], [], [(222, 3, 3, ck_one 11), (223, 0, 179, ck_one 0)]))])
set_option maxRecDepth 100000 in
theorem p33x_868_e : ck_ok p1_O none [] [(8, [p33x_149])] 25 [] 96 p33x_868 = true := by decide +kernel
theorem p33x_868_s {X : Int → Int} {LX : Nat} : ck_Ok p1_O X LX 25 p33x_868 := ck_ok_s (ck_E1 (ck_S1 p33x_149_s ck_S0) ck_E0) ck_X0 ck_l0 p33x_868_e
set_option maxRecDepth 100000 in
def p33x_869 : ck_Sum := ((2, 0, 0), 245, [.inr (.inr (.inl 1)), .inl (ck_one 11)], ([], [], [(220, 3, 3, ck_one 0), (222, 0, 0, ck_one 30), (222, 3, 3, ck_one 0), (223, 0, 179, ck_one 0)]), ([(222, 3, 3), (223, 0, 179)], []), [(.inr none, 245, ([], [], [(222, 3, 3, ck_one 11), (223, 0, 179, ck_one 0)]))])
set_option maxRecDepth 100000 in
theorem p33x_869_e : ck_ok p1_O none [] [(25, [p33x_868]), (9, [p33x_147])] 215 [(10, [some (.inr (.inr (.inl 1))), some (.inl (ck_one 11)), some (.inl (ck_one 0)), none, none], ([], [], [(222, 3, 3, ck_one 11), (223, 0, 179, ck_one 0), (220, 3, 3, ck_one 0), (222, 0, 0, ck_one 30)]), 100, .inl 2, true)] 118 p33x_869 = true := by decide +kernel
theorem p33x_869_s {X : Int → Int} {LX : Nat} : ck_Ok p1_O X LX 215 p33x_869 := ck_ok_s (ck_E1 (ck_S1 p33x_868_s ck_S0) (ck_E1 (ck_S1 p33x_147_s ck_S0) ck_E0)) ck_X0 ck_l0 p33x_869_e
set_option maxRecDepth 100000 in
def p33x_870 : ck_Sum := ((1, 0, 0), 245, [.inr (.inr (.inl 224)), .inl (ck_one 12)], ([], [], [(224, 0, 0, ck_one 31), (225, 0, 185, ck_one 0)]), ([(224, 3, 3), (225, 0, 185)], []), [(.inr none, 245, ([], [], [(224, 3, 3, ck_one 12), (225, 0, 185, ck_one 0)]))])
set_option maxRecDepth 100000 in
theorem p33x_870_e : ck_ok p1_O none [] [(8, [p33x_152])] 25 [] 96 p33x_870 = true := by decide +kernel
theorem p33x_870_s {X : Int → Int} {LX : Nat} : ck_Ok p1_O X LX 25 p33x_870 := ck_ok_s (ck_E1 (ck_S1 p33x_152_s ck_S0) ck_E0) ck_X0 ck_l0 p33x_870_e
set_option maxRecDepth 100000 in
def p33x_943 : ck_Sum := ((0, 0, 0), 245, [.inr (.inr (.inl 222)), .inl (0, 10, none), .inl (0, 2, none)], ([], [], [(222, 3, 3, ck_one 11), (223, 0, 179, ck_one 0), (222, 1, 1, ck_one 6)]), ([], []), [(.inr (some (.inl (ck_one 0))), 245, ([], [], []))])
set_option maxRecDepth 100000 in
theorem p33x_943_e : ck_ok p1_O none [] [] 10 [] 114 p33x_943 = true := by decide +kernel
theorem p33x_943_s {X : Int → Int} {LX : Nat} : ck_Ok p1_O X LX 10 p33x_943 := ck_ok_s (ck_E0) ck_X0 ck_l0 p33x_943_e
set_option maxRecDepth 100000 in
def p33x_951 : ck_Sum := ((0, 0, 0), 245, [.inr (.inr (.inl 224)), .inl (ck_one 0), .inl (1, 2, none)], ([], [], [(224, 3, 3, ck_one 12), (225, 0, 185, ck_one 0), (224, 1, 1, ck_one 6)]), ([], []), [(.inr (some (.inl (ck_one 0))), 245, ([], [], []))])
set_option maxRecDepth 100000 in
theorem p33x_951_e : ck_ok p1_O none [] [] 10 [] 114 p33x_951 = true := by decide +kernel
theorem p33x_951_s {X : Int → Int} {LX : Nat} : ck_Ok p1_O X LX 10 p33x_951 := ck_ok_s (ck_E0) ck_X0 ck_l0 p33x_951_e
set_option maxRecDepth 100000 in
def p33x_950 : ck_Sum := ((0, 0, 0), 245, [.inr (.inr (.inl 224)), .inl (ck_one 0), .inl (ck_one 0)], ([], [], [(224, 3, 3, ck_one 12), (225, 0, 185, ck_one 0), (224, 1, 1, ck_one 6)]), ([], []), [(.inr (some (.inl (ck_one 0))), 245, ([], [], []))])
set_option maxRecDepth 100000 in
theorem p33x_950_e : ck_ok p1_O none [] [] 10 [] 114 p33x_950 = true := by decide +kernel
theorem p33x_950_s {X : Int → Int} {LX : Nat} : ck_Ok p1_O X LX 10 p33x_950 := ck_ok_s (ck_E0) ck_X0 ck_l0 p33x_950_e
set_option maxRecDepth 100000 in
def p33x_944 : ck_Sum := ((0, 0, 0), 245, [.inr (.inr (.inl 224)), .inl (1, 11, none), .inl ((-1), 1, none)], ([], [], [(224, 3, 3, ck_one 12), (225, 0, 185, ck_one 0), (224, 1, 1, ck_one 6)]), ([], []), [(.inr (some (.inl (ck_one (-1)))), 245, ([], [], [])), (.inr (some (.inl (ck_one 0))), 245, ([], [], []))])
set_option maxRecDepth 100000 in
theorem p33x_944_e : ck_ok p1_O none [] [] 10 [] 114 p33x_944 = true := by decide +kernel
theorem p33x_944_s {X : Int → Int} {LX : Nat} : ck_Ok p1_O X LX 10 p33x_944 := ck_ok_s (ck_E0) ck_X0 ck_l0 p33x_944_e
set_option maxRecDepth 100000 in
def p33x_945 : ck_Sum := ((0, 0, 0), 245, [.inr (.inr (.inl 224)), .inl (1, 11, none), .inl (1, 3, none)], ([], [], [(224, 3, 3, ck_one 12), (225, 0, 185, ck_one 0), (224, 1, 1, ck_one 6)]), ([], []), [(.inr (some (.inl (ck_one 0))), 245, ([], [], []))])
set_option maxRecDepth 100000 in
theorem p33x_945_e : ck_ok p1_O none [] [] 10 [] 114 p33x_945 = true := by decide +kernel
theorem p33x_945_s {X : Int → Int} {LX : Nat} : ck_Ok p1_O X LX 10 p33x_945 := ck_ok_s (ck_E0) ck_X0 ck_l0 p33x_945_e
set_option maxRecDepth 100000 in
def p33x_946 : ck_Sum := ((0, 0, 0), 245, [.inr (.inr (.inl 224)), .inl (1, 11, none), .inl (0, 2, none)], ([], [], [(224, 3, 3, ck_one 12), (225, 0, 185, ck_one 0), (224, 1, 1, ck_one 6)]), ([], []), [(.inr (some (.inl (ck_one 0))), 245, ([], [], []))])
set_option maxRecDepth 100000 in
theorem p33x_946_e : ck_ok p1_O none [] [] 10 [] 114 p33x_946 = true := by decide +kernel
theorem p33x_946_s {X : Int → Int} {LX : Nat} : ck_Ok p1_O X LX 10 p33x_946 := ck_ok_s (ck_E0) ck_X0 ck_l0 p33x_946_e
set_option maxRecDepth 100000 in
def p33x_947 : ck_Sum := ((1, 0, 0), 245, [.inr (.inr (.inl 1)), .inl (1, 11, none), .inl (0, 2, none)], ([], [], [(224, 3, 3, ck_one 12), (225, 0, 185, ck_one 0), (224, 1, 1, ck_one 6)]), ([], []), [(.inr (some (.inl (ck_one 0))), 245, ([], [], []))])
set_option maxRecDepth 100000 in
theorem p33x_947_e : ck_ok p1_O none [] [(10, [p33x_944, p33x_945, p33x_946])] 216 [] 118 p33x_947 = true := by decide +kernel
theorem p33x_947_s {X : Int → Int} {LX : Nat} : ck_Ok p1_O X LX 216 p33x_947 := ck_ok_s (ck_E1 (ck_S1 p33x_944_s (ck_S1 p33x_945_s (ck_S1 p33x_946_s ck_S0))) ck_E0) ck_X0 ck_l0 p33x_947_e
set_option maxRecDepth 100000 in
def p33x_948 : ck_Sum := ((0, 0, 0), 245, [.inr (.inr (.inl 224)), .inl (0, 10, none), .inl (0, 2, none), .inl (ck_one 0)], ([], [], [(224, 3, 3, ck_one 12), (225, 0, 185, ck_one 0), (224, 1, 1, ck_one 6)]), ([(225, 0, 62)], []), [(.inr none, 245, ([], [], [(225, 0, 185, ck_one 0)]))])
set_option maxRecDepth 100000 in
theorem p33x_948_e : ck_ok p1_O none [] [] 45 [] 116 p33x_948 = true := by decide +kernel
theorem p33x_948_s {X : Int → Int} {LX : Nat} : ck_Ok p1_O X LX 45 p33x_948 := ck_ok_s (ck_E0) ck_X0 ck_l0 p33x_948_e
set_option maxRecDepth 100000 in
def p33x_952 : ck_Sum := ((3, 0, 0), 245, [.inr (.inr (.inl 1)), .inl (ck_one 11), .inl (ck_one 1)], ([], [], [(224, 1, 1, ck_one 6), (224, 0, 0, ck_one 31), (224, 3, 3, ck_one 0), (222, 1, 1, ck_one 6), (222, 0, 0, ck_one 30), (222, 3, 3, ck_one 0), (1, 15, 15, ck_one 0), (220, 0, 0, ck_one 24), (220, 3, 3, ck_one 0), (10, 3, 3, ck_one 0), (3, 0, 0, ck_one 3), (223, 0, 179, ck_one 0), (225, 0, 185, ck_one 0)]), ([(1, 15, 15), (220, 3, 3), (221, 0, 47), (222, 3, 3), (223, 0, 179), (224, 3, 3), (225, 0, 185)], []), [(.inr (some (.inl (ck_one 0))), 245, ([], [], [(224, 3, 3, ck_one 12), (222, 3, 3, ck_one 11), (1, 15, 15, ck_one 1), (220, 3, 3, ck_one 0), (223, 0, 179, ck_one 0), (225, 0, 185, ck_one 0)]))])
set_option maxRecDepth 100000 in
theorem p33x_952_e : ck_ok p1_O none [] [(214, [p33x_867]), (24, [p33x_148]), (215, [p33x_869]), (25, [p33x_870]), (10, [p33x_943, p33x_951, p33x_950]), (216, [p33x_947]), (45, [p33x_948])] 213 [(28, [some (.inr (.inr (.inl 1))), some (.inl (ck_one 11)), some (.inl (ck_one 1)), some (.inl ((-1), 10, none)), none], ([], [], [(224, 3, 3, ck_one 12), (225, 0, 185, ck_one 0), (222, 3, 3, ck_one 11), (223, 0, 179, ck_one 0), (1, 15, 15, ck_one 1), (220, 3, 3, ck_one 0), (224, 1, 1, ck_one 6), (224, 0, 0, ck_one 31), (222, 1, 1, ck_one 6), (222, 0, 0, ck_one 30), (220, 0, 0, ck_one 24), (10, 3, 3, ck_one 0), (3, 0, 0, ck_one 3)]), 100, .inl 3, false), (35, [some (.inr (.inr (.inl 1))), some (.inl (ck_one 11)), some (.inl (ck_one 1)), some (.inl (0, 10, some (100, 0))), some (.inl (0, 3, none))], ([], [], [(224, 3, 3, ck_one 12), (225, 0, 185, ck_one 0), (222, 3, 3, ck_one 11), (223, 0, 179, ck_one 0), (1, 15, 15, ck_one 1), (220, 3, 3, ck_one 0), (224, 1, 1, ck_one 6), (224, 0, 0, ck_one 31), (222, 1, 1, ck_one 6), (222, 0, 0, ck_one 30), (220, 0, 0, ck_one 24), (10, 3, 3, ck_one 0), (3, 0, 0, ck_one 3)]), 300, .inl 4, true), (94, [some (.inr (.inr (.inl 1))), some (.inl (ck_one 11)), some (.inl (ck_one 1)), some (.inl (ck_one 0)), some (.inl (1, 3, none))], ([], [], [(224, 3, 3, ck_one 12), (225, 0, 185, ck_one 0), (222, 3, 3, ck_one 11), (223, 0, 179, ck_one 0), (1, 15, 15, ck_one 1), (220, 3, 3, ck_one 0), (224, 1, 1, ck_one 6), (224, 0, 0, ck_one 31), (222, 1, 1, ck_one 6), (222, 0, 0, ck_one 30), (220, 0, 0, ck_one 24), (10, 3, 3, ck_one 0), (3, 0, 0, ck_one 3)]), 500, .inl 4, true)] 330 p33x_952 = true := by decide +kernel
theorem p33x_952_s {X : Int → Int} {LX : Nat} : ck_Ok p1_O X LX 213 p33x_952 := ck_ok_s (ck_E1 (ck_S1 p33x_867_s ck_S0) (ck_E1 (ck_S1 p33x_148_s ck_S0) (ck_E1 (ck_S1 p33x_869_s ck_S0) (ck_E1 (ck_S1 p33x_870_s ck_S0) (ck_E1 (ck_S1 p33x_943_s (ck_S1 p33x_951_s (ck_S1 p33x_950_s ck_S0))) (ck_E1 (ck_S1 p33x_947_s ck_S0) (ck_E1 (ck_S1 p33x_948_s ck_S0) ck_E0))))))) ck_X0 ck_l0 p33x_952_e
set_option maxRecDepth 100000 in
def p33x_953 : ck_Sum := ((4, 0, 0), 245, [.inr (.inr (.inl 1)), .inl (ck_one 11), .inl (ck_one 1), .inr (.inr (.inl 245))], ([], [], [(224, 1, 1, ck_one 6), (224, 0, 0, ck_one 31), (224, 3, 3, ck_one 0), (222, 1, 1, ck_one 6), (222, 0, 0, ck_one 30), (222, 3, 3, ck_one 0), (1, 15, 15, ck_one 0), (220, 0, 0, ck_one 24), (220, 3, 3, ck_one 0), (10, 3, 3, ck_one 0), (3, 0, 0, ck_one 3), (223, 0, 179, ck_one 0), (225, 0, 185, ck_one 0)]), ([(1, 15, 15), (220, 3, 3), (221, 0, 47), (222, 3, 3), (223, 0, 179), (224, 3, 3), (225, 0, 185), (245, 0, 0)], []), [(.inr (some (.inl (ck_one 0))), 245, ([], [], [(245, 0, 0, ck_one 0), (224, 3, 3, ck_one 12), (222, 3, 3, ck_one 11), (1, 15, 15, ck_one 1), (220, 3, 3, ck_one 0), (223, 0, 179, ck_one 0), (225, 0, 185, ck_one 0)]))])
set_option maxRecDepth 100000 in
theorem p33x_953_e : ck_ok p1_O none [] [(213, [p33x_952])] 212 [] 92 p33x_953 = true := by decide +kernel
theorem p33x_953_s {X : Int → Int} {LX : Nat} : ck_Ok p1_O X LX 212 p33x_953 := ck_ok_s (ck_E1 (ck_S1 p33x_952_s ck_S0) ck_E0) ck_X0 ck_l0 p33x_953_e
set_option maxRecDepth 100000 in
def p33x_979 : ck_Sum := ((3, 0, 0), 245, [.inr (.inr (.inl 1)), .inl (ck_one 11), .inl (ck_one 0)], ([], [], [(224, 1, 1, ck_one 6), (224, 0, 0, ck_one 31), (224, 3, 3, ck_one 0), (222, 1, 1, ck_one 6), (222, 0, 0, ck_one 30), (222, 3, 3, ck_one 0), (1, 15, 15, ck_one 0), (220, 0, 0, ck_one 24), (220, 3, 3, ck_one 0), (10, 3, 3, ck_one 0), (3, 0, 0, ck_one 3), (223, 0, 179, ck_one 0), (225, 0, 185, ck_one 0)]), ([(1, 15, 15), (220, 3, 3), (221, 0, 47), (222, 3, 3), (223, 0, 179), (224, 3, 3), (225, 0, 185)], []), [(.inr (some (.inl (ck_one 0))), 245, ([], [], [(224, 3, 3, ck_one 12), (222, 3, 3, ck_one 11), (1, 15, 15, ck_one 1), (220, 3, 3, ck_one 0), (223, 0, 179, ck_one 0), (225, 0, 185, ck_one 0)]))])
set_option maxRecDepth 100000 in
theorem p33x_979_e : ck_ok p1_O none [] [(214, [p33x_867]), (24, [p33x_148]), (215, [p33x_869]), (25, [p33x_870]), (10, [p33x_943, p33x_950, p33x_951]), (216, [p33x_947]), (45, [p33x_948])] 213 [(28, [some (.inr (.inr (.inl 1))), some (.inl (ck_one 11)), some (.inl (ck_one 0)), some (.inl ((-1), 10, none)), none], ([], [], [(224, 3, 3, ck_one 12), (225, 0, 185, ck_one 0), (222, 3, 3, ck_one 11), (223, 0, 179, ck_one 0), (1, 15, 15, ck_one 1), (220, 3, 3, ck_one 0), (224, 1, 1, ck_one 6), (224, 0, 0, ck_one 31), (222, 1, 1, ck_one 6), (222, 0, 0, ck_one 30), (220, 0, 0, ck_one 24), (10, 3, 3, ck_one 0), (3, 0, 0, ck_one 3)]), 100, .inl 3, false), (35, [some (.inr (.inr (.inl 1))), some (.inl (ck_one 11)), some (.inl (ck_one 0)), some (.inl (0, 10, some (100, 0))), some (.inl (0, 3, none))], ([], [], [(224, 3, 3, ck_one 12), (225, 0, 185, ck_one 0), (222, 3, 3, ck_one 11), (223, 0, 179, ck_one 0), (1, 15, 15, ck_one 1), (220, 3, 3, ck_one 0), (224, 1, 1, ck_one 6), (224, 0, 0, ck_one 31), (222, 1, 1, ck_one 6), (222, 0, 0, ck_one 30), (220, 0, 0, ck_one 24), (10, 3, 3, ck_one 0), (3, 0, 0, ck_one 3)]), 300, .inl 4, true), (94, [some (.inr (.inr (.inl 1))), some (.inl (ck_one 11)), some (.inl (ck_one 0)), some (.inl (ck_one 0)), some (.inl (1, 3, none))], ([], [], [(224, 3, 3, ck_one 12), (225, 0, 185, ck_one 0), (222, 3, 3, ck_one 11), (223, 0, 179, ck_one 0), (1, 15, 15, ck_one 1), (220, 3, 3, ck_one 0), (224, 1, 1, ck_one 6), (224, 0, 0, ck_one 31), (222, 1, 1, ck_one 6), (222, 0, 0, ck_one 30), (220, 0, 0, ck_one 24), (10, 3, 3, ck_one 0), (3, 0, 0, ck_one 3)]), 500, .inl 4, true)] 330 p33x_979 = true := by decide +kernel
theorem p33x_979_s {X : Int → Int} {LX : Nat} : ck_Ok p1_O X LX 213 p33x_979 := ck_ok_s (ck_E1 (ck_S1 p33x_867_s ck_S0) (ck_E1 (ck_S1 p33x_148_s ck_S0) (ck_E1 (ck_S1 p33x_869_s ck_S0) (ck_E1 (ck_S1 p33x_870_s ck_S0) (ck_E1 (ck_S1 p33x_943_s (ck_S1 p33x_950_s (ck_S1 p33x_951_s ck_S0))) (ck_E1 (ck_S1 p33x_947_s ck_S0) (ck_E1 (ck_S1 p33x_948_s ck_S0) ck_E0))))))) ck_X0 ck_l0 p33x_979_e
set_option maxRecDepth 100000 in
def p33x_980 : ck_Sum := ((4, 0, 0), 245, [.inr (.inr (.inl 1)), .inl (ck_one 11), .inl (ck_one 0), .inr (.inr (.inl 245))], ([], [], [(224, 1, 1, ck_one 6), (224, 0, 0, ck_one 31), (224, 3, 3, ck_one 0), (222, 1, 1, ck_one 6), (222, 0, 0, ck_one 30), (222, 3, 3, ck_one 0), (1, 15, 15, ck_one 0), (220, 0, 0, ck_one 24), (220, 3, 3, ck_one 0), (10, 3, 3, ck_one 0), (3, 0, 0, ck_one 3), (223, 0, 179, ck_one 0), (225, 0, 185, ck_one 0)]), ([(1, 15, 15), (220, 3, 3), (221, 0, 47), (222, 3, 3), (223, 0, 179), (224, 3, 3), (225, 0, 185), (245, 0, 0)], []), [(.inr (some (.inl (ck_one 0))), 245, ([], [], [(245, 0, 0, ck_one 0), (224, 3, 3, ck_one 12), (222, 3, 3, ck_one 11), (1, 15, 15, ck_one 1), (220, 3, 3, ck_one 0), (223, 0, 179, ck_one 0), (225, 0, 185, ck_one 0)]))])
set_option maxRecDepth 100000 in
theorem p33x_980_e : ck_ok p1_O none [] [(213, [p33x_979])] 212 [] 92 p33x_980 = true := by decide +kernel
theorem p33x_980_s {X : Int → Int} {LX : Nat} : ck_Ok p1_O X LX 212 p33x_980 := ck_ok_s (ck_E1 (ck_S1 p33x_979_s ck_S0) ck_E0) ck_X0 ck_l0 p33x_980_e
set_option maxRecDepth 100000 in
def p33x_982 : ck_Sum := ((0, 0, 0), 245, [.inr (.inr (.inl 1)), .inl (ck_one 12)], ([], [], []), ([], []), [(.inr none, 245, ([], [], []))])
set_option maxRecDepth 100000 in
theorem p33x_982_e : ck_ok p1_O none [] [] 214 [] 84 p33x_982 = true := by decide +kernel
theorem p33x_982_s {X : Int → Int} {LX : Nat} : ck_Ok p1_O X LX 214 p33x_982 := ck_ok_s (ck_E0) ck_X0 ck_l0 p33x_982_e
set_option maxRecDepth 100000 in
def p33x_983 : ck_Sum := ((1, 0, 0), 245, [.inr (.inr (.inl 222)), .inl (ck_one 12)], ([], [], [(222, 0, 0, ck_one 30), (223, 0, 179, ck_one 0)]), ([(222, 3, 3), (223, 0, 179)], []), [(.inr none, 245, ([], [], [(222, 3, 3, ck_one 12), (223, 0, 179, ck_one 0)]))])
set_option maxRecDepth 100000 in
theorem p33x_983_e : ck_ok p1_O none [] [(8, [p33x_149])] 25 [] 96 p33x_983 = true := by decide +kernel
theorem p33x_983_s {X : Int → Int} {LX : Nat} : ck_Ok p1_O X LX 25 p33x_983 := ck_ok_s (ck_E1 (ck_S1 p33x_149_s ck_S0) ck_E0) ck_X0 ck_l0 p33x_983_e
set_option maxRecDepth 100000 in
def p33x_984 : ck_Sum := ((2, 0, 0), 245, [.inr (.inr (.inl 1)), .inl (ck_one 12)], ([], [], [(220, 3, 3, ck_one 0), (222, 0, 0, ck_one 30), (222, 3, 3, ck_one 0), (223, 0, 179, ck_one 0)]), ([(222, 3, 3), (223, 0, 179)], []), [(.inr none, 245, ([], [], [(222, 3, 3, ck_one 12), (223, 0, 179, ck_one 0)]))])
set_option maxRecDepth 100000 in
theorem p33x_984_e : ck_ok p1_O none [] [(25, [p33x_983]), (9, [p33x_147])] 215 [(10, [some (.inr (.inr (.inl 1))), some (.inl (ck_one 12)), some (.inl (ck_one 0)), none, none], ([], [], [(222, 3, 3, ck_one 12), (223, 0, 179, ck_one 0), (220, 3, 3, ck_one 0), (222, 0, 0, ck_one 30)]), 100, .inl 2, true)] 118 p33x_984 = true := by decide +kernel
theorem p33x_984_s {X : Int → Int} {LX : Nat} : ck_Ok p1_O X LX 215 p33x_984 := ck_ok_s (ck_E1 (ck_S1 p33x_983_s ck_S0) (ck_E1 (ck_S1 p33x_147_s ck_S0) ck_E0)) ck_X0 ck_l0 p33x_984_e
set_option maxRecDepth 100000 in
def p33x_985 : ck_Sum := ((1, 0, 0), 245, [.inr (.inr (.inl 224)), .inl (ck_one 13)], ([], [], [(224, 0, 0, ck_one 31), (225, 0, 185, ck_one 0)]), ([(224, 3, 3), (225, 0, 185)], []), [(.inr none, 245, ([], [], [(224, 3, 3, ck_one 13), (225, 0, 185, ck_one 0)]))])
set_option maxRecDepth 100000 in
theorem p33x_985_e : ck_ok p1_O none [] [(8, [p33x_152])] 25 [] 96 p33x_985 = true := by decide +kernel
theorem p33x_985_s {X : Int → Int} {LX : Nat} : ck_Ok p1_O X LX 25 p33x_985 := ck_ok_s (ck_E1 (ck_S1 p33x_152_s ck_S0) ck_E0) ck_X0 ck_l0 p33x_985_e
set_option maxRecDepth 100000 in
def p33x_1064 : ck_Sum := ((0, 0, 0), 245, [.inr (.inr (.inl 222)), .inl (0, 11, none), .inl (0, 2, none)], ([], [], [(222, 3, 3, ck_one 12), (223, 0, 179, ck_one 0), (222, 1, 1, ck_one 6)]), ([], []), [(.inr (some (.inl (ck_one 0))), 245, ([], [], []))])
set_option maxRecDepth 100000 in
theorem p33x_1064_e : ck_ok p1_O none [] [] 10 [] 114 p33x_1064 = true := by decide +kernel
theorem p33x_1064_s {X : Int → Int} {LX : Nat} : ck_Ok p1_O X LX 10 p33x_1064 := ck_ok_s (ck_E0) ck_X0 ck_l0 p33x_1064_e
set_option maxRecDepth 100000 in
def p33x_1072 : ck_Sum := ((0, 0, 0), 245, [.inr (.inr (.inl 224)), .inl (ck_one 0), .inl (1, 2, none)], ([], [], [(224, 3, 3, ck_one 13), (225, 0, 185, ck_one 0), (224, 1, 1, ck_one 6)]), ([], []), [(.inr (some (.inl (ck_one 0))), 245, ([], [], []))])
set_option maxRecDepth 100000 in
theorem p33x_1072_e : ck_ok p1_O none [] [] 10 [] 114 p33x_1072 = true := by decide +kernel
theorem p33x_1072_s {X : Int → Int} {LX : Nat} : ck_Ok p1_O X LX 10 p33x_1072 := ck_ok_s (ck_E0) ck_X0 ck_l0 p33x_1072_e
set_option maxRecDepth 100000 in
def p33x_1071 : ck_Sum := ((0, 0, 0), 245, [.inr (.inr (.inl 224)), .inl (ck_one 0), .inl (ck_one 0)], ([], [], [(224, 3, 3, ck_one 13), (225, 0, 185, ck_one 0), (224, 1, 1, ck_one 6)]), ([], []), [(.inr (some (.inl (ck_one 0))), 245, ([], [], []))])
set_option maxRecDepth 100000 in
theorem p33x_1071_e : ck_ok p1_O none [] [] 10 [] 114 p33x_1071 = true := by decide +kernel
theorem p33x_1071_s {X : Int → Int} {LX : Nat} : ck_Ok p1_O X LX 10 p33x_1071 := ck_ok_s (ck_E0) ck_X0 ck_l0 p33x_1071_e
set_option maxRecDepth 100000 in
def p33x_1065 : ck_Sum := ((0, 0, 0), 245, [.inr (.inr (.inl 224)), .inl (1, 12, none), .inl ((-1), 1, none)], ([], [], [(224, 3, 3, ck_one 13), (225, 0, 185, ck_one 0), (224, 1, 1, ck_one 6)]), ([], []), [(.inr (some (.inl (ck_one (-1)))), 245, ([], [], [])), (.inr (some (.inl (ck_one 0))), 245, ([], [], []))])
set_option maxRecDepth 100000 in
theorem p33x_1065_e : ck_ok p1_O none [] [] 10 [] 114 p33x_1065 = true := by decide +kernel
theorem p33x_1065_s {X : Int → Int} {LX : Nat} : ck_Ok p1_O X LX 10 p33x_1065 := ck_ok_s (ck_E0) ck_X0 ck_l0 p33x_1065_e
set_option maxRecDepth 100000 in
def p33x_1066 : ck_Sum := ((0, 0, 0), 245, [.inr (.inr (.inl 224)), .inl (1, 12, none), .inl (1, 3, none)], ([], [], [(224, 3, 3, ck_one 13), (225, 0, 185, ck_one 0), (224, 1, 1, ck_one 6)]), ([], []), [(.inr (some (.inl (ck_one 0))), 245, ([], [], []))])
set_option maxRecDepth 100000 in
theorem p33x_1066_e : ck_ok p1_O none [] [] 10 [] 114 p33x_1066 = true := by decide +kernel
theorem p33x_1066_s {X : Int → Int} {LX : Nat} : ck_Ok p1_O X LX 10 p33x_1066 := ck_ok_s (ck_E0) ck_X0 ck_l0 p33x_1066_e
set_option maxRecDepth 100000 in
def p33x_1067 : ck_Sum := ((0, 0, 0), 245, [.inr (.inr (.inl 224)), .inl (1, 12, none), .inl (0, 2, none)], ([], [], [(224, 3, 3, ck_one 13), (225, 0, 185, ck_one 0), (224, 1, 1, ck_one 6)]), ([], []), [(.inr (some (.inl (ck_one 0))), 245, ([], [], []))])
set_option maxRecDepth 100000 in
theorem p33x_1067_e : ck_ok p1_O none [] [] 10 [] 114 p33x_1067 = true := by decide +kernel
theorem p33x_1067_s {X : Int → Int} {LX : Nat} : ck_Ok p1_O X LX 10 p33x_1067 := ck_ok_s (ck_E0) ck_X0 ck_l0 p33x_1067_e
set_option maxRecDepth 100000 in
def p33x_1068 : ck_Sum := ((1, 0, 0), 245, [.inr (.inr (.inl 1)), .inl (1, 12, none), .inl (0, 2, none)], ([], [], [(224, 3, 3, ck_one 13), (225, 0, 185, ck_one 0), (224, 1, 1, ck_one 6)]), ([], []), [(.inr (some (.inl (ck_one 0))), 245, ([], [], []))])
set_option maxRecDepth 100000 in
theorem p33x_1068_e : ck_ok p1_O none [] [(10, [p33x_1065, p33x_1066, p33x_1067])] 216 [] 118 p33x_1068 = true := by decide +kernel
theorem p33x_1068_s {X : Int → Int} {LX : Nat} : ck_Ok p1_O X LX 216 p33x_1068 := ck_ok_s (ck_E1 (ck_S1 p33x_1065_s (ck_S1 p33x_1066_s (ck_S1 p33x_1067_s ck_S0))) ck_E0) ck_X0 ck_l0 p33x_1068_e
set_option maxRecDepth 100000 in
def p33x_1069 : ck_Sum := ((0, 0, 0), 245, [.inr (.inr (.inl 224)), .inl (0, 11, none), .inl (0, 2, none), .inl (ck_one 0)], ([], [], [(224, 3, 3, ck_one 13), (225, 0, 185, ck_one 0), (224, 1, 1, ck_one 6)]), ([(225, 0, 68)], []), [(.inr none, 245, ([], [], [(225, 0, 185, ck_one 0)]))])
set_option maxRecDepth 100000 in
theorem p33x_1069_e : ck_ok p1_O none [] [] 45 [] 116 p33x_1069 = true := by decide +kernel
theorem p33x_1069_s {X : Int → Int} {LX : Nat} : ck_Ok p1_O X LX 45 p33x_1069 := ck_ok_s (ck_E0) ck_X0 ck_l0 p33x_1069_e
set_option maxRecDepth 100000 in
def p33x_1073 : ck_Sum := ((3, 0, 0), 245, [.inr (.inr (.inl 1)), .inl (ck_one 12), .inl (ck_one 1)], ([], [], [(224, 1, 1, ck_one 6), (224, 0, 0, ck_one 31), (224, 3, 3, ck_one 0), (222, 1, 1, ck_one 6), (222, 0, 0, ck_one 30), (222, 3, 3, ck_one 0), (1, 15, 15, ck_one 0), (220, 0, 0, ck_one 24), (220, 3, 3, ck_one 0), (10, 3, 3, ck_one 0), (3, 0, 0, ck_one 3), (223, 0, 179, ck_one 0), (225, 0, 185, ck_one 0)]), ([(1, 15, 15), (220, 3, 3), (221, 0, 47), (222, 3, 3), (223, 0, 179), (224, 3, 3), (225, 0, 185)], []), [(.inr (some (.inl (ck_one 0))), 245, ([], [], [(224, 3, 3, ck_one 13), (222, 3, 3, ck_one 12), (1, 15, 15, ck_one 1), (220, 3, 3, ck_one 0), (223, 0, 179, ck_one 0), (225, 0, 185, ck_one 0)]))])
set_option maxRecDepth 100000 in
theorem p33x_1073_e : ck_ok p1_O none [] [(214, [p33x_982]), (24, [p33x_148]), (215, [p33x_984]), (25, [p33x_985]), (10, [p33x_1064, p33x_1072, p33x_1071]), (216, [p33x_1068]), (45, [p33x_1069])] 213 [(28, [some (.inr (.inr (.inl 1))), some (.inl (ck_one 12)), some (.inl (ck_one 1)), some (.inl ((-1), 11, none)), none], ([], [], [(224, 3, 3, ck_one 13), (225, 0, 185, ck_one 0), (222, 3, 3, ck_one 12), (223, 0, 179, ck_one 0), (1, 15, 15, ck_one 1), (220, 3, 3, ck_one 0), (224, 1, 1, ck_one 6), (224, 0, 0, ck_one 31), (222, 1, 1, ck_one 6), (222, 0, 0, ck_one 30), (220, 0, 0, ck_one 24), (10, 3, 3, ck_one 0), (3, 0, 0, ck_one 3)]), 100, .inl 3, false), (35, [some (.inr (.inr (.inl 1))), some (.inl (ck_one 12)), some (.inl (ck_one 1)), some (.inl (0, 11, some (100, 0))), some (.inl (0, 3, none))], ([], [], [(224, 3, 3, ck_one 13), (225, 0, 185, ck_one 0), (222, 3, 3, ck_one 12), (223, 0, 179, ck_one 0), (1, 15, 15, ck_one 1), (220, 3, 3, ck_one 0), (224, 1, 1, ck_one 6), (224, 0, 0, ck_one 31), (222, 1, 1, ck_one 6), (222, 0, 0, ck_one 30), (220, 0, 0, ck_one 24), (10, 3, 3, ck_one 0), (3, 0, 0, ck_one 3)]), 300, .inl 4, true), (94, [some (.inr (.inr (.inl 1))), some (.inl (ck_one 12)), some (.inl (ck_one 1)), some (.inl (ck_one 0)), some (.inl (1, 3, none))], ([], [], [(224, 3, 3, ck_one 13), (225, 0, 185, ck_one 0), (222, 3, 3, ck_one 12), (223, 0, 179, ck_one 0), (1, 15, 15, ck_one 1), (220, 3, 3, ck_one 0), (224, 1, 1, ck_one 6), (224, 0, 0, ck_one 31), (222, 1, 1, ck_one 6), (222, 0, 0, ck_one 30), (220, 0, 0, ck_one 24), (10, 3, 3, ck_one 0), (3, 0, 0, ck_one 3)]), 500, .inl 4, true)] 330 p33x_1073 = true := by decide +kernel
theorem p33x_1073_s {X : Int → Int} {LX : Nat} : ck_Ok p1_O X LX 213 p33x_1073 := ck_ok_s (ck_E1 (ck_S1 p33x_982_s ck_S0) (ck_E1 (ck_S1 p33x_148_s ck_S0) (ck_E1 (ck_S1 p33x_984_s ck_S0) (ck_E1 (ck_S1 p33x_985_s ck_S0) (ck_E1 (ck_S1 p33x_1064_s (ck_S1 p33x_1072_s (ck_S1 p33x_1071_s ck_S0))) (ck_E1 (ck_S1 p33x_1068_s ck_S0) (ck_E1 (ck_S1 p33x_1069_s ck_S0) ck_E0))))))) ck_X0 ck_l0 p33x_1073_e
set_option maxRecDepth 100000 in
def p33x_1074 : ck_Sum := ((4, 0, 0), 245, [.inr (.inr (.inl 1)), .inl (ck_one 12), .inl (ck_one 1), .inr (.inr (.inl 245))], ([], [], [(224, 1, 1, ck_one 6), (224, 0, 0, ck_one 31), (224, 3, 3, ck_one 0), (222, 1, 1, ck_one 6), (222, 0, 0, ck_one 30), (222, 3, 3, ck_one 0), (1, 15, 15, ck_one 0), (220, 0, 0, ck_one 24), (220, 3, 3, ck_one 0), (10, 3, 3, ck_one 0), (3, 0, 0, ck_one 3), (223, 0, 179, ck_one 0), (225, 0, 185, ck_one 0)]), ([(1, 15, 15), (220, 3, 3), (221, 0, 47), (222, 3, 3), (223, 0, 179), (224, 3, 3), (225, 0, 185), (245, 0, 0)], []), [(.inr (some (.inl (ck_one 0))), 245, ([], [], [(245, 0, 0, ck_one 0), (224, 3, 3, ck_one 13), (222, 3, 3, ck_one 12), (1, 15, 15, ck_one 1), (220, 3, 3, ck_one 0), (223, 0, 179, ck_one 0), (225, 0, 185, ck_one 0)]))])
set_option maxRecDepth 100000 in
theorem p33x_1074_e : ck_ok p1_O none [] [(213, [p33x_1073])] 212 [] 92 p33x_1074 = true := by decide +kernel
theorem p33x_1074_s {X : Int → Int} {LX : Nat} : ck_Ok p1_O X LX 212 p33x_1074 := ck_ok_s (ck_E1 (ck_S1 p33x_1073_s ck_S0) ck_E0) ck_X0 ck_l0 p33x_1074_e
set_option maxRecDepth 100000 in
def p33x_1102 : ck_Sum := ((3, 0, 0), 245, [.inr (.inr (.inl 1)), .inl (ck_one 12), .inl (ck_one 0)], ([], [], [(224, 1, 1, ck_one 6), (224, 0, 0, ck_one 31), (224, 3, 3, ck_one 0), (222, 1, 1, ck_one 6), (222, 0, 0, ck_one 30), (222, 3, 3, ck_one 0), (1, 15, 15, ck_one 0), (220, 0, 0, ck_one 24), (220, 3, 3, ck_one 0), (10, 3, 3, ck_one 0), (3, 0, 0, ck_one 3), (223, 0, 179, ck_one 0), (225, 0, 185, ck_one 0)]), ([(1, 15, 15), (220, 3, 3), (221, 0, 47), (222, 3, 3), (223, 0, 179), (224, 3, 3), (225, 0, 185)], []), [(.inr (some (.inl (ck_one 0))), 245, ([], [], [(224, 3, 3, ck_one 13), (222, 3, 3, ck_one 12), (1, 15, 15, ck_one 1), (220, 3, 3, ck_one 0), (223, 0, 179, ck_one 0), (225, 0, 185, ck_one 0)]))])
set_option maxRecDepth 100000 in
theorem p33x_1102_e : ck_ok p1_O none [] [(214, [p33x_982]), (24, [p33x_148]), (215, [p33x_984]), (25, [p33x_985]), (10, [p33x_1064, p33x_1071, p33x_1072]), (216, [p33x_1068]), (45, [p33x_1069])] 213 [(28, [some (.inr (.inr (.inl 1))), some (.inl (ck_one 12)), some (.inl (ck_one 0)), some (.inl ((-1), 11, none)), none], ([], [], [(224, 3, 3, ck_one 13), (225, 0, 185, ck_one 0), (222, 3, 3, ck_one 12), (223, 0, 179, ck_one 0), (1, 15, 15, ck_one 1), (220, 3, 3, ck_one 0), (224, 1, 1, ck_one 6), (224, 0, 0, ck_one 31), (222, 1, 1, ck_one 6), (222, 0, 0, ck_one 30), (220, 0, 0, ck_one 24), (10, 3, 3, ck_one 0), (3, 0, 0, ck_one 3)]), 100, .inl 3, false), (35, [some (.inr (.inr (.inl 1))), some (.inl (ck_one 12)), some (.inl (ck_one 0)), some (.inl (0, 11, some (100, 0))), some (.inl (0, 3, none))], ([], [], [(224, 3, 3, ck_one 13), (225, 0, 185, ck_one 0), (222, 3, 3, ck_one 12), (223, 0, 179, ck_one 0), (1, 15, 15, ck_one 1), (220, 3, 3, ck_one 0), (224, 1, 1, ck_one 6), (224, 0, 0, ck_one 31), (222, 1, 1, ck_one 6), (222, 0, 0, ck_one 30), (220, 0, 0, ck_one 24), (10, 3, 3, ck_one 0), (3, 0, 0, ck_one 3)]), 300, .inl 4, true), (94, [some (.inr (.inr (.inl 1))), some (.inl (ck_one 12)), some (.inl (ck_one 0)), some (.inl (ck_one 0)), some (.inl (1, 3, none))], ([], [], [(224, 3, 3, ck_one 13), (225, 0, 185, ck_one 0), (222, 3, 3, ck_one 12), (223, 0, 179, ck_one 0), (1, 15, 15, ck_one 1), (220, 3, 3, ck_one 0), (224, 1, 1, ck_one 6), (224, 0, 0, ck_one 31), (222, 1, 1, ck_one 6), (222, 0, 0, ck_one 30), (220, 0, 0, ck_one 24), (10, 3, 3, ck_one 0), (3, 0, 0, ck_one 3)]), 500, .inl 4, true)] 330 p33x_1102 = true := by decide +kernel
theorem p33x_1102_s {X : Int → Int} {LX : Nat} : ck_Ok p1_O X LX 213 p33x_1102 := ck_ok_s (ck_E1 (ck_S1 p33x_982_s ck_S0) (ck_E1 (ck_S1 p33x_148_s ck_S0) (ck_E1 (ck_S1 p33x_984_s ck_S0) (ck_E1 (ck_S1 p33x_985_s ck_S0) (ck_E1 (ck_S1 p33x_1064_s (ck_S1 p33x_1071_s (ck_S1 p33x_1072_s ck_S0))) (ck_E1 (ck_S1 p33x_1068_s ck_S0) (ck_E1 (ck_S1 p33x_1069_s ck_S0) ck_E0))))))) ck_X0 ck_l0 p33x_1102_e
set_option maxRecDepth 100000 in
def p33x_1103 : ck_Sum := ((4, 0, 0), 245, [.inr (.inr (.inl 1)), .inl (ck_one 12), .inl (ck_one 0), .inr (.inr (.inl 245))], ([], [], [(224, 1, 1, ck_one 6), (224, 0, 0, ck_one 31), (224, 3, 3, ck_one 0), (222, 1, 1, ck_one 6), (222, 0, 0, ck_one 30), (222, 3, 3, ck_one 0), (1, 15, 15, ck_one 0), (220, 0, 0, ck_one 24), (220, 3, 3, ck_one 0), (10, 3, 3, ck_one 0), (3, 0, 0, ck_one 3), (223, 0, 179, ck_one 0), (225, 0, 185, ck_one 0)]), ([(1, 15, 15), (220, 3, 3), (221, 0, 47), (222, 3, 3), (223, 0, 179), (224, 3, 3), (225, 0, 185), (245, 0, 0)], []), [(.inr (some (.inl (ck_one 0))), 245, ([], [], [(245, 0, 0, ck_one 0), (224, 3, 3, ck_one 13), (222, 3, 3, ck_one 12), (1, 15, 15, ck_one 1), (220, 3, 3, ck_one 0), (223, 0, 179, ck_one 0), (225, 0, 185, ck_one 0)]))])
set_option maxRecDepth 100000 in
theorem p33x_1103_e : ck_ok p1_O none [] [(213, [p33x_1102])] 212 [] 92 p33x_1103 = true := by decide +kernel
theorem p33x_1103_s {X : Int → Int} {LX : Nat} : ck_Ok p1_O X LX 212 p33x_1103 := ck_ok_s (ck_E1 (ck_S1 p33x_1102_s ck_S0) ck_E0) ck_X0 ck_l0 p33x_1103_e
set_option maxRecDepth 100000 in
def p33x_1105 : ck_Sum := ((0, 0, 0), 245, [.inr (.inr (.inl 1)), .inl (ck_one 13)], ([], [], []), ([], []), [(.inr none, 245, ([], [], []))])
set_option maxRecDepth 100000 in
theorem p33x_1105_e : ck_ok p1_O none [] [] 214 [] 84 p33x_1105 = true := by decide +kernel
theorem p33x_1105_s {X : Int → Int} {LX : Nat} : ck_Ok p1_O X LX 214 p33x_1105 := ck_ok_s (ck_E0) ck_X0 ck_l0 p33x_1105_e
set_option maxRecDepth 100000 in
def p33x_1106 : ck_Sum := ((1, 0, 0), 245, [.inr (.inr (.inl 222)), .inl (ck_one 13)], ([], [], [(222, 0, 0, ck_one 30), (223, 0, 179, ck_one 0)]), ([(222, 3, 3), (223, 0, 179)], []), [(.inr none, 245, ([], [], [(222, 3, 3, ck_one 13), (223, 0, 179, ck_one 0)]))])
set_option maxRecDepth 100000 in
theorem p33x_1106_e : ck_ok p1_O none [] [(8, [p33x_149])] 25 [] 96 p33x_1106 = true := by decide +kernel
theorem p33x_1106_s {X : Int → Int} {LX : Nat} : ck_Ok p1_O X LX 25 p33x_1106 := ck_ok_s (ck_E1 (ck_S1 p33x_149_s ck_S0) ck_E0) ck_X0 ck_l0 p33x_1106_e
set_option maxRecDepth 100000 in
def p33x_1107 : ck_Sum := ((2, 0, 0), 245, [.inr (.inr (.inl 1)), .inl (ck_one 13)], ([], [], [(220, 3, 3, ck_one 0), (222, 0, 0, ck_one 30), (222, 3, 3, ck_one 0), (223, 0, 179, ck_one 0)]), ([(222, 3, 3), (223, 0, 179)], []), [(.inr none, 245, ([], [], [(222, 3, 3, ck_one 13), (223, 0, 179, ck_one 0)]))])
set_option maxRecDepth 100000 in
theorem p33x_1107_e : ck_ok p1_O none [] [(25, [p33x_1106]), (9, [p33x_147])] 215 [(10, [some (.inr (.inr (.inl 1))), some (.inl (ck_one 13)), some (.inl (ck_one 0)), none, none], ([], [], [(222, 3, 3, ck_one 13), (223, 0, 179, ck_one 0), (220, 3, 3, ck_one 0), (222, 0, 0, ck_one 30)]), 100, .inl 2, true)] 118 p33x_1107 = true := by decide +kernel
theorem p33x_1107_s {X : Int → Int} {LX : Nat} : ck_Ok p1_O X LX 215 p33x_1107 := ck_ok_s (ck_E1 (ck_S1 p33x_1106_s ck_S0) (ck_E1 (ck_S1 p33x_147_s ck_S0) ck_E0)) ck_X0 ck_l0 p33x_1107_e
set_option maxRecDepth 100000 in
def p33x_1108 : ck_Sum := ((1, 0, 0), 245, [.inr (.inr (.inl 224)), .inl (ck_one 14)], ([], [], [(224, 0, 0, ck_one 31), (225, 0, 185, ck_one 0)]), ([(224, 3, 3), (225, 0, 185)], []), [(.inr none, 245, ([], [], [(224, 3, 3, ck_one 14), (225, 0, 185, ck_one 0)]))])
set_option maxRecDepth 100000 in
theorem p33x_1108_e : ck_ok p1_O none [] [(8, [p33x_152])] 25 [] 96 p33x_1108 = true := by decide +kernel
theorem p33x_1108_s {X : Int → Int} {LX : Nat} : ck_Ok p1_O X LX 25 p33x_1108 := ck_ok_s (ck_E1 (ck_S1 p33x_152_s ck_S0) ck_E0) ck_X0 ck_l0 p33x_1108_e
set_option maxRecDepth 100000 in
def p33x_1193 : ck_Sum := ((0, 0, 0), 245, [.inr (.inr (.inl 222)), .inl (0, 12, none), .inl (0, 2, none)], ([], [], [(222, 3, 3, ck_one 13), (223, 0, 179, ck_one 0), (222, 1, 1, ck_one 6)]), ([], []), [(.inr (some (.inl (ck_one 0))), 245, ([], [], []))])
set_option maxRecDepth 100000 in
theorem p33x_1193_e : ck_ok p1_O none [] [] 10 [] 114 p33x_1193 = true := by decide +kernel
theorem p33x_1193_s {X : Int → Int} {LX : Nat} : ck_Ok p1_O X LX 10 p33x_1193 := ck_ok_s (ck_E0) ck_X0 ck_l0 p33x_1193_e
set_option maxRecDepth 100000 in
def p33x_1201 : ck_Sum := ((0, 0, 0), 245, [.inr (.inr (.inl 224)), .inl (ck_one 0), .inl (1, 2, none)], ([], [], [(224, 3, 3, ck_one 14), (225, 0, 185, ck_one 0), (224, 1, 1, ck_one 6)]), ([], []), [(.inr (some (.inl (ck_one 0))), 245, ([], [], []))])
set_option maxRecDepth 100000 in
theorem p33x_1201_e : ck_ok p1_O none [] [] 10 [] 114 p33x_1201 = true := by decide +kernel
theorem p33x_1201_s {X : Int → Int} {LX : Nat} : ck_Ok p1_O X LX 10 p33x_1201 := ck_ok_s (ck_E0) ck_X0 ck_l0 p33x_1201_e
set_option maxRecDepth 100000 in
def p33x_1200 : ck_Sum := ((0, 0, 0), 245, [.inr (.inr (.inl 224)), .inl (ck_one 0), .inl (ck_one 0)], ([], [], [(224, 3, 3, ck_one 14), (225, 0, 185, ck_one 0), (224, 1, 1, ck_one 6)]), ([], []), [(.inr (some (.inl (ck_one 0))), 245, ([], [], []))])
set_option maxRecDepth 100000 in
theorem p33x_1200_e : ck_ok p1_O none [] [] 10 [] 114 p33x_1200 = true := by decide +kernel
theorem p33x_1200_s {X : Int → Int} {LX : Nat} : ck_Ok p1_O X LX 10 p33x_1200 := ck_ok_s (ck_E0) ck_X0 ck_l0 p33x_1200_e
set_option maxRecDepth 100000 in
def p33x_1194 : ck_Sum := ((0, 0, 0), 245, [.inr (.inr (.inl 224)), .inl (1, 13, none), .inl ((-1), 1, none)], ([], [], [(224, 3, 3, ck_one 14), (225, 0, 185, ck_one 0), (224, 1, 1, ck_one 6)]), ([], []), [(.inr (some (.inl (ck_one (-1)))), 245, ([], [], [])), (.inr (some (.inl (ck_one 0))), 245, ([], [], []))])
set_option maxRecDepth 100000 in
theorem p33x_1194_e : ck_ok p1_O none [] [] 10 [] 114 p33x_1194 = true := by decide +kernel
theorem p33x_1194_s {X : Int → Int} {LX : Nat} : ck_Ok p1_O X LX 10 p33x_1194 := ck_ok_s (ck_E0) ck_X0 ck_l0 p33x_1194_e
set_option maxRecDepth 100000 in
def p33x_1195 : ck_Sum := ((0, 0, 0), 245, [.inr (.inr (.inl 224)), .inl (1, 13, none), .inl (1, 3, none)], ([], [], [(224, 3, 3, ck_one 14), (225, 0, 185, ck_one 0), (224, 1, 1, ck_one 6)]), ([], []), [(.inr (some (.inl (ck_one 0))), 245, ([], [], []))])
set_option maxRecDepth 100000 in
theorem p33x_1195_e : ck_ok p1_O none [] [] 10 [] 114 p33x_1195 = true := by decide +kernel
theorem p33x_1195_s {X : Int → Int} {LX : Nat} : ck_Ok p1_O X LX 10 p33x_1195 := ck_ok_s (ck_E0) ck_X0 ck_l0 p33x_1195_e
set_option maxRecDepth 100000 in
def p33x_1196 : ck_Sum := ((0, 0, 0), 245, [.inr (.inr (.inl 224)), .inl (1, 13, none), .inl (0, 2, none)], ([], [], [(224, 3, 3, ck_one 14), (225, 0, 185, ck_one 0), (224, 1, 1, ck_one 6)]), ([], []), [(.inr (some (.inl (ck_one 0))), 245, ([], [], []))])
set_option maxRecDepth 100000 in
theorem p33x_1196_e : ck_ok p1_O none [] [] 10 [] 114 p33x_1196 = true := by decide +kernel
theorem p33x_1196_s {X : Int → Int} {LX : Nat} : ck_Ok p1_O X LX 10 p33x_1196 := ck_ok_s (ck_E0) ck_X0 ck_l0 p33x_1196_e
set_option maxRecDepth 100000 in
def p33x_1197 : ck_Sum := ((1, 0, 0), 245, [.inr (.inr (.inl 1)), .inl (1, 13, none), .inl (0, 2, none)], ([], [], [(224, 3, 3, ck_one 14), (225, 0, 185, ck_one 0), (224, 1, 1, ck_one 6)]), ([], []), [(.inr (some (.inl (ck_one 0))), 245, ([], [], []))])
set_option maxRecDepth 100000 in
theorem p33x_1197_e : ck_ok p1_O none [] [(10, [p33x_1194, p33x_1195, p33x_1196])] 216 [] 118 p33x_1197 = true := by decide +kernel
theorem p33x_1197_s {X : Int → Int} {LX : Nat} : ck_Ok p1_O X LX 216 p33x_1197 := ck_ok_s (ck_E1 (ck_S1 p33x_1194_s (ck_S1 p33x_1195_s (ck_S1 p33x_1196_s ck_S0))) ck_E0) ck_X0 ck_l0 p33x_1197_e
set_option maxRecDepth 100000 in
def p33x_1198 : ck_Sum := ((0, 0, 0), 245, [.inr (.inr (.inl 224)), .inl (0, 12, none), .inl (0, 2, none), .inl (ck_one 0)], ([], [], [(224, 3, 3, ck_one 14), (225, 0, 185, ck_one 0), (224, 1, 1, ck_one 6)]), ([(225, 0, 74)], []), [(.inr none, 245, ([], [], [(225, 0, 185, ck_one 0)]))])
set_option maxRecDepth 100000 in
theorem p33x_1198_e : ck_ok p1_O none [] [] 45 [] 116 p33x_1198 = true := by decide +kernel
theorem p33x_1198_s {X : Int → Int} {LX : Nat} : ck_Ok p1_O X LX 45 p33x_1198 := ck_ok_s (ck_E0) ck_X0 ck_l0 p33x_1198_e
set_option maxRecDepth 100000 in
def p33x_1202 : ck_Sum := ((3, 0, 0), 245, [.inr (.inr (.inl 1)), .inl (ck_one 13), .inl (ck_one 1)], ([], [], [(224, 1, 1, ck_one 6), (224, 0, 0, ck_one 31), (224, 3, 3, ck_one 0), (222, 1, 1, ck_one 6), (222, 0, 0, ck_one 30), (222, 3, 3, ck_one 0), (1, 15, 15, ck_one 0), (220, 0, 0, ck_one 24), (220, 3, 3, ck_one 0), (10, 3, 3, ck_one 0), (3, 0, 0, ck_one 3), (223, 0, 179, ck_one 0), (225, 0, 185, ck_one 0)]), ([(1, 15, 15), (220, 3, 3), (221, 0, 47), (222, 3, 3), (223, 0, 179), (224, 3, 3), (225, 0, 185)], []), [(.inr (some (.inl (ck_one 0))), 245, ([], [], [(224, 3, 3, ck_one 14), (222, 3, 3, ck_one 13), (1, 15, 15, ck_one 1), (220, 3, 3, ck_one 0), (223, 0, 179, ck_one 0), (225, 0, 185, ck_one 0)]))])
set_option maxRecDepth 100000 in
theorem p33x_1202_e : ck_ok p1_O none [] [(214, [p33x_1105]), (24, [p33x_148]), (215, [p33x_1107]), (25, [p33x_1108]), (10, [p33x_1193, p33x_1201, p33x_1200]), (216, [p33x_1197]), (45, [p33x_1198])] 213 [(28, [some (.inr (.inr (.inl 1))), some (.inl (ck_one 13)), some (.inl (ck_one 1)), some (.inl ((-1), 12, none)), none], ([], [], [(224, 3, 3, ck_one 14), (225, 0, 185, ck_one 0), (222, 3, 3, ck_one 13), (223, 0, 179, ck_one 0), (1, 15, 15, ck_one 1), (220, 3, 3, ck_one 0), (224, 1, 1, ck_one 6), (224, 0, 0, ck_one 31), (222, 1, 1, ck_one 6), (222, 0, 0, ck_one 30), (220, 0, 0, ck_one 24), (10, 3, 3, ck_one 0), (3, 0, 0, ck_one 3)]), 100, .inl 3, false), (35, [some (.inr (.inr (.inl 1))), some (.inl (ck_one 13)), some (.inl (ck_one 1)), some (.inl (0, 12, some (100, 0))), some (.inl (0, 3, none))], ([], [], [(224, 3, 3, ck_one 14), (225, 0, 185, ck_one 0), (222, 3, 3, ck_one 13), (223, 0, 179, ck_one 0), (1, 15, 15, ck_one 1), (220, 3, 3, ck_one 0), (224, 1, 1, ck_one 6), (224, 0, 0, ck_one 31), (222, 1, 1, ck_one 6), (222, 0, 0, ck_one 30), (220, 0, 0, ck_one 24), (10, 3, 3, ck_one 0), (3, 0, 0, ck_one 3)]), 300, .inl 4, true), (94, [some (.inr (.inr (.inl 1))), some (.inl (ck_one 13)), some (.inl (ck_one 1)), some (.inl (ck_one 0)), some (.inl (1, 3, none))], ([], [], [(224, 3, 3, ck_one 14), (225, 0, 185, ck_one 0), (222, 3, 3, ck_one 13), (223, 0, 179, ck_one 0), (1, 15, 15, ck_one 1), (220, 3, 3, ck_one 0), (224, 1, 1, ck_one 6), (224, 0, 0, ck_one 31), (222, 1, 1, ck_one 6), (222, 0, 0, ck_one 30), (220, 0, 0, ck_one 24), (10, 3, 3, ck_one 0), (3, 0, 0, ck_one 3)]), 500, .inl 4, true)] 330 p33x_1202 = true := by decide +kernel
theorem p33x_1202_s {X : Int → Int} {LX : Nat} : ck_Ok p1_O X LX 213 p33x_1202 := ck_ok_s (ck_E1 (ck_S1 p33x_1105_s ck_S0) (ck_E1 (ck_S1 p33x_148_s ck_S0) (ck_E1 (ck_S1 p33x_1107_s ck_S0) (ck_E1 (ck_S1 p33x_1108_s ck_S0) (ck_E1 (ck_S1 p33x_1193_s (ck_S1 p33x_1201_s (ck_S1 p33x_1200_s ck_S0))) (ck_E1 (ck_S1 p33x_1197_s ck_S0) (ck_E1 (ck_S1 p33x_1198_s ck_S0) ck_E0))))))) ck_X0 ck_l0 p33x_1202_e
set_option maxRecDepth 100000 in
def p33x_1203 : ck_Sum := ((4, 0, 0), 245, [.inr (.inr (.inl 1)), .inl (ck_one 13), .inl (ck_one 1), .inr (.inr (.inl 245))], ([], [], [(224, 1, 1, ck_one 6), (224, 0, 0, ck_one 31), (224, 3, 3, ck_one 0), (222, 1, 1, ck_one 6), (222, 0, 0, ck_one 30), (222, 3, 3, ck_one 0), (1, 15, 15, ck_one 0), (220, 0, 0, ck_one 24), (220, 3, 3, ck_one 0), (10, 3, 3, ck_one 0), (3, 0, 0, ck_one 3), (223, 0, 179, ck_one 0), (225, 0, 185, ck_one 0)]), ([(1, 15, 15), (220, 3, 3), (221, 0, 47), (222, 3, 3), (223, 0, 179), (224, 3, 3), (225, 0, 185), (245, 0, 0)], []), [(.inr (some (.inl (ck_one 0))), 245, ([], [], [(245, 0, 0, ck_one 0), (224, 3, 3, ck_one 14), (222, 3, 3, ck_one 13), (1, 15, 15, ck_one 1), (220, 3, 3, ck_one 0), (223, 0, 179, ck_one 0), (225, 0, 185, ck_one 0)]))])
set_option maxRecDepth 100000 in
theorem p33x_1203_e : ck_ok p1_O none [] [(213, [p33x_1202])] 212 [] 92 p33x_1203 = true := by decide +kernel
theorem p33x_1203_s {X : Int → Int} {LX : Nat} : ck_Ok p1_O X LX 212 p33x_1203 := ck_ok_s (ck_E1 (ck_S1 p33x_1202_s ck_S0) ck_E0) ck_X0 ck_l0 p33x_1203_e
set_option maxRecDepth 100000 in
def p33x_1233 : ck_Sum := ((3, 0, 0), 245, [.inr (.inr (.inl 1)), .inl (ck_one 13), .inl (ck_one 0)], ([], [], [(224, 1, 1, ck_one 6), (224, 0, 0, ck_one 31), (224, 3, 3, ck_one 0), (222, 1, 1, ck_one 6), (222, 0, 0, ck_one 30), (222, 3, 3, ck_one 0), (1, 15, 15, ck_one 0), (220, 0, 0, ck_one 24), (220, 3, 3, ck_one 0), (10, 3, 3, ck_one 0), (3, 0, 0, ck_one 3), (223, 0, 179, ck_one 0), (225, 0, 185, ck_one 0)]), ([(1, 15, 15), (220, 3, 3), (221, 0, 47), (222, 3, 3), (223, 0, 179), (224, 3, 3), (225, 0, 185)], []), [(.inr (some (.inl (ck_one 0))), 245, ([], [], [(224, 3, 3, ck_one 14), (222, 3, 3, ck_one 13), (1, 15, 15, ck_one 1), (220, 3, 3, ck_one 0), (223, 0, 179, ck_one 0), (225, 0, 185, ck_one 0)]))])
set_option maxRecDepth 100000 in
theorem p33x_1233_e : ck_ok p1_O none [] [(214, [p33x_1105]), (24, [p33x_148]), (215, [p33x_1107]), (25, [p33x_1108]), (10, [p33x_1193, p33x_1200, p33x_1201]), (216, [p33x_1197]), (45, [p33x_1198])] 213 [(28, [some (.inr (.inr (.inl 1))), some (.inl (ck_one 13)), some (.inl (ck_one 0)), some (.inl ((-1), 12, none)), none], ([], [], [(224, 3, 3, ck_one 14), (225, 0, 185, ck_one 0), (222, 3, 3, ck_one 13), (223, 0, 179, ck_one 0), (1, 15, 15, ck_one 1), (220, 3, 3, ck_one 0), (224, 1, 1, ck_one 6), (224, 0, 0, ck_one 31), (222, 1, 1, ck_one 6), (222, 0, 0, ck_one 30), (220, 0, 0, ck_one 24), (10, 3, 3, ck_one 0), (3, 0, 0, ck_one 3)]), 100, .inl 3, false), (35, [some (.inr (.inr (.inl 1))), some (.inl (ck_one 13)), some (.inl (ck_one 0)), some (.inl (0, 12, some (100, 0))), some (.inl (0, 3, none))], ([], [], [(224, 3, 3, ck_one 14), (225, 0, 185, ck_one 0), (222, 3, 3, ck_one 13), (223, 0, 179, ck_one 0), (1, 15, 15, ck_one 1), (220, 3, 3, ck_one 0), (224, 1, 1, ck_one 6), (224, 0, 0, ck_one 31), (222, 1, 1, ck_one 6), (222, 0, 0, ck_one 30), (220, 0, 0, ck_one 24), (10, 3, 3, ck_one 0), (3, 0, 0, ck_one 3)]), 300, .inl 4, true), (94, [some (.inr (.inr (.inl 1))), some (.inl (ck_one 13)), some (.inl (ck_one 0)), some (.inl (ck_one 0)), some (.inl (1, 3, none))], ([], [], [(224, 3, 3, ck_one 14), (225, 0, 185, ck_one 0), (222, 3, 3, ck_one 13), (223, 0, 179, ck_one 0), (1, 15, 15, ck_one 1), (220, 3, 3, ck_one 0), (224, 1, 1, ck_one 6), (224, 0, 0, ck_one 31), (222, 1, 1, ck_one 6), (222, 0, 0, ck_one 30), (220, 0, 0, ck_one 24), (10, 3, 3, ck_one 0), (3, 0, 0, ck_one 3)]), 500, .inl 4, true)] 330 p33x_1233 = true := by decide +kernel
theorem p33x_1233_s {X : Int → Int} {LX : Nat} : ck_Ok p1_O X LX 213 p33x_1233 := ck_ok_s (ck_E1 (ck_S1 p33x_1105_s ck_S0) (ck_E1 (ck_S1 p33x_148_s ck_S0) (ck_E1 (ck_S1 p33x_1107_s ck_S0) (ck_E1 (ck_S1 p33x_1108_s ck_S0) (ck_E1 (ck_S1 p33x_1193_s (ck_S1 p33x_1200_s (ck_S1 p33x_1201_s ck_S0))) (ck_E1 (ck_S1 p33x_1197_s ck_S0) (ck_E1 (ck_S1 p33x_1198_s ck_S0) ck_E0))))))) ck_X0 ck_l0 p33x_1233_e
set_option maxRecDepth 100000 in
def p33x_1234 : ck_Sum := ((4, 0, 0), 245, [.inr (.inr (.inl 1)), .inl (ck_one 13), .inl (ck_one 0), .inr (.inr (.inl 245))], ([], [], [(224, 1, 1, ck_one 6), (224, 0, 0, ck_one 31), (224, 3, 3, ck_one 0), (222, 1, 1, ck_one 6), (222, 0, 0, ck_one 30), (222, 3, 3, ck_one 0), (1, 15, 15, ck_one 0), (220, 0, 0, ck_one 24), (220, 3, 3, ck_one 0), (10, 3, 3, ck_one 0), (3, 0, 0, ck_one 3), (223, 0, 179, ck_one 0), (225, 0, 185, ck_one 0)]), ([(1, 15, 15), (220, 3, 3), (221, 0, 47), (222, 3, 3), (223, 0, 179), (224, 3, 3), (225, 0, 185), (245, 0, 0)], []), [(.inr (some (.inl (ck_one 0))), 245, ([], [], [(245, 0, 0, ck_one 0), (224, 3, 3, ck_one 14), (222, 3, 3, ck_one 13), (1, 15, 15, ck_one 1), (220, 3, 3, ck_one 0), (223, 0, 179, ck_one 0), (225, 0, 185, ck_one 0)]))])
set_option maxRecDepth 100000 in
theorem p33x_1234_e : ck_ok p1_O none [] [(213, [p33x_1233])] 212 [] 92 p33x_1234 = true := by decide +kernel
theorem p33x_1234_s {X : Int → Int} {LX : Nat} : ck_Ok p1_O X LX 212 p33x_1234 := ck_ok_s (ck_E1 (ck_S1 p33x_1233_s ck_S0) ck_E0) ck_X0 ck_l0 p33x_1234_e
set_option maxRecDepth 100000 in
def p33x_1236 : ck_Sum := ((0, 0, 0), 245, [.inr (.inr (.inl 1)), .inl (ck_one 14)], ([], [], []), ([], []), [(.inr none, 245, ([], [], []))])
set_option maxRecDepth 100000 in
theorem p33x_1236_e : ck_ok p1_O none [] [] 214 [] 84 p33x_1236 = true := by decide +kernel
theorem p33x_1236_s {X : Int → Int} {LX : Nat} : ck_Ok p1_O X LX 214 p33x_1236 := ck_ok_s (ck_E0) ck_X0 ck_l0 p33x_1236_e
set_option maxRecDepth 100000 in
def p33x_1237 : ck_Sum := ((1, 0, 0), 245, [.inr (.inr (.inl 222)), .inl (ck_one 14)], ([], [], [(222, 0, 0, ck_one 30), (223, 0, 179, ck_one 0)]), ([(222, 3, 3), (223, 0, 179)], []), [(.inr none, 245, ([], [], [(222, 3, 3, ck_one 14), (223, 0, 179, ck_one 0)]))])
set_option maxRecDepth 100000 in
theorem p33x_1237_e : ck_ok p1_O none [] [(8, [p33x_149])] 25 [] 96 p33x_1237 = true := by decide +kernel
theorem p33x_1237_s {X : Int → Int} {LX : Nat} : ck_Ok p1_O X LX 25 p33x_1237 := ck_ok_s (ck_E1 (ck_S1 p33x_149_s ck_S0) ck_E0) ck_X0 ck_l0 p33x_1237_e
set_option maxRecDepth 100000 in
def p33x_1238 : ck_Sum := ((2, 0, 0), 245, [.inr (.inr (.inl 1)), .inl (ck_one 14)], ([], [], [(220, 3, 3, ck_one 0), (222, 0, 0, ck_one 30), (222, 3, 3, ck_one 0), (223, 0, 179, ck_one 0)]), ([(222, 3, 3), (223, 0, 179)], []), [(.inr none, 245, ([], [], [(222, 3, 3, ck_one 14), (223, 0, 179, ck_one 0)]))])
set_option maxRecDepth 100000 in
theorem p33x_1238_e : ck_ok p1_O none [] [(25, [p33x_1237]), (9, [p33x_147])] 215 [(10, [some (.inr (.inr (.inl 1))), some (.inl (ck_one 14)), some (.inl (ck_one 0)), none, none], ([], [], [(222, 3, 3, ck_one 14), (223, 0, 179, ck_one 0), (220, 3, 3, ck_one 0), (222, 0, 0, ck_one 30)]), 100, .inl 2, true)] 118 p33x_1238 = true := by decide +kernel
theorem p33x_1238_s {X : Int → Int} {LX : Nat} : ck_Ok p1_O X LX 215 p33x_1238 := ck_ok_s (ck_E1 (ck_S1 p33x_1237_s ck_S0) (ck_E1 (ck_S1 p33x_147_s ck_S0) ck_E0)) ck_X0 ck_l0 p33x_1238_e
set_option maxRecDepth 100000 in
def p33x_1239 : ck_Sum := ((1, 0, 0), 245, [.inr (.inr (.inl 224)), .inl (ck_one 15)], ([], [], [(224, 0, 0, ck_one 31), (225, 0, 185, ck_one 0)]), ([(224, 3, 3), (225, 0, 185)], []), [(.inr none, 245, ([], [], [(224, 3, 3, ck_one 15), (225, 0, 185, ck_one 0)]))])
set_option maxRecDepth 100000 in
theorem p33x_1239_e : ck_ok p1_O none [] [(8, [p33x_152])] 25 [] 96 p33x_1239 = true := by decide +kernel
theorem p33x_1239_s {X : Int → Int} {LX : Nat} : ck_Ok p1_O X LX 25 p33x_1239 := ck_ok_s (ck_E1 (ck_S1 p33x_152_s ck_S0) ck_E0) ck_X0 ck_l0 p33x_1239_e
set_option maxRecDepth 100000 in
def p33x_1330 : ck_Sum := ((0, 0, 0), 245, [.inr (.inr (.inl 222)), .inl (0, 13, none), .inl (0, 2, none)], ([], [], [(222, 3, 3, ck_one 14), (223, 0, 179, ck_one 0), (222, 1, 1, ck_one 6)]), ([], []), [(.inr (some (.inl (ck_one 0))), 245, ([], [], []))])
set_option maxRecDepth 100000 in
theorem p33x_1330_e : ck_ok p1_O none [] [] 10 [] 114 p33x_1330 = true := by decide +kernel
theorem p33x_1330_s {X : Int → Int} {LX : Nat} : ck_Ok p1_O X LX 10 p33x_1330 := ck_ok_s (ck_E0) ck_X0 ck_l0 p33x_1330_e
set_option maxRecDepth 100000 in
def p33x_1338 : ck_Sum := ((0, 0, 0), 245, [.inr (.inr (.inl 224)), .inl (ck_one 0), .inl (1, 2, none)], ([], [], [(224, 3, 3, ck_one 15), (225, 0, 185, ck_one 0), (224, 1, 1, ck_one 6)]), ([], []), [(.inr (some (.inl (ck_one 0))), 245, ([], [], []))])
set_option maxRecDepth 100000 in
theorem p33x_1338_e : ck_ok p1_O none [] [] 10 [] 114 p33x_1338 = true := by decide +kernel
theorem p33x_1338_s {X : Int → Int} {LX : Nat} : ck_Ok p1_O X LX 10 p33x_1338 := ck_ok_s (ck_E0) ck_X0 ck_l0 p33x_1338_e
set_option maxRecDepth 100000 in
def p33x_1337 : ck_Sum := ((0, 0, 0), 245, [.inr (.inr (.inl 224)), .inl (ck_one 0), .inl (ck_one 0)], ([], [], [(224, 3, 3, ck_one 15), (225, 0, 185, ck_one 0), (224, 1, 1, ck_one 6)]), ([], []), [(.inr (some (.inl (ck_one 0))), 245, ([], [], []))])
set_option maxRecDepth 100000 in
theorem p33x_1337_e : ck_ok p1_O none [] [] 10 [] 114 p33x_1337 = true := by decide +kernel
theorem p33x_1337_s {X : Int → Int} {LX : Nat} : ck_Ok p1_O X LX 10 p33x_1337 := ck_ok_s (ck_E0) ck_X0 ck_l0 p33x_1337_e
set_option maxRecDepth 100000 in
def p33x_1331 : ck_Sum := ((0, 0, 0), 245, [.inr (.inr (.inl 224)), .inl (1, 14, none), .inl ((-1), 1, none)], ([], [], [(224, 3, 3, ck_one 15), (225, 0, 185, ck_one 0), (224, 1, 1, ck_one 6)]), ([], []), [(.inr (some (.inl (ck_one (-1)))), 245, ([], [], [])), (.inr (some (.inl (ck_one 0))), 245, ([], [], []))])
set_option maxRecDepth 100000 in
theorem p33x_1331_e : ck_ok p1_O none [] [] 10 [] 114 p33x_1331 = true := by decide +kernel
theorem p33x_1331_s {X : Int → Int} {LX : Nat} : ck_Ok p1_O X LX 10 p33x_1331 := ck_ok_s (ck_E0) ck_X0 ck_l0 p33x_1331_e
set_option maxRecDepth 100000 in
def p33x_1332 : ck_Sum := ((0, 0, 0), 245, [.inr (.inr (.inl 224)), .inl (1, 14, none), .inl (1, 3, none)], ([], [], [(224, 3, 3, ck_one 15), (225, 0, 185, ck_one 0), (224, 1, 1, ck_one 6)]), ([], []), [(.inr (some (.inl (ck_one 0))), 245, ([], [], []))])
set_option maxRecDepth 100000 in
theorem p33x_1332_e : ck_ok p1_O none [] [] 10 [] 114 p33x_1332 = true := by decide +kernel
theorem p33x_1332_s {X : Int → Int} {LX : Nat} : ck_Ok p1_O X LX 10 p33x_1332 := ck_ok_s (ck_E0) ck_X0 ck_l0 p33x_1332_e
set_option maxRecDepth 100000 in
def p33x_1333 : ck_Sum := ((0, 0, 0), 245, [.inr (.inr (.inl 224)), .inl (1, 14, none), .inl (0, 2, none)], ([], [], [(224, 3, 3, ck_one 15), (225, 0, 185, ck_one 0), (224, 1, 1, ck_one 6)]), ([], []), [(.inr (some (.inl (ck_one 0))), 245, ([], [], []))])
set_option maxRecDepth 100000 in
theorem p33x_1333_e : ck_ok p1_O none [] [] 10 [] 114 p33x_1333 = true := by decide +kernel
theorem p33x_1333_s {X : Int → Int} {LX : Nat} : ck_Ok p1_O X LX 10 p33x_1333 := ck_ok_s (ck_E0) ck_X0 ck_l0 p33x_1333_e
set_option maxRecDepth 100000 in
def p33x_1334 : ck_Sum := ((1, 0, 0), 245, [.inr (.inr (.inl 1)), .inl (1, 14, none), .inl (0, 2, none)], ([], [], [(224, 3, 3, ck_one 15), (225, 0, 185, ck_one 0), (224, 1, 1, ck_one 6)]), ([], []), [(.inr (some (.inl (ck_one 0))), 245, ([], [], []))])
set_option maxRecDepth 100000 in
theorem p33x_1334_e : ck_ok p1_O none [] [(10, [p33x_1331, p33x_1332, p33x_1333])] 216 [] 118 p33x_1334 = true := by decide +kernel
theorem p33x_1334_s {X : Int → Int} {LX : Nat} : ck_Ok p1_O X LX 216 p33x_1334 := ck_ok_s (ck_E1 (ck_S1 p33x_1331_s (ck_S1 p33x_1332_s (ck_S1 p33x_1333_s ck_S0))) ck_E0) ck_X0 ck_l0 p33x_1334_e
set_option maxRecDepth 100000 in
def p33x_1335 : ck_Sum := ((0, 0, 0), 245, [.inr (.inr (.inl 224)), .inl (0, 13, none), .inl (0, 2, none), .inl (ck_one 0)], ([], [], [(224, 3, 3, ck_one 15), (225, 0, 185, ck_one 0), (224, 1, 1, ck_one 6)]), ([(225, 0, 80)], []), [(.inr none, 245, ([], [], [(225, 0, 185, ck_one 0)]))])
set_option maxRecDepth 100000 in
theorem p33x_1335_e : ck_ok p1_O none [] [] 45 [] 116 p33x_1335 = true := by decide +kernel
theorem p33x_1335_s {X : Int → Int} {LX : Nat} : ck_Ok p1_O X LX 45 p33x_1335 := ck_ok_s (ck_E0) ck_X0 ck_l0 p33x_1335_e
set_option maxRecDepth 100000 in
def p33x_1339 : ck_Sum := ((3, 0, 0), 245, [.inr (.inr (.inl 1)), .inl (ck_one 14), .inl (ck_one 1)], ([], [], [(224, 1, 1, ck_one 6), (224, 0, 0, ck_one 31), (224, 3, 3, ck_one 0), (222, 1, 1, ck_one 6), (222, 0, 0, ck_one 30), (222, 3, 3, ck_one 0), (1, 15, 15, ck_one 0), (220, 0, 0, ck_one 24), (220, 3, 3, ck_one 0), (10, 3, 3, ck_one 0), (3, 0, 0, ck_one 3), (223, 0, 179, ck_one 0), (225, 0, 185, ck_one 0)]), ([(1, 15, 15), (220, 3, 3), (221, 0, 47), (222, 3, 3), (223, 0, 179), (224, 3, 3), (225, 0, 185)], []), [(.inr (some (.inl (ck_one 0))), 245, ([], [], [(224, 3, 3, ck_one 15), (222, 3, 3, ck_one 14), (1, 15, 15, ck_one 1), (220, 3, 3, ck_one 0), (223, 0, 179, ck_one 0), (225, 0, 185, ck_one 0)]))])
set_option maxRecDepth 100000 in
theorem p33x_1339_e : ck_ok p1_O none [] [(214, [p33x_1236]), (24, [p33x_148]), (215, [p33x_1238]), (25, [p33x_1239]), (10, [p33x_1330, p33x_1338, p33x_1337]), (216, [p33x_1334]), (45, [p33x_1335])] 213 [(28, [some (.inr (.inr (.inl 1))), some (.inl (ck_one 14)), some (.inl (ck_one 1)), some (.inl ((-1), 13, none)), none], ([], [], [(224, 3, 3, ck_one 15), (225, 0, 185, ck_one 0), (222, 3, 3, ck_one 14), (223, 0, 179, ck_one 0), (1, 15, 15, ck_one 1), (220, 3, 3, ck_one 0), (224, 1, 1, ck_one 6), (224, 0, 0, ck_one 31), (222, 1, 1, ck_one 6), (222, 0, 0, ck_one 30), (220, 0, 0, ck_one 24), (10, 3, 3, ck_one 0), (3, 0, 0, ck_one 3)]), 100, .inl 3, false), (35, [some (.inr (.inr (.inl 1))), some (.inl (ck_one 14)), some (.inl (ck_one 1)), some (.inl (0, 13, some (100, 0))), some (.inl (0, 3, none))], ([], [], [(224, 3, 3, ck_one 15), (225, 0, 185, ck_one 0), (222, 3, 3, ck_one 14), (223, 0, 179, ck_one 0), (1, 15, 15, ck_one 1), (220, 3, 3, ck_one 0), (224, 1, 1, ck_one 6), (224, 0, 0, ck_one 31), (222, 1, 1, ck_one 6), (222, 0, 0, ck_one 30), (220, 0, 0, ck_one 24), (10, 3, 3, ck_one 0), (3, 0, 0, ck_one 3)]), 300, .inl 4, true), (94, [some (.inr (.inr (.inl 1))), some (.inl (ck_one 14)), some (.inl (ck_one 1)), some (.inl (ck_one 0)), some (.inl (1, 3, none))], ([], [], [(224, 3, 3, ck_one 15), (225, 0, 185, ck_one 0), (222, 3, 3, ck_one 14), (223, 0, 179, ck_one 0), (1, 15, 15, ck_one 1), (220, 3, 3, ck_one 0), (224, 1, 1, ck_one 6), (224, 0, 0, ck_one 31), (222, 1, 1, ck_one 6), (222, 0, 0, ck_one 30), (220, 0, 0, ck_one 24), (10, 3, 3, ck_one 0), (3, 0, 0, ck_one 3)]), 500, .inl 4, true)] 330 p33x_1339 = true := by decide +kernel
theorem p33x_1339_s {X : Int → Int} {LX : Nat} : ck_Ok p1_O X LX 213 p33x_1339 := ck_ok_s (ck_E1 (ck_S1 p33x_1236_s ck_S0) (ck_E1 (ck_S1 p33x_148_s ck_S0) (ck_E1 (ck_S1 p33x_1238_s ck_S0) (ck_E1 (ck_S1 p33x_1239_s ck_S0) (ck_E1 (ck_S1 p33x_1330_s (ck_S1 p33x_1338_s (ck_S1 p33x_1337_s ck_S0))) (ck_E1 (ck_S1 p33x_1334_s ck_S0) (ck_E1 (ck_S1 p33x_1335_s ck_S0) ck_E0))))))) ck_X0 ck_l0 p33x_1339_e
set_option maxRecDepth 100000 in
def p33x_1340 : ck_Sum := ((4, 0, 0), 245, [.inr (.inr (.inl 1)), .inl (ck_one 14), .inl (ck_one 1), .inr (.inr (.inl 245))], ([], [], [(224, 1, 1, ck_one 6), (224, 0, 0, ck_one 31), (224, 3, 3, ck_one 0), (222, 1, 1, ck_one 6), (222, 0, 0, ck_one 30), (222, 3, 3, ck_one 0), (1, 15, 15, ck_one 0), (220, 0, 0, ck_one 24), (220, 3, 3, ck_one 0), (10, 3, 3, ck_one 0), (3, 0, 0, ck_one 3), (223, 0, 179, ck_one 0), (225, 0, 185, ck_one 0)]), ([(1, 15, 15), (220, 3, 3), (221, 0, 47), (222, 3, 3), (223, 0, 179), (224, 3, 3), (225, 0, 185), (245, 0, 0)], []), [(.inr (some (.inl (ck_one 0))), 245, ([], [], [(245, 0, 0, ck_one 0), (224, 3, 3, ck_one 15), (222, 3, 3, ck_one 14), (1, 15, 15, ck_one 1), (220, 3, 3, ck_one 0), (223, 0, 179, ck_one 0), (225, 0, 185, ck_one 0)]))])
set_option maxRecDepth 100000 in
theorem p33x_1340_e : ck_ok p1_O none [] [(213, [p33x_1339])] 212 [] 92 p33x_1340 = true := by decide +kernel
theorem p33x_1340_s {X : Int → Int} {LX : Nat} : ck_Ok p1_O X LX 212 p33x_1340 := ck_ok_s (ck_E1 (ck_S1 p33x_1339_s ck_S0) ck_E0) ck_X0 ck_l0 p33x_1340_e
set_option maxRecDepth 100000 in
def p33x_1372 : ck_Sum := ((3, 0, 0), 245, [.inr (.inr (.inl 1)), .inl (ck_one 14), .inl (ck_one 0)], ([], [], [(224, 1, 1, ck_one 6), (224, 0, 0, ck_one 31), (224, 3, 3, ck_one 0), (222, 1, 1, ck_one 6), (222, 0, 0, ck_one 30), (222, 3, 3, ck_one 0), (1, 15, 15, ck_one 0), (220, 0, 0, ck_one 24), (220, 3, 3, ck_one 0), (10, 3, 3, ck_one 0), (3, 0, 0, ck_one 3), (223, 0, 179, ck_one 0), (225, 0, 185, ck_one 0)]), ([(1, 15, 15), (220, 3, 3), (221, 0, 47), (222, 3, 3), (223, 0, 179), (224, 3, 3), (225, 0, 185)], []), [(.inr (some (.inl (ck_one 0))), 245, ([], [], [(224, 3, 3, ck_one 15), (222, 3, 3, ck_one 14), (1, 15, 15, ck_one 1), (220, 3, 3, ck_one 0), (223, 0, 179, ck_one 0), (225, 0, 185, ck_one 0)]))])
set_option maxRecDepth 100000 in
theorem p33x_1372_e : ck_ok p1_O none [] [(214, [p33x_1236]), (24, [p33x_148]), (215, [p33x_1238]), (25, [p33x_1239]), (10, [p33x_1330, p33x_1337, p33x_1338]), (216, [p33x_1334]), (45, [p33x_1335])] 213 [(28, [some (.inr (.inr (.inl 1))), some (.inl (ck_one 14)), some (.inl (ck_one 0)), some (.inl ((-1), 13, none)), none], ([], [], [(224, 3, 3, ck_one 15), (225, 0, 185, ck_one 0), (222, 3, 3, ck_one 14), (223, 0, 179, ck_one 0), (1, 15, 15, ck_one 1), (220, 3, 3, ck_one 0), (224, 1, 1, ck_one 6), (224, 0, 0, ck_one 31), (222, 1, 1, ck_one 6), (222, 0, 0, ck_one 30), (220, 0, 0, ck_one 24), (10, 3, 3, ck_one 0), (3, 0, 0, ck_one 3)]), 100, .inl 3, false), (35, [some (.inr (.inr (.inl 1))), some (.inl (ck_one 14)), some (.inl (ck_one 0)), some (.inl (0, 13, some (100, 0))), some (.inl (0, 3, none))], ([], [], [(224, 3, 3, ck_one 15), (225, 0, 185, ck_one 0), (222, 3, 3, ck_one 14), (223, 0, 179, ck_one 0), (1, 15, 15, ck_one 1), (220, 3, 3, ck_one 0), (224, 1, 1, ck_one 6), (224, 0, 0, ck_one 31), (222, 1, 1, ck_one 6), (222, 0, 0, ck_one 30), (220, 0, 0, ck_one 24), (10, 3, 3, ck_one 0), (3, 0, 0, ck_one 3)]), 300, .inl 4, true), (94, [some (.inr (.inr (.inl 1))), some (.inl (ck_one 14)), some (.inl (ck_one 0)), some (.inl (ck_one 0)), some (.inl (1, 3, none))], ([], [], [(224, 3, 3, ck_one 15), (225, 0, 185, ck_one 0), (222, 3, 3, ck_one 14), (223, 0, 179, ck_one 0), (1, 15, 15, ck_one 1), (220, 3, 3, ck_one 0), (224, 1, 1, ck_one 6), (224, 0, 0, ck_one 31), (222, 1, 1, ck_one 6), (222, 0, 0, ck_one 30), (220, 0, 0, ck_one 24), (10, 3, 3, ck_one 0), (3, 0, 0, ck_one 3)]), 500, .inl 4, true)] 330 p33x_1372 = true := by decide +kernel
theorem p33x_1372_s {X : Int → Int} {LX : Nat} : ck_Ok p1_O X LX 213 p33x_1372 := ck_ok_s (ck_E1 (ck_S1 p33x_1236_s ck_S0) (ck_E1 (ck_S1 p33x_148_s ck_S0) (ck_E1 (ck_S1 p33x_1238_s ck_S0) (ck_E1 (ck_S1 p33x_1239_s ck_S0) (ck_E1 (ck_S1 p33x_1330_s (ck_S1 p33x_1337_s (ck_S1 p33x_1338_s ck_S0))) (ck_E1 (ck_S1 p33x_1334_s ck_S0) (ck_E1 (ck_S1 p33x_1335_s ck_S0) ck_E0))))))) ck_X0 ck_l0 p33x_1372_e
set_option maxRecDepth 100000 in
def p33x_1373 : ck_Sum := ((4, 0, 0), 245, [.inr (.inr (.inl 1)), .inl (ck_one 14), .inl (ck_one 0), .inr (.inr (.inl 245))], ([], [], [(224, 1, 1, ck_one 6), (224, 0, 0, ck_one 31), (224, 3, 3, ck_one 0), (222, 1, 1, ck_one 6), (222, 0, 0, ck_one 30), (222, 3, 3, ck_one 0), (1, 15, 15, ck_one 0), (220, 0, 0, ck_one 24), (220, 3, 3, ck_one 0), (10, 3, 3, ck_one 0), (3, 0, 0, ck_one 3), (223, 0, 179, ck_one 0), (225, 0, 185, ck_one 0)]), ([(1, 15, 15), (220, 3, 3), (221, 0, 47), (222, 3, 3), (223, 0, 179), (224, 3, 3), (225, 0, 185), (245, 0, 0)], []), [(.inr (some (.inl (ck_one 0))), 245, ([], [], [(245, 0, 0, ck_one 0), (224, 3, 3, ck_one 15), (222, 3, 3, ck_one 14), (1, 15, 15, ck_one 1), (220, 3, 3, ck_one 0), (223, 0, 179, ck_one 0), (225, 0, 185, ck_one 0)]))])
set_option maxRecDepth 100000 in
theorem p33x_1373_e : ck_ok p1_O none [] [(213, [p33x_1372])] 212 [] 92 p33x_1373 = true := by decide +kernel
theorem p33x_1373_s {X : Int → Int} {LX : Nat} : ck_Ok p1_O X LX 212 p33x_1373 := ck_ok_s (ck_E1 (ck_S1 p33x_1372_s ck_S0) ck_E0) ck_X0 ck_l0 p33x_1373_e
set_option maxRecDepth 100000 in
def p33x_1375 : ck_Sum := ((0, 0, 0), 245, [.inr (.inr (.inl 1)), .inl (ck_one 15)], ([], [], []), ([], []), [(.inr none, 245, ([], [], []))])
set_option maxRecDepth 100000 in
theorem p33x_1375_e : ck_ok p1_O none [] [] 214 [] 84 p33x_1375 = true := by decide +kernel
theorem p33x_1375_s {X : Int → Int} {LX : Nat} : ck_Ok p1_O X LX 214 p33x_1375 := ck_ok_s (ck_E0) ck_X0 ck_l0 p33x_1375_e
set_option maxRecDepth 100000 in
def p33x_1376 : ck_Sum := ((1, 0, 0), 245, [.inr (.inr (.inl 222)), .inl (ck_one 15)], ([], [], [(222, 0, 0, ck_one 30), (223, 0, 179, ck_one 0)]), ([(222, 3, 3), (223, 0, 179)], []), [(.inr none, 245, ([], [], [(222, 3, 3, ck_one 15), (223, 0, 179, ck_one 0)]))])
set_option maxRecDepth 100000 in
theorem p33x_1376_e : ck_ok p1_O none [] [(8, [p33x_149])] 25 [] 96 p33x_1376 = true := by decide +kernel
theorem p33x_1376_s {X : Int → Int} {LX : Nat} : ck_Ok p1_O X LX 25 p33x_1376 := ck_ok_s (ck_E1 (ck_S1 p33x_149_s ck_S0) ck_E0) ck_X0 ck_l0 p33x_1376_e
set_option maxRecDepth 100000 in
def p33x_1377 : ck_Sum := ((2, 0, 0), 245, [.inr (.inr (.inl 1)), .inl (ck_one 15)], ([], [], [(220, 3, 3, ck_one 0), (222, 0, 0, ck_one 30), (222, 3, 3, ck_one 0), (223, 0, 179, ck_one 0)]), ([(222, 3, 3), (223, 0, 179)], []), [(.inr none, 245, ([], [], [(222, 3, 3, ck_one 15), (223, 0, 179, ck_one 0)]))])
set_option maxRecDepth 100000 in
theorem p33x_1377_e : ck_ok p1_O none [] [(25, [p33x_1376]), (9, [p33x_147])] 215 [(10, [some (.inr (.inr (.inl 1))), some (.inl (ck_one 15)), some (.inl (ck_one 0)), none, none], ([], [], [(222, 3, 3, ck_one 15), (223, 0, 179, ck_one 0), (220, 3, 3, ck_one 0), (222, 0, 0, ck_one 30)]), 100, .inl 2, true)] 118 p33x_1377 = true := by decide +kernel
theorem p33x_1377_s {X : Int → Int} {LX : Nat} : ck_Ok p1_O X LX 215 p33x_1377 := ck_ok_s (ck_E1 (ck_S1 p33x_1376_s ck_S0) (ck_E1 (ck_S1 p33x_147_s ck_S0) ck_E0)) ck_X0 ck_l0 p33x_1377_e
set_option maxRecDepth 100000 in
def p33x_1378 : ck_Sum := ((1, 0, 0), 245, [.inr (.inr (.inl 224)), .inl (ck_one 16)], ([], [], [(224, 0, 0, ck_one 31), (225, 0, 185, ck_one 0)]), ([(224, 3, 3), (225, 0, 185)], []), [(.inr none, 245, ([], [], [(224, 3, 3, ck_one 16), (225, 0, 185, ck_one 0)]))])
set_option maxRecDepth 100000 in
theorem p33x_1378_e : ck_ok p1_O none [] [(8, [p33x_152])] 25 [] 96 p33x_1378 = true := by decide +kernel
theorem p33x_1378_s {X : Int → Int} {LX : Nat} : ck_Ok p1_O X LX 25 p33x_1378 := ck_ok_s (ck_E1 (ck_S1 p33x_152_s ck_S0) ck_E0) ck_X0 ck_l0 p33x_1378_e
set_option maxRecDepth 100000 in
def p33x_1475 : ck_Sum := ((0, 0, 0), 245, [.inr (.inr (.inl 222)), .inl (0, 14, none), .inl (0, 2, none)], ([], [], [(222, 3, 3, ck_one 15), (223, 0, 179, ck_one 0), (222, 1, 1, ck_one 6)]), ([], []), [(.inr (some (.inl (ck_one 0))), 245, ([], [], []))])
set_option maxRecDepth 100000 in
theorem p33x_1475_e : ck_ok p1_O none [] [] 10 [] 114 p33x_1475 = true := by decide +kernel
theorem p33x_1475_s {X : Int → Int} {LX : Nat} : ck_Ok p1_O X LX 10 p33x_1475 := ck_ok_s (ck_E0) ck_X0 ck_l0 p33x_1475_e
set_option maxRecDepth 100000 in
def p33x_1483 : ck_Sum := ((0, 0, 0), 245, [.inr (.inr (.inl 224)), .inl (ck_one 0), .inl (1, 2, none)], ([], [], [(224, 3, 3, ck_one 16), (225, 0, 185, ck_one 0), (224, 1, 1, ck_one 6)]), ([], []), [(.inr (some (.inl (ck_one 0))), 245, ([], [], []))])
set_option maxRecDepth 100000 in
theorem p33x_1483_e : ck_ok p1_O none [] [] 10 [] 114 p33x_1483 = true := by decide +kernel
theorem p33x_1483_s {X : Int → Int} {LX : Nat} : ck_Ok p1_O X LX 10 p33x_1483 := ck_ok_s (ck_E0) ck_X0 ck_l0 p33x_1483_e
set_option maxRecDepth 100000 in
def p33x_1482 : ck_Sum := ((0, 0, 0), 245, [.inr (.inr (.inl 224)), .inl (ck_one 0), .inl (ck_one 0)], ([], [], [(224, 3, 3, ck_one 16), (225, 0, 185, ck_one 0), (224, 1, 1, ck_one 6)]), ([], []), [(.inr (some (.inl (ck_one 0))), 245, ([], [], []))])
set_option maxRecDepth 100000 in
theorem p33x_1482_e : ck_ok p1_O none [] [] 10 [] 114 p33x_1482 = true := by decide +kernel
theorem p33x_1482_s {X : Int → Int} {LX : Nat} : ck_Ok p1_O X LX 10 p33x_1482 := ck_ok_s (ck_E0) ck_X0 ck_l0 p33x_1482_e
set_option maxRecDepth 100000 in
def p33x_1476 : ck_Sum := ((0, 0, 0), 245, [.inr (.inr (.inl 224)), .inl (1, 15, none), .inl ((-1), 1, none)], ([], [], [(224, 3, 3, ck_one 16), (225, 0, 185, ck_one 0), (224, 1, 1, ck_one 6)]), ([], []), [(.inr (some (.inl (ck_one (-1)))), 245, ([], [], [])), (.inr (some (.inl (ck_one 0))), 245, ([], [], []))])
set_option maxRecDepth 100000 in
theorem p33x_1476_e : ck_ok p1_O none [] [] 10 [] 114 p33x_1476 = true := by decide +kernel
theorem p33x_1476_s {X : Int → Int} {LX : Nat} : ck_Ok p1_O X LX 10 p33x_1476 := ck_ok_s (ck_E0) ck_X0 ck_l0 p33x_1476_e
set_option maxRecDepth 100000 in
def p33x_1477 : ck_Sum := ((0, 0, 0), 245, [.inr (.inr (.inl 224)), .inl (1, 15, none), .inl (1, 3, none)], ([], [], [(224, 3, 3, ck_one 16), (225, 0, 185, ck_one 0), (224, 1, 1, ck_one 6)]), ([], []), [(.inr (some (.inl (ck_one 0))), 245, ([], [], []))])
set_option maxRecDepth 100000 in
theorem p33x_1477_e : ck_ok p1_O none [] [] 10 [] 114 p33x_1477 = true := by decide +kernel
theorem p33x_1477_s {X : Int → Int} {LX : Nat} : ck_Ok p1_O X LX 10 p33x_1477 := ck_ok_s (ck_E0) ck_X0 ck_l0 p33x_1477_e
set_option maxRecDepth 100000 in
def p33x_1478 : ck_Sum := ((0, 0, 0), 245, [.inr (.inr (.inl 224)), .inl (1, 15, none), .inl (0, 2, none)], ([], [], [(224, 3, 3, ck_one 16), (225, 0, 185, ck_one 0), (224, 1, 1, ck_one 6)]), ([], []), [(.inr (some (.inl (ck_one 0))), 245, ([], [], []))])
set_option maxRecDepth 100000 in
theorem p33x_1478_e : ck_ok p1_O none [] [] 10 [] 114 p33x_1478 = true := by decide +kernel
theorem p33x_1478_s {X : Int → Int} {LX : Nat} : ck_Ok p1_O X LX 10 p33x_1478 := ck_ok_s (ck_E0) ck_X0 ck_l0 p33x_1478_e
set_option maxRecDepth 100000 in
def p33x_1479 : ck_Sum := ((1, 0, 0), 245, [.inr (.inr (.inl 1)), .inl (1, 15, none), .inl (0, 2, none)], ([], [], [(224, 3, 3, ck_one 16), (225, 0, 185, ck_one 0), (224, 1, 1, ck_one 6)]), ([], []), [(.inr (some (.inl (ck_one 0))), 245, ([], [], []))])
set_option maxRecDepth 100000 in
theorem p33x_1479_e : ck_ok p1_O none [] [(10, [p33x_1476, p33x_1477, p33x_1478])] 216 [] 118 p33x_1479 = true := by decide +kernel
theorem p33x_1479_s {X : Int → Int} {LX : Nat} : ck_Ok p1_O X LX 216 p33x_1479 := ck_ok_s (ck_E1 (ck_S1 p33x_1476_s (ck_S1 p33x_1477_s (ck_S1 p33x_1478_s ck_S0))) ck_E0) ck_X0 ck_l0 p33x_1479_e
set_option maxRecDepth 100000 in
def p33x_1480 : ck_Sum := ((0, 0, 0), 245, [.inr (.inr (.inl 224)), .inl (0, 14, none), .inl (0, 2, none), .inl (ck_one 0)], ([], [], [(224, 3, 3, ck_one 16), (225, 0, 185, ck_one 0), (224, 1, 1, ck_one 6)]), ([(225, 0, 86)], []), [(.inr none, 245, ([], [], [(225, 0, 185, ck_one 0)]))])
set_option maxRecDepth 100000 in
theorem p33x_1480_e : ck_ok p1_O none [] [] 45 [] 116 p33x_1480 = true := by decide +kernel
theorem p33x_1480_s {X : Int → Int} {LX : Nat} : ck_Ok p1_O X LX 45 p33x_1480 := ck_ok_s (ck_E0) ck_X0 ck_l0 p33x_1480_e
set_option maxRecDepth 100000 in
def p33x_1484 : ck_Sum := ((3, 0, 0), 245, [.inr (.inr (.inl 1)), .inl (ck_one 15), .inl (ck_one 1)], ([], [], [(224, 1, 1, ck_one 6), (224, 0, 0, ck_one 31), (224, 3, 3, ck_one 0), (222, 1, 1, ck_one 6), (222, 0, 0, ck_one 30), (222, 3, 3, ck_one 0), (1, 15, 15, ck_one 0), (220, 0, 0, ck_one 24), (220, 3, 3, ck_one 0), (10, 3, 3, ck_one 0), (3, 0, 0, ck_one 3), (223, 0, 179, ck_one 0), (225, 0, 185, ck_one 0)]), ([(1, 15, 15), (220, 3, 3), (221, 0, 47), (222, 3, 3), (223, 0, 179), (224, 3, 3), (225, 0, 185)], []), [(.inr (some (.inl (ck_one 0))), 245, ([], [], [(224, 3, 3, ck_one 16), (222, 3, 3, ck_one 15), (1, 15, 15, ck_one 1), (220, 3, 3, ck_one 0), (223, 0, 179, ck_one 0), (225, 0, 185, ck_one 0)]))])
set_option maxRecDepth 100000 in
theorem p33x_1484_e : ck_ok p1_O none [] [(214, [p33x_1375]), (24, [p33x_148]), (215, [p33x_1377]), (25, [p33x_1378]), (10, [p33x_1475, p33x_1483, p33x_1482]), (216, [p33x_1479]), (45, [p33x_1480])] 213 [(28, [some (.inr (.inr (.inl 1))), some (.inl (ck_one 15)), some (.inl (ck_one 1)), some (.inl ((-1), 14, none)), none], ([], [], [(224, 3, 3, ck_one 16), (225, 0, 185, ck_one 0), (222, 3, 3, ck_one 15), (223, 0, 179, ck_one 0), (1, 15, 15, ck_one 1), (220, 3, 3, ck_one 0), (224, 1, 1, ck_one 6), (224, 0, 0, ck_one 31), (222, 1, 1, ck_one 6), (222, 0, 0, ck_one 30), (220, 0, 0, ck_one 24), (10, 3, 3, ck_one 0), (3, 0, 0, ck_one 3)]), 100, .inl 3, false), (35, [some (.inr (.inr (.inl 1))), some (.inl (ck_one 15)), some (.inl (ck_one 1)), some (.inl (0, 14, some (100, 0))), some (.inl (0, 3, none))], ([], [], [(224, 3, 3, ck_one 16), (225, 0, 185, ck_one 0), (222, 3, 3, ck_one 15), (223, 0, 179, ck_one 0), (1, 15, 15, ck_one 1), (220, 3, 3, ck_one 0), (224, 1, 1, ck_one 6), (224, 0, 0, ck_one 31), (222, 1, 1, ck_one 6), (222, 0, 0, ck_one 30), (220, 0, 0, ck_one 24), (10, 3, 3, ck_one 0), (3, 0, 0, ck_one 3)]), 300, .inl 4, true), (94, [some (.inr (.inr (.inl 1))), some (.inl (ck_one 15)), some (.inl (ck_one 1)), some (.inl (ck_one 0)), some (.inl (1, 3, none))], ([], [], [(224, 3, 3, ck_one 16), (225, 0, 185, ck_one 0), (222, 3, 3, ck_one 15), (223, 0, 179, ck_one 0), (1, 15, 15, ck_one 1), (220, 3, 3, ck_one 0), (224, 1, 1, ck_one 6), (224, 0, 0, ck_one 31), (222, 1, 1, ck_one 6), (222, 0, 0, ck_one 30), (220, 0, 0, ck_one 24), (10, 3, 3, ck_one 0), (3, 0, 0, ck_one 3)]), 500, .inl 4, true)] 330 p33x_1484 = true := by decide +kernel
theorem p33x_1484_s {X : Int → Int} {LX : Nat} : ck_Ok p1_O X LX 213 p33x_1484 := ck_ok_s (ck_E1 (ck_S1 p33x_1375_s ck_S0) (ck_E1 (ck_S1 p33x_148_s ck_S0) (ck_E1 (ck_S1 p33x_1377_s ck_S0) (ck_E1 (ck_S1 p33x_1378_s ck_S0) (ck_E1 (ck_S1 p33x_1475_s (ck_S1 p33x_1483_s (ck_S1 p33x_1482_s ck_S0))) (ck_E1 (ck_S1 p33x_1479_s ck_S0) (ck_E1 (ck_S1 p33x_1480_s ck_S0) ck_E0))))))) ck_X0 ck_l0 p33x_1484_e
set_option maxRecDepth 100000 in
def p33x_1485 : ck_Sum := ((4, 0, 0), 245, [.inr (.inr (.inl 1)), .inl (ck_one 15), .inl (ck_one 1), .inr (.inr (.inl 245))], ([], [], [(224, 1, 1, ck_one 6), (224, 0, 0, ck_one 31), (224, 3, 3, ck_one 0), (222, 1, 1, ck_one 6), (222, 0, 0, ck_one 30), (222, 3, 3, ck_one 0), (1, 15, 15, ck_one 0), (220, 0, 0, ck_one 24), (220, 3, 3, ck_one 0), (10, 3, 3, ck_one 0), (3, 0, 0, ck_one 3), (223, 0, 179, ck_one 0), (225, 0, 185, ck_one 0)]), ([(1, 15, 15), (220, 3, 3), (221, 0, 47), (222, 3, 3), (223, 0, 179), (224, 3, 3), (225, 0, 185), (245, 0, 0)], []), [(.inr (some (.inl (ck_one 0))), 245, ([], [], [(245, 0, 0, ck_one 0), (224, 3, 3, ck_one 16), (222, 3, 3, ck_one 15), (1, 15, 15, ck_one 1), (220, 3, 3, ck_one 0), (223, 0, 179, ck_one 0), (225, 0, 185, ck_one 0)]))])
set_option maxRecDepth 100000 in
theorem p33x_1485_e : ck_ok p1_O none [] [(213, [p33x_1484])] 212 [] 92 p33x_1485 = true := by decide +kernel
theorem p33x_1485_s {X : Int → Int} {LX : Nat} : ck_Ok p1_O X LX 212 p33x_1485 := ck_ok_s (ck_E1 (ck_S1 p33x_1484_s ck_S0) ck_E0) ck_X0 ck_l0 p33x_1485_e
set_option maxRecDepth 100000 in
def p33x_1519 : ck_Sum := ((3, 0, 0), 245, [.inr (.inr (.inl 1)), .inl (ck_one 15), .inl (ck_one 0)], ([], [], [(224, 1, 1, ck_one 6), (224, 0, 0, ck_one 31), (224, 3, 3, ck_one 0), (222, 1, 1, ck_one 6), (222, 0, 0, ck_one 30), (222, 3, 3, ck_one 0), (1, 15, 15, ck_one 0), (220, 0, 0, ck_one 24), (220, 3, 3, ck_one 0), (10, 3, 3, ck_one 0), (3, 0, 0, ck_one 3), (223, 0, 179, ck_one 0), (225, 0, 185, ck_one 0)]), ([(1, 15, 15), (220, 3, 3), (221, 0, 47), (222, 3, 3), (223, 0, 179), (224, 3, 3), (225, 0, 185)], []), [(.inr (some (.inl (ck_one 0))), 245, ([], [], [(224, 3, 3, ck_one 16), (222, 3, 3, ck_one 15), (1, 15, 15, ck_one 1), (220, 3, 3, ck_one 0), (223, 0, 179, ck_one 0), (225, 0, 185, ck_one 0)]))])
set_option maxRecDepth 100000 in
theorem p33x_1519_e : ck_ok p1_O none [] [(214, [p33x_1375]), (24, [p33x_148]), (215, [p33x_1377]), (25, [p33x_1378]), (10, [p33x_1475, p33x_1482, p33x_1483]), (216, [p33x_1479]), (45, [p33x_1480])] 213 [(28, [some (.inr (.inr (.inl 1))), some (.inl (ck_one 15)), some (.inl (ck_one 0)), some (.inl ((-1), 14, none)), none], ([], [], [(224, 3, 3, ck_one 16), (225, 0, 185, ck_one 0), (222, 3, 3, ck_one 15), (223, 0, 179, ck_one 0), (1, 15, 15, ck_one 1), (220, 3, 3, ck_one 0), (224, 1, 1, ck_one 6), (224, 0, 0, ck_one 31), (222, 1, 1, ck_one 6), (222, 0, 0, ck_one 30), (220, 0, 0, ck_one 24), (10, 3, 3, ck_one 0), (3, 0, 0, ck_one 3)]), 100, .inl 3, false), (35, [some (.inr (.inr (.inl 1))), some (.inl (ck_one 15)), some (.inl (ck_one 0)), some (.inl (0, 14, some (100, 0))), some (.inl (0, 3, none))], ([], [], [(224, 3, 3, ck_one 16), (225, 0, 185, ck_one 0), (222, 3, 3, ck_one 15), (223, 0, 179, ck_one 0), (1, 15, 15, ck_one 1), (220, 3, 3, ck_one 0), (224, 1, 1, ck_one 6), (224, 0, 0, ck_one 31), (222, 1, 1, ck_one 6), (222, 0, 0, ck_one 30), (220, 0, 0, ck_one 24), (10, 3, 3, ck_one 0), (3, 0, 0, ck_one 3)]), 300, .inl 4, true), (94, [some (.inr (.inr (.inl 1))), some (.inl (ck_one 15)), some (.inl (ck_one 0)), some (.inl (ck_one 0)), some (.inl (1, 3, none))], ([], [], [(224, 3, 3, ck_one 16), (225, 0, 185, ck_one 0), (222, 3, 3, ck_one 15), (223, 0, 179, ck_one 0), (1, 15, 15, ck_one 1), (220, 3, 3, ck_one 0), (224, 1, 1, ck_one 6), (224, 0, 0, ck_one 31), (222, 1, 1, ck_one 6), (222, 0, 0, ck_one 30), (220, 0, 0, ck_one 24), (10, 3, 3, ck_one 0), (3, 0, 0, ck_one 3)]), 500, .inl 4, true)] 330 p33x_1519 = true := by decide +kernel
theorem p33x_1519_s {X : Int → Int} {LX : Nat} : ck_Ok p1_O X LX 213 p33x_1519 := ck_ok_s (ck_E1 (ck_S1 p33x_1375_s ck_S0) (ck_E1 (ck_S1 p33x_148_s ck_S0) (ck_E1 (ck_S1 p33x_1377_s ck_S0) (ck_E1 (ck_S1 p33x_1378_s ck_S0) (ck_E1 (ck_S1 p33x_1475_s (ck_S1 p33x_1482_s (ck_S1 p33x_1483_s ck_S0))) (ck_E1 (ck_S1 p33x_1479_s ck_S0) (ck_E1 (ck_S1 p33x_1480_s ck_S0) ck_E0))))))) ck_X0 ck_l0 p33x_1519_e
set_option maxRecDepth 100000 in
def p33x_1520 : ck_Sum := ((4, 0, 0), 245, [.inr (.inr (.inl 1)), .inl (ck_one 15), .inl (ck_one 0), .inr (.inr (.inl 245))], ([], [], [(224, 1, 1, ck_one 6), (224, 0, 0, ck_one 31), (224, 3, 3, ck_one 0), (222, 1, 1, ck_one 6), (222, 0, 0, ck_one 30), (222, 3, 3, ck_one 0), (1, 15, 15, ck_one 0), (220, 0, 0, ck_one 24), (220, 3, 3, ck_one 0), (10, 3, 3, ck_one 0), (3, 0, 0, ck_one 3), (223, 0, 179, ck_one 0), (225, 0, 185, ck_one 0)]), ([(1, 15, 15), (220, 3, 3), (221, 0, 47), (222, 3, 3), (223, 0, 179), (224, 3, 3), (225, 0, 185), (245, 0, 0)], []), [(.inr (some (.inl (ck_one 0))), 245, ([], [], [(245, 0, 0, ck_one 0), (224, 3, 3, ck_one 16), (222, 3, 3, ck_one 15), (1, 15, 15, ck_one 1), (220, 3, 3, ck_one 0), (223, 0, 179, ck_one 0), (225, 0, 185, ck_one 0)]))])
set_option maxRecDepth 100000 in
theorem p33x_1520_e : ck_ok p1_O none [] [(213, [p33x_1519])] 212 [] 92 p33x_1520 = true := by decide +kernel
theorem p33x_1520_s {X : Int → Int} {LX : Nat} : ck_Ok p1_O X LX 212 p33x_1520 := ck_ok_s (ck_E1 (ck_S1 p33x_1519_s ck_S0) ck_E0) ck_X0 ck_l0 p33x_1520_e
set_option maxRecDepth 100000 in
def p33x_1522 : ck_Sum := ((0, 0, 0), 245, [.inr (.inr (.inl 1)), .inl (ck_one 16)], ([], [], []), ([], []), [(.inr none, 245, ([], [], []))])
set_option maxRecDepth 100000 in
theorem p33x_1522_e : ck_ok p1_O none [] [] 214 [] 84 p33x_1522 = true := by decide +kernel
theorem p33x_1522_s {X : Int → Int} {LX : Nat} : ck_Ok p1_O X LX 214 p33x_1522 := ck_ok_s (ck_E0) ck_X0 ck_l0 p33x_1522_e
set_option maxRecDepth 100000 in
def p33x_1523 : ck_Sum := ((1, 0, 0), 245, [.inr (.inr (.inl 222)), .inl (ck_one 16)], ([], [], [(222, 0, 0, ck_one 30), (223, 0, 179, ck_one 0)]), ([(222, 3, 3), (223, 0, 179)], []), [(.inr none, 245, ([], [], [(222, 3, 3, ck_one 16), (223, 0, 179, ck_one 0)]))])
set_option maxRecDepth 100000 in
theorem p33x_1523_e : ck_ok p1_O none [] [(8, [p33x_149])] 25 [] 96 p33x_1523 = true := by decide +kernel
theorem p33x_1523_s {X : Int → Int} {LX : Nat} : ck_Ok p1_O X LX 25 p33x_1523 := ck_ok_s (ck_E1 (ck_S1 p33x_149_s ck_S0) ck_E0) ck_X0 ck_l0 p33x_1523_e
set_option maxRecDepth 100000 in
def p33x_1524 : ck_Sum := ((2, 0, 0), 245, [.inr (.inr (.inl 1)), .inl (ck_one 16)], ([], [], [(220, 3, 3, ck_one 0), (222, 0, 0, ck_one 30), (222, 3, 3, ck_one 0), (223, 0, 179, ck_one 0)]), ([(222, 3, 3), (223, 0, 179)], []), [(.inr none, 245, ([], [], [(222, 3, 3, ck_one 16), (223, 0, 179, ck_one 0)]))])
set_option maxRecDepth 100000 in
theorem p33x_1524_e : ck_ok p1_O none [] [(25, [p33x_1523]), (9, [p33x_147])] 215 [(10, [some (.inr (.inr (.inl 1))), some (.inl (ck_one 16)), some (.inl (ck_one 0)), none, none], ([], [], [(222, 3, 3, ck_one 16), (223, 0, 179, ck_one 0), (220, 3, 3, ck_one 0), (222, 0, 0, ck_one 30)]), 100, .inl 2, true)] 118 p33x_1524 = true := by decide +kernel
theorem p33x_1524_s {X : Int → Int} {LX : Nat} : ck_Ok p1_O X LX 215 p33x_1524 := ck_ok_s (ck_E1 (ck_S1 p33x_1523_s ck_S0) (ck_E1 (ck_S1 p33x_147_s ck_S0) ck_E0)) ck_X0 ck_l0 p33x_1524_e
set_option maxRecDepth 100000 in
def p33x_1525 : ck_Sum := ((1, 0, 0), 245, [.inr (.inr (.inl 224)), .inl (ck_one 17)], ([], [], [(224, 0, 0, ck_one 31), (225, 0, 185, ck_one 0)]), ([(224, 3, 3), (225, 0, 185)], []), [(.inr none, 245, ([], [], [(224, 3, 3, ck_one 17), (225, 0, 185, ck_one 0)]))])
set_option maxRecDepth 100000 in
theorem p33x_1525_e : ck_ok p1_O none [] [(8, [p33x_152])] 25 [] 96 p33x_1525 = true := by decide +kernel
theorem p33x_1525_s {X : Int → Int} {LX : Nat} : ck_Ok p1_O X LX 25 p33x_1525 := ck_ok_s (ck_E1 (ck_S1 p33x_152_s ck_S0) ck_E0) ck_X0 ck_l0 p33x_1525_e
set_option maxRecDepth 100000 in
def p33x_1628 : ck_Sum := ((0, 0, 0), 245, [.inr (.inr (.inl 222)), .inl (0, 15, none), .inl (0, 2, none)], ([], [], [(222, 3, 3, ck_one 16), (223, 0, 179, ck_one 0), (222, 1, 1, ck_one 6)]), ([], []), [(.inr (some (.inl (ck_one 0))), 245, ([], [], []))])
set_option maxRecDepth 100000 in
theorem p33x_1628_e : ck_ok p1_O none [] [] 10 [] 114 p33x_1628 = true := by decide +kernel
theorem p33x_1628_s {X : Int → Int} {LX : Nat} : ck_Ok p1_O X LX 10 p33x_1628 := ck_ok_s (ck_E0) ck_X0 ck_l0 p33x_1628_e
set_option maxRecDepth 100000 in
def p33x_1636 : ck_Sum := ((0, 0, 0), 245, [.inr (.inr (.inl 224)), .inl (ck_one 0), .inl (1, 2, none)], ([], [], [(224, 3, 3, ck_one 17), (225, 0, 185, ck_one 0), (224, 1, 1, ck_one 6)]), ([], []), [(.inr (some (.inl (ck_one 0))), 245, ([], [], []))])
set_option maxRecDepth 100000 in
theorem p33x_1636_e : ck_ok p1_O none [] [] 10 [] 114 p33x_1636 = true := by decide +kernel
theorem p33x_1636_s {X : Int → Int} {LX : Nat} : ck_Ok p1_O X LX 10 p33x_1636 := ck_ok_s (ck_E0) ck_X0 ck_l0 p33x_1636_e
set_option maxRecDepth 100000 in
def p33x_1635 : ck_Sum := ((0, 0, 0), 245, [.inr (.inr (.inl 224)), .inl (ck_one 0), .inl (ck_one 0)], ([], [], [(224, 3, 3, ck_one 17), (225, 0, 185, ck_one 0), (224, 1, 1, ck_one 6)]), ([], []), [(.inr (some (.inl (ck_one 0))), 245, ([], [], []))])
set_option maxRecDepth 100000 in
theorem p33x_1635_e : ck_ok p1_O none [] [] 10 [] 114 p33x_1635 = true := by decide +kernel
theorem p33x_1635_s {X : Int → Int} {LX : Nat} : ck_Ok p1_O X LX 10 p33x_1635 := ck_ok_s (ck_E0) ck_X0 ck_l0 p33x_1635_e
set_option maxRecDepth 100000 in
def p33x_1629 : ck_Sum := ((0, 0, 0), 245, [.inr (.inr (.inl 224)), .inl (1, 16, none), .inl ((-1), 1, none)], ([], [], [(224, 3, 3, ck_one 17), (225, 0, 185, ck_one 0), (224, 1, 1, ck_one 6)]), ([], []), [(.inr (some (.inl (ck_one (-1)))), 245, ([], [], [])), (.inr (some (.inl (ck_one 0))), 245, ([], [], []))])
set_option maxRecDepth 100000 in
theorem p33x_1629_e : ck_ok p1_O none [] [] 10 [] 114 p33x_1629 = true := by decide +kernel
theorem p33x_1629_s {X : Int → Int} {LX : Nat} : ck_Ok p1_O X LX 10 p33x_1629 := ck_ok_s (ck_E0) ck_X0 ck_l0 p33x_1629_e
set_option maxRecDepth 100000 in
def p33x_1630 : ck_Sum := ((0, 0, 0), 245, [.inr (.inr (.inl 224)), .inl (1, 16, none), .inl (1, 3, none)], ([], [], [(224, 3, 3, ck_one 17), (225, 0, 185, ck_one 0), (224, 1, 1, ck_one 6)]), ([], []), [(.inr (some (.inl (ck_one 0))), 245, ([], [], []))])
set_option maxRecDepth 100000 in
theorem p33x_1630_e : ck_ok p1_O none [] [] 10 [] 114 p33x_1630 = true := by decide +kernel
theorem p33x_1630_s {X : Int → Int} {LX : Nat} : ck_Ok p1_O X LX 10 p33x_1630 := ck_ok_s (ck_E0) ck_X0 ck_l0 p33x_1630_e
set_option maxRecDepth 100000 in
def p33x_1631 : ck_Sum := ((0, 0, 0), 245, [.inr (.inr (.inl 224)), .inl (1, 16, none), .inl (0, 2, none)], ([], [], [(224, 3, 3, ck_one 17), (225, 0, 185, ck_one 0), (224, 1, 1, ck_one 6)]), ([], []), [(.inr (some (.inl (ck_one 0))), 245, ([], [], []))])
set_option maxRecDepth 100000 in
theorem p33x_1631_e : ck_ok p1_O none [] [] 10 [] 114 p33x_1631 = true := by decide +kernel
theorem p33x_1631_s {X : Int → Int} {LX : Nat} : ck_Ok p1_O X LX 10 p33x_1631 := ck_ok_s (ck_E0) ck_X0 ck_l0 p33x_1631_e
set_option maxRecDepth 100000 in
def p33x_1632 : ck_Sum := ((1, 0, 0), 245, [.inr (.inr (.inl 1)), .inl (1, 16, none), .inl (0, 2, none)], ([], [], [(224, 3, 3, ck_one 17), (225, 0, 185, ck_one 0), (224, 1, 1, ck_one 6)]), ([], []), [(.inr (some (.inl (ck_one 0))), 245, ([], [], []))])
set_option maxRecDepth 100000 in
theorem p33x_1632_e : ck_ok p1_O none [] [(10, [p33x_1629, p33x_1630, p33x_1631])] 216 [] 118 p33x_1632 = true := by decide +kernel
theorem p33x_1632_s {X : Int → Int} {LX : Nat} : ck_Ok p1_O X LX 216 p33x_1632 := ck_ok_s (ck_E1 (ck_S1 p33x_1629_s (ck_S1 p33x_1630_s (ck_S1 p33x_1631_s ck_S0))) ck_E0) ck_X0 ck_l0 p33x_1632_e
set_option maxRecDepth 100000 in
def p33x_1633 : ck_Sum := ((0, 0, 0), 245, [.inr (.inr (.inl 224)), .inl (0, 15, none), .inl (0, 2, none), .inl (ck_one 0)], ([], [], [(224, 3, 3, ck_one 17), (225, 0, 185, ck_one 0), (224, 1, 1, ck_one 6)]), ([(225, 0, 92)], []), [(.inr none, 245, ([], [], [(225, 0, 185, ck_one 0)]))])
set_option maxRecDepth 100000 in
theorem p33x_1633_e : ck_ok p1_O none [] [] 45 [] 116 p33x_1633 = true := by decide +kernel
theorem p33x_1633_s {X : Int → Int} {LX : Nat} : ck_Ok p1_O X LX 45 p33x_1633 := ck_ok_s (ck_E0) ck_X0 ck_l0 p33x_1633_e
set_option maxRecDepth 100000 in
def p33x_1637 : ck_Sum := ((3, 0, 0), 245, [.inr (.inr (.inl 1)), .inl (ck_one 16), .inl (ck_one 1)], ([], [], [(224, 1, 1, ck_one 6), (224, 0, 0, ck_one 31), (224, 3, 3, ck_one 0), (222, 1, 1, ck_one 6), (222, 0, 0, ck_one 30), (222, 3, 3, ck_one 0), (1, 15, 15, ck_one 0), (220, 0, 0, ck_one 24), (220, 3, 3, ck_one 0), (10, 3, 3, ck_one 0), (3, 0, 0, ck_one 3), (223, 0, 179, ck_one 0), (225, 0, 185, ck_one 0)]), ([(1, 15, 15), (220, 3, 3), (221, 0, 47), (222, 3, 3), (223, 0, 179), (224, 3, 3), (225, 0, 185)], []), [(.inr (some (.inl (ck_one 0))), 245, ([], [], [(224, 3, 3, ck_one 17), (222, 3, 3, ck_one 16), (1, 15, 15, ck_one 1), (220, 3, 3, ck_one 0), (223, 0, 179, ck_one 0), (225, 0, 185, ck_one 0)]))])
set_option maxRecDepth 100000 in
theorem p33x_1637_e : ck_ok p1_O none [] [(214, [p33x_1522]), (24, [p33x_148]), (215, [p33x_1524]), (25, [p33x_1525]), (10, [p33x_1628, p33x_1636, p33x_1635]), (216, [p33x_1632]), (45, [p33x_1633])] 213 [(28, [some (.inr (.inr (.inl 1))), some (.inl (ck_one 16)), some (.inl (ck_one 1)), some (.inl ((-1), 15, none)), none], ([], [], [(224, 3, 3, ck_one 17), (225, 0, 185, ck_one 0), (222, 3, 3, ck_one 16), (223, 0, 179, ck_one 0), (1, 15, 15, ck_one 1), (220, 3, 3, ck_one 0), (224, 1, 1, ck_one 6), (224, 0, 0, ck_one 31), (222, 1, 1, ck_one 6), (222, 0, 0, ck_one 30), (220, 0, 0, ck_one 24), (10, 3, 3, ck_one 0), (3, 0, 0, ck_one 3)]), 100, .inl 3, false), (35, [some (.inr (.inr (.inl 1))), some (.inl (ck_one 16)), some (.inl (ck_one 1)), some (.inl (0, 15, some (100, 0))), some (.inl (0, 3, none))], ([], [], [(224, 3, 3, ck_one 17), (225, 0, 185, ck_one 0), (222, 3, 3, ck_one 16), (223, 0, 179, ck_one 0), (1, 15, 15, ck_one 1), (220, 3, 3, ck_one 0), (224, 1, 1, ck_one 6), (224, 0, 0, ck_one 31), (222, 1, 1, ck_one 6), (222, 0, 0, ck_one 30), (220, 0, 0, ck_one 24), (10, 3, 3, ck_one 0), (3, 0, 0, ck_one 3)]), 300, .inl 4, true), (94, [some (.inr (.inr (.inl 1))), some (.inl (ck_one 16)), some (.inl (ck_one 1)), some (.inl (ck_one 0)), some (.inl (1, 3, none))], ([], [], [(224, 3, 3, ck_one 17), (225, 0, 185, ck_one 0), (222, 3, 3, ck_one 16), (223, 0, 179, ck_one 0), (1, 15, 15, ck_one 1), (220, 3, 3, ck_one 0), (224, 1, 1, ck_one 6), (224, 0, 0, ck_one 31), (222, 1, 1, ck_one 6), (222, 0, 0, ck_one 30), (220, 0, 0, ck_one 24), (10, 3, 3, ck_one 0), (3, 0, 0, ck_one 3)]), 500, .inl 4, true)] 330 p33x_1637 = true := by decide +kernel
theorem p33x_1637_s {X : Int → Int} {LX : Nat} : ck_Ok p1_O X LX 213 p33x_1637 := ck_ok_s (ck_E1 (ck_S1 p33x_1522_s ck_S0) (ck_E1 (ck_S1 p33x_148_s ck_S0) (ck_E1 (ck_S1 p33x_1524_s ck_S0) (ck_E1 (ck_S1 p33x_1525_s ck_S0) (ck_E1 (ck_S1 p33x_1628_s (ck_S1 p33x_1636_s (ck_S1 p33x_1635_s ck_S0))) (ck_E1 (ck_S1 p33x_1632_s ck_S0) (ck_E1 (ck_S1 p33x_1633_s ck_S0) ck_E0))))))) ck_X0 ck_l0 p33x_1637_e
set_option maxRecDepth 100000 in
def p33x_1638 : ck_Sum := ((4, 0, 0), 245, [.inr (.inr (.inl 1)), .inl (ck_one 16), .inl (ck_one 1), .inr (.inr (.inl 245))], ([], [], [(224, 1, 1, ck_one 6), (224, 0, 0, ck_one 31), (224, 3, 3, ck_one 0), (222, 1, 1, ck_one 6), (222, 0, 0, ck_one 30), (222, 3, 3, ck_one 0), (1, 15, 15, ck_one 0), (220, 0, 0, ck_one 24), (220, 3, 3, ck_one 0), (10, 3, 3, ck_one 0), (3, 0, 0, ck_one 3), (223, 0, 179, ck_one 0), (225, 0, 185, ck_one 0)]), ([(1, 15, 15), (220, 3, 3), (221, 0, 47), (222, 3, 3), (223, 0, 179), (224, 3, 3), (225, 0, 185), (245, 0, 0)], []), [(.inr (some (.inl (ck_one 0))), 245, ([], [], [(245, 0, 0, ck_one 0), (224, 3, 3, ck_one 17), (222, 3, 3, ck_one 16), (1, 15, 15, ck_one 1), (220, 3, 3, ck_one 0), (223, 0, 179, ck_one 0), (225, 0, 185, ck_one 0)]))])
set_option maxRecDepth 100000 in
theorem p33x_1638_e : ck_ok p1_O none [] [(213, [p33x_1637])] 212 [] 92 p33x_1638 = true := by decide +kernel
theorem p33x_1638_s {X : Int → Int} {LX : Nat} : ck_Ok p1_O X LX 212 p33x_1638 := ck_ok_s (ck_E1 (ck_S1 p33x_1637_s ck_S0) ck_E0) ck_X0 ck_l0 p33x_1638_e
set_option maxRecDepth 100000 in
def p33x_1674 : ck_Sum := ((3, 0, 0), 245, [.inr (.inr (.inl 1)), .inl (ck_one 16), .inl (ck_one 0)], ([], [], [(224, 1, 1, ck_one 6), (224, 0, 0, ck_one 31), (224, 3, 3, ck_one 0), (222, 1, 1, ck_one 6), (222, 0, 0, ck_one 30), (222, 3, 3, ck_one 0), (1, 15, 15, ck_one 0), (220, 0, 0, ck_one 24), (220, 3, 3, ck_one 0), (10, 3, 3, ck_one 0), (3, 0, 0, ck_one 3), (223, 0, 179, ck_one 0), (225, 0, 185, ck_one 0)]), ([(1, 15, 15), (220, 3, 3), (221, 0, 47), (222, 3, 3), (223, 0, 179), (224, 3, 3), (225, 0, 185)], []), [(.inr (some (.inl (ck_one 0))), 245, ([], [], [(224, 3, 3, ck_one 17), (222, 3, 3, ck_one 16), (1, 15, 15, ck_one 1), (220, 3, 3, ck_one 0), (223, 0, 179, ck_one 0), (225, 0, 185, ck_one 0)]))])
set_option maxRecDepth 100000 in
theorem p33x_1674_e : ck_ok p1_O none [] [(214, [p33x_1522]), (24, [p33x_148]), (215, [p33x_1524]), (25, [p33x_1525]), (10, [p33x_1628, p33x_1635, p33x_1636]), (216, [p33x_1632]), (45, [p33x_1633])] 213 [(28, [some (.inr (.inr (.inl 1))), some (.inl (ck_one 16)), some (.inl (ck_one 0)), some (.inl ((-1), 15, none)), none], ([], [], [(224, 3, 3, ck_one 17), (225, 0, 185, ck_one 0), (222, 3, 3, ck_one 16), (223, 0, 179, ck_one 0), (1, 15, 15, ck_one 1), (220, 3, 3, ck_one 0), (224, 1, 1, ck_one 6), (224, 0, 0, ck_one 31), (222, 1, 1, ck_one 6), (222, 0, 0, ck_one 30), (220, 0, 0, ck_one 24), (10, 3, 3, ck_one 0), (3, 0, 0, ck_one 3)]), 100, .inl 3, false), (35, [some (.inr (.inr (.inl 1))), some (.inl (ck_one 16)), some (.inl (ck_one 0)), some (.inl (0, 15, some (100, 0))), some (.inl (0, 3, none))], ([], [], [(224, 3, 3, ck_one 17), (225, 0, 185, ck_one 0), (222, 3, 3, ck_one 16), (223, 0, 179, ck_one 0), (1, 15, 15, ck_one 1), (220, 3, 3, ck_one 0), (224, 1, 1, ck_one 6), (224, 0, 0, ck_one 31), (222, 1, 1, ck_one 6), (222, 0, 0, ck_one 30), (220, 0, 0, ck_one 24), (10, 3, 3, ck_one 0), (3, 0, 0, ck_one 3)]), 300, .inl 4, true), (94, [some (.inr (.inr (.inl 1))), some (.inl (ck_one 16)), some (.inl (ck_one 0)), some (.inl (ck_one 0)), some (.inl (1, 3, none))], ([], [], [(224, 3, 3, ck_one 17), (225, 0, 185, ck_one 0), (222, 3, 3, ck_one 16), (223, 0, 179, ck_one 0), (1, 15, 15, ck_one 1), (220, 3, 3, ck_one 0), (224, 1, 1, ck_one 6), (224, 0, 0, ck_one 31), (222, 1, 1, ck_one 6), (222, 0, 0, ck_one 30), (220, 0, 0, ck_one 24), (10, 3, 3, ck_one 0), (3, 0, 0, ck_one 3)]), 500, .inl 4, true)] 330 p33x_1674 = true := by decide +kernel
theorem p33x_1674_s {X : Int → Int} {LX : Nat} : ck_Ok p1_O X LX 213 p33x_1674 := ck_ok_s (ck_E1 (ck_S1 p33x_1522_s ck_S0) (ck_E1 (ck_S1 p33x_148_s ck_S0) (ck_E1 (ck_S1 p33x_1524_s ck_S0) (ck_E1 (ck_S1 p33x_1525_s ck_S0) (ck_E1 (ck_S1 p33x_1628_s (ck_S1 p33x_1635_s (ck_S1 p33x_1636_s ck_S0))) (ck_E1 (ck_S1 p33x_1632_s ck_S0) (ck_E1 (ck_S1 p33x_1633_s ck_S0) ck_E0))))))) ck_X0 ck_l0 p33x_1674_e
set_option maxRecDepth 100000 in
def p33x_1675 : ck_Sum := ((4, 0, 0), 245, [.inr (.inr (.inl 1)), .inl (ck_one 16), .inl (ck_one 0), .inr (.inr (.inl 245))], ([], [], [(224, 1, 1, ck_one 6), (224, 0, 0, ck_one 31), (224, 3, 3, ck_one 0), (222, 1, 1, ck_one 6), (222, 0, 0, ck_one 30), (222, 3, 3, ck_one 0), (1, 15, 15, ck_one 0), (220, 0, 0, ck_one 24), (220, 3, 3, ck_one 0), (10, 3, 3, ck_one 0), (3, 0, 0, ck_one 3), (223, 0, 179, ck_one 0), (225, 0, 185, ck_one 0)]), ([(1, 15, 15), (220, 3, 3), (221, 0, 47), (222, 3, 3), (223, 0, 179), (224, 3, 3), (225, 0, 185), (245, 0, 0)], []), [(.inr (some (.inl (ck_one 0))), 245, ([], [], [(245, 0, 0, ck_one 0), (224, 3, 3, ck_one 17), (222, 3, 3, ck_one 16), (1, 15, 15, ck_one 1), (220, 3, 3, ck_one 0), (223, 0, 179, ck_one 0), (225, 0, 185, ck_one 0)]))])
set_option maxRecDepth 100000 in
theorem p33x_1675_e : ck_ok p1_O none [] [(213, [p33x_1674])] 212 [] 92 p33x_1675 = true := by decide +kernel
theorem p33x_1675_s {X : Int → Int} {LX : Nat} : ck_Ok p1_O X LX 212 p33x_1675 := ck_ok_s (ck_E1 (ck_S1 p33x_1674_s ck_S0) ck_E0) ck_X0 ck_l0 p33x_1675_e
set_option maxRecDepth 100000 in
def p33x_1677 : ck_Sum := ((0, 0, 0), 245, [.inr (.inr (.inl 1)), .inl (ck_one 17)], ([], [], []), ([], []), [(.inr none, 245, ([], [], []))])
set_option maxRecDepth 100000 in
theorem p33x_1677_e : ck_ok p1_O none [] [] 214 [] 84 p33x_1677 = true := by decide +kernel
theorem p33x_1677_s {X : Int → Int} {LX : Nat} : ck_Ok p1_O X LX 214 p33x_1677 := ck_ok_s (ck_E0) ck_X0 ck_l0 p33x_1677_e
set_option maxRecDepth 100000 in
def p33x_1678 : ck_Sum := ((1, 0, 0), 245, [.inr (.inr (.inl 222)), .inl (ck_one 17)], ([], [], [(222, 0, 0, ck_one 30), (223, 0, 179, ck_one 0)]), ([(222, 3, 3), (223, 0, 179)], []), [(.inr none, 245, ([], [], [(222, 3, 3, ck_one 17), (223, 0, 179, ck_one 0)]))])
set_option maxRecDepth 100000 in
theorem p33x_1678_e : ck_ok p1_O none [] [(8, [p33x_149])] 25 [] 96 p33x_1678 = true := by decide +kernel
theorem p33x_1678_s {X : Int → Int} {LX : Nat} : ck_Ok p1_O X LX 25 p33x_1678 := ck_ok_s (ck_E1 (ck_S1 p33x_149_s ck_S0) ck_E0) ck_X0 ck_l0 p33x_1678_e
set_option maxRecDepth 100000 in
def p33x_1679 : ck_Sum := ((2, 0, 0), 245, [.inr (.inr (.inl 1)), .inl (ck_one 17)], ([], [], [(220, 3, 3, ck_one 0), (222, 0, 0, ck_one 30), (222, 3, 3, ck_one 0), (223, 0, 179, ck_one 0)]), ([(222, 3, 3), (223, 0, 179)], []), [(.inr none, 245, ([], [], [(222, 3, 3, ck_one 17), (223, 0, 179, ck_one 0)]))])
set_option maxRecDepth 100000 in
theorem p33x_1679_e : ck_ok p1_O none [] [(25, [p33x_1678]), (9, [p33x_147])] 215 [(10, [some (.inr (.inr (.inl 1))), some (.inl (ck_one 17)), some (.inl (ck_one 0)), none, none], ([], [], [(222, 3, 3, ck_one 17), (223, 0, 179, ck_one 0), (220, 3, 3, ck_one 0), (222, 0, 0, ck_one 30)]), 100, .inl 2, true)] 118 p33x_1679 = true := by decide +kernel
theorem p33x_1679_s {X : Int → Int} {LX : Nat} : ck_Ok p1_O X LX 215 p33x_1679 := ck_ok_s (ck_E1 (ck_S1 p33x_1678_s ck_S0) (ck_E1 (ck_S1 p33x_147_s ck_S0) ck_E0)) ck_X0 ck_l0 p33x_1679_e
set_option maxRecDepth 100000 in
def p33x_1680 : ck_Sum := ((1, 0, 0), 245, [.inr (.inr (.inl 224)), .inl (ck_one 18)], ([], [], [(224, 0, 0, ck_one 31), (225, 0, 185, ck_one 0)]), ([(224, 3, 3), (225, 0, 185)], []), [(.inr none, 245, ([], [], [(224, 3, 3, ck_one 18), (225, 0, 185, ck_one 0)]))])
set_option maxRecDepth 100000 in
theorem p33x_1680_e : ck_ok p1_O none [] [(8, [p33x_152])] 25 [] 96 p33x_1680 = true := by decide +kernel
theorem p33x_1680_s {X : Int → Int} {LX : Nat} : ck_Ok p1_O X LX 25 p33x_1680 := ck_ok_s (ck_E1 (ck_S1 p33x_152_s ck_S0) ck_E0) ck_X0 ck_l0 p33x_1680_e
set_option maxRecDepth 100000 in
def p33x_1789 : ck_Sum := ((0, 0, 0), 245, [.inr (.inr (.inl 222)), .inl (0, 16, none), .inl (0, 2, none)], ([], [], [(222, 3, 3, ck_one 17), (223, 0, 179, ck_one 0), (222, 1, 1, ck_one 6)]), ([], []), [(.inr (some (.inl (ck_one 0))), 245, ([], [], []))])
set_option maxRecDepth 100000 in
theorem p33x_1789_e : ck_ok p1_O none [] [] 10 [] 114 p33x_1789 = true := by decide +kernel
theorem p33x_1789_s {X : Int → Int} {LX : Nat} : ck_Ok p1_O X LX 10 p33x_1789 := ck_ok_s (ck_E0) ck_X0 ck_l0 p33x_1789_e
set_option maxRecDepth 100000 in
def p33x_1797 : ck_Sum := ((0, 0, 0), 245, [.inr (.inr (.inl 224)), .inl (ck_one 0), .inl (1, 2, none)], ([], [], [(224, 3, 3, ck_one 18), (225, 0, 185, ck_one 0), (224, 1, 1, ck_one 6)]), ([], []), [(.inr (some (.inl (ck_one 0))), 245, ([], [], []))])
set_option maxRecDepth 100000 in
theorem p33x_1797_e : ck_ok p1_O none [] [] 10 [] 114 p33x_1797 = true := by decide +kernel
theorem p33x_1797_s {X : Int → Int} {LX : Nat} : ck_Ok p1_O X LX 10 p33x_1797 := ck_ok_s (ck_E0) ck_X0 ck_l0 p33x_1797_e
set_option maxRecDepth 100000 in
def p33x_1796 : ck_Sum := ((0, 0, 0), 245, [.inr (.inr (.inl 224)), .inl (ck_one 0), .inl (ck_one 0)], ([], [], [(224, 3, 3, ck_one 18), (225, 0, 185, ck_one 0), (224, 1, 1, ck_one 6)]), ([], []), [(.inr (some (.inl (ck_one 0))), 245, ([], [], []))])
set_option maxRecDepth 100000 in
theorem p33x_1796_e : ck_ok p1_O none [] [] 10 [] 114 p33x_1796 = true := by decide +kernel
theorem p33x_1796_s {X : Int → Int} {LX : Nat} : ck_Ok p1_O X LX 10 p33x_1796 := ck_ok_s (ck_E0) ck_X0 ck_l0 p33x_1796_e
set_option maxRecDepth 100000 in
def p33x_1790 : ck_Sum := ((0, 0, 0), 245, [.inr (.inr (.inl 224)), .inl (1, 17, none), .inl ((-1), 1, none)], ([], [], [(224, 3, 3, ck_one 18), (225, 0, 185, ck_one 0), (224, 1, 1, ck_one 6)]), ([], []), [(.inr (some (.inl (ck_one (-1)))), 245, ([], [], [])), (.inr (some (.inl (ck_one 0))), 245, ([], [], []))])
set_option maxRecDepth 100000 in
theorem p33x_1790_e : ck_ok p1_O none [] [] 10 [] 114 p33x_1790 = true := by decide +kernel
theorem p33x_1790_s {X : Int → Int} {LX : Nat} : ck_Ok p1_O X LX 10 p33x_1790 := ck_ok_s (ck_E0) ck_X0 ck_l0 p33x_1790_e
set_option maxRecDepth 100000 in
def p33x_1791 : ck_Sum := ((0, 0, 0), 245, [.inr (.inr (.inl 224)), .inl (1, 17, none), .inl (1, 3, none)], ([], [], [(224, 3, 3, ck_one 18), (225, 0, 185, ck_one 0), (224, 1, 1, ck_one 6)]), ([], []), [(.inr (some (.inl (ck_one 0))), 245, ([], [], []))])
set_option maxRecDepth 100000 in
theorem p33x_1791_e : ck_ok p1_O none [] [] 10 [] 114 p33x_1791 = true := by decide +kernel
theorem p33x_1791_s {X : Int → Int} {LX : Nat} : ck_Ok p1_O X LX 10 p33x_1791 := ck_ok_s (ck_E0) ck_X0 ck_l0 p33x_1791_e
set_option maxRecDepth 100000 in
def p33x_1792 : ck_Sum := ((0, 0, 0), 245, [.inr (.inr (.inl 224)), .inl (1, 17, none), .inl (0, 2, none)], ([], [], [(224, 3, 3, ck_one 18), (225, 0, 185, ck_one 0), (224, 1, 1, ck_one 6)]), ([], []), [(.inr (some (.inl (ck_one 0))), 245, ([], [], []))])
set_option maxRecDepth 100000 in
theorem p33x_1792_e : ck_ok p1_O none [] [] 10 [] 114 p33x_1792 = true := by decide +kernel
theorem p33x_1792_s {X : Int → Int} {LX : Nat} : ck_Ok p1_O X LX 10 p33x_1792 := ck_ok_s (ck_E0) ck_X0 ck_l0 p33x_1792_e
set_option maxRecDepth 100000 in
def p33x_1793 : ck_Sum := ((1, 0, 0), 245, [.inr (.inr (.inl 1)), .inl (1, 17, none), .inl (0, 2, none)], ([], [], [(224, 3, 3, ck_one 18), (225, 0, 185, ck_one 0), (224, 1, 1, ck_one 6)]), ([], []), [(.inr (some (.inl (ck_one 0))), 245, ([], [], []))])
set_option maxRecDepth 100000 in
theorem p33x_1793_e : ck_ok p1_O none [] [(10, [p33x_1790, p33x_1791, p33x_1792])] 216 [] 118 p33x_1793 = true := by decide +kernel
theorem p33x_1793_s {X : Int → Int} {LX : Nat} : ck_Ok p1_O X LX 216 p33x_1793 := ck_ok_s (ck_E1 (ck_S1 p33x_1790_s (ck_S1 p33x_1791_s (ck_S1 p33x_1792_s ck_S0))) ck_E0) ck_X0 ck_l0 p33x_1793_e
set_option maxRecDepth 100000 in
def p33x_1794 : ck_Sum := ((0, 0, 0), 245, [.inr (.inr (.inl 224)), .inl (0, 16, none), .inl (0, 2, none), .inl (ck_one 0)], ([], [], [(224, 3, 3, ck_one 18), (225, 0, 185, ck_one 0), (224, 1, 1, ck_one 6)]), ([(225, 0, 98)], []), [(.inr none, 245, ([], [], [(225, 0, 185, ck_one 0)]))])
set_option maxRecDepth 100000 in
theorem p33x_1794_e : ck_ok p1_O none [] [] 45 [] 116 p33x_1794 = true := by decide +kernel
theorem p33x_1794_s {X : Int → Int} {LX : Nat} : ck_Ok p1_O X LX 45 p33x_1794 := ck_ok_s (ck_E0) ck_X0 ck_l0 p33x_1794_e
set_option maxRecDepth 100000 in
def p33x_1798 : ck_Sum := ((3, 0, 0), 245, [.inr (.inr (.inl 1)), .inl (ck_one 17), .inl (ck_one 1)], ([], [], [(224, 1, 1, ck_one 6), (224, 0, 0, ck_one 31), (224, 3, 3, ck_one 0), (222, 1, 1, ck_one 6), (222, 0, 0, ck_one 30), (222, 3, 3, ck_one 0), (1, 15, 15, ck_one 0), (220, 0, 0, ck_one 24), (220, 3, 3, ck_one 0), (10, 3, 3, ck_one 0), (3, 0, 0, ck_one 3), (223, 0, 179, ck_one 0), (225, 0, 185, ck_one 0)]), ([(1, 15, 15), (220, 3, 3), (221, 0, 47), (222, 3, 3), (223, 0, 179), (224, 3, 3), (225, 0, 185)], []), [(.inr (some (.inl (ck_one 0))), 245, ([], [], [(224, 3, 3, ck_one 18), (222, 3, 3, ck_one 17), (1, 15, 15, ck_one 1), (220, 3, 3, ck_one 0), (223, 0, 179, ck_one 0), (225, 0, 185, ck_one 0)]))])
set_option maxRecDepth 100000 in
theorem p33x_1798_e : ck_ok p1_O none [] [(214, [p33x_1677]), (24, [p33x_148]), (215, [p33x_1679]), (25, [p33x_1680]), (10, [p33x_1789, p33x_1797, p33x_1796]), (216, [p33x_1793]), (45, [p33x_1794])] 213 [(28, [some (.inr (.inr (.inl 1))), some (.inl (ck_one 17)), some (.inl (ck_one 1)), some (.inl ((-1), 16, none)), none], ([], [], [(224, 3, 3, ck_one 18), (225, 0, 185, ck_one 0), (222, 3, 3, ck_one 17), (223, 0, 179, ck_one 0), (1, 15, 15, ck_one 1), (220, 3, 3, ck_one 0), (224, 1, 1, ck_one 6), (224, 0, 0, ck_one 31), (222, 1, 1, ck_one 6), (222, 0, 0, ck_one 30), (220, 0, 0, ck_one 24), (10, 3, 3, ck_one 0), (3, 0, 0, ck_one 3)]), 100, .inl 3, false), (35, [some (.inr (.inr (.inl 1))), some (.inl (ck_one 17)), some (.inl (ck_one 1)), some (.inl (0, 16, some (100, 0))), some (.inl (0, 3, none))], ([], [], [(224, 3, 3, ck_one 18), (225, 0, 185, ck_one 0), (222, 3, 3, ck_one 17), (223, 0, 179, ck_one 0), (1, 15, 15, ck_one 1), (220, 3, 3, ck_one 0), (224, 1, 1, ck_one 6), (224, 0, 0, ck_one 31), (222, 1, 1, ck_one 6), (222, 0, 0, ck_one 30), (220, 0, 0, ck_one 24), (10, 3, 3, ck_one 0), (3, 0, 0, ck_one 3)]), 300, .inl 4, true), (94, [some (.inr (.inr (.inl 1))), some (.inl (ck_one 17)), some (.inl (ck_one 1)), some (.inl (ck_one 0)), some (.inl (1, 3, none))], ([], [], [(224, 3, 3, ck_one 18), (225, 0, 185, ck_one 0), (222, 3, 3, ck_one 17), (223, 0, 179, ck_one 0), (1, 15, 15, ck_one 1), (220, 3, 3, ck_one 0), (224, 1, 1, ck_one 6), (224, 0, 0, ck_one 31), (222, 1, 1, ck_one 6), (222, 0, 0, ck_one 30), (220, 0, 0, ck_one 24), (10, 3, 3, ck_one 0), (3, 0, 0, ck_one 3)]), 500, .inl 4, true)] 330 p33x_1798 = true := by decide +kernel
theorem p33x_1798_s {X : Int → Int} {LX : Nat} : ck_Ok p1_O X LX 213 p33x_1798 := ck_ok_s (ck_E1 (ck_S1 p33x_1677_s ck_S0) (ck_E1 (ck_S1 p33x_148_s ck_S0) (ck_E1 (ck_S1 p33x_1679_s ck_S0) (ck_E1 (ck_S1 p33x_1680_s ck_S0) (ck_E1 (ck_S1 p33x_1789_s (ck_S1 p33x_1797_s (ck_S1 p33x_1796_s ck_S0))) (ck_E1 (ck_S1 p33x_1793_s ck_S0) (ck_E1 (ck_S1 p33x_1794_s ck_S0) ck_E0))))))) ck_X0 ck_l0 p33x_1798_e
set_option maxRecDepth 100000 in
def p33x_1799 : ck_Sum := ((4, 0, 0), 245, [.inr (.inr (.inl 1)), .inl (ck_one 17), .inl (ck_one 1), .inr (.inr (.inl 245))], ([], [], [(224, 1, 1, ck_one 6), (224, 0, 0, ck_one 31), (224, 3, 3, ck_one 0), (222, 1, 1, ck_one 6), (222, 0, 0, ck_one 30), (222, 3, 3, ck_one 0), (1, 15, 15, ck_one 0), (220, 0, 0, ck_one 24), (220, 3, 3, ck_one 0), (10, 3, 3, ck_one 0), (3, 0, 0, ck_one 3), (223, 0, 179, ck_one 0), (225, 0, 185, ck_one 0)]), ([(1, 15, 15), (220, 3, 3), (221, 0, 47), (222, 3, 3), (223, 0, 179), (224, 3, 3), (225, 0, 185), (245, 0, 0)], []), [(.inr (some (.inl (ck_one 0))), 245, ([], [], [(245, 0, 0, ck_one 0), (224, 3, 3, ck_one 18), (222, 3, 3, ck_one 17), (1, 15, 15, ck_one 1), (220, 3, 3, ck_one 0), (223, 0, 179, ck_one 0), (225, 0, 185, ck_one 0)]))])
set_option maxRecDepth 100000 in
theorem p33x_1799_e : ck_ok p1_O none [] [(213, [p33x_1798])] 212 [] 92 p33x_1799 = true := by decide +kernel
theorem p33x_1799_s {X : Int → Int} {LX : Nat} : ck_Ok p1_O X LX 212 p33x_1799 := ck_ok_s (ck_E1 (ck_S1 p33x_1798_s ck_S0) ck_E0) ck_X0 ck_l0 p33x_1799_e
set_option maxRecDepth 100000 in
def p33x_1837 : ck_Sum := ((3, 0, 0), 245, [.inr (.inr (.inl 1)), .inl (ck_one 17), .inl (ck_one 0)], ([], [], [(224, 1, 1, ck_one 6), (224, 0, 0, ck_one 31), (224, 3, 3, ck_one 0), (222, 1, 1, ck_one 6), (222, 0, 0, ck_one 30), (222, 3, 3, ck_one 0), (1, 15, 15, ck_one 0), (220, 0, 0, ck_one 24), (220, 3, 3, ck_one 0), (10, 3, 3, ck_one 0), (3, 0, 0, ck_one 3), (223, 0, 179, ck_one 0), (225, 0, 185, ck_one 0)]), ([(1, 15, 15), (220, 3, 3), (221, 0, 47), (222, 3, 3), (223, 0, 179), (224, 3, 3), (225, 0, 185)], []), [(.inr (some (.inl (ck_one 0))), 245, ([], [], [(224, 3, 3, ck_one 18), (222, 3, 3, ck_one 17), (1, 15, 15, ck_one 1), (220, 3, 3, ck_one 0), (223, 0, 179, ck_one 0), (225, 0, 185, ck_one 0)]))])
set_option maxRecDepth 100000 in
theorem p33x_1837_e : ck_ok p1_O none [] [(214, [p33x_1677]), (24, [p33x_148]), (215, [p33x_1679]), (25, [p33x_1680]), (10, [p33x_1789, p33x_1796, p33x_1797]), (216, [p33x_1793]), (45, [p33x_1794])] 213 [(28, [some (.inr (.inr (.inl 1))), some (.inl (ck_one 17)), some (.inl (ck_one 0)), some (.inl ((-1), 16, none)), none], ([], [], [(224, 3, 3, ck_one 18), (225, 0, 185, ck_one 0), (222, 3, 3, ck_one 17), (223, 0, 179, ck_one 0), (1, 15, 15, ck_one 1), (220, 3, 3, ck_one 0), (224, 1, 1, ck_one 6), (224, 0, 0, ck_one 31), (222, 1, 1, ck_one 6), (222, 0, 0, ck_one 30), (220, 0, 0, ck_one 24), (10, 3, 3, ck_one 0), (3, 0, 0, ck_one 3)]), 100, .inl 3, false), (35, [some (.inr (.inr (.inl 1))), some (.inl (ck_one 17)), some (.inl (ck_one 0)), some (.inl (0, 16, some (100, 0))), some (.inl (0, 3, none))], ([], [], [(224, 3, 3, ck_one 18), (225, 0, 185, ck_one 0), (222, 3, 3, ck_one 17), (223, 0, 179, ck_one 0), (1, 15, 15, ck_one 1), (220, 3, 3, ck_one 0), (224, 1, 1, ck_one 6), (224, 0, 0, ck_one 31), (222, 1, 1, ck_one 6), (222, 0, 0, ck_one 30), (220, 0, 0, ck_one 24), (10, 3, 3, ck_one 0), (3, 0, 0, ck_one 3)]), 300, .inl 4, true), (94, [some (.inr (.inr (.inl 1))), some (.inl (ck_one 17)), some (.inl (ck_one 0)), some (.inl (ck_one 0)), some (.inl (1, 3, none))], ([], [], [(224, 3, 3, ck_one 18), (225, 0, 185, ck_one 0), (222, 3, 3, ck_one 17), (223, 0, 179, ck_one 0), (1, 15, 15, ck_one 1), (220, 3, 3, ck_one 0), (224, 1, 1, ck_one 6), (224, 0, 0, ck_one 31), (222, 1, 1, ck_one 6), (222, 0, 0, ck_one 30), (220, 0, 0, ck_one 24), (10, 3, 3, ck_one 0), (3, 0, 0, ck_one 3)]), 500, .inl 4, true)] 330 p33x_1837 = true := by decide +kernel
theorem p33x_1837_s {X : Int → Int} {LX : Nat} : ck_Ok p1_O X LX 213 p33x_1837 := ck_ok_s (ck_E1 (ck_S1 p33x_1677_s ck_S0) (ck_E1 (ck_S1 p33x_148_s ck_S0) (ck_E1 (ck_S1 p33x_1679_s ck_S0) (ck_E1 (ck_S1 p33x_1680_s ck_S0) (ck_E1 (ck_S1 p33x_1789_s (ck_S1 p33x_1796_s (ck_S1 p33x_1797_s ck_S0))) (ck_E1 (ck_S1 p33x_1793_s ck_S0) (ck_E1 (ck_S1 p33x_1794_s ck_S0) ck_E0))))))) ck_X0 ck_l0 p33x_1837_e
set_option maxRecDepth 100000 in
def p33x_1838 : ck_Sum := ((4, 0, 0), 245, [.inr (.inr (.inl 1)), .inl (ck_one 17), .inl (ck_one 0), .inr (.inr (.inl 245))], ([], [], [(224, 1, 1, ck_one 6), (224, 0, 0, ck_one 31), (224, 3, 3, ck_one 0), (222, 1, 1, ck_one 6), (222, 0, 0, ck_one 30), (222, 3, 3, ck_one 0), (1, 15, 15, ck_one 0), (220, 0, 0, ck_one 24), (220, 3, 3, ck_one 0), (10, 3, 3, ck_one 0), (3, 0, 0, ck_one 3), (223, 0, 179, ck_one 0), (225, 0, 185, ck_one 0)]), ([(1, 15, 15), (220, 3, 3), (221, 0, 47), (222, 3, 3), (223, 0, 179), (224, 3, 3), (225, 0, 185), (245, 0, 0)], []), [(.inr (some (.inl (ck_one 0))), 245, ([], [], [(245, 0, 0, ck_one 0), (224, 3, 3, ck_one 18), (222, 3, 3, ck_one 17), (1, 15, 15, ck_one 1), (220, 3, 3, ck_one 0), (223, 0, 179, ck_one 0), (225, 0, 185, ck_one 0)]))])
set_option maxRecDepth 100000 in
theorem p33x_1838_e : ck_ok p1_O none [] [(213, [p33x_1837])] 212 [] 92 p33x_1838 = true := by decide +kernel
theorem p33x_1838_s {X : Int → Int} {LX : Nat} : ck_Ok p1_O X LX 212 p33x_1838 := ck_ok_s (ck_E1 (ck_S1 p33x_1837_s ck_S0) ck_E0) ck_X0 ck_l0 p33x_1838_e
set_option maxRecDepth 100000 in
def p33x_1840 : ck_Sum := ((0, 0, 0), 245, [.inr (.inr (.inl 1)), .inl (ck_one 18)], ([], [], []), ([], []), [(.inr none, 245, ([], [], []))])
set_option maxRecDepth 100000 in
theorem p33x_1840_e : ck_ok p1_O none [] [] 214 [] 84 p33x_1840 = true := by decide +kernel
theorem p33x_1840_s {X : Int → Int} {LX : Nat} : ck_Ok p1_O X LX 214 p33x_1840 := ck_ok_s (ck_E0) ck_X0 ck_l0 p33x_1840_e
set_option maxRecDepth 100000 in
def p33x_1841 : ck_Sum := ((1, 0, 0), 245, [.inr (.inr (.inl 222)), .inl (ck_one 18)], ([], [], [(222, 0, 0, ck_one 30), (223, 0, 179, ck_one 0)]), ([(222, 3, 3), (223, 0, 179)], []), [(.inr none, 245, ([], [], [(222, 3, 3, ck_one 18), (223, 0, 179, ck_one 0)]))])
set_option maxRecDepth 100000 in
theorem p33x_1841_e : ck_ok p1_O none [] [(8, [p33x_149])] 25 [] 96 p33x_1841 = true := by decide +kernel
theorem p33x_1841_s {X : Int → Int} {LX : Nat} : ck_Ok p1_O X LX 25 p33x_1841 := ck_ok_s (ck_E1 (ck_S1 p33x_149_s ck_S0) ck_E0) ck_X0 ck_l0 p33x_1841_e
set_option maxRecDepth 100000 in
def p33x_1842 : ck_Sum := ((2, 0, 0), 245, [.inr (.inr (.inl 1)), .inl (ck_one 18)], ([], [], [(220, 3, 3, ck_one 0), (222, 0, 0, ck_one 30), (222, 3, 3, ck_one 0), (223, 0, 179, ck_one 0)]), ([(222, 3, 3), (223, 0, 179)], []), [(.inr none, 245, ([], [], [(222, 3, 3, ck_one 18), (223, 0, 179, ck_one 0)]))])
set_option maxRecDepth 100000 in
theorem p33x_1842_e : ck_ok p1_O none [] [(25, [p33x_1841]), (9, [p33x_147])] 215 [(10, [some (.inr (.inr (.inl 1))), some (.inl (ck_one 18)), some (.inl (ck_one 0)), none, none], ([], [], [(222, 3, 3, ck_one 18), (223, 0, 179, ck_one 0), (220, 3, 3, ck_one 0), (222, 0, 0, ck_one 30)]), 100, .inl 2, true)] 118 p33x_1842 = true := by decide +kernel
theorem p33x_1842_s {X : Int → Int} {LX : Nat} : ck_Ok p1_O X LX 215 p33x_1842 := ck_ok_s (ck_E1 (ck_S1 p33x_1841_s ck_S0) (ck_E1 (ck_S1 p33x_147_s ck_S0) ck_E0)) ck_X0 ck_l0 p33x_1842_e
set_option maxRecDepth 100000 in
def p33x_1843 : ck_Sum := ((1, 0, 0), 245, [.inr (.inr (.inl 224)), .inl (ck_one 19)], ([], [], [(224, 0, 0, ck_one 31), (225, 0, 185, ck_one 0)]), ([(224, 3, 3), (225, 0, 185)], []), [(.inr none, 245, ([], [], [(224, 3, 3, ck_one 19), (225, 0, 185, ck_one 0)]))])
set_option maxRecDepth 100000 in
theorem p33x_1843_e : ck_ok p1_O none [] [(8, [p33x_152])] 25 [] 96 p33x_1843 = true := by decide +kernel
theorem p33x_1843_s {X : Int → Int} {LX : Nat} : ck_Ok p1_O X LX 25 p33x_1843 := ck_ok_s (ck_E1 (ck_S1 p33x_152_s ck_S0) ck_E0) ck_X0 ck_l0 p33x_1843_e
set_option maxRecDepth 100000 in
def p33x_1952 : ck_Sum := ((0, 0, 0), 245, [.inr (.inr (.inl 222)), .inl (0, 17, none), .inl (0, 2, none)], ([], [], [(222, 3, 3, ck_one 18), (223, 0, 179, ck_one 0), (222, 1, 1, ck_one 6)]), ([], []), [(.inr (some (.inl (ck_one 0))), 245, ([], [], []))])
set_option maxRecDepth 100000 in
theorem p33x_1952_e : ck_ok p1_O none [] [] 10 [] 114 p33x_1952 = true := by decide +kernel
theorem p33x_1952_s {X : Int → Int} {LX : Nat} : ck_Ok p1_O X LX 10 p33x_1952 := ck_ok_s (ck_E0) ck_X0 ck_l0 p33x_1952_e
set_option maxRecDepth 100000 in
def p33x_1960 : ck_Sum := ((0, 0, 0), 245, [.inr (.inr (.inl 224)), .inl (ck_one 0), .inl (1, 2, none)], ([], [], [(224, 3, 3, ck_one 19), (225, 0, 185, ck_one 0), (224, 1, 1, ck_one 6)]), ([], []), [(.inr (some (.inl (ck_one 0))), 245, ([], [], []))])
set_option maxRecDepth 100000 in
theorem p33x_1960_e : ck_ok p1_O none [] [] 10 [] 114 p33x_1960 = true := by decide +kernel
theorem p33x_1960_s {X : Int → Int} {LX : Nat} : ck_Ok p1_O X LX 10 p33x_1960 := ck_ok_s (ck_E0) ck_X0 ck_l0 p33x_1960_e
set_option maxRecDepth 100000 in
def p33x_1959 : ck_Sum := ((0, 0, 0), 245, [.inr (.inr (.inl 224)), .inl (ck_one 0), .inl (ck_one 0)], ([], [], [(224, 3, 3, ck_one 19), (225, 0, 185, ck_one 0), (224, 1, 1, ck_one 6)]), ([], []), [(.inr (some (.inl (ck_one 0))), 245, ([], [], []))])
set_option maxRecDepth 100000 in
theorem p33x_1959_e : ck_ok p1_O none [] [] 10 [] 114 p33x_1959 = true := by decide +kernel
theorem p33x_1959_s {X : Int → Int} {LX : Nat} : ck_Ok p1_O X LX 10 p33x_1959 := ck_ok_s (ck_E0) ck_X0 ck_l0 p33x_1959_e
set_option maxRecDepth 100000 in
def p33x_1953 : ck_Sum := ((0, 0, 0), 245, [.inr (.inr (.inl 224)), .inl (1, 18, none), .inl ((-1), 1, none)], ([], [], [(224, 3, 3, ck_one 19), (225, 0, 185, ck_one 0), (224, 1, 1, ck_one 6)]), ([], []), [(.inr (some (.inl (ck_one (-1)))), 245, ([], [], [])), (.inr (some (.inl (ck_one 0))), 245, ([], [], []))])
set_option maxRecDepth 100000 in
theorem p33x_1953_e : ck_ok p1_O none [] [] 10 [] 114 p33x_1953 = true := by decide +kernel
theorem p33x_1953_s {X : Int → Int} {LX : Nat} : ck_Ok p1_O X LX 10 p33x_1953 := ck_ok_s (ck_E0) ck_X0 ck_l0 p33x_1953_e
set_option maxRecDepth 100000 in
def p33x_1954 : ck_Sum := ((0, 0, 0), 245, [.inr (.inr (.inl 224)), .inl (1, 18, none), .inl (1, 3, none)], ([], [], [(224, 3, 3, ck_one 19), (225, 0, 185, ck_one 0), (224, 1, 1, ck_one 6)]), ([], []), [(.inr (some (.inl (ck_one 0))), 245, ([], [], []))])
set_option maxRecDepth 100000 in
theorem p33x_1954_e : ck_ok p1_O none [] [] 10 [] 114 p33x_1954 = true := by decide +kernel
theorem p33x_1954_s {X : Int → Int} {LX : Nat} : ck_Ok p1_O X LX 10 p33x_1954 := ck_ok_s (ck_E0) ck_X0 ck_l0 p33x_1954_e
set_option maxRecDepth 100000 in
def p33x_1955 : ck_Sum := ((0, 0, 0), 245, [.inr (.inr (.inl 224)), .inl (1, 18, none), .inl (0, 2, none)], ([], [], [(224, 3, 3, ck_one 19), (225, 0, 185, ck_one 0), (224, 1, 1, ck_one 6)]), ([], []), [(.inr (some (.inl (ck_one 0))), 245, ([], [], []))])
set_option maxRecDepth 100000 in
theorem p33x_1955_e : ck_ok p1_O none [] [] 10 [] 114 p33x_1955 = true := by decide +kernel
theorem p33x_1955_s {X : Int → Int} {LX : Nat} : ck_Ok p1_O X LX 10 p33x_1955 := ck_ok_s (ck_E0) ck_X0 ck_l0 p33x_1955_e
set_option maxRecDepth 100000 in
def p33x_1956 : ck_Sum := ((1, 0, 0), 245, [.inr (.inr (.inl 1)), .inl (1, 18, none), .inl (0, 2, none)], ([], [], [(224, 3, 3, ck_one 19), (225, 0, 185, ck_one 0), (224, 1, 1, ck_one 6)]), ([], []), [(.inr (some (.inl (ck_one 0))), 245, ([], [], []))])
set_option maxRecDepth 100000 in
theorem p33x_1956_e : ck_ok p1_O none [] [(10, [p33x_1953, p33x_1954, p33x_1955])] 216 [] 118 p33x_1956 = true := by decide +kernel
theorem p33x_1956_s {X : Int → Int} {LX : Nat} : ck_Ok p1_O X LX 216 p33x_1956 := ck_ok_s (ck_E1 (ck_S1 p33x_1953_s (ck_S1 p33x_1954_s (ck_S1 p33x_1955_s ck_S0))) ck_E0) ck_X0 ck_l0 p33x_1956_e
set_option maxRecDepth 100000 in
def p33x_1957 : ck_Sum := ((0, 0, 0), 245, [.inr (.inr (.inl 224)), .inl (0, 17, none), .inl (0, 2, none), .inl (ck_one 0)], ([], [], [(224, 3, 3, ck_one 19), (225, 0, 185, ck_one 0), (224, 1, 1, ck_one 6)]), ([(225, 0, 104)], []), [(.inr none, 245, ([], [], [(225, 0, 185, ck_one 0)]))])
set_option maxRecDepth 100000 in
theorem p33x_1957_e : ck_ok p1_O none [] [] 45 [] 116 p33x_1957 = true := by decide +kernel
theorem p33x_1957_s {X : Int → Int} {LX : Nat} : ck_Ok p1_O X LX 45 p33x_1957 := ck_ok_s (ck_E0) ck_X0 ck_l0 p33x_1957_e
set_option maxRecDepth 100000 in
def p33x_1961 : ck_Sum := ((3, 0, 0), 245, [.inr (.inr (.inl 1)), .inl (ck_one 18), .inl (ck_one 1)], ([], [], [(224, 1, 1, ck_one 6), (224, 0, 0, ck_one 31), (224, 3, 3, ck_one 0), (222, 1, 1, ck_one 6), (222, 0, 0, ck_one 30), (222, 3, 3, ck_one 0), (1, 15, 15, ck_one 0), (220, 0, 0, ck_one 24), (220, 3, 3, ck_one 0), (10, 3, 3, ck_one 0), (3, 0, 0, ck_one 3), (223, 0, 179, ck_one 0), (225, 0, 185, ck_one 0)]), ([(1, 15, 15), (220, 3, 3), (221, 0, 47), (222, 3, 3), (223, 0, 179), (224, 3, 3), (225, 0, 185)], []), [(.inr (some (.inl (ck_one 0))), 245, ([], [], [(224, 3, 3, ck_one 19), (222, 3, 3, ck_one 18), (1, 15, 15, ck_one 1), (220, 3, 3, ck_one 0), (223, 0, 179, ck_one 0), (225, 0, 185, ck_one 0)]))])
set_option maxRecDepth 100000 in
theorem p33x_1961_e : ck_ok p1_O none [] [(214, [p33x_1840]), (24, [p33x_148]), (215, [p33x_1842]), (25, [p33x_1843]), (10, [p33x_1952, p33x_1960, p33x_1959]), (216, [p33x_1956]), (45, [p33x_1957])] 213 [(28, [some (.inr (.inr (.inl 1))), some (.inl (ck_one 18)), some (.inl (ck_one 1)), some (.inl ((-1), 17, none)), none], ([], [], [(224, 3, 3, ck_one 19), (225, 0, 185, ck_one 0), (222, 3, 3, ck_one 18), (223, 0, 179, ck_one 0), (1, 15, 15, ck_one 1), (220, 3, 3, ck_one 0), (224, 1, 1, ck_one 6), (224, 0, 0, ck_one 31), (222, 1, 1, ck_one 6), (222, 0, 0, ck_one 30), (220, 0, 0, ck_one 24), (10, 3, 3, ck_one 0), (3, 0, 0, ck_one 3)]), 100, .inl 3, false), (35, [some (.inr (.inr (.inl 1))), some (.inl (ck_one 18)), some (.inl (ck_one 1)), some (.inl (0, 17, some (100, 0))), some (.inl (0, 3, none))], ([], [], [(224, 3, 3, ck_one 19), (225, 0, 185, ck_one 0), (222, 3, 3, ck_one 18), (223, 0, 179, ck_one 0), (1, 15, 15, ck_one 1), (220, 3, 3, ck_one 0), (224, 1, 1, ck_one 6), (224, 0, 0, ck_one 31), (222, 1, 1, ck_one 6), (222, 0, 0, ck_one 30), (220, 0, 0, ck_one 24), (10, 3, 3, ck_one 0), (3, 0, 0, ck_one 3)]), 300, .inl 4, true), (94, [some (.inr (.inr (.inl 1))), some (.inl (ck_one 18)), some (.inl (ck_one 1)), some (.inl (ck_one 0)), some (.inl (1, 3, none))], ([], [], [(224, 3, 3, ck_one 19), (225, 0, 185, ck_one 0), (222, 3, 3, ck_one 18), (223, 0, 179, ck_one 0), (1, 15, 15, ck_one 1), (220, 3, 3, ck_one 0), (224, 1, 1, ck_one 6), (224, 0, 0, ck_one 31), (222, 1, 1, ck_one 6), (222, 0, 0, ck_one 30), (220, 0, 0, ck_one 24), (10, 3, 3, ck_one 0), (3, 0, 0, ck_one 3)]), 500, .inl 4, true)] 330 p33x_1961 = true := by decide +kernel
theorem p33x_1961_s {X : Int → Int} {LX : Nat} : ck_Ok p1_O X LX 213 p33x_1961 := ck_ok_s (ck_E1 (ck_S1 p33x_1840_s ck_S0) (ck_E1 (ck_S1 p33x_148_s ck_S0) (ck_E1 (ck_S1 p33x_1842_s ck_S0) (ck_E1 (ck_S1 p33x_1843_s ck_S0) (ck_E1 (ck_S1 p33x_1952_s (ck_S1 p33x_1960_s (ck_S1 p33x_1959_s ck_S0))) (ck_E1 (ck_S1 p33x_1956_s ck_S0) (ck_E1 (ck_S1 p33x_1957_s ck_S0) ck_E0))))))) ck_X0 ck_l0 p33x_1961_e
set_option maxRecDepth 100000 in
def p33x_1962 : ck_Sum := ((4, 0, 0), 245, [.inr (.inr (.inl 1)), .inl (ck_one 18), .inl (ck_one 1), .inr (.inr (.inl 245))], ([], [], [(224, 1, 1, ck_one 6), (224, 0, 0, ck_one 31), (224, 3, 3, ck_one 0), (222, 1, 1, ck_one 6), (222, 0, 0, ck_one 30), (222, 3, 3, ck_one 0), (1, 15, 15, ck_one 0), (220, 0, 0, ck_one 24), (220, 3, 3, ck_one 0), (10, 3, 3, ck_one 0), (3, 0, 0, ck_one 3), (223, 0, 179, ck_one 0), (225, 0, 185, ck_one 0)]), ([(1, 15, 15), (220, 3, 3), (221, 0, 47), (222, 3, 3), (223, 0, 179), (224, 3, 3), (225, 0, 185), (245, 0, 0)], []), [(.inr (some (.inl (ck_one 0))), 245, ([], [], [(245, 0, 0, ck_one 0), (224, 3, 3, ck_one 19), (222, 3, 3, ck_one 18), (1, 15, 15, ck_one 1), (220, 3, 3, ck_one 0), (223, 0, 179, ck_one 0), (225, 0, 185, ck_one 0)]))])
set_option maxRecDepth 100000 in
theorem p33x_1962_e : ck_ok p1_O none [] [(213, [p33x_1961])] 212 [] 92 p33x_1962 = true := by decide +kernel
theorem p33x_1962_s {X : Int → Int} {LX : Nat} : ck_Ok p1_O X LX 212 p33x_1962 := ck_ok_s (ck_E1 (ck_S1 p33x_1961_s ck_S0) ck_E0) ck_X0 ck_l0 p33x_1962_e
set_option maxRecDepth 100000 in
def p33x_2001 : ck_Sum := ((3, 0, 0), 245, [.inr (.inr (.inl 1)), .inl (ck_one 18), .inl (ck_one 0)], ([], [], [(224, 1, 1, ck_one 6), (224, 0, 0, ck_one 31), (224, 3, 3, ck_one 0), (222, 1, 1, ck_one 6), (222, 0, 0, ck_one 30), (222, 3, 3, ck_one 0), (1, 15, 15, ck_one 0), (220, 0, 0, ck_one 24), (220, 3, 3, ck_one 0), (10, 3, 3, ck_one 0), (3, 0, 0, ck_one 3), (223, 0, 179, ck_one 0), (225, 0, 185, ck_one 0)]), ([(1, 15, 15), (220, 3, 3), (221, 0, 47), (222, 3, 3), (223, 0, 179), (224, 3, 3), (225, 0, 185)], []), [(.inr (some (.inl (ck_one 0))), 245, ([], [], [(224, 3, 3, ck_one 19), (222, 3, 3, ck_one 18), (1, 15, 15, ck_one 1), (220, 3, 3, ck_one 0), (223, 0, 179, ck_one 0), (225, 0, 185, ck_one 0)]))])
set_option maxRecDepth 100000 in
theorem p33x_2001_e : ck_ok p1_O none [] [(214, [p33x_1840]), (24, [p33x_148]), (215, [p33x_1842]), (25, [p33x_1843]), (10, [p33x_1952, p33x_1959, p33x_1960]), (216, [p33x_1956]), (45, [p33x_1957])] 213 [(28, [some (.inr (.inr (.inl 1))), some (.inl (ck_one 18)), some (.inl (ck_one 0)), some (.inl ((-1), 17, none)), none], ([], [], [(224, 3, 3, ck_one 19), (225, 0, 185, ck_one 0), (222, 3, 3, ck_one 18), (223, 0, 179, ck_one 0), (1, 15, 15, ck_one 1), (220, 3, 3, ck_one 0), (224, 1, 1, ck_one 6), (224, 0, 0, ck_one 31), (222, 1, 1, ck_one 6), (222, 0, 0, ck_one 30), (220, 0, 0, ck_one 24), (10, 3, 3, ck_one 0), (3, 0, 0, ck_one 3)]), 100, .inl 3, false), (35, [some (.inr (.inr (.inl 1))), some (.inl (ck_one 18)), some (.inl (ck_one 0)), some (.inl (0, 17, some (100, 0))), some (.inl (0, 3, none))], ([], [], [(224, 3, 3, ck_one 19), (225, 0, 185, ck_one 0), (222, 3, 3, ck_one 18), (223, 0, 179, ck_one 0), (1, 15, 15, ck_one 1), (220, 3, 3, ck_one 0), (224, 1, 1, ck_one 6), (224, 0, 0, ck_one 31), (222, 1, 1, ck_one 6), (222, 0, 0, ck_one 30), (220, 0, 0, ck_one 24), (10, 3, 3, ck_one 0), (3, 0, 0, ck_one 3)]), 300, .inl 4, true), (94, [some (.inr (.inr (.inl 1))), some (.inl (ck_one 18)), some (.inl (ck_one 0)), some (.inl (ck_one 0)), some (.inl (1, 3, none))], ([], [], [(224, 3, 3, ck_one 19), (225, 0, 185, ck_one 0), (222, 3, 3, ck_one 18), (223, 0, 179, ck_one 0), (1, 15, 15, ck_one 1), (220, 3, 3, ck_one 0), (224, 1, 1, ck_one 6), (224, 0, 0, ck_one 31), (222, 1, 1, ck_one 6), (222, 0, 0, ck_one 30), (220, 0, 0, ck_one 24), (10, 3, 3, ck_one 0), (3, 0, 0, ck_one 3)]), 500, .inl 4, true)] 330 p33x_2001 = true := by decide +kernel
theorem p33x_2001_s {X : Int → Int} {LX : Nat} : ck_Ok p1_O X LX 213 p33x_2001 := ck_ok_s (ck_E1 (ck_S1 p33x_1840_s ck_S0) (ck_E1 (ck_S1 p33x_148_s ck_S0) (ck_E1 (ck_S1 p33x_1842_s ck_S0) (ck_E1 (ck_S1 p33x_1843_s ck_S0) (ck_E1 (ck_S1 p33x_1952_s (ck_S1 p33x_1959_s (ck_S1 p33x_1960_s ck_S0))) (ck_E1 (ck_S1 p33x_1956_s ck_S0) (ck_E1 (ck_S1 p33x_1957_s ck_S0) ck_E0))))))) ck_X0 ck_l0 p33x_2001_e
set_option maxRecDepth 100000 in
def p33x_2002 : ck_Sum := ((4, 0, 0), 245, [.inr (.inr (.inl 1)), .inl (ck_one 18), .inl (ck_one 0), .inr (.inr (.inl 245))], ([], [], [(224, 1, 1, ck_one 6), (224, 0, 0, ck_one 31), (224, 3, 3, ck_one 0), (222, 1, 1, ck_one 6), (222, 0, 0, ck_one 30), (222, 3, 3, ck_one 0), (1, 15, 15, ck_one 0), (220, 0, 0, ck_one 24), (220, 3, 3, ck_one 0), (10, 3, 3, ck_one 0), (3, 0, 0, ck_one 3), (223, 0, 179, ck_one 0), (225, 0, 185, ck_one 0)]), ([(1, 15, 15), (220, 3, 3), (221, 0, 47), (222, 3, 3), (223, 0, 179), (224, 3, 3), (225, 0, 185), (245, 0, 0)], []), [(.inr (some (.inl (ck_one 0))), 245, ([], [], [(245, 0, 0, ck_one 0), (224, 3, 3, ck_one 19), (222, 3, 3, ck_one 18), (1, 15, 15, ck_one 1), (220, 3, 3, ck_one 0), (223, 0, 179, ck_one 0), (225, 0, 185, ck_one 0)]))])
set_option maxRecDepth 100000 in
theorem p33x_2002_e : ck_ok p1_O none [] [(213, [p33x_2001])] 212 [] 92 p33x_2002 = true := by decide +kernel
theorem p33x_2002_s {X : Int → Int} {LX : Nat} : ck_Ok p1_O X LX 212 p33x_2002 := ck_ok_s (ck_E1 (ck_S1 p33x_2001_s ck_S0) ck_E0) ck_X0 ck_l0 p33x_2002_e
set_option maxRecDepth 100000 in
def p33x_2004 : ck_Sum := ((0, 0, 0), 245, [.inr (.inr (.inl 1)), .inl (ck_one 19)], ([], [], []), ([], []), [(.inr none, 245, ([], [], []))])
set_option maxRecDepth 100000 in
theorem p33x_2004_e : ck_ok p1_O none [] [] 214 [] 84 p33x_2004 = true := by decide +kernel
theorem p33x_2004_s {X : Int → Int} {LX : Nat} : ck_Ok p1_O X LX 214 p33x_2004 := ck_ok_s (ck_E0) ck_X0 ck_l0 p33x_2004_e
set_option maxRecDepth 100000 in
def p33x_2005 : ck_Sum := ((1, 0, 0), 245, [.inr (.inr (.inl 222)), .inl (ck_one 19)], ([], [], [(222, 0, 0, ck_one 30), (223, 0, 179, ck_one 0)]), ([(222, 3, 3), (223, 0, 179)], []), [(.inr none, 245, ([], [], [(222, 3, 3, ck_one 19), (223, 0, 179, ck_one 0)]))])
set_option maxRecDepth 100000 in
theorem p33x_2005_e : ck_ok p1_O none [] [(8, [p33x_149])] 25 [] 96 p33x_2005 = true := by decide +kernel
theorem p33x_2005_s {X : Int → Int} {LX : Nat} : ck_Ok p1_O X LX 25 p33x_2005 := ck_ok_s (ck_E1 (ck_S1 p33x_149_s ck_S0) ck_E0) ck_X0 ck_l0 p33x_2005_e
set_option maxRecDepth 100000 in
def p33x_2006 : ck_Sum := ((2, 0, 0), 245, [.inr (.inr (.inl 1)), .inl (ck_one 19)], ([], [], [(220, 3, 3, ck_one 0), (222, 0, 0, ck_one 30), (222, 3, 3, ck_one 0), (223, 0, 179, ck_one 0)]), ([(222, 3, 3), (223, 0, 179)], []), [(.inr none, 245, ([], [], [(222, 3, 3, ck_one 19), (223, 0, 179, ck_one 0)]))])
set_option maxRecDepth 100000 in
theorem p33x_2006_e : ck_ok p1_O none [] [(25, [p33x_2005]), (9, [p33x_147])] 215 [(10, [some (.inr (.inr (.inl 1))), some (.inl (ck_one 19)), some (.inl (ck_one 0)), none, none], ([], [], [(222, 3, 3, ck_one 19), (223, 0, 179, ck_one 0), (220, 3, 3, ck_one 0), (222, 0, 0, ck_one 30)]), 100, .inl 2, true)] 118 p33x_2006 = true := by decide +kernel
theorem p33x_2006_s {X : Int → Int} {LX : Nat} : ck_Ok p1_O X LX 215 p33x_2006 := ck_ok_s (ck_E1 (ck_S1 p33x_2005_s ck_S0) (ck_E1 (ck_S1 p33x_147_s ck_S0) ck_E0)) ck_X0 ck_l0 p33x_2006_e
set_option maxRecDepth 100000 in
def p33x_2007 : ck_Sum := ((1, 0, 0), 245, [.inr (.inr (.inl 224)), .inl (ck_one 20)], ([], [], [(224, 0, 0, ck_one 31), (225, 0, 185, ck_one 0)]), ([(224, 3, 3), (225, 0, 185)], []), [(.inr none, 245, ([], [], [(224, 3, 3, ck_one 20), (225, 0, 185, ck_one 0)]))])
set_option maxRecDepth 100000 in
theorem p33x_2007_e : ck_ok p1_O none [] [(8, [p33x_152])] 25 [] 96 p33x_2007 = true := by decide +kernel
theorem p33x_2007_s {X : Int → Int} {LX : Nat} : ck_Ok p1_O X LX 25 p33x_2007 := ck_ok_s (ck_E1 (ck_S1 p33x_152_s ck_S0) ck_E0) ck_X0 ck_l0 p33x_2007_e
set_option maxRecDepth 100000 in
def p33x_2116 : ck_Sum := ((0, 0, 0), 245, [.inr (.inr (.inl 222)), .inl (0, 18, none), .inl (0, 2, none)], ([], [], [(222, 3, 3, ck_one 19), (223, 0, 179, ck_one 0), (222, 1, 1, ck_one 6)]), ([], []), [(.inr (some (.inl (ck_one 0))), 245, ([], [], []))])
set_option maxRecDepth 100000 in
theorem p33x_2116_e : ck_ok p1_O none [] [] 10 [] 114 p33x_2116 = true := by decide +kernel
theorem p33x_2116_s {X : Int → Int} {LX : Nat} : ck_Ok p1_O X LX 10 p33x_2116 := ck_ok_s (ck_E0) ck_X0 ck_l0 p33x_2116_e
set_option maxRecDepth 100000 in
def p33x_2124 : ck_Sum := ((0, 0, 0), 245, [.inr (.inr (.inl 224)), .inl (ck_one 0), .inl (1, 2, none)], ([], [], [(224, 3, 3, ck_one 20), (225, 0, 185, ck_one 0), (224, 1, 1, ck_one 6)]), ([], []), [(.inr (some (.inl (ck_one 0))), 245, ([], [], []))])
set_option maxRecDepth 100000 in
theorem p33x_2124_e : ck_ok p1_O none [] [] 10 [] 114 p33x_2124 = true := by decide +kernel
theorem p33x_2124_s {X : Int → Int} {LX : Nat} : ck_Ok p1_O X LX 10 p33x_2124 := ck_ok_s (ck_E0) ck_X0 ck_l0 p33x_2124_e
set_option maxRecDepth 100000 in
def p33x_2123 : ck_Sum := ((0, 0, 0), 245, [.inr (.inr (.inl 224)), .inl (ck_one 0), .inl (ck_one 0)], ([], [], [(224, 3, 3, ck_one 20), (225, 0, 185, ck_one 0), (224, 1, 1, ck_one 6)]), ([], []), [(.inr (some (.inl (ck_one 0))), 245, ([], [], []))])
set_option maxRecDepth 100000 in
theorem p33x_2123_e : ck_ok p1_O none [] [] 10 [] 114 p33x_2123 = true := by decide +kernel
theorem p33x_2123_s {X : Int → Int} {LX : Nat} : ck_Ok p1_O X LX 10 p33x_2123 := ck_ok_s (ck_E0) ck_X0 ck_l0 p33x_2123_e
set_option maxRecDepth 100000 in
def p33x_2117 : ck_Sum := ((0, 0, 0), 245, [.inr (.inr (.inl 224)), .inl (1, 19, none), .inl ((-1), 1, none)], ([], [], [(224, 3, 3, ck_one 20), (225, 0, 185, ck_one 0), (224, 1, 1, ck_one 6)]), ([], []), [(.inr (some (.inl (ck_one (-1)))), 245, ([], [], [])), (.inr (some (.inl (ck_one 0))), 245, ([], [], []))])
set_option maxRecDepth 100000 in
theorem p33x_2117_e : ck_ok p1_O none [] [] 10 [] 114 p33x_2117 = true := by decide +kernel
theorem p33x_2117_s {X : Int → Int} {LX : Nat} : ck_Ok p1_O X LX 10 p33x_2117 := ck_ok_s (ck_E0) ck_X0 ck_l0 p33x_2117_e
set_option maxRecDepth 100000 in
def p33x_2118 : ck_Sum := ((0, 0, 0), 245, [.inr (.inr (.inl 224)), .inl (1, 19, none), .inl (1, 3, none)], ([], [], [(224, 3, 3, ck_one 20), (225, 0, 185, ck_one 0), (224, 1, 1, ck_one 6)]), ([], []), [(.inr (some (.inl (ck_one 0))), 245, ([], [], []))])
set_option maxRecDepth 100000 in
theorem p33x_2118_e : ck_ok p1_O none [] [] 10 [] 114 p33x_2118 = true := by decide +kernel
theorem p33x_2118_s {X : Int → Int} {LX : Nat} : ck_Ok p1_O X LX 10 p33x_2118 := ck_ok_s (ck_E0) ck_X0 ck_l0 p33x_2118_e
set_option maxRecDepth 100000 in
def p33x_2119 : ck_Sum := ((0, 0, 0), 245, [.inr (.inr (.inl 224)), .inl (1, 19, none), .inl (0, 2, none)], ([], [], [(224, 3, 3, ck_one 20), (225, 0, 185, ck_one 0), (224, 1, 1, ck_one 6)]), ([], []), [(.inr (some (.inl (ck_one 0))), 245, ([], [], []))])
set_option maxRecDepth 100000 in
theorem p33x_2119_e : ck_ok p1_O none [] [] 10 [] 114 p33x_2119 = true := by decide +kernel
theorem p33x_2119_s {X : Int → Int} {LX : Nat} : ck_Ok p1_O X LX 10 p33x_2119 := ck_ok_s (ck_E0) ck_X0 ck_l0 p33x_2119_e
set_option maxRecDepth 100000 in
def p33x_2120 : ck_Sum := ((1, 0, 0), 245, [.inr (.inr (.inl 1)), .inl (1, 19, none), .inl (0, 2, none)], ([], [], [(224, 3, 3, ck_one 20), (225, 0, 185, ck_one 0), (224, 1, 1, ck_one 6)]), ([], []), [(.inr (some (.inl (ck_one 0))), 245, ([], [], []))])
set_option maxRecDepth 100000 in
theorem p33x_2120_e : ck_ok p1_O none [] [(10, [p33x_2117, p33x_2118, p33x_2119])] 216 [] 118 p33x_2120 = true := by decide +kernel
theorem p33x_2120_s {X : Int → Int} {LX : Nat} : ck_Ok p1_O X LX 216 p33x_2120 := ck_ok_s (ck_E1 (ck_S1 p33x_2117_s (ck_S1 p33x_2118_s (ck_S1 p33x_2119_s ck_S0))) ck_E0) ck_X0 ck_l0 p33x_2120_e
set_option maxRecDepth 100000 in
def p33x_2121 : ck_Sum := ((0, 0, 0), 245, [.inr (.inr (.inl 224)), .inl (0, 18, none), .inl (0, 2, none), .inl (ck_one 0)], ([], [], [(224, 3, 3, ck_one 20), (225, 0, 185, ck_one 0), (224, 1, 1, ck_one 6)]), ([(225, 0, 110)], []), [(.inr none, 245, ([], [], [(225, 0, 185, ck_one 0)]))])
set_option maxRecDepth 100000 in
theorem p33x_2121_e : ck_ok p1_O none [] [] 45 [] 116 p33x_2121 = true := by decide +kernel
theorem p33x_2121_s {X : Int → Int} {LX : Nat} : ck_Ok p1_O X LX 45 p33x_2121 := ck_ok_s (ck_E0) ck_X0 ck_l0 p33x_2121_e
set_option maxRecDepth 100000 in
def p33x_2125 : ck_Sum := ((3, 0, 0), 245, [.inr (.inr (.inl 1)), .inl (ck_one 19), .inl (ck_one 1)], ([], [], [(224, 1, 1, ck_one 6), (224, 0, 0, ck_one 31), (224, 3, 3, ck_one 0), (222, 1, 1, ck_one 6), (222, 0, 0, ck_one 30), (222, 3, 3, ck_one 0), (1, 15, 15, ck_one 0), (220, 0, 0, ck_one 24), (220, 3, 3, ck_one 0), (10, 3, 3, ck_one 0), (3, 0, 0, ck_one 3), (223, 0, 179, ck_one 0), (225, 0, 185, ck_one 0)]), ([(1, 15, 15), (220, 3, 3), (221, 0, 47), (222, 3, 3), (223, 0, 179), (224, 3, 3), (225, 0, 185)], []), [(.inr (some (.inl (ck_one 0))), 245, ([], [], [(224, 3, 3, ck_one 20), (222, 3, 3, ck_one 19), (1, 15, 15, ck_one 1), (220, 3, 3, ck_one 0), (223, 0, 179, ck_one 0), (225, 0, 185, ck_one 0)]))])
set_option maxRecDepth 100000 in
theorem p33x_2125_e : ck_ok p1_O none [] [(214, [p33x_2004]), (24, [p33x_148]), (215, [p33x_2006]), (25, [p33x_2007]), (10, [p33x_2116, p33x_2124, p33x_2123]), (216, [p33x_2120]), (45, [p33x_2121])] 213 [(28, [some (.inr (.inr (.inl 1))), some (.inl (ck_one 19)), some (.inl (ck_one 1)), some (.inl ((-1), 18, none)), none], ([], [], [(224, 3, 3, ck_one 20), (225, 0, 185, ck_one 0), (222, 3, 3, ck_one 19), (223, 0, 179, ck_one 0), (1, 15, 15, ck_one 1), (220, 3, 3, ck_one 0), (224, 1, 1, ck_one 6), (224, 0, 0, ck_one 31), (222, 1, 1, ck_one 6), (222, 0, 0, ck_one 30), (220, 0, 0, ck_one 24), (10, 3, 3, ck_one 0), (3, 0, 0, ck_one 3)]), 100, .inl 3, false), (35, [some (.inr (.inr (.inl 1))), some (.inl (ck_one 19)), some (.inl (ck_one 1)), some (.inl (0, 18, some (100, 0))), some (.inl (0, 3, none))], ([], [], [(224, 3, 3, ck_one 20), (225, 0, 185, ck_one 0), (222, 3, 3, ck_one 19), (223, 0, 179, ck_one 0), (1, 15, 15, ck_one 1), (220, 3, 3, ck_one 0), (224, 1, 1, ck_one 6), (224, 0, 0, ck_one 31), (222, 1, 1, ck_one 6), (222, 0, 0, ck_one 30), (220, 0, 0, ck_one 24), (10, 3, 3, ck_one 0), (3, 0, 0, ck_one 3)]), 300, .inl 4, true), (94, [some (.inr (.inr (.inl 1))), some (.inl (ck_one 19)), some (.inl (ck_one 1)), some (.inl (ck_one 0)), some (.inl (1, 3, none))], ([], [], [(224, 3, 3, ck_one 20), (225, 0, 185, ck_one 0), (222, 3, 3, ck_one 19), (223, 0, 179, ck_one 0), (1, 15, 15, ck_one 1), (220, 3, 3, ck_one 0), (224, 1, 1, ck_one 6), (224, 0, 0, ck_one 31), (222, 1, 1, ck_one 6), (222, 0, 0, ck_one 30), (220, 0, 0, ck_one 24), (10, 3, 3, ck_one 0), (3, 0, 0, ck_one 3)]), 500, .inl 4, true)] 330 p33x_2125 = true := by decide +kernel
theorem p33x_2125_s {X : Int → Int} {LX : Nat} : ck_Ok p1_O X LX 213 p33x_2125 := ck_ok_s (ck_E1 (ck_S1 p33x_2004_s ck_S0) (ck_E1 (ck_S1 p33x_148_s ck_S0) (ck_E1 (ck_S1 p33x_2006_s ck_S0) (ck_E1 (ck_S1 p33x_2007_s ck_S0) (ck_E1 (ck_S1 p33x_2116_s (ck_S1 p33x_2124_s (ck_S1 p33x_2123_s ck_S0))) (ck_E1 (ck_S1 p33x_2120_s ck_S0) (ck_E1 (ck_S1 p33x_2121_s ck_S0) ck_E0))))))) ck_X0 ck_l0 p33x_2125_e
set_option maxRecDepth 100000 in
def p33x_2126 : ck_Sum := ((4, 0, 0), 245, [.inr (.inr (.inl 1)), .inl (ck_one 19), .inl (ck_one 1), .inr (.inr (.inl 245))], ([], [], [(224, 1, 1, ck_one 6), (224, 0, 0, ck_one 31), (224, 3, 3, ck_one 0), (222, 1, 1, ck_one 6), (222, 0, 0, ck_one 30), (222, 3, 3, ck_one 0), (1, 15, 15, ck_one 0), (220, 0, 0, ck_one 24), (220, 3, 3, ck_one 0), (10, 3, 3, ck_one 0), (3, 0, 0, ck_one 3), (223, 0, 179, ck_one 0), (225, 0, 185, ck_one 0)]), ([(1, 15, 15), (220, 3, 3), (221, 0, 47), (222, 3, 3), (223, 0, 179), (224, 3, 3), (225, 0, 185), (245, 0, 0)], []), [(.inr (some (.inl (ck_one 0))), 245, ([], [], [(245, 0, 0, ck_one 0), (224, 3, 3, ck_one 20), (222, 3, 3, ck_one 19), (1, 15, 15, ck_one 1), (220, 3, 3, ck_one 0), (223, 0, 179, ck_one 0), (225, 0, 185, ck_one 0)]))])
set_option maxRecDepth 100000 in
theorem p33x_2126_e : ck_ok p1_O none [] [(213, [p33x_2125])] 212 [] 92 p33x_2126 = true := by decide +kernel
theorem p33x_2126_s {X : Int → Int} {LX : Nat} : ck_Ok p1_O X LX 212 p33x_2126 := ck_ok_s (ck_E1 (ck_S1 p33x_2125_s ck_S0) ck_E0) ck_X0 ck_l0 p33x_2126_e
set_option maxRecDepth 100000 in
def p33x_2165 : ck_Sum := ((3, 0, 0), 245, [.inr (.inr (.inl 1)), .inl (ck_one 19), .inl (ck_one 0)], ([], [], [(224, 1, 1, ck_one 6), (224, 0, 0, ck_one 31), (224, 3, 3, ck_one 0), (222, 1, 1, ck_one 6), (222, 0, 0, ck_one 30), (222, 3, 3, ck_one 0), (1, 15, 15, ck_one 0), (220, 0, 0, ck_one 24), (220, 3, 3, ck_one 0), (10, 3, 3, ck_one 0), (3, 0, 0, ck_one 3), (223, 0, 179, ck_one 0), (225, 0, 185, ck_one 0)]), ([(1, 15, 15), (220, 3, 3), (221, 0, 47), (222, 3, 3), (223, 0, 179), (224, 3, 3), (225, 0, 185)], []), [(.inr (some (.inl (ck_one 0))), 245, ([], [], [(224, 3, 3, ck_one 20), (222, 3, 3, ck_one 19), (1, 15, 15, ck_one 1), (220, 3, 3, ck_one 0), (223, 0, 179, ck_one 0), (225, 0, 185, ck_one 0)]))])
set_option maxRecDepth 100000 in
theorem p33x_2165_e : ck_ok p1_O none [] [(214, [p33x_2004]), (24, [p33x_148]), (215, [p33x_2006]), (25, [p33x_2007]), (10, [p33x_2116, p33x_2123, p33x_2124]), (216, [p33x_2120]), (45, [p33x_2121])] 213 [(28, [some (.inr (.inr (.inl 1))), some (.inl (ck_one 19)), some (.inl (ck_one 0)), some (.inl ((-1), 18, none)), none], ([], [], [(224, 3, 3, ck_one 20), (225, 0, 185, ck_one 0), (222, 3, 3, ck_one 19), (223, 0, 179, ck_one 0), (1, 15, 15, ck_one 1), (220, 3, 3, ck_one 0), (224, 1, 1, ck_one 6), (224, 0, 0, ck_one 31), (222, 1, 1, ck_one 6), (222, 0, 0, ck_one 30), (220, 0, 0, ck_one 24), (10, 3, 3, ck_one 0), (3, 0, 0, ck_one 3)]), 100, .inl 3, false), (35, [some (.inr (.inr (.inl 1))), some (.inl (ck_one 19)), some (.inl (ck_one 0)), some (.inl (0, 18, some (100, 0))), some (.inl (0, 3, none))], ([], [], [(224, 3, 3, ck_one 20), (225, 0, 185, ck_one 0), (222, 3, 3, ck_one 19), (223, 0, 179, ck_one 0), (1, 15, 15, ck_one 1), (220, 3, 3, ck_one 0), (224, 1, 1, ck_one 6), (224, 0, 0, ck_one 31), (222, 1, 1, ck_one 6), (222, 0, 0, ck_one 30), (220, 0, 0, ck_one 24), (10, 3, 3, ck_one 0), (3, 0, 0, ck_one 3)]), 300, .inl 4, true), (94, [some (.inr (.inr (.inl 1))), some (.inl (ck_one 19)), some (.inl (ck_one 0)), some (.inl (ck_one 0)), some (.inl (1, 3, none))], ([], [], [(224, 3, 3, ck_one 20), (225, 0, 185, ck_one 0), (222, 3, 3, ck_one 19), (223, 0, 179, ck_one 0), (1, 15, 15, ck_one 1), (220, 3, 3, ck_one 0), (224, 1, 1, ck_one 6), (224, 0, 0, ck_one 31), (222, 1, 1, ck_one 6), (222, 0, 0, ck_one 30), (220, 0, 0, ck_one 24), (10, 3, 3, ck_one 0), (3, 0, 0, ck_one 3)]), 500, .inl 4, true)] 330 p33x_2165 = true := by decide +kernel
theorem p33x_2165_s {X : Int → Int} {LX : Nat} : ck_Ok p1_O X LX 213 p33x_2165 := ck_ok_s (ck_E1 (ck_S1 p33x_2004_s ck_S0) (ck_E1 (ck_S1 p33x_148_s ck_S0) (ck_E1 (ck_S1 p33x_2006_s ck_S0) (ck_E1 (ck_S1 p33x_2007_s ck_S0) (ck_E1 (ck_S1 p33x_2116_s (ck_S1 p33x_2123_s (ck_S1 p33x_2124_s ck_S0))) (ck_E1 (ck_S1 p33x_2120_s ck_S0) (ck_E1 (ck_S1 p33x_2121_s ck_S0) ck_E0))))))) ck_X0 ck_l0 p33x_2165_e
set_option maxRecDepth 100000 in
def p33x_2166 : ck_Sum := ((4, 0, 0), 245, [.inr (.inr (.inl 1)), .inl (ck_one 19), .inl (ck_one 0), .inr (.inr (.inl 245))], ([], [], [(224, 1, 1, ck_one 6), (224, 0, 0, ck_one 31), (224, 3, 3, ck_one 0), (222, 1, 1, ck_one 6), (222, 0, 0, ck_one 30), (222, 3, 3, ck_one 0), (1, 15, 15, ck_one 0), (220, 0, 0, ck_one 24), (220, 3, 3, ck_one 0), (10, 3, 3, ck_one 0), (3, 0, 0, ck_one 3), (223, 0, 179, ck_one 0), (225, 0, 185, ck_one 0)]), ([(1, 15, 15), (220, 3, 3), (221, 0, 47), (222, 3, 3), (223, 0, 179), (224, 3, 3), (225, 0, 185), (245, 0, 0)], []), [(.inr (some (.inl (ck_one 0))), 245, ([], [], [(245, 0, 0, ck_one 0), (224, 3, 3, ck_one 20), (222, 3, 3, ck_one 19), (1, 15, 15, ck_one 1), (220, 3, 3, ck_one 0), (223, 0, 179, ck_one 0), (225, 0, 185, ck_one 0)]))])
set_option maxRecDepth 100000 in
theorem p33x_2166_e : ck_ok p1_O none [] [(213, [p33x_2165])] 212 [] 92 p33x_2166 = true := by decide +kernel
theorem p33x_2166_s {X : Int → Int} {LX : Nat} : ck_Ok p1_O X LX 212 p33x_2166 := ck_ok_s (ck_E1 (ck_S1 p33x_2165_s ck_S0) ck_E0) ck_X0 ck_l0 p33x_2166_e
set_option maxRecDepth 100000 in
def p33x_2168 : ck_Sum := ((0, 0, 0), 245, [.inr (.inr (.inl 1)), .inl (ck_one 20)], ([], [], []), ([], []), [(.inr none, 245, ([], [], []))])
set_option maxRecDepth 100000 in
theorem p33x_2168_e : ck_ok p1_O none [] [] 214 [] 84 p33x_2168 = true := by decide +kernel
theorem p33x_2168_s {X : Int → Int} {LX : Nat} : ck_Ok p1_O X LX 214 p33x_2168 := ck_ok_s (ck_E0) ck_X0 ck_l0 p33x_2168_e
set_option maxRecDepth 100000 in
def p33x_2169 : ck_Sum := ((1, 0, 0), 245, [.inr (.inr (.inl 222)), .inl (ck_one 20)], ([], [], [(222, 0, 0, ck_one 30), (223, 0, 179, ck_one 0)]), ([(222, 3, 3), (223, 0, 179)], []), [(.inr none, 245, ([], [], [(222, 3, 3, ck_one 20), (223, 0, 179, ck_one 0)]))])
set_option maxRecDepth 100000 in
theorem p33x_2169_e : ck_ok p1_O none [] [(8, [p33x_149])] 25 [] 96 p33x_2169 = true := by decide +kernel
theorem p33x_2169_s {X : Int → Int} {LX : Nat} : ck_Ok p1_O X LX 25 p33x_2169 := ck_ok_s (ck_E1 (ck_S1 p33x_149_s ck_S0) ck_E0) ck_X0 ck_l0 p33x_2169_e
set_option maxRecDepth 100000 in
def p33x_2170 : ck_Sum := ((2, 0, 0), 245, [.inr (.inr (.inl 1)), .inl (ck_one 20)], ([], [], [(220, 3, 3, ck_one 0), (222, 0, 0, ck_one 30), (222, 3, 3, ck_one 0), (223, 0, 179, ck_one 0)]), ([(222, 3, 3), (223, 0, 179)], []), [(.inr none, 245, ([], [], [(222, 3, 3, ck_one 20), (223, 0, 179, ck_one 0)]))])
set_option maxRecDepth 100000 in
theorem p33x_2170_e : ck_ok p1_O none [] [(25, [p33x_2169]), (9, [p33x_147])] 215 [(10, [some (.inr (.inr (.inl 1))), some (.inl (ck_one 20)), some (.inl (ck_one 0)), none, none], ([], [], [(222, 3, 3, ck_one 20), (223, 0, 179, ck_one 0), (220, 3, 3, ck_one 0), (222, 0, 0, ck_one 30)]), 100, .inl 2, true)] 118 p33x_2170 = true := by decide +kernel
theorem p33x_2170_s {X : Int → Int} {LX : Nat} : ck_Ok p1_O X LX 215 p33x_2170 := ck_ok_s (ck_E1 (ck_S1 p33x_2169_s ck_S0) (ck_E1 (ck_S1 p33x_147_s ck_S0) ck_E0)) ck_X0 ck_l0 p33x_2170_e
set_option maxRecDepth 100000 in
def p33x_2171 : ck_Sum := ((1, 0, 0), 245, [.inr (.inr (.inl 224)), .inl (ck_one 21)], ([], [], [(224, 0, 0, ck_one 31), (225, 0, 185, ck_one 0)]), ([(224, 3, 3), (225, 0, 185)], []), [(.inr none, 245, ([], [], [(224, 3, 3, ck_one 21), (225, 0, 185, ck_one 0)]))])
set_option maxRecDepth 100000 in
theorem p33x_2171_e : ck_ok p1_O none [] [(8, [p33x_152])] 25 [] 96 p33x_2171 = true := by decide +kernel
theorem p33x_2171_s {X : Int → Int} {LX : Nat} : ck_Ok p1_O X LX 25 p33x_2171 := ck_ok_s (ck_E1 (ck_S1 p33x_152_s ck_S0) ck_E0) ck_X0 ck_l0 p33x_2171_e
set_option maxRecDepth 100000 in
def p33x_2280 : ck_Sum := ((0, 0, 0), 245, [.inr (.inr (.inl 222)), .inl (0, 19, none), .inl (0, 2, none)], ([], [], [(222, 3, 3, ck_one 20), (223, 0, 179, ck_one 0), (222, 1, 1, ck_one 6)]), ([], []), [(.inr (some (.inl (ck_one 0))), 245, ([], [], []))])
set_option maxRecDepth 100000 in
theorem p33x_2280_e : ck_ok p1_O none [] [] 10 [] 114 p33x_2280 = true := by decide +kernel
theorem p33x_2280_s {X : Int → Int} {LX : Nat} : ck_Ok p1_O X LX 10 p33x_2280 := ck_ok_s (ck_E0) ck_X0 ck_l0 p33x_2280_e
set_option maxRecDepth 100000 in
def p33x_2288 : ck_Sum := ((0, 0, 0), 245, [.inr (.inr (.inl 224)), .inl (ck_one 0), .inl (1, 2, none)], ([], [], [(224, 3, 3, ck_one 21), (225, 0, 185, ck_one 0), (224, 1, 1, ck_one 6)]), ([], []), [(.inr (some (.inl (ck_one 0))), 245, ([], [], []))])
set_option maxRecDepth 100000 in
theorem p33x_2288_e : ck_ok p1_O none [] [] 10 [] 114 p33x_2288 = true := by decide +kernel
theorem p33x_2288_s {X : Int → Int} {LX : Nat} : ck_Ok p1_O X LX 10 p33x_2288 := ck_ok_s (ck_E0) ck_X0 ck_l0 p33x_2288_e
set_option maxRecDepth 100000 in
def p33x_2287 : ck_Sum := ((0, 0, 0), 245, [.inr (.inr (.inl 224)), .inl (ck_one 0), .inl (ck_one 0)], ([], [], [(224, 3, 3, ck_one 21), (225, 0, 185, ck_one 0), (224, 1, 1, ck_one 6)]), ([], []), [(.inr (some (.inl (ck_one 0))), 245, ([], [], []))])
set_option maxRecDepth 100000 in
theorem p33x_2287_e : ck_ok p1_O none [] [] 10 [] 114 p33x_2287 = true := by decide +kernel
theorem p33x_2287_s {X : Int → Int} {LX : Nat} : ck_Ok p1_O X LX 10 p33x_2287 := ck_ok_s (ck_E0) ck_X0 ck_l0 p33x_2287_e
set_option maxRecDepth 100000 in
def p33x_2281 : ck_Sum := ((0, 0, 0), 245, [.inr (.inr (.inl 224)), .inl (1, 20, none), .inl ((-1), 1, none)], ([], [], [(224, 3, 3, ck_one 21), (225, 0, 185, ck_one 0), (224, 1, 1, ck_one 6)]), ([], []), [(.inr (some (.inl (ck_one (-1)))), 245, ([], [], [])), (.inr (some (.inl (ck_one 0))), 245, ([], [], []))])
set_option maxRecDepth 100000 in
theorem p33x_2281_e : ck_ok p1_O none [] [] 10 [] 114 p33x_2281 = true := by decide +kernel
theorem p33x_2281_s {X : Int → Int} {LX : Nat} : ck_Ok p1_O X LX 10 p33x_2281 := ck_ok_s (ck_E0) ck_X0 ck_l0 p33x_2281_e
set_option maxRecDepth 100000 in
def p33x_2282 : ck_Sum := ((0, 0, 0), 245, [.inr (.inr (.inl 224)), .inl (1, 20, none), .inl (1, 3, none)], ([], [], [(224, 3, 3, ck_one 21), (225, 0, 185, ck_one 0), (224, 1, 1, ck_one 6)]), ([], []), [(.inr (some (.inl (ck_one 0))), 245, ([], [], []))])
set_option maxRecDepth 100000 in
theorem p33x_2282_e : ck_ok p1_O none [] [] 10 [] 114 p33x_2282 = true := by decide +kernel
theorem p33x_2282_s {X : Int → Int} {LX : Nat} : ck_Ok p1_O X LX 10 p33x_2282 := ck_ok_s (ck_E0) ck_X0 ck_l0 p33x_2282_e
set_option maxRecDepth 100000 in
def p33x_2283 : ck_Sum := ((0, 0, 0), 245, [.inr (.inr (.inl 224)), .inl (1, 20, none), .inl (0, 2, none)], ([], [], [(224, 3, 3, ck_one 21), (225, 0, 185, ck_one 0), (224, 1, 1, ck_one 6)]), ([], []), [(.inr (some (.inl (ck_one 0))), 245, ([], [], []))])
set_option maxRecDepth 100000 in
theorem p33x_2283_e : ck_ok p1_O none [] [] 10 [] 114 p33x_2283 = true := by decide +kernel
theorem p33x_2283_s {X : Int → Int} {LX : Nat} : ck_Ok p1_O X LX 10 p33x_2283 := ck_ok_s (ck_E0) ck_X0 ck_l0 p33x_2283_e
set_option maxRecDepth 100000 in
def p33x_2284 : ck_Sum := ((1, 0, 0), 245, [.inr (.inr (.inl 1)), .inl (1, 20, none), .inl (0, 2, none)], ([], [], [(224, 3, 3, ck_one 21), (225, 0, 185, ck_one 0), (224, 1, 1, ck_one 6)]), ([], []), [(.inr (some (.inl (ck_one 0))), 245, ([], [], []))])
set_option maxRecDepth 100000 in
theorem p33x_2284_e : ck_ok p1_O none [] [(10, [p33x_2281, p33x_2282, p33x_2283])] 216 [] 118 p33x_2284 = true := by decide +kernel
theorem p33x_2284_s {X : Int → Int} {LX : Nat} : ck_Ok p1_O X LX 216 p33x_2284 := ck_ok_s (ck_E1 (ck_S1 p33x_2281_s (ck_S1 p33x_2282_s (ck_S1 p33x_2283_s ck_S0))) ck_E0) ck_X0 ck_l0 p33x_2284_e
set_option maxRecDepth 100000 in
def p33x_2285 : ck_Sum := ((0, 0, 0), 245, [.inr (.inr (.inl 224)), .inl (0, 19, none), .inl (0, 2, none), .inl (ck_one 0)], ([], [], [(224, 3, 3, ck_one 21), (225, 0, 185, ck_one 0), (224, 1, 1, ck_one 6)]), ([(225, 0, 116)], []), [(.inr none, 245, ([], [], [(225, 0, 185, ck_one 0)]))])
set_option maxRecDepth 100000 in
theorem p33x_2285_e : ck_ok p1_O none [] [] 45 [] 116 p33x_2285 = true := by decide +kernel
theorem p33x_2285_s {X : Int → Int} {LX : Nat} : ck_Ok p1_O X LX 45 p33x_2285 := ck_ok_s (ck_E0) ck_X0 ck_l0 p33x_2285_e
set_option maxRecDepth 100000 in
def p33x_2289 : ck_Sum := ((3, 0, 0), 245, [.inr (.inr (.inl 1)), .inl (ck_one 20), .inl (ck_one 1)], ([], [], [(224, 1, 1, ck_one 6), (224, 0, 0, ck_one 31), (224, 3, 3, ck_one 0), (222, 1, 1, ck_one 6), (222, 0, 0, ck_one 30), (222, 3, 3, ck_one 0), (1, 15, 15, ck_one 0), (220, 0, 0, ck_one 24), (220, 3, 3, ck_one 0), (10, 3, 3, ck_one 0), (3, 0, 0, ck_one 3), (223, 0, 179, ck_one 0), (225, 0, 185, ck_one 0)]), ([(1, 15, 15), (220, 3, 3), (221, 0, 47), (222, 3, 3), (223, 0, 179), (224, 3, 3), (225, 0, 185)], []), [(.inr (some (.inl (ck_one 0))), 245, ([], [], [(224, 3, 3, ck_one 21), (222, 3, 3, ck_one 20), (1, 15, 15, ck_one 1), (220, 3, 3, ck_one 0), (223, 0, 179, ck_one 0), (225, 0, 185, ck_one 0)]))])
set_option maxRecDepth 100000 in
theorem p33x_2289_e : ck_ok p1_O none [] [(214, [p33x_2168]), (24, [p33x_148]), (215, [p33x_2170]), (25, [p33x_2171]), (10, [p33x_2280, p33x_2288, p33x_2287]), (216, [p33x_2284]), (45, [p33x_2285])] 213 [(28, [some (.inr (.inr (.inl 1))), some (.inl (ck_one 20)), some (.inl (ck_one 1)), some (.inl ((-1), 19, none)), none], ([], [], [(224, 3, 3, ck_one 21), (225, 0, 185, ck_one 0), (222, 3, 3, ck_one 20), (223, 0, 179, ck_one 0), (1, 15, 15, ck_one 1), (220, 3, 3, ck_one 0), (224, 1, 1, ck_one 6), (224, 0, 0, ck_one 31), (222, 1, 1, ck_one 6), (222, 0, 0, ck_one 30), (220, 0, 0, ck_one 24), (10, 3, 3, ck_one 0), (3, 0, 0, ck_one 3)]), 100, .inl 3, false), (35, [some (.inr (.inr (.inl 1))), some (.inl (ck_one 20)), some (.inl (ck_one 1)), some (.inl (0, 19, some (100, 0))), some (.inl (0, 3, none))], ([], [], [(224, 3, 3, ck_one 21), (225, 0, 185, ck_one 0), (222, 3, 3, ck_one 20), (223, 0, 179, ck_one 0), (1, 15, 15, ck_one 1), (220, 3, 3, ck_one 0), (224, 1, 1, ck_one 6), (224, 0, 0, ck_one 31), (222, 1, 1, ck_one 6), (222, 0, 0, ck_one 30), (220, 0, 0, ck_one 24), (10, 3, 3, ck_one 0), (3, 0, 0, ck_one 3)]), 300, .inl 4, true), (94, [some (.inr (.inr (.inl 1))), some (.inl (ck_one 20)), some (.inl (ck_one 1)), some (.inl (ck_one 0)), some (.inl (1, 3, none))], ([], [], [(224, 3, 3, ck_one 21), (225, 0, 185, ck_one 0), (222, 3, 3, ck_one 20), (223, 0, 179, ck_one 0), (1, 15, 15, ck_one 1), (220, 3, 3, ck_one 0), (224, 1, 1, ck_one 6), (224, 0, 0, ck_one 31), (222, 1, 1, ck_one 6), (222, 0, 0, ck_one 30), (220, 0, 0, ck_one 24), (10, 3, 3, ck_one 0), (3, 0, 0, ck_one 3)]), 500, .inl 4, true)] 330 p33x_2289 = true := by decide +kernel
theorem p33x_2289_s {X : Int → Int} {LX : Nat} : ck_Ok p1_O X LX 213 p33x_2289 := ck_ok_s (ck_E1 (ck_S1 p33x_2168_s ck_S0) (ck_E1 (ck_S1 p33x_148_s ck_S0) (ck_E1 (ck_S1 p33x_2170_s ck_S0) (ck_E1 (ck_S1 p33x_2171_s ck_S0) (ck_E1 (ck_S1 p33x_2280_s (ck_S1 p33x_2288_s (ck_S1 p33x_2287_s ck_S0))) (ck_E1 (ck_S1 p33x_2284_s ck_S0) (ck_E1 (ck_S1 p33x_2285_s ck_S0) ck_E0))))))) ck_X0 ck_l0 p33x_2289_e
set_option maxRecDepth 100000 in
def p33x_2290 : ck_Sum := ((4, 0, 0), 245, [.inr (.inr (.inl 1)), .inl (ck_one 20), .inl (ck_one 1), .inr (.inr (.inl 245))], ([], [], [(224, 1, 1, ck_one 6), (224, 0, 0, ck_one 31), (224, 3, 3, ck_one 0), (222, 1, 1, ck_one 6), (222, 0, 0, ck_one 30), (222, 3, 3, ck_one 0), (1, 15, 15, ck_one 0), (220, 0, 0, ck_one 24), (220, 3, 3, ck_one 0), (10, 3, 3, ck_one 0), (3, 0, 0, ck_one 3), (223, 0, 179, ck_one 0), (225, 0, 185, ck_one 0)]), ([(1, 15, 15), (220, 3, 3), (221, 0, 47), (222, 3, 3), (223, 0, 179), (224, 3, 3), (225, 0, 185), (245, 0, 0)], []), [(.inr (some (.inl (ck_one 0))), 245, ([], [], [(245, 0, 0, ck_one 0), (224, 3, 3, ck_one 21), (222, 3, 3, ck_one 20), (1, 15, 15, ck_one 1), (220, 3, 3, ck_one 0), (223, 0, 179, ck_one 0), (225, 0, 185, ck_one 0)]))])
set_option maxRecDepth 100000 in
theorem p33x_2290_e : ck_ok p1_O none [] [(213, [p33x_2289])] 212 [] 92 p33x_2290 = true := by decide +kernel
theorem p33x_2290_s {X : Int → Int} {LX : Nat} : ck_Ok p1_O X LX 212 p33x_2290 := ck_ok_s (ck_E1 (ck_S1 p33x_2289_s ck_S0) ck_E0) ck_X0 ck_l0 p33x_2290_e
set_option maxRecDepth 100000 in
def p33x_2329 : ck_Sum := ((3, 0, 0), 245, [.inr (.inr (.inl 1)), .inl (ck_one 20), .inl (ck_one 0)], ([], [], [(224, 1, 1, ck_one 6), (224, 0, 0, ck_one 31), (224, 3, 3, ck_one 0), (222, 1, 1, ck_one 6), (222, 0, 0, ck_one 30), (222, 3, 3, ck_one 0), (1, 15, 15, ck_one 0), (220, 0, 0, ck_one 24), (220, 3, 3, ck_one 0), (10, 3, 3, ck_one 0), (3, 0, 0, ck_one 3), (223, 0, 179, ck_one 0), (225, 0, 185, ck_one 0)]), ([(1, 15, 15), (220, 3, 3), (221, 0, 47), (222, 3, 3), (223, 0, 179), (224, 3, 3), (225, 0, 185)], []), [(.inr (some (.inl (ck_one 0))), 245, ([], [], [(224, 3, 3, ck_one 21), (222, 3, 3, ck_one 20), (1, 15, 15, ck_one 1), (220, 3, 3, ck_one 0), (223, 0, 179, ck_one 0), (225, 0, 185, ck_one 0)]))])
set_option maxRecDepth 100000 in
theorem p33x_2329_e : ck_ok p1_O none [] [(214, [p33x_2168]), (24, [p33x_148]), (215, [p33x_2170]), (25, [p33x_2171]), (10, [p33x_2280, p33x_2287, p33x_2288]), (216, [p33x_2284]), (45, [p33x_2285])] 213 [(28, [some (.inr (.inr (.inl 1))), some (.inl (ck_one 20)), some (.inl (ck_one 0)), some (.inl ((-1), 19, none)), none], ([], [], [(224, 3, 3, ck_one 21), (225, 0, 185, ck_one 0), (222, 3, 3, ck_one 20), (223, 0, 179, ck_one 0), (1, 15, 15, ck_one 1), (220, 3, 3, ck_one 0), (224, 1, 1, ck_one 6), (224, 0, 0, ck_one 31), (222, 1, 1, ck_one 6), (222, 0, 0, ck_one 30), (220, 0, 0, ck_one 24), (10, 3, 3, ck_one 0), (3, 0, 0, ck_one 3)]), 100, .inl 3, false), (35, [some (.inr (.inr (.inl 1))), some (.inl (ck_one 20)), some (.inl (ck_one 0)), some (.inl (0, 19, some (100, 0))), some (.inl (0, 3, none))], ([], [], [(224, 3, 3, ck_one 21), (225, 0, 185, ck_one 0), (222, 3, 3, ck_one 20), (223, 0, 179, ck_one 0), (1, 15, 15, ck_one 1), (220, 3, 3, ck_one 0), (224, 1, 1, ck_one 6), (224, 0, 0, ck_one 31), (222, 1, 1, ck_one 6), (222, 0, 0, ck_one 30), (220, 0, 0, ck_one 24), (10, 3, 3, ck_one 0), (3, 0, 0, ck_one 3)]), 300, .inl 4, true), (94, [some (.inr (.inr (.inl 1))), some (.inl (ck_one 20)), some (.inl (ck_one 0)), some (.inl (ck_one 0)), some (.inl (1, 3, none))], ([], [], [(224, 3, 3, ck_one 21), (225, 0, 185, ck_one 0), (222, 3, 3, ck_one 20), (223, 0, 179, ck_one 0), (1, 15, 15, ck_one 1), (220, 3, 3, ck_one 0), (224, 1, 1, ck_one 6), (224, 0, 0, ck_one 31), (222, 1, 1, ck_one 6), (222, 0, 0, ck_one 30), (220, 0, 0, ck_one 24), (10, 3, 3, ck_one 0), (3, 0, 0, ck_one 3)]), 500, .inl 4, true)] 330 p33x_2329 = true := by decide +kernel
theorem p33x_2329_s {X : Int → Int} {LX : Nat} : ck_Ok p1_O X LX 213 p33x_2329 := ck_ok_s (ck_E1 (ck_S1 p33x_2168_s ck_S0) (ck_E1 (ck_S1 p33x_148_s ck_S0) (ck_E1 (ck_S1 p33x_2170_s ck_S0) (ck_E1 (ck_S1 p33x_2171_s ck_S0) (ck_E1 (ck_S1 p33x_2280_s (ck_S1 p33x_2287_s (ck_S1 p33x_2288_s ck_S0))) (ck_E1 (ck_S1 p33x_2284_s ck_S0) (ck_E1 (ck_S1 p33x_2285_s ck_S0) ck_E0))))))) ck_X0 ck_l0 p33x_2329_e
set_option maxRecDepth 100000 in
def p33x_2330 : ck_Sum := ((4, 0, 0), 245, [.inr (.inr (.inl 1)), .inl (ck_one 20), .inl (ck_one 0), .inr (.inr (.inl 245))], ([], [], [(224, 1, 1, ck_one 6), (224, 0, 0, ck_one 31), (224, 3, 3, ck_one 0), (222, 1, 1, ck_one 6), (222, 0, 0, ck_one 30), (222, 3, 3, ck_one 0), (1, 15, 15, ck_one 0), (220, 0, 0, ck_one 24), (220, 3, 3, ck_one 0), (10, 3, 3, ck_one 0), (3, 0, 0, ck_one 3), (223, 0, 179, ck_one 0), (225, 0, 185, ck_one 0)]), ([(1, 15, 15), (220, 3, 3), (221, 0, 47), (222, 3, 3), (223, 0, 179), (224, 3, 3), (225, 0, 185), (245, 0, 0)], []), [(.inr (some (.inl (ck_one 0))), 245, ([], [], [(245, 0, 0, ck_one 0), (224, 3, 3, ck_one 21), (222, 3, 3, ck_one 20), (1, 15, 15, ck_one 1), (220, 3, 3, ck_one 0), (223, 0, 179, ck_one 0), (225, 0, 185, ck_one 0)]))])
set_option maxRecDepth 100000 in
theorem p33x_2330_e : ck_ok p1_O none [] [(213, [p33x_2329])] 212 [] 92 p33x_2330 = true := by decide +kernel
theorem p33x_2330_s {X : Int → Int} {LX : Nat} : ck_Ok p1_O X LX 212 p33x_2330 := ck_ok_s (ck_E1 (ck_S1 p33x_2329_s ck_S0) ck_E0) ck_X0 ck_l0 p33x_2330_e
set_option maxRecDepth 100000 in
def p33x_2332 : ck_Sum := ((0, 0, 0), 245, [.inr (.inr (.inl 1)), .inl (ck_one 21)], ([], [], []), ([], []), [(.inr none, 245, ([], [], []))])
set_option maxRecDepth 100000 in
theorem p33x_2332_e : ck_ok p1_O none [] [] 214 [] 84 p33x_2332 = true := by decide +kernel
theorem p33x_2332_s {X : Int → Int} {LX : Nat} : ck_Ok p1_O X LX 214 p33x_2332 := ck_ok_s (ck_E0) ck_X0 ck_l0 p33x_2332_e
set_option maxRecDepth 100000 in
def p33x_2333 : ck_Sum := ((1, 0, 0), 245, [.inr (.inr (.inl 222)), .inl (ck_one 21)], ([], [], [(222, 0, 0, ck_one 30), (223, 0, 179, ck_one 0)]), ([(222, 3, 3), (223, 0, 179)], []), [(.inr none, 245, ([], [], [(222, 3, 3, ck_one 21), (223, 0, 179, ck_one 0)]))])
set_option maxRecDepth 100000 in
theorem p33x_2333_e : ck_ok p1_O none [] [(8, [p33x_149])] 25 [] 96 p33x_2333 = true := by decide +kernel
theorem p33x_2333_s {X : Int → Int} {LX : Nat} : ck_Ok p1_O X LX 25 p33x_2333 := ck_ok_s (ck_E1 (ck_S1 p33x_149_s ck_S0) ck_E0) ck_X0 ck_l0 p33x_2333_e
set_option maxRecDepth 100000 in
def p33x_2334 : ck_Sum := ((2, 0, 0), 245, [.inr (.inr (.inl 1)), .inl (ck_one 21)], ([], [], [(220, 3, 3, ck_one 0), (222, 0, 0, ck_one 30), (222, 3, 3, ck_one 0), (223, 0, 179, ck_one 0)]), ([(222, 3, 3), (223, 0, 179)], []), [(.inr none, 245, ([], [], [(222, 3, 3, ck_one 21), (223, 0, 179, ck_one 0)]))])
set_option maxRecDepth 100000 in
theorem p33x_2334_e : ck_ok p1_O none [] [(25, [p33x_2333]), (9, [p33x_147])] 215 [(10, [some (.inr (.inr (.inl 1))), some (.inl (ck_one 21)), some (.inl (ck_one 0)), none, none], ([], [], [(222, 3, 3, ck_one 21), (223, 0, 179, ck_one 0), (220, 3, 3, ck_one 0), (222, 0, 0, ck_one 30)]), 100, .inl 2, true)] 118 p33x_2334 = true := by decide +kernel
theorem p33x_2334_s {X : Int → Int} {LX : Nat} : ck_Ok p1_O X LX 215 p33x_2334 := ck_ok_s (ck_E1 (ck_S1 p33x_2333_s ck_S0) (ck_E1 (ck_S1 p33x_147_s ck_S0) ck_E0)) ck_X0 ck_l0 p33x_2334_e
set_option maxRecDepth 100000 in
def p33x_2335 : ck_Sum := ((1, 0, 0), 245, [.inr (.inr (.inl 224)), .inl (ck_one 22)], ([], [], [(224, 0, 0, ck_one 31), (225, 0, 185, ck_one 0)]), ([(224, 3, 3), (225, 0, 185)], []), [(.inr none, 245, ([], [], [(224, 3, 3, ck_one 22), (225, 0, 185, ck_one 0)]))])
set_option maxRecDepth 100000 in
theorem p33x_2335_e : ck_ok p1_O none [] [(8, [p33x_152])] 25 [] 96 p33x_2335 = true := by decide +kernel
theorem p33x_2335_s {X : Int → Int} {LX : Nat} : ck_Ok p1_O X LX 25 p33x_2335 := ck_ok_s (ck_E1 (ck_S1 p33x_152_s ck_S0) ck_E0) ck_X0 ck_l0 p33x_2335_e
set_option maxRecDepth 100000 in
def p33x_2444 : ck_Sum := ((0, 0, 0), 245, [.inr (.inr (.inl 222)), .inl (0, 20, none), .inl (0, 2, none)], ([], [], [(222, 3, 3, ck_one 21), (223, 0, 179, ck_one 0), (222, 1, 1, ck_one 6)]), ([], []), [(.inr (some (.inl (ck_one 0))), 245, ([], [], []))])
set_option maxRecDepth 100000 in
theorem p33x_2444_e : ck_ok p1_O none [] [] 10 [] 114 p33x_2444 = true := by decide +kernel
theorem p33x_2444_s {X : Int → Int} {LX : Nat} : ck_Ok p1_O X LX 10 p33x_2444 := ck_ok_s (ck_E0) ck_X0 ck_l0 p33x_2444_e
set_option maxRecDepth 100000 in
def p33x_2452 : ck_Sum := ((0, 0, 0), 245, [.inr (.inr (.inl 224)), .inl (ck_one 0), .inl (1, 2, none)], ([], [], [(224, 3, 3, ck_one 22), (225, 0, 185, ck_one 0), (224, 1, 1, ck_one 6)]), ([], []), [(.inr (some (.inl (ck_one 0))), 245, ([], [], []))])
set_option maxRecDepth 100000 in
theorem p33x_2452_e : ck_ok p1_O none [] [] 10 [] 114 p33x_2452 = true := by decide +kernel
theorem p33x_2452_s {X : Int → Int} {LX : Nat} : ck_Ok p1_O X LX 10 p33x_2452 := ck_ok_s (ck_E0) ck_X0 ck_l0 p33x_2452_e
set_option maxRecDepth 100000 in
def p33x_2451 : ck_Sum := ((0, 0, 0), 245, [.inr (.inr (.inl 224)), .inl (ck_one 0), .inl (ck_one 0)], ([], [], [(224, 3, 3, ck_one 22), (225, 0, 185, ck_one 0), (224, 1, 1, ck_one 6)]), ([], []), [(.inr (some (.inl (ck_one 0))), 245, ([], [], []))])
set_option maxRecDepth 100000 in
theorem p33x_2451_e : ck_ok p1_O none [] [] 10 [] 114 p33x_2451 = true := by decide +kernel
theorem p33x_2451_s {X : Int → Int} {LX : Nat} : ck_Ok p1_O X LX 10 p33x_2451 := ck_ok_s (ck_E0) ck_X0 ck_l0 p33x_2451_e
set_option maxRecDepth 100000 in
def p33x_2445 : ck_Sum := ((0, 0, 0), 245, [.inr (.inr (.inl 224)), .inl (1, 21, none), .inl ((-1), 1, none)], ([], [], [(224, 3, 3, ck_one 22), (225, 0, 185, ck_one 0), (224, 1, 1, ck_one 6)]), ([], []), [(.inr (some (.inl (ck_one (-1)))), 245, ([], [], [])), (.inr (some (.inl (ck_one 0))), 245, ([], [], []))])
set_option maxRecDepth 100000 in
theorem p33x_2445_e : ck_ok p1_O none [] [] 10 [] 114 p33x_2445 = true := by decide +kernel
theorem p33x_2445_s {X : Int → Int} {LX : Nat} : ck_Ok p1_O X LX 10 p33x_2445 := ck_ok_s (ck_E0) ck_X0 ck_l0 p33x_2445_e
set_option maxRecDepth 100000 in
def p33x_2446 : ck_Sum := ((0, 0, 0), 245, [.inr (.inr (.inl 224)), .inl (1, 21, none), .inl (1, 3, none)], ([], [], [(224, 3, 3, ck_one 22), (225, 0, 185, ck_one 0), (224, 1, 1, ck_one 6)]), ([], []), [(.inr (some (.inl (ck_one 0))), 245, ([], [], []))])
set_option maxRecDepth 100000 in
theorem p33x_2446_e : ck_ok p1_O none [] [] 10 [] 114 p33x_2446 = true := by decide +kernel
theorem p33x_2446_s {X : Int → Int} {LX : Nat} : ck_Ok p1_O X LX 10 p33x_2446 := ck_ok_s (ck_E0) ck_X0 ck_l0 p33x_2446_e
set_option maxRecDepth 100000 in
def p33x_2447 : ck_Sum := ((0, 0, 0), 245, [.inr (.inr (.inl 224)), .inl (1, 21, none), .inl (0, 2, none)], ([], [], [(224, 3, 3, ck_one 22), (225, 0, 185, ck_one 0), (224, 1, 1, ck_one 6)]), ([], []), [(.inr (some (.inl (ck_one 0))), 245, ([], [], []))])
set_option maxRecDepth 100000 in
theorem p33x_2447_e : ck_ok p1_O none [] [] 10 [] 114 p33x_2447 = true := by decide +kernel
theorem p33x_2447_s {X : Int → Int} {LX : Nat} : ck_Ok p1_O X LX 10 p33x_2447 := ck_ok_s (ck_E0) ck_X0 ck_l0 p33x_2447_e
set_option maxRecDepth 100000 in
def p33x_2448 : ck_Sum := ((1, 0, 0), 245, [.inr (.inr (.inl 1)), .inl (1, 21, none), .inl (0, 2, none)], ([], [], [(224, 3, 3, ck_one 22), (225, 0, 185, ck_one 0), (224, 1, 1, ck_one 6)]), ([], []), [(.inr (some (.inl (ck_one 0))), 245, ([], [], []))])
set_option maxRecDepth 100000 in
theorem p33x_2448_e : ck_ok p1_O none [] [(10, [p33x_2445, p33x_2446, p33x_2447])] 216 [] 118 p33x_2448 = true := by decide +kernel
theorem p33x_2448_s {X : Int → Int} {LX : Nat} : ck_Ok p1_O X LX 216 p33x_2448 := ck_ok_s (ck_E1 (ck_S1 p33x_2445_s (ck_S1 p33x_2446_s (ck_S1 p33x_2447_s ck_S0))) ck_E0) ck_X0 ck_l0 p33x_2448_e
set_option maxRecDepth 100000 in
def p33x_2449 : ck_Sum := ((0, 0, 0), 245, [.inr (.inr (.inl 224)), .inl (0, 20, none), .inl (0, 2, none), .inl (ck_one 0)], ([], [], [(224, 3, 3, ck_one 22), (225, 0, 185, ck_one 0), (224, 1, 1, ck_one 6)]), ([(225, 0, 122)], []), [(.inr none, 245, ([], [], [(225, 0, 185, ck_one 0)]))])
set_option maxRecDepth 100000 in
theorem p33x_2449_e : ck_ok p1_O none [] [] 45 [] 116 p33x_2449 = true := by decide +kernel
theorem p33x_2449_s {X : Int → Int} {LX : Nat} : ck_Ok p1_O X LX 45 p33x_2449 := ck_ok_s (ck_E0) ck_X0 ck_l0 p33x_2449_e
set_option maxRecDepth 100000 in
def p33x_2453 : ck_Sum := ((3, 0, 0), 245, [.inr (.inr (.inl 1)), .inl (ck_one 21), .inl (ck_one 1)], ([], [], [(224, 1, 1, ck_one 6), (224, 0, 0, ck_one 31), (224, 3, 3, ck_one 0), (222, 1, 1, ck_one 6), (222, 0, 0, ck_one 30), (222, 3, 3, ck_one 0), (1, 15, 15, ck_one 0), (220, 0, 0, ck_one 24), (220, 3, 3, ck_one 0), (10, 3, 3, ck_one 0), (3, 0, 0, ck_one 3), (223, 0, 179, ck_one 0), (225, 0, 185, ck_one 0)]), ([(1, 15, 15), (220, 3, 3), (221, 0, 47), (222, 3, 3), (223, 0, 179), (224, 3, 3), (225, 0, 185)], []), [(.inr (some (.inl (ck_one 0))), 245, ([], [], [(224, 3, 3, ck_one 22), (222, 3, 3, ck_one 21), (1, 15, 15, ck_one 1), (220, 3, 3, ck_one 0), (223, 0, 179, ck_one 0), (225, 0, 185, ck_one 0)]))])
set_option maxRecDepth 100000 in
theorem p33x_2453_e : ck_ok p1_O none [] [(214, [p33x_2332]), (24, [p33x_148]), (215, [p33x_2334]), (25, [p33x_2335]), (10, [p33x_2444, p33x_2452, p33x_2451]), (216, [p33x_2448]), (45, [p33x_2449])] 213 [(28, [some (.inr (.inr (.inl 1))), some (.inl (ck_one 21)), some (.inl (ck_one 1)), some (.inl ((-1), 20, none)), none], ([], [], [(224, 3, 3, ck_one 22), (225, 0, 185, ck_one 0), (222, 3, 3, ck_one 21), (223, 0, 179, ck_one 0), (1, 15, 15, ck_one 1), (220, 3, 3, ck_one 0), (224, 1, 1, ck_one 6), (224, 0, 0, ck_one 31), (222, 1, 1, ck_one 6), (222, 0, 0, ck_one 30), (220, 0, 0, ck_one 24), (10, 3, 3, ck_one 0), (3, 0, 0, ck_one 3)]), 100, .inl 3, false), (35, [some (.inr (.inr (.inl 1))), some (.inl (ck_one 21)), some (.inl (ck_one 1)), some (.inl (0, 20, some (100, 0))), some (.inl (0, 3, none))], ([], [], [(224, 3, 3, ck_one 22), (225, 0, 185, ck_one 0), (222, 3, 3, ck_one 21), (223, 0, 179, ck_one 0), (1, 15, 15, ck_one 1), (220, 3, 3, ck_one 0), (224, 1, 1, ck_one 6), (224, 0, 0, ck_one 31), (222, 1, 1, ck_one 6), (222, 0, 0, ck_one 30), (220, 0, 0, ck_one 24), (10, 3, 3, ck_one 0), (3, 0, 0, ck_one 3)]), 300, .inl 4, true), (94, [some (.inr (.inr (.inl 1))), some (.inl (ck_one 21)), some (.inl (ck_one 1)), some (.inl (ck_one 0)), some (.inl (1, 3, none))], ([], [], [(224, 3, 3, ck_one 22), (225, 0, 185, ck_one 0), (222, 3, 3, ck_one 21), (223, 0, 179, ck_one 0), (1, 15, 15, ck_one 1), (220, 3, 3, ck_one 0), (224, 1, 1, ck_one 6), (224, 0, 0, ck_one 31), (222, 1, 1, ck_one 6), (222, 0, 0, ck_one 30), (220, 0, 0, ck_one 24), (10, 3, 3, ck_one 0), (3, 0, 0, ck_one 3)]), 500, .inl 4, true)] 330 p33x_2453 = true := by decide +kernel
theorem p33x_2453_s {X : Int → Int} {LX : Nat} : ck_Ok p1_O X LX 213 p33x_2453 := ck_ok_s (ck_E1 (ck_S1 p33x_2332_s ck_S0) (ck_E1 (ck_S1 p33x_148_s ck_S0) (ck_E1 (ck_S1 p33x_2334_s ck_S0) (ck_E1 (ck_S1 p33x_2335_s ck_S0) (ck_E1 (ck_S1 p33x_2444_s (ck_S1 p33x_2452_s (ck_S1 p33x_2451_s ck_S0))) (ck_E1 (ck_S1 p33x_2448_s ck_S0) (ck_E1 (ck_S1 p33x_2449_s ck_S0) ck_E0))))))) ck_X0 ck_l0 p33x_2453_e
set_option maxRecDepth 100000 in
def p33x_2454 : ck_Sum := ((4, 0, 0), 245, [.inr (.inr (.inl 1)), .inl (ck_one 21), .inl (ck_one 1), .inr (.inr (.inl 245))], ([], [], [(224, 1, 1, ck_one 6), (224, 0, 0, ck_one 31), (224, 3, 3, ck_one 0), (222, 1, 1, ck_one 6), (222, 0, 0, ck_one 30), (222, 3, 3, ck_one 0), (1, 15, 15, ck_one 0), (220, 0, 0, ck_one 24), (220, 3, 3, ck_one 0), (10, 3, 3, ck_one 0), (3, 0, 0, ck_one 3), (223, 0, 179, ck_one 0), (225, 0, 185, ck_one 0)]), ([(1, 15, 15), (220, 3, 3), (221, 0, 47), (222, 3, 3), (223, 0, 179), (224, 3, 3), (225, 0, 185), (245, 0, 0)], []), [(.inr (some (.inl (ck_one 0))), 245, ([], [], [(245, 0, 0, ck_one 0), (224, 3, 3, ck_one 22), (222, 3, 3, ck_one 21), (1, 15, 15, ck_one 1), (220, 3, 3, ck_one 0), (223, 0, 179, ck_one 0), (225, 0, 185, ck_one 0)]))])
set_option maxRecDepth 100000 in
theorem p33x_2454_e : ck_ok p1_O none [] [(213, [p33x_2453])] 212 [] 92 p33x_2454 = true := by decide +kernel
theorem p33x_2454_s {X : Int → Int} {LX : Nat} : ck_Ok p1_O X LX 212 p33x_2454 := ck_ok_s (ck_E1 (ck_S1 p33x_2453_s ck_S0) ck_E0) ck_X0 ck_l0 p33x_2454_e
set_option maxRecDepth 100000 in
def p33x_2493 : ck_Sum := ((3, 0, 0), 245, [.inr (.inr (.inl 1)), .inl (ck_one 21), .inl (ck_one 0)], ([], [], [(224, 1, 1, ck_one 6), (224, 0, 0, ck_one 31), (224, 3, 3, ck_one 0), (222, 1, 1, ck_one 6), (222, 0, 0, ck_one 30), (222, 3, 3, ck_one 0), (1, 15, 15, ck_one 0), (220, 0, 0, ck_one 24), (220, 3, 3, ck_one 0), (10, 3, 3, ck_one 0), (3, 0, 0, ck_one 3), (223, 0, 179, ck_one 0), (225, 0, 185, ck_one 0)]), ([(1, 15, 15), (220, 3, 3), (221, 0, 47), (222, 3, 3), (223, 0, 179), (224, 3, 3), (225, 0, 185)], []), [(.inr (some (.inl (ck_one 0))), 245, ([], [], [(224, 3, 3, ck_one 22), (222, 3, 3, ck_one 21), (1, 15, 15, ck_one 1), (220, 3, 3, ck_one 0), (223, 0, 179, ck_one 0), (225, 0, 185, ck_one 0)]))])
set_option maxRecDepth 100000 in
theorem p33x_2493_e : ck_ok p1_O none [] [(214, [p33x_2332]), (24, [p33x_148]), (215, [p33x_2334]), (25, [p33x_2335]), (10, [p33x_2444, p33x_2451, p33x_2452]), (216, [p33x_2448]), (45, [p33x_2449])] 213 [(28, [some (.inr (.inr (.inl 1))), some (.inl (ck_one 21)), some (.inl (ck_one 0)), some (.inl ((-1), 20, none)), none], ([], [], [(224, 3, 3, ck_one 22), (225, 0, 185, ck_one 0), (222, 3, 3, ck_one 21), (223, 0, 179, ck_one 0), (1, 15, 15, ck_one 1), (220, 3, 3, ck_one 0), (224, 1, 1, ck_one 6), (224, 0, 0, ck_one 31), (222, 1, 1, ck_one 6), (222, 0, 0, ck_one 30), (220, 0, 0, ck_one 24), (10, 3, 3, ck_one 0), (3, 0, 0, ck_one 3)]), 100, .inl 3, false), (35, [some (.inr (.inr (.inl 1))), some (.inl (ck_one 21)), some (.inl (ck_one 0)), some (.inl (0, 20, some (100, 0))), some (.inl (0, 3, none))], ([], [], [(224, 3, 3, ck_one 22), (225, 0, 185, ck_one 0), (222, 3, 3, ck_one 21), (223, 0, 179, ck_one 0), (1, 15, 15, ck_one 1), (220, 3, 3, ck_one 0), (224, 1, 1, ck_one 6), (224, 0, 0, ck_one 31), (222, 1, 1, ck_one 6), (222, 0, 0, ck_one 30), (220, 0, 0, ck_one 24), (10, 3, 3, ck_one 0), (3, 0, 0, ck_one 3)]), 300, .inl 4, true), (94, [some (.inr (.inr (.inl 1))), some (.inl (ck_one 21)), some (.inl (ck_one 0)), some (.inl (ck_one 0)), some (.inl (1, 3, none))], ([], [], [(224, 3, 3, ck_one 22), (225, 0, 185, ck_one 0), (222, 3, 3, ck_one 21), (223, 0, 179, ck_one 0), (1, 15, 15, ck_one 1), (220, 3, 3, ck_one 0), (224, 1, 1, ck_one 6), (224, 0, 0, ck_one 31), (222, 1, 1, ck_one 6), (222, 0, 0, ck_one 30), (220, 0, 0, ck_one 24), (10, 3, 3, ck_one 0), (3, 0, 0, ck_one 3)]), 500, .inl 4, true)] 330 p33x_2493 = true := by decide +kernel
theorem p33x_2493_s {X : Int → Int} {LX : Nat} : ck_Ok p1_O X LX 213 p33x_2493 := ck_ok_s (ck_E1 (ck_S1 p33x_2332_s ck_S0) (ck_E1 (ck_S1 p33x_148_s ck_S0) (ck_E1 (ck_S1 p33x_2334_s ck_S0) (ck_E1 (ck_S1 p33x_2335_s ck_S0) (ck_E1 (ck_S1 p33x_2444_s (ck_S1 p33x_2451_s (ck_S1 p33x_2452_s ck_S0))) (ck_E1 (ck_S1 p33x_2448_s ck_S0) (ck_E1 (ck_S1 p33x_2449_s ck_S0) ck_E0))))))) ck_X0 ck_l0 p33x_2493_e
set_option maxRecDepth 100000 in
def p33x_2494 : ck_Sum := ((4, 0, 0), 245, [.inr (.inr (.inl 1)), .inl (ck_one 21), .inl (ck_one 0), .inr (.inr (.inl 245))], ([], [], [(224, 1, 1, ck_one 6), (224, 0, 0, ck_one 31), (224, 3, 3, ck_one 0), (222, 1, 1, ck_one 6), (222, 0, 0, ck_one 30), (222, 3, 3, ck_one 0), (1, 15, 15, ck_one 0), (220, 0, 0, ck_one 24), (220, 3, 3, ck_one 0), (10, 3, 3, ck_one 0), (3, 0, 0, ck_one 3), (223, 0, 179, ck_one 0), (225, 0, 185, ck_one 0)]), ([(1, 15, 15), (220, 3, 3), (221, 0, 47), (222, 3, 3), (223, 0, 179), (224, 3, 3), (225, 0, 185), (245, 0, 0)], []), [(.inr (some (.inl (ck_one 0))), 245, ([], [], [(245, 0, 0, ck_one 0), (224, 3, 3, ck_one 22), (222, 3, 3, ck_one 21), (1, 15, 15, ck_one 1), (220, 3, 3, ck_one 0), (223, 0, 179, ck_one 0), (225, 0, 185, ck_one 0)]))])
set_option maxRecDepth 100000 in
theorem p33x_2494_e : ck_ok p1_O none [] [(213, [p33x_2493])] 212 [] 92 p33x_2494 = true := by decide +kernel
theorem p33x_2494_s {X : Int → Int} {LX : Nat} : ck_Ok p1_O X LX 212 p33x_2494 := ck_ok_s (ck_E1 (ck_S1 p33x_2493_s ck_S0) ck_E0) ck_X0 ck_l0 p33x_2494_e
set_option maxRecDepth 100000 in
def p33x_2496 : ck_Sum := ((0, 0, 0), 245, [.inr (.inr (.inl 1)), .inl (ck_one 22)], ([], [], []), ([], []), [(.inr none, 245, ([], [], []))])
set_option maxRecDepth 100000 in
theorem p33x_2496_e : ck_ok p1_O none [] [] 214 [] 84 p33x_2496 = true := by decide +kernel
theorem p33x_2496_s {X : Int → Int} {LX : Nat} : ck_Ok p1_O X LX 214 p33x_2496 := ck_ok_s (ck_E0) ck_X0 ck_l0 p33x_2496_e
set_option maxRecDepth 100000 in
def p33x_2497 : ck_Sum := ((1, 0, 0), 245, [.inr (.inr (.inl 222)), .inl (ck_one 22)], ([], [], [(222, 0, 0, ck_one 30), (223, 0, 179, ck_one 0)]), ([(222, 3, 3), (223, 0, 179)], []), [(.inr none, 245, ([], [], [(222, 3, 3, ck_one 22), (223, 0, 179, ck_one 0)]))])
set_option maxRecDepth 100000 in
theorem p33x_2497_e : ck_ok p1_O none [] [(8, [p33x_149])] 25 [] 96 p33x_2497 = true := by decide +kernel
theorem p33x_2497_s {X : Int → Int} {LX : Nat} : ck_Ok p1_O X LX 25 p33x_2497 := ck_ok_s (ck_E1 (ck_S1 p33x_149_s ck_S0) ck_E0) ck_X0 ck_l0 p33x_2497_e
set_option maxRecDepth 100000 in
def p33x_2498 : ck_Sum := ((2, 0, 0), 245, [.inr (.inr (.inl 1)), .inl (ck_one 22)], ([], [], [(220, 3, 3, ck_one 0), (222, 0, 0, ck_one 30), (222, 3, 3, ck_one 0), (223, 0, 179, ck_one 0)]), ([(222, 3, 3), (223, 0, 179)], []), [(.inr none, 245, ([], [], [(222, 3, 3, ck_one 22), (223, 0, 179, ck_one 0)]))])
set_option maxRecDepth 100000 in
theorem p33x_2498_e : ck_ok p1_O none [] [(25, [p33x_2497]), (9, [p33x_147])] 215 [(10, [some (.inr (.inr (.inl 1))), some (.inl (ck_one 22)), some (.inl (ck_one 0)), none, none], ([], [], [(222, 3, 3, ck_one 22), (223, 0, 179, ck_one 0), (220, 3, 3, ck_one 0), (222, 0, 0, ck_one 30)]), 100, .inl 2, true)] 118 p33x_2498 = true := by decide +kernel
theorem p33x_2498_s {X : Int → Int} {LX : Nat} : ck_Ok p1_O X LX 215 p33x_2498 := ck_ok_s (ck_E1 (ck_S1 p33x_2497_s ck_S0) (ck_E1 (ck_S1 p33x_147_s ck_S0) ck_E0)) ck_X0 ck_l0 p33x_2498_e
set_option maxRecDepth 100000 in
def p33x_2499 : ck_Sum := ((1, 0, 0), 245, [.inr (.inr (.inl 224)), .inl (ck_one 23)], ([], [], [(224, 0, 0, ck_one 31), (225, 0, 185, ck_one 0)]), ([(224, 3, 3), (225, 0, 185)], []), [(.inr none, 245, ([], [], [(224, 3, 3, ck_one 23), (225, 0, 185, ck_one 0)]))])
set_option maxRecDepth 100000 in
theorem p33x_2499_e : ck_ok p1_O none [] [(8, [p33x_152])] 25 [] 96 p33x_2499 = true := by decide +kernel
theorem p33x_2499_s {X : Int → Int} {LX : Nat} : ck_Ok p1_O X LX 25 p33x_2499 := ck_ok_s (ck_E1 (ck_S1 p33x_152_s ck_S0) ck_E0) ck_X0 ck_l0 p33x_2499_e
set_option maxRecDepth 100000 in
def p33x_2608 : ck_Sum := ((0, 0, 0), 245, [.inr (.inr (.inl 222)), .inl (0, 21, none), .inl (0, 2, none)], ([], [], [(222, 3, 3, ck_one 22), (223, 0, 179, ck_one 0), (222, 1, 1, ck_one 6)]), ([], []), [(.inr (some (.inl (ck_one 0))), 245, ([], [], []))])
set_option maxRecDepth 100000 in
theorem p33x_2608_e : ck_ok p1_O none [] [] 10 [] 114 p33x_2608 = true := by decide +kernel
theorem p33x_2608_s {X : Int → Int} {LX : Nat} : ck_Ok p1_O X LX 10 p33x_2608 := ck_ok_s (ck_E0) ck_X0 ck_l0 p33x_2608_e
set_option maxRecDepth 100000 in
def p33x_2616 : ck_Sum := ((0, 0, 0), 245, [.inr (.inr (.inl 224)), .inl (ck_one 0), .inl (1, 2, none)], ([], [], [(224, 3, 3, ck_one 23), (225, 0, 185, ck_one 0), (224, 1, 1, ck_one 6)]), ([], []), [(.inr (some (.inl (ck_one 0))), 245, ([], [], []))])
set_option maxRecDepth 100000 in
theorem p33x_2616_e : ck_ok p1_O none [] [] 10 [] 114 p33x_2616 = true := by decide +kernel
theorem p33x_2616_s {X : Int → Int} {LX : Nat} : ck_Ok p1_O X LX 10 p33x_2616 := ck_ok_s (ck_E0) ck_X0 ck_l0 p33x_2616_e
set_option maxRecDepth 100000 in
def p33x_2615 : ck_Sum := ((0, 0, 0), 245, [.inr (.inr (.inl 224)), .inl (ck_one 0), .inl (ck_one 0)], ([], [], [(224, 3, 3, ck_one 23), (225, 0, 185, ck_one 0), (224, 1, 1, ck_one 6)]), ([], []), [(.inr (some (.inl (ck_one 0))), 245, ([], [], []))])
set_option maxRecDepth 100000 in
theorem p33x_2615_e : ck_ok p1_O none [] [] 10 [] 114 p33x_2615 = true := by decide +kernel
theorem p33x_2615_s {X : Int → Int} {LX : Nat} : ck_Ok p1_O X LX 10 p33x_2615 := ck_ok_s (ck_E0) ck_X0 ck_l0 p33x_2615_e
set_option maxRecDepth 100000 in
def p33x_2609 : ck_Sum := ((0, 0, 0), 245, [.inr (.inr (.inl 224)), .inl (1, 22, none), .inl ((-1), 1, none)], ([], [], [(224, 3, 3, ck_one 23), (225, 0, 185, ck_one 0), (224, 1, 1, ck_one 6)]), ([], []), [(.inr (some (.inl (ck_one (-1)))), 245, ([], [], [])), (.inr (some (.inl (ck_one 0))), 245, ([], [], []))])
set_option maxRecDepth 100000 in
theorem p33x_2609_e : ck_ok p1_O none [] [] 10 [] 114 p33x_2609 = true := by decide +kernel
theorem p33x_2609_s {X : Int → Int} {LX : Nat} : ck_Ok p1_O X LX 10 p33x_2609 := ck_ok_s (ck_E0) ck_X0 ck_l0 p33x_2609_e
set_option maxRecDepth 100000 in
def p33x_2610 : ck_Sum := ((0, 0, 0), 245, [.inr (.inr (.inl 224)), .inl (1, 22, none), .inl (1, 3, none)], ([], [], [(224, 3, 3, ck_one 23), (225, 0, 185, ck_one 0), (224, 1, 1, ck_one 6)]), ([], []), [(.inr (some (.inl (ck_one 0))), 245, ([], [], []))])
set_option maxRecDepth 100000 in
theorem p33x_2610_e : ck_ok p1_O none [] [] 10 [] 114 p33x_2610 = true := by decide +kernel
theorem p33x_2610_s {X : Int → Int} {LX : Nat} : ck_Ok p1_O X LX 10 p33x_2610 := ck_ok_s (ck_E0) ck_X0 ck_l0 p33x_2610_e
set_option maxRecDepth 100000 in
def p33x_2611 : ck_Sum := ((0, 0, 0), 245, [.inr (.inr (.inl 224)), .inl (1, 22, none), .inl (0, 2, none)], ([], [], [(224, 3, 3, ck_one 23), (225, 0, 185, ck_one 0), (224, 1, 1, ck_one 6)]), ([], []), [(.inr (some (.inl (ck_one 0))), 245, ([], [], []))])
set_option maxRecDepth 100000 in
theorem p33x_2611_e : ck_ok p1_O none [] [] 10 [] 114 p33x_2611 = true := by decide +kernel
theorem p33x_2611_s {X : Int → Int} {LX : Nat} : ck_Ok p1_O X LX 10 p33x_2611 := ck_ok_s (ck_E0) ck_X0 ck_l0 p33x_2611_e
set_option maxRecDepth 100000 in
def p33x_2612 : ck_Sum := ((1, 0, 0), 245, [.inr (.inr (.inl 1)), .inl (1, 22, none), .inl (0, 2, none)], ([], [], [(224, 3, 3, ck_one 23), (225, 0, 185, ck_one 0), (224, 1, 1, ck_one 6)]), ([], []), [(.inr (some (.inl (ck_one 0))), 245, ([], [], []))])
set_option maxRecDepth 100000 in
theorem p33x_2612_e : ck_ok p1_O none [] [(10, [p33x_2609, p33x_2610, p33x_2611])] 216 [] 118 p33x_2612 = true := by decide +kernel
theorem p33x_2612_s {X : Int → Int} {LX : Nat} : ck_Ok p1_O X LX 216 p33x_2612 := ck_ok_s (ck_E1 (ck_S1 p33x_2609_s (ck_S1 p33x_2610_s (ck_S1 p33x_2611_s ck_S0))) ck_E0) ck_X0 ck_l0 p33x_2612_e
set_option maxRecDepth 100000 in
def p33x_2613 : ck_Sum := ((0, 0, 0), 245, [.inr (.inr (.inl 224)), .inl (0, 21, none), .inl (0, 2, none), .inl (ck_one 0)], ([], [], [(224, 3, 3, ck_one 23), (225, 0, 185, ck_one 0), (224, 1, 1, ck_one 6)]), ([(225, 0, 128)], []), [(.inr none, 245, ([], [], [(225, 0, 185, ck_one 0)]))])
set_option maxRecDepth 100000 in
theorem p33x_2613_e : ck_ok p1_O none [] [] 45 [] 116 p33x_2613 = true := by decide +kernel
theorem p33x_2613_s {X : Int → Int} {LX : Nat} : ck_Ok p1_O X LX 45 p33x_2613 := ck_ok_s (ck_E0) ck_X0 ck_l0 p33x_2613_e
set_option maxRecDepth 100000 in
def p33x_2617 : ck_Sum := ((3, 0, 0), 245, [.inr (.inr (.inl 1)), .inl (ck_one 22), .inl (ck_one 1)], ([], [], [(224, 1, 1, ck_one 6), (224, 0, 0, ck_one 31), (224, 3, 3, ck_one 0), (222, 1, 1, ck_one 6), (222, 0, 0, ck_one 30), (222, 3, 3, ck_one 0), (1, 15, 15, ck_one 0), (220, 0, 0, ck_one 24), (220, 3, 3, ck_one 0), (10, 3, 3, ck_one 0), (3, 0, 0, ck_one 3), (223, 0, 179, ck_one 0), (225, 0, 185, ck_one 0)]), ([(1, 15, 15), (220, 3, 3), (221, 0, 47), (222, 3, 3), (223, 0, 179), (224, 3, 3), (225, 0, 185)], []), [(.inr (some (.inl (ck_one 0))), 245, ([], [], [(224, 3, 3, ck_one 23), (222, 3, 3, ck_one 22), (1, 15, 15, ck_one 1), (220, 3, 3, ck_one 0), (223, 0, 179, ck_one 0), (225, 0, 185, ck_one 0)]))])
set_option maxRecDepth 100000 in
theorem p33x_2617_e : ck_ok p1_O none [] [(214, [p33x_2496]), (24, [p33x_148]), (215, [p33x_2498]), (25, [p33x_2499]), (10, [p33x_2608, p33x_2616, p33x_2615]), (216, [p33x_2612]), (45, [p33x_2613])] 213 [(28, [some (.inr (.inr (.inl 1))), some (.inl (ck_one 22)), some (.inl (ck_one 1)), some (.inl ((-1), 21, none)), none], ([], [], [(224, 3, 3, ck_one 23), (225, 0, 185, ck_one 0), (222, 3, 3, ck_one 22), (223, 0, 179, ck_one 0), (1, 15, 15, ck_one 1), (220, 3, 3, ck_one 0), (224, 1, 1, ck_one 6), (224, 0, 0, ck_one 31), (222, 1, 1, ck_one 6), (222, 0, 0, ck_one 30), (220, 0, 0, ck_one 24), (10, 3, 3, ck_one 0), (3, 0, 0, ck_one 3)]), 100, .inl 3, false), (35, [some (.inr (.inr (.inl 1))), some (.inl (ck_one 22)), some (.inl (ck_one 1)), some (.inl (0, 21, some (100, 0))), some (.inl (0, 3, none))], ([], [], [(224, 3, 3, ck_one 23), (225, 0, 185, ck_one 0), (222, 3, 3, ck_one 22), (223, 0, 179, ck_one 0), (1, 15, 15, ck_one 1), (220, 3, 3, ck_one 0), (224, 1, 1, ck_one 6), (224, 0, 0, ck_one 31), (222, 1, 1, ck_one 6), (222, 0, 0, ck_one 30), (220, 0, 0, ck_one 24), (10, 3, 3, ck_one 0), (3, 0, 0, ck_one 3)]), 300, .inl 4, true), (94, [some (.inr (.inr (.inl 1))), some (.inl (ck_one 22)), some (.inl (ck_one 1)), some (.inl (ck_one 0)), some (.inl (1, 3, none))], ([], [], [(224, 3, 3, ck_one 23), (225, 0, 185, ck_one 0), (222, 3, 3, ck_one 22), (223, 0, 179, ck_one 0), (1, 15, 15, ck_one 1), (220, 3, 3, ck_one 0), (224, 1, 1, ck_one 6), (224, 0, 0, ck_one 31), (222, 1, 1, ck_one 6), (222, 0, 0, ck_one 30), (220, 0, 0, ck_one 24), (10, 3, 3, ck_one 0), (3, 0, 0, ck_one 3)]), 500, .inl 4, true)] 330 p33x_2617 = true := by decide +kernel
theorem p33x_2617_s {X : Int → Int} {LX : Nat} : ck_Ok p1_O X LX 213 p33x_2617 := ck_ok_s (ck_E1 (ck_S1 p33x_2496_s ck_S0) (ck_E1 (ck_S1 p33x_148_s ck_S0) (ck_E1 (ck_S1 p33x_2498_s ck_S0) (ck_E1 (ck_S1 p33x_2499_s ck_S0) (ck_E1 (ck_S1 p33x_2608_s (ck_S1 p33x_2616_s (ck_S1 p33x_2615_s ck_S0))) (ck_E1 (ck_S1 p33x_2612_s ck_S0) (ck_E1 (ck_S1 p33x_2613_s ck_S0) ck_E0))))))) ck_X0 ck_l0 p33x_2617_e
set_option maxRecDepth 100000 in
def p33x_2618 : ck_Sum := ((4, 0, 0), 245, [.inr (.inr (.inl 1)), .inl (ck_one 22), .inl (ck_one 1), .inr (.inr (.inl 245))], ([], [], [(224, 1, 1, ck_one 6), (224, 0, 0, ck_one 31), (224, 3, 3, ck_one 0), (222, 1, 1, ck_one 6), (222, 0, 0, ck_one 30), (222, 3, 3, ck_one 0), (1, 15, 15, ck_one 0), (220, 0, 0, ck_one 24), (220, 3, 3, ck_one 0), (10, 3, 3, ck_one 0), (3, 0, 0, ck_one 3), (223, 0, 179, ck_one 0), (225, 0, 185, ck_one 0)]), ([(1, 15, 15), (220, 3, 3), (221, 0, 47), (222, 3, 3), (223, 0, 179), (224, 3, 3), (225, 0, 185), (245, 0, 0)], []), [(.inr (some (.inl (ck_one 0))), 245, ([], [], [(245, 0, 0, ck_one 0), (224, 3, 3, ck_one 23), (222, 3, 3, ck_one 22), (1, 15, 15, ck_one 1), (220, 3, 3, ck_one 0), (223, 0, 179, ck_one 0), (225, 0, 185, ck_one 0)]))])
set_option maxRecDepth 100000 in
theorem p33x_2618_e : ck_ok p1_O none [] [(213, [p33x_2617])] 212 [] 92 p33x_2618 = true := by decide +kernel
theorem p33x_2618_s {X : Int → Int} {LX : Nat} : ck_Ok p1_O X LX 212 p33x_2618 := ck_ok_s (ck_E1 (ck_S1 p33x_2617_s ck_S0) ck_E0) ck_X0 ck_l0 p33x_2618_e
set_option maxRecDepth 100000 in
def p33x_2657 : ck_Sum := ((3, 0, 0), 245, [.inr (.inr (.inl 1)), .inl (ck_one 22), .inl (ck_one 0)], ([], [], [(224, 1, 1, ck_one 6), (224, 0, 0, ck_one 31), (224, 3, 3, ck_one 0), (222, 1, 1, ck_one 6), (222, 0, 0, ck_one 30), (222, 3, 3, ck_one 0), (1, 15, 15, ck_one 0), (220, 0, 0, ck_one 24), (220, 3, 3, ck_one 0), (10, 3, 3, ck_one 0), (3, 0, 0, ck_one 3), (223, 0, 179, ck_one 0), (225, 0, 185, ck_one 0)]), ([(1, 15, 15), (220, 3, 3), (221, 0, 47), (222, 3, 3), (223, 0, 179), (224, 3, 3), (225, 0, 185)], []), [(.inr (some (.inl (ck_one 0))), 245, ([], [], [(224, 3, 3, ck_one 23), (222, 3, 3, ck_one 22), (1, 15, 15, ck_one 1), (220, 3, 3, ck_one 0), (223, 0, 179, ck_one 0), (225, 0, 185, ck_one 0)]))])
set_option maxRecDepth 100000 in
theorem p33x_2657_e : ck_ok p1_O none [] [(214, [p33x_2496]), (24, [p33x_148]), (215, [p33x_2498]), (25, [p33x_2499]), (10, [p33x_2608, p33x_2615, p33x_2616]), (216, [p33x_2612]), (45, [p33x_2613])] 213 [(28, [some (.inr (.inr (.inl 1))), some (.inl (ck_one 22)), some (.inl (ck_one 0)), some (.inl ((-1), 21, none)), none], ([], [], [(224, 3, 3, ck_one 23), (225, 0, 185, ck_one 0), (222, 3, 3, ck_one 22), (223, 0, 179, ck_one 0), (1, 15, 15, ck_one 1), (220, 3, 3, ck_one 0), (224, 1, 1, ck_one 6), (224, 0, 0, ck_one 31), (222, 1, 1, ck_one 6), (222, 0, 0, ck_one 30), (220, 0, 0, ck_one 24), (10, 3, 3, ck_one 0), (3, 0, 0, ck_one 3)]), 100, .inl 3, false), (35, [some (.inr (.inr (.inl 1))), some (.inl (ck_one 22)), some (.inl (ck_one 0)), some (.inl (0, 21, some (100, 0))), some (.inl (0, 3, none))], ([], [], [(224, 3, 3, ck_one 23), (225, 0, 185, ck_one 0), (222, 3, 3, ck_one 22), (223, 0, 179, ck_one 0), (1, 15, 15, ck_one 1), (220, 3, 3, ck_one 0), (224, 1, 1, ck_one 6), (224, 0, 0, ck_one 31), (222, 1, 1, ck_one 6), (222, 0, 0, ck_one 30), (220, 0, 0, ck_one 24), (10, 3, 3, ck_one 0), (3, 0, 0, ck_one 3)]), 300, .inl 4, true), (94, [some (.inr (.inr (.inl 1))), some (.inl (ck_one 22)), some (.inl (ck_one 0)), some (.inl (ck_one 0)), some (.inl (1, 3, none))], ([], [], [(224, 3, 3, ck_one 23), (225, 0, 185, ck_one 0), (222, 3, 3, ck_one 22), (223, 0, 179, ck_one 0), (1, 15, 15, ck_one 1), (220, 3, 3, ck_one 0), (224, 1, 1, ck_one 6), (224, 0, 0, ck_one 31), (222, 1, 1, ck_one 6), (222, 0, 0, ck_one 30), (220, 0, 0, ck_one 24), (10, 3, 3, ck_one 0), (3, 0, 0, ck_one 3)]), 500, .inl 4, true)] 330 p33x_2657 = true := by decide +kernel
theorem p33x_2657_s {X : Int → Int} {LX : Nat} : ck_Ok p1_O X LX 213 p33x_2657 := ck_ok_s (ck_E1 (ck_S1 p33x_2496_s ck_S0) (ck_E1 (ck_S1 p33x_148_s ck_S0) (ck_E1 (ck_S1 p33x_2498_s ck_S0) (ck_E1 (ck_S1 p33x_2499_s ck_S0) (ck_E1 (ck_S1 p33x_2608_s (ck_S1 p33x_2615_s (ck_S1 p33x_2616_s ck_S0))) (ck_E1 (ck_S1 p33x_2612_s ck_S0) (ck_E1 (ck_S1 p33x_2613_s ck_S0) ck_E0))))))) ck_X0 ck_l0 p33x_2657_e
set_option maxRecDepth 100000 in
def p33x_2658 : ck_Sum := ((4, 0, 0), 245, [.inr (.inr (.inl 1)), .inl (ck_one 22), .inl (ck_one 0), .inr (.inr (.inl 245))], ([], [], [(224, 1, 1, ck_one 6), (224, 0, 0, ck_one 31), (224, 3, 3, ck_one 0), (222, 1, 1, ck_one 6), (222, 0, 0, ck_one 30), (222, 3, 3, ck_one 0), (1, 15, 15, ck_one 0), (220, 0, 0, ck_one 24), (220, 3, 3, ck_one 0), (10, 3, 3, ck_one 0), (3, 0, 0, ck_one 3), (223, 0, 179, ck_one 0), (225, 0, 185, ck_one 0)]), ([(1, 15, 15), (220, 3, 3), (221, 0, 47), (222, 3, 3), (223, 0, 179), (224, 3, 3), (225, 0, 185), (245, 0, 0)], []), [(.inr (some (.inl (ck_one 0))), 245, ([], [], [(245, 0, 0, ck_one 0), (224, 3, 3, ck_one 23), (222, 3, 3, ck_one 22), (1, 15, 15, ck_one 1), (220, 3, 3, ck_one 0), (223, 0, 179, ck_one 0), (225, 0, 185, ck_one 0)]))])
set_option maxRecDepth 100000 in
theorem p33x_2658_e : ck_ok p1_O none [] [(213, [p33x_2657])] 212 [] 92 p33x_2658 = true := by decide +kernel
theorem p33x_2658_s {X : Int → Int} {LX : Nat} : ck_Ok p1_O X LX 212 p33x_2658 := ck_ok_s (ck_E1 (ck_S1 p33x_2657_s ck_S0) ck_E0) ck_X0 ck_l0 p33x_2658_e
set_option maxRecDepth 100000 in
def p33x_2660 : ck_Sum := ((0, 0, 0), 245, [.inr (.inr (.inl 1)), .inl (ck_one 23)], ([], [], []), ([], []), [(.inr none, 245, ([], [], []))])
set_option maxRecDepth 100000 in
theorem p33x_2660_e : ck_ok p1_O none [] [] 214 [] 84 p33x_2660 = true := by decide +kernel
theorem p33x_2660_s {X : Int → Int} {LX : Nat} : ck_Ok p1_O X LX 214 p33x_2660 := ck_ok_s (ck_E0) ck_X0 ck_l0 p33x_2660_e
set_option maxRecDepth 100000 in
def p33x_2661 : ck_Sum := ((1, 0, 0), 245, [.inr (.inr (.inl 222)), .inl (ck_one 23)], ([], [], [(222, 0, 0, ck_one 30), (223, 0, 179, ck_one 0)]), ([(222, 3, 3), (223, 0, 179)], []), [(.inr none, 245, ([], [], [(222, 3, 3, ck_one 23), (223, 0, 179, ck_one 0)]))])
set_option maxRecDepth 100000 in
theorem p33x_2661_e : ck_ok p1_O none [] [(8, [p33x_149])] 25 [] 96 p33x_2661 = true := by decide +kernel
theorem p33x_2661_s {X : Int → Int} {LX : Nat} : ck_Ok p1_O X LX 25 p33x_2661 := ck_ok_s (ck_E1 (ck_S1 p33x_149_s ck_S0) ck_E0) ck_X0 ck_l0 p33x_2661_e
set_option maxRecDepth 100000 in
def p33x_2662 : ck_Sum := ((2, 0, 0), 245, [.inr (.inr (.inl 1)), .inl (ck_one 23)], ([], [], [(220, 3, 3, ck_one 0), (222, 0, 0, ck_one 30), (222, 3, 3, ck_one 0), (223, 0, 179, ck_one 0)]), ([(222, 3, 3), (223, 0, 179)], []), [(.inr none, 245, ([], [], [(222, 3, 3, ck_one 23), (223, 0, 179, ck_one 0)]))])
set_option maxRecDepth 100000 in
theorem p33x_2662_e : ck_ok p1_O none [] [(25, [p33x_2661]), (9, [p33x_147])] 215 [(10, [some (.inr (.inr (.inl 1))), some (.inl (ck_one 23)), some (.inl (ck_one 0)), none, none], ([], [], [(222, 3, 3, ck_one 23), (223, 0, 179, ck_one 0), (220, 3, 3, ck_one 0), (222, 0, 0, ck_one 30)]), 100, .inl 2, true)] 118 p33x_2662 = true := by decide +kernel
theorem p33x_2662_s {X : Int → Int} {LX : Nat} : ck_Ok p1_O X LX 215 p33x_2662 := ck_ok_s (ck_E1 (ck_S1 p33x_2661_s ck_S0) (ck_E1 (ck_S1 p33x_147_s ck_S0) ck_E0)) ck_X0 ck_l0 p33x_2662_e
set_option maxRecDepth 100000 in
def p33x_2663 : ck_Sum := ((1, 0, 0), 245, [.inr (.inr (.inl 224)), .inl (ck_one 24)], ([], [], [(224, 0, 0, ck_one 31), (225, 0, 185, ck_one 0)]), ([(224, 3, 3), (225, 0, 185)], []), [(.inr none, 245, ([], [], [(224, 3, 3, ck_one 24), (225, 0, 185, ck_one 0)]))])
set_option maxRecDepth 100000 in
theorem p33x_2663_e : ck_ok p1_O none [] [(8, [p33x_152])] 25 [] 96 p33x_2663 = true := by decide +kernel
theorem p33x_2663_s {X : Int → Int} {LX : Nat} : ck_Ok p1_O X LX 25 p33x_2663 := ck_ok_s (ck_E1 (ck_S1 p33x_152_s ck_S0) ck_E0) ck_X0 ck_l0 p33x_2663_e
set_option maxRecDepth 100000 in
def p33x_2772 : ck_Sum := ((0, 0, 0), 245, [.inr (.inr (.inl 222)), .inl (0, 22, none), .inl (0, 2, none)], ([], [], [(222, 3, 3, ck_one 23), (223, 0, 179, ck_one 0), (222, 1, 1, ck_one 6)]), ([], []), [(.inr (some (.inl (ck_one 0))), 245, ([], [], []))])
set_option maxRecDepth 100000 in
theorem p33x_2772_e : ck_ok p1_O none [] [] 10 [] 114 p33x_2772 = true := by decide +kernel
theorem p33x_2772_s {X : Int → Int} {LX : Nat} : ck_Ok p1_O X LX 10 p33x_2772 := ck_ok_s (ck_E0) ck_X0 ck_l0 p33x_2772_e
set_option maxRecDepth 100000 in
def p33x_2780 : ck_Sum := ((0, 0, 0), 245, [.inr (.inr (.inl 224)), .inl (ck_one 0), .inl (1, 2, none)], ([], [], [(224, 3, 3, ck_one 24), (225, 0, 185, ck_one 0), (224, 1, 1, ck_one 6)]), ([], []), [(.inr (some (.inl (ck_one 0))), 245, ([], [], []))])
set_option maxRecDepth 100000 in
theorem p33x_2780_e : ck_ok p1_O none [] [] 10 [] 114 p33x_2780 = true := by decide +kernel
theorem p33x_2780_s {X : Int → Int} {LX : Nat} : ck_Ok p1_O X LX 10 p33x_2780 := ck_ok_s (ck_E0) ck_X0 ck_l0 p33x_2780_e
set_option maxRecDepth 100000 in
def p33x_2779 : ck_Sum := ((0, 0, 0), 245, [.inr (.inr (.inl 224)), .inl (ck_one 0), .inl (ck_one 0)], ([], [], [(224, 3, 3, ck_one 24), (225, 0, 185, ck_one 0), (224, 1, 1, ck_one 6)]), ([], []), [(.inr (some (.inl (ck_one 0))), 245, ([], [], []))])
set_option maxRecDepth 100000 in
theorem p33x_2779_e : ck_ok p1_O none [] [] 10 [] 114 p33x_2779 = true := by decide +kernel
theorem p33x_2779_s {X : Int → Int} {LX : Nat} : ck_Ok p1_O X LX 10 p33x_2779 := ck_ok_s (ck_E0) ck_X0 ck_l0 p33x_2779_e
set_option maxRecDepth 100000 in
def p33x_2773 : ck_Sum := ((0, 0, 0), 245, [.inr (.inr (.inl 224)), .inl (1, 23, none), .inl ((-1), 1, none)], ([], [], [(224, 3, 3, ck_one 24), (225, 0, 185, ck_one 0), (224, 1, 1, ck_one 6)]), ([], []), [(.inr (some (.inl (ck_one (-1)))), 245, ([], [], [])), (.inr (some (.inl (ck_one 0))), 245, ([], [], []))])
set_option maxRecDepth 100000 in
theorem p33x_2773_e : ck_ok p1_O none [] [] 10 [] 114 p33x_2773 = true := by decide +kernel
theorem p33x_2773_s {X : Int → Int} {LX : Nat} : ck_Ok p1_O X LX 10 p33x_2773 := ck_ok_s (ck_E0) ck_X0 ck_l0 p33x_2773_e
set_option maxRecDepth 100000 in
def p33x_2774 : ck_Sum := ((0, 0, 0), 245, [.inr (.inr (.inl 224)), .inl (1, 23, none), .inl (1, 3, none)], ([], [], [(224, 3, 3, ck_one 24), (225, 0, 185, ck_one 0), (224, 1, 1, ck_one 6)]), ([], []), [(.inr (some (.inl (ck_one 0))), 245, ([], [], []))])
set_option maxRecDepth 100000 in
theorem p33x_2774_e : ck_ok p1_O none [] [] 10 [] 114 p33x_2774 = true := by decide +kernel
theorem p33x_2774_s {X : Int → Int} {LX : Nat} : ck_Ok p1_O X LX 10 p33x_2774 := ck_ok_s (ck_E0) ck_X0 ck_l0 p33x_2774_e
set_option maxRecDepth 100000 in
def p33x_2775 : ck_Sum := ((0, 0, 0), 245, [.inr (.inr (.inl 224)), .inl (1, 23, none), .inl (0, 2, none)], ([], [], [(224, 3, 3, ck_one 24), (225, 0, 185, ck_one 0), (224, 1, 1, ck_one 6)]), ([], []), [(.inr (some (.inl (ck_one 0))), 245, ([], [], []))])
set_option maxRecDepth 100000 in
theorem p33x_2775_e : ck_ok p1_O none [] [] 10 [] 114 p33x_2775 = true := by decide +kernel
theorem p33x_2775_s {X : Int → Int} {LX : Nat} : ck_Ok p1_O X LX 10 p33x_2775 := ck_ok_s (ck_E0) ck_X0 ck_l0 p33x_2775_e
set_option maxRecDepth 100000 in
def p33x_2776 : ck_Sum := ((1, 0, 0), 245, [.inr (.inr (.inl 1)), .inl (1, 23, none), .inl (0, 2, none)], ([], [], [(224, 3, 3, ck_one 24), (225, 0, 185, ck_one 0), (224, 1, 1, ck_one 6)]), ([], []), [(.inr (some (.inl (ck_one 0))), 245, ([], [], []))])
set_option maxRecDepth 100000 in
theorem p33x_2776_e : ck_ok p1_O none [] [(10, [p33x_2773, p33x_2774, p33x_2775])] 216 [] 118 p33x_2776 = true := by decide +kernel
theorem p33x_2776_s {X : Int → Int} {LX : Nat} : ck_Ok p1_O X LX 216 p33x_2776 := ck_ok_s (ck_E1 (ck_S1 p33x_2773_s (ck_S1 p33x_2774_s (ck_S1 p33x_2775_s ck_S0))) ck_E0) ck_X0 ck_l0 p33x_2776_e
set_option maxRecDepth 100000 in
def p33x_2777 : ck_Sum := ((0, 0, 0), 245, [.inr (.inr (.inl 224)), .inl (0, 22, none), .inl (0, 2, none), .inl (ck_one 0)], ([], [], [(224, 3, 3, ck_one 24), (225, 0, 185, ck_one 0), (224, 1, 1, ck_one 6)]), ([(225, 0, 134)], []), [(.inr none, 245, ([], [], [(225, 0, 185, ck_one 0)]))])
set_option maxRecDepth 100000 in
theorem p33x_2777_e : ck_ok p1_O none [] [] 45 [] 116 p33x_2777 = true := by decide +kernel
theorem p33x_2777_s {X : Int → Int} {LX : Nat} : ck_Ok p1_O X LX 45 p33x_2777 := ck_ok_s (ck_E0) ck_X0 ck_l0 p33x_2777_e
set_option maxRecDepth 100000 in
def p33x_2781 : ck_Sum := ((3, 0, 0), 245, [.inr (.inr (.inl 1)), .inl (ck_one 23), .inl (ck_one 1)], ([], [], [(224, 1, 1, ck_one 6), (224, 0, 0, ck_one 31), (224, 3, 3, ck_one 0), (222, 1, 1, ck_one 6), (222, 0, 0, ck_one 30), (222, 3, 3, ck_one 0), (1, 15, 15, ck_one 0), (220, 0, 0, ck_one 24), (220, 3, 3, ck_one 0), (10, 3, 3, ck_one 0), (3, 0, 0, ck_one 3), (223, 0, 179, ck_one 0), (225, 0, 185, ck_one 0)]), ([(1, 15, 15), (220, 3, 3), (221, 0, 47), (222, 3, 3), (223, 0, 179), (224, 3, 3), (225, 0, 185)], []), [(.inr (some (.inl (ck_one 0))), 245, ([], [], [(224, 3, 3, ck_one 24), (222, 3, 3, ck_one 23), (1, 15, 15, ck_one 1), (220, 3, 3, ck_one 0), (223, 0, 179, ck_one 0), (225, 0, 185, ck_one 0)]))])
set_option maxRecDepth 100000 in
theorem p33x_2781_e : ck_ok p1_O none [] [(214, [p33x_2660]), (24, [p33x_148]), (215, [p33x_2662]), (25, [p33x_2663]), (10, [p33x_2772, p33x_2780, p33x_2779]), (216, [p33x_2776]), (45, [p33x_2777])] 213 [(28, [some (.inr (.inr (.inl 1))), some (.inl (ck_one 23)), some (.inl (ck_one 1)), some (.inl ((-1), 22, none)), none], ([], [], [(224, 3, 3, ck_one 24), (225, 0, 185, ck_one 0), (222, 3, 3, ck_one 23), (223, 0, 179, ck_one 0), (1, 15, 15, ck_one 1), (220, 3, 3, ck_one 0), (224, 1, 1, ck_one 6), (224, 0, 0, ck_one 31), (222, 1, 1, ck_one 6), (222, 0, 0, ck_one 30), (220, 0, 0, ck_one 24), (10, 3, 3, ck_one 0), (3, 0, 0, ck_one 3)]), 100, .inl 3, false), (35, [some (.inr (.inr (.inl 1))), some (.inl (ck_one 23)), some (.inl (ck_one 1)), some (.inl (0, 22, some (100, 0))), some (.inl (0, 3, none))], ([], [], [(224, 3, 3, ck_one 24), (225, 0, 185, ck_one 0), (222, 3, 3, ck_one 23), (223, 0, 179, ck_one 0), (1, 15, 15, ck_one 1), (220, 3, 3, ck_one 0), (224, 1, 1, ck_one 6), (224, 0, 0, ck_one 31), (222, 1, 1, ck_one 6), (222, 0, 0, ck_one 30), (220, 0, 0, ck_one 24), (10, 3, 3, ck_one 0), (3, 0, 0, ck_one 3)]), 300, .inl 4, true), (94, [some (.inr (.inr (.inl 1))), some (.inl (ck_one 23)), some (.inl (ck_one 1)), some (.inl (ck_one 0)), some (.inl (1, 3, none))], ([], [], [(224, 3, 3, ck_one 24), (225, 0, 185, ck_one 0), (222, 3, 3, ck_one 23), (223, 0, 179, ck_one 0), (1, 15, 15, ck_one 1), (220, 3, 3, ck_one 0), (224, 1, 1, ck_one 6), (224, 0, 0, ck_one 31), (222, 1, 1, ck_one 6), (222, 0, 0, ck_one 30), (220, 0, 0, ck_one 24), (10, 3, 3, ck_one 0), (3, 0, 0, ck_one 3)]), 500, .inl 4, true)] 330 p33x_2781 = true := by decide +kernel
theorem p33x_2781_s {X : Int → Int} {LX : Nat} : ck_Ok p1_O X LX 213 p33x_2781 := ck_ok_s (ck_E1 (ck_S1 p33x_2660_s ck_S0) (ck_E1 (ck_S1 p33x_148_s ck_S0) (ck_E1 (ck_S1 p33x_2662_s ck_S0) (ck_E1 (ck_S1 p33x_2663_s ck_S0) (ck_E1 (ck_S1 p33x_2772_s (ck_S1 p33x_2780_s (ck_S1 p33x_2779_s ck_S0))) (ck_E1 (ck_S1 p33x_2776_s ck_S0) (ck_E1 (ck_S1 p33x_2777_s ck_S0) ck_E0))))))) ck_X0 ck_l0 p33x_2781_e
set_option maxRecDepth 100000 in
def p33x_2782 : ck_Sum := ((4, 0, 0), 245, [.inr (.inr (.inl 1)), .inl (ck_one 23), .inl (ck_one 1), .inr (.inr (.inl 245))], ([], [], [(224, 1, 1, ck_one 6), (224, 0, 0, ck_one 31), (224, 3, 3, ck_one 0), (222, 1, 1, ck_one 6), (222, 0, 0, ck_one 30), (222, 3, 3, ck_one 0), (1, 15, 15, ck_one 0), (220, 0, 0, ck_one 24), (220, 3, 3, ck_one 0), (10, 3, 3, ck_one 0), (3, 0, 0, ck_one 3), (223, 0, 179, ck_one 0), (225, 0, 185, ck_one 0)]), ([(1, 15, 15), (220, 3, 3), (221, 0, 47), (222, 3, 3), (223, 0, 179), (224, 3, 3), (225, 0, 185), (245, 0, 0)], []), [(.inr (some (.inl (ck_one 0))), 245, ([], [], [(245, 0, 0, ck_one 0), (224, 3, 3, ck_one 24), (222, 3, 3, ck_one 23), (1, 15, 15, ck_one 1), (220, 3, 3, ck_one 0), (223, 0, 179, ck_one 0), (225, 0, 185, ck_one 0)]))])
set_option maxRecDepth 100000 in
theorem p33x_2782_e : ck_ok p1_O none [] [(213, [p33x_2781])] 212 [] 92 p33x_2782 = true := by decide +kernel
theorem p33x_2782_s {X : Int → Int} {LX : Nat} : ck_Ok p1_O X LX 212 p33x_2782 := ck_ok_s (ck_E1 (ck_S1 p33x_2781_s ck_S0) ck_E0) ck_X0 ck_l0 p33x_2782_e
set_option maxRecDepth 100000 in
def p33x_2821 : ck_Sum := ((3, 0, 0), 245, [.inr (.inr (.inl 1)), .inl (ck_one 23), .inl (ck_one 0)], ([], [], [(224, 1, 1, ck_one 6), (224, 0, 0, ck_one 31), (224, 3, 3, ck_one 0), (222, 1, 1, ck_one 6), (222, 0, 0, ck_one 30), (222, 3, 3, ck_one 0), (1, 15, 15, ck_one 0), (220, 0, 0, ck_one 24), (220, 3, 3, ck_one 0), (10, 3, 3, ck_one 0), (3, 0, 0, ck_one 3), (223, 0, 179, ck_one 0), (225, 0, 185, ck_one 0)]), ([(1, 15, 15), (220, 3, 3), (221, 0, 47), (222, 3, 3), (223, 0, 179), (224, 3, 3), (225, 0, 185)], []), [(.inr (some (.inl (ck_one 0))), 245, ([], [], [(224, 3, 3, ck_one 24), (222, 3, 3, ck_one 23), (1, 15, 15, ck_one 1), (220, 3, 3, ck_one 0), (223, 0, 179, ck_one 0), (225, 0, 185, ck_one 0)]))])
set_option maxRecDepth 100000 in
theorem p33x_2821_e : ck_ok p1_O none [] [(214, [p33x_2660]), (24, [p33x_148]), (215, [p33x_2662]), (25, [p33x_2663]), (10, [p33x_2772, p33x_2779, p33x_2780]), (216, [p33x_2776]), (45, [p33x_2777])] 213 [(28, [some (.inr (.inr (.inl 1))), some (.inl (ck_one 23)), some (.inl (ck_one 0)), some (.inl ((-1), 22, none)), none], ([], [], [(224, 3, 3, ck_one 24), (225, 0, 185, ck_one 0), (222, 3, 3, ck_one 23), (223, 0, 179, ck_one 0), (1, 15, 15, ck_one 1), (220, 3, 3, ck_one 0), (224, 1, 1, ck_one 6), (224, 0, 0, ck_one 31), (222, 1, 1, ck_one 6), (222, 0, 0, ck_one 30), (220, 0, 0, ck_one 24), (10, 3, 3, ck_one 0), (3, 0, 0, ck_one 3)]), 100, .inl 3, false), (35, [some (.inr (.inr (.inl 1))), some (.inl (ck_one 23)), some (.inl (ck_one 0)), some (.inl (0, 22, some (100, 0))), some (.inl (0, 3, none))], ([], [], [(224, 3, 3, ck_one 24), (225, 0, 185, ck_one 0), (222, 3, 3, ck_one 23), (223, 0, 179, ck_one 0), (1, 15, 15, ck_one 1), (220, 3, 3, ck_one 0), (224, 1, 1, ck_one 6), (224, 0, 0, ck_one 31), (222, 1, 1, ck_one 6), (222, 0, 0, ck_one 30), (220, 0, 0, ck_one 24), (10, 3, 3, ck_one 0), (3, 0, 0, ck_one 3)]), 300, .inl 4, true), (94, [some (.inr (.inr (.inl 1))), some (.inl (ck_one 23)), some (.inl (ck_one 0)), some (.inl (ck_one 0)), some (.inl (1, 3, none))], ([], [], [(224, 3, 3, ck_one 24), (225, 0, 185, ck_one 0), (222, 3, 3, ck_one 23), (223, 0, 179, ck_one 0), (1, 15, 15, ck_one 1), (220, 3, 3, ck_one 0), (224, 1, 1, ck_one 6), (224, 0, 0, ck_one 31), (222, 1, 1, ck_one 6), (222, 0, 0, ck_one 30), (220, 0, 0, ck_one 24), (10, 3, 3, ck_one 0), (3, 0, 0, ck_one 3)]), 500, .inl 4, true)] 330 p33x_2821 = true := by decide +kernel
theorem p33x_2821_s {X : Int → Int} {LX : Nat} : ck_Ok p1_O X LX 213 p33x_2821 := ck_ok_s (ck_E1 (ck_S1 p33x_2660_s ck_S0) (ck_E1 (ck_S1 p33x_148_s ck_S0) (ck_E1 (ck_S1 p33x_2662_s ck_S0) (ck_E1 (ck_S1 p33x_2663_s ck_S0) (ck_E1 (ck_S1 p33x_2772_s (ck_S1 p33x_2779_s (ck_S1 p33x_2780_s ck_S0))) (ck_E1 (ck_S1 p33x_2776_s ck_S0) (ck_E1 (ck_S1 p33x_2777_s ck_S0) ck_E0))))))) ck_X0 ck_l0 p33x_2821_e
set_option maxRecDepth 100000 in
def p33x_2822 : ck_Sum := ((4, 0, 0), 245, [.inr (.inr (.inl 1)), .inl (ck_one 23), .inl (ck_one 0), .inr (.inr (.inl 245))], ([], [], [(224, 1, 1, ck_one 6), (224, 0, 0, ck_one 31), (224, 3, 3, ck_one 0), (222, 1, 1, ck_one 6), (222, 0, 0, ck_one 30), (222, 3, 3, ck_one 0), (1, 15, 15, ck_one 0), (220, 0, 0, ck_one 24), (220, 3, 3, ck_one 0), (10, 3, 3, ck_one 0), (3, 0, 0, ck_one 3), (223, 0, 179, ck_one 0), (225, 0, 185, ck_one 0)]), ([(1, 15, 15), (220, 3, 3), (221, 0, 47), (222, 3, 3), (223, 0, 179), (224, 3, 3), (225, 0, 185), (245, 0, 0)], []), [(.inr (some (.inl (ck_one 0))), 245, ([], [], [(245, 0, 0, ck_one 0), (224, 3, 3, ck_one 24), (222, 3, 3, ck_one 23), (1, 15, 15, ck_one 1), (220, 3, 3, ck_one 0), (223, 0, 179, ck_one 0), (225, 0, 185, ck_one 0)]))])
set_option maxRecDepth 100000 in
theorem p33x_2822_e : ck_ok p1_O none [] [(213, [p33x_2821])] 212 [] 92 p33x_2822 = true := by decide +kernel
theorem p33x_2822_s {X : Int → Int} {LX : Nat} : ck_Ok p1_O X LX 212 p33x_2822 := ck_ok_s (ck_E1 (ck_S1 p33x_2821_s ck_S0) ck_E0) ck_X0 ck_l0 p33x_2822_e
set_option maxRecDepth 100000 in
def p33x_2824 : ck_Sum := ((0, 0, 0), 245, [.inr (.inr (.inl 1)), .inl (ck_one 24)], ([], [], []), ([], []), [(.inr none, 245, ([], [], []))])
set_option maxRecDepth 100000 in
theorem p33x_2824_e : ck_ok p1_O none [] [] 214 [] 84 p33x_2824 = true := by decide +kernel
theorem p33x_2824_s {X : Int → Int} {LX : Nat} : ck_Ok p1_O X LX 214 p33x_2824 := ck_ok_s (ck_E0) ck_X0 ck_l0 p33x_2824_e
set_option maxRecDepth 100000 in
def p33x_2825 : ck_Sum := ((1, 0, 0), 245, [.inr (.inr (.inl 222)), .inl (ck_one 24)], ([], [], [(222, 0, 0, ck_one 30), (223, 0, 179, ck_one 0)]), ([(222, 3, 3), (223, 0, 179)], []), [(.inr none, 245, ([], [], [(222, 3, 3, ck_one 24), (223, 0, 179, ck_one 0)]))])
set_option maxRecDepth 100000 in
theorem p33x_2825_e : ck_ok p1_O none [] [(8, [p33x_149])] 25 [] 96 p33x_2825 = true := by decide +kernel
theorem p33x_2825_s {X : Int → Int} {LX : Nat} : ck_Ok p1_O X LX 25 p33x_2825 := ck_ok_s (ck_E1 (ck_S1 p33x_149_s ck_S0) ck_E0) ck_X0 ck_l0 p33x_2825_e
set_option maxRecDepth 100000 in
def p33x_2826 : ck_Sum := ((2, 0, 0), 245, [.inr (.inr (.inl 1)), .inl (ck_one 24)], ([], [], [(220, 3, 3, ck_one 0), (222, 0, 0, ck_one 30), (222, 3, 3, ck_one 0), (223, 0, 179, ck_one 0)]), ([(222, 3, 3), (223, 0, 179)], []), [(.inr none, 245, ([], [], [(222, 3, 3, ck_one 24), (223, 0, 179, ck_one 0)]))])
set_option maxRecDepth 100000 in
theorem p33x_2826_e : ck_ok p1_O none [] [(25, [p33x_2825]), (9, [p33x_147])] 215 [(10, [some (.inr (.inr (.inl 1))), some (.inl (ck_one 24)), some (.inl (ck_one 0)), none, none], ([], [], [(222, 3, 3, ck_one 24), (223, 0, 179, ck_one 0), (220, 3, 3, ck_one 0), (222, 0, 0, ck_one 30)]), 100, .inl 2, true)] 118 p33x_2826 = true := by decide +kernel
theorem p33x_2826_s {X : Int → Int} {LX : Nat} : ck_Ok p1_O X LX 215 p33x_2826 := ck_ok_s (ck_E1 (ck_S1 p33x_2825_s ck_S0) (ck_E1 (ck_S1 p33x_147_s ck_S0) ck_E0)) ck_X0 ck_l0 p33x_2826_e
set_option maxRecDepth 100000 in
def p33x_2827 : ck_Sum := ((1, 0, 0), 245, [.inr (.inr (.inl 224)), .inl (ck_one 25)], ([], [], [(224, 0, 0, ck_one 31), (225, 0, 185, ck_one 0)]), ([(224, 3, 3), (225, 0, 185)], []), [(.inr none, 245, ([], [], [(224, 3, 3, ck_one 25), (225, 0, 185, ck_one 0)]))])
set_option maxRecDepth 100000 in
theorem p33x_2827_e : ck_ok p1_O none [] [(8, [p33x_152])] 25 [] 96 p33x_2827 = true := by decide +kernel
theorem p33x_2827_s {X : Int → Int} {LX : Nat} : ck_Ok p1_O X LX 25 p33x_2827 := ck_ok_s (ck_E1 (ck_S1 p33x_152_s ck_S0) ck_E0) ck_X0 ck_l0 p33x_2827_e
set_option maxRecDepth 100000 in
def p33x_2936 : ck_Sum := ((0, 0, 0), 245, [.inr (.inr (.inl 222)), .inl (0, 23, none), .inl (0, 2, none)], ([], [], [(222, 3, 3, ck_one 24), (223, 0, 179, ck_one 0), (222, 1, 1, ck_one 6)]), ([], []), [(.inr (some (.inl (ck_one 0))), 245, ([], [], []))])
set_option maxRecDepth 100000 in
theorem p33x_2936_e : ck_ok p1_O none [] [] 10 [] 114 p33x_2936 = true := by decide +kernel
theorem p33x_2936_s {X : Int → Int} {LX : Nat} : ck_Ok p1_O X LX 10 p33x_2936 := ck_ok_s (ck_E0) ck_X0 ck_l0 p33x_2936_e
set_option maxRecDepth 100000 in
def p33x_2944 : ck_Sum := ((0, 0, 0), 245, [.inr (.inr (.inl 224)), .inl (ck_one 0), .inl (1, 2, none)], ([], [], [(224, 3, 3, ck_one 25), (225, 0, 185, ck_one 0), (224, 1, 1, ck_one 6)]), ([], []), [(.inr (some (.inl (ck_one 0))), 245, ([], [], []))])
set_option maxRecDepth 100000 in
theorem p33x_2944_e : ck_ok p1_O none [] [] 10 [] 114 p33x_2944 = true := by decide +kernel
theorem p33x_2944_s {X : Int → Int} {LX : Nat} : ck_Ok p1_O X LX 10 p33x_2944 := ck_ok_s (ck_E0) ck_X0 ck_l0 p33x_2944_e
set_option maxRecDepth 100000 in
def p33x_2943 : ck_Sum := ((0, 0, 0), 245, [.inr (.inr (.inl 224)), .inl (ck_one 0), .inl (ck_one 0)], ([], [], [(224, 3, 3, ck_one 25), (225, 0, 185, ck_one 0), (224, 1, 1, ck_one 6)]), ([], []), [(.inr (some (.inl (ck_one 0))), 245, ([], [], []))])
set_option maxRecDepth 100000 in
theorem p33x_2943_e : ck_ok p1_O none [] [] 10 [] 114 p33x_2943 = true := by decide +kernel
theorem p33x_2943_s {X : Int → Int} {LX : Nat} : ck_Ok p1_O X LX 10 p33x_2943 := ck_ok_s (ck_E0) ck_X0 ck_l0 p33x_2943_e
set_option maxRecDepth 100000 in
def p33x_2937 : ck_Sum := ((0, 0, 0), 245, [.inr (.inr (.inl 224)), .inl (1, 24, none), .inl ((-1), 1, none)], ([], [], [(224, 3, 3, ck_one 25), (225, 0, 185, ck_one 0), (224, 1, 1, ck_one 6)]), ([], []), [(.inr (some (.inl (ck_one (-1)))), 245, ([], [], [])), (.inr (some (.inl (ck_one 0))), 245, ([], [], []))])
set_option maxRecDepth 100000 in
theorem p33x_2937_e : ck_ok p1_O none [] [] 10 [] 114 p33x_2937 = true := by decide +kernel
theorem p33x_2937_s {X : Int → Int} {LX : Nat} : ck_Ok p1_O X LX 10 p33x_2937 := ck_ok_s (ck_E0) ck_X0 ck_l0 p33x_2937_e
set_option maxRecDepth 100000 in
def p33x_2938 : ck_Sum := ((0, 0, 0), 245, [.inr (.inr (.inl 224)), .inl (1, 24, none), .inl (1, 3, none)], ([], [], [(224, 3, 3, ck_one 25), (225, 0, 185, ck_one 0), (224, 1, 1, ck_one 6)]), ([], []), [(.inr (some (.inl (ck_one 0))), 245, ([], [], []))])
set_option maxRecDepth 100000 in
theorem p33x_2938_e : ck_ok p1_O none [] [] 10 [] 114 p33x_2938 = true := by decide +kernel
theorem p33x_2938_s {X : Int → Int} {LX : Nat} : ck_Ok p1_O X LX 10 p33x_2938 := ck_ok_s (ck_E0) ck_X0 ck_l0 p33x_2938_e
set_option maxRecDepth 100000 in
def p33x_2939 : ck_Sum := ((0, 0, 0), 245, [.inr (.inr (.inl 224)), .inl (1, 24, none), .inl (0, 2, none)], ([], [], [(224, 3, 3, ck_one 25), (225, 0, 185, ck_one 0), (224, 1, 1, ck_one 6)]), ([], []), [(.inr (some (.inl (ck_one 0))), 245, ([], [], []))])
set_option maxRecDepth 100000 in
theorem p33x_2939_e : ck_ok p1_O none [] [] 10 [] 114 p33x_2939 = true := by decide +kernel
theorem p33x_2939_s {X : Int → Int} {LX : Nat} : ck_Ok p1_O X LX 10 p33x_2939 := ck_ok_s (ck_E0) ck_X0 ck_l0 p33x_2939_e
set_option maxRecDepth 100000 in
def p33x_2940 : ck_Sum := ((1, 0, 0), 245, [.inr (.inr (.inl 1)), .inl (1, 24, none), .inl (0, 2, none)], ([], [], [(224, 3, 3, ck_one 25), (225, 0, 185, ck_one 0), (224, 1, 1, ck_one 6)]), ([], []), [(.inr (some (.inl (ck_one 0))), 245, ([], [], []))])
set_option maxRecDepth 100000 in
theorem p33x_2940_e : ck_ok p1_O none [] [(10, [p33x_2937, p33x_2938, p33x_2939])] 216 [] 118 p33x_2940 = true := by decide +kernel
theorem p33x_2940_s {X : Int → Int} {LX : Nat} : ck_Ok p1_O X LX 216 p33x_2940 := ck_ok_s (ck_E1 (ck_S1 p33x_2937_s (ck_S1 p33x_2938_s (ck_S1 p33x_2939_s ck_S0))) ck_E0) ck_X0 ck_l0 p33x_2940_e
set_option maxRecDepth 100000 in
def p33x_2941 : ck_Sum := ((0, 0, 0), 245, [.inr (.inr (.inl 224)), .inl (0, 23, none), .inl (0, 2, none), .inl (ck_one 0)], ([], [], [(224, 3, 3, ck_one 25), (225, 0, 185, ck_one 0), (224, 1, 1, ck_one 6)]), ([(225, 0, 140)], []), [(.inr none, 245, ([], [], [(225, 0, 185, ck_one 0)]))])
set_option maxRecDepth 100000 in
theorem p33x_2941_e : ck_ok p1_O none [] [] 45 [] 116 p33x_2941 = true := by decide +kernel
theorem p33x_2941_s {X : Int → Int} {LX : Nat} : ck_Ok p1_O X LX 45 p33x_2941 := ck_ok_s (ck_E0) ck_X0 ck_l0 p33x_2941_e
set_option maxRecDepth 100000 in
def p33x_2945 : ck_Sum := ((3, 0, 0), 245, [.inr (.inr (.inl 1)), .inl (ck_one 24), .inl (ck_one 1)], ([], [], [(224, 1, 1, ck_one 6), (224, 0, 0, ck_one 31), (224, 3, 3, ck_one 0), (222, 1, 1, ck_one 6), (222, 0, 0, ck_one 30), (222, 3, 3, ck_one 0), (1, 15, 15, ck_one 0), (220, 0, 0, ck_one 24), (220, 3, 3, ck_one 0), (10, 3, 3, ck_one 0), (3, 0, 0, ck_one 3), (223, 0, 179, ck_one 0), (225, 0, 185, ck_one 0)]), ([(1, 15, 15), (220, 3, 3), (221, 0, 47), (222, 3, 3), (223, 0, 179), (224, 3, 3), (225, 0, 185)], []), [(.inr (some (.inl (ck_one 0))), 245, ([], [], [(224, 3, 3, ck_one 25), (222, 3, 3, ck_one 24), (1, 15, 15, ck_one 1), (220, 3, 3, ck_one 0), (223, 0, 179, ck_one 0), (225, 0, 185, ck_one 0)]))])
set_option maxRecDepth 100000 in
theorem p33x_2945_e : ck_ok p1_O none [] [(214, [p33x_2824]), (24, [p33x_148]), (215, [p33x_2826]), (25, [p33x_2827]), (10, [p33x_2936, p33x_2944, p33x_2943]), (216, [p33x_2940]), (45, [p33x_2941])] 213 [(28, [some (.inr (.inr (.inl 1))), some (.inl (ck_one 24)), some (.inl (ck_one 1)), some (.inl ((-1), 23, none)), none], ([], [], [(224, 3, 3, ck_one 25), (225, 0, 185, ck_one 0), (222, 3, 3, ck_one 24), (223, 0, 179, ck_one 0), (1, 15, 15, ck_one 1), (220, 3, 3, ck_one 0), (224, 1, 1, ck_one 6), (224, 0, 0, ck_one 31), (222, 1, 1, ck_one 6), (222, 0, 0, ck_one 30), (220, 0, 0, ck_one 24), (10, 3, 3, ck_one 0), (3, 0, 0, ck_one 3)]), 100, .inl 3, false), (35, [some (.inr (.inr (.inl 1))), some (.inl (ck_one 24)), some (.inl (ck_one 1)), some (.inl (0, 23, some (100, 0))), some (.inl (0, 3, none))], ([], [], [(224, 3, 3, ck_one 25), (225, 0, 185, ck_one 0), (222, 3, 3, ck_one 24), (223, 0, 179, ck_one 0), (1, 15, 15, ck_one 1), (220, 3, 3, ck_one 0), (224, 1, 1, ck_one 6), (224, 0, 0, ck_one 31), (222, 1, 1, ck_one 6), (222, 0, 0, ck_one 30), (220, 0, 0, ck_one 24), (10, 3, 3, ck_one 0), (3, 0, 0, ck_one 3)]), 300, .inl 4, true), (94, [some (.inr (.inr (.inl 1))), some (.inl (ck_one 24)), some (.inl (ck_one 1)), some (.inl (ck_one 0)), some (.inl (1, 3, none))], ([], [], [(224, 3, 3, ck_one 25), (225, 0, 185, ck_one 0), (222, 3, 3, ck_one 24), (223, 0, 179, ck_one 0), (1, 15, 15, ck_one 1), (220, 3, 3, ck_one 0), (224, 1, 1, ck_one 6), (224, 0, 0, ck_one 31), (222, 1, 1, ck_one 6), (222, 0, 0, ck_one 30), (220, 0, 0, ck_one 24), (10, 3, 3, ck_one 0), (3, 0, 0, ck_one 3)]), 500, .inl 4, true)] 330 p33x_2945 = true := by decide +kernel
theorem p33x_2945_s {X : Int → Int} {LX : Nat} : ck_Ok p1_O X LX 213 p33x_2945 := ck_ok_s (ck_E1 (ck_S1 p33x_2824_s ck_S0) (ck_E1 (ck_S1 p33x_148_s ck_S0) (ck_E1 (ck_S1 p33x_2826_s ck_S0) (ck_E1 (ck_S1 p33x_2827_s ck_S0) (ck_E1 (ck_S1 p33x_2936_s (ck_S1 p33x_2944_s (ck_S1 p33x_2943_s ck_S0))) (ck_E1 (ck_S1 p33x_2940_s ck_S0) (ck_E1 (ck_S1 p33x_2941_s ck_S0) ck_E0))))))) ck_X0 ck_l0 p33x_2945_e
set_option maxRecDepth 100000 in
def p33x_2946 : ck_Sum := ((4, 0, 0), 245, [.inr (.inr (.inl 1)), .inl (ck_one 24), .inl (ck_one 1), .inr (.inr (.inl 245))], ([], [], [(224, 1, 1, ck_one 6), (224, 0, 0, ck_one 31), (224, 3, 3, ck_one 0), (222, 1, 1, ck_one 6), (222, 0, 0, ck_one 30), (222, 3, 3, ck_one 0), (1, 15, 15, ck_one 0), (220, 0, 0, ck_one 24), (220, 3, 3, ck_one 0), (10, 3, 3, ck_one 0), (3, 0, 0, ck_one 3), (223, 0, 179, ck_one 0), (225, 0, 185, ck_one 0)]), ([(1, 15, 15), (220, 3, 3), (221, 0, 47), (222, 3, 3), (223, 0, 179), (224, 3, 3), (225, 0, 185), (245, 0, 0)], []), [(.inr (some (.inl (ck_one 0))), 245, ([], [], [(245, 0, 0, ck_one 0), (224, 3, 3, ck_one 25), (222, 3, 3, ck_one 24), (1, 15, 15, ck_one 1), (220, 3, 3, ck_one 0), (223, 0, 179, ck_one 0), (225, 0, 185, ck_one 0)]))])
set_option maxRecDepth 100000 in
theorem p33x_2946_e : ck_ok p1_O none [] [(213, [p33x_2945])] 212 [] 92 p33x_2946 = true := by decide +kernel
theorem p33x_2946_s {X : Int → Int} {LX : Nat} : ck_Ok p1_O X LX 212 p33x_2946 := ck_ok_s (ck_E1 (ck_S1 p33x_2945_s ck_S0) ck_E0) ck_X0 ck_l0 p33x_2946_e
set_option maxRecDepth 100000 in
def p33x_2985 : ck_Sum := ((3, 0, 0), 245, [.inr (.inr (.inl 1)), .inl (ck_one 24), .inl (ck_one 0)], ([], [], [(224, 1, 1, ck_one 6), (224, 0, 0, ck_one 31), (224, 3, 3, ck_one 0), (222, 1, 1, ck_one 6), (222, 0, 0, ck_one 30), (222, 3, 3, ck_one 0), (1, 15, 15, ck_one 0), (220, 0, 0, ck_one 24), (220, 3, 3, ck_one 0), (10, 3, 3, ck_one 0), (3, 0, 0, ck_one 3), (223, 0, 179, ck_one 0), (225, 0, 185, ck_one 0)]), ([(1, 15, 15), (220, 3, 3), (221, 0, 47), (222, 3, 3), (223, 0, 179), (224, 3, 3), (225, 0, 185)], []), [(.inr (some (.inl (ck_one 0))), 245, ([], [], [(224, 3, 3, ck_one 25), (222, 3, 3, ck_one 24), (1, 15, 15, ck_one 1), (220, 3, 3, ck_one 0), (223, 0, 179, ck_one 0), (225, 0, 185, ck_one 0)]))])
set_option maxRecDepth 100000 in
theorem p33x_2985_e : ck_ok p1_O none [] [(214, [p33x_2824]), (24, [p33x_148]), (215, [p33x_2826]), (25, [p33x_2827]), (10, [p33x_2936, p33x_2943, p33x_2944]), (216, [p33x_2940]), (45, [p33x_2941])] 213 [(28, [some (.inr (.inr (.inl 1))), some (.inl (ck_one 24)), some (.inl (ck_one 0)), some (.inl ((-1), 23, none)), none], ([], [], [(224, 3, 3, ck_one 25), (225, 0, 185, ck_one 0), (222, 3, 3, ck_one 24), (223, 0, 179, ck_one 0), (1, 15, 15, ck_one 1), (220, 3, 3, ck_one 0), (224, 1, 1, ck_one 6), (224, 0, 0, ck_one 31), (222, 1, 1, ck_one 6), (222, 0, 0, ck_one 30), (220, 0, 0, ck_one 24), (10, 3, 3, ck_one 0), (3, 0, 0, ck_one 3)]), 100, .inl 3, false), (35, [some (.inr (.inr (.inl 1))), some (.inl (ck_one 24)), some (.inl (ck_one 0)), some (.inl (0, 23, some (100, 0))), some (.inl (0, 3, none))], ([], [], [(224, 3, 3, ck_one 25), (225, 0, 185, ck_one 0), (222, 3, 3, ck_one 24), (223, 0, 179, ck_one 0), (1, 15, 15, ck_one 1), (220, 3, 3, ck_one 0), (224, 1, 1, ck_one 6), (224, 0, 0, ck_one 31), (222, 1, 1, ck_one 6), (222, 0, 0, ck_one 30), (220, 0, 0, ck_one 24), (10, 3, 3, ck_one 0), (3, 0, 0, ck_one 3)]), 300, .inl 4, true), (94, [some (.inr (.inr (.inl 1))), some (.inl (ck_one 24)), some (.inl (ck_one 0)), some (.inl (ck_one 0)), some (.inl (1, 3, none))], ([], [], [(224, 3, 3, ck_one 25), (225, 0, 185, ck_one 0), (222, 3, 3, ck_one 24), (223, 0, 179, ck_one 0), (1, 15, 15, ck_one 1), (220, 3, 3, ck_one 0), (224, 1, 1, ck_one 6), (224, 0, 0, ck_one 31), (222, 1, 1, ck_one 6), (222, 0, 0, ck_one 30), (220, 0, 0, ck_one 24), (10, 3, 3, ck_one 0), (3, 0, 0, ck_one 3)]), 500, .inl 4, true)] 330 p33x_2985 = true := by decide +kernel
theorem p33x_2985_s {X : Int → Int} {LX : Nat} : ck_Ok p1_O X LX 213 p33x_2985 := ck_ok_s (ck_E1 (ck_S1 p33x_2824_s ck_S0) (ck_E1 (ck_S1 p33x_148_s ck_S0) (ck_E1 (ck_S1 p33x_2826_s ck_S0) (ck_E1 (ck_S1 p33x_2827_s ck_S0) (ck_E1 (ck_S1 p33x_2936_s (ck_S1 p33x_2943_s (ck_S1 p33x_2944_s ck_S0))) (ck_E1 (ck_S1 p33x_2940_s ck_S0) (ck_E1 (ck_S1 p33x_2941_s ck_S0) ck_E0))))))) ck_X0 ck_l0 p33x_2985_e
set_option maxRecDepth 100000 in
def p33x_2986 : ck_Sum := ((4, 0, 0), 245, [.inr (.inr (.inl 1)), .inl (ck_one 24), .inl (ck_one 0), .inr (.inr (.inl 245))], ([], [], [(224, 1, 1, ck_one 6), (224, 0, 0, ck_one 31), (224, 3, 3, ck_one 0), (222, 1, 1, ck_one 6), (222, 0, 0, ck_one 30), (222, 3, 3, ck_one 0), (1, 15, 15, ck_one 0), (220, 0, 0, ck_one 24), (220, 3, 3, ck_one 0), (10, 3, 3, ck_one 0), (3, 0, 0, ck_one 3), (223, 0, 179, ck_one 0), (225, 0, 185, ck_one 0)]), ([(1, 15, 15), (220, 3, 3), (221, 0, 47), (222, 3, 3), (223, 0, 179), (224, 3, 3), (225, 0, 185), (245, 0, 0)], []), [(.inr (some (.inl (ck_one 0))), 245, ([], [], [(245, 0, 0, ck_one 0), (224, 3, 3, ck_one 25), (222, 3, 3, ck_one 24), (1, 15, 15, ck_one 1), (220, 3, 3, ck_one 0), (223, 0, 179, ck_one 0), (225, 0, 185, ck_one 0)]))])
set_option maxRecDepth 100000 in
theorem p33x_2986_e : ck_ok p1_O none [] [(213, [p33x_2985])] 212 [] 92 p33x_2986 = true := by decide +kernel
theorem p33x_2986_s {X : Int → Int} {LX : Nat} : ck_Ok p1_O X LX 212 p33x_2986 := ck_ok_s (ck_E1 (ck_S1 p33x_2985_s ck_S0) ck_E0) ck_X0 ck_l0 p33x_2986_e
set_option maxRecDepth 100000 in
def p33x_2988 : ck_Sum := ((0, 0, 0), 245, [.inr (.inr (.inl 1)), .inl (ck_one 25)], ([], [], []), ([], []), [(.inr none, 245, ([], [], []))])
set_option maxRecDepth 100000 in
theorem p33x_2988_e : ck_ok p1_O none [] [] 214 [] 84 p33x_2988 = true := by decide +kernel
theorem p33x_2988_s {X : Int → Int} {LX : Nat} : ck_Ok p1_O X LX 214 p33x_2988 := ck_ok_s (ck_E0) ck_X0 ck_l0 p33x_2988_e
set_option maxRecDepth 100000 in
def p33x_2989 : ck_Sum := ((1, 0, 0), 245, [.inr (.inr (.inl 222)), .inl (ck_one 25)], ([], [], [(222, 0, 0, ck_one 30), (223, 0, 179, ck_one 0)]), ([(222, 3, 3), (223, 0, 179)], []), [(.inr none, 245, ([], [], [(222, 3, 3, ck_one 25), (223, 0, 179, ck_one 0)]))])
set_option maxRecDepth 100000 in
theorem p33x_2989_e : ck_ok p1_O none [] [(8, [p33x_149])] 25 [] 96 p33x_2989 = true := by decide +kernel
theorem p33x_2989_s {X : Int → Int} {LX : Nat} : ck_Ok p1_O X LX 25 p33x_2989 := ck_ok_s (ck_E1 (ck_S1 p33x_149_s ck_S0) ck_E0) ck_X0 ck_l0 p33x_2989_e
set_option maxRecDepth 100000 in
def p33x_2990 : ck_Sum := ((2, 0, 0), 245, [.inr (.inr (.inl 1)), .inl (ck_one 25)], ([], [], [(220, 3, 3, ck_one 0), (222, 0, 0, ck_one 30), (222, 3, 3, ck_one 0), (223, 0, 179, ck_one 0)]), ([(222, 3, 3), (223, 0, 179)], []), [(.inr none, 245, ([], [], [(222, 3, 3, ck_one 25), (223, 0, 179, ck_one 0)]))])
set_option maxRecDepth 100000 in
theorem p33x_2990_e : ck_ok p1_O none [] [(25, [p33x_2989]), (9, [p33x_147])] 215 [(10, [some (.inr (.inr (.inl 1))), some (.inl (ck_one 25)), some (.inl (ck_one 0)), none, none], ([], [], [(222, 3, 3, ck_one 25), (223, 0, 179, ck_one 0), (220, 3, 3, ck_one 0), (222, 0, 0, ck_one 30)]), 100, .inl 2, true)] 118 p33x_2990 = true := by decide +kernel
theorem p33x_2990_s {X : Int → Int} {LX : Nat} : ck_Ok p1_O X LX 215 p33x_2990 := ck_ok_s (ck_E1 (ck_S1 p33x_2989_s ck_S0) (ck_E1 (ck_S1 p33x_147_s ck_S0) ck_E0)) ck_X0 ck_l0 p33x_2990_e
set_option maxRecDepth 100000 in
def p33x_2991 : ck_Sum := ((1, 0, 0), 245, [.inr (.inr (.inl 224)), .inl (ck_one 26)], ([], [], [(224, 0, 0, ck_one 31), (225, 0, 185, ck_one 0)]), ([(224, 3, 3), (225, 0, 185)], []), [(.inr none, 245, ([], [], [(224, 3, 3, ck_one 26), (225, 0, 185, ck_one 0)]))])
set_option maxRecDepth 100000 in
theorem p33x_2991_e : ck_ok p1_O none [] [(8, [p33x_152])] 25 [] 96 p33x_2991 = true := by decide +kernel
theorem p33x_2991_s {X : Int → Int} {LX : Nat} : ck_Ok p1_O X LX 25 p33x_2991 := ck_ok_s (ck_E1 (ck_S1 p33x_152_s ck_S0) ck_E0) ck_X0 ck_l0 p33x_2991_e
set_option maxRecDepth 100000 in
def p33x_3106 : ck_Sum := ((0, 0, 0), 245, [.inr (.inr (.inl 222)), .inl (0, 24, none), .inl (0, 2, none)], ([], [], [(222, 3, 3, ck_one 25), (223, 0, 179, ck_one 0), (222, 1, 1, ck_one 6)]), ([], []), [(.inr (some (.inl (ck_one 0))), 245, ([], [], []))])
set_option maxRecDepth 100000 in
theorem p33x_3106_e : ck_ok p1_O none [] [] 10 [] 114 p33x_3106 = true := by decide +kernel
theorem p33x_3106_s {X : Int → Int} {LX : Nat} : ck_Ok p1_O X LX 10 p33x_3106 := ck_ok_s (ck_E0) ck_X0 ck_l0 p33x_3106_e
set_option maxRecDepth 100000 in
def p33x_3114 : ck_Sum := ((0, 0, 0), 245, [.inr (.inr (.inl 224)), .inl (ck_one 0), .inl (1, 2, none)], ([], [], [(224, 3, 3, ck_one 26), (225, 0, 185, ck_one 0), (224, 1, 1, ck_one 6)]), ([], []), [(.inr (some (.inl (ck_one 0))), 245, ([], [], []))])
set_option maxRecDepth 100000 in
theorem p33x_3114_e : ck_ok p1_O none [] [] 10 [] 114 p33x_3114 = true := by decide +kernel
theorem p33x_3114_s {X : Int → Int} {LX : Nat} : ck_Ok p1_O X LX 10 p33x_3114 := ck_ok_s (ck_E0) ck_X0 ck_l0 p33x_3114_e
set_option maxRecDepth 100000 in
def p33x_3113 : ck_Sum := ((0, 0, 0), 245, [.inr (.inr (.inl 224)), .inl (ck_one 0), .inl (ck_one 0)], ([], [], [(224, 3, 3, ck_one 26), (225, 0, 185, ck_one 0), (224, 1, 1, ck_one 6)]), ([], []), [(.inr (some (.inl (ck_one 0))), 245, ([], [], []))])
set_option maxRecDepth 100000 in
theorem p33x_3113_e : ck_ok p1_O none [] [] 10 [] 114 p33x_3113 = true := by decide +kernel
theorem p33x_3113_s {X : Int → Int} {LX : Nat} : ck_Ok p1_O X LX 10 p33x_3113 := ck_ok_s (ck_E0) ck_X0 ck_l0 p33x_3113_e
set_option maxRecDepth 100000 in
def p33x_3107 : ck_Sum := ((0, 0, 0), 245, [.inr (.inr (.inl 224)), .inl (1, 25, none), .inl ((-1), 1, none)], ([], [], [(224, 3, 3, ck_one 26), (225, 0, 185, ck_one 0), (224, 1, 1, ck_one 6)]), ([], []), [(.inr (some (.inl (ck_one (-1)))), 245, ([], [], [])), (.inr (some (.inl (ck_one 0))), 245, ([], [], []))])
set_option maxRecDepth 100000 in
theorem p33x_3107_e : ck_ok p1_O none [] [] 10 [] 114 p33x_3107 = true := by decide +kernel
theorem p33x_3107_s {X : Int → Int} {LX : Nat} : ck_Ok p1_O X LX 10 p33x_3107 := ck_ok_s (ck_E0) ck_X0 ck_l0 p33x_3107_e
set_option maxRecDepth 100000 in
def p33x_3108 : ck_Sum := ((0, 0, 0), 245, [.inr (.inr (.inl 224)), .inl (1, 25, none), .inl (1, 3, none)], ([], [], [(224, 3, 3, ck_one 26), (225, 0, 185, ck_one 0), (224, 1, 1, ck_one 6)]), ([], []), [(.inr (some (.inl (ck_one 0))), 245, ([], [], []))])
set_option maxRecDepth 100000 in
theorem p33x_3108_e : ck_ok p1_O none [] [] 10 [] 114 p33x_3108 = true := by decide +kernel
theorem p33x_3108_s {X : Int → Int} {LX : Nat} : ck_Ok p1_O X LX 10 p33x_3108 := ck_ok_s (ck_E0) ck_X0 ck_l0 p33x_3108_e
set_option maxRecDepth 100000 in
def p33x_3109 : ck_Sum := ((0, 0, 0), 245, [.inr (.inr (.inl 224)), .inl (1, 25, none), .inl (0, 2, none)], ([], [], [(224, 3, 3, ck_one 26), (225, 0, 185, ck_one 0), (224, 1, 1, ck_one 6)]), ([], []), [(.inr (some (.inl (ck_one 0))), 245, ([], [], []))])
set_option maxRecDepth 100000 in
theorem p33x_3109_e : ck_ok p1_O none [] [] 10 [] 114 p33x_3109 = true := by decide +kernel
theorem p33x_3109_s {X : Int → Int} {LX : Nat} : ck_Ok p1_O X LX 10 p33x_3109 := ck_ok_s (ck_E0) ck_X0 ck_l0 p33x_3109_e
set_option maxRecDepth 100000 in
def p33x_3110 : ck_Sum := ((1, 0, 0), 245, [.inr (.inr (.inl 1)), .inl (1, 25, none), .inl (0, 2, none)], ([], [], [(224, 3, 3, ck_one 26), (225, 0, 185, ck_one 0), (224, 1, 1, ck_one 6)]), ([], []), [(.inr (some (.inl (ck_one 0))), 245, ([], [], []))])
set_option maxRecDepth 100000 in
theorem p33x_3110_e : ck_ok p1_O none [] [(10, [p33x_3107, p33x_3108, p33x_3109])] 216 [] 118 p33x_3110 = true := by decide +kernel
theorem p33x_3110_s {X : Int → Int} {LX : Nat} : ck_Ok p1_O X LX 216 p33x_3110 := ck_ok_s (ck_E1 (ck_S1 p33x_3107_s (ck_S1 p33x_3108_s (ck_S1 p33x_3109_s ck_S0))) ck_E0) ck_X0 ck_l0 p33x_3110_e
set_option maxRecDepth 100000 in
def p33x_3111 : ck_Sum := ((0, 0, 0), 245, [.inr (.inr (.inl 224)), .inl (0, 24, none), .inl (0, 2, none), .inl (ck_one 0)], ([], [], [(224, 3, 3, ck_one 26), (225, 0, 185, ck_one 0), (224, 1, 1, ck_one 6)]), ([(225, 0, 146)], []), [(.inr none, 245, ([], [], [(225, 0, 185, ck_one 0)]))])
set_option maxRecDepth 100000 in
theorem p33x_3111_e : ck_ok p1_O none [] [] 45 [] 116 p33x_3111 = true := by decide +kernel
theorem p33x_3111_s {X : Int → Int} {LX : Nat} : ck_Ok p1_O X LX 45 p33x_3111 := ck_ok_s (ck_E0) ck_X0 ck_l0 p33x_3111_e
set_option maxRecDepth 100000 in
def p33x_3115 : ck_Sum := ((3, 0, 0), 245, [.inr (.inr (.inl 1)), .inl (ck_one 25), .inl (ck_one 1)], ([], [], [(224, 1, 1, ck_one 6), (224, 0, 0, ck_one 31), (224, 3, 3, ck_one 0), (222, 1, 1, ck_one 6), (222, 0, 0, ck_one 30), (222, 3, 3, ck_one 0), (1, 15, 15, ck_one 0), (220, 0, 0, ck_one 24), (220, 3, 3, ck_one 0), (10, 3, 3, ck_one 0), (3, 0, 0, ck_one 3), (223, 0, 179, ck_one 0), (225, 0, 185, ck_one 0)]), ([(1, 15, 15), (220, 3, 3), (221, 0, 47), (222, 3, 3), (223, 0, 179), (224, 3, 3), (225, 0, 185)], []), [(.inr (some (.inl (ck_one 0))), 245, ([], [], [(224, 3, 3, ck_one 26), (222, 3, 3, ck_one 25), (1, 15, 15, ck_one 1), (220, 3, 3, ck_one 0), (223, 0, 179, ck_one 0), (225, 0, 185, ck_one 0)]))])
set_option maxRecDepth 100000 in
theorem p33x_3115_e : ck_ok p1_O none [] [(214, [p33x_2988]), (24, [p33x_148]), (215, [p33x_2990]), (25, [p33x_2991]), (10, [p33x_3106, p33x_3114, p33x_3113]), (216, [p33x_3110]), (45, [p33x_3111])] 213 [(28, [some (.inr (.inr (.inl 1))), some (.inl (ck_one 25)), some (.inl (ck_one 1)), some (.inl ((-1), 24, none)), none], ([], [], [(224, 3, 3, ck_one 26), (225, 0, 185, ck_one 0), (222, 3, 3, ck_one 25), (223, 0, 179, ck_one 0), (1, 15, 15, ck_one 1), (220, 3, 3, ck_one 0), (224, 1, 1, ck_one 6), (224, 0, 0, ck_one 31), (222, 1, 1, ck_one 6), (222, 0, 0, ck_one 30), (220, 0, 0, ck_one 24), (10, 3, 3, ck_one 0), (3, 0, 0, ck_one 3)]), 100, .inl 3, false), (35, [some (.inr (.inr (.inl 1))), some (.inl (ck_one 25)), some (.inl (ck_one 1)), some (.inl (0, 24, some (100, 0))), some (.inl (0, 3, none))], ([], [], [(224, 3, 3, ck_one 26), (225, 0, 185, ck_one 0), (222, 3, 3, ck_one 25), (223, 0, 179, ck_one 0), (1, 15, 15, ck_one 1), (220, 3, 3, ck_one 0), (224, 1, 1, ck_one 6), (224, 0, 0, ck_one 31), (222, 1, 1, ck_one 6), (222, 0, 0, ck_one 30), (220, 0, 0, ck_one 24), (10, 3, 3, ck_one 0), (3, 0, 0, ck_one 3)]), 300, .inl 4, true), (94, [some (.inr (.inr (.inl 1))), some (.inl (ck_one 25)), some (.inl (ck_one 1)), some (.inl (ck_one 0)), some (.inl (1, 3, none))], ([], [], [(224, 3, 3, ck_one 26), (225, 0, 185, ck_one 0), (222, 3, 3, ck_one 25), (223, 0, 179, ck_one 0), (1, 15, 15, ck_one 1), (220, 3, 3, ck_one 0), (224, 1, 1, ck_one 6), (224, 0, 0, ck_one 31), (222, 1, 1, ck_one 6), (222, 0, 0, ck_one 30), (220, 0, 0, ck_one 24), (10, 3, 3, ck_one 0), (3, 0, 0, ck_one 3)]), 500, .inl 4, true)] 330 p33x_3115 = true := by decide +kernel
theorem p33x_3115_s {X : Int → Int} {LX : Nat} : ck_Ok p1_O X LX 213 p33x_3115 := ck_ok_s (ck_E1 (ck_S1 p33x_2988_s ck_S0) (ck_E1 (ck_S1 p33x_148_s ck_S0) (ck_E1 (ck_S1 p33x_2990_s ck_S0) (ck_E1 (ck_S1 p33x_2991_s ck_S0) (ck_E1 (ck_S1 p33x_3106_s (ck_S1 p33x_3114_s (ck_S1 p33x_3113_s ck_S0))) (ck_E1 (ck_S1 p33x_3110_s ck_S0) (ck_E1 (ck_S1 p33x_3111_s ck_S0) ck_E0))))))) ck_X0 ck_l0 p33x_3115_e
set_option maxRecDepth 100000 in
def p33x_3116 : ck_Sum := ((4, 0, 0), 245, [.inr (.inr (.inl 1)), .inl (ck_one 25), .inl (ck_one 1), .inr (.inr (.inl 245))], ([], [], [(224, 1, 1, ck_one 6), (224, 0, 0, ck_one 31), (224, 3, 3, ck_one 0), (222, 1, 1, ck_one 6), (222, 0, 0, ck_one 30), (222, 3, 3, ck_one 0), (1, 15, 15, ck_one 0), (220, 0, 0, ck_one 24), (220, 3, 3, ck_one 0), (10, 3, 3, ck_one 0), (3, 0, 0, ck_one 3), (223, 0, 179, ck_one 0), (225, 0, 185, ck_one 0)]), ([(1, 15, 15), (220, 3, 3), (221, 0, 47), (222, 3, 3), (223, 0, 179), (224, 3, 3), (225, 0, 185), (245, 0, 0)], []), [(.inr (some (.inl (ck_one 0))), 245, ([], [], [(245, 0, 0, ck_one 0), (224, 3, 3, ck_one 26), (222, 3, 3, ck_one 25), (1, 15, 15, ck_one 1), (220, 3, 3, ck_one 0), (223, 0, 179, ck_one 0), (225, 0, 185, ck_one 0)]))])
set_option maxRecDepth 100000 in
theorem p33x_3116_e : ck_ok p1_O none [] [(213, [p33x_3115])] 212 [] 92 p33x_3116 = true := by decide +kernel
theorem p33x_3116_s {X : Int → Int} {LX : Nat} : ck_Ok p1_O X LX 212 p33x_3116 := ck_ok_s (ck_E1 (ck_S1 p33x_3115_s ck_S0) ck_E0) ck_X0 ck_l0 p33x_3116_e
set_option maxRecDepth 100000 in
def p33x_3156 : ck_Sum := ((3, 0, 0), 245, [.inr (.inr (.inl 1)), .inl (ck_one 25), .inl (ck_one 0)], ([], [], [(224, 1, 1, ck_one 6), (224, 0, 0, ck_one 31), (224, 3, 3, ck_one 0), (222, 1, 1, ck_one 6), (222, 0, 0, ck_one 30), (222, 3, 3, ck_one 0), (1, 15, 15, ck_one 0), (220, 0, 0, ck_one 24), (220, 3, 3, ck_one 0), (10, 3, 3, ck_one 0), (3, 0, 0, ck_one 3), (223, 0, 179, ck_one 0), (225, 0, 185, ck_one 0)]), ([(1, 15, 15), (220, 3, 3), (221, 0, 47), (222, 3, 3), (223, 0, 179), (224, 3, 3), (225, 0, 185)], []), [(.inr (some (.inl (ck_one 0))), 245, ([], [], [(224, 3, 3, ck_one 26), (222, 3, 3, ck_one 25), (1, 15, 15, ck_one 1), (220, 3, 3, ck_one 0), (223, 0, 179, ck_one 0), (225, 0, 185, ck_one 0)]))])
set_option maxRecDepth 100000 in
theorem p33x_3156_e : ck_ok p1_O none [] [(214, [p33x_2988]), (24, [p33x_148]), (215, [p33x_2990]), (25, [p33x_2991]), (10, [p33x_3106, p33x_3113, p33x_3114]), (216, [p33x_3110]), (45, [p33x_3111])] 213 [(28, [some (.inr (.inr (.inl 1))), some (.inl (ck_one 25)), some (.inl (ck_one 0)), some (.inl ((-1), 24, none)), none], ([], [], [(224, 3, 3, ck_one 26), (225, 0, 185, ck_one 0), (222, 3, 3, ck_one 25), (223, 0, 179, ck_one 0), (1, 15, 15, ck_one 1), (220, 3, 3, ck_one 0), (224, 1, 1, ck_one 6), (224, 0, 0, ck_one 31), (222, 1, 1, ck_one 6), (222, 0, 0, ck_one 30), (220, 0, 0, ck_one 24), (10, 3, 3, ck_one 0), (3, 0, 0, ck_one 3)]), 100, .inl 3, false), (35, [some (.inr (.inr (.inl 1))), some (.inl (ck_one 25)), some (.inl (ck_one 0)), some (.inl (0, 24, some (100, 0))), some (.inl (0, 3, none))], ([], [], [(224, 3, 3, ck_one 26), (225, 0, 185, ck_one 0), (222, 3, 3, ck_one 25), (223, 0, 179, ck_one 0), (1, 15, 15, ck_one 1), (220, 3, 3, ck_one 0), (224, 1, 1, ck_one 6), (224, 0, 0, ck_one 31), (222, 1, 1, ck_one 6), (222, 0, 0, ck_one 30), (220, 0, 0, ck_one 24), (10, 3, 3, ck_one 0), (3, 0, 0, ck_one 3)]), 300, .inl 4, true), (94, [some (.inr (.inr (.inl 1))), some (.inl (ck_one 25)), some (.inl (ck_one 0)), some (.inl (ck_one 0)), some (.inl (1, 3, none))], ([], [], [(224, 3, 3, ck_one 26), (225, 0, 185, ck_one 0), (222, 3, 3, ck_one 25), (223, 0, 179, ck_one 0), (1, 15, 15, ck_one 1), (220, 3, 3, ck_one 0), (224, 1, 1, ck_one 6), (224, 0, 0, ck_one 31), (222, 1, 1, ck_one 6), (222, 0, 0, ck_one 30), (220, 0, 0, ck_one 24), (10, 3, 3, ck_one 0), (3, 0, 0, ck_one 3)]), 500, .inl 4, true)] 330 p33x_3156 = true := by decide +kernel
theorem p33x_3156_s {X : Int → Int} {LX : Nat} : ck_Ok p1_O X LX 213 p33x_3156 := ck_ok_s (ck_E1 (ck_S1 p33x_2988_s ck_S0) (ck_E1 (ck_S1 p33x_148_s ck_S0) (ck_E1 (ck_S1 p33x_2990_s ck_S0) (ck_E1 (ck_S1 p33x_2991_s ck_S0) (ck_E1 (ck_S1 p33x_3106_s (ck_S1 p33x_3113_s (ck_S1 p33x_3114_s ck_S0))) (ck_E1 (ck_S1 p33x_3110_s ck_S0) (ck_E1 (ck_S1 p33x_3111_s ck_S0) ck_E0))))))) ck_X0 ck_l0 p33x_3156_e
set_option maxRecDepth 100000 in
def p33x_3157 : ck_Sum := ((4, 0, 0), 245, [.inr (.inr (.inl 1)), .inl (ck_one 25), .inl (ck_one 0), .inr (.inr (.inl 245))], ([], [], [(224, 1, 1, ck_one 6), (224, 0, 0, ck_one 31), (224, 3, 3, ck_one 0), (222, 1, 1, ck_one 6), (222, 0, 0, ck_one 30), (222, 3, 3, ck_one 0), (1, 15, 15, ck_one 0), (220, 0, 0, ck_one 24), (220, 3, 3, ck_one 0), (10, 3, 3, ck_one 0), (3, 0, 0, ck_one 3), (223, 0, 179, ck_one 0), (225, 0, 185, ck_one 0)]), ([(1, 15, 15), (220, 3, 3), (221, 0, 47), (222, 3, 3), (223, 0, 179), (224, 3, 3), (225, 0, 185), (245, 0, 0)], []), [(.inr (some (.inl (ck_one 0))), 245, ([], [], [(245, 0, 0, ck_one 0), (224, 3, 3, ck_one 26), (222, 3, 3, ck_one 25), (1, 15, 15, ck_one 1), (220, 3, 3, ck_one 0), (223, 0, 179, ck_one 0), (225, 0, 185, ck_one 0)]))])
set_option maxRecDepth 100000 in
theorem p33x_3157_e : ck_ok p1_O none [] [(213, [p33x_3156])] 212 [] 92 p33x_3157 = true := by decide +kernel
theorem p33x_3157_s {X : Int → Int} {LX : Nat} : ck_Ok p1_O X LX 212 p33x_3157 := ck_ok_s (ck_E1 (ck_S1 p33x_3156_s ck_S0) ck_E0) ck_X0 ck_l0 p33x_3157_e
set_option maxRecDepth 100000 in
def p33x_3159 : ck_Sum := ((0, 0, 0), 245, [.inr (.inr (.inl 1)), .inl (ck_one 26)], ([], [], []), ([], []), [(.inr none, 245, ([], [], []))])
set_option maxRecDepth 100000 in
theorem p33x_3159_e : ck_ok p1_O none [] [] 214 [] 84 p33x_3159 = true := by decide +kernel
theorem p33x_3159_s {X : Int → Int} {LX : Nat} : ck_Ok p1_O X LX 214 p33x_3159 := ck_ok_s (ck_E0) ck_X0 ck_l0 p33x_3159_e
set_option maxRecDepth 100000 in
def p33x_3160 : ck_Sum := ((1, 0, 0), 245, [.inr (.inr (.inl 222)), .inl (ck_one 26)], ([], [], [(222, 0, 0, ck_one 30), (223, 0, 179, ck_one 0)]), ([(222, 3, 3), (223, 0, 179)], []), [(.inr none, 245, ([], [], [(222, 3, 3, ck_one 26), (223, 0, 179, ck_one 0)]))])
set_option maxRecDepth 100000 in
theorem p33x_3160_e : ck_ok p1_O none [] [(8, [p33x_149])] 25 [] 96 p33x_3160 = true := by decide +kernel
theorem p33x_3160_s {X : Int → Int} {LX : Nat} : ck_Ok p1_O X LX 25 p33x_3160 := ck_ok_s (ck_E1 (ck_S1 p33x_149_s ck_S0) ck_E0) ck_X0 ck_l0 p33x_3160_e
set_option maxRecDepth 100000 in
def p33x_3161 : ck_Sum := ((2, 0, 0), 245, [.inr (.inr (.inl 1)), .inl (ck_one 26)], ([], [], [(220, 3, 3, ck_one 0), (222, 0, 0, ck_one 30), (222, 3, 3, ck_one 0), (223, 0, 179, ck_one 0)]), ([(222, 3, 3), (223, 0, 179)], []), [(.inr none, 245, ([], [], [(222, 3, 3, ck_one 26), (223, 0, 179, ck_one 0)]))])
set_option maxRecDepth 100000 in
theorem p33x_3161_e : ck_ok p1_O none [] [(25, [p33x_3160]), (9, [p33x_147])] 215 [(10, [some (.inr (.inr (.inl 1))), some (.inl (ck_one 26)), some (.inl (ck_one 0)), none, none], ([], [], [(222, 3, 3, ck_one 26), (223, 0, 179, ck_one 0), (220, 3, 3, ck_one 0), (222, 0, 0, ck_one 30)]), 100, .inl 2, true)] 118 p33x_3161 = true := by decide +kernel
theorem p33x_3161_s {X : Int → Int} {LX : Nat} : ck_Ok p1_O X LX 215 p33x_3161 := ck_ok_s (ck_E1 (ck_S1 p33x_3160_s ck_S0) (ck_E1 (ck_S1 p33x_147_s ck_S0) ck_E0)) ck_X0 ck_l0 p33x_3161_e
set_option maxRecDepth 100000 in
def p33x_3162 : ck_Sum := ((1, 0, 0), 245, [.inr (.inr (.inl 224)), .inl (ck_one 27)], ([], [], [(224, 0, 0, ck_one 31), (225, 0, 185, ck_one 0)]), ([(224, 3, 3), (225, 0, 185)], []), [(.inr none, 245, ([], [], [(224, 3, 3, ck_one 27), (225, 0, 185, ck_one 0)]))])
set_option maxRecDepth 100000 in
theorem p33x_3162_e : ck_ok p1_O none [] [(8, [p33x_152])] 25 [] 96 p33x_3162 = true := by decide +kernel
theorem p33x_3162_s {X : Int → Int} {LX : Nat} : ck_Ok p1_O X LX 25 p33x_3162 := ck_ok_s (ck_E1 (ck_S1 p33x_152_s ck_S0) ck_E0) ck_X0 ck_l0 p33x_3162_e
set_option maxRecDepth 100000 in
def p33x_3283 : ck_Sum := ((0, 0, 0), 245, [.inr (.inr (.inl 222)), .inl (0, 25, none), .inl (0, 2, none)], ([], [], [(222, 3, 3, ck_one 26), (223, 0, 179, ck_one 0), (222, 1, 1, ck_one 6)]), ([], []), [(.inr (some (.inl (ck_one 0))), 245, ([], [], []))])
set_option maxRecDepth 100000 in
theorem p33x_3283_e : ck_ok p1_O none [] [] 10 [] 114 p33x_3283 = true := by decide +kernel
theorem p33x_3283_s {X : Int → Int} {LX : Nat} : ck_Ok p1_O X LX 10 p33x_3283 := ck_ok_s (ck_E0) ck_X0 ck_l0 p33x_3283_e
set_option maxRecDepth 100000 in
def p33x_3291 : ck_Sum := ((0, 0, 0), 245, [.inr (.inr (.inl 224)), .inl (ck_one 0), .inl (1, 2, none)], ([], [], [(224, 3, 3, ck_one 27), (225, 0, 185, ck_one 0), (224, 1, 1, ck_one 6)]), ([], []), [(.inr (some (.inl (ck_one 0))), 245, ([], [], []))])
set_option maxRecDepth 100000 in
theorem p33x_3291_e : ck_ok p1_O none [] [] 10 [] 114 p33x_3291 = true := by decide +kernel
theorem p33x_3291_s {X : Int → Int} {LX : Nat} : ck_Ok p1_O X LX 10 p33x_3291 := ck_ok_s (ck_E0) ck_X0 ck_l0 p33x_3291_e
set_option maxRecDepth 100000 in
def p33x_3290 : ck_Sum := ((0, 0, 0), 245, [.inr (.inr (.inl 224)), .inl (ck_one 0), .inl (ck_one 0)], ([], [], [(224, 3, 3, ck_one 27), (225, 0, 185, ck_one 0), (224, 1, 1, ck_one 6)]), ([], []), [(.inr (some (.inl (ck_one 0))), 245, ([], [], []))])
set_option maxRecDepth 100000 in
theorem p33x_3290_e : ck_ok p1_O none [] [] 10 [] 114 p33x_3290 = true := by decide +kernel
theorem p33x_3290_s {X : Int → Int} {LX : Nat} : ck_Ok p1_O X LX 10 p33x_3290 := ck_ok_s (ck_E0) ck_X0 ck_l0 p33x_3290_e
set_option maxRecDepth 100000 in
def p33x_3284 : ck_Sum := ((0, 0, 0), 245, [.inr (.inr (.inl 224)), .inl (1, 26, none), .inl ((-1), 1, none)], ([], [], [(224, 3, 3, ck_one 27), (225, 0, 185, ck_one 0), (224, 1, 1, ck_one 6)]), ([], []), [(.inr (some (.inl (ck_one (-1)))), 245, ([], [], [])), (.inr (some (.inl (ck_one 0))), 245, ([], [], []))])
set_option maxRecDepth 100000 in
theorem p33x_3284_e : ck_ok p1_O none [] [] 10 [] 114 p33x_3284 = true := by decide +kernel
theorem p33x_3284_s {X : Int → Int} {LX : Nat} : ck_Ok p1_O X LX 10 p33x_3284 := ck_ok_s (ck_E0) ck_X0 ck_l0 p33x_3284_e
set_option maxRecDepth 100000 in
def p33x_3285 : ck_Sum := ((0, 0, 0), 245, [.inr (.inr (.inl 224)), .inl (1, 26, none), .inl (1, 3, none)], ([], [], [(224, 3, 3, ck_one 27), (225, 0, 185, ck_one 0), (224, 1, 1, ck_one 6)]), ([], []), [(.inr (some (.inl (ck_one 0))), 245, ([], [], []))])
set_option maxRecDepth 100000 in
theorem p33x_3285_e : ck_ok p1_O none [] [] 10 [] 114 p33x_3285 = true := by decide +kernel
theorem p33x_3285_s {X : Int → Int} {LX : Nat} : ck_Ok p1_O X LX 10 p33x_3285 := ck_ok_s (ck_E0) ck_X0 ck_l0 p33x_3285_e
set_option maxRecDepth 100000 in
def p33x_3286 : ck_Sum := ((0, 0, 0), 245, [.inr (.inr (.inl 224)), .inl (1, 26, none), .inl (0, 2, none)], ([], [], [(224, 3, 3, ck_one 27), (225, 0, 185, ck_one 0), (224, 1, 1, ck_one 6)]), ([], []), [(.inr (some (.inl (ck_one 0))), 245, ([], [], []))])
set_option maxRecDepth 100000 in
theorem p33x_3286_e : ck_ok p1_O none [] [] 10 [] 114 p33x_3286 = true := by decide +kernel
theorem p33x_3286_s {X : Int → Int} {LX : Nat} : ck_Ok p1_O X LX 10 p33x_3286 := ck_ok_s (ck_E0) ck_X0 ck_l0 p33x_3286_e
set_option maxRecDepth 100000 in
def p33x_3287 : ck_Sum := ((1, 0, 0), 245, [.inr (.inr (.inl 1)), .inl (1, 26, none), .inl (0, 2, none)], ([], [], [(224, 3, 3, ck_one 27), (225, 0, 185, ck_one 0), (224, 1, 1, ck_one 6)]), ([], []), [(.inr (some (.inl (ck_one 0))), 245, ([], [], []))])
set_option maxRecDepth 100000 in
theorem p33x_3287_e : ck_ok p1_O none [] [(10, [p33x_3284, p33x_3285, p33x_3286])] 216 [] 118 p33x_3287 = true := by decide +kernel
theorem p33x_3287_s {X : Int → Int} {LX : Nat} : ck_Ok p1_O X LX 216 p33x_3287 := ck_ok_s (ck_E1 (ck_S1 p33x_3284_s (ck_S1 p33x_3285_s (ck_S1 p33x_3286_s ck_S0))) ck_E0) ck_X0 ck_l0 p33x_3287_e
set_option maxRecDepth 100000 in
def p33x_3288 : ck_Sum := ((0, 0, 0), 245, [.inr (.inr (.inl 224)), .inl (0, 25, none), .inl (0, 2, none), .inl (ck_one 0)], ([], [], [(224, 3, 3, ck_one 27), (225, 0, 185, ck_one 0), (224, 1, 1, ck_one 6)]), ([(225, 0, 152)], []), [(.inr none, 245, ([], [], [(225, 0, 185, ck_one 0)]))])
set_option maxRecDepth 100000 in
theorem p33x_3288_e : ck_ok p1_O none [] [] 45 [] 116 p33x_3288 = true := by decide +kernel
theorem p33x_3288_s {X : Int → Int} {LX : Nat} : ck_Ok p1_O X LX 45 p33x_3288 := ck_ok_s (ck_E0) ck_X0 ck_l0 p33x_3288_e
set_option maxRecDepth 100000 in
def p33x_3292 : ck_Sum := ((3, 0, 0), 245, [.inr (.inr (.inl 1)), .inl (ck_one 26), .inl (ck_one 1)], ([], [], [(224, 1, 1, ck_one 6), (224, 0, 0, ck_one 31), (224, 3, 3, ck_one 0), (222, 1, 1, ck_one 6), (222, 0, 0, ck_one 30), (222, 3, 3, ck_one 0), (1, 15, 15, ck_one 0), (220, 0, 0, ck_one 24), (220, 3, 3, ck_one 0), (10, 3, 3, ck_one 0), (3, 0, 0, ck_one 3), (223, 0, 179, ck_one 0), (225, 0, 185, ck_one 0)]), ([(1, 15, 15), (220, 3, 3), (221, 0, 47), (222, 3, 3), (223, 0, 179), (224, 3, 3), (225, 0, 185)], []), [(.inr (some (.inl (ck_one 0))), 245, ([], [], [(224, 3, 3, ck_one 27), (222, 3, 3, ck_one 26), (1, 15, 15, ck_one 1), (220, 3, 3, ck_one 0), (223, 0, 179, ck_one 0), (225, 0, 185, ck_one 0)]))])
set_option maxRecDepth 100000 in
theorem p33x_3292_e : ck_ok p1_O none [] [(214, [p33x_3159]), (24, [p33x_148]), (215, [p33x_3161]), (25, [p33x_3162]), (10, [p33x_3283, p33x_3291, p33x_3290]), (216, [p33x_3287]), (45, [p33x_3288])] 213 [(28, [some (.inr (.inr (.inl 1))), some (.inl (ck_one 26)), some (.inl (ck_one 1)), some (.inl ((-1), 25, none)), none], ([], [], [(224, 3, 3, ck_one 27), (225, 0, 185, ck_one 0), (222, 3, 3, ck_one 26), (223, 0, 179, ck_one 0), (1, 15, 15, ck_one 1), (220, 3, 3, ck_one 0), (224, 1, 1, ck_one 6), (224, 0, 0, ck_one 31), (222, 1, 1, ck_one 6), (222, 0, 0, ck_one 30), (220, 0, 0, ck_one 24), (10, 3, 3, ck_one 0), (3, 0, 0, ck_one 3)]), 100, .inl 3, false), (35, [some (.inr (.inr (.inl 1))), some (.inl (ck_one 26)), some (.inl (ck_one 1)), some (.inl (0, 25, some (100, 0))), some (.inl (0, 3, none))], ([], [], [(224, 3, 3, ck_one 27), (225, 0, 185, ck_one 0), (222, 3, 3, ck_one 26), (223, 0, 179, ck_one 0), (1, 15, 15, ck_one 1), (220, 3, 3, ck_one 0), (224, 1, 1, ck_one 6), (224, 0, 0, ck_one 31), (222, 1, 1, ck_one 6), (222, 0, 0, ck_one 30), (220, 0, 0, ck_one 24), (10, 3, 3, ck_one 0), (3, 0, 0, ck_one 3)]), 300, .inl 4, true), (94, [some (.inr (.inr (.inl 1))), some (.inl (ck_one 26)), some (.inl (ck_one 1)), some (.inl (ck_one 0)), some (.inl (1, 3, none))], ([], [], [(224, 3, 3, ck_one 27), (225, 0, 185, ck_one 0), (222, 3, 3, ck_one 26), (223, 0, 179, ck_one 0), (1, 15, 15, ck_one 1), (220, 3, 3, ck_one 0), (224, 1, 1, ck_one 6), (224, 0, 0, ck_one 31), (222, 1, 1, ck_one 6), (222, 0, 0, ck_one 30), (220, 0, 0, ck_one 24), (10, 3, 3, ck_one 0), (3, 0, 0, ck_one 3)]), 500, .inl 4, true)] 330 p33x_3292 = true := by decide +kernel
theorem p33x_3292_s {X : Int → Int} {LX : Nat} : ck_Ok p1_O X LX 213 p33x_3292 := ck_ok_s (ck_E1 (ck_S1 p33x_3159_s ck_S0) (ck_E1 (ck_S1 p33x_148_s ck_S0) (ck_E1 (ck_S1 p33x_3161_s ck_S0) (ck_E1 (ck_S1 p33x_3162_s ck_S0) (ck_E1 (ck_S1 p33x_3283_s (ck_S1 p33x_3291_s (ck_S1 p33x_3290_s ck_S0))) (ck_E1 (ck_S1 p33x_3287_s ck_S0) (ck_E1 (ck_S1 p33x_3288_s ck_S0) ck_E0))))))) ck_X0 ck_l0 p33x_3292_e
set_option maxRecDepth 100000 in
def p33x_3293 : ck_Sum := ((4, 0, 0), 245, [.inr (.inr (.inl 1)), .inl (ck_one 26), .inl (ck_one 1), .inr (.inr (.inl 245))], ([], [], [(224, 1, 1, ck_one 6), (224, 0, 0, ck_one 31), (224, 3, 3, ck_one 0), (222, 1, 1, ck_one 6), (222, 0, 0, ck_one 30), (222, 3, 3, ck_one 0), (1, 15, 15, ck_one 0), (220, 0, 0, ck_one 24), (220, 3, 3, ck_one 0), (10, 3, 3, ck_one 0), (3, 0, 0, ck_one 3), (223, 0, 179, ck_one 0), (225, 0, 185, ck_one 0)]), ([(1, 15, 15), (220, 3, 3), (221, 0, 47), (222, 3, 3), (223, 0, 179), (224, 3, 3), (225, 0, 185), (245, 0, 0)], []), [(.inr (some (.inl (ck_one 0))), 245, ([], [], [(245, 0, 0, ck_one 0), (224, 3, 3, ck_one 27), (222, 3, 3, ck_one 26), (1, 15, 15, ck_one 1), (220, 3, 3, ck_one 0), (223, 0, 179, ck_one 0), (225, 0, 185, ck_one 0)]))])
set_option maxRecDepth 100000 in
theorem p33x_3293_e : ck_ok p1_O none [] [(213, [p33x_3292])] 212 [] 92 p33x_3293 = true := by decide +kernel
theorem p33x_3293_s {X : Int → Int} {LX : Nat} : ck_Ok p1_O X LX 212 p33x_3293 := ck_ok_s (ck_E1 (ck_S1 p33x_3292_s ck_S0) ck_E0) ck_X0 ck_l0 p33x_3293_e
set_option maxRecDepth 100000 in
def p33x_3335 : ck_Sum := ((3, 0, 0), 245, [.inr (.inr (.inl 1)), .inl (ck_one 26), .inl (ck_one 0)], ([], [], [(224, 1, 1, ck_one 6), (224, 0, 0, ck_one 31), (224, 3, 3, ck_one 0), (222, 1, 1, ck_one 6), (222, 0, 0, ck_one 30), (222, 3, 3, ck_one 0), (1, 15, 15, ck_one 0), (220, 0, 0, ck_one 24), (220, 3, 3, ck_one 0), (10, 3, 3, ck_one 0), (3, 0, 0, ck_one 3), (223, 0, 179, ck_one 0), (225, 0, 185, ck_one 0)]), ([(1, 15, 15), (220, 3, 3), (221, 0, 47), (222, 3, 3), (223, 0, 179), (224, 3, 3), (225, 0, 185)], []), [(.inr (some (.inl (ck_one 0))), 245, ([], [], [(224, 3, 3, ck_one 27), (222, 3, 3, ck_one 26), (1, 15, 15, ck_one 1), (220, 3, 3, ck_one 0), (223, 0, 179, ck_one 0), (225, 0, 185, ck_one 0)]))])
set_option maxRecDepth 100000 in
theorem p33x_3335_e : ck_ok p1_O none [] [(214, [p33x_3159]), (24, [p33x_148]), (215, [p33x_3161]), (25, [p33x_3162]), (10, [p33x_3283, p33x_3290, p33x_3291]), (216, [p33x_3287]), (45, [p33x_3288])] 213 [(28, [some (.inr (.inr (.inl 1))), some (.inl (ck_one 26)), some (.inl (ck_one 0)), some (.inl ((-1), 25, none)), none], ([], [], [(224, 3, 3, ck_one 27), (225, 0, 185, ck_one 0), (222, 3, 3, ck_one 26), (223, 0, 179, ck_one 0), (1, 15, 15, ck_one 1), (220, 3, 3, ck_one 0), (224, 1, 1, ck_one 6), (224, 0, 0, ck_one 31), (222, 1, 1, ck_one 6), (222, 0, 0, ck_one 30), (220, 0, 0, ck_one 24), (10, 3, 3, ck_one 0), (3, 0, 0, ck_one 3)]), 100, .inl 3, false), (35, [some (.inr (.inr (.inl 1))), some (.inl (ck_one 26)), some (.inl (ck_one 0)), some (.inl (0, 25, some (100, 0))), some (.inl (0, 3, none))], ([], [], [(224, 3, 3, ck_one 27), (225, 0, 185, ck_one 0), (222, 3, 3, ck_one 26), (223, 0, 179, ck_one 0), (1, 15, 15, ck_one 1), (220, 3, 3, ck_one 0), (224, 1, 1, ck_one 6), (224, 0, 0, ck_one 31), (222, 1, 1, ck_one 6), (222, 0, 0, ck_one 30), (220, 0, 0, ck_one 24), (10, 3, 3, ck_one 0), (3, 0, 0, ck_one 3)]), 300, .inl 4, true), (94, [some (.inr (.inr (.inl 1))), some (.inl (ck_one 26)), some (.inl (ck_one 0)), some (.inl (ck_one 0)), some (.inl (1, 3, none))], ([], [], [(224, 3, 3, ck_one 27), (225, 0, 185, ck_one 0), (222, 3, 3, ck_one 26), (223, 0, 179, ck_one 0), (1, 15, 15, ck_one 1), (220, 3, 3, ck_one 0), (224, 1, 1, ck_one 6), (224, 0, 0, ck_one 31), (222, 1, 1, ck_one 6), (222, 0, 0, ck_one 30), (220, 0, 0, ck_one 24), (10, 3, 3, ck_one 0), (3, 0, 0, ck_one 3)]), 500, .inl 4, true)] 330 p33x_3335 = true := by decide +kernel
theorem p33x_3335_s {X : Int → Int} {LX : Nat} : ck_Ok p1_O X LX 213 p33x_3335 := ck_ok_s (ck_E1 (ck_S1 p33x_3159_s ck_S0) (ck_E1 (ck_S1 p33x_148_s ck_S0) (ck_E1 (ck_S1 p33x_3161_s ck_S0) (ck_E1 (ck_S1 p33x_3162_s ck_S0) (ck_E1 (ck_S1 p33x_3283_s (ck_S1 p33x_3290_s (ck_S1 p33x_3291_s ck_S0))) (ck_E1 (ck_S1 p33x_3287_s ck_S0) (ck_E1 (ck_S1 p33x_3288_s ck_S0) ck_E0))))))) ck_X0 ck_l0 p33x_3335_e
set_option maxRecDepth 100000 in
def p33x_3336 : ck_Sum := ((4, 0, 0), 245, [.inr (.inr (.inl 1)), .inl (ck_one 26), .inl (ck_one 0), .inr (.inr (.inl 245))], ([], [], [(224, 1, 1, ck_one 6), (224, 0, 0, ck_one 31), (224, 3, 3, ck_one 0), (222, 1, 1, ck_one 6), (222, 0, 0, ck_one 30), (222, 3, 3, ck_one 0), (1, 15, 15, ck_one 0), (220, 0, 0, ck_one 24), (220, 3, 3, ck_one 0), (10, 3, 3, ck_one 0), (3, 0, 0, ck_one 3), (223, 0, 179, ck_one 0), (225, 0, 185, ck_one 0)]), ([(1, 15, 15), (220, 3, 3), (221, 0, 47), (222, 3, 3), (223, 0, 179), (224, 3, 3), (225, 0, 185), (245, 0, 0)], []), [(.inr (some (.inl (ck_one 0))), 245, ([], [], [(245, 0, 0, ck_one 0), (224, 3, 3, ck_one 27), (222, 3, 3, ck_one 26), (1, 15, 15, ck_one 1), (220, 3, 3, ck_one 0), (223, 0, 179, ck_one 0), (225, 0, 185, ck_one 0)]))])
set_option maxRecDepth 100000 in
theorem p33x_3336_e : ck_ok p1_O none [] [(213, [p33x_3335])] 212 [] 92 p33x_3336 = true := by decide +kernel
theorem p33x_3336_s {X : Int → Int} {LX : Nat} : ck_Ok p1_O X LX 212 p33x_3336 := ck_ok_s (ck_E1 (ck_S1 p33x_3335_s ck_S0) ck_E0) ck_X0 ck_l0 p33x_3336_e
set_option maxRecDepth 100000 in
def p33x_3338 : ck_Sum := ((0, 0, 0), 245, [.inr (.inr (.inl 1)), .inl (ck_one 27)], ([], [], []), ([], []), [(.inr none, 245, ([], [], []))])
set_option maxRecDepth 100000 in
theorem p33x_3338_e : ck_ok p1_O none [] [] 214 [] 84 p33x_3338 = true := by decide +kernel
theorem p33x_3338_s {X : Int → Int} {LX : Nat} : ck_Ok p1_O X LX 214 p33x_3338 := ck_ok_s (ck_E0) ck_X0 ck_l0 p33x_3338_e
set_option maxRecDepth 100000 in
def p33x_3339 : ck_Sum := ((1, 0, 0), 245, [.inr (.inr (.inl 222)), .inl (ck_one 27)], ([], [], [(222, 0, 0, ck_one 30), (223, 0, 179, ck_one 0)]), ([(222, 3, 3), (223, 0, 179)], []), [(.inr none, 245, ([], [], [(222, 3, 3, ck_one 27), (223, 0, 179, ck_one 0)]))])
set_option maxRecDepth 100000 in
theorem p33x_3339_e : ck_ok p1_O none [] [(8, [p33x_149])] 25 [] 96 p33x_3339 = true := by decide +kernel
theorem p33x_3339_s {X : Int → Int} {LX : Nat} : ck_Ok p1_O X LX 25 p33x_3339 := ck_ok_s (ck_E1 (ck_S1 p33x_149_s ck_S0) ck_E0) ck_X0 ck_l0 p33x_3339_e
set_option maxRecDepth 100000 in
def p33x_3340 : ck_Sum := ((2, 0, 0), 245, [.inr (.inr (.inl 1)), .inl (ck_one 27)], ([], [], [(220, 3, 3, ck_one 0), (222, 0, 0, ck_one 30), (222, 3, 3, ck_one 0), (223, 0, 179, ck_one 0)]), ([(222, 3, 3), (223, 0, 179)], []), [(.inr none, 245, ([], [], [(222, 3, 3, ck_one 27), (223, 0, 179, ck_one 0)]))])
set_option maxRecDepth 100000 in
theorem p33x_3340_e : ck_ok p1_O none [] [(25, [p33x_3339]), (9, [p33x_147])] 215 [(10, [some (.inr (.inr (.inl 1))), some (.inl (ck_one 27)), some (.inl (ck_one 0)), none, none], ([], [], [(222, 3, 3, ck_one 27), (223, 0, 179, ck_one 0), (220, 3, 3, ck_one 0), (222, 0, 0, ck_one 30)]), 100, .inl 2, true)] 118 p33x_3340 = true := by decide +kernel
theorem p33x_3340_s {X : Int → Int} {LX : Nat} : ck_Ok p1_O X LX 215 p33x_3340 := ck_ok_s (ck_E1 (ck_S1 p33x_3339_s ck_S0) (ck_E1 (ck_S1 p33x_147_s ck_S0) ck_E0)) ck_X0 ck_l0 p33x_3340_e
set_option maxRecDepth 100000 in
def p33x_3341 : ck_Sum := ((1, 0, 0), 245, [.inr (.inr (.inl 224)), .inl (ck_one 28)], ([], [], [(224, 0, 0, ck_one 31), (225, 0, 185, ck_one 0)]), ([(224, 3, 3), (225, 0, 185)], []), [(.inr none, 245, ([], [], [(224, 3, 3, ck_one 28), (225, 0, 185, ck_one 0)]))])
set_option maxRecDepth 100000 in
theorem p33x_3341_e : ck_ok p1_O none [] [(8, [p33x_152])] 25 [] 96 p33x_3341 = true := by decide +kernel
theorem p33x_3341_s {X : Int → Int} {LX : Nat} : ck_Ok p1_O X LX 25 p33x_3341 := ck_ok_s (ck_E1 (ck_S1 p33x_152_s ck_S0) ck_E0) ck_X0 ck_l0 p33x_3341_e
set_option maxRecDepth 100000 in
def p33x_3468 : ck_Sum := ((0, 0, 0), 245, [.inr (.inr (.inl 222)), .inl (0, 26, none), .inl (0, 2, none)], ([], [], [(222, 3, 3, ck_one 27), (223, 0, 179, ck_one 0), (222, 1, 1, ck_one 6)]), ([], []), [(.inr (some (.inl (ck_one 0))), 245, ([], [], []))])
set_option maxRecDepth 100000 in
theorem p33x_3468_e : ck_ok p1_O none [] [] 10 [] 114 p33x_3468 = true := by decide +kernel
theorem p33x_3468_s {X : Int → Int} {LX : Nat} : ck_Ok p1_O X LX 10 p33x_3468 := ck_ok_s (ck_E0) ck_X0 ck_l0 p33x_3468_e
set_option maxRecDepth 100000 in
def p33x_3476 : ck_Sum := ((0, 0, 0), 245, [.inr (.inr (.inl 224)), .inl (ck_one 0), .inl (1, 2, none)], ([], [], [(224, 3, 3, ck_one 28), (225, 0, 185, ck_one 0), (224, 1, 1, ck_one 6)]), ([], []), [(.inr (some (.inl (ck_one 0))), 245, ([], [], []))])
set_option maxRecDepth 100000 in
theorem p33x_3476_e : ck_ok p1_O none [] [] 10 [] 114 p33x_3476 = true := by decide +kernel
theorem p33x_3476_s {X : Int → Int} {LX : Nat} : ck_Ok p1_O X LX 10 p33x_3476 := ck_ok_s (ck_E0) ck_X0 ck_l0 p33x_3476_e
set_option maxRecDepth 100000 in
def p33x_3475 : ck_Sum := ((0, 0, 0), 245, [.inr (.inr (.inl 224)), .inl (ck_one 0), .inl (ck_one 0)], ([], [], [(224, 3, 3, ck_one 28), (225, 0, 185, ck_one 0), (224, 1, 1, ck_one 6)]), ([], []), [(.inr (some (.inl (ck_one 0))), 245, ([], [], []))])
set_option maxRecDepth 100000 in
theorem p33x_3475_e : ck_ok p1_O none [] [] 10 [] 114 p33x_3475 = true := by decide +kernel
theorem p33x_3475_s {X : Int → Int} {LX : Nat} : ck_Ok p1_O X LX 10 p33x_3475 := ck_ok_s (ck_E0) ck_X0 ck_l0 p33x_3475_e
set_option maxRecDepth 100000 in
def p33x_3469 : ck_Sum := ((0, 0, 0), 245, [.inr (.inr (.inl 224)), .inl (1, 27, none), .inl ((-1), 1, none)], ([], [], [(224, 3, 3, ck_one 28), (225, 0, 185, ck_one 0), (224, 1, 1, ck_one 6)]), ([], []), [(.inr (some (.inl (ck_one (-1)))), 245, ([], [], [])), (.inr (some (.inl (ck_one 0))), 245, ([], [], []))])
set_option maxRecDepth 100000 in
theorem p33x_3469_e : ck_ok p1_O none [] [] 10 [] 114 p33x_3469 = true := by decide +kernel
theorem p33x_3469_s {X : Int → Int} {LX : Nat} : ck_Ok p1_O X LX 10 p33x_3469 := ck_ok_s (ck_E0) ck_X0 ck_l0 p33x_3469_e
set_option maxRecDepth 100000 in
def p33x_3470 : ck_Sum := ((0, 0, 0), 245, [.inr (.inr (.inl 224)), .inl (1, 27, none), .inl (1, 3, none)], ([], [], [(224, 3, 3, ck_one 28), (225, 0, 185, ck_one 0), (224, 1, 1, ck_one 6)]), ([], []), [(.inr (some (.inl (ck_one 0))), 245, ([], [], []))])
set_option maxRecDepth 100000 in
theorem p33x_3470_e : ck_ok p1_O none [] [] 10 [] 114 p33x_3470 = true := by decide +kernel
theorem p33x_3470_s {X : Int → Int} {LX : Nat} : ck_Ok p1_O X LX 10 p33x_3470 := ck_ok_s (ck_E0) ck_X0 ck_l0 p33x_3470_e
set_option maxRecDepth 100000 in
def p33x_3471 : ck_Sum := ((0, 0, 0), 245, [.inr (.inr (.inl 224)), .inl (1, 27, none), .inl (0, 2, none)], ([], [], [(224, 3, 3, ck_one 28), (225, 0, 185, ck_one 0), (224, 1, 1, ck_one 6)]), ([], []), [(.inr (some (.inl (ck_one 0))), 245, ([], [], []))])
set_option maxRecDepth 100000 in
theorem p33x_3471_e : ck_ok p1_O none [] [] 10 [] 114 p33x_3471 = true := by decide +kernel
theorem p33x_3471_s {X : Int → Int} {LX : Nat} : ck_Ok p1_O X LX 10 p33x_3471 := ck_ok_s (ck_E0) ck_X0 ck_l0 p33x_3471_e
set_option maxRecDepth 100000 in
def p33x_3472 : ck_Sum := ((1, 0, 0), 245, [.inr (.inr (.inl 1)), .inl (1, 27, none), .inl (0, 2, none)], ([], [], [(224, 3, 3, ck_one 28), (225, 0, 185, ck_one 0), (224, 1, 1, ck_one 6)]), ([], []), [(.inr (some (.inl (ck_one 0))), 245, ([], [], []))])
set_option maxRecDepth 100000 in
theorem p33x_3472_e : ck_ok p1_O none [] [(10, [p33x_3469, p33x_3470, p33x_3471])] 216 [] 118 p33x_3472 = true := by decide +kernel
theorem p33x_3472_s {X : Int → Int} {LX : Nat} : ck_Ok p1_O X LX 216 p33x_3472 := ck_ok_s (ck_E1 (ck_S1 p33x_3469_s (ck_S1 p33x_3470_s (ck_S1 p33x_3471_s ck_S0))) ck_E0) ck_X0 ck_l0 p33x_3472_e
set_option maxRecDepth 100000 in
def p33x_3473 : ck_Sum := ((0, 0, 0), 245, [.inr (.inr (.inl 224)), .inl (0, 26, none), .inl (0, 2, none), .inl (ck_one 0)], ([], [], [(224, 3, 3, ck_one 28), (225, 0, 185, ck_one 0), (224, 1, 1, ck_one 6)]), ([(225, 0, 158)], []), [(.inr none, 245, ([], [], [(225, 0, 185, ck_one 0)]))])
set_option maxRecDepth 100000 in
theorem p33x_3473_e : ck_ok p1_O none [] [] 45 [] 116 p33x_3473 = true := by decide +kernel
theorem p33x_3473_s {X : Int → Int} {LX : Nat} : ck_Ok p1_O X LX 45 p33x_3473 := ck_ok_s (ck_E0) ck_X0 ck_l0 p33x_3473_e
set_option maxRecDepth 100000 in
def p33x_3477 : ck_Sum := ((3, 0, 0), 245, [.inr (.inr (.inl 1)), .inl (ck_one 27), .inl (ck_one 1)], ([], [], [(224, 1, 1, ck_one 6), (224, 0, 0, ck_one 31), (224, 3, 3, ck_one 0), (222, 1, 1, ck_one 6), (222, 0, 0, ck_one 30), (222, 3, 3, ck_one 0), (1, 15, 15, ck_one 0), (220, 0, 0, ck_one 24), (220, 3, 3, ck_one 0), (10, 3, 3, ck_one 0), (3, 0, 0, ck_one 3), (223, 0, 179, ck_one 0), (225, 0, 185, ck_one 0)]), ([(1, 15, 15), (220, 3, 3), (221, 0, 47), (222, 3, 3), (223, 0, 179), (224, 3, 3), (225, 0, 185)], []), [(.inr (some (.inl (ck_one 0))), 245, ([], [], [(224, 3, 3, ck_one 28), (222, 3, 3, ck_one 27), (1, 15, 15, ck_one 1), (220, 3, 3, ck_one 0), (223, 0, 179, ck_one 0), (225, 0, 185, ck_one 0)]))])
set_option maxRecDepth 100000 in
theorem p33x_3477_e : ck_ok p1_O none [] [(214, [p33x_3338]), (24, [p33x_148]), (215, [p33x_3340]), (25, [p33x_3341]), (10, [p33x_3468, p33x_3476, p33x_3475]), (216, [p33x_3472]), (45, [p33x_3473])] 213 [(28, [some (.inr (.inr (.inl 1))), some (.inl (ck_one 27)), some (.inl (ck_one 1)), some (.inl ((-1), 26, none)), none], ([], [], [(224, 3, 3, ck_one 28), (225, 0, 185, ck_one 0), (222, 3, 3, ck_one 27), (223, 0, 179, ck_one 0), (1, 15, 15, ck_one 1), (220, 3, 3, ck_one 0), (224, 1, 1, ck_one 6), (224, 0, 0, ck_one 31), (222, 1, 1, ck_one 6), (222, 0, 0, ck_one 30), (220, 0, 0, ck_one 24), (10, 3, 3, ck_one 0), (3, 0, 0, ck_one 3)]), 100, .inl 3, false), (35, [some (.inr (.inr (.inl 1))), some (.inl (ck_one 27)), some (.inl (ck_one 1)), some (.inl (0, 26, some (100, 0))), some (.inl (0, 3, none))], ([], [], [(224, 3, 3, ck_one 28), (225, 0, 185, ck_one 0), (222, 3, 3, ck_one 27), (223, 0, 179, ck_one 0), (1, 15, 15, ck_one 1), (220, 3, 3, ck_one 0), (224, 1, 1, ck_one 6), (224, 0, 0, ck_one 31), (222, 1, 1, ck_one 6), (222, 0, 0, ck_one 30), (220, 0, 0, ck_one 24), (10, 3, 3, ck_one 0), (3, 0, 0, ck_one 3)]), 300, .inl 4, true), (94, [some (.inr (.inr (.inl 1))), some (.inl (ck_one 27)), some (.inl (ck_one 1)), some (.inl (ck_one 0)), some (.inl (1, 3, none))], ([], [], [(224, 3, 3, ck_one 28), (225, 0, 185, ck_one 0), (222, 3, 3, ck_one 27), (223, 0, 179, ck_one 0), (1, 15, 15, ck_one 1), (220, 3, 3, ck_one 0), (224, 1, 1, ck_one 6), (224, 0, 0, ck_one 31), (222, 1, 1, ck_one 6), (222, 0, 0, ck_one 30), (220, 0, 0, ck_one 24), (10, 3, 3, ck_one 0), (3, 0, 0, ck_one 3)]), 500, .inl 4, true)] 330 p33x_3477 = true := by decide +kernel
theorem p33x_3477_s {X : Int → Int} {LX : Nat} : ck_Ok p1_O X LX 213 p33x_3477 := ck_ok_s (ck_E1 (ck_S1 p33x_3338_s ck_S0) (ck_E1 (ck_S1 p33x_148_s ck_S0) (ck_E1 (ck_S1 p33x_3340_s ck_S0) (ck_E1 (ck_S1 p33x_3341_s ck_S0) (ck_E1 (ck_S1 p33x_3468_s (ck_S1 p33x_3476_s (ck_S1 p33x_3475_s ck_S0))) (ck_E1 (ck_S1 p33x_3472_s ck_S0) (ck_E1 (ck_S1 p33x_3473_s ck_S0) ck_E0))))))) ck_X0 ck_l0 p33x_3477_e
set_option maxRecDepth 100000 in
def p33x_3478 : ck_Sum := ((4, 0, 0), 245, [.inr (.inr (.inl 1)), .inl (ck_one 27), .inl (ck_one 1), .inr (.inr (.inl 245))], ([], [], [(224, 1, 1, ck_one 6), (224, 0, 0, ck_one 31), (224, 3, 3, ck_one 0), (222, 1, 1, ck_one 6), (222, 0, 0, ck_one 30), (222, 3, 3, ck_one 0), (1, 15, 15, ck_one 0), (220, 0, 0, ck_one 24), (220, 3, 3, ck_one 0), (10, 3, 3, ck_one 0), (3, 0, 0, ck_one 3), (223, 0, 179, ck_one 0), (225, 0, 185, ck_one 0)]), ([(1, 15, 15), (220, 3, 3), (221, 0, 47), (222, 3, 3), (223, 0, 179), (224, 3, 3), (225, 0, 185), (245, 0, 0)], []), [(.inr (some (.inl (ck_one 0))), 245, ([], [], [(245, 0, 0, ck_one 0), (224, 3, 3, ck_one 28), (222, 3, 3, ck_one 27), (1, 15, 15, ck_one 1), (220, 3, 3, ck_one 0), (223, 0, 179, ck_one 0), (225, 0, 185, ck_one 0)]))])
set_option maxRecDepth 100000 in
theorem p33x_3478_e : ck_ok p1_O none [] [(213, [p33x_3477])] 212 [] 92 p33x_3478 = true := by decide +kernel
theorem p33x_3478_s {X : Int → Int} {LX : Nat} : ck_Ok p1_O X LX 212 p33x_3478 := ck_ok_s (ck_E1 (ck_S1 p33x_3477_s ck_S0) ck_E0) ck_X0 ck_l0 p33x_3478_e
set_option maxRecDepth 100000 in
def p33x_3522 : ck_Sum := ((3, 0, 0), 245, [.inr (.inr (.inl 1)), .inl (ck_one 27), .inl (ck_one 0)], ([], [], [(224, 1, 1, ck_one 6), (224, 0, 0, ck_one 31), (224, 3, 3, ck_one 0), (222, 1, 1, ck_one 6), (222, 0, 0, ck_one 30), (222, 3, 3, ck_one 0), (1, 15, 15, ck_one 0), (220, 0, 0, ck_one 24), (220, 3, 3, ck_one 0), (10, 3, 3, ck_one 0), (3, 0, 0, ck_one 3), (223, 0, 179, ck_one 0), (225, 0, 185, ck_one 0)]), ([(1, 15, 15), (220, 3, 3), (221, 0, 47), (222, 3, 3), (223, 0, 179), (224, 3, 3), (225, 0, 185)], []), [(.inr (some (.inl (ck_one 0))), 245, ([], [], [(224, 3, 3, ck_one 28), (222, 3, 3, ck_one 27), (1, 15, 15, ck_one 1), (220, 3, 3, ck_one 0), (223, 0, 179, ck_one 0), (225, 0, 185, ck_one 0)]))])
set_option maxRecDepth 100000 in
theorem p33x_3522_e : ck_ok p1_O none [] [(214, [p33x_3338]), (24, [p33x_148]), (215, [p33x_3340]), (25, [p33x_3341]), (10, [p33x_3468, p33x_3475, p33x_3476]), (216, [p33x_3472]), (45, [p33x_3473])] 213 [(28, [some (.inr (.inr (.inl 1))), some (.inl (ck_one 27)), some (.inl (ck_one 0)), some (.inl ((-1), 26, none)), none], ([], [], [(224, 3, 3, ck_one 28), (225, 0, 185, ck_one 0), (222, 3, 3, ck_one 27), (223, 0, 179, ck_one 0), (1, 15, 15, ck_one 1), (220, 3, 3, ck_one 0), (224, 1, 1, ck_one 6), (224, 0, 0, ck_one 31), (222, 1, 1, ck_one 6), (222, 0, 0, ck_one 30), (220, 0, 0, ck_one 24), (10, 3, 3, ck_one 0), (3, 0, 0, ck_one 3)]), 100, .inl 3, false), (35, [some (.inr (.inr (.inl 1))), some (.inl (ck_one 27)), some (.inl (ck_one 0)), some (.inl (0, 26, some (100, 0))), some (.inl (0, 3, none))], ([], [], [(224, 3, 3, ck_one 28), (225, 0, 185, ck_one 0), (222, 3, 3, ck_one 27), (223, 0, 179, ck_one 0), (1, 15, 15, ck_one 1), (220, 3, 3, ck_one 0), (224, 1, 1, ck_one 6), (224, 0, 0, ck_one 31), (222, 1, 1, ck_one 6), (222, 0, 0, ck_one 30), (220, 0, 0, ck_one 24), (10, 3, 3, ck_one 0), (3, 0, 0, ck_one 3)]), 300, .inl 4, true), (94, [some (.inr (.inr (.inl 1))), some (.inl (ck_one 27)), some (.inl (ck_one 0)), some (.inl (ck_one 0)), some (.inl (1, 3, none))], ([], [], [(224, 3, 3, ck_one 28), (225, 0, 185, ck_one 0), (222, 3, 3, ck_one 27), (223, 0, 179, ck_one 0), (1, 15, 15, ck_one 1), (220, 3, 3, ck_one 0), (224, 1, 1, ck_one 6), (224, 0, 0, ck_one 31), (222, 1, 1, ck_one 6), (222, 0, 0, ck_one 30), (220, 0, 0, ck_one 24), (10, 3, 3, ck_one 0), (3, 0, 0, ck_one 3)]), 500, .inl 4, true)] 330 p33x_3522 = true := by decide +kernel
theorem p33x_3522_s {X : Int → Int} {LX : Nat} : ck_Ok p1_O X LX 213 p33x_3522 := ck_ok_s (ck_E1 (ck_S1 p33x_3338_s ck_S0) (ck_E1 (ck_S1 p33x_148_s ck_S0) (ck_E1 (ck_S1 p33x_3340_s ck_S0) (ck_E1 (ck_S1 p33x_3341_s ck_S0) (ck_E1 (ck_S1 p33x_3468_s (ck_S1 p33x_3475_s (ck_S1 p33x_3476_s ck_S0))) (ck_E1 (ck_S1 p33x_3472_s ck_S0) (ck_E1 (ck_S1 p33x_3473_s ck_S0) ck_E0))))))) ck_X0 ck_l0 p33x_3522_e
set_option maxRecDepth 100000 in
def p33x_3523 : ck_Sum := ((4, 0, 0), 245, [.inr (.inr (.inl 1)), .inl (ck_one 27), .inl (ck_one 0), .inr (.inr (.inl 245))], ([], [], [(224, 1, 1, ck_one 6), (224, 0, 0, ck_one 31), (224, 3, 3, ck_one 0), (222, 1, 1, ck_one 6), (222, 0, 0, ck_one 30), (222, 3, 3, ck_one 0), (1, 15, 15, ck_one 0), (220, 0, 0, ck_one 24), (220, 3, 3, ck_one 0), (10, 3, 3, ck_one 0), (3, 0, 0, ck_one 3), (223, 0, 179, ck_one 0), (225, 0, 185, ck_one 0)]), ([(1, 15, 15), (220, 3, 3), (221, 0, 47), (222, 3, 3), (223, 0, 179), (224, 3, 3), (225, 0, 185), (245, 0, 0)], []), [(.inr (some (.inl (ck_one 0))), 245, ([], [], [(245, 0, 0, ck_one 0), (224, 3, 3, ck_one 28), (222, 3, 3, ck_one 27), (1, 15, 15, ck_one 1), (220, 3, 3, ck_one 0), (223, 0, 179, ck_one 0), (225, 0, 185, ck_one 0)]))])
set_option maxRecDepth 100000 in
theorem p33x_3523_e : ck_ok p1_O none [] [(213, [p33x_3522])] 212 [] 92 p33x_3523 = true := by decide +kernel
theorem p33x_3523_s {X : Int → Int} {LX : Nat} : ck_Ok p1_O X LX 212 p33x_3523 := ck_ok_s (ck_E1 (ck_S1 p33x_3522_s ck_S0) ck_E0) ck_X0 ck_l0 p33x_3523_e
set_option maxRecDepth 100000 in
def p33x_3525 : ck_Sum := ((0, 0, 0), 245, [.inr (.inr (.inl 1)), .inl (ck_one 28)], ([], [], []), ([], []), [(.inr none, 245, ([], [], []))])
set_option maxRecDepth 100000 in
theorem p33x_3525_e : ck_ok p1_O none [] [] 214 [] 84 p33x_3525 = true := by decide +kernel
theorem p33x_3525_s {X : Int → Int} {LX : Nat} : ck_Ok p1_O X LX 214 p33x_3525 := ck_ok_s (ck_E0) ck_X0 ck_l0 p33x_3525_e
set_option maxRecDepth 100000 in
def p33x_3526 : ck_Sum := ((1, 0, 0), 245, [.inr (.inr (.inl 222)), .inl (ck_one 28)], ([], [], [(222, 0, 0, ck_one 30), (223, 0, 179, ck_one 0)]), ([(222, 3, 3), (223, 0, 179)], []), [(.inr none, 245, ([], [], [(222, 3, 3, ck_one 28), (223, 0, 179, ck_one 0)]))])
set_option maxRecDepth 100000 in
theorem p33x_3526_e : ck_ok p1_O none [] [(8, [p33x_149])] 25 [] 96 p33x_3526 = true := by decide +kernel
theorem p33x_3526_s {X : Int → Int} {LX : Nat} : ck_Ok p1_O X LX 25 p33x_3526 := ck_ok_s (ck_E1 (ck_S1 p33x_149_s ck_S0) ck_E0) ck_X0 ck_l0 p33x_3526_e
set_option maxRecDepth 100000 in
def p33x_3527 : ck_Sum := ((2, 0, 0), 245, [.inr (.inr (.inl 1)), .inl (ck_one 28)], ([], [], [(220, 3, 3, ck_one 0), (222, 0, 0, ck_one 30), (222, 3, 3, ck_one 0), (223, 0, 179, ck_one 0)]), ([(222, 3, 3), (223, 0, 179)], []), [(.inr none, 245, ([], [], [(222, 3, 3, ck_one 28), (223, 0, 179, ck_one 0)]))])
set_option maxRecDepth 100000 in
theorem p33x_3527_e : ck_ok p1_O none [] [(25, [p33x_3526]), (9, [p33x_147])] 215 [(10, [some (.inr (.inr (.inl 1))), some (.inl (ck_one 28)), some (.inl (ck_one 0)), none, none], ([], [], [(222, 3, 3, ck_one 28), (223, 0, 179, ck_one 0), (220, 3, 3, ck_one 0), (222, 0, 0, ck_one 30)]), 100, .inl 2, true)] 118 p33x_3527 = true := by decide +kernel
theorem p33x_3527_s {X : Int → Int} {LX : Nat} : ck_Ok p1_O X LX 215 p33x_3527 := ck_ok_s (ck_E1 (ck_S1 p33x_3526_s ck_S0) (ck_E1 (ck_S1 p33x_147_s ck_S0) ck_E0)) ck_X0 ck_l0 p33x_3527_e
set_option maxRecDepth 100000 in
def p33x_3528 : ck_Sum := ((1, 0, 0), 245, [.inr (.inr (.inl 224)), .inl (ck_one 29)], ([], [], [(224, 0, 0, ck_one 31), (225, 0, 185, ck_one 0)]), ([(224, 3, 3), (225, 0, 185)], []), [(.inr none, 245, ([], [], [(224, 3, 3, ck_one 29), (225, 0, 185, ck_one 0)]))])
set_option maxRecDepth 100000 in
theorem p33x_3528_e : ck_ok p1_O none [] [(8, [p33x_152])] 25 [] 96 p33x_3528 = true := by decide +kernel
theorem p33x_3528_s {X : Int → Int} {LX : Nat} : ck_Ok p1_O X LX 25 p33x_3528 := ck_ok_s (ck_E1 (ck_S1 p33x_152_s ck_S0) ck_E0) ck_X0 ck_l0 p33x_3528_e
set_option maxRecDepth 100000 in
def p33x_3655 : ck_Sum := ((0, 0, 0), 245, [.inr (.inr (.inl 222)), .inl (0, 27, none), .inl (0, 2, none)], ([], [], [(222, 3, 3, ck_one 28), (223, 0, 179, ck_one 0), (222, 1, 1, ck_one 6)]), ([], []), [(.inr (some (.inl (ck_one 0))), 245, ([], [], []))])
set_option maxRecDepth 100000 in
theorem p33x_3655_e : ck_ok p1_O none [] [] 10 [] 114 p33x_3655 = true := by decide +kernel
theorem p33x_3655_s {X : Int → Int} {LX : Nat} : ck_Ok p1_O X LX 10 p33x_3655 := ck_ok_s (ck_E0) ck_X0 ck_l0 p33x_3655_e
set_option maxRecDepth 100000 in
def p33x_3663 : ck_Sum := ((0, 0, 0), 245, [.inr (.inr (.inl 224)), .inl (ck_one 0), .inl (1, 2, none)], ([], [], [(224, 3, 3, ck_one 29), (225, 0, 185, ck_one 0), (224, 1, 1, ck_one 6)]), ([], []), [(.inr (some (.inl (ck_one 0))), 245, ([], [], []))])
set_option maxRecDepth 100000 in
theorem p33x_3663_e : ck_ok p1_O none [] [] 10 [] 114 p33x_3663 = true := by decide +kernel
theorem p33x_3663_s {X : Int → Int} {LX : Nat} : ck_Ok p1_O X LX 10 p33x_3663 := ck_ok_s (ck_E0) ck_X0 ck_l0 p33x_3663_e
set_option maxRecDepth 100000 in
def p33x_3662 : ck_Sum := ((0, 0, 0), 245, [.inr (.inr (.inl 224)), .inl (ck_one 0), .inl (ck_one 0)], ([], [], [(224, 3, 3, ck_one 29), (225, 0, 185, ck_one 0), (224, 1, 1, ck_one 6)]), ([], []), [(.inr (some (.inl (ck_one 0))), 245, ([], [], []))])
set_option maxRecDepth 100000 in
theorem p33x_3662_e : ck_ok p1_O none [] [] 10 [] 114 p33x_3662 = true := by decide +kernel
theorem p33x_3662_s {X : Int → Int} {LX : Nat} : ck_Ok p1_O X LX 10 p33x_3662 := ck_ok_s (ck_E0) ck_X0 ck_l0 p33x_3662_e
set_option maxRecDepth 100000 in
def p33x_3656 : ck_Sum := ((0, 0, 0), 245, [.inr (.inr (.inl 224)), .inl (1, 28, none), .inl ((-1), 1, none)], ([], [], [(224, 3, 3, ck_one 29), (225, 0, 185, ck_one 0), (224, 1, 1, ck_one 6)]), ([], []), [(.inr (some (.inl (ck_one (-1)))), 245, ([], [], [])), (.inr (some (.inl (ck_one 0))), 245, ([], [], []))])
set_option maxRecDepth 100000 in
theorem p33x_3656_e : ck_ok p1_O none [] [] 10 [] 114 p33x_3656 = true := by decide +kernel
theorem p33x_3656_s {X : Int → Int} {LX : Nat} : ck_Ok p1_O X LX 10 p33x_3656 := ck_ok_s (ck_E0) ck_X0 ck_l0 p33x_3656_e
set_option maxRecDepth 100000 in
def p33x_3657 : ck_Sum := ((0, 0, 0), 245, [.inr (.inr (.inl 224)), .inl (1, 28, none), .inl (1, 3, none)], ([], [], [(224, 3, 3, ck_one 29), (225, 0, 185, ck_one 0), (224, 1, 1, ck_one 6)]), ([], []), [(.inr (some (.inl (ck_one 0))), 245, ([], [], []))])
set_option maxRecDepth 100000 in
theorem p33x_3657_e : ck_ok p1_O none [] [] 10 [] 114 p33x_3657 = true := by decide +kernel
theorem p33x_3657_s {X : Int → Int} {LX : Nat} : ck_Ok p1_O X LX 10 p33x_3657 := ck_ok_s (ck_E0) ck_X0 ck_l0 p33x_3657_e
set_option maxRecDepth 100000 in
def p33x_3658 : ck_Sum := ((0, 0, 0), 245, [.inr (.inr (.inl 224)), .inl (1, 28, none), .inl (0, 2, none)], ([], [], [(224, 3, 3, ck_one 29), (225, 0, 185, ck_one 0), (224, 1, 1, ck_one 6)]), ([], []), [(.inr (some (.inl (ck_one 0))), 245, ([], [], []))])
set_option maxRecDepth 100000 in
theorem p33x_3658_e : ck_ok p1_O none [] [] 10 [] 114 p33x_3658 = true := by decide +kernel
theorem p33x_3658_s {X : Int → Int} {LX : Nat} : ck_Ok p1_O X LX 10 p33x_3658 := ck_ok_s (ck_E0) ck_X0 ck_l0 p33x_3658_e
set_option maxRecDepth 100000 in
def p33x_3659 : ck_Sum := ((1, 0, 0), 245, [.inr (.inr (.inl 1)), .inl (1, 28, none), .inl (0, 2, none)], ([], [], [(224, 3, 3, ck_one 29), (225, 0, 185, ck_one 0), (224, 1, 1, ck_one 6)]), ([], []), [(.inr (some (.inl (ck_one 0))), 245, ([], [], []))])
set_option maxRecDepth 100000 in
theorem p33x_3659_e : ck_ok p1_O none [] [(10, [p33x_3656, p33x_3657, p33x_3658])] 216 [] 118 p33x_3659 = true := by decide +kernel
theorem p33x_3659_s {X : Int → Int} {LX : Nat} : ck_Ok p1_O X LX 216 p33x_3659 := ck_ok_s (ck_E1 (ck_S1 p33x_3656_s (ck_S1 p33x_3657_s (ck_S1 p33x_3658_s ck_S0))) ck_E0) ck_X0 ck_l0 p33x_3659_e
set_option maxRecDepth 100000 in
def p33x_3660 : ck_Sum := ((0, 0, 0), 245, [.inr (.inr (.inl 224)), .inl (0, 27, none), .inl (0, 2, none), .inl (ck_one 0)], ([], [], [(224, 3, 3, ck_one 29), (225, 0, 185, ck_one 0), (224, 1, 1, ck_one 6)]), ([(225, 0, 164)], []), [(.inr none, 245, ([], [], [(225, 0, 185, ck_one 0)]))])
set_option maxRecDepth 100000 in
theorem p33x_3660_e : ck_ok p1_O none [] [] 45 [] 116 p33x_3660 = true := by decide +kernel
theorem p33x_3660_s {X : Int → Int} {LX : Nat} : ck_Ok p1_O X LX 45 p33x_3660 := ck_ok_s (ck_E0) ck_X0 ck_l0 p33x_3660_e
set_option maxRecDepth 100000 in
def p33x_3664 : ck_Sum := ((3, 0, 0), 245, [.inr (.inr (.inl 1)), .inl (ck_one 28), .inl (ck_one 1)], ([], [], [(224, 1, 1, ck_one 6), (224, 0, 0, ck_one 31), (224, 3, 3, ck_one 0), (222, 1, 1, ck_one 6), (222, 0, 0, ck_one 30), (222, 3, 3, ck_one 0), (1, 15, 15, ck_one 0), (220, 0, 0, ck_one 24), (220, 3, 3, ck_one 0), (10, 3, 3, ck_one 0), (3, 0, 0, ck_one 3), (223, 0, 179, ck_one 0), (225, 0, 185, ck_one 0)]), ([(1, 15, 15), (220, 3, 3), (221, 0, 47), (222, 3, 3), (223, 0, 179), (224, 3, 3), (225, 0, 185)], []), [(.inr (some (.inl (ck_one 0))), 245, ([], [], [(224, 3, 3, ck_one 29), (222, 3, 3, ck_one 28), (1, 15, 15, ck_one 1), (220, 3, 3, ck_one 0), (223, 0, 179, ck_one 0), (225, 0, 185, ck_one 0)]))])
set_option maxRecDepth 100000 in
theorem p33x_3664_e : ck_ok p1_O none [] [(214, [p33x_3525]), (24, [p33x_148]), (215, [p33x_3527]), (25, [p33x_3528]), (10, [p33x_3655, p33x_3663, p33x_3662]), (216, [p33x_3659]), (45, [p33x_3660])] 213 [(28, [some (.inr (.inr (.inl 1))), some (.inl (ck_one 28)), some (.inl (ck_one 1)), some (.inl ((-1), 27, none)), none], ([], [], [(224, 3, 3, ck_one 29), (225, 0, 185, ck_one 0), (222, 3, 3, ck_one 28), (223, 0, 179, ck_one 0), (1, 15, 15, ck_one 1), (220, 3, 3, ck_one 0), (224, 1, 1, ck_one 6), (224, 0, 0, ck_one 31), (222, 1, 1, ck_one 6), (222, 0, 0, ck_one 30), (220, 0, 0, ck_one 24), (10, 3, 3, ck_one 0), (3, 0, 0, ck_one 3)]), 100, .inl 3, false), (35, [some (.inr (.inr (.inl 1))), some (.inl (ck_one 28)), some (.inl (ck_one 1)), some (.inl (0, 27, some (100, 0))), some (.inl (0, 3, none))], ([], [], [(224, 3, 3, ck_one 29), (225, 0, 185, ck_one 0), (222, 3, 3, ck_one 28), (223, 0, 179, ck_one 0), (1, 15, 15, ck_one 1), (220, 3, 3, ck_one 0), (224, 1, 1, ck_one 6), (224, 0, 0, ck_one 31), (222, 1, 1, ck_one 6), (222, 0, 0, ck_one 30), (220, 0, 0, ck_one 24), (10, 3, 3, ck_one 0), (3, 0, 0, ck_one 3)]), 300, .inl 4, true), (94, [some (.inr (.inr (.inl 1))), some (.inl (ck_one 28)), some (.inl (ck_one 1)), some (.inl (ck_one 0)), some (.inl (1, 3, none))], ([], [], [(224, 3, 3, ck_one 29), (225, 0, 185, ck_one 0), (222, 3, 3, ck_one 28), (223, 0, 179, ck_one 0), (1, 15, 15, ck_one 1), (220, 3, 3, ck_one 0), (224, 1, 1, ck_one 6), (224, 0, 0, ck_one 31), (222, 1, 1, ck_one 6), (222, 0, 0, ck_one 30), (220, 0, 0, ck_one 24), (10, 3, 3, ck_one 0), (3, 0, 0, ck_one 3)]), 500, .inl 4, true)] 330 p33x_3664 = true := by decide +kernel
theorem p33x_3664_s {X : Int → Int} {LX : Nat} : ck_Ok p1_O X LX 213 p33x_3664 := ck_ok_s (ck_E1 (ck_S1 p33x_3525_s ck_S0) (ck_E1 (ck_S1 p33x_148_s ck_S0) (ck_E1 (ck_S1 p33x_3527_s ck_S0) (ck_E1 (ck_S1 p33x_3528_s ck_S0) (ck_E1 (ck_S1 p33x_3655_s (ck_S1 p33x_3663_s (ck_S1 p33x_3662_s ck_S0))) (ck_E1 (ck_S1 p33x_3659_s ck_S0) (ck_E1 (ck_S1 p33x_3660_s ck_S0) ck_E0))))))) ck_X0 ck_l0 p33x_3664_e
set_option maxRecDepth 100000 in
def p33x_3665 : ck_Sum := ((4, 0, 0), 245, [.inr (.inr (.inl 1)), .inl (ck_one 28), .inl (ck_one 1), .inr (.inr (.inl 245))], ([], [], [(224, 1, 1, ck_one 6), (224, 0, 0, ck_one 31), (224, 3, 3, ck_one 0), (222, 1, 1, ck_one 6), (222, 0, 0, ck_one 30), (222, 3, 3, ck_one 0), (1, 15, 15, ck_one 0), (220, 0, 0, ck_one 24), (220, 3, 3, ck_one 0), (10, 3, 3, ck_one 0), (3, 0, 0, ck_one 3), (223, 0, 179, ck_one 0), (225, 0, 185, ck_one 0)]), ([(1, 15, 15), (220, 3, 3), (221, 0, 47), (222, 3, 3), (223, 0, 179), (224, 3, 3), (225, 0, 185), (245, 0, 0)], []), [(.inr (some (.inl (ck_one 0))), 245, ([], [], [(245, 0, 0, ck_one 0), (224, 3, 3, ck_one 29), (222, 3, 3, ck_one 28), (1, 15, 15, ck_one 1), (220, 3, 3, ck_one 0), (223, 0, 179, ck_one 0), (225, 0, 185, ck_one 0)]))])
set_option maxRecDepth 100000 in
theorem p33x_3665_e : ck_ok p1_O none [] [(213, [p33x_3664])] 212 [] 92 p33x_3665 = true := by decide +kernel
theorem p33x_3665_s {X : Int → Int} {LX : Nat} : ck_Ok p1_O X LX 212 p33x_3665 := ck_ok_s (ck_E1 (ck_S1 p33x_3664_s ck_S0) ck_E0) ck_X0 ck_l0 p33x_3665_e
set_option maxRecDepth 100000 in
def p33x_3710 : ck_Sum := ((3, 0, 0), 245, [.inr (.inr (.inl 1)), .inl (ck_one 28), .inl (ck_one 0)], ([], [], [(224, 1, 1, ck_one 6), (224, 0, 0, ck_one 31), (224, 3, 3, ck_one 0), (222, 1, 1, ck_one 6), (222, 0, 0, ck_one 30), (222, 3, 3, ck_one 0), (1, 15, 15, ck_one 0), (220, 0, 0, ck_one 24), (220, 3, 3, ck_one 0), (10, 3, 3, ck_one 0), (3, 0, 0, ck_one 3), (223, 0, 179, ck_one 0), (225, 0, 185, ck_one 0)]), ([(1, 15, 15), (220, 3, 3), (221, 0, 47), (222, 3, 3), (223, 0, 179), (224, 3, 3), (225, 0, 185)], []), [(.inr (some (.inl (ck_one 0))), 245, ([], [], [(224, 3, 3, ck_one 29), (222, 3, 3, ck_one 28), (1, 15, 15, ck_one 1), (220, 3, 3, ck_one 0), (223, 0, 179, ck_one 0), (225, 0, 185, ck_one 0)]))])
set_option maxRecDepth 100000 in
theorem p33x_3710_e : ck_ok p1_O none [] [(214, [p33x_3525]), (24, [p33x_148]), (215, [p33x_3527]), (25, [p33x_3528]), (10, [p33x_3655, p33x_3662, p33x_3663]), (216, [p33x_3659]), (45, [p33x_3660])] 213 [(28, [some (.inr (.inr (.inl 1))), some (.inl (ck_one 28)), some (.inl (ck_one 0)), some (.inl ((-1), 27, none)), none], ([], [], [(224, 3, 3, ck_one 29), (225, 0, 185, ck_one 0), (222, 3, 3, ck_one 28), (223, 0, 179, ck_one 0), (1, 15, 15, ck_one 1), (220, 3, 3, ck_one 0), (224, 1, 1, ck_one 6), (224, 0, 0, ck_one 31), (222, 1, 1, ck_one 6), (222, 0, 0, ck_one 30), (220, 0, 0, ck_one 24), (10, 3, 3, ck_one 0), (3, 0, 0, ck_one 3)]), 100, .inl 3, false), (35, [some (.inr (.inr (.inl 1))), some (.inl (ck_one 28)), some (.inl (ck_one 0)), some (.inl (0, 27, some (100, 0))), some (.inl (0, 3, none))], ([], [], [(224, 3, 3, ck_one 29), (225, 0, 185, ck_one 0), (222, 3, 3, ck_one 28), (223, 0, 179, ck_one 0), (1, 15, 15, ck_one 1), (220, 3, 3, ck_one 0), (224, 1, 1, ck_one 6), (224, 0, 0, ck_one 31), (222, 1, 1, ck_one 6), (222, 0, 0, ck_one 30), (220, 0, 0, ck_one 24), (10, 3, 3, ck_one 0), (3, 0, 0, ck_one 3)]), 300, .inl 4, true), (94, [some (.inr (.inr (.inl 1))), some (.inl (ck_one 28)), some (.inl (ck_one 0)), some (.inl (ck_one 0)), some (.inl (1, 3, none))], ([], [], [(224, 3, 3, ck_one 29), (225, 0, 185, ck_one 0), (222, 3, 3, ck_one 28), (223, 0, 179, ck_one 0), (1, 15, 15, ck_one 1), (220, 3, 3, ck_one 0), (224, 1, 1, ck_one 6), (224, 0, 0, ck_one 31), (222, 1, 1, ck_one 6), (222, 0, 0, ck_one 30), (220, 0, 0, ck_one 24), (10, 3, 3, ck_one 0), (3, 0, 0, ck_one 3)]), 500, .inl 4, true)] 330 p33x_3710 = true := by decide +kernel
theorem p33x_3710_s {X : Int → Int} {LX : Nat} : ck_Ok p1_O X LX 213 p33x_3710 := ck_ok_s (ck_E1 (ck_S1 p33x_3525_s ck_S0) (ck_E1 (ck_S1 p33x_148_s ck_S0) (ck_E1 (ck_S1 p33x_3527_s ck_S0) (ck_E1 (ck_S1 p33x_3528_s ck_S0) (ck_E1 (ck_S1 p33x_3655_s (ck_S1 p33x_3662_s (ck_S1 p33x_3663_s ck_S0))) (ck_E1 (ck_S1 p33x_3659_s ck_S0) (ck_E1 (ck_S1 p33x_3660_s ck_S0) ck_E0))))))) ck_X0 ck_l0 p33x_3710_e
set_option maxRecDepth 100000 in
def p33x_3711 : ck_Sum := ((4, 0, 0), 245, [.inr (.inr (.inl 1)), .inl (ck_one 28), .inl (ck_one 0), .inr (.inr (.inl 245))], ([], [], [(224, 1, 1, ck_one 6), (224, 0, 0, ck_one 31), (224, 3, 3, ck_one 0), (222, 1, 1, ck_one 6), (222, 0, 0, ck_one 30), (222, 3, 3, ck_one 0), (1, 15, 15, ck_one 0), (220, 0, 0, ck_one 24), (220, 3, 3, ck_one 0), (10, 3, 3, ck_one 0), (3, 0, 0, ck_one 3), (223, 0, 179, ck_one 0), (225, 0, 185, ck_one 0)]), ([(1, 15, 15), (220, 3, 3), (221, 0, 47), (222, 3, 3), (223, 0, 179), (224, 3, 3), (225, 0, 185), (245, 0, 0)], []), [(.inr (some (.inl (ck_one 0))), 245, ([], [], [(245, 0, 0, ck_one 0), (224, 3, 3, ck_one 29), (222, 3, 3, ck_one 28), (1, 15, 15, ck_one 1), (220, 3, 3, ck_one 0), (223, 0, 179, ck_one 0), (225, 0, 185, ck_one 0)]))])
set_option maxRecDepth 100000 in
theorem p33x_3711_e : ck_ok p1_O none [] [(213, [p33x_3710])] 212 [] 92 p33x_3711 = true := by decide +kernel
theorem p33x_3711_s {X : Int → Int} {LX : Nat} : ck_Ok p1_O X LX 212 p33x_3711 := ck_ok_s (ck_E1 (ck_S1 p33x_3710_s ck_S0) ck_E0) ck_X0 ck_l0 p33x_3711_e
set_option maxRecDepth 100000 in
def p33x_3713 : ck_Sum := ((0, 0, 0), 245, [.inr (.inr (.inl 1)), .inl (ck_one 29)], ([], [], []), ([], []), [(.inr none, 245, ([], [], []))])
set_option maxRecDepth 100000 in
theorem p33x_3713_e : ck_ok p1_O none [] [] 214 [] 84 p33x_3713 = true := by decide +kernel
theorem p33x_3713_s {X : Int → Int} {LX : Nat} : ck_Ok p1_O X LX 214 p33x_3713 := ck_ok_s (ck_E0) ck_X0 ck_l0 p33x_3713_e
set_option maxRecDepth 100000 in
def p33x_3714 : ck_Sum := ((1, 0, 0), 245, [.inr (.inr (.inl 222)), .inl (ck_one 29)], ([], [], [(222, 0, 0, ck_one 30), (223, 0, 179, ck_one 0)]), ([(222, 3, 3), (223, 0, 179)], []), [(.inr none, 245, ([], [], [(222, 3, 3, ck_one 29), (223, 0, 179, ck_one 0)]))])
set_option maxRecDepth 100000 in
theorem p33x_3714_e : ck_ok p1_O none [] [(8, [p33x_149])] 25 [] 96 p33x_3714 = true := by decide +kernel
theorem p33x_3714_s {X : Int → Int} {LX : Nat} : ck_Ok p1_O X LX 25 p33x_3714 := ck_ok_s (ck_E1 (ck_S1 p33x_149_s ck_S0) ck_E0) ck_X0 ck_l0 p33x_3714_e
set_option maxRecDepth 100000 in
def p33x_3715 : ck_Sum := ((2, 0, 0), 245, [.inr (.inr (.inl 1)), .inl (ck_one 29)], ([], [], [(220, 3, 3, ck_one 0), (222, 0, 0, ck_one 30), (222, 3, 3, ck_one 0), (223, 0, 179, ck_one 0)]), ([(222, 3, 3), (223, 0, 179)], []), [(.inr none, 245, ([], [], [(222, 3, 3, ck_one 29), (223, 0, 179, ck_one 0)]))])
set_option maxRecDepth 100000 in
theorem p33x_3715_e : ck_ok p1_O none [] [(25, [p33x_3714]), (9, [p33x_147])] 215 [(10, [some (.inr (.inr (.inl 1))), some (.inl (ck_one 29)), some (.inl (ck_one 0)), none, none], ([], [], [(222, 3, 3, ck_one 29), (223, 0, 179, ck_one 0), (220, 3, 3, ck_one 0), (222, 0, 0, ck_one 30)]), 100, .inl 2, true)] 118 p33x_3715 = true := by decide +kernel
theorem p33x_3715_s {X : Int → Int} {LX : Nat} : ck_Ok p1_O X LX 215 p33x_3715 := ck_ok_s (ck_E1 (ck_S1 p33x_3714_s ck_S0) (ck_E1 (ck_S1 p33x_147_s ck_S0) ck_E0)) ck_X0 ck_l0 p33x_3715_e
set_option maxRecDepth 100000 in
def p33x_3716 : ck_Sum := ((1, 0, 0), 245, [.inr (.inr (.inl 224)), .inl (ck_one 30)], ([], [], [(224, 0, 0, ck_one 31), (225, 0, 185, ck_one 0)]), ([(224, 3, 3), (225, 0, 185)], []), [(.inr none, 245, ([], [], [(224, 3, 3, ck_one 30), (225, 0, 185, ck_one 0)]))])
set_option maxRecDepth 100000 in
theorem p33x_3716_e : ck_ok p1_O none [] [(8, [p33x_152])] 25 [] 96 p33x_3716 = true := by decide +kernel
theorem p33x_3716_s {X : Int → Int} {LX : Nat} : ck_Ok p1_O X LX 25 p33x_3716 := ck_ok_s (ck_E1 (ck_S1 p33x_152_s ck_S0) ck_E0) ck_X0 ck_l0 p33x_3716_e
set_option maxRecDepth 100000 in
def p33x_3843 : ck_Sum := ((0, 0, 0), 245, [.inr (.inr (.inl 222)), .inl (0, 28, none), .inl (0, 2, none)], ([], [], [(222, 3, 3, ck_one 29), (223, 0, 179, ck_one 0), (222, 1, 1, ck_one 6)]), ([], []), [(.inr (some (.inl (ck_one 0))), 245, ([], [], []))])
set_option maxRecDepth 100000 in
theorem p33x_3843_e : ck_ok p1_O none [] [] 10 [] 114 p33x_3843 = true := by decide +kernel
theorem p33x_3843_s {X : Int → Int} {LX : Nat} : ck_Ok p1_O X LX 10 p33x_3843 := ck_ok_s (ck_E0) ck_X0 ck_l0 p33x_3843_e
set_option maxRecDepth 100000 in
def p33x_3851 : ck_Sum := ((0, 0, 0), 245, [.inr (.inr (.inl 224)), .inl (ck_one 0), .inl (1, 2, none)], ([], [], [(224, 3, 3, ck_one 30), (225, 0, 185, ck_one 0), (224, 1, 1, ck_one 6)]), ([], []), [(.inr (some (.inl (ck_one 0))), 245, ([], [], []))])
set_option maxRecDepth 100000 in
theorem p33x_3851_e : ck_ok p1_O none [] [] 10 [] 114 p33x_3851 = true := by decide +kernel
theorem p33x_3851_s {X : Int → Int} {LX : Nat} : ck_Ok p1_O X LX 10 p33x_3851 := ck_ok_s (ck_E0) ck_X0 ck_l0 p33x_3851_e
set_option maxRecDepth 100000 in
def p33x_3850 : ck_Sum := ((0, 0, 0), 245, [.inr (.inr (.inl 224)), .inl (ck_one 0), .inl (ck_one 0)], ([], [], [(224, 3, 3, ck_one 30), (225, 0, 185, ck_one 0), (224, 1, 1, ck_one 6)]), ([], []), [(.inr (some (.inl (ck_one 0))), 245, ([], [], []))])
set_option maxRecDepth 100000 in
theorem p33x_3850_e : ck_ok p1_O none [] [] 10 [] 114 p33x_3850 = true := by decide +kernel
theorem p33x_3850_s {X : Int → Int} {LX : Nat} : ck_Ok p1_O X LX 10 p33x_3850 := ck_ok_s (ck_E0) ck_X0 ck_l0 p33x_3850_e
set_option maxRecDepth 100000 in
def p33x_3844 : ck_Sum := ((0, 0, 0), 245, [.inr (.inr (.inl 224)), .inl (1, 29, none), .inl ((-1), 1, none)], ([], [], [(224, 3, 3, ck_one 30), (225, 0, 185, ck_one 0), (224, 1, 1, ck_one 6)]), ([], []), [(.inr (some (.inl (ck_one (-1)))), 245, ([], [], [])), (.inr (some (.inl (ck_one 0))), 245, ([], [], []))])
set_option maxRecDepth 100000 in
theorem p33x_3844_e : ck_ok p1_O none [] [] 10 [] 114 p33x_3844 = true := by decide +kernel
theorem p33x_3844_s {X : Int → Int} {LX : Nat} : ck_Ok p1_O X LX 10 p33x_3844 := ck_ok_s (ck_E0) ck_X0 ck_l0 p33x_3844_e
set_option maxRecDepth 100000 in
def p33x_3845 : ck_Sum := ((0, 0, 0), 245, [.inr (.inr (.inl 224)), .inl (1, 29, none), .inl (1, 3, none)], ([], [], [(224, 3, 3, ck_one 30), (225, 0, 185, ck_one 0), (224, 1, 1, ck_one 6)]), ([], []), [(.inr (some (.inl (ck_one 0))), 245, ([], [], []))])
set_option maxRecDepth 100000 in
theorem p33x_3845_e : ck_ok p1_O none [] [] 10 [] 114 p33x_3845 = true := by decide +kernel
theorem p33x_3845_s {X : Int → Int} {LX : Nat} : ck_Ok p1_O X LX 10 p33x_3845 := ck_ok_s (ck_E0) ck_X0 ck_l0 p33x_3845_e
set_option maxRecDepth 100000 in
def p33x_3846 : ck_Sum := ((0, 0, 0), 245, [.inr (.inr (.inl 224)), .inl (1, 29, none), .inl (0, 2, none)], ([], [], [(224, 3, 3, ck_one 30), (225, 0, 185, ck_one 0), (224, 1, 1, ck_one 6)]), ([], []), [(.inr (some (.inl (ck_one 0))), 245, ([], [], []))])
set_option maxRecDepth 100000 in
theorem p33x_3846_e : ck_ok p1_O none [] [] 10 [] 114 p33x_3846 = true := by decide +kernel
theorem p33x_3846_s {X : Int → Int} {LX : Nat} : ck_Ok p1_O X LX 10 p33x_3846 := ck_ok_s (ck_E0) ck_X0 ck_l0 p33x_3846_e
set_option maxRecDepth 100000 in
def p33x_3847 : ck_Sum := ((1, 0, 0), 245, [.inr (.inr (.inl 1)), .inl (1, 29, none), .inl (0, 2, none)], ([], [], [(224, 3, 3, ck_one 30), (225, 0, 185, ck_one 0), (224, 1, 1, ck_one 6)]), ([], []), [(.inr (some (.inl (ck_one 0))), 245, ([], [], []))])
set_option maxRecDepth 100000 in
theorem p33x_3847_e : ck_ok p1_O none [] [(10, [p33x_3844, p33x_3845, p33x_3846])] 216 [] 118 p33x_3847 = true := by decide +kernel
theorem p33x_3847_s {X : Int → Int} {LX : Nat} : ck_Ok p1_O X LX 216 p33x_3847 := ck_ok_s (ck_E1 (ck_S1 p33x_3844_s (ck_S1 p33x_3845_s (ck_S1 p33x_3846_s ck_S0))) ck_E0) ck_X0 ck_l0 p33x_3847_e
set_option maxRecDepth 100000 in
def p33x_3848 : ck_Sum := ((0, 0, 0), 245, [.inr (.inr (.inl 224)), .inl (0, 28, none), .inl (0, 2, none), .inl (ck_one 0)], ([], [], [(224, 3, 3, ck_one 30), (225, 0, 185, ck_one 0), (224, 1, 1, ck_one 6)]), ([(225, 0, 170)], []), [(.inr none, 245, ([], [], [(225, 0, 185, ck_one 0)]))])
set_option maxRecDepth 100000 in
theorem p33x_3848_e : ck_ok p1_O none [] [] 45 [] 116 p33x_3848 = true := by decide +kernel
theorem p33x_3848_s {X : Int → Int} {LX : Nat} : ck_Ok p1_O X LX 45 p33x_3848 := ck_ok_s (ck_E0) ck_X0 ck_l0 p33x_3848_e
set_option maxRecDepth 100000 in
def p33x_3852 : ck_Sum := ((3, 0, 0), 245, [.inr (.inr (.inl 1)), .inl (ck_one 29), .inl (ck_one 1)], ([], [], [(224, 1, 1, ck_one 6), (224, 0, 0, ck_one 31), (224, 3, 3, ck_one 0), (222, 1, 1, ck_one 6), (222, 0, 0, ck_one 30), (222, 3, 3, ck_one 0), (1, 15, 15, ck_one 0), (220, 0, 0, ck_one 24), (220, 3, 3, ck_one 0), (10, 3, 3, ck_one 0), (3, 0, 0, ck_one 3), (223, 0, 179, ck_one 0), (225, 0, 185, ck_one 0)]), ([(1, 15, 15), (220, 3, 3), (221, 0, 47), (222, 3, 3), (223, 0, 179), (224, 3, 3), (225, 0, 185)], []), [(.inr (some (.inl (ck_one 0))), 245, ([], [], [(224, 3, 3, ck_one 30), (222, 3, 3, ck_one 29), (1, 15, 15, ck_one 1), (220, 3, 3, ck_one 0), (223, 0, 179, ck_one 0), (225, 0, 185, ck_one 0)]))])
set_option maxRecDepth 100000 in
theorem p33x_3852_e : ck_ok p1_O none [] [(214, [p33x_3713]), (24, [p33x_148]), (215, [p33x_3715]), (25, [p33x_3716]), (10, [p33x_3843, p33x_3851, p33x_3850]), (216, [p33x_3847]), (45, [p33x_3848])] 213 [(28, [some (.inr (.inr (.inl 1))), some (.inl (ck_one 29)), some (.inl (ck_one 1)), some (.inl ((-1), 28, none)), none], ([], [], [(224, 3, 3, ck_one 30), (225, 0, 185, ck_one 0), (222, 3, 3, ck_one 29), (223, 0, 179, ck_one 0), (1, 15, 15, ck_one 1), (220, 3, 3, ck_one 0), (224, 1, 1, ck_one 6), (224, 0, 0, ck_one 31), (222, 1, 1, ck_one 6), (222, 0, 0, ck_one 30), (220, 0, 0, ck_one 24), (10, 3, 3, ck_one 0), (3, 0, 0, ck_one 3)]), 100, .inl 3, false), (35, [some (.inr (.inr (.inl 1))), some (.inl (ck_one 29)), some (.inl (ck_one 1)), some (.inl (0, 28, some (100, 0))), some (.inl (0, 3, none))], ([], [], [(224, 3, 3, ck_one 30), (225, 0, 185, ck_one 0), (222, 3, 3, ck_one 29), (223, 0, 179, ck_one 0), (1, 15, 15, ck_one 1), (220, 3, 3, ck_one 0), (224, 1, 1, ck_one 6), (224, 0, 0, ck_one 31), (222, 1, 1, ck_one 6), (222, 0, 0, ck_one 30), (220, 0, 0, ck_one 24), (10, 3, 3, ck_one 0), (3, 0, 0, ck_one 3)]), 300, .inl 4, true), (94, [some (.inr (.inr (.inl 1))), some (.inl (ck_one 29)), some (.inl (ck_one 1)), some (.inl (ck_one 0)), some (.inl (1, 3, none))], ([], [], [(224, 3, 3, ck_one 30), (225, 0, 185, ck_one 0), (222, 3, 3, ck_one 29), (223, 0, 179, ck_one 0), (1, 15, 15, ck_one 1), (220, 3, 3, ck_one 0), (224, 1, 1, ck_one 6), (224, 0, 0, ck_one 31), (222, 1, 1, ck_one 6), (222, 0, 0, ck_one 30), (220, 0, 0, ck_one 24), (10, 3, 3, ck_one 0), (3, 0, 0, ck_one 3)]), 500, .inl 4, true)] 330 p33x_3852 = true := by decide +kernel
theorem p33x_3852_s {X : Int → Int} {LX : Nat} : ck_Ok p1_O X LX 213 p33x_3852 := ck_ok_s (ck_E1 (ck_S1 p33x_3713_s ck_S0) (ck_E1 (ck_S1 p33x_148_s ck_S0) (ck_E1 (ck_S1 p33x_3715_s ck_S0) (ck_E1 (ck_S1 p33x_3716_s ck_S0) (ck_E1 (ck_S1 p33x_3843_s (ck_S1 p33x_3851_s (ck_S1 p33x_3850_s ck_S0))) (ck_E1 (ck_S1 p33x_3847_s ck_S0) (ck_E1 (ck_S1 p33x_3848_s ck_S0) ck_E0))))))) ck_X0 ck_l0 p33x_3852_e
set_option maxRecDepth 100000 in
def p33x_3853 : ck_Sum := ((4, 0, 0), 245, [.inr (.inr (.inl 1)), .inl (ck_one 29), .inl (ck_one 1), .inr (.inr (.inl 245))], ([], [], [(224, 1, 1, ck_one 6), (224, 0, 0, ck_one 31), (224, 3, 3, ck_one 0), (222, 1, 1, ck_one 6), (222, 0, 0, ck_one 30), (222, 3, 3, ck_one 0), (1, 15, 15, ck_one 0), (220, 0, 0, ck_one 24), (220, 3, 3, ck_one 0), (10, 3, 3, ck_one 0), (3, 0, 0, ck_one 3), (223, 0, 179, ck_one 0), (225, 0, 185, ck_one 0)]), ([(1, 15, 15), (220, 3, 3), (221, 0, 47), (222, 3, 3), (223, 0, 179), (224, 3, 3), (225, 0, 185), (245, 0, 0)], []), [(.inr (some (.inl (ck_one 0))), 245, ([], [], [(245, 0, 0, ck_one 0), (224, 3, 3, ck_one 30), (222, 3, 3, ck_one 29), (1, 15, 15, ck_one 1), (220, 3, 3, ck_one 0), (223, 0, 179, ck_one 0), (225, 0, 185, ck_one 0)]))])
set_option maxRecDepth 100000 in
theorem p33x_3853_e : ck_ok p1_O none [] [(213, [p33x_3852])] 212 [] 92 p33x_3853 = true := by decide +kernel
theorem p33x_3853_s {X : Int → Int} {LX : Nat} : ck_Ok p1_O X LX 212 p33x_3853 := ck_ok_s (ck_E1 (ck_S1 p33x_3852_s ck_S0) ck_E0) ck_X0 ck_l0 p33x_3853_e
set_option maxRecDepth 100000 in
def p33x_3898 : ck_Sum := ((3, 0, 0), 245, [.inr (.inr (.inl 1)), .inl (ck_one 29), .inl (ck_one 0)], ([], [], [(224, 1, 1, ck_one 6), (224, 0, 0, ck_one 31), (224, 3, 3, ck_one 0), (222, 1, 1, ck_one 6), (222, 0, 0, ck_one 30), (222, 3, 3, ck_one 0), (1, 15, 15, ck_one 0), (220, 0, 0, ck_one 24), (220, 3, 3, ck_one 0), (10, 3, 3, ck_one 0), (3, 0, 0, ck_one 3), (223, 0, 179, ck_one 0), (225, 0, 185, ck_one 0)]), ([(1, 15, 15), (220, 3, 3), (221, 0, 47), (222, 3, 3), (223, 0, 179), (224, 3, 3), (225, 0, 185)], []), [(.inr (some (.inl (ck_one 0))), 245, ([], [], [(224, 3, 3, ck_one 30), (222, 3, 3, ck_one 29), (1, 15, 15, ck_one 1), (220, 3, 3, ck_one 0), (223, 0, 179, ck_one 0), (225, 0, 185, ck_one 0)]))])
set_option maxRecDepth 100000 in
theorem p33x_3898_e : ck_ok p1_O none [] [(214, [p33x_3713]), (24, [p33x_148]), (215, [p33x_3715]), (25, [p33x_3716]), (10, [p33x_3843, p33x_3850, p33x_3851]), (216, [p33x_3847]), (45, [p33x_3848])] 213 [(28, [some (.inr (.inr (.inl 1))), some (.inl (ck_one 29)), some (.inl (ck_one 0)), some (.inl ((-1), 28, none)), none], ([], [], [(224, 3, 3, ck_one 30), (225, 0, 185, ck_one 0), (222, 3, 3, ck_one 29), (223, 0, 179, ck_one 0), (1, 15, 15, ck_one 1), (220, 3, 3, ck_one 0), (224, 1, 1, ck_one 6), (224, 0, 0, ck_one 31), (222, 1, 1, ck_one 6), (222, 0, 0, ck_one 30), (220, 0, 0, ck_one 24), (10, 3, 3, ck_one 0), (3, 0, 0, ck_one 3)]), 100, .inl 3, false), (35, [some (.inr (.inr (.inl 1))), some (.inl (ck_one 29)), some (.inl (ck_one 0)), some (.inl (0, 28, some (100, 0))), some (.inl (0, 3, none))], ([], [], [(224, 3, 3, ck_one 30), (225, 0, 185, ck_one 0), (222, 3, 3, ck_one 29), (223, 0, 179, ck_one 0), (1, 15, 15, ck_one 1), (220, 3, 3, ck_one 0), (224, 1, 1, ck_one 6), (224, 0, 0, ck_one 31), (222, 1, 1, ck_one 6), (222, 0, 0, ck_one 30), (220, 0, 0, ck_one 24), (10, 3, 3, ck_one 0), (3, 0, 0, ck_one 3)]), 300, .inl 4, true), (94, [some (.inr (.inr (.inl 1))), some (.inl (ck_one 29)), some (.inl (ck_one 0)), some (.inl (ck_one 0)), some (.inl (1, 3, none))], ([], [], [(224, 3, 3, ck_one 30), (225, 0, 185, ck_one 0), (222, 3, 3, ck_one 29), (223, 0, 179, ck_one 0), (1, 15, 15, ck_one 1), (220, 3, 3, ck_one 0), (224, 1, 1, ck_one 6), (224, 0, 0, ck_one 31), (222, 1, 1, ck_one 6), (222, 0, 0, ck_one 30), (220, 0, 0, ck_one 24), (10, 3, 3, ck_one 0), (3, 0, 0, ck_one 3)]), 500, .inl 4, true)] 330 p33x_3898 = true := by decide +kernel
theorem p33x_3898_s {X : Int → Int} {LX : Nat} : ck_Ok p1_O X LX 213 p33x_3898 := ck_ok_s (ck_E1 (ck_S1 p33x_3713_s ck_S0) (ck_E1 (ck_S1 p33x_148_s ck_S0) (ck_E1 (ck_S1 p33x_3715_s ck_S0) (ck_E1 (ck_S1 p33x_3716_s ck_S0) (ck_E1 (ck_S1 p33x_3843_s (ck_S1 p33x_3850_s (ck_S1 p33x_3851_s ck_S0))) (ck_E1 (ck_S1 p33x_3847_s ck_S0) (ck_E1 (ck_S1 p33x_3848_s ck_S0) ck_E0))))))) ck_X0 ck_l0 p33x_3898_e
set_option maxRecDepth 100000 in
def p33x_3899 : ck_Sum := ((4, 0, 0), 245, [.inr (.inr (.inl 1)), .inl (ck_one 29), .inl (ck_one 0), .inr (.inr (.inl 245))], ([], [], [(224, 1, 1, ck_one 6), (224, 0, 0, ck_one 31), (224, 3, 3, ck_one 0), (222, 1, 1, ck_one 6), (222, 0, 0, ck_one 30), (222, 3, 3, ck_one 0), (1, 15, 15, ck_one 0), (220, 0, 0, ck_one 24), (220, 3, 3, ck_one 0), (10, 3, 3, ck_one 0), (3, 0, 0, ck_one 3), (223, 0, 179, ck_one 0), (225, 0, 185, ck_one 0)]), ([(1, 15, 15), (220, 3, 3), (221, 0, 47), (222, 3, 3), (223, 0, 179), (224, 3, 3), (225, 0, 185), (245, 0, 0)], []), [(.inr (some (.inl (ck_one 0))), 245, ([], [], [(245, 0, 0, ck_one 0), (224, 3, 3, ck_one 30), (222, 3, 3, ck_one 29), (1, 15, 15, ck_one 1), (220, 3, 3, ck_one 0), (223, 0, 179, ck_one 0), (225, 0, 185, ck_one 0)]))])
set_option maxRecDepth 100000 in
theorem p33x_3899_e : ck_ok p1_O none [] [(213, [p33x_3898])] 212 [] 92 p33x_3899 = true := by decide +kernel
theorem p33x_3899_s {X : Int → Int} {LX : Nat} : ck_Ok p1_O X LX 212 p33x_3899 := ck_ok_s (ck_E1 (ck_S1 p33x_3898_s ck_S0) ck_E0) ck_X0 ck_l0 p33x_3899_e
set_option maxRecDepth 100000 in
def p33x_3901 : ck_Sum := ((0, 0, 0), 245, [.inr (.inr (.inl 1)), .inl (ck_one 30)], ([], [], []), ([], []), [(.inr none, 245, ([], [], []))])
set_option maxRecDepth 100000 in
theorem p33x_3901_e : ck_ok p1_O none [] [] 214 [] 84 p33x_3901 = true := by decide +kernel
theorem p33x_3901_s {X : Int → Int} {LX : Nat} : ck_Ok p1_O X LX 214 p33x_3901 := ck_ok_s (ck_E0) ck_X0 ck_l0 p33x_3901_e
set_option maxRecDepth 100000 in
def p33x_3902 : ck_Sum := ((1, 0, 0), 245, [.inr (.inr (.inl 222)), .inl (ck_one 30)], ([], [], [(222, 0, 0, ck_one 30), (223, 0, 179, ck_one 0)]), ([(222, 3, 3), (223, 0, 179)], []), [(.inr none, 245, ([], [], [(222, 3, 3, ck_one 30), (223, 0, 179, ck_one 0)]))])
set_option maxRecDepth 100000 in
theorem p33x_3902_e : ck_ok p1_O none [] [(8, [p33x_149])] 25 [] 96 p33x_3902 = true := by decide +kernel
theorem p33x_3902_s {X : Int → Int} {LX : Nat} : ck_Ok p1_O X LX 25 p33x_3902 := ck_ok_s (ck_E1 (ck_S1 p33x_149_s ck_S0) ck_E0) ck_X0 ck_l0 p33x_3902_e
set_option maxRecDepth 100000 in
def p33x_3903 : ck_Sum := ((2, 0, 0), 245, [.inr (.inr (.inl 1)), .inl (ck_one 30)], ([], [], [(220, 3, 3, ck_one 0), (222, 0, 0, ck_one 30), (222, 3, 3, ck_one 0), (223, 0, 179, ck_one 0)]), ([(222, 3, 3), (223, 0, 179)], []), [(.inr none, 245, ([], [], [(222, 3, 3, ck_one 30), (223, 0, 179, ck_one 0)]))])
set_option maxRecDepth 100000 in
theorem p33x_3903_e : ck_ok p1_O none [] [(25, [p33x_3902]), (9, [p33x_147])] 215 [(10, [some (.inr (.inr (.inl 1))), some (.inl (ck_one 30)), some (.inl (ck_one 0)), none, none], ([], [], [(222, 3, 3, ck_one 30), (223, 0, 179, ck_one 0), (220, 3, 3, ck_one 0), (222, 0, 0, ck_one 30)]), 100, .inl 2, true)] 118 p33x_3903 = true := by decide +kernel
theorem p33x_3903_s {X : Int → Int} {LX : Nat} : ck_Ok p1_O X LX 215 p33x_3903 := ck_ok_s (ck_E1 (ck_S1 p33x_3902_s ck_S0) (ck_E1 (ck_S1 p33x_147_s ck_S0) ck_E0)) ck_X0 ck_l0 p33x_3903_e
set_option maxRecDepth 100000 in
def p33x_3904 : ck_Sum := ((1, 0, 0), 245, [.inr (.inr (.inl 224)), .inl (ck_one 31)], ([], [], [(224, 0, 0, ck_one 31), (225, 0, 185, ck_one 0)]), ([(224, 3, 3), (225, 0, 185)], []), [(.inr none, 245, ([], [], [(224, 3, 3, ck_one 31), (225, 0, 185, ck_one 0)]))])
set_option maxRecDepth 100000 in
theorem p33x_3904_e : ck_ok p1_O none [] [(8, [p33x_152])] 25 [] 96 p33x_3904 = true := by decide +kernel
theorem p33x_3904_s {X : Int → Int} {LX : Nat} : ck_Ok p1_O X LX 25 p33x_3904 := ck_ok_s (ck_E1 (ck_S1 p33x_152_s ck_S0) ck_E0) ck_X0 ck_l0 p33x_3904_e
set_option maxRecDepth 100000 in
def p33x_4031 : ck_Sum := ((0, 0, 0), 245, [.inr (.inr (.inl 222)), .inl (0, 29, none), .inl (0, 2, none)], ([], [], [(222, 3, 3, ck_one 30), (223, 0, 179, ck_one 0), (222, 1, 1, ck_one 6)]), ([], []), [(.inr (some (.inl (ck_one 0))), 245, ([], [], []))])
set_option maxRecDepth 100000 in
theorem p33x_4031_e : ck_ok p1_O none [] [] 10 [] 114 p33x_4031 = true := by decide +kernel
theorem p33x_4031_s {X : Int → Int} {LX : Nat} : ck_Ok p1_O X LX 10 p33x_4031 := ck_ok_s (ck_E0) ck_X0 ck_l0 p33x_4031_e
set_option maxRecDepth 100000 in
def p33x_4039 : ck_Sum := ((0, 0, 0), 245, [.inr (.inr (.inl 224)), .inl (ck_one 0), .inl (1, 2, none)], ([], [], [(224, 3, 3, ck_one 31), (225, 0, 185, ck_one 0), (224, 1, 1, ck_one 6)]), ([], []), [(.inr (some (.inl (ck_one 0))), 245, ([], [], []))])
set_option maxRecDepth 100000 in
theorem p33x_4039_e : ck_ok p1_O none [] [] 10 [] 114 p33x_4039 = true := by decide +kernel
theorem p33x_4039_s {X : Int → Int} {LX : Nat} : ck_Ok p1_O X LX 10 p33x_4039 := ck_ok_s (ck_E0) ck_X0 ck_l0 p33x_4039_e
set_option maxRecDepth 100000 in
def p33x_4038 : ck_Sum := ((0, 0, 0), 245, [.inr (.inr (.inl 224)), .inl (ck_one 0), .inl (ck_one 0)], ([], [], [(224, 3, 3, ck_one 31), (225, 0, 185, ck_one 0), (224, 1, 1, ck_one 6)]), ([], []), [(.inr (some (.inl (ck_one 0))), 245, ([], [], []))])
set_option maxRecDepth 100000 in
theorem p33x_4038_e : ck_ok p1_O none [] [] 10 [] 114 p33x_4038 = true := by decide +kernel
theorem p33x_4038_s {X : Int → Int} {LX : Nat} : ck_Ok p1_O X LX 10 p33x_4038 := ck_ok_s (ck_E0) ck_X0 ck_l0 p33x_4038_e
set_option maxRecDepth 100000 in
def p33x_4032 : ck_Sum := ((0, 0, 0), 245, [.inr (.inr (.inl 224)), .inl (1, 30, none), .inl ((-1), 1, none)], ([], [], [(224, 3, 3, ck_one 31), (225, 0, 185, ck_one 0), (224, 1, 1, ck_one 6)]), ([], []), [(.inr (some (.inl (ck_one (-1)))), 245, ([], [], [])), (.inr (some (.inl (ck_one 0))), 245, ([], [], []))])
set_option maxRecDepth 100000 in
theorem p33x_4032_e : ck_ok p1_O none [] [] 10 [] 114 p33x_4032 = true := by decide +kernel
theorem p33x_4032_s {X : Int → Int} {LX : Nat} : ck_Ok p1_O X LX 10 p33x_4032 := ck_ok_s (ck_E0) ck_X0 ck_l0 p33x_4032_e
set_option maxRecDepth 100000 in
def p33x_4033 : ck_Sum := ((0, 0, 0), 245, [.inr (.inr (.inl 224)), .inl (1, 30, none), .inl (1, 3, none)], ([], [], [(224, 3, 3, ck_one 31), (225, 0, 185, ck_one 0), (224, 1, 1, ck_one 6)]), ([], []), [(.inr (some (.inl (ck_one 0))), 245, ([], [], []))])
set_option maxRecDepth 100000 in
theorem p33x_4033_e : ck_ok p1_O none [] [] 10 [] 114 p33x_4033 = true := by decide +kernel
theorem p33x_4033_s {X : Int → Int} {LX : Nat} : ck_Ok p1_O X LX 10 p33x_4033 := ck_ok_s (ck_E0) ck_X0 ck_l0 p33x_4033_e
set_option maxRecDepth 100000 in
def p33x_4034 : ck_Sum := ((0, 0, 0), 245, [.inr (.inr (.inl 224)), .inl (1, 30, none), .inl (0, 2, none)], ([], [], [(224, 3, 3, ck_one 31), (225, 0, 185, ck_one 0), (224, 1, 1, ck_one 6)]), ([], []), [(.inr (some (.inl (ck_one 0))), 245, ([], [], []))])
set_option maxRecDepth 100000 in
theorem p33x_4034_e : ck_ok p1_O none [] [] 10 [] 114 p33x_4034 = true := by decide +kernel
theorem p33x_4034_s {X : Int → Int} {LX : Nat} : ck_Ok p1_O X LX 10 p33x_4034 := ck_ok_s (ck_E0) ck_X0 ck_l0 p33x_4034_e
set_option maxRecDepth 100000 in
def p33x_4035 : ck_Sum := ((1, 0, 0), 245, [.inr (.inr (.inl 1)), .inl (1, 30, none), .inl (0, 2, none)], ([], [], [(224, 3, 3, ck_one 31), (225, 0, 185, ck_one 0), (224, 1, 1, ck_one 6)]), ([], []), [(.inr (some (.inl (ck_one 0))), 245, ([], [], []))])
set_option maxRecDepth 100000 in
theorem p33x_4035_e : ck_ok p1_O none [] [(10, [p33x_4032, p33x_4033, p33x_4034])] 216 [] 118 p33x_4035 = true := by decide +kernel
theorem p33x_4035_s {X : Int → Int} {LX : Nat} : ck_Ok p1_O X LX 216 p33x_4035 := ck_ok_s (ck_E1 (ck_S1 p33x_4032_s (ck_S1 p33x_4033_s (ck_S1 p33x_4034_s ck_S0))) ck_E0) ck_X0 ck_l0 p33x_4035_e
set_option maxRecDepth 100000 in
def p33x_4036 : ck_Sum := ((0, 0, 0), 245, [.inr (.inr (.inl 224)), .inl (0, 29, none), .inl (0, 2, none), .inl (ck_one 0)], ([], [], [(224, 3, 3, ck_one 31), (225, 0, 185, ck_one 0), (224, 1, 1, ck_one 6)]), ([(225, 0, 176)], []), [(.inr none, 245, ([], [], [(225, 0, 185, ck_one 0)]))])
set_option maxRecDepth 100000 in
theorem p33x_4036_e : ck_ok p1_O none [] [] 45 [] 116 p33x_4036 = true := by decide +kernel
theorem p33x_4036_s {X : Int → Int} {LX : Nat} : ck_Ok p1_O X LX 45 p33x_4036 := ck_ok_s (ck_E0) ck_X0 ck_l0 p33x_4036_e
set_option maxRecDepth 100000 in
def p33x_4040 : ck_Sum := ((3, 0, 0), 245, [.inr (.inr (.inl 1)), .inl (ck_one 30), .inl (ck_one 1)], ([], [], [(224, 1, 1, ck_one 6), (224, 0, 0, ck_one 31), (224, 3, 3, ck_one 0), (222, 1, 1, ck_one 6), (222, 0, 0, ck_one 30), (222, 3, 3, ck_one 0), (1, 15, 15, ck_one 0), (220, 0, 0, ck_one 24), (220, 3, 3, ck_one 0), (10, 3, 3, ck_one 0), (3, 0, 0, ck_one 3), (223, 0, 179, ck_one 0), (225, 0, 185, ck_one 0)]), ([(1, 15, 15), (220, 3, 3), (221, 0, 47), (222, 3, 3), (223, 0, 179), (224, 3, 3), (225, 0, 185)], []), [(.inr (some (.inl (ck_one 0))), 245, ([], [], [(224, 3, 3, ck_one 31), (222, 3, 3, ck_one 30), (1, 15, 15, ck_one 1), (220, 3, 3, ck_one 0), (223, 0, 179, ck_one 0), (225, 0, 185, ck_one 0)]))])
set_option maxRecDepth 100000 in
theorem p33x_4040_e : ck_ok p1_O none [] [(214, [p33x_3901]), (24, [p33x_148]), (215, [p33x_3903]), (25, [p33x_3904]), (10, [p33x_4031, p33x_4039, p33x_4038]), (216, [p33x_4035]), (45, [p33x_4036])] 213 [(28, [some (.inr (.inr (.inl 1))), some (.inl (ck_one 30)), some (.inl (ck_one 1)), some (.inl ((-1), 29, none)), none], ([], [], [(224, 3, 3, ck_one 31), (225, 0, 185, ck_one 0), (222, 3, 3, ck_one 30), (223, 0, 179, ck_one 0), (1, 15, 15, ck_one 1), (220, 3, 3, ck_one 0), (224, 1, 1, ck_one 6), (224, 0, 0, ck_one 31), (222, 1, 1, ck_one 6), (222, 0, 0, ck_one 30), (220, 0, 0, ck_one 24), (10, 3, 3, ck_one 0), (3, 0, 0, ck_one 3)]), 100, .inl 3, false), (35, [some (.inr (.inr (.inl 1))), some (.inl (ck_one 30)), some (.inl (ck_one 1)), some (.inl (0, 29, some (100, 0))), some (.inl (0, 3, none))], ([], [], [(224, 3, 3, ck_one 31), (225, 0, 185, ck_one 0), (222, 3, 3, ck_one 30), (223, 0, 179, ck_one 0), (1, 15, 15, ck_one 1), (220, 3, 3, ck_one 0), (224, 1, 1, ck_one 6), (224, 0, 0, ck_one 31), (222, 1, 1, ck_one 6), (222, 0, 0, ck_one 30), (220, 0, 0, ck_one 24), (10, 3, 3, ck_one 0), (3, 0, 0, ck_one 3)]), 300, .inl 4, true), (94, [some (.inr (.inr (.inl 1))), some (.inl (ck_one 30)), some (.inl (ck_one 1)), some (.inl (ck_one 0)), some (.inl (1, 3, none))], ([], [], [(224, 3, 3, ck_one 31), (225, 0, 185, ck_one 0), (222, 3, 3, ck_one 30), (223, 0, 179, ck_one 0), (1, 15, 15, ck_one 1), (220, 3, 3, ck_one 0), (224, 1, 1, ck_one 6), (224, 0, 0, ck_one 31), (222, 1, 1, ck_one 6), (222, 0, 0, ck_one 30), (220, 0, 0, ck_one 24), (10, 3, 3, ck_one 0), (3, 0, 0, ck_one 3)]), 500, .inl 4, true)] 330 p33x_4040 = true := by decide +kernel
theorem p33x_4040_s {X : Int → Int} {LX : Nat} : ck_Ok p1_O X LX 213 p33x_4040 := ck_ok_s (ck_E1 (ck_S1 p33x_3901_s ck_S0) (ck_E1 (ck_S1 p33x_148_s ck_S0) (ck_E1 (ck_S1 p33x_3903_s ck_S0) (ck_E1 (ck_S1 p33x_3904_s ck_S0) (ck_E1 (ck_S1 p33x_4031_s (ck_S1 p33x_4039_s (ck_S1 p33x_4038_s ck_S0))) (ck_E1 (ck_S1 p33x_4035_s ck_S0) (ck_E1 (ck_S1 p33x_4036_s ck_S0) ck_E0))))))) ck_X0 ck_l0 p33x_4040_e
set_option maxRecDepth 100000 in
def p33x_4041 : ck_Sum := ((4, 0, 0), 245, [.inr (.inr (.inl 1)), .inl (ck_one 30), .inl (ck_one 1), .inr (.inr (.inl 245))], ([], [], [(224, 1, 1, ck_one 6), (224, 0, 0, ck_one 31), (224, 3, 3, ck_one 0), (222, 1, 1, ck_one 6), (222, 0, 0, ck_one 30), (222, 3, 3, ck_one 0), (1, 15, 15, ck_one 0), (220, 0, 0, ck_one 24), (220, 3, 3, ck_one 0), (10, 3, 3, ck_one 0), (3, 0, 0, ck_one 3), (223, 0, 179, ck_one 0), (225, 0, 185, ck_one 0)]), ([(1, 15, 15), (220, 3, 3), (221, 0, 47), (222, 3, 3), (223, 0, 179), (224, 3, 3), (225, 0, 185), (245, 0, 0)], []), [(.inr (some (.inl (ck_one 0))), 245, ([], [], [(245, 0, 0, ck_one 0), (224, 3, 3, ck_one 31), (222, 3, 3, ck_one 30), (1, 15, 15, ck_one 1), (220, 3, 3, ck_one 0), (223, 0, 179, ck_one 0), (225, 0, 185, ck_one 0)]))])
set_option maxRecDepth 100000 in
theorem p33x_4041_e : ck_ok p1_O none [] [(213, [p33x_4040])] 212 [] 92 p33x_4041 = true := by decide +kernel
theorem p33x_4041_s {X : Int → Int} {LX : Nat} : ck_Ok p1_O X LX 212 p33x_4041 := ck_ok_s (ck_E1 (ck_S1 p33x_4040_s ck_S0) ck_E0) ck_X0 ck_l0 p33x_4041_e
set_option maxRecDepth 100000 in
def p33x_4086 : ck_Sum := ((3, 0, 0), 245, [.inr (.inr (.inl 1)), .inl (ck_one 30), .inl (ck_one 0)], ([], [], [(224, 1, 1, ck_one 6), (224, 0, 0, ck_one 31), (224, 3, 3, ck_one 0), (222, 1, 1, ck_one 6), (222, 0, 0, ck_one 30), (222, 3, 3, ck_one 0), (1, 15, 15, ck_one 0), (220, 0, 0, ck_one 24), (220, 3, 3, ck_one 0), (10, 3, 3, ck_one 0), (3, 0, 0, ck_one 3), (223, 0, 179, ck_one 0), (225, 0, 185, ck_one 0)]), ([(1, 15, 15), (220, 3, 3), (221, 0, 47), (222, 3, 3), (223, 0, 179), (224, 3, 3), (225, 0, 185)], []), [(.inr (some (.inl (ck_one 0))), 245, ([], [], [(224, 3, 3, ck_one 31), (222, 3, 3, ck_one 30), (1, 15, 15, ck_one 1), (220, 3, 3, ck_one 0), (223, 0, 179, ck_one 0), (225, 0, 185, ck_one 0)]))])
set_option maxRecDepth 100000 in
theorem p33x_4086_e : ck_ok p1_O none [] [(214, [p33x_3901]), (24, [p33x_148]), (215, [p33x_3903]), (25, [p33x_3904]), (10, [p33x_4031, p33x_4038, p33x_4039]), (216, [p33x_4035]), (45, [p33x_4036])] 213 [(28, [some (.inr (.inr (.inl 1))), some (.inl (ck_one 30)), some (.inl (ck_one 0)), some (.inl ((-1), 29, none)), none], ([], [], [(224, 3, 3, ck_one 31), (225, 0, 185, ck_one 0), (222, 3, 3, ck_one 30), (223, 0, 179, ck_one 0), (1, 15, 15, ck_one 1), (220, 3, 3, ck_one 0), (224, 1, 1, ck_one 6), (224, 0, 0, ck_one 31), (222, 1, 1, ck_one 6), (222, 0, 0, ck_one 30), (220, 0, 0, ck_one 24), (10, 3, 3, ck_one 0), (3, 0, 0, ck_one 3)]), 100, .inl 3, false), (35, [some (.inr (.inr (.inl 1))), some (.inl (ck_one 30)), some (.inl (ck_one 0)), some (.inl (0, 29, some (100, 0))), some (.inl (0, 3, none))], ([], [], [(224, 3, 3, ck_one 31), (225, 0, 185, ck_one 0), (222, 3, 3, ck_one 30), (223, 0, 179, ck_one 0), (1, 15, 15, ck_one 1), (220, 3, 3, ck_one 0), (224, 1, 1, ck_one 6), (224, 0, 0, ck_one 31), (222, 1, 1, ck_one 6), (222, 0, 0, ck_one 30), (220, 0, 0, ck_one 24), (10, 3, 3, ck_one 0), (3, 0, 0, ck_one 3)]), 300, .inl 4, true), (94, [some (.inr (.inr (.inl 1))), some (.inl (ck_one 30)), some (.inl (ck_one 0)), some (.inl (ck_one 0)), some (.inl (1, 3, none))], ([], [], [(224, 3, 3, ck_one 31), (225, 0, 185, ck_one 0), (222, 3, 3, ck_one 30), (223, 0, 179, ck_one 0), (1, 15, 15, ck_one 1), (220, 3, 3, ck_one 0), (224, 1, 1, ck_one 6), (224, 0, 0, ck_one 31), (222, 1, 1, ck_one 6), (222, 0, 0, ck_one 30), (220, 0, 0, ck_one 24), (10, 3, 3, ck_one 0), (3, 0, 0, ck_one 3)]), 500, .inl 4, true)] 330 p33x_4086 = true := by decide +kernel
theorem p33x_4086_s {X : Int → Int} {LX : Nat} : ck_Ok p1_O X LX 213 p33x_4086 := ck_ok_s (ck_E1 (ck_S1 p33x_3901_s ck_S0) (ck_E1 (ck_S1 p33x_148_s ck_S0) (ck_E1 (ck_S1 p33x_3903_s ck_S0) (ck_E1 (ck_S1 p33x_3904_s ck_S0) (ck_E1 (ck_S1 p33x_4031_s (ck_S1 p33x_4038_s (ck_S1 p33x_4039_s ck_S0))) (ck_E1 (ck_S1 p33x_4035_s ck_S0) (ck_E1 (ck_S1 p33x_4036_s ck_S0) ck_E0))))))) ck_X0 ck_l0 p33x_4086_e
set_option maxRecDepth 100000 in
def p33x_4087 : ck_Sum := ((4, 0, 0), 245, [.inr (.inr (.inl 1)), .inl (ck_one 30), .inl (ck_one 0), .inr (.inr (.inl 245))], ([], [], [(224, 1, 1, ck_one 6), (224, 0, 0, ck_one 31), (224, 3, 3, ck_one 0), (222, 1, 1, ck_one 6), (222, 0, 0, ck_one 30), (222, 3, 3, ck_one 0), (1, 15, 15, ck_one 0), (220, 0, 0, ck_one 24), (220, 3, 3, ck_one 0), (10, 3, 3, ck_one 0), (3, 0, 0, ck_one 3), (223, 0, 179, ck_one 0), (225, 0, 185, ck_one 0)]), ([(1, 15, 15), (220, 3, 3), (221, 0, 47), (222, 3, 3), (223, 0, 179), (224, 3, 3), (225, 0, 185), (245, 0, 0)], []), [(.inr (some (.inl (ck_one 0))), 245, ([], [], [(245, 0, 0, ck_one 0), (224, 3, 3, ck_one 31), (222, 3, 3, ck_one 30), (1, 15, 15, ck_one 1), (220, 3, 3, ck_one 0), (223, 0, 179, ck_one 0), (225, 0, 185, ck_one 0)]))])
set_option maxRecDepth 100000 in
theorem p33x_4087_e : ck_ok p1_O none [] [(213, [p33x_4086])] 212 [] 92 p33x_4087 = true := by decide +kernel
theorem p33x_4087_s {X : Int → Int} {LX : Nat} : ck_Ok p1_O X LX 212 p33x_4087 := ck_ok_s (ck_E1 (ck_S1 p33x_4086_s ck_S0) ck_E0) ck_X0 ck_l0 p33x_4087_e
set_option maxRecDepth 100000 in
def p33x_4089 : ck_Sum := ((6, 1, 6), 245, [.inr (.inr (.inl 1)), .inl (31, 2147483647, none)], ([], [], []), ([], []), [(.inl 0, 245, ([], [], []))])
set_option maxRecDepth 100000 in
theorem p33x_4089_e : ck_ok p1_O none [] [] 214 [] 84 p33x_4089 = true := by decide +kernel
theorem p33x_4089_s {X : Int → Int} {LX : Nat} : ck_Ok p1_O X LX 214 p33x_4089 := ck_ok_s (ck_E0) ck_X0 ck_l0 p33x_4089_e
set_option maxRecDepth 100000 in
def p33x_4090 : ck_Sum := ((7, 1, 6), 245, [.inr (.inr (.inl 1)), .inl (31, 2147483647, none), .inl (ck_one 1)], ([], [], []), ([], []), [(.inl 0, 245, ([], [], []))])
set_option maxRecDepth 100000 in
theorem p33x_4090_e : ck_ok p1_O none [] [(214, [p33x_4089])] 213 [] 76 p33x_4090 = true := by decide +kernel
theorem p33x_4090_s {X : Int → Int} {LX : Nat} : ck_Ok p1_O X LX 213 p33x_4090 := ck_ok_s (ck_E1 (ck_S1 p33x_4089_s ck_S0) ck_E0) ck_X0 ck_l0 p33x_4090_e
set_option maxRecDepth 100000 in
def p33x_4091 : ck_Sum := ((8, 1, 6), 245, [.inr (.inr (.inl 1)), .inl (31, 2147483647, none), .inl (ck_one 1), .inr (.inr (.inl 245))], ([], [], []), ([], []), [(.inr (some (.inl (ck_one 1))), 245, ([], [], []))])
set_option maxRecDepth 100000 in
theorem p33x_4091_e : ck_ok p1_O none [] [(213, [p33x_4090])] 212 [] 88 p33x_4091 = true := by decide +kernel
theorem p33x_4091_s {X : Int → Int} {LX : Nat} : ck_Ok p1_O X LX 212 p33x_4091 := ck_ok_s (ck_E1 (ck_S1 p33x_4090_s ck_S0) ck_E0) ck_X0 ck_l0 p33x_4091_e
set_option maxRecDepth 100000 in
def p33x_4094 : ck_Sum := ((7, 1, 6), 245, [.inr (.inr (.inl 1)), .inl (31, 2147483647, none), .inl (ck_one 0)], ([], [], []), ([], []), [(.inl 0, 245, ([], [], []))])
set_option maxRecDepth 100000 in
theorem p33x_4094_e : ck_ok p1_O none [] [(214, [p33x_4089])] 213 [] 76 p33x_4094 = true := by decide +kernel
theorem p33x_4094_s {X : Int → Int} {LX : Nat} : ck_Ok p1_O X LX 213 p33x_4094 := ck_ok_s (ck_E1 (ck_S1 p33x_4089_s ck_S0) ck_E0) ck_X0 ck_l0 p33x_4094_e
set_option maxRecDepth 100000 in
def p33x_4095 : ck_Sum := ((8, 1, 6), 245, [.inr (.inr (.inl 1)), .inl (31, 2147483647, none), .inl (ck_one 0), .inr (.inr (.inl 245))], ([], [], []), ([], []), [(.inr (some (.inl (ck_one 1))), 245, ([], [], []))])
set_option maxRecDepth 100000 in
theorem p33x_4095_e : ck_ok p1_O none [] [(213, [p33x_4094])] 212 [] 88 p33x_4095 = true := by decide +kernel
theorem p33x_4095_s {X : Int → Int} {LX : Nat} : ck_Ok p1_O X LX 212 p33x_4095 := ck_ok_s (ck_E1 (ck_S1 p33x_4094_s ck_S0) ck_E0) ck_X0 ck_l0 p33x_4095_e
set_option maxRecDepth 100000 in
def p33x_136 : ck_Sum := ((0, 0, 0), 245, [.inl ((-2147483648), 0, none), .inl (ck_one 1), .inl (ck_one 30)], ([], [], []), ([], []), [(.inr (some (.inl (ck_one 0))), 245, ([], [], []))])
set_option maxRecDepth 100000 in
theorem p33x_136_e : ck_ok p1_O none [] [] 287 [] 80 p33x_136 = true := by decide +kernel
theorem p33x_136_s {X : Int → Int} {LX : Nat} : ck_Ok p1_O X LX 287 p33x_136 := ck_ok_s (ck_E0) ck_X0 ck_l0 p33x_136_e
set_option maxRecDepth 100000 in
def p33x_137 : ck_Sum := ((0, 0, 0), 245, [.inr (.inr (.inl 226)), .inl (ck_one 1), .inl (ck_one 1)], ([], [], []), ([(226, 0, 0)], []), [(.inr (some (.inl (ck_one 1))), 245, ([], [], [(226, 0, 0, ck_one 1)]))])
set_option maxRecDepth 100000 in
theorem p33x_137_e : ck_ok p1_O none [] [] 283 [] 84 p33x_137 = true := by decide +kernel
theorem p33x_137_s {X : Int → Int} {LX : Nat} : ck_Ok p1_O X LX 283 p33x_137 := ck_ok_s (ck_E0) ck_X0 ck_l0 p33x_137_e
set_option maxRecDepth 100000 in
def p33x_138 : ck_Sum := ((1, 0, 0), 245, [.inr (.inr (.inl 226)), .inl ((-2147483648), 0, none), .inl (ck_one 1)], ([], [], []), ([(226, 0, 0)], []), [(.inr (some (.inl (ck_one 0))), 245, ([], [], [(226, 0, 0, ck_one 1)]))])
set_option maxRecDepth 100000 in
theorem p33x_138_e : ck_ok p1_O none [] [(287, [p33x_136]), (283, [p33x_137])] 358 [] 102 p33x_138 = true := by decide +kernel
theorem p33x_138_s {X : Int → Int} {LX : Nat} : ck_Ok p1_O X LX 358 p33x_138 := ck_ok_s (ck_E1 (ck_S1 p33x_136_s ck_S0) (ck_E1 (ck_S1 p33x_137_s ck_S0) ck_E0)) ck_X0 ck_l0 p33x_138_e
set_option maxRecDepth 100000 in
def p33x_142 : ck_Sum := ((1, 0, 0), 245, [.inr (.inr (.inl 226)), .inl ((-2147483648), 0, none), .inl (ck_one 0)], ([], [], []), ([(226, 0, 0)], []), [(.inr (some (.inl (ck_one 0))), 245, ([], [], [(226, 0, 0, ck_one 1)]))])
set_option maxRecDepth 100000 in
theorem p33x_142_e : ck_ok p1_O none [] [(287, [p33x_136]), (283, [p33x_137])] 358 [] 102 p33x_142 = true := by decide +kernel
theorem p33x_142_s {X : Int → Int} {LX : Nat} : ck_Ok p1_O X LX 358 p33x_142 := ck_ok_s (ck_E1 (ck_S1 p33x_136_s ck_S0) (ck_E1 (ck_S1 p33x_137_s ck_S0) ck_E0)) ck_X0 ck_l0 p33x_142_e
set_option maxRecDepth 100000 in
def p33x_177 : ck_Sum := ((0, 0, 0), 245, [.inl (ck_one 1), .inl (ck_one 1), .inl (ck_one 30)], ([], [], []), ([], []), [(.inr (some (.inl (ck_one 1))), 245, ([], [], []))])
set_option maxRecDepth 100000 in
theorem p33x_177_e : ck_ok p1_O none [] [] 287 [] 88 p33x_177 = true := by decide +kernel
theorem p33x_177_s {X : Int → Int} {LX : Nat} : ck_Ok p1_O X LX 287 p33x_177 := ck_ok_s (ck_E0) ck_X0 ck_l0 p33x_177_e
set_option maxRecDepth 100000 in
def p33x_178 : ck_Sum := ((0, 0, 0), 245, [.inr (.inr (.inl 226)), .inl (ck_one 0), .inl (ck_one 1)], ([], [], []), ([], []), [(.inr (some (.inl (ck_one 0))), 245, ([], [], []))])
set_option maxRecDepth 100000 in
theorem p33x_178_e : ck_ok p1_O none [] [] 283 [] 78 p33x_178 = true := by decide +kernel
theorem p33x_178_s {X : Int → Int} {LX : Nat} : ck_Ok p1_O X LX 283 p33x_178 := ck_ok_s (ck_E0) ck_X0 ck_l0 p33x_178_e
set_option maxRecDepth 100000 in
def p33x_179 : ck_Sum := ((0, 0, 0), 245, [.inr (.inr (.inl 226))], ([], [], [(227, 2, 9, ck_one 0)]), ([], []), [(.inr (some (.inl (ck_one 0))), 245, ([], [], []))])
set_option maxRecDepth 100000 in
theorem p33x_179_e : ck_ok p1_O none [] [] 255 [] 80 p33x_179 = true := by decide +kernel
theorem p33x_179_s {X : Int → Int} {LX : Nat} : ck_Ok p1_O X LX 255 p33x_179 := ck_ok_s (ck_E0) ck_X0 ck_l0 p33x_179_e
set_option maxRecDepth 100000 in
def p33x_180 : ck_Sum := ((1, 0, 0), 245, [.inr (.inr (.inl 226))], ([], [], [(227, 2, 9, ck_one 0)]), ([], []), [(.inr none, 245, ([], [], []))])
set_option maxRecDepth 100000 in
theorem p33x_180_e : ck_ok p1_O none [] [(255, [p33x_179])] 333 [(2, [some (.inr (.inr (.inl 226))), some (.inl (ck_one 0))], ([], [], [(227, 2, 9, ck_one 0)]), 100, .inl 1, true)] 110 p33x_180 = true := by decide +kernel
theorem p33x_180_s {X : Int → Int} {LX : Nat} : ck_Ok p1_O X LX 333 p33x_180 := ck_ok_s (ck_E1 (ck_S1 p33x_179_s ck_S0) ck_E0) ck_X0 ck_l0 p33x_180_e
set_option maxRecDepth 100000 in
def p33x_181 : ck_Sum := ((0, 0, 0), 245, [.inr (.inr (.inl 226))], ([], [], [(227, 2, 9, ck_one 0)]), ([], []), [(.inr (some (.inl (ck_one 0))), 245, ([], [], []))])
set_option maxRecDepth 100000 in
theorem p33x_181_e : ck_ok p1_O none [] [] 267 [] 80 p33x_181 = true := by decide +kernel
theorem p33x_181_s {X : Int → Int} {LX : Nat} : ck_Ok p1_O X LX 267 p33x_181 := ck_ok_s (ck_E0) ck_X0 ck_l0 p33x_181_e
set_option maxRecDepth 100000 in
def p33x_182 : ck_Sum := ((0, 0, 0), 245, [.inr (.inr (.inl 226))], ([], [], [(227, 0, 0, ck_one 3)]), ([], []), [(.inr (some (.inl (ck_one 3))), 245, ([], [], []))])
set_option maxRecDepth 100000 in
theorem p33x_182_e : ck_ok p1_O none [] [] 262 [] 80 p33x_182 = true := by decide +kernel
theorem p33x_182_s {X : Int → Int} {LX : Nat} : ck_Ok p1_O X LX 262 p33x_182 := ck_ok_s (ck_E0) ck_X0 ck_l0 p33x_182_e
set_option maxRecDepth 100000 in
def p33x_185 : ck_Sum := ((1, 0, 0), 245, [.inr (.inr (.inl 226)), .inl (ck_one 0), .inl (0, 2, none), .inl (ck_one 0)], ([], [], [(227, 2, 9, ck_one 0)]), ([], []), [(.inr (some (.inl (ck_one 0))), 245, ([], [], []))])
set_option maxRecDepth 100000 in
theorem p33x_185_e : ck_ok p1_O none [] [(255, [p33x_179])] 334 [(6, [some (.inr (.inr (.inl 226))), some (.inl (ck_one 0)), some (.inl (0, 2, none)), some (.inl (ck_one 0)), some (.inl (ck_one 0)), some (.inl (ck_one 0))], ([], [], [(227, 2, 9, ck_one 0)]), 100, .inl 4, true)] 114 p33x_185 = true := by decide +kernel
theorem p33x_185_s {X : Int → Int} {LX : Nat} : ck_Ok p1_O X LX 334 p33x_185 := ck_ok_s (ck_E1 (ck_S1 p33x_179_s ck_S0) ck_E0) ck_X0 ck_l0 p33x_185_e
set_option maxRecDepth 100000 in
def p33x_186 : ck_Sum := ((2, 0, 0), 245, [.inr (.inr (.inl 226)), .inl (ck_one 1)], ([], [], [(227, 0, 0, ck_one 3), (244, 0, 5, ck_one 0), (243, 0, 5, ck_one 0), (227, 2, 9, ck_one 0)]), ([(243, 0, 5), (244, 0, 2)], []), [(.inr none, 245, ([], [], [(244, 0, 5, ck_one 0), (243, 0, 5, ck_one 0)]))])
set_option maxRecDepth 100000 in
theorem p33x_186_e : ck_ok p1_O none [] [(333, [p33x_180]), (267, [p33x_181]), (262, [p33x_182]), (334, [p33x_185])] 359 [(6, [some (.inr (.inr (.inl 226))), some (.inl (ck_one 1)), some (.inl (0, 6, none)), none, none], ([], [], [(227, 0, 0, ck_one 3), (244, 0, 5, ck_one 0), (243, 0, 5, ck_one 0), (227, 2, 9, ck_one 0)]), 100, .inl 2, true), (34, [some (.inr (.inr (.inl 226))), some (.inl (ck_one 1)), some (.inl ((-1), 0, none)), none, none], ([], [], [(227, 0, 0, ck_one 3), (244, 0, 5, ck_one 0), (243, 0, 5, ck_one 0), (227, 2, 9, ck_one 0)]), 300, .inl 2, false), (44, [some (.inr (.inr (.inl 226))), some (.inl (ck_one 1)), some (.inl (0, 0, some (300, 0))), some (.inl (0, 3, none)), none], ([], [], [(227, 0, 0, ck_one 3), (244, 0, 5, ck_one 0), (243, 0, 5, ck_one 0), (227, 2, 9, ck_one 0)]), 500, .inl 3, true), (152, [some (.inr (.inr (.inl 226))), some (.inl (ck_one 1)), some (.inl (0, 0, some (300, 0))), some (.inl (0, 3, none)), none], ([], [], [(227, 0, 0, ck_one 3), (244, 0, 5, ck_one 0), (243, 0, 5, ck_one 0), (227, 2, 9, ck_one 0)]), 700, .inl 3, true)] 540 p33x_186 = true := by decide +kernel
theorem p33x_186_s {X : Int → Int} {LX : Nat} : ck_Ok p1_O X LX 359 p33x_186 := ck_ok_s (ck_E1 (ck_S1 p33x_180_s ck_S0) (ck_E1 (ck_S1 p33x_181_s ck_S0) (ck_E1 (ck_S1 p33x_182_s ck_S0) (ck_E1 (ck_S1 p33x_185_s ck_S0) ck_E0)))) ck_X0 ck_l0 p33x_186_e
set_option maxRecDepth 100000 in
def p33x_187 : ck_Sum := ((3, 0, 0), 245, [.inr (.inr (.inl 226)), .inl (ck_one 1), .inl (ck_one 1)], ([], [], [(227, 0, 0, ck_one 3), (244, 0, 5, ck_one 0), (243, 0, 5, ck_one 0), (227, 2, 9, ck_one 0), (226, 0, 0, ck_one 0)]), ([(226, 0, 0), (243, 0, 5), (244, 0, 2)], []), [(.inr (some (.inl (ck_one 0))), 245, ([], [], [(226, 0, 0, ck_one 0), (244, 0, 5, ck_one 0), (243, 0, 5, ck_one 0)]))])
set_option maxRecDepth 100000 in
theorem p33x_187_e : ck_ok p1_O none [] [(287, [p33x_177]), (283, [p33x_178]), (359, [p33x_186]), (262, [p33x_182])] 358 [(40, [some (.inr (.inr (.inl 226))), some (.inl (ck_one 1)), some (.inl (ck_one 1)), some (.inl (ck_one 0)), some (.inl (1, 3, none))], ([], [], [(244, 0, 5, ck_one 0), (243, 0, 5, ck_one 0), (226, 0, 0, ck_one 0), (227, 0, 0, ck_one 3), (244, 3, 5, ck_one 0), (227, 2, 9, ck_one 0)]), 100, .inl 4, true)] 174 p33x_187 = true := by decide +kernel
theorem p33x_187_s {X : Int → Int} {LX : Nat} : ck_Ok p1_O X LX 358 p33x_187 := ck_ok_s (ck_E1 (ck_S1 p33x_177_s ck_S0) (ck_E1 (ck_S1 p33x_178_s ck_S0) (ck_E1 (ck_S1 p33x_186_s ck_S0) (ck_E1 (ck_S1 p33x_182_s ck_S0) ck_E0)))) ck_X0 ck_l0 p33x_187_e
set_option maxRecDepth 100000 in
def p33x_191 : ck_Sum := ((3, 0, 0), 245, [.inr (.inr (.inl 226)), .inl (ck_one 1), .inl (ck_one 0)], ([], [], [(227, 0, 0, ck_one 3), (244, 0, 5, ck_one 0), (243, 0, 5, ck_one 0), (227, 2, 9, ck_one 0), (226, 0, 0, ck_one 0)]), ([(226, 0, 0), (243, 0, 5), (244, 0, 2)], []), [(.inr (some (.inl (ck_one 0))), 245, ([], [], [(226, 0, 0, ck_one 0), (244, 0, 5, ck_one 0), (243, 0, 5, ck_one 0)]))])
set_option maxRecDepth 100000 in
theorem p33x_191_e : ck_ok p1_O none [] [(287, [p33x_177]), (283, [p33x_178]), (359, [p33x_186]), (262, [p33x_182])] 358 [(40, [some (.inr (.inr (.inl 226))), some (.inl (ck_one 1)), some (.inl (ck_one 0)), some (.inl (ck_one 0)), some (.inl (1, 3, none))], ([], [], [(244, 0, 5, ck_one 0), (243, 0, 5, ck_one 0), (226, 0, 0, ck_one 0), (227, 0, 0, ck_one 3), (244, 3, 5, ck_one 0), (227, 2, 9, ck_one 0)]), 100, .inl 4, true)] 174 p33x_191 = true := by decide +kernel
theorem p33x_191_s {X : Int → Int} {LX : Nat} : ck_Ok p1_O X LX 358 p33x_191 := ck_ok_s (ck_E1 (ck_S1 p33x_177_s ck_S0) (ck_E1 (ck_S1 p33x_178_s ck_S0) (ck_E1 (ck_S1 p33x_186_s ck_S0) (ck_E1 (ck_S1 p33x_182_s ck_S0) ck_E0)))) ck_X0 ck_l0 p33x_191_e
set_option maxRecDepth 100000 in
def p33x_225 : ck_Sum := ((0, 0, 0), 245, [.inl (ck_one 2), .inl (ck_one 1), .inl (ck_one 30)], ([], [], []), ([], []), [(.inr (some (.inl (ck_one 1))), 245, ([], [], []))])
set_option maxRecDepth 100000 in
theorem p33x_225_e : ck_ok p1_O none [] [] 287 [] 88 p33x_225 = true := by decide +kernel
theorem p33x_225_s {X : Int → Int} {LX : Nat} : ck_Ok p1_O X LX 287 p33x_225 := ck_ok_s (ck_E0) ck_X0 ck_l0 p33x_225_e
set_option maxRecDepth 100000 in
def p33x_228 : ck_Sum := ((1, 0, 0), 245, [.inr (.inr (.inl 226)), .inl (ck_one 1), .inl (0, 2, none), .inl (ck_one 0)], ([], [], [(227, 2, 9, ck_one 0)]), ([], []), [(.inr (some (.inl (ck_one 0))), 245, ([], [], []))])
set_option maxRecDepth 100000 in
theorem p33x_228_e : ck_ok p1_O none [] [(255, [p33x_179])] 334 [(6, [some (.inr (.inr (.inl 226))), some (.inl (ck_one 1)), some (.inl (0, 2, none)), some (.inl (ck_one 0)), some (.inl (ck_one 0)), some (.inl (ck_one 0))], ([], [], [(227, 2, 9, ck_one 0)]), 100, .inl 4, true)] 114 p33x_228 = true := by decide +kernel
theorem p33x_228_s {X : Int → Int} {LX : Nat} : ck_Ok p1_O X LX 334 p33x_228 := ck_ok_s (ck_E1 (ck_S1 p33x_179_s ck_S0) ck_E0) ck_X0 ck_l0 p33x_228_e
set_option maxRecDepth 100000 in
def p33x_183 : ck_Sum := ((1, 0, 0), 245, [.inr (.inr (.inl 226)), .inl (ck_one 0), .inl (ck_one 0), .inl (ck_one 0)], ([], [], [(227, 2, 9, ck_one 0)]), ([], []), [(.inr (some (.inl (ck_one 0))), 245, ([], [], []))])
set_option maxRecDepth 100000 in
theorem p33x_183_e : ck_ok p1_O none [] [(255, [p33x_179])] 334 [(6, [some (.inr (.inr (.inl 226))), some (.inl (ck_one 0)), some (.inl (ck_one 0)), some (.inl (ck_one 0)), some (.inl (ck_one 0)), some (.inl (ck_one 0))], ([], [], [(227, 2, 9, ck_one 0)]), 100, .inl 4, true)] 114 p33x_183 = true := by decide +kernel
theorem p33x_183_s {X : Int → Int} {LX : Nat} : ck_Ok p1_O X LX 334 p33x_183 := ck_ok_s (ck_E1 (ck_S1 p33x_179_s ck_S0) ck_E0) ck_X0 ck_l0 p33x_183_e
set_option maxRecDepth 100000 in
def p33x_229 : ck_Sum := ((1, 0, 0), 245, [.inr (.inr (.inl 226)), .inl (ck_one 0), .inl (1, 2, none), .inl (ck_one 0)], ([], [], [(227, 2, 9, ck_one 0)]), ([], []), [(.inr (some (.inl (ck_one 0))), 245, ([], [], []))])
set_option maxRecDepth 100000 in
theorem p33x_229_e : ck_ok p1_O none [] [(255, [p33x_179])] 334 [(6, [some (.inr (.inr (.inl 226))), some (.inl (ck_one 0)), some (.inl (1, 2, none)), some (.inl (ck_one 0)), some (.inl (ck_one 0)), some (.inl (ck_one 0))], ([], [], [(227, 2, 9, ck_one 0)]), 100, .inl 4, true)] 114 p33x_229 = true := by decide +kernel
theorem p33x_229_s {X : Int → Int} {LX : Nat} : ck_Ok p1_O X LX 334 p33x_229 := ck_ok_s (ck_E1 (ck_S1 p33x_179_s ck_S0) ck_E0) ck_X0 ck_l0 p33x_229_e
set_option maxRecDepth 100000 in
def p33x_230 : ck_Sum := ((2, 0, 0), 245, [.inr (.inr (.inl 226)), .inl (ck_one 2)], ([], [], [(227, 0, 0, ck_one 3), (244, 0, 5, ck_one 0), (243, 0, 5, ck_one 0), (227, 2, 9, ck_one 0)]), ([(243, 0, 5), (244, 0, 2)], []), [(.inr none, 245, ([], [], [(244, 0, 5, ck_one 0), (243, 0, 5, ck_one 0)]))])
set_option maxRecDepth 100000 in
theorem p33x_230_e : ck_ok p1_O none [] [(333, [p33x_180]), (267, [p33x_181]), (262, [p33x_182]), (334, [p33x_228, p33x_183, p33x_229])] 359 [(6, [some (.inr (.inr (.inl 226))), some (.inl (ck_one 2)), some (.inl (0, 6, none)), none, none], ([], [], [(227, 0, 0, ck_one 3), (244, 0, 5, ck_one 0), (243, 0, 5, ck_one 0), (227, 2, 9, ck_one 0)]), 100, .inl 2, true), (34, [some (.inr (.inr (.inl 226))), some (.inl (ck_one 2)), some (.inl ((-1), 1, none)), none, none], ([], [], [(227, 0, 0, ck_one 3), (244, 0, 5, ck_one 0), (243, 0, 5, ck_one 0), (227, 2, 9, ck_one 0)]), 300, .inl 2, false), (44, [some (.inr (.inr (.inl 226))), some (.inl (ck_one 2)), some (.inl (0, 1, some (300, 0))), some (.inl (0, 3, none)), none], ([], [], [(227, 0, 0, ck_one 3), (244, 0, 5, ck_one 0), (243, 0, 5, ck_one 0), (227, 2, 9, ck_one 0)]), 500, .inl 3, true), (152, [some (.inr (.inr (.inl 226))), some (.inl (ck_one 2)), some (.inl (0, 1, some (300, 0))), some (.inl (0, 3, none)), none], ([], [], [(227, 0, 0, ck_one 3), (244, 0, 5, ck_one 0), (243, 0, 5, ck_one 0), (227, 2, 9, ck_one 0)]), 700, .inl 3, true)] 800 p33x_230 = true := by decide +kernel
theorem p33x_230_s {X : Int → Int} {LX : Nat} : ck_Ok p1_O X LX 359 p33x_230 := ck_ok_s (ck_E1 (ck_S1 p33x_180_s ck_S0) (ck_E1 (ck_S1 p33x_181_s ck_S0) (ck_E1 (ck_S1 p33x_182_s ck_S0) (ck_E1 (ck_S1 p33x_228_s (ck_S1 p33x_183_s (ck_S1 p33x_229_s ck_S0))) ck_E0)))) ck_X0 ck_l0 p33x_230_e
set_option maxRecDepth 100000 in
def p33x_231 : ck_Sum := ((3, 0, 0), 245, [.inr (.inr (.inl 226)), .inl (ck_one 2), .inl (ck_one 1)], ([], [], [(227, 0, 0, ck_one 3), (244, 0, 5, ck_one 0), (243, 0, 5, ck_one 0), (227, 2, 9, ck_one 0), (226, 0, 0, ck_one 0)]), ([(226, 0, 0), (243, 0, 5), (244, 0, 2)], []), [(.inr (some (.inl (ck_one 0))), 245, ([], [], [(226, 0, 0, ck_one 0), (244, 0, 5, ck_one 0), (243, 0, 5, ck_one 0)]))])
set_option maxRecDepth 100000 in
theorem p33x_231_e : ck_ok p1_O none [] [(287, [p33x_225]), (283, [p33x_178]), (359, [p33x_230]), (262, [p33x_182])] 358 [(40, [some (.inr (.inr (.inl 226))), some (.inl (ck_one 2)), some (.inl (ck_one 1)), some (.inl (ck_one 0)), some (.inl (1, 3, none))], ([], [], [(244, 0, 5, ck_one 0), (243, 0, 5, ck_one 0), (226, 0, 0, ck_one 0), (227, 0, 0, ck_one 3), (244, 3, 5, ck_one 0), (227, 2, 9, ck_one 0)]), 100, .inl 4, true)] 174 p33x_231 = true := by decide +kernel
theorem p33x_231_s {X : Int → Int} {LX : Nat} : ck_Ok p1_O X LX 358 p33x_231 := ck_ok_s (ck_E1 (ck_S1 p33x_225_s ck_S0) (ck_E1 (ck_S1 p33x_178_s ck_S0) (ck_E1 (ck_S1 p33x_230_s ck_S0) (ck_E1 (ck_S1 p33x_182_s ck_S0) ck_E0)))) ck_X0 ck_l0 p33x_231_e
set_option maxRecDepth 100000 in
def p33x_234 : ck_Sum := ((3, 0, 0), 245, [.inr (.inr (.inl 226)), .inl (ck_one 2), .inl (ck_one 0)], ([], [], [(227, 0, 0, ck_one 3), (244, 0, 5, ck_one 0), (243, 0, 5, ck_one 0), (227, 2, 9, ck_one 0), (226, 0, 0, ck_one 0)]), ([(226, 0, 0), (243, 0, 5), (244, 0, 2)], []), [(.inr (some (.inl (ck_one 0))), 245, ([], [], [(226, 0, 0, ck_one 0), (244, 0, 5, ck_one 0), (243, 0, 5, ck_one 0)]))])
set_option maxRecDepth 100000 in
theorem p33x_234_e : ck_ok p1_O none [] [(287, [p33x_225]), (283, [p33x_178]), (359, [p33x_230]), (262, [p33x_182])] 358 [(40, [some (.inr (.inr (.inl 226))), some (.inl (ck_one 2)), some (.inl (ck_one 0)), some (.inl (ck_one 0)), some (.inl (1, 3, none))], ([], [], [(244, 0, 5, ck_one 0), (243, 0, 5, ck_one 0), (226, 0, 0, ck_one 0), (227, 0, 0, ck_one 3), (244, 3, 5, ck_one 0), (227, 2, 9, ck_one 0)]), 100, .inl 4, true)] 174 p33x_234 = true := by decide +kernel
theorem p33x_234_s {X : Int → Int} {LX : Nat} : ck_Ok p1_O X LX 358 p33x_234 := ck_ok_s (ck_E1 (ck_S1 p33x_225_s ck_S0) (ck_E1 (ck_S1 p33x_178_s ck_S0) (ck_E1 (ck_S1 p33x_230_s ck_S0) (ck_E1 (ck_S1 p33x_182_s ck_S0) ck_E0)))) ck_X0 ck_l0 p33x_234_e
set_option maxRecDepth 100000 in
def p33x_274 : ck_Sum := ((0, 0, 0), 245, [.inl (ck_one 3), .inl (ck_one 1), .inl (ck_one 30)], ([], [], []), ([], []), [(.inr (some (.inl (ck_one 1))), 245, ([], [], []))])
set_option maxRecDepth 100000 in
theorem p33x_274_e : ck_ok p1_O none [] [] 287 [] 88 p33x_274 = true := by decide +kernel
theorem p33x_274_s {X : Int → Int} {LX : Nat} : ck_Ok p1_O X LX 287 p33x_274 := ck_ok_s (ck_E0) ck_X0 ck_l0 p33x_274_e
set_option maxRecDepth 100000 in
def p33x_277 : ck_Sum := ((1, 0, 0), 245, [.inr (.inr (.inl 226)), .inl (ck_one 2), .inl (0, 2, none), .inl (ck_one 0)], ([], [], [(227, 2, 9, ck_one 0)]), ([], []), [(.inr (some (.inl (ck_one 0))), 245, ([], [], []))])
set_option maxRecDepth 100000 in
theorem p33x_277_e : ck_ok p1_O none [] [(255, [p33x_179])] 334 [(6, [some (.inr (.inr (.inl 226))), some (.inl (ck_one 2)), some (.inl (0, 2, none)), some (.inl (ck_one 0)), some (.inl (ck_one 0)), some (.inl (ck_one 0))], ([], [], [(227, 2, 9, ck_one 0)]), 100, .inl 4, true)] 114 p33x_277 = true := by decide +kernel
theorem p33x_277_s {X : Int → Int} {LX : Nat} : ck_Ok p1_O X LX 334 p33x_277 := ck_ok_s (ck_E1 (ck_S1 p33x_179_s ck_S0) ck_E0) ck_X0 ck_l0 p33x_277_e
set_option maxRecDepth 100000 in
def p33x_279 : ck_Sum := ((1, 0, 0), 245, [.inr (.inr (.inl 226)), .inl (0, 1, none), .inl (ck_one 0), .inl (ck_one 0)], ([], [], [(227, 2, 9, ck_one 0)]), ([], []), [(.inr (some (.inl (ck_one 0))), 245, ([], [], []))])
set_option maxRecDepth 100000 in
theorem p33x_279_e : ck_ok p1_O none [] [(255, [p33x_179])] 334 [(6, [some (.inr (.inr (.inl 226))), some (.inl (0, 1, none)), some (.inl (ck_one 0)), some (.inl (ck_one 0)), some (.inl (ck_one 0)), some (.inl (ck_one 0))], ([], [], [(227, 2, 9, ck_one 0)]), 100, .inl 4, true)] 114 p33x_279 = true := by decide +kernel
theorem p33x_279_s {X : Int → Int} {LX : Nat} : ck_Ok p1_O X LX 334 p33x_279 := ck_ok_s (ck_E1 (ck_S1 p33x_179_s ck_S0) ck_E0) ck_X0 ck_l0 p33x_279_e
set_option maxRecDepth 100000 in
def p33x_280 : ck_Sum := ((1, 0, 0), 245, [.inr (.inr (.inl 226)), .inl (0, 1, none), .inl (1, 2, none), .inl (ck_one 0)], ([], [], [(227, 2, 9, ck_one 0)]), ([], []), [(.inr (some (.inl (ck_one 0))), 245, ([], [], []))])
set_option maxRecDepth 100000 in
theorem p33x_280_e : ck_ok p1_O none [] [(255, [p33x_179])] 334 [(6, [some (.inr (.inr (.inl 226))), some (.inl (0, 1, none)), some (.inl (1, 2, none)), some (.inl (ck_one 0)), some (.inl (ck_one 0)), some (.inl (ck_one 0))], ([], [], [(227, 2, 9, ck_one 0)]), 100, .inl 4, true)] 114 p33x_280 = true := by decide +kernel
theorem p33x_280_s {X : Int → Int} {LX : Nat} : ck_Ok p1_O X LX 334 p33x_280 := ck_ok_s (ck_E1 (ck_S1 p33x_179_s ck_S0) ck_E0) ck_X0 ck_l0 p33x_280_e
set_option maxRecDepth 100000 in
def p33x_281 : ck_Sum := ((2, 0, 0), 245, [.inr (.inr (.inl 226)), .inl (ck_one 3)], ([], [], [(227, 0, 0, ck_one 3), (244, 0, 5, ck_one 0), (243, 0, 5, ck_one 0), (227, 2, 9, ck_one 0)]), ([(243, 0, 5), (244, 0, 2)], []), [(.inr none, 245, ([], [], [(244, 0, 5, ck_one 0), (243, 0, 5, ck_one 0)]))])
set_option maxRecDepth 100000 in
theorem p33x_281_e : ck_ok p1_O none [] [(333, [p33x_180]), (267, [p33x_181]), (262, [p33x_182]), (334, [p33x_277, p33x_279, p33x_280])] 359 [(6, [some (.inr (.inr (.inl 226))), some (.inl (ck_one 3)), some (.inl (0, 6, none)), none, none], ([], [], [(227, 0, 0, ck_one 3), (244, 0, 5, ck_one 0), (243, 0, 5, ck_one 0), (227, 2, 9, ck_one 0)]), 100, .inl 2, true), (34, [some (.inr (.inr (.inl 226))), some (.inl (ck_one 3)), some (.inl ((-1), 2, none)), none, none], ([], [], [(227, 0, 0, ck_one 3), (244, 0, 5, ck_one 0), (243, 0, 5, ck_one 0), (227, 2, 9, ck_one 0)]), 300, .inl 2, false), (44, [some (.inr (.inr (.inl 226))), some (.inl (ck_one 3)), some (.inl (0, 2, some (300, 0))), some (.inl (0, 3, none)), none], ([], [], [(227, 0, 0, ck_one 3), (244, 0, 5, ck_one 0), (243, 0, 5, ck_one 0), (227, 2, 9, ck_one 0)]), 500, .inl 3, true), (152, [some (.inr (.inr (.inl 226))), some (.inl (ck_one 3)), some (.inl (0, 2, some (300, 0))), some (.inl (0, 3, none)), none], ([], [], [(227, 0, 0, ck_one 3), (244, 0, 5, ck_one 0), (243, 0, 5, ck_one 0), (227, 2, 9, ck_one 0)]), 700, .inl 3, true)] 800 p33x_281 = true := by decide +kernel
theorem p33x_281_s {X : Int → Int} {LX : Nat} : ck_Ok p1_O X LX 359 p33x_281 := ck_ok_s (ck_E1 (ck_S1 p33x_180_s ck_S0) (ck_E1 (ck_S1 p33x_181_s ck_S0) (ck_E1 (ck_S1 p33x_182_s ck_S0) (ck_E1 (ck_S1 p33x_277_s (ck_S1 p33x_279_s (ck_S1 p33x_280_s ck_S0))) ck_E0)))) ck_X0 ck_l0 p33x_281_e
set_option maxRecDepth 100000 in
def p33x_282 : ck_Sum := ((3, 0, 0), 245, [.inr (.inr (.inl 226)), .inl (ck_one 3), .inl (ck_one 1)], ([], [], [(227, 0, 0, ck_one 3), (244, 0, 5, ck_one 0), (243, 0, 5, ck_one 0), (227, 2, 9, ck_one 0), (226, 0, 0, ck_one 0)]), ([(226, 0, 0), (243, 0, 5), (244, 0, 2)], []), [(.inr (some (.inl (ck_one 0))), 245, ([], [], [(226, 0, 0, ck_one 0), (244, 0, 5, ck_one 0), (243, 0, 5, ck_one 0)]))])
set_option maxRecDepth 100000 in
theorem p33x_282_e : ck_ok p1_O none [] [(287, [p33x_274]), (283, [p33x_178]), (359, [p33x_281]), (262, [p33x_182])] 358 [(40, [some (.inr (.inr (.inl 226))), some (.inl (ck_one 3)), some (.inl (ck_one 1)), some (.inl (ck_one 0)), some (.inl (1, 3, none))], ([], [], [(244, 0, 5, ck_one 0), (243, 0, 5, ck_one 0), (226, 0, 0, ck_one 0), (227, 0, 0, ck_one 3), (244, 3, 5, ck_one 0), (227, 2, 9, ck_one 0)]), 100, .inl 4, true)] 174 p33x_282 = true := by decide +kernel
theorem p33x_282_s {X : Int → Int} {LX : Nat} : ck_Ok p1_O X LX 358 p33x_282 := ck_ok_s (ck_E1 (ck_S1 p33x_274_s ck_S0) (ck_E1 (ck_S1 p33x_178_s ck_S0) (ck_E1 (ck_S1 p33x_281_s ck_S0) (ck_E1 (ck_S1 p33x_182_s ck_S0) ck_E0)))) ck_X0 ck_l0 p33x_282_e
set_option maxRecDepth 100000 in
def p33x_285 : ck_Sum := ((3, 0, 0), 245, [.inr (.inr (.inl 226)), .inl (ck_one 3), .inl (ck_one 0)], ([], [], [(227, 0, 0, ck_one 3), (244, 0, 5, ck_one 0), (243, 0, 5, ck_one 0), (227, 2, 9, ck_one 0), (226, 0, 0, ck_one 0)]), ([(226, 0, 0), (243, 0, 5), (244, 0, 2)], []), [(.inr (some (.inl (ck_one 0))), 245, ([], [], [(226, 0, 0, ck_one 0), (244, 0, 5, ck_one 0), (243, 0, 5, ck_one 0)]))])
set_option maxRecDepth 100000 in
theorem p33x_285_e : ck_ok p1_O none [] [(287, [p33x_274]), (283, [p33x_178]), (359, [p33x_281]), (262, [p33x_182])] 358 [(40, [some (.inr (.inr (.inl 226))), some (.inl (ck_one 3)), some (.inl (ck_one 0)), some (.inl (ck_one 0)), some (.inl (1, 3, none))], ([], [], [(244, 0, 5, ck_one 0), (243, 0, 5, ck_one 0), (226, 0, 0, ck_one 0), (227, 0, 0, ck_one 3), (244, 3, 5, ck_one 0), (227, 2, 9, ck_one 0)]), 100, .inl 4, true)] 174 p33x_285 = true := by decide +kernel
theorem p33x_285_s {X : Int → Int} {LX : Nat} : ck_Ok p1_O X LX 358 p33x_285 := ck_ok_s (ck_E1 (ck_S1 p33x_274_s ck_S0) (ck_E1 (ck_S1 p33x_178_s ck_S0) (ck_E1 (ck_S1 p33x_281_s ck_S0) (ck_E1 (ck_S1 p33x_182_s ck_S0) ck_E0)))) ck_X0 ck_l0 p33x_285_e
set_option maxRecDepth 100000 in
def p33x_331 : ck_Sum := ((0, 0, 0), 245, [.inl (ck_one 4), .inl (ck_one 1), .inl (ck_one 30)], ([], [], []), ([], []), [(.inr (some (.inl (ck_one 1))), 245, ([], [], []))])
set_option maxRecDepth 100000 in
theorem p33x_331_e : ck_ok p1_O none [] [] 287 [] 88 p33x_331 = true := by decide +kernel
theorem p33x_331_s {X : Int → Int} {LX : Nat} : ck_Ok p1_O X LX 287 p33x_331 := ck_ok_s (ck_E0) ck_X0 ck_l0 p33x_331_e
set_option maxRecDepth 100000 in
def p33x_334 : ck_Sum := ((1, 0, 0), 245, [.inr (.inr (.inl 226)), .inl (ck_one 3), .inl (0, 2, none), .inl (ck_one 0)], ([], [], [(227, 2, 9, ck_one 0)]), ([], []), [(.inr (some (.inl (ck_one 0))), 245, ([], [], []))])
set_option maxRecDepth 100000 in
theorem p33x_334_e : ck_ok p1_O none [] [(255, [p33x_179])] 334 [(6, [some (.inr (.inr (.inl 226))), some (.inl (ck_one 3)), some (.inl (0, 2, none)), some (.inl (ck_one 0)), some (.inl (ck_one 0)), some (.inl (ck_one 0))], ([], [], [(227, 2, 9, ck_one 0)]), 100, .inl 4, true)] 114 p33x_334 = true := by decide +kernel
theorem p33x_334_s {X : Int → Int} {LX : Nat} : ck_Ok p1_O X LX 334 p33x_334 := ck_ok_s (ck_E1 (ck_S1 p33x_179_s ck_S0) ck_E0) ck_X0 ck_l0 p33x_334_e
set_option maxRecDepth 100000 in
def p33x_338 : ck_Sum := ((1, 0, 0), 245, [.inr (.inr (.inl 226)), .inl (0, 2, none), .inl (ck_one 0), .inl (ck_one 0)], ([], [], [(227, 2, 9, ck_one 0)]), ([], []), [(.inr (some (.inl (ck_one 0))), 245, ([], [], []))])
set_option maxRecDepth 100000 in
theorem p33x_338_e : ck_ok p1_O none [] [(255, [p33x_179])] 334 [(6, [some (.inr (.inr (.inl 226))), some (.inl (0, 2, none)), some (.inl (ck_one 0)), some (.inl (ck_one 0)), some (.inl (ck_one 0)), some (.inl (ck_one 0))], ([], [], [(227, 2, 9, ck_one 0)]), 100, .inl 4, true)] 114 p33x_338 = true := by decide +kernel
theorem p33x_338_s {X : Int → Int} {LX : Nat} : ck_Ok p1_O X LX 334 p33x_338 := ck_ok_s (ck_E1 (ck_S1 p33x_179_s ck_S0) ck_E0) ck_X0 ck_l0 p33x_338_e
set_option maxRecDepth 100000 in
def p33x_339 : ck_Sum := ((1, 0, 0), 245, [.inr (.inr (.inl 226)), .inl (0, 2, none), .inl (1, 2, none), .inl (ck_one 0)], ([], [], [(227, 2, 9, ck_one 0)]), ([], []), [(.inr (some (.inl (ck_one 0))), 245, ([], [], []))])
set_option maxRecDepth 100000 in
theorem p33x_339_e : ck_ok p1_O none [] [(255, [p33x_179])] 334 [(6, [some (.inr (.inr (.inl 226))), some (.inl (0, 2, none)), some (.inl (1, 2, none)), some (.inl (ck_one 0)), some (.inl (ck_one 0)), some (.inl (ck_one 0))], ([], [], [(227, 2, 9, ck_one 0)]), 100, .inl 4, true)] 114 p33x_339 = true := by decide +kernel
theorem p33x_339_s {X : Int → Int} {LX : Nat} : ck_Ok p1_O X LX 334 p33x_339 := ck_ok_s (ck_E1 (ck_S1 p33x_179_s ck_S0) ck_E0) ck_X0 ck_l0 p33x_339_e
set_option maxRecDepth 100000 in
def p33x_340 : ck_Sum := ((2, 0, 0), 245, [.inr (.inr (.inl 226)), .inl (ck_one 4)], ([], [], [(227, 0, 0, ck_one 3), (244, 0, 5, ck_one 0), (243, 0, 5, ck_one 0), (227, 2, 9, ck_one 0)]), ([(243, 0, 5), (244, 0, 2)], []), [(.inr none, 245, ([], [], [(244, 0, 5, ck_one 0), (243, 0, 5, ck_one 0)]))])
set_option maxRecDepth 100000 in
theorem p33x_340_e : ck_ok p1_O none [] [(333, [p33x_180]), (267, [p33x_181]), (262, [p33x_182]), (334, [p33x_334, p33x_338, p33x_339])] 359 [(6, [some (.inr (.inr (.inl 226))), some (.inl (ck_one 4)), some (.inl (0, 6, none)), none, none], ([], [], [(227, 0, 0, ck_one 3), (244, 0, 5, ck_one 0), (243, 0, 5, ck_one 0), (227, 2, 9, ck_one 0)]), 100, .inl 2, true), (34, [some (.inr (.inr (.inl 226))), some (.inl (ck_one 4)), some (.inl ((-1), 3, none)), none, none], ([], [], [(227, 0, 0, ck_one 3), (244, 0, 5, ck_one 0), (243, 0, 5, ck_one 0), (227, 2, 9, ck_one 0)]), 300, .inl 2, false), (44, [some (.inr (.inr (.inl 226))), some (.inl (ck_one 4)), some (.inl (0, 3, some (300, 0))), some (.inl (0, 3, none)), none], ([], [], [(227, 0, 0, ck_one 3), (244, 0, 5, ck_one 0), (243, 0, 5, ck_one 0), (227, 2, 9, ck_one 0)]), 500, .inl 3, true), (152, [some (.inr (.inr (.inl 226))), some (.inl (ck_one 4)), some (.inl (0, 3, some (300, 0))), some (.inl (0, 3, none)), none], ([], [], [(227, 0, 0, ck_one 3), (244, 0, 5, ck_one 0), (243, 0, 5, ck_one 0), (227, 2, 9, ck_one 0)]), 700, .inl 3, true)] 800 p33x_340 = true := by decide +kernel
theorem p33x_340_s {X : Int → Int} {LX : Nat} : ck_Ok p1_O X LX 359 p33x_340 := ck_ok_s (ck_E1 (ck_S1 p33x_180_s ck_S0) (ck_E1 (ck_S1 p33x_181_s ck_S0) (ck_E1 (ck_S1 p33x_182_s ck_S0) (ck_E1 (ck_S1 p33x_334_s (ck_S1 p33x_338_s (ck_S1 p33x_339_s ck_S0))) ck_E0)))) ck_X0 ck_l0 p33x_340_e
set_option maxRecDepth 100000 in
def p33x_341 : ck_Sum := ((3, 0, 0), 245, [.inr (.inr (.inl 226)), .inl (ck_one 4), .inl (ck_one 1)], ([], [], [(227, 0, 0, ck_one 3), (244, 0, 5, ck_one 0), (243, 0, 5, ck_one 0), (227, 2, 9, ck_one 0), (226, 0, 0, ck_one 0)]), ([(226, 0, 0), (243, 0, 5), (244, 0, 2)], []), [(.inr (some (.inl (ck_one 0))), 245, ([], [], [(226, 0, 0, ck_one 0), (244, 0, 5, ck_one 0), (243, 0, 5, ck_one 0)]))])
set_option maxRecDepth 100000 in
theorem p33x_341_e : ck_ok p1_O none [] [(287, [p33x_331]), (283, [p33x_178]), (359, [p33x_340]), (262, [p33x_182])] 358 [(40, [some (.inr (.inr (.inl 226))), some (.inl (ck_one 4)), some (.inl (ck_one 1)), some (.inl (ck_one 0)), some (.inl (1, 3, none))], ([], [], [(244, 0, 5, ck_one 0), (243, 0, 5, ck_one 0), (226, 0, 0, ck_one 0), (227, 0, 0, ck_one 3), (244, 3, 5, ck_one 0), (227, 2, 9, ck_one 0)]), 100, .inl 4, true)] 174 p33x_341 = true := by decide +kernel
theorem p33x_341_s {X : Int → Int} {LX : Nat} : ck_Ok p1_O X LX 358 p33x_341 := ck_ok_s (ck_E1 (ck_S1 p33x_331_s ck_S0) (ck_E1 (ck_S1 p33x_178_s ck_S0) (ck_E1 (ck_S1 p33x_340_s ck_S0) (ck_E1 (ck_S1 p33x_182_s ck_S0) ck_E0)))) ck_X0 ck_l0 p33x_341_e
set_option maxRecDepth 100000 in
def p33x_344 : ck_Sum := ((3, 0, 0), 245, [.inr (.inr (.inl 226)), .inl (ck_one 4), .inl (ck_one 0)], ([], [], [(227, 0, 0, ck_one 3), (244, 0, 5, ck_one 0), (243, 0, 5, ck_one 0), (227, 2, 9, ck_one 0), (226, 0, 0, ck_one 0)]), ([(226, 0, 0), (243, 0, 5), (244, 0, 2)], []), [(.inr (some (.inl (ck_one 0))), 245, ([], [], [(226, 0, 0, ck_one 0), (244, 0, 5, ck_one 0), (243, 0, 5, ck_one 0)]))])
set_option maxRecDepth 100000 in
theorem p33x_344_e : ck_ok p1_O none [] [(287, [p33x_331]), (283, [p33x_178]), (359, [p33x_340]), (262, [p33x_182])] 358 [(40, [some (.inr (.inr (.inl 226))), some (.inl (ck_one 4)), some (.inl (ck_one 0)), some (.inl (ck_one 0)), some (.inl (1, 3, none))], ([], [], [(244, 0, 5, ck_one 0), (243, 0, 5, ck_one 0), (226, 0, 0, ck_one 0), (227, 0, 0, ck_one 3), (244, 3, 5, ck_one 0), (227, 2, 9, ck_one 0)]), 100, .inl 4, true)] 174 p33x_344 = true := by decide +kernel
theorem p33x_344_s {X : Int → Int} {LX : Nat} : ck_Ok p1_O X LX 358 p33x_344 := ck_ok_s (ck_E1 (ck_S1 p33x_331_s ck_S0) (ck_E1 (ck_S1 p33x_178_s ck_S0) (ck_E1 (ck_S1 p33x_340_s ck_S0) (ck_E1 (ck_S1 p33x_182_s ck_S0) ck_E0)))) ck_X0 ck_l0 p33x_344_e
set_option maxRecDepth 100000 in
def p33x_396 : ck_Sum := ((0, 0, 0), 245, [.inl (ck_one 5), .inl (ck_one 1), .inl (ck_one 30)], ([], [], []), ([], []), [(.inr (some (.inl (ck_one 1))), 245, ([], [], []))])
set_option maxRecDepth 100000 in
theorem p33x_396_e : ck_ok p1_O none [] [] 287 [] 88 p33x_396 = true := by decide +kernel
theorem p33x_396_s {X : Int → Int} {LX : Nat} : ck_Ok p1_O X LX 287 p33x_396 := ck_ok_s (ck_E0) ck_X0 ck_l0 p33x_396_e
set_option maxRecDepth 100000 in
def p33x_399 : ck_Sum := ((1, 0, 0), 245, [.inr (.inr (.inl 226)), .inl (ck_one 4), .inl (0, 2, none), .inl (ck_one 0)], ([], [], [(227, 2, 9, ck_one 0)]), ([], []), [(.inr (some (.inl (ck_one 0))), 245, ([], [], []))])
set_option maxRecDepth 100000 in
theorem p33x_399_e : ck_ok p1_O none [] [(255, [p33x_179])] 334 [(6, [some (.inr (.inr (.inl 226))), some (.inl (ck_one 4)), some (.inl (0, 2, none)), some (.inl (ck_one 0)), some (.inl (ck_one 0)), some (.inl (ck_one 0))], ([], [], [(227, 2, 9, ck_one 0)]), 100, .inl 4, true)] 114 p33x_399 = true := by decide +kernel
theorem p33x_399_s {X : Int → Int} {LX : Nat} : ck_Ok p1_O X LX 334 p33x_399 := ck_ok_s (ck_E1 (ck_S1 p33x_179_s ck_S0) ck_E0) ck_X0 ck_l0 p33x_399_e
set_option maxRecDepth 100000 in
def p33x_405 : ck_Sum := ((1, 0, 0), 245, [.inr (.inr (.inl 226)), .inl (0, 3, none), .inl (ck_one 0), .inl (ck_one 0)], ([], [], [(227, 2, 9, ck_one 0)]), ([], []), [(.inr (some (.inl (ck_one 0))), 245, ([], [], []))])
set_option maxRecDepth 100000 in
theorem p33x_405_e : ck_ok p1_O none [] [(255, [p33x_179])] 334 [(6, [some (.inr (.inr (.inl 226))), some (.inl (0, 3, none)), some (.inl (ck_one 0)), some (.inl (ck_one 0)), some (.inl (ck_one 0)), some (.inl (ck_one 0))], ([], [], [(227, 2, 9, ck_one 0)]), 100, .inl 4, true)] 114 p33x_405 = true := by decide +kernel
theorem p33x_405_s {X : Int → Int} {LX : Nat} : ck_Ok p1_O X LX 334 p33x_405 := ck_ok_s (ck_E1 (ck_S1 p33x_179_s ck_S0) ck_E0) ck_X0 ck_l0 p33x_405_e
set_option maxRecDepth 100000 in
def p33x_406 : ck_Sum := ((1, 0, 0), 245, [.inr (.inr (.inl 226)), .inl (0, 3, none), .inl (1, 2, none), .inl (ck_one 0)], ([], [], [(227, 2, 9, ck_one 0)]), ([], []), [(.inr (some (.inl (ck_one 0))), 245, ([], [], []))])
set_option maxRecDepth 100000 in
theorem p33x_406_e : ck_ok p1_O none [] [(255, [p33x_179])] 334 [(6, [some (.inr (.inr (.inl 226))), some (.inl (0, 3, none)), some (.inl (1, 2, none)), some (.inl (ck_one 0)), some (.inl (ck_one 0)), some (.inl (ck_one 0))], ([], [], [(227, 2, 9, ck_one 0)]), 100, .inl 4, true)] 114 p33x_406 = true := by decide +kernel
theorem p33x_406_s {X : Int → Int} {LX : Nat} : ck_Ok p1_O X LX 334 p33x_406 := ck_ok_s (ck_E1 (ck_S1 p33x_179_s ck_S0) ck_E0) ck_X0 ck_l0 p33x_406_e
set_option maxRecDepth 100000 in
def p33x_407 : ck_Sum := ((2, 0, 0), 245, [.inr (.inr (.inl 226)), .inl (ck_one 5)], ([], [], [(227, 0, 0, ck_one 3), (244, 0, 5, ck_one 0), (243, 0, 5, ck_one 0), (227, 2, 9, ck_one 0)]), ([(243, 0, 5), (244, 0, 2)], []), [(.inr none, 245, ([], [], [(244, 0, 5, ck_one 0), (243, 0, 5, ck_one 0)]))])
set_option maxRecDepth 100000 in
theorem p33x_407_e : ck_ok p1_O none [] [(333, [p33x_180]), (267, [p33x_181]), (262, [p33x_182]), (334, [p33x_399, p33x_405, p33x_406])] 359 [(6, [some (.inr (.inr (.inl 226))), some (.inl (ck_one 5)), some (.inl (0, 6, none)), none, none], ([], [], [(227, 0, 0, ck_one 3), (244, 0, 5, ck_one 0), (243, 0, 5, ck_one 0), (227, 2, 9, ck_one 0)]), 100, .inl 2, true), (34, [some (.inr (.inr (.inl 226))), some (.inl (ck_one 5)), some (.inl ((-1), 4, none)), none, none], ([], [], [(227, 0, 0, ck_one 3), (244, 0, 5, ck_one 0), (243, 0, 5, ck_one 0), (227, 2, 9, ck_one 0)]), 300, .inl 2, false), (44, [some (.inr (.inr (.inl 226))), some (.inl (ck_one 5)), some (.inl (0, 4, some (300, 0))), some (.inl (0, 3, none)), none], ([], [], [(227, 0, 0, ck_one 3), (244, 0, 5, ck_one 0), (243, 0, 5, ck_one 0), (227, 2, 9, ck_one 0)]), 500, .inl 3, true), (152, [some (.inr (.inr (.inl 226))), some (.inl (ck_one 5)), some (.inl (0, 4, some (300, 0))), some (.inl (0, 3, none)), none], ([], [], [(227, 0, 0, ck_one 3), (244, 0, 5, ck_one 0), (243, 0, 5, ck_one 0), (227, 2, 9, ck_one 0)]), 700, .inl 3, true)] 800 p33x_407 = true := by decide +kernel
theorem p33x_407_s {X : Int → Int} {LX : Nat} : ck_Ok p1_O X LX 359 p33x_407 := ck_ok_s (ck_E1 (ck_S1 p33x_180_s ck_S0) (ck_E1 (ck_S1 p33x_181_s ck_S0) (ck_E1 (ck_S1 p33x_182_s ck_S0) (ck_E1 (ck_S1 p33x_399_s (ck_S1 p33x_405_s (ck_S1 p33x_406_s ck_S0))) ck_E0)))) ck_X0 ck_l0 p33x_407_e
set_option maxRecDepth 100000 in
def p33x_408 : ck_Sum := ((3, 0, 0), 245, [.inr (.inr (.inl 226)), .inl (ck_one 5), .inl (ck_one 1)], ([], [], [(227, 0, 0, ck_one 3), (244, 0, 5, ck_one 0), (243, 0, 5, ck_one 0), (227, 2, 9, ck_one 0), (226, 0, 0, ck_one 0)]), ([(226, 0, 0), (243, 0, 5), (244, 0, 2)], []), [(.inr (some (.inl (ck_one 0))), 245, ([], [], [(226, 0, 0, ck_one 0), (244, 0, 5, ck_one 0), (243, 0, 5, ck_one 0)]))])
set_option maxRecDepth 100000 in
theorem p33x_408_e : ck_ok p1_O none [] [(287, [p33x_396]), (283, [p33x_178]), (359, [p33x_407]), (262, [p33x_182])] 358 [(40, [some (.inr (.inr (.inl 226))), some (.inl (ck_one 5)), some (.inl (ck_one 1)), some (.inl (ck_one 0)), some (.inl (1, 3, none))], ([], [], [(244, 0, 5, ck_one 0), (243, 0, 5, ck_one 0), (226, 0, 0, ck_one 0), (227, 0, 0, ck_one 3), (244, 3, 5, ck_one 0), (227, 2, 9, ck_one 0)]), 100, .inl 4, true)] 174 p33x_408 = true := by decide +kernel
theorem p33x_408_s {X : Int → Int} {LX : Nat} : ck_Ok p1_O X LX 358 p33x_408 := ck_ok_s (ck_E1 (ck_S1 p33x_396_s ck_S0) (ck_E1 (ck_S1 p33x_178_s ck_S0) (ck_E1 (ck_S1 p33x_407_s ck_S0) (ck_E1 (ck_S1 p33x_182_s ck_S0) ck_E0)))) ck_X0 ck_l0 p33x_408_e
set_option maxRecDepth 100000 in
def p33x_411 : ck_Sum := ((3, 0, 0), 245, [.inr (.inr (.inl 226)), .inl (ck_one 5), .inl (ck_one 0)], ([], [], [(227, 0, 0, ck_one 3), (244, 0, 5, ck_one 0), (243, 0, 5, ck_one 0), (227, 2, 9, ck_one 0), (226, 0, 0, ck_one 0)]), ([(226, 0, 0), (243, 0, 5), (244, 0, 2)], []), [(.inr (some (.inl (ck_one 0))), 245, ([], [], [(226, 0, 0, ck_one 0), (244, 0, 5, ck_one 0), (243, 0, 5, ck_one 0)]))])
set_option maxRecDepth 100000 in
theorem p33x_411_e : ck_ok p1_O none [] [(287, [p33x_396]), (283, [p33x_178]), (359, [p33x_407]), (262, [p33x_182])] 358 [(40, [some (.inr (.inr (.inl 226))), some (.inl (ck_one 5)), some (.inl (ck_one 0)), some (.inl (ck_one 0)), some (.inl (1, 3, none))], ([], [], [(244, 0, 5, ck_one 0), (243, 0, 5, ck_one 0), (226, 0, 0, ck_one 0), (227, 0, 0, ck_one 3), (244, 3, 5, ck_one 0), (227, 2, 9, ck_one 0)]), 100, .inl 4, true)] 174 p33x_411 = true := by decide +kernel
theorem p33x_411_s {X : Int → Int} {LX : Nat} : ck_Ok p1_O X LX 358 p33x_411 := ck_ok_s (ck_E1 (ck_S1 p33x_396_s ck_S0) (ck_E1 (ck_S1 p33x_178_s ck_S0) (ck_E1 (ck_S1 p33x_407_s ck_S0) (ck_E1 (ck_S1 p33x_182_s ck_S0) ck_E0)))) ck_X0 ck_l0 p33x_411_e
set_option maxRecDepth 100000 in
def p33x_469 : ck_Sum := ((0, 0, 0), 245, [.inl (ck_one 6), .inl (ck_one 1), .inl (ck_one 30)], ([], [], []), ([], []), [(.inr (some (.inl (ck_one 1))), 245, ([], [], []))])
set_option maxRecDepth 100000 in
theorem p33x_469_e : ck_ok p1_O none [] [] 287 [] 88 p33x_469 = true := by decide +kernel
theorem p33x_469_s {X : Int → Int} {LX : Nat} : ck_Ok p1_O X LX 287 p33x_469 := ck_ok_s (ck_E0) ck_X0 ck_l0 p33x_469_e
set_option maxRecDepth 100000 in
def p33x_472 : ck_Sum := ((1, 0, 0), 245, [.inr (.inr (.inl 226)), .inl (ck_one 5), .inl (0, 2, none), .inl (ck_one 0)], ([], [], [(227, 2, 9, ck_one 0)]), ([], []), [(.inr (some (.inl (ck_one 0))), 245, ([], [], []))])
set_option maxRecDepth 100000 in
theorem p33x_472_e : ck_ok p1_O none [] [(255, [p33x_179])] 334 [(6, [some (.inr (.inr (.inl 226))), some (.inl (ck_one 5)), some (.inl (0, 2, none)), some (.inl (ck_one 0)), some (.inl (ck_one 0)), some (.inl (ck_one 0))], ([], [], [(227, 2, 9, ck_one 0)]), 100, .inl 4, true)] 114 p33x_472 = true := by decide +kernel
theorem p33x_472_s {X : Int → Int} {LX : Nat} : ck_Ok p1_O X LX 334 p33x_472 := ck_ok_s (ck_E1 (ck_S1 p33x_179_s ck_S0) ck_E0) ck_X0 ck_l0 p33x_472_e
set_option maxRecDepth 100000 in
def p33x_480 : ck_Sum := ((1, 0, 0), 245, [.inr (.inr (.inl 226)), .inl (0, 4, none), .inl (ck_one 0), .inl (ck_one 0)], ([], [], [(227, 2, 9, ck_one 0)]), ([], []), [(.inr (some (.inl (ck_one 0))), 245, ([], [], []))])
set_option maxRecDepth 100000 in
theorem p33x_480_e : ck_ok p1_O none [] [(255, [p33x_179])] 334 [(6, [some (.inr (.inr (.inl 226))), some (.inl (0, 4, none)), some (.inl (ck_one 0)), some (.inl (ck_one 0)), some (.inl (ck_one 0)), some (.inl (ck_one 0))], ([], [], [(227, 2, 9, ck_one 0)]), 100, .inl 4, true)] 114 p33x_480 = true := by decide +kernel
theorem p33x_480_s {X : Int → Int} {LX : Nat} : ck_Ok p1_O X LX 334 p33x_480 := ck_ok_s (ck_E1 (ck_S1 p33x_179_s ck_S0) ck_E0) ck_X0 ck_l0 p33x_480_e
set_option maxRecDepth 100000 in
def p33x_481 : ck_Sum := ((1, 0, 0), 245, [.inr (.inr (.inl 226)), .inl (0, 4, none), .inl (1, 2, none), .inl (ck_one 0)], ([], [], [(227, 2, 9, ck_one 0)]), ([], []), [(.inr (some (.inl (ck_one 0))), 245, ([], [], []))])
set_option maxRecDepth 100000 in
theorem p33x_481_e : ck_ok p1_O none [] [(255, [p33x_179])] 334 [(6, [some (.inr (.inr (.inl 226))), some (.inl (0, 4, none)), some (.inl (1, 2, none)), some (.inl (ck_one 0)), some (.inl (ck_one 0)), some (.inl (ck_one 0))], ([], [], [(227, 2, 9, ck_one 0)]), 100, .inl 4, true)] 114 p33x_481 = true := by decide +kernel
theorem p33x_481_s {X : Int → Int} {LX : Nat} : ck_Ok p1_O X LX 334 p33x_481 := ck_ok_s (ck_E1 (ck_S1 p33x_179_s ck_S0) ck_E0) ck_X0 ck_l0 p33x_481_e
set_option maxRecDepth 100000 in
def p33x_482 : ck_Sum := ((2, 0, 0), 245, [.inr (.inr (.inl 226)), .inl (ck_one 6)], ([], [], [(227, 0, 0, ck_one 3), (244, 0, 5, ck_one 0), (243, 0, 5, ck_one 0), (227, 2, 9, ck_one 0)]), ([(243, 0, 5), (244, 0, 2)], []), [(.inr none, 245, ([], [], [(244, 0, 5, ck_one 0), (243, 0, 5, ck_one 0)]))])
set_option maxRecDepth 100000 in
theorem p33x_482_e : ck_ok p1_O none [] [(333, [p33x_180]), (267, [p33x_181]), (262, [p33x_182]), (334, [p33x_472, p33x_480, p33x_481])] 359 [(6, [some (.inr (.inr (.inl 226))), some (.inl (ck_one 6)), some (.inl (0, 6, none)), none, none], ([], [], [(227, 0, 0, ck_one 3), (244, 0, 5, ck_one 0), (243, 0, 5, ck_one 0), (227, 2, 9, ck_one 0)]), 100, .inl 2, true), (34, [some (.inr (.inr (.inl 226))), some (.inl (ck_one 6)), some (.inl ((-1), 5, none)), none, none], ([], [], [(227, 0, 0, ck_one 3), (244, 0, 5, ck_one 0), (243, 0, 5, ck_one 0), (227, 2, 9, ck_one 0)]), 300, .inl 2, false), (44, [some (.inr (.inr (.inl 226))), some (.inl (ck_one 6)), some (.inl (0, 5, some (300, 0))), some (.inl (0, 3, none)), none], ([], [], [(227, 0, 0, ck_one 3), (244, 0, 5, ck_one 0), (243, 0, 5, ck_one 0), (227, 2, 9, ck_one 0)]), 500, .inl 3, true), (152, [some (.inr (.inr (.inl 226))), some (.inl (ck_one 6)), some (.inl (0, 5, some (300, 0))), some (.inl (0, 3, none)), none], ([], [], [(227, 0, 0, ck_one 3), (244, 0, 5, ck_one 0), (243, 0, 5, ck_one 0), (227, 2, 9, ck_one 0)]), 700, .inl 3, true)] 800 p33x_482 = true := by decide +kernel
theorem p33x_482_s {X : Int → Int} {LX : Nat} : ck_Ok p1_O X LX 359 p33x_482 := ck_ok_s (ck_E1 (ck_S1 p33x_180_s ck_S0) (ck_E1 (ck_S1 p33x_181_s ck_S0) (ck_E1 (ck_S1 p33x_182_s ck_S0) (ck_E1 (ck_S1 p33x_472_s (ck_S1 p33x_480_s (ck_S1 p33x_481_s ck_S0))) ck_E0)))) ck_X0 ck_l0 p33x_482_e
set_option maxRecDepth 100000 in
def p33x_483 : ck_Sum := ((3, 0, 0), 245, [.inr (.inr (.inl 226)), .inl (ck_one 6), .inl (ck_one 1)], ([], [], [(227, 0, 0, ck_one 3), (244, 0, 5, ck_one 0), (243, 0, 5, ck_one 0), (227, 2, 9, ck_one 0), (226, 0, 0, ck_one 0)]), ([(226, 0, 0), (243, 0, 5), (244, 0, 2)], []), [(.inr (some (.inl (ck_one 0))), 245, ([], [], [(226, 0, 0, ck_one 0), (244, 0, 5, ck_one 0), (243, 0, 5, ck_one 0)]))])
set_option maxRecDepth 100000 in
theorem p33x_483_e : ck_ok p1_O none [] [(287, [p33x_469]), (283, [p33x_178]), (359, [p33x_482]), (262, [p33x_182])] 358 [(40, [some (.inr (.inr (.inl 226))), some (.inl (ck_one 6)), some (.inl (ck_one 1)), some (.inl (ck_one 0)), some (.inl (1, 3, none))], ([], [], [(244, 0, 5, ck_one 0), (243, 0, 5, ck_one 0), (226, 0, 0, ck_one 0), (227, 0, 0, ck_one 3), (244, 3, 5, ck_one 0), (227, 2, 9, ck_one 0)]), 100, .inl 4, true)] 174 p33x_483 = true := by decide +kernel
theorem p33x_483_s {X : Int → Int} {LX : Nat} : ck_Ok p1_O X LX 358 p33x_483 := ck_ok_s (ck_E1 (ck_S1 p33x_469_s ck_S0) (ck_E1 (ck_S1 p33x_178_s ck_S0) (ck_E1 (ck_S1 p33x_482_s ck_S0) (ck_E1 (ck_S1 p33x_182_s ck_S0) ck_E0)))) ck_X0 ck_l0 p33x_483_e
set_option maxRecDepth 100000 in
def p33x_486 : ck_Sum := ((3, 0, 0), 245, [.inr (.inr (.inl 226)), .inl (ck_one 6), .inl (ck_one 0)], ([], [], [(227, 0, 0, ck_one 3), (244, 0, 5, ck_one 0), (243, 0, 5, ck_one 0), (227, 2, 9, ck_one 0), (226, 0, 0, ck_one 0)]), ([(226, 0, 0), (243, 0, 5), (244, 0, 2)], []), [(.inr (some (.inl (ck_one 0))), 245, ([], [], [(226, 0, 0, ck_one 0), (244, 0, 5, ck_one 0), (243, 0, 5, ck_one 0)]))])
set_option maxRecDepth 100000 in
theorem p33x_486_e : ck_ok p1_O none [] [(287, [p33x_469]), (283, [p33x_178]), (359, [p33x_482]), (262, [p33x_182])] 358 [(40, [some (.inr (.inr (.inl 226))), some (.inl (ck_one 6)), some (.inl (ck_one 0)), some (.inl (ck_one 0)), some (.inl (1, 3, none))], ([], [], [(244, 0, 5, ck_one 0), (243, 0, 5, ck_one 0), (226, 0, 0, ck_one 0), (227, 0, 0, ck_one 3), (244, 3, 5, ck_one 0), (227, 2, 9, ck_one 0)]), 100, .inl 4, true)] 174 p33x_486 = true := by decide +kernel
theorem p33x_486_s {X : Int → Int} {LX : Nat} : ck_Ok p1_O X LX 358 p33x_486 := ck_ok_s (ck_E1 (ck_S1 p33x_469_s ck_S0) (ck_E1 (ck_S1 p33x_178_s ck_S0) (ck_E1 (ck_S1 p33x_482_s ck_S0) (ck_E1 (ck_S1 p33x_182_s ck_S0) ck_E0)))) ck_X0 ck_l0 p33x_486_e
set_option maxRecDepth 100000 in
def p33x_550 : ck_Sum := ((0, 0, 0), 245, [.inl (ck_one 7), .inl (ck_one 1), .inl (ck_one 30)], ([], [], []), ([], []), [(.inr (some (.inl (ck_one 1))), 245, ([], [], []))])
set_option maxRecDepth 100000 in
theorem p33x_550_e : ck_ok p1_O none [] [] 287 [] 88 p33x_550 = true := by decide +kernel
theorem p33x_550_s {X : Int → Int} {LX : Nat} : ck_Ok p1_O X LX 287 p33x_550 := ck_ok_s (ck_E0) ck_X0 ck_l0 p33x_550_e
set_option maxRecDepth 100000 in
def p33x_553 : ck_Sum := ((1, 0, 0), 245, [.inr (.inr (.inl 226)), .inl (ck_one 6), .inl (0, 2, none), .inl (ck_one 0)], ([], [], [(227, 2, 9, ck_one 0)]), ([], []), [(.inr (some (.inl (ck_one 0))), 245, ([], [], []))])
set_option maxRecDepth 100000 in
theorem p33x_553_e : ck_ok p1_O none [] [(255, [p33x_179])] 334 [(6, [some (.inr (.inr (.inl 226))), some (.inl (ck_one 6)), some (.inl (0, 2, none)), some (.inl (ck_one 0)), some (.inl (ck_one 0)), some (.inl (ck_one 0))], ([], [], [(227, 2, 9, ck_one 0)]), 100, .inl 4, true)] 114 p33x_553 = true := by decide +kernel
theorem p33x_553_s {X : Int → Int} {LX : Nat} : ck_Ok p1_O X LX 334 p33x_553 := ck_ok_s (ck_E1 (ck_S1 p33x_179_s ck_S0) ck_E0) ck_X0 ck_l0 p33x_553_e
set_option maxRecDepth 100000 in
def p33x_563 : ck_Sum := ((1, 0, 0), 245, [.inr (.inr (.inl 226)), .inl (0, 5, none), .inl (ck_one 0), .inl (ck_one 0)], ([], [], [(227, 2, 9, ck_one 0)]), ([], []), [(.inr (some (.inl (ck_one 0))), 245, ([], [], []))])
set_option maxRecDepth 100000 in
theorem p33x_563_e : ck_ok p1_O none [] [(255, [p33x_179])] 334 [(6, [some (.inr (.inr (.inl 226))), some (.inl (0, 5, none)), some (.inl (ck_one 0)), some (.inl (ck_one 0)), some (.inl (ck_one 0)), some (.inl (ck_one 0))], ([], [], [(227, 2, 9, ck_one 0)]), 100, .inl 4, true)] 114 p33x_563 = true := by decide +kernel
theorem p33x_563_s {X : Int → Int} {LX : Nat} : ck_Ok p1_O X LX 334 p33x_563 := ck_ok_s (ck_E1 (ck_S1 p33x_179_s ck_S0) ck_E0) ck_X0 ck_l0 p33x_563_e
set_option maxRecDepth 100000 in
def p33x_564 : ck_Sum := ((1, 0, 0), 245, [.inr (.inr (.inl 226)), .inl (0, 5, none), .inl (1, 2, none), .inl (ck_one 0)], ([], [], [(227, 2, 9, ck_one 0)]), ([], []), [(.inr (some (.inl (ck_one 0))), 245, ([], [], []))])
set_option maxRecDepth 100000 in
theorem p33x_564_e : ck_ok p1_O none [] [(255, [p33x_179])] 334 [(6, [some (.inr (.inr (.inl 226))), some (.inl (0, 5, none)), some (.inl (1, 2, none)), some (.inl (ck_one 0)), some (.inl (ck_one 0)), some (.inl (ck_one 0))], ([], [], [(227, 2, 9, ck_one 0)]), 100, .inl 4, true)] 114 p33x_564 = true := by decide +kernel
theorem p33x_564_s {X : Int → Int} {LX : Nat} : ck_Ok p1_O X LX 334 p33x_564 := ck_ok_s (ck_E1 (ck_S1 p33x_179_s ck_S0) ck_E0) ck_X0 ck_l0 p33x_564_e
set_option maxRecDepth 100000 in
def p33x_565 : ck_Sum := ((2, 0, 0), 245, [.inr (.inr (.inl 226)), .inl (ck_one 7)], ([], [], [(227, 0, 0, ck_one 3), (244, 0, 5, ck_one 0), (243, 0, 5, ck_one 0), (227, 2, 9, ck_one 0)]), ([(243, 0, 5), (244, 0, 2)], []), [(.inr none, 245, ([], [], [(244, 0, 5, ck_one 0), (243, 0, 5, ck_one 0)]))])
set_option maxRecDepth 100000 in
theorem p33x_565_e : ck_ok p1_O none [] [(333, [p33x_180]), (267, [p33x_181]), (262, [p33x_182]), (334, [p33x_553, p33x_563, p33x_564])] 359 [(6, [some (.inr (.inr (.inl 226))), some (.inl (ck_one 7)), some (.inl (0, 6, none)), none, none], ([], [], [(227, 0, 0, ck_one 3), (244, 0, 5, ck_one 0), (243, 0, 5, ck_one 0), (227, 2, 9, ck_one 0)]), 100, .inl 2, true), (34, [some (.inr (.inr (.inl 226))), some (.inl (ck_one 7)), some (.inl ((-1), 6, none)), none, none], ([], [], [(227, 0, 0, ck_one 3), (244, 0, 5, ck_one 0), (243, 0, 5, ck_one 0), (227, 2, 9, ck_one 0)]), 300, .inl 2, false), (44, [some (.inr (.inr (.inl 226))), some (.inl (ck_one 7)), some (.inl (0, 6, some (300, 0))), some (.inl (0, 3, none)), none], ([], [], [(227, 0, 0, ck_one 3), (244, 0, 5, ck_one 0), (243, 0, 5, ck_one 0), (227, 2, 9, ck_one 0)]), 500, .inl 3, true), (152, [some (.inr (.inr (.inl 226))), some (.inl (ck_one 7)), some (.inl (0, 6, some (300, 0))), some (.inl (0, 3, none)), none], ([], [], [(227, 0, 0, ck_one 3), (244, 0, 5, ck_one 0), (243, 0, 5, ck_one 0), (227, 2, 9, ck_one 0)]), 700, .inl 3, true)] 800 p33x_565 = true := by decide +kernel
theorem p33x_565_s {X : Int → Int} {LX : Nat} : ck_Ok p1_O X LX 359 p33x_565 := ck_ok_s (ck_E1 (ck_S1 p33x_180_s ck_S0) (ck_E1 (ck_S1 p33x_181_s ck_S0) (ck_E1 (ck_S1 p33x_182_s ck_S0) (ck_E1 (ck_S1 p33x_553_s (ck_S1 p33x_563_s (ck_S1 p33x_564_s ck_S0))) ck_E0)))) ck_X0 ck_l0 p33x_565_e
set_option maxRecDepth 100000 in
def p33x_566 : ck_Sum := ((3, 0, 0), 245, [.inr (.inr (.inl 226)), .inl (ck_one 7), .inl (ck_one 1)], ([], [], [(227, 0, 0, ck_one 3), (244, 0, 5, ck_one 0), (243, 0, 5, ck_one 0), (227, 2, 9, ck_one 0), (226, 0, 0, ck_one 0)]), ([(226, 0, 0), (243, 0, 5), (244, 0, 2)], []), [(.inr (some (.inl (ck_one 0))), 245, ([], [], [(226, 0, 0, ck_one 0), (244, 0, 5, ck_one 0), (243, 0, 5, ck_one 0)]))])
set_option maxRecDepth 100000 in
theorem p33x_566_e : ck_ok p1_O none [] [(287, [p33x_550]), (283, [p33x_178]), (359, [p33x_565]), (262, [p33x_182])] 358 [(40, [some (.inr (.inr (.inl 226))), some (.inl (ck_one 7)), some (.inl (ck_one 1)), some (.inl (ck_one 0)), some (.inl (1, 3, none))], ([], [], [(244, 0, 5, ck_one 0), (243, 0, 5, ck_one 0), (226, 0, 0, ck_one 0), (227, 0, 0, ck_one 3), (244, 3, 5, ck_one 0), (227, 2, 9, ck_one 0)]), 100, .inl 4, true)] 174 p33x_566 = true := by decide +kernel
theorem p33x_566_s {X : Int → Int} {LX : Nat} : ck_Ok p1_O X LX 358 p33x_566 := ck_ok_s (ck_E1 (ck_S1 p33x_550_s ck_S0) (ck_E1 (ck_S1 p33x_178_s ck_S0) (ck_E1 (ck_S1 p33x_565_s ck_S0) (ck_E1 (ck_S1 p33x_182_s ck_S0) ck_E0)))) ck_X0 ck_l0 p33x_566_e
set_option maxRecDepth 100000 in
def p33x_569 : ck_Sum := ((3, 0, 0), 245, [.inr (.inr (.inl 226)), .inl (ck_one 7), .inl (ck_one 0)], ([], [], [(227, 0, 0, ck_one 3), (244, 0, 5, ck_one 0), (243, 0, 5, ck_one 0), (227, 2, 9, ck_one 0), (226, 0, 0, ck_one 0)]), ([(226, 0, 0), (243, 0, 5), (244, 0, 2)], []), [(.inr (some (.inl (ck_one 0))), 245, ([], [], [(226, 0, 0, ck_one 0), (244, 0, 5, ck_one 0), (243, 0, 5, ck_one 0)]))])
set_option maxRecDepth 100000 in
theorem p33x_569_e : ck_ok p1_O none [] [(287, [p33x_550]), (283, [p33x_178]), (359, [p33x_565]), (262, [p33x_182])] 358 [(40, [some (.inr (.inr (.inl 226))), some (.inl (ck_one 7)), some (.inl (ck_one 0)), some (.inl (ck_one 0)), some (.inl (1, 3, none))], ([], [], [(244, 0, 5, ck_one 0), (243, 0, 5, ck_one 0), (226, 0, 0, ck_one 0), (227, 0, 0, ck_one 3), (244, 3, 5, ck_one 0), (227, 2, 9, ck_one 0)]), 100, .inl 4, true)] 174 p33x_569 = true := by decide +kernel
theorem p33x_569_s {X : Int → Int} {LX : Nat} : ck_Ok p1_O X LX 358 p33x_569 := ck_ok_s (ck_E1 (ck_S1 p33x_550_s ck_S0) (ck_E1 (ck_S1 p33x_178_s ck_S0) (ck_E1 (ck_S1 p33x_565_s ck_S0) (ck_E1 (ck_S1 p33x_182_s ck_S0) ck_E0)))) ck_X0 ck_l0 p33x_569_e
set_option maxRecDepth 100000 in
def p33x_639 : ck_Sum := ((0, 0, 0), 245, [.inl (ck_one 8), .inl (ck_one 1), .inl (ck_one 30)], ([], [], []), ([], []), [(.inr (some (.inl (ck_one 1))), 245, ([], [], []))])
set_option maxRecDepth 100000 in
theorem p33x_639_e : ck_ok p1_O none [] [] 287 [] 88 p33x_639 = true := by decide +kernel
theorem p33x_639_s {X : Int → Int} {LX : Nat} : ck_Ok p1_O X LX 287 p33x_639 := ck_ok_s (ck_E0) ck_X0 ck_l0 p33x_639_e
set_option maxRecDepth 100000 in
def p33x_642 : ck_Sum := ((1, 0, 0), 245, [.inr (.inr (.inl 226)), .inl (ck_one 7), .inl (0, 2, none), .inl (ck_one 0)], ([], [], [(227, 2, 9, ck_one 0)]), ([], []), [(.inr (some (.inl (ck_one 0))), 245, ([], [], []))])
set_option maxRecDepth 100000 in
theorem p33x_642_e : ck_ok p1_O none [] [(255, [p33x_179])] 334 [(6, [some (.inr (.inr (.inl 226))), some (.inl (ck_one 7)), some (.inl (0, 2, none)), some (.inl (ck_one 0)), some (.inl (ck_one 0)), some (.inl (ck_one 0))], ([], [], [(227, 2, 9, ck_one 0)]), 100, .inl 4, true)] 114 p33x_642 = true := by decide +kernel
theorem p33x_642_s {X : Int → Int} {LX : Nat} : ck_Ok p1_O X LX 334 p33x_642 := ck_ok_s (ck_E1 (ck_S1 p33x_179_s ck_S0) ck_E0) ck_X0 ck_l0 p33x_642_e
set_option maxRecDepth 100000 in
def p33x_654 : ck_Sum := ((1, 0, 0), 245, [.inr (.inr (.inl 226)), .inl (0, 6, none), .inl (ck_one 0), .inl (ck_one 0)], ([], [], [(227, 2, 9, ck_one 0)]), ([], []), [(.inr (some (.inl (ck_one 0))), 245, ([], [], []))])
set_option maxRecDepth 100000 in
theorem p33x_654_e : ck_ok p1_O none [] [(255, [p33x_179])] 334 [(6, [some (.inr (.inr (.inl 226))), some (.inl (0, 6, none)), some (.inl (ck_one 0)), some (.inl (ck_one 0)), some (.inl (ck_one 0)), some (.inl (ck_one 0))], ([], [], [(227, 2, 9, ck_one 0)]), 100, .inl 4, true)] 114 p33x_654 = true := by decide +kernel
theorem p33x_654_s {X : Int → Int} {LX : Nat} : ck_Ok p1_O X LX 334 p33x_654 := ck_ok_s (ck_E1 (ck_S1 p33x_179_s ck_S0) ck_E0) ck_X0 ck_l0 p33x_654_e
set_option maxRecDepth 100000 in
def p33x_655 : ck_Sum := ((1, 0, 0), 245, [.inr (.inr (.inl 226)), .inl (0, 6, none), .inl (1, 2, none), .inl (ck_one 0)], ([], [], [(227, 2, 9, ck_one 0)]), ([], []), [(.inr (some (.inl (ck_one 0))), 245, ([], [], []))])
set_option maxRecDepth 100000 in
theorem p33x_655_e : ck_ok p1_O none [] [(255, [p33x_179])] 334 [(6, [some (.inr (.inr (.inl 226))), some (.inl (0, 6, none)), some (.inl (1, 2, none)), some (.inl (ck_one 0)), some (.inl (ck_one 0)), some (.inl (ck_one 0))], ([], [], [(227, 2, 9, ck_one 0)]), 100, .inl 4, true)] 114 p33x_655 = true := by decide +kernel
theorem p33x_655_s {X : Int → Int} {LX : Nat} : ck_Ok p1_O X LX 334 p33x_655 := ck_ok_s (ck_E1 (ck_S1 p33x_179_s ck_S0) ck_E0) ck_X0 ck_l0 p33x_655_e
set_option maxRecDepth 100000 in
def p33x_656 : ck_Sum := ((2, 0, 0), 245, [.inr (.inr (.inl 226)), .inl (ck_one 8)], ([], [], [(227, 0, 0, ck_one 3), (244, 0, 5, ck_one 0), (243, 0, 5, ck_one 0), (227, 2, 9, ck_one 0)]), ([(243, 0, 5), (244, 0, 2)], []), [(.inr none, 245, ([], [], [(244, 0, 5, ck_one 0), (243, 0, 5, ck_one 0)]))])
set_option maxRecDepth 100000 in
theorem p33x_656_e : ck_ok p1_O none [] [(333, [p33x_180]), (267, [p33x_181]), (262, [p33x_182]), (334, [p33x_642, p33x_654, p33x_655])] 359 [(6, [some (.inr (.inr (.inl 226))), some (.inl (ck_one 8)), some (.inl (0, 6, none)), none, none], ([], [], [(227, 0, 0, ck_one 3), (244, 0, 5, ck_one 0), (243, 0, 5, ck_one 0), (227, 2, 9, ck_one 0)]), 100, .inl 2, true), (34, [some (.inr (.inr (.inl 226))), some (.inl (ck_one 8)), some (.inl ((-1), 7, none)), none, none], ([], [], [(227, 0, 0, ck_one 3), (244, 0, 5, ck_one 0), (243, 0, 5, ck_one 0), (227, 2, 9, ck_one 0)]), 300, .inl 2, false), (44, [some (.inr (.inr (.inl 226))), some (.inl (ck_one 8)), some (.inl (0, 7, some (300, 0))), some (.inl (0, 3, none)), none], ([], [], [(227, 0, 0, ck_one 3), (244, 0, 5, ck_one 0), (243, 0, 5, ck_one 0), (227, 2, 9, ck_one 0)]), 500, .inl 3, true), (152, [some (.inr (.inr (.inl 226))), some (.inl (ck_one 8)), some (.inl (0, 7, some (300, 0))), some (.inl (0, 3, none)), none], ([], [], [(227, 0, 0, ck_one 3), (244, 0, 5, ck_one 0), (243, 0, 5, ck_one 0), (227, 2, 9, ck_one 0)]), 700, .inl 3, true)] 800 p33x_656 = true := by decide +kernel
theorem p33x_656_s {X : Int → Int} {LX : Nat} : ck_Ok p1_O X LX 359 p33x_656 := ck_ok_s (ck_E1 (ck_S1 p33x_180_s ck_S0) (ck_E1 (ck_S1 p33x_181_s ck_S0) (ck_E1 (ck_S1 p33x_182_s ck_S0) (ck_E1 (ck_S1 p33x_642_s (ck_S1 p33x_654_s (ck_S1 p33x_655_s ck_S0))) ck_E0)))) ck_X0 ck_l0 p33x_656_e
set_option maxRecDepth 100000 in
def p33x_657 : ck_Sum := ((3, 0, 0), 245, [.inr (.inr (.inl 226)), .inl (ck_one 8), .inl (ck_one 1)], ([], [], [(227, 0, 0, ck_one 3), (244, 0, 5, ck_one 0), (243, 0, 5, ck_one 0), (227, 2, 9, ck_one 0), (226, 0, 0, ck_one 0)]), ([(226, 0, 0), (243, 0, 5), (244, 0, 2)], []), [(.inr (some (.inl (ck_one 0))), 245, ([], [], [(226, 0, 0, ck_one 0), (244, 0, 5, ck_one 0), (243, 0, 5, ck_one 0)]))])
set_option maxRecDepth 100000 in
theorem p33x_657_e : ck_ok p1_O none [] [(287, [p33x_639]), (283, [p33x_178]), (359, [p33x_656]), (262, [p33x_182])] 358 [(40, [some (.inr (.inr (.inl 226))), some (.inl (ck_one 8)), some (.inl (ck_one 1)), some (.inl (ck_one 0)), some (.inl (1, 3, none))], ([], [], [(244, 0, 5, ck_one 0), (243, 0, 5, ck_one 0), (226, 0, 0, ck_one 0), (227, 0, 0, ck_one 3), (244, 3, 5, ck_one 0), (227, 2, 9, ck_one 0)]), 100, .inl 4, true)] 174 p33x_657 = true := by decide +kernel
theorem p33x_657_s {X : Int → Int} {LX : Nat} : ck_Ok p1_O X LX 358 p33x_657 := ck_ok_s (ck_E1 (ck_S1 p33x_639_s ck_S0) (ck_E1 (ck_S1 p33x_178_s ck_S0) (ck_E1 (ck_S1 p33x_656_s ck_S0) (ck_E1 (ck_S1 p33x_182_s ck_S0) ck_E0)))) ck_X0 ck_l0 p33x_657_e
set_option maxRecDepth 100000 in
def p33x_660 : ck_Sum := ((3, 0, 0), 245, [.inr (.inr (.inl 226)), .inl (ck_one 8), .inl (ck_one 0)], ([], [], [(227, 0, 0, ck_one 3), (244, 0, 5, ck_one 0), (243, 0, 5, ck_one 0), (227, 2, 9, ck_one 0), (226, 0, 0, ck_one 0)]), ([(226, 0, 0), (243, 0, 5), (244, 0, 2)], []), [(.inr (some (.inl (ck_one 0))), 245, ([], [], [(226, 0, 0, ck_one 0), (244, 0, 5, ck_one 0), (243, 0, 5, ck_one 0)]))])
set_option maxRecDepth 100000 in
theorem p33x_660_e : ck_ok p1_O none [] [(287, [p33x_639]), (283, [p33x_178]), (359, [p33x_656]), (262, [p33x_182])] 358 [(40, [some (.inr (.inr (.inl 226))), some (.inl (ck_one 8)), some (.inl (ck_one 0)), some (.inl (ck_one 0)), some (.inl (1, 3, none))], ([], [], [(244, 0, 5, ck_one 0), (243, 0, 5, ck_one 0), (226, 0, 0, ck_one 0), (227, 0, 0, ck_one 3), (244, 3, 5, ck_one 0), (227, 2, 9, ck_one 0)]), 100, .inl 4, true)] 174 p33x_660 = true := by decide +kernel
theorem p33x_660_s {X : Int → Int} {LX : Nat} : ck_Ok p1_O X LX 358 p33x_660 := ck_ok_s (ck_E1 (ck_S1 p33x_639_s ck_S0) (ck_E1 (ck_S1 p33x_178_s ck_S0) (ck_E1 (ck_S1 p33x_656_s ck_S0) (ck_E1 (ck_S1 p33x_182_s ck_S0) ck_E0)))) ck_X0 ck_l0 p33x_660_e
set_option maxRecDepth 100000 in
def p33x_736 : ck_Sum := ((0, 0, 0), 245, [.inl (ck_one 9), .inl (ck_one 1), .inl (ck_one 30)], ([], [], []), ([], []), [(.inr (some (.inl (ck_one 1))), 245, ([], [], []))])
set_option maxRecDepth 100000 in
theorem p33x_736_e : ck_ok p1_O none [] [] 287 [] 88 p33x_736 = true := by decide +kernel
theorem p33x_736_s {X : Int → Int} {LX : Nat} : ck_Ok p1_O X LX 287 p33x_736 := ck_ok_s (ck_E0) ck_X0 ck_l0 p33x_736_e
set_option maxRecDepth 100000 in
def p33x_739 : ck_Sum := ((1, 0, 0), 245, [.inr (.inr (.inl 226)), .inl (ck_one 8), .inl (0, 2, none), .inl (ck_one 0)], ([], [], [(227, 2, 9, ck_one 0)]), ([], []), [(.inr (some (.inl (ck_one 0))), 245, ([], [], []))])
set_option maxRecDepth 100000 in
theorem p33x_739_e : ck_ok p1_O none [] [(255, [p33x_179])] 334 [(6, [some (.inr (.inr (.inl 226))), some (.inl (ck_one 8)), some (.inl (0, 2, none)), some (.inl (ck_one 0)), some (.inl (ck_one 0)), some (.inl (ck_one 0))], ([], [], [(227, 2, 9, ck_one 0)]), 100, .inl 4, true)] 114 p33x_739 = true := by decide +kernel
theorem p33x_739_s {X : Int → Int} {LX : Nat} : ck_Ok p1_O X LX 334 p33x_739 := ck_ok_s (ck_E1 (ck_S1 p33x_179_s ck_S0) ck_E0) ck_X0 ck_l0 p33x_739_e
set_option maxRecDepth 100000 in
def p33x_753 : ck_Sum := ((1, 0, 0), 245, [.inr (.inr (.inl 226)), .inl (0, 7, none), .inl (ck_one 0), .inl (ck_one 0)], ([], [], [(227, 2, 9, ck_one 0)]), ([], []), [(.inr (some (.inl (ck_one 0))), 245, ([], [], []))])
set_option maxRecDepth 100000 in
theorem p33x_753_e : ck_ok p1_O none [] [(255, [p33x_179])] 334 [(6, [some (.inr (.inr (.inl 226))), some (.inl (0, 7, none)), some (.inl (ck_one 0)), some (.inl (ck_one 0)), some (.inl (ck_one 0)), some (.inl (ck_one 0))], ([], [], [(227, 2, 9, ck_one 0)]), 100, .inl 4, true)] 114 p33x_753 = true := by decide +kernel
theorem p33x_753_s {X : Int → Int} {LX : Nat} : ck_Ok p1_O X LX 334 p33x_753 := ck_ok_s (ck_E1 (ck_S1 p33x_179_s ck_S0) ck_E0) ck_X0 ck_l0 p33x_753_e
set_option maxRecDepth 100000 in
def p33x_754 : ck_Sum := ((1, 0, 0), 245, [.inr (.inr (.inl 226)), .inl (0, 7, none), .inl (1, 2, none), .inl (ck_one 0)], ([], [], [(227, 2, 9, ck_one 0)]), ([], []), [(.inr (some (.inl (ck_one 0))), 245, ([], [], []))])
set_option maxRecDepth 100000 in
theorem p33x_754_e : ck_ok p1_O none [] [(255, [p33x_179])] 334 [(6, [some (.inr (.inr (.inl 226))), some (.inl (0, 7, none)), some (.inl (1, 2, none)), some (.inl (ck_one 0)), some (.inl (ck_one 0)), some (.inl (ck_one 0))], ([], [], [(227, 2, 9, ck_one 0)]), 100, .inl 4, true)] 114 p33x_754 = true := by decide +kernel
theorem p33x_754_s {X : Int → Int} {LX : Nat} : ck_Ok p1_O X LX 334 p33x_754 := ck_ok_s (ck_E1 (ck_S1 p33x_179_s ck_S0) ck_E0) ck_X0 ck_l0 p33x_754_e
set_option maxRecDepth 100000 in
def p33x_755 : ck_Sum := ((2, 0, 0), 245, [.inr (.inr (.inl 226)), .inl (ck_one 9)], ([], [], [(227, 0, 0, ck_one 3), (244, 0, 5, ck_one 0), (243, 0, 5, ck_one 0), (227, 2, 9, ck_one 0)]), ([(243, 0, 5), (244, 0, 2)], []), [(.inr none, 245, ([], [], [(244, 0, 5, ck_one 0), (243, 0, 5, ck_one 0)]))])
set_option maxRecDepth 100000 in
theorem p33x_755_e : ck_ok p1_O none [] [(333, [p33x_180]), (267, [p33x_181]), (262, [p33x_182]), (334, [p33x_739, p33x_753, p33x_754])] 359 [(6, [some (.inr (.inr (.inl 226))), some (.inl (ck_one 9)), some (.inl (0, 6, none)), none, none], ([], [], [(227, 0, 0, ck_one 3), (244, 0, 5, ck_one 0), (243, 0, 5, ck_one 0), (227, 2, 9, ck_one 0)]), 100, .inl 2, true), (34, [some (.inr (.inr (.inl 226))), some (.inl (ck_one 9)), some (.inl ((-1), 8, none)), none, none], ([], [], [(227, 0, 0, ck_one 3), (244, 0, 5, ck_one 0), (243, 0, 5, ck_one 0), (227, 2, 9, ck_one 0)]), 300, .inl 2, false), (44, [some (.inr (.inr (.inl 226))), some (.inl (ck_one 9)), some (.inl (0, 8, some (300, 0))), some (.inl (0, 3, none)), none], ([], [], [(227, 0, 0, ck_one 3), (244, 0, 5, ck_one 0), (243, 0, 5, ck_one 0), (227, 2, 9, ck_one 0)]), 500, .inl 3, true), (152, [some (.inr (.inr (.inl 226))), some (.inl (ck_one 9)), some (.inl (0, 8, some (300, 0))), some (.inl (0, 3, none)), none], ([], [], [(227, 0, 0, ck_one 3), (244, 0, 5, ck_one 0), (243, 0, 5, ck_one 0), (227, 2, 9, ck_one 0)]), 700, .inl 3, true)] 800 p33x_755 = true := by decide +kernel
theorem p33x_755_s {X : Int → Int} {LX : Nat} : ck_Ok p1_O X LX 359 p33x_755 := ck_ok_s (ck_E1 (ck_S1 p33x_180_s ck_S0) (ck_E1 (ck_S1 p33x_181_s ck_S0) (ck_E1 (ck_S1 p33x_182_s ck_S0) (ck_E1 (ck_S1 p33x_739_s (ck_S1 p33x_753_s (ck_S1 p33x_754_s ck_S0))) ck_E0)))) ck_X0 ck_l0 p33x_755_e
set_option maxRecDepth 100000 in
def p33x_756 : ck_Sum := ((3, 0, 0), 245, [.inr (.inr (.inl 226)), .inl (ck_one 9), .inl (ck_one 1)], ([], [], [(227, 0, 0, ck_one 3), (244, 0, 5, ck_one 0), (243, 0, 5, ck_one 0), (227, 2, 9, ck_one 0), (226, 0, 0, ck_one 0)]), ([(226, 0, 0), (243, 0, 5), (244, 0, 2)], []), [(.inr (some (.inl (ck_one 0))), 245, ([], [], [(226, 0, 0, ck_one 0), (244, 0, 5, ck_one 0), (243, 0, 5, ck_one 0)]))])
set_option maxRecDepth 100000 in
theorem p33x_756_e : ck_ok p1_O none [] [(287, [p33x_736]), (283, [p33x_178]), (359, [p33x_755]), (262, [p33x_182])] 358 [(40, [some (.inr (.inr (.inl 226))), some (.inl (ck_one 9)), some (.inl (ck_one 1)), some (.inl (ck_one 0)), some (.inl (1, 3, none))], ([], [], [(244, 0, 5, ck_one 0), (243, 0, 5, ck_one 0), (226, 0, 0, ck_one 0), (227, 0, 0, ck_one 3), (244, 3, 5, ck_one 0), (227, 2, 9, ck_one 0)]), 100, .inl 4, true)] 174 p33x_756 = true := by decide +kernel
theorem p33x_756_s {X : Int → Int} {LX : Nat} : ck_Ok p1_O X LX 358 p33x_756 := ck_ok_s (ck_E1 (ck_S1 p33x_736_s ck_S0) (ck_E1 (ck_S1 p33x_178_s ck_S0) (ck_E1 (ck_S1 p33x_755_s ck_S0) (ck_E1 (ck_S1 p33x_182_s ck_S0) ck_E0)))) ck_X0 ck_l0 p33x_756_e
set_option maxRecDepth 100000 in
def p33x_759 : ck_Sum := ((3, 0, 0), 245, [.inr (.inr (.inl 226)), .inl (ck_one 9), .inl (ck_one 0)], ([], [], [(227, 0, 0, ck_one 3), (244, 0, 5, ck_one 0), (243, 0, 5, ck_one 0), (227, 2, 9, ck_one 0), (226, 0, 0, ck_one 0)]), ([(226, 0, 0), (243, 0, 5), (244, 0, 2)], []), [(.inr (some (.inl (ck_one 0))), 245, ([], [], [(226, 0, 0, ck_one 0), (244, 0, 5, ck_one 0), (243, 0, 5, ck_one 0)]))])
set_option maxRecDepth 100000 in
theorem p33x_759_e : ck_ok p1_O none [] [(287, [p33x_736]), (283, [p33x_178]), (359, [p33x_755]), (262, [p33x_182])] 358 [(40, [some (.inr (.inr (.inl 226))), some (.inl (ck_one 9)), some (.inl (ck_one 0)), some (.inl (ck_one 0)), some (.inl (1, 3, none))], ([], [], [(244, 0, 5, ck_one 0), (243, 0, 5, ck_one 0), (226, 0, 0, ck_one 0), (227, 0, 0, ck_one 3), (244, 3, 5, ck_one 0), (227, 2, 9, ck_one 0)]), 100, .inl 4, true)] 174 p33x_759 = true := by decide +kernel
theorem p33x_759_s {X : Int → Int} {LX : Nat} : ck_Ok p1_O X LX 358 p33x_759 := ck_ok_s (ck_E1 (ck_S1 p33x_736_s ck_S0) (ck_E1 (ck_S1 p33x_178_s ck_S0) (ck_E1 (ck_S1 p33x_755_s ck_S0) (ck_E1 (ck_S1 p33x_182_s ck_S0) ck_E0)))) ck_X0 ck_l0 p33x_759_e
set_option maxRecDepth 100000 in
def p33x_841 : ck_Sum := ((0, 0, 0), 245, [.inl (ck_one 10), .inl (ck_one 1), .inl (ck_one 30)], ([], [], []), ([], []), [(.inr (some (.inl (ck_one 1))), 245, ([], [], []))])
set_option maxRecDepth 100000 in
theorem p33x_841_e : ck_ok p1_O none [] [] 287 [] 88 p33x_841 = true := by decide +kernel
theorem p33x_841_s {X : Int → Int} {LX : Nat} : ck_Ok p1_O X LX 287 p33x_841 := ck_ok_s (ck_E0) ck_X0 ck_l0 p33x_841_e
set_option maxRecDepth 100000 in
def p33x_844 : ck_Sum := ((1, 0, 0), 245, [.inr (.inr (.inl 226)), .inl (ck_one 9), .inl (0, 2, none), .inl (ck_one 0)], ([], [], [(227, 2, 9, ck_one 0)]), ([], []), [(.inr (some (.inl (ck_one 0))), 245, ([], [], []))])
set_option maxRecDepth 100000 in
theorem p33x_844_e : ck_ok p1_O none [] [(255, [p33x_179])] 334 [(6, [some (.inr (.inr (.inl 226))), some (.inl (ck_one 9)), some (.inl (0, 2, none)), some (.inl (ck_one 0)), some (.inl (ck_one 0)), some (.inl (ck_one 0))], ([], [], [(227, 2, 9, ck_one 0)]), 100, .inl 4, true)] 114 p33x_844 = true := by decide +kernel
theorem p33x_844_s {X : Int → Int} {LX : Nat} : ck_Ok p1_O X LX 334 p33x_844 := ck_ok_s (ck_E1 (ck_S1 p33x_179_s ck_S0) ck_E0) ck_X0 ck_l0 p33x_844_e
set_option maxRecDepth 100000 in
def p33x_860 : ck_Sum := ((1, 0, 0), 245, [.inr (.inr (.inl 226)), .inl (0, 8, none), .inl (ck_one 0), .inl (ck_one 0)], ([], [], [(227, 2, 9, ck_one 0)]), ([], []), [(.inr (some (.inl (ck_one 0))), 245, ([], [], []))])
set_option maxRecDepth 100000 in
theorem p33x_860_e : ck_ok p1_O none [] [(255, [p33x_179])] 334 [(6, [some (.inr (.inr (.inl 226))), some (.inl (0, 8, none)), some (.inl (ck_one 0)), some (.inl (ck_one 0)), some (.inl (ck_one 0)), some (.inl (ck_one 0))], ([], [], [(227, 2, 9, ck_one 0)]), 100, .inl 4, true)] 114 p33x_860 = true := by decide +kernel
theorem p33x_860_s {X : Int → Int} {LX : Nat} : ck_Ok p1_O X LX 334 p33x_860 := ck_ok_s (ck_E1 (ck_S1 p33x_179_s ck_S0) ck_E0) ck_X0 ck_l0 p33x_860_e
set_option maxRecDepth 100000 in
def p33x_861 : ck_Sum := ((1, 0, 0), 245, [.inr (.inr (.inl 226)), .inl (0, 8, none), .inl (1, 2, none), .inl (ck_one 0)], ([], [], [(227, 2, 9, ck_one 0)]), ([], []), [(.inr (some (.inl (ck_one 0))), 245, ([], [], []))])
set_option maxRecDepth 100000 in
theorem p33x_861_e : ck_ok p1_O none [] [(255, [p33x_179])] 334 [(6, [some (.inr (.inr (.inl 226))), some (.inl (0, 8, none)), some (.inl (1, 2, none)), some (.inl (ck_one 0)), some (.inl (ck_one 0)), some (.inl (ck_one 0))], ([], [], [(227, 2, 9, ck_one 0)]), 100, .inl 4, true)] 114 p33x_861 = true := by decide +kernel
theorem p33x_861_s {X : Int → Int} {LX : Nat} : ck_Ok p1_O X LX 334 p33x_861 := ck_ok_s (ck_E1 (ck_S1 p33x_179_s ck_S0) ck_E0) ck_X0 ck_l0 p33x_861_e
set_option maxRecDepth 100000 in
def p33x_862 : ck_Sum := ((2, 0, 0), 245, [.inr (.inr (.inl 226)), .inl (ck_one 10)], ([], [], [(227, 0, 0, ck_one 3), (244, 0, 5, ck_one 0), (243, 0, 5, ck_one 0), (227, 2, 9, ck_one 0)]), ([(243, 0, 5), (244, 0, 2)], []), [(.inr none, 245, ([], [], [(244, 0, 5, ck_one 0), (243, 0, 5, ck_one 0)]))])
set_option maxRecDepth 100000 in
theorem p33x_862_e : ck_ok p1_O none [] [(333, [p33x_180]), (267, [p33x_181]), (262, [p33x_182]), (334, [p33x_844, p33x_860, p33x_861])] 359 [(6, [some (.inr (.inr (.inl 226))), some (.inl (ck_one 10)), some (.inl (0, 6, none)), none, none], ([], [], [(227, 0, 0, ck_one 3), (244, 0, 5, ck_one 0), (243, 0, 5, ck_one 0), (227, 2, 9, ck_one 0)]), 100, .inl 2, true), (34, [some (.inr (.inr (.inl 226))), some (.inl (ck_one 10)), some (.inl ((-1), 9, none)), none, none], ([], [], [(227, 0, 0, ck_one 3), (244, 0, 5, ck_one 0), (243, 0, 5, ck_one 0), (227, 2, 9, ck_one 0)]), 300, .inl 2, false), (44, [some (.inr (.inr (.inl 226))), some (.inl (ck_one 10)), some (.inl (0, 9, some (300, 0))), some (.inl (0, 3, none)), none], ([], [], [(227, 0, 0, ck_one 3), (244, 0, 5, ck_one 0), (243, 0, 5, ck_one 0), (227, 2, 9, ck_one 0)]), 500, .inl 3, true), (152, [some (.inr (.inr (.inl 226))), some (.inl (ck_one 10)), some (.inl (0, 9, some (300, 0))), some (.inl (0, 3, none)), none], ([], [], [(227, 0, 0, ck_one 3), (244, 0, 5, ck_one 0), (243, 0, 5, ck_one 0), (227, 2, 9, ck_one 0)]), 700, .inl 3, true)] 800 p33x_862 = true := by decide +kernel
theorem p33x_862_s {X : Int → Int} {LX : Nat} : ck_Ok p1_O X LX 359 p33x_862 := ck_ok_s (ck_E1 (ck_S1 p33x_180_s ck_S0) (ck_E1 (ck_S1 p33x_181_s ck_S0) (ck_E1 (ck_S1 p33x_182_s ck_S0) (ck_E1 (ck_S1 p33x_844_s (ck_S1 p33x_860_s (ck_S1 p33x_861_s ck_S0))) ck_E0)))) ck_X0 ck_l0 p33x_862_e
set_option maxRecDepth 100000 in
def p33x_863 : ck_Sum := ((3, 0, 0), 245, [.inr (.inr (.inl 226)), .inl (ck_one 10), .inl (ck_one 1)], ([], [], [(227, 0, 0, ck_one 3), (244, 0, 5, ck_one 0), (243, 0, 5, ck_one 0), (227, 2, 9, ck_one 0), (226, 0, 0, ck_one 0)]), ([(226, 0, 0), (243, 0, 5), (244, 0, 2)], []), [(.inr (some (.inl (ck_one 0))), 245, ([], [], [(226, 0, 0, ck_one 0), (244, 0, 5, ck_one 0), (243, 0, 5, ck_one 0)]))])
set_option maxRecDepth 100000 in
theorem p33x_863_e : ck_ok p1_O none [] [(287, [p33x_841]), (283, [p33x_178]), (359, [p33x_862]), (262, [p33x_182])] 358 [(40, [some (.inr (.inr (.inl 226))), some (.inl (ck_one 10)), some (.inl (ck_one 1)), some (.inl (ck_one 0)), some (.inl (1, 3, none))], ([], [], [(244, 0, 5, ck_one 0), (243, 0, 5, ck_one 0), (226, 0, 0, ck_one 0), (227, 0, 0, ck_one 3), (244, 3, 5, ck_one 0), (227, 2, 9, ck_one 0)]), 100, .inl 4, true)] 174 p33x_863 = true := by decide +kernel
theorem p33x_863_s {X : Int → Int} {LX : Nat} : ck_Ok p1_O X LX 358 p33x_863 := ck_ok_s (ck_E1 (ck_S1 p33x_841_s ck_S0) (ck_E1 (ck_S1 p33x_178_s ck_S0) (ck_E1 (ck_S1 p33x_862_s ck_S0) (ck_E1 (ck_S1 p33x_182_s ck_S0) ck_E0)))) ck_X0 ck_l0 p33x_863_e
set_option maxRecDepth 100000 in
def p33x_866 : ck_Sum := ((3, 0, 0), 245, [.inr (.inr (.inl 226)), .inl (ck_one 10), .inl (ck_one 0)], ([], [], [(227, 0, 0, ck_one 3), (244, 0, 5, ck_one 0), (243, 0, 5, ck_one 0), (227, 2, 9, ck_one 0), (226, 0, 0, ck_one 0)]), ([(226, 0, 0), (243, 0, 5), (244, 0, 2)], []), [(.inr (some (.inl (ck_one 0))), 245, ([], [], [(226, 0, 0, ck_one 0), (244, 0, 5, ck_one 0), (243, 0, 5, ck_one 0)]))])
set_option maxRecDepth 100000 in
theorem p33x_866_e : ck_ok p1_O none [] [(287, [p33x_841]), (283, [p33x_178]), (359, [p33x_862]), (262, [p33x_182])] 358 [(40, [some (.inr (.inr (.inl 226))), some (.inl (ck_one 10)), some (.inl (ck_one 0)), some (.inl (ck_one 0)), some (.inl (1, 3, none))], ([], [], [(244, 0, 5, ck_one 0), (243, 0, 5, ck_one 0), (226, 0, 0, ck_one 0), (227, 0, 0, ck_one 3), (244, 3, 5, ck_one 0), (227, 2, 9, ck_one 0)]), 100, .inl 4, true)] 174 p33x_866 = true := by decide +kernel
theorem p33x_866_s {X : Int → Int} {LX : Nat} : ck_Ok p1_O X LX 358 p33x_866 := ck_ok_s (ck_E1 (ck_S1 p33x_841_s ck_S0) (ck_E1 (ck_S1 p33x_178_s ck_S0) (ck_E1 (ck_S1 p33x_862_s ck_S0) (ck_E1 (ck_S1 p33x_182_s ck_S0) ck_E0)))) ck_X0 ck_l0 p33x_866_e
set_option maxRecDepth 100000 in
def p33x_954 : ck_Sum := ((0, 0, 0), 245, [.inl (ck_one 11), .inl (ck_one 1), .inl (ck_one 30)], ([], [], []), ([], []), [(.inr (some (.inl (ck_one 1))), 245, ([], [], []))])
set_option maxRecDepth 100000 in
theorem p33x_954_e : ck_ok p1_O none [] [] 287 [] 88 p33x_954 = true := by decide +kernel
theorem p33x_954_s {X : Int → Int} {LX : Nat} : ck_Ok p1_O X LX 287 p33x_954 := ck_ok_s (ck_E0) ck_X0 ck_l0 p33x_954_e
set_option maxRecDepth 100000 in
def p33x_957 : ck_Sum := ((1, 0, 0), 245, [.inr (.inr (.inl 226)), .inl (ck_one 10), .inl (0, 2, none), .inl (ck_one 0)], ([], [], [(227, 2, 9, ck_one 0)]), ([], []), [(.inr (some (.inl (ck_one 0))), 245, ([], [], []))])
set_option maxRecDepth 100000 in
theorem p33x_957_e : ck_ok p1_O none [] [(255, [p33x_179])] 334 [(6, [some (.inr (.inr (.inl 226))), some (.inl (ck_one 10)), some (.inl (0, 2, none)), some (.inl (ck_one 0)), some (.inl (ck_one 0)), some (.inl (ck_one 0))], ([], [], [(227, 2, 9, ck_one 0)]), 100, .inl 4, true)] 114 p33x_957 = true := by decide +kernel
theorem p33x_957_s {X : Int → Int} {LX : Nat} : ck_Ok p1_O X LX 334 p33x_957 := ck_ok_s (ck_E1 (ck_S1 p33x_179_s ck_S0) ck_E0) ck_X0 ck_l0 p33x_957_e
set_option maxRecDepth 100000 in
def p33x_975 : ck_Sum := ((1, 0, 0), 245, [.inr (.inr (.inl 226)), .inl (0, 9, none), .inl (ck_one 0), .inl (ck_one 0)], ([], [], [(227, 2, 9, ck_one 0)]), ([], []), [(.inr (some (.inl (ck_one 0))), 245, ([], [], []))])
set_option maxRecDepth 100000 in
theorem p33x_975_e : ck_ok p1_O none [] [(255, [p33x_179])] 334 [(6, [some (.inr (.inr (.inl 226))), some (.inl (0, 9, none)), some (.inl (ck_one 0)), some (.inl (ck_one 0)), some (.inl (ck_one 0)), some (.inl (ck_one 0))], ([], [], [(227, 2, 9, ck_one 0)]), 100, .inl 4, true)] 114 p33x_975 = true := by decide +kernel
theorem p33x_975_s {X : Int → Int} {LX : Nat} : ck_Ok p1_O X LX 334 p33x_975 := ck_ok_s (ck_E1 (ck_S1 p33x_179_s ck_S0) ck_E0) ck_X0 ck_l0 p33x_975_e
set_option maxRecDepth 100000 in
def p33x_976 : ck_Sum := ((1, 0, 0), 245, [.inr (.inr (.inl 226)), .inl (0, 9, none), .inl (1, 2, none), .inl (ck_one 0)], ([], [], [(227, 2, 9, ck_one 0)]), ([], []), [(.inr (some (.inl (ck_one 0))), 245, ([], [], []))])
set_option maxRecDepth 100000 in
theorem p33x_976_e : ck_ok p1_O none [] [(255, [p33x_179])] 334 [(6, [some (.inr (.inr (.inl 226))), some (.inl (0, 9, none)), some (.inl (1, 2, none)), some (.inl (ck_one 0)), some (.inl (ck_one 0)), some (.inl (ck_one 0))], ([], [], [(227, 2, 9, ck_one 0)]), 100, .inl 4, true)] 114 p33x_976 = true := by decide +kernel
theorem p33x_976_s {X : Int → Int} {LX : Nat} : ck_Ok p1_O X LX 334 p33x_976 := ck_ok_s (ck_E1 (ck_S1 p33x_179_s ck_S0) ck_E0) ck_X0 ck_l0 p33x_976_e
set_option maxRecDepth 100000 in
def p33x_977 : ck_Sum := ((2, 0, 0), 245, [.inr (.inr (.inl 226)), .inl (ck_one 11)], ([], [], [(227, 0, 0, ck_one 3), (244, 0, 5, ck_one 0), (243, 0, 5, ck_one 0), (227, 2, 9, ck_one 0)]), ([(243, 0, 5), (244, 0, 2)], []), [(.inr none, 245, ([], [], [(244, 0, 5, ck_one 0), (243, 0, 5, ck_one 0)]))])
set_option maxRecDepth 100000 in
theorem p33x_977_e : ck_ok p1_O none [] [(333, [p33x_180]), (267, [p33x_181]), (262, [p33x_182]), (334, [p33x_957, p33x_975, p33x_976])] 359 [(6, [some (.inr (.inr (.inl 226))), some (.inl (ck_one 11)), some (.inl (0, 6, none)), none, none], ([], [], [(227, 0, 0, ck_one 3), (244, 0, 5, ck_one 0), (243, 0, 5, ck_one 0), (227, 2, 9, ck_one 0)]), 100, .inl 2, true), (34, [some (.inr (.inr (.inl 226))), some (.inl (ck_one 11)), some (.inl ((-1), 10, none)), none, none], ([], [], [(227, 0, 0, ck_one 3), (244, 0, 5, ck_one 0), (243, 0, 5, ck_one 0), (227, 2, 9, ck_one 0)]), 300, .inl 2, false), (44, [some (.inr (.inr (.inl 226))), some (.inl (ck_one 11)), some (.inl (0, 10, some (300, 0))), some (.inl (0, 3, none)), none], ([], [], [(227, 0, 0, ck_one 3), (244, 0, 5, ck_one 0), (243, 0, 5, ck_one 0), (227, 2, 9, ck_one 0)]), 500, .inl 3, true), (152, [some (.inr (.inr (.inl 226))), some (.inl (ck_one 11)), some (.inl (0, 10, some (300, 0))), some (.inl (0, 3, none)), none], ([], [], [(227, 0, 0, ck_one 3), (244, 0, 5, ck_one 0), (243, 0, 5, ck_one 0), (227, 2, 9, ck_one 0)]), 700, .inl 3, true)] 800 p33x_977 = true := by decide +kernel
theorem p33x_977_s {X : Int → Int} {LX : Nat} : ck_Ok p1_O X LX 359 p33x_977 := ck_ok_s (ck_E1 (ck_S1 p33x_180_s ck_S0) (ck_E1 (ck_S1 p33x_181_s ck_S0) (ck_E1 (ck_S1 p33x_182_s ck_S0) (ck_E1 (ck_S1 p33x_957_s (ck_S1 p33x_975_s (ck_S1 p33x_976_s ck_S0))) ck_E0)))) ck_X0 ck_l0 p33x_977_e
set_option maxRecDepth 100000 in
def p33x_978 : ck_Sum := ((3, 0, 0), 245, [.inr (.inr (.inl 226)), .inl (ck_one 11), .inl (ck_one 1)], ([], [], [(227, 0, 0, ck_one 3), (244, 0, 5, ck_one 0), (243, 0, 5, ck_one 0), (227, 2, 9, ck_one 0), (226, 0, 0, ck_one 0)]), ([(226, 0, 0), (243, 0, 5), (244, 0, 2)], []), [(.inr (some (.inl (ck_one 0))), 245, ([], [], [(226, 0, 0, ck_one 0), (244, 0, 5, ck_one 0), (243, 0, 5, ck_one 0)]))])
set_option maxRecDepth 100000 in
theorem p33x_978_e : ck_ok p1_O none [] [(287, [p33x_954]), (283, [p33x_178]), (359, [p33x_977]), (262, [p33x_182])] 358 [(40, [some (.inr (.inr (.inl 226))), some (.inl (ck_one 11)), some (.inl (ck_one 1)), some (.inl (ck_one 0)), some (.inl (1, 3, none))], ([], [], [(244, 0, 5, ck_one 0), (243, 0, 5, ck_one 0), (226, 0, 0, ck_one 0), (227, 0, 0, ck_one 3), (244, 3, 5, ck_one 0), (227, 2, 9, ck_one 0)]), 100, .inl 4, true)] 174 p33x_978 = true := by decide +kernel
theorem p33x_978_s {X : Int → Int} {LX : Nat} : ck_Ok p1_O X LX 358 p33x_978 := ck_ok_s (ck_E1 (ck_S1 p33x_954_s ck_S0) (ck_E1 (ck_S1 p33x_178_s ck_S0) (ck_E1 (ck_S1 p33x_977_s ck_S0) (ck_E1 (ck_S1 p33x_182_s ck_S0) ck_E0)))) ck_X0 ck_l0 p33x_978_e
set_option maxRecDepth 100000 in
def p33x_981 : ck_Sum := ((3, 0, 0), 245, [.inr (.inr (.inl 226)), .inl (ck_one 11), .inl (ck_one 0)], ([], [], [(227, 0, 0, ck_one 3), (244, 0, 5, ck_one 0), (243, 0, 5, ck_one 0), (227, 2, 9, ck_one 0), (226, 0, 0, ck_one 0)]), ([(226, 0, 0), (243, 0, 5), (244, 0, 2)], []), [(.inr (some (.inl (ck_one 0))), 245, ([], [], [(226, 0, 0, ck_one 0), (244, 0, 5, ck_one 0), (243, 0, 5, ck_one 0)]))])
set_option maxRecDepth 100000 in
theorem p33x_981_e : ck_ok p1_O none [] [(287, [p33x_954]), (283, [p33x_178]), (359, [p33x_977]), (262, [p33x_182])] 358 [(40, [some (.inr (.inr (.inl 226))), some (.inl (ck_one 11)), some (.inl (ck_one 0)), some (.inl (ck_one 0)), some (.inl (1, 3, none))], ([], [], [(244, 0, 5, ck_one 0), (243, 0, 5, ck_one 0), (226, 0, 0, ck_one 0), (227, 0, 0, ck_one 3), (244, 3, 5, ck_one 0), (227, 2, 9, ck_one 0)]), 100, .inl 4, true)] 174 p33x_981 = true := by decide +kernel
theorem p33x_981_s {X : Int → Int} {LX : Nat} : ck_Ok p1_O X LX 358 p33x_981 := ck_ok_s (ck_E1 (ck_S1 p33x_954_s ck_S0) (ck_E1 (ck_S1 p33x_178_s ck_S0) (ck_E1 (ck_S1 p33x_977_s ck_S0) (ck_E1 (ck_S1 p33x_182_s ck_S0) ck_E0)))) ck_X0 ck_l0 p33x_981_e
set_option maxRecDepth 100000 in
def p33x_1075 : ck_Sum := ((0, 0, 0), 245, [.inl (ck_one 12), .inl (ck_one 1), .inl (ck_one 30)], ([], [], []), ([], []), [(.inr (some (.inl (ck_one 1))), 245, ([], [], []))])
set_option maxRecDepth 100000 in
theorem p33x_1075_e : ck_ok p1_O none [] [] 287 [] 88 p33x_1075 = true := by decide +kernel
theorem p33x_1075_s {X : Int → Int} {LX : Nat} : ck_Ok p1_O X LX 287 p33x_1075 := ck_ok_s (ck_E0) ck_X0 ck_l0 p33x_1075_e
set_option maxRecDepth 100000 in
def p33x_1078 : ck_Sum := ((1, 0, 0), 245, [.inr (.inr (.inl 226)), .inl (ck_one 11), .inl (0, 2, none), .inl (ck_one 0)], ([], [], [(227, 2, 9, ck_one 0)]), ([], []), [(.inr (some (.inl (ck_one 0))), 245, ([], [], []))])
set_option maxRecDepth 100000 in
theorem p33x_1078_e : ck_ok p1_O none [] [(255, [p33x_179])] 334 [(6, [some (.inr (.inr (.inl 226))), some (.inl (ck_one 11)), some (.inl (0, 2, none)), some (.inl (ck_one 0)), some (.inl (ck_one 0)), some (.inl (ck_one 0))], ([], [], [(227, 2, 9, ck_one 0)]), 100, .inl 4, true)] 114 p33x_1078 = true := by decide +kernel
theorem p33x_1078_s {X : Int → Int} {LX : Nat} : ck_Ok p1_O X LX 334 p33x_1078 := ck_ok_s (ck_E1 (ck_S1 p33x_179_s ck_S0) ck_E0) ck_X0 ck_l0 p33x_1078_e
set_option maxRecDepth 100000 in
def p33x_1098 : ck_Sum := ((1, 0, 0), 245, [.inr (.inr (.inl 226)), .inl (0, 10, none), .inl (ck_one 0), .inl (ck_one 0)], ([], [], [(227, 2, 9, ck_one 0)]), ([], []), [(.inr (some (.inl (ck_one 0))), 245, ([], [], []))])
set_option maxRecDepth 100000 in
theorem p33x_1098_e : ck_ok p1_O none [] [(255, [p33x_179])] 334 [(6, [some (.inr (.inr (.inl 226))), some (.inl (0, 10, none)), some (.inl (ck_one 0)), some (.inl (ck_one 0)), some (.inl (ck_one 0)), some (.inl (ck_one 0))], ([], [], [(227, 2, 9, ck_one 0)]), 100, .inl 4, true)] 114 p33x_1098 = true := by decide +kernel
theorem p33x_1098_s {X : Int → Int} {LX : Nat} : ck_Ok p1_O X LX 334 p33x_1098 := ck_ok_s (ck_E1 (ck_S1 p33x_179_s ck_S0) ck_E0) ck_X0 ck_l0 p33x_1098_e
set_option maxRecDepth 100000 in
def p33x_1099 : ck_Sum := ((1, 0, 0), 245, [.inr (.inr (.inl 226)), .inl (0, 10, none), .inl (1, 2, none), .inl (ck_one 0)], ([], [], [(227, 2, 9, ck_one 0)]), ([], []), [(.inr (some (.inl (ck_one 0))), 245, ([], [], []))])
set_option maxRecDepth 100000 in
theorem p33x_1099_e : ck_ok p1_O none [] [(255, [p33x_179])] 334 [(6, [some (.inr (.inr (.inl 226))), some (.inl (0, 10, none)), some (.inl (1, 2, none)), some (.inl (ck_one 0)), some (.inl (ck_one 0)), some (.inl (ck_one 0))], ([], [], [(227, 2, 9, ck_one 0)]), 100, .inl 4, true)] 114 p33x_1099 = true := by decide +kernel
theorem p33x_1099_s {X : Int → Int} {LX : Nat} : ck_Ok p1_O X LX 334 p33x_1099 := ck_ok_s (ck_E1 (ck_S1 p33x_179_s ck_S0) ck_E0) ck_X0 ck_l0 p33x_1099_e
set_option maxRecDepth 100000 in
def p33x_1100 : ck_Sum := ((2, 0, 0), 245, [.inr (.inr (.inl 226)), .inl (ck_one 12)], ([], [], [(227, 0, 0, ck_one 3), (244, 0, 5, ck_one 0), (243, 0, 5, ck_one 0), (227, 2, 9, ck_one 0)]), ([(243, 0, 5), (244, 0, 2)], []), [(.inr none, 245, ([], [], [(244, 0, 5, ck_one 0), (243, 0, 5, ck_one 0)]))])
set_option maxRecDepth 100000 in
theorem p33x_1100_e : ck_ok p1_O none [] [(333, [p33x_180]), (267, [p33x_181]), (262, [p33x_182]), (334, [p33x_1078, p33x_1098, p33x_1099])] 359 [(6, [some (.inr (.inr (.inl 226))), some (.inl (ck_one 12)), some (.inl (0, 6, none)), none, none], ([], [], [(227, 0, 0, ck_one 3), (244, 0, 5, ck_one 0), (243, 0, 5, ck_one 0), (227, 2, 9, ck_one 0)]), 100, .inl 2, true), (34, [some (.inr (.inr (.inl 226))), some (.inl (ck_one 12)), some (.inl ((-1), 11, none)), none, none], ([], [], [(227, 0, 0, ck_one 3), (244, 0, 5, ck_one 0), (243, 0, 5, ck_one 0), (227, 2, 9, ck_one 0)]), 300, .inl 2, false), (44, [some (.inr (.inr (.inl 226))), some (.inl (ck_one 12)), some (.inl (0, 11, some (300, 0))), some (.inl (0, 3, none)), none], ([], [], [(227, 0, 0, ck_one 3), (244, 0, 5, ck_one 0), (243, 0, 5, ck_one 0), (227, 2, 9, ck_one 0)]), 500, .inl 3, true), (152, [some (.inr (.inr (.inl 226))), some (.inl (ck_one 12)), some (.inl (0, 11, some (300, 0))), some (.inl (0, 3, none)), none], ([], [], [(227, 0, 0, ck_one 3), (244, 0, 5, ck_one 0), (243, 0, 5, ck_one 0), (227, 2, 9, ck_one 0)]), 700, .inl 3, true)] 800 p33x_1100 = true := by decide +kernel
theorem p33x_1100_s {X : Int → Int} {LX : Nat} : ck_Ok p1_O X LX 359 p33x_1100 := ck_ok_s (ck_E1 (ck_S1 p33x_180_s ck_S0) (ck_E1 (ck_S1 p33x_181_s ck_S0) (ck_E1 (ck_S1 p33x_182_s ck_S0) (ck_E1 (ck_S1 p33x_1078_s (ck_S1 p33x_1098_s (ck_S1 p33x_1099_s ck_S0))) ck_E0)))) ck_X0 ck_l0 p33x_1100_e
set_option maxRecDepth 100000 in
def p33x_1101 : ck_Sum := ((3, 0, 0), 245, [.inr (.inr (.inl 226)), .inl (ck_one 12), .inl (ck_one 1)], ([], [], [(227, 0, 0, ck_one 3), (244, 0, 5, ck_one 0), (243, 0, 5, ck_one 0), (227, 2, 9, ck_one 0), (226, 0, 0, ck_one 0)]), ([(226, 0, 0), (243, 0, 5), (244, 0, 2)], []), [(.inr (some (.inl (ck_one 0))), 245, ([], [], [(226, 0, 0, ck_one 0), (244, 0, 5, ck_one 0), (243, 0, 5, ck_one 0)]))])
set_option maxRecDepth 100000 in
theorem p33x_1101_e : ck_ok p1_O none [] [(287, [p33x_1075]), (283, [p33x_178]), (359, [p33x_1100]), (262, [p33x_182])] 358 [(40, [some (.inr (.inr (.inl 226))), some (.inl (ck_one 12)), some (.inl (ck_one 1)), some (.inl (ck_one 0)), some (.inl (1, 3, none))], ([], [], [(244, 0, 5, ck_one 0), (243, 0, 5, ck_one 0), (226, 0, 0, ck_one 0), (227, 0, 0, ck_one 3), (244, 3, 5, ck_one 0), (227, 2, 9, ck_one 0)]), 100, .inl 4, true)] 174 p33x_1101 = true := by decide +kernel
theorem p33x_1101_s {X : Int → Int} {LX : Nat} : ck_Ok p1_O X LX 358 p33x_1101 := ck_ok_s (ck_E1 (ck_S1 p33x_1075_s ck_S0) (ck_E1 (ck_S1 p33x_178_s ck_S0) (ck_E1 (ck_S1 p33x_1100_s ck_S0) (ck_E1 (ck_S1 p33x_182_s ck_S0) ck_E0)))) ck_X0 ck_l0 p33x_1101_e
set_option maxRecDepth 100000 in
def p33x_1104 : ck_Sum := ((3, 0, 0), 245, [.inr (.inr (.inl 226)), .inl (ck_one 12), .inl (ck_one 0)], ([], [], [(227, 0, 0, ck_one 3), (244, 0, 5, ck_one 0), (243, 0, 5, ck_one 0), (227, 2, 9, ck_one 0), (226, 0, 0, ck_one 0)]), ([(226, 0, 0), (243, 0, 5), (244, 0, 2)], []), [(.inr (some (.inl (ck_one 0))), 245, ([], [], [(226, 0, 0, ck_one 0), (244, 0, 5, ck_one 0), (243, 0, 5, ck_one 0)]))])
set_option maxRecDepth 100000 in
theorem p33x_1104_e : ck_ok p1_O none [] [(287, [p33x_1075]), (283, [p33x_178]), (359, [p33x_1100]), (262, [p33x_182])] 358 [(40, [some (.inr (.inr (.inl 226))), some (.inl (ck_one 12)), some (.inl (ck_one 0)), some (.inl (ck_one 0)), some (.inl (1, 3, none))], ([], [], [(244, 0, 5, ck_one 0), (243, 0, 5, ck_one 0), (226, 0, 0, ck_one 0), (227, 0, 0, ck_one 3), (244, 3, 5, ck_one 0), (227, 2, 9, ck_one 0)]), 100, .inl 4, true)] 174 p33x_1104 = true := by decide +kernel
theorem p33x_1104_s {X : Int → Int} {LX : Nat} : ck_Ok p1_O X LX 358 p33x_1104 := ck_ok_s (ck_E1 (ck_S1 p33x_1075_s ck_S0) (ck_E1 (ck_S1 p33x_178_s ck_S0) (ck_E1 (ck_S1 p33x_1100_s ck_S0) (ck_E1 (ck_S1 p33x_182_s ck_S0) ck_E0)))) ck_X0 ck_l0 p33x_1104_e
set_option maxRecDepth 100000 in
def p33x_1204 : ck_Sum := ((0, 0, 0), 245, [.inl (ck_one 13), .inl (ck_one 1), .inl (ck_one 30)], ([], [], []), ([], []), [(.inr (some (.inl (ck_one 1))), 245, ([], [], []))])
set_option maxRecDepth 100000 in
theorem p33x_1204_e : ck_ok p1_O none [] [] 287 [] 88 p33x_1204 = true := by decide +kernel
theorem p33x_1204_s {X : Int → Int} {LX : Nat} : ck_Ok p1_O X LX 287 p33x_1204 := ck_ok_s (ck_E0) ck_X0 ck_l0 p33x_1204_e
set_option maxRecDepth 100000 in
def p33x_1207 : ck_Sum := ((1, 0, 0), 245, [.inr (.inr (.inl 226)), .inl (ck_one 12), .inl (0, 2, none), .inl (ck_one 0)], ([], [], [(227, 2, 9, ck_one 0)]), ([], []), [(.inr (some (.inl (ck_one 0))), 245, ([], [], []))])
set_option maxRecDepth 100000 in
theorem p33x_1207_e : ck_ok p1_O none [] [(255, [p33x_179])] 334 [(6, [some (.inr (.inr (.inl 226))), some (.inl (ck_one 12)), some (.inl (0, 2, none)), some (.inl (ck_one 0)), some (.inl (ck_one 0)), some (.inl (ck_one 0))], ([], [], [(227, 2, 9, ck_one 0)]), 100, .inl 4, true)] 114 p33x_1207 = true := by decide +kernel
theorem p33x_1207_s {X : Int → Int} {LX : Nat} : ck_Ok p1_O X LX 334 p33x_1207 := ck_ok_s (ck_E1 (ck_S1 p33x_179_s ck_S0) ck_E0) ck_X0 ck_l0 p33x_1207_e
set_option maxRecDepth 100000 in
def p33x_1229 : ck_Sum := ((1, 0, 0), 245, [.inr (.inr (.inl 226)), .inl (0, 11, none), .inl (ck_one 0), .inl (ck_one 0)], ([], [], [(227, 2, 9, ck_one 0)]), ([], []), [(.inr (some (.inl (ck_one 0))), 245, ([], [], []))])
set_option maxRecDepth 100000 in
theorem p33x_1229_e : ck_ok p1_O none [] [(255, [p33x_179])] 334 [(6, [some (.inr (.inr (.inl 226))), some (.inl (0, 11, none)), some (.inl (ck_one 0)), some (.inl (ck_one 0)), some (.inl (ck_one 0)), some (.inl (ck_one 0))], ([], [], [(227, 2, 9, ck_one 0)]), 100, .inl 4, true)] 114 p33x_1229 = true := by decide +kernel
theorem p33x_1229_s {X : Int → Int} {LX : Nat} : ck_Ok p1_O X LX 334 p33x_1229 := ck_ok_s (ck_E1 (ck_S1 p33x_179_s ck_S0) ck_E0) ck_X0 ck_l0 p33x_1229_e
set_option maxRecDepth 100000 in
def p33x_1230 : ck_Sum := ((1, 0, 0), 245, [.inr (.inr (.inl 226)), .inl (0, 11, none), .inl (1, 2, none), .inl (ck_one 0)], ([], [], [(227, 2, 9, ck_one 0)]), ([], []), [(.inr (some (.inl (ck_one 0))), 245, ([], [], []))])
set_option maxRecDepth 100000 in
theorem p33x_1230_e : ck_ok p1_O none [] [(255, [p33x_179])] 334 [(6, [some (.inr (.inr (.inl 226))), some (.inl (0, 11, none)), some (.inl (1, 2, none)), some (.inl (ck_one 0)), some (.inl (ck_one 0)), some (.inl (ck_one 0))], ([], [], [(227, 2, 9, ck_one 0)]), 100, .inl 4, true)] 114 p33x_1230 = true := by decide +kernel
theorem p33x_1230_s {X : Int → Int} {LX : Nat} : ck_Ok p1_O X LX 334 p33x_1230 := ck_ok_s (ck_E1 (ck_S1 p33x_179_s ck_S0) ck_E0) ck_X0 ck_l0 p33x_1230_e
set_option maxRecDepth 100000 in
def p33x_1231 : ck_Sum := ((2, 0, 0), 245, [.inr (.inr (.inl 226)), .inl (ck_one 13)], ([], [], [(227, 0, 0, ck_one 3), (244, 0, 5, ck_one 0), (243, 0, 5, ck_one 0), (227, 2, 9, ck_one 0)]), ([(243, 0, 5), (244, 0, 2)], []), [(.inr none, 245, ([], [], [(244, 0, 5, ck_one 0), (243, 0, 5, ck_one 0)]))])
set_option maxRecDepth 100000 in
theorem p33x_1231_e : ck_ok p1_O none [] [(333, [p33x_180]), (267, [p33x_181]), (262, [p33x_182]), (334, [p33x_1207, p33x_1229, p33x_1230])] 359 [(6, [some (.inr (.inr (.inl 226))), some (.inl (ck_one 13)), some (.inl (0, 6, none)), none, none], ([], [], [(227, 0, 0, ck_one 3), (244, 0, 5, ck_one 0), (243, 0, 5, ck_one 0), (227, 2, 9, ck_one 0)]), 100, .inl 2, true), (34, [some (.inr (.inr (.inl 226))), some (.inl (ck_one 13)), some (.inl ((-1), 12, none)), none, none], ([], [], [(227, 0, 0, ck_one 3), (244, 0, 5, ck_one 0), (243, 0, 5, ck_one 0), (227, 2, 9, ck_one 0)]), 300, .inl 2, false), (44, [some (.inr (.inr (.inl 226))), some (.inl (ck_one 13)), some (.inl (0, 12, some (300, 0))), some (.inl (0, 3, none)), none], ([], [], [(227, 0, 0, ck_one 3), (244, 0, 5, ck_one 0), (243, 0, 5, ck_one 0), (227, 2, 9, ck_one 0)]), 500, .inl 3, true), (152, [some (.inr (.inr (.inl 226))), some (.inl (ck_one 13)), some (.inl (0, 12, some (300, 0))), some (.inl (0, 3, none)), none], ([], [], [(227, 0, 0, ck_one 3), (244, 0, 5, ck_one 0), (243, 0, 5, ck_one 0), (227, 2, 9, ck_one 0)]), 700, .inl 3, true)] 800 p33x_1231 = true := by decide +kernel
theorem p33x_1231_s {X : Int → Int} {LX : Nat} : ck_Ok p1_O X LX 359 p33x_1231 := ck_ok_s (ck_E1 (ck_S1 p33x_180_s ck_S0) (ck_E1 (ck_S1 p33x_181_s ck_S0) (ck_E1 (ck_S1 p33x_182_s ck_S0) (ck_E1 (ck_S1 p33x_1207_s (ck_S1 p33x_1229_s (ck_S1 p33x_1230_s ck_S0))) ck_E0)))) ck_X0 ck_l0 p33x_1231_e
set_option maxRecDepth 100000 in
def p33x_1232 : ck_Sum := ((3, 0, 0), 245, [.inr (.inr (.inl 226)), .inl (ck_one 13), .inl (ck_one 1)], ([], [], [(227, 0, 0, ck_one 3), (244, 0, 5, ck_one 0), (243, 0, 5, ck_one 0), (227, 2, 9, ck_one 0), (226, 0, 0, ck_one 0)]), ([(226, 0, 0), (243, 0, 5), (244, 0, 2)], []), [(.inr (some (.inl (ck_one 0))), 245, ([], [], [(226, 0, 0, ck_one 0), (244, 0, 5, ck_one 0), (243, 0, 5, ck_one 0)]))])
set_option maxRecDepth 100000 in
theorem p33x_1232_e : ck_ok p1_O none [] [(287, [p33x_1204]), (283, [p33x_178]), (359, [p33x_1231]), (262, [p33x_182])] 358 [(40, [some (.inr (.inr (.inl 226))), some (.inl (ck_one 13)), some (.inl (ck_one 1)), some (.inl (ck_one 0)), some (.inl (1, 3, none))], ([], [], [(244, 0, 5, ck_one 0), (243, 0, 5, ck_one 0), (226, 0, 0, ck_one 0), (227, 0, 0, ck_one 3), (244, 3, 5, ck_one 0), (227, 2, 9, ck_one 0)]), 100, .inl 4, true)] 174 p33x_1232 = true := by decide +kernel
theorem p33x_1232_s {X : Int → Int} {LX : Nat} : ck_Ok p1_O X LX 358 p33x_1232 := ck_ok_s (ck_E1 (ck_S1 p33x_1204_s ck_S0) (ck_E1 (ck_S1 p33x_178_s ck_S0) (ck_E1 (ck_S1 p33x_1231_s ck_S0) (ck_E1 (ck_S1 p33x_182_s ck_S0) ck_E0)))) ck_X0 ck_l0 p33x_1232_e
set_option maxRecDepth 100000 in
def p33x_1235 : ck_Sum := ((3, 0, 0), 245, [.inr (.inr (.inl 226)), .inl (ck_one 13), .inl (ck_one 0)], ([], [], [(227, 0, 0, ck_one 3), (244, 0, 5, ck_one 0), (243, 0, 5, ck_one 0), (227, 2, 9, ck_one 0), (226, 0, 0, ck_one 0)]), ([(226, 0, 0), (243, 0, 5), (244, 0, 2)], []), [(.inr (some (.inl (ck_one 0))), 245, ([], [], [(226, 0, 0, ck_one 0), (244, 0, 5, ck_one 0), (243, 0, 5, ck_one 0)]))])
set_option maxRecDepth 100000 in
theorem p33x_1235_e : ck_ok p1_O none [] [(287, [p33x_1204]), (283, [p33x_178]), (359, [p33x_1231]), (262, [p33x_182])] 358 [(40, [some (.inr (.inr (.inl 226))), some (.inl (ck_one 13)), some (.inl (ck_one 0)), some (.inl (ck_one 0)), some (.inl (1, 3, none))], ([], [], [(244, 0, 5, ck_one 0), (243, 0, 5, ck_one 0), (226, 0, 0, ck_one 0), (227, 0, 0, ck_one 3), (244, 3, 5, ck_one 0), (227, 2, 9, ck_one 0)]), 100, .inl 4, true)] 174 p33x_1235 = true := by decide +kernel
theorem p33x_1235_s {X : Int → Int} {LX : Nat} : ck_Ok p1_O X LX 358 p33x_1235 := ck_ok_s (ck_E1 (ck_S1 p33x_1204_s ck_S0) (ck_E1 (ck_S1 p33x_178_s ck_S0) (ck_E1 (ck_S1 p33x_1231_s ck_S0) (ck_E1 (ck_S1 p33x_182_s ck_S0) ck_E0)))) ck_X0 ck_l0 p33x_1235_e
set_option maxRecDepth 100000 in
def p33x_1341 : ck_Sum := ((0, 0, 0), 245, [.inl (ck_one 14), .inl (ck_one 1), .inl (ck_one 30)], ([], [], []), ([], []), [(.inr (some (.inl (ck_one 1))), 245, ([], [], []))])
set_option maxRecDepth 100000 in
theorem p33x_1341_e : ck_ok p1_O none [] [] 287 [] 88 p33x_1341 = true := by decide +kernel
theorem p33x_1341_s {X : Int → Int} {LX : Nat} : ck_Ok p1_O X LX 287 p33x_1341 := ck_ok_s (ck_E0) ck_X0 ck_l0 p33x_1341_e
set_option maxRecDepth 100000 in
def p33x_1344 : ck_Sum := ((1, 0, 0), 245, [.inr (.inr (.inl 226)), .inl (ck_one 13), .inl (0, 2, none), .inl (ck_one 0)], ([], [], [(227, 2, 9, ck_one 0)]), ([], []), [(.inr (some (.inl (ck_one 0))), 245, ([], [], []))])
set_option maxRecDepth 100000 in
theorem p33x_1344_e : ck_ok p1_O none [] [(255, [p33x_179])] 334 [(6, [some (.inr (.inr (.inl 226))), some (.inl (ck_one 13)), some (.inl (0, 2, none)), some (.inl (ck_one 0)), some (.inl (ck_one 0)), some (.inl (ck_one 0))], ([], [], [(227, 2, 9, ck_one 0)]), 100, .inl 4, true)] 114 p33x_1344 = true := by decide +kernel
theorem p33x_1344_s {X : Int → Int} {LX : Nat} : ck_Ok p1_O X LX 334 p33x_1344 := ck_ok_s (ck_E1 (ck_S1 p33x_179_s ck_S0) ck_E0) ck_X0 ck_l0 p33x_1344_e
set_option maxRecDepth 100000 in
def p33x_1368 : ck_Sum := ((1, 0, 0), 245, [.inr (.inr (.inl 226)), .inl (0, 12, none), .inl (ck_one 0), .inl (ck_one 0)], ([], [], [(227, 2, 9, ck_one 0)]), ([], []), [(.inr (some (.inl (ck_one 0))), 245, ([], [], []))])
set_option maxRecDepth 100000 in
theorem p33x_1368_e : ck_ok p1_O none [] [(255, [p33x_179])] 334 [(6, [some (.inr (.inr (.inl 226))), some (.inl (0, 12, none)), some (.inl (ck_one 0)), some (.inl (ck_one 0)), some (.inl (ck_one 0)), some (.inl (ck_one 0))], ([], [], [(227, 2, 9, ck_one 0)]), 100, .inl 4, true)] 114 p33x_1368 = true := by decide +kernel
theorem p33x_1368_s {X : Int → Int} {LX : Nat} : ck_Ok p1_O X LX 334 p33x_1368 := ck_ok_s (ck_E1 (ck_S1 p33x_179_s ck_S0) ck_E0) ck_X0 ck_l0 p33x_1368_e
set_option maxRecDepth 100000 in
def p33x_1369 : ck_Sum := ((1, 0, 0), 245, [.inr (.inr (.inl 226)), .inl (0, 12, none), .inl (1, 2, none), .inl (ck_one 0)], ([], [], [(227, 2, 9, ck_one 0)]), ([], []), [(.inr (some (.inl (ck_one 0))), 245, ([], [], []))])
set_option maxRecDepth 100000 in
theorem p33x_1369_e : ck_ok p1_O none [] [(255, [p33x_179])] 334 [(6, [some (.inr (.inr (.inl 226))), some (.inl (0, 12, none)), some (.inl (1, 2, none)), some (.inl (ck_one 0)), some (.inl (ck_one 0)), some (.inl (ck_one 0))], ([], [], [(227, 2, 9, ck_one 0)]), 100, .inl 4, true)] 114 p33x_1369 = true := by decide +kernel
theorem p33x_1369_s {X : Int → Int} {LX : Nat} : ck_Ok p1_O X LX 334 p33x_1369 := ck_ok_s (ck_E1 (ck_S1 p33x_179_s ck_S0) ck_E0) ck_X0 ck_l0 p33x_1369_e
set_option maxRecDepth 100000 in
def p33x_1370 : ck_Sum := ((2, 0, 0), 245, [.inr (.inr (.inl 226)), .inl (ck_one 14)], ([], [], [(227, 0, 0, ck_one 3), (244, 0, 5, ck_one 0), (243, 0, 5, ck_one 0), (227, 2, 9, ck_one 0)]), ([(243, 0, 5), (244, 0, 2)], []), [(.inr none, 245, ([], [], [(244, 0, 5, ck_one 0), (243, 0, 5, ck_one 0)]))])
set_option maxRecDepth 100000 in
theorem p33x_1370_e : ck_ok p1_O none [] [(333, [p33x_180]), (267, [p33x_181]), (262, [p33x_182]), (334, [p33x_1344, p33x_1368, p33x_1369])] 359 [(6, [some (.inr (.inr (.inl 226))), some (.inl (ck_one 14)), some (.inl (0, 6, none)), none, none], ([], [], [(227, 0, 0, ck_one 3), (244, 0, 5, ck_one 0), (243, 0, 5, ck_one 0), (227, 2, 9, ck_one 0)]), 100, .inl 2, true), (34, [some (.inr (.inr (.inl 226))), some (.inl (ck_one 14)), some (.inl ((-1), 13, none)), none, none], ([], [], [(227, 0, 0, ck_one 3), (244, 0, 5, ck_one 0), (243, 0, 5, ck_one 0), (227, 2, 9, ck_one 0)]), 300, .inl 2, false), (44, [some (.inr (.inr (.inl 226))), some (.inl (ck_one 14)), some (.inl (0, 13, some (300, 0))), some (.inl (0, 3, none)), none], ([], [], [(227, 0, 0, ck_one 3), (244, 0, 5, ck_one 0), (243, 0, 5, ck_one 0), (227, 2, 9, ck_one 0)]), 500, .inl 3, true), (152, [some (.inr (.inr (.inl 226))), some (.inl (ck_one 14)), some (.inl (0, 13, some (300, 0))), some (.inl (0, 3, none)), none], ([], [], [(227, 0, 0, ck_one 3), (244, 0, 5, ck_one 0), (243, 0, 5, ck_one 0), (227, 2, 9, ck_one 0)]), 700, .inl 3, true)] 800 p33x_1370 = true := by decide +kernel
theorem p33x_1370_s {X : Int → Int} {LX : Nat} : ck_Ok p1_O X LX 359 p33x_1370 := ck_ok_s (ck_E1 (ck_S1 p33x_180_s ck_S0) (ck_E1 (ck_S1 p33x_181_s ck_S0) (ck_E1 (ck_S1 p33x_182_s ck_S0) (ck_E1 (ck_S1 p33x_1344_s (ck_S1 p33x_1368_s (ck_S1 p33x_1369_s ck_S0))) ck_E0)))) ck_X0 ck_l0 p33x_1370_e
set_option maxRecDepth 100000 in
def p33x_1371 : ck_Sum := ((3, 0, 0), 245, [.inr (.inr (.inl 226)), .inl (ck_one 14), .inl (ck_one 1)], ([], [], [(227, 0, 0, ck_one 3), (244, 0, 5, ck_one 0), (243, 0, 5, ck_one 0), (227, 2, 9, ck_one 0), (226, 0, 0, ck_one 0)]), ([(226, 0, 0), (243, 0, 5), (244, 0, 2)], []), [(.inr (some (.inl (ck_one 0))), 245, ([], [], [(226, 0, 0, ck_one 0), (244, 0, 5, ck_one 0), (243, 0, 5, ck_one 0)]))])
set_option maxRecDepth 100000 in
theorem p33x_1371_e : ck_ok p1_O none [] [(287, [p33x_1341]), (283, [p33x_178]), (359, [p33x_1370]), (262, [p33x_182])] 358 [(40, [some (.inr (.inr (.inl 226))), some (.inl (ck_one 14)), some (.inl (ck_one 1)), some (.inl (ck_one 0)), some (.inl (1, 3, none))], ([], [], [(244, 0, 5, ck_one 0), (243, 0, 5, ck_one 0), (226, 0, 0, ck_one 0), (227, 0, 0, ck_one 3), (244, 3, 5, ck_one 0), (227, 2, 9, ck_one 0)]), 100, .inl 4, true)] 174 p33x_1371 = true := by decide +kernel
theorem p33x_1371_s {X : Int → Int} {LX : Nat} : ck_Ok p1_O X LX 358 p33x_1371 := ck_ok_s (ck_E1 (ck_S1 p33x_1341_s ck_S0) (ck_E1 (ck_S1 p33x_178_s ck_S0) (ck_E1 (ck_S1 p33x_1370_s ck_S0) (ck_E1 (ck_S1 p33x_182_s ck_S0) ck_E0)))) ck_X0 ck_l0 p33x_1371_e
set_option maxRecDepth 100000 in
def p33x_1374 : ck_Sum := ((3, 0, 0), 245, [.inr (.inr (.inl 226)), .inl (ck_one 14), .inl (ck_one 0)], ([], [], [(227, 0, 0, ck_one 3), (244, 0, 5, ck_one 0), (243, 0, 5, ck_one 0), (227, 2, 9, ck_one 0), (226, 0, 0, ck_one 0)]), ([(226, 0, 0), (243, 0, 5), (244, 0, 2)], []), [(.inr (some (.inl (ck_one 0))), 245, ([], [], [(226, 0, 0, ck_one 0), (244, 0, 5, ck_one 0), (243, 0, 5, ck_one 0)]))])
set_option maxRecDepth 100000 in
theorem p33x_1374_e : ck_ok p1_O none [] [(287, [p33x_1341]), (283, [p33x_178]), (359, [p33x_1370]), (262, [p33x_182])] 358 [(40, [some (.inr (.inr (.inl 226))), some (.inl (ck_one 14)), some (.inl (ck_one 0)), some (.inl (ck_one 0)), some (.inl (1, 3, none))], ([], [], [(244, 0, 5, ck_one 0), (243, 0, 5, ck_one 0), (226, 0, 0, ck_one 0), (227, 0, 0, ck_one 3), (244, 3, 5, ck_one 0), (227, 2, 9, ck_one 0)]), 100, .inl 4, true)] 174 p33x_1374 = true := by decide +kernel
theorem p33x_1374_s {X : Int → Int} {LX : Nat} : ck_Ok p1_O X LX 358 p33x_1374 := ck_ok_s (ck_E1 (ck_S1 p33x_1341_s ck_S0) (ck_E1 (ck_S1 p33x_178_s ck_S0) (ck_E1 (ck_S1 p33x_1370_s ck_S0) (ck_E1 (ck_S1 p33x_182_s ck_S0) ck_E0)))) ck_X0 ck_l0 p33x_1374_e
set_option maxRecDepth 100000 in
def p33x_1486 : ck_Sum := ((0, 0, 0), 245, [.inl (ck_one 15), .inl (ck_one 1), .inl (ck_one 30)], ([], [], []), ([], []), [(.inr (some (.inl (ck_one 1))), 245, ([], [], []))])
set_option maxRecDepth 100000 in
theorem p33x_1486_e : ck_ok p1_O none [] [] 287 [] 88 p33x_1486 = true := by decide +kernel
theorem p33x_1486_s {X : Int → Int} {LX : Nat} : ck_Ok p1_O X LX 287 p33x_1486 := ck_ok_s (ck_E0) ck_X0 ck_l0 p33x_1486_e
set_option maxRecDepth 100000 in
def p33x_1489 : ck_Sum := ((1, 0, 0), 245, [.inr (.inr (.inl 226)), .inl (ck_one 14), .inl (0, 2, none), .inl (ck_one 0)], ([], [], [(227, 2, 9, ck_one 0)]), ([], []), [(.inr (some (.inl (ck_one 0))), 245, ([], [], []))])
set_option maxRecDepth 100000 in
theorem p33x_1489_e : ck_ok p1_O none [] [(255, [p33x_179])] 334 [(6, [some (.inr (.inr (.inl 226))), some (.inl (ck_one 14)), some (.inl (0, 2, none)), some (.inl (ck_one 0)), some (.inl (ck_one 0)), some (.inl (ck_one 0))], ([], [], [(227, 2, 9, ck_one 0)]), 100, .inl 4, true)] 114 p33x_1489 = true := by decide +kernel
theorem p33x_1489_s {X : Int → Int} {LX : Nat} : ck_Ok p1_O X LX 334 p33x_1489 := ck_ok_s (ck_E1 (ck_S1 p33x_179_s ck_S0) ck_E0) ck_X0 ck_l0 p33x_1489_e
set_option maxRecDepth 100000 in
def p33x_1515 : ck_Sum := ((1, 0, 0), 245, [.inr (.inr (.inl 226)), .inl (0, 13, none), .inl (ck_one 0), .inl (ck_one 0)], ([], [], [(227, 2, 9, ck_one 0)]), ([], []), [(.inr (some (.inl (ck_one 0))), 245, ([], [], []))])
set_option maxRecDepth 100000 in
theorem p33x_1515_e : ck_ok p1_O none [] [(255, [p33x_179])] 334 [(6, [some (.inr (.inr (.inl 226))), some (.inl (0, 13, none)), some (.inl (ck_one 0)), some (.inl (ck_one 0)), some (.inl (ck_one 0)), some (.inl (ck_one 0))], ([], [], [(227, 2, 9, ck_one 0)]), 100, .inl 4, true)] 114 p33x_1515 = true := by decide +kernel
theorem p33x_1515_s {X : Int → Int} {LX : Nat} : ck_Ok p1_O X LX 334 p33x_1515 := ck_ok_s (ck_E1 (ck_S1 p33x_179_s ck_S0) ck_E0) ck_X0 ck_l0 p33x_1515_e
set_option maxRecDepth 100000 in
def p33x_1516 : ck_Sum := ((1, 0, 0), 245, [.inr (.inr (.inl 226)), .inl (0, 13, none), .inl (1, 2, none), .inl (ck_one 0)], ([], [], [(227, 2, 9, ck_one 0)]), ([], []), [(.inr (some (.inl (ck_one 0))), 245, ([], [], []))])
set_option maxRecDepth 100000 in
theorem p33x_1516_e : ck_ok p1_O none [] [(255, [p33x_179])] 334 [(6, [some (.inr (.inr (.inl 226))), some (.inl (0, 13, none)), some (.inl (1, 2, none)), some (.inl (ck_one 0)), some (.inl (ck_one 0)), some (.inl (ck_one 0))], ([], [], [(227, 2, 9, ck_one 0)]), 100, .inl 4, true)] 114 p33x_1516 = true := by decide +kernel
theorem p33x_1516_s {X : Int → Int} {LX : Nat} : ck_Ok p1_O X LX 334 p33x_1516 := ck_ok_s (ck_E1 (ck_S1 p33x_179_s ck_S0) ck_E0) ck_X0 ck_l0 p33x_1516_e
set_option maxRecDepth 100000 in
def p33x_1517 : ck_Sum := ((2, 0, 0), 245, [.inr (.inr (.inl 226)), .inl (ck_one 15)], ([], [], [(227, 0, 0, ck_one 3), (244, 0, 5, ck_one 0), (243, 0, 5, ck_one 0), (227, 2, 9, ck_one 0)]), ([(243, 0, 5), (244, 0, 2)], []), [(.inr none, 245, ([], [], [(244, 0, 5, ck_one 0), (243, 0, 5, ck_one 0)]))])
set_option maxRecDepth 100000 in
theorem p33x_1517_e : ck_ok p1_O none [] [(333, [p33x_180]), (267, [p33x_181]), (262, [p33x_182]), (334, [p33x_1489, p33x_1515, p33x_1516])] 359 [(6, [some (.inr (.inr (.inl 226))), some (.inl (ck_one 15)), some (.inl (0, 6, none)), none, none], ([], [], [(227, 0, 0, ck_one 3), (244, 0, 5, ck_one 0), (243, 0, 5, ck_one 0), (227, 2, 9, ck_one 0)]), 100, .inl 2, true), (34, [some (.inr (.inr (.inl 226))), some (.inl (ck_one 15)), some (.inl ((-1), 14, none)), none, none], ([], [], [(227, 0, 0, ck_one 3), (244, 0, 5, ck_one 0), (243, 0, 5, ck_one 0), (227, 2, 9, ck_one 0)]), 300, .inl 2, false), (44, [some (.inr (.inr (.inl 226))), some (.inl (ck_one 15)), some (.inl (0, 14, some (300, 0))), some (.inl (0, 3, none)), none], ([], [], [(227, 0, 0, ck_one 3), (244, 0, 5, ck_one 0), (243, 0, 5, ck_one 0), (227, 2, 9, ck_one 0)]), 500, .inl 3, true), (152, [some (.inr (.inr (.inl 226))), some (.inl (ck_one 15)), some (.inl (0, 14, some (300, 0))), some (.inl (0, 3, none)), none], ([], [], [(227, 0, 0, ck_one 3), (244, 0, 5, ck_one 0), (243, 0, 5, ck_one 0), (227, 2, 9, ck_one 0)]), 700, .inl 3, true)] 800 p33x_1517 = true := by decide +kernel
theorem p33x_1517_s {X : Int → Int} {LX : Nat} : ck_Ok p1_O X LX 359 p33x_1517 := ck_ok_s (ck_E1 (ck_S1 p33x_180_s ck_S0) (ck_E1 (ck_S1 p33x_181_s ck_S0) (ck_E1 (ck_S1 p33x_182_s ck_S0) (ck_E1 (ck_S1 p33x_1489_s (ck_S1 p33x_1515_s (ck_S1 p33x_1516_s ck_S0))) ck_E0)))) ck_X0 ck_l0 p33x_1517_e
set_option maxRecDepth 100000 in
def p33x_1518 : ck_Sum := ((3, 0, 0), 245, [.inr (.inr (.inl 226)), .inl (ck_one 15), .inl (ck_one 1)], ([], [], [(227, 0, 0, ck_one 3), (244, 0, 5, ck_one 0), (243, 0, 5, ck_one 0), (227, 2, 9, ck_one 0), (226, 0, 0, ck_one 0)]), ([(226, 0, 0), (243, 0, 5), (244, 0, 2)], []), [(.inr (some (.inl (ck_one 0))), 245, ([], [], [(226, 0, 0, ck_one 0), (244, 0, 5, ck_one 0), (243, 0, 5, ck_one 0)]))])
set_option maxRecDepth 100000 in
theorem p33x_1518_e : ck_ok p1_O none [] [(287, [p33x_1486]), (283, [p33x_178]), (359, [p33x_1517]), (262, [p33x_182])] 358 [(40, [some (.inr (.inr (.inl 226))), some (.inl (ck_one 15)), some (.inl (ck_one 1)), some (.inl (ck_one 0)), some (.inl (1, 3, none))], ([], [], [(244, 0, 5, ck_one 0), (243, 0, 5, ck_one 0), (226, 0, 0, ck_one 0), (227, 0, 0, ck_one 3), (244, 3, 5, ck_one 0), (227, 2, 9, ck_one 0)]), 100, .inl 4, true)] 174 p33x_1518 = true := by decide +kernel
theorem p33x_1518_s {X : Int → Int} {LX : Nat} : ck_Ok p1_O X LX 358 p33x_1518 := ck_ok_s (ck_E1 (ck_S1 p33x_1486_s ck_S0) (ck_E1 (ck_S1 p33x_178_s ck_S0) (ck_E1 (ck_S1 p33x_1517_s ck_S0) (ck_E1 (ck_S1 p33x_182_s ck_S0) ck_E0)))) ck_X0 ck_l0 p33x_1518_e
set_option maxRecDepth 100000 in
def p33x_1521 : ck_Sum := ((3, 0, 0), 245, [.inr (.inr (.inl 226)), .inl (ck_one 15), .inl (ck_one 0)], ([], [], [(227, 0, 0, ck_one 3), (244, 0, 5, ck_one 0), (243, 0, 5, ck_one 0), (227, 2, 9, ck_one 0), (226, 0, 0, ck_one 0)]), ([(226, 0, 0), (243, 0, 5), (244, 0, 2)], []), [(.inr (some (.inl (ck_one 0))), 245, ([], [], [(226, 0, 0, ck_one 0), (244, 0, 5, ck_one 0), (243, 0, 5, ck_one 0)]))])
set_option maxRecDepth 100000 in
theorem p33x_1521_e : ck_ok p1_O none [] [(287, [p33x_1486]), (283, [p33x_178]), (359, [p33x_1517]), (262, [p33x_182])] 358 [(40, [some (.inr (.inr (.inl 226))), some (.inl (ck_one 15)), some (.inl (ck_one 0)), some (.inl (ck_one 0)), some (.inl (1, 3, none))], ([], [], [(244, 0, 5, ck_one 0), (243, 0, 5, ck_one 0), (226, 0, 0, ck_one 0), (227, 0, 0, ck_one 3), (244, 3, 5, ck_one 0), (227, 2, 9, ck_one 0)]), 100, .inl 4, true)] 174 p33x_1521 = true := by decide +kernel
theorem p33x_1521_s {X : Int → Int} {LX : Nat} : ck_Ok p1_O X LX 358 p33x_1521 := ck_ok_s (ck_E1 (ck_S1 p33x_1486_s ck_S0) (ck_E1 (ck_S1 p33x_178_s ck_S0) (ck_E1 (ck_S1 p33x_1517_s ck_S0) (ck_E1 (ck_S1 p33x_182_s ck_S0) ck_E0)))) ck_X0 ck_l0 p33x_1521_e
set_option maxRecDepth 100000 in
def p33x_1639 : ck_Sum := ((0, 0, 0), 245, [.inl (ck_one 16), .inl (ck_one 1), .inl (ck_one 30)], ([], [], []), ([], []), [(.inr (some (.inl (ck_one 1))), 245, ([], [], []))])
set_option maxRecDepth 100000 in
theorem p33x_1639_e : ck_ok p1_O none [] [] 287 [] 88 p33x_1639 = true := by decide +kernel
theorem p33x_1639_s {X : Int → Int} {LX : Nat} : ck_Ok p1_O X LX 287 p33x_1639 := ck_ok_s (ck_E0) ck_X0 ck_l0 p33x_1639_e
set_option maxRecDepth 100000 in
def p33x_1642 : ck_Sum := ((1, 0, 0), 245, [.inr (.inr (.inl 226)), .inl (ck_one 15), .inl (0, 2, none), .inl (ck_one 0)], ([], [], [(227, 2, 9, ck_one 0)]), ([], []), [(.inr (some (.inl (ck_one 0))), 245, ([], [], []))])
set_option maxRecDepth 100000 in
theorem p33x_1642_e : ck_ok p1_O none [] [(255, [p33x_179])] 334 [(6, [some (.inr (.inr (.inl 226))), some (.inl (ck_one 15)), some (.inl (0, 2, none)), some (.inl (ck_one 0)), some (.inl (ck_one 0)), some (.inl (ck_one 0))], ([], [], [(227, 2, 9, ck_one 0)]), 100, .inl 4, true)] 114 p33x_1642 = true := by decide +kernel
theorem p33x_1642_s {X : Int → Int} {LX : Nat} : ck_Ok p1_O X LX 334 p33x_1642 := ck_ok_s (ck_E1 (ck_S1 p33x_179_s ck_S0) ck_E0) ck_X0 ck_l0 p33x_1642_e
set_option maxRecDepth 100000 in
def p33x_1670 : ck_Sum := ((1, 0, 0), 245, [.inr (.inr (.inl 226)), .inl (0, 14, none), .inl (ck_one 0), .inl (ck_one 0)], ([], [], [(227, 2, 9, ck_one 0)]), ([], []), [(.inr (some (.inl (ck_one 0))), 245, ([], [], []))])
set_option maxRecDepth 100000 in
theorem p33x_1670_e : ck_ok p1_O none [] [(255, [p33x_179])] 334 [(6, [some (.inr (.inr (.inl 226))), some (.inl (0, 14, none)), some (.inl (ck_one 0)), some (.inl (ck_one 0)), some (.inl (ck_one 0)), some (.inl (ck_one 0))], ([], [], [(227, 2, 9, ck_one 0)]), 100, .inl 4, true)] 114 p33x_1670 = true := by decide +kernel
theorem p33x_1670_s {X : Int → Int} {LX : Nat} : ck_Ok p1_O X LX 334 p33x_1670 := ck_ok_s (ck_E1 (ck_S1 p33x_179_s ck_S0) ck_E0) ck_X0 ck_l0 p33x_1670_e
set_option maxRecDepth 100000 in
def p33x_1671 : ck_Sum := ((1, 0, 0), 245, [.inr (.inr (.inl 226)), .inl (0, 14, none), .inl (1, 2, none), .inl (ck_one 0)], ([], [], [(227, 2, 9, ck_one 0)]), ([], []), [(.inr (some (.inl (ck_one 0))), 245, ([], [], []))])
set_option maxRecDepth 100000 in
theorem p33x_1671_e : ck_ok p1_O none [] [(255, [p33x_179])] 334 [(6, [some (.inr (.inr (.inl 226))), some (.inl (0, 14, none)), some (.inl (1, 2, none)), some (.inl (ck_one 0)), some (.inl (ck_one 0)), some (.inl (ck_one 0))], ([], [], [(227, 2, 9, ck_one 0)]), 100, .inl 4, true)] 114 p33x_1671 = true := by decide +kernel
theorem p33x_1671_s {X : Int → Int} {LX : Nat} : ck_Ok p1_O X LX 334 p33x_1671 := ck_ok_s (ck_E1 (ck_S1 p33x_179_s ck_S0) ck_E0) ck_X0 ck_l0 p33x_1671_e
set_option maxRecDepth 100000 in
def p33x_1672 : ck_Sum := ((2, 0, 0), 245, [.inr (.inr (.inl 226)), .inl (ck_one 16)], ([], [], [(227, 0, 0, ck_one 3), (244, 0, 5, ck_one 0), (243, 0, 5, ck_one 0), (227, 2, 9, ck_one 0)]), ([(243, 0, 5), (244, 0, 2)], []), [(.inr none, 245, ([], [], [(244, 0, 5, ck_one 0), (243, 0, 5, ck_one 0)]))])
set_option maxRecDepth 100000 in
theorem p33x_1672_e : ck_ok p1_O none [] [(333, [p33x_180]), (267, [p33x_181]), (262, [p33x_182]), (334, [p33x_1642, p33x_1670, p33x_1671])] 359 [(6, [some (.inr (.inr (.inl 226))), some (.inl (ck_one 16)), some (.inl (0, 6, none)), none, none], ([], [], [(227, 0, 0, ck_one 3), (244, 0, 5, ck_one 0), (243, 0, 5, ck_one 0), (227, 2, 9, ck_one 0)]), 100, .inl 2, true), (34, [some (.inr (.inr (.inl 226))), some (.inl (ck_one 16)), some (.inl ((-1), 15, none)), none, none], ([], [], [(227, 0, 0, ck_one 3), (244, 0, 5, ck_one 0), (243, 0, 5, ck_one 0), (227, 2, 9, ck_one 0)]), 300, .inl 2, false), (44, [some (.inr (.inr (.inl 226))), some (.inl (ck_one 16)), some (.inl (0, 15, some (300, 0))), some (.inl (0, 3, none)), none], ([], [], [(227, 0, 0, ck_one 3), (244, 0, 5, ck_one 0), (243, 0, 5, ck_one 0), (227, 2, 9, ck_one 0)]), 500, .inl 3, true), (152, [some (.inr (.inr (.inl 226))), some (.inl (ck_one 16)), some (.inl (0, 15, some (300, 0))), some (.inl (0, 3, none)), none], ([], [], [(227, 0, 0, ck_one 3), (244, 0, 5, ck_one 0), (243, 0, 5, ck_one 0), (227, 2, 9, ck_one 0)]), 700, .inl 3, true)] 800 p33x_1672 = true := by decide +kernel
theorem p33x_1672_s {X : Int → Int} {LX : Nat} : ck_Ok p1_O X LX 359 p33x_1672 := ck_ok_s (ck_E1 (ck_S1 p33x_180_s ck_S0) (ck_E1 (ck_S1 p33x_181_s ck_S0) (ck_E1 (ck_S1 p33x_182_s ck_S0) (ck_E1 (ck_S1 p33x_1642_s (ck_S1 p33x_1670_s (ck_S1 p33x_1671_s ck_S0))) ck_E0)))) ck_X0 ck_l0 p33x_1672_e
set_option maxRecDepth 100000 in
def p33x_1673 : ck_Sum := ((3, 0, 0), 245, [.inr (.inr (.inl 226)), .inl (ck_one 16), .inl (ck_one 1)], ([], [], [(227, 0, 0, ck_one 3), (244, 0, 5, ck_one 0), (243, 0, 5, ck_one 0), (227, 2, 9, ck_one 0), (226, 0, 0, ck_one 0)]), ([(226, 0, 0), (243, 0, 5), (244, 0, 2)], []), [(.inr (some (.inl (ck_one 0))), 245, ([], [], [(226, 0, 0, ck_one 0), (244, 0, 5, ck_one 0), (243, 0, 5, ck_one 0)]))])
set_option maxRecDepth 100000 in
theorem p33x_1673_e : ck_ok p1_O none [] [(287, [p33x_1639]), (283, [p33x_178]), (359, [p33x_1672]), (262, [p33x_182])] 358 [(40, [some (.inr (.inr (.inl 226))), some (.inl (ck_one 16)), some (.inl (ck_one 1)), some (.inl (ck_one 0)), some (.inl (1, 3, none))], ([], [], [(244, 0, 5, ck_one 0), (243, 0, 5, ck_one 0), (226, 0, 0, ck_one 0), (227, 0, 0, ck_one 3), (244, 3, 5, ck_one 0), (227, 2, 9, ck_one 0)]), 100, .inl 4, true)] 174 p33x_1673 = true := by decide +kernel
theorem p33x_1673_s {X : Int → Int} {LX : Nat} : ck_Ok p1_O X LX 358 p33x_1673 := ck_ok_s (ck_E1 (ck_S1 p33x_1639_s ck_S0) (ck_E1 (ck_S1 p33x_178_s ck_S0) (ck_E1 (ck_S1 p33x_1672_s ck_S0) (ck_E1 (ck_S1 p33x_182_s ck_S0) ck_E0)))) ck_X0 ck_l0 p33x_1673_e
set_option maxRecDepth 100000 in
def p33x_1676 : ck_Sum := ((3, 0, 0), 245, [.inr (.inr (.inl 226)), .inl (ck_one 16), .inl (ck_one 0)], ([], [], [(227, 0, 0, ck_one 3), (244, 0, 5, ck_one 0), (243, 0, 5, ck_one 0), (227, 2, 9, ck_one 0), (226, 0, 0, ck_one 0)]), ([(226, 0, 0), (243, 0, 5), (244, 0, 2)], []), [(.inr (some (.inl (ck_one 0))), 245, ([], [], [(226, 0, 0, ck_one 0), (244, 0, 5, ck_one 0), (243, 0, 5, ck_one 0)]))])
set_option maxRecDepth 100000 in
theorem p33x_1676_e : ck_ok p1_O none [] [(287, [p33x_1639]), (283, [p33x_178]), (359, [p33x_1672]), (262, [p33x_182])] 358 [(40, [some (.inr (.inr (.inl 226))), some (.inl (ck_one 16)), some (.inl (ck_one 0)), some (.inl (ck_one 0)), some (.inl (1, 3, none))], ([], [], [(244, 0, 5, ck_one 0), (243, 0, 5, ck_one 0), (226, 0, 0, ck_one 0), (227, 0, 0, ck_one 3), (244, 3, 5, ck_one 0), (227, 2, 9, ck_one 0)]), 100, .inl 4, true)] 174 p33x_1676 = true := by decide +kernel
theorem p33x_1676_s {X : Int → Int} {LX : Nat} : ck_Ok p1_O X LX 358 p33x_1676 := ck_ok_s (ck_E1 (ck_S1 p33x_1639_s ck_S0) (ck_E1 (ck_S1 p33x_178_s ck_S0) (ck_E1 (ck_S1 p33x_1672_s ck_S0) (ck_E1 (ck_S1 p33x_182_s ck_S0) ck_E0)))) ck_X0 ck_l0 p33x_1676_e
set_option maxRecDepth 100000 in
def p33x_1800 : ck_Sum := ((0, 0, 0), 245, [.inl (ck_one 17), .inl (ck_one 1), .inl (ck_one 30)], ([], [], []), ([], []), [(.inr (some (.inl (ck_one 1))), 245, ([], [], []))])
set_option maxRecDepth 100000 in
theorem p33x_1800_e : ck_ok p1_O none [] [] 287 [] 88 p33x_1800 = true := by decide +kernel
theorem p33x_1800_s {X : Int → Int} {LX : Nat} : ck_Ok p1_O X LX 287 p33x_1800 := ck_ok_s (ck_E0) ck_X0 ck_l0 p33x_1800_e
set_option maxRecDepth 100000 in
def p33x_1803 : ck_Sum := ((1, 0, 0), 245, [.inr (.inr (.inl 226)), .inl (ck_one 16), .inl (0, 2, none), .inl (ck_one 0)], ([], [], [(227, 2, 9, ck_one 0)]), ([], []), [(.inr (some (.inl (ck_one 0))), 245, ([], [], []))])
set_option maxRecDepth 100000 in
theorem p33x_1803_e : ck_ok p1_O none [] [(255, [p33x_179])] 334 [(6, [some (.inr (.inr (.inl 226))), some (.inl (ck_one 16)), some (.inl (0, 2, none)), some (.inl (ck_one 0)), some (.inl (ck_one 0)), some (.inl (ck_one 0))], ([], [], [(227, 2, 9, ck_one 0)]), 100, .inl 4, true)] 114 p33x_1803 = true := by decide +kernel
theorem p33x_1803_s {X : Int → Int} {LX : Nat} : ck_Ok p1_O X LX 334 p33x_1803 := ck_ok_s (ck_E1 (ck_S1 p33x_179_s ck_S0) ck_E0) ck_X0 ck_l0 p33x_1803_e
set_option maxRecDepth 100000 in
def p33x_1833 : ck_Sum := ((1, 0, 0), 245, [.inr (.inr (.inl 226)), .inl (0, 15, none), .inl (ck_one 0), .inl (ck_one 0)], ([], [], [(227, 2, 9, ck_one 0)]), ([], []), [(.inr (some (.inl (ck_one 0))), 245, ([], [], []))])
set_option maxRecDepth 100000 in
theorem p33x_1833_e : ck_ok p1_O none [] [(255, [p33x_179])] 334 [(6, [some (.inr (.inr (.inl 226))), some (.inl (0, 15, none)), some (.inl (ck_one 0)), some (.inl (ck_one 0)), some (.inl (ck_one 0)), some (.inl (ck_one 0))], ([], [], [(227, 2, 9, ck_one 0)]), 100, .inl 4, true)] 114 p33x_1833 = true := by decide +kernel
theorem p33x_1833_s {X : Int → Int} {LX : Nat} : ck_Ok p1_O X LX 334 p33x_1833 := ck_ok_s (ck_E1 (ck_S1 p33x_179_s ck_S0) ck_E0) ck_X0 ck_l0 p33x_1833_e
set_option maxRecDepth 100000 in
def p33x_1834 : ck_Sum := ((1, 0, 0), 245, [.inr (.inr (.inl 226)), .inl (0, 15, none), .inl (1, 2, none), .inl (ck_one 0)], ([], [], [(227, 2, 9, ck_one 0)]), ([], []), [(.inr (some (.inl (ck_one 0))), 245, ([], [], []))])
set_option maxRecDepth 100000 in
theorem p33x_1834_e : ck_ok p1_O none [] [(255, [p33x_179])] 334 [(6, [some (.inr (.inr (.inl 226))), some (.inl (0, 15, none)), some (.inl (1, 2, none)), some (.inl (ck_one 0)), some (.inl (ck_one 0)), some (.inl (ck_one 0))], ([], [], [(227, 2, 9, ck_one 0)]), 100, .inl 4, true)] 114 p33x_1834 = true := by decide +kernel
theorem p33x_1834_s {X : Int → Int} {LX : Nat} : ck_Ok p1_O X LX 334 p33x_1834 := ck_ok_s (ck_E1 (ck_S1 p33x_179_s ck_S0) ck_E0) ck_X0 ck_l0 p33x_1834_e
set_option maxRecDepth 100000 in
def p33x_1835 : ck_Sum := ((2, 0, 0), 245, [.inr (.inr (.inl 226)), .inl (ck_one 17)], ([], [], [(227, 0, 0, ck_one 3), (244, 0, 5, ck_one 0), (243, 0, 5, ck_one 0), (227, 2, 9, ck_one 0)]), ([(243, 0, 5), (244, 0, 2)], []), [(.inr none, 245, ([], [], [(244, 0, 5, ck_one 0), (243, 0, 5, ck_one 0)]))])
set_option maxRecDepth 100000 in
theorem p33x_1835_e : ck_ok p1_O none [] [(333, [p33x_180]), (267, [p33x_181]), (262, [p33x_182]), (334, [p33x_1803, p33x_1833, p33x_1834])] 359 [(6, [some (.inr (.inr (.inl 226))), some (.inl (ck_one 17)), some (.inl (0, 6, none)), none, none], ([], [], [(227, 0, 0, ck_one 3), (244, 0, 5, ck_one 0), (243, 0, 5, ck_one 0), (227, 2, 9, ck_one 0)]), 100, .inl 2, true), (34, [some (.inr (.inr (.inl 226))), some (.inl (ck_one 17)), some (.inl ((-1), 16, none)), none, none], ([], [], [(227, 0, 0, ck_one 3), (244, 0, 5, ck_one 0), (243, 0, 5, ck_one 0), (227, 2, 9, ck_one 0)]), 300, .inl 2, false), (44, [some (.inr (.inr (.inl 226))), some (.inl (ck_one 17)), some (.inl (0, 16, some (300, 0))), some (.inl (0, 3, none)), none], ([], [], [(227, 0, 0, ck_one 3), (244, 0, 5, ck_one 0), (243, 0, 5, ck_one 0), (227, 2, 9, ck_one 0)]), 500, .inl 3, true), (152, [some (.inr (.inr (.inl 226))), some (.inl (ck_one 17)), some (.inl (0, 16, some (300, 0))), some (.inl (0, 3, none)), none], ([], [], [(227, 0, 0, ck_one 3), (244, 0, 5, ck_one 0), (243, 0, 5, ck_one 0), (227, 2, 9, ck_one 0)]), 700, .inl 3, true)] 800 p33x_1835 = true := by decide +kernel
theorem p33x_1835_s {X : Int → Int} {LX : Nat} : ck_Ok p1_O X LX 359 p33x_1835 := ck_ok_s (ck_E1 (ck_S1 p33x_180_s ck_S0) (ck_E1 (ck_S1 p33x_181_s ck_S0) (ck_E1 (ck_S1 p33x_182_s ck_S0) (ck_E1 (ck_S1 p33x_1803_s (ck_S1 p33x_1833_s (ck_S1 p33x_1834_s ck_S0))) ck_E0)))) ck_X0 ck_l0 p33x_1835_e
set_option maxRecDepth 100000 in
def p33x_1836 : ck_Sum := ((3, 0, 0), 245, [.inr (.inr (.inl 226)), .inl (ck_one 17), .inl (ck_one 1)], ([], [], [(227, 0, 0, ck_one 3), (244, 0, 5, ck_one 0), (243, 0, 5, ck_one 0), (227, 2, 9, ck_one 0), (226, 0, 0, ck_one 0)]), ([(226, 0, 0), (243, 0, 5), (244, 0, 2)], []), [(.inr (some (.inl (ck_one 0))), 245, ([], [], [(226, 0, 0, ck_one 0), (244, 0, 5, ck_one 0), (243, 0, 5, ck_one 0)]))])
set_option maxRecDepth 100000 in
theorem p33x_1836_e : ck_ok p1_O none [] [(287, [p33x_1800]), (283, [p33x_178]), (359, [p33x_1835]), (262, [p33x_182])] 358 [(40, [some (.inr (.inr (.inl 226))), some (.inl (ck_one 17)), some (.inl (ck_one 1)), some (.inl (ck_one 0)), some (.inl (1, 3, none))], ([], [], [(244, 0, 5, ck_one 0), (243, 0, 5, ck_one 0), (226, 0, 0, ck_one 0), (227, 0, 0, ck_one 3), (244, 3, 5, ck_one 0), (227, 2, 9, ck_one 0)]), 100, .inl 4, true)] 174 p33x_1836 = true := by decide +kernel
theorem p33x_1836_s {X : Int → Int} {LX : Nat} : ck_Ok p1_O X LX 358 p33x_1836 := ck_ok_s (ck_E1 (ck_S1 p33x_1800_s ck_S0) (ck_E1 (ck_S1 p33x_178_s ck_S0) (ck_E1 (ck_S1 p33x_1835_s ck_S0) (ck_E1 (ck_S1 p33x_182_s ck_S0) ck_E0)))) ck_X0 ck_l0 p33x_1836_e
set_option maxRecDepth 100000 in
def p33x_1839 : ck_Sum := ((3, 0, 0), 245, [.inr (.inr (.inl 226)), .inl (ck_one 17), .inl (ck_one 0)], ([], [], [(227, 0, 0, ck_one 3), (244, 0, 5, ck_one 0), (243, 0, 5, ck_one 0), (227, 2, 9, ck_one 0), (226, 0, 0, ck_one 0)]), ([(226, 0, 0), (243, 0, 5), (244, 0, 2)], []), [(.inr (some (.inl (ck_one 0))), 245, ([], [], [(226, 0, 0, ck_one 0), (244, 0, 5, ck_one 0), (243, 0, 5, ck_one 0)]))])
set_option maxRecDepth 100000 in
theorem p33x_1839_e : ck_ok p1_O none [] [(287, [p33x_1800]), (283, [p33x_178]), (359, [p33x_1835]), (262, [p33x_182])] 358 [(40, [some (.inr (.inr (.inl 226))), some (.inl (ck_one 17)), some (.inl (ck_one 0)), some (.inl (ck_one 0)), some (.inl (1, 3, none))], ([], [], [(244, 0, 5, ck_one 0), (243, 0, 5, ck_one 0), (226, 0, 0, ck_one 0), (227, 0, 0, ck_one 3), (244, 3, 5, ck_one 0), (227, 2, 9, ck_one 0)]), 100, .inl 4, true)] 174 p33x_1839 = true := by decide +kernel
theorem p33x_1839_s {X : Int → Int} {LX : Nat} : ck_Ok p1_O X LX 358 p33x_1839 := ck_ok_s (ck_E1 (ck_S1 p33x_1800_s ck_S0) (ck_E1 (ck_S1 p33x_178_s ck_S0) (ck_E1 (ck_S1 p33x_1835_s ck_S0) (ck_E1 (ck_S1 p33x_182_s ck_S0) ck_E0)))) ck_X0 ck_l0 p33x_1839_e
set_option maxRecDepth 100000 in
def p33x_1963 : ck_Sum := ((0, 0, 0), 245, [.inl (ck_one 18), .inl (ck_one 1), .inl (ck_one 30)], ([], [], []), ([], []), [(.inr (some (.inl (ck_one 1))), 245, ([], [], []))])
set_option maxRecDepth 100000 in
theorem p33x_1963_e : ck_ok p1_O none [] [] 287 [] 88 p33x_1963 = true := by decide +kernel
theorem p33x_1963_s {X : Int → Int} {LX : Nat} : ck_Ok p1_O X LX 287 p33x_1963 := ck_ok_s (ck_E0) ck_X0 ck_l0 p33x_1963_e
set_option maxRecDepth 100000 in
def p33x_1966 : ck_Sum := ((1, 0, 0), 245, [.inr (.inr (.inl 226)), .inl (ck_one 17), .inl (0, 2, none), .inl (ck_one 0)], ([], [], [(227, 2, 9, ck_one 0)]), ([], []), [(.inr (some (.inl (ck_one 0))), 245, ([], [], []))])
set_option maxRecDepth 100000 in
theorem p33x_1966_e : ck_ok p1_O none [] [(255, [p33x_179])] 334 [(6, [some (.inr (.inr (.inl 226))), some (.inl (ck_one 17)), some (.inl (0, 2, none)), some (.inl (ck_one 0)), some (.inl (ck_one 0)), some (.inl (ck_one 0))], ([], [], [(227, 2, 9, ck_one 0)]), 100, .inl 4, true)] 114 p33x_1966 = true := by decide +kernel
theorem p33x_1966_s {X : Int → Int} {LX : Nat} : ck_Ok p1_O X LX 334 p33x_1966 := ck_ok_s (ck_E1 (ck_S1 p33x_179_s ck_S0) ck_E0) ck_X0 ck_l0 p33x_1966_e
set_option maxRecDepth 100000 in
def p33x_1997 : ck_Sum := ((1, 0, 0), 245, [.inr (.inr (.inl 226)), .inl (0, 16, none), .inl (ck_one 0), .inl (ck_one 0)], ([], [], [(227, 2, 9, ck_one 0)]), ([], []), [(.inr (some (.inl (ck_one 0))), 245, ([], [], []))])
set_option maxRecDepth 100000 in
theorem p33x_1997_e : ck_ok p1_O none [] [(255, [p33x_179])] 334 [(6, [some (.inr (.inr (.inl 226))), some (.inl (0, 16, none)), some (.inl (ck_one 0)), some (.inl (ck_one 0)), some (.inl (ck_one 0)), some (.inl (ck_one 0))], ([], [], [(227, 2, 9, ck_one 0)]), 100, .inl 4, true)] 114 p33x_1997 = true := by decide +kernel
theorem p33x_1997_s {X : Int → Int} {LX : Nat} : ck_Ok p1_O X LX 334 p33x_1997 := ck_ok_s (ck_E1 (ck_S1 p33x_179_s ck_S0) ck_E0) ck_X0 ck_l0 p33x_1997_e
set_option maxRecDepth 100000 in
def p33x_1998 : ck_Sum := ((1, 0, 0), 245, [.inr (.inr (.inl 226)), .inl (0, 16, none), .inl (1, 2, none), .inl (ck_one 0)], ([], [], [(227, 2, 9, ck_one 0)]), ([], []), [(.inr (some (.inl (ck_one 0))), 245, ([], [], []))])
set_option maxRecDepth 100000 in
theorem p33x_1998_e : ck_ok p1_O none [] [(255, [p33x_179])] 334 [(6, [some (.inr (.inr (.inl 226))), some (.inl (0, 16, none)), some (.inl (1, 2, none)), some (.inl (ck_one 0)), some (.inl (ck_one 0)), some (.inl (ck_one 0))], ([], [], [(227, 2, 9, ck_one 0)]), 100, .inl 4, true)] 114 p33x_1998 = true := by decide +kernel
theorem p33x_1998_s {X : Int → Int} {LX : Nat} : ck_Ok p1_O X LX 334 p33x_1998 := ck_ok_s (ck_E1 (ck_S1 p33x_179_s ck_S0) ck_E0) ck_X0 ck_l0 p33x_1998_e
set_option maxRecDepth 100000 in
def p33x_1999 : ck_Sum := ((2, 0, 0), 245, [.inr (.inr (.inl 226)), .inl (ck_one 18)], ([], [], [(227, 0, 0, ck_one 3), (244, 0, 5, ck_one 0), (243, 0, 5, ck_one 0), (227, 2, 9, ck_one 0)]), ([(243, 0, 5), (244, 0, 2)], []), [(.inr none, 245, ([], [], [(244, 0, 5, ck_one 0), (243, 0, 5, ck_one 0)]))])
set_option maxRecDepth 100000 in
theorem p33x_1999_e : ck_ok p1_O none [] [(333, [p33x_180]), (267, [p33x_181]), (262, [p33x_182]), (334, [p33x_1966, p33x_1997, p33x_1998])] 359 [(6, [some (.inr (.inr (.inl 226))), some (.inl (ck_one 18)), some (.inl (0, 6, none)), none, none], ([], [], [(227, 0, 0, ck_one 3), (244, 0, 5, ck_one 0), (243, 0, 5, ck_one 0), (227, 2, 9, ck_one 0)]), 100, .inl 2, true), (34, [some (.inr (.inr (.inl 226))), some (.inl (ck_one 18)), some (.inl ((-1), 17, none)), none, none], ([], [], [(227, 0, 0, ck_one 3), (244, 0, 5, ck_one 0), (243, 0, 5, ck_one 0), (227, 2, 9, ck_one 0)]), 300, .inl 2, false), (44, [some (.inr (.inr (.inl 226))), some (.inl (ck_one 18)), some (.inl (0, 17, some (300, 0))), some (.inl (0, 3, none)), none], ([], [], [(227, 0, 0, ck_one 3), (244, 0, 5, ck_one 0), (243, 0, 5, ck_one 0), (227, 2, 9, ck_one 0)]), 500, .inl 3, true), (152, [some (.inr (.inr (.inl 226))), some (.inl (ck_one 18)), some (.inl (0, 17, some (300, 0))), some (.inl (0, 3, none)), none], ([], [], [(227, 0, 0, ck_one 3), (244, 0, 5, ck_one 0), (243, 0, 5, ck_one 0), (227, 2, 9, ck_one 0)]), 700, .inl 3, true)] 800 p33x_1999 = true := by decide +kernel
theorem p33x_1999_s {X : Int → Int} {LX : Nat} : ck_Ok p1_O X LX 359 p33x_1999 := ck_ok_s (ck_E1 (ck_S1 p33x_180_s ck_S0) (ck_E1 (ck_S1 p33x_181_s ck_S0) (ck_E1 (ck_S1 p33x_182_s ck_S0) (ck_E1 (ck_S1 p33x_1966_s (ck_S1 p33x_1997_s (ck_S1 p33x_1998_s ck_S0))) ck_E0)))) ck_X0 ck_l0 p33x_1999_e
set_option maxRecDepth 100000 in
def p33x_2000 : ck_Sum := ((3, 0, 0), 245, [.inr (.inr (.inl 226)), .inl (ck_one 18), .inl (ck_one 1)], ([], [], [(227, 0, 0, ck_one 3), (244, 0, 5, ck_one 0), (243, 0, 5, ck_one 0), (227, 2, 9, ck_one 0), (226, 0, 0, ck_one 0)]), ([(226, 0, 0), (243, 0, 5), (244, 0, 2)], []), [(.inr (some (.inl (ck_one 0))), 245, ([], [], [(226, 0, 0, ck_one 0), (244, 0, 5, ck_one 0), (243, 0, 5, ck_one 0)]))])
set_option maxRecDepth 100000 in
theorem p33x_2000_e : ck_ok p1_O none [] [(287, [p33x_1963]), (283, [p33x_178]), (359, [p33x_1999]), (262, [p33x_182])] 358 [(40, [some (.inr (.inr (.inl 226))), some (.inl (ck_one 18)), some (.inl (ck_one 1)), some (.inl (ck_one 0)), some (.inl (1, 3, none))], ([], [], [(244, 0, 5, ck_one 0), (243, 0, 5, ck_one 0), (226, 0, 0, ck_one 0), (227, 0, 0, ck_one 3), (244, 3, 5, ck_one 0), (227, 2, 9, ck_one 0)]), 100, .inl 4, true)] 174 p33x_2000 = true := by decide +kernel
theorem p33x_2000_s {X : Int → Int} {LX : Nat} : ck_Ok p1_O X LX 358 p33x_2000 := ck_ok_s (ck_E1 (ck_S1 p33x_1963_s ck_S0) (ck_E1 (ck_S1 p33x_178_s ck_S0) (ck_E1 (ck_S1 p33x_1999_s ck_S0) (ck_E1 (ck_S1 p33x_182_s ck_S0) ck_E0)))) ck_X0 ck_l0 p33x_2000_e
set_option maxRecDepth 100000 in
def p33x_2003 : ck_Sum := ((3, 0, 0), 245, [.inr (.inr (.inl 226)), .inl (ck_one 18), .inl (ck_one 0)], ([], [], [(227, 0, 0, ck_one 3), (244, 0, 5, ck_one 0), (243, 0, 5, ck_one 0), (227, 2, 9, ck_one 0), (226, 0, 0, ck_one 0)]), ([(226, 0, 0), (243, 0, 5), (244, 0, 2)], []), [(.inr (some (.inl (ck_one 0))), 245, ([], [], [(226, 0, 0, ck_one 0), (244, 0, 5, ck_one 0), (243, 0, 5, ck_one 0)]))])
set_option maxRecDepth 100000 in
theorem p33x_2003_e : ck_ok p1_O none [] [(287, [p33x_1963]), (283, [p33x_178]), (359, [p33x_1999]), (262, [p33x_182])] 358 [(40, [some (.inr (.inr (.inl 226))), some (.inl (ck_one 18)), some (.inl (ck_one 0)), some (.inl (ck_one 0)), some (.inl (1, 3, none))], ([], [], [(244, 0, 5, ck_one 0), (243, 0, 5, ck_one 0), (226, 0, 0, ck_one 0), (227, 0, 0, ck_one 3), (244, 3, 5, ck_one 0), (227, 2, 9, ck_one 0)]), 100, .inl 4, true)] 174 p33x_2003 = true := by decide +kernel
theorem p33x_2003_s {X : Int → Int} {LX : Nat} : ck_Ok p1_O X LX 358 p33x_2003 := ck_ok_s (ck_E1 (ck_S1 p33x_1963_s ck_S0) (ck_E1 (ck_S1 p33x_178_s ck_S0) (ck_E1 (ck_S1 p33x_1999_s ck_S0) (ck_E1 (ck_S1 p33x_182_s ck_S0) ck_E0)))) ck_X0 ck_l0 p33x_2003_e
set_option maxRecDepth 100000 in
def p33x_2127 : ck_Sum := ((0, 0, 0), 245, [.inl (ck_one 19), .inl (ck_one 1), .inl (ck_one 30)], ([], [], []), ([], []), [(.inr (some (.inl (ck_one 1))), 245, ([], [], []))])
set_option maxRecDepth 100000 in
theorem p33x_2127_e : ck_ok p1_O none [] [] 287 [] 88 p33x_2127 = true := by decide +kernel
theorem p33x_2127_s {X : Int → Int} {LX : Nat} : ck_Ok p1_O X LX 287 p33x_2127 := ck_ok_s (ck_E0) ck_X0 ck_l0 p33x_2127_e
set_option maxRecDepth 100000 in
def p33x_2130 : ck_Sum := ((1, 0, 0), 245, [.inr (.inr (.inl 226)), .inl (ck_one 18), .inl (0, 2, none), .inl (ck_one 0)], ([], [], [(227, 2, 9, ck_one 0)]), ([], []), [(.inr (some (.inl (ck_one 0))), 245, ([], [], []))])
set_option maxRecDepth 100000 in
theorem p33x_2130_e : ck_ok p1_O none [] [(255, [p33x_179])] 334 [(6, [some (.inr (.inr (.inl 226))), some (.inl (ck_one 18)), some (.inl (0, 2, none)), some (.inl (ck_one 0)), some (.inl (ck_one 0)), some (.inl (ck_one 0))], ([], [], [(227, 2, 9, ck_one 0)]), 100, .inl 4, true)] 114 p33x_2130 = true := by decide +kernel
theorem p33x_2130_s {X : Int → Int} {LX : Nat} : ck_Ok p1_O X LX 334 p33x_2130 := ck_ok_s (ck_E1 (ck_S1 p33x_179_s ck_S0) ck_E0) ck_X0 ck_l0 p33x_2130_e
set_option maxRecDepth 100000 in
def p33x_2161 : ck_Sum := ((1, 0, 0), 245, [.inr (.inr (.inl 226)), .inl (0, 17, none), .inl (ck_one 0), .inl (ck_one 0)], ([], [], [(227, 2, 9, ck_one 0)]), ([], []), [(.inr (some (.inl (ck_one 0))), 245, ([], [], []))])
set_option maxRecDepth 100000 in
theorem p33x_2161_e : ck_ok p1_O none [] [(255, [p33x_179])] 334 [(6, [some (.inr (.inr (.inl 226))), some (.inl (0, 17, none)), some (.inl (ck_one 0)), some (.inl (ck_one 0)), some (.inl (ck_one 0)), some (.inl (ck_one 0))], ([], [], [(227, 2, 9, ck_one 0)]), 100, .inl 4, true)] 114 p33x_2161 = true := by decide +kernel
theorem p33x_2161_s {X : Int → Int} {LX : Nat} : ck_Ok p1_O X LX 334 p33x_2161 := ck_ok_s (ck_E1 (ck_S1 p33x_179_s ck_S0) ck_E0) ck_X0 ck_l0 p33x_2161_e
set_option maxRecDepth 100000 in
def p33x_2162 : ck_Sum := ((1, 0, 0), 245, [.inr (.inr (.inl 226)), .inl (0, 17, none), .inl (1, 2, none), .inl (ck_one 0)], ([], [], [(227, 2, 9, ck_one 0)]), ([], []), [(.inr (some (.inl (ck_one 0))), 245, ([], [], []))])
set_option maxRecDepth 100000 in
theorem p33x_2162_e : ck_ok p1_O none [] [(255, [p33x_179])] 334 [(6, [some (.inr (.inr (.inl 226))), some (.inl (0, 17, none)), some (.inl (1, 2, none)), some (.inl (ck_one 0)), some (.inl (ck_one 0)), some (.inl (ck_one 0))], ([], [], [(227, 2, 9, ck_one 0)]), 100, .inl 4, true)] 114 p33x_2162 = true := by decide +kernel
theorem p33x_2162_s {X : Int → Int} {LX : Nat} : ck_Ok p1_O X LX 334 p33x_2162 := ck_ok_s (ck_E1 (ck_S1 p33x_179_s ck_S0) ck_E0) ck_X0 ck_l0 p33x_2162_e
set_option maxRecDepth 100000 in
def p33x_2163 : ck_Sum := ((2, 0, 0), 245, [.inr (.inr (.inl 226)), .inl (ck_one 19)], ([], [], [(227, 0, 0, ck_one 3), (244, 0, 5, ck_one 0), (243, 0, 5, ck_one 0), (227, 2, 9, ck_one 0)]), ([(243, 0, 5), (244, 0, 2)], []), [(.inr none, 245, ([], [], [(244, 0, 5, ck_one 0), (243, 0, 5, ck_one 0)]))])
set_option maxRecDepth 100000 in
theorem p33x_2163_e : ck_ok p1_O none [] [(333, [p33x_180]), (267, [p33x_181]), (262, [p33x_182]), (334, [p33x_2130, p33x_2161, p33x_2162])] 359 [(6, [some (.inr (.inr (.inl 226))), some (.inl (ck_one 19)), some (.inl (0, 6, none)), none, none], ([], [], [(227, 0, 0, ck_one 3), (244, 0, 5, ck_one 0), (243, 0, 5, ck_one 0), (227, 2, 9, ck_one 0)]), 100, .inl 2, true), (34, [some (.inr (.inr (.inl 226))), some (.inl (ck_one 19)), some (.inl ((-1), 18, none)), none, none], ([], [], [(227, 0, 0, ck_one 3), (244, 0, 5, ck_one 0), (243, 0, 5, ck_one 0), (227, 2, 9, ck_one 0)]), 300, .inl 2, false), (44, [some (.inr (.inr (.inl 226))), some (.inl (ck_one 19)), some (.inl (0, 18, some (300, 0))), some (.inl (0, 3, none)), none], ([], [], [(227, 0, 0, ck_one 3), (244, 0, 5, ck_one 0), (243, 0, 5, ck_one 0), (227, 2, 9, ck_one 0)]), 500, .inl 3, true), (152, [some (.inr (.inr (.inl 226))), some (.inl (ck_one 19)), some (.inl (0, 18, some (300, 0))), some (.inl (0, 3, none)), none], ([], [], [(227, 0, 0, ck_one 3), (244, 0, 5, ck_one 0), (243, 0, 5, ck_one 0), (227, 2, 9, ck_one 0)]), 700, .inl 3, true)] 800 p33x_2163 = true := by decide +kernel
theorem p33x_2163_s {X : Int → Int} {LX : Nat} : ck_Ok p1_O X LX 359 p33x_2163 := ck_ok_s (ck_E1 (ck_S1 p33x_180_s ck_S0) (ck_E1 (ck_S1 p33x_181_s ck_S0) (ck_E1 (ck_S1 p33x_182_s ck_S0) (ck_E1 (ck_S1 p33x_2130_s (ck_S1 p33x_2161_s (ck_S1 p33x_2162_s ck_S0))) ck_E0)))) ck_X0 ck_l0 p33x_2163_e
set_option maxRecDepth 100000 in
def p33x_2164 : ck_Sum := ((3, 0, 0), 245, [.inr (.inr (.inl 226)), .inl (ck_one 19), .inl (ck_one 1)], ([], [], [(227, 0, 0, ck_one 3), (244, 0, 5, ck_one 0), (243, 0, 5, ck_one 0), (227, 2, 9, ck_one 0), (226, 0, 0, ck_one 0)]), ([(226, 0, 0), (243, 0, 5), (244, 0, 2)], []), [(.inr (some (.inl (ck_one 0))), 245, ([], [], [(226, 0, 0, ck_one 0), (244, 0, 5, ck_one 0), (243, 0, 5, ck_one 0)]))])
set_option maxRecDepth 100000 in
theorem p33x_2164_e : ck_ok p1_O none [] [(287, [p33x_2127]), (283, [p33x_178]), (359, [p33x_2163]), (262, [p33x_182])] 358 [(40, [some (.inr (.inr (.inl 226))), some (.inl (ck_one 19)), some (.inl (ck_one 1)), some (.inl (ck_one 0)), some (.inl (1, 3, none))], ([], [], [(244, 0, 5, ck_one 0), (243, 0, 5, ck_one 0), (226, 0, 0, ck_one 0), (227, 0, 0, ck_one 3), (244, 3, 5, ck_one 0), (227, 2, 9, ck_one 0)]), 100, .inl 4, true)] 174 p33x_2164 = true := by decide +kernel
theorem p33x_2164_s {X : Int → Int} {LX : Nat} : ck_Ok p1_O X LX 358 p33x_2164 := ck_ok_s (ck_E1 (ck_S1 p33x_2127_s ck_S0) (ck_E1 (ck_S1 p33x_178_s ck_S0) (ck_E1 (ck_S1 p33x_2163_s ck_S0) (ck_E1 (ck_S1 p33x_182_s ck_S0) ck_E0)))) ck_X0 ck_l0 p33x_2164_e
set_option maxRecDepth 100000 in
def p33x_2167 : ck_Sum := ((3, 0, 0), 245, [.inr (.inr (.inl 226)), .inl (ck_one 19), .inl (ck_one 0)], ([], [], [(227, 0, 0, ck_one 3), (244, 0, 5, ck_one 0), (243, 0, 5, ck_one 0), (227, 2, 9, ck_one 0), (226, 0, 0, ck_one 0)]), ([(226, 0, 0), (243, 0, 5), (244, 0, 2)], []), [(.inr (some (.inl (ck_one 0))), 245, ([], [], [(226, 0, 0, ck_one 0), (244, 0, 5, ck_one 0), (243, 0, 5, ck_one 0)]))])
set_option maxRecDepth 100000 in
theorem p33x_2167_e : ck_ok p1_O none [] [(287, [p33x_2127]), (283, [p33x_178]), (359, [p33x_2163]), (262, [p33x_182])] 358 [(40, [some (.inr (.inr (.inl 226))), some (.inl (ck_one 19)), some (.inl (ck_one 0)), some (.inl (ck_one 0)), some (.inl (1, 3, none))], ([], [], [(244, 0, 5, ck_one 0), (243, 0, 5, ck_one 0), (226, 0, 0, ck_one 0), (227, 0, 0, ck_one 3), (244, 3, 5, ck_one 0), (227, 2, 9, ck_one 0)]), 100, .inl 4, true)] 174 p33x_2167 = true := by decide +kernel
theorem p33x_2167_s {X : Int → Int} {LX : Nat} : ck_Ok p1_O X LX 358 p33x_2167 := ck_ok_s (ck_E1 (ck_S1 p33x_2127_s ck_S0) (ck_E1 (ck_S1 p33x_178_s ck_S0) (ck_E1 (ck_S1 p33x_2163_s ck_S0) (ck_E1 (ck_S1 p33x_182_s ck_S0) ck_E0)))) ck_X0 ck_l0 p33x_2167_e
set_option maxRecDepth 100000 in
def p33x_2291 : ck_Sum := ((0, 0, 0), 245, [.inl (ck_one 20), .inl (ck_one 1), .inl (ck_one 30)], ([], [], []), ([], []), [(.inr (some (.inl (ck_one 1))), 245, ([], [], []))])
set_option maxRecDepth 100000 in
theorem p33x_2291_e : ck_ok p1_O none [] [] 287 [] 88 p33x_2291 = true := by decide +kernel
theorem p33x_2291_s {X : Int → Int} {LX : Nat} : ck_Ok p1_O X LX 287 p33x_2291 := ck_ok_s (ck_E0) ck_X0 ck_l0 p33x_2291_e
set_option maxRecDepth 100000 in
def p33x_2294 : ck_Sum := ((1, 0, 0), 245, [.inr (.inr (.inl 226)), .inl (ck_one 19), .inl (0, 2, none), .inl (ck_one 0)], ([], [], [(227, 2, 9, ck_one 0)]), ([], []), [(.inr (some (.inl (ck_one 0))), 245, ([], [], []))])
set_option maxRecDepth 100000 in
theorem p33x_2294_e : ck_ok p1_O none [] [(255, [p33x_179])] 334 [(6, [some (.inr (.inr (.inl 226))), some (.inl (ck_one 19)), some (.inl (0, 2, none)), some (.inl (ck_one 0)), some (.inl (ck_one 0)), some (.inl (ck_one 0))], ([], [], [(227, 2, 9, ck_one 0)]), 100, .inl 4, true)] 114 p33x_2294 = true := by decide +kernel
theorem p33x_2294_s {X : Int → Int} {LX : Nat} : ck_Ok p1_O X LX 334 p33x_2294 := ck_ok_s (ck_E1 (ck_S1 p33x_179_s ck_S0) ck_E0) ck_X0 ck_l0 p33x_2294_e
set_option maxRecDepth 100000 in
def p33x_2325 : ck_Sum := ((1, 0, 0), 245, [.inr (.inr (.inl 226)), .inl (0, 18, none), .inl (ck_one 0), .inl (ck_one 0)], ([], [], [(227, 2, 9, ck_one 0)]), ([], []), [(.inr (some (.inl (ck_one 0))), 245, ([], [], []))])
set_option maxRecDepth 100000 in
theorem p33x_2325_e : ck_ok p1_O none [] [(255, [p33x_179])] 334 [(6, [some (.inr (.inr (.inl 226))), some (.inl (0, 18, none)), some (.inl (ck_one 0)), some (.inl (ck_one 0)), some (.inl (ck_one 0)), some (.inl (ck_one 0))], ([], [], [(227, 2, 9, ck_one 0)]), 100, .inl 4, true)] 114 p33x_2325 = true := by decide +kernel
theorem p33x_2325_s {X : Int → Int} {LX : Nat} : ck_Ok p1_O X LX 334 p33x_2325 := ck_ok_s (ck_E1 (ck_S1 p33x_179_s ck_S0) ck_E0) ck_X0 ck_l0 p33x_2325_e
set_option maxRecDepth 100000 in
def p33x_2326 : ck_Sum := ((1, 0, 0), 245, [.inr (.inr (.inl 226)), .inl (0, 18, none), .inl (1, 2, none), .inl (ck_one 0)], ([], [], [(227, 2, 9, ck_one 0)]), ([], []), [(.inr (some (.inl (ck_one 0))), 245, ([], [], []))])
set_option maxRecDepth 100000 in
theorem p33x_2326_e : ck_ok p1_O none [] [(255, [p33x_179])] 334 [(6, [some (.inr (.inr (.inl 226))), some (.inl (0, 18, none)), some (.inl (1, 2, none)), some (.inl (ck_one 0)), some (.inl (ck_one 0)), some (.inl (ck_one 0))], ([], [], [(227, 2, 9, ck_one 0)]), 100, .inl 4, true)] 114 p33x_2326 = true := by decide +kernel
theorem p33x_2326_s {X : Int → Int} {LX : Nat} : ck_Ok p1_O X LX 334 p33x_2326 := ck_ok_s (ck_E1 (ck_S1 p33x_179_s ck_S0) ck_E0) ck_X0 ck_l0 p33x_2326_e
set_option maxRecDepth 100000 in
def p33x_2327 : ck_Sum := ((2, 0, 0), 245, [.inr (.inr (.inl 226)), .inl (ck_one 20)], ([], [], [(227, 0, 0, ck_one 3), (244, 0, 5, ck_one 0), (243, 0, 5, ck_one 0), (227, 2, 9, ck_one 0)]), ([(243, 0, 5), (244, 0, 2)], []), [(.inr none, 245, ([], [], [(244, 0, 5, ck_one 0), (243, 0, 5, ck_one 0)]))])
set_option maxRecDepth 100000 in
theorem p33x_2327_e : ck_ok p1_O none [] [(333, [p33x_180]), (267, [p33x_181]), (262, [p33x_182]), (334, [p33x_2294, p33x_2325, p33x_2326])] 359 [(6, [some (.inr (.inr (.inl 226))), some (.inl (ck_one 20)), some (.inl (0, 6, none)), none, none], ([], [], [(227, 0, 0, ck_one 3), (244, 0, 5, ck_one 0), (243, 0, 5, ck_one 0), (227, 2, 9, ck_one 0)]), 100, .inl 2, true), (34, [some (.inr (.inr (.inl 226))), some (.inl (ck_one 20)), some (.inl ((-1), 19, none)), none, none], ([], [], [(227, 0, 0, ck_one 3), (244, 0, 5, ck_one 0), (243, 0, 5, ck_one 0), (227, 2, 9, ck_one 0)]), 300, .inl 2, false), (44, [some (.inr (.inr (.inl 226))), some (.inl (ck_one 20)), some (.inl (0, 19, some (300, 0))), some (.inl (0, 3, none)), none], ([], [], [(227, 0, 0, ck_one 3), (244, 0, 5, ck_one 0), (243, 0, 5, ck_one 0), (227, 2, 9, ck_one 0)]), 500, .inl 3, true), (152, [some (.inr (.inr (.inl 226))), some (.inl (ck_one 20)), some (.inl (0, 19, some (300, 0))), some (.inl (0, 3, none)), none], ([], [], [(227, 0, 0, ck_one 3), (244, 0, 5, ck_one 0), (243, 0, 5, ck_one 0), (227, 2, 9, ck_one 0)]), 700, .inl 3, true)] 800 p33x_2327 = true := by decide +kernel
theorem p33x_2327_s {X : Int → Int} {LX : Nat} : ck_Ok p1_O X LX 359 p33x_2327 := ck_ok_s (ck_E1 (ck_S1 p33x_180_s ck_S0) (ck_E1 (ck_S1 p33x_181_s ck_S0) (ck_E1 (ck_S1 p33x_182_s ck_S0) (ck_E1 (ck_S1 p33x_2294_s (ck_S1 p33x_2325_s (ck_S1 p33x_2326_s ck_S0))) ck_E0)))) ck_X0 ck_l0 p33x_2327_e
set_option maxRecDepth 100000 in
def p33x_2328 : ck_Sum := ((3, 0, 0), 245, [.inr (.inr (.inl 226)), .inl (ck_one 20), .inl (ck_one 1)], ([], [], [(227, 0, 0, ck_one 3), (244, 0, 5, ck_one 0), (243, 0, 5, ck_one 0), (227, 2, 9, ck_one 0), (226, 0, 0, ck_one 0)]), ([(226, 0, 0), (243, 0, 5), (244, 0, 2)], []), [(.inr (some (.inl (ck_one 0))), 245, ([], [], [(226, 0, 0, ck_one 0), (244, 0, 5, ck_one 0), (243, 0, 5, ck_one 0)]))])
set_option maxRecDepth 100000 in
theorem p33x_2328_e : ck_ok p1_O none [] [(287, [p33x_2291]), (283, [p33x_178]), (359, [p33x_2327]), (262, [p33x_182])] 358 [(40, [some (.inr (.inr (.inl 226))), some (.inl (ck_one 20)), some (.inl (ck_one 1)), some (.inl (ck_one 0)), some (.inl (1, 3, none))], ([], [], [(244, 0, 5, ck_one 0), (243, 0, 5, ck_one 0), (226, 0, 0, ck_one 0), (227, 0, 0, ck_one 3), (244, 3, 5, ck_one 0), (227, 2, 9, ck_one 0)]), 100, .inl 4, true)] 174 p33x_2328 = true := by decide +kernel
theorem p33x_2328_s {X : Int → Int} {LX : Nat} : ck_Ok p1_O X LX 358 p33x_2328 := ck_ok_s (ck_E1 (ck_S1 p33x_2291_s ck_S0) (ck_E1 (ck_S1 p33x_178_s ck_S0) (ck_E1 (ck_S1 p33x_2327_s ck_S0) (ck_E1 (ck_S1 p33x_182_s ck_S0) ck_E0)))) ck_X0 ck_l0 p33x_2328_e
set_option maxRecDepth 100000 in
def p33x_2331 : ck_Sum := ((3, 0, 0), 245, [.inr (.inr (.inl 226)), .inl (ck_one 20), .inl (ck_one 0)], ([], [], [(227, 0, 0, ck_one 3), (244, 0, 5, ck_one 0), (243, 0, 5, ck_one 0), (227, 2, 9, ck_one 0), (226, 0, 0, ck_one 0)]), ([(226, 0, 0), (243, 0, 5), (244, 0, 2)], []), [(.inr (some (.inl (ck_one 0))), 245, ([], [], [(226, 0, 0, ck_one 0), (244, 0, 5, ck_one 0), (243, 0, 5, ck_one 0)]))])
set_option maxRecDepth 100000 in
theorem p33x_2331_e : ck_ok p1_O none [] [(287, [p33x_2291]), (283, [p33x_178]), (359, [p33x_2327]), (262, [p33x_182])] 358 [(40, [some (.inr (.inr (.inl 226))), some (.inl (ck_one 20)), some (.inl (ck_one 0)), some (.inl (ck_one 0)), some (.inl (1, 3, none))], ([], [], [(244, 0, 5, ck_one 0), (243, 0, 5, ck_one 0), (226, 0, 0, ck_one 0), (227, 0, 0, ck_one 3), (244, 3, 5, ck_one 0), (227, 2, 9, ck_one 0)]), 100, .inl 4, true)] 174 p33x_2331 = true := by decide +kernel
theorem p33x_2331_s {X : Int → Int} {LX : Nat} : ck_Ok p1_O X LX 358 p33x_2331 := ck_ok_s (ck_E1 (ck_S1 p33x_2291_s ck_S0) (ck_E1 (ck_S1 p33x_178_s ck_S0) (ck_E1 (ck_S1 p33x_2327_s ck_S0) (ck_E1 (ck_S1 p33x_182_s ck_S0) ck_E0)))) ck_X0 ck_l0 p33x_2331_e
set_option maxRecDepth 100000 in
def p33x_2455 : ck_Sum := ((0, 0, 0), 245, [.inl (ck_one 21), .inl (ck_one 1), .inl (ck_one 30)], ([], [], []), ([], []), [(.inr (some (.inl (ck_one 1))), 245, ([], [], []))])
set_option maxRecDepth 100000 in
theorem p33x_2455_e : ck_ok p1_O none [] [] 287 [] 88 p33x_2455 = true := by decide +kernel
theorem p33x_2455_s {X : Int → Int} {LX : Nat} : ck_Ok p1_O X LX 287 p33x_2455 := ck_ok_s (ck_E0) ck_X0 ck_l0 p33x_2455_e
set_option maxRecDepth 100000 in
def p33x_2458 : ck_Sum := ((1, 0, 0), 245, [.inr (.inr (.inl 226)), .inl (ck_one 20), .inl (0, 2, none), .inl (ck_one 0)], ([], [], [(227, 2, 9, ck_one 0)]), ([], []), [(.inr (some (.inl (ck_one 0))), 245, ([], [], []))])
set_option maxRecDepth 100000 in
theorem p33x_2458_e : ck_ok p1_O none [] [(255, [p33x_179])] 334 [(6, [some (.inr (.inr (.inl 226))), some (.inl (ck_one 20)), some (.inl (0, 2, none)), some (.inl (ck_one 0)), some (.inl (ck_one 0)), some (.inl (ck_one 0))], ([], [], [(227, 2, 9, ck_one 0)]), 100, .inl 4, true)] 114 p33x_2458 = true := by decide +kernel
theorem p33x_2458_s {X : Int → Int} {LX : Nat} : ck_Ok p1_O X LX 334 p33x_2458 := ck_ok_s (ck_E1 (ck_S1 p33x_179_s ck_S0) ck_E0) ck_X0 ck_l0 p33x_2458_e
set_option maxRecDepth 100000 in
def p33x_2489 : ck_Sum := ((1, 0, 0), 245, [.inr (.inr (.inl 226)), .inl (0, 19, none), .inl (ck_one 0), .inl (ck_one 0)], ([], [], [(227, 2, 9, ck_one 0)]), ([], []), [(.inr (some (.inl (ck_one 0))), 245, ([], [], []))])
set_option maxRecDepth 100000 in
theorem p33x_2489_e : ck_ok p1_O none [] [(255, [p33x_179])] 334 [(6, [some (.inr (.inr (.inl 226))), some (.inl (0, 19, none)), some (.inl (ck_one 0)), some (.inl (ck_one 0)), some (.inl (ck_one 0)), some (.inl (ck_one 0))], ([], [], [(227, 2, 9, ck_one 0)]), 100, .inl 4, true)] 114 p33x_2489 = true := by decide +kernel
theorem p33x_2489_s {X : Int → Int} {LX : Nat} : ck_Ok p1_O X LX 334 p33x_2489 := ck_ok_s (ck_E1 (ck_S1 p33x_179_s ck_S0) ck_E0) ck_X0 ck_l0 p33x_2489_e
set_option maxRecDepth 100000 in
def p33x_2490 : ck_Sum := ((1, 0, 0), 245, [.inr (.inr (.inl 226)), .inl (0, 19, none), .inl (1, 2, none), .inl (ck_one 0)], ([], [], [(227, 2, 9, ck_one 0)]), ([], []), [(.inr (some (.inl (ck_one 0))), 245, ([], [], []))])
set_option maxRecDepth 100000 in
theorem p33x_2490_e : ck_ok p1_O none [] [(255, [p33x_179])] 334 [(6, [some (.inr (.inr (.inl 226))), some (.inl (0, 19, none)), some (.inl (1, 2, none)), some (.inl (ck_one 0)), some (.inl (ck_one 0)), some (.inl (ck_one 0))], ([], [], [(227, 2, 9, ck_one 0)]), 100, .inl 4, true)] 114 p33x_2490 = true := by decide +kernel
theorem p33x_2490_s {X : Int → Int} {LX : Nat} : ck_Ok p1_O X LX 334 p33x_2490 := ck_ok_s (ck_E1 (ck_S1 p33x_179_s ck_S0) ck_E0) ck_X0 ck_l0 p33x_2490_e
set_option maxRecDepth 100000 in
def p33x_2491 : ck_Sum := ((2, 0, 0), 245, [.inr (.inr (.inl 226)), .inl (ck_one 21)], ([], [], [(227, 0, 0, ck_one 3), (244, 0, 5, ck_one 0), (243, 0, 5, ck_one 0), (227, 2, 9, ck_one 0)]), ([(243, 0, 5), (244, 0, 2)], []), [(.inr none, 245, ([], [], [(244, 0, 5, ck_one 0), (243, 0, 5, ck_one 0)]))])
set_option maxRecDepth 100000 in
theorem p33x_2491_e : ck_ok p1_O none [] [(333, [p33x_180]), (267, [p33x_181]), (262, [p33x_182]), (334, [p33x_2458, p33x_2489, p33x_2490])] 359 [(6, [some (.inr (.inr (.inl 226))), some (.inl (ck_one 21)), some (.inl (0, 6, none)), none, none], ([], [], [(227, 0, 0, ck_one 3), (244, 0, 5, ck_one 0), (243, 0, 5, ck_one 0), (227, 2, 9, ck_one 0)]), 100, .inl 2, true), (34, [some (.inr (.inr (.inl 226))), some (.inl (ck_one 21)), some (.inl ((-1), 20, none)), none, none], ([], [], [(227, 0, 0, ck_one 3), (244, 0, 5, ck_one 0), (243, 0, 5, ck_one 0), (227, 2, 9, ck_one 0)]), 300, .inl 2, false), (44, [some (.inr (.inr (.inl 226))), some (.inl (ck_one 21)), some (.inl (0, 20, some (300, 0))), some (.inl (0, 3, none)), none], ([], [], [(227, 0, 0, ck_one 3), (244, 0, 5, ck_one 0), (243, 0, 5, ck_one 0), (227, 2, 9, ck_one 0)]), 500, .inl 3, true), (152, [some (.inr (.inr (.inl 226))), some (.inl (ck_one 21)), some (.inl (0, 20, some (300, 0))), some (.inl (0, 3, none)), none], ([], [], [(227, 0, 0, ck_one 3), (244, 0, 5, ck_one 0), (243, 0, 5, ck_one 0), (227, 2, 9, ck_one 0)]), 700, .inl 3, true)] 800 p33x_2491 = true := by decide +kernel
theorem p33x_2491_s {X : Int → Int} {LX : Nat} : ck_Ok p1_O X LX 359 p33x_2491 := ck_ok_s (ck_E1 (ck_S1 p33x_180_s ck_S0) (ck_E1 (ck_S1 p33x_181_s ck_S0) (ck_E1 (ck_S1 p33x_182_s ck_S0) (ck_E1 (ck_S1 p33x_2458_s (ck_S1 p33x_2489_s (ck_S1 p33x_2490_s ck_S0))) ck_E0)))) ck_X0 ck_l0 p33x_2491_e
set_option maxRecDepth 100000 in
def p33x_2492 : ck_Sum := ((3, 0, 0), 245, [.inr (.inr (.inl 226)), .inl (ck_one 21), .inl (ck_one 1)], ([], [], [(227, 0, 0, ck_one 3), (244, 0, 5, ck_one 0), (243, 0, 5, ck_one 0), (227, 2, 9, ck_one 0), (226, 0, 0, ck_one 0)]), ([(226, 0, 0), (243, 0, 5), (244, 0, 2)], []), [(.inr (some (.inl (ck_one 0))), 245, ([], [], [(226, 0, 0, ck_one 0), (244, 0, 5, ck_one 0), (243, 0, 5, ck_one 0)]))])
set_option maxRecDepth 100000 in
theorem p33x_2492_e : ck_ok p1_O none [] [(287, [p33x_2455]), (283, [p33x_178]), (359, [p33x_2491]), (262, [p33x_182])] 358 [(40, [some (.inr (.inr (.inl 226))), some (.inl (ck_one 21)), some (.inl (ck_one 1)), some (.inl (ck_one 0)), some (.inl (1, 3, none))], ([], [], [(244, 0, 5, ck_one 0), (243, 0, 5, ck_one 0), (226, 0, 0, ck_one 0), (227, 0, 0, ck_one 3), (244, 3, 5, ck_one 0), (227, 2, 9, ck_one 0)]), 100, .inl 4, true)] 174 p33x_2492 = true := by decide +kernel
theorem p33x_2492_s {X : Int → Int} {LX : Nat} : ck_Ok p1_O X LX 358 p33x_2492 := ck_ok_s (ck_E1 (ck_S1 p33x_2455_s ck_S0) (ck_E1 (ck_S1 p33x_178_s ck_S0) (ck_E1 (ck_S1 p33x_2491_s ck_S0) (ck_E1 (ck_S1 p33x_182_s ck_S0) ck_E0)))) ck_X0 ck_l0 p33x_2492_e
set_option maxRecDepth 100000 in
def p33x_2495 : ck_Sum := ((3, 0, 0), 245, [.inr (.inr (.inl 226)), .inl (ck_one 21), .inl (ck_one 0)], ([], [], [(227, 0, 0, ck_one 3), (244, 0, 5, ck_one 0), (243, 0, 5, ck_one 0), (227, 2, 9, ck_one 0), (226, 0, 0, ck_one 0)]), ([(226, 0, 0), (243, 0, 5), (244, 0, 2)], []), [(.inr (some (.inl (ck_one 0))), 245, ([], [], [(226, 0, 0, ck_one 0), (244, 0, 5, ck_one 0), (243, 0, 5, ck_one 0)]))])
set_option maxRecDepth 100000 in
theorem p33x_2495_e : ck_ok p1_O none [] [(287, [p33x_2455]), (283, [p33x_178]), (359, [p33x_2491]), (262, [p33x_182])] 358 [(40, [some (.inr (.inr (.inl 226))), some (.inl (ck_one 21)), some (.inl (ck_one 0)), some (.inl (ck_one 0)), some (.inl (1, 3, none))], ([], [], [(244, 0, 5, ck_one 0), (243, 0, 5, ck_one 0), (226, 0, 0, ck_one 0), (227, 0, 0, ck_one 3), (244, 3, 5, ck_one 0), (227, 2, 9, ck_one 0)]), 100, .inl 4, true)] 174 p33x_2495 = true := by decide +kernel
theorem p33x_2495_s {X : Int → Int} {LX : Nat} : ck_Ok p1_O X LX 358 p33x_2495 := ck_ok_s (ck_E1 (ck_S1 p33x_2455_s ck_S0) (ck_E1 (ck_S1 p33x_178_s ck_S0) (ck_E1 (ck_S1 p33x_2491_s ck_S0) (ck_E1 (ck_S1 p33x_182_s ck_S0) ck_E0)))) ck_X0 ck_l0 p33x_2495_e
set_option maxRecDepth 100000 in
def p33x_2619 : ck_Sum := ((0, 0, 0), 245, [.inl (ck_one 22), .inl (ck_one 1), .inl (ck_one 30)], ([], [], []), ([], []), [(.inr (some (.inl (ck_one 1))), 245, ([], [], []))])
set_option maxRecDepth 100000 in
theorem p33x_2619_e : ck_ok p1_O none [] [] 287 [] 88 p33x_2619 = true := by decide +kernel
theorem p33x_2619_s {X : Int → Int} {LX : Nat} : ck_Ok p1_O X LX 287 p33x_2619 := ck_ok_s (ck_E0) ck_X0 ck_l0 p33x_2619_e
set_option maxRecDepth 100000 in
def p33x_2622 : ck_Sum := ((1, 0, 0), 245, [.inr (.inr (.inl 226)), .inl (ck_one 21), .inl (0, 2, none), .inl (ck_one 0)], ([], [], [(227, 2, 9, ck_one 0)]), ([], []), [(.inr (some (.inl (ck_one 0))), 245, ([], [], []))])
set_option maxRecDepth 100000 in
theorem p33x_2622_e : ck_ok p1_O none [] [(255, [p33x_179])] 334 [(6, [some (.inr (.inr (.inl 226))), some (.inl (ck_one 21)), some (.inl (0, 2, none)), some (.inl (ck_one 0)), some (.inl (ck_one 0)), some (.inl (ck_one 0))], ([], [], [(227, 2, 9, ck_one 0)]), 100, .inl 4, true)] 114 p33x_2622 = true := by decide +kernel
theorem p33x_2622_s {X : Int → Int} {LX : Nat} : ck_Ok p1_O X LX 334 p33x_2622 := ck_ok_s (ck_E1 (ck_S1 p33x_179_s ck_S0) ck_E0) ck_X0 ck_l0 p33x_2622_e
set_option maxRecDepth 100000 in
def p33x_2653 : ck_Sum := ((1, 0, 0), 245, [.inr (.inr (.inl 226)), .inl (0, 20, none), .inl (ck_one 0), .inl (ck_one 0)], ([], [], [(227, 2, 9, ck_one 0)]), ([], []), [(.inr (some (.inl (ck_one 0))), 245, ([], [], []))])
set_option maxRecDepth 100000 in
theorem p33x_2653_e : ck_ok p1_O none [] [(255, [p33x_179])] 334 [(6, [some (.inr (.inr (.inl 226))), some (.inl (0, 20, none)), some (.inl (ck_one 0)), some (.inl (ck_one 0)), some (.inl (ck_one 0)), some (.inl (ck_one 0))], ([], [], [(227, 2, 9, ck_one 0)]), 100, .inl 4, true)] 114 p33x_2653 = true := by decide +kernel
theorem p33x_2653_s {X : Int → Int} {LX : Nat} : ck_Ok p1_O X LX 334 p33x_2653 := ck_ok_s (ck_E1 (ck_S1 p33x_179_s ck_S0) ck_E0) ck_X0 ck_l0 p33x_2653_e
set_option maxRecDepth 100000 in
def p33x_2654 : ck_Sum := ((1, 0, 0), 245, [.inr (.inr (.inl 226)), .inl (0, 20, none), .inl (1, 2, none), .inl (ck_one 0)], ([], [], [(227, 2, 9, ck_one 0)]), ([], []), [(.inr (some (.inl (ck_one 0))), 245, ([], [], []))])
set_option maxRecDepth 100000 in
theorem p33x_2654_e : ck_ok p1_O none [] [(255, [p33x_179])] 334 [(6, [some (.inr (.inr (.inl 226))), some (.inl (0, 20, none)), some (.inl (1, 2, none)), some (.inl (ck_one 0)), some (.inl (ck_one 0)), some (.inl (ck_one 0))], ([], [], [(227, 2, 9, ck_one 0)]), 100, .inl 4, true)] 114 p33x_2654 = true := by decide +kernel
theorem p33x_2654_s {X : Int → Int} {LX : Nat} : ck_Ok p1_O X LX 334 p33x_2654 := ck_ok_s (ck_E1 (ck_S1 p33x_179_s ck_S0) ck_E0) ck_X0 ck_l0 p33x_2654_e
set_option maxRecDepth 100000 in
def p33x_2655 : ck_Sum := ((2, 0, 0), 245, [.inr (.inr (.inl 226)), .inl (ck_one 22)], ([], [], [(227, 0, 0, ck_one 3), (244, 0, 5, ck_one 0), (243, 0, 5, ck_one 0), (227, 2, 9, ck_one 0)]), ([(243, 0, 5), (244, 0, 2)], []), [(.inr none, 245, ([], [], [(244, 0, 5, ck_one 0), (243, 0, 5, ck_one 0)]))])
set_option maxRecDepth 100000 in
theorem p33x_2655_e : ck_ok p1_O none [] [(333, [p33x_180]), (267, [p33x_181]), (262, [p33x_182]), (334, [p33x_2622, p33x_2653, p33x_2654])] 359 [(6, [some (.inr (.inr (.inl 226))), some (.inl (ck_one 22)), some (.inl (0, 6, none)), none, none], ([], [], [(227, 0, 0, ck_one 3), (244, 0, 5, ck_one 0), (243, 0, 5, ck_one 0), (227, 2, 9, ck_one 0)]), 100, .inl 2, true), (34, [some (.inr (.inr (.inl 226))), some (.inl (ck_one 22)), some (.inl ((-1), 21, none)), none, none], ([], [], [(227, 0, 0, ck_one 3), (244, 0, 5, ck_one 0), (243, 0, 5, ck_one 0), (227, 2, 9, ck_one 0)]), 300, .inl 2, false), (44, [some (.inr (.inr (.inl 226))), some (.inl (ck_one 22)), some (.inl (0, 21, some (300, 0))), some (.inl (0, 3, none)), none], ([], [], [(227, 0, 0, ck_one 3), (244, 0, 5, ck_one 0), (243, 0, 5, ck_one 0), (227, 2, 9, ck_one 0)]), 500, .inl 3, true), (152, [some (.inr (.inr (.inl 226))), some (.inl (ck_one 22)), some (.inl (0, 21, some (300, 0))), some (.inl (0, 3, none)), none], ([], [], [(227, 0, 0, ck_one 3), (244, 0, 5, ck_one 0), (243, 0, 5, ck_one 0), (227, 2, 9, ck_one 0)]), 700, .inl 3, true)] 800 p33x_2655 = true := by decide +kernel
theorem p33x_2655_s {X : Int → Int} {LX : Nat} : ck_Ok p1_O X LX 359 p33x_2655 := ck_ok_s (ck_E1 (ck_S1 p33x_180_s ck_S0) (ck_E1 (ck_S1 p33x_181_s ck_S0) (ck_E1 (ck_S1 p33x_182_s ck_S0) (ck_E1 (ck_S1 p33x_2622_s (ck_S1 p33x_2653_s (ck_S1 p33x_2654_s ck_S0))) ck_E0)))) ck_X0 ck_l0 p33x_2655_e
set_option maxRecDepth 100000 in
def p33x_2656 : ck_Sum := ((3, 0, 0), 245, [.inr (.inr (.inl 226)), .inl (ck_one 22), .inl (ck_one 1)], ([], [], [(227, 0, 0, ck_one 3), (244, 0, 5, ck_one 0), (243, 0, 5, ck_one 0), (227, 2, 9, ck_one 0), (226, 0, 0, ck_one 0)]), ([(226, 0, 0), (243, 0, 5), (244, 0, 2)], []), [(.inr (some (.inl (ck_one 0))), 245, ([], [], [(226, 0, 0, ck_one 0), (244, 0, 5, ck_one 0), (243, 0, 5, ck_one 0)]))])
set_option maxRecDepth 100000 in
theorem p33x_2656_e : ck_ok p1_O none [] [(287, [p33x_2619]), (283, [p33x_178]), (359, [p33x_2655]), (262, [p33x_182])] 358 [(40, [some (.inr (.inr (.inl 226))), some (.inl (ck_one 22)), some (.inl (ck_one 1)), some (.inl (ck_one 0)), some (.inl (1, 3, none))], ([], [], [(244, 0, 5, ck_one 0), (243, 0, 5, ck_one 0), (226, 0, 0, ck_one 0), (227, 0, 0, ck_one 3), (244, 3, 5, ck_one 0), (227, 2, 9, ck_one 0)]), 100, .inl 4, true)] 174 p33x_2656 = true := by decide +kernel
theorem p33x_2656_s {X : Int → Int} {LX : Nat} : ck_Ok p1_O X LX 358 p33x_2656 := ck_ok_s (ck_E1 (ck_S1 p33x_2619_s ck_S0) (ck_E1 (ck_S1 p33x_178_s ck_S0) (ck_E1 (ck_S1 p33x_2655_s ck_S0) (ck_E1 (ck_S1 p33x_182_s ck_S0) ck_E0)))) ck_X0 ck_l0 p33x_2656_e
set_option maxRecDepth 100000 in
def p33x_2659 : ck_Sum := ((3, 0, 0), 245, [.inr (.inr (.inl 226)), .inl (ck_one 22), .inl (ck_one 0)], ([], [], [(227, 0, 0, ck_one 3), (244, 0, 5, ck_one 0), (243, 0, 5, ck_one 0), (227, 2, 9, ck_one 0), (226, 0, 0, ck_one 0)]), ([(226, 0, 0), (243, 0, 5), (244, 0, 2)], []), [(.inr (some (.inl (ck_one 0))), 245, ([], [], [(226, 0, 0, ck_one 0), (244, 0, 5, ck_one 0), (243, 0, 5, ck_one 0)]))])
set_option maxRecDepth 100000 in
theorem p33x_2659_e : ck_ok p1_O none [] [(287, [p33x_2619]), (283, [p33x_178]), (359, [p33x_2655]), (262, [p33x_182])] 358 [(40, [some (.inr (.inr (.inl 226))), some (.inl (ck_one 22)), some (.inl (ck_one 0)), some (.inl (ck_one 0)), some (.inl (1, 3, none))], ([], [], [(244, 0, 5, ck_one 0), (243, 0, 5, ck_one 0), (226, 0, 0, ck_one 0), (227, 0, 0, ck_one 3), (244, 3, 5, ck_one 0), (227, 2, 9, ck_one 0)]), 100, .inl 4, true)] 174 p33x_2659 = true := by decide +kernel
theorem p33x_2659_s {X : Int → Int} {LX : Nat} : ck_Ok p1_O X LX 358 p33x_2659 := ck_ok_s (ck_E1 (ck_S1 p33x_2619_s ck_S0) (ck_E1 (ck_S1 p33x_178_s ck_S0) (ck_E1 (ck_S1 p33x_2655_s ck_S0) (ck_E1 (ck_S1 p33x_182_s ck_S0) ck_E0)))) ck_X0 ck_l0 p33x_2659_e
set_option maxRecDepth 100000 in
def p33x_2783 : ck_Sum := ((0, 0, 0), 245, [.inl (ck_one 23), .inl (ck_one 1), .inl (ck_one 30)], ([], [], []), ([], []), [(.inr (some (.inl (ck_one 1))), 245, ([], [], []))])
set_option maxRecDepth 100000 in
theorem p33x_2783_e : ck_ok p1_O none [] [] 287 [] 88 p33x_2783 = true := by decide +kernel
theorem p33x_2783_s {X : Int → Int} {LX : Nat} : ck_Ok p1_O X LX 287 p33x_2783 := ck_ok_s (ck_E0) ck_X0 ck_l0 p33x_2783_e
set_option maxRecDepth 100000 in
def p33x_2786 : ck_Sum := ((1, 0, 0), 245, [.inr (.inr (.inl 226)), .inl (ck_one 22), .inl (0, 2, none), .inl (ck_one 0)], ([], [], [(227, 2, 9, ck_one 0)]), ([], []), [(.inr (some (.inl (ck_one 0))), 245, ([], [], []))])
set_option maxRecDepth 100000 in
theorem p33x_2786_e : ck_ok p1_O none [] [(255, [p33x_179])] 334 [(6, [some (.inr (.inr (.inl 226))), some (.inl (ck_one 22)), some (.inl (0, 2, none)), some (.inl (ck_one 0)), some (.inl (ck_one 0)), some (.inl (ck_one 0))], ([], [], [(227, 2, 9, ck_one 0)]), 100, .inl 4, true)] 114 p33x_2786 = true := by decide +kernel
theorem p33x_2786_s {X : Int → Int} {LX : Nat} : ck_Ok p1_O X LX 334 p33x_2786 := ck_ok_s (ck_E1 (ck_S1 p33x_179_s ck_S0) ck_E0) ck_X0 ck_l0 p33x_2786_e
set_option maxRecDepth 100000 in
def p33x_2817 : ck_Sum := ((1, 0, 0), 245, [.inr (.inr (.inl 226)), .inl (0, 21, none), .inl (ck_one 0), .inl (ck_one 0)], ([], [], [(227, 2, 9, ck_one 0)]), ([], []), [(.inr (some (.inl (ck_one 0))), 245, ([], [], []))])
set_option maxRecDepth 100000 in
theorem p33x_2817_e : ck_ok p1_O none [] [(255, [p33x_179])] 334 [(6, [some (.inr (.inr (.inl 226))), some (.inl (0, 21, none)), some (.inl (ck_one 0)), some (.inl (ck_one 0)), some (.inl (ck_one 0)), some (.inl (ck_one 0))], ([], [], [(227, 2, 9, ck_one 0)]), 100, .inl 4, true)] 114 p33x_2817 = true := by decide +kernel
theorem p33x_2817_s {X : Int → Int} {LX : Nat} : ck_Ok p1_O X LX 334 p33x_2817 := ck_ok_s (ck_E1 (ck_S1 p33x_179_s ck_S0) ck_E0) ck_X0 ck_l0 p33x_2817_e
set_option maxRecDepth 100000 in
def p33x_2818 : ck_Sum := ((1, 0, 0), 245, [.inr (.inr (.inl 226)), .inl (0, 21, none), .inl (1, 2, none), .inl (ck_one 0)], ([], [], [(227, 2, 9, ck_one 0)]), ([], []), [(.inr (some (.inl (ck_one 0))), 245, ([], [], []))])
set_option maxRecDepth 100000 in
theorem p33x_2818_e : ck_ok p1_O none [] [(255, [p33x_179])] 334 [(6, [some (.inr (.inr (.inl 226))), some (.inl (0, 21, none)), some (.inl (1, 2, none)), some (.inl (ck_one 0)), some (.inl (ck_one 0)), some (.inl (ck_one 0))], ([], [], [(227, 2, 9, ck_one 0)]), 100, .inl 4, true)] 114 p33x_2818 = true := by decide +kernel
theorem p33x_2818_s {X : Int → Int} {LX : Nat} : ck_Ok p1_O X LX 334 p33x_2818 := ck_ok_s (ck_E1 (ck_S1 p33x_179_s ck_S0) ck_E0) ck_X0 ck_l0 p33x_2818_e
set_option maxRecDepth 100000 in
def p33x_2819 : ck_Sum := ((2, 0, 0), 245, [.inr (.inr (.inl 226)), .inl (ck_one 23)], ([], [], [(227, 0, 0, ck_one 3), (244, 0, 5, ck_one 0), (243, 0, 5, ck_one 0), (227, 2, 9, ck_one 0)]), ([(243, 0, 5), (244, 0, 2)], []), [(.inr none, 245, ([], [], [(244, 0, 5, ck_one 0), (243, 0, 5, ck_one 0)]))])
set_option maxRecDepth 100000 in
theorem p33x_2819_e : ck_ok p1_O none [] [(333, [p33x_180]), (267, [p33x_181]), (262, [p33x_182]), (334, [p33x_2786, p33x_2817, p33x_2818])] 359 [(6, [some (.inr (.inr (.inl 226))), some (.inl (ck_one 23)), some (.inl (0, 6, none)), none, none], ([], [], [(227, 0, 0, ck_one 3), (244, 0, 5, ck_one 0), (243, 0, 5, ck_one 0), (227, 2, 9, ck_one 0)]), 100, .inl 2, true), (34, [some (.inr (.inr (.inl 226))), some (.inl (ck_one 23)), some (.inl ((-1), 22, none)), none, none], ([], [], [(227, 0, 0, ck_one 3), (244, 0, 5, ck_one 0), (243, 0, 5, ck_one 0), (227, 2, 9, ck_one 0)]), 300, .inl 2, false), (44, [some (.inr (.inr (.inl 226))), some (.inl (ck_one 23)), some (.inl (0, 22, some (300, 0))), some (.inl (0, 3, none)), none], ([], [], [(227, 0, 0, ck_one 3), (244, 0, 5, ck_one 0), (243, 0, 5, ck_one 0), (227, 2, 9, ck_one 0)]), 500, .inl 3, true), (152, [some (.inr (.inr (.inl 226))), some (.inl (ck_one 23)), some (.inl (0, 22, some (300, 0))), some (.inl (0, 3, none)), none], ([], [], [(227, 0, 0, ck_one 3), (244, 0, 5, ck_one 0), (243, 0, 5, ck_one 0), (227, 2, 9, ck_one 0)]), 700, .inl 3, true)] 800 p33x_2819 = true := by decide +kernel
theorem p33x_2819_s {X : Int → Int} {LX : Nat} : ck_Ok p1_O X LX 359 p33x_2819 := ck_ok_s (ck_E1 (ck_S1 p33x_180_s ck_S0) (ck_E1 (ck_S1 p33x_181_s ck_S0) (ck_E1 (ck_S1 p33x_182_s ck_S0) (ck_E1 (ck_S1 p33x_2786_s (ck_S1 p33x_2817_s (ck_S1 p33x_2818_s ck_S0))) ck_E0)))) ck_X0 ck_l0 p33x_2819_e
set_option maxRecDepth 100000 in
def p33x_2820 : ck_Sum := ((3, 0, 0), 245, [.inr (.inr (.inl 226)), .inl (ck_one 23), .inl (ck_one 1)], ([], [], [(227, 0, 0, ck_one 3), (244, 0, 5, ck_one 0), (243, 0, 5, ck_one 0), (227, 2, 9, ck_one 0), (226, 0, 0, ck_one 0)]), ([(226, 0, 0), (243, 0, 5), (244, 0, 2)], []), [(.inr (some (.inl (ck_one 0))), 245, ([], [], [(226, 0, 0, ck_one 0), (244, 0, 5, ck_one 0), (243, 0, 5, ck_one 0)]))])
set_option maxRecDepth 100000 in
theorem p33x_2820_e : ck_ok p1_O none [] [(287, [p33x_2783]), (283, [p33x_178]), (359, [p33x_2819]), (262, [p33x_182])] 358 [(40, [some (.inr (.inr (.inl 226))), some (.inl (ck_one 23)), some (.inl (ck_one 1)), some (.inl (ck_one 0)), some (.inl (1, 3, none))], ([], [], [(244, 0, 5, ck_one 0), (243, 0, 5, ck_one 0), (226, 0, 0, ck_one 0), (227, 0, 0, ck_one 3), (244, 3, 5, ck_one 0), (227, 2, 9, ck_one 0)]), 100, .inl 4, true)] 174 p33x_2820 = true := by decide +kernel
theorem p33x_2820_s {X : Int → Int} {LX : Nat} : ck_Ok p1_O X LX 358 p33x_2820 := ck_ok_s (ck_E1 (ck_S1 p33x_2783_s ck_S0) (ck_E1 (ck_S1 p33x_178_s ck_S0) (ck_E1 (ck_S1 p33x_2819_s ck_S0) (ck_E1 (ck_S1 p33x_182_s ck_S0) ck_E0)))) ck_X0 ck_l0 p33x_2820_e
set_option maxRecDepth 100000 in
def p33x_2823 : ck_Sum := ((3, 0, 0), 245, [.inr (.inr (.inl 226)), .inl (ck_one 23), .inl (ck_one 0)], ([], [], [(227, 0, 0, ck_one 3), (244, 0, 5, ck_one 0), (243, 0, 5, ck_one 0), (227, 2, 9, ck_one 0), (226, 0, 0, ck_one 0)]), ([(226, 0, 0), (243, 0, 5), (244, 0, 2)], []), [(.inr (some (.inl (ck_one 0))), 245, ([], [], [(226, 0, 0, ck_one 0), (244, 0, 5, ck_one 0), (243, 0, 5, ck_one 0)]))])
set_option maxRecDepth 100000 in
theorem p33x_2823_e : ck_ok p1_O none [] [(287, [p33x_2783]), (283, [p33x_178]), (359, [p33x_2819]), (262, [p33x_182])] 358 [(40, [some (.inr (.inr (.inl 226))), some (.inl (ck_one 23)), some (.inl (ck_one 0)), some (.inl (ck_one 0)), some (.inl (1, 3, none))], ([], [], [(244, 0, 5, ck_one 0), (243, 0, 5, ck_one 0), (226, 0, 0, ck_one 0), (227, 0, 0, ck_one 3), (244, 3, 5, ck_one 0), (227, 2, 9, ck_one 0)]), 100, .inl 4, true)] 174 p33x_2823 = true := by decide +kernel
theorem p33x_2823_s {X : Int → Int} {LX : Nat} : ck_Ok p1_O X LX 358 p33x_2823 := ck_ok_s (ck_E1 (ck_S1 p33x_2783_s ck_S0) (ck_E1 (ck_S1 p33x_178_s ck_S0) (ck_E1 (ck_S1 p33x_2819_s ck_S0) (ck_E1 (ck_S1 p33x_182_s ck_S0) ck_E0)))) ck_X0 ck_l0 p33x_2823_e
set_option maxRecDepth 100000 in
def p33x_2947 : ck_Sum := ((0, 0, 0), 245, [.inl (ck_one 24), .inl (ck_one 1), .inl (ck_one 30)], ([], [], []), ([], []), [(.inr (some (.inl (ck_one 1))), 245, ([], [], []))])
set_option maxRecDepth 100000 in
theorem p33x_2947_e : ck_ok p1_O none [] [] 287 [] 88 p33x_2947 = true := by decide +kernel
theorem p33x_2947_s {X : Int → Int} {LX : Nat} : ck_Ok p1_O X LX 287 p33x_2947 := ck_ok_s (ck_E0) ck_X0 ck_l0 p33x_2947_e
set_option maxRecDepth 100000 in
def p33x_2950 : ck_Sum := ((1, 0, 0), 245, [.inr (.inr (.inl 226)), .inl (ck_one 23), .inl (0, 2, none), .inl (ck_one 0)], ([], [], [(227, 2, 9, ck_one 0)]), ([], []), [(.inr (some (.inl (ck_one 0))), 245, ([], [], []))])
set_option maxRecDepth 100000 in
theorem p33x_2950_e : ck_ok p1_O none [] [(255, [p33x_179])] 334 [(6, [some (.inr (.inr (.inl 226))), some (.inl (ck_one 23)), some (.inl (0, 2, none)), some (.inl (ck_one 0)), some (.inl (ck_one 0)), some (.inl (ck_one 0))], ([], [], [(227, 2, 9, ck_one 0)]), 100, .inl 4, true)] 114 p33x_2950 = true := by decide +kernel
theorem p33x_2950_s {X : Int → Int} {LX : Nat} : ck_Ok p1_O X LX 334 p33x_2950 := ck_ok_s (ck_E1 (ck_S1 p33x_179_s ck_S0) ck_E0) ck_X0 ck_l0 p33x_2950_e
set_option maxRecDepth 100000 in
def p33x_2981 : ck_Sum := ((1, 0, 0), 245, [.inr (.inr (.inl 226)), .inl (0, 22, none), .inl (ck_one 0), .inl (ck_one 0)], ([], [], [(227, 2, 9, ck_one 0)]), ([], []), [(.inr (some (.inl (ck_one 0))), 245, ([], [], []))])
set_option maxRecDepth 100000 in
theorem p33x_2981_e : ck_ok p1_O none [] [(255, [p33x_179])] 334 [(6, [some (.inr (.inr (.inl 226))), some (.inl (0, 22, none)), some (.inl (ck_one 0)), some (.inl (ck_one 0)), some (.inl (ck_one 0)), some (.inl (ck_one 0))], ([], [], [(227, 2, 9, ck_one 0)]), 100, .inl 4, true)] 114 p33x_2981 = true := by decide +kernel
theorem p33x_2981_s {X : Int → Int} {LX : Nat} : ck_Ok p1_O X LX 334 p33x_2981 := ck_ok_s (ck_E1 (ck_S1 p33x_179_s ck_S0) ck_E0) ck_X0 ck_l0 p33x_2981_e
set_option maxRecDepth 100000 in
def p33x_2982 : ck_Sum := ((1, 0, 0), 245, [.inr (.inr (.inl 226)), .inl (0, 22, none), .inl (1, 2, none), .inl (ck_one 0)], ([], [], [(227, 2, 9, ck_one 0)]), ([], []), [(.inr (some (.inl (ck_one 0))), 245, ([], [], []))])
set_option maxRecDepth 100000 in
theorem p33x_2982_e : ck_ok p1_O none [] [(255, [p33x_179])] 334 [(6, [some (.inr (.inr (.inl 226))), some (.inl (0, 22, none)), some (.inl (1, 2, none)), some (.inl (ck_one 0)), some (.inl (ck_one 0)), some (.inl (ck_one 0))], ([], [], [(227, 2, 9, ck_one 0)]), 100, .inl 4, true)] 114 p33x_2982 = true := by decide +kernel
theorem p33x_2982_s {X : Int → Int} {LX : Nat} : ck_Ok p1_O X LX 334 p33x_2982 := ck_ok_s (ck_E1 (ck_S1 p33x_179_s ck_S0) ck_E0) ck_X0 ck_l0 p33x_2982_e
set_option maxRecDepth 100000 in
def p33x_2983 : ck_Sum := ((2, 0, 0), 245, [.inr (.inr (.inl 226)), .inl (ck_one 24)], ([], [], [(227, 0, 0, ck_one 3), (244, 0, 5, ck_one 0), (243, 0, 5, ck_one 0), (227, 2, 9, ck_one 0)]), ([(243, 0, 5), (244, 0, 2)], []), [(.inr none, 245, ([], [], [(244, 0, 5, ck_one 0), (243, 0, 5, ck_one 0)]))])
set_option maxRecDepth 100000 in
theorem p33x_2983_e : ck_ok p1_O none [] [(333, [p33x_180]), (267, [p33x_181]), (262, [p33x_182]), (334, [p33x_2950, p33x_2981, p33x_2982])] 359 [(6, [some (.inr (.inr (.inl 226))), some (.inl (ck_one 24)), some (.inl (0, 6, none)), none, none], ([], [], [(227, 0, 0, ck_one 3), (244, 0, 5, ck_one 0), (243, 0, 5, ck_one 0), (227, 2, 9, ck_one 0)]), 100, .inl 2, true), (34, [some (.inr (.inr (.inl 226))), some (.inl (ck_one 24)), some (.inl ((-1), 23, none)), none, none], ([], [], [(227, 0, 0, ck_one 3), (244, 0, 5, ck_one 0), (243, 0, 5, ck_one 0), (227, 2, 9, ck_one 0)]), 300, .inl 2, false), (44, [some (.inr (.inr (.inl 226))), some (.inl (ck_one 24)), some (.inl (0, 23, some (300, 0))), some (.inl (0, 3, none)), none], ([], [], [(227, 0, 0, ck_one 3), (244, 0, 5, ck_one 0), (243, 0, 5, ck_one 0), (227, 2, 9, ck_one 0)]), 500, .inl 3, true), (152, [some (.inr (.inr (.inl 226))), some (.inl (ck_one 24)), some (.inl (0, 23, some (300, 0))), some (.inl (0, 3, none)), none], ([], [], [(227, 0, 0, ck_one 3), (244, 0, 5, ck_one 0), (243, 0, 5, ck_one 0), (227, 2, 9, ck_one 0)]), 700, .inl 3, true)] 800 p33x_2983 = true := by decide +kernel
theorem p33x_2983_s {X : Int → Int} {LX : Nat} : ck_Ok p1_O X LX 359 p33x_2983 := ck_ok_s (ck_E1 (ck_S1 p33x_180_s ck_S0) (ck_E1 (ck_S1 p33x_181_s ck_S0) (ck_E1 (ck_S1 p33x_182_s ck_S0) (ck_E1 (ck_S1 p33x_2950_s (ck_S1 p33x_2981_s (ck_S1 p33x_2982_s ck_S0))) ck_E0)))) ck_X0 ck_l0 p33x_2983_e
set_option maxRecDepth 100000 in
def p33x_2984 : ck_Sum := ((3, 0, 0), 245, [.inr (.inr (.inl 226)), .inl (ck_one 24), .inl (ck_one 1)], ([], [], [(227, 0, 0, ck_one 3), (244, 0, 5, ck_one 0), (243, 0, 5, ck_one 0), (227, 2, 9, ck_one 0), (226, 0, 0, ck_one 0)]), ([(226, 0, 0), (243, 0, 5), (244, 0, 2)], []), [(.inr (some (.inl (ck_one 0))), 245, ([], [], [(226, 0, 0, ck_one 0), (244, 0, 5, ck_one 0), (243, 0, 5, ck_one 0)]))])
set_option maxRecDepth 100000 in
theorem p33x_2984_e : ck_ok p1_O none [] [(287, [p33x_2947]), (283, [p33x_178]), (359, [p33x_2983]), (262, [p33x_182])] 358 [(40, [some (.inr (.inr (.inl 226))), some (.inl (ck_one 24)), some (.inl (ck_one 1)), some (.inl (ck_one 0)), some (.inl (1, 3, none))], ([], [], [(244, 0, 5, ck_one 0), (243, 0, 5, ck_one 0), (226, 0, 0, ck_one 0), (227, 0, 0, ck_one 3), (244, 3, 5, ck_one 0), (227, 2, 9, ck_one 0)]), 100, .inl 4, true)] 174 p33x_2984 = true := by decide +kernel
theorem p33x_2984_s {X : Int → Int} {LX : Nat} : ck_Ok p1_O X LX 358 p33x_2984 := ck_ok_s (ck_E1 (ck_S1 p33x_2947_s ck_S0) (ck_E1 (ck_S1 p33x_178_s ck_S0) (ck_E1 (ck_S1 p33x_2983_s ck_S0) (ck_E1 (ck_S1 p33x_182_s ck_S0) ck_E0)))) ck_X0 ck_l0 p33x_2984_e
set_option maxRecDepth 100000 in
def p33x_2987 : ck_Sum := ((3, 0, 0), 245, [.inr (.inr (.inl 226)), .inl (ck_one 24), .inl (ck_one 0)], ([], [], [(227, 0, 0, ck_one 3), (244, 0, 5, ck_one 0), (243, 0, 5, ck_one 0), (227, 2, 9, ck_one 0), (226, 0, 0, ck_one 0)]), ([(226, 0, 0), (243, 0, 5), (244, 0, 2)], []), [(.inr (some (.inl (ck_one 0))), 245, ([], [], [(226, 0, 0, ck_one 0), (244, 0, 5, ck_one 0), (243, 0, 5, ck_one 0)]))])
set_option maxRecDepth 100000 in
theorem p33x_2987_e : ck_ok p1_O none [] [(287, [p33x_2947]), (283, [p33x_178]), (359, [p33x_2983]), (262, [p33x_182])] 358 [(40, [some (.inr (.inr (.inl 226))), some (.inl (ck_one 24)), some (.inl (ck_one 0)), some (.inl (ck_one 0)), some (.inl (1, 3, none))], ([], [], [(244, 0, 5, ck_one 0), (243, 0, 5, ck_one 0), (226, 0, 0, ck_one 0), (227, 0, 0, ck_one 3), (244, 3, 5, ck_one 0), (227, 2, 9, ck_one 0)]), 100, .inl 4, true)] 174 p33x_2987 = true := by decide +kernel
theorem p33x_2987_s {X : Int → Int} {LX : Nat} : ck_Ok p1_O X LX 358 p33x_2987 := ck_ok_s (ck_E1 (ck_S1 p33x_2947_s ck_S0) (ck_E1 (ck_S1 p33x_178_s ck_S0) (ck_E1 (ck_S1 p33x_2983_s ck_S0) (ck_E1 (ck_S1 p33x_182_s ck_S0) ck_E0)))) ck_X0 ck_l0 p33x_2987_e
set_option maxRecDepth 100000 in
def p33x_3117 : ck_Sum := ((0, 0, 0), 245, [.inl (ck_one 25), .inl (ck_one 1), .inl (ck_one 30)], ([], [], []), ([], []), [(.inr (some (.inl (ck_one 1))), 245, ([], [], []))])
set_option maxRecDepth 100000 in
theorem p33x_3117_e : ck_ok p1_O none [] [] 287 [] 88 p33x_3117 = true := by decide +kernel
theorem p33x_3117_s {X : Int → Int} {LX : Nat} : ck_Ok p1_O X LX 287 p33x_3117 := ck_ok_s (ck_E0) ck_X0 ck_l0 p33x_3117_e
set_option maxRecDepth 100000 in
def p33x_3120 : ck_Sum := ((1, 0, 0), 245, [.inr (.inr (.inl 226)), .inl (ck_one 24), .inl (0, 2, none), .inl (ck_one 0)], ([], [], [(227, 2, 9, ck_one 0)]), ([], []), [(.inr (some (.inl (ck_one 0))), 245, ([], [], []))])
set_option maxRecDepth 100000 in
theorem p33x_3120_e : ck_ok p1_O none [] [(255, [p33x_179])] 334 [(6, [some (.inr (.inr (.inl 226))), some (.inl (ck_one 24)), some (.inl (0, 2, none)), some (.inl (ck_one 0)), some (.inl (ck_one 0)), some (.inl (ck_one 0))], ([], [], [(227, 2, 9, ck_one 0)]), 100, .inl 4, true)] 114 p33x_3120 = true := by decide +kernel
theorem p33x_3120_s {X : Int → Int} {LX : Nat} : ck_Ok p1_O X LX 334 p33x_3120 := ck_ok_s (ck_E1 (ck_S1 p33x_179_s ck_S0) ck_E0) ck_X0 ck_l0 p33x_3120_e
set_option maxRecDepth 100000 in
def p33x_3152 : ck_Sum := ((1, 0, 0), 245, [.inr (.inr (.inl 226)), .inl (0, 23, none), .inl (ck_one 0), .inl (ck_one 0)], ([], [], [(227, 2, 9, ck_one 0)]), ([], []), [(.inr (some (.inl (ck_one 0))), 245, ([], [], []))])
set_option maxRecDepth 100000 in
theorem p33x_3152_e : ck_ok p1_O none [] [(255, [p33x_179])] 334 [(6, [some (.inr (.inr (.inl 226))), some (.inl (0, 23, none)), some (.inl (ck_one 0)), some (.inl (ck_one 0)), some (.inl (ck_one 0)), some (.inl (ck_one 0))], ([], [], [(227, 2, 9, ck_one 0)]), 100, .inl 4, true)] 114 p33x_3152 = true := by decide +kernel
theorem p33x_3152_s {X : Int → Int} {LX : Nat} : ck_Ok p1_O X LX 334 p33x_3152 := ck_ok_s (ck_E1 (ck_S1 p33x_179_s ck_S0) ck_E0) ck_X0 ck_l0 p33x_3152_e
set_option maxRecDepth 100000 in
def p33x_3153 : ck_Sum := ((1, 0, 0), 245, [.inr (.inr (.inl 226)), .inl (0, 23, none), .inl (1, 2, none), .inl (ck_one 0)], ([], [], [(227, 2, 9, ck_one 0)]), ([], []), [(.inr (some (.inl (ck_one 0))), 245, ([], [], []))])
set_option maxRecDepth 100000 in
theorem p33x_3153_e : ck_ok p1_O none [] [(255, [p33x_179])] 334 [(6, [some (.inr (.inr (.inl 226))), some (.inl (0, 23, none)), some (.inl (1, 2, none)), some (.inl (ck_one 0)), some (.inl (ck_one 0)), some (.inl (ck_one 0))], ([], [], [(227, 2, 9, ck_one 0)]), 100, .inl 4, true)] 114 p33x_3153 = true := by decide +kernel
theorem p33x_3153_s {X : Int → Int} {LX : Nat} : ck_Ok p1_O X LX 334 p33x_3153 := ck_ok_s (ck_E1 (ck_S1 p33x_179_s ck_S0) ck_E0) ck_X0 ck_l0 p33x_3153_e
set_option maxRecDepth 100000 in
def p33x_3154 : ck_Sum := ((2, 0, 0), 245, [.inr (.inr (.inl 226)), .inl (ck_one 25)], ([], [], [(227, 0, 0, ck_one 3), (244, 0, 5, ck_one 0), (243, 0, 5, ck_one 0), (227, 2, 9, ck_one 0)]), ([(243, 0, 5), (244, 0, 2)], []), [(.inr none, 245, ([], [], [(244, 0, 5, ck_one 0), (243, 0, 5, ck_one 0)]))])
set_option maxRecDepth 100000 in
theorem p33x_3154_e : ck_ok p1_O none [] [(333, [p33x_180]), (267, [p33x_181]), (262, [p33x_182]), (334, [p33x_3120, p33x_3152, p33x_3153])] 359 [(6, [some (.inr (.inr (.inl 226))), some (.inl (ck_one 25)), some (.inl (0, 6, none)), none, none], ([], [], [(227, 0, 0, ck_one 3), (244, 0, 5, ck_one 0), (243, 0, 5, ck_one 0), (227, 2, 9, ck_one 0)]), 100, .inl 2, true), (34, [some (.inr (.inr (.inl 226))), some (.inl (ck_one 25)), some (.inl ((-1), 24, none)), none, none], ([], [], [(227, 0, 0, ck_one 3), (244, 0, 5, ck_one 0), (243, 0, 5, ck_one 0), (227, 2, 9, ck_one 0)]), 300, .inl 2, false), (44, [some (.inr (.inr (.inl 226))), some (.inl (ck_one 25)), some (.inl (0, 24, some (300, 0))), some (.inl (0, 3, none)), none], ([], [], [(227, 0, 0, ck_one 3), (244, 0, 5, ck_one 0), (243, 0, 5, ck_one 0), (227, 2, 9, ck_one 0)]), 500, .inl 3, true), (152, [some (.inr (.inr (.inl 226))), some (.inl (ck_one 25)), some (.inl (0, 24, some (300, 0))), some (.inl (0, 3, none)), none], ([], [], [(227, 0, 0, ck_one 3), (244, 0, 5, ck_one 0), (243, 0, 5, ck_one 0), (227, 2, 9, ck_one 0)]), 700, .inl 3, true)] 800 p33x_3154 = true := by decide +kernel
theorem p33x_3154_s {X : Int → Int} {LX : Nat} : ck_Ok p1_O X LX 359 p33x_3154 := ck_ok_s (ck_E1 (ck_S1 p33x_180_s ck_S0) (ck_E1 (ck_S1 p33x_181_s ck_S0) (ck_E1 (ck_S1 p33x_182_s ck_S0) (ck_E1 (ck_S1 p33x_3120_s (ck_S1 p33x_3152_s (ck_S1 p33x_3153_s ck_S0))) ck_E0)))) ck_X0 ck_l0 p33x_3154_e
set_option maxRecDepth 100000 in
def p33x_3155 : ck_Sum := ((3, 0, 0), 245, [.inr (.inr (.inl 226)), .inl (ck_one 25), .inl (ck_one 1)], ([], [], [(227, 0, 0, ck_one 3), (244, 0, 5, ck_one 0), (243, 0, 5, ck_one 0), (227, 2, 9, ck_one 0), (226, 0, 0, ck_one 0)]), ([(226, 0, 0), (243, 0, 5), (244, 0, 2)], []), [(.inr (some (.inl (ck_one 0))), 245, ([], [], [(226, 0, 0, ck_one 0), (244, 0, 5, ck_one 0), (243, 0, 5, ck_one 0)]))])
set_option maxRecDepth 100000 in
theorem p33x_3155_e : ck_ok p1_O none [] [(287, [p33x_3117]), (283, [p33x_178]), (359, [p33x_3154]), (262, [p33x_182])] 358 [(40, [some (.inr (.inr (.inl 226))), some (.inl (ck_one 25)), some (.inl (ck_one 1)), some (.inl (ck_one 0)), some (.inl (1, 3, none))], ([], [], [(244, 0, 5, ck_one 0), (243, 0, 5, ck_one 0), (226, 0, 0, ck_one 0), (227, 0, 0, ck_one 3), (244, 3, 5, ck_one 0), (227, 2, 9, ck_one 0)]), 100, .inl 4, true)] 174 p33x_3155 = true := by decide +kernel
theorem p33x_3155_s {X : Int → Int} {LX : Nat} : ck_Ok p1_O X LX 358 p33x_3155 := ck_ok_s (ck_E1 (ck_S1 p33x_3117_s ck_S0) (ck_E1 (ck_S1 p33x_178_s ck_S0) (ck_E1 (ck_S1 p33x_3154_s ck_S0) (ck_E1 (ck_S1 p33x_182_s ck_S0) ck_E0)))) ck_X0 ck_l0 p33x_3155_e
set_option maxRecDepth 100000 in
def p33x_3158 : ck_Sum := ((3, 0, 0), 245, [.inr (.inr (.inl 226)), .inl (ck_one 25), .inl (ck_one 0)], ([], [], [(227, 0, 0, ck_one 3), (244, 0, 5, ck_one 0), (243, 0, 5, ck_one 0), (227, 2, 9, ck_one 0), (226, 0, 0, ck_one 0)]), ([(226, 0, 0), (243, 0, 5), (244, 0, 2)], []), [(.inr (some (.inl (ck_one 0))), 245, ([], [], [(226, 0, 0, ck_one 0), (244, 0, 5, ck_one 0), (243, 0, 5, ck_one 0)]))])
set_option maxRecDepth 100000 in
theorem p33x_3158_e : ck_ok p1_O none [] [(287, [p33x_3117]), (283, [p33x_178]), (359, [p33x_3154]), (262, [p33x_182])] 358 [(40, [some (.inr (.inr (.inl 226))), some (.inl (ck_one 25)), some (.inl (ck_one 0)), some (.inl (ck_one 0)), some (.inl (1, 3, none))], ([], [], [(244, 0, 5, ck_one 0), (243, 0, 5, ck_one 0), (226, 0, 0, ck_one 0), (227, 0, 0, ck_one 3), (244, 3, 5, ck_one 0), (227, 2, 9, ck_one 0)]), 100, .inl 4, true)] 174 p33x_3158 = true := by decide +kernel
theorem p33x_3158_s {X : Int → Int} {LX : Nat} : ck_Ok p1_O X LX 358 p33x_3158 := ck_ok_s (ck_E1 (ck_S1 p33x_3117_s ck_S0) (ck_E1 (ck_S1 p33x_178_s ck_S0) (ck_E1 (ck_S1 p33x_3154_s ck_S0) (ck_E1 (ck_S1 p33x_182_s ck_S0) ck_E0)))) ck_X0 ck_l0 p33x_3158_e
set_option maxRecDepth 100000 in
def p33x_3294 : ck_Sum := ((0, 0, 0), 245, [.inl (ck_one 26), .inl (ck_one 1), .inl (ck_one 30)], ([], [], []), ([], []), [(.inr (some (.inl (ck_one 1))), 245, ([], [], []))])
set_option maxRecDepth 100000 in
theorem p33x_3294_e : ck_ok p1_O none [] [] 287 [] 88 p33x_3294 = true := by decide +kernel
theorem p33x_3294_s {X : Int → Int} {LX : Nat} : ck_Ok p1_O X LX 287 p33x_3294 := ck_ok_s (ck_E0) ck_X0 ck_l0 p33x_3294_e
set_option maxRecDepth 100000 in
def p33x_3297 : ck_Sum := ((1, 0, 0), 245, [.inr (.inr (.inl 226)), .inl (ck_one 25), .inl (0, 2, none), .inl (ck_one 0)], ([], [], [(227, 2, 9, ck_one 0)]), ([], []), [(.inr (some (.inl (ck_one 0))), 245, ([], [], []))])
set_option maxRecDepth 100000 in
theorem p33x_3297_e : ck_ok p1_O none [] [(255, [p33x_179])] 334 [(6, [some (.inr (.inr (.inl 226))), some (.inl (ck_one 25)), some (.inl (0, 2, none)), some (.inl (ck_one 0)), some (.inl (ck_one 0)), some (.inl (ck_one 0))], ([], [], [(227, 2, 9, ck_one 0)]), 100, .inl 4, true)] 114 p33x_3297 = true := by decide +kernel
theorem p33x_3297_s {X : Int → Int} {LX : Nat} : ck_Ok p1_O X LX 334 p33x_3297 := ck_ok_s (ck_E1 (ck_S1 p33x_179_s ck_S0) ck_E0) ck_X0 ck_l0 p33x_3297_e
set_option maxRecDepth 100000 in
def p33x_3331 : ck_Sum := ((1, 0, 0), 245, [.inr (.inr (.inl 226)), .inl (0, 24, none), .inl (ck_one 0), .inl (ck_one 0)], ([], [], [(227, 2, 9, ck_one 0)]), ([], []), [(.inr (some (.inl (ck_one 0))), 245, ([], [], []))])
set_option maxRecDepth 100000 in
theorem p33x_3331_e : ck_ok p1_O none [] [(255, [p33x_179])] 334 [(6, [some (.inr (.inr (.inl 226))), some (.inl (0, 24, none)), some (.inl (ck_one 0)), some (.inl (ck_one 0)), some (.inl (ck_one 0)), some (.inl (ck_one 0))], ([], [], [(227, 2, 9, ck_one 0)]), 100, .inl 4, true)] 114 p33x_3331 = true := by decide +kernel
theorem p33x_3331_s {X : Int → Int} {LX : Nat} : ck_Ok p1_O X LX 334 p33x_3331 := ck_ok_s (ck_E1 (ck_S1 p33x_179_s ck_S0) ck_E0) ck_X0 ck_l0 p33x_3331_e
set_option maxRecDepth 100000 in
def p33x_3332 : ck_Sum := ((1, 0, 0), 245, [.inr (.inr (.inl 226)), .inl (0, 24, none), .inl (1, 2, none), .inl (ck_one 0)], ([], [], [(227, 2, 9, ck_one 0)]), ([], []), [(.inr (some (.inl (ck_one 0))), 245, ([], [], []))])
set_option maxRecDepth 100000 in
theorem p33x_3332_e : ck_ok p1_O none [] [(255, [p33x_179])] 334 [(6, [some (.inr (.inr (.inl 226))), some (.inl (0, 24, none)), some (.inl (1, 2, none)), some (.inl (ck_one 0)), some (.inl (ck_one 0)), some (.inl (ck_one 0))], ([], [], [(227, 2, 9, ck_one 0)]), 100, .inl 4, true)] 114 p33x_3332 = true := by decide +kernel
theorem p33x_3332_s {X : Int → Int} {LX : Nat} : ck_Ok p1_O X LX 334 p33x_3332 := ck_ok_s (ck_E1 (ck_S1 p33x_179_s ck_S0) ck_E0) ck_X0 ck_l0 p33x_3332_e
set_option maxRecDepth 100000 in
def p33x_3333 : ck_Sum := ((2, 0, 0), 245, [.inr (.inr (.inl 226)), .inl (ck_one 26)], ([], [], [(227, 0, 0, ck_one 3), (244, 0, 5, ck_one 0), (243, 0, 5, ck_one 0), (227, 2, 9, ck_one 0)]), ([(243, 0, 5), (244, 0, 2)], []), [(.inr none, 245, ([], [], [(244, 0, 5, ck_one 0), (243, 0, 5, ck_one 0)]))])
set_option maxRecDepth 100000 in
theorem p33x_3333_e : ck_ok p1_O none [] [(333, [p33x_180]), (267, [p33x_181]), (262, [p33x_182]), (334, [p33x_3297, p33x_3331, p33x_3332])] 359 [(6, [some (.inr (.inr (.inl 226))), some (.inl (ck_one 26)), some (.inl (0, 6, none)), none, none], ([], [], [(227, 0, 0, ck_one 3), (244, 0, 5, ck_one 0), (243, 0, 5, ck_one 0), (227, 2, 9, ck_one 0)]), 100, .inl 2, true), (34, [some (.inr (.inr (.inl 226))), some (.inl (ck_one 26)), some (.inl ((-1), 25, none)), none, none], ([], [], [(227, 0, 0, ck_one 3), (244, 0, 5, ck_one 0), (243, 0, 5, ck_one 0), (227, 2, 9, ck_one 0)]), 300, .inl 2, false), (44, [some (.inr (.inr (.inl 226))), some (.inl (ck_one 26)), some (.inl (0, 25, some (300, 0))), some (.inl (0, 3, none)), none], ([], [], [(227, 0, 0, ck_one 3), (244, 0, 5, ck_one 0), (243, 0, 5, ck_one 0), (227, 2, 9, ck_one 0)]), 500, .inl 3, true), (152, [some (.inr (.inr (.inl 226))), some (.inl (ck_one 26)), some (.inl (0, 25, some (300, 0))), some (.inl (0, 3, none)), none], ([], [], [(227, 0, 0, ck_one 3), (244, 0, 5, ck_one 0), (243, 0, 5, ck_one 0), (227, 2, 9, ck_one 0)]), 700, .inl 3, true)] 800 p33x_3333 = true := by decide +kernel
theorem p33x_3333_s {X : Int → Int} {LX : Nat} : ck_Ok p1_O X LX 359 p33x_3333 := ck_ok_s (ck_E1 (ck_S1 p33x_180_s ck_S0) (ck_E1 (ck_S1 p33x_181_s ck_S0) (ck_E1 (ck_S1 p33x_182_s ck_S0) (ck_E1 (ck_S1 p33x_3297_s (ck_S1 p33x_3331_s (ck_S1 p33x_3332_s ck_S0))) ck_E0)))) ck_X0 ck_l0 p33x_3333_e
set_option maxRecDepth 100000 in
def p33x_3334 : ck_Sum := ((3, 0, 0), 245, [.inr (.inr (.inl 226)), .inl (ck_one 26), .inl (ck_one 1)], ([], [], [(227, 0, 0, ck_one 3), (244, 0, 5, ck_one 0), (243, 0, 5, ck_one 0), (227, 2, 9, ck_one 0), (226, 0, 0, ck_one 0)]), ([(226, 0, 0), (243, 0, 5), (244, 0, 2)], []), [(.inr (some (.inl (ck_one 0))), 245, ([], [], [(226, 0, 0, ck_one 0), (244, 0, 5, ck_one 0), (243, 0, 5, ck_one 0)]))])
set_option maxRecDepth 100000 in
theorem p33x_3334_e : ck_ok p1_O none [] [(287, [p33x_3294]), (283, [p33x_178]), (359, [p33x_3333]), (262, [p33x_182])] 358 [(40, [some (.inr (.inr (.inl 226))), some (.inl (ck_one 26)), some (.inl (ck_one 1)), some (.inl (ck_one 0)), some (.inl (1, 3, none))], ([], [], [(244, 0, 5, ck_one 0), (243, 0, 5, ck_one 0), (226, 0, 0, ck_one 0), (227, 0, 0, ck_one 3), (244, 3, 5, ck_one 0), (227, 2, 9, ck_one 0)]), 100, .inl 4, true)] 174 p33x_3334 = true := by decide +kernel
theorem p33x_3334_s {X : Int → Int} {LX : Nat} : ck_Ok p1_O X LX 358 p33x_3334 := ck_ok_s (ck_E1 (ck_S1 p33x_3294_s ck_S0) (ck_E1 (ck_S1 p33x_178_s ck_S0) (ck_E1 (ck_S1 p33x_3333_s ck_S0) (ck_E1 (ck_S1 p33x_182_s ck_S0) ck_E0)))) ck_X0 ck_l0 p33x_3334_e
set_option maxRecDepth 100000 in
def p33x_3337 : ck_Sum := ((3, 0, 0), 245, [.inr (.inr (.inl 226)), .inl (ck_one 26), .inl (ck_one 0)], ([], [], [(227, 0, 0, ck_one 3), (244, 0, 5, ck_one 0), (243, 0, 5, ck_one 0), (227, 2, 9, ck_one 0), (226, 0, 0, ck_one 0)]), ([(226, 0, 0), (243, 0, 5), (244, 0, 2)], []), [(.inr (some (.inl (ck_one 0))), 245, ([], [], [(226, 0, 0, ck_one 0), (244, 0, 5, ck_one 0), (243, 0, 5, ck_one 0)]))])
set_option maxRecDepth 100000 in
theorem p33x_3337_e : ck_ok p1_O none [] [(287, [p33x_3294]), (283, [p33x_178]), (359, [p33x_3333]), (262, [p33x_182])] 358 [(40, [some (.inr (.inr (.inl 226))), some (.inl (ck_one 26)), some (.inl (ck_one 0)), some (.inl (ck_one 0)), some (.inl (1, 3, none))], ([], [], [(244, 0, 5, ck_one 0), (243, 0, 5, ck_one 0), (226, 0, 0, ck_one 0), (227, 0, 0, ck_one 3), (244, 3, 5, ck_one 0), (227, 2, 9, ck_one 0)]), 100, .inl 4, true)] 174 p33x_3337 = true := by decide +kernel
theorem p33x_3337_s {X : Int → Int} {LX : Nat} : ck_Ok p1_O X LX 358 p33x_3337 := ck_ok_s (ck_E1 (ck_S1 p33x_3294_s ck_S0) (ck_E1 (ck_S1 p33x_178_s ck_S0) (ck_E1 (ck_S1 p33x_3333_s ck_S0) (ck_E1 (ck_S1 p33x_182_s ck_S0) ck_E0)))) ck_X0 ck_l0 p33x_3337_e
set_option maxRecDepth 100000 in
def p33x_3479 : ck_Sum := ((0, 0, 0), 245, [.inl (ck_one 27), .inl (ck_one 1), .inl (ck_one 30)], ([], [], []), ([], []), [(.inr (some (.inl (ck_one 1))), 245, ([], [], []))])
set_option maxRecDepth 100000 in
theorem p33x_3479_e : ck_ok p1_O none [] [] 287 [] 88 p33x_3479 = true := by decide +kernel
theorem p33x_3479_s {X : Int → Int} {LX : Nat} : ck_Ok p1_O X LX 287 p33x_3479 := ck_ok_s (ck_E0) ck_X0 ck_l0 p33x_3479_e
set_option maxRecDepth 100000 in
def p33x_3482 : ck_Sum := ((1, 0, 0), 245, [.inr (.inr (.inl 226)), .inl (ck_one 26), .inl (0, 2, none), .inl (ck_one 0)], ([], [], [(227, 2, 9, ck_one 0)]), ([], []), [(.inr (some (.inl (ck_one 0))), 245, ([], [], []))])
set_option maxRecDepth 100000 in
theorem p33x_3482_e : ck_ok p1_O none [] [(255, [p33x_179])] 334 [(6, [some (.inr (.inr (.inl 226))), some (.inl (ck_one 26)), some (.inl (0, 2, none)), some (.inl (ck_one 0)), some (.inl (ck_one 0)), some (.inl (ck_one 0))], ([], [], [(227, 2, 9, ck_one 0)]), 100, .inl 4, true)] 114 p33x_3482 = true := by decide +kernel
theorem p33x_3482_s {X : Int → Int} {LX : Nat} : ck_Ok p1_O X LX 334 p33x_3482 := ck_ok_s (ck_E1 (ck_S1 p33x_179_s ck_S0) ck_E0) ck_X0 ck_l0 p33x_3482_e
set_option maxRecDepth 100000 in
def p33x_3518 : ck_Sum := ((1, 0, 0), 245, [.inr (.inr (.inl 226)), .inl (0, 25, none), .inl (ck_one 0), .inl (ck_one 0)], ([], [], [(227, 2, 9, ck_one 0)]), ([], []), [(.inr (some (.inl (ck_one 0))), 245, ([], [], []))])
set_option maxRecDepth 100000 in
theorem p33x_3518_e : ck_ok p1_O none [] [(255, [p33x_179])] 334 [(6, [some (.inr (.inr (.inl 226))), some (.inl (0, 25, none)), some (.inl (ck_one 0)), some (.inl (ck_one 0)), some (.inl (ck_one 0)), some (.inl (ck_one 0))], ([], [], [(227, 2, 9, ck_one 0)]), 100, .inl 4, true)] 114 p33x_3518 = true := by decide +kernel
theorem p33x_3518_s {X : Int → Int} {LX : Nat} : ck_Ok p1_O X LX 334 p33x_3518 := ck_ok_s (ck_E1 (ck_S1 p33x_179_s ck_S0) ck_E0) ck_X0 ck_l0 p33x_3518_e
set_option maxRecDepth 100000 in
def p33x_3519 : ck_Sum := ((1, 0, 0), 245, [.inr (.inr (.inl 226)), .inl (0, 25, none), .inl (1, 2, none), .inl (ck_one 0)], ([], [], [(227, 2, 9, ck_one 0)]), ([], []), [(.inr (some (.inl (ck_one 0))), 245, ([], [], []))])
set_option maxRecDepth 100000 in
theorem p33x_3519_e : ck_ok p1_O none [] [(255, [p33x_179])] 334 [(6, [some (.inr (.inr (.inl 226))), some (.inl (0, 25, none)), some (.inl (1, 2, none)), some (.inl (ck_one 0)), some (.inl (ck_one 0)), some (.inl (ck_one 0))], ([], [], [(227, 2, 9, ck_one 0)]), 100, .inl 4, true)] 114 p33x_3519 = true := by decide +kernel
theorem p33x_3519_s {X : Int → Int} {LX : Nat} : ck_Ok p1_O X LX 334 p33x_3519 := ck_ok_s (ck_E1 (ck_S1 p33x_179_s ck_S0) ck_E0) ck_X0 ck_l0 p33x_3519_e
set_option maxRecDepth 100000 in
def p33x_3520 : ck_Sum := ((2, 0, 0), 245, [.inr (.inr (.inl 226)), .inl (ck_one 27)], ([], [], [(227, 0, 0, ck_one 3), (244, 0, 5, ck_one 0), (243, 0, 5, ck_one 0), (227, 2, 9, ck_one 0)]), ([(243, 0, 5), (244, 0, 2)], []), [(.inr none, 245, ([], [], [(244, 0, 5, ck_one 0), (243, 0, 5, ck_one 0)]))])
set_option maxRecDepth 100000 in
theorem p33x_3520_e : ck_ok p1_O none [] [(333, [p33x_180]), (267, [p33x_181]), (262, [p33x_182]), (334, [p33x_3482, p33x_3518, p33x_3519])] 359 [(6, [some (.inr (.inr (.inl 226))), some (.inl (ck_one 27)), some (.inl (0, 6, none)), none, none], ([], [], [(227, 0, 0, ck_one 3), (244, 0, 5, ck_one 0), (243, 0, 5, ck_one 0), (227, 2, 9, ck_one 0)]), 100, .inl 2, true), (34, [some (.inr (.inr (.inl 226))), some (.inl (ck_one 27)), some (.inl ((-1), 26, none)), none, none], ([], [], [(227, 0, 0, ck_one 3), (244, 0, 5, ck_one 0), (243, 0, 5, ck_one 0), (227, 2, 9, ck_one 0)]), 300, .inl 2, false), (44, [some (.inr (.inr (.inl 226))), some (.inl (ck_one 27)), some (.inl (0, 26, some (300, 0))), some (.inl (0, 3, none)), none], ([], [], [(227, 0, 0, ck_one 3), (244, 0, 5, ck_one 0), (243, 0, 5, ck_one 0), (227, 2, 9, ck_one 0)]), 500, .inl 3, true), (152, [some (.inr (.inr (.inl 226))), some (.inl (ck_one 27)), some (.inl (0, 26, some (300, 0))), some (.inl (0, 3, none)), none], ([], [], [(227, 0, 0, ck_one 3), (244, 0, 5, ck_one 0), (243, 0, 5, ck_one 0), (227, 2, 9, ck_one 0)]), 700, .inl 3, true)] 800 p33x_3520 = true := by decide +kernel
theorem p33x_3520_s {X : Int → Int} {LX : Nat} : ck_Ok p1_O X LX 359 p33x_3520 := ck_ok_s (ck_E1 (ck_S1 p33x_180_s ck_S0) (ck_E1 (ck_S1 p33x_181_s ck_S0) (ck_E1 (ck_S1 p33x_182_s ck_S0) (ck_E1 (ck_S1 p33x_3482_s (ck_S1 p33x_3518_s (ck_S1 p33x_3519_s ck_S0))) ck_E0)))) ck_X0 ck_l0 p33x_3520_e
set_option maxRecDepth 100000 in
def p33x_3521 : ck_Sum := ((3, 0, 0), 245, [.inr (.inr (.inl 226)), .inl (ck_one 27), .inl (ck_one 1)], ([], [], [(227, 0, 0, ck_one 3), (244, 0, 5, ck_one 0), (243, 0, 5, ck_one 0), (227, 2, 9, ck_one 0), (226, 0, 0, ck_one 0)]), ([(226, 0, 0), (243, 0, 5), (244, 0, 2)], []), [(.inr (some (.inl (ck_one 0))), 245, ([], [], [(226, 0, 0, ck_one 0), (244, 0, 5, ck_one 0), (243, 0, 5, ck_one 0)]))])
set_option maxRecDepth 100000 in
theorem p33x_3521_e : ck_ok p1_O none [] [(287, [p33x_3479]), (283, [p33x_178]), (359, [p33x_3520]), (262, [p33x_182])] 358 [(40, [some (.inr (.inr (.inl 226))), some (.inl (ck_one 27)), some (.inl (ck_one 1)), some (.inl (ck_one 0)), some (.inl (1, 3, none))], ([], [], [(244, 0, 5, ck_one 0), (243, 0, 5, ck_one 0), (226, 0, 0, ck_one 0), (227, 0, 0, ck_one 3), (244, 3, 5, ck_one 0), (227, 2, 9, ck_one 0)]), 100, .inl 4, true)] 174 p33x_3521 = true := by decide +kernel
theorem p33x_3521_s {X : Int → Int} {LX : Nat} : ck_Ok p1_O X LX 358 p33x_3521 := ck_ok_s (ck_E1 (ck_S1 p33x_3479_s ck_S0) (ck_E1 (ck_S1 p33x_178_s ck_S0) (ck_E1 (ck_S1 p33x_3520_s ck_S0) (ck_E1 (ck_S1 p33x_182_s ck_S0) ck_E0)))) ck_X0 ck_l0 p33x_3521_e
set_option maxRecDepth 100000 in
def p33x_3524 : ck_Sum := ((3, 0, 0), 245, [.inr (.inr (.inl 226)), .inl (ck_one 27), .inl (ck_one 0)], ([], [], [(227, 0, 0, ck_one 3), (244, 0, 5, ck_one 0), (243, 0, 5, ck_one 0), (227, 2, 9, ck_one 0), (226, 0, 0, ck_one 0)]), ([(226, 0, 0), (243, 0, 5), (244, 0, 2)], []), [(.inr (some (.inl (ck_one 0))), 245, ([], [], [(226, 0, 0, ck_one 0), (244, 0, 5, ck_one 0), (243, 0, 5, ck_one 0)]))])
set_option maxRecDepth 100000 in
theorem p33x_3524_e : ck_ok p1_O none [] [(287, [p33x_3479]), (283, [p33x_178]), (359, [p33x_3520]), (262, [p33x_182])] 358 [(40, [some (.inr (.inr (.inl 226))), some (.inl (ck_one 27)), some (.inl (ck_one 0)), some (.inl (ck_one 0)), some (.inl (1, 3, none))], ([], [], [(244, 0, 5, ck_one 0), (243, 0, 5, ck_one 0), (226, 0, 0, ck_one 0), (227, 0, 0, ck_one 3), (244, 3, 5, ck_one 0), (227, 2, 9, ck_one 0)]), 100, .inl 4, true)] 174 p33x_3524 = true := by decide +kernel
theorem p33x_3524_s {X : Int → Int} {LX : Nat} : ck_Ok p1_O X LX 358 p33x_3524 := ck_ok_s (ck_E1 (ck_S1 p33x_3479_s ck_S0) (ck_E1 (ck_S1 p33x_178_s ck_S0) (ck_E1 (ck_S1 p33x_3520_s ck_S0) (ck_E1 (ck_S1 p33x_182_s ck_S0) ck_E0)))) ck_X0 ck_l0 p33x_3524_e
set_option maxRecDepth 100000 in
def p33x_3666 : ck_Sum := ((0, 0, 0), 245, [.inl (ck_one 28), .inl (ck_one 1), .inl (ck_one 30)], ([], [], []), ([], []), [(.inr (some (.inl (ck_one 1))), 245, ([], [], []))])
set_option maxRecDepth 100000 in
theorem p33x_3666_e : ck_ok p1_O none [] [] 287 [] 88 p33x_3666 = true := by decide +kernel
theorem p33x_3666_s {X : Int → Int} {LX : Nat} : ck_Ok p1_O X LX 287 p33x_3666 := ck_ok_s (ck_E0) ck_X0 ck_l0 p33x_3666_e
set_option maxRecDepth 100000 in
def p33x_3669 : ck_Sum := ((1, 0, 0), 245, [.inr (.inr (.inl 226)), .inl (ck_one 27), .inl (0, 2, none), .inl (ck_one 0)], ([], [], [(227, 2, 9, ck_one 0)]), ([], []), [(.inr (some (.inl (ck_one 0))), 245, ([], [], []))])
set_option maxRecDepth 100000 in
theorem p33x_3669_e : ck_ok p1_O none [] [(255, [p33x_179])] 334 [(6, [some (.inr (.inr (.inl 226))), some (.inl (ck_one 27)), some (.inl (0, 2, none)), some (.inl (ck_one 0)), some (.inl (ck_one 0)), some (.inl (ck_one 0))], ([], [], [(227, 2, 9, ck_one 0)]), 100, .inl 4, true)] 114 p33x_3669 = true := by decide +kernel
theorem p33x_3669_s {X : Int → Int} {LX : Nat} : ck_Ok p1_O X LX 334 p33x_3669 := ck_ok_s (ck_E1 (ck_S1 p33x_179_s ck_S0) ck_E0) ck_X0 ck_l0 p33x_3669_e
set_option maxRecDepth 100000 in
def p33x_3706 : ck_Sum := ((1, 0, 0), 245, [.inr (.inr (.inl 226)), .inl (0, 26, none), .inl (ck_one 0), .inl (ck_one 0)], ([], [], [(227, 2, 9, ck_one 0)]), ([], []), [(.inr (some (.inl (ck_one 0))), 245, ([], [], []))])
set_option maxRecDepth 100000 in
theorem p33x_3706_e : ck_ok p1_O none [] [(255, [p33x_179])] 334 [(6, [some (.inr (.inr (.inl 226))), some (.inl (0, 26, none)), some (.inl (ck_one 0)), some (.inl (ck_one 0)), some (.inl (ck_one 0)), some (.inl (ck_one 0))], ([], [], [(227, 2, 9, ck_one 0)]), 100, .inl 4, true)] 114 p33x_3706 = true := by decide +kernel
theorem p33x_3706_s {X : Int → Int} {LX : Nat} : ck_Ok p1_O X LX 334 p33x_3706 := ck_ok_s (ck_E1 (ck_S1 p33x_179_s ck_S0) ck_E0) ck_X0 ck_l0 p33x_3706_e
set_option maxRecDepth 100000 in
def p33x_3707 : ck_Sum := ((1, 0, 0), 245, [.inr (.inr (.inl 226)), .inl (0, 26, none), .inl (1, 2, none), .inl (ck_one 0)], ([], [], [(227, 2, 9, ck_one 0)]), ([], []), [(.inr (some (.inl (ck_one 0))), 245, ([], [], []))])
set_option maxRecDepth 100000 in
theorem p33x_3707_e : ck_ok p1_O none [] [(255, [p33x_179])] 334 [(6, [some (.inr (.inr (.inl 226))), some (.inl (0, 26, none)), some (.inl (1, 2, none)), some (.inl (ck_one 0)), some (.inl (ck_one 0)), some (.inl (ck_one 0))], ([], [], [(227, 2, 9, ck_one 0)]), 100, .inl 4, true)] 114 p33x_3707 = true := by decide +kernel
theorem p33x_3707_s {X : Int → Int} {LX : Nat} : ck_Ok p1_O X LX 334 p33x_3707 := ck_ok_s (ck_E1 (ck_S1 p33x_179_s ck_S0) ck_E0) ck_X0 ck_l0 p33x_3707_e
set_option maxRecDepth 100000 in
def p33x_3708 : ck_Sum := ((2, 0, 0), 245, [.inr (.inr (.inl 226)), .inl (ck_one 28)], ([], [], [(227, 0, 0, ck_one 3), (244, 0, 5, ck_one 0), (243, 0, 5, ck_one 0), (227, 2, 9, ck_one 0)]), ([(243, 0, 5), (244, 0, 2)], []), [(.inr none, 245, ([], [], [(244, 0, 5, ck_one 0), (243, 0, 5, ck_one 0)]))])
set_option maxRecDepth 100000 in
theorem p33x_3708_e : ck_ok p1_O none [] [(333, [p33x_180]), (267, [p33x_181]), (262, [p33x_182]), (334, [p33x_3669, p33x_3706, p33x_3707])] 359 [(6, [some (.inr (.inr (.inl 226))), some (.inl (ck_one 28)), some (.inl (0, 6, none)), none, none], ([], [], [(227, 0, 0, ck_one 3), (244, 0, 5, ck_one 0), (243, 0, 5, ck_one 0), (227, 2, 9, ck_one 0)]), 100, .inl 2, true), (34, [some (.inr (.inr (.inl 226))), some (.inl (ck_one 28)), some (.inl ((-1), 27, none)), none, none], ([], [], [(227, 0, 0, ck_one 3), (244, 0, 5, ck_one 0), (243, 0, 5, ck_one 0), (227, 2, 9, ck_one 0)]), 300, .inl 2, false), (44, [some (.inr (.inr (.inl 226))), some (.inl (ck_one 28)), some (.inl (0, 27, some (300, 0))), some (.inl (0, 3, none)), none], ([], [], [(227, 0, 0, ck_one 3), (244, 0, 5, ck_one 0), (243, 0, 5, ck_one 0), (227, 2, 9, ck_one 0)]), 500, .inl 3, true), (152, [some (.inr (.inr (.inl 226))), some (.inl (ck_one 28)), some (.inl (0, 27, some (300, 0))), some (.inl (0, 3, none)), none], ([], [], [(227, 0, 0, ck_one 3), (244, 0, 5, ck_one 0), (243, 0, 5, ck_one 0), (227, 2, 9, ck_one 0)]), 700, .inl 3, true)] 800 p33x_3708 = true := by decide +kernel
theorem p33x_3708_s {X : Int → Int} {LX : Nat} : ck_Ok p1_O X LX 359 p33x_3708 := ck_ok_s (ck_E1 (ck_S1 p33x_180_s ck_S0) (ck_E1 (ck_S1 p33x_181_s ck_S0) (ck_E1 (ck_S1 p33x_182_s ck_S0) (ck_E1 (ck_S1 p33x_3669_s (ck_S1 p33x_3706_s (ck_S1 p33x_3707_s ck_S0))) ck_E0)))) ck_X0 ck_l0 p33x_3708_e
set_option maxRecDepth 100000 in
def p33x_3709 : ck_Sum := ((3, 0, 0), 245, [.inr (.inr (.inl 226)), .inl (ck_one 28), .inl (ck_one 1)], ([], [], [(227, 0, 0, ck_one 3), (244, 0, 5, ck_one 0), (243, 0, 5, ck_one 0), (227, 2, 9, ck_one 0), (226, 0, 0, ck_one 0)]), ([(226, 0, 0), (243, 0, 5), (244, 0, 2)], []), [(.inr (some (.inl (ck_one 0))), 245, ([], [], [(226, 0, 0, ck_one 0), (244, 0, 5, ck_one 0), (243, 0, 5, ck_one 0)]))])
set_option maxRecDepth 100000 in
theorem p33x_3709_e : ck_ok p1_O none [] [(287, [p33x_3666]), (283, [p33x_178]), (359, [p33x_3708]), (262, [p33x_182])] 358 [(40, [some (.inr (.inr (.inl 226))), some (.inl (ck_one 28)), some (.inl (ck_one 1)), some (.inl (ck_one 0)), some (.inl (1, 3, none))], ([], [], [(244, 0, 5, ck_one 0), (243, 0, 5, ck_one 0), (226, 0, 0, ck_one 0), (227, 0, 0, ck_one 3), (244, 3, 5, ck_one 0), (227, 2, 9, ck_one 0)]), 100, .inl 4, true)] 174 p33x_3709 = true := by decide +kernel
theorem p33x_3709_s {X : Int → Int} {LX : Nat} : ck_Ok p1_O X LX 358 p33x_3709 := ck_ok_s (ck_E1 (ck_S1 p33x_3666_s ck_S0) (ck_E1 (ck_S1 p33x_178_s ck_S0) (ck_E1 (ck_S1 p33x_3708_s ck_S0) (ck_E1 (ck_S1 p33x_182_s ck_S0) ck_E0)))) ck_X0 ck_l0 p33x_3709_e
set_option maxRecDepth 100000 in
def p33x_3712 : ck_Sum := ((3, 0, 0), 245, [.inr (.inr (.inl 226)), .inl (ck_one 28), .inl (ck_one 0)], ([], [], [(227, 0, 0, ck_one 3), (244, 0, 5, ck_one 0), (243, 0, 5, ck_one 0), (227, 2, 9, ck_one 0), (226, 0, 0, ck_one 0)]), ([(226, 0, 0), (243, 0, 5), (244, 0, 2)], []), [(.inr (some (.inl (ck_one 0))), 245, ([], [], [(226, 0, 0, ck_one 0), (244, 0, 5, ck_one 0), (243, 0, 5, ck_one 0)]))])
set_option maxRecDepth 100000 in
theorem p33x_3712_e : ck_ok p1_O none [] [(287, [p33x_3666]), (283, [p33x_178]), (359, [p33x_3708]), (262, [p33x_182])] 358 [(40, [some (.inr (.inr (.inl 226))), some (.inl (ck_one 28)), some (.inl (ck_one 0)), some (.inl (ck_one 0)), some (.inl (1, 3, none))], ([], [], [(244, 0, 5, ck_one 0), (243, 0, 5, ck_one 0), (226, 0, 0, ck_one 0), (227, 0, 0, ck_one 3), (244, 3, 5, ck_one 0), (227, 2, 9, ck_one 0)]), 100, .inl 4, true)] 174 p33x_3712 = true := by decide +kernel
theorem p33x_3712_s {X : Int → Int} {LX : Nat} : ck_Ok p1_O X LX 358 p33x_3712 := ck_ok_s (ck_E1 (ck_S1 p33x_3666_s ck_S0) (ck_E1 (ck_S1 p33x_178_s ck_S0) (ck_E1 (ck_S1 p33x_3708_s ck_S0) (ck_E1 (ck_S1 p33x_182_s ck_S0) ck_E0)))) ck_X0 ck_l0 p33x_3712_e
set_option maxRecDepth 100000 in
def p33x_3854 : ck_Sum := ((0, 0, 0), 245, [.inl (ck_one 29), .inl (ck_one 1), .inl (ck_one 30)], ([], [], []), ([], []), [(.inr (some (.inl (ck_one 1))), 245, ([], [], []))])
set_option maxRecDepth 100000 in
theorem p33x_3854_e : ck_ok p1_O none [] [] 287 [] 88 p33x_3854 = true := by decide +kernel
theorem p33x_3854_s {X : Int → Int} {LX : Nat} : ck_Ok p1_O X LX 287 p33x_3854 := ck_ok_s (ck_E0) ck_X0 ck_l0 p33x_3854_e
set_option maxRecDepth 100000 in
def p33x_3857 : ck_Sum := ((1, 0, 0), 245, [.inr (.inr (.inl 226)), .inl (ck_one 28), .inl (0, 2, none), .inl (ck_one 0)], ([], [], [(227, 2, 9, ck_one 0)]), ([], []), [(.inr (some (.inl (ck_one 0))), 245, ([], [], []))])
set_option maxRecDepth 100000 in
theorem p33x_3857_e : ck_ok p1_O none [] [(255, [p33x_179])] 334 [(6, [some (.inr (.inr (.inl 226))), some (.inl (ck_one 28)), some (.inl (0, 2, none)), some (.inl (ck_one 0)), some (.inl (ck_one 0)), some (.inl (ck_one 0))], ([], [], [(227, 2, 9, ck_one 0)]), 100, .inl 4, true)] 114 p33x_3857 = true := by decide +kernel
theorem p33x_3857_s {X : Int → Int} {LX : Nat} : ck_Ok p1_O X LX 334 p33x_3857 := ck_ok_s (ck_E1 (ck_S1 p33x_179_s ck_S0) ck_E0) ck_X0 ck_l0 p33x_3857_e
set_option maxRecDepth 100000 in
def p33x_3894 : ck_Sum := ((1, 0, 0), 245, [.inr (.inr (.inl 226)), .inl (0, 27, none), .inl (ck_one 0), .inl (ck_one 0)], ([], [], [(227, 2, 9, ck_one 0)]), ([], []), [(.inr (some (.inl (ck_one 0))), 245, ([], [], []))])
set_option maxRecDepth 100000 in
theorem p33x_3894_e : ck_ok p1_O none [] [(255, [p33x_179])] 334 [(6, [some (.inr (.inr (.inl 226))), some (.inl (0, 27, none)), some (.inl (ck_one 0)), some (.inl (ck_one 0)), some (.inl (ck_one 0)), some (.inl (ck_one 0))], ([], [], [(227, 2, 9, ck_one 0)]), 100, .inl 4, true)] 114 p33x_3894 = true := by decide +kernel
theorem p33x_3894_s {X : Int → Int} {LX : Nat} : ck_Ok p1_O X LX 334 p33x_3894 := ck_ok_s (ck_E1 (ck_S1 p33x_179_s ck_S0) ck_E0) ck_X0 ck_l0 p33x_3894_e
set_option maxRecDepth 100000 in
def p33x_3895 : ck_Sum := ((1, 0, 0), 245, [.inr (.inr (.inl 226)), .inl (0, 27, none), .inl (1, 2, none), .inl (ck_one 0)], ([], [], [(227, 2, 9, ck_one 0)]), ([], []), [(.inr (some (.inl (ck_one 0))), 245, ([], [], []))])
set_option maxRecDepth 100000 in
theorem p33x_3895_e : ck_ok p1_O none [] [(255, [p33x_179])] 334 [(6, [some (.inr (.inr (.inl 226))), some (.inl (0, 27, none)), some (.inl (1, 2, none)), some (.inl (ck_one 0)), some (.inl (ck_one 0)), some (.inl (ck_one 0))], ([], [], [(227, 2, 9, ck_one 0)]), 100, .inl 4, true)] 114 p33x_3895 = true := by decide +kernel
theorem p33x_3895_s {X : Int → Int} {LX : Nat} : ck_Ok p1_O X LX 334 p33x_3895 := ck_ok_s (ck_E1 (ck_S1 p33x_179_s ck_S0) ck_E0) ck_X0 ck_l0 p33x_3895_e
set_option maxRecDepth 100000 in
def p33x_3896 : ck_Sum := ((2, 0, 0), 245, [.inr (.inr (.inl 226)), .inl (ck_one 29)], ([], [], [(227, 0, 0, ck_one 3), (244, 0, 5, ck_one 0), (243, 0, 5, ck_one 0), (227, 2, 9, ck_one 0)]), ([(243, 0, 5), (244, 0, 2)], []), [(.inr none, 245, ([], [], [(244, 0, 5, ck_one 0), (243, 0, 5, ck_one 0)]))])
set_option maxRecDepth 100000 in
theorem p33x_3896_e : ck_ok p1_O none [] [(333, [p33x_180]), (267, [p33x_181]), (262, [p33x_182]), (334, [p33x_3857, p33x_3894, p33x_3895])] 359 [(6, [some (.inr (.inr (.inl 226))), some (.inl (ck_one 29)), some (.inl (0, 6, none)), none, none], ([], [], [(227, 0, 0, ck_one 3), (244, 0, 5, ck_one 0), (243, 0, 5, ck_one 0), (227, 2, 9, ck_one 0)]), 100, .inl 2, true), (34, [some (.inr (.inr (.inl 226))), some (.inl (ck_one 29)), some (.inl ((-1), 28, none)), none, none], ([], [], [(227, 0, 0, ck_one 3), (244, 0, 5, ck_one 0), (243, 0, 5, ck_one 0), (227, 2, 9, ck_one 0)]), 300, .inl 2, false), (44, [some (.inr (.inr (.inl 226))), some (.inl (ck_one 29)), some (.inl (0, 28, some (300, 0))), some (.inl (0, 3, none)), none], ([], [], [(227, 0, 0, ck_one 3), (244, 0, 5, ck_one 0), (243, 0, 5, ck_one 0), (227, 2, 9, ck_one 0)]), 500, .inl 3, true), (152, [some (.inr (.inr (.inl 226))), some (.inl (ck_one 29)), some (.inl (0, 28, some (300, 0))), some (.inl (0, 3, none)), none], ([], [], [(227, 0, 0, ck_one 3), (244, 0, 5, ck_one 0), (243, 0, 5, ck_one 0), (227, 2, 9, ck_one 0)]), 700, .inl 3, true)] 800 p33x_3896 = true := by decide +kernel
theorem p33x_3896_s {X : Int → Int} {LX : Nat} : ck_Ok p1_O X LX 359 p33x_3896 := ck_ok_s (ck_E1 (ck_S1 p33x_180_s ck_S0) (ck_E1 (ck_S1 p33x_181_s ck_S0) (ck_E1 (ck_S1 p33x_182_s ck_S0) (ck_E1 (ck_S1 p33x_3857_s (ck_S1 p33x_3894_s (ck_S1 p33x_3895_s ck_S0))) ck_E0)))) ck_X0 ck_l0 p33x_3896_e
set_option maxRecDepth 100000 in
def p33x_3897 : ck_Sum := ((3, 0, 0), 245, [.inr (.inr (.inl 226)), .inl (ck_one 29), .inl (ck_one 1)], ([], [], [(227, 0, 0, ck_one 3), (244, 0, 5, ck_one 0), (243, 0, 5, ck_one 0), (227, 2, 9, ck_one 0), (226, 0, 0, ck_one 0)]), ([(226, 0, 0), (243, 0, 5), (244, 0, 2)], []), [(.inr (some (.inl (ck_one 0))), 245, ([], [], [(226, 0, 0, ck_one 0), (244, 0, 5, ck_one 0), (243, 0, 5, ck_one 0)]))])
set_option maxRecDepth 100000 in
theorem p33x_3897_e : ck_ok p1_O none [] [(287, [p33x_3854]), (283, [p33x_178]), (359, [p33x_3896]), (262, [p33x_182])] 358 [(40, [some (.inr (.inr (.inl 226))), some (.inl (ck_one 29)), some (.inl (ck_one 1)), some (.inl (ck_one 0)), some (.inl (1, 3, none))], ([], [], [(244, 0, 5, ck_one 0), (243, 0, 5, ck_one 0), (226, 0, 0, ck_one 0), (227, 0, 0, ck_one 3), (244, 3, 5, ck_one 0), (227, 2, 9, ck_one 0)]), 100, .inl 4, true)] 174 p33x_3897 = true := by decide +kernel
theorem p33x_3897_s {X : Int → Int} {LX : Nat} : ck_Ok p1_O X LX 358 p33x_3897 := ck_ok_s (ck_E1 (ck_S1 p33x_3854_s ck_S0) (ck_E1 (ck_S1 p33x_178_s ck_S0) (ck_E1 (ck_S1 p33x_3896_s ck_S0) (ck_E1 (ck_S1 p33x_182_s ck_S0) ck_E0)))) ck_X0 ck_l0 p33x_3897_e
set_option maxRecDepth 100000 in
def p33x_3900 : ck_Sum := ((3, 0, 0), 245, [.inr (.inr (.inl 226)), .inl (ck_one 29), .inl (ck_one 0)], ([], [], [(227, 0, 0, ck_one 3), (244, 0, 5, ck_one 0), (243, 0, 5, ck_one 0), (227, 2, 9, ck_one 0), (226, 0, 0, ck_one 0)]), ([(226, 0, 0), (243, 0, 5), (244, 0, 2)], []), [(.inr (some (.inl (ck_one 0))), 245, ([], [], [(226, 0, 0, ck_one 0), (244, 0, 5, ck_one 0), (243, 0, 5, ck_one 0)]))])
set_option maxRecDepth 100000 in
theorem p33x_3900_e : ck_ok p1_O none [] [(287, [p33x_3854]), (283, [p33x_178]), (359, [p33x_3896]), (262, [p33x_182])] 358 [(40, [some (.inr (.inr (.inl 226))), some (.inl (ck_one 29)), some (.inl (ck_one 0)), some (.inl (ck_one 0)), some (.inl (1, 3, none))], ([], [], [(244, 0, 5, ck_one 0), (243, 0, 5, ck_one 0), (226, 0, 0, ck_one 0), (227, 0, 0, ck_one 3), (244, 3, 5, ck_one 0), (227, 2, 9, ck_one 0)]), 100, .inl 4, true)] 174 p33x_3900 = true := by decide +kernel
theorem p33x_3900_s {X : Int → Int} {LX : Nat} : ck_Ok p1_O X LX 358 p33x_3900 := ck_ok_s (ck_E1 (ck_S1 p33x_3854_s ck_S0) (ck_E1 (ck_S1 p33x_178_s ck_S0) (ck_E1 (ck_S1 p33x_3896_s ck_S0) (ck_E1 (ck_S1 p33x_182_s ck_S0) ck_E0)))) ck_X0 ck_l0 p33x_3900_e
set_option maxRecDepth 100000 in
def p33x_4042 : ck_Sum := ((0, 0, 0), 245, [.inl (ck_one 30), .inl (ck_one 1), .inl (ck_one 30)], ([], [], []), ([], []), [(.inr (some (.inl (ck_one 1))), 245, ([], [], []))])
set_option maxRecDepth 100000 in
theorem p33x_4042_e : ck_ok p1_O none [] [] 287 [] 88 p33x_4042 = true := by decide +kernel
theorem p33x_4042_s {X : Int → Int} {LX : Nat} : ck_Ok p1_O X LX 287 p33x_4042 := ck_ok_s (ck_E0) ck_X0 ck_l0 p33x_4042_e
set_option maxRecDepth 100000 in
def p33x_4045 : ck_Sum := ((1, 0, 0), 245, [.inr (.inr (.inl 226)), .inl (ck_one 29), .inl (0, 2, none), .inl (ck_one 0)], ([], [], [(227, 2, 9, ck_one 0)]), ([], []), [(.inr (some (.inl (ck_one 0))), 245, ([], [], []))])
set_option maxRecDepth 100000 in
theorem p33x_4045_e : ck_ok p1_O none [] [(255, [p33x_179])] 334 [(6, [some (.inr (.inr (.inl 226))), some (.inl (ck_one 29)), some (.inl (0, 2, none)), some (.inl (ck_one 0)), some (.inl (ck_one 0)), some (.inl (ck_one 0))], ([], [], [(227, 2, 9, ck_one 0)]), 100, .inl 4, true)] 114 p33x_4045 = true := by decide +kernel
theorem p33x_4045_s {X : Int → Int} {LX : Nat} : ck_Ok p1_O X LX 334 p33x_4045 := ck_ok_s (ck_E1 (ck_S1 p33x_179_s ck_S0) ck_E0) ck_X0 ck_l0 p33x_4045_e
set_option maxRecDepth 100000 in
def p33x_4082 : ck_Sum := ((1, 0, 0), 245, [.inr (.inr (.inl 226)), .inl (0, 28, none), .inl (ck_one 0), .inl (ck_one 0)], ([], [], [(227, 2, 9, ck_one 0)]), ([], []), [(.inr (some (.inl (ck_one 0))), 245, ([], [], []))])
set_option maxRecDepth 100000 in
theorem p33x_4082_e : ck_ok p1_O none [] [(255, [p33x_179])] 334 [(6, [some (.inr (.inr (.inl 226))), some (.inl (0, 28, none)), some (.inl (ck_one 0)), some (.inl (ck_one 0)), some (.inl (ck_one 0)), some (.inl (ck_one 0))], ([], [], [(227, 2, 9, ck_one 0)]), 100, .inl 4, true)] 114 p33x_4082 = true := by decide +kernel
theorem p33x_4082_s {X : Int → Int} {LX : Nat} : ck_Ok p1_O X LX 334 p33x_4082 := ck_ok_s (ck_E1 (ck_S1 p33x_179_s ck_S0) ck_E0) ck_X0 ck_l0 p33x_4082_e
set_option maxRecDepth 100000 in
def p33x_4083 : ck_Sum := ((1, 0, 0), 245, [.inr (.inr (.inl 226)), .inl (0, 28, none), .inl (1, 2, none), .inl (ck_one 0)], ([], [], [(227, 2, 9, ck_one 0)]), ([], []), [(.inr (some (.inl (ck_one 0))), 245, ([], [], []))])
set_option maxRecDepth 100000 in
theorem p33x_4083_e : ck_ok p1_O none [] [(255, [p33x_179])] 334 [(6, [some (.inr (.inr (.inl 226))), some (.inl (0, 28, none)), some (.inl (1, 2, none)), some (.inl (ck_one 0)), some (.inl (ck_one 0)), some (.inl (ck_one 0))], ([], [], [(227, 2, 9, ck_one 0)]), 100, .inl 4, true)] 114 p33x_4083 = true := by decide +kernel
theorem p33x_4083_s {X : Int → Int} {LX : Nat} : ck_Ok p1_O X LX 334 p33x_4083 := ck_ok_s (ck_E1 (ck_S1 p33x_179_s ck_S0) ck_E0) ck_X0 ck_l0 p33x_4083_e
set_option maxRecDepth 100000 in
def p33x_4084 : ck_Sum := ((2, 0, 0), 245, [.inr (.inr (.inl 226)), .inl (ck_one 30)], ([], [], [(227, 0, 0, ck_one 3), (244, 0, 5, ck_one 0), (243, 0, 5, ck_one 0), (227, 2, 9, ck_one 0)]), ([(243, 0, 5), (244, 0, 2)], []), [(.inr none, 245, ([], [], [(244, 0, 5, ck_one 0), (243, 0, 5, ck_one 0)]))])
set_option maxRecDepth 100000 in
theorem p33x_4084_e : ck_ok p1_O none [] [(333, [p33x_180]), (267, [p33x_181]), (262, [p33x_182]), (334, [p33x_4045, p33x_4082, p33x_4083])] 359 [(6, [some (.inr (.inr (.inl 226))), some (.inl (ck_one 30)), some (.inl (0, 6, none)), none, none], ([], [], [(227, 0, 0, ck_one 3), (244, 0, 5, ck_one 0), (243, 0, 5, ck_one 0), (227, 2, 9, ck_one 0)]), 100, .inl 2, true), (34, [some (.inr (.inr (.inl 226))), some (.inl (ck_one 30)), some (.inl ((-1), 29, none)), none, none], ([], [], [(227, 0, 0, ck_one 3), (244, 0, 5, ck_one 0), (243, 0, 5, ck_one 0), (227, 2, 9, ck_one 0)]), 300, .inl 2, false), (44, [some (.inr (.inr (.inl 226))), some (.inl (ck_one 30)), some (.inl (0, 29, some (300, 0))), some (.inl (0, 3, none)), none], ([], [], [(227, 0, 0, ck_one 3), (244, 0, 5, ck_one 0), (243, 0, 5, ck_one 0), (227, 2, 9, ck_one 0)]), 500, .inl 3, true), (152, [some (.inr (.inr (.inl 226))), some (.inl (ck_one 30)), some (.inl (0, 29, some (300, 0))), some (.inl (0, 3, none)), none], ([], [], [(227, 0, 0, ck_one 3), (244, 0, 5, ck_one 0), (243, 0, 5, ck_one 0), (227, 2, 9, ck_one 0)]), 700, .inl 3, true)] 800 p33x_4084 = true := by decide +kernel
theorem p33x_4084_s {X : Int → Int} {LX : Nat} : ck_Ok p1_O X LX 359 p33x_4084 := ck_ok_s (ck_E1 (ck_S1 p33x_180_s ck_S0) (ck_E1 (ck_S1 p33x_181_s ck_S0) (ck_E1 (ck_S1 p33x_182_s ck_S0) (ck_E1 (ck_S1 p33x_4045_s (ck_S1 p33x_4082_s (ck_S1 p33x_4083_s ck_S0))) ck_E0)))) ck_X0 ck_l0 p33x_4084_e
set_option maxRecDepth 100000 in
def p33x_4085 : ck_Sum := ((3, 0, 0), 245, [.inr (.inr (.inl 226)), .inl (ck_one 30), .inl (ck_one 1)], ([], [], [(227, 0, 0, ck_one 3), (244, 0, 5, ck_one 0), (243, 0, 5, ck_one 0), (227, 2, 9, ck_one 0), (226, 0, 0, ck_one 0)]), ([(226, 0, 0), (243, 0, 5), (244, 0, 2)], []), [(.inr (some (.inl (ck_one 0))), 245, ([], [], [(226, 0, 0, ck_one 0), (244, 0, 5, ck_one 0), (243, 0, 5, ck_one 0)]))])
set_option maxRecDepth 100000 in
theorem p33x_4085_e : ck_ok p1_O none [] [(287, [p33x_4042]), (283, [p33x_178]), (359, [p33x_4084]), (262, [p33x_182])] 358 [(40, [some (.inr (.inr (.inl 226))), some (.inl (ck_one 30)), some (.inl (ck_one 1)), some (.inl (ck_one 0)), some (.inl (1, 3, none))], ([], [], [(244, 0, 5, ck_one 0), (243, 0, 5, ck_one 0), (226, 0, 0, ck_one 0), (227, 0, 0, ck_one 3), (244, 3, 5, ck_one 0), (227, 2, 9, ck_one 0)]), 100, .inl 4, true)] 174 p33x_4085 = true := by decide +kernel
theorem p33x_4085_s {X : Int → Int} {LX : Nat} : ck_Ok p1_O X LX 358 p33x_4085 := ck_ok_s (ck_E1 (ck_S1 p33x_4042_s ck_S0) (ck_E1 (ck_S1 p33x_178_s ck_S0) (ck_E1 (ck_S1 p33x_4084_s ck_S0) (ck_E1 (ck_S1 p33x_182_s ck_S0) ck_E0)))) ck_X0 ck_l0 p33x_4085_e
set_option maxRecDepth 100000 in
def p33x_4088 : ck_Sum := ((3, 0, 0), 245, [.inr (.inr (.inl 226)), .inl (ck_one 30), .inl (ck_one 0)], ([], [], [(227, 0, 0, ck_one 3), (244, 0, 5, ck_one 0), (243, 0, 5, ck_one 0), (227, 2, 9, ck_one 0), (226, 0, 0, ck_one 0)]), ([(226, 0, 0), (243, 0, 5), (244, 0, 2)], []), [(.inr (some (.inl (ck_one 0))), 245, ([], [], [(226, 0, 0, ck_one 0), (244, 0, 5, ck_one 0), (243, 0, 5, ck_one 0)]))])
set_option maxRecDepth 100000 in
theorem p33x_4088_e : ck_ok p1_O none [] [(287, [p33x_4042]), (283, [p33x_178]), (359, [p33x_4084]), (262, [p33x_182])] 358 [(40, [some (.inr (.inr (.inl 226))), some (.inl (ck_one 30)), some (.inl (ck_one 0)), some (.inl (ck_one 0)), some (.inl (1, 3, none))], ([], [], [(244, 0, 5, ck_one 0), (243, 0, 5, ck_one 0), (226, 0, 0, ck_one 0), (227, 0, 0, ck_one 3), (244, 3, 5, ck_one 0), (227, 2, 9, ck_one 0)]), 100, .inl 4, true)] 174 p33x_4088 = true := by decide +kernel
theorem p33x_4088_s {X : Int → Int} {LX : Nat} : ck_Ok p1_O X LX 358 p33x_4088 := ck_ok_s (ck_E1 (ck_S1 p33x_4042_s ck_S0) (ck_E1 (ck_S1 p33x_178_s ck_S0) (ck_E1 (ck_S1 p33x_4084_s ck_S0) (ck_E1 (ck_S1 p33x_182_s ck_S0) ck_E0)))) ck_X0 ck_l0 p33x_4088_e
set_option maxRecDepth 100000 in
def p33x_4092 : ck_Sum := ((0, 0, 0), 245, [.inl (31, 2147483647, none), .inl (ck_one 1), .inl (ck_one 30)], ([], [], []), ([], []), [(.inr (some (.inl (ck_one 0))), 245, ([], [], []))])
set_option maxRecDepth 100000 in
theorem p33x_4092_e : ck_ok p1_O none [] [] 287 [] 86 p33x_4092 = true := by decide +kernel
theorem p33x_4092_s {X : Int → Int} {LX : Nat} : ck_Ok p1_O X LX 287 p33x_4092 := ck_ok_s (ck_E0) ck_X0 ck_l0 p33x_4092_e
set_option maxRecDepth 100000 in
def p33x_4093 : ck_Sum := ((1, 0, 0), 245, [.inr (.inr (.inl 226)), .inl (31, 2147483647, none), .inl (ck_one 1)], ([], [], []), ([(226, 0, 0)], []), [(.inr (some (.inl (ck_one 0))), 245, ([], [], [(226, 0, 0, ck_one 1)]))])
set_option maxRecDepth 100000 in
theorem p33x_4093_e : ck_ok p1_O none [] [(287, [p33x_4092]), (283, [p33x_137])] 358 [] 102 p33x_4093 = true := by decide +kernel
theorem p33x_4093_s {X : Int → Int} {LX : Nat} : ck_Ok p1_O X LX 358 p33x_4093 := ck_ok_s (ck_E1 (ck_S1 p33x_4092_s ck_S0) (ck_E1 (ck_S1 p33x_137_s ck_S0) ck_E0)) ck_X0 ck_l0 p33x_4093_e
set_option maxRecDepth 100000 in
def p33x_4096 : ck_Sum := ((1, 0, 0), 245, [.inr (.inr (.inl 226)), .inl (31, 2147483647, none), .inl (ck_one 0)], ([], [], []), ([(226, 0, 0)], []), [(.inr (some (.inl (ck_one 0))), 245, ([], [], [(226, 0, 0, ck_one 1)]))])
set_option maxRecDepth 100000 in
theorem p33x_4096_e : ck_ok p1_O none [] [(287, [p33x_4092]), (283, [p33x_137])] 358 [] 102 p33x_4096 = true := by decide +kernel
theorem p33x_4096_s {X : Int → Int} {LX : Nat} : ck_Ok p1_O X LX 358 p33x_4096 := ck_ok_s (ck_E1 (ck_S1 p33x_4092_s ck_S0) (ck_E1 (ck_S1 p33x_137_s ck_S0) ck_E0)) ck_X0 ck_l0 p33x_4096_e
set_option maxRecDepth 100000 in
def p33x_139 : ck_Sum := ((0, 0, 0), 245, [.inr (.inr (.inl 226))], ([], [], [(226, 0, 0, ck_one 1)]), ([], []), [(.inr (some (.inl (ck_one 1))), 245, ([], [], []))])
set_option maxRecDepth 100000 in
theorem p33x_139_e : ck_ok p1_O none [] [] 234 [] 76 p33x_139 = true := by decide +kernel
theorem p33x_139_s {X : Int → Int} {LX : Nat} : ck_Ok p1_O X LX 234 p33x_139 := ck_ok_s (ck_E0) ck_X0 ck_l0 p33x_139_e
set_option maxRecDepth 100000 in
def p33x_188 : ck_Sum := ((0, 0, 0), 245, [.inr (.inr (.inl 226))], ([], [], [(226, 0, 0, ck_one 0)]), ([], []), [(.inr (some (.inl (ck_one 0))), 245, ([], [], []))])
set_option maxRecDepth 100000 in
theorem p33x_188_e : ck_ok p1_O none [] [] 234 [] 76 p33x_188 = true := by decide +kernel
theorem p33x_188_s {X : Int → Int} {LX : Nat} : ck_Ok p1_O X LX 234 p33x_188 := ck_ok_s (ck_E0) ck_X0 ck_l0 p33x_188_e
set_option maxRecDepth 100000 in
def p33_F : ck_F := ([], [(3, 8, 0), (16, 8, 0), (29, 8, 0), (44, 8, 0), (57, 8, 0), (70, 8, 0), (83, 8, 0), (96, 8, 0), (109, 8, 0), (122, 8, 0), (135, 8, 0), (148, 8, 0), (161, 8, 0), (174, 8, 0), (187, 8, 0)], [(245, 0, 0, ck_one 0), (227, 0, 0, ck_one 3), (244, 0, 5, ck_one 0), (243, 0, 5, ck_one 0), (227, 2, 9, ck_one 0), (226, 0, 0, ck_one 0), (224, 1, 1, ck_one 6), (224, 0, 0, ck_one 31), (224, 3, 3, ck_one 0), (222, 1, 1, ck_one 6), (222, 0, 0, ck_one 30), (222, 3, 3, ck_one 0), (1, 15, 15, ck_one 0), (220, 0, 0, ck_one 24), (220, 3, 3, ck_one 0), (10, 3, 3, ck_one 0), (3, 0, 0, ck_one 3), (223, 0, 179, ck_one 0), (225, 0, 185, ck_one 0)])
def p33_E : List (Nat × List ck_Sum) := [(212, [p33x_135, p33x_141, p33x_176, p33x_190, p33x_224, p33x_233, p33x_273, p33x_284, p33x_330, p33x_343, p33x_395, p33x_410, p33x_468, p33x_485, p33x_549, p33x_568, p33x_638, p33x_659, p33x_735, p33x_758, p33x_840, p33x_865, p33x_953, p33x_980, p33x_1074, p33x_1103, p33x_1203, p33x_1234, p33x_1340, p33x_1373, p33x_1485, p33x_1520, p33x_1638, p33x_1675, p33x_1799, p33x_1838, p33x_1962, p33x_2002, p33x_2126, p33x_2166, p33x_2290, p33x_2330, p33x_2454, p33x_2494, p33x_2618, p33x_2658, p33x_2782, p33x_2822, p33x_2946, p33x_2986, p33x_3116, p33x_3157, p33x_3293, p33x_3336, p33x_3478, p33x_3523, p33x_3665, p33x_3711, p33x_3853, p33x_3899, p33x_4041, p33x_4087, p33x_4091, p33x_4095]), (358, [p33x_138, p33x_142, p33x_187, p33x_191, p33x_231, p33x_234, p33x_282, p33x_285, p33x_341, p33x_344, p33x_408, p33x_411, p33x_483, p33x_486, p33x_566, p33x_569, p33x_657, p33x_660, p33x_756, p33x_759, p33x_863, p33x_866, p33x_978, p33x_981, p33x_1101, p33x_1104, p33x_1232, p33x_1235, p33x_1371, p33x_1374, p33x_1518, p33x_1521, p33x_1673, p33x_1676, p33x_1836, p33x_1839, p33x_2000, p33x_2003, p33x_2164, p33x_2167, p33x_2328, p33x_2331, p33x_2492, p33x_2495, p33x_2656, p33x_2659, p33x_2820, p33x_2823, p33x_2984, p33x_2987, p33x_3155, p33x_3158, p33x_3334, p33x_3337, p33x_3521, p33x_3524, p33x_3709, p33x_3712, p33x_3897, p33x_3900, p33x_4085, p33x_4088, p33x_4093, p33x_4096]), (234, [p33x_139, p33x_188])]
set_option maxRecDepth 100000 in
theorem p33_h {X : Int → Int} {LX : Nat} : ck_OkE p1_O X LX p33_E := ck_E1 (ck_S1 p33x_135_s (ck_S1 p33x_141_s (ck_S1 p33x_176_s (ck_S1 p33x_190_s (ck_S1 p33x_224_s (ck_S1 p33x_233_s (ck_S1 p33x_273_s (ck_S1 p33x_284_s (ck_S1 p33x_330_s (ck_S1 p33x_343_s (ck_S1 p33x_395_s (ck_S1 p33x_410_s (ck_S1 p33x_468_s (ck_S1 p33x_485_s (ck_S1 p33x_549_s (ck_S1 p33x_568_s (ck_S1 p33x_638_s (ck_S1 p33x_659_s (ck_S1 p33x_735_s (ck_S1 p33x_758_s (ck_S1 p33x_840_s (ck_S1 p33x_865_s (ck_S1 p33x_953_s (ck_S1 p33x_980_s (ck_S1 p33x_1074_s (ck_S1 p33x_1103_s (ck_S1 p33x_1203_s (ck_S1 p33x_1234_s (ck_S1 p33x_1340_s (ck_S1 p33x_1373_s (ck_S1 p33x_1485_s (ck_S1 p33x_1520_s (ck_S1 p33x_1638_s (ck_S1 p33x_1675_s (ck_S1 p33x_1799_s (ck_S1 p33x_1838_s (ck_S1 p33x_1962_s (ck_S1 p33x_2002_s (ck_S1 p33x_2126_s (ck_S1 p33x_2166_s (ck_S1 p33x_2290_s (ck_S1 p33x_2330_s (ck_S1 p33x_2454_s (ck_S1 p33x_2494_s (ck_S1 p33x_2618_s (ck_S1 p33x_2658_s (ck_S1 p33x_2782_s (ck_S1 p33x_2822_s (ck_S1 p33x_2946_s (ck_S1 p33x_2986_s (ck_S1 p33x_3116_s (ck_S1 p33x_3157_s (ck_S1 p33x_3293_s (ck_S1 p33x_3336_s (ck_S1 p33x_3478_s (ck_S1 p33x_3523_s (ck_S1 p33x_3665_s (ck_S1 p33x_3711_s (ck_S1 p33x_3853_s (ck_S1 p33x_3899_s (ck_S1 p33x_4041_s (ck_S1 p33x_4087_s (ck_S1 p33x_4091_s (ck_S1 p33x_4095_s ck_S0)))))))))))))))))))))))))))))))))))))))))))))))))))))))))))))))) (ck_E1 (ck_S1 p33x_138_s (ck_S1 p33x_142_s (ck_S1 p33x_187_s (ck_S1 p33x_191_s (ck_S1 p33x_231_s (ck_S1 p33x_234_s (ck_S1 p33x_282_s (ck_S1 p33x_285_s (ck_S1 p33x_341_s (ck_S1 p33x_344_s (ck_S1 p33x_408_s (ck_S1 p33x_411_s (ck_S1 p33x_483_s (ck_S1 p33x_486_s (ck_S1 p33x_566_s (ck_S1 p33x_569_s (ck_S1 p33x_657_s (ck_S1 p33x_660_s (ck_S1 p33x_756_s (ck_S1 p33x_759_s (ck_S1 p33x_863_s (ck_S1 p33x_866_s (ck_S1 p33x_978_s (ck_S1 p33x_981_s (ck_S1 p33x_1101_s (ck_S1 p33x_1104_s (ck_S1 p33x_1232_s (ck_S1 p33x_1235_s (ck_S1 p33x_1371_s (ck_S1 p33x_1374_s (ck_S1 p33x_1518_s (ck_S1 p33x_1521_s (ck_S1 p33x_1673_s (ck_S1 p33x_1676_s (ck_S1 p33x_1836_s (ck_S1 p33x_1839_s (ck_S1 p33x_2000_s (ck_S1 p33x_2003_s (ck_S1 p33x_2164_s (ck_S1 p33x_2167_s (ck_S1 p33x_2328_s (ck_S1 p33x_2331_s (ck_S1 p33x_2492_s (ck_S1 p33x_2495_s (ck_S1 p33x_2656_s (ck_S1 p33x_2659_s (ck_S1 p33x_2820_s (ck_S1 p33x_2823_s (ck_S1 p33x_2984_s (ck_S1 p33x_2987_s (ck_S1 p33x_3155_s (ck_S1 p33x_3158_s (ck_S1 p33x_3334_s (ck_S1 p33x_3337_s (ck_S1 p33x_3521_s (ck_S1 p33x_3524_s (ck_S1 p33x_3709_s (ck_S1 p33x_3712_s (ck_S1 p33x_3897_s (ck_S1 p33x_3900_s (ck_S1 p33x_4085_s (ck_S1 p33x_4088_s (ck_S1 p33x_4093_s (ck_S1 p33x_4096_s ck_S0)))))))))))))))))))))))))))))))))))))))))))))))))))))))))))))))) (ck_E1 (ck_S1 p33x_139_s (ck_S1 p33x_188_s ck_S0)) ck_E0))
set_option maxRecDepth 100000 in
theorem p33_b : (ck_prod [(1, [((-2147483648), 0), (1, 1), (2, 2), (3, 3), (4, 4), (5, 5), (6, 6), (7, 7), (8, 8), (9, 9), (10, 10), (11, 11), (12, 12), (13, 13), (14, 14), (15, 15), (16, 16), (17, 17), (18, 18), (19, 19), (20, 20), (21, 21), (22, 22), (23, 23), (24, 24), (25, 25), (26, 26), (27, 27), (28, 28), (29, 29), (30, 30), (31, 2147483647)]), (2, [((-2147483648), (-1)), (0, 0), (1, 2147483647)])]).all (fun xf => ck_go p1_O (some 6) xf p33_E 370 280 245 p1_W p1_outs [] 164 false [] 1000 2000 2257 p1_L [] 245 p33_F) = true := by decide +kernel
theorem p33_s {X : Int → Int} {LX : Nat} (hLX : 6 = LX) (hX : ∀ j, gm_ir (X j)) {σ : Nat → Int} {L : gm_L} {K0 K : gm_K} {R0 R : gm_R} {M0 M : gm_M} (hS : ck_St p1_O σ p1_W 245 K0 R0 M0 p1_L [] p33_F L [] 245 K R M) : gm_Wp X LX 280 1000 2000 370 2257 L [] 245 K R M (ck_Q p1_O σ p1_W 245 K0 R0 M0 p1_outs) := ck_boxes p33_h hLX hX (by decide +kernel) p33_b hS
