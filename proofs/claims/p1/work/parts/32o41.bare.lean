/-! bare, on a new object: laid by wip/am/p1g.py. -/
set_option maxRecDepth 100000 in
def p41x_133 : ck_Sum := ((6, 1, 6), 245, [.inr (.inr (.inl 1)), .inl ((-2147483648), (-1), none)], ([], [], []), ([], []), [(.inl 0, 245, ([], [], []))])
set_option maxRecDepth 100000 in
theorem p41x_133_e : ck_ok p1_O none [] [] 129 [] 76 p41x_133 = true := by decide +kernel
theorem p41x_133_s {X : Int → Int} {LX : Nat} : ck_Ok p1_O X LX 129 p41x_133 := ck_ok_s (ck_E0) ck_X0 ck_l0 p41x_133_e
set_option maxRecDepth 100000 in
def p41x_134 : ck_Sum := ((7, 1, 6), 245, [.inr (.inr (.inl 1)), .inl ((-2147483648), (-1), none)], ([], [], []), ([], []), [(.inl 0, 245, ([], [], []))])
set_option maxRecDepth 100000 in
theorem p41x_134_e : ck_ok p1_O none [] [(129, [p41x_133])] 231 [] 76 p41x_134 = true := by decide +kernel
theorem p41x_134_s {X : Int → Int} {LX : Nat} : ck_Ok p1_O X LX 231 p41x_134 := ck_ok_s (ck_E1 (ck_S1 p41x_133_s ck_S0) ck_E0) ck_X0 ck_l0 p41x_134_e
set_option maxRecDepth 100000 in
def p41x_135 : ck_Sum := ((8, 1, 6), 245, [.inr (.inr (.inl 1)), .inl ((-2147483648), (-1), none), .inr (.inr (.inl 245))], ([], [], []), ([], []), [(.inr (some (.inl (ck_one 1))), 245, ([], [], []))])
set_option maxRecDepth 100000 in
theorem p41x_135_e : ck_ok p1_O none [] [(231, [p41x_134])] 230 [] 86 p41x_135 = true := by decide +kernel
theorem p41x_135_s {X : Int → Int} {LX : Nat} : ck_Ok p1_O X LX 230 p41x_135 := ck_ok_s (ck_E1 (ck_S1 p41x_134_s ck_S0) ck_E0) ck_X0 ck_l0 p41x_135_e
set_option maxRecDepth 100000 in
def p41x_141 : ck_Sum := ((0, 0, 0), 245, [.inr (.inr (.inl 1)), .inl (0, 299, none)], ([], [], []), ([], []), [(.inr none, 245, ([], [], []))])
set_option maxRecDepth 100000 in
theorem p41x_141_e : ck_ok p1_O none [] [] 129 [] 82 p41x_141 = true := by decide +kernel
theorem p41x_141_s {X : Int → Int} {LX : Nat} : ck_Ok p1_O X LX 129 p41x_141 := ck_ok_s (ck_E0) ck_X0 ck_l0 p41x_141_e
set_option maxRecDepth 100000 in
def p41x_142 : ck_Sum := ((0, 0, 0), 245, [.inr (.inr (.inl 10))], ([], [], [(10, 3, 3, ck_one 0)]), ([], []), [(.inr (some (.inl (ck_one 0))), 245, ([], [], []))])
set_option maxRecDepth 100000 in
theorem p41x_142_e : ck_ok p1_O none [] [] 9 [] 76 p41x_142 = true := by decide +kernel
theorem p41x_142_s {X : Int → Int} {LX : Nat} : ck_Ok p1_O X LX 9 p41x_142 := ck_ok_s (ck_E0) ck_X0 ck_l0 p41x_142_e
set_option maxRecDepth 100000 in
def p41x_143 : ck_Sum := ((1, 0, 0), 245, [.inr (.inr (.inl 1)), .inl (0, 299, none)], ([], [], [(10, 3, 3, ck_one 0)]), ([], []), [(.inr (some (.inl (ck_one 0))), 245, ([], [], []))])
set_option maxRecDepth 100000 in
theorem p41x_143_e : ck_ok p1_O none [] [(129, [p41x_141]), (9, [p41x_142])] 231 [(9, [some (.inr (.inr (.inl 1))), some (.inl (0, 299, none)), some (.inl (ck_one 0)), some (.inl (ck_one 0))], ([], [], [(10, 3, 3, ck_one 0)]), 100, .inl 2, true)] 122 p41x_143 = true := by decide +kernel
theorem p41x_143_s {X : Int → Int} {LX : Nat} : ck_Ok p1_O X LX 231 p41x_143 := ck_ok_s (ck_E1 (ck_S1 p41x_141_s ck_S0) (ck_E1 (ck_S1 p41x_142_s ck_S0) ck_E0)) ck_X0 ck_l0 p41x_143_e
set_option maxRecDepth 100000 in
def p41x_144 : ck_Sum := ((2, 0, 0), 245, [.inr (.inr (.inl 1)), .inl (0, 299, none), .inr (.inr (.inl 245))], ([], [], [(10, 3, 3, ck_one 0)]), ([(245, 0, 0)], []), [(.inr (some (.inl (ck_one 0))), 245, ([], [], [(245, 0, 0, ck_one 0)]))])
set_option maxRecDepth 100000 in
theorem p41x_144_e : ck_ok p1_O none [] [(231, [p41x_143])] 230 [] 90 p41x_144 = true := by decide +kernel
theorem p41x_144_s {X : Int → Int} {LX : Nat} : ck_Ok p1_O X LX 230 p41x_144 := ck_ok_s (ck_E1 (ck_S1 p41x_143_s ck_S0) ck_E0) ck_X0 ck_l0 p41x_144_e
set_option maxRecDepth 100000 in
def p41x_151 : ck_Sum := ((6, 1, 6), 245, [.inr (.inr (.inl 1)), .inl (300, 2147483647, none)], ([], [], []), ([], []), [(.inl 0, 245, ([], [], []))])
set_option maxRecDepth 100000 in
theorem p41x_151_e : ck_ok p1_O none [] [] 129 [] 82 p41x_151 = true := by decide +kernel
theorem p41x_151_s {X : Int → Int} {LX : Nat} : ck_Ok p1_O X LX 129 p41x_151 := ck_ok_s (ck_E0) ck_X0 ck_l0 p41x_151_e
set_option maxRecDepth 100000 in
def p41x_152 : ck_Sum := ((7, 1, 6), 245, [.inr (.inr (.inl 1)), .inl (300, 2147483647, none)], ([], [], []), ([], []), [(.inl 0, 245, ([], [], []))])
set_option maxRecDepth 100000 in
theorem p41x_152_e : ck_ok p1_O none [] [(129, [p41x_151])] 231 [] 76 p41x_152 = true := by decide +kernel
theorem p41x_152_s {X : Int → Int} {LX : Nat} : ck_Ok p1_O X LX 231 p41x_152 := ck_ok_s (ck_E1 (ck_S1 p41x_151_s ck_S0) ck_E0) ck_X0 ck_l0 p41x_152_e
set_option maxRecDepth 100000 in
def p41x_153 : ck_Sum := ((8, 1, 6), 245, [.inr (.inr (.inl 1)), .inl (300, 2147483647, none), .inr (.inr (.inl 245))], ([], [], []), ([], []), [(.inr (some (.inl (ck_one 1))), 245, ([], [], []))])
set_option maxRecDepth 100000 in
theorem p41x_153_e : ck_ok p1_O none [] [(231, [p41x_152])] 230 [] 86 p41x_153 = true := by decide +kernel
theorem p41x_153_s {X : Int → Int} {LX : Nat} : ck_Ok p1_O X LX 230 p41x_153 := ck_ok_s (ck_E1 (ck_S1 p41x_152_s ck_S0) ck_E0) ck_X0 ck_l0 p41x_153_e
set_option maxRecDepth 100000 in
def p41x_136 : ck_Sum := ((0, 0, 0), 245, [.inl ((-2147483648), (-1), none), .inl (ck_one 0), .inl (ck_one 299)], ([], [], []), ([], []), [(.inr (some (.inl (ck_one 0))), 245, ([], [], []))])
set_option maxRecDepth 100000 in
theorem p41x_136_e : ck_ok p1_O none [] [] 287 [] 80 p41x_136 = true := by decide +kernel
theorem p41x_136_s {X : Int → Int} {LX : Nat} : ck_Ok p1_O X LX 287 p41x_136 := ck_ok_s (ck_E0) ck_X0 ck_l0 p41x_136_e
set_option maxRecDepth 100000 in
def p41x_137 : ck_Sum := ((1, 0, 0), 245, [.inl ((-2147483648), (-1), none)], ([], [], []), ([], []), [(.inr (some (.inl (ck_one 1))), 245, ([], [], []))])
set_option maxRecDepth 100000 in
theorem p41x_137_e : ck_ok p1_O none [] [(287, [p41x_136])] 286 [] 86 p41x_137 = true := by decide +kernel
theorem p41x_137_s {X : Int → Int} {LX : Nat} : ck_Ok p1_O X LX 286 p41x_137 := ck_ok_s (ck_E1 (ck_S1 p41x_136_s ck_S0) ck_E0) ck_X0 ck_l0 p41x_137_e
set_option maxRecDepth 100000 in
def p41x_138 : ck_Sum := ((0, 0, 0), 245, [.inr (.inr (.inl 226)), .inl (ck_one 1), .inl (ck_one 1)], ([], [], []), ([(226, 0, 0)], []), [(.inr (some (.inl (ck_one 1))), 245, ([], [], [(226, 0, 0, ck_one 1)]))])
set_option maxRecDepth 100000 in
theorem p41x_138_e : ck_ok p1_O none [] [] 283 [] 84 p41x_138 = true := by decide +kernel
theorem p41x_138_s {X : Int → Int} {LX : Nat} : ck_Ok p1_O X LX 283 p41x_138 := ck_ok_s (ck_E0) ck_X0 ck_l0 p41x_138_e
set_option maxRecDepth 100000 in
def p41x_139 : ck_Sum := ((2, 0, 0), 245, [.inr (.inr (.inl 226)), .inl ((-2147483648), (-1), none)], ([], [], []), ([(226, 0, 0)], []), [(.inr (some (.inl (ck_one 0))), 245, ([], [], [(226, 0, 0, ck_one 1)]))])
set_option maxRecDepth 100000 in
theorem p41x_139_e : ck_ok p1_O none [] [(286, [p41x_137]), (283, [p41x_138])] 367 [] 92 p41x_139 = true := by decide +kernel
theorem p41x_139_s {X : Int → Int} {LX : Nat} : ck_Ok p1_O X LX 367 p41x_139 := ck_ok_s (ck_E1 (ck_S1 p41x_137_s ck_S0) (ck_E1 (ck_S1 p41x_138_s ck_S0) ck_E0)) ck_X0 ck_l0 p41x_139_e
set_option maxRecDepth 100000 in
def p41x_145 : ck_Sum := ((0, 0, 0), 245, [.inl (0, 299, none), .inl (ck_one 0), .inl (ck_one 299)], ([], [], []), ([], []), [(.inr (some (.inl (ck_one 1))), 245, ([], [], []))])
set_option maxRecDepth 100000 in
theorem p41x_145_e : ck_ok p1_O none [] [] 287 [] 88 p41x_145 = true := by decide +kernel
theorem p41x_145_s {X : Int → Int} {LX : Nat} : ck_Ok p1_O X LX 287 p41x_145 := ck_ok_s (ck_E0) ck_X0 ck_l0 p41x_145_e
set_option maxRecDepth 100000 in
def p41x_146 : ck_Sum := ((1, 0, 0), 245, [.inl (0, 299, none)], ([], [], []), ([], []), [(.inr (some (.inl (ck_one 0))), 245, ([], [], []))])
set_option maxRecDepth 100000 in
theorem p41x_146_e : ck_ok p1_O none [] [(287, [p41x_145])] 286 [] 84 p41x_146 = true := by decide +kernel
theorem p41x_146_s {X : Int → Int} {LX : Nat} : ck_Ok p1_O X LX 286 p41x_146 := ck_ok_s (ck_E1 (ck_S1 p41x_145_s ck_S0) ck_E0) ck_X0 ck_l0 p41x_146_e
set_option maxRecDepth 100000 in
def p41x_147 : ck_Sum := ((0, 0, 0), 245, [.inr (.inr (.inl 226)), .inl (ck_one 0), .inl (ck_one 1)], ([], [], []), ([], []), [(.inr (some (.inl (ck_one 0))), 245, ([], [], []))])
set_option maxRecDepth 100000 in
theorem p41x_147_e : ck_ok p1_O none [] [] 283 [] 78 p41x_147 = true := by decide +kernel
theorem p41x_147_s {X : Int → Int} {LX : Nat} : ck_Ok p1_O X LX 283 p41x_147 := ck_ok_s (ck_E0) ck_X0 ck_l0 p41x_147_e
set_option maxRecDepth 100000 in
def p41x_148 : ck_Sum := ((0, 0, 0), 245, [.inr (.inr (.inl 226))], ([], [], [(227, 2, 9, ck_one 0)]), ([], []), [(.inr (some (.inl (ck_one 0))), 245, ([], [], []))])
set_option maxRecDepth 100000 in
theorem p41x_148_e : ck_ok p1_O none [] [] 255 [] 80 p41x_148 = true := by decide +kernel
theorem p41x_148_s {X : Int → Int} {LX : Nat} : ck_Ok p1_O X LX 255 p41x_148 := ck_ok_s (ck_E0) ck_X0 ck_l0 p41x_148_e
set_option maxRecDepth 100000 in
def p41x_149 : ck_Sum := ((2, 0, 0), 245, [.inr (.inr (.inl 226)), .inl (0, 299, none)], ([], [], [(227, 2, 9, ck_one 0), (226, 0, 0, ck_one 0)]), ([(226, 0, 0)], []), [(.inr (some (.inl (ck_one 0))), 245, ([], [], [(226, 0, 0, ck_one 0)]))])
set_option maxRecDepth 100000 in
theorem p41x_149_e : ck_ok p1_O none [] [(286, [p41x_146]), (283, [p41x_147]), (255, [p41x_148])] 367 [(23, [some (.inr (.inr (.inl 226))), some (.inl (0, 299, none)), some (.inl (ck_one 0)), some (.inl (ck_one 0))], ([], [], [(226, 0, 0, ck_one 0), (227, 2, 9, ck_one 0)]), 100, .inl 2, true)] 146 p41x_149 = true := by decide +kernel
theorem p41x_149_s {X : Int → Int} {LX : Nat} : ck_Ok p1_O X LX 367 p41x_149 := ck_ok_s (ck_E1 (ck_S1 p41x_146_s ck_S0) (ck_E1 (ck_S1 p41x_147_s ck_S0) (ck_E1 (ck_S1 p41x_148_s ck_S0) ck_E0))) ck_X0 ck_l0 p41x_149_e
set_option maxRecDepth 100000 in
def p41x_154 : ck_Sum := ((0, 0, 0), 245, [.inl (300, 2147483647, none), .inl (ck_one 0), .inl (ck_one 299)], ([], [], []), ([], []), [(.inr (some (.inl (ck_one 0))), 245, ([], [], []))])
set_option maxRecDepth 100000 in
theorem p41x_154_e : ck_ok p1_O none [] [] 287 [] 86 p41x_154 = true := by decide +kernel
theorem p41x_154_s {X : Int → Int} {LX : Nat} : ck_Ok p1_O X LX 287 p41x_154 := ck_ok_s (ck_E0) ck_X0 ck_l0 p41x_154_e
set_option maxRecDepth 100000 in
def p41x_155 : ck_Sum := ((1, 0, 0), 245, [.inl (300, 2147483647, none)], ([], [], []), ([], []), [(.inr (some (.inl (ck_one 1))), 245, ([], [], []))])
set_option maxRecDepth 100000 in
theorem p41x_155_e : ck_ok p1_O none [] [(287, [p41x_154])] 286 [] 86 p41x_155 = true := by decide +kernel
theorem p41x_155_s {X : Int → Int} {LX : Nat} : ck_Ok p1_O X LX 286 p41x_155 := ck_ok_s (ck_E1 (ck_S1 p41x_154_s ck_S0) ck_E0) ck_X0 ck_l0 p41x_155_e
set_option maxRecDepth 100000 in
def p41x_156 : ck_Sum := ((2, 0, 0), 245, [.inr (.inr (.inl 226)), .inl (300, 2147483647, none)], ([], [], []), ([(226, 0, 0)], []), [(.inr (some (.inl (ck_one 0))), 245, ([], [], [(226, 0, 0, ck_one 1)]))])
set_option maxRecDepth 100000 in
theorem p41x_156_e : ck_ok p1_O none [] [(286, [p41x_155]), (283, [p41x_138])] 367 [] 92 p41x_156 = true := by decide +kernel
theorem p41x_156_s {X : Int → Int} {LX : Nat} : ck_Ok p1_O X LX 367 p41x_156 := ck_ok_s (ck_E1 (ck_S1 p41x_155_s ck_S0) (ck_E1 (ck_S1 p41x_138_s ck_S0) ck_E0)) ck_X0 ck_l0 p41x_156_e
set_option maxRecDepth 100000 in
def p41x_140 : ck_Sum := ((0, 0, 0), 245, [.inr (.inr (.inl 226))], ([], [], [(226, 0, 0, ck_one 1)]), ([], []), [(.inr (some (.inl (ck_one 1))), 245, ([], [], []))])
set_option maxRecDepth 100000 in
theorem p41x_140_e : ck_ok p1_O none [] [] 234 [] 76 p41x_140 = true := by decide +kernel
theorem p41x_140_s {X : Int → Int} {LX : Nat} : ck_Ok p1_O X LX 234 p41x_140 := ck_ok_s (ck_E0) ck_X0 ck_l0 p41x_140_e
set_option maxRecDepth 100000 in
def p41x_150 : ck_Sum := ((0, 0, 0), 245, [.inr (.inr (.inl 226))], ([], [], [(226, 0, 0, ck_one 0)]), ([], []), [(.inr (some (.inl (ck_one 0))), 245, ([], [], []))])
set_option maxRecDepth 100000 in
theorem p41x_150_e : ck_ok p1_O none [] [] 234 [] 76 p41x_150 = true := by decide +kernel
theorem p41x_150_s {X : Int → Int} {LX : Nat} : ck_Ok p1_O X LX 234 p41x_150 := ck_ok_s (ck_E0) ck_X0 ck_l0 p41x_150_e
set_option maxRecDepth 100000 in
def p41_F : ck_F := ([], [(3, 8, 0), (16, 8, 0), (29, 8, 0), (44, 8, 0), (57, 8, 0), (70, 8, 0), (83, 8, 0), (96, 8, 0), (109, 8, 0), (122, 8, 0), (135, 8, 0), (148, 8, 0), (161, 8, 0), (174, 8, 0), (187, 8, 0)], [(245, 0, 0, ck_one 0), (227, 2, 9, ck_one 0), (226, 0, 0, ck_one 0), (10, 3, 3, ck_one 0)])
def p41_E : List (Nat × List ck_Sum) := [(230, [p41x_135, p41x_144, p41x_153]), (367, [p41x_139, p41x_149, p41x_156]), (234, [p41x_140, p41x_150])]
theorem p41_h {X : Int → Int} {LX : Nat} : ck_OkE p1_O X LX p41_E := ck_E1 (ck_S1 p41x_135_s (ck_S1 p41x_144_s (ck_S1 p41x_153_s ck_S0))) (ck_E1 (ck_S1 p41x_139_s (ck_S1 p41x_149_s (ck_S1 p41x_156_s ck_S0))) (ck_E1 (ck_S1 p41x_140_s (ck_S1 p41x_150_s ck_S0)) ck_E0))
set_option maxRecDepth 100000 in
theorem p41_b : (ck_prod [(1, [((-2147483648), (-1)), (0, 299), (300, 2147483647)])]).all (fun xf => ck_go p1_O (some 6) xf p41_E 370 280 245 p1_W p1_outs [] 132 false [] 1000 2000 2794 p1_L [] 245 p41_F) = true := by decide +kernel
theorem p41_s {X : Int → Int} {LX : Nat} (hLX : 6 = LX) (hX : ∀ j, gm_ir (X j)) {σ : Nat → Int} {L : gm_L} {K0 K : gm_K} {R0 R : gm_R} {M0 M : gm_M} (hS : ck_St p1_O σ p1_W 245 K0 R0 M0 p1_L [] p41_F L [] 245 K R M) : gm_Wp X LX 280 1000 2000 370 2794 L [] 245 K R M (ck_Q p1_O σ p1_W 245 K0 R0 M0 p1_outs) := ck_boxes p41_h hLX hX (by decide +kernel) p41_b hS
