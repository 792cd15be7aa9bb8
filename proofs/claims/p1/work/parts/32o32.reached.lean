/-! reached, on a new object: laid by wip/am/p1g.py. -/
set_option maxRecDepth 100000 in
def p32x_133 : ck_Sum := ((0, 0, 0), 245, [.inr (.inr (.inl 8))], ([], [], [(8, 3, 3, ck_one 0)]), ([], []), [(.inr (some (.inl (ck_one 0))), 245, ([], [], []))])
set_option maxRecDepth 100000 in
theorem p32x_133_e : ck_ok p1_O none [] [] 9 [] 76 p32x_133 = true := by decide +kernel
theorem p32x_133_s {X : Int → Int} {LX : Nat} : ck_Ok p1_O X LX 9 p32x_133 := ck_ok_s (ck_E0) ck_X0 ck_l0 p32x_133_e
set_option maxRecDepth 100000 in
def p32x_134 : ck_Sum := ((6, 1, 6), 245, [.inr (.inr (.inl 1)), .inl ((-2147483648), 2147483647, none), .inl (ck_one 0)], ([], [], []), ([], []), [(.inl 3, 245, ([], [], []))])
set_option maxRecDepth 100000 in
theorem p32x_134_e : ck_ok p1_O none [] [] 133 [] 82 p32x_134 = true := by decide +kernel
theorem p32x_134_s {X : Int → Int} {LX : Nat} : ck_Ok p1_O X LX 133 p32x_134 := ck_ok_s (ck_E0) ck_X0 ck_l0 p32x_134_e
set_option maxRecDepth 100000 in
def p32x_135 : ck_Sum := ((7, 1, 6), 245, [.inr (.inr (.inl 1)), .inl ((-2147483648), 2147483647, none)], ([], [], [(8, 3, 3, ck_one 0)]), ([], []), [(.inl 3, 245, ([], [], []))])
set_option maxRecDepth 100000 in
theorem p32x_135_e : ck_ok p1_O none [] [(9, [p32x_133]), (133, [p32x_134])] 139 [] 84 p32x_135 = true := by decide +kernel
theorem p32x_135_s {X : Int → Int} {LX : Nat} : ck_Ok p1_O X LX 139 p32x_135 := ck_ok_s (ck_E1 (ck_S1 p32x_133_s ck_S0) (ck_E1 (ck_S1 p32x_134_s ck_S0) ck_E0)) ck_X0 ck_l0 p32x_135_e
set_option maxRecDepth 100000 in
def p32x_136 : ck_Sum := ((8, 1, 6), 245, [.inr (.inr (.inl 1)), .inl ((-2147483648), 2147483647, none), .inl ((-2147483648), 2147483647, none)], ([], [], [(8, 3, 3, ck_one 0)]), ([], []), [(.inl 3, 245, ([], [], []))])
set_option maxRecDepth 100000 in
theorem p32x_136_e : ck_ok p1_O none [] [(139, [p32x_135])] 211 [] 76 p32x_136 = true := by decide +kernel
theorem p32x_136_s {X : Int → Int} {LX : Nat} : ck_Ok p1_O X LX 211 p32x_136 := ck_ok_s (ck_E1 (ck_S1 p32x_135_s ck_S0) ck_E0) ck_X0 ck_l0 p32x_136_e
set_option maxRecDepth 100000 in
def p32x_137 : ck_Sum := ((9, 1, 6), 245, [.inr (.inr (.inl 1)), .inl ((-2147483648), 2147483647, none), .inl ((-2147483648), 2147483647, none), .inr (.inr (.inl 245))], ([], [], [(8, 3, 3, ck_one 0)]), ([], []), [(.inr (some (.inl (ck_one 1))), 245, ([], [], []))])
set_option maxRecDepth 100000 in
theorem p32x_137_e : ck_ok p1_O none [] [(211, [p32x_136])] 210 [] 88 p32x_137 = true := by decide +kernel
theorem p32x_137_s {X : Int → Int} {LX : Nat} : ck_Ok p1_O X LX 210 p32x_137 := ck_ok_s (ck_E1 (ck_S1 p32x_136_s ck_S0) ck_E0) ck_X0 ck_l0 p32x_137_e
set_option maxRecDepth 100000 in
def p32x_138 : ck_Sum := ((0, 0, 0), 245, [.inr (.inr (.inl 226))], ([], [], [(227, 2, 9, ck_one 0)]), ([], []), [(.inr (some (.inl (ck_one 0))), 245, ([], [], []))])
set_option maxRecDepth 100000 in
theorem p32x_138_e : ck_ok p1_O none [] [] 254 [] 80 p32x_138 = true := by decide +kernel
theorem p32x_138_s {X : Int → Int} {LX : Nat} : ck_Ok p1_O X LX 254 p32x_138 := ck_ok_s (ck_E0) ck_X0 ck_l0 p32x_138_e
set_option maxRecDepth 100000 in
def p32x_139 : ck_Sum := ((0, 0, 0), 245, [.inl ((-2147483648), 2147483647, none), .inl (ck_one 0), .inl (ck_one (-1))], ([], [], []), ([], []), [(.inr (some (.inl (ck_one 0))), 245, ([], [], []))])
set_option maxRecDepth 100000 in
theorem p32x_139_e : ck_ok p1_O none [] [] 287 [] 86 p32x_139 = true := by decide +kernel
theorem p32x_139_s {X : Int → Int} {LX : Nat} : ck_Ok p1_O X LX 287 p32x_139 := ck_ok_s (ck_E0) ck_X0 ck_l0 p32x_139_e
set_option maxRecDepth 100000 in
def p32x_140 : ck_Sum := ((1, 0, 0), 245, [.inr (.inr (.inl 226)), .inl ((-2147483648), 2147483647, none)], ([], [], [(227, 2, 9, ck_one 0)]), ([], []), [(.inr (some (.inl (ck_one 1))), 245, ([], [], []))])
set_option maxRecDepth 100000 in
theorem p32x_140_e : ck_ok p1_O none [] [(254, [p32x_138]), (287, [p32x_139])] 299 [] 92 p32x_140 = true := by decide +kernel
theorem p32x_140_s {X : Int → Int} {LX : Nat} : ck_Ok p1_O X LX 299 p32x_140 := ck_ok_s (ck_E1 (ck_S1 p32x_138_s ck_S0) (ck_E1 (ck_S1 p32x_139_s ck_S0) ck_E0)) ck_X0 ck_l0 p32x_140_e
set_option maxRecDepth 100000 in
def p32x_141 : ck_Sum := ((0, 0, 0), 245, [.inr (.inr (.inl 226)), .inl (ck_one 1), .inl (ck_one 1)], ([], [], []), ([(226, 0, 0)], []), [(.inr (some (.inl (ck_one 1))), 245, ([], [], [(226, 0, 0, ck_one 1)]))])
set_option maxRecDepth 100000 in
theorem p32x_141_e : ck_ok p1_O none [] [] 283 [] 84 p32x_141 = true := by decide +kernel
theorem p32x_141_s {X : Int → Int} {LX : Nat} : ck_Ok p1_O X LX 283 p32x_141 := ck_ok_s (ck_E0) ck_X0 ck_l0 p32x_141_e
set_option maxRecDepth 100000 in
def p32x_142 : ck_Sum := ((2, 0, 0), 245, [.inr (.inr (.inl 226)), .inl ((-2147483648), 2147483647, none), .inl ((-2147483648), 2147483647, none)], ([], [], [(227, 2, 9, ck_one 0)]), ([(226, 0, 0)], []), [(.inr (some (.inl (ck_one 0))), 245, ([], [], [(226, 0, 0, ck_one 1)]))])
set_option maxRecDepth 100000 in
theorem p32x_142_e : ck_ok p1_O none [] [(299, [p32x_140]), (283, [p32x_141])] 357 [] 94 p32x_142 = true := by decide +kernel
theorem p32x_142_s {X : Int → Int} {LX : Nat} : ck_Ok p1_O X LX 357 p32x_142 := ck_ok_s (ck_E1 (ck_S1 p32x_140_s ck_S0) (ck_E1 (ck_S1 p32x_141_s ck_S0) ck_E0)) ck_X0 ck_l0 p32x_142_e
set_option maxRecDepth 100000 in
def p32x_143 : ck_Sum := ((0, 0, 0), 245, [.inr (.inr (.inl 226))], ([], [], [(226, 0, 0, ck_one 1)]), ([], []), [(.inr (some (.inl (ck_one 1))), 245, ([], [], []))])
set_option maxRecDepth 100000 in
theorem p32x_143_e : ck_ok p1_O none [] [] 234 [] 76 p32x_143 = true := by decide +kernel
theorem p32x_143_s {X : Int → Int} {LX : Nat} : ck_Ok p1_O X LX 234 p32x_143 := ck_ok_s (ck_E0) ck_X0 ck_l0 p32x_143_e
set_option maxRecDepth 100000 in
def p32_F : ck_F := ([], [(3, 8, 0), (16, 8, 0), (29, 8, 0), (44, 8, 0), (57, 8, 0), (70, 8, 0), (83, 8, 0), (96, 8, 0), (109, 8, 0), (122, 8, 0), (135, 8, 0), (148, 8, 0), (161, 8, 0), (174, 8, 0), (187, 8, 0)], [(227, 2, 9, ck_one 0), (226, 0, 0, ck_one 0), (8, 3, 3, ck_one 0)])
def p32_E : List (Nat × List ck_Sum) := [(210, [p32x_137]), (357, [p32x_142]), (234, [p32x_143])]
theorem p32_h {X : Int → Int} {LX : Nat} : ck_OkE p1_O X LX p32_E := ck_E1 (ck_S1 p32x_137_s ck_S0) (ck_E1 (ck_S1 p32x_142_s ck_S0) (ck_E1 (ck_S1 p32x_143_s ck_S0) ck_E0))
set_option maxRecDepth 100000 in
theorem p32_b : (ck_prod []).all (fun xf => ck_go p1_O (some 6) xf p32_E 370 280 245 p1_W p1_outs [] 138 false [] 1000 2000 2189 p1_L [] 245 p32_F) = true := by decide +kernel
theorem p32_s {X : Int → Int} {LX : Nat} (hLX : 6 = LX) (hX : ∀ j, gm_ir (X j)) {σ : Nat → Int} {L : gm_L} {K0 K : gm_K} {R0 R : gm_R} {M0 M : gm_M} (hS : ck_St p1_O σ p1_W 245 K0 R0 M0 p1_L [] p32_F L [] 245 K R M) : gm_Wp X LX 280 1000 2000 370 2189 L [] 245 K R M (ck_Q p1_O σ p1_W 245 K0 R0 M0 p1_outs) := ck_boxes p32_h hLX hX (by decide +kernel) p32_b hS
