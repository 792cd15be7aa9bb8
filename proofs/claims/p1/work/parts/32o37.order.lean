/-! order, on a new object: laid by wip/am/p1g.py. -/
set_option maxRecDepth 100000 in
def p37x_133 : ck_Sum := ((0, 0, 0), 245, [.inr (.inr (.inl 10))], ([], [], [(10, 3, 3, ck_one 0)]), ([], []), [(.inr (some (.inl (ck_one 0))), 245, ([], [], []))])
set_option maxRecDepth 100000 in
theorem p37x_133_e : ck_ok p1_O none [] [] 9 [] 76 p37x_133 = true := by decide +kernel
theorem p37x_133_s {X : Int → Int} {LX : Nat} : ck_Ok p1_O X LX 9 p37x_133 := ck_ok_s (ck_E0) ck_X0 ck_l0 p37x_133_e
set_option maxRecDepth 100000 in
def p37x_136 : ck_Sum := ((0, 0, 0), 245, [.inr (.inr (.inl 220))], ([], [], [(220, 3, 3, ck_one 0)]), ([], []), [(.inr (some (.inl (ck_one 0))), 245, ([], [], []))])
set_option maxRecDepth 100000 in
theorem p37x_136_e : ck_ok p1_O none [] [] 9 [] 76 p37x_136 = true := by decide +kernel
theorem p37x_136_s {X : Int → Int} {LX : Nat} : ck_Ok p1_O X LX 9 p37x_136 := ck_ok_s (ck_E0) ck_X0 ck_l0 p37x_136_e
set_option maxRecDepth 100000 in
def p37x_134 : ck_Sum := ((0, 0, 0), 245, [.inr (.inr (.inl 221)), .inl (ck_one 0)], ([], [], []), ([(221, 0, 47)], []), [(.inr none, 245, ([], [], []))])
set_option maxRecDepth 100000 in
theorem p37x_134_e : ck_ok p1_O none [] [] 8 [(5, [some (.inr (.inr (.inl 221))), some (.inl (ck_one 0)), some (.inl (0, 48, none)), some (.inl (ck_one 48))], ([], [], []), 100, .inl 2, true)] 130 p37x_134 = true := by decide +kernel
theorem p37x_134_s {X : Int → Int} {LX : Nat} : ck_Ok p1_O X LX 8 p37x_134 := ck_ok_s (ck_E0) ck_X0 ck_l0 p37x_134_e
set_option maxRecDepth 100000 in
def p37x_135 : ck_Sum := ((1, 0, 0), 245, [.inr (.inr (.inl 220)), .inl (ck_one 0)], ([], [], [(220, 0, 0, ck_one 24)]), ([(220, 3, 3), (221, 0, 47)], []), [(.inr none, 245, ([], [], [(220, 3, 3, ck_one 0)]))])
set_option maxRecDepth 100000 in
theorem p37x_135_e : ck_ok p1_O none [] [(8, [p37x_134])] 25 [] 96 p37x_135 = true := by decide +kernel
theorem p37x_135_s {X : Int → Int} {LX : Nat} : ck_Ok p1_O X LX 25 p37x_135 := ck_ok_s (ck_E1 (ck_S1 p37x_134_s ck_S0) ck_E0) ck_X0 ck_l0 p37x_135_e
set_option maxRecDepth 100000 in
def p37x_137 : ck_Sum := ((2, 0, 0), 245, [.inr (.inr (.inl 1))], ([], [], [(1, 15, 15, ck_one 0), (220, 0, 0, ck_one 24), (220, 3, 3, ck_one 0), (10, 3, 3, ck_one 0)]), ([(1, 15, 15), (220, 3, 3), (221, 0, 47)], []), [(.inr none, 245, ([], [], [(1, 15, 15, ck_one 1), (220, 3, 3, ck_one 0)]))])
set_option maxRecDepth 100000 in
theorem p37x_137_e : ck_ok p1_O none [] [(9, [p37x_133, p37x_136]), (25, [p37x_135])] 24 [(27, [some (.inr (.inr (.inl 1))), some (.inl (ck_one 0))], ([], [], [(220, 3, 3, ck_one 0), (1, 15, 15, ck_one 0), (220, 0, 0, ck_one 24), (10, 3, 3, ck_one 0)]), 100, .inl 1, true)] 142 p37x_137 = true := by decide +kernel
theorem p37x_137_s {X : Int → Int} {LX : Nat} : ck_Ok p1_O X LX 24 p37x_137 := ck_ok_s (ck_E1 (ck_S1 p37x_133_s (ck_S1 p37x_136_s ck_S0)) (ck_E1 (ck_S1 p37x_135_s ck_S0) ck_E0)) ck_X0 ck_l0 p37x_137_e
set_option maxRecDepth 100000 in
def p37x_138 : ck_Sum := ((3, 0, 0), 245, [.inr (.inr (.inl 1)), .inl ((-2147483648), 2147483647, none)], ([], [], [(1, 15, 15, ck_one 0), (220, 0, 0, ck_one 24), (220, 3, 3, ck_one 0), (10, 3, 3, ck_one 0)]), ([(1, 15, 15), (220, 3, 3), (221, 0, 47)], []), [(.inr (some (.inl (ck_one (-1)))), 245, ([], [], [(1, 15, 15, ck_one 1), (220, 3, 3, ck_one 0)]))])
set_option maxRecDepth 100000 in
theorem p37x_138_e : ck_ok p1_O none [] [(24, [p37x_137]), (9, [p37x_136])] 52 [(6, [some (.inr (.inr (.inl 1))), some (.inl ((-2147483648), 2147483647, none)), some (.inl (ck_one 0))], ([], [], [(1, 15, 15, ck_one 1), (220, 3, 3, ck_one 0), (220, 0, 0, ck_one 24), (10, 3, 3, ck_one 0)]), 100, .inl 2, true)] 118 p37x_138 = true := by decide +kernel
theorem p37x_138_s {X : Int → Int} {LX : Nat} : ck_Ok p1_O X LX 52 p37x_138 := ck_ok_s (ck_E1 (ck_S1 p37x_137_s ck_S0) (ck_E1 (ck_S1 p37x_136_s ck_S0) ck_E0)) ck_X0 ck_l0 p37x_138_e
set_option maxRecDepth 100000 in
def p37x_139 : ck_Sum := ((0, 0, 0), 245, [.inr (.inr (.inl 226))], ([], [], [(227, 2, 9, ck_one 0)]), ([], []), [(.inr (some (.inl (ck_one 0))), 245, ([], [], []))])
set_option maxRecDepth 100000 in
theorem p37x_139_e : ck_ok p1_O none [] [] 255 [] 80 p37x_139 = true := by decide +kernel
theorem p37x_139_s {X : Int → Int} {LX : Nat} : ck_Ok p1_O X LX 255 p37x_139 := ck_ok_s (ck_E0) ck_X0 ck_l0 p37x_139_e
set_option maxRecDepth 100000 in
def p37x_140 : ck_Sum := ((1, 0, 0), 245, [.inr (.inr (.inl 226))], ([], [], [(227, 2, 9, ck_one 0)]), ([], []), [(.inr none, 245, ([], [], []))])
set_option maxRecDepth 100000 in
theorem p37x_140_e : ck_ok p1_O none [] [(255, [p37x_139])] 333 [(2, [some (.inr (.inr (.inl 226))), some (.inl (ck_one 0))], ([], [], [(227, 2, 9, ck_one 0)]), 100, .inl 1, true)] 110 p37x_140 = true := by decide +kernel
theorem p37x_140_s {X : Int → Int} {LX : Nat} : ck_Ok p1_O X LX 333 p37x_140 := ck_ok_s (ck_E1 (ck_S1 p37x_139_s ck_S0) ck_E0) ck_X0 ck_l0 p37x_140_e
set_option maxRecDepth 100000 in
def p37x_141 : ck_Sum := ((2, 0, 0), 245, [.inr (.inr (.inl 226)), .inl ((-2147483648), 2147483647, none)], ([], [], [(227, 2, 9, ck_one 0), (226, 0, 0, ck_one 0)]), ([(226, 0, 0)], []), [(.inr (some (.inl (ck_one (-1)))), 245, ([], [], [(226, 0, 0, ck_one 0)]))])
set_option maxRecDepth 100000 in
theorem p37x_141_e : ck_ok p1_O none [] [(333, [p37x_140]), (255, [p37x_139])] 363 [(13, [some (.inr (.inr (.inl 226))), some (.inl ((-2147483648), 2147483647, none)), some (.inl ((-2147483648), 2147483647, none)), some (.inl (0, 300, none)), none], ([], [], [(226, 0, 0, ck_one 0), (227, 2, 9, ck_one 0)]), 100, .inl 3, true), (27, [some (.inr (.inr (.inl 226))), some (.inl (0, 2147483647, none)), some (.inl ((-2147483648), 2147483647, none)), some (.inl (0, 299, some (100, 0))), some (.inl (ck_one 0))], ([], [], [(226, 0, 0, ck_one 0), (227, 2, 9, ck_one 0)]), 300, .inl 2, true)] 170 p37x_141 = true := by decide +kernel
theorem p37x_141_s {X : Int → Int} {LX : Nat} : ck_Ok p1_O X LX 363 p37x_141 := ck_ok_s (ck_E1 (ck_S1 p37x_140_s ck_S0) (ck_E1 (ck_S1 p37x_139_s ck_S0) ck_E0)) ck_X0 ck_l0 p37x_141_e
set_option maxRecDepth 100000 in
def p37_F : ck_F := ([], [(3, 8, 0), (16, 8, 0), (29, 8, 0), (44, 8, 0), (57, 8, 0), (70, 8, 0), (83, 8, 0), (96, 8, 0), (109, 8, 0), (122, 8, 0), (135, 8, 0), (148, 8, 0), (161, 8, 0), (174, 8, 0), (187, 8, 0)], [(227, 2, 9, ck_one 0), (226, 0, 0, ck_one 0), (1, 15, 15, ck_one 0), (220, 0, 0, ck_one 24), (220, 3, 3, ck_one 0), (10, 3, 3, ck_one 0)])
def p37_E : List (Nat × List ck_Sum) := [(52, [p37x_138]), (363, [p37x_141])]
theorem p37_h {X : Int → Int} {LX : Nat} : ck_OkE p1_O X LX p37_E := ck_E1 (ck_S1 p37x_138_s ck_S0) (ck_E1 (ck_S1 p37x_141_s ck_S0) ck_E0)
set_option maxRecDepth 100000 in
theorem p37_b : (ck_prod []).all (fun xf => ck_go p1_O (some 6) xf p37_E 370 280 245 p1_W p1_outs [] 100 false [] 1000 2000 2549 p1_L [] 245 p37_F) = true := by decide +kernel
theorem p37_s {X : Int → Int} {LX : Nat} (hLX : 6 = LX) (hX : ∀ j, gm_ir (X j)) {σ : Nat → Int} {L : gm_L} {K0 K : gm_K} {R0 R : gm_R} {M0 M : gm_M} (hS : ck_St p1_O σ p1_W 245 K0 R0 M0 p1_L [] p37_F L [] 245 K R M) : gm_Wp X LX 280 1000 2000 370 2549 L [] 245 K R M (ck_Q p1_O σ p1_W 245 K0 R0 M0 p1_outs) := ck_boxes p37_h hLX hX (by decide +kernel) p37_b hS
