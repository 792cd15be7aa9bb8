/-! fit, on a new object: laid by wip/am/p1g.py. -/
set_option maxRecDepth 100000 in
def p29x_133 : ck_Sum := ((0, 0, 0), 245, [.inr (.inr (.inl 1)), .inl (ck_one 0)], ([], [], []), ([], []), [(.inr (some (.inl (ck_one 1))), 245, ([], [], []))])
set_option maxRecDepth 100000 in
theorem p29x_133_e : ck_ok p1_O none [] [] 198 [(10, [some (.inr (.inr (.inl 1))), some (.inl (ck_one 0)), some (.inl (ck_one 0)), none, none], ([], [], []), 100, .inl 2, true)] 118 p29x_133 = true := by decide +kernel
theorem p29x_133_s {X : Int → Int} {LX : Nat} : ck_Ok p1_O X LX 198 p29x_133 := ck_ok_s (ck_E0) ck_X0 ck_l0 p29x_133_e
set_option maxRecDepth 100000 in
def p29x_134 : ck_Sum := ((0, 0, 0), 245, [.inr (.inr (.inl 12))], ([], [], [(12, 3, 3, ck_one 0)]), ([], []), [(.inr (some (.inl (ck_one 0))), 245, ([], [], []))])
set_option maxRecDepth 100000 in
theorem p29x_134_e : ck_ok p1_O none [] [] 9 [] 76 p29x_134 = true := by decide +kernel
theorem p29x_134_s {X : Int → Int} {LX : Nat} : ck_Ok p1_O X LX 9 p29x_134 := ck_ok_s (ck_E0) ck_X0 ck_l0 p29x_134_e
set_option maxRecDepth 100000 in
def p29x_135 : ck_Sum := ((1, 0, 0), 245, [.inr (.inr (.inl 1))], ([], [], [(12, 3, 3, ck_one 0), (1, 1, 1, ck_one 0)]), ([(1, 1, 1)], []), [(.inr (some (.inl (ck_one 0))), 245, ([], [], [(1, 1, 1, ck_one 0)]))])
set_option maxRecDepth 100000 in
theorem p29x_135_e : ck_ok p1_O none [] [(198, [p29x_133]), (9, [p29x_134])] 197 [(33, [some (.inr (.inr (.inl 1))), some (.inl (ck_one 0)), some (.inl (ck_one 0)), some (.inl (ck_one 0))], ([], [], [(1, 1, 1, ck_one 0), (12, 3, 3, ck_one 0)]), 100, .inl 2, true)] 150 p29x_135 = true := by decide +kernel
theorem p29x_135_s {X : Int → Int} {LX : Nat} : ck_Ok p1_O X LX 197 p29x_135 := ck_ok_s (ck_E1 (ck_S1 p29x_133_s ck_S0) (ck_E1 (ck_S1 p29x_134_s ck_S0) ck_E0)) ck_X0 ck_l0 p29x_135_e
set_option maxRecDepth 100000 in
def p29x_136 : ck_Sum := ((2, 0, 0), 245, [.inr (.inr (.inl 1)), .inr (.inr (.inl 245))], ([], [], [(12, 3, 3, ck_one 0), (1, 1, 1, ck_one 0)]), ([(1, 1, 1), (245, 0, 0)], []), [(.inr (some (.inl (ck_one 0))), 245, ([], [], [(245, 0, 0, ck_one 0), (1, 1, 1, ck_one 0)]))])
set_option maxRecDepth 100000 in
theorem p29x_136_e : ck_ok p1_O none [] [(197, [p29x_135])] 196 [] 88 p29x_136 = true := by decide +kernel
theorem p29x_136_s {X : Int → Int} {LX : Nat} : ck_Ok p1_O X LX 196 p29x_136 := ck_ok_s (ck_E1 (ck_S1 p29x_135_s ck_S0) ck_E0) ck_X0 ck_l0 p29x_136_e
set_option maxRecDepth 100000 in
def p29x_137 : ck_Sum := ((0, 0, 0), 245, [.inr (.inr (.inl 226))], ([], [], [(226, 8, 8, ck_one 0)]), ([(226, 0, 0), (226, 8, 10)], []), [(.inr none, 245, ([], [], [(226, 9, 9, ck_one 0), (226, 8, 8, ck_one 0), (226, 10, 10, ck_one 0), (226, 0, 0, ck_one 0)]))])
set_option maxRecDepth 100000 in
theorem p29x_137_e : ck_ok p1_O none [] [] 245 [] 98 p29x_137 = true := by decide +kernel
theorem p29x_137_s {X : Int → Int} {LX : Nat} : ck_Ok p1_O X LX 245 p29x_137 := ck_ok_s (ck_E0) ck_X0 ck_l0 p29x_137_e
set_option maxRecDepth 100000 in
def p29x_138 : ck_Sum := ((0, 0, 0), 245, [.inr (.inr (.inl 226)), .inl (ck_one 0), .inl (ck_one 1)], ([], [], []), ([], []), [(.inr (some (.inl (ck_one 0))), 245, ([], [], []))])
set_option maxRecDepth 100000 in
theorem p29x_138_e : ck_ok p1_O none [] [] 283 [] 78 p29x_138 = true := by decide +kernel
theorem p29x_138_s {X : Int → Int} {LX : Nat} : ck_Ok p1_O X LX 283 p29x_138 := ck_ok_s (ck_E0) ck_X0 ck_l0 p29x_138_e
set_option maxRecDepth 100000 in
def p29x_139 : ck_Sum := ((1, 0, 0), 245, [.inr (.inr (.inl 226))], ([], [], [(227, 2, 9, ck_one 0), (226, 0, 0, ck_one 0), (226, 8, 8, ck_one 0), (226, 9, 9, ck_one 0), (226, 10, 10, ck_one 0)]), ([(226, 0, 0), (226, 8, 10)], []), [(.inr (some (.inl (ck_one 0))), 245, ([], [], [(226, 9, 9, ck_one 0), (226, 8, 8, ck_one 0), (226, 10, 10, ck_one 0), (226, 0, 0, ck_one 0)]))])
set_option maxRecDepth 100000 in
theorem p29x_139_e : ck_ok p1_O none [] [(245, [p29x_137]), (283, [p29x_138])] 349 [(21, [some (.inr (.inr (.inl 226))), some (.inl (ck_one 1)), some (.inl (ck_one 0)), none, none], ([], [], [(226, 9, 9, ck_one 0), (226, 8, 8, ck_one 0), (226, 10, 10, ck_one 0), (226, 0, 0, ck_one 0), (227, 2, 9, ck_one 0)]), 100, .inl 1, true), (110, [some (.inr (.inr (.inl 226))), some (.inl (1, 1, some (100, 0))), some (.inl (ck_one 0)), some (.inl (ck_one 0)), none], ([], [], [(226, 9, 9, ck_one 0), (226, 8, 8, ck_one 0), (226, 10, 10, ck_one 0), (226, 0, 0, ck_one 0), (227, 2, 9, ck_one 0)]), 300, .inl 2, true)] 260 p29x_139 = true := by decide +kernel
theorem p29x_139_s {X : Int → Int} {LX : Nat} : ck_Ok p1_O X LX 349 p29x_139 := ck_ok_s (ck_E1 (ck_S1 p29x_137_s ck_S0) (ck_E1 (ck_S1 p29x_138_s ck_S0) ck_E0)) ck_X0 ck_l0 p29x_139_e
set_option maxRecDepth 100000 in
def p29x_140 : ck_Sum := ((0, 0, 0), 245, [.inr (.inr (.inl 226))], ([], [], [(226, 0, 0, ck_one 0)]), ([], []), [(.inr (some (.inl (ck_one 0))), 245, ([], [], []))])
set_option maxRecDepth 100000 in
theorem p29x_140_e : ck_ok p1_O none [] [] 234 [] 76 p29x_140 = true := by decide +kernel
theorem p29x_140_s {X : Int → Int} {LX : Nat} : ck_Ok p1_O X LX 234 p29x_140 := ck_ok_s (ck_E0) ck_X0 ck_l0 p29x_140_e
set_option maxRecDepth 100000 in
def p29_F : ck_F := ([], [(3, 8, 0), (16, 8, 0), (29, 8, 0), (44, 8, 0), (57, 8, 0), (70, 8, 0), (83, 8, 0), (96, 8, 0), (109, 8, 0), (122, 8, 0), (135, 8, 0), (148, 8, 0), (161, 8, 0), (174, 8, 0), (187, 8, 0)], [(245, 0, 0, ck_one 0), (227, 2, 9, ck_one 0), (226, 0, 0, ck_one 0), (226, 8, 8, ck_one 0), (226, 9, 9, ck_one 0), (226, 10, 10, ck_one 0), (12, 3, 3, ck_one 0), (1, 1, 1, ck_one 0)])
def p29_E : List (Nat × List ck_Sum) := [(196, [p29x_136]), (349, [p29x_139]), (234, [p29x_140])]
theorem p29_h {X : Int → Int} {LX : Nat} : ck_OkE p1_O X LX p29_E := ck_E1 (ck_S1 p29x_136_s ck_S0) (ck_E1 (ck_S1 p29x_139_s ck_S0) (ck_E1 (ck_S1 p29x_140_s ck_S0) ck_E0))
set_option maxRecDepth 100000 in
theorem p29_b : (ck_prod []).all (fun xf => ck_go p1_O (some 6) xf p29_E 370 280 245 p1_W p1_outs [] 112 false [] 1000 2000 1969 p1_L [] 245 p29_F) = true := by decide +kernel
theorem p29_s {X : Int → Int} {LX : Nat} (hLX : 6 = LX) (hX : ∀ j, gm_ir (X j)) {σ : Nat → Int} {L : gm_L} {K0 K : gm_K} {R0 R : gm_R} {M0 M : gm_M} (hS : ck_St p1_O σ p1_W 245 K0 R0 M0 p1_L [] p29_F L [] 245 K R M) : gm_Wp X LX 280 1000 2000 370 1969 L [] 245 K R M (ck_Q p1_O σ p1_W 245 K0 R0 M0 p1_outs) := ck_boxes p29_h hLX hX (by decide +kernel) p29_b hS
