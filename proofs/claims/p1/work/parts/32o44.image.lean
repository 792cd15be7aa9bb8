/-! image, on a new object: laid by wip/am/p1g.py. -/
set_option maxRecDepth 100000 in
def p44x_133 : ck_Sum := ((1, 0, 0), 245, [.inr (.inr (.inl 30)), .inr (.inr (.inl 4))], ([], [], [(30, 0, 0, ck_one 8), (4, 3, 3, ck_one 0)]), ([(30, 3, 3), (31, 0, 55)], []), [(.inr none, 245, ([], [], [(30, 3, 3, ck_one 0)]))])
set_option maxRecDepth 100000 in
theorem p44x_133_e : ck_ok p1_O none [] [] 58 [] 114 p44x_133 = true := by decide +kernel
theorem p44x_133_s {X : Int → Int} {LX : Nat} : ck_Ok p1_O X LX 58 p44x_133 := ck_ok_s (ck_E0) ck_X0 ck_l0 p44x_133_e
set_option maxRecDepth 100000 in
def p44x_134 : ck_Sum := ((1, 0, 0), 245, [.inr (.inr (.inl 32)), .inr (.inr (.inl 6))], ([], [], [(32, 0, 0, ck_one 8), (6, 3, 3, ck_one 0)]), ([(32, 3, 3), (33, 0, 23)], []), [(.inr none, 245, ([], [], [(32, 3, 3, ck_one 0)]))])
set_option maxRecDepth 100000 in
theorem p44x_134_e : ck_ok p1_O none [] [] 58 [] 114 p44x_134 = true := by decide +kernel
theorem p44x_134_s {X : Int → Int} {LX : Nat} : ck_Ok p1_O X LX 58 p44x_134 := ck_ok_s (ck_E0) ck_X0 ck_l0 p44x_134_e
set_option maxRecDepth 100000 in
def p44x_135 : ck_Sum := ((1, 0, 0), 245, [.inr (.inr (.inl 34)), .inr (.inr (.inl 8))], ([], [], [(34, 0, 0, ck_one 8), (8, 3, 3, ck_one 0)]), ([(34, 3, 3), (35, 0, 23)], []), [(.inr none, 245, ([], [], [(34, 3, 3, ck_one 0)]))])
set_option maxRecDepth 100000 in
theorem p44x_135_e : ck_ok p1_O none [] [] 58 [] 114 p44x_135 = true := by decide +kernel
theorem p44x_135_s {X : Int → Int} {LX : Nat} : ck_Ok p1_O X LX 58 p44x_135 := ck_ok_s (ck_E0) ck_X0 ck_l0 p44x_135_e
set_option maxRecDepth 100000 in
def p44x_136 : ck_Sum := ((1, 0, 0), 245, [.inr (.inr (.inl 36)), .inr (.inr (.inl 10))], ([], [], [(36, 0, 0, ck_one 24), (10, 3, 3, ck_one 0)]), ([(36, 3, 3), (37, 0, 167)], []), [(.inr none, 245, ([], [], [(36, 3, 3, ck_one 0)]))])
set_option maxRecDepth 100000 in
theorem p44x_136_e : ck_ok p1_O none [] [] 58 [] 114 p44x_136 = true := by decide +kernel
theorem p44x_136_s {X : Int → Int} {LX : Nat} : ck_Ok p1_O X LX 58 p44x_136 := ck_ok_s (ck_E0) ck_X0 ck_l0 p44x_136_e
set_option maxRecDepth 100000 in
def p44x_137 : ck_Sum := ((1, 0, 0), 245, [.inr (.inr (.inl 38)), .inr (.inr (.inl 12))], ([], [], [(38, 0, 0, ck_one 6), (12, 3, 3, ck_one 0)]), ([(38, 3, 3), (39, 0, 35)], []), [(.inr none, 245, ([], [], [(38, 3, 3, ck_one 0)]))])
set_option maxRecDepth 100000 in
theorem p44x_137_e : ck_ok p1_O none [] [] 58 [] 114 p44x_137 = true := by decide +kernel
theorem p44x_137_s {X : Int → Int} {LX : Nat} : ck_Ok p1_O X LX 58 p44x_137 := ck_ok_s (ck_E0) ck_X0 ck_l0 p44x_137_e
set_option maxRecDepth 100000 in
def p44x_138 : ck_Sum := ((1, 0, 0), 245, [.inr (.inr (.inl 40)), .inr (.inr (.inl 14))], ([], [], [(40, 0, 0, ck_one 24), (14, 3, 3, ck_one 0)]), ([(40, 3, 3), (41, 0, 71)], []), [(.inr none, 245, ([], [], [(40, 3, 3, ck_one 0)]))])
set_option maxRecDepth 100000 in
theorem p44x_138_e : ck_ok p1_O none [] [] 58 [] 114 p44x_138 = true := by decide +kernel
theorem p44x_138_s {X : Int → Int} {LX : Nat} : ck_Ok p1_O X LX 58 p44x_138 := ck_ok_s (ck_E0) ck_X0 ck_l0 p44x_138_e
set_option maxRecDepth 100000 in
def p44x_139 : ck_Sum := ((2, 0, 0), 245, [.inr (.inr (.inl 29)), .inr (.inr (.inl 3))], ([], [(3, 8, 0)], [(40, 0, 0, ck_one 24), (38, 0, 0, ck_one 6), (36, 0, 0, ck_one 24), (34, 0, 0, ck_one 8), (32, 0, 0, ck_one 8), (30, 0, 0, ck_one 8), (14, 3, 3, ck_one 0), (12, 3, 3, ck_one 0), (10, 3, 3, ck_one 0), (8, 3, 3, ck_one 0), (6, 3, 3, ck_one 0), (4, 3, 3, ck_one 0), (3, 7, 7, ck_one 0), (3, 6, 6, ck_one 0), (3, 5, 5, ck_one 1), (3, 4, 4, ck_one 3), (3, 3, 3, ck_one 2), (3, 2, 2, ck_one 10), (3, 1, 1, ck_one 40), (3, 0, 0, ck_one 3)]), ([(29, 0, 7), (30, 3, 3), (31, 0, 55), (32, 3, 3), (33, 0, 23), (34, 3, 3), (35, 0, 23), (36, 3, 3), (37, 0, 167), (38, 3, 3), (39, 0, 35), (40, 3, 3), (41, 0, 71)], [(29, 8)]), [(.inr none, 245, ([], [(29, 8, 0)], [(40, 3, 3, ck_one 0), (38, 3, 3, ck_one 0), (36, 3, 3, ck_one 0), (34, 3, 3, ck_one 0), (32, 3, 3, ck_one 0), (30, 3, 3, ck_one 0), (29, 7, 7, ck_one 0), (29, 6, 6, ck_one 0), (29, 5, 5, ck_one 1), (29, 4, 4, ck_one 3), (29, 3, 3, ck_one 2), (29, 2, 2, ck_one 10), (29, 1, 1, ck_one 40), (29, 0, 0, ck_one 3)]))])
set_option maxRecDepth 100000 in
theorem p44x_139_e : ck_ok p1_O none [] [(58, [p44x_133, p44x_134, p44x_135, p44x_136, p44x_137, p44x_138])] 57 [] 204 p44x_139 = true := by decide +kernel
theorem p44x_139_s {X : Int → Int} {LX : Nat} : ck_Ok p1_O X LX 57 p44x_139 := ck_ok_s (ck_E1 (ck_S1 p44x_133_s (ck_S1 p44x_134_s (ck_S1 p44x_135_s (ck_S1 p44x_136_s (ck_S1 p44x_137_s (ck_S1 p44x_138_s ck_S0)))))) ck_E0) ck_X0 ck_l0 p44x_139_e
set_option maxRecDepth 100000 in
def p44x_140 : ck_Sum := ((3, 0, 0), 245, [.inr (.inr (.inl 1))], ([], [(3, 8, 0)], [(40, 0, 0, ck_one 24), (38, 0, 0, ck_one 6), (36, 0, 0, ck_one 24), (34, 0, 0, ck_one 8), (32, 0, 0, ck_one 8), (30, 0, 0, ck_one 8), (14, 3, 3, ck_one 0), (12, 3, 3, ck_one 0), (10, 3, 3, ck_one 0), (8, 3, 3, ck_one 0), (6, 3, 3, ck_one 0), (4, 3, 3, ck_one 0), (3, 7, 7, ck_one 0), (3, 6, 6, ck_one 0), (3, 5, 5, ck_one 1), (3, 4, 4, ck_one 3), (3, 3, 3, ck_one 2), (3, 2, 2, ck_one 10), (3, 1, 1, ck_one 40), (3, 0, 0, ck_one 3)]), ([(1, 6, 6), (29, 0, 7), (30, 3, 3), (31, 0, 55), (32, 3, 3), (33, 0, 23), (34, 3, 3), (35, 0, 23), (36, 3, 3), (37, 0, 167), (38, 3, 3), (39, 0, 35), (40, 3, 3), (41, 0, 71)], [(29, 8)]), [(.inr none, 245, ([], [(29, 8, 0)], [(1, 6, 6, ck_one 1), (40, 3, 3, ck_one 0), (38, 3, 3, ck_one 0), (36, 3, 3, ck_one 0), (34, 3, 3, ck_one 0), (32, 3, 3, ck_one 0), (30, 3, 3, ck_one 0), (29, 7, 7, ck_one 0), (29, 6, 6, ck_one 0), (29, 5, 5, ck_one 1), (29, 4, 4, ck_one 3), (29, 3, 3, ck_one 2), (29, 2, 2, ck_one 10), (29, 1, 1, ck_one 40), (29, 0, 0, ck_one 3)]))])
set_option maxRecDepth 100000 in
theorem p44x_140_e : ck_ok p1_O none [] [(57, [p44x_139])] 59 [] 88 p44x_140 = true := by decide +kernel
theorem p44x_140_s {X : Int → Int} {LX : Nat} : ck_Ok p1_O X LX 59 p44x_140 := ck_ok_s (ck_E1 (ck_S1 p44x_139_s ck_S0) ck_E0) ck_X0 ck_l0 p44x_140_e
set_option maxRecDepth 100000 in
def p44x_141 : ck_Sum := ((0, 0, 0), 245, [.inr (.inr (.inl 226))], ([], [], [(226, 0, 0, ck_one 0), (226, 5, 5, ck_one 0)]), ([(226, 0, 0), (226, 5, 5), (228, 0, 1243)], []), [(.inr none, 245, ([], [], [(226, 5, 5, ck_one 1), (226, 0, 0, ck_one 0)]))])
set_option maxRecDepth 100000 in
theorem p44x_141_e : ck_ok p1_O none [] [] 237 [(7, [some (.inr (.inr (.inl 226))), some (.inl (0, 1244, none))], ([], [], [(226, 0, 0, ck_one 0), (226, 5, 5, ck_one 0)]), 100, .inl 1, true)] 146 p44x_141 = true := by decide +kernel
theorem p44x_141_s {X : Int → Int} {LX : Nat} : ck_Ok p1_O X LX 237 p44x_141 := ck_ok_s (ck_E0) ck_X0 ck_l0 p44x_141_e
set_option maxRecDepth 100000 in
def p44_F : ck_F := ([], [(3, 8, 0), (16, 8, 0), (29, 8, 0), (44, 8, 0), (57, 8, 0), (70, 8, 0), (83, 8, 0), (96, 8, 0), (109, 8, 0), (122, 8, 0), (135, 8, 0), (148, 8, 0), (161, 8, 0), (174, 8, 0), (187, 8, 0)], [(226, 0, 0, ck_one 0), (226, 5, 5, ck_one 0), (40, 0, 0, ck_one 24), (38, 0, 0, ck_one 6), (36, 0, 0, ck_one 24), (34, 0, 0, ck_one 8), (32, 0, 0, ck_one 8), (30, 0, 0, ck_one 8), (14, 3, 3, ck_one 0), (12, 3, 3, ck_one 0), (10, 3, 3, ck_one 0), (8, 3, 3, ck_one 0), (6, 3, 3, ck_one 0), (4, 3, 3, ck_one 0), (3, 7, 7, ck_one 0), (3, 6, 6, ck_one 0), (3, 5, 5, ck_one 1), (3, 4, 4, ck_one 3), (3, 3, 3, ck_one 2), (3, 2, 2, ck_one 10), (3, 1, 1, ck_one 40), (3, 0, 0, ck_one 3)])
def p44_E : List (Nat × List ck_Sum) := [(59, [p44x_140]), (237, [p44x_141])]
theorem p44_h {X : Int → Int} {LX : Nat} : ck_OkE p1_O X LX p44_E := ck_E1 (ck_S1 p44x_140_s ck_S0) (ck_E1 (ck_S1 p44x_141_s ck_S0) ck_E0)
set_option maxRecDepth 100000 in
theorem p44_b : (ck_prod []).all (fun xf => ck_go p1_O (some 6) xf p44_E 370 280 245 p1_W p1_outs [] 80 false [] 1000 2000 2931 p1_L [] 245 p44_F) = true := by decide +kernel
theorem p44_s {X : Int → Int} {LX : Nat} (hLX : 6 = LX) (hX : ∀ j, gm_ir (X j)) {σ : Nat → Int} {L : gm_L} {K0 K : gm_K} {R0 R : gm_R} {M0 M : gm_M} (hS : ck_St p1_O σ p1_W 245 K0 R0 M0 p1_L [] p44_F L [] 245 K R M) : gm_Wp X LX 280 1000 2000 370 2931 L [] 245 K R M (ck_Q p1_O σ p1_W 245 K0 R0 M0 p1_outs) := ck_boxes p44_h hLX hX (by decide +kernel) p44_b hS
