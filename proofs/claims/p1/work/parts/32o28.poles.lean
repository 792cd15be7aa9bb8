/-! poles, on a new object: laid by wip/am/p1g.py. -/
set_option maxRecDepth 100000 in
def p28x_133 : ck_Sum := ((0, 0, 0), 245, [.inr (.inr (.inl 12))], ([], [], [(12, 3, 3, ck_one 0)]), ([], []), [(.inr (some (.inl (ck_one 0))), 245, ([], [], []))])
set_option maxRecDepth 100000 in
theorem p28x_133_e : ck_ok p1_O none [] [] 9 [] 76 p28x_133 = true := by decide +kernel
theorem p28x_133_s {X : Int → Int} {LX : Nat} : ck_Ok p1_O X LX 9 p28x_133 := ck_ok_s (ck_E0) ck_X0 ck_l0 p28x_133_e
set_option maxRecDepth 100000 in
def p28x_134 : ck_Sum := ((1, 0, 0), 245, [.inr (.inr (.inl 1)), .inl (ck_one 0)], ([], [], [(12, 3, 3, ck_one 0)]), ([], []), [(.inr (some (.inl (ck_one 1))), 245, ([], [], []))])
set_option maxRecDepth 100000 in
theorem p28x_134_e : ck_ok p1_O none [] [(9, [p28x_133])] 50 [(2, [some (.inr (.inr (.inl 1))), some (.inl (ck_one 0)), some (.inl (ck_one 0)), none], ([], [], [(12, 3, 3, ck_one 0)]), 100, .inl 2, true)] 122 p28x_134 = true := by decide +kernel
theorem p28x_134_s {X : Int → Int} {LX : Nat} : ck_Ok p1_O X LX 50 p28x_134 := ck_ok_s (ck_E1 (ck_S1 p28x_133_s ck_S0) ck_E0) ck_X0 ck_l0 p28x_134_e
set_option maxRecDepth 100000 in
def p28x_135 : ck_Sum := ((0, 0, 0), 245, [.inl (ck_one 1)], ([], [], []), ([], []), [(.inr (some (.inl (ck_one 1))), 245, ([], [], []))])
set_option maxRecDepth 100000 in
theorem p28x_135_e : ck_ok p1_O none [] [] 49 [] 154 p28x_135 = true := by decide +kernel
theorem p28x_135_s {X : Int → Int} {LX : Nat} : ck_Ok p1_O X LX 49 p28x_135 := ck_ok_s (ck_E0) ck_X0 ck_l0 p28x_135_e
set_option maxRecDepth 100000 in
def p28x_136 : ck_Sum := ((0, 0, 0), 245, [.inl (ck_one 0)], ([], [], []), ([], []), [(.inr (some (.inl (ck_one 0))), 245, ([], [], []))])
set_option maxRecDepth 100000 in
theorem p28x_136_e : ck_ok p1_O none [] [] 49 [] 154 p28x_136 = true := by decide +kernel
theorem p28x_136_s {X : Int → Int} {LX : Nat} : ck_Ok p1_O X LX 49 p28x_136 := ck_ok_s (ck_E0) ck_X0 ck_l0 p28x_136_e
set_option maxRecDepth 100000 in
def p28x_137 : ck_Sum := ((0, 0, 0), 245, [.inl (ck_one 2)], ([], [], []), ([], []), [(.inr (some (.inl (ck_one 1))), 245, ([], [], []))])
set_option maxRecDepth 100000 in
theorem p28x_137_e : ck_ok p1_O none [] [] 49 [] 154 p28x_137 = true := by decide +kernel
theorem p28x_137_s {X : Int → Int} {LX : Nat} : ck_Ok p1_O X LX 49 p28x_137 := ck_ok_s (ck_E0) ck_X0 ck_l0 p28x_137_e
set_option maxRecDepth 100000 in
def p28x_138 : ck_Sum := ((0, 0, 0), 245, [.inl (ck_one 3)], ([], [], []), ([], []), [(.inr (some (.inl (ck_one 2))), 245, ([], [], []))])
set_option maxRecDepth 100000 in
theorem p28x_138_e : ck_ok p1_O none [] [] 49 [] 154 p28x_138 = true := by decide +kernel
theorem p28x_138_s {X : Int → Int} {LX : Nat} : ck_Ok p1_O X LX 49 p28x_138 := ck_ok_s (ck_E0) ck_X0 ck_l0 p28x_138_e
set_option maxRecDepth 100000 in
def p28x_139 : ck_Sum := ((0, 0, 0), 245, [.inl (ck_one 4)], ([], [], []), ([], []), [(.inr (some (.inl (ck_one 1))), 245, ([], [], []))])
set_option maxRecDepth 100000 in
theorem p28x_139_e : ck_ok p1_O none [] [] 49 [] 154 p28x_139 = true := by decide +kernel
theorem p28x_139_s {X : Int → Int} {LX : Nat} : ck_Ok p1_O X LX 49 p28x_139 := ck_ok_s (ck_E0) ck_X0 ck_l0 p28x_139_e
set_option maxRecDepth 100000 in
def p28x_140 : ck_Sum := ((0, 0, 0), 245, [.inl (ck_one 5)], ([], [], []), ([], []), [(.inr (some (.inl (ck_one 2))), 245, ([], [], []))])
set_option maxRecDepth 100000 in
theorem p28x_140_e : ck_ok p1_O none [] [] 49 [] 154 p28x_140 = true := by decide +kernel
theorem p28x_140_s {X : Int → Int} {LX : Nat} : ck_Ok p1_O X LX 49 p28x_140 := ck_ok_s (ck_E0) ck_X0 ck_l0 p28x_140_e
set_option maxRecDepth 100000 in
def p28x_141 : ck_Sum := ((0, 0, 0), 245, [.inl (ck_one 6)], ([], [], []), ([], []), [(.inr (some (.inl (ck_one 2))), 245, ([], [], []))])
set_option maxRecDepth 100000 in
theorem p28x_141_e : ck_ok p1_O none [] [] 49 [] 154 p28x_141 = true := by decide +kernel
theorem p28x_141_s {X : Int → Int} {LX : Nat} : ck_Ok p1_O X LX 49 p28x_141 := ck_ok_s (ck_E0) ck_X0 ck_l0 p28x_141_e
set_option maxRecDepth 100000 in
def p28x_142 : ck_Sum := ((0, 0, 0), 245, [.inl (ck_one 7)], ([], [], []), ([], []), [(.inr (some (.inl (ck_one 3))), 245, ([], [], []))])
set_option maxRecDepth 100000 in
theorem p28x_142_e : ck_ok p1_O none [] [] 49 [] 154 p28x_142 = true := by decide +kernel
theorem p28x_142_s {X : Int → Int} {LX : Nat} : ck_Ok p1_O X LX 49 p28x_142 := ck_ok_s (ck_E0) ck_X0 ck_l0 p28x_142_e
set_option maxRecDepth 100000 in
def p28x_143 : ck_Sum := ((2, 0, 0), 245, [.inr (.inr (.inl 1))], ([], [], [(12, 3, 3, ck_one 0), (3, 0, 0, ck_one 3)]), ([], []), [(.inr (some (.inl (ck_one 0))), 245, ([], [], []))])
set_option maxRecDepth 100000 in
theorem p28x_143_e : ck_ok p1_O none [] [(50, [p28x_134]), (49, [p28x_135, p28x_136, p28x_137, p28x_138, p28x_139, p28x_140, p28x_141, p28x_142])] 48 [] 436 p28x_143 = true := by decide +kernel
theorem p28x_143_s {X : Int → Int} {LX : Nat} : ck_Ok p1_O X LX 48 p28x_143 := ck_ok_s (ck_E1 (ck_S1 p28x_134_s ck_S0) (ck_E1 (ck_S1 p28x_135_s (ck_S1 p28x_136_s (ck_S1 p28x_137_s (ck_S1 p28x_138_s (ck_S1 p28x_139_s (ck_S1 p28x_140_s (ck_S1 p28x_141_s (ck_S1 p28x_142_s ck_S0)))))))) ck_E0)) ck_X0 ck_l0 p28x_143_e
set_option maxRecDepth 100000 in
def p28x_144 : ck_Sum := ((0, 0, 0), 245, [.inr (.inr (.inl 226))], ([], [], [(227, 0, 0, ck_one 3)]), ([], []), [(.inr (some (.inl (ck_one 3))), 245, ([], [], []))])
set_option maxRecDepth 100000 in
theorem p28x_144_e : ck_ok p1_O none [] [] 262 [] 80 p28x_144 = true := by decide +kernel
theorem p28x_144_s {X : Int → Int} {LX : Nat} : ck_Ok p1_O X LX 262 p28x_144 := ck_ok_s (ck_E0) ck_X0 ck_l0 p28x_144_e
set_option maxRecDepth 100000 in
def p28x_145 : ck_Sum := ((1, 0, 0), 245, [.inr (.inr (.inl 226))], ([], [], [(227, 0, 0, ck_one 3), (227, 2, 9, ck_one 0)]), ([(226, 0, 0)], []), [(.inr (some (.inl (ck_one 0))), 245, ([], [], [(226, 0, 0, ck_one 0)]))])
set_option maxRecDepth 100000 in
theorem p28x_145_e : ck_ok p1_O none [] [(262, [p28x_144]), (49, [p28x_135, p28x_136, p28x_137, p28x_138, p28x_139, p28x_140, p28x_141, p28x_142])] 348 [] 558 p28x_145 = true := by decide +kernel
theorem p28x_145_s {X : Int → Int} {LX : Nat} : ck_Ok p1_O X LX 348 p28x_145 := ck_ok_s (ck_E1 (ck_S1 p28x_144_s ck_S0) (ck_E1 (ck_S1 p28x_135_s (ck_S1 p28x_136_s (ck_S1 p28x_137_s (ck_S1 p28x_138_s (ck_S1 p28x_139_s (ck_S1 p28x_140_s (ck_S1 p28x_141_s (ck_S1 p28x_142_s ck_S0)))))))) ck_E0)) ck_X0 ck_l0 p28x_145_e
set_option maxRecDepth 100000 in
def p28_F : ck_F := ([], [(3, 8, 0), (16, 8, 0), (29, 8, 0), (44, 8, 0), (57, 8, 0), (70, 8, 0), (83, 8, 0), (96, 8, 0), (109, 8, 0), (122, 8, 0), (135, 8, 0), (148, 8, 0), (161, 8, 0), (174, 8, 0), (187, 8, 0)], [(227, 0, 0, ck_one 3), (227, 2, 9, ck_one 0), (12, 3, 3, ck_one 0), (3, 0, 0, ck_one 3)])
def p28_E : List (Nat × List ck_Sum) := [(48, [p28x_143]), (348, [p28x_145])]
theorem p28_h {X : Int → Int} {LX : Nat} : ck_OkE p1_O X LX p28_E := ck_E1 (ck_S1 p28x_143_s ck_S0) (ck_E1 (ck_S1 p28x_145_s ck_S0) ck_E0)
set_option maxRecDepth 100000 in
theorem p28_b : (ck_prod []).all (fun xf => ck_go p1_O (some 6) xf p28_E 370 280 245 p1_W p1_outs [] 80 false [] 1000 2000 1956 p1_L [] 245 p28_F) = true := by decide +kernel
theorem p28_s {X : Int → Int} {LX : Nat} (hLX : 6 = LX) (hX : ∀ j, gm_ir (X j)) {σ : Nat → Int} {L : gm_L} {K0 K : gm_K} {R0 R : gm_R} {M0 M : gm_M} (hS : ck_St p1_O σ p1_W 245 K0 R0 M0 p1_L [] p28_F L [] 245 K R M) : gm_Wp X LX 280 1000 2000 370 1956 L [] 245 K R M (ck_Q p1_O σ p1_W 245 K0 R0 M0 p1_outs) := ck_boxes p28_h hLX hX (by decide +kernel) p28_b hS
