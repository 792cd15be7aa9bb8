/-! end, on a new object: laid by wip/am/p1g.py. -/
set_option maxRecDepth 100000 in
def p1x_133 : ck_Sum := ((0, 0, 0), 245, [.inr (.inr (.inl 1)), .inl ((-2147483648), (-1), none)], ([], [], []), ([], []), [(.inr (some (.inl (ck_one 0))), 245, ([], [], []))])
set_option maxRecDepth 100000 in
theorem p1x_133_e : ck_ok p1_O none [] [] 21 [] 78 p1x_133 = true := by decide +kernel
theorem p1x_133_s {X : Int → Int} {LX : Nat} : ck_Ok p1_O X LX 21 p1x_133 := ck_ok_s (ck_E0) ck_X0 ck_l0 p1x_133_e
set_option maxRecDepth 100000 in
def p1x_135 : ck_Sum := ((0, 0, 0), 245, [.inr (.inr (.inl 1)), .inl (ck_one 0)], ([], [], [(1, 1, 1, ck_one 0)]), ([(1, 1, 1)], []), [(.inr (some (.inl (ck_one 1))), 245, ([], [], [(1, 1, 1, ck_one 0)]))])
set_option maxRecDepth 100000 in
theorem p1x_135_e : ck_ok p1_O none [] [] 21 [] 92 p1x_135 = true := by decide +kernel
theorem p1x_135_s {X : Int → Int} {LX : Nat} : ck_Ok p1_O X LX 21 p1x_135 := ck_ok_s (ck_E0) ck_X0 ck_l0 p1x_135_e
set_option maxRecDepth 100000 in
def p1x_137 : ck_Sum := ((0, 0, 0), 245, [.inr (.inr (.inl 1)), .inl (1, 2147483647, none)], ([], [], [(1, 1, 1, ck_one 0)]), ([], []), [(.inr (some (.inl (ck_one 0))), 245, ([], [], []))])
set_option maxRecDepth 100000 in
theorem p1x_137_e : ck_ok p1_O none [] [] 21 [] 86 p1x_137 = true := by decide +kernel
theorem p1x_137_s {X : Int → Int} {LX : Nat} : ck_Ok p1_O X LX 21 p1x_137 := ck_ok_s (ck_E0) ck_X0 ck_l0 p1x_137_e
set_option maxRecDepth 100000 in
def p1x_134 : ck_Sum := ((0, 0, 0), 245, [.inr (.inr (.inl 226)), .inl ((-2147483648), (-1), none)], ([], [], []), ([(226, 0, 0)], []), [(.inr (some (.inl (ck_one 0))), 245, ([], [], [(226, 0, 0, ck_one 0)]))])
set_option maxRecDepth 100000 in
theorem p1x_134_e : ck_ok p1_O none [] [] 241 [] 84 p1x_134 = true := by decide +kernel
theorem p1x_134_s {X : Int → Int} {LX : Nat} : ck_Ok p1_O X LX 241 p1x_134 := ck_ok_s (ck_E0) ck_X0 ck_l0 p1x_134_e
set_option maxRecDepth 100000 in
def p1x_136 : ck_Sum := ((0, 0, 0), 245, [.inr (.inr (.inl 226)), .inl (ck_one 0)], ([], [], [(226, 8, 8, ck_one 0)]), ([(226, 0, 0), (226, 8, 8)], []), [(.inr (some (.inl (ck_one 1))), 245, ([], [], [(226, 8, 8, ck_one 0), (226, 0, 0, ck_one 0)]))])
set_option maxRecDepth 100000 in
theorem p1x_136_e : ck_ok p1_O none [] [] 241 [] 98 p1x_136 = true := by decide +kernel
theorem p1x_136_s {X : Int → Int} {LX : Nat} : ck_Ok p1_O X LX 241 p1x_136 := ck_ok_s (ck_E0) ck_X0 ck_l0 p1x_136_e
set_option maxRecDepth 100000 in
def p1x_138 : ck_Sum := ((0, 0, 0), 245, [.inr (.inr (.inl 226)), .inl (1, 2147483647, none)], ([], [], [(226, 8, 8, ck_one 0)]), ([(226, 0, 0)], []), [(.inr (some (.inl (ck_one 0))), 245, ([], [], [(226, 0, 0, ck_one 0)]))])
set_option maxRecDepth 100000 in
theorem p1x_138_e : ck_ok p1_O none [] [] 241 [] 92 p1x_138 = true := by decide +kernel
theorem p1x_138_s {X : Int → Int} {LX : Nat} : ck_Ok p1_O X LX 241 p1x_138 := ck_ok_s (ck_E0) ck_X0 ck_l0 p1x_138_e
set_option maxRecDepth 100000 in
def p1_F : ck_F := ([], [(3, 8, 0), (16, 8, 0), (29, 8, 0), (44, 8, 0), (57, 8, 0), (70, 8, 0), (83, 8, 0), (96, 8, 0), (109, 8, 0), (122, 8, 0), (135, 8, 0), (148, 8, 0), (161, 8, 0), (174, 8, 0), (187, 8, 0)], [(226, 8, 8, ck_one 0), (1, 1, 1, ck_one 0)])
def p1_E : List (Nat × List ck_Sum) := [(21, [p1x_133, p1x_135, p1x_137]), (241, [p1x_134, p1x_136, p1x_138])]
theorem p1_h {X : Int → Int} {LX : Nat} : ck_OkE p1_O X LX p1_E := ck_E1 (ck_S1 p1x_133_s (ck_S1 p1x_135_s (ck_S1 p1x_137_s ck_S0))) (ck_E1 (ck_S1 p1x_134_s (ck_S1 p1x_136_s (ck_S1 p1x_138_s ck_S0))) ck_E0)
set_option maxRecDepth 100000 in
theorem p1_b : (ck_prod [(1, [((-2147483648), (-1)), (0, 0), (1, 2147483647)])]).all (fun xf => ck_go p1_O (some 6) xf p1_E 370 280 245 p1_W p1_outs [] 100 false [] 1000 2000 317 p1_L [] 245 p1_F) = true := by decide +kernel
theorem p1_s {X : Int → Int} {LX : Nat} (hLX : 6 = LX) (hX : ∀ j, gm_ir (X j)) {σ : Nat → Int} {L : gm_L} {K0 K : gm_K} {R0 R : gm_R} {M0 M : gm_M} (hS : ck_St p1_O σ p1_W 245 K0 R0 M0 p1_L [] p1_F L [] 245 K R M) : gm_Wp X LX 280 1000 2000 370 317 L [] 245 K R M (ck_Q p1_O σ p1_W 245 K0 R0 M0 p1_outs) := ck_boxes p1_h hLX hX (by decide +kernel) p1_b hS
