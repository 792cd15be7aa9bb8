/-! back, on a new object: laid by wip/am/p1g.py. -/
set_option maxRecDepth 100000 in
def p45x_133 : ck_Sum := ((0, 0, 0), 245, [.inr (.inr (.inl 1))], ([], [], [(1, 6, 6, ck_one 0)]), ([], []), [(.inr (some (.inl (ck_one 0))), 245, ([], [], []))])
set_option maxRecDepth 100000 in
theorem p45x_133_e : ck_ok p1_O none [] [] 60 [] 80 p45x_133 = true := by decide +kernel
theorem p45x_133_s {X : Int → Int} {LX : Nat} : ck_Ok p1_O X LX 60 p45x_133 := ck_ok_s (ck_E0) ck_X0 ck_l0 p45x_133_e
set_option maxRecDepth 100000 in
def p45x_134 : ck_Sum := ((0, 0, 0), 245, [.inr (.inr (.inl 226))], ([], [], [(226, 5, 5, ck_one 0)]), ([(226, 0, 0)], []), [(.inr (some (.inl (ck_one 0))), 245, ([], [], [(226, 0, 0, ck_one 0)]))])
set_option maxRecDepth 100000 in
theorem p45x_134_e : ck_ok p1_O none [] [] 238 [] 86 p45x_134 = true := by decide +kernel
theorem p45x_134_s {X : Int → Int} {LX : Nat} : ck_Ok p1_O X LX 238 p45x_134 := ck_ok_s (ck_E0) ck_X0 ck_l0 p45x_134_e
set_option maxRecDepth 100000 in
def p45_F : ck_F := ([], [(3, 8, 0), (16, 8, 0), (29, 8, 0), (44, 8, 0), (57, 8, 0), (70, 8, 0), (83, 8, 0), (96, 8, 0), (109, 8, 0), (122, 8, 0), (135, 8, 0), (148, 8, 0), (161, 8, 0), (174, 8, 0), (187, 8, 0)], [(226, 5, 5, ck_one 0), (1, 6, 6, ck_one 0)])
def p45_E : List (Nat × List ck_Sum) := [(60, [p45x_133]), (238, [p45x_134])]
theorem p45_h {X : Int → Int} {LX : Nat} : ck_OkE p1_O X LX p45_E := ck_E1 (ck_S1 p45x_133_s ck_S0) (ck_E1 (ck_S1 p45x_134_s ck_S0) ck_E0)
set_option maxRecDepth 100000 in
theorem p45_b : (ck_prod []).all (fun xf => ck_go p1_O (some 6) xf p45_E 370 280 245 p1_W p1_outs [] 80 false [] 1000 2000 2942 p1_L [] 245 p45_F) = true := by decide +kernel
theorem p45_s {X : Int → Int} {LX : Nat} (hLX : 6 = LX) (hX : ∀ j, gm_ir (X j)) {σ : Nat → Int} {L : gm_L} {K0 K : gm_K} {R0 R : gm_R} {M0 M : gm_M} (hS : ck_St p1_O σ p1_W 245 K0 R0 M0 p1_L [] p45_F L [] 245 K R M) : gm_Wp X LX 280 1000 2000 370 2942 L [] 245 K R M (ck_Q p1_O σ p1_W 245 K0 R0 M0 p1_outs) := ck_boxes p45_h hLX hX (by decide +kernel) p45_b hS
