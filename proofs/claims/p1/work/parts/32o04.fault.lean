/-! fault, on a new object: laid by wip/am/p1g.py. -/
set_option maxRecDepth 100000 in
def p4x_133 : ck_Sum := ((0, 0, 0), 245, [.inr (.inr (.inl 1))], ([], [], [(1, 2, 2, ck_one (-1))]), ([], []), [(.inr (some (.inl (ck_one (-1)))), 245, ([], [], []))])
set_option maxRecDepth 100000 in
theorem p4x_133_e : ck_ok p1_O none [] [] 22 [] 76 p4x_133 = true := by decide +kernel
theorem p4x_133_s {X : Int → Int} {LX : Nat} : ck_Ok p1_O X LX 22 p4x_133 := ck_ok_s (ck_E0) ck_X0 ck_l0 p4x_133_e
set_option maxRecDepth 100000 in
def p4x_134 : ck_Sum := ((0, 0, 0), 245, [.inr (.inr (.inl 226))], ([], [], [(226, 13, 13, ck_one (-1))]), ([(226, 0, 0)], []), [(.inr (some (.inl (ck_one (-1)))), 245, ([], [], [(226, 0, 0, ck_one 0)]))])
set_option maxRecDepth 100000 in
theorem p4x_134_e : ck_ok p1_O none [] [] 242 [] 82 p4x_134 = true := by decide +kernel
theorem p4x_134_s {X : Int → Int} {LX : Nat} : ck_Ok p1_O X LX 242 p4x_134 := ck_ok_s (ck_E0) ck_X0 ck_l0 p4x_134_e
set_option maxRecDepth 100000 in
def p4_F : ck_F := ([], [(3, 8, 0), (16, 8, 0), (29, 8, 0), (44, 8, 0), (57, 8, 0), (70, 8, 0), (83, 8, 0), (96, 8, 0), (109, 8, 0), (122, 8, 0), (135, 8, 0), (148, 8, 0), (161, 8, 0), (174, 8, 0), (187, 8, 0)], [(226, 13, 13, ck_one (-1)), (1, 2, 2, ck_one (-1))])
def p4_E : List (Nat × List ck_Sum) := [(22, [p4x_133]), (242, [p4x_134])]
theorem p4_h {X : Int → Int} {LX : Nat} : ck_OkE p1_O X LX p4_E := ck_E1 (ck_S1 p4x_133_s ck_S0) (ck_E1 (ck_S1 p4x_134_s ck_S0) ck_E0)
set_option maxRecDepth 100000 in
theorem p4_b : (ck_prod []).all (fun xf => ck_go p1_O (some 6) xf p4_E 370 280 245 p1_W p1_outs [] 80 false [] 1000 2000 430 p1_L [] 245 p4_F) = true := by decide +kernel
theorem p4_s {X : Int → Int} {LX : Nat} (hLX : 6 = LX) (hX : ∀ j, gm_ir (X j)) {σ : Nat → Int} {L : gm_L} {K0 K : gm_K} {R0 R : gm_R} {M0 M : gm_M} (hS : ck_St p1_O σ p1_W 245 K0 R0 M0 p1_L [] p4_F L [] 245 K R M) : gm_Wp X LX 280 1000 2000 370 430 L [] 245 K R M (ck_Q p1_O σ p1_W 245 K0 R0 M0 p1_outs) := ck_boxes p4_h hLX hX (by decide +kernel) p4_b hS
