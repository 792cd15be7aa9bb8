/-! feed, on a new object: laid by wip/am/p1g.py. -/
set_option maxRecDepth 100000 in
def p0x_133 : ck_Sum := ((0, 0, 0), 245, [.inr (.inr (.inl 1)), .inl ((-2147483648), 2147483647, none)], ([], [], [(1, 1, 1, ck_one 0)]), ([(1, 1, 1), (2, 0, 3)], []), [(.inr none, 245, ([], [], [(1, 1, 1, ck_one 4), (2, 3, 3, ((-128), 127, none)), (2, 2, 2, ((-128), 127, none)), (2, 1, 1, ((-128), 127, none)), (2, 0, 0, ((-128), 127, none))]))])
set_option maxRecDepth 100000 in
theorem p0x_133_e : ck_ok p1_O none [] [] 20 [] 280 p0x_133 = true := by decide +kernel
theorem p0x_133_s {X : Int → Int} {LX : Nat} : ck_Ok p1_O X LX 20 p0x_133 := ck_ok_s (ck_E0) ck_X0 ck_l0 p0x_133_e
set_option maxRecDepth 100000 in
def p0x_134 : ck_Sum := ((0, 0, 0), 245, [.inr (.inr (.inl 1)), .inl ((-2147483648), 2147483647, none)], ([], [], [(1, 1, 1, ck_one 4)]), ([(1, 1, 1), (2, 4, 7)], []), [(.inr none, 245, ([], [], [(1, 1, 1, ck_one 8), (2, 7, 7, ((-128), 127, none)), (2, 6, 6, ((-128), 127, none)), (2, 5, 5, ((-128), 127, none)), (2, 4, 4, ((-128), 127, none))]))])
set_option maxRecDepth 100000 in
theorem p0x_134_e : ck_ok p1_O none [] [] 20 [] 280 p0x_134 = true := by decide +kernel
theorem p0x_134_s {X : Int → Int} {LX : Nat} : ck_Ok p1_O X LX 20 p0x_134 := ck_ok_s (ck_E0) ck_X0 ck_l0 p0x_134_e
set_option maxRecDepth 100000 in
def p0x_135 : ck_Sum := ((0, 0, 0), 245, [.inr (.inr (.inl 1)), .inl ((-2147483648), 2147483647, none)], ([], [], [(1, 1, 1, ck_one 8)]), ([(1, 1, 1), (2, 8, 11)], []), [(.inr none, 245, ([], [], [(1, 1, 1, ck_one 12), (2, 11, 11, ((-128), 127, none)), (2, 10, 10, ((-128), 127, none)), (2, 9, 9, ((-128), 127, none)), (2, 8, 8, ((-128), 127, none))]))])
set_option maxRecDepth 100000 in
theorem p0x_135_e : ck_ok p1_O none [] [] 20 [] 280 p0x_135 = true := by decide +kernel
theorem p0x_135_s {X : Int → Int} {LX : Nat} : ck_Ok p1_O X LX 20 p0x_135 := ck_ok_s (ck_E0) ck_X0 ck_l0 p0x_135_e
set_option maxRecDepth 100000 in
def p0x_136 : ck_Sum := ((0, 0, 0), 245, [.inr (.inr (.inl 1)), .inl ((-2147483648), 2147483647, none)], ([], [], [(1, 1, 1, ck_one 12)]), ([(1, 1, 1), (2, 12, 15)], []), [(.inr none, 245, ([], [], [(1, 1, 1, ck_one 16), (2, 15, 15, ((-128), 127, none)), (2, 14, 14, ((-128), 127, none)), (2, 13, 13, ((-128), 127, none)), (2, 12, 12, ((-128), 127, none))]))])
set_option maxRecDepth 100000 in
theorem p0x_136_e : ck_ok p1_O none [] [] 20 [] 280 p0x_136 = true := by decide +kernel
theorem p0x_136_s {X : Int → Int} {LX : Nat} : ck_Ok p1_O X LX 20 p0x_136 := ck_ok_s (ck_E0) ck_X0 ck_l0 p0x_136_e
set_option maxRecDepth 100000 in
def p0x_137 : ck_Sum := ((0, 0, 0), 245, [.inr (.inr (.inl 1)), .inl ((-2147483648), 2147483647, none)], ([], [], [(1, 1, 1, ck_one 16)]), ([(1, 1, 1), (2, 16, 19)], []), [(.inr none, 245, ([], [], [(1, 1, 1, ck_one 20), (2, 19, 19, ((-128), 127, none)), (2, 18, 18, ((-128), 127, none)), (2, 17, 17, ((-128), 127, none)), (2, 16, 16, ((-128), 127, none))]))])
set_option maxRecDepth 100000 in
theorem p0x_137_e : ck_ok p1_O none [] [] 20 [] 280 p0x_137 = true := by decide +kernel
theorem p0x_137_s {X : Int → Int} {LX : Nat} : ck_Ok p1_O X LX 20 p0x_137 := ck_ok_s (ck_E0) ck_X0 ck_l0 p0x_137_e
set_option maxRecDepth 100000 in
def p0x_138 : ck_Sum := ((1, 0, 0), 245, [.inr (.inr (.inl 1)), .inl ((-2147483648), 2147483647, none), .inl ((-2147483648), 2147483647, none), .inl ((-2147483648), 2147483647, none), .inl ((-2147483648), 2147483647, none), .inl ((-2147483648), 2147483647, none)], ([], [], [(1, 1, 1, ck_one 0)]), ([(1, 1, 1), (2, 0, 19)], []), [(.inr (some (.inl (ck_one 20))), 245, ([], [], [(1, 1, 1, ck_one 20), (2, 19, 19, ((-128), 127, none)), (2, 18, 18, ((-128), 127, none)), (2, 17, 17, ((-128), 127, none)), (2, 16, 16, ((-128), 127, none)), (2, 15, 15, ((-128), 127, none)), (2, 14, 14, ((-128), 127, none)), (2, 13, 13, ((-128), 127, none)), (2, 12, 12, ((-128), 127, none)), (2, 11, 11, ((-128), 127, none)), (2, 10, 10, ((-128), 127, none)), (2, 9, 9, ((-128), 127, none)), (2, 8, 8, ((-128), 127, none)), (2, 7, 7, ((-128), 127, none)), (2, 6, 6, ((-128), 127, none)), (2, 5, 5, ((-128), 127, none)), (2, 4, 4, ((-128), 127, none)), (2, 3, 3, ((-128), 127, none)), (2, 2, 2, ((-128), 127, none)), (2, 1, 1, ((-128), 127, none)), (2, 0, 0, ((-128), 127, none))]))])
set_option maxRecDepth 100000 in
theorem p0x_138_e : ck_ok p1_O none [] [(20, [p0x_133, p0x_134, p0x_135, p0x_136, p0x_137])] 19 [] 118 p0x_138 = true := by decide +kernel
theorem p0x_138_s {X : Int → Int} {LX : Nat} : ck_Ok p1_O X LX 19 p0x_138 := ck_ok_s (ck_E1 (ck_S1 p0x_133_s (ck_S1 p0x_134_s (ck_S1 p0x_135_s (ck_S1 p0x_136_s (ck_S1 p0x_137_s ck_S0))))) ck_E0) ck_X0 ck_l0 p0x_138_e
set_option maxRecDepth 100000 in
def p0x_139 : ck_Sum := ((0, 0, 0), 245, [.inr (.inr (.inl 226)), .inl ((-2147483648), 2147483647, none), .inl ((-2147483648), 2147483647, none), .inl ((-2147483648), 2147483647, none), .inl ((-2147483648), 2147483647, none), .inl ((-2147483648), 2147483647, none)], ([], [], [(226, 8, 8, ck_one 0)]), ([(226, 0, 0), (226, 8, 8), (231, 0, 19), (232, 0, 4)], []), [(.inr (some (.inl (ck_one 20))), 245, ([], [], [(226, 8, 8, ck_one 20), (231, 19, 19, ((-128), 127, none)), (231, 18, 18, ((-128), 127, none)), (231, 17, 17, ((-128), 127, none)), (231, 16, 16, ((-128), 127, none)), (231, 15, 15, ((-128), 127, none)), (231, 14, 14, ((-128), 127, none)), (231, 13, 13, ((-128), 127, none)), (231, 12, 12, ((-128), 127, none)), (231, 11, 11, ((-128), 127, none)), (231, 10, 10, ((-128), 127, none)), (231, 9, 9, ((-128), 127, none)), (231, 8, 8, ((-128), 127, none)), (231, 7, 7, ((-128), 127, none)), (231, 6, 6, ((-128), 127, none)), (231, 5, 5, ((-128), 127, none)), (231, 4, 4, ((-128), 127, none)), (231, 3, 3, ((-128), 127, none)), (231, 2, 2, ((-128), 127, none)), (231, 1, 1, ((-128), 127, none)), (231, 0, 0, ((-128), 127, none)), (226, 0, 0, ck_one 0)]))])
set_option maxRecDepth 100000 in
theorem p0x_139_e : ck_ok p1_O none [] [] 240 [] 1246 p0x_139 = true := by decide +kernel
theorem p0x_139_s {X : Int → Int} {LX : Nat} : ck_Ok p1_O X LX 240 p0x_139 := ck_ok_s (ck_E0) ck_X0 ck_l0 p0x_139_e
set_option maxRecDepth 100000 in
def p0_F : ck_F := ([], [(3, 8, 0), (16, 8, 0), (29, 8, 0), (44, 8, 0), (57, 8, 0), (70, 8, 0), (83, 8, 0), (96, 8, 0), (109, 8, 0), (122, 8, 0), (135, 8, 0), (148, 8, 0), (161, 8, 0), (174, 8, 0), (187, 8, 0)], [(226, 8, 8, ck_one 0), (1, 1, 1, ck_one 0)])
def p0_E : List (Nat × List ck_Sum) := [(19, [p0x_138]), (240, [p0x_139])]
theorem p0_h {X : Int → Int} {LX : Nat} : ck_OkE p1_O X LX p0_E := ck_E1 (ck_S1 p0x_138_s ck_S0) (ck_E1 (ck_S1 p0x_139_s ck_S0) ck_E0)
set_option maxRecDepth 100000 in
theorem p0_b : (ck_prod []).all (fun xf => ck_go p1_O (some 6) xf p0_E 370 280 245 p1_W p1_outs [] 180 false [] 1000 2000 244 p1_L [] 245 p0_F) = true := by decide +kernel
theorem p0_s {X : Int → Int} {LX : Nat} (hLX : 6 = LX) (hX : ∀ j, gm_ir (X j)) {σ : Nat → Int} {L : gm_L} {K0 K : gm_K} {R0 R : gm_R} {M0 M : gm_M} (hS : ck_St p1_O σ p1_W 245 K0 R0 M0 p1_L [] p0_F L [] 245 K R M) : gm_Wp X LX 280 1000 2000 370 244 L [] 245 K R M (ck_Q p1_O σ p1_W 245 K0 R0 M0 p1_outs) := ck_boxes p0_h hLX hX (by decide +kernel) p0_b hS
