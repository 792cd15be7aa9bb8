/-! EVERY CALL ENDS, whatever was done before (laid by wip/am/p2g.py). -/
set_option maxRecDepth 100000 in
/-- GlacierMailModel.count -/
def p2_s3571 : ck_Sum := ((1, 0, 0), 245, [.inr (.inr (.inl 226)), .inl ((-2147483648), (-1), [])], ([], [], []), ([(226, 0, 0)], []), [(.inr (some (.inl (ck_one (-1)))), 245, ([], [], [(226, 0, 0, ck_one 0)]))])
set_option maxRecDepth 100000 in
theorem p2_s3571_e : ck_ok p2_O none [] [(286, [p2_s3570])] 368 [] 98 p2_s3571 = true := by decide +kernel
theorem p2_s3571_s {X : Int → Int} {LX : Nat} : ck_Ok p2_O X LX 368 p2_s3571 := ck_ok_s ⟨p2_nmu, ck_E1 (ck_S1 p2_s3570_s ck_S0) ck_E0⟩ ck_X0 ck_l0 p2_s3571_e
set_option maxRecDepth 100000 in
/-- GlacierMailModel.in -/
def p2_s3572 : ck_Sum := ((0, 0, 0), 245, [.inl (18, 2147483647, []), .inl (ck_one 0), .inl (ck_one 13)], ([], [], []), ([], []), [(.inr (some (.inl (ck_one 0))), 245, ([], [], []))])
set_option maxRecDepth 100000 in
theorem p2_s3572_e : ck_ok p2_O none [] [] 286 [] 86 p2_s3572 = true := by decide +kernel
theorem p2_s3572_s {X : Int → Int} {LX : Nat} : ck_Ok p2_O X LX 286 p2_s3572 := ck_ok_s ⟨p2_nmu, ck_E0⟩ ck_X0 ck_l0 p2_s3572_e
set_option maxRecDepth 100000 in
/-- GlacierMailModel.in -/
def p2_s3573 : ck_Sum := ((0, 0, 0), 245, [.inl (ck_one 13), .inl (ck_one 0), .inl (ck_one 13)], ([], [], []), ([], []), [(.inr (some (.inl (ck_one 1))), 245, ([], [], []))])
set_option maxRecDepth 100000 in
theorem p2_s3573_e : ck_ok p2_O none [] [] 286 [] 88 p2_s3573 = true := by decide +kernel
theorem p2_s3573_s {X : Int → Int} {LX : Nat} : ck_Ok p2_O X LX 286 p2_s3573 := ck_ok_s ⟨p2_nmu, ck_E0⟩ ck_X0 ck_l0 p2_s3573_e
set_option maxRecDepth 100000 in
/-- GlacierMailModel.in -/
def p2_s3574 : ck_Sum := ((0, 0, 0), 245, [.inl (ck_one 12), .inl (ck_one 0), .inl (ck_one 13)], ([], [], []), ([], []), [(.inr (some (.inl (ck_one 1))), 245, ([], [], []))])
set_option maxRecDepth 100000 in
theorem p2_s3574_e : ck_ok p2_O none [] [] 286 [] 88 p2_s3574 = true := by decide +kernel
theorem p2_s3574_s {X : Int → Int} {LX : Nat} : ck_Ok p2_O X LX 286 p2_s3574 := ck_ok_s ⟨p2_nmu, ck_E0⟩ ck_X0 ck_l0 p2_s3574_e
set_option maxRecDepth 100000 in
/-- GlacierMailModel.in -/
def p2_s3575 : ck_Sum := ((0, 0, 0), 245, [.inl (ck_one 11), .inl (ck_one 0), .inl (ck_one 13)], ([], [], []), ([], []), [(.inr (some (.inl (ck_one 1))), 245, ([], [], []))])
set_option maxRecDepth 100000 in
theorem p2_s3575_e : ck_ok p2_O none [] [] 286 [] 88 p2_s3575 = true := by decide +kernel
theorem p2_s3575_s {X : Int → Int} {LX : Nat} : ck_Ok p2_O X LX 286 p2_s3575 := ck_ok_s ⟨p2_nmu, ck_E0⟩ ck_X0 ck_l0 p2_s3575_e
set_option maxRecDepth 100000 in
/-- GlacierMailModel.in -/
def p2_s3576 : ck_Sum := ((0, 0, 0), 245, [.inl (ck_one 10), .inl (ck_one 0), .inl (ck_one 13)], ([], [], []), ([], []), [(.inr (some (.inl (ck_one 1))), 245, ([], [], []))])
set_option maxRecDepth 100000 in
theorem p2_s3576_e : ck_ok p2_O none [] [] 286 [] 88 p2_s3576 = true := by decide +kernel
theorem p2_s3576_s {X : Int → Int} {LX : Nat} : ck_Ok p2_O X LX 286 p2_s3576 := ck_ok_s ⟨p2_nmu, ck_E0⟩ ck_X0 ck_l0 p2_s3576_e
set_option maxRecDepth 100000 in
/-- GlacierMailModel.in -/
def p2_s3578 : ck_Sum := ((0, 0, 0), 245, [.inl (0, 7, []), .inl (ck_one 0), .inl (ck_one 13)], ([], [], []), ([], []), [(.inr (some (.inl (ck_one 1))), 245, ([], [], []))])
set_option maxRecDepth 100000 in
theorem p2_s3578_e : ck_ok p2_O none [] [] 286 [] 88 p2_s3578 = true := by decide +kernel
theorem p2_s3578_s {X : Int → Int} {LX : Nat} : ck_Ok p2_O X LX 286 p2_s3578 := ck_ok_s ⟨p2_nmu, ck_E0⟩ ck_X0 ck_l0 p2_s3578_e
set_option maxRecDepth 100000 in
/-- GlacierMailModel.in -/
def p2_s3579 : ck_Sum := ((0, 0, 0), 245, [.inl (ck_one 9), .inl (ck_one 0), .inl (ck_one 13)], ([], [], []), ([], []), [(.inr (some (.inl (ck_one 1))), 245, ([], [], []))])
set_option maxRecDepth 100000 in
theorem p2_s3579_e : ck_ok p2_O none [] [] 286 [] 88 p2_s3579 = true := by decide +kernel
theorem p2_s3579_s {X : Int → Int} {LX : Nat} : ck_Ok p2_O X LX 286 p2_s3579 := ck_ok_s ⟨p2_nmu, ck_E0⟩ ck_X0 ck_l0 p2_s3579_e
set_option maxRecDepth 100000 in
/-- GlacierMailModel.count -/
def p2_s3580 : ck_Sum := ((1, 0, 0), 245, [.inr (.inr (.inl 226)), .inl (0, 9, [])], ([], [], [(227, 9, 9, (0, 299, [(11, 0)]))]), ([(226, 0, 0)], []), [(.inr (some (.inl (0, 299, []))), 245, ([], [], [(226, 0, 0, ck_one 0)])), (.inr (some (.inl (ck_one (-1)))), 245, ([], [], [(226, 0, 0, ck_one 0)]))])
set_option maxRecDepth 100000 in
theorem p2_s3580_e : ck_ok p2_O none [] [(286, [p2_s3578, p2_s3579])] 368 [] 106 p2_s3580 = true := by decide +kernel
theorem p2_s3580_s {X : Int → Int} {LX : Nat} : ck_Ok p2_O X LX 368 p2_s3580 := ck_ok_s ⟨p2_nmu, ck_E1 (ck_S1 p2_s3578_s (ck_S1 p2_s3579_s ck_S0)) ck_E0⟩ ck_X0 ck_l0 p2_s3580_e
