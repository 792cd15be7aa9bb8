/-! EVERY CALL ENDS, whatever was done before (laid by wip/am/p2g.py). -/
set_option maxRecDepth 100000 in
/-- GlacierMail.count -/
def p2_s3562 : ck_Sum := ((0, 0, 0), 245, [.inr (.inr (.inl 1)), .inl ((-2147483648), (-1), [])], ([], [], []), ([], []), [(.inr (some (.inl (ck_one (-1)))), 245, ([], [], []))])
set_option maxRecDepth 100000 in
theorem p2_s3562_e : ck_ok p2_O none [] [] 63 [] 78 p2_s3562 = true := by decide +kernel
theorem p2_s3562_s {X : Int → Int} {LX : Nat} : ck_Ok p2_O X LX 63 p2_s3562 := ck_ok_s ⟨p2_nmu, ck_E0⟩ ck_X0 ck_l0 p2_s3562_e
set_option maxRecDepth 100000 in
/-- GlacierMail$History.size -/
def p2_s3563 : ck_Sum := ((0, 0, 0), 245, [.inr (.inr (.inl 42))], ([], [], []), ([], []), [(.inr (some (.inl (0, 12, []))), 245, ([], [], []))])
set_option maxRecDepth 100000 in
theorem p2_s3563_e : ck_ok p2_O none [] [] 69 [] 76 p2_s3563 = true := by decide +kernel
theorem p2_s3563_s {X : Int → Int} {LX : Nat} : ck_Ok p2_O X LX 69 p2_s3563 := ck_ok_s ⟨p2_nmu, ck_E0⟩ ck_X0 ck_l0 p2_s3563_e
set_option maxRecDepth 100000 in
/-- GlacierMail.inIceNow -/
def p2_s3564 : ck_Sum := ((5, 0, 0), 245, [.inr (.inr (.inl 1))], ([], [(3, 8, 0)], [(3, 6, 6, (0, 299, [(10, 0)]))]), ([(1, 15, 15), (206, 2, 8), (220, 3, 3), (221, 0, 47)], []), [(.inr (some (.inl ((-2147483648), 2147483647, []))), 245, ([], [], [(1, 15, 15, ck_one 1)]))])
set_option maxRecDepth 100000 in
theorem p2_s3564_e : ck_ok p2_O none [] [(24, [p2_s405]), (9, [p2_s359]), (10, [p2_s407]), (67, [p2_s408])] 68 [(8, [some (.inr (.inr (.inl 1))), some (.inl ((-2147483648), 2147483647, [])), some (.inl (0, 24, []))], ([], [(3, 8, 0)], [(1, 15, 15, ck_one 1), (3, 6, 6, (0, 299, [(10, 0)]))]), 100, .inl 2, true)] 174 p2_s3564 = true := by decide +kernel
theorem p2_s3564_s {X : Int → Int} {LX : Nat} : ck_Ok p2_O X LX 68 p2_s3564 := ck_ok_s ⟨p2_nmu, ck_E1 (ck_S1 p2_s405_s ck_S0) (ck_E1 (ck_S1 p2_s359_s ck_S0) (ck_E1 (ck_S1 p2_s407_s ck_S0) (ck_E1 (ck_S1 p2_s408_s ck_S0) ck_E0)))⟩ ck_X0 ck_l0 p2_s3564_e
set_option maxRecDepth 100000 in
/-- GlacierMail.waiting -/
def p2_s3565 : ck_Sum := ((5, 0, 0), 245, [.inr (.inr (.inl 1)), .inl (ck_one (-1))], ([], [(3, 8, 0)], [(3, 6, 6, (0, 299, [(10, 0)]))]), ([(1, 15, 15), (206, 2, 8), (220, 3, 3), (221, 0, 47)], []), [(.inr (some (.inl ((-2147483648), 2147483647, []))), 245, ([], [], [(1, 15, 15, ck_one 1)]))])
set_option maxRecDepth 100000 in
theorem p2_s3565_e : ck_ok p2_O none [] [(24, [p2_s405]), (9, [p2_s359]), (66, [p2_s434])] 65 [(8, [some (.inr (.inr (.inl 1))), some (.inl (ck_one (-1))), some (.inl ((-2147483648), 2147483647, [])), some (.inl (0, 24, [])), none], ([], [(3, 8, 0)], [(1, 15, 15, ck_one 1), (3, 6, 6, (0, 299, [(10, 0)]))]), 100, .inl 3, true)] 178 p2_s3565 = true := by decide +kernel
theorem p2_s3565_s {X : Int → Int} {LX : Nat} : ck_Ok p2_O X LX 65 p2_s3565 := ck_ok_s ⟨p2_nmu, ck_E1 (ck_S1 p2_s405_s ck_S0) (ck_E1 (ck_S1 p2_s359_s ck_S0) (ck_E1 (ck_S1 p2_s434_s ck_S0) ck_E0))⟩ ck_X0 ck_l0 p2_s3565_e
set_option maxRecDepth 100000 in
/-- GlacierMail$Rows.size -/
def p2_s3566 : ck_Sum := ((0, 0, 0), 245, [.inr (.inr (.inl 14))], ([], [], []), ([], []), [(.inr (some (.inl (0, 24, []))), 245, ([], [], []))])
set_option maxRecDepth 100000 in
theorem p2_s3566_e : ck_ok p2_O none [] [] 9 [] 76 p2_s3566 = true := by decide +kernel
theorem p2_s3566_s {X : Int → Int} {LX : Nat} : ck_Ok p2_O X LX 9 p2_s3566 := ck_ok_s ⟨p2_nmu, ck_E0⟩ ck_X0 ck_l0 p2_s3566_e
set_option maxRecDepth 100000 in
/-- GlacierMail.count -/
def p2_s3567 : ck_Sum := ((6, 0, 0), 245, [.inr (.inr (.inl 1)), .inl (10, 2147483647, [])], ([], [(3, 8, 0)], [(3, 6, 6, (0, 299, [(10, 0)]))]), ([(1, 15, 15), (206, 2, 8), (220, 3, 3), (221, 0, 47)], []), [(.inr (some (.inl ((-2147483648), 2147483647, []))), 245, ([], [], [])), (.inr (some (.inl (0, 9999, []))), 245, ([], [], []))])
set_option maxRecDepth 100000 in
theorem p2_s3567_e : ck_ok p2_O none [] [(69, [p2_s3563]), (68, [p2_s3564]), (65, [p2_s3565]), (9, [p2_s3566])] 63 [] 84 p2_s3567 = true := by decide +kernel
theorem p2_s3567_s {X : Int → Int} {LX : Nat} : ck_Ok p2_O X LX 63 p2_s3567 := ck_ok_s ⟨p2_nmu, ck_E1 (ck_S1 p2_s3563_s ck_S0) (ck_E1 (ck_S1 p2_s3564_s ck_S0) (ck_E1 (ck_S1 p2_s3565_s ck_S0) (ck_E1 (ck_S1 p2_s3566_s ck_S0) ck_E0)))⟩ ck_X0 ck_l0 p2_s3567_e
set_option maxRecDepth 100000 in
/-- GlacierMail.lawLines -/
def p2_s3568 : ck_Sum := ((0, 0, 0), 245, [.inr (.inr (.inl 1))], ([], [(3, 8, 0)], []), ([], []), [(.inr (some (.inl (ck_one (-1)))), 245, ([], [], []))])
set_option maxRecDepth 100000 in
theorem p2_s3568_e : ck_ok p2_O none [] [] 64 [] 84 p2_s3568 = true := by decide +kernel
theorem p2_s3568_s {X : Int → Int} {LX : Nat} : ck_Ok p2_O X LX 64 p2_s3568 := ck_ok_s ⟨p2_nmu, ck_E0⟩ ck_X0 ck_l0 p2_s3568_e
set_option maxRecDepth 100000 in
/-- GlacierMail.count -/
def p2_s3569 : ck_Sum := ((1, 0, 0), 245, [.inr (.inr (.inl 1)), .inl (0, 9, [])], ([], [(3, 8, 0)], [(3, 6, 6, (0, 299, [(10, 0)]))]), ([], []), [(.inr (some (.inl (0, 2147483647, []))), 245, ([], [], [])), (.inr (some (.inl ((-2147483648), (-1), []))), 245, ([], [], []))])
set_option maxRecDepth 100000 in
theorem p2_s3569_e : ck_ok p2_O none [] [(64, [p2_s3568]), (9, [p2_s3125, p2_s159, p2_s359, p2_s348, p2_s155])] 63 [] 84 p2_s3569 = true := by decide +kernel
theorem p2_s3569_s {X : Int → Int} {LX : Nat} : ck_Ok p2_O X LX 63 p2_s3569 := ck_ok_s ⟨p2_nmu, ck_E1 (ck_S1 p2_s3568_s ck_S0) (ck_E1 (ck_S1 p2_s3125_s (ck_S1 p2_s159_s (ck_S1 p2_s359_s (ck_S1 p2_s348_s (ck_S1 p2_s155_s ck_S0))))) ck_E0)⟩ ck_X0 ck_l0 p2_s3569_e
set_option maxRecDepth 100000 in
/-- GlacierMailModel.in -/
def p2_s3570 : ck_Sum := ((0, 0, 0), 245, [.inl ((-2147483648), (-1), []), .inl (ck_one 0), .inl (ck_one 13)], ([], [], []), ([], []), [(.inr (some (.inl (ck_one 0))), 245, ([], [], []))])
set_option maxRecDepth 100000 in
theorem p2_s3570_e : ck_ok p2_O none [] [] 286 [] 80 p2_s3570 = true := by decide +kernel
theorem p2_s3570_s {X : Int → Int} {LX : Nat} : ck_Ok p2_O X LX 286 p2_s3570 := ck_ok_s ⟨p2_nmu, ck_E0⟩ ck_X0 ck_l0 p2_s3570_e
set_option maxRecDepth 100000 in
/-- GlacierMailModel.count -/
def p2_s3571 : ck_Sum := ((1, 0, 0), 245, [.inr (.inr (.inl 226)), .inl ((-2147483648), (-1), [])], ([], [], []), ([(226, 0, 0)], []), [(.inr (some (.inl (ck_one (-1)))), 245, ([], [], [(226, 0, 0, ck_one 0)]))])
set_option maxRecDepth 100000 in
theorem p2_s3571_e : ck_ok p2_O none [] [(286, [p2_s3570])] 368 [] 98 p2_s3571 = true := by decide +kernel
theorem p2_s3571_s {X : Int → Int} {LX : Nat} : ck_Ok p2_O X LX 368 p2_s3571 := ck_ok_s ⟨p2_nmu, ck_E1 (ck_S1 p2_s3570_s ck_S0) ck_E0⟩ ck_X0 ck_l0 p2_s3571_e
set_option maxRecDepth 100000 in
/-- GlacierMailModel.in -/
def p2_s3572 : ck_Sum := ((0, 0, 0), 245, [.inl (18, 2147483647, []), .inl (ck_one 0), .inl (ck_one 13)], ([], [], []), ([], []), [(.inr (some (.inl (ck_one 0))), 245, ([], [], []))])
set_option maxRecDepth 100000 in
theorem p2_s3572_e : ck_ok p2_O none [] [] 286 [] 86 p2_s3572 = true := by decide +kernel
theorem p2_s3572_s {X : Int → Int} {LX : Nat} : ck_Ok p2_O X LX 286 p2_s3572 := ck_ok_s ⟨p2_nmu, ck_E0⟩ ck_X0 ck_l0 p2_s3572_e
set_option maxRecDepth 100000 in
/-- GlacierMailModel.in -/
def p2_s3573 : ck_Sum := ((0, 0, 0), 245, [.inl (ck_one 13), .inl (ck_one 0), .inl (ck_one 13)], ([], [], []), ([], []), [(.inr (some (.inl (ck_one 1))), 245, ([], [], []))])
set_option maxRecDepth 100000 in
theorem p2_s3573_e : ck_ok p2_O none [] [] 286 [] 88 p2_s3573 = true := by decide +kernel
theorem p2_s3573_s {X : Int → Int} {LX : Nat} : ck_Ok p2_O X LX 286 p2_s3573 := ck_ok_s ⟨p2_nmu, ck_E0⟩ ck_X0 ck_l0 p2_s3573_e
set_option maxRecDepth 100000 in
/-- GlacierMailModel.in -/
def p2_s3574 : ck_Sum := ((0, 0, 0), 245, [.inl (ck_one 12), .inl (ck_one 0), .inl (ck_one 13)], ([], [], []), ([], []), [(.inr (some (.inl (ck_one 1))), 245, ([], [], []))])
set_option maxRecDepth 100000 in
theorem p2_s3574_e : ck_ok p2_O none [] [] 286 [] 88 p2_s3574 = true := by decide +kernel
theorem p2_s3574_s {X : Int → Int} {LX : Nat} : ck_Ok p2_O X LX 286 p2_s3574 := ck_ok_s ⟨p2_nmu, ck_E0⟩ ck_X0 ck_l0 p2_s3574_e
set_option maxRecDepth 100000 in
/-- GlacierMailModel.in -/
def p2_s3575 : ck_Sum := ((0, 0, 0), 245, [.inl (ck_one 11), .inl (ck_one 0), .inl (ck_one 13)], ([], [], []), ([], []), [(.inr (some (.inl (ck_one 1))), 245, ([], [], []))])
set_option maxRecDepth 100000 in
theorem p2_s3575_e : ck_ok p2_O none [] [] 286 [] 88 p2_s3575 = true := by decide +kernel
theorem p2_s3575_s {X : Int → Int} {LX : Nat} : ck_Ok p2_O X LX 286 p2_s3575 := ck_ok_s ⟨p2_nmu, ck_E0⟩ ck_X0 ck_l0 p2_s3575_e
set_option maxRecDepth 100000 in
/-- GlacierMailModel.in -/
def p2_s3576 : ck_Sum := ((0, 0, 0), 245, [.inl (ck_one 10), .inl (ck_one 0), .inl (ck_one 13)], ([], [], []), ([], []), [(.inr (some (.inl (ck_one 1))), 245, ([], [], []))])
set_option maxRecDepth 100000 in
theorem p2_s3576_e : ck_ok p2_O none [] [] 286 [] 88 p2_s3576 = true := by decide +kernel
theorem p2_s3576_s {X : Int → Int} {LX : Nat} : ck_Ok p2_O X LX 286 p2_s3576 := ck_ok_s ⟨p2_nmu, ck_E0⟩ ck_X0 ck_l0 p2_s3576_e
set_option maxRecDepth 100000 in
/-- GlacierMailModel.in -/
def p2_s3578 : ck_Sum := ((0, 0, 0), 245, [.inl (0, 7, []), .inl (ck_one 0), .inl (ck_one 13)], ([], [], []), ([], []), [(.inr (some (.inl (ck_one 1))), 245, ([], [], []))])
set_option maxRecDepth 100000 in
theorem p2_s3578_e : ck_ok p2_O none [] [] 286 [] 88 p2_s3578 = true := by decide +kernel
theorem p2_s3578_s {X : Int → Int} {LX : Nat} : ck_Ok p2_O X LX 286 p2_s3578 := ck_ok_s ⟨p2_nmu, ck_E0⟩ ck_X0 ck_l0 p2_s3578_e
set_option maxRecDepth 100000 in
/-- GlacierMailModel.in -/
def p2_s3579 : ck_Sum := ((0, 0, 0), 245, [.inl (ck_one 9), .inl (ck_one 0), .inl (ck_one 13)], ([], [], []), ([], []), [(.inr (some (.inl (ck_one 1))), 245, ([], [], []))])
set_option maxRecDepth 100000 in
theorem p2_s3579_e : ck_ok p2_O none [] [] 286 [] 88 p2_s3579 = true := by decide +kernel
theorem p2_s3579_s {X : Int → Int} {LX : Nat} : ck_Ok p2_O X LX 286 p2_s3579 := ck_ok_s ⟨p2_nmu, ck_E0⟩ ck_X0 ck_l0 p2_s3579_e
set_option maxRecDepth 100000 in
/-- GlacierMailModel.count -/
def p2_s3580 : ck_Sum := ((1, 0, 0), 245, [.inr (.inr (.inl 226)), .inl (0, 9, [])], ([], [], [(227, 9, 9, (0, 299, [(11, 0)]))]), ([(226, 0, 0)], []), [(.inr (some (.inl (0, 299, []))), 245, ([], [], [(226, 0, 0, ck_one 0)])), (.inr (some (.inl (ck_one (-1)))), 245, ([], [], [(227, 8, 8, ck_one 0), (226, 0, 0, ck_one 0)]))])
set_option maxRecDepth 100000 in
theorem p2_s3580_e : ck_ok p2_O none [] [(286, [p2_s3578, p2_s3579])] 368 [] 108 p2_s3580 = true := by decide +kernel
theorem p2_s3580_s {X : Int → Int} {LX : Nat} : ck_Ok p2_O X LX 368 p2_s3580 := ck_ok_s ⟨p2_nmu, ck_E1 (ck_S1 p2_s3578_s (ck_S1 p2_s3579_s ck_S0)) ck_E0⟩ ck_X0 ck_l0 p2_s3580_e
set_option maxRecDepth 100000 in
/-- GlacierMailModel.isAt -/
def p2_s3586 : ck_Sum := ((0, 0, 0), 245, [.inr (.inr (.inl 226)), .inl (ck_one 40), .inl (ck_one 40)], ([], [], [(226, 9, 9, (0, 400, [(1, 0)]))]), ([], []), [(.inr (some (.inl (ck_one 0))), 245, ([], [], [])), (.inr (some (.inl (ck_one 1))), 245, ([], [], [(226, 10, 10, (1, 400, [])), (226, 9, 9, (0, 399, [(1, 0)]))]))])
set_option maxRecDepth 100000 in
theorem p2_s3586_e : ck_ok p2_O none [] [] 246 [] 114 p2_s3586 = true := by decide +kernel
theorem p2_s3586_s {X : Int → Int} {LX : Nat} : ck_Ok p2_O X LX 246 p2_s3586 := ck_ok_s ⟨p2_nmu, ck_E0⟩ ck_X0 ck_l0 p2_s3586_e
set_option maxRecDepth 100000 in
/-- GlacierMailModel.sign -/
def p2_s3587 : ck_Sum := ((2, 0, 0), 245, [.inr (.inr (.inl 226)), .inl (ck_one 40)], ([], [], [(226, 9, 9, (0, 400, [(1, 0)]))]), ([(226, 9, 9), (226, 11, 11)], []), [(.inr (some (.inl (ck_one 0))), 245, ([], [], [(226, 11, 11, (0, 400, [(1000001, 0)])), (226, 9, 9, (0, 400, [(1000001, 0)]))])), (.inr (some (.inl (ck_one 1))), 245, ([], [], [(226, 9, 9, (1, 400, [(1000001, 1)])), (226, 10, 10, (1, 400, [])), (226, 11, 11, (0, 400, [(1000001, 0)]))]))])
set_option maxRecDepth 100000 in
theorem p2_s3587_e : ck_ok p2_O none [] [(245, [p2_s168]), (246, [p2_s3586])] 278 [] 100 p2_s3587 = true := by decide +kernel
theorem p2_s3587_s {X : Int → Int} {LX : Nat} : ck_Ok p2_O X LX 278 p2_s3587 := ck_ok_s ⟨p2_nmu, ck_E1 (ck_S1 p2_s168_s ck_S0) (ck_E1 (ck_S1 p2_s3586_s ck_S0) ck_E0)⟩ ck_X0 ck_l0 p2_s3587_e
set_option maxRecDepth 100000 in
/-- GlacierMailModel.isAt -/
def p2_s3618 : ck_Sum := ((0, 0, 0), 245, [.inr (.inr (.inl 226)), .inl (ck_one 60), .inl (ck_one 60)], ([], [], [(226, 9, 9, (0, 400, [(1, 0)]))]), ([], []), [(.inr (some (.inl (ck_one 0))), 245, ([], [], [])), (.inr (some (.inl (ck_one 1))), 245, ([], [], [(226, 10, 10, (1, 400, [])), (226, 9, 9, (0, 399, [(1, 0)]))]))])
set_option maxRecDepth 100000 in
theorem p2_s3618_e : ck_ok p2_O none [] [] 246 [] 114 p2_s3618 = true := by decide +kernel
theorem p2_s3618_s {X : Int → Int} {LX : Nat} : ck_Ok p2_O X LX 246 p2_s3618 := ck_ok_s ⟨p2_nmu, ck_E0⟩ ck_X0 ck_l0 p2_s3618_e
set_option maxRecDepth 100000 in
/-- GlacierMailModel.sign -/
def p2_s3619 : ck_Sum := ((2, 0, 0), 245, [.inr (.inr (.inl 226)), .inl (ck_one 60)], ([], [], [(226, 9, 9, (0, 400, [(1, 0)]))]), ([(226, 9, 9), (226, 11, 11)], []), [(.inr (some (.inl (ck_one 0))), 245, ([], [], [(226, 11, 11, (0, 400, [(1000001, 0)])), (226, 9, 9, (0, 400, [(1000001, 0)]))])), (.inr (some (.inl (ck_one 1))), 245, ([], [], [(226, 9, 9, (1, 400, [(1000001, 1)])), (226, 10, 10, (1, 400, [])), (226, 11, 11, (0, 400, [(1000001, 0)]))]))])
set_option maxRecDepth 100000 in
theorem p2_s3619_e : ck_ok p2_O none [] [(245, [p2_s168]), (246, [p2_s3618])] 278 [] 100 p2_s3619 = true := by decide +kernel
theorem p2_s3619_s {X : Int → Int} {LX : Nat} : ck_Ok p2_O X LX 278 p2_s3619 := ck_ok_s ⟨p2_nmu, ck_E1 (ck_S1 p2_s168_s ck_S0) (ck_E1 (ck_S1 p2_s3618_s ck_S0) ck_E0)⟩ ck_X0 ck_l0 p2_s3619_e
set_option maxRecDepth 100000 in
/-- GlacierMailModel.isAt -/
def p2_s3620 : ck_Sum := ((0, 0, 0), 245, [.inr (.inr (.inl 226)), .inl (ck_one 62), .inl (ck_one 62)], ([], [], [(226, 9, 9, (0, 400, [(1, 0)]))]), ([], []), [(.inr (some (.inl (ck_one 0))), 245, ([], [], [])), (.inr (some (.inl (ck_one 1))), 245, ([], [], [(226, 10, 10, (1, 400, [])), (226, 9, 9, (0, 399, [(1, 0)]))]))])
set_option maxRecDepth 100000 in
theorem p2_s3620_e : ck_ok p2_O none [] [] 246 [] 114 p2_s3620 = true := by decide +kernel
theorem p2_s3620_s {X : Int → Int} {LX : Nat} : ck_Ok p2_O X LX 246 p2_s3620 := ck_ok_s ⟨p2_nmu, ck_E0⟩ ck_X0 ck_l0 p2_s3620_e
set_option maxRecDepth 100000 in
/-- GlacierMailModel.sign -/
def p2_s3621 : ck_Sum := ((2, 0, 0), 245, [.inr (.inr (.inl 226)), .inl (ck_one 62)], ([], [], [(226, 9, 9, (0, 400, [(1, 0)]))]), ([(226, 9, 9), (226, 11, 11)], []), [(.inr (some (.inl (ck_one 0))), 245, ([], [], [(226, 11, 11, (0, 400, [(1000001, 0)])), (226, 9, 9, (0, 400, [(1000001, 0)]))])), (.inr (some (.inl (ck_one 1))), 245, ([], [], [(226, 9, 9, (1, 400, [(1000001, 1)])), (226, 10, 10, (1, 400, [])), (226, 11, 11, (0, 400, [(1000001, 0)]))]))])
set_option maxRecDepth 100000 in
theorem p2_s3621_e : ck_ok p2_O none [] [(245, [p2_s168]), (246, [p2_s3620])] 278 [] 100 p2_s3621 = true := by decide +kernel
theorem p2_s3621_s {X : Int → Int} {LX : Nat} : ck_Ok p2_O X LX 278 p2_s3621 := ck_ok_s ⟨p2_nmu, ck_E1 (ck_S1 p2_s168_s ck_S0) (ck_E1 (ck_S1 p2_s3620_s ck_S0) ck_E0)⟩ ck_X0 ck_l0 p2_s3621_e
set_option maxRecDepth 100000 in
/-- GlacierMailModel.isAt -/
def p2_s3636 : ck_Sum := ((0, 0, 0), 245, [.inr (.inr (.inl 226)), .inl (ck_one 41), .inl (ck_one 41)], ([], [], [(226, 9, 9, (0, 400, [(1, 0)]))]), ([], []), [(.inr (some (.inl (ck_one 0))), 245, ([], [], [])), (.inr (some (.inl (ck_one 1))), 245, ([], [], [(226, 10, 10, (1, 400, [])), (226, 9, 9, (0, 399, [(1, 0)]))]))])
set_option maxRecDepth 100000 in
theorem p2_s3636_e : ck_ok p2_O none [] [] 246 [] 114 p2_s3636 = true := by decide +kernel
theorem p2_s3636_s {X : Int → Int} {LX : Nat} : ck_Ok p2_O X LX 246 p2_s3636 := ck_ok_s ⟨p2_nmu, ck_E0⟩ ck_X0 ck_l0 p2_s3636_e
set_option maxRecDepth 100000 in
/-- GlacierMailModel.sign -/
def p2_s3637 : ck_Sum := ((2, 0, 0), 245, [.inr (.inr (.inl 226)), .inl (ck_one 41)], ([], [], [(226, 9, 9, (0, 400, [(1, 0)]))]), ([(226, 9, 9), (226, 11, 11)], []), [(.inr (some (.inl (ck_one 0))), 245, ([], [], [(226, 11, 11, (0, 400, [(1000001, 0)])), (226, 9, 9, (0, 400, [(1000001, 0)]))])), (.inr (some (.inl (ck_one 1))), 245, ([], [], [(226, 9, 9, (1, 400, [(1000001, 1)])), (226, 10, 10, (1, 400, [])), (226, 11, 11, (0, 400, [(1000001, 0)]))]))])
set_option maxRecDepth 100000 in
theorem p2_s3637_e : ck_ok p2_O none [] [(245, [p2_s168]), (246, [p2_s3636])] 278 [] 100 p2_s3637 = true := by decide +kernel
theorem p2_s3637_s {X : Int → Int} {LX : Nat} : ck_Ok p2_O X LX 278 p2_s3637 := ck_ok_s ⟨p2_nmu, ck_E1 (ck_S1 p2_s168_s ck_S0) (ck_E1 (ck_S1 p2_s3636_s ck_S0) ck_E0)⟩ ck_X0 ck_l0 p2_s3637_e
set_option maxRecDepth 100000 in
/-- GlacierMailModel.figures -/
def p2_s3610 : ck_Sum := ((2, 0, 0), 245, [.inr (.inr (.inl 226)), .inl (ck_one 0), .inl (ck_one 999), .inl (ck_one 3)], ([], [], [(226, 9, 9, (0, 400, [(1, 0)]))]), ([(226, 9, 9), (226, 11, 11)], []), [(.inr (some (.inl (ck_one (-1)))), 245, ([], [], [(226, 9, 9, (0, 400, [(1000001, 0)])), (226, 11, 11, (0, 400, [(1000001, 0)]))])), (.inr (some (.inl (0, 999, []))), 245, ([], [], [(226, 9, 9, (0, 400, [(1000001, 0)])), (226, 11, 11, (0, 400, [(1000001, 0)]))]))])
set_option maxRecDepth 100000 in
theorem p2_s3610_e : ck_ok p2_O none [] [(245, [p2_s168]), (246, [p2_s181])] 256 [(7, [some (.inr (.inr (.inl 226))), some (.inl (ck_one 0)), some (.inl (ck_one 999)), some (.inl (ck_one 3)), some (.inl ((-2147483648), 2147483647, []))], ([], [], [(226, 11, 11, (0, 400, [(1000001, 0)])), (226, 9, 9, (0, 400, [(1000001, 0)]))]), 100, .inr (226, 9), true)] 222 p2_s3610 = true := by decide +kernel
theorem p2_s3610_s {X : Int → Int} {LX : Nat} : ck_Ok p2_O X LX 256 p2_s3610 := ck_ok_s ⟨p2_nmu, ck_E1 (ck_S1 p2_s168_s ck_S0) (ck_E1 (ck_S1 p2_s181_s ck_S0) ck_E0)⟩ ck_X0 ck_l0 p2_s3610_e
set_option maxRecDepth 100000 in
/-- GlacierMailModel.isAt -/
def p2_s3614 : ck_Sum := ((0, 0, 0), 245, [.inr (.inr (.inl 226)), .inl (ck_one 43), .inl (ck_one 43)], ([], [], [(226, 9, 9, (0, 400, [(1, 0)]))]), ([], []), [(.inr (some (.inl (ck_one 0))), 245, ([], [], [])), (.inr (some (.inl (ck_one 1))), 245, ([], [], [(226, 10, 10, (1, 400, [])), (226, 9, 9, (0, 399, [(1, 0)]))]))])
set_option maxRecDepth 100000 in
theorem p2_s3614_e : ck_ok p2_O none [] [] 246 [] 114 p2_s3614 = true := by decide +kernel
theorem p2_s3614_s {X : Int → Int} {LX : Nat} : ck_Ok p2_O X LX 246 p2_s3614 := ck_ok_s ⟨p2_nmu, ck_E0⟩ ck_X0 ck_l0 p2_s3614_e
set_option maxRecDepth 100000 in
/-- GlacierMailModel.sign -/
def p2_s3615 : ck_Sum := ((2, 0, 0), 245, [.inr (.inr (.inl 226)), .inl (ck_one 43)], ([], [], [(226, 9, 9, (0, 400, [(1, 0)]))]), ([(226, 9, 9), (226, 11, 11)], []), [(.inr (some (.inl (ck_one 0))), 245, ([], [], [(226, 11, 11, (0, 400, [(1000001, 0)])), (226, 9, 9, (0, 400, [(1000001, 0)]))])), (.inr (some (.inl (ck_one 1))), 245, ([], [], [(226, 9, 9, (1, 400, [(1000001, 1)])), (226, 10, 10, (1, 400, [])), (226, 11, 11, (0, 400, [(1000001, 0)]))]))])
set_option maxRecDepth 100000 in
theorem p2_s3615_e : ck_ok p2_O none [] [(245, [p2_s168]), (246, [p2_s3614])] 278 [] 100 p2_s3615 = true := by decide +kernel
theorem p2_s3615_s {X : Int → Int} {LX : Nat} : ck_Ok p2_O X LX 278 p2_s3615 := ck_ok_s ⟨p2_nmu, ck_E1 (ck_S1 p2_s168_s ck_S0) (ck_E1 (ck_S1 p2_s3614_s ck_S0) ck_E0)⟩ ck_X0 ck_l0 p2_s3615_e
set_option maxRecDepth 100000 in
/-- GlacierMailModel.figures -/
def p2_s3656 : ck_Sum := ((2, 0, 0), 245, [.inr (.inr (.inl 226)), .inl (ck_one 0), .inl (ck_one 20), .inl (ck_one 3)], ([], [], [(226, 9, 9, (0, 400, [(1, 0)]))]), ([(226, 9, 9), (226, 11, 11)], []), [(.inr (some (.inl (ck_one (-1)))), 245, ([], [], [(226, 9, 9, (0, 400, [(1000001, 0)])), (226, 11, 11, (0, 400, [(1000001, 0)]))])), (.inr (some (.inl (0, 20, []))), 245, ([], [], [(226, 9, 9, (0, 400, [(1000001, 0)])), (226, 11, 11, (0, 400, [(1000001, 0)]))]))])
set_option maxRecDepth 100000 in
theorem p2_s3656_e : ck_ok p2_O none [] [(245, [p2_s168]), (246, [p2_s181])] 256 [(7, [some (.inr (.inr (.inl 226))), some (.inl (ck_one 0)), some (.inl (ck_one 20)), some (.inl (ck_one 3)), some (.inl ((-2147483648), 2147483647, []))], ([], [], [(226, 11, 11, (0, 400, [(1000001, 0)])), (226, 9, 9, (0, 400, [(1000001, 0)]))]), 100, .inr (226, 9), true)] 222 p2_s3656 = true := by decide +kernel
theorem p2_s3656_s {X : Int → Int} {LX : Nat} : ck_Ok p2_O X LX 256 p2_s3656 := ck_ok_s ⟨p2_nmu, ck_E1 (ck_S1 p2_s168_s ck_S0) (ck_E1 (ck_S1 p2_s181_s ck_S0) ck_E0)⟩ ck_X0 ck_l0 p2_s3656_e
set_option maxRecDepth 100000 in
/-- GlacierMailModel.readLine -/
def p2_s3681 : ck_Sum := ((3, 0, 0), 245, [.inr (.inr (.inl 226)), .inl (ck_one 0), .inl (ck_one 12)], ([], [], [(226, 9, 9, (0, 400, [(1, 0)]))]), ([(226, 9, 9), (226, 11, 11)], []), [(.inr (some (.inl (ck_one 0))), 245, ([], [], [(226, 9, 9, (0, 400, [(1000001, 0)])), (226, 11, 11, (0, 400, [(1000001, 0)]))]))])
set_option maxRecDepth 100000 in
theorem p2_s3681_e : ck_ok p2_O none [] [(248, [p2_s170])] 247 [] 88 p2_s3681 = true := by decide +kernel
theorem p2_s3681_s {X : Int → Int} {LX : Nat} : ck_Ok p2_O X LX 247 p2_s3681 := ck_ok_s ⟨p2_nmu, ck_E1 (ck_S1 p2_s170_s ck_S0) ck_E0⟩ ck_X0 ck_l0 p2_s3681_e
