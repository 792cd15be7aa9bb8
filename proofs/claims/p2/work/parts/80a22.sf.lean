/-! EVERY CALL ENDS, whatever was done before (laid by wip/am/p2k.py). -/
set_option maxRecDepth 100000 in
/-- GlacierMailModel.in -/
def p2_s1773 : ck_Sum := ((0, 0, 0), 245, [.inl (18, 2147483647, []), .inl (ck_one 0), .inl (ck_one 13)], ([], [], []), ([], []), [(.inr (some (.inl (ck_one 0))), 245, ([], [], []))])
set_option maxRecDepth 100000 in
theorem p2_s1773_e : ck_ok p2_O none [] [] 286 [] 86 p2_s1773 = true := by decide +kernel
theorem p2_s1773_s {X : Int → Int} {LX : Nat} : ck_Ok p2_O X LX 286 p2_s1773 := ck_ok_s ⟨p2_nmu, ck_E0⟩ ck_X0 ck_l0 p2_s1773_e
set_option maxRecDepth 100000 in
/-- GlacierMailModel.in -/
def p2_s1774 : ck_Sum := ((0, 0, 0), 245, [.inl (ck_one 13), .inl (ck_one 0), .inl (ck_one 13)], ([], [], []), ([], []), [(.inr (some (.inl (ck_one 1))), 245, ([], [], []))])
set_option maxRecDepth 100000 in
theorem p2_s1774_e : ck_ok p2_O none [] [] 286 [] 88 p2_s1774 = true := by decide +kernel
theorem p2_s1774_s {X : Int → Int} {LX : Nat} : ck_Ok p2_O X LX 286 p2_s1774 := ck_ok_s ⟨p2_nmu, ck_E0⟩ ck_X0 ck_l0 p2_s1774_e
set_option maxRecDepth 100000 in
/-- GlacierMailModel.in -/
def p2_s1775 : ck_Sum := ((0, 0, 0), 245, [.inl (ck_one 12), .inl (ck_one 0), .inl (ck_one 13)], ([], [], []), ([], []), [(.inr (some (.inl (ck_one 1))), 245, ([], [], []))])
set_option maxRecDepth 100000 in
theorem p2_s1775_e : ck_ok p2_O none [] [] 286 [] 88 p2_s1775 = true := by decide +kernel
theorem p2_s1775_s {X : Int → Int} {LX : Nat} : ck_Ok p2_O X LX 286 p2_s1775 := ck_ok_s ⟨p2_nmu, ck_E0⟩ ck_X0 ck_l0 p2_s1775_e
set_option maxRecDepth 100000 in
/-- GlacierMailModel.in -/
def p2_s1776 : ck_Sum := ((0, 0, 0), 245, [.inl (ck_one 11), .inl (ck_one 0), .inl (ck_one 13)], ([], [], []), ([], []), [(.inr (some (.inl (ck_one 1))), 245, ([], [], []))])
set_option maxRecDepth 100000 in
theorem p2_s1776_e : ck_ok p2_O none [] [] 286 [] 88 p2_s1776 = true := by decide +kernel
theorem p2_s1776_s {X : Int → Int} {LX : Nat} : ck_Ok p2_O X LX 286 p2_s1776 := ck_ok_s ⟨p2_nmu, ck_E0⟩ ck_X0 ck_l0 p2_s1776_e
set_option maxRecDepth 100000 in
/-- GlacierMailModel.in -/
def p2_s1777 : ck_Sum := ((0, 0, 0), 245, [.inl (ck_one 10), .inl (ck_one 0), .inl (ck_one 13)], ([], [], []), ([], []), [(.inr (some (.inl (ck_one 1))), 245, ([], [], []))])
set_option maxRecDepth 100000 in
theorem p2_s1777_e : ck_ok p2_O none [] [] 286 [] 88 p2_s1777 = true := by decide +kernel
theorem p2_s1777_s {X : Int → Int} {LX : Nat} : ck_Ok p2_O X LX 286 p2_s1777 := ck_ok_s ⟨p2_nmu, ck_E0⟩ ck_X0 ck_l0 p2_s1777_e
set_option maxRecDepth 100000 in
/-- GlacierMailModel.count -/
def p2_s1778 : ck_Sum := ((9, 0, 0), 245, [.inr (.inr (.inl 226)), .inl (10, 2147483647, [])], ([], [], [(227, 2, 2, (0, 8, [(20, 0)])), (227, 4, 4, (0, 24, [(22, 0)])), (227, 5, 5, (0, 8, [(23, 0)])), (227, 14, 14, (0, 24, [(26, 0)])), (226, 6, 6, (0, 12, [(27, 0)])), (227, 9, 9, (0, 299, [(11, 0)]))]), ([(226, 0, 0), (226, 17, 23), (226, 26, 26), (226, 29, 30), (233, 0, 399), (235, 0, 29699), (236, 0, 299), (237, 0, 299)], []), [(.inr (some (.inl ((-2147483648), 2147483647, []))), 245, ([], [], [(226, 0, 0, ck_one 0)])), (.inr (some (.inl (0, 9999, []))), 245, ([], [], [(226, 0, 0, ck_one 0)]))])
set_option maxRecDepth 100000 in
theorem p2_s1778_e : ck_ok p2_O none [] [(286, [p2_s1773, p2_s1774, p2_s1775, p2_s1776, p2_s1777]), (254, [p2_s176]), (304, [p2_s381]), (266, [p2_s190]), (302, [p2_s382])] 368 [(132, [some (.inr (.inr (.inl 226))), some (.inl (ck_one 16)), some (.inl ((-2147483648), 2147483647, [])), some (.inl (0, 24, [])), none], ([], [], [(226, 0, 0, ck_one 0), (227, 2, 2, (0, 8, [(20, 0)])), (227, 4, 4, (0, 24, [(22, 0)])), (227, 5, 5, (0, 8, [(23, 0)])), (227, 14, 14, (0, 24, [(26, 0)])), (226, 6, 6, (0, 12, [(27, 0)])), (227, 9, 9, (0, 299, [(11, 0)]))]), 100, .inl 3, true), (98, [some (.inr (.inr (.inl 226))), some (.inl (ck_one 15)), some (.inl ((-2147483648), 2147483647, [])), some (.inl (0, 24, [])), none], ([], [], [(226, 0, 0, ck_one 0), (227, 2, 2, (0, 8, [(20, 0)])), (227, 4, 4, (0, 24, [(22, 0)])), (227, 5, 5, (0, 8, [(23, 0)])), (227, 14, 14, (0, 24, [(26, 0)])), (226, 6, 6, (0, 12, [(27, 0)])), (227, 9, 9, (0, 299, [(11, 0)]))]), 300, .inl 3, true)] 242 p2_s1778 = true := by decide +kernel
theorem p2_s1778_s {X : Int → Int} {LX : Nat} : ck_Ok p2_O X LX 368 p2_s1778 := ck_ok_s ⟨p2_nmu, ck_E1 (ck_S1 p2_s1773_s (ck_S1 p2_s1774_s (ck_S1 p2_s1775_s (ck_S1 p2_s1776_s (ck_S1 p2_s1777_s ck_S0))))) (ck_E1 (ck_S1 p2_s176_s ck_S0) (ck_E1 (ck_S1 p2_s381_s ck_S0) (ck_E1 (ck_S1 p2_s190_s ck_S0) (ck_E1 (ck_S1 p2_s382_s ck_S0) ck_E0))))⟩ ck_X0 ck_l0 p2_s1778_e
set_option maxRecDepth 100000 in
/-- GlacierMailModel.in -/
def p2_s1779 : ck_Sum := ((0, 0, 0), 245, [.inl (0, 7, []), .inl (ck_one 0), .inl (ck_one 13)], ([], [], []), ([], []), [(.inr (some (.inl (ck_one 1))), 245, ([], [], []))])
set_option maxRecDepth 100000 in
theorem p2_s1779_e : ck_ok p2_O none [] [] 286 [] 88 p2_s1779 = true := by decide +kernel
theorem p2_s1779_s {X : Int → Int} {LX : Nat} : ck_Ok p2_O X LX 286 p2_s1779 := ck_ok_s ⟨p2_nmu, ck_E0⟩ ck_X0 ck_l0 p2_s1779_e
set_option maxRecDepth 100000 in
/-- GlacierMailModel.in -/
def p2_s1780 : ck_Sum := ((0, 0, 0), 245, [.inl (ck_one 9), .inl (ck_one 0), .inl (ck_one 13)], ([], [], []), ([], []), [(.inr (some (.inl (ck_one 1))), 245, ([], [], []))])
set_option maxRecDepth 100000 in
theorem p2_s1780_e : ck_ok p2_O none [] [] 286 [] 88 p2_s1780 = true := by decide +kernel
theorem p2_s1780_s {X : Int → Int} {LX : Nat} : ck_Ok p2_O X LX 286 p2_s1780 := ck_ok_s ⟨p2_nmu, ck_E0⟩ ck_X0 ck_l0 p2_s1780_e
set_option maxRecDepth 100000 in
/-- GlacierMailModel.count -/
def p2_s1781 : ck_Sum := ((1, 0, 0), 245, [.inr (.inr (.inl 226)), .inl (0, 9, [])], ([], [], [(227, 9, 9, (0, 299, [(11, 0)]))]), ([(226, 0, 0)], []), [(.inr (some (.inl (0, 299, []))), 245, ([], [], [(226, 0, 0, ck_one 0)])), (.inr (some (.inl (ck_one (-1)))), 245, ([], [], [(227, 8, 8, ck_one 0), (226, 0, 0, ck_one 0)]))])
set_option maxRecDepth 100000 in
theorem p2_s1781_e : ck_ok p2_O none [] [(286, [p2_s1779, p2_s1780])] 368 [] 108 p2_s1781 = true := by decide +kernel
theorem p2_s1781_s {X : Int → Int} {LX : Nat} : ck_Ok p2_O X LX 368 p2_s1781 := ck_ok_s ⟨p2_nmu, ck_E1 (ck_S1 p2_s1779_s (ck_S1 p2_s1780_s ck_S0)) ck_E0⟩ ck_X0 ck_l0 p2_s1781_e
