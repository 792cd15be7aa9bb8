/-! EVERY CALL ENDS, whatever was done before (laid by wip/am/p2g.py). -/
set_option maxRecDepth 100000 in
/-- GlacierMailModel.noLetter -/
def p2_s612 : ck_Sum := ((1, 0, 0), 245, [.inr (.inr (.inl 226)), .inl ((-2147483648), (-1), [])], ([], [], [(227, 4, 4, (0, 24, [(22, 0)]))]), ([], []), [(.inr (some (.inl (ck_one 1))), 245, ([], [], []))])
set_option maxRecDepth 100000 in
theorem p2_s612_e : ck_ok p2_O none [] [(254, [p2_s196]), (286, [p2_s611])] 309 [] 92 p2_s612 = true := by decide +kernel
theorem p2_s612_s {X : Int → Int} {LX : Nat} : ck_Ok p2_O X LX 309 p2_s612 := ck_ok_s ⟨p2_nmu, ck_E1 (ck_S1 p2_s196_s ck_S0) (ck_E1 (ck_S1 p2_s611_s ck_S0) ck_E0)⟩ ck_X0 ck_l0 p2_s612_e
set_option maxRecDepth 100000 in
/-- GlacierMailModel.letter -/
def p2_s613 : ck_Sum := ((2, 0, 0), 245, [.inr (.inr (.inl 226)), .inl ((-2147483648), (-1), []), .inl ((-2147483648), 2147483647, [])], ([], [], [(227, 4, 4, (0, 24, [(22, 0)]))]), ([(226, 0, 0)], []), [(.inr (some (.inl (ck_one 0))), 245, ([], [], [(226, 0, 0, ck_one 1)]))])
set_option maxRecDepth 100000 in
theorem p2_s613_e : ck_ok p2_O none [] [(309, [p2_s612]), (282, [p2_s268])] 308 [] 94 p2_s613 = true := by decide +kernel
theorem p2_s613_s {X : Int → Int} {LX : Nat} : ck_Ok p2_O X LX 308 p2_s613 := ck_ok_s ⟨p2_nmu, ck_E1 (ck_S1 p2_s612_s ck_S0) (ck_E1 (ck_S1 p2_s268_s ck_S0) ck_E0)⟩ ck_X0 ck_l0 p2_s613_e
set_option maxRecDepth 100000 in
/-- GlacierMailModel.in -/
def p2_s614 : ck_Sum := ((0, 0, 0), 245, [.inl (24, 2147483647, []), .inl (ck_one 0), .inl ((-1), 23, [])], ([], [], []), ([], []), [(.inr (some (.inl (ck_one 0))), 245, ([], [], []))])
set_option maxRecDepth 100000 in
theorem p2_s614_e : ck_ok p2_O none [] [] 286 [] 86 p2_s614 = true := by decide +kernel
theorem p2_s614_s {X : Int → Int} {LX : Nat} : ck_Ok p2_O X LX 286 p2_s614 := ck_ok_s ⟨p2_nmu, ck_E0⟩ ck_X0 ck_l0 p2_s614_e
set_option maxRecDepth 100000 in
/-- GlacierMailModel.noLetter -/
def p2_s615 : ck_Sum := ((1, 0, 0), 245, [.inr (.inr (.inl 226)), .inl (24, 2147483647, [])], ([], [], [(227, 4, 4, (0, 24, [(22, 0)]))]), ([], []), [(.inr (some (.inl (ck_one 1))), 245, ([], [], []))])
set_option maxRecDepth 100000 in
theorem p2_s615_e : ck_ok p2_O none [] [(254, [p2_s196]), (286, [p2_s614])] 309 [] 92 p2_s615 = true := by decide +kernel
theorem p2_s615_s {X : Int → Int} {LX : Nat} : ck_Ok p2_O X LX 309 p2_s615 := ck_ok_s ⟨p2_nmu, ck_E1 (ck_S1 p2_s196_s ck_S0) (ck_E1 (ck_S1 p2_s614_s ck_S0) ck_E0)⟩ ck_X0 ck_l0 p2_s615_e
set_option maxRecDepth 100000 in
/-- GlacierMailModel.letter -/
def p2_s616 : ck_Sum := ((2, 0, 0), 245, [.inr (.inr (.inl 226)), .inl (24, 2147483647, []), .inl ((-2147483648), 2147483647, [])], ([], [], [(227, 4, 4, (0, 24, [(22, 0)]))]), ([(226, 0, 0)], []), [(.inr (some (.inl (ck_one 0))), 245, ([], [], [(226, 0, 0, ck_one 1)]))])
set_option maxRecDepth 100000 in
theorem p2_s616_e : ck_ok p2_O none [] [(309, [p2_s615]), (282, [p2_s268])] 308 [] 94 p2_s616 = true := by decide +kernel
theorem p2_s616_s {X : Int → Int} {LX : Nat} : ck_Ok p2_O X LX 308 p2_s616 := ck_ok_s ⟨p2_nmu, ck_E1 (ck_S1 p2_s615_s ck_S0) (ck_E1 (ck_S1 p2_s268_s ck_S0) ck_E0)⟩ ck_X0 ck_l0 p2_s616_e
set_option maxRecDepth 100000 in
/-- GlacierMailModel.in -/
def p2_s617 : ck_Sum := ((0, 0, 0), 245, [.inl (0, 23, []), .inl (ck_one 0), .inl ((-1), 23, [])], ([], [], []), ([], []), [(.inr (some (.inl (ck_one 0))), 245, ([], [], [])), (.inr (some (.inl (ck_one 1))), 245, ([], [], []))])
set_option maxRecDepth 100000 in
theorem p2_s617_e : ck_ok p2_O none [] [] 286 [] 88 p2_s617 = true := by decide +kernel
theorem p2_s617_s {X : Int → Int} {LX : Nat} : ck_Ok p2_O X LX 286 p2_s617 := ck_ok_s ⟨p2_nmu, ck_E0⟩ ck_X0 ck_l0 p2_s617_e
set_option maxRecDepth 100000 in
/-- GlacierMailModel.noLetter -/
def p2_s618 : ck_Sum := ((1, 0, 0), 245, [.inr (.inr (.inl 226)), .inl (0, 23, [])], ([], [], [(227, 4, 4, (0, 24, [(22, 0)]))]), ([], []), [(.inr (some (.inl (ck_one 1))), 245, ([], [], [])), (.inr (some (.inl (ck_one 0))), 245, ([], [], []))])
set_option maxRecDepth 100000 in
theorem p2_s618_e : ck_ok p2_O none [] [(254, [p2_s196]), (286, [p2_s617])] 309 [] 92 p2_s618 = true := by decide +kernel
theorem p2_s618_s {X : Int → Int} {LX : Nat} : ck_Ok p2_O X LX 309 p2_s618 := ck_ok_s ⟨p2_nmu, ck_E1 (ck_S1 p2_s196_s ck_S0) (ck_E1 (ck_S1 p2_s617_s ck_S0) ck_E0)⟩ ck_X0 ck_l0 p2_s618_e
set_option maxRecDepth 100000 in
/-- GlacierMailModel.in -/
def p2_s619 : ck_Sum := ((0, 0, 0), 245, [.inl ((-2147483648), (-1), []), .inl (ck_one 0), .inl (ck_one 9)], ([], [], []), ([], []), [(.inr (some (.inl (ck_one 0))), 245, ([], [], []))])
set_option maxRecDepth 100000 in
theorem p2_s619_e : ck_ok p2_O none [] [] 286 [] 80 p2_s619 = true := by decide +kernel
theorem p2_s619_s {X : Int → Int} {LX : Nat} : ck_Ok p2_O X LX 286 p2_s619 := ck_ok_s ⟨p2_nmu, ck_E0⟩ ck_X0 ck_l0 p2_s619_e
set_option maxRecDepth 100000 in
/-- GlacierMailModel.letter -/
def p2_s620 : ck_Sum := ((2, 0, 0), 245, [.inr (.inr (.inl 226)), .inl (0, 23, []), .inl ((-2147483648), (-1), [])], ([], [], [(227, 4, 4, (0, 24, [(22, 0)]))]), ([(226, 0, 0)], []), [(.inr (some (.inl (ck_one 0))), 245, ([], [], [(226, 0, 0, (1, 2, []))]))])
set_option maxRecDepth 100000 in
theorem p2_s620_e : ck_ok p2_O none [] [(309, [p2_s618]), (282, [p2_s268, p2_s269, p2_s272]), (286, [p2_s619])] 308 [] 116 p2_s620 = true := by decide +kernel
theorem p2_s620_s {X : Int → Int} {LX : Nat} : ck_Ok p2_O X LX 308 p2_s620 := ck_ok_s ⟨p2_nmu, ck_E1 (ck_S1 p2_s618_s ck_S0) (ck_E1 (ck_S1 p2_s268_s (ck_S1 p2_s269_s (ck_S1 p2_s272_s ck_S0))) (ck_E1 (ck_S1 p2_s619_s ck_S0) ck_E0))⟩ ck_X0 ck_l0 p2_s620_e
set_option maxRecDepth 100000 in
/-- GlacierMailModel.in -/
def p2_s621 : ck_Sum := ((0, 0, 0), 245, [.inl (10, 2147483647, []), .inl (ck_one 0), .inl (ck_one 9)], ([], [], []), ([], []), [(.inr (some (.inl (ck_one 0))), 245, ([], [], []))])
set_option maxRecDepth 100000 in
theorem p2_s621_e : ck_ok p2_O none [] [] 286 [] 86 p2_s621 = true := by decide +kernel
theorem p2_s621_s {X : Int → Int} {LX : Nat} : ck_Ok p2_O X LX 286 p2_s621 := ck_ok_s ⟨p2_nmu, ck_E0⟩ ck_X0 ck_l0 p2_s621_e
set_option maxRecDepth 100000 in
/-- GlacierMailModel.letter -/
def p2_s622 : ck_Sum := ((2, 0, 0), 245, [.inr (.inr (.inl 226)), .inl (0, 23, []), .inl (10, 2147483647, [])], ([], [], [(227, 4, 4, (0, 24, [(22, 0)]))]), ([(226, 0, 0)], []), [(.inr (some (.inl (ck_one 0))), 245, ([], [], [(226, 0, 0, (1, 2, []))]))])
set_option maxRecDepth 100000 in
theorem p2_s622_e : ck_ok p2_O none [] [(309, [p2_s618]), (282, [p2_s268, p2_s269, p2_s272]), (286, [p2_s621])] 308 [] 116 p2_s622 = true := by decide +kernel
theorem p2_s622_s {X : Int → Int} {LX : Nat} : ck_Ok p2_O X LX 308 p2_s622 := ck_ok_s ⟨p2_nmu, ck_E1 (ck_S1 p2_s618_s ck_S0) (ck_E1 (ck_S1 p2_s268_s (ck_S1 p2_s269_s (ck_S1 p2_s272_s ck_S0))) (ck_E1 (ck_S1 p2_s621_s ck_S0) ck_E0))⟩ ck_X0 ck_l0 p2_s622_e
set_option maxRecDepth 100000 in
/-- GlacierMailModel.in -/
def p2_s623 : ck_Sum := ((0, 0, 0), 245, [.inl (0, 9, []), .inl (ck_one 0), .inl (ck_one 9)], ([], [], []), ([], []), [(.inr (some (.inl (ck_one 1))), 245, ([], [], []))])
set_option maxRecDepth 100000 in
theorem p2_s623_e : ck_ok p2_O none [] [] 286 [] 88 p2_s623 = true := by decide +kernel
theorem p2_s623_s {X : Int → Int} {LX : Nat} : ck_Ok p2_O X LX 286 p2_s623 := ck_ok_s ⟨p2_nmu, ck_E0⟩ ck_X0 ck_l0 p2_s623_e
set_option maxRecDepth 100000 in
/-- GlacierMailModel.isInIce -/
def p2_s624 : ck_Sum := ((1, 0, 0), 245, [.inr (.inr (.inl 226)), .inl (0, 299, [])], ([], [], []), ([], []), [(.inr (some (.inl (ck_one 0))), 245, ([], [], [])), (.inr (some (.inl (ck_one 1))), 245, ([], [], []))])
set_option maxRecDepth 100000 in
theorem p2_s624_e : ck_ok p2_O none [] [(259, [p2_s200])] 312 [] 100 p2_s624 = true := by decide +kernel
theorem p2_s624_s {X : Int → Int} {LX : Nat} : ck_Ok p2_O X LX 312 p2_s624 := ck_ok_s ⟨p2_nmu, ck_E1 (ck_S1 p2_s200_s ck_S0) ck_E0⟩ ck_X0 ck_l0 p2_s624_e
set_option maxRecDepth 100000 in
/-- GlacierMailModel.isBare -/
def p2_s625 : ck_Sum := ((2, 0, 0), 245, [.inr (.inr (.inl 226)), .inl (0, 23, []), .inl (0, 299, [])], ([], [], []), ([], []), [(.inr (some (.inl (ck_one 0))), 245, ([], [], [])), (.inr (some (.inl (ck_one 1))), 245, ([], [], []))])
set_option maxRecDepth 100000 in
theorem p2_s625_e : ck_ok p2_O none [] [(301, [p2_s459]), (312, [p2_s624])] 311 [] 106 p2_s625 = true := by decide +kernel
theorem p2_s625_s {X : Int → Int} {LX : Nat} : ck_Ok p2_O X LX 311 p2_s625 := ck_ok_s ⟨p2_nmu, ck_E1 (ck_S1 p2_s459_s ck_S0) (ck_E1 (ck_S1 p2_s624_s ck_S0) ck_E0)⟩ ck_X0 ck_l0 p2_s625_e
set_option maxRecDepth 100000 in
/-- GlacierMailModel.bareFrom -/
def p2_s626 : ck_Sum := ((3, 0, 0), 245, [.inr (.inr (.inl 226)), .inl (0, 23, [])], ([], [], []), ([], []), [(.inr (some (.inl (ck_one (-1)))), 245, ([], [], [])), (.inr (some (.inl (0, 299, []))), 245, ([], [], []))])
set_option maxRecDepth 100000 in
theorem p2_s626_e : ck_ok p2_O none [] [(311, [p2_s625])] 310 [(2, [some (.inr (.inr (.inl 226))), some (.inl (0, 23, [])), some (.inl (0, 300, []))], ([], [], []), 100, .inl 2, true)] 134 p2_s626 = true := by decide +kernel
theorem p2_s626_s {X : Int → Int} {LX : Nat} : ck_Ok p2_O X LX 310 p2_s626 := ck_ok_s ⟨p2_nmu, ck_E1 (ck_S1 p2_s625_s ck_S0) ck_E0⟩ ck_X0 ck_l0 p2_s626_e
set_option maxRecDepth 100000 in
/-- GlacierMailModel.ofLetter -/
def p2_s627 : ck_Sum := ((0, 0, 0), 245, [.inr (.inr (.inl 226)), .inl (0, 23, []), .inl (0, 6, [])], ([], [], []), ([], []), [(.inr (some (.inl ((-1), 299, []))), 245, ([], [], []))])
set_option maxRecDepth 100000 in
theorem p2_s627_e : ck_ok p2_O none [] [] 301 [] 92 p2_s627 = true := by decide +kernel
theorem p2_s627_s {X : Int → Int} {LX : Nat} : ck_Ok p2_O X LX 301 p2_s627 := ck_ok_s ⟨p2_nmu, ck_E0⟩ ck_X0 ck_l0 p2_s627_e
set_option maxRecDepth 100000 in
/-- GlacierMail.where -/
def p2_s629 : ck_Sum := ((8, 1, 6), 245, [.inr (.inr (.inl 1)), .inl ((-2147483648), (-1), []), .inl ((-2147483648), 2147483647, [])], ([], [], []), ([], []), [(.inl 3, 245, ([], [], []))])
set_option maxRecDepth 100000 in
theorem p2_s629_e : ck_ok p2_O none [] [(143, [p2_s599])] 147 [] 76 p2_s629 = true := by decide +kernel
theorem p2_s629_s {X : Int → Int} {LX : Nat} : ck_Ok p2_O X LX 147 p2_s629 := ck_ok_s ⟨p2_nmu, ck_E1 (ck_S1 p2_s599_s ck_S0) ck_E0⟩ ck_X0 ck_l0 p2_s629_e
set_option maxRecDepth 100000 in
/-- GlacierMail.where -/
def p2_s630 : ck_Sum := ((8, 1, 6), 245, [.inr (.inr (.inl 1)), .inl (24, 2147483647, []), .inl ((-2147483648), 2147483647, [])], ([], [], []), ([], []), [(.inl 3, 245, ([], [], []))])
set_option maxRecDepth 100000 in
theorem p2_s630_e : ck_ok p2_O none [] [(143, [p2_s602])] 147 [] 76 p2_s630 = true := by decide +kernel
theorem p2_s630_s {X : Int → Int} {LX : Nat} : ck_Ok p2_O X LX 147 p2_s630 := ck_ok_s ⟨p2_nmu, ck_E1 (ck_S1 p2_s602_s ck_S0) ck_E0⟩ ck_X0 ck_l0 p2_s630_e
set_option maxRecDepth 100000 in
/-- GlacierMail.where -/
def p2_s631 : ck_Sum := ((8, 2, 12), 245, [.inr (.inr (.inl 1)), .inl (0, 23, []), .inl ((-2147483648), (-1), [])], ([], [], []), ([], []), [(.inl 3, 245, ([], [], [])), (.inl 0, 245, ([], [], []))])
set_option maxRecDepth 100000 in
theorem p2_s631_e : ck_ok p2_O none [] [(143, [p2_s605]), (129, [p2_s276])] 147 [] 82 p2_s631 = true := by decide +kernel
theorem p2_s631_s {X : Int → Int} {LX : Nat} : ck_Ok p2_O X LX 147 p2_s631 := ck_ok_s ⟨p2_nmu, ck_E1 (ck_S1 p2_s605_s ck_S0) (ck_E1 (ck_S1 p2_s276_s ck_S0) ck_E0)⟩ ck_X0 ck_l0 p2_s631_e
set_option maxRecDepth 100000 in
/-- GlacierMail.where -/
def p2_s632 : ck_Sum := ((8, 2, 12), 245, [.inr (.inr (.inl 1)), .inl (0, 23, []), .inl (300, 2147483647, [])], ([], [], []), ([], []), [(.inl 3, 245, ([], [], [])), (.inl 0, 245, ([], [], []))])
set_option maxRecDepth 100000 in
theorem p2_s632_e : ck_ok p2_O none [] [(143, [p2_s605]), (129, [p2_s278])] 147 [] 82 p2_s632 = true := by decide +kernel
theorem p2_s632_s {X : Int → Int} {LX : Nat} : ck_Ok p2_O X LX 147 p2_s632 := ck_ok_s ⟨p2_nmu, ck_E1 (ck_S1 p2_s605_s ck_S0) (ck_E1 (ck_S1 p2_s278_s ck_S0) ck_E0)⟩ ck_X0 ck_l0 p2_s632_e
set_option maxRecDepth 100000 in
/-- GlacierMail$Way.goOnTo -/
def p2_s633 : ck_Sum := ((3, 0, 0), 245, [.inr (.inr (.inl 206)), .inl (0, 299, [])], ([], [(3, 8, 0)], []), ([(206, 5, 8)], []), [(.inr none, 245, ([], [], []))])
set_option maxRecDepth 100000 in
theorem p2_s633_e : ck_ok p2_O none [] [(32, [p2_s373])] 148 [(5, [some (.inr (.inr (.inl 206))), some (.inl (0, 299, [])), some (.inl ((-2147483648), 2147483647, []))], ([], [(3, 8, 0)], []), 100, .inl 2, true)] 122 p2_s633 = true := by decide +kernel
theorem p2_s633_s {X : Int → Int} {LX : Nat} : ck_Ok p2_O X LX 148 p2_s633 := ck_ok_s ⟨p2_nmu, ck_E1 (ck_S1 p2_s373_s ck_S0) ck_E0⟩ ck_X0 ck_l0 p2_s633_e
set_option maxRecDepth 100000 in
/-- GlacierMail.where -/
def p2_s634 : ck_Sum := ((8, 1, 6), 245, [.inr (.inr (.inl 1)), .inl (0, 23, []), .inl (0, 299, [])], ([], [(3, 8, 0)], []), ([(206, 2, 8)], []), [(.inl 3, 245, ([], [], [])), (.inr (some (.inl ((-2147483648), 99, []))), 245, ([], [], []))])
set_option maxRecDepth 100000 in
theorem p2_s634_e : ck_ok p2_O none [] [(143, [p2_s605]), (129, [p2_s280]), (10, [p2_s363]), (27, [p2_s367]), (148, [p2_s633])] 147 [] 130 p2_s634 = true := by decide +kernel
theorem p2_s634_s {X : Int → Int} {LX : Nat} : ck_Ok p2_O X LX 147 p2_s634 := ck_ok_s ⟨p2_nmu, ck_E1 (ck_S1 p2_s605_s ck_S0) (ck_E1 (ck_S1 p2_s280_s ck_S0) (ck_E1 (ck_S1 p2_s363_s ck_S0) (ck_E1 (ck_S1 p2_s367_s ck_S0) (ck_E1 (ck_S1 p2_s633_s ck_S0) ck_E0))))⟩ ck_X0 ck_l0 p2_s634_e
set_option maxRecDepth 100000 in
/-- GlacierMailModel.where -/
def p2_s635 : ck_Sum := ((2, 0, 0), 245, [.inr (.inr (.inl 226)), .inl ((-2147483648), (-1), []), .inl ((-2147483648), 2147483647, [])], ([], [], [(227, 4, 4, (0, 24, [(22, 0)]))]), ([(226, 0, 0)], []), [(.inr (some (.inl (ck_one 0))), 245, ([], [], [(226, 0, 0, ck_one 1)]))])
set_option maxRecDepth 100000 in
theorem p2_s635_e : ck_ok p2_O none [] [(309, [p2_s612]), (282, [p2_s268])] 313 [] 94 p2_s635 = true := by decide +kernel
theorem p2_s635_s {X : Int → Int} {LX : Nat} : ck_Ok p2_O X LX 313 p2_s635 := ck_ok_s ⟨p2_nmu, ck_E1 (ck_S1 p2_s612_s ck_S0) (ck_E1 (ck_S1 p2_s268_s ck_S0) ck_E0)⟩ ck_X0 ck_l0 p2_s635_e
set_option maxRecDepth 100000 in
/-- GlacierMailModel.where -/
def p2_s636 : ck_Sum := ((2, 0, 0), 245, [.inr (.inr (.inl 226)), .inl (24, 2147483647, []), .inl ((-2147483648), 2147483647, [])], ([], [], [(227, 4, 4, (0, 24, [(22, 0)]))]), ([(226, 0, 0)], []), [(.inr (some (.inl (ck_one 0))), 245, ([], [], [(226, 0, 0, ck_one 1)]))])
set_option maxRecDepth 100000 in
theorem p2_s636_e : ck_ok p2_O none [] [(309, [p2_s615]), (282, [p2_s268])] 313 [] 94 p2_s636 = true := by decide +kernel
theorem p2_s636_s {X : Int → Int} {LX : Nat} : ck_Ok p2_O X LX 313 p2_s636 := ck_ok_s ⟨p2_nmu, ck_E1 (ck_S1 p2_s615_s ck_S0) (ck_E1 (ck_S1 p2_s268_s ck_S0) ck_E0)⟩ ck_X0 ck_l0 p2_s636_e
set_option maxRecDepth 100000 in
/-- GlacierMailModel.where -/
def p2_s637 : ck_Sum := ((2, 0, 0), 245, [.inr (.inr (.inl 226)), .inl (0, 23, []), .inl ((-2147483648), (-1), [])], ([], [], [(227, 4, 4, (0, 24, [(22, 0)]))]), ([(226, 0, 0)], []), [(.inr (some (.inl (ck_one 0))), 245, ([], [], [(226, 0, 0, (1, 2, []))]))])
set_option maxRecDepth 100000 in
theorem p2_s637_e : ck_ok p2_O none [] [(309, [p2_s618]), (282, [p2_s268, p2_s269, p2_s272]), (285, [p2_s284])] 313 [] 106 p2_s637 = true := by decide +kernel
theorem p2_s637_s {X : Int → Int} {LX : Nat} : ck_Ok p2_O X LX 313 p2_s637 := ck_ok_s ⟨p2_nmu, ck_E1 (ck_S1 p2_s618_s ck_S0) (ck_E1 (ck_S1 p2_s268_s (ck_S1 p2_s269_s (ck_S1 p2_s272_s ck_S0))) (ck_E1 (ck_S1 p2_s284_s ck_S0) ck_E0))⟩ ck_X0 ck_l0 p2_s637_e
set_option maxRecDepth 100000 in
/-- GlacierMailModel.where -/
def p2_s638 : ck_Sum := ((2, 0, 0), 245, [.inr (.inr (.inl 226)), .inl (0, 23, []), .inl (300, 2147483647, [])], ([], [], [(227, 4, 4, (0, 24, [(22, 0)]))]), ([(226, 0, 0)], []), [(.inr (some (.inl (ck_one 0))), 245, ([], [], [(226, 0, 0, (1, 2, []))]))])
set_option maxRecDepth 100000 in
theorem p2_s638_e : ck_ok p2_O none [] [(309, [p2_s618]), (282, [p2_s268, p2_s269, p2_s272]), (285, [p2_s287])] 313 [] 106 p2_s638 = true := by decide +kernel
theorem p2_s638_s {X : Int → Int} {LX : Nat} : ck_Ok p2_O X LX 313 p2_s638 := ck_ok_s ⟨p2_nmu, ck_E1 (ck_S1 p2_s618_s ck_S0) (ck_E1 (ck_S1 p2_s268_s (ck_S1 p2_s269_s (ck_S1 p2_s272_s ck_S0))) (ck_E1 (ck_S1 p2_s287_s ck_S0) ck_E0))⟩ ck_X0 ck_l0 p2_s638_e
set_option maxRecDepth 100000 in
/-- GlacierMail.deep -/
def p2_s640 : ck_Sum := ((8, 1, 6), 245, [.inr (.inr (.inl 1)), .inl ((-2147483648), (-1), []), .inl ((-2147483648), 2147483647, [])], ([], [], []), ([], []), [(.inl 3, 245, ([], [], []))])
set_option maxRecDepth 100000 in
theorem p2_s640_e : ck_ok p2_O none [] [(143, [p2_s599])] 150 [] 76 p2_s640 = true := by decide +kernel
theorem p2_s640_s {X : Int → Int} {LX : Nat} : ck_Ok p2_O X LX 150 p2_s640 := ck_ok_s ⟨p2_nmu, ck_E1 (ck_S1 p2_s599_s ck_S0) ck_E0⟩ ck_X0 ck_l0 p2_s640_e
set_option maxRecDepth 100000 in
/-- GlacierMail.deep -/
def p2_s641 : ck_Sum := ((8, 1, 6), 245, [.inr (.inr (.inl 1)), .inl (24, 2147483647, []), .inl ((-2147483648), 2147483647, [])], ([], [], []), ([], []), [(.inl 3, 245, ([], [], []))])
set_option maxRecDepth 100000 in
theorem p2_s641_e : ck_ok p2_O none [] [(143, [p2_s602])] 150 [] 76 p2_s641 = true := by decide +kernel
theorem p2_s641_s {X : Int → Int} {LX : Nat} : ck_Ok p2_O X LX 150 p2_s641 := ck_ok_s ⟨p2_nmu, ck_E1 (ck_S1 p2_s602_s ck_S0) ck_E0⟩ ck_X0 ck_l0 p2_s641_e
set_option maxRecDepth 100000 in
/-- GlacierMail.deep -/
def p2_s642 : ck_Sum := ((8, 2, 12), 245, [.inr (.inr (.inl 1)), .inl (0, 23, []), .inl ((-2147483648), (-1), [])], ([], [], []), ([], []), [(.inl 3, 245, ([], [], [])), (.inl 0, 245, ([], [], []))])
set_option maxRecDepth 100000 in
theorem p2_s642_e : ck_ok p2_O none [] [(143, [p2_s605]), (129, [p2_s276])] 150 [] 82 p2_s642 = true := by decide +kernel
theorem p2_s642_s {X : Int → Int} {LX : Nat} : ck_Ok p2_O X LX 150 p2_s642 := ck_ok_s ⟨p2_nmu, ck_E1 (ck_S1 p2_s605_s ck_S0) (ck_E1 (ck_S1 p2_s276_s ck_S0) ck_E0)⟩ ck_X0 ck_l0 p2_s642_e
set_option maxRecDepth 100000 in
/-- GlacierMail.deep -/
def p2_s643 : ck_Sum := ((8, 2, 12), 245, [.inr (.inr (.inl 1)), .inl (0, 23, []), .inl (300, 2147483647, [])], ([], [], []), ([], []), [(.inl 3, 245, ([], [], [])), (.inl 0, 245, ([], [], []))])
set_option maxRecDepth 100000 in
theorem p2_s643_e : ck_ok p2_O none [] [(143, [p2_s605]), (129, [p2_s278])] 150 [] 82 p2_s643 = true := by decide +kernel
theorem p2_s643_s {X : Int → Int} {LX : Nat} : ck_Ok p2_O X LX 150 p2_s643 := ck_ok_s ⟨p2_nmu, ck_E1 (ck_S1 p2_s605_s ck_S0) (ck_E1 (ck_S1 p2_s278_s ck_S0) ck_E0)⟩ ck_X0 ck_l0 p2_s643_e
set_option maxRecDepth 100000 in
/-- GlacierMail.deep -/
def p2_s644 : ck_Sum := ((8, 1, 6), 245, [.inr (.inr (.inl 1)), .inl (0, 23, []), .inl (0, 299, [])], ([], [(3, 8, 0)], []), ([(206, 2, 8)], []), [(.inl 3, 245, ([], [], [])), (.inr (some (.inl (0, 99, []))), 245, ([], [], [(206, 4, 4, ck_one (-1)), (206, 2, 2, ((-1), 299, []))])), (.inr (some (.inl (ck_one (-1)))), 245, ([], [], []))])
set_option maxRecDepth 100000 in
theorem p2_s644_e : ck_ok p2_O none [] [(143, [p2_s605]), (129, [p2_s280]), (10, [p2_s363]), (27, [p2_s367]), (148, [p2_s633])] 150 [] 122 p2_s644 = true := by decide +kernel
theorem p2_s644_s {X : Int → Int} {LX : Nat} : ck_Ok p2_O X LX 150 p2_s644 := ck_ok_s ⟨p2_nmu, ck_E1 (ck_S1 p2_s605_s ck_S0) (ck_E1 (ck_S1 p2_s280_s ck_S0) (ck_E1 (ck_S1 p2_s363_s ck_S0) (ck_E1 (ck_S1 p2_s367_s ck_S0) (ck_E1 (ck_S1 p2_s633_s ck_S0) ck_E0))))⟩ ck_X0 ck_l0 p2_s644_e
set_option maxRecDepth 100000 in
/-- GlacierMailModel.deep -/
def p2_s645 : ck_Sum := ((2, 0, 0), 245, [.inr (.inr (.inl 226)), .inl ((-2147483648), (-1), []), .inl ((-2147483648), 2147483647, [])], ([], [], [(227, 4, 4, (0, 24, [(22, 0)]))]), ([(226, 0, 0)], []), [(.inr (some (.inl (ck_one 0))), 245, ([], [], [(226, 0, 0, ck_one 1)]))])
set_option maxRecDepth 100000 in
theorem p2_s645_e : ck_ok p2_O none [] [(309, [p2_s612]), (282, [p2_s268])] 314 [] 94 p2_s645 = true := by decide +kernel
theorem p2_s645_s {X : Int → Int} {LX : Nat} : ck_Ok p2_O X LX 314 p2_s645 := ck_ok_s ⟨p2_nmu, ck_E1 (ck_S1 p2_s612_s ck_S0) (ck_E1 (ck_S1 p2_s268_s ck_S0) ck_E0)⟩ ck_X0 ck_l0 p2_s645_e
set_option maxRecDepth 100000 in
/-- GlacierMailModel.deep -/
def p2_s646 : ck_Sum := ((2, 0, 0), 245, [.inr (.inr (.inl 226)), .inl (24, 2147483647, []), .inl ((-2147483648), 2147483647, [])], ([], [], [(227, 4, 4, (0, 24, [(22, 0)]))]), ([(226, 0, 0)], []), [(.inr (some (.inl (ck_one 0))), 245, ([], [], [(226, 0, 0, ck_one 1)]))])
set_option maxRecDepth 100000 in
theorem p2_s646_e : ck_ok p2_O none [] [(309, [p2_s615]), (282, [p2_s268])] 314 [] 94 p2_s646 = true := by decide +kernel
theorem p2_s646_s {X : Int → Int} {LX : Nat} : ck_Ok p2_O X LX 314 p2_s646 := ck_ok_s ⟨p2_nmu, ck_E1 (ck_S1 p2_s615_s ck_S0) (ck_E1 (ck_S1 p2_s268_s ck_S0) ck_E0)⟩ ck_X0 ck_l0 p2_s646_e
set_option maxRecDepth 100000 in
/-- GlacierMailModel.deep -/
def p2_s647 : ck_Sum := ((2, 0, 0), 245, [.inr (.inr (.inl 226)), .inl (0, 23, []), .inl ((-2147483648), (-1), [])], ([], [], [(227, 4, 4, (0, 24, [(22, 0)]))]), ([(226, 0, 0)], []), [(.inr (some (.inl (ck_one 0))), 245, ([], [], [(226, 0, 0, (1, 2, []))]))])
set_option maxRecDepth 100000 in
theorem p2_s647_e : ck_ok p2_O none [] [(309, [p2_s618]), (282, [p2_s268, p2_s269, p2_s272]), (285, [p2_s284])] 314 [] 106 p2_s647 = true := by decide +kernel
theorem p2_s647_s {X : Int → Int} {LX : Nat} : ck_Ok p2_O X LX 314 p2_s647 := ck_ok_s ⟨p2_nmu, ck_E1 (ck_S1 p2_s618_s ck_S0) (ck_E1 (ck_S1 p2_s268_s (ck_S1 p2_s269_s (ck_S1 p2_s272_s ck_S0))) (ck_E1 (ck_S1 p2_s284_s ck_S0) ck_E0))⟩ ck_X0 ck_l0 p2_s647_e
set_option maxRecDepth 100000 in
/-- GlacierMailModel.deep -/
def p2_s648 : ck_Sum := ((2, 0, 0), 245, [.inr (.inr (.inl 226)), .inl (0, 23, []), .inl (300, 2147483647, [])], ([], [], [(227, 4, 4, (0, 24, [(22, 0)]))]), ([(226, 0, 0)], []), [(.inr (some (.inl (ck_one 0))), 245, ([], [], [(226, 0, 0, (1, 2, []))]))])
set_option maxRecDepth 100000 in
theorem p2_s648_e : ck_ok p2_O none [] [(309, [p2_s618]), (282, [p2_s268, p2_s269, p2_s272]), (285, [p2_s287])] 314 [] 106 p2_s648 = true := by decide +kernel
theorem p2_s648_s {X : Int → Int} {LX : Nat} : ck_Ok p2_O X LX 314 p2_s648 := ck_ok_s ⟨p2_nmu, ck_E1 (ck_S1 p2_s618_s ck_S0) (ck_E1 (ck_S1 p2_s268_s (ck_S1 p2_s269_s (ck_S1 p2_s272_s ck_S0))) (ck_E1 (ck_S1 p2_s287_s ck_S0) ck_E0))⟩ ck_X0 ck_l0 p2_s648_e
set_option maxRecDepth 100000 in
/-- GlacierMail.post -/
def p2_s650 : ck_Sum := ((8, 1, 6), 245, [.inr (.inr (.inl 1)), .inl ((-2147483648), (-1), []), .inl ((-2147483648), 2147483647, [])], ([], [], []), ([], []), [(.inl 3, 245, ([], [], []))])
set_option maxRecDepth 100000 in
theorem p2_s650_e : ck_ok p2_O none [] [(139, [p2_s350])] 152 [] 76 p2_s650 = true := by decide +kernel
theorem p2_s650_s {X : Int → Int} {LX : Nat} : ck_Ok p2_O X LX 152 p2_s650 := ck_ok_s ⟨p2_nmu, ck_E1 (ck_S1 p2_s350_s ck_S0) ck_E0⟩ ck_X0 ck_l0 p2_s650_e
set_option maxRecDepth 100000 in
/-- GlacierMail.post -/
def p2_s651 : ck_Sum := ((8, 1, 6), 245, [.inr (.inr (.inl 1)), .inl (8, 2147483647, []), .inl ((-2147483648), 2147483647, [])], ([], [], []), ([], []), [(.inl 3, 245, ([], [], []))])
set_option maxRecDepth 100000 in
theorem p2_s651_e : ck_ok p2_O none [] [(139, [p2_s353])] 152 [] 76 p2_s651 = true := by decide +kernel
theorem p2_s651_s {X : Int → Int} {LX : Nat} : ck_Ok p2_O X LX 152 p2_s651 := ck_ok_s ⟨p2_nmu, ck_E1 (ck_S1 p2_s353_s ck_S0) ck_E0⟩ ck_X0 ck_l0 p2_s651_e
set_option maxRecDepth 100000 in
/-- GlacierMail.post -/
def p2_s652 : ck_Sum := ((8, 2, 12), 245, [.inr (.inr (.inl 1)), .inl (0, 7, []), .inl ((-2147483648), (-1), [])], ([], [], []), ([], []), [(.inl 3, 245, ([], [], []))])
set_option maxRecDepth 100000 in
theorem p2_s652_e : ck_ok p2_O none [] [(139, [p2_s356, p2_s350])] 152 [] 82 p2_s652 = true := by decide +kernel
theorem p2_s652_s {X : Int → Int} {LX : Nat} : ck_Ok p2_O X LX 152 p2_s652 := ck_ok_s ⟨p2_nmu, ck_E1 (ck_S1 p2_s356_s (ck_S1 p2_s350_s ck_S0)) ck_E0⟩ ck_X0 ck_l0 p2_s652_e
set_option maxRecDepth 100000 in
/-- GlacierMail.post -/
def p2_s653 : ck_Sum := ((8, 2, 12), 245, [.inr (.inr (.inl 1)), .inl (0, 7, []), .inl (8, 2147483647, [])], ([], [], []), ([], []), [(.inl 3, 245, ([], [], []))])
set_option maxRecDepth 100000 in
theorem p2_s653_e : ck_ok p2_O none [] [(139, [p2_s356, p2_s353])] 152 [] 82 p2_s653 = true := by decide +kernel
theorem p2_s653_s {X : Int → Int} {LX : Nat} : ck_Ok p2_O X LX 152 p2_s653 := ck_ok_s ⟨p2_nmu, ck_E1 (ck_S1 p2_s356_s (ck_S1 p2_s353_s ck_S0)) ck_E0⟩ ck_X0 ck_l0 p2_s653_e
set_option maxRecDepth 100000 in
/-- GlacierMail.needUnlike -/
def p2_s654 : ck_Sum := ((6, 1, 6), 245, [.inr (.inr (.inl 1)), .inl (0, 7, []), .inl (0, 7, [])], ([], [], []), ([], []), [(.inr none, 245, ([], [], [])), (.inl 0, 245, ([], [], []))])
set_option maxRecDepth 100000 in
theorem p2_s654_e : ck_ok p2_O none [] [] 153 [] 78 p2_s654 = true := by decide +kernel
theorem p2_s654_s {X : Int → Int} {LX : Nat} : ck_Ok p2_O X LX 153 p2_s654 := ck_ok_s ⟨p2_nmu, ck_E0⟩ ck_X0 ck_l0 p2_s654_e
set_option maxRecDepth 100000 in
/-- GlacierMail$Rows.isFull -/
def p2_s655 : ck_Sum := ((0, 0, 0), 245, [.inr (.inr (.inl 10))], ([], [], []), ([], []), [(.inr (some (.inl (ck_one 0))), 245, ([], [], [(10, 3, 3, (0, 23, []))])), (.inr (some (.inl (ck_one 1))), 245, ([], [], [(10, 3, 3, ck_one 24)]))])
set_option maxRecDepth 100000 in
theorem p2_s655_e : ck_ok p2_O none [] [] 108 [] 86 p2_s655 = true := by decide +kernel
theorem p2_s655_s {X : Int → Int} {LX : Nat} : ck_Ok p2_O X LX 108 p2_s655 := ck_ok_s ⟨p2_nmu, ck_E0⟩ ck_X0 ck_l0 p2_s655_e
set_option maxRecDepth 100000 in
/-- GlacierMail$History.at -/
def p2_s656 : ck_Sum := ((0, 0, 0), 245, [.inr (.inr (.inl 42)), .inl (0, 12, [])], ([], [], []), ([], []), [(.inr (some (.inr (.inr (.inl 0)))), 245, ([], [], [])), (.inr (some (.inr (.inr (.inl 44)))), 245, ([], [], [])), (.inr (some (.inr (.inr (.inl 187)))), 245, ([], [], [])), (.inr (some (.inr (.inr (.inl 174)))), 245, ([], [], [])), (.inr (some (.inr (.inr (.inl 161)))), 245, ([], [], [])), (.inr (some (.inr (.inr (.inl 148)))), 245, ([], [], [])), (.inr (some (.inr (.inr (.inl 135)))), 245, ([], [], [])), (.inr (some (.inr (.inr (.inl 122)))), 245, ([], [], [])), (.inr (some (.inr (.inr (.inl 109)))), 245, ([], [], [])), (.inr (some (.inr (.inr (.inl 96)))), 245, ([], [], [])), (.inr (some (.inr (.inr (.inl 83)))), 245, ([], [], [])), (.inr (some (.inr (.inr (.inl 70)))), 245, ([], [], [])), (.inr (some (.inr (.inr (.inl 57)))), 245, ([], [], []))])
set_option maxRecDepth 100000 in
theorem p2_s656_e : ck_ok p2_O none [] [] 56 [] 96 p2_s656 = true := by decide +kernel
theorem p2_s656_s {X : Int → Int} {LX : Nat} : ck_Ok p2_O X LX 56 p2_s656 := ck_ok_s ⟨p2_nmu, ck_E0⟩ ck_X0 ck_l0 p2_s656_e
set_option maxRecDepth 100000 in
/-- GlacierMail$Rows.copyFrom -/
def p2_s657 : ck_Sum := ((1, 0, 0), 245, [.inr (.inr (.inl 58)), .inr (.inr (.inl 4))], ([], [], []), ([(58, 3, 3), (59, 0, 55)], []), [(.inr none, 245, ([], [], []))])
set_option maxRecDepth 100000 in
theorem p2_s657_e : ck_ok p2_O none [] [] 58 [] 114 p2_s657 = true := by decide +kernel
theorem p2_s657_s {X : Int → Int} {LX : Nat} : ck_Ok p2_O X LX 58 p2_s657 := ck_ok_s ⟨p2_nmu, ck_E0⟩ ck_X0 ck_l0 p2_s657_e
set_option maxRecDepth 100000 in
/-- GlacierMail$Rows.copyFrom -/
def p2_s658 : ck_Sum := ((1, 0, 0), 245, [.inr (.inr (.inl 60)), .inr (.inr (.inl 6))], ([], [], []), ([(60, 3, 3), (61, 0, 23)], []), [(.inr none, 245, ([], [], []))])
set_option maxRecDepth 100000 in
theorem p2_s658_e : ck_ok p2_O none [] [] 58 [] 114 p2_s658 = true := by decide +kernel
theorem p2_s658_s {X : Int → Int} {LX : Nat} : ck_Ok p2_O X LX 58 p2_s658 := ck_ok_s ⟨p2_nmu, ck_E0⟩ ck_X0 ck_l0 p2_s658_e
set_option maxRecDepth 100000 in
/-- GlacierMail$Rows.copyFrom -/
def p2_s659 : ck_Sum := ((1, 0, 0), 245, [.inr (.inr (.inl 62)), .inr (.inr (.inl 8))], ([], [], []), ([(62, 3, 3), (63, 0, 23)], []), [(.inr none, 245, ([], [], []))])
set_option maxRecDepth 100000 in
theorem p2_s659_e : ck_ok p2_O none [] [] 58 [] 114 p2_s659 = true := by decide +kernel
theorem p2_s659_s {X : Int → Int} {LX : Nat} : ck_Ok p2_O X LX 58 p2_s659 := ck_ok_s ⟨p2_nmu, ck_E0⟩ ck_X0 ck_l0 p2_s659_e
set_option maxRecDepth 100000 in
/-- GlacierMail$Rows.copyFrom -/
def p2_s660 : ck_Sum := ((1, 0, 0), 245, [.inr (.inr (.inl 64)), .inr (.inr (.inl 10))], ([], [], []), ([(64, 3, 3), (65, 0, 167)], []), [(.inr none, 245, ([], [], []))])
set_option maxRecDepth 100000 in
theorem p2_s660_e : ck_ok p2_O none [] [] 58 [] 114 p2_s660 = true := by decide +kernel
theorem p2_s660_s {X : Int → Int} {LX : Nat} : ck_Ok p2_O X LX 58 p2_s660 := ck_ok_s ⟨p2_nmu, ck_E0⟩ ck_X0 ck_l0 p2_s660_e
set_option maxRecDepth 100000 in
/-- GlacierMail$Rows.copyFrom -/
def p2_s661 : ck_Sum := ((1, 0, 0), 245, [.inr (.inr (.inl 66)), .inr (.inr (.inl 12))], ([], [], []), ([(66, 3, 3), (67, 0, 35)], []), [(.inr none, 245, ([], [], []))])
set_option maxRecDepth 100000 in
theorem p2_s661_e : ck_ok p2_O none [] [] 58 [] 114 p2_s661 = true := by decide +kernel
theorem p2_s661_s {X : Int → Int} {LX : Nat} : ck_Ok p2_O X LX 58 p2_s661 := ck_ok_s ⟨p2_nmu, ck_E0⟩ ck_X0 ck_l0 p2_s661_e
set_option maxRecDepth 100000 in
/-- GlacierMail$Rows.copyFrom -/
def p2_s662 : ck_Sum := ((1, 0, 0), 245, [.inr (.inr (.inl 68)), .inr (.inr (.inl 14))], ([], [], []), ([(68, 3, 3), (69, 0, 71)], []), [(.inr none, 245, ([], [], []))])
set_option maxRecDepth 100000 in
theorem p2_s662_e : ck_ok p2_O none [] [] 58 [] 114 p2_s662 = true := by decide +kernel
theorem p2_s662_s {X : Int → Int} {LX : Nat} : ck_Ok p2_O X LX 58 p2_s662 := ck_ok_s ⟨p2_nmu, ck_E0⟩ ck_X0 ck_l0 p2_s662_e
set_option maxRecDepth 100000 in
/-- GlacierMail$State.copyFrom -/
def p2_s663 : ck_Sum := ((2, 0, 0), 245, [.inr (.inr (.inl 57)), .inr (.inr (.inl 3))], ([], [(3, 8, 0), (57, 8, 100057)], [(3, 6, 6, (0, 299, [(10, 0)]))]), ([(57, 0, 7), (58, 3, 3), (59, 0, 55), (60, 3, 3), (61, 0, 23), (62, 3, 3), (63, 0, 23), (64, 3, 3), (65, 0, 167), (66, 3, 3), (67, 0, 35), (68, 3, 3), (69, 0, 71)], [(57, 8)]), [(.inr none, 245, ([], [(57, 8, 0)], [(57, 6, 6, (0, 299, [(10, 0)]))]))])
set_option maxRecDepth 100000 in
theorem p2_s663_e : ck_ok p2_O none [] [(58, [p2_s657, p2_s658, p2_s659, p2_s660, p2_s661, p2_s662])] 57 [] 204 p2_s663 = true := by decide +kernel
theorem p2_s663_s {X : Int → Int} {LX : Nat} : ck_Ok p2_O X LX 57 p2_s663 := ck_ok_s ⟨p2_nmu, ck_E1 (ck_S1 p2_s657_s (ck_S1 p2_s658_s (ck_S1 p2_s659_s (ck_S1 p2_s660_s (ck_S1 p2_s661_s (ck_S1 p2_s662_s ck_S0)))))) ck_E0⟩ ck_X0 ck_l0 p2_s663_e
set_option maxRecDepth 100000 in
/-- GlacierMail$Rows.copyFrom -/
def p2_s664 : ck_Sum := ((1, 0, 0), 245, [.inr (.inr (.inl 71)), .inr (.inr (.inl 4))], ([], [], []), ([(71, 3, 3), (72, 0, 55)], []), [(.inr none, 245, ([], [], []))])
set_option maxRecDepth 100000 in
theorem p2_s664_e : ck_ok p2_O none [] [] 58 [] 114 p2_s664 = true := by decide +kernel
theorem p2_s664_s {X : Int → Int} {LX : Nat} : ck_Ok p2_O X LX 58 p2_s664 := ck_ok_s ⟨p2_nmu, ck_E0⟩ ck_X0 ck_l0 p2_s664_e
set_option maxRecDepth 100000 in
/-- GlacierMail$Rows.copyFrom -/
def p2_s665 : ck_Sum := ((1, 0, 0), 245, [.inr (.inr (.inl 73)), .inr (.inr (.inl 6))], ([], [], []), ([(73, 3, 3), (74, 0, 23)], []), [(.inr none, 245, ([], [], []))])
set_option maxRecDepth 100000 in
theorem p2_s665_e : ck_ok p2_O none [] [] 58 [] 114 p2_s665 = true := by decide +kernel
theorem p2_s665_s {X : Int → Int} {LX : Nat} : ck_Ok p2_O X LX 58 p2_s665 := ck_ok_s ⟨p2_nmu, ck_E0⟩ ck_X0 ck_l0 p2_s665_e
set_option maxRecDepth 100000 in
/-- GlacierMail$Rows.copyFrom -/
def p2_s666 : ck_Sum := ((1, 0, 0), 245, [.inr (.inr (.inl 75)), .inr (.inr (.inl 8))], ([], [], []), ([(75, 3, 3), (76, 0, 23)], []), [(.inr none, 245, ([], [], []))])
set_option maxRecDepth 100000 in
theorem p2_s666_e : ck_ok p2_O none [] [] 58 [] 114 p2_s666 = true := by decide +kernel
theorem p2_s666_s {X : Int → Int} {LX : Nat} : ck_Ok p2_O X LX 58 p2_s666 := ck_ok_s ⟨p2_nmu, ck_E0⟩ ck_X0 ck_l0 p2_s666_e
set_option maxRecDepth 100000 in
/-- GlacierMail$Rows.copyFrom -/
def p2_s667 : ck_Sum := ((1, 0, 0), 245, [.inr (.inr (.inl 77)), .inr (.inr (.inl 10))], ([], [], []), ([(77, 3, 3), (78, 0, 167)], []), [(.inr none, 245, ([], [], []))])
set_option maxRecDepth 100000 in
theorem p2_s667_e : ck_ok p2_O none [] [] 58 [] 114 p2_s667 = true := by decide +kernel
theorem p2_s667_s {X : Int → Int} {LX : Nat} : ck_Ok p2_O X LX 58 p2_s667 := ck_ok_s ⟨p2_nmu, ck_E0⟩ ck_X0 ck_l0 p2_s667_e
set_option maxRecDepth 100000 in
/-- GlacierMail$Rows.copyFrom -/
def p2_s668 : ck_Sum := ((1, 0, 0), 245, [.inr (.inr (.inl 79)), .inr (.inr (.inl 12))], ([], [], []), ([(79, 3, 3), (80, 0, 35)], []), [(.inr none, 245, ([], [], []))])
set_option maxRecDepth 100000 in
theorem p2_s668_e : ck_ok p2_O none [] [] 58 [] 114 p2_s668 = true := by decide +kernel
theorem p2_s668_s {X : Int → Int} {LX : Nat} : ck_Ok p2_O X LX 58 p2_s668 := ck_ok_s ⟨p2_nmu, ck_E0⟩ ck_X0 ck_l0 p2_s668_e
set_option maxRecDepth 100000 in
/-- GlacierMail$Rows.copyFrom -/
def p2_s669 : ck_Sum := ((1, 0, 0), 245, [.inr (.inr (.inl 81)), .inr (.inr (.inl 14))], ([], [], []), ([(81, 3, 3), (82, 0, 71)], []), [(.inr none, 245, ([], [], []))])
set_option maxRecDepth 100000 in
theorem p2_s669_e : ck_ok p2_O none [] [] 58 [] 114 p2_s669 = true := by decide +kernel
theorem p2_s669_s {X : Int → Int} {LX : Nat} : ck_Ok p2_O X LX 58 p2_s669 := ck_ok_s ⟨p2_nmu, ck_E0⟩ ck_X0 ck_l0 p2_s669_e
set_option maxRecDepth 100000 in
/-- GlacierMail$State.copyFrom -/
def p2_s670 : ck_Sum := ((2, 0, 0), 245, [.inr (.inr (.inl 70)), .inr (.inr (.inl 3))], ([], [(3, 8, 0), (70, 8, 100070)], [(3, 6, 6, (0, 299, [(10, 0)]))]), ([(70, 0, 7), (71, 3, 3), (72, 0, 55), (73, 3, 3), (74, 0, 23), (75, 3, 3), (76, 0, 23), (77, 3, 3), (78, 0, 167), (79, 3, 3), (80, 0, 35), (81, 3, 3), (82, 0, 71)], [(70, 8)]), [(.inr none, 245, ([], [(70, 8, 0)], [(70, 6, 6, (0, 299, [(10, 0)]))]))])
set_option maxRecDepth 100000 in
theorem p2_s670_e : ck_ok p2_O none [] [(58, [p2_s664, p2_s665, p2_s666, p2_s667, p2_s668, p2_s669])] 57 [] 204 p2_s670 = true := by decide +kernel
theorem p2_s670_s {X : Int → Int} {LX : Nat} : ck_Ok p2_O X LX 57 p2_s670 := ck_ok_s ⟨p2_nmu, ck_E1 (ck_S1 p2_s664_s (ck_S1 p2_s665_s (ck_S1 p2_s666_s (ck_S1 p2_s667_s (ck_S1 p2_s668_s (ck_S1 p2_s669_s ck_S0)))))) ck_E0⟩ ck_X0 ck_l0 p2_s670_e
set_option maxRecDepth 100000 in
/-- GlacierMail$Rows.copyFrom -/
def p2_s671 : ck_Sum := ((1, 0, 0), 245, [.inr (.inr (.inl 84)), .inr (.inr (.inl 4))], ([], [], []), ([(84, 3, 3), (85, 0, 55)], []), [(.inr none, 245, ([], [], []))])
set_option maxRecDepth 100000 in
theorem p2_s671_e : ck_ok p2_O none [] [] 58 [] 114 p2_s671 = true := by decide +kernel
theorem p2_s671_s {X : Int → Int} {LX : Nat} : ck_Ok p2_O X LX 58 p2_s671 := ck_ok_s ⟨p2_nmu, ck_E0⟩ ck_X0 ck_l0 p2_s671_e
set_option maxRecDepth 100000 in
/-- GlacierMail$Rows.copyFrom -/
def p2_s672 : ck_Sum := ((1, 0, 0), 245, [.inr (.inr (.inl 86)), .inr (.inr (.inl 6))], ([], [], []), ([(86, 3, 3), (87, 0, 23)], []), [(.inr none, 245, ([], [], []))])
set_option maxRecDepth 100000 in
theorem p2_s672_e : ck_ok p2_O none [] [] 58 [] 114 p2_s672 = true := by decide +kernel
theorem p2_s672_s {X : Int → Int} {LX : Nat} : ck_Ok p2_O X LX 58 p2_s672 := ck_ok_s ⟨p2_nmu, ck_E0⟩ ck_X0 ck_l0 p2_s672_e
set_option maxRecDepth 100000 in
/-- GlacierMail$Rows.copyFrom -/
def p2_s673 : ck_Sum := ((1, 0, 0), 245, [.inr (.inr (.inl 88)), .inr (.inr (.inl 8))], ([], [], []), ([(88, 3, 3), (89, 0, 23)], []), [(.inr none, 245, ([], [], []))])
set_option maxRecDepth 100000 in
theorem p2_s673_e : ck_ok p2_O none [] [] 58 [] 114 p2_s673 = true := by decide +kernel
theorem p2_s673_s {X : Int → Int} {LX : Nat} : ck_Ok p2_O X LX 58 p2_s673 := ck_ok_s ⟨p2_nmu, ck_E0⟩ ck_X0 ck_l0 p2_s673_e
set_option maxRecDepth 100000 in
/-- GlacierMail$Rows.copyFrom -/
def p2_s674 : ck_Sum := ((1, 0, 0), 245, [.inr (.inr (.inl 90)), .inr (.inr (.inl 10))], ([], [], []), ([(90, 3, 3), (91, 0, 167)], []), [(.inr none, 245, ([], [], []))])
set_option maxRecDepth 100000 in
theorem p2_s674_e : ck_ok p2_O none [] [] 58 [] 114 p2_s674 = true := by decide +kernel
theorem p2_s674_s {X : Int → Int} {LX : Nat} : ck_Ok p2_O X LX 58 p2_s674 := ck_ok_s ⟨p2_nmu, ck_E0⟩ ck_X0 ck_l0 p2_s674_e
set_option maxRecDepth 100000 in
/-- GlacierMail$Rows.copyFrom -/
def p2_s675 : ck_Sum := ((1, 0, 0), 245, [.inr (.inr (.inl 92)), .inr (.inr (.inl 12))], ([], [], []), ([(92, 3, 3), (93, 0, 35)], []), [(.inr none, 245, ([], [], []))])
set_option maxRecDepth 100000 in
theorem p2_s675_e : ck_ok p2_O none [] [] 58 [] 114 p2_s675 = true := by decide +kernel
theorem p2_s675_s {X : Int → Int} {LX : Nat} : ck_Ok p2_O X LX 58 p2_s675 := ck_ok_s ⟨p2_nmu, ck_E0⟩ ck_X0 ck_l0 p2_s675_e
set_option maxRecDepth 100000 in
/-- GlacierMail$Rows.copyFrom -/
def p2_s676 : ck_Sum := ((1, 0, 0), 245, [.inr (.inr (.inl 94)), .inr (.inr (.inl 14))], ([], [], []), ([(94, 3, 3), (95, 0, 71)], []), [(.inr none, 245, ([], [], []))])
set_option maxRecDepth 100000 in
theorem p2_s676_e : ck_ok p2_O none [] [] 58 [] 114 p2_s676 = true := by decide +kernel
theorem p2_s676_s {X : Int → Int} {LX : Nat} : ck_Ok p2_O X LX 58 p2_s676 := ck_ok_s ⟨p2_nmu, ck_E0⟩ ck_X0 ck_l0 p2_s676_e
set_option maxRecDepth 100000 in
/-- GlacierMail$State.copyFrom -/
def p2_s677 : ck_Sum := ((2, 0, 0), 245, [.inr (.inr (.inl 83)), .inr (.inr (.inl 3))], ([], [(3, 8, 0), (83, 8, 100083)], [(3, 6, 6, (0, 299, [(10, 0)]))]), ([(83, 0, 7), (84, 3, 3), (85, 0, 55), (86, 3, 3), (87, 0, 23), (88, 3, 3), (89, 0, 23), (90, 3, 3), (91, 0, 167), (92, 3, 3), (93, 0, 35), (94, 3, 3), (95, 0, 71)], [(83, 8)]), [(.inr none, 245, ([], [(83, 8, 0)], [(83, 6, 6, (0, 299, [(10, 0)]))]))])
set_option maxRecDepth 100000 in
theorem p2_s677_e : ck_ok p2_O none [] [(58, [p2_s671, p2_s672, p2_s673, p2_s674, p2_s675, p2_s676])] 57 [] 204 p2_s677 = true := by decide +kernel
theorem p2_s677_s {X : Int → Int} {LX : Nat} : ck_Ok p2_O X LX 57 p2_s677 := ck_ok_s ⟨p2_nmu, ck_E1 (ck_S1 p2_s671_s (ck_S1 p2_s672_s (ck_S1 p2_s673_s (ck_S1 p2_s674_s (ck_S1 p2_s675_s (ck_S1 p2_s676_s ck_S0)))))) ck_E0⟩ ck_X0 ck_l0 p2_s677_e
set_option maxRecDepth 100000 in
/-- GlacierMail$Rows.copyFrom -/
def p2_s678 : ck_Sum := ((1, 0, 0), 245, [.inr (.inr (.inl 97)), .inr (.inr (.inl 4))], ([], [], []), ([(97, 3, 3), (98, 0, 55)], []), [(.inr none, 245, ([], [], []))])
set_option maxRecDepth 100000 in
theorem p2_s678_e : ck_ok p2_O none [] [] 58 [] 114 p2_s678 = true := by decide +kernel
theorem p2_s678_s {X : Int → Int} {LX : Nat} : ck_Ok p2_O X LX 58 p2_s678 := ck_ok_s ⟨p2_nmu, ck_E0⟩ ck_X0 ck_l0 p2_s678_e
set_option maxRecDepth 100000 in
/-- GlacierMail$Rows.copyFrom -/
def p2_s679 : ck_Sum := ((1, 0, 0), 245, [.inr (.inr (.inl 99)), .inr (.inr (.inl 6))], ([], [], []), ([(99, 3, 3), (100, 0, 23)], []), [(.inr none, 245, ([], [], []))])
set_option maxRecDepth 100000 in
theorem p2_s679_e : ck_ok p2_O none [] [] 58 [] 114 p2_s679 = true := by decide +kernel
theorem p2_s679_s {X : Int → Int} {LX : Nat} : ck_Ok p2_O X LX 58 p2_s679 := ck_ok_s ⟨p2_nmu, ck_E0⟩ ck_X0 ck_l0 p2_s679_e
set_option maxRecDepth 100000 in
/-- GlacierMail$Rows.copyFrom -/
def p2_s680 : ck_Sum := ((1, 0, 0), 245, [.inr (.inr (.inl 101)), .inr (.inr (.inl 8))], ([], [], []), ([(101, 3, 3), (102, 0, 23)], []), [(.inr none, 245, ([], [], []))])
set_option maxRecDepth 100000 in
theorem p2_s680_e : ck_ok p2_O none [] [] 58 [] 114 p2_s680 = true := by decide +kernel
theorem p2_s680_s {X : Int → Int} {LX : Nat} : ck_Ok p2_O X LX 58 p2_s680 := ck_ok_s ⟨p2_nmu, ck_E0⟩ ck_X0 ck_l0 p2_s680_e
set_option maxRecDepth 100000 in
/-- GlacierMail$Rows.copyFrom -/
def p2_s681 : ck_Sum := ((1, 0, 0), 245, [.inr (.inr (.inl 103)), .inr (.inr (.inl 10))], ([], [], []), ([(103, 3, 3), (104, 0, 167)], []), [(.inr none, 245, ([], [], []))])
set_option maxRecDepth 100000 in
theorem p2_s681_e : ck_ok p2_O none [] [] 58 [] 114 p2_s681 = true := by decide +kernel
theorem p2_s681_s {X : Int → Int} {LX : Nat} : ck_Ok p2_O X LX 58 p2_s681 := ck_ok_s ⟨p2_nmu, ck_E0⟩ ck_X0 ck_l0 p2_s681_e
set_option maxRecDepth 100000 in
/-- GlacierMail$Rows.copyFrom -/
def p2_s682 : ck_Sum := ((1, 0, 0), 245, [.inr (.inr (.inl 105)), .inr (.inr (.inl 12))], ([], [], []), ([(105, 3, 3), (106, 0, 35)], []), [(.inr none, 245, ([], [], []))])
set_option maxRecDepth 100000 in
theorem p2_s682_e : ck_ok p2_O none [] [] 58 [] 114 p2_s682 = true := by decide +kernel
theorem p2_s682_s {X : Int → Int} {LX : Nat} : ck_Ok p2_O X LX 58 p2_s682 := ck_ok_s ⟨p2_nmu, ck_E0⟩ ck_X0 ck_l0 p2_s682_e
set_option maxRecDepth 100000 in
/-- GlacierMail$Rows.copyFrom -/
def p2_s683 : ck_Sum := ((1, 0, 0), 245, [.inr (.inr (.inl 107)), .inr (.inr (.inl 14))], ([], [], []), ([(107, 3, 3), (108, 0, 71)], []), [(.inr none, 245, ([], [], []))])
set_option maxRecDepth 100000 in
theorem p2_s683_e : ck_ok p2_O none [] [] 58 [] 114 p2_s683 = true := by decide +kernel
theorem p2_s683_s {X : Int → Int} {LX : Nat} : ck_Ok p2_O X LX 58 p2_s683 := ck_ok_s ⟨p2_nmu, ck_E0⟩ ck_X0 ck_l0 p2_s683_e
set_option maxRecDepth 100000 in
/-- GlacierMail$State.copyFrom -/
def p2_s684 : ck_Sum := ((2, 0, 0), 245, [.inr (.inr (.inl 96)), .inr (.inr (.inl 3))], ([], [(3, 8, 0), (96, 8, 100096)], [(3, 6, 6, (0, 299, [(10, 0)]))]), ([(96, 0, 7), (97, 3, 3), (98, 0, 55), (99, 3, 3), (100, 0, 23), (101, 3, 3), (102, 0, 23), (103, 3, 3), (104, 0, 167), (105, 3, 3), (106, 0, 35), (107, 3, 3), (108, 0, 71)], [(96, 8)]), [(.inr none, 245, ([], [(96, 8, 0)], [(96, 6, 6, (0, 299, [(10, 0)]))]))])
set_option maxRecDepth 100000 in
theorem p2_s684_e : ck_ok p2_O none [] [(58, [p2_s678, p2_s679, p2_s680, p2_s681, p2_s682, p2_s683])] 57 [] 204 p2_s684 = true := by decide +kernel
theorem p2_s684_s {X : Int → Int} {LX : Nat} : ck_Ok p2_O X LX 57 p2_s684 := ck_ok_s ⟨p2_nmu, ck_E1 (ck_S1 p2_s678_s (ck_S1 p2_s679_s (ck_S1 p2_s680_s (ck_S1 p2_s681_s (ck_S1 p2_s682_s (ck_S1 p2_s683_s ck_S0)))))) ck_E0⟩ ck_X0 ck_l0 p2_s684_e
