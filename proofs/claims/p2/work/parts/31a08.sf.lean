/-! EVERY CALL ENDS, whatever was done before (laid by wip/am/p2g.py). -/
set_option maxRecDepth 100000 in
/-- GlacierMail$Way.start -/
def p2_s1113 : ck_Sum := ((0, 0, 0), 245, [.inr (.inr (.inl 206)), .inl ((-2147483648), 2147483647, []), .inl ((-2147483648), 2147483647, []), .inl (0, 299, []), .inl (0, 1, [])], ([], [], []), ([(206, 2, 8)], []), [(.inr none, 245, ([], [], [(206, 8, 8, ck_one 0), (206, 6, 6, ck_one 0), (206, 4, 4, ck_one (-1)), (206, 7, 7, (0, 299, []))]))])
set_option maxRecDepth 100000 in
theorem p2_s1113_e : ck_ok p2_O none [] [] 29 [] 114 p2_s1113 = true := by decide +kernel
theorem p2_s1113_s {X : Int → Int} {LX : Nat} : ck_Ok p2_O X LX 29 p2_s1113 := ck_ok_s ⟨p2_nmu, ck_E0⟩ ck_X0 ck_l0 p2_s1113_e
set_option maxRecDepth 100000 in
/-- GlacierMail.throwsFor -/
def p2_s1114 : ck_Sum := ((8, 2, 12), 245, [.inr (.inr (.inl 1)), .inl (0, 5, []), .inl (0, 299, []), .inl (0, 299, []), .inl (0, 9, [])], ([], [(3, 8, 0)], [(3, 6, 6, (0, 299, [(10, 0)]))]), ([(206, 2, 8)], []), [(.inl 3, 245, ([], [], [])), (.inl 4, 245, ([], [], [])), (.inl 0, 245, ([], [], [(3, 6, 6, (1, 299, [(10, 0)]))])), (.inr (some (.inl ((-2147483648), 2147483647, []))), 245, ([], [], []))])
set_option maxRecDepth 100000 in
theorem p2_s1114_e : ck_ok p2_O none [] [(132, [p2_s299]), (129, [p2_s280]), (29, [p2_s1113]), (30, [p2_s374])] 167 [(71, [some (.inr (.inr (.inl 1))), some (.inl (0, 5, [])), some (.inl (0, 299, [])), some (.inl (0, 299, [])), some (.inl (0, 2, [])), some (.inl ((-2147483648), 2147483647, [])), some (.inl ((-1), 167, [])), some (.inl ((-1), 167, [])), some (.inl (0, 167, []))], ([], [(3, 8, 0)], [(3, 6, 6, (0, 299, [(10, 0)]))]), 100, .inl 8, true)] 210 p2_s1114 = true := by decide +kernel
theorem p2_s1114_s {X : Int → Int} {LX : Nat} : ck_Ok p2_O X LX 167 p2_s1114 := ck_ok_s ⟨p2_nmu, ck_E1 (ck_S1 p2_s299_s ck_S0) (ck_E1 (ck_S1 p2_s280_s ck_S0) (ck_E1 (ck_S1 p2_s1113_s ck_S0) (ck_E1 (ck_S1 p2_s374_s ck_S0) ck_E0)))⟩ ck_X0 ck_l0 p2_s1114_e
set_option maxRecDepth 100000 in
/-- GlacierMailModel.throwsFor -/
def p2_s1115 : ck_Sum := ((2, 0, 0), 245, [.inr (.inr (.inl 226)), .inl ((-2147483648), (-1), []), .inl ((-2147483648), 2147483647, []), .inl ((-2147483648), 2147483647, []), .inl ((-2147483648), 2147483647, [])], ([], [], []), ([(226, 0, 0)], []), [(.inr (some (.inl (ck_one 0))), 245, ([], [], [(226, 0, 0, ck_one 1)]))])
set_option maxRecDepth 100000 in
theorem p2_s1115_e : ck_ok p2_O none [] [(288, [p2_s311]), (282, [p2_s268])] 324 [] 94 p2_s1115 = true := by decide +kernel
theorem p2_s1115_s {X : Int → Int} {LX : Nat} : ck_Ok p2_O X LX 324 p2_s1115 := ck_ok_s ⟨p2_nmu, ck_E1 (ck_S1 p2_s311_s ck_S0) (ck_E1 (ck_S1 p2_s268_s ck_S0) ck_E0)⟩ ck_X0 ck_l0 p2_s1115_e
set_option maxRecDepth 100000 in
/-- GlacierMailModel.throwsFor -/
def p2_s1116 : ck_Sum := ((2, 0, 0), 245, [.inr (.inr (.inl 226)), .inl (6, 2147483647, []), .inl ((-2147483648), 2147483647, []), .inl ((-2147483648), 2147483647, []), .inl ((-2147483648), 2147483647, [])], ([], [], []), ([(226, 0, 0)], []), [(.inr (some (.inl (ck_one 0))), 245, ([], [], [(226, 0, 0, ck_one 1)]))])
set_option maxRecDepth 100000 in
theorem p2_s1116_e : ck_ok p2_O none [] [(288, [p2_s314]), (282, [p2_s268])] 324 [] 94 p2_s1116 = true := by decide +kernel
theorem p2_s1116_s {X : Int → Int} {LX : Nat} : ck_Ok p2_O X LX 324 p2_s1116 := ck_ok_s ⟨p2_nmu, ck_E1 (ck_S1 p2_s314_s ck_S0) (ck_E1 (ck_S1 p2_s268_s ck_S0) ck_E0)⟩ ck_X0 ck_l0 p2_s1116_e
set_option maxRecDepth 100000 in
/-- GlacierMailModel.throwsFor -/
def p2_s1117 : ck_Sum := ((2, 0, 0), 245, [.inr (.inr (.inl 226)), .inl (0, 5, []), .inl ((-2147483648), (-1), []), .inl ((-2147483648), 2147483647, []), .inl ((-2147483648), 2147483647, [])], ([], [], []), ([(226, 0, 0)], []), [(.inr (some (.inl (ck_one 0))), 245, ([], [], [(226, 0, 0, (1, 2, []))]))])
set_option maxRecDepth 100000 in
theorem p2_s1117_e : ck_ok p2_O none [] [(288, [p2_s317]), (282, [p2_s268, p2_s269, p2_s272]), (285, [p2_s284])] 324 [] 112 p2_s1117 = true := by decide +kernel
theorem p2_s1117_s {X : Int → Int} {LX : Nat} : ck_Ok p2_O X LX 324 p2_s1117 := ck_ok_s ⟨p2_nmu, ck_E1 (ck_S1 p2_s317_s ck_S0) (ck_E1 (ck_S1 p2_s268_s (ck_S1 p2_s269_s (ck_S1 p2_s272_s ck_S0))) (ck_E1 (ck_S1 p2_s284_s ck_S0) ck_E0))⟩ ck_X0 ck_l0 p2_s1117_e
set_option maxRecDepth 100000 in
/-- GlacierMailModel.throwsFor -/
def p2_s1118 : ck_Sum := ((2, 0, 0), 245, [.inr (.inr (.inl 226)), .inl (0, 5, []), .inl (300, 2147483647, []), .inl ((-2147483648), 2147483647, []), .inl ((-2147483648), 2147483647, [])], ([], [], []), ([(226, 0, 0)], []), [(.inr (some (.inl (ck_one 0))), 245, ([], [], [(226, 0, 0, (1, 2, []))]))])
set_option maxRecDepth 100000 in
theorem p2_s1118_e : ck_ok p2_O none [] [(288, [p2_s317]), (282, [p2_s268, p2_s269, p2_s272]), (285, [p2_s287])] 324 [] 112 p2_s1118 = true := by decide +kernel
theorem p2_s1118_s {X : Int → Int} {LX : Nat} : ck_Ok p2_O X LX 324 p2_s1118 := ck_ok_s ⟨p2_nmu, ck_E1 (ck_S1 p2_s317_s ck_S0) (ck_E1 (ck_S1 p2_s268_s (ck_S1 p2_s269_s (ck_S1 p2_s272_s ck_S0))) (ck_E1 (ck_S1 p2_s287_s ck_S0) ck_E0))⟩ ck_X0 ck_l0 p2_s1118_e
set_option maxRecDepth 100000 in
/-- GlacierMailModel.throwsFor -/
def p2_s1119 : ck_Sum := ((2, 0, 0), 245, [.inr (.inr (.inl 226)), .inl (0, 5, []), .inl (0, 299, []), .inl ((-2147483648), (-1), []), .inl ((-2147483648), 2147483647, [])], ([], [], []), ([(226, 0, 0)], []), [(.inr (some (.inl (ck_one 0))), 245, ([], [], [(226, 0, 0, (1, 2, []))]))])
set_option maxRecDepth 100000 in
theorem p2_s1119_e : ck_ok p2_O none [] [(288, [p2_s317]), (282, [p2_s268, p2_s269, p2_s272]), (285, [p2_s290, p2_s284])] 324 [] 118 p2_s1119 = true := by decide +kernel
theorem p2_s1119_s {X : Int → Int} {LX : Nat} : ck_Ok p2_O X LX 324 p2_s1119 := ck_ok_s ⟨p2_nmu, ck_E1 (ck_S1 p2_s317_s ck_S0) (ck_E1 (ck_S1 p2_s268_s (ck_S1 p2_s269_s (ck_S1 p2_s272_s ck_S0))) (ck_E1 (ck_S1 p2_s290_s (ck_S1 p2_s284_s ck_S0)) ck_E0))⟩ ck_X0 ck_l0 p2_s1119_e
set_option maxRecDepth 100000 in
/-- GlacierMailModel.throwsFor -/
def p2_s1120 : ck_Sum := ((2, 0, 0), 245, [.inr (.inr (.inl 226)), .inl (0, 5, []), .inl (0, 299, []), .inl (300, 2147483647, []), .inl ((-2147483648), 2147483647, [])], ([], [], []), ([(226, 0, 0)], []), [(.inr (some (.inl (ck_one 0))), 245, ([], [], [(226, 0, 0, (1, 2, []))]))])
set_option maxRecDepth 100000 in
theorem p2_s1120_e : ck_ok p2_O none [] [(288, [p2_s317]), (282, [p2_s268, p2_s269, p2_s272]), (285, [p2_s290, p2_s287])] 324 [] 118 p2_s1120 = true := by decide +kernel
theorem p2_s1120_s {X : Int → Int} {LX : Nat} : ck_Ok p2_O X LX 324 p2_s1120 := ck_ok_s ⟨p2_nmu, ck_E1 (ck_S1 p2_s317_s ck_S0) (ck_E1 (ck_S1 p2_s268_s (ck_S1 p2_s269_s (ck_S1 p2_s272_s ck_S0))) (ck_E1 (ck_S1 p2_s290_s (ck_S1 p2_s287_s ck_S0)) ck_E0))⟩ ck_X0 ck_l0 p2_s1120_e
set_option maxRecDepth 100000 in
/-- GlacierMailModel.in -/
def p2_s1121 : ck_Sum := ((0, 0, 0), 245, [.inl ((-2147483648), (-1), []), .inl (ck_one 0), .inl (ck_one 2)], ([], [], []), ([], []), [(.inr (some (.inl (ck_one 0))), 245, ([], [], []))])
set_option maxRecDepth 100000 in
theorem p2_s1121_e : ck_ok p2_O none [] [] 286 [] 80 p2_s1121 = true := by decide +kernel
theorem p2_s1121_s {X : Int → Int} {LX : Nat} : ck_Ok p2_O X LX 286 p2_s1121 := ck_ok_s ⟨p2_nmu, ck_E0⟩ ck_X0 ck_l0 p2_s1121_e
set_option maxRecDepth 100000 in
/-- GlacierMailModel.throwsFor -/
def p2_s1122 : ck_Sum := ((2, 0, 0), 245, [.inr (.inr (.inl 226)), .inl (0, 5, []), .inl (0, 299, []), .inl (0, 299, []), .inl ((-2147483648), (-1), [])], ([], [], [(227, 9, 9, (0, 299, [(11, 0)]))]), ([(226, 0, 0)], []), [(.inr (some (.inl (ck_one 0))), 245, ([], [], [(226, 0, 0, (1, 3, []))]))])
set_option maxRecDepth 100000 in
theorem p2_s1122_e : ck_ok p2_O none [] [(288, [p2_s317]), (282, [p2_s268, p2_s269, p2_s270, p2_s771, p2_s272]), (285, [p2_s290]), (266, [p2_s207]), (286, [p2_s1121])] 324 [] 146 p2_s1122 = true := by decide +kernel
theorem p2_s1122_s {X : Int → Int} {LX : Nat} : ck_Ok p2_O X LX 324 p2_s1122 := ck_ok_s ⟨p2_nmu, ck_E1 (ck_S1 p2_s317_s ck_S0) (ck_E1 (ck_S1 p2_s268_s (ck_S1 p2_s269_s (ck_S1 p2_s270_s (ck_S1 p2_s771_s (ck_S1 p2_s272_s ck_S0))))) (ck_E1 (ck_S1 p2_s290_s ck_S0) (ck_E1 (ck_S1 p2_s207_s ck_S0) (ck_E1 (ck_S1 p2_s1121_s ck_S0) ck_E0))))⟩ ck_X0 ck_l0 p2_s1122_e
set_option maxRecDepth 100000 in
/-- GlacierMailModel.in -/
def p2_s1123 : ck_Sum := ((0, 0, 0), 245, [.inl (10, 2147483647, []), .inl (ck_one 0), .inl (ck_one 2)], ([], [], []), ([], []), [(.inr (some (.inl (ck_one 0))), 245, ([], [], []))])
set_option maxRecDepth 100000 in
theorem p2_s1123_e : ck_ok p2_O none [] [] 286 [] 86 p2_s1123 = true := by decide +kernel
theorem p2_s1123_s {X : Int → Int} {LX : Nat} : ck_Ok p2_O X LX 286 p2_s1123 := ck_ok_s ⟨p2_nmu, ck_E0⟩ ck_X0 ck_l0 p2_s1123_e
set_option maxRecDepth 100000 in
/-- GlacierMailModel.throwsFor -/
def p2_s1124 : ck_Sum := ((2, 0, 0), 245, [.inr (.inr (.inl 226)), .inl (0, 5, []), .inl (0, 299, []), .inl (0, 299, []), .inl (10, 2147483647, [])], ([], [], [(227, 9, 9, (0, 299, [(11, 0)]))]), ([(226, 0, 0)], []), [(.inr (some (.inl (ck_one 0))), 245, ([], [], [(226, 0, 0, (1, 3, []))]))])
set_option maxRecDepth 100000 in
theorem p2_s1124_e : ck_ok p2_O none [] [(288, [p2_s317]), (282, [p2_s268, p2_s269, p2_s270, p2_s771, p2_s272]), (285, [p2_s290]), (266, [p2_s207]), (286, [p2_s1123])] 324 [] 146 p2_s1124 = true := by decide +kernel
theorem p2_s1124_s {X : Int → Int} {LX : Nat} : ck_Ok p2_O X LX 324 p2_s1124 := ck_ok_s ⟨p2_nmu, ck_E1 (ck_S1 p2_s317_s ck_S0) (ck_E1 (ck_S1 p2_s268_s (ck_S1 p2_s269_s (ck_S1 p2_s270_s (ck_S1 p2_s771_s (ck_S1 p2_s272_s ck_S0))))) (ck_E1 (ck_S1 p2_s290_s ck_S0) (ck_E1 (ck_S1 p2_s207_s ck_S0) (ck_E1 (ck_S1 p2_s1123_s ck_S0) ck_E0))))⟩ ck_X0 ck_l0 p2_s1124_e
set_option maxRecDepth 100000 in
/-- GlacierMailModel.in -/
def p2_s1125 : ck_Sum := ((0, 0, 0), 245, [.inl (0, 9, []), .inl (ck_one 0), .inl (ck_one 2)], ([], [], []), ([], []), [(.inr (some (.inl (ck_one 0))), 245, ([], [], [])), (.inr (some (.inl (ck_one 1))), 245, ([], [], []))])
set_option maxRecDepth 100000 in
theorem p2_s1125_e : ck_ok p2_O none [] [] 286 [] 88 p2_s1125 = true := by decide +kernel
theorem p2_s1125_s {X : Int → Int} {LX : Nat} : ck_Ok p2_O X LX 286 p2_s1125 := ck_ok_s ⟨p2_nmu, ck_E0⟩ ck_X0 ck_l0 p2_s1125_e
set_option maxRecDepth 100000 in
/-- GlacierMail.latest -/
def p2_s1129 : ck_Sum := ((8, 1, 6), 245, [.inr (.inr (.inl 1)), .inl ((-2147483648), (-1), []), .inl ((-2147483648), 2147483647, [])], ([], [], []), ([], []), [(.inl 3, 245, ([], [], []))])
set_option maxRecDepth 100000 in
theorem p2_s1129_e : ck_ok p2_O none [] [(139, [p2_s350])] 169 [] 76 p2_s1129 = true := by decide +kernel
theorem p2_s1129_s {X : Int → Int} {LX : Nat} : ck_Ok p2_O X LX 169 p2_s1129 := ck_ok_s ⟨p2_nmu, ck_E1 (ck_S1 p2_s350_s ck_S0) ck_E0⟩ ck_X0 ck_l0 p2_s1129_e
set_option maxRecDepth 100000 in
/-- GlacierMail.latest -/
def p2_s1130 : ck_Sum := ((8, 1, 6), 245, [.inr (.inr (.inl 1)), .inl (8, 2147483647, []), .inl ((-2147483648), 2147483647, [])], ([], [], []), ([], []), [(.inl 3, 245, ([], [], []))])
set_option maxRecDepth 100000 in
theorem p2_s1130_e : ck_ok p2_O none [] [(139, [p2_s353])] 169 [] 76 p2_s1130 = true := by decide +kernel
theorem p2_s1130_s {X : Int → Int} {LX : Nat} : ck_Ok p2_O X LX 169 p2_s1130 := ck_ok_s ⟨p2_nmu, ck_E1 (ck_S1 p2_s353_s ck_S0) ck_E0⟩ ck_X0 ck_l0 p2_s1130_e
set_option maxRecDepth 100000 in
/-- GlacierMail.latest -/
def p2_s1131 : ck_Sum := ((8, 2, 12), 245, [.inr (.inr (.inl 1)), .inl (0, 7, []), .inl ((-2147483648), (-1), [])], ([], [], []), ([], []), [(.inl 3, 245, ([], [], [])), (.inl 0, 245, ([], [], []))])
set_option maxRecDepth 100000 in
theorem p2_s1131_e : ck_ok p2_O none [] [(139, [p2_s356]), (129, [p2_s276])] 169 [] 82 p2_s1131 = true := by decide +kernel
theorem p2_s1131_s {X : Int → Int} {LX : Nat} : ck_Ok p2_O X LX 169 p2_s1131 := ck_ok_s ⟨p2_nmu, ck_E1 (ck_S1 p2_s356_s ck_S0) (ck_E1 (ck_S1 p2_s276_s ck_S0) ck_E0)⟩ ck_X0 ck_l0 p2_s1131_e
set_option maxRecDepth 100000 in
/-- GlacierMail.latest -/
def p2_s1132 : ck_Sum := ((8, 2, 12), 245, [.inr (.inr (.inl 1)), .inl (0, 7, []), .inl (300, 2147483647, [])], ([], [], []), ([], []), [(.inl 3, 245, ([], [], [])), (.inl 0, 245, ([], [], []))])
set_option maxRecDepth 100000 in
theorem p2_s1132_e : ck_ok p2_O none [] [(139, [p2_s356]), (129, [p2_s278])] 169 [] 82 p2_s1132 = true := by decide +kernel
theorem p2_s1132_s {X : Int → Int} {LX : Nat} : ck_Ok p2_O X LX 169 p2_s1132 := ck_ok_s ⟨p2_nmu, ck_E1 (ck_S1 p2_s356_s ck_S0) (ck_E1 (ck_S1 p2_s278_s ck_S0) ck_E0)⟩ ck_X0 ck_l0 p2_s1132_e
set_option maxRecDepth 100000 in
/-- GlacierMail$Way.startHut -/
def p2_s1133 : ck_Sum := ((1, 0, 0), 245, [.inr (.inr (.inl 206)), .inl (0, 7, []), .inl (0, 299, [])], ([], [], []), ([(206, 2, 8)], []), [(.inr none, 245, ([], [], [(206, 8, 8, ck_one 0), (206, 6, 6, ck_one 0), (206, 4, 4, ck_one (-1)), (206, 7, 7, (0, 299, []))]))])
set_option maxRecDepth 100000 in
theorem p2_s1133_e : ck_ok p2_O none [] [(10, [p2_s438]), (29, [p2_s1113])] 170 [] 104 p2_s1133 = true := by decide +kernel
theorem p2_s1133_s {X : Int → Int} {LX : Nat} : ck_Ok p2_O X LX 170 p2_s1133 := ck_ok_s ⟨p2_nmu, ck_E1 (ck_S1 p2_s438_s ck_S0) (ck_E1 (ck_S1 p2_s1113_s ck_S0) ck_E0)⟩ ck_X0 ck_l0 p2_s1133_e
set_option maxRecDepth 100000 in
/-- GlacierMail.latest -/
def p2_s1134 : ck_Sum := ((8, 1, 6), 245, [.inr (.inr (.inl 1)), .inl (0, 7, []), .inl (0, 299, [])], ([], [(3, 8, 0)], [(3, 6, 6, (0, 299, [(10, 0)]))]), ([(206, 2, 8)], []), [(.inl 3, 245, ([], [], [])), (.inr (some (.inl (ck_one (-1)))), 245, ([], [], [])), (.inr (some (.inl (0, 299, []))), 245, ([], [], [(206, 4, 4, ck_one (-1))]))])
set_option maxRecDepth 100000 in
theorem p2_s1134_e : ck_ok p2_O none [] [(139, [p2_s356]), (129, [p2_s280]), (170, [p2_s1133]), (30, [p2_s374])] 169 [(12, [some (.inr (.inr (.inl 1))), some (.inl (0, 7, [])), some (.inl (0, 299, [])), some (.inl ((-1), 299, []))], ([], [(3, 8, 0)], [(3, 6, 6, (0, 299, [(10, 0)]))]), 100, .inl 3, false)] 166 p2_s1134 = true := by decide +kernel
theorem p2_s1134_s {X : Int → Int} {LX : Nat} : ck_Ok p2_O X LX 169 p2_s1134 := ck_ok_s ⟨p2_nmu, ck_E1 (ck_S1 p2_s356_s ck_S0) (ck_E1 (ck_S1 p2_s280_s ck_S0) (ck_E1 (ck_S1 p2_s1133_s ck_S0) (ck_E1 (ck_S1 p2_s374_s ck_S0) ck_E0)))⟩ ck_X0 ck_l0 p2_s1134_e
set_option maxRecDepth 100000 in
/-- GlacierMailModel.latest -/
def p2_s1135 : ck_Sum := ((2, 0, 0), 245, [.inr (.inr (.inl 226)), .inl ((-2147483648), (-1), []), .inl ((-2147483648), 2147483647, [])], ([], [], [(227, 3, 3, (0, 8, [(21, 0)]))]), ([(226, 0, 0)], []), [(.inr (some (.inl (ck_one 0))), 245, ([], [], [(226, 0, 0, ck_one 1)]))])
set_option maxRecDepth 100000 in
theorem p2_s1135_e : ck_ok p2_O none [] [(298, [p2_s441]), (282, [p2_s268])] 326 [] 94 p2_s1135 = true := by decide +kernel
theorem p2_s1135_s {X : Int → Int} {LX : Nat} : ck_Ok p2_O X LX 326 p2_s1135 := ck_ok_s ⟨p2_nmu, ck_E1 (ck_S1 p2_s441_s ck_S0) (ck_E1 (ck_S1 p2_s268_s ck_S0) ck_E0)⟩ ck_X0 ck_l0 p2_s1135_e
set_option maxRecDepth 100000 in
/-- GlacierMailModel.latest -/
def p2_s1136 : ck_Sum := ((2, 0, 0), 245, [.inr (.inr (.inl 226)), .inl (8, 2147483647, []), .inl ((-2147483648), 2147483647, [])], ([], [], [(227, 3, 3, (0, 8, [(21, 0)]))]), ([(226, 0, 0)], []), [(.inr (some (.inl (ck_one 0))), 245, ([], [], [(226, 0, 0, ck_one 1)]))])
set_option maxRecDepth 100000 in
theorem p2_s1136_e : ck_ok p2_O none [] [(298, [p2_s444]), (282, [p2_s268])] 326 [] 94 p2_s1136 = true := by decide +kernel
theorem p2_s1136_s {X : Int → Int} {LX : Nat} : ck_Ok p2_O X LX 326 p2_s1136 := ck_ok_s ⟨p2_nmu, ck_E1 (ck_S1 p2_s444_s ck_S0) (ck_E1 (ck_S1 p2_s268_s ck_S0) ck_E0)⟩ ck_X0 ck_l0 p2_s1136_e
set_option maxRecDepth 100000 in
/-- GlacierMailModel.latest -/
def p2_s1137 : ck_Sum := ((2, 0, 0), 245, [.inr (.inr (.inl 226)), .inl (0, 7, []), .inl ((-2147483648), (-1), [])], ([], [], [(227, 3, 3, (0, 8, [(21, 0)]))]), ([(226, 0, 0)], []), [(.inr (some (.inl (ck_one 0))), 245, ([], [], [(226, 0, 0, (1, 2, []))]))])
set_option maxRecDepth 100000 in
theorem p2_s1137_e : ck_ok p2_O none [] [(298, [p2_s447]), (282, [p2_s268, p2_s269, p2_s272]), (285, [p2_s284])] 326 [] 106 p2_s1137 = true := by decide +kernel
theorem p2_s1137_s {X : Int → Int} {LX : Nat} : ck_Ok p2_O X LX 326 p2_s1137 := ck_ok_s ⟨p2_nmu, ck_E1 (ck_S1 p2_s447_s ck_S0) (ck_E1 (ck_S1 p2_s268_s (ck_S1 p2_s269_s (ck_S1 p2_s272_s ck_S0))) (ck_E1 (ck_S1 p2_s284_s ck_S0) ck_E0))⟩ ck_X0 ck_l0 p2_s1137_e
set_option maxRecDepth 100000 in
/-- GlacierMailModel.latest -/
def p2_s1138 : ck_Sum := ((2, 0, 0), 245, [.inr (.inr (.inl 226)), .inl (0, 7, []), .inl (300, 2147483647, [])], ([], [], [(227, 3, 3, (0, 8, [(21, 0)]))]), ([(226, 0, 0)], []), [(.inr (some (.inl (ck_one 0))), 245, ([], [], [(226, 0, 0, (1, 2, []))]))])
set_option maxRecDepth 100000 in
theorem p2_s1138_e : ck_ok p2_O none [] [(298, [p2_s447]), (282, [p2_s268, p2_s269, p2_s272]), (285, [p2_s287])] 326 [] 106 p2_s1138 = true := by decide +kernel
theorem p2_s1138_s {X : Int → Int} {LX : Nat} : ck_Ok p2_O X LX 326 p2_s1138 := ck_ok_s ⟨p2_nmu, ck_E1 (ck_S1 p2_s447_s ck_S0) (ck_E1 (ck_S1 p2_s268_s (ck_S1 p2_s269_s (ck_S1 p2_s272_s ck_S0))) (ck_E1 (ck_S1 p2_s287_s ck_S0) ck_E0))⟩ ck_X0 ck_l0 p2_s1138_e
set_option maxRecDepth 100000 in
/-- GlacierMail.hut -/
def p2_s2948 : ck_Sum := ((8, 1, 6), 245, [.inr (.inr (.inl 1)), .inl ((-2147483648), (-1), []), .inl ((-2147483648), 2147483647, [])], ([], [], []), ([], []), [(.inl 3, 245, ([], [], []))])
set_option maxRecDepth 100000 in
theorem p2_s2948_e : ck_ok p2_O none [] [(132, [p2_s293])] 172 [] 76 p2_s2948 = true := by decide +kernel
theorem p2_s2948_s {X : Int → Int} {LX : Nat} : ck_Ok p2_O X LX 172 p2_s2948 := ck_ok_s ⟨p2_nmu, ck_E1 (ck_S1 p2_s293_s ck_S0) ck_E0⟩ ck_X0 ck_l0 p2_s2948_e
set_option maxRecDepth 100000 in
/-- GlacierMail.hut -/
def p2_s2949 : ck_Sum := ((8, 1, 6), 245, [.inr (.inr (.inl 1)), .inl (6, 2147483647, []), .inl ((-2147483648), 2147483647, [])], ([], [], []), ([], []), [(.inl 3, 245, ([], [], []))])
set_option maxRecDepth 100000 in
theorem p2_s2949_e : ck_ok p2_O none [] [(132, [p2_s296])] 172 [] 76 p2_s2949 = true := by decide +kernel
theorem p2_s2949_s {X : Int → Int} {LX : Nat} : ck_Ok p2_O X LX 172 p2_s2949 := ck_ok_s ⟨p2_nmu, ck_E1 (ck_S1 p2_s296_s ck_S0) ck_E0⟩ ck_X0 ck_l0 p2_s2949_e
set_option maxRecDepth 100000 in
/-- GlacierMail.hut -/
def p2_s2950 : ck_Sum := ((8, 2, 12), 245, [.inr (.inr (.inl 1)), .inl (0, 5, []), .inl ((-2147483648), (-1), [])], ([], [], []), ([], []), [(.inl 3, 245, ([], [], [])), (.inl 0, 245, ([], [], []))])
set_option maxRecDepth 100000 in
theorem p2_s2950_e : ck_ok p2_O none [] [(132, [p2_s299])] 172 [] 84 p2_s2950 = true := by decide +kernel
theorem p2_s2950_s {X : Int → Int} {LX : Nat} : ck_Ok p2_O X LX 172 p2_s2950 := ck_ok_s ⟨p2_nmu, ck_E1 (ck_S1 p2_s299_s ck_S0) ck_E0⟩ ck_X0 ck_l0 p2_s2950_e
set_option maxRecDepth 100000 in
/-- GlacierMail.hut -/
def p2_s2951 : ck_Sum := ((8, 2, 12), 245, [.inr (.inr (.inl 1)), .inl (0, 5, []), .inl (300, 2147483647, [])], ([], [], []), ([], []), [(.inl 3, 245, ([], [], [])), (.inl 0, 245, ([], [], []))])
set_option maxRecDepth 100000 in
theorem p2_s2951_e : ck_ok p2_O none [] [(132, [p2_s299])] 172 [] 90 p2_s2951 = true := by decide +kernel
theorem p2_s2951_s {X : Int → Int} {LX : Nat} : ck_Ok p2_O X LX 172 p2_s2951 := ck_ok_s ⟨p2_nmu, ck_E1 (ck_S1 p2_s299_s ck_S0) ck_E0⟩ ck_X0 ck_l0 p2_s2951_e
set_option maxRecDepth 100000 in
/-- GlacierMail.hut -/
def p2_s2952 : ck_Sum := ((8, 2, 12), 245, [.inr (.inr (.inl 1)), .inl (0, 5, []), .inl (0, 299, [])], ([], [(3, 8, 0)], [(3, 6, 6, (0, 299, [(10, 0)]))]), ([(206, 2, 8)], []), [(.inl 3, 245, ([], [], [])), (.inl 0, 245, ([], [], [])), (.inr (some (.inl (ck_one (-1)))), 245, ([], [], [])), (.inr (some (.inl (0, 98, []))), 245, ([], [], [(206, 4, 4, ck_one (-1))]))])
set_option maxRecDepth 100000 in
theorem p2_s2952_e : ck_ok p2_O none [] [(132, [p2_s299]), (29, [p2_s1113]), (30, [p2_s374])] 172 [(47, [some (.inr (.inr (.inl 1))), some (.inl (0, 5, [])), some (.inl (1, 299, [])), some (.inl (1, 299, [])), some (.inl (0, 167, []))], ([], [(3, 8, 0)], [(3, 6, 6, (0, 299, [(10, 0)]))]), 100, .inl 4, true)] 182 p2_s2952 = true := by decide +kernel
theorem p2_s2952_s {X : Int → Int} {LX : Nat} : ck_Ok p2_O X LX 172 p2_s2952 := ck_ok_s ⟨p2_nmu, ck_E1 (ck_S1 p2_s299_s ck_S0) (ck_E1 (ck_S1 p2_s1113_s ck_S0) (ck_E1 (ck_S1 p2_s374_s ck_S0) ck_E0))⟩ ck_X0 ck_l0 p2_s2952_e
set_option maxRecDepth 100000 in
/-- GlacierMailModel.hut -/
def p2_s2953 : ck_Sum := ((2, 0, 0), 245, [.inr (.inr (.inl 226)), .inl ((-2147483648), (-1), []), .inl ((-2147483648), 2147483647, [])], ([], [], []), ([(226, 0, 0)], []), [(.inr (some (.inl (ck_one 0))), 245, ([], [], [(226, 0, 0, ck_one 1)]))])
set_option maxRecDepth 100000 in
theorem p2_s2953_e : ck_ok p2_O none [] [(288, [p2_s311]), (282, [p2_s268])] 327 [] 94 p2_s2953 = true := by decide +kernel
theorem p2_s2953_s {X : Int → Int} {LX : Nat} : ck_Ok p2_O X LX 327 p2_s2953 := ck_ok_s ⟨p2_nmu, ck_E1 (ck_S1 p2_s311_s ck_S0) (ck_E1 (ck_S1 p2_s268_s ck_S0) ck_E0)⟩ ck_X0 ck_l0 p2_s2953_e
set_option maxRecDepth 100000 in
/-- GlacierMailModel.hut -/
def p2_s2954 : ck_Sum := ((2, 0, 0), 245, [.inr (.inr (.inl 226)), .inl (6, 2147483647, []), .inl ((-2147483648), 2147483647, [])], ([], [], []), ([(226, 0, 0)], []), [(.inr (some (.inl (ck_one 0))), 245, ([], [], [(226, 0, 0, ck_one 1)]))])
set_option maxRecDepth 100000 in
theorem p2_s2954_e : ck_ok p2_O none [] [(288, [p2_s314]), (282, [p2_s268])] 327 [] 94 p2_s2954 = true := by decide +kernel
theorem p2_s2954_s {X : Int → Int} {LX : Nat} : ck_Ok p2_O X LX 327 p2_s2954 := ck_ok_s ⟨p2_nmu, ck_E1 (ck_S1 p2_s314_s ck_S0) (ck_E1 (ck_S1 p2_s268_s ck_S0) ck_E0)⟩ ck_X0 ck_l0 p2_s2954_e
set_option maxRecDepth 100000 in
/-- GlacierMailModel.in -/
def p2_s2955 : ck_Sum := ((0, 0, 0), 245, [.inl ((-2147483648), (-1), []), .inl (ck_one 1), .inl (ck_one 299)], ([], [], []), ([], []), [(.inr (some (.inl (ck_one 0))), 245, ([], [], []))])
set_option maxRecDepth 100000 in
theorem p2_s2955_e : ck_ok p2_O none [] [] 286 [] 80 p2_s2955 = true := by decide +kernel
theorem p2_s2955_s {X : Int → Int} {LX : Nat} : ck_Ok p2_O X LX 286 p2_s2955 := ck_ok_s ⟨p2_nmu, ck_E0⟩ ck_X0 ck_l0 p2_s2955_e
set_option maxRecDepth 100000 in
/-- GlacierMailModel.hut -/
def p2_s2956 : ck_Sum := ((2, 0, 0), 245, [.inr (.inr (.inl 226)), .inl (0, 5, []), .inl ((-2147483648), (-1), [])], ([], [], []), ([(226, 0, 0)], []), [(.inr (some (.inl (ck_one 0))), 245, ([], [], [(226, 0, 0, (1, 2, []))]))])
set_option maxRecDepth 100000 in
theorem p2_s2956_e : ck_ok p2_O none [] [(288, [p2_s317]), (282, [p2_s268, p2_s269, p2_s272]), (286, [p2_s2955])] 327 [] 116 p2_s2956 = true := by decide +kernel
theorem p2_s2956_s {X : Int → Int} {LX : Nat} : ck_Ok p2_O X LX 327 p2_s2956 := ck_ok_s ⟨p2_nmu, ck_E1 (ck_S1 p2_s317_s ck_S0) (ck_E1 (ck_S1 p2_s268_s (ck_S1 p2_s269_s (ck_S1 p2_s272_s ck_S0))) (ck_E1 (ck_S1 p2_s2955_s ck_S0) ck_E0))⟩ ck_X0 ck_l0 p2_s2956_e
set_option maxRecDepth 100000 in
/-- GlacierMailModel.in -/
def p2_s2957 : ck_Sum := ((0, 0, 0), 245, [.inl (300, 2147483647, []), .inl (ck_one 1), .inl (ck_one 299)], ([], [], []), ([], []), [(.inr (some (.inl (ck_one 0))), 245, ([], [], []))])
set_option maxRecDepth 100000 in
theorem p2_s2957_e : ck_ok p2_O none [] [] 286 [] 86 p2_s2957 = true := by decide +kernel
theorem p2_s2957_s {X : Int → Int} {LX : Nat} : ck_Ok p2_O X LX 286 p2_s2957 := ck_ok_s ⟨p2_nmu, ck_E0⟩ ck_X0 ck_l0 p2_s2957_e
set_option maxRecDepth 100000 in
/-- GlacierMailModel.hut -/
def p2_s2958 : ck_Sum := ((2, 0, 0), 245, [.inr (.inr (.inl 226)), .inl (0, 5, []), .inl (300, 2147483647, [])], ([], [], []), ([(226, 0, 0)], []), [(.inr (some (.inl (ck_one 0))), 245, ([], [], [(226, 0, 0, (1, 2, []))]))])
set_option maxRecDepth 100000 in
theorem p2_s2958_e : ck_ok p2_O none [] [(288, [p2_s317]), (282, [p2_s268, p2_s269, p2_s272]), (286, [p2_s2957])] 327 [] 116 p2_s2958 = true := by decide +kernel
theorem p2_s2958_s {X : Int → Int} {LX : Nat} : ck_Ok p2_O X LX 327 p2_s2958 := ck_ok_s ⟨p2_nmu, ck_E1 (ck_S1 p2_s317_s ck_S0) (ck_E1 (ck_S1 p2_s268_s (ck_S1 p2_s269_s (ck_S1 p2_s272_s ck_S0))) (ck_E1 (ck_S1 p2_s2957_s ck_S0) ck_E0))⟩ ck_X0 ck_l0 p2_s2958_e
set_option maxRecDepth 100000 in
/-- GlacierMailModel.in -/
def p2_s2959 : ck_Sum := ((0, 0, 0), 245, [.inl (0, 299, []), .inl (ck_one 1), .inl (ck_one 299)], ([], [], []), ([], []), [(.inr (some (.inl (ck_one 0))), 245, ([], [], [])), (.inr (some (.inl (ck_one 1))), 245, ([], [], []))])
set_option maxRecDepth 100000 in
theorem p2_s2959_e : ck_ok p2_O none [] [] 286 [] 88 p2_s2959 = true := by decide +kernel
theorem p2_s2959_s {X : Int → Int} {LX : Nat} : ck_Ok p2_O X LX 286 p2_s2959 := ck_ok_s ⟨p2_nmu, ck_E0⟩ ck_X0 ck_l0 p2_s2959_e
set_option maxRecDepth 100000 in
/-- GlacierMail.without -/
def p2_s2961 : ck_Sum := ((8, 1, 6), 245, [.inr (.inr (.inl 1)), .inl ((-2147483648), (-1), []), .inl ((-2147483648), 2147483647, [])], ([], [], []), ([], []), [(.inl 3, 245, ([], [], []))])
set_option maxRecDepth 100000 in
theorem p2_s2961_e : ck_ok p2_O none [] [(143, [p2_s599])] 174 [] 76 p2_s2961 = true := by decide +kernel
theorem p2_s2961_s {X : Int → Int} {LX : Nat} : ck_Ok p2_O X LX 174 p2_s2961 := ck_ok_s ⟨p2_nmu, ck_E1 (ck_S1 p2_s599_s ck_S0) ck_E0⟩ ck_X0 ck_l0 p2_s2961_e
set_option maxRecDepth 100000 in
/-- GlacierMail.without -/
def p2_s2962 : ck_Sum := ((8, 1, 6), 245, [.inr (.inr (.inl 1)), .inl (24, 2147483647, []), .inl ((-2147483648), 2147483647, [])], ([], [], []), ([], []), [(.inl 3, 245, ([], [], []))])
set_option maxRecDepth 100000 in
theorem p2_s2962_e : ck_ok p2_O none [] [(143, [p2_s602])] 174 [] 76 p2_s2962 = true := by decide +kernel
theorem p2_s2962_s {X : Int → Int} {LX : Nat} : ck_Ok p2_O X LX 174 p2_s2962 := ck_ok_s ⟨p2_nmu, ck_E1 (ck_S1 p2_s602_s ck_S0) ck_E0⟩ ck_X0 ck_l0 p2_s2962_e
set_option maxRecDepth 100000 in
/-- GlacierMail.without -/
def p2_s2963 : ck_Sum := ((8, 2, 12), 245, [.inr (.inr (.inl 1)), .inl (0, 23, []), .inl ((-2147483648), (-1), [])], ([], [], []), ([], []), [(.inl 3, 245, ([], [], []))])
set_option maxRecDepth 100000 in
theorem p2_s2963_e : ck_ok p2_O none [] [(143, [p2_s605]), (9, [p2_s159]), (133, [p2_s349])] 174 [] 90 p2_s2963 = true := by decide +kernel
theorem p2_s2963_s {X : Int → Int} {LX : Nat} : ck_Ok p2_O X LX 174 p2_s2963 := ck_ok_s ⟨p2_nmu, ck_E1 (ck_S1 p2_s605_s ck_S0) (ck_E1 (ck_S1 p2_s159_s ck_S0) (ck_E1 (ck_S1 p2_s349_s ck_S0) ck_E0))⟩ ck_X0 ck_l0 p2_s2963_e
set_option maxRecDepth 100000 in
/-- GlacierMail.without -/
def p2_s2964 : ck_Sum := ((8, 2, 12), 245, [.inr (.inr (.inl 1)), .inl (0, 23, []), .inl (8, 2147483647, [])], ([], [], []), ([], []), [(.inl 3, 245, ([], [], []))])
set_option maxRecDepth 100000 in
theorem p2_s2964_e : ck_ok p2_O none [] [(143, [p2_s605]), (9, [p2_s159]), (133, [p2_s352])] 174 [] 90 p2_s2964 = true := by decide +kernel
theorem p2_s2964_s {X : Int → Int} {LX : Nat} : ck_Ok p2_O X LX 174 p2_s2964 := ck_ok_s ⟨p2_nmu, ck_E1 (ck_S1 p2_s605_s ck_S0) (ck_E1 (ck_S1 p2_s159_s ck_S0) (ck_E1 (ck_S1 p2_s352_s ck_S0) ck_E0))⟩ ck_X0 ck_l0 p2_s2964_e
set_option maxRecDepth 100000 in
/-- GlacierMail$Way.leaveOut -/
def p2_s2965 : ck_Sum := ((0, 0, 0), 245, [.inr (.inr (.inl 206)), .inl (0, 7, [])], ([], [], []), ([(206, 4, 4)], []), [(.inr none, 245, ([], [], [(206, 4, 4, (0, 7, []))]))])
set_option maxRecDepth 100000 in
theorem p2_s2965_e : ck_ok p2_O none [] [] 175 [] 78 p2_s2965 = true := by decide +kernel
theorem p2_s2965_s {X : Int → Int} {LX : Nat} : ck_Ok p2_O X LX 175 p2_s2965 := ck_ok_s ⟨p2_nmu, ck_E0⟩ ck_X0 ck_l0 p2_s2965_e
set_option maxRecDepth 100000 in
/-- GlacierMail.without -/
def p2_s2966 : ck_Sum := ((8, 2, 12), 245, [.inr (.inr (.inl 1)), .inl (0, 23, []), .inl (0, 7, [])], ([], [(3, 8, 0)], []), ([(206, 2, 8)], []), [(.inl 3, 245, ([], [], [])), (.inr (some (.inl ((-2147483648), 299, []))), 245, ([], [], [(206, 4, 4, (0, 7, [])), (206, 2, 2, ((-1), 299, []))]))])
set_option maxRecDepth 100000 in
theorem p2_s2966_e : ck_ok p2_O none [] [(143, [p2_s605]), (9, [p2_s159]), (133, [p2_s355]), (27, [p2_s367]), (175, [p2_s2965]), (30, [p2_s374])] 174 [] 116 p2_s2966 = true := by decide +kernel
theorem p2_s2966_s {X : Int → Int} {LX : Nat} : ck_Ok p2_O X LX 174 p2_s2966 := ck_ok_s ⟨p2_nmu, ck_E1 (ck_S1 p2_s605_s ck_S0) (ck_E1 (ck_S1 p2_s159_s ck_S0) (ck_E1 (ck_S1 p2_s355_s ck_S0) (ck_E1 (ck_S1 p2_s367_s ck_S0) (ck_E1 (ck_S1 p2_s2965_s ck_S0) (ck_E1 (ck_S1 p2_s374_s ck_S0) ck_E0)))))⟩ ck_X0 ck_l0 p2_s2966_e
set_option maxRecDepth 100000 in
/-- GlacierMailModel.without -/
def p2_s2967 : ck_Sum := ((2, 0, 0), 245, [.inr (.inr (.inl 226)), .inl ((-2147483648), (-1), []), .inl ((-2147483648), 2147483647, [])], ([], [], [(227, 4, 4, (0, 24, [(22, 0)]))]), ([(226, 0, 0)], []), [(.inr (some (.inl (ck_one 0))), 245, ([], [], [(226, 0, 0, ck_one 1)]))])
set_option maxRecDepth 100000 in
theorem p2_s2967_e : ck_ok p2_O none [] [(309, [p2_s612]), (282, [p2_s268])] 328 [] 100 p2_s2967 = true := by decide +kernel
theorem p2_s2967_s {X : Int → Int} {LX : Nat} : ck_Ok p2_O X LX 328 p2_s2967 := ck_ok_s ⟨p2_nmu, ck_E1 (ck_S1 p2_s612_s ck_S0) (ck_E1 (ck_S1 p2_s268_s ck_S0) ck_E0)⟩ ck_X0 ck_l0 p2_s2967_e
set_option maxRecDepth 100000 in
/-- GlacierMailModel.without -/
def p2_s2968 : ck_Sum := ((2, 0, 0), 245, [.inr (.inr (.inl 226)), .inl (24, 2147483647, []), .inl ((-2147483648), 2147483647, [])], ([], [], [(227, 4, 4, (0, 24, [(22, 0)]))]), ([(226, 0, 0)], []), [(.inr (some (.inl (ck_one 0))), 245, ([], [], [(226, 0, 0, ck_one 1)]))])
set_option maxRecDepth 100000 in
theorem p2_s2968_e : ck_ok p2_O none [] [(309, [p2_s615]), (282, [p2_s268])] 328 [] 100 p2_s2968 = true := by decide +kernel
theorem p2_s2968_s {X : Int → Int} {LX : Nat} : ck_Ok p2_O X LX 328 p2_s2968 := ck_ok_s ⟨p2_nmu, ck_E1 (ck_S1 p2_s615_s ck_S0) (ck_E1 (ck_S1 p2_s268_s ck_S0) ck_E0)⟩ ck_X0 ck_l0 p2_s2968_e
set_option maxRecDepth 100000 in
/-- GlacierMailModel.without -/
def p2_s2969 : ck_Sum := ((2, 0, 0), 245, [.inr (.inr (.inl 226)), .inl (0, 23, []), .inl ((-2147483648), (-1), [])], ([], [], [(227, 4, 4, (0, 24, [(22, 0)])), (227, 5, 5, (0, 8, [(23, 0)]))]), ([(226, 0, 0)], []), [(.inr (some (.inl (ck_one 0))), 245, ([], [], [(226, 0, 0, ck_one 1)]))])
set_option maxRecDepth 100000 in
theorem p2_s2969_e : ck_ok p2_O none [] [(309, [p2_s618]), (282, [p2_s268]), (286, [p2_s440])] 328 [] 120 p2_s2969 = true := by decide +kernel
theorem p2_s2969_s {X : Int → Int} {LX : Nat} : ck_Ok p2_O X LX 328 p2_s2969 := ck_ok_s ⟨p2_nmu, ck_E1 (ck_S1 p2_s618_s ck_S0) (ck_E1 (ck_S1 p2_s268_s ck_S0) (ck_E1 (ck_S1 p2_s440_s ck_S0) ck_E0))⟩ ck_X0 ck_l0 p2_s2969_e
set_option maxRecDepth 100000 in
/-- GlacierMailModel.without -/
def p2_s2970 : ck_Sum := ((2, 0, 0), 245, [.inr (.inr (.inl 226)), .inl (0, 23, []), .inl (8, 2147483647, [])], ([], [], [(227, 4, 4, (0, 24, [(22, 0)])), (227, 5, 5, (0, 8, [(23, 0)]))]), ([(226, 0, 0)], []), [(.inr (some (.inl (ck_one 0))), 245, ([], [], [(226, 0, 0, ck_one 1)]))])
set_option maxRecDepth 100000 in
theorem p2_s2970_e : ck_ok p2_O none [] [(309, [p2_s618]), (282, [p2_s268]), (286, [p2_s443])] 328 [] 120 p2_s2970 = true := by decide +kernel
theorem p2_s2970_s {X : Int → Int} {LX : Nat} : ck_Ok p2_O X LX 328 p2_s2970 := ck_ok_s ⟨p2_nmu, ck_E1 (ck_S1 p2_s618_s ck_S0) (ck_E1 (ck_S1 p2_s268_s ck_S0) (ck_E1 (ck_S1 p2_s443_s ck_S0) ck_E0))⟩ ck_X0 ck_l0 p2_s2970_e
set_option maxRecDepth 100000 in
/-- GlacierMail.moved -/
def p2_s2972 : ck_Sum := ((8, 1, 6), 245, [.inr (.inr (.inl 1)), .inl ((-2147483648), (-1), [])], ([], [], []), ([], []), [(.inl 3, 245, ([], [], []))])
set_option maxRecDepth 100000 in
theorem p2_s2972_e : ck_ok p2_O none [] [(143, [p2_s599])] 177 [] 76 p2_s2972 = true := by decide +kernel
theorem p2_s2972_s {X : Int → Int} {LX : Nat} : ck_Ok p2_O X LX 177 p2_s2972 := ck_ok_s ⟨p2_nmu, ck_E1 (ck_S1 p2_s599_s ck_S0) ck_E0⟩ ck_X0 ck_l0 p2_s2972_e
set_option maxRecDepth 100000 in
/-- GlacierMail.moved -/
def p2_s2973 : ck_Sum := ((8, 1, 6), 245, [.inr (.inr (.inl 1)), .inl (24, 2147483647, [])], ([], [], []), ([], []), [(.inl 3, 245, ([], [], []))])
set_option maxRecDepth 100000 in
theorem p2_s2973_e : ck_ok p2_O none [] [(143, [p2_s602])] 177 [] 76 p2_s2973 = true := by decide +kernel
theorem p2_s2973_s {X : Int → Int} {LX : Nat} : ck_Ok p2_O X LX 177 p2_s2973 := ck_ok_s ⟨p2_nmu, ck_E1 (ck_S1 p2_s602_s ck_S0) ck_E0⟩ ck_X0 ck_l0 p2_s2973_e
set_option maxRecDepth 100000 in
/-- GlacierMail.moved -/
def p2_s2974 : ck_Sum := ((8, 1, 6), 245, [.inr (.inr (.inl 1)), .inl (0, 23, [])], ([], [(3, 8, 0)], []), ([(206, 2, 8)], []), [(.inl 3, 245, ([], [], [])), (.inr (some (.inl ((-2147483648), (-1), []))), 245, ([], [], [(206, 8, 8, ((-2147483648), (-1), [])), (206, 4, 4, ck_one (-1)), (206, 2, 2, ((-1), 299, []))])), (.inr (some (.inl (0, 2147483647, []))), 245, ([], [], [(206, 8, 8, (0, 2147483647, [])), (206, 4, 4, ck_one (-1)), (206, 2, 2, ((-1), 299, []))]))])
set_option maxRecDepth 100000 in
theorem p2_s2974_e : ck_ok p2_O none [] [(143, [p2_s605]), (27, [p2_s367]), (30, [p2_s374])] 177 [] 102 p2_s2974 = true := by decide +kernel
theorem p2_s2974_s {X : Int → Int} {LX : Nat} : ck_Ok p2_O X LX 177 p2_s2974 := ck_ok_s ⟨p2_nmu, ck_E1 (ck_S1 p2_s605_s ck_S0) (ck_E1 (ck_S1 p2_s367_s ck_S0) (ck_E1 (ck_S1 p2_s374_s ck_S0) ck_E0))⟩ ck_X0 ck_l0 p2_s2974_e
set_option maxRecDepth 100000 in
/-- GlacierMailModel.moved -/
def p2_s2975 : ck_Sum := ((2, 0, 0), 245, [.inr (.inr (.inl 226)), .inl ((-2147483648), (-1), [])], ([], [], [(227, 4, 4, (0, 24, [(22, 0)]))]), ([(226, 0, 0)], []), [(.inr (some (.inl (ck_one 0))), 245, ([], [], [(226, 0, 0, ck_one 1)]))])
set_option maxRecDepth 100000 in
theorem p2_s2975_e : ck_ok p2_O none [] [(309, [p2_s612]), (282, [p2_s268])] 329 [] 94 p2_s2975 = true := by decide +kernel
theorem p2_s2975_s {X : Int → Int} {LX : Nat} : ck_Ok p2_O X LX 329 p2_s2975 := ck_ok_s ⟨p2_nmu, ck_E1 (ck_S1 p2_s612_s ck_S0) (ck_E1 (ck_S1 p2_s268_s ck_S0) ck_E0)⟩ ck_X0 ck_l0 p2_s2975_e
set_option maxRecDepth 100000 in
/-- GlacierMailModel.moved -/
def p2_s2976 : ck_Sum := ((2, 0, 0), 245, [.inr (.inr (.inl 226)), .inl (24, 2147483647, [])], ([], [], [(227, 4, 4, (0, 24, [(22, 0)]))]), ([(226, 0, 0)], []), [(.inr (some (.inl (ck_one 0))), 245, ([], [], [(226, 0, 0, ck_one 1)]))])
set_option maxRecDepth 100000 in
theorem p2_s2976_e : ck_ok p2_O none [] [(309, [p2_s615]), (282, [p2_s268])] 329 [] 94 p2_s2976 = true := by decide +kernel
theorem p2_s2976_s {X : Int → Int} {LX : Nat} : ck_Ok p2_O X LX 329 p2_s2976 := ck_ok_s ⟨p2_nmu, ck_E1 (ck_S1 p2_s615_s ck_S0) (ck_E1 (ck_S1 p2_s268_s ck_S0) ck_E0)⟩ ck_X0 ck_l0 p2_s2976_e
set_option maxRecDepth 100000 in
/-- GlacierMail.lost -/
def p2_s2978 : ck_Sum := ((5, 0, 0), 245, [.inr (.inr (.inl 1))], ([], [(3, 8, 0)], []), ([(1, 15, 15), (206, 2, 8), (220, 3, 3), (221, 0, 47)], []), [(.inr (some (.inl ((-2147483648), 2147483647, []))), 245, ([], [], [(1, 15, 15, ck_one 1)]))])
set_option maxRecDepth 100000 in
theorem p2_s2978_e : ck_ok p2_O none [] [(24, [p2_s405]), (9, [p2_s362]), (10, [p2_s407])] 23 [(8, [some (.inr (.inr (.inl 1))), some (.inl ((-2147483648), 2147483647, [])), some (.inl (0, 24, []))], ([], [(3, 8, 0)], [(1, 15, 15, ck_one 1)]), 100, .inl 2, true)] 174 p2_s2978 = true := by decide +kernel
theorem p2_s2978_s {X : Int → Int} {LX : Nat} : ck_Ok p2_O X LX 23 p2_s2978 := ck_ok_s ⟨p2_nmu, ck_E1 (ck_S1 p2_s405_s ck_S0) (ck_E1 (ck_S1 p2_s362_s ck_S0) (ck_E1 (ck_S1 p2_s407_s ck_S0) ck_E0))⟩ ck_X0 ck_l0 p2_s2978_e
set_option maxRecDepth 100000 in
/-- GlacierMail.outIn -/
def p2_s2980 : ck_Sum := ((2, 0, 0), 245, [.inr (.inr (.inl 1)), .inl ((-2147483648), 299, []), .inl (ck_one 0)], ([], [], []), ([], []), [(.inr (some (.inl ((-2147483648), 2147483647, []))), 245, ([], [], []))])
set_option maxRecDepth 100000 in
theorem p2_s2980_e : ck_ok p2_O none [] [(9, [p2_s362]), (10, [p2_s407]), (28, [p2_s364])] 47 [(5, [some (.inr (.inr (.inl 1))), some (.inl ((-2147483648), 299, [])), some (.inl (ck_one 0)), some (.inl ((-2147483648), 2147483647, [])), some (.inl (0, 24, []))], ([], [], []), 100, .inl 4, true)] 182 p2_s2980 = true := by decide +kernel
theorem p2_s2980_s {X : Int → Int} {LX : Nat} : ck_Ok p2_O X LX 47 p2_s2980 := ck_ok_s ⟨p2_nmu, ck_E1 (ck_S1 p2_s362_s ck_S0) (ck_E1 (ck_S1 p2_s407_s ck_S0) (ck_E1 (ck_S1 p2_s364_s ck_S0) ck_E0))⟩ ck_X0 ck_l0 p2_s2980_e
set_option maxRecDepth 100000 in
/-- GlacierMail.market -/
def p2_s2981 : ck_Sum := ((5, 0, 0), 245, [.inr (.inr (.inl 1)), .inl (0, 1, [])], ([], [(3, 8, 0)], []), ([(1, 15, 15), (206, 2, 8), (220, 3, 3), (221, 0, 47)], []), [(.inr (some (.inl ((-2147483648), 299, []))), 245, ([], [], [(1, 15, 15, ck_one 1)])), (.inr (some (.inl (0, 2147483647, []))), 245, ([], [], [(1, 15, 15, ck_one 1)]))])
set_option maxRecDepth 100000 in
theorem p2_s2981_e : ck_ok p2_O none [] [(24, [p2_s405]), (9, [p2_s362]), (10, [p2_s407]), (47, [p2_s2980])] 46 [(11, [some (.inr (.inr (.inl 1))), some (.inl (0, 1, [])), some (.inl ((-2147483648), 299, [])), some (.inl (0, 2147483647, [])), some (.inl (0, 24, [])), none, none], ([], [(3, 8, 0)], [(1, 15, 15, ck_one 1)]), 100, .inl 4, true)] 230 p2_s2981 = true := by decide +kernel
theorem p2_s2981_s {X : Int → Int} {LX : Nat} : ck_Ok p2_O X LX 46 p2_s2981 := ck_ok_s ⟨p2_nmu, ck_E1 (ck_S1 p2_s405_s ck_S0) (ck_E1 (ck_S1 p2_s362_s ck_S0) (ck_E1 (ck_S1 p2_s407_s ck_S0) (ck_E1 (ck_S1 p2_s2980_s ck_S0) ck_E0)))⟩ ck_X0 ck_l0 p2_s2981_e
set_option maxRecDepth 100000 in
/-- GlacierMailModel.outsIn -/
def p2_s2998 : ck_Sum := ((2, 0, 0), 245, [.inr (.inr (.inl 226)), .inl (0, 299, []), .inl ((-1), 7, []), .inl (0, 1, [])], ([], [], [(227, 4, 4, (0, 24, [(22, 0)]))]), ([], []), [(.inr (some (.inl ((-2147483648), 2147483647, []))), 245, ([], [], []))])
set_option maxRecDepth 100000 in
theorem p2_s2998_e : ck_ok p2_O none [] [(254, [p2_s196]), (303, [p2_s455]), (301, [p2_s457])] 333 [(6, [some (.inr (.inr (.inl 226))), some (.inl (0, 299, [])), some (.inl ((-1), 7, [])), some (.inl (0, 1, [])), some (.inl ((-2147483648), 2147483647, [])), some (.inl (0, 24, []))], ([], [], [(227, 4, 4, (0, 24, [(22, 0)]))]), 100, .inl 5, true)] 218 p2_s2998 = true := by decide +kernel
theorem p2_s2998_s {X : Int → Int} {LX : Nat} : ck_Ok p2_O X LX 333 p2_s2998 := ck_ok_s ⟨p2_nmu, ck_E1 (ck_S1 p2_s196_s ck_S0) (ck_E1 (ck_S1 p2_s455_s ck_S0) (ck_E1 (ck_S1 p2_s457_s ck_S0) ck_E0))⟩ ck_X0 ck_l0 p2_s2998_e
set_option maxRecDepth 100000 in
/-- GlacierMail.passes -/
def p2_s3000 : ck_Sum := ((8, 1, 6), 245, [.inr (.inr (.inl 1)), .inl ((-2147483648), (-1), [])], ([], [], []), ([], []), [(.inl 3, 245, ([], [], []))])
set_option maxRecDepth 100000 in
theorem p2_s3000_e : ck_ok p2_O none [] [(143, [p2_s599])] 179 [] 76 p2_s3000 = true := by decide +kernel
theorem p2_s3000_s {X : Int → Int} {LX : Nat} : ck_Ok p2_O X LX 179 p2_s3000 := ck_ok_s ⟨p2_nmu, ck_E1 (ck_S1 p2_s599_s ck_S0) ck_E0⟩ ck_X0 ck_l0 p2_s3000_e
set_option maxRecDepth 100000 in
/-- GlacierMail.passes -/
def p2_s3001 : ck_Sum := ((8, 1, 6), 245, [.inr (.inr (.inl 1)), .inl (24, 2147483647, [])], ([], [], []), ([], []), [(.inl 3, 245, ([], [], []))])
set_option maxRecDepth 100000 in
theorem p2_s3001_e : ck_ok p2_O none [] [(143, [p2_s602])] 179 [] 76 p2_s3001 = true := by decide +kernel
theorem p2_s3001_s {X : Int → Int} {LX : Nat} : ck_Ok p2_O X LX 179 p2_s3001 := ck_ok_s ⟨p2_nmu, ck_E1 (ck_S1 p2_s602_s ck_S0) ck_E0⟩ ck_X0 ck_l0 p2_s3001_e
set_option maxRecDepth 100000 in
/-- GlacierMail.sameLane -/
def p2_s3054 : ck_Sum := ((1, 0, 0), 245, [.inr (.inr (.inl 1)), .inl (0, 23, []), .inl (0, 23, [])], ([], [], []), ([], []), [(.inr (some (.inl (ck_one 0))), 245, ([], [], [])), (.inr (some (.inl (ck_one 1))), 245, ([], [], []))])
set_option maxRecDepth 100000 in
theorem p2_s3054_e : ck_ok p2_O none [] [(10, [p2_s363])] 180 [] 102 p2_s3054 = true := by decide +kernel
theorem p2_s3054_s {X : Int → Int} {LX : Nat} : ck_Ok p2_O X LX 180 p2_s3054 := ck_ok_s ⟨p2_nmu, ck_E1 (ck_S1 p2_s363_s ck_S0) ck_E0⟩ ck_X0 ck_l0 p2_s3054_e
set_option maxRecDepth 100000 in
/-- GlacierMail$Way.start -/
def p2_s3003 : ck_Sum := ((0, 0, 0), 245, [.inr (.inr (.inl 207)), .inl ((-1), 299, []), .inl ((-1), 299, []), .inl ((-1), 299, []), .inl (ck_one 0)], ([], [], []), ([(207, 2, 8)], []), [(.inr none, 245, ([], [], [(207, 8, 8, ck_one 0), (207, 6, 6, ck_one 0), (207, 3, 3, ck_one 0), (207, 7, 7, ((-1), 299, [])), (207, 5, 5, ((-1), 299, []))]))])
set_option maxRecDepth 100000 in
theorem p2_s3003_e : ck_ok p2_O none [] [] 29 [] 114 p2_s3003 = true := by decide +kernel
theorem p2_s3003_s {X : Int → Int} {LX : Nat} : ck_Ok p2_O X LX 29 p2_s3003 := ck_ok_s ⟨p2_nmu, ck_E0⟩ ck_X0 ck_l0 p2_s3003_e
set_option maxRecDepth 100000 in
/-- GlacierMail$Way.start -/
def p2_s3004 : ck_Sum := ((0, 0, 0), 245, [.inr (.inr (.inl 207)), .inl ((-1), 299, []), .inl ((-1), 299, []), .inl ((-1), 299, []), .inl (ck_one 1)], ([], [], []), ([(207, 2, 8)], []), [(.inr none, 245, ([], [], [(207, 8, 8, ck_one 0), (207, 6, 6, ck_one 0), (207, 3, 3, ck_one 1), (207, 7, 7, ((-1), 299, [])), (207, 5, 5, ((-1), 299, []))]))])
set_option maxRecDepth 100000 in
theorem p2_s3004_e : ck_ok p2_O none [] [] 29 [] 114 p2_s3004 = true := by decide +kernel
theorem p2_s3004_s {X : Int → Int} {LX : Nat} : ck_Ok p2_O X LX 29 p2_s3004 := ck_ok_s ⟨p2_nmu, ck_E0⟩ ck_X0 ck_l0 p2_s3004_e
set_option maxRecDepth 100000 in
/-- GlacierMail$Way.startLetter -/
def p2_s3005 : ck_Sum := ((2, 0, 0), 245, [.inr (.inr (.inl 207)), .inl (0, 23, [])], ([], [], []), ([(207, 2, 8)], []), [(.inr none, 245, ([], [], [(207, 8, 8, ck_one 0), (207, 6, 6, ck_one 0), (207, 7, 7, ((-1), 299, [])), (207, 5, 5, ((-1), 299, []))]))])
set_option maxRecDepth 100000 in
theorem p2_s3005_e : ck_ok p2_O none [] [(10, [p2_s363]), (28, [p2_s364]), (29, [p2_s3003, p2_s3004])] 27 [] 116 p2_s3005 = true := by decide +kernel
theorem p2_s3005_s {X : Int → Int} {LX : Nat} : ck_Ok p2_O X LX 27 p2_s3005 := ck_ok_s ⟨p2_nmu, ck_E1 (ck_S1 p2_s363_s ck_S0) (ck_E1 (ck_S1 p2_s364_s ck_S0) (ck_E1 (ck_S1 p2_s3003_s (ck_S1 p2_s3004_s ck_S0)) ck_E0))⟩ ck_X0 ck_l0 p2_s3005_e
set_option maxRecDepth 100000 in
/-- GlacierMail$Way.isOut -/
def p2_s3006 : ck_Sum := ((0, 0, 0), 245, [.inr (.inr (.inl 207))], ([], [], []), ([], []), [(.inr (some (.inl (ck_one 0))), 245, ([], [], [(207, 5, 5, ((-2147483648), 98, []))])), (.inr (some (.inl (ck_one 1))), 245, ([], [], [(207, 5, 5, (10, 2147483647, []))]))])
set_option maxRecDepth 100000 in
theorem p2_s3006_e : ck_ok p2_O none [] [] 31 [] 88 p2_s3006 = true := by decide +kernel
theorem p2_s3006_s {X : Int → Int} {LX : Nat} : ck_Ok p2_O X LX 31 p2_s3006 := ck_ok_s ⟨p2_nmu, ck_E0⟩ ck_X0 ck_l0 p2_s3006_e
set_option maxRecDepth 100000 in
/-- GlacierMail$Way.deepAfter -/
def p2_s3007 : ck_Sum := ((1, 0, 0), 245, [.inr (.inr (.inl 207))], ([], [], []), ([], []), [(.inr (some (.inl (0, 99, []))), 245, ([], [], []))])
set_option maxRecDepth 100000 in
theorem p2_s3007_e : ck_ok p2_O none [] [(34, [p2_s369])] 33 [] 110 p2_s3007 = true := by decide +kernel
theorem p2_s3007_s {X : Int → Int} {LX : Nat} : ck_Ok p2_O X LX 33 p2_s3007 := ck_ok_s ⟨p2_nmu, ck_E1 (ck_S1 p2_s369_s ck_S0) ck_E0⟩ ck_X0 ck_l0 p2_s3007_e
set_option maxRecDepth 100000 in
/-- GlacierMail$Way.takeFloods -/
def p2_s3008 : ck_Sum := ((1, 0, 0), 245, [.inr (.inr (.inl 207))], ([], [], []), ([(207, 5, 5), (207, 8, 8)], []), [(.inr none, 245, ([], [], []))])
set_option maxRecDepth 100000 in
theorem p2_s3008_e : ck_ok p2_O none [] [(44, [p2_s371]), (9, [p2_s159]), (10, [p2_s160])] 43 [(22, [some (.inr (.inr (.inl 207))), some (.inr (.inr (.inl 6))), some (.inl ((-2147483648), 2147483647, [])), some (.inl (0, 9, [])), none], ([], [], []), 100, .inl 3, true)] 290 p2_s3008 = true := by decide +kernel
theorem p2_s3008_s {X : Int → Int} {LX : Nat} : ck_Ok p2_O X LX 43 p2_s3008 := ck_ok_s ⟨p2_nmu, ck_E1 (ck_S1 p2_s371_s ck_S0) (ck_E1 (ck_S1 p2_s159_s ck_S0) (ck_E1 (ck_S1 p2_s160_s ck_S0) ck_E0))⟩ ck_X0 ck_l0 p2_s3008_e
set_option maxRecDepth 100000 in
/-- GlacierMail$Way.step -/
def p2_s3009 : ck_Sum := ((2, 0, 0), 245, [.inr (.inr (.inl 207))], ([], [(3, 8, 0)], []), ([(207, 5, 8)], []), [(.inr none, 245, ([], [], []))])
set_option maxRecDepth 100000 in
theorem p2_s3009_e : ck_ok p2_O none [] [(31, [p2_s3006]), (33, [p2_s3007]), (35, [p2_s335]), (43, [p2_s3008])] 32 [] 134 p2_s3009 = true := by decide +kernel
theorem p2_s3009_s {X : Int → Int} {LX : Nat} : ck_Ok p2_O X LX 32 p2_s3009 := ck_ok_s ⟨p2_nmu, ck_E1 (ck_S1 p2_s3006_s ck_S0) (ck_E1 (ck_S1 p2_s3007_s ck_S0) (ck_E1 (ck_S1 p2_s335_s ck_S0) (ck_E1 (ck_S1 p2_s3008_s ck_S0) ck_E0)))⟩ ck_X0 ck_l0 p2_s3009_e
set_option maxRecDepth 100000 in
/-- GlacierMail$Way.goOnTo -/
def p2_s3010 : ck_Sum := ((3, 0, 0), 245, [.inr (.inr (.inl 207)), .inl (0, 299, [])], ([], [(3, 8, 0)], []), ([(207, 5, 8)], []), [(.inr none, 245, ([], [], []))])
set_option maxRecDepth 100000 in
theorem p2_s3010_e : ck_ok p2_O none [] [(32, [p2_s3009])] 148 [(5, [some (.inr (.inr (.inl 207))), some (.inl (0, 299, [])), some (.inl ((-2147483648), 2147483647, []))], ([], [(3, 8, 0)], []), 100, .inl 2, true)] 122 p2_s3010 = true := by decide +kernel
theorem p2_s3010_s {X : Int → Int} {LX : Nat} : ck_Ok p2_O X LX 148 p2_s3010 := ck_ok_s ⟨p2_nmu, ck_E1 (ck_S1 p2_s3009_s ck_S0) ck_E0⟩ ck_X0 ck_l0 p2_s3010_e
set_option maxRecDepth 100000 in
/-- GlacierMail.startBoth -/
def p2_s3055 : ck_Sum := ((4, 0, 0), 245, [.inr (.inr (.inl 1)), .inl (0, 23, []), .inl (0, 23, []), .inl (ck_one 0)], ([], [(3, 8, 0)], []), ([(206, 2, 8), (207, 2, 8)], []), [(.inr (some (.inl (0, 299, []))), 245, ([], [], [(206, 4, 4, ck_one (-1)), (206, 2, 2, ((-1), 299, []))]))])
set_option maxRecDepth 100000 in
theorem p2_s3055_e : ck_ok p2_O none [] [(27, [p2_s367, p2_s3005]), (148, [p2_s633, p2_s3010])] 182 [] 126 p2_s3055 = true := by decide +kernel
theorem p2_s3055_s {X : Int → Int} {LX : Nat} : ck_Ok p2_O X LX 182 p2_s3055 := ck_ok_s ⟨p2_nmu, ck_E1 (ck_S1 p2_s367_s (ck_S1 p2_s3005_s ck_S0)) (ck_E1 (ck_S1 p2_s633_s (ck_S1 p2_s3010_s ck_S0)) ck_E0)⟩ ck_X0 ck_l0 p2_s3055_e
set_option maxRecDepth 100000 in
/-- GlacierMail.bothInIce -/
def p2_s3012 : ck_Sum := ((1, 0, 0), 245, [.inr (.inr (.inl 1))], ([], [], []), ([], []), [(.inr (some (.inl (ck_one 1))), 245, ([], [], [(207, 5, 5, ((-2147483648), 98, [])), (206, 5, 5, ((-2147483648), 98, []))])), (.inr (some (.inl (ck_one 0))), 245, ([], [], []))])
set_option maxRecDepth 100000 in
theorem p2_s3012_e : ck_ok p2_O none [] [(31, [p2_s368, p2_s3006])] 183 [] 92 p2_s3012 = true := by decide +kernel
theorem p2_s3012_s {X : Int → Int} {LX : Nat} : ck_Ok p2_O X LX 183 p2_s3012 := ck_ok_s ⟨p2_nmu, ck_E1 (ck_S1 p2_s368_s (ck_S1 p2_s3006_s ck_S0)) ck_E0⟩ ck_X0 ck_l0 p2_s3012_e
set_option maxRecDepth 100000 in
/-- GlacierMail.stepBoth -/
def p2_s3013 : ck_Sum := ((3, 0, 0), 245, [.inr (.inr (.inl 1))], ([], [(3, 8, 0)], []), ([(206, 5, 8), (207, 5, 8)], []), [(.inr none, 245, ([], [], []))])
set_option maxRecDepth 100000 in
theorem p2_s3013_e : ck_ok p2_O none [] [(32, [p2_s373, p2_s3009])] 184 [] 84 p2_s3013 = true := by decide +kernel
theorem p2_s3013_s {X : Int → Int} {LX : Nat} : ck_Ok p2_O X LX 184 p2_s3013 := ck_ok_s ⟨p2_nmu, ck_E1 (ck_S1 p2_s373_s (ck_S1 p2_s3009_s ck_S0)) ck_E0⟩ ck_X0 ck_l0 p2_s3013_e
set_option maxRecDepth 100000 in
/-- GlacierMail.passesBy -/
def p2_s3056 : ck_Sum := ((5, 0, 0), 245, [.inr (.inr (.inl 1)), .inl (0, 23, []), .inl (0, 23, [])], ([], [(3, 8, 0)], []), ([(206, 2, 8), (207, 2, 8)], []), [(.inr (some (.inl (ck_one 0))), 245, ([], [], [(206, 4, 4, ck_one (-1)), (206, 2, 2, ((-1), 299, []))])), (.inr (some (.inl (ck_one 1))), 245, ([], [], [(207, 5, 5, ((-2147483648), 97, [])), (206, 5, 5, ((-2147483647), 98, [])), (206, 4, 4, ck_one (-1)), (206, 2, 2, ((-1), 299, []))]))])
set_option maxRecDepth 100000 in
theorem p2_s3056_e : ck_ok p2_O none [] [(182, [p2_s3055]), (183, [p2_s3012]), (184, [p2_s3013])] 181 [(39, [some (.inr (.inr (.inl 1))), some (.inl (0, 23, [])), some (.inl (0, 23, [])), some (.inl (0, 299, [])), some (.inl (1, 300, []))], ([], [(3, 8, 0)], [(207, 5, 5, ((-2147483648), 98, [])), (206, 5, 5, ((-2147483648), 98, [])), (206, 4, 4, ck_one (-1)), (206, 2, 2, ((-1), 299, []))]), 100, .inl 4, true)] 174 p2_s3056 = true := by decide +kernel
theorem p2_s3056_s {X : Int → Int} {LX : Nat} : ck_Ok p2_O X LX 181 p2_s3056 := ck_ok_s ⟨p2_nmu, ck_E1 (ck_S1 p2_s3055_s ck_S0) (ck_E1 (ck_S1 p2_s3012_s ck_S0) (ck_E1 (ck_S1 p2_s3013_s ck_S0) ck_E0))⟩ ck_X0 ck_l0 p2_s3056_e
set_option maxRecDepth 100000 in
/-- GlacierMail.passes -/
def p2_s3057 : ck_Sum := ((8, 1, 6), 245, [.inr (.inr (.inl 1)), .inl (0, 23, [])], ([], [(3, 8, 0)], []), ([(206, 2, 8), (207, 2, 8)], []), [(.inl 3, 245, ([], [], [])), (.inr (some (.inl ((-2147483648), 2147483647, []))), 245, ([], [], []))])
set_option maxRecDepth 100000 in
theorem p2_s3057_e : ck_ok p2_O none [] [(143, [p2_s605]), (9, [p2_s359]), (180, [p2_s3054]), (181, [p2_s3056])] 179 [(9, [some (.inr (.inr (.inl 1))), some (.inl (0, 23, [])), some (.inl ((-2147483648), 2147483647, [])), some (.inl (0, 24, []))], ([], [(3, 8, 0)], []), 100, .inl 3, true)] 182 p2_s3057 = true := by decide +kernel
theorem p2_s3057_s {X : Int → Int} {LX : Nat} : ck_Ok p2_O X LX 179 p2_s3057 := ck_ok_s ⟨p2_nmu, ck_E1 (ck_S1 p2_s605_s ck_S0) (ck_E1 (ck_S1 p2_s359_s ck_S0) (ck_E1 (ck_S1 p2_s3054_s ck_S0) (ck_E1 (ck_S1 p2_s3056_s ck_S0) ck_E0)))⟩ ck_X0 ck_l0 p2_s3057_e
