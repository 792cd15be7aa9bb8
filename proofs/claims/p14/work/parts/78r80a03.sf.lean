/-! EVERY CALL ENDS, whatever was done before (laid by wip/am/p2k.py). -/
set_option maxRecDepth 100000 in
/-- GlacierMail.speed -/
def p2_s270 : ck_Sum := ((8, 1, 6), 245, [.inr (.inr (.inl 1)), .inl (6, 2147483647, []), .inl ((-2147483648), 2147483647, [])], ([], [], []), ([], []), [(.inl 3, 245, ([], [], []))])
set_option maxRecDepth 100000 in
theorem p2_s270_e : ck_ok p2_O none [] [(132, [p2_s269])] 131 [] 76 p2_s270 = true := by decide +kernel
theorem p2_s270_s {X : Int → Int} {LX : Nat} : ck_Ok p2_O X LX 131 p2_s270 := ck_ok_s ⟨p2_nmu, ck_E1 (ck_S1 p2_s269_s ck_S0) ck_E0⟩ ck_X0 ck_l0 p2_s270_e
set_option maxRecDepth 100000 in
/-- GlacierMail.need -/
def p2_s271 : ck_Sum := ((6, 1, 6), 245, [.inr (.inr (.inl 1)), .inl (0, 5, []), .inl (1, 6, [])], ([], [], []), ([], []), [(.inr none, 245, ([], [], [])), (.inl 3, 245, ([], [], []))])
set_option maxRecDepth 100000 in
theorem p2_s271_e : ck_ok p2_O none [] [] 133 [] 82 p2_s271 = true := by decide +kernel
theorem p2_s271_s {X : Int → Int} {LX : Nat} : ck_Ok p2_O X LX 133 p2_s271 := ck_ok_s ⟨p2_nmu, ck_E0⟩ ck_X0 ck_l0 p2_s271_e
set_option maxRecDepth 100000 in
/-- GlacierMail.needLane -/
def p2_s272 : ck_Sum := ((7, 1, 6), 245, [.inr (.inr (.inl 1)), .inl (0, 5, [])], ([], [], []), ([], []), [(.inl 3, 245, ([], [], [])), (.inr none, 245, ([], [], []))])
set_option maxRecDepth 100000 in
theorem p2_s272_e : ck_ok p2_O none [] [(133, [p2_s271])] 132 [] 84 p2_s272 = true := by decide +kernel
theorem p2_s272_s {X : Int → Int} {LX : Nat} : ck_Ok p2_O X LX 132 p2_s272 := ck_ok_s ⟨p2_nmu, ck_E1 (ck_S1 p2_s271_s ck_S0) ck_E0⟩ ck_X0 ck_l0 p2_s272_e
set_option maxRecDepth 100000 in
/-- GlacierMail.need -/
def p2_s273 : ck_Sum := ((6, 1, 6), 245, [.inr (.inr (.inl 1)), .inl ((-2147483648), (-1), []), .inl (10, 99, [])], ([], [], []), ([], []), [(.inl 3, 245, ([], [], []))])
set_option maxRecDepth 100000 in
theorem p2_s273_e : ck_ok p2_O none [] [] 133 [] 76 p2_s273 = true := by decide +kernel
theorem p2_s273_s {X : Int → Int} {LX : Nat} : ck_Ok p2_O X LX 133 p2_s273 := ck_ok_s ⟨p2_nmu, ck_E0⟩ ck_X0 ck_l0 p2_s273_e
set_option maxRecDepth 100000 in
/-- GlacierMail.needRow -/
def p2_s274 : ck_Sum := ((7, 1, 6), 245, [.inr (.inr (.inl 1)), .inl ((-2147483648), (-1), [])], ([], [], []), ([], []), [(.inl 3, 245, ([], [], []))])
set_option maxRecDepth 100000 in
theorem p2_s274_e : ck_ok p2_O none [] [(133, [p2_s273])] 134 [] 82 p2_s274 = true := by decide +kernel
theorem p2_s274_s {X : Int → Int} {LX : Nat} : ck_Ok p2_O X LX 134 p2_s274 := ck_ok_s ⟨p2_nmu, ck_E1 (ck_S1 p2_s273_s ck_S0) ck_E0⟩ ck_X0 ck_l0 p2_s274_e
set_option maxRecDepth 100000 in
/-- GlacierMail.speed -/
def p2_s275 : ck_Sum := ((8, 2, 12), 245, [.inr (.inr (.inl 1)), .inl (0, 5, []), .inl ((-2147483648), (-1), [])], ([], [], []), ([], []), [(.inl 3, 245, ([], [], []))])
set_option maxRecDepth 100000 in
theorem p2_s275_e : ck_ok p2_O none [] [(132, [p2_s272]), (134, [p2_s274])] 131 [] 82 p2_s275 = true := by decide +kernel
theorem p2_s275_s {X : Int → Int} {LX : Nat} : ck_Ok p2_O X LX 131 p2_s275 := ck_ok_s ⟨p2_nmu, ck_E1 (ck_S1 p2_s272_s ck_S0) (ck_E1 (ck_S1 p2_s274_s ck_S0) ck_E0)⟩ ck_X0 ck_l0 p2_s275_e
set_option maxRecDepth 100000 in
/-- GlacierMail.need -/
def p2_s276 : ck_Sum := ((6, 1, 6), 245, [.inr (.inr (.inl 1)), .inl (99, 2147483647, []), .inl (10, 99, [])], ([], [], []), ([], []), [(.inl 3, 245, ([], [], []))])
set_option maxRecDepth 100000 in
theorem p2_s276_e : ck_ok p2_O none [] [] 133 [] 82 p2_s276 = true := by decide +kernel
theorem p2_s276_s {X : Int → Int} {LX : Nat} : ck_Ok p2_O X LX 133 p2_s276 := ck_ok_s ⟨p2_nmu, ck_E0⟩ ck_X0 ck_l0 p2_s276_e
set_option maxRecDepth 100000 in
/-- GlacierMail.needRow -/
def p2_s277 : ck_Sum := ((7, 1, 6), 245, [.inr (.inr (.inl 1)), .inl (99, 2147483647, [])], ([], [], []), ([], []), [(.inl 3, 245, ([], [], []))])
set_option maxRecDepth 100000 in
theorem p2_s277_e : ck_ok p2_O none [] [(133, [p2_s276])] 134 [] 82 p2_s277 = true := by decide +kernel
theorem p2_s277_s {X : Int → Int} {LX : Nat} : ck_Ok p2_O X LX 134 p2_s277 := ck_ok_s ⟨p2_nmu, ck_E1 (ck_S1 p2_s276_s ck_S0) ck_E0⟩ ck_X0 ck_l0 p2_s277_e
set_option maxRecDepth 100000 in
/-- GlacierMail.speed -/
def p2_s278 : ck_Sum := ((8, 2, 12), 245, [.inr (.inr (.inl 1)), .inl (0, 5, []), .inl (99, 2147483647, [])], ([], [], []), ([], []), [(.inl 3, 245, ([], [], []))])
set_option maxRecDepth 100000 in
theorem p2_s278_e : ck_ok p2_O none [] [(132, [p2_s272]), (134, [p2_s277])] 131 [] 82 p2_s278 = true := by decide +kernel
theorem p2_s278_s {X : Int → Int} {LX : Nat} : ck_Ok p2_O X LX 131 p2_s278 := ck_ok_s ⟨p2_nmu, ck_E1 (ck_S1 p2_s272_s ck_S0) (ck_E1 (ck_S1 p2_s277_s ck_S0) ck_E0)⟩ ck_X0 ck_l0 p2_s278_e
set_option maxRecDepth 100000 in
/-- GlacierMail.need -/
def p2_s279 : ck_Sum := ((6, 1, 6), 245, [.inr (.inr (.inl 1)), .inl (0, 98, []), .inl (10, 99, [])], ([], [], []), ([], []), [(.inr none, 245, ([], [], [])), (.inl 3, 245, ([], [], []))])
set_option maxRecDepth 100000 in
theorem p2_s279_e : ck_ok p2_O none [] [] 133 [] 82 p2_s279 = true := by decide +kernel
theorem p2_s279_s {X : Int → Int} {LX : Nat} : ck_Ok p2_O X LX 133 p2_s279 := ck_ok_s ⟨p2_nmu, ck_E0⟩ ck_X0 ck_l0 p2_s279_e
set_option maxRecDepth 100000 in
/-- GlacierMail.needRow -/
def p2_s280 : ck_Sum := ((7, 1, 6), 245, [.inr (.inr (.inl 1)), .inl (0, 98, [])], ([], [], []), ([], []), [(.inl 3, 245, ([], [], [])), (.inr none, 245, ([], [], []))])
set_option maxRecDepth 100000 in
theorem p2_s280_e : ck_ok p2_O none [] [(133, [p2_s279])] 134 [] 84 p2_s280 = true := by decide +kernel
theorem p2_s280_s {X : Int → Int} {LX : Nat} : ck_Ok p2_O X LX 134 p2_s280 := ck_ok_s ⟨p2_nmu, ck_E1 (ck_S1 p2_s279_s ck_S0) ck_E0⟩ ck_X0 ck_l0 p2_s280_e
set_option maxRecDepth 100000 in
/-- GlacierMail$Ice.speedAt -/
def p2_s281 : ck_Sum := ((0, 0, 0), 245, [.inr (.inr (.inl 200)), .inl (0, 5, []), .inl (0, 98, [])], ([], [], []), ([], []), [(.inr (some (.inl ((-1), 98, []))), 245, ([], [], []))])
set_option maxRecDepth 100000 in
theorem p2_s281_e : ck_ok p2_O none [] [] 36 [] 108 p2_s281 = true := by decide +kernel
theorem p2_s281_s {X : Int → Int} {LX : Nat} : ck_Ok p2_O X LX 36 p2_s281 := ck_ok_s ⟨p2_nmu, ck_E0⟩ ck_X0 ck_l0 p2_s281_e
set_option maxRecDepth 100000 in
/-- GlacierMail.speed -/
def p2_s282 : ck_Sum := ((8, 2, 12), 245, [.inr (.inr (.inl 1)), .inl (0, 5, []), .inl (0, 98, [])], ([], [], []), ([], []), [(.inl 3, 245, ([], [], [])), (.inr (some (.inl ((-1), 98, []))), 245, ([], [], []))])
set_option maxRecDepth 100000 in
theorem p2_s282_e : ck_ok p2_O none [] [(132, [p2_s272]), (134, [p2_s280]), (36, [p2_s281])] 131 [] 94 p2_s282 = true := by decide +kernel
theorem p2_s282_s {X : Int → Int} {LX : Nat} : ck_Ok p2_O X LX 131 p2_s282 := ck_ok_s ⟨p2_nmu, ck_E1 (ck_S1 p2_s272_s ck_S0) (ck_E1 (ck_S1 p2_s280_s ck_S0) (ck_E1 (ck_S1 p2_s281_s ck_S0) ck_E0))⟩ ck_X0 ck_l0 p2_s282_e
set_option maxRecDepth 100000 in
/-- GlacierMailModel.in -/
def p2_s283 : ck_Sum := ((0, 0, 0), 245, [.inl ((-2147483648), (-1), []), .inl (ck_one 0), .inl ((-1), 5, [])], ([], [], []), ([], []), [(.inr (some (.inl (ck_one 0))), 245, ([], [], []))])
set_option maxRecDepth 100000 in
theorem p2_s283_e : ck_ok p2_O none [] [] 286 [] 80 p2_s283 = true := by decide +kernel
theorem p2_s283_s {X : Int → Int} {LX : Nat} : ck_Ok p2_O X LX 286 p2_s283 := ck_ok_s ⟨p2_nmu, ck_E0⟩ ck_X0 ck_l0 p2_s283_e
set_option maxRecDepth 100000 in
/-- GlacierMailModel.noLane -/
def p2_s284 : ck_Sum := ((1, 0, 0), 245, [.inr (.inr (.inl 226)), .inl ((-2147483648), (-1), [])], ([], [], []), ([], []), [(.inr (some (.inl (ck_one 1))), 245, ([], [], []))])
set_option maxRecDepth 100000 in
theorem p2_s284_e : ck_ok p2_O none [] [(261, [p2_s166]), (286, [p2_s283])] 288 [] 92 p2_s284 = true := by decide +kernel
theorem p2_s284_s {X : Int → Int} {LX : Nat} : ck_Ok p2_O X LX 288 p2_s284 := ck_ok_s ⟨p2_nmu, ck_E1 (ck_S1 p2_s166_s ck_S0) (ck_E1 (ck_S1 p2_s283_s ck_S0) ck_E0)⟩ ck_X0 ck_l0 p2_s284_e
set_option maxRecDepth 100000 in
/-- GlacierMailModel.speed -/
def p2_s285 : ck_Sum := ((2, 0, 0), 245, [.inr (.inr (.inl 226)), .inl ((-2147483648), (-1), []), .inl ((-2147483648), 2147483647, [])], ([], [], []), ([(226, 0, 0)], []), [(.inr (some (.inl (ck_one 0))), 245, ([], [], [(226, 0, 0, ck_one 1)]))])
set_option maxRecDepth 100000 in
theorem p2_s285_e : ck_ok p2_O none [] [(288, [p2_s284]), (282, [p2_s241])] 287 [] 102 p2_s285 = true := by decide +kernel
theorem p2_s285_s {X : Int → Int} {LX : Nat} : ck_Ok p2_O X LX 287 p2_s285 := ck_ok_s ⟨p2_nmu, ck_E1 (ck_S1 p2_s284_s ck_S0) (ck_E1 (ck_S1 p2_s241_s ck_S0) ck_E0)⟩ ck_X0 ck_l0 p2_s285_e
set_option maxRecDepth 100000 in
/-- GlacierMailModel.in -/
def p2_s286 : ck_Sum := ((0, 0, 0), 245, [.inl (6, 2147483647, []), .inl (ck_one 0), .inl ((-1), 5, [])], ([], [], []), ([], []), [(.inr (some (.inl (ck_one 0))), 245, ([], [], []))])
set_option maxRecDepth 100000 in
theorem p2_s286_e : ck_ok p2_O none [] [] 286 [] 86 p2_s286 = true := by decide +kernel
theorem p2_s286_s {X : Int → Int} {LX : Nat} : ck_Ok p2_O X LX 286 p2_s286 := ck_ok_s ⟨p2_nmu, ck_E0⟩ ck_X0 ck_l0 p2_s286_e
set_option maxRecDepth 100000 in
/-- GlacierMailModel.noLane -/
def p2_s287 : ck_Sum := ((1, 0, 0), 245, [.inr (.inr (.inl 226)), .inl (6, 2147483647, [])], ([], [], []), ([], []), [(.inr (some (.inl (ck_one 1))), 245, ([], [], []))])
set_option maxRecDepth 100000 in
theorem p2_s287_e : ck_ok p2_O none [] [(261, [p2_s166]), (286, [p2_s286])] 288 [] 92 p2_s287 = true := by decide +kernel
theorem p2_s287_s {X : Int → Int} {LX : Nat} : ck_Ok p2_O X LX 288 p2_s287 := ck_ok_s ⟨p2_nmu, ck_E1 (ck_S1 p2_s166_s ck_S0) (ck_E1 (ck_S1 p2_s286_s ck_S0) ck_E0)⟩ ck_X0 ck_l0 p2_s287_e
set_option maxRecDepth 100000 in
/-- GlacierMailModel.speed -/
def p2_s288 : ck_Sum := ((2, 0, 0), 245, [.inr (.inr (.inl 226)), .inl (6, 2147483647, []), .inl ((-2147483648), 2147483647, [])], ([], [], []), ([(226, 0, 0)], []), [(.inr (some (.inl (ck_one 0))), 245, ([], [], [(226, 0, 0, ck_one 1)]))])
set_option maxRecDepth 100000 in
theorem p2_s288_e : ck_ok p2_O none [] [(288, [p2_s287]), (282, [p2_s241])] 287 [] 102 p2_s288 = true := by decide +kernel
theorem p2_s288_s {X : Int → Int} {LX : Nat} : ck_Ok p2_O X LX 287 p2_s288 := ck_ok_s ⟨p2_nmu, ck_E1 (ck_S1 p2_s287_s ck_S0) (ck_E1 (ck_S1 p2_s241_s ck_S0) ck_E0)⟩ ck_X0 ck_l0 p2_s288_e
set_option maxRecDepth 100000 in
/-- GlacierMailModel.in -/
def p2_s289 : ck_Sum := ((0, 0, 0), 245, [.inl (0, 5, []), .inl (ck_one 0), .inl ((-1), 5, [])], ([], [], []), ([], []), [(.inr (some (.inl (ck_one 0))), 245, ([], [], [])), (.inr (some (.inl (ck_one 1))), 245, ([], [], []))])
set_option maxRecDepth 100000 in
theorem p2_s289_e : ck_ok p2_O none [] [] 286 [] 88 p2_s289 = true := by decide +kernel
theorem p2_s289_s {X : Int → Int} {LX : Nat} : ck_Ok p2_O X LX 286 p2_s289 := ck_ok_s ⟨p2_nmu, ck_E0⟩ ck_X0 ck_l0 p2_s289_e
set_option maxRecDepth 100000 in
/-- GlacierMailModel.noLane -/
def p2_s290 : ck_Sum := ((1, 0, 0), 245, [.inr (.inr (.inl 226)), .inl (0, 5, [])], ([], [], []), ([], []), [(.inr (some (.inl (ck_one 1))), 245, ([], [], [])), (.inr (some (.inl (ck_one 0))), 245, ([], [], []))])
set_option maxRecDepth 100000 in
theorem p2_s290_e : ck_ok p2_O none [] [(261, [p2_s166]), (286, [p2_s289])] 288 [] 92 p2_s290 = true := by decide +kernel
theorem p2_s290_s {X : Int → Int} {LX : Nat} : ck_Ok p2_O X LX 288 p2_s290 := ck_ok_s ⟨p2_nmu, ck_E1 (ck_S1 p2_s166_s ck_S0) (ck_E1 (ck_S1 p2_s289_s ck_S0) ck_E0)⟩ ck_X0 ck_l0 p2_s290_e
set_option maxRecDepth 100000 in
/-- GlacierMailModel.in -/
def p2_s291 : ck_Sum := ((0, 0, 0), 245, [.inl ((-2147483648), (-1), []), .inl (ck_one 0), .inl ((-1), 98, [])], ([], [], []), ([], []), [(.inr (some (.inl (ck_one 0))), 245, ([], [], []))])
set_option maxRecDepth 100000 in
theorem p2_s291_e : ck_ok p2_O none [] [] 286 [] 80 p2_s291 = true := by decide +kernel
theorem p2_s291_s {X : Int → Int} {LX : Nat} : ck_Ok p2_O X LX 286 p2_s291 := ck_ok_s ⟨p2_nmu, ck_E0⟩ ck_X0 ck_l0 p2_s291_e
set_option maxRecDepth 100000 in
/-- GlacierMailModel.noRow -/
def p2_s292 : ck_Sum := ((1, 0, 0), 245, [.inr (.inr (.inl 226)), .inl ((-2147483648), (-1), [])], ([], [], []), ([], []), [(.inr (some (.inl (ck_one 1))), 245, ([], [], []))])
set_option maxRecDepth 100000 in
theorem p2_s292_e : ck_ok p2_O none [] [(259, [p2_s180]), (286, [p2_s291])] 289 [] 92 p2_s292 = true := by decide +kernel
theorem p2_s292_s {X : Int → Int} {LX : Nat} : ck_Ok p2_O X LX 289 p2_s292 := ck_ok_s ⟨p2_nmu, ck_E1 (ck_S1 p2_s180_s ck_S0) (ck_E1 (ck_S1 p2_s291_s ck_S0) ck_E0)⟩ ck_X0 ck_l0 p2_s292_e
set_option maxRecDepth 100000 in
/-- GlacierMailModel.speed -/
def p2_s293 : ck_Sum := ((2, 0, 0), 245, [.inr (.inr (.inl 226)), .inl (0, 5, []), .inl ((-2147483648), (-1), [])], ([], [], []), ([(226, 0, 0)], []), [(.inr (some (.inl (ck_one 0))), 245, ([], [], [(226, 0, 0, ck_one 1)]))])
set_option maxRecDepth 100000 in
theorem p2_s293_e : ck_ok p2_O none [] [(288, [p2_s290]), (282, [p2_s241]), (289, [p2_s292])] 287 [] 110 p2_s293 = true := by decide +kernel
theorem p2_s293_s {X : Int → Int} {LX : Nat} : ck_Ok p2_O X LX 287 p2_s293 := ck_ok_s ⟨p2_nmu, ck_E1 (ck_S1 p2_s290_s ck_S0) (ck_E1 (ck_S1 p2_s241_s ck_S0) (ck_E1 (ck_S1 p2_s292_s ck_S0) ck_E0))⟩ ck_X0 ck_l0 p2_s293_e
set_option maxRecDepth 100000 in
/-- GlacierMailModel.in -/
def p2_s294 : ck_Sum := ((0, 0, 0), 245, [.inl (99, 2147483647, []), .inl (ck_one 0), .inl ((-1), 98, [])], ([], [], []), ([], []), [(.inr (some (.inl (ck_one 0))), 245, ([], [], []))])
set_option maxRecDepth 100000 in
theorem p2_s294_e : ck_ok p2_O none [] [] 286 [] 86 p2_s294 = true := by decide +kernel
theorem p2_s294_s {X : Int → Int} {LX : Nat} : ck_Ok p2_O X LX 286 p2_s294 := ck_ok_s ⟨p2_nmu, ck_E0⟩ ck_X0 ck_l0 p2_s294_e
set_option maxRecDepth 100000 in
/-- GlacierMailModel.noRow -/
def p2_s295 : ck_Sum := ((1, 0, 0), 245, [.inr (.inr (.inl 226)), .inl (99, 2147483647, [])], ([], [], []), ([], []), [(.inr (some (.inl (ck_one 1))), 245, ([], [], []))])
set_option maxRecDepth 100000 in
theorem p2_s295_e : ck_ok p2_O none [] [(259, [p2_s180]), (286, [p2_s294])] 289 [] 92 p2_s295 = true := by decide +kernel
theorem p2_s295_s {X : Int → Int} {LX : Nat} : ck_Ok p2_O X LX 289 p2_s295 := ck_ok_s ⟨p2_nmu, ck_E1 (ck_S1 p2_s180_s ck_S0) (ck_E1 (ck_S1 p2_s294_s ck_S0) ck_E0)⟩ ck_X0 ck_l0 p2_s295_e
set_option maxRecDepth 100000 in
/-- GlacierMailModel.speed -/
def p2_s296 : ck_Sum := ((2, 0, 0), 245, [.inr (.inr (.inl 226)), .inl (0, 5, []), .inl (99, 2147483647, [])], ([], [], []), ([(226, 0, 0)], []), [(.inr (some (.inl (ck_one 0))), 245, ([], [], [(226, 0, 0, ck_one 1)]))])
set_option maxRecDepth 100000 in
theorem p2_s296_e : ck_ok p2_O none [] [(288, [p2_s290]), (282, [p2_s241]), (289, [p2_s295])] 287 [] 110 p2_s296 = true := by decide +kernel
theorem p2_s296_s {X : Int → Int} {LX : Nat} : ck_Ok p2_O X LX 287 p2_s296 := ck_ok_s ⟨p2_nmu, ck_E1 (ck_S1 p2_s290_s ck_S0) (ck_E1 (ck_S1 p2_s241_s ck_S0) (ck_E1 (ck_S1 p2_s295_s ck_S0) ck_E0))⟩ ck_X0 ck_l0 p2_s296_e
set_option maxRecDepth 100000 in
/-- GlacierMailModel.in -/
def p2_s297 : ck_Sum := ((0, 0, 0), 245, [.inl (0, 98, []), .inl (ck_one 0), .inl ((-1), 98, [])], ([], [], []), ([], []), [(.inr (some (.inl (ck_one 0))), 245, ([], [], [])), (.inr (some (.inl (ck_one 1))), 245, ([], [], []))])
set_option maxRecDepth 100000 in
theorem p2_s297_e : ck_ok p2_O none [] [] 286 [] 88 p2_s297 = true := by decide +kernel
theorem p2_s297_s {X : Int → Int} {LX : Nat} : ck_Ok p2_O X LX 286 p2_s297 := ck_ok_s ⟨p2_nmu, ck_E0⟩ ck_X0 ck_l0 p2_s297_e
set_option maxRecDepth 100000 in
/-- GlacierMailModel.noRow -/
def p2_s298 : ck_Sum := ((1, 0, 0), 245, [.inr (.inr (.inl 226)), .inl (0, 98, [])], ([], [], []), ([], []), [(.inr (some (.inl (ck_one 1))), 245, ([], [], [])), (.inr (some (.inl (ck_one 0))), 245, ([], [], []))])
set_option maxRecDepth 100000 in
theorem p2_s298_e : ck_ok p2_O none [] [(259, [p2_s180]), (286, [p2_s297])] 289 [] 92 p2_s298 = true := by decide +kernel
theorem p2_s298_s {X : Int → Int} {LX : Nat} : ck_Ok p2_O X LX 289 p2_s298 := ck_ok_s ⟨p2_nmu, ck_E1 (ck_S1 p2_s180_s ck_S0) (ck_E1 (ck_S1 p2_s297_s ck_S0) ck_E0)⟩ ck_X0 ck_l0 p2_s298_e
set_option maxRecDepth 100000 in
/-- GlacierMailModel.speedAt -/
def p2_s299 : ck_Sum := ((0, 0, 0), 245, [.inr (.inr (.inl 226)), .inl (0, 6, []), .inl (0, 98, [])], ([], [], [(227, 2, 2, (0, 8, [(20, 0)]))]), ([], []), [(.inr (some (.inl (0, 299, []))), 245, ([], [], []))])
set_option maxRecDepth 100000 in
theorem p2_s299_e : ck_ok p2_O none [] [] 290 [(5, [some (.inr (.inr (.inl 226))), some (.inl (0, 6, [])), some (.inl (0, 98, [])), some (.inl (0, 299, [])), some (.inl (0, 8, []))], ([], [], [(227, 2, 2, (0, 8, [(20, 0)]))]), 100, .inl 4, true)] 222 p2_s299 = true := by decide +kernel
theorem p2_s299_s {X : Int → Int} {LX : Nat} : ck_Ok p2_O X LX 290 p2_s299 := ck_ok_s ⟨p2_nmu, ck_E0⟩ ck_X0 ck_l0 p2_s299_e
set_option maxRecDepth 100000 in
/-- GlacierMailModel.speed -/
def p2_s300 : ck_Sum := ((2, 0, 0), 245, [.inr (.inr (.inl 226)), .inl (0, 5, []), .inl (0, 98, [])], ([], [], [(227, 2, 2, (0, 8, [(20, 0)]))]), ([(226, 0, 0)], []), [(.inr (some (.inl (0, 299, []))), 245, ([], [], [(226, 0, 0, (0, 1, []))]))])
set_option maxRecDepth 100000 in
theorem p2_s300_e : ck_ok p2_O none [] [(288, [p2_s290]), (282, [p2_s241, p2_s242]), (289, [p2_s298]), (290, [p2_s299])] 287 [] 112 p2_s300 = true := by decide +kernel
theorem p2_s300_s {X : Int → Int} {LX : Nat} : ck_Ok p2_O X LX 287 p2_s300 := ck_ok_s ⟨p2_nmu, ck_E1 (ck_S1 p2_s290_s ck_S0) (ck_E1 (ck_S1 p2_s241_s (ck_S1 p2_s242_s ck_S0)) (ck_E1 (ck_S1 p2_s298_s ck_S0) (ck_E1 (ck_S1 p2_s299_s ck_S0) ck_E0)))⟩ ck_X0 ck_l0 p2_s300_e
set_option maxRecDepth 100000 in
/-- GlacierMail.flow -/
def p2_s301 : ck_Sum := ((8, 1, 6), 245, [.inr (.inr (.inl 1)), .inl ((-2147483648), (-1), []), .inl ((-2147483648), 2147483647, []), .inl ((-2147483648), 2147483647, [])], ([], [], []), ([], []), [(.inl 3, 245, ([], [], []))])
set_option maxRecDepth 100000 in
theorem p2_s301_e : ck_ok p2_O none [] [(132, [p2_s266])] 136 [] 76 p2_s301 = true := by decide +kernel
theorem p2_s301_s {X : Int → Int} {LX : Nat} : ck_Ok p2_O X LX 136 p2_s301 := ck_ok_s ⟨p2_nmu, ck_E1 (ck_S1 p2_s266_s ck_S0) ck_E0⟩ ck_X0 ck_l0 p2_s301_e
set_option maxRecDepth 100000 in
/-- GlacierMail.flow -/
def p2_s302 : ck_Sum := ((8, 1, 6), 245, [.inr (.inr (.inl 1)), .inl (6, 2147483647, []), .inl ((-2147483648), 2147483647, []), .inl ((-2147483648), 2147483647, [])], ([], [], []), ([], []), [(.inl 3, 245, ([], [], []))])
set_option maxRecDepth 100000 in
theorem p2_s302_e : ck_ok p2_O none [] [(132, [p2_s269])] 136 [] 76 p2_s302 = true := by decide +kernel
theorem p2_s302_s {X : Int → Int} {LX : Nat} : ck_Ok p2_O X LX 136 p2_s302 := ck_ok_s ⟨p2_nmu, ck_E1 (ck_S1 p2_s269_s ck_S0) ck_E0⟩ ck_X0 ck_l0 p2_s302_e
set_option maxRecDepth 100000 in
/-- GlacierMail.flow -/
def p2_s303 : ck_Sum := ((8, 2, 12), 245, [.inr (.inr (.inl 1)), .inl (0, 5, []), .inl ((-2147483648), (-1), []), .inl ((-2147483648), 2147483647, [])], ([], [], []), ([], []), [(.inl 3, 245, ([], [], []))])
set_option maxRecDepth 100000 in
theorem p2_s303_e : ck_ok p2_O none [] [(132, [p2_s272]), (134, [p2_s274])] 136 [] 82 p2_s303 = true := by decide +kernel
theorem p2_s303_s {X : Int → Int} {LX : Nat} : ck_Ok p2_O X LX 136 p2_s303 := ck_ok_s ⟨p2_nmu, ck_E1 (ck_S1 p2_s272_s ck_S0) (ck_E1 (ck_S1 p2_s274_s ck_S0) ck_E0)⟩ ck_X0 ck_l0 p2_s303_e
set_option maxRecDepth 100000 in
/-- GlacierMail.flow -/
def p2_s304 : ck_Sum := ((8, 2, 12), 245, [.inr (.inr (.inl 1)), .inl (0, 5, []), .inl (99, 2147483647, []), .inl ((-2147483648), 2147483647, [])], ([], [], []), ([], []), [(.inl 3, 245, ([], [], []))])
set_option maxRecDepth 100000 in
theorem p2_s304_e : ck_ok p2_O none [] [(132, [p2_s272]), (134, [p2_s277])] 136 [] 82 p2_s304 = true := by decide +kernel
theorem p2_s304_s {X : Int → Int} {LX : Nat} : ck_Ok p2_O X LX 136 p2_s304 := ck_ok_s ⟨p2_nmu, ck_E1 (ck_S1 p2_s272_s ck_S0) (ck_E1 (ck_S1 p2_s277_s ck_S0) ck_E0)⟩ ck_X0 ck_l0 p2_s304_e
set_option maxRecDepth 100000 in
/-- GlacierMail.flow -/
def p2_s305 : ck_Sum := ((8, 3, 18), 245, [.inr (.inr (.inl 1)), .inl (0, 5, []), .inl (0, 98, []), .inl ((-2147483648), (-1), [])], ([], [], []), ([], []), [(.inl 3, 245, ([], [], [])), (.inl 0, 245, ([], [], []))])
set_option maxRecDepth 100000 in
theorem p2_s305_e : ck_ok p2_O none [] [(132, [p2_s272]), (134, [p2_s280]), (129, [p2_s249])] 136 [] 88 p2_s305 = true := by decide +kernel
theorem p2_s305_s {X : Int → Int} {LX : Nat} : ck_Ok p2_O X LX 136 p2_s305 := ck_ok_s ⟨p2_nmu, ck_E1 (ck_S1 p2_s272_s ck_S0) (ck_E1 (ck_S1 p2_s280_s ck_S0) (ck_E1 (ck_S1 p2_s249_s ck_S0) ck_E0))⟩ ck_X0 ck_l0 p2_s305_e
set_option maxRecDepth 100000 in
/-- GlacierMail.flow -/
def p2_s306 : ck_Sum := ((8, 3, 18), 245, [.inr (.inr (.inl 1)), .inl (0, 5, []), .inl (0, 98, []), .inl (300, 2147483647, [])], ([], [], []), ([], []), [(.inl 3, 245, ([], [], [])), (.inl 0, 245, ([], [], []))])
set_option maxRecDepth 100000 in
theorem p2_s306_e : ck_ok p2_O none [] [(132, [p2_s272]), (134, [p2_s280]), (129, [p2_s251])] 136 [] 88 p2_s306 = true := by decide +kernel
theorem p2_s306_s {X : Int → Int} {LX : Nat} : ck_Ok p2_O X LX 136 p2_s306 := ck_ok_s ⟨p2_nmu, ck_E1 (ck_S1 p2_s272_s ck_S0) (ck_E1 (ck_S1 p2_s280_s ck_S0) (ck_E1 (ck_S1 p2_s251_s ck_S0) ck_E0))⟩ ck_X0 ck_l0 p2_s306_e
set_option maxRecDepth 100000 in
/-- GlacierMail$Ice.speedAt -/
def p2_s307 : ck_Sum := ((0, 0, 0), 245, [.inr (.inr (.inl 200)), .inl ((-2147483648), 2147483647, []), .inl ((-2147483648), 2147483647, [])], ([], [], []), ([], []), [(.inr (some (.inl (ck_one 0))), 245, ([], [], [])), (.inr (some (.inl ((-1), 98, []))), 245, ([], [], []))])
set_option maxRecDepth 100000 in
theorem p2_s307_e : ck_ok p2_O none [] [] 36 [] 108 p2_s307 = true := by decide +kernel
theorem p2_s307_s {X : Int → Int} {LX : Nat} : ck_Ok p2_O X LX 36 p2_s307 := ck_ok_s ⟨p2_nmu, ck_E0⟩ ck_X0 ck_l0 p2_s307_e
set_option maxRecDepth 100000 in
/-- GlacierMail$Ice.flowAt -/
def p2_s308 : ck_Sum := ((1, 0, 0), 245, [.inr (.inr (.inl 200)), .inl ((-2147483648), 2147483647, []), .inl ((-2147483648), 2147483647, []), .inl ((-2147483648), 2147483647, [])], ([], [(3, 8, 0)], []), ([], []), [(.inr (some (.inl (ck_one 0))), 245, ([], [], [])), (.inr (some (.inl ((-1), 98, []))), 245, ([], [], []))])
set_option maxRecDepth 100000 in
theorem p2_s308_e : ck_ok p2_O none [] [(36, [p2_s307])] 35 [] 92 p2_s308 = true := by decide +kernel
theorem p2_s308_s {X : Int → Int} {LX : Nat} : ck_Ok p2_O X LX 35 p2_s308 := ck_ok_s ⟨p2_nmu, ck_E1 (ck_S1 p2_s307_s ck_S0) ck_E0⟩ ck_X0 ck_l0 p2_s308_e
set_option maxRecDepth 100000 in
/-- GlacierMail.flow -/
def p2_s309 : ck_Sum := ((8, 2, 12), 245, [.inr (.inr (.inl 1)), .inl (0, 5, []), .inl (0, 98, []), .inl (0, 299, [])], ([], [(3, 8, 0)], []), ([], []), [(.inl 3, 245, ([], [], [])), (.inr (some (.inl (ck_one 0))), 245, ([], [], [])), (.inr (some (.inl ((-1), 98, []))), 245, ([], [], []))])
set_option maxRecDepth 100000 in
theorem p2_s309_e : ck_ok p2_O none [] [(132, [p2_s272]), (134, [p2_s280]), (129, [p2_s253]), (35, [p2_s308])] 136 [] 102 p2_s309 = true := by decide +kernel
theorem p2_s309_s {X : Int → Int} {LX : Nat} : ck_Ok p2_O X LX 136 p2_s309 := ck_ok_s ⟨p2_nmu, ck_E1 (ck_S1 p2_s272_s ck_S0) (ck_E1 (ck_S1 p2_s280_s ck_S0) (ck_E1 (ck_S1 p2_s253_s ck_S0) (ck_E1 (ck_S1 p2_s308_s ck_S0) ck_E0)))⟩ ck_X0 ck_l0 p2_s309_e
set_option maxRecDepth 100000 in
/-- GlacierMailModel.flow -/
def p2_s310 : ck_Sum := ((2, 0, 0), 245, [.inr (.inr (.inl 226)), .inl ((-2147483648), (-1), []), .inl ((-2147483648), 2147483647, []), .inl ((-2147483648), 2147483647, [])], ([], [], []), ([(226, 0, 0)], []), [(.inr (some (.inl (ck_one 0))), 245, ([], [], [(226, 0, 0, ck_one 1)]))])
set_option maxRecDepth 100000 in
theorem p2_s310_e : ck_ok p2_O none [] [(288, [p2_s284]), (282, [p2_s241])] 291 [] 102 p2_s310 = true := by decide +kernel
theorem p2_s310_s {X : Int → Int} {LX : Nat} : ck_Ok p2_O X LX 291 p2_s310 := ck_ok_s ⟨p2_nmu, ck_E1 (ck_S1 p2_s284_s ck_S0) (ck_E1 (ck_S1 p2_s241_s ck_S0) ck_E0)⟩ ck_X0 ck_l0 p2_s310_e
set_option maxRecDepth 100000 in
/-- GlacierMailModel.flow -/
def p2_s311 : ck_Sum := ((2, 0, 0), 245, [.inr (.inr (.inl 226)), .inl (6, 2147483647, []), .inl ((-2147483648), 2147483647, []), .inl ((-2147483648), 2147483647, [])], ([], [], []), ([(226, 0, 0)], []), [(.inr (some (.inl (ck_one 0))), 245, ([], [], [(226, 0, 0, ck_one 1)]))])
set_option maxRecDepth 100000 in
theorem p2_s311_e : ck_ok p2_O none [] [(288, [p2_s287]), (282, [p2_s241])] 291 [] 102 p2_s311 = true := by decide +kernel
theorem p2_s311_s {X : Int → Int} {LX : Nat} : ck_Ok p2_O X LX 291 p2_s311 := ck_ok_s ⟨p2_nmu, ck_E1 (ck_S1 p2_s287_s ck_S0) (ck_E1 (ck_S1 p2_s241_s ck_S0) ck_E0)⟩ ck_X0 ck_l0 p2_s311_e
set_option maxRecDepth 100000 in
/-- GlacierMailModel.flow -/
def p2_s312 : ck_Sum := ((2, 0, 0), 245, [.inr (.inr (.inl 226)), .inl (0, 5, []), .inl ((-2147483648), (-1), []), .inl ((-2147483648), 2147483647, [])], ([], [], []), ([(226, 0, 0)], []), [(.inr (some (.inl (ck_one 0))), 245, ([], [], [(226, 0, 0, ck_one 1)]))])
set_option maxRecDepth 100000 in
theorem p2_s312_e : ck_ok p2_O none [] [(288, [p2_s290]), (282, [p2_s241]), (289, [p2_s292])] 291 [] 110 p2_s312 = true := by decide +kernel
theorem p2_s312_s {X : Int → Int} {LX : Nat} : ck_Ok p2_O X LX 291 p2_s312 := ck_ok_s ⟨p2_nmu, ck_E1 (ck_S1 p2_s290_s ck_S0) (ck_E1 (ck_S1 p2_s241_s ck_S0) (ck_E1 (ck_S1 p2_s292_s ck_S0) ck_E0))⟩ ck_X0 ck_l0 p2_s312_e
set_option maxRecDepth 100000 in
/-- GlacierMailModel.flow -/
def p2_s313 : ck_Sum := ((2, 0, 0), 245, [.inr (.inr (.inl 226)), .inl (0, 5, []), .inl (99, 2147483647, []), .inl ((-2147483648), 2147483647, [])], ([], [], []), ([(226, 0, 0)], []), [(.inr (some (.inl (ck_one 0))), 245, ([], [], [(226, 0, 0, ck_one 1)]))])
set_option maxRecDepth 100000 in
theorem p2_s313_e : ck_ok p2_O none [] [(288, [p2_s290]), (282, [p2_s241]), (289, [p2_s295])] 291 [] 110 p2_s313 = true := by decide +kernel
theorem p2_s313_s {X : Int → Int} {LX : Nat} : ck_Ok p2_O X LX 291 p2_s313 := ck_ok_s ⟨p2_nmu, ck_E1 (ck_S1 p2_s290_s ck_S0) (ck_E1 (ck_S1 p2_s241_s ck_S0) (ck_E1 (ck_S1 p2_s295_s ck_S0) ck_E0))⟩ ck_X0 ck_l0 p2_s313_e
set_option maxRecDepth 100000 in
/-- GlacierMailModel.flow -/
def p2_s314 : ck_Sum := ((2, 0, 0), 245, [.inr (.inr (.inl 226)), .inl (0, 5, []), .inl (0, 98, []), .inl ((-2147483648), (-1), [])], ([], [], []), ([(226, 0, 0)], []), [(.inr (some (.inl (ck_one 0))), 245, ([], [], [(226, 0, 0, (1, 2, []))]))])
set_option maxRecDepth 100000 in
theorem p2_s314_e : ck_ok p2_O none [] [(288, [p2_s290]), (282, [p2_s241, p2_s242, p2_s244]), (289, [p2_s298]), (285, [p2_s257])] 291 [] 120 p2_s314 = true := by decide +kernel
theorem p2_s314_s {X : Int → Int} {LX : Nat} : ck_Ok p2_O X LX 291 p2_s314 := ck_ok_s ⟨p2_nmu, ck_E1 (ck_S1 p2_s290_s ck_S0) (ck_E1 (ck_S1 p2_s241_s (ck_S1 p2_s242_s (ck_S1 p2_s244_s ck_S0))) (ck_E1 (ck_S1 p2_s298_s ck_S0) (ck_E1 (ck_S1 p2_s257_s ck_S0) ck_E0)))⟩ ck_X0 ck_l0 p2_s314_e
set_option maxRecDepth 100000 in
/-- GlacierMailModel.flow -/
def p2_s315 : ck_Sum := ((2, 0, 0), 245, [.inr (.inr (.inl 226)), .inl (0, 5, []), .inl (0, 98, []), .inl (300, 2147483647, [])], ([], [], []), ([(226, 0, 0)], []), [(.inr (some (.inl (ck_one 0))), 245, ([], [], [(226, 0, 0, (1, 2, []))]))])
set_option maxRecDepth 100000 in
theorem p2_s315_e : ck_ok p2_O none [] [(288, [p2_s290]), (282, [p2_s241, p2_s242, p2_s244]), (289, [p2_s298]), (285, [p2_s260])] 291 [] 120 p2_s315 = true := by decide +kernel
theorem p2_s315_s {X : Int → Int} {LX : Nat} : ck_Ok p2_O X LX 291 p2_s315 := ck_ok_s ⟨p2_nmu, ck_E1 (ck_S1 p2_s290_s ck_S0) (ck_E1 (ck_S1 p2_s241_s (ck_S1 p2_s242_s (ck_S1 p2_s244_s ck_S0))) (ck_E1 (ck_S1 p2_s298_s ck_S0) (ck_E1 (ck_S1 p2_s260_s ck_S0) ck_E0)))⟩ ck_X0 ck_l0 p2_s315_e
set_option maxRecDepth 100000 in
/-- GlacierMailModel.turnsTo -/
def p2_s316 : ck_Sum := ((0, 0, 0), 245, [.inr (.inr (.inl 226)), .inl (0, 6, [])], ([], [], []), ([(226, 26, 26), (235, 0, 29699)], []), [(.inr none, 245, ([], [], [(226, 26, 26, (0, 6, []))]))])
set_option maxRecDepth 100000 in
theorem p2_s316_e : ck_ok p2_O none [] [] 293 [(16, [some (.inr (.inr (.inl 226))), some (.inl (0, 6, [])), some (.inl (0, 29700, []))], ([], [], [(226, 26, 26, (0, 6, []))]), 100, .inl 2, true)] 142 p2_s316 = true := by decide +kernel
theorem p2_s316_s {X : Int → Int} {LX : Nat} : ck_Ok p2_O X LX 293 p2_s316 := ck_ok_s ⟨p2_nmu, ck_E0⟩ ck_X0 ck_l0 p2_s316_e
set_option maxRecDepth 100000 in
def p2_s318 : ck_Sum := ((4, 0, 0), 245, [.inr (.inr (.inl 226)), .inl (0, 6, []), .inl (0, 98, []), .inl (0, 299, [])], ([], [], [(227, 2, 2, (0, 8, [(20, 0)]))]), ([(226, 17, 23), (226, 26, 26), (233, 0, 399), (235, 0, 29699)], []), [(.inr (some (.inl (0, 30, []))), 245, ([], [], [(226, 26, 26, (0, 6, []))]))])
def p2_s318_E : List (Nat × List ck_Sum) := [(293, [p2_s316]), (290, [p2_s299]), (294, [sl_S])]
def p2_s318_L : ck_AL := [some (.inr (.inr (.inl 226))), some (.inl (0, 6, [])), some (.inl (0, 98, [])), some (.inl (0, 299, [])), some (.inl (0, 29699, [])), none]
set_option maxRecDepth 100000 in
def p2_s318_F : ck_F := ([], [], [(226, 26, 26, (0, 6, [])), (227, 2, 2, (0, 8, [(20, 0)]))])
def p2_s318_C : ck_C := (p2_s318_L, p2_s318_F, 0, .inl 4, true)
set_option maxRecDepth 100000 in
theorem p2_s318_a : (decide (p2_s318.2.2.1.length ≤ gm_ml 292) && ck_go p2_O none [] p2_s318_E 292 p2_s318.1.1 p2_s318.2.1 p2_s318.2.2.2.2.1 p2_s318.2.2.2.2.2 [(14, p2_s318_C)] 900 false [(14, p2_s318_C, 0, 0, 245)] p2_s318.1.2.1 p2_s318.1.2.2 0 (p2_s318.2.2.1.map some ++ List.replicate (gm_ml 292 - p2_s318.2.2.1.length) none) [] p2_s318.2.1 p2_s318.2.2.2.1) = true := by decide +kernel
set_option maxRecDepth 100000 in
theorem p2_s318_b : ck_go p2_O none [] p2_s318_E 292 p2_s318.1.1 p2_s318.2.1 p2_s318.2.2.2.2.1 p2_s318.2.2.2.2.2 [] 900 true [] 0 0 34 p2_s318_L [] 245 p2_s318_F = true := by decide +kernel
set_option maxRecDepth 100000 in
theorem p2_s318_f : gm_tyr p2_O 235 0 29699 = some (0, 31) := by decide +kernel
set_option maxRecDepth 100000 in
theorem p2_s318_g : ck_leF p2_O p2_s318_F (([], [], [(226, 26, 26, (0, 6, []))])) = true := by decide +kernel
theorem p2_s318_h {X : Int → Int} {LX : Nat} : ck_nmu p2_O ∧ ck_OkE p2_O X LX p2_s318_E := ⟨p2_nmu, ck_E1 (ck_S1 p2_s316_s ck_S0) (ck_E1 (ck_S1 p2_s299_s ck_S0) (ck_E1 (ck_S1 sl_S_s ck_S0) ck_E0))⟩
theorem p2_s318_s {X : Int → Int} {LX : Nat} : ck_Ok p2_O X LX 292 p2_s318 := by
  refine ck_ok_st (cuts := [(14, p2_s318_C)]) (by decide) p2_s318_h p2_s318_a (fun h hm => ?_)
  rw [List.mem_singleton.mp hm]
  refine ⟨List.mem_singleton.mpr rfl, fun σ K0 R0 M0 v _ bc bs L K R M hb1 hb2 hS _ => ?_⟩
  obtain ⟨hF, hl, hs, hf, hfr⟩ := hS
  obtain ⟨u0, e0, g0⟩ := hl.2 0 (.inr (.inr (.inl 226))) rfl
  cases g0
  obtain ⟨u4, e4, t, rfl, ht1, ht2, ht3, -⟩ := hl.2 4 (.inl (0, 29699, [])) rfl
  have ht2 : (0 : Int) ≤ t := ht2
  have ht3 : t ≤ (29699 : Int) := ht3
  obtain ⟨-, hM1, hM2⟩ := (gm_tyr_s hF p2_s318_f).2 t (by omega) (by omega)
  have hM1 : (0 : Int) ≤ M 235 t := hM1
  have hM2 : M 235 t ≤ (31 : Int) := hM2
  refine ck_flow (O := p2_O) hF (k := 226) (fl := 235) (by decide +kernel) (by decide +kernel) (by decide +kernel) e0 e4 ⟨by omega, by omega⟩ ⟨by omega, by omega⟩ (fun hp => ?_) ?_
  · exact ⟨hF, hfr, _, List.mem_cons_self, ⟨_, rfl, ⟨by omega, by omega⟩, by show (0 : Int) ≤ M 235 t - 1; omega, by show M 235 t - 1 ≤ (30 : Int); omega, fun _ h => nomatch h⟩, rfl, ck_leF_s hF hf p2_s318_g⟩
  · exact gm_Wp_wk (Nat.le_refl _) hb1 hb2 (ck_go_s (σ0 := σ) (cuts := []) (by decide) p2_s318_h ck_X0 ck_l0 900 true [] _ _ 34 _ [] _ _ σ L [] K R M (fun _ _ => rfl) (fun _ h => nomatch h) ⟨hF, hl, rfl, hf, hfr⟩ p2_s318_b)
set_option maxRecDepth 100000 in
/-- GlacierMailModel.flow -/
def p2_s319 : ck_Sum := ((5, 0, 0), 245, [.inr (.inr (.inl 226)), .inl (0, 5, []), .inl (0, 98, []), .inl (0, 299, [])], ([], [], [(227, 2, 2, (0, 8, [(20, 0)]))]), ([(226, 0, 0), (226, 17, 23), (226, 26, 26), (233, 0, 399), (235, 0, 29699)], []), [(.inr (some (.inl (0, 30, []))), 245, ([], [], [(226, 0, 0, (0, 1, []))]))])
set_option maxRecDepth 100000 in
theorem p2_s319_e : ck_ok p2_O none [] [(288, [p2_s290]), (282, [p2_s241, p2_s242, p2_s243]), (289, [p2_s298]), (285, [p2_s263]), (292, [p2_s318])] 291 [] 126 p2_s319 = true := by decide +kernel
theorem p2_s319_s {X : Int → Int} {LX : Nat} : ck_Ok p2_O X LX 291 p2_s319 := ck_ok_s ⟨p2_nmu, ck_E1 (ck_S1 p2_s290_s ck_S0) (ck_E1 (ck_S1 p2_s241_s (ck_S1 p2_s242_s (ck_S1 p2_s243_s ck_S0))) (ck_E1 (ck_S1 p2_s298_s ck_S0) (ck_E1 (ck_S1 p2_s263_s ck_S0) (ck_E1 (ck_S1 p2_s318_s ck_S0) ck_E0))))⟩ ck_X0 ck_l0 p2_s319_e
set_option maxRecDepth 100000 in
/-- GlacierMail$Rows.size -/
def p2_s320 : ck_Sum := ((0, 0, 0), 245, [.inr (.inr (.inl 8))], ([], [], []), ([], []), [(.inr (some (.inl (0, 8, []))), 245, ([], [], []))])
set_option maxRecDepth 100000 in
theorem p2_s320_e : ck_ok p2_O none [] [] 9 [] 76 p2_s320 = true := by decide +kernel
theorem p2_s320_s {X : Int → Int} {LX : Nat} : ck_Ok p2_O X LX 9 p2_s320 := ck_ok_s ⟨p2_nmu, ck_E0⟩ ck_X0 ck_l0 p2_s320_e
set_option maxRecDepth 100000 in
/-- GlacierMail.need -/
def p2_s321 : ck_Sum := ((6, 1, 6), 245, [.inr (.inr (.inl 1)), .inl ((-2147483648), (-1), []), .inl (0, 8, [])], ([], [], []), ([], []), [(.inl 3, 245, ([], [], []))])
set_option maxRecDepth 100000 in
theorem p2_s321_e : ck_ok p2_O none [] [] 133 [] 76 p2_s321 = true := by decide +kernel
theorem p2_s321_s {X : Int → Int} {LX : Nat} : ck_Ok p2_O X LX 133 p2_s321 := ck_ok_s ⟨p2_nmu, ck_E0⟩ ck_X0 ck_l0 p2_s321_e
set_option maxRecDepth 100000 in
/-- GlacierMail.needPerson -/
def p2_s322 : ck_Sum := ((7, 1, 6), 245, [.inr (.inr (.inl 1)), .inl ((-2147483648), (-1), [])], ([], [], []), ([], []), [(.inl 3, 245, ([], [], []))])
set_option maxRecDepth 100000 in
theorem p2_s322_e : ck_ok p2_O none [] [(9, [p2_s320]), (133, [p2_s321])] 139 [] 84 p2_s322 = true := by decide +kernel
theorem p2_s322_s {X : Int → Int} {LX : Nat} : ck_Ok p2_O X LX 139 p2_s322 := ck_ok_s ⟨p2_nmu, ck_E1 (ck_S1 p2_s320_s ck_S0) (ck_E1 (ck_S1 p2_s321_s ck_S0) ck_E0)⟩ ck_X0 ck_l0 p2_s322_e
set_option maxRecDepth 100000 in
/-- GlacierMail.person -/
def p2_s323 : ck_Sum := ((8, 1, 6), 245, [.inr (.inr (.inl 1)), .inl ((-2147483648), (-1), []), .inl ((-2147483648), 2147483647, [])], ([], [], []), ([], []), [(.inl 3, 245, ([], [], []))])
set_option maxRecDepth 100000 in
theorem p2_s323_e : ck_ok p2_O none [] [(139, [p2_s322])] 138 [] 76 p2_s323 = true := by decide +kernel
theorem p2_s323_s {X : Int → Int} {LX : Nat} : ck_Ok p2_O X LX 138 p2_s323 := ck_ok_s ⟨p2_nmu, ck_E1 (ck_S1 p2_s322_s ck_S0) ck_E0⟩ ck_X0 ck_l0 p2_s323_e
set_option maxRecDepth 100000 in
/-- GlacierMail.need -/
def p2_s324 : ck_Sum := ((6, 1, 6), 245, [.inr (.inr (.inl 1)), .inl (8, 2147483647, []), .inl (0, 8, [])], ([], [], []), ([], []), [(.inl 3, 245, ([], [], []))])
set_option maxRecDepth 100000 in
theorem p2_s324_e : ck_ok p2_O none [] [] 133 [] 82 p2_s324 = true := by decide +kernel
theorem p2_s324_s {X : Int → Int} {LX : Nat} : ck_Ok p2_O X LX 133 p2_s324 := ck_ok_s ⟨p2_nmu, ck_E0⟩ ck_X0 ck_l0 p2_s324_e
set_option maxRecDepth 100000 in
/-- GlacierMail.needPerson -/
def p2_s325 : ck_Sum := ((7, 1, 6), 245, [.inr (.inr (.inl 1)), .inl (8, 2147483647, [])], ([], [], []), ([], []), [(.inl 3, 245, ([], [], []))])
set_option maxRecDepth 100000 in
theorem p2_s325_e : ck_ok p2_O none [] [(9, [p2_s320]), (133, [p2_s324])] 139 [] 84 p2_s325 = true := by decide +kernel
theorem p2_s325_s {X : Int → Int} {LX : Nat} : ck_Ok p2_O X LX 139 p2_s325 := ck_ok_s ⟨p2_nmu, ck_E1 (ck_S1 p2_s320_s ck_S0) (ck_E1 (ck_S1 p2_s324_s ck_S0) ck_E0)⟩ ck_X0 ck_l0 p2_s325_e
set_option maxRecDepth 100000 in
/-- GlacierMail.person -/
def p2_s326 : ck_Sum := ((8, 1, 6), 245, [.inr (.inr (.inl 1)), .inl (8, 2147483647, []), .inl ((-2147483648), 2147483647, [])], ([], [], []), ([], []), [(.inl 3, 245, ([], [], []))])
set_option maxRecDepth 100000 in
theorem p2_s326_e : ck_ok p2_O none [] [(139, [p2_s325])] 138 [] 76 p2_s326 = true := by decide +kernel
theorem p2_s326_s {X : Int → Int} {LX : Nat} : ck_Ok p2_O X LX 138 p2_s326 := ck_ok_s ⟨p2_nmu, ck_E1 (ck_S1 p2_s325_s ck_S0) ck_E0⟩ ck_X0 ck_l0 p2_s326_e
set_option maxRecDepth 100000 in
/-- GlacierMail.need -/
def p2_s327 : ck_Sum := ((6, 1, 6), 245, [.inr (.inr (.inl 1)), .inl (0, 7, []), .inl (0, 8, [])], ([], [], []), ([], []), [(.inr none, 245, ([], [], [])), (.inl 3, 245, ([], [], []))])
set_option maxRecDepth 100000 in
theorem p2_s327_e : ck_ok p2_O none [] [] 133 [] 82 p2_s327 = true := by decide +kernel
theorem p2_s327_s {X : Int → Int} {LX : Nat} : ck_Ok p2_O X LX 133 p2_s327 := ck_ok_s ⟨p2_nmu, ck_E0⟩ ck_X0 ck_l0 p2_s327_e
set_option maxRecDepth 100000 in
/-- GlacierMail.needPerson -/
def p2_s328 : ck_Sum := ((7, 1, 6), 245, [.inr (.inr (.inl 1)), .inl (0, 7, [])], ([], [], []), ([], []), [(.inl 3, 245, ([], [], [])), (.inr none, 245, ([], [], []))])
set_option maxRecDepth 100000 in
theorem p2_s328_e : ck_ok p2_O none [] [(9, [p2_s320]), (133, [p2_s327])] 139 [] 86 p2_s328 = true := by decide +kernel
theorem p2_s328_s {X : Int → Int} {LX : Nat} : ck_Ok p2_O X LX 139 p2_s328 := ck_ok_s ⟨p2_nmu, ck_E1 (ck_S1 p2_s320_s ck_S0) (ck_E1 (ck_S1 p2_s327_s ck_S0) ck_E0)⟩ ck_X0 ck_l0 p2_s328_e
set_option maxRecDepth 100000 in
/-- GlacierMail.person -/
def p2_s329 : ck_Sum := ((8, 2, 12), 245, [.inr (.inr (.inl 1)), .inl (0, 7, []), .inl ((-2147483648), (-1), [])], ([], [], []), ([], []), [(.inl 3, 245, ([], [], [])), (.inl 4, 245, ([], [], []))])
set_option maxRecDepth 100000 in
theorem p2_s329_e : ck_ok p2_O none [] [(139, [p2_s328])] 138 [] 82 p2_s329 = true := by decide +kernel
theorem p2_s329_s {X : Int → Int} {LX : Nat} : ck_Ok p2_O X LX 138 p2_s329 := ck_ok_s ⟨p2_nmu, ck_E1 (ck_S1 p2_s328_s ck_S0) ck_E0⟩ ck_X0 ck_l0 p2_s329_e
set_option maxRecDepth 100000 in
/-- GlacierMail.person -/
def p2_s330 : ck_Sum := ((8, 2, 12), 245, [.inr (.inr (.inl 1)), .inl (0, 7, []), .inl (10, 2147483647, [])], ([], [], []), ([], []), [(.inl 3, 245, ([], [], [])), (.inl 4, 245, ([], [], []))])
set_option maxRecDepth 100000 in
theorem p2_s330_e : ck_ok p2_O none [] [(139, [p2_s328])] 138 [] 82 p2_s330 = true := by decide +kernel
theorem p2_s330_s {X : Int → Int} {LX : Nat} : ck_Ok p2_O X LX 138 p2_s330 := ck_ok_s ⟨p2_nmu, ck_E1 (ck_S1 p2_s328_s ck_S0) ck_E0⟩ ck_X0 ck_l0 p2_s330_e
set_option maxRecDepth 100000 in
/-- GlacierMail$Rows.size -/
def p2_s331 : ck_Sum := ((0, 0, 0), 245, [.inr (.inr (.inl 10))], ([], [], []), ([], []), [(.inr (some (.inl (0, 24, []))), 245, ([], [], []))])
set_option maxRecDepth 100000 in
theorem p2_s331_e : ck_ok p2_O none [] [] 9 [] 76 p2_s331 = true := by decide +kernel
theorem p2_s331_s {X : Int → Int} {LX : Nat} : ck_Ok p2_O X LX 9 p2_s331 := ck_ok_s ⟨p2_nmu, ck_E0⟩ ck_X0 ck_l0 p2_s331_e
set_option maxRecDepth 100000 in
/-- GlacierMail$Rows.size -/
def p2_s332 : ck_Sum := ((0, 0, 0), 245, [.inr (.inr (.inl 220))], ([], [], []), ([], []), [(.inr (some (.inl (0, 24, []))), 245, ([], [], []))])
set_option maxRecDepth 100000 in
theorem p2_s332_e : ck_ok p2_O none [] [] 9 [] 76 p2_s332 = true := by decide +kernel
theorem p2_s332_s {X : Int → Int} {LX : Nat} : ck_Ok p2_O X LX 9 p2_s332 := ck_ok_s ⟨p2_nmu, ck_E0⟩ ck_X0 ck_l0 p2_s332_e
set_option maxRecDepth 100000 in
/-- java/util/Arrays.fill -/
def p2_s333 : ck_Sum := ((0, 0, 0), 245, [.inr (.inr (.inl 221)), .inl (ck_one 0)], ([], [], []), ([(221, 0, 47)], []), [(.inr none, 245, ([], [], []))])
set_option maxRecDepth 100000 in
theorem p2_s333_e : ck_ok p2_O none [] [] 8 [(5, [some (.inr (.inr (.inl 221))), some (.inl (ck_one 0)), some (.inl (0, 48, [])), some (.inl (ck_one 48))], ([], [], []), 100, .inl 2, true)] 130 p2_s333 = true := by decide +kernel
theorem p2_s333_s {X : Int → Int} {LX : Nat} : ck_Ok p2_O X LX 8 p2_s333 := ck_ok_s ⟨p2_nmu, ck_E0⟩ ck_X0 ck_l0 p2_s333_e
set_option maxRecDepth 100000 in
/-- GlacierMail$Rows.reset -/
def p2_s334 : ck_Sum := ((1, 0, 0), 245, [.inr (.inr (.inl 220)), .inl (0, 24, [])], ([], [], []), ([(220, 3, 3), (221, 0, 47)], []), [(.inr none, 245, ([], [], []))])
set_option maxRecDepth 100000 in
theorem p2_s334_e : ck_ok p2_O none [] [(8, [p2_s333])] 25 [] 96 p2_s334 = true := by decide +kernel
theorem p2_s334_s {X : Int → Int} {LX : Nat} : ck_Ok p2_O X LX 25 p2_s334 := ck_ok_s ⟨p2_nmu, ck_E1 (ck_S1 p2_s333_s ck_S0) ck_E0⟩ ck_X0 ck_l0 p2_s334_e
set_option maxRecDepth 100000 in
/-- GlacierMail$Rows.get -/
def p2_s335 : ck_Sum := ((0, 0, 0), 245, [.inr (.inr (.inl 10)), .inl ((-2147483648), 2147483647, []), .inl ((-2147483648), 2147483647, [])], ([], [], []), ([], []), [(.inr (some (.inl ((-1), 299, []))), 245, ([], [], []))])
set_option maxRecDepth 100000 in
theorem p2_s335_e : ck_ok p2_O none [] [] 10 [] 114 p2_s335 = true := by decide +kernel
theorem p2_s335_s {X : Int → Int} {LX : Nat} : ck_Ok p2_O X LX 10 p2_s335 := ck_ok_s ⟨p2_nmu, ck_E0⟩ ck_X0 ck_l0 p2_s335_e
set_option maxRecDepth 100000 in
/-- GlacierMail$State.isRock -/
def p2_s336 : ck_Sum := ((1, 0, 0), 245, [.inr (.inr (.inl 3)), .inl (0, 23, [])], ([], [], []), ([], []), [(.inr (some (.inl (ck_one 0))), 245, ([], [], [])), (.inr (some (.inl (ck_one 1))), 245, ([], [], []))])
set_option maxRecDepth 100000 in
theorem p2_s336_e : ck_ok p2_O none [] [(10, [p2_s335])] 28 [] 90 p2_s336 = true := by decide +kernel
theorem p2_s336_s {X : Int → Int} {LX : Nat} : ck_Ok p2_O X LX 28 p2_s336 := ck_ok_s ⟨p2_nmu, ck_E1 (ck_S1 p2_s335_s ck_S0) ck_E0⟩ ck_X0 ck_l0 p2_s336_e
set_option maxRecDepth 100000 in
/-- GlacierMail$Way.start -/
def p2_s337 : ck_Sum := ((0, 0, 0), 245, [.inr (.inr (.inl 206)), .inl ((-1), 299, []), .inl ((-1), 299, []), .inl ((-1), 299, []), .inl (ck_one 0)], ([], [], []), ([(206, 2, 8)], []), [(.inr none, 245, ([], [], [(206, 8, 8, ck_one 0), (206, 6, 6, ck_one 0), (206, 4, 4, ck_one (-1)), (206, 3, 3, ck_one 0), (206, 7, 7, ((-1), 299, [])), (206, 5, 5, ((-1), 299, [])), (206, 2, 2, ((-1), 299, []))]))])
set_option maxRecDepth 100000 in
theorem p2_s337_e : ck_ok p2_O none [] [] 29 [] 114 p2_s337 = true := by decide +kernel
theorem p2_s337_s {X : Int → Int} {LX : Nat} : ck_Ok p2_O X LX 29 p2_s337 := ck_ok_s ⟨p2_nmu, ck_E0⟩ ck_X0 ck_l0 p2_s337_e
set_option maxRecDepth 100000 in
/-- GlacierMail$Way.start -/
def p2_s338 : ck_Sum := ((0, 0, 0), 245, [.inr (.inr (.inl 206)), .inl ((-1), 299, []), .inl ((-1), 299, []), .inl ((-1), 299, []), .inl (ck_one 1)], ([], [], []), ([(206, 2, 8)], []), [(.inr none, 245, ([], [], [(206, 8, 8, ck_one 0), (206, 6, 6, ck_one 0), (206, 4, 4, ck_one (-1)), (206, 3, 3, ck_one 1), (206, 7, 7, ((-1), 299, [])), (206, 5, 5, ((-1), 299, [])), (206, 2, 2, ((-1), 299, []))]))])
set_option maxRecDepth 100000 in
theorem p2_s338_e : ck_ok p2_O none [] [] 29 [] 114 p2_s338 = true := by decide +kernel
theorem p2_s338_s {X : Int → Int} {LX : Nat} : ck_Ok p2_O X LX 29 p2_s338 := ck_ok_s ⟨p2_nmu, ck_E0⟩ ck_X0 ck_l0 p2_s338_e
set_option maxRecDepth 100000 in
/-- GlacierMail$Way.startLetter -/
def p2_s339 : ck_Sum := ((2, 0, 0), 245, [.inr (.inr (.inl 206)), .inl (0, 23, [])], ([], [], []), ([(206, 2, 8)], []), [(.inr none, 245, ([], [], [(206, 8, 8, ck_one 0), (206, 6, 6, ck_one 0), (206, 4, 4, ck_one (-1)), (206, 7, 7, ((-1), 299, [])), (206, 5, 5, ((-1), 299, [])), (206, 2, 2, ((-1), 299, []))]))])
set_option maxRecDepth 100000 in
theorem p2_s339_e : ck_ok p2_O none [] [(10, [p2_s335]), (28, [p2_s336]), (29, [p2_s337, p2_s338])] 27 [] 116 p2_s339 = true := by decide +kernel
theorem p2_s339_s {X : Int → Int} {LX : Nat} : ck_Ok p2_O X LX 27 p2_s339 := ck_ok_s ⟨p2_nmu, ck_E1 (ck_S1 p2_s335_s ck_S0) (ck_E1 (ck_S1 p2_s336_s ck_S0) (ck_E1 (ck_S1 p2_s337_s (ck_S1 p2_s338_s ck_S0)) ck_E0))⟩ ck_X0 ck_l0 p2_s339_e
set_option maxRecDepth 100000 in
/-- GlacierMail$Way.isOut -/
def p2_s340 : ck_Sum := ((0, 0, 0), 245, [.inr (.inr (.inl 206))], ([], [], []), ([], []), [(.inr (some (.inl (ck_one 0))), 245, ([], [], [(206, 5, 5, ((-2147483648), 98, []))])), (.inr (some (.inl (ck_one 1))), 245, ([], [], [(206, 5, 5, (10, 2147483647, []))]))])
set_option maxRecDepth 100000 in
theorem p2_s340_e : ck_ok p2_O none [] [] 31 [] 88 p2_s340 = true := by decide +kernel
theorem p2_s340_s {X : Int → Int} {LX : Nat} : ck_Ok p2_O X LX 31 p2_s340 := ck_ok_s ⟨p2_nmu, ck_E0⟩ ck_X0 ck_l0 p2_s340_e
set_option maxRecDepth 100000 in
/-- GlacierMail$Ice.heatIn -/
def p2_s341 : ck_Sum := ((0, 0, 0), 245, [.inr (.inr (.inl 200)), .inl ((-2147483648), 2147483647, [])], ([], [], []), ([], []), [(.inr (some (.inl (0, 9, []))), 245, ([], [], []))])
set_option maxRecDepth 100000 in
theorem p2_s341_e : ck_ok p2_O none [] [] 34 [] 92 p2_s341 = true := by decide +kernel
theorem p2_s341_s {X : Int → Int} {LX : Nat} : ck_Ok p2_O X LX 34 p2_s341 := ck_ok_s ⟨p2_nmu, ck_E0⟩ ck_X0 ck_l0 p2_s341_e
set_option maxRecDepth 100000 in
/-- GlacierMail$Way.deepAfter -/
def p2_s342 : ck_Sum := ((1, 0, 0), 245, [.inr (.inr (.inl 206))], ([], [], []), ([], []), [(.inr (some (.inl (0, 99, []))), 245, ([], [], []))])
set_option maxRecDepth 100000 in
theorem p2_s342_e : ck_ok p2_O none [] [(34, [p2_s341])] 33 [] 110 p2_s342 = true := by decide +kernel
theorem p2_s342_s {X : Int → Int} {LX : Nat} : ck_Ok p2_O X LX 33 p2_s342 := ck_ok_s ⟨p2_nmu, ck_E1 (ck_S1 p2_s341_s ck_S0) ck_E0⟩ ck_X0 ck_l0 p2_s342_e
set_option maxRecDepth 100000 in
/-- GlacierMail$Ice.floodsIn -/
def p2_s343 : ck_Sum := ((0, 0, 0), 245, [.inr (.inr (.inl 200)), .inl ((-2147483648), 2147483647, [])], ([], [], []), ([], []), [(.inr (some (.inl (ck_one 0))), 245, ([], [], [])), (.inr (some (.inl ((-2147483648), 2147483647, []))), 245, ([], [], []))])
set_option maxRecDepth 100000 in
theorem p2_s343_e : ck_ok p2_O none [] [] 44 [] 92 p2_s343 = true := by decide +kernel
theorem p2_s343_s {X : Int → Int} {LX : Nat} : ck_Ok p2_O X LX 44 p2_s343 := ck_ok_s ⟨p2_nmu, ck_E0⟩ ck_X0 ck_l0 p2_s343_e
set_option maxRecDepth 100000 in
/-- GlacierMail$Way.takeFloods -/
def p2_s344 : ck_Sum := ((1, 0, 0), 245, [.inr (.inr (.inl 206))], ([], [], []), ([(206, 5, 5), (206, 8, 8)], []), [(.inr none, 245, ([], [], []))])
set_option maxRecDepth 100000 in
theorem p2_s344_e : ck_ok p2_O none [] [(44, [p2_s343]), (9, [p2_s139]), (10, [p2_s140])] 43 [(22, [some (.inr (.inr (.inl 206))), some (.inr (.inr (.inl 6))), some (.inl ((-2147483648), 2147483647, [])), some (.inl (0, 9, [])), none], ([], [], []), 100, .inl 3, true)] 290 p2_s344 = true := by decide +kernel
theorem p2_s344_s {X : Int → Int} {LX : Nat} : ck_Ok p2_O X LX 43 p2_s344 := ck_ok_s ⟨p2_nmu, ck_E1 (ck_S1 p2_s343_s ck_S0) (ck_E1 (ck_S1 p2_s139_s ck_S0) (ck_E1 (ck_S1 p2_s140_s ck_S0) ck_E0))⟩ ck_X0 ck_l0 p2_s344_e
set_option maxRecDepth 100000 in
/-- GlacierMail$Way.step -/
def p2_s345 : ck_Sum := ((2, 0, 0), 245, [.inr (.inr (.inl 206))], ([], [(3, 8, 0)], []), ([(206, 5, 8)], []), [(.inr none, 245, ([], [], []))])
set_option maxRecDepth 100000 in
theorem p2_s345_e : ck_ok p2_O none [] [(31, [p2_s340]), (33, [p2_s342]), (35, [p2_s308]), (43, [p2_s344])] 32 [] 134 p2_s345 = true := by decide +kernel
theorem p2_s345_s {X : Int → Int} {LX : Nat} : ck_Ok p2_O X LX 32 p2_s345 := ck_ok_s ⟨p2_nmu, ck_E1 (ck_S1 p2_s340_s ck_S0) (ck_E1 (ck_S1 p2_s342_s ck_S0) (ck_E1 (ck_S1 p2_s308_s ck_S0) (ck_E1 (ck_S1 p2_s344_s ck_S0) ck_E0)))⟩ ck_X0 ck_l0 p2_s345_e
set_option maxRecDepth 100000 in
/-- GlacierMail$Way.runOut -/
def p2_s346 : ck_Sum := ((3, 0, 0), 245, [.inr (.inr (.inl 206)), .inl (0, 299, [])], ([], [(3, 8, 0)], []), ([(206, 5, 8)], []), [(.inr (some (.inl ((-2147483648), 299, []))), 245, ([], [], []))])
set_option maxRecDepth 100000 in
theorem p2_s346_e : ck_ok p2_O none [] [(31, [p2_s340]), (32, [p2_s345])] 30 [(5, [some (.inr (.inr (.inl 206))), some (.inl (0, 299, [])), some (.inl ((-2147483648), 2147483647, []))], ([], [(3, 8, 0)], []), 100, .inl 2, true)] 134 p2_s346 = true := by decide +kernel
theorem p2_s346_s {X : Int → Int} {LX : Nat} : ck_Ok p2_O X LX 30 p2_s346 := ck_ok_s ⟨p2_nmu, ck_E1 (ck_S1 p2_s340_s ck_S0) (ck_E1 (ck_S1 p2_s345_s ck_S0) ck_E0)⟩ ck_X0 ck_l0 p2_s346_e
set_option maxRecDepth 100000 in
/-- GlacierMail$Rows.put -/
def p2_s347 : ck_Sum := ((0, 0, 0), 245, [.inr (.inr (.inl 220)), .inl (0, 23, []), .inl (ck_one 0), .inl ((-2147483648), 299, [])], ([], [], []), ([(221, 0, 0), (221, 2, 2), (221, 4, 4), (221, 6, 6), (221, 8, 8), (221, 10, 10), (221, 12, 12), (221, 14, 14), (221, 16, 16), (221, 18, 18), (221, 20, 20), (221, 22, 22), (221, 24, 24), (221, 26, 26), (221, 28, 28), (221, 30, 30), (221, 32, 32), (221, 34, 34), (221, 36, 36), (221, 38, 38), (221, 40, 40), (221, 42, 42), (221, 44, 44), (221, 46, 46)], []), [(.inr none, 245, ([], [], []))])
set_option maxRecDepth 100000 in
theorem p2_s347_e : ck_ok p2_O none [] [] 45 [] 116 p2_s347 = true := by decide +kernel
theorem p2_s347_s {X : Int → Int} {LX : Nat} : ck_Ok p2_O X LX 45 p2_s347 := ck_ok_s ⟨p2_nmu, ck_E0⟩ ck_X0 ck_l0 p2_s347_e
set_option maxRecDepth 100000 in
/-- GlacierMail$Rows.put -/
def p2_s348 : ck_Sum := ((0, 0, 0), 245, [.inr (.inr (.inl 220)), .inl (0, 23, []), .inl (ck_one 1), .inl (0, 99, [])], ([], [], []), ([(221, 1, 1), (221, 3, 3), (221, 5, 5), (221, 7, 7), (221, 9, 9), (221, 11, 11), (221, 13, 13), (221, 15, 15), (221, 17, 17), (221, 19, 19), (221, 21, 21), (221, 23, 23), (221, 25, 25), (221, 27, 27), (221, 29, 29), (221, 31, 31), (221, 33, 33), (221, 35, 35), (221, 37, 37), (221, 39, 39), (221, 41, 41), (221, 43, 43), (221, 45, 45), (221, 47, 47)], []), [(.inr none, 245, ([], [], []))])
set_option maxRecDepth 100000 in
theorem p2_s348_e : ck_ok p2_O none [] [] 45 [] 116 p2_s348 = true := by decide +kernel
theorem p2_s348_s {X : Int → Int} {LX : Nat} : ck_Ok p2_O X LX 45 p2_s348 := ck_ok_s ⟨p2_nmu, ck_E0⟩ ck_X0 ck_l0 p2_s348_e
set_option maxRecDepth 100000 in
/-- GlacierMail.reckonEnds -/
def p2_s349 : ck_Sum := ((4, 0, 0), 245, [.inr (.inr (.inl 1))], ([], [(3, 8, 0)], []), ([(1, 15, 15), (206, 2, 8), (220, 3, 3), (221, 0, 47)], []), [(.inr none, 245, ([], [], [(1, 15, 15, ck_one 1)]))])
set_option maxRecDepth 100000 in
theorem p2_s349_e : ck_ok p2_O none [] [(9, [p2_s331, p2_s332]), (25, [p2_s334]), (27, [p2_s339]), (30, [p2_s346]), (45, [p2_s347, p2_s348])] 24 [(27, [some (.inr (.inr (.inl 1))), some (.inl (0, 24, []))], ([], [(3, 8, 0)], [(1, 15, 15, ck_one 0)]), 100, .inl 1, true)] 206 p2_s349 = true := by decide +kernel
theorem p2_s349_s {X : Int → Int} {LX : Nat} : ck_Ok p2_O X LX 24 p2_s349 := ck_ok_s ⟨p2_nmu, ck_E1 (ck_S1 p2_s331_s (ck_S1 p2_s332_s ck_S0)) (ck_E1 (ck_S1 p2_s334_s ck_S0) (ck_E1 (ck_S1 p2_s339_s ck_S0) (ck_E1 (ck_S1 p2_s346_s ck_S0) (ck_E1 (ck_S1 p2_s347_s (ck_S1 p2_s348_s ck_S0)) ck_E0))))⟩ ck_X0 ck_l0 p2_s349_e
set_option maxRecDepth 100000 in
/-- GlacierMail$Rows.get -/
def p2_s350 : ck_Sum := ((0, 0, 0), 245, [.inr (.inr (.inl 220)), .inl ((-2147483648), 2147483647, []), .inl ((-2147483648), 2147483647, [])], ([], [], []), ([], []), [(.inr (some (.inl ((-2147483648), 299, []))), 245, ([], [], []))])
set_option maxRecDepth 100000 in
theorem p2_s350_e : ck_ok p2_O none [] [] 10 [] 114 p2_s350 = true := by decide +kernel
theorem p2_s350_s {X : Int → Int} {LX : Nat} : ck_Ok p2_O X LX 10 p2_s350 := ck_ok_s ⟨p2_nmu, ck_E0⟩ ck_X0 ck_l0 p2_s350_e
set_option maxRecDepth 100000 in
/-- GlacierMail.isOutBy -/
def p2_s351 : ck_Sum := ((0, 0, 0), 245, [.inr (.inr (.inl 1)), .inl ((-2147483648), 299, []), .inl (0, 299, [])], ([], [], []), ([], []), [(.inr (some (.inl (ck_one 0))), 245, ([], [], [])), (.inr (some (.inl (ck_one 1))), 245, ([], [], []))])
set_option maxRecDepth 100000 in
theorem p2_s351_e : ck_ok p2_O none [] [] 67 [] 88 p2_s351 = true := by decide +kernel
theorem p2_s351_s {X : Int → Int} {LX : Nat} : ck_Ok p2_O X LX 67 p2_s351 := ck_ok_s ⟨p2_nmu, ck_E0⟩ ck_X0 ck_l0 p2_s351_e
set_option maxRecDepth 100000 in
/-- GlacierMail.waits -/
def p2_s352 : ck_Sum := ((2, 0, 0), 245, [.inr (.inr (.inl 1)), .inl (0, 23, [])], ([], [], [(3, 6, 6, (0, 299, [(10, 0)]))]), ([], []), [(.inr (some (.inl (ck_one 0))), 245, ([], [], [])), (.inr (some (.inl (ck_one 1))), 245, ([], [], []))])
set_option maxRecDepth 100000 in
theorem p2_s352_e : ck_ok p2_O none [] [(28, [p2_s336]), (10, [p2_s335, p2_s350]), (67, [p2_s351])] 66 [] 134 p2_s352 = true := by decide +kernel
theorem p2_s352_s {X : Int → Int} {LX : Nat} : ck_Ok p2_O X LX 66 p2_s352 := ck_ok_s ⟨p2_nmu, ck_E1 (ck_S1 p2_s336_s ck_S0) (ck_E1 (ck_S1 p2_s335_s (ck_S1 p2_s350_s ck_S0)) (ck_E1 (ck_S1 p2_s351_s ck_S0) ck_E0))⟩ ck_X0 ck_l0 p2_s352_e
set_option maxRecDepth 100000 in
/-- GlacierMail.waiting -/
def p2_s353 : ck_Sum := ((5, 0, 0), 245, [.inr (.inr (.inl 1)), .inl (0, 7, [])], ([], [(3, 8, 0)], [(3, 6, 6, (0, 299, [(10, 0)]))]), ([(1, 15, 15), (206, 2, 8), (220, 3, 3), (221, 0, 47)], []), [(.inr (some (.inl ((-2147483648), 2147483647, []))), 245, ([], [], [(1, 15, 15, ck_one 1)]))])
set_option maxRecDepth 100000 in
theorem p2_s353_e : ck_ok p2_O none [] [(24, [p2_s349]), (9, [p2_s331]), (10, [p2_s335]), (66, [p2_s352])] 65 [(8, [some (.inr (.inr (.inl 1))), some (.inl (0, 7, [])), some (.inl ((-2147483648), 2147483647, [])), some (.inl (0, 24, [])), none], ([], [(3, 8, 0)], [(1, 15, 15, ck_one 1), (3, 6, 6, (0, 299, [(10, 0)]))]), 100, .inl 3, true)] 210 p2_s353 = true := by decide +kernel
theorem p2_s353_s {X : Int → Int} {LX : Nat} : ck_Ok p2_O X LX 65 p2_s353 := ck_ok_s ⟨p2_nmu, ck_E1 (ck_S1 p2_s349_s ck_S0) (ck_E1 (ck_S1 p2_s331_s ck_S0) (ck_E1 (ck_S1 p2_s335_s ck_S0) (ck_E1 (ck_S1 p2_s352_s ck_S0) ck_E0)))⟩ ck_X0 ck_l0 p2_s353_e
set_option maxRecDepth 100000 in
/-- GlacierMail.lettersWith -/
def p2_s354 : ck_Sum := ((1, 0, 0), 245, [.inr (.inr (.inl 1)), .inl (ck_one 5), .inl (0, 7, [])], ([], [], []), ([], []), [(.inr (some (.inl ((-2147483648), 2147483647, []))), 245, ([], [], []))])
set_option maxRecDepth 100000 in
theorem p2_s354_e : ck_ok p2_O none [] [(9, [p2_s331]), (10, [p2_s335])] 140 [(5, [some (.inr (.inr (.inl 1))), some (.inl (ck_one 5)), some (.inl (0, 7, [])), some (.inl ((-2147483648), 2147483647, [])), some (.inl (0, 24, []))], ([], [], []), 100, .inl 4, true)] 162 p2_s354 = true := by decide +kernel
theorem p2_s354_s {X : Int → Int} {LX : Nat} : ck_Ok p2_O X LX 140 p2_s354 := ck_ok_s ⟨p2_nmu, ck_E1 (ck_S1 p2_s331_s ck_S0) (ck_E1 (ck_S1 p2_s335_s ck_S0) ck_E0)⟩ ck_X0 ck_l0 p2_s354_e
set_option maxRecDepth 100000 in
/-- GlacierMail.lettersWith -/
def p2_s355 : ck_Sum := ((1, 0, 0), 245, [.inr (.inr (.inl 1)), .inl (ck_one 0), .inl (0, 7, [])], ([], [], []), ([], []), [(.inr (some (.inl ((-2147483648), 2147483647, []))), 245, ([], [], []))])
set_option maxRecDepth 100000 in
theorem p2_s355_e : ck_ok p2_O none [] [(9, [p2_s331]), (10, [p2_s335])] 140 [(5, [some (.inr (.inr (.inl 1))), some (.inl (ck_one 0)), some (.inl (0, 7, [])), some (.inl ((-2147483648), 2147483647, [])), some (.inl (0, 24, []))], ([], [], []), 100, .inl 4, true)] 162 p2_s355 = true := by decide +kernel
theorem p2_s355_s {X : Int → Int} {LX : Nat} : ck_Ok p2_O X LX 140 p2_s355 := ck_ok_s ⟨p2_nmu, ck_E1 (ck_S1 p2_s331_s ck_S0) (ck_E1 (ck_S1 p2_s335_s ck_S0) ck_E0)⟩ ck_X0 ck_l0 p2_s355_e
set_option maxRecDepth 100000 in
/-- GlacierMail$Rows.get -/
def p2_s356 : ck_Sum := ((0, 0, 0), 245, [.inr (.inr (.inl 8)), .inl ((-2147483648), 2147483647, []), .inl ((-2147483648), 2147483647, [])], ([], [], []), ([], []), [(.inr (some (.inl ((-1), 98, []))), 245, ([], [], []))])
set_option maxRecDepth 100000 in
theorem p2_s356_e : ck_ok p2_O none [] [] 10 [] 114 p2_s356 = true := by decide +kernel
theorem p2_s356_s {X : Int → Int} {LX : Nat} : ck_Ok p2_O X LX 10 p2_s356 := ck_ok_s ⟨p2_nmu, ck_E0⟩ ck_X0 ck_l0 p2_s356_e
set_option maxRecDepth 100000 in
/-- GlacierMail.person -/
def p2_s357 : ck_Sum := ((8, 2, 12), 245, [.inr (.inr (.inl 1)), .inl (0, 7, []), .inl (0, 9, [])], ([], [(3, 8, 0)], [(3, 6, 6, (0, 299, [(10, 0)]))]), ([(1, 15, 15), (206, 2, 8), (220, 3, 3), (221, 0, 47)], []), [(.inl 3, 245, ([], [], [])), (.inl 4, 245, ([], [], [])), (.inr (some (.inl ((-2147483648), 2147483647, []))), 245, ([], [], []))])
set_option maxRecDepth 100000 in
theorem p2_s357_e : ck_ok p2_O none [] [(139, [p2_s328]), (65, [p2_s353]), (140, [p2_s354, p2_s355]), (10, [p2_s356])] 138 [] 94 p2_s357 = true := by decide +kernel
theorem p2_s357_s {X : Int → Int} {LX : Nat} : ck_Ok p2_O X LX 138 p2_s357 := ck_ok_s ⟨p2_nmu, ck_E1 (ck_S1 p2_s328_s ck_S0) (ck_E1 (ck_S1 p2_s353_s ck_S0) (ck_E1 (ck_S1 p2_s354_s (ck_S1 p2_s355_s ck_S0)) (ck_E1 (ck_S1 p2_s356_s ck_S0) ck_E0)))⟩ ck_X0 ck_l0 p2_s357_e
set_option maxRecDepth 100000 in
/-- GlacierMailModel.in -/
def p2_s358 : ck_Sum := ((0, 0, 0), 245, [.inl ((-2147483648), (-1), []), .inl (ck_one 0), .inl ((-1), 7, [])], ([], [], []), ([], []), [(.inr (some (.inl (ck_one 0))), 245, ([], [], []))])
set_option maxRecDepth 100000 in
theorem p2_s358_e : ck_ok p2_O none [] [] 286 [] 80 p2_s358 = true := by decide +kernel
theorem p2_s358_s {X : Int → Int} {LX : Nat} : ck_Ok p2_O X LX 286 p2_s358 := ck_ok_s ⟨p2_nmu, ck_E0⟩ ck_X0 ck_l0 p2_s358_e
set_option maxRecDepth 100000 in
/-- GlacierMailModel.noPerson -/
def p2_s359 : ck_Sum := ((1, 0, 0), 245, [.inr (.inr (.inl 226)), .inl ((-2147483648), (-1), [])], ([], [], [(227, 3, 3, (0, 8, [(21, 0)]))]), ([], []), [(.inr (some (.inl (ck_one 1))), 245, ([], [], []))])
set_option maxRecDepth 100000 in
theorem p2_s359_e : ck_ok p2_O none [] [(253, [p2_s186]), (286, [p2_s358])] 298 [] 92 p2_s359 = true := by decide +kernel
theorem p2_s359_s {X : Int → Int} {LX : Nat} : ck_Ok p2_O X LX 298 p2_s359 := ck_ok_s ⟨p2_nmu, ck_E1 (ck_S1 p2_s186_s ck_S0) (ck_E1 (ck_S1 p2_s358_s ck_S0) ck_E0)⟩ ck_X0 ck_l0 p2_s359_e
set_option maxRecDepth 100000 in
/-- GlacierMailModel.person -/
def p2_s360 : ck_Sum := ((2, 0, 0), 245, [.inr (.inr (.inl 226)), .inl ((-2147483648), (-1), []), .inl ((-2147483648), 2147483647, [])], ([], [], [(227, 3, 3, (0, 8, [(21, 0)]))]), ([(226, 0, 0)], []), [(.inr (some (.inl (ck_one 0))), 245, ([], [], [(226, 0, 0, ck_one 1)]))])
set_option maxRecDepth 100000 in
theorem p2_s360_e : ck_ok p2_O none [] [(298, [p2_s359]), (282, [p2_s241])] 297 [] 94 p2_s360 = true := by decide +kernel
theorem p2_s360_s {X : Int → Int} {LX : Nat} : ck_Ok p2_O X LX 297 p2_s360 := ck_ok_s ⟨p2_nmu, ck_E1 (ck_S1 p2_s359_s ck_S0) (ck_E1 (ck_S1 p2_s241_s ck_S0) ck_E0)⟩ ck_X0 ck_l0 p2_s360_e
