/-! 78r80a03.sf -/
section
/-! EVERY CALL ENDS, whatever was done before (laid by wip/am/p2k.py). -/
set_option maxRecDepth 100000 in
/-- GlacierMail.speed -/
def p2_s270 : ck_Sum := ((8, 1, 6), 245, [.inr (.inr (.inl 1)), .inl (6, 2147483647, []), .inl ((-2147483648), 2147483647, [])], ([], [], []), ([], []), [(.inl 3, 245, ([], [], []))])
set_option maxRecDepth 100000 in
theorem p2_s270_s {X : Int → Int} {LX : Nat} : ck_Ok p2_O X LX 131 p2_s270 := ck_ok_s (O := p2_O) (X := X) (LX := LX) (E := [(132, [p2_s269])]) (mi := 131) (cuts := []) (f := 76) (S := p2_s270) (lx := none) (XF := []) ⟨p2_nmu, ck_E1 (ck_S1 p2_s269_s ck_S0) ck_E0⟩ ck_X0 ck_l0 (by decide +kernel)
set_option maxRecDepth 100000 in
/-- GlacierMail.need -/
def p2_s271 : ck_Sum := ((6, 1, 6), 245, [.inr (.inr (.inl 1)), .inl (0, 5, []), .inl (1, 6, [])], ([], [], []), ([], []), [(.inr none, 245, ([], [], [])), (.inl 3, 245, ([], [], []))])
set_option maxRecDepth 100000 in
theorem p2_s271_s {X : Int → Int} {LX : Nat} : ck_Ok p2_O X LX 133 p2_s271 := ck_ok_s (O := p2_O) (X := X) (LX := LX) (E := []) (mi := 133) (cuts := []) (f := 82) (S := p2_s271) (lx := none) (XF := []) ⟨p2_nmu, ck_E0⟩ ck_X0 ck_l0 (by decide +kernel)
set_option maxRecDepth 100000 in
/-- GlacierMail.needLane -/
def p2_s272 : ck_Sum := ((7, 1, 6), 245, [.inr (.inr (.inl 1)), .inl (0, 5, [])], ([], [], []), ([], []), [(.inl 3, 245, ([], [], [])), (.inr none, 245, ([], [], []))])
set_option maxRecDepth 100000 in
theorem p2_s272_s {X : Int → Int} {LX : Nat} : ck_Ok p2_O X LX 132 p2_s272 := ck_ok_s (O := p2_O) (X := X) (LX := LX) (E := [(133, [p2_s271])]) (mi := 132) (cuts := []) (f := 84) (S := p2_s272) (lx := none) (XF := []) ⟨p2_nmu, ck_E1 (ck_S1 p2_s271_s ck_S0) ck_E0⟩ ck_X0 ck_l0 (by decide +kernel)
set_option maxRecDepth 100000 in
/-- GlacierMail.need -/
def p2_s273 : ck_Sum := ((6, 1, 6), 245, [.inr (.inr (.inl 1)), .inl ((-2147483648), (-1), []), .inl (10, 99, [])], ([], [], []), ([], []), [(.inl 3, 245, ([], [], []))])
set_option maxRecDepth 100000 in
theorem p2_s273_s {X : Int → Int} {LX : Nat} : ck_Ok p2_O X LX 133 p2_s273 := ck_ok_s (O := p2_O) (X := X) (LX := LX) (E := []) (mi := 133) (cuts := []) (f := 76) (S := p2_s273) (lx := none) (XF := []) ⟨p2_nmu, ck_E0⟩ ck_X0 ck_l0 (by decide +kernel)
set_option maxRecDepth 100000 in
/-- GlacierMail.needRow -/
def p2_s274 : ck_Sum := ((7, 1, 6), 245, [.inr (.inr (.inl 1)), .inl ((-2147483648), (-1), [])], ([], [], []), ([], []), [(.inl 3, 245, ([], [], []))])
set_option maxRecDepth 100000 in
theorem p2_s274_s {X : Int → Int} {LX : Nat} : ck_Ok p2_O X LX 134 p2_s274 := ck_ok_s (O := p2_O) (X := X) (LX := LX) (E := [(133, [p2_s273])]) (mi := 134) (cuts := []) (f := 82) (S := p2_s274) (lx := none) (XF := []) ⟨p2_nmu, ck_E1 (ck_S1 p2_s273_s ck_S0) ck_E0⟩ ck_X0 ck_l0 (by decide +kernel)
set_option maxRecDepth 100000 in
/-- GlacierMail.speed -/
def p2_s275 : ck_Sum := ((8, 2, 12), 245, [.inr (.inr (.inl 1)), .inl (0, 5, []), .inl ((-2147483648), (-1), [])], ([], [], []), ([], []), [(.inl 3, 245, ([], [], []))])
set_option maxRecDepth 100000 in
theorem p2_s275_s {X : Int → Int} {LX : Nat} : ck_Ok p2_O X LX 131 p2_s275 := ck_ok_s (O := p2_O) (X := X) (LX := LX) (E := [(132, [p2_s272]), (134, [p2_s274])]) (mi := 131) (cuts := []) (f := 82) (S := p2_s275) (lx := none) (XF := []) ⟨p2_nmu, ck_E1 (ck_S1 p2_s272_s ck_S0) (ck_E1 (ck_S1 p2_s274_s ck_S0) ck_E0)⟩ ck_X0 ck_l0 (by decide +kernel)
set_option maxRecDepth 100000 in
/-- GlacierMail.need -/
def p2_s276 : ck_Sum := ((6, 1, 6), 245, [.inr (.inr (.inl 1)), .inl (99, 2147483647, []), .inl (10, 99, [])], ([], [], []), ([], []), [(.inl 3, 245, ([], [], []))])
set_option maxRecDepth 100000 in
theorem p2_s276_s {X : Int → Int} {LX : Nat} : ck_Ok p2_O X LX 133 p2_s276 := ck_ok_s (O := p2_O) (X := X) (LX := LX) (E := []) (mi := 133) (cuts := []) (f := 82) (S := p2_s276) (lx := none) (XF := []) ⟨p2_nmu, ck_E0⟩ ck_X0 ck_l0 (by decide +kernel)
set_option maxRecDepth 100000 in
/-- GlacierMail.needRow -/
def p2_s277 : ck_Sum := ((7, 1, 6), 245, [.inr (.inr (.inl 1)), .inl (99, 2147483647, [])], ([], [], []), ([], []), [(.inl 3, 245, ([], [], []))])
set_option maxRecDepth 100000 in
theorem p2_s277_s {X : Int → Int} {LX : Nat} : ck_Ok p2_O X LX 134 p2_s277 := ck_ok_s (O := p2_O) (X := X) (LX := LX) (E := [(133, [p2_s276])]) (mi := 134) (cuts := []) (f := 82) (S := p2_s277) (lx := none) (XF := []) ⟨p2_nmu, ck_E1 (ck_S1 p2_s276_s ck_S0) ck_E0⟩ ck_X0 ck_l0 (by decide +kernel)
set_option maxRecDepth 100000 in
/-- GlacierMail.speed -/
def p2_s278 : ck_Sum := ((8, 2, 12), 245, [.inr (.inr (.inl 1)), .inl (0, 5, []), .inl (99, 2147483647, [])], ([], [], []), ([], []), [(.inl 3, 245, ([], [], []))])
set_option maxRecDepth 100000 in
theorem p2_s278_s {X : Int → Int} {LX : Nat} : ck_Ok p2_O X LX 131 p2_s278 := ck_ok_s (O := p2_O) (X := X) (LX := LX) (E := [(132, [p2_s272]), (134, [p2_s277])]) (mi := 131) (cuts := []) (f := 82) (S := p2_s278) (lx := none) (XF := []) ⟨p2_nmu, ck_E1 (ck_S1 p2_s272_s ck_S0) (ck_E1 (ck_S1 p2_s277_s ck_S0) ck_E0)⟩ ck_X0 ck_l0 (by decide +kernel)
set_option maxRecDepth 100000 in
/-- GlacierMail.need -/
def p2_s279 : ck_Sum := ((6, 1, 6), 245, [.inr (.inr (.inl 1)), .inl (0, 98, []), .inl (10, 99, [])], ([], [], []), ([], []), [(.inr none, 245, ([], [], [])), (.inl 3, 245, ([], [], []))])
set_option maxRecDepth 100000 in
theorem p2_s279_s {X : Int → Int} {LX : Nat} : ck_Ok p2_O X LX 133 p2_s279 := ck_ok_s (O := p2_O) (X := X) (LX := LX) (E := []) (mi := 133) (cuts := []) (f := 82) (S := p2_s279) (lx := none) (XF := []) ⟨p2_nmu, ck_E0⟩ ck_X0 ck_l0 (by decide +kernel)
set_option maxRecDepth 100000 in
/-- GlacierMail.needRow -/
def p2_s280 : ck_Sum := ((7, 1, 6), 245, [.inr (.inr (.inl 1)), .inl (0, 98, [])], ([], [], []), ([], []), [(.inl 3, 245, ([], [], [])), (.inr none, 245, ([], [], []))])
set_option maxRecDepth 100000 in
theorem p2_s280_s {X : Int → Int} {LX : Nat} : ck_Ok p2_O X LX 134 p2_s280 := ck_ok_s (O := p2_O) (X := X) (LX := LX) (E := [(133, [p2_s279])]) (mi := 134) (cuts := []) (f := 84) (S := p2_s280) (lx := none) (XF := []) ⟨p2_nmu, ck_E1 (ck_S1 p2_s279_s ck_S0) ck_E0⟩ ck_X0 ck_l0 (by decide +kernel)
set_option maxRecDepth 100000 in
/-- GlacierMail$Ice.speedAt -/
def p2_s281 : ck_Sum := ((0, 0, 0), 245, [.inr (.inr (.inl 200)), .inl (0, 5, []), .inl (0, 98, [])], ([], [], []), ([], []), [(.inr (some (.inl ((-1), 98, []))), 245, ([], [], []))])
set_option maxRecDepth 100000 in
theorem p2_s281_s {X : Int → Int} {LX : Nat} : ck_Ok p2_O X LX 36 p2_s281 := ck_ok_s (O := p2_O) (X := X) (LX := LX) (E := []) (mi := 36) (cuts := []) (f := 108) (S := p2_s281) (lx := none) (XF := []) ⟨p2_nmu, ck_E0⟩ ck_X0 ck_l0 (by decide +kernel)
set_option maxRecDepth 100000 in
/-- GlacierMail.speed -/
def p2_s282 : ck_Sum := ((8, 2, 12), 245, [.inr (.inr (.inl 1)), .inl (0, 5, []), .inl (0, 98, [])], ([], [], []), ([], []), [(.inl 3, 245, ([], [], [])), (.inr (some (.inl ((-1), 98, []))), 245, ([], [], []))])
set_option maxRecDepth 100000 in
theorem p2_s282_s {X : Int → Int} {LX : Nat} : ck_Ok p2_O X LX 131 p2_s282 := ck_ok_s (O := p2_O) (X := X) (LX := LX) (E := [(132, [p2_s272]), (134, [p2_s280]), (36, [p2_s281])]) (mi := 131) (cuts := []) (f := 94) (S := p2_s282) (lx := none) (XF := []) ⟨p2_nmu, ck_E1 (ck_S1 p2_s272_s ck_S0) (ck_E1 (ck_S1 p2_s280_s ck_S0) (ck_E1 (ck_S1 p2_s281_s ck_S0) ck_E0))⟩ ck_X0 ck_l0 (by decide +kernel)
set_option maxRecDepth 100000 in
/-- GlacierMailModel.in -/
def p2_s283 : ck_Sum := ((0, 0, 0), 245, [.inl ((-2147483648), (-1), []), .inl (ck_one 0), .inl ((-1), 5, [])], ([], [], []), ([], []), [(.inr (some (.inl (ck_one 0))), 245, ([], [], []))])
set_option maxRecDepth 100000 in
theorem p2_s283_s {X : Int → Int} {LX : Nat} : ck_Ok p2_O X LX 286 p2_s283 := ck_ok_s (O := p2_O) (X := X) (LX := LX) (E := []) (mi := 286) (cuts := []) (f := 80) (S := p2_s283) (lx := none) (XF := []) ⟨p2_nmu, ck_E0⟩ ck_X0 ck_l0 (by decide +kernel)
set_option maxRecDepth 100000 in
/-- GlacierMailModel.noLane -/
def p2_s284 : ck_Sum := ((1, 0, 0), 245, [.inr (.inr (.inl 226)), .inl ((-2147483648), (-1), [])], ([], [], []), ([], []), [(.inr (some (.inl (ck_one 1))), 245, ([], [], []))])
set_option maxRecDepth 100000 in
theorem p2_s284_s {X : Int → Int} {LX : Nat} : ck_Ok p2_O X LX 288 p2_s284 := ck_ok_s (O := p2_O) (X := X) (LX := LX) (E := [(261, [p2_s166]), (286, [p2_s283])]) (mi := 288) (cuts := []) (f := 92) (S := p2_s284) (lx := none) (XF := []) ⟨p2_nmu, ck_E1 (ck_S1 p2_s166_s ck_S0) (ck_E1 (ck_S1 p2_s283_s ck_S0) ck_E0)⟩ ck_X0 ck_l0 (by decide +kernel)
set_option maxRecDepth 100000 in
/-- GlacierMailModel.speed -/
def p2_s285 : ck_Sum := ((2, 0, 0), 245, [.inr (.inr (.inl 226)), .inl ((-2147483648), (-1), []), .inl ((-2147483648), 2147483647, [])], ([], [], []), ([(226, 0, 0)], []), [(.inr (some (.inl (ck_one 0))), 245, ([], [], [(226, 0, 0, ck_one 1)]))])
set_option maxRecDepth 100000 in
theorem p2_s285_s {X : Int → Int} {LX : Nat} : ck_Ok p2_O X LX 287 p2_s285 := ck_ok_s (O := p2_O) (X := X) (LX := LX) (E := [(288, [p2_s284]), (282, [p2_s241])]) (mi := 287) (cuts := []) (f := 102) (S := p2_s285) (lx := none) (XF := []) ⟨p2_nmu, ck_E1 (ck_S1 p2_s284_s ck_S0) (ck_E1 (ck_S1 p2_s241_s ck_S0) ck_E0)⟩ ck_X0 ck_l0 (by decide +kernel)
set_option maxRecDepth 100000 in
/-- GlacierMailModel.in -/
def p2_s286 : ck_Sum := ((0, 0, 0), 245, [.inl (6, 2147483647, []), .inl (ck_one 0), .inl ((-1), 5, [])], ([], [], []), ([], []), [(.inr (some (.inl (ck_one 0))), 245, ([], [], []))])
set_option maxRecDepth 100000 in
theorem p2_s286_s {X : Int → Int} {LX : Nat} : ck_Ok p2_O X LX 286 p2_s286 := ck_ok_s (O := p2_O) (X := X) (LX := LX) (E := []) (mi := 286) (cuts := []) (f := 86) (S := p2_s286) (lx := none) (XF := []) ⟨p2_nmu, ck_E0⟩ ck_X0 ck_l0 (by decide +kernel)
set_option maxRecDepth 100000 in
/-- GlacierMailModel.noLane -/
def p2_s287 : ck_Sum := ((1, 0, 0), 245, [.inr (.inr (.inl 226)), .inl (6, 2147483647, [])], ([], [], []), ([], []), [(.inr (some (.inl (ck_one 1))), 245, ([], [], []))])
set_option maxRecDepth 100000 in
theorem p2_s287_s {X : Int → Int} {LX : Nat} : ck_Ok p2_O X LX 288 p2_s287 := ck_ok_s (O := p2_O) (X := X) (LX := LX) (E := [(261, [p2_s166]), (286, [p2_s286])]) (mi := 288) (cuts := []) (f := 92) (S := p2_s287) (lx := none) (XF := []) ⟨p2_nmu, ck_E1 (ck_S1 p2_s166_s ck_S0) (ck_E1 (ck_S1 p2_s286_s ck_S0) ck_E0)⟩ ck_X0 ck_l0 (by decide +kernel)
set_option maxRecDepth 100000 in
/-- GlacierMailModel.speed -/
def p2_s288 : ck_Sum := ((2, 0, 0), 245, [.inr (.inr (.inl 226)), .inl (6, 2147483647, []), .inl ((-2147483648), 2147483647, [])], ([], [], []), ([(226, 0, 0)], []), [(.inr (some (.inl (ck_one 0))), 245, ([], [], [(226, 0, 0, ck_one 1)]))])
set_option maxRecDepth 100000 in
theorem p2_s288_s {X : Int → Int} {LX : Nat} : ck_Ok p2_O X LX 287 p2_s288 := ck_ok_s (O := p2_O) (X := X) (LX := LX) (E := [(288, [p2_s287]), (282, [p2_s241])]) (mi := 287) (cuts := []) (f := 102) (S := p2_s288) (lx := none) (XF := []) ⟨p2_nmu, ck_E1 (ck_S1 p2_s287_s ck_S0) (ck_E1 (ck_S1 p2_s241_s ck_S0) ck_E0)⟩ ck_X0 ck_l0 (by decide +kernel)
set_option maxRecDepth 100000 in
/-- GlacierMailModel.in -/
def p2_s289 : ck_Sum := ((0, 0, 0), 245, [.inl (0, 5, []), .inl (ck_one 0), .inl ((-1), 5, [])], ([], [], []), ([], []), [(.inr (some (.inl (ck_one 0))), 245, ([], [], [])), (.inr (some (.inl (ck_one 1))), 245, ([], [], []))])
set_option maxRecDepth 100000 in
theorem p2_s289_s {X : Int → Int} {LX : Nat} : ck_Ok p2_O X LX 286 p2_s289 := ck_ok_s (O := p2_O) (X := X) (LX := LX) (E := []) (mi := 286) (cuts := []) (f := 88) (S := p2_s289) (lx := none) (XF := []) ⟨p2_nmu, ck_E0⟩ ck_X0 ck_l0 (by decide +kernel)
set_option maxRecDepth 100000 in
/-- GlacierMailModel.noLane -/
def p2_s290 : ck_Sum := ((1, 0, 0), 245, [.inr (.inr (.inl 226)), .inl (0, 5, [])], ([], [], []), ([], []), [(.inr (some (.inl (ck_one 1))), 245, ([], [], [])), (.inr (some (.inl (ck_one 0))), 245, ([], [], []))])
set_option maxRecDepth 100000 in
theorem p2_s290_s {X : Int → Int} {LX : Nat} : ck_Ok p2_O X LX 288 p2_s290 := ck_ok_s (O := p2_O) (X := X) (LX := LX) (E := [(261, [p2_s166]), (286, [p2_s289])]) (mi := 288) (cuts := []) (f := 92) (S := p2_s290) (lx := none) (XF := []) ⟨p2_nmu, ck_E1 (ck_S1 p2_s166_s ck_S0) (ck_E1 (ck_S1 p2_s289_s ck_S0) ck_E0)⟩ ck_X0 ck_l0 (by decide +kernel)
set_option maxRecDepth 100000 in
/-- GlacierMailModel.in -/
def p2_s291 : ck_Sum := ((0, 0, 0), 245, [.inl ((-2147483648), (-1), []), .inl (ck_one 0), .inl ((-1), 98, [])], ([], [], []), ([], []), [(.inr (some (.inl (ck_one 0))), 245, ([], [], []))])
set_option maxRecDepth 100000 in
theorem p2_s291_s {X : Int → Int} {LX : Nat} : ck_Ok p2_O X LX 286 p2_s291 := ck_ok_s (O := p2_O) (X := X) (LX := LX) (E := []) (mi := 286) (cuts := []) (f := 80) (S := p2_s291) (lx := none) (XF := []) ⟨p2_nmu, ck_E0⟩ ck_X0 ck_l0 (by decide +kernel)
set_option maxRecDepth 100000 in
/-- GlacierMailModel.noRow -/
def p2_s292 : ck_Sum := ((1, 0, 0), 245, [.inr (.inr (.inl 226)), .inl ((-2147483648), (-1), [])], ([], [], []), ([], []), [(.inr (some (.inl (ck_one 1))), 245, ([], [], []))])
set_option maxRecDepth 100000 in
theorem p2_s292_s {X : Int → Int} {LX : Nat} : ck_Ok p2_O X LX 289 p2_s292 := ck_ok_s (O := p2_O) (X := X) (LX := LX) (E := [(259, [p2_s180]), (286, [p2_s291])]) (mi := 289) (cuts := []) (f := 92) (S := p2_s292) (lx := none) (XF := []) ⟨p2_nmu, ck_E1 (ck_S1 p2_s180_s ck_S0) (ck_E1 (ck_S1 p2_s291_s ck_S0) ck_E0)⟩ ck_X0 ck_l0 (by decide +kernel)
set_option maxRecDepth 100000 in
/-- GlacierMailModel.speed -/
def p2_s293 : ck_Sum := ((2, 0, 0), 245, [.inr (.inr (.inl 226)), .inl (0, 5, []), .inl ((-2147483648), (-1), [])], ([], [], []), ([(226, 0, 0)], []), [(.inr (some (.inl (ck_one 0))), 245, ([], [], [(226, 0, 0, ck_one 1)]))])
set_option maxRecDepth 100000 in
theorem p2_s293_s {X : Int → Int} {LX : Nat} : ck_Ok p2_O X LX 287 p2_s293 := ck_ok_s (O := p2_O) (X := X) (LX := LX) (E := [(288, [p2_s290]), (282, [p2_s241]), (289, [p2_s292])]) (mi := 287) (cuts := []) (f := 110) (S := p2_s293) (lx := none) (XF := []) ⟨p2_nmu, ck_E1 (ck_S1 p2_s290_s ck_S0) (ck_E1 (ck_S1 p2_s241_s ck_S0) (ck_E1 (ck_S1 p2_s292_s ck_S0) ck_E0))⟩ ck_X0 ck_l0 (by decide +kernel)
set_option maxRecDepth 100000 in
/-- GlacierMailModel.in -/
def p2_s294 : ck_Sum := ((0, 0, 0), 245, [.inl (99, 2147483647, []), .inl (ck_one 0), .inl ((-1), 98, [])], ([], [], []), ([], []), [(.inr (some (.inl (ck_one 0))), 245, ([], [], []))])
set_option maxRecDepth 100000 in
theorem p2_s294_s {X : Int → Int} {LX : Nat} : ck_Ok p2_O X LX 286 p2_s294 := ck_ok_s (O := p2_O) (X := X) (LX := LX) (E := []) (mi := 286) (cuts := []) (f := 86) (S := p2_s294) (lx := none) (XF := []) ⟨p2_nmu, ck_E0⟩ ck_X0 ck_l0 (by decide +kernel)
set_option maxRecDepth 100000 in
/-- GlacierMailModel.noRow -/
def p2_s295 : ck_Sum := ((1, 0, 0), 245, [.inr (.inr (.inl 226)), .inl (99, 2147483647, [])], ([], [], []), ([], []), [(.inr (some (.inl (ck_one 1))), 245, ([], [], []))])
set_option maxRecDepth 100000 in
theorem p2_s295_s {X : Int → Int} {LX : Nat} : ck_Ok p2_O X LX 289 p2_s295 := ck_ok_s (O := p2_O) (X := X) (LX := LX) (E := [(259, [p2_s180]), (286, [p2_s294])]) (mi := 289) (cuts := []) (f := 92) (S := p2_s295) (lx := none) (XF := []) ⟨p2_nmu, ck_E1 (ck_S1 p2_s180_s ck_S0) (ck_E1 (ck_S1 p2_s294_s ck_S0) ck_E0)⟩ ck_X0 ck_l0 (by decide +kernel)
set_option maxRecDepth 100000 in
/-- GlacierMailModel.speed -/
def p2_s296 : ck_Sum := ((2, 0, 0), 245, [.inr (.inr (.inl 226)), .inl (0, 5, []), .inl (99, 2147483647, [])], ([], [], []), ([(226, 0, 0)], []), [(.inr (some (.inl (ck_one 0))), 245, ([], [], [(226, 0, 0, ck_one 1)]))])
set_option maxRecDepth 100000 in
theorem p2_s296_s {X : Int → Int} {LX : Nat} : ck_Ok p2_O X LX 287 p2_s296 := ck_ok_s (O := p2_O) (X := X) (LX := LX) (E := [(288, [p2_s290]), (282, [p2_s241]), (289, [p2_s295])]) (mi := 287) (cuts := []) (f := 110) (S := p2_s296) (lx := none) (XF := []) ⟨p2_nmu, ck_E1 (ck_S1 p2_s290_s ck_S0) (ck_E1 (ck_S1 p2_s241_s ck_S0) (ck_E1 (ck_S1 p2_s295_s ck_S0) ck_E0))⟩ ck_X0 ck_l0 (by decide +kernel)
set_option maxRecDepth 100000 in
/-- GlacierMailModel.in -/
def p2_s297 : ck_Sum := ((0, 0, 0), 245, [.inl (0, 98, []), .inl (ck_one 0), .inl ((-1), 98, [])], ([], [], []), ([], []), [(.inr (some (.inl (ck_one 0))), 245, ([], [], [])), (.inr (some (.inl (ck_one 1))), 245, ([], [], []))])
set_option maxRecDepth 100000 in
theorem p2_s297_s {X : Int → Int} {LX : Nat} : ck_Ok p2_O X LX 286 p2_s297 := ck_ok_s (O := p2_O) (X := X) (LX := LX) (E := []) (mi := 286) (cuts := []) (f := 88) (S := p2_s297) (lx := none) (XF := []) ⟨p2_nmu, ck_E0⟩ ck_X0 ck_l0 (by decide +kernel)
set_option maxRecDepth 100000 in
/-- GlacierMailModel.noRow -/
def p2_s298 : ck_Sum := ((1, 0, 0), 245, [.inr (.inr (.inl 226)), .inl (0, 98, [])], ([], [], []), ([], []), [(.inr (some (.inl (ck_one 1))), 245, ([], [], [])), (.inr (some (.inl (ck_one 0))), 245, ([], [], []))])
set_option maxRecDepth 100000 in
theorem p2_s298_s {X : Int → Int} {LX : Nat} : ck_Ok p2_O X LX 289 p2_s298 := ck_ok_s (O := p2_O) (X := X) (LX := LX) (E := [(259, [p2_s180]), (286, [p2_s297])]) (mi := 289) (cuts := []) (f := 92) (S := p2_s298) (lx := none) (XF := []) ⟨p2_nmu, ck_E1 (ck_S1 p2_s180_s ck_S0) (ck_E1 (ck_S1 p2_s297_s ck_S0) ck_E0)⟩ ck_X0 ck_l0 (by decide +kernel)
set_option maxRecDepth 100000 in
/-- GlacierMailModel.speedAt -/
def p2_s299 : ck_Sum := ((0, 0, 0), 245, [.inr (.inr (.inl 226)), .inl (0, 6, []), .inl (0, 98, [])], ([], [], [(227, 2, 2, (0, 8, [(20, 0)]))]), ([], []), [(.inr (some (.inl (0, 299, []))), 245, ([], [], []))])
set_option maxRecDepth 100000 in
theorem p2_s299_s {X : Int → Int} {LX : Nat} : ck_Ok p2_O X LX 290 p2_s299 := ck_ok_s (O := p2_O) (X := X) (LX := LX) (E := []) (mi := 290) (cuts := [(5, [some (.inr (.inr (.inl 226))), some (.inl (0, 6, [])), some (.inl (0, 98, [])), some (.inl (0, 299, [])), some (.inl (0, 8, []))], ([], [], [(227, 2, 2, (0, 8, [(20, 0)]))]), 100, .inl 4, true)]) (f := 222) (S := p2_s299) (lx := none) (XF := []) ⟨p2_nmu, ck_E0⟩ ck_X0 ck_l0 (by decide +kernel)
set_option maxRecDepth 100000 in
/-- GlacierMailModel.speed -/
def p2_s300 : ck_Sum := ((2, 0, 0), 245, [.inr (.inr (.inl 226)), .inl (0, 5, []), .inl (0, 98, [])], ([], [], [(227, 2, 2, (0, 8, [(20, 0)]))]), ([(226, 0, 0)], []), [(.inr (some (.inl (0, 299, []))), 245, ([], [], [(226, 0, 0, (0, 1, []))]))])
set_option maxRecDepth 100000 in
theorem p2_s300_s {X : Int → Int} {LX : Nat} : ck_Ok p2_O X LX 287 p2_s300 := ck_ok_s (O := p2_O) (X := X) (LX := LX) (E := [(288, [p2_s290]), (282, [p2_s241, p2_s242]), (289, [p2_s298]), (290, [p2_s299])]) (mi := 287) (cuts := []) (f := 112) (S := p2_s300) (lx := none) (XF := []) ⟨p2_nmu, ck_E1 (ck_S1 p2_s290_s ck_S0) (ck_E1 (ck_S1 p2_s241_s (ck_S1 p2_s242_s ck_S0)) (ck_E1 (ck_S1 p2_s298_s ck_S0) (ck_E1 (ck_S1 p2_s299_s ck_S0) ck_E0)))⟩ ck_X0 ck_l0 (by decide +kernel)
set_option maxRecDepth 100000 in
/-- GlacierMail.flow -/
def p2_s301 : ck_Sum := ((8, 1, 6), 245, [.inr (.inr (.inl 1)), .inl ((-2147483648), (-1), []), .inl ((-2147483648), 2147483647, []), .inl ((-2147483648), 2147483647, [])], ([], [], []), ([], []), [(.inl 3, 245, ([], [], []))])
set_option maxRecDepth 100000 in
theorem p2_s301_s {X : Int → Int} {LX : Nat} : ck_Ok p2_O X LX 136 p2_s301 := ck_ok_s (O := p2_O) (X := X) (LX := LX) (E := [(132, [p2_s266])]) (mi := 136) (cuts := []) (f := 76) (S := p2_s301) (lx := none) (XF := []) ⟨p2_nmu, ck_E1 (ck_S1 p2_s266_s ck_S0) ck_E0⟩ ck_X0 ck_l0 (by decide +kernel)
set_option maxRecDepth 100000 in
/-- GlacierMail.flow -/
def p2_s302 : ck_Sum := ((8, 1, 6), 245, [.inr (.inr (.inl 1)), .inl (6, 2147483647, []), .inl ((-2147483648), 2147483647, []), .inl ((-2147483648), 2147483647, [])], ([], [], []), ([], []), [(.inl 3, 245, ([], [], []))])
set_option maxRecDepth 100000 in
theorem p2_s302_s {X : Int → Int} {LX : Nat} : ck_Ok p2_O X LX 136 p2_s302 := ck_ok_s (O := p2_O) (X := X) (LX := LX) (E := [(132, [p2_s269])]) (mi := 136) (cuts := []) (f := 76) (S := p2_s302) (lx := none) (XF := []) ⟨p2_nmu, ck_E1 (ck_S1 p2_s269_s ck_S0) ck_E0⟩ ck_X0 ck_l0 (by decide +kernel)
set_option maxRecDepth 100000 in
/-- GlacierMail.flow -/
def p2_s303 : ck_Sum := ((8, 2, 12), 245, [.inr (.inr (.inl 1)), .inl (0, 5, []), .inl ((-2147483648), (-1), []), .inl ((-2147483648), 2147483647, [])], ([], [], []), ([], []), [(.inl 3, 245, ([], [], []))])
set_option maxRecDepth 100000 in
theorem p2_s303_s {X : Int → Int} {LX : Nat} : ck_Ok p2_O X LX 136 p2_s303 := ck_ok_s (O := p2_O) (X := X) (LX := LX) (E := [(132, [p2_s272]), (134, [p2_s274])]) (mi := 136) (cuts := []) (f := 82) (S := p2_s303) (lx := none) (XF := []) ⟨p2_nmu, ck_E1 (ck_S1 p2_s272_s ck_S0) (ck_E1 (ck_S1 p2_s274_s ck_S0) ck_E0)⟩ ck_X0 ck_l0 (by decide +kernel)
set_option maxRecDepth 100000 in
/-- GlacierMail.flow -/
def p2_s304 : ck_Sum := ((8, 2, 12), 245, [.inr (.inr (.inl 1)), .inl (0, 5, []), .inl (99, 2147483647, []), .inl ((-2147483648), 2147483647, [])], ([], [], []), ([], []), [(.inl 3, 245, ([], [], []))])
set_option maxRecDepth 100000 in
theorem p2_s304_s {X : Int → Int} {LX : Nat} : ck_Ok p2_O X LX 136 p2_s304 := ck_ok_s (O := p2_O) (X := X) (LX := LX) (E := [(132, [p2_s272]), (134, [p2_s277])]) (mi := 136) (cuts := []) (f := 82) (S := p2_s304) (lx := none) (XF := []) ⟨p2_nmu, ck_E1 (ck_S1 p2_s272_s ck_S0) (ck_E1 (ck_S1 p2_s277_s ck_S0) ck_E0)⟩ ck_X0 ck_l0 (by decide +kernel)
set_option maxRecDepth 100000 in
/-- GlacierMail.flow -/
def p2_s305 : ck_Sum := ((8, 3, 18), 245, [.inr (.inr (.inl 1)), .inl (0, 5, []), .inl (0, 98, []), .inl ((-2147483648), (-1), [])], ([], [], []), ([], []), [(.inl 3, 245, ([], [], [])), (.inl 0, 245, ([], [], []))])
set_option maxRecDepth 100000 in
theorem p2_s305_s {X : Int → Int} {LX : Nat} : ck_Ok p2_O X LX 136 p2_s305 := ck_ok_s (O := p2_O) (X := X) (LX := LX) (E := [(132, [p2_s272]), (134, [p2_s280]), (129, [p2_s249])]) (mi := 136) (cuts := []) (f := 88) (S := p2_s305) (lx := none) (XF := []) ⟨p2_nmu, ck_E1 (ck_S1 p2_s272_s ck_S0) (ck_E1 (ck_S1 p2_s280_s ck_S0) (ck_E1 (ck_S1 p2_s249_s ck_S0) ck_E0))⟩ ck_X0 ck_l0 (by decide +kernel)
set_option maxRecDepth 100000 in
/-- GlacierMail.flow -/
def p2_s306 : ck_Sum := ((8, 3, 18), 245, [.inr (.inr (.inl 1)), .inl (0, 5, []), .inl (0, 98, []), .inl (300, 2147483647, [])], ([], [], []), ([], []), [(.inl 3, 245, ([], [], [])), (.inl 0, 245, ([], [], []))])
set_option maxRecDepth 100000 in
theorem p2_s306_s {X : Int → Int} {LX : Nat} : ck_Ok p2_O X LX 136 p2_s306 := ck_ok_s (O := p2_O) (X := X) (LX := LX) (E := [(132, [p2_s272]), (134, [p2_s280]), (129, [p2_s251])]) (mi := 136) (cuts := []) (f := 88) (S := p2_s306) (lx := none) (XF := []) ⟨p2_nmu, ck_E1 (ck_S1 p2_s272_s ck_S0) (ck_E1 (ck_S1 p2_s280_s ck_S0) (ck_E1 (ck_S1 p2_s251_s ck_S0) ck_E0))⟩ ck_X0 ck_l0 (by decide +kernel)
set_option maxRecDepth 100000 in
/-- GlacierMail$Ice.speedAt -/
def p2_s307 : ck_Sum := ((0, 0, 0), 245, [.inr (.inr (.inl 200)), .inl ((-2147483648), 2147483647, []), .inl ((-2147483648), 2147483647, [])], ([], [], []), ([], []), [(.inr (some (.inl (ck_one 0))), 245, ([], [], [])), (.inr (some (.inl ((-1), 98, []))), 245, ([], [], []))])
set_option maxRecDepth 100000 in
theorem p2_s307_s {X : Int → Int} {LX : Nat} : ck_Ok p2_O X LX 36 p2_s307 := ck_ok_s (O := p2_O) (X := X) (LX := LX) (E := []) (mi := 36) (cuts := []) (f := 108) (S := p2_s307) (lx := none) (XF := []) ⟨p2_nmu, ck_E0⟩ ck_X0 ck_l0 (by decide +kernel)
set_option maxRecDepth 100000 in
/-- GlacierMail$Ice.flowAt -/
def p2_s308 : ck_Sum := ((1, 0, 0), 245, [.inr (.inr (.inl 200)), .inl ((-2147483648), 2147483647, []), .inl ((-2147483648), 2147483647, []), .inl ((-2147483648), 2147483647, [])], ([], [(3, 8, 0)], []), ([], []), [(.inr (some (.inl (ck_one 0))), 245, ([], [], [])), (.inr (some (.inl ((-1), 98, []))), 245, ([], [], []))])
set_option maxRecDepth 100000 in
theorem p2_s308_s {X : Int → Int} {LX : Nat} : ck_Ok p2_O X LX 35 p2_s308 := ck_ok_s (O := p2_O) (X := X) (LX := LX) (E := [(36, [p2_s307])]) (mi := 35) (cuts := []) (f := 92) (S := p2_s308) (lx := none) (XF := []) ⟨p2_nmu, ck_E1 (ck_S1 p2_s307_s ck_S0) ck_E0⟩ ck_X0 ck_l0 (by decide +kernel)
set_option maxRecDepth 100000 in
/-- GlacierMail.flow -/
def p2_s309 : ck_Sum := ((8, 2, 12), 245, [.inr (.inr (.inl 1)), .inl (0, 5, []), .inl (0, 98, []), .inl (0, 299, [])], ([], [(3, 8, 0)], []), ([], []), [(.inl 3, 245, ([], [], [])), (.inr (some (.inl (ck_one 0))), 245, ([], [], [])), (.inr (some (.inl ((-1), 98, []))), 245, ([], [], []))])
set_option maxRecDepth 100000 in
theorem p2_s309_s {X : Int → Int} {LX : Nat} : ck_Ok p2_O X LX 136 p2_s309 := ck_ok_s (O := p2_O) (X := X) (LX := LX) (E := [(132, [p2_s272]), (134, [p2_s280]), (129, [p2_s253]), (35, [p2_s308])]) (mi := 136) (cuts := []) (f := 102) (S := p2_s309) (lx := none) (XF := []) ⟨p2_nmu, ck_E1 (ck_S1 p2_s272_s ck_S0) (ck_E1 (ck_S1 p2_s280_s ck_S0) (ck_E1 (ck_S1 p2_s253_s ck_S0) (ck_E1 (ck_S1 p2_s308_s ck_S0) ck_E0)))⟩ ck_X0 ck_l0 (by decide +kernel)
set_option maxRecDepth 100000 in
/-- GlacierMailModel.flow -/
def p2_s310 : ck_Sum := ((2, 0, 0), 245, [.inr (.inr (.inl 226)), .inl ((-2147483648), (-1), []), .inl ((-2147483648), 2147483647, []), .inl ((-2147483648), 2147483647, [])], ([], [], []), ([(226, 0, 0)], []), [(.inr (some (.inl (ck_one 0))), 245, ([], [], [(226, 0, 0, ck_one 1)]))])
set_option maxRecDepth 100000 in
theorem p2_s310_s {X : Int → Int} {LX : Nat} : ck_Ok p2_O X LX 291 p2_s310 := ck_ok_s (O := p2_O) (X := X) (LX := LX) (E := [(288, [p2_s284]), (282, [p2_s241])]) (mi := 291) (cuts := []) (f := 102) (S := p2_s310) (lx := none) (XF := []) ⟨p2_nmu, ck_E1 (ck_S1 p2_s284_s ck_S0) (ck_E1 (ck_S1 p2_s241_s ck_S0) ck_E0)⟩ ck_X0 ck_l0 (by decide +kernel)
set_option maxRecDepth 100000 in
/-- GlacierMailModel.flow -/
def p2_s311 : ck_Sum := ((2, 0, 0), 245, [.inr (.inr (.inl 226)), .inl (6, 2147483647, []), .inl ((-2147483648), 2147483647, []), .inl ((-2147483648), 2147483647, [])], ([], [], []), ([(226, 0, 0)], []), [(.inr (some (.inl (ck_one 0))), 245, ([], [], [(226, 0, 0, ck_one 1)]))])
set_option maxRecDepth 100000 in
theorem p2_s311_s {X : Int → Int} {LX : Nat} : ck_Ok p2_O X LX 291 p2_s311 := ck_ok_s (O := p2_O) (X := X) (LX := LX) (E := [(288, [p2_s287]), (282, [p2_s241])]) (mi := 291) (cuts := []) (f := 102) (S := p2_s311) (lx := none) (XF := []) ⟨p2_nmu, ck_E1 (ck_S1 p2_s287_s ck_S0) (ck_E1 (ck_S1 p2_s241_s ck_S0) ck_E0)⟩ ck_X0 ck_l0 (by decide +kernel)
set_option maxRecDepth 100000 in
/-- GlacierMailModel.flow -/
def p2_s312 : ck_Sum := ((2, 0, 0), 245, [.inr (.inr (.inl 226)), .inl (0, 5, []), .inl ((-2147483648), (-1), []), .inl ((-2147483648), 2147483647, [])], ([], [], []), ([(226, 0, 0)], []), [(.inr (some (.inl (ck_one 0))), 245, ([], [], [(226, 0, 0, ck_one 1)]))])
set_option maxRecDepth 100000 in
theorem p2_s312_s {X : Int → Int} {LX : Nat} : ck_Ok p2_O X LX 291 p2_s312 := ck_ok_s (O := p2_O) (X := X) (LX := LX) (E := [(288, [p2_s290]), (282, [p2_s241]), (289, [p2_s292])]) (mi := 291) (cuts := []) (f := 110) (S := p2_s312) (lx := none) (XF := []) ⟨p2_nmu, ck_E1 (ck_S1 p2_s290_s ck_S0) (ck_E1 (ck_S1 p2_s241_s ck_S0) (ck_E1 (ck_S1 p2_s292_s ck_S0) ck_E0))⟩ ck_X0 ck_l0 (by decide +kernel)
set_option maxRecDepth 100000 in
/-- GlacierMailModel.flow -/
def p2_s313 : ck_Sum := ((2, 0, 0), 245, [.inr (.inr (.inl 226)), .inl (0, 5, []), .inl (99, 2147483647, []), .inl ((-2147483648), 2147483647, [])], ([], [], []), ([(226, 0, 0)], []), [(.inr (some (.inl (ck_one 0))), 245, ([], [], [(226, 0, 0, ck_one 1)]))])
set_option maxRecDepth 100000 in
theorem p2_s313_s {X : Int → Int} {LX : Nat} : ck_Ok p2_O X LX 291 p2_s313 := ck_ok_s (O := p2_O) (X := X) (LX := LX) (E := [(288, [p2_s290]), (282, [p2_s241]), (289, [p2_s295])]) (mi := 291) (cuts := []) (f := 110) (S := p2_s313) (lx := none) (XF := []) ⟨p2_nmu, ck_E1 (ck_S1 p2_s290_s ck_S0) (ck_E1 (ck_S1 p2_s241_s ck_S0) (ck_E1 (ck_S1 p2_s295_s ck_S0) ck_E0))⟩ ck_X0 ck_l0 (by decide +kernel)
set_option maxRecDepth 100000 in
/-- GlacierMailModel.flow -/
def p2_s314 : ck_Sum := ((2, 0, 0), 245, [.inr (.inr (.inl 226)), .inl (0, 5, []), .inl (0, 98, []), .inl ((-2147483648), (-1), [])], ([], [], []), ([(226, 0, 0)], []), [(.inr (some (.inl (ck_one 0))), 245, ([], [], [(226, 0, 0, (1, 2, []))]))])
set_option maxRecDepth 100000 in
theorem p2_s314_s {X : Int → Int} {LX : Nat} : ck_Ok p2_O X LX 291 p2_s314 := ck_ok_s (O := p2_O) (X := X) (LX := LX) (E := [(288, [p2_s290]), (282, [p2_s241, p2_s242, p2_s244]), (289, [p2_s298]), (285, [p2_s257])]) (mi := 291) (cuts := []) (f := 120) (S := p2_s314) (lx := none) (XF := []) ⟨p2_nmu, ck_E1 (ck_S1 p2_s290_s ck_S0) (ck_E1 (ck_S1 p2_s241_s (ck_S1 p2_s242_s (ck_S1 p2_s244_s ck_S0))) (ck_E1 (ck_S1 p2_s298_s ck_S0) (ck_E1 (ck_S1 p2_s257_s ck_S0) ck_E0)))⟩ ck_X0 ck_l0 (by decide +kernel)
set_option maxRecDepth 100000 in
/-- GlacierMailModel.flow -/
def p2_s315 : ck_Sum := ((2, 0, 0), 245, [.inr (.inr (.inl 226)), .inl (0, 5, []), .inl (0, 98, []), .inl (300, 2147483647, [])], ([], [], []), ([(226, 0, 0)], []), [(.inr (some (.inl (ck_one 0))), 245, ([], [], [(226, 0, 0, (1, 2, []))]))])
set_option maxRecDepth 100000 in
theorem p2_s315_s {X : Int → Int} {LX : Nat} : ck_Ok p2_O X LX 291 p2_s315 := ck_ok_s (O := p2_O) (X := X) (LX := LX) (E := [(288, [p2_s290]), (282, [p2_s241, p2_s242, p2_s244]), (289, [p2_s298]), (285, [p2_s260])]) (mi := 291) (cuts := []) (f := 120) (S := p2_s315) (lx := none) (XF := []) ⟨p2_nmu, ck_E1 (ck_S1 p2_s290_s ck_S0) (ck_E1 (ck_S1 p2_s241_s (ck_S1 p2_s242_s (ck_S1 p2_s244_s ck_S0))) (ck_E1 (ck_S1 p2_s298_s ck_S0) (ck_E1 (ck_S1 p2_s260_s ck_S0) ck_E0)))⟩ ck_X0 ck_l0 (by decide +kernel)
set_option maxRecDepth 100000 in
/-- GlacierMailModel.turnsTo -/
def p2_s316 : ck_Sum := ((0, 0, 0), 245, [.inr (.inr (.inl 226)), .inl (0, 6, [])], ([], [], []), ([(226, 26, 26), (235, 0, 29699)], []), [(.inr none, 245, ([], [], [(226, 26, 26, (0, 6, []))]))])
set_option maxRecDepth 100000 in
theorem p2_s316_s {X : Int → Int} {LX : Nat} : ck_Ok p2_O X LX 293 p2_s316 := ck_ok_s (O := p2_O) (X := X) (LX := LX) (E := []) (mi := 293) (cuts := [(16, [some (.inr (.inr (.inl 226))), some (.inl (0, 6, [])), some (.inl (0, 29700, []))], ([], [], [(226, 26, 26, (0, 6, []))]), 100, .inl 2, true)]) (f := 142) (S := p2_s316) (lx := none) (XF := []) ⟨p2_nmu, ck_E0⟩ ck_X0 ck_l0 (by decide +kernel)
set_option maxRecDepth 100000 in
def p2_s318 : ck_Sum := ((4, 0, 0), 245, [.inr (.inr (.inl 226)), .inl (0, 6, []), .inl (0, 98, []), .inl (0, 299, [])], ([], [], [(227, 2, 2, (0, 8, [(20, 0)]))]), ([(226, 17, 23), (226, 26, 26), (233, 0, 399), (235, 0, 29699)], []), [(.inr (some (.inl (0, 30, []))), 245, ([], [], [(226, 26, 26, (0, 6, []))]))])
def p2_s318_E : List (Nat × List ck_Sum) := [(293, [p2_s316]), (290, [p2_s299]), (294, [sl_S])]
def p2_s318_L : ck_AL := [some (.inr (.inr (.inl 226))), some (.inl (0, 6, [])), some (.inl (0, 98, [])), some (.inl (0, 299, [])), some (.inl (0, 29699, [])), none]
set_option maxRecDepth 100000 in
def p2_s318_F : ck_F := ([], [], [(226, 26, 26, (0, 6, [])), (227, 2, 2, (0, 8, [(20, 0)]))])
def p2_s318_C : ck_C := (p2_s318_L, p2_s318_F, 0, .inl 4, true)
set_option maxRecDepth 100000 in
theorem p2_s318_a : (decide (p2_s318.2.2.1.length ≤ gm_ml 292) && ck_go p2_O none [] p2_s318_E 292 p2_s318.1.1 p2_s318.2.1 p2_s318.2.2.2.2.1 p2_s318.2.2.2.2.2 [(14, p2_s318_C)] 900 false [(14, p2_s318_C, 0, 0, 245)] p2_s318.1.2.1 p2_s318.1.2.2 0 (p2_s318.2.2.1.map some ++ List.replicate (gm_ml 292 - p2_s318.2.2.1.length) none) [] p2_s318.2.1 p2_s318.2.2.2.1) = true := by decide +kernel
set_option maxRecDepth 100000 in
theorem p2_s318_b : ck_go p2_O none [] p2_s318_E 292 p2_s318.1.1 p2_s318.2.1 p2_s318.2.2.2.2.1 p2_s318.2.2.2.2.2 [] 900 true [] 0 0 34 p2_s318_L [] 245 p2_s318_F = true := by decide +kernel
set_option maxRecDepth 100000 in
theorem p2_s318_f : gm_tyr p2_O 235 0 29699 = some (0, 31) := by decide +kernel
set_option maxRecDepth 100000 in
theorem p2_s318_g : ck_leF p2_O p2_s318_F (([], [], [(226, 26, 26, (0, 6, []))])) = true := by decide +kernel
theorem p2_s318_h {X : Int → Int} {LX : Nat} : ck_nmu p2_O ∧ ck_OkE p2_O X LX p2_s318_E := ⟨p2_nmu, ck_E1 (ck_S1 p2_s316_s ck_S0) (ck_E1 (ck_S1 p2_s299_s ck_S0) (ck_E1 (ck_S1 sl_S_s ck_S0) ck_E0))⟩
theorem p2_s318_s {X : Int → Int} {LX : Nat} : ck_Ok p2_O X LX 292 p2_s318 := by
  refine ck_ok_st (cuts := [(14, p2_s318_C)]) (by decide) p2_s318_h p2_s318_a (fun h hm => ?_)
  rw [List.mem_singleton.mp hm]
  refine ⟨List.mem_singleton.mpr rfl, fun σ K0 R0 M0 v _ bc bs L K R M hb1 hb2 hS _ => ?_⟩
  obtain ⟨hF, hl, hs, hf, hfr⟩ := hS
  obtain ⟨u0, e0, g0⟩ := hl.2 0 (.inr (.inr (.inl 226))) rfl
  cases g0
  obtain ⟨u4, e4, t, rfl, ht1, ht2, ht3, -⟩ := hl.2 4 (.inl (0, 29699, [])) rfl
  have ht2 : (0 : Int) ≤ t := ht2
  have ht3 : t ≤ (29699 : Int) := ht3
  obtain ⟨-, hM1, hM2⟩ := (gm_tyr_s hF p2_s318_f).2 t (by omega) (by omega)
  have hM1 : (0 : Int) ≤ M 235 t := hM1
  have hM2 : M 235 t ≤ (31 : Int) := hM2
  refine ck_flow (O := p2_O) hF (k := 226) (fl := 235) (by decide +kernel) (by decide +kernel) (by decide +kernel) e0 e4 ⟨by omega, by omega⟩ ⟨by omega, by omega⟩ (fun hp => ?_) ?_
  · exact ⟨hF, hfr, _, List.mem_cons_self, ⟨_, rfl, ⟨by omega, by omega⟩, by show (0 : Int) ≤ M 235 t - 1; omega, by show M 235 t - 1 ≤ (30 : Int); omega, fun _ h => nomatch h⟩, rfl, ck_leF_s hF hf p2_s318_g⟩
  · exact gm_Wp_wk (Nat.le_refl _) hb1 hb2 (ck_go_s (σ0 := σ) (cuts := []) (by decide) p2_s318_h ck_X0 ck_l0 900 true [] _ _ 34 _ [] _ _ σ L [] K R M (fun _ _ => rfl) (fun _ h => nomatch h) ⟨hF, hl, rfl, hf, hfr⟩ p2_s318_b)
set_option maxRecDepth 100000 in
/-- GlacierMail$Rows.size -/
def p2_s320 : ck_Sum := ((0, 0, 0), 245, [.inr (.inr (.inl 8))], ([], [], []), ([], []), [(.inr (some (.inl (0, 8, []))), 245, ([], [], []))])
set_option maxRecDepth 100000 in
theorem p2_s320_s {X : Int → Int} {LX : Nat} : ck_Ok p2_O X LX 9 p2_s320 := ck_ok_s (O := p2_O) (X := X) (LX := LX) (E := []) (mi := 9) (cuts := []) (f := 76) (S := p2_s320) (lx := none) (XF := []) ⟨p2_nmu, ck_E0⟩ ck_X0 ck_l0 (by decide +kernel)
set_option maxRecDepth 100000 in
/-- GlacierMail.need -/
def p2_s321 : ck_Sum := ((6, 1, 6), 245, [.inr (.inr (.inl 1)), .inl ((-2147483648), (-1), []), .inl (0, 8, [])], ([], [], []), ([], []), [(.inl 3, 245, ([], [], []))])
set_option maxRecDepth 100000 in
theorem p2_s321_s {X : Int → Int} {LX : Nat} : ck_Ok p2_O X LX 133 p2_s321 := ck_ok_s (O := p2_O) (X := X) (LX := LX) (E := []) (mi := 133) (cuts := []) (f := 76) (S := p2_s321) (lx := none) (XF := []) ⟨p2_nmu, ck_E0⟩ ck_X0 ck_l0 (by decide +kernel)
set_option maxRecDepth 100000 in
/-- GlacierMail.needPerson -/
def p2_s322 : ck_Sum := ((7, 1, 6), 245, [.inr (.inr (.inl 1)), .inl ((-2147483648), (-1), [])], ([], [], []), ([], []), [(.inl 3, 245, ([], [], []))])
set_option maxRecDepth 100000 in
theorem p2_s322_s {X : Int → Int} {LX : Nat} : ck_Ok p2_O X LX 139 p2_s322 := ck_ok_s (O := p2_O) (X := X) (LX := LX) (E := [(9, [p2_s320]), (133, [p2_s321])]) (mi := 139) (cuts := []) (f := 84) (S := p2_s322) (lx := none) (XF := []) ⟨p2_nmu, ck_E1 (ck_S1 p2_s320_s ck_S0) (ck_E1 (ck_S1 p2_s321_s ck_S0) ck_E0)⟩ ck_X0 ck_l0 (by decide +kernel)
set_option maxRecDepth 100000 in
/-- GlacierMail.person -/
def p2_s323 : ck_Sum := ((8, 1, 6), 245, [.inr (.inr (.inl 1)), .inl ((-2147483648), (-1), []), .inl ((-2147483648), 2147483647, [])], ([], [], []), ([], []), [(.inl 3, 245, ([], [], []))])
set_option maxRecDepth 100000 in
theorem p2_s323_s {X : Int → Int} {LX : Nat} : ck_Ok p2_O X LX 138 p2_s323 := ck_ok_s (O := p2_O) (X := X) (LX := LX) (E := [(139, [p2_s322])]) (mi := 138) (cuts := []) (f := 76) (S := p2_s323) (lx := none) (XF := []) ⟨p2_nmu, ck_E1 (ck_S1 p2_s322_s ck_S0) ck_E0⟩ ck_X0 ck_l0 (by decide +kernel)
set_option maxRecDepth 100000 in
/-- GlacierMail.need -/
def p2_s324 : ck_Sum := ((6, 1, 6), 245, [.inr (.inr (.inl 1)), .inl (8, 2147483647, []), .inl (0, 8, [])], ([], [], []), ([], []), [(.inl 3, 245, ([], [], []))])
set_option maxRecDepth 100000 in
theorem p2_s324_s {X : Int → Int} {LX : Nat} : ck_Ok p2_O X LX 133 p2_s324 := ck_ok_s (O := p2_O) (X := X) (LX := LX) (E := []) (mi := 133) (cuts := []) (f := 82) (S := p2_s324) (lx := none) (XF := []) ⟨p2_nmu, ck_E0⟩ ck_X0 ck_l0 (by decide +kernel)
set_option maxRecDepth 100000 in
/-- GlacierMail.needPerson -/
def p2_s325 : ck_Sum := ((7, 1, 6), 245, [.inr (.inr (.inl 1)), .inl (8, 2147483647, [])], ([], [], []), ([], []), [(.inl 3, 245, ([], [], []))])
set_option maxRecDepth 100000 in
theorem p2_s325_s {X : Int → Int} {LX : Nat} : ck_Ok p2_O X LX 139 p2_s325 := ck_ok_s (O := p2_O) (X := X) (LX := LX) (E := [(9, [p2_s320]), (133, [p2_s324])]) (mi := 139) (cuts := []) (f := 84) (S := p2_s325) (lx := none) (XF := []) ⟨p2_nmu, ck_E1 (ck_S1 p2_s320_s ck_S0) (ck_E1 (ck_S1 p2_s324_s ck_S0) ck_E0)⟩ ck_X0 ck_l0 (by decide +kernel)
set_option maxRecDepth 100000 in
/-- GlacierMail.person -/
def p2_s326 : ck_Sum := ((8, 1, 6), 245, [.inr (.inr (.inl 1)), .inl (8, 2147483647, []), .inl ((-2147483648), 2147483647, [])], ([], [], []), ([], []), [(.inl 3, 245, ([], [], []))])
set_option maxRecDepth 100000 in
theorem p2_s326_s {X : Int → Int} {LX : Nat} : ck_Ok p2_O X LX 138 p2_s326 := ck_ok_s (O := p2_O) (X := X) (LX := LX) (E := [(139, [p2_s325])]) (mi := 138) (cuts := []) (f := 76) (S := p2_s326) (lx := none) (XF := []) ⟨p2_nmu, ck_E1 (ck_S1 p2_s325_s ck_S0) ck_E0⟩ ck_X0 ck_l0 (by decide +kernel)
set_option maxRecDepth 100000 in
/-- GlacierMail.need -/
def p2_s327 : ck_Sum := ((6, 1, 6), 245, [.inr (.inr (.inl 1)), .inl (0, 7, []), .inl (0, 8, [])], ([], [], []), ([], []), [(.inr none, 245, ([], [], [])), (.inl 3, 245, ([], [], []))])
set_option maxRecDepth 100000 in
theorem p2_s327_s {X : Int → Int} {LX : Nat} : ck_Ok p2_O X LX 133 p2_s327 := ck_ok_s (O := p2_O) (X := X) (LX := LX) (E := []) (mi := 133) (cuts := []) (f := 82) (S := p2_s327) (lx := none) (XF := []) ⟨p2_nmu, ck_E0⟩ ck_X0 ck_l0 (by decide +kernel)
set_option maxRecDepth 100000 in
/-- GlacierMail.needPerson -/
def p2_s328 : ck_Sum := ((7, 1, 6), 245, [.inr (.inr (.inl 1)), .inl (0, 7, [])], ([], [], []), ([], []), [(.inl 3, 245, ([], [], [])), (.inr none, 245, ([], [], []))])
set_option maxRecDepth 100000 in
theorem p2_s328_s {X : Int → Int} {LX : Nat} : ck_Ok p2_O X LX 139 p2_s328 := ck_ok_s (O := p2_O) (X := X) (LX := LX) (E := [(9, [p2_s320]), (133, [p2_s327])]) (mi := 139) (cuts := []) (f := 86) (S := p2_s328) (lx := none) (XF := []) ⟨p2_nmu, ck_E1 (ck_S1 p2_s320_s ck_S0) (ck_E1 (ck_S1 p2_s327_s ck_S0) ck_E0)⟩ ck_X0 ck_l0 (by decide +kernel)
set_option maxRecDepth 100000 in
/-- GlacierMail.person -/
def p2_s329 : ck_Sum := ((8, 2, 12), 245, [.inr (.inr (.inl 1)), .inl (0, 7, []), .inl ((-2147483648), (-1), [])], ([], [], []), ([], []), [(.inl 3, 245, ([], [], [])), (.inl 4, 245, ([], [], []))])
set_option maxRecDepth 100000 in
theorem p2_s329_s {X : Int → Int} {LX : Nat} : ck_Ok p2_O X LX 138 p2_s329 := ck_ok_s (O := p2_O) (X := X) (LX := LX) (E := [(139, [p2_s328])]) (mi := 138) (cuts := []) (f := 82) (S := p2_s329) (lx := none) (XF := []) ⟨p2_nmu, ck_E1 (ck_S1 p2_s328_s ck_S0) ck_E0⟩ ck_X0 ck_l0 (by decide +kernel)
set_option maxRecDepth 100000 in
/-- GlacierMail.person -/
def p2_s330 : ck_Sum := ((8, 2, 12), 245, [.inr (.inr (.inl 1)), .inl (0, 7, []), .inl (10, 2147483647, [])], ([], [], []), ([], []), [(.inl 3, 245, ([], [], [])), (.inl 4, 245, ([], [], []))])
set_option maxRecDepth 100000 in
theorem p2_s330_s {X : Int → Int} {LX : Nat} : ck_Ok p2_O X LX 138 p2_s330 := ck_ok_s (O := p2_O) (X := X) (LX := LX) (E := [(139, [p2_s328])]) (mi := 138) (cuts := []) (f := 82) (S := p2_s330) (lx := none) (XF := []) ⟨p2_nmu, ck_E1 (ck_S1 p2_s328_s ck_S0) ck_E0⟩ ck_X0 ck_l0 (by decide +kernel)
set_option maxRecDepth 100000 in
/-- GlacierMail$Rows.size -/
def p2_s331 : ck_Sum := ((0, 0, 0), 245, [.inr (.inr (.inl 10))], ([], [], []), ([], []), [(.inr (some (.inl (0, 24, []))), 245, ([], [], []))])
set_option maxRecDepth 100000 in
theorem p2_s331_s {X : Int → Int} {LX : Nat} : ck_Ok p2_O X LX 9 p2_s331 := ck_ok_s (O := p2_O) (X := X) (LX := LX) (E := []) (mi := 9) (cuts := []) (f := 76) (S := p2_s331) (lx := none) (XF := []) ⟨p2_nmu, ck_E0⟩ ck_X0 ck_l0 (by decide +kernel)
set_option maxRecDepth 100000 in
/-- GlacierMail$Rows.size -/
def p2_s332 : ck_Sum := ((0, 0, 0), 245, [.inr (.inr (.inl 220))], ([], [], []), ([], []), [(.inr (some (.inl (0, 24, []))), 245, ([], [], []))])
set_option maxRecDepth 100000 in
theorem p2_s332_s {X : Int → Int} {LX : Nat} : ck_Ok p2_O X LX 9 p2_s332 := ck_ok_s (O := p2_O) (X := X) (LX := LX) (E := []) (mi := 9) (cuts := []) (f := 76) (S := p2_s332) (lx := none) (XF := []) ⟨p2_nmu, ck_E0⟩ ck_X0 ck_l0 (by decide +kernel)
set_option maxRecDepth 100000 in
/-- java/util/Arrays.fill -/
def p2_s333 : ck_Sum := ((0, 0, 0), 245, [.inr (.inr (.inl 221)), .inl (ck_one 0)], ([], [], []), ([(221, 0, 47)], []), [(.inr none, 245, ([], [], []))])
set_option maxRecDepth 100000 in
theorem p2_s333_s {X : Int → Int} {LX : Nat} : ck_Ok p2_O X LX 8 p2_s333 := ck_ok_s (O := p2_O) (X := X) (LX := LX) (E := []) (mi := 8) (cuts := [(5, [some (.inr (.inr (.inl 221))), some (.inl (ck_one 0)), some (.inl (0, 48, [])), some (.inl (ck_one 48))], ([], [], []), 100, .inl 2, true)]) (f := 130) (S := p2_s333) (lx := none) (XF := []) ⟨p2_nmu, ck_E0⟩ ck_X0 ck_l0 (by decide +kernel)
set_option maxRecDepth 100000 in
/-- GlacierMail$Rows.reset -/
def p2_s334 : ck_Sum := ((1, 0, 0), 245, [.inr (.inr (.inl 220)), .inl (0, 24, [])], ([], [], []), ([(220, 3, 3), (221, 0, 47)], []), [(.inr none, 245, ([], [], []))])
set_option maxRecDepth 100000 in
theorem p2_s334_s {X : Int → Int} {LX : Nat} : ck_Ok p2_O X LX 25 p2_s334 := ck_ok_s (O := p2_O) (X := X) (LX := LX) (E := [(8, [p2_s333])]) (mi := 25) (cuts := []) (f := 96) (S := p2_s334) (lx := none) (XF := []) ⟨p2_nmu, ck_E1 (ck_S1 p2_s333_s ck_S0) ck_E0⟩ ck_X0 ck_l0 (by decide +kernel)
set_option maxRecDepth 100000 in
/-- GlacierMail$Rows.get -/
def p2_s335 : ck_Sum := ((0, 0, 0), 245, [.inr (.inr (.inl 10)), .inl ((-2147483648), 2147483647, []), .inl ((-2147483648), 2147483647, [])], ([], [], []), ([], []), [(.inr (some (.inl ((-1), 299, []))), 245, ([], [], []))])
set_option maxRecDepth 100000 in
theorem p2_s335_s {X : Int → Int} {LX : Nat} : ck_Ok p2_O X LX 10 p2_s335 := ck_ok_s (O := p2_O) (X := X) (LX := LX) (E := []) (mi := 10) (cuts := []) (f := 114) (S := p2_s335) (lx := none) (XF := []) ⟨p2_nmu, ck_E0⟩ ck_X0 ck_l0 (by decide +kernel)
set_option maxRecDepth 100000 in
/-- GlacierMail$State.isRock -/
def p2_s336 : ck_Sum := ((1, 0, 0), 245, [.inr (.inr (.inl 3)), .inl (0, 23, [])], ([], [], []), ([], []), [(.inr (some (.inl (ck_one 0))), 245, ([], [], [])), (.inr (some (.inl (ck_one 1))), 245, ([], [], []))])
set_option maxRecDepth 100000 in
theorem p2_s336_s {X : Int → Int} {LX : Nat} : ck_Ok p2_O X LX 28 p2_s336 := ck_ok_s (O := p2_O) (X := X) (LX := LX) (E := [(10, [p2_s335])]) (mi := 28) (cuts := []) (f := 90) (S := p2_s336) (lx := none) (XF := []) ⟨p2_nmu, ck_E1 (ck_S1 p2_s335_s ck_S0) ck_E0⟩ ck_X0 ck_l0 (by decide +kernel)
set_option maxRecDepth 100000 in
/-- GlacierMail$Way.start -/
def p2_s337 : ck_Sum := ((0, 0, 0), 245, [.inr (.inr (.inl 206)), .inl ((-1), 299, []), .inl ((-1), 299, []), .inl ((-1), 299, []), .inl (ck_one 0)], ([], [], []), ([(206, 2, 8)], []), [(.inr none, 245, ([], [], zl74))])
set_option maxRecDepth 100000 in
theorem p2_s337_s {X : Int → Int} {LX : Nat} : ck_Ok p2_O X LX 29 p2_s337 := ck_ok_s (O := p2_O) (X := X) (LX := LX) (E := []) (mi := 29) (cuts := []) (f := 114) (S := p2_s337) (lx := none) (XF := []) ⟨p2_nmu, ck_E0⟩ ck_X0 ck_l0 (by decide +kernel)
set_option maxRecDepth 100000 in
/-- GlacierMail$Way.start -/
def p2_s338 : ck_Sum := ((0, 0, 0), 245, [.inr (.inr (.inl 206)), .inl ((-1), 299, []), .inl ((-1), 299, []), .inl ((-1), 299, []), .inl (ck_one 1)], ([], [], []), ([(206, 2, 8)], []), [(.inr none, 245, ([], [], zl75))])
set_option maxRecDepth 100000 in
theorem p2_s338_s {X : Int → Int} {LX : Nat} : ck_Ok p2_O X LX 29 p2_s338 := ck_ok_s (O := p2_O) (X := X) (LX := LX) (E := []) (mi := 29) (cuts := []) (f := 114) (S := p2_s338) (lx := none) (XF := []) ⟨p2_nmu, ck_E0⟩ ck_X0 ck_l0 (by decide +kernel)
set_option maxRecDepth 100000 in
/-- GlacierMail$Way.startLetter -/
def p2_s339 : ck_Sum := ((2, 0, 0), 245, [.inr (.inr (.inl 206)), .inl (0, 23, [])], ([], [], []), ([(206, 2, 8)], []), [(.inr none, 245, ([], [], zl76))])
set_option maxRecDepth 100000 in
theorem p2_s339_s {X : Int → Int} {LX : Nat} : ck_Ok p2_O X LX 27 p2_s339 := ck_ok_s (O := p2_O) (X := X) (LX := LX) (E := [(10, [p2_s335]), (28, [p2_s336]), (29, [p2_s337, p2_s338])]) (mi := 27) (cuts := []) (f := 116) (S := p2_s339) (lx := none) (XF := []) ⟨p2_nmu, ck_E1 (ck_S1 p2_s335_s ck_S0) (ck_E1 (ck_S1 p2_s336_s ck_S0) (ck_E1 (ck_S1 p2_s337_s (ck_S1 p2_s338_s ck_S0)) ck_E0))⟩ ck_X0 ck_l0 (by decide +kernel)
set_option maxRecDepth 100000 in
/-- GlacierMail$Way.isOut -/
def p2_s340 : ck_Sum := ((0, 0, 0), 245, [.inr (.inr (.inl 206))], ([], [], []), ([], []), [(.inr (some (.inl (ck_one 0))), 245, ([], [], [(206, 5, 5, ((-2147483648), 98, []))])), (.inr (some (.inl (ck_one 1))), 245, ([], [], [(206, 5, 5, (10, 2147483647, []))]))])
set_option maxRecDepth 100000 in
theorem p2_s340_s {X : Int → Int} {LX : Nat} : ck_Ok p2_O X LX 31 p2_s340 := ck_ok_s (O := p2_O) (X := X) (LX := LX) (E := []) (mi := 31) (cuts := []) (f := 88) (S := p2_s340) (lx := none) (XF := []) ⟨p2_nmu, ck_E0⟩ ck_X0 ck_l0 (by decide +kernel)
set_option maxRecDepth 100000 in
/-- GlacierMail$Ice.heatIn -/
def p2_s341 : ck_Sum := ((0, 0, 0), 245, [.inr (.inr (.inl 200)), .inl ((-2147483648), 2147483647, [])], ([], [], []), ([], []), [(.inr (some (.inl (0, 9, []))), 245, ([], [], []))])
set_option maxRecDepth 100000 in
theorem p2_s341_s {X : Int → Int} {LX : Nat} : ck_Ok p2_O X LX 34 p2_s341 := ck_ok_s (O := p2_O) (X := X) (LX := LX) (E := []) (mi := 34) (cuts := []) (f := 92) (S := p2_s341) (lx := none) (XF := []) ⟨p2_nmu, ck_E0⟩ ck_X0 ck_l0 (by decide +kernel)
set_option maxRecDepth 100000 in
/-- GlacierMail$Way.deepAfter -/
def p2_s342 : ck_Sum := ((1, 0, 0), 245, [.inr (.inr (.inl 206))], ([], [], []), ([], []), [(.inr (some (.inl (0, 99, []))), 245, ([], [], []))])
set_option maxRecDepth 100000 in
theorem p2_s342_s {X : Int → Int} {LX : Nat} : ck_Ok p2_O X LX 33 p2_s342 := ck_ok_s (O := p2_O) (X := X) (LX := LX) (E := [(34, [p2_s341])]) (mi := 33) (cuts := []) (f := 110) (S := p2_s342) (lx := none) (XF := []) ⟨p2_nmu, ck_E1 (ck_S1 p2_s341_s ck_S0) ck_E0⟩ ck_X0 ck_l0 (by decide +kernel)
set_option maxRecDepth 100000 in
/-- GlacierMail$Ice.floodsIn -/
def p2_s343 : ck_Sum := ((0, 0, 0), 245, [.inr (.inr (.inl 200)), .inl ((-2147483648), 2147483647, [])], ([], [], []), ([], []), [(.inr (some (.inl (ck_one 0))), 245, ([], [], [])), (.inr (some (.inl ((-2147483648), 2147483647, []))), 245, ([], [], []))])
set_option maxRecDepth 100000 in
theorem p2_s343_s {X : Int → Int} {LX : Nat} : ck_Ok p2_O X LX 44 p2_s343 := ck_ok_s (O := p2_O) (X := X) (LX := LX) (E := []) (mi := 44) (cuts := []) (f := 92) (S := p2_s343) (lx := none) (XF := []) ⟨p2_nmu, ck_E0⟩ ck_X0 ck_l0 (by decide +kernel)
set_option maxRecDepth 100000 in
/-- GlacierMail$Way.takeFloods -/
def p2_s344 : ck_Sum := ((1, 0, 0), 245, [.inr (.inr (.inl 206))], ([], [], []), ([(206, 5, 5), (206, 8, 8)], []), [(.inr none, 245, ([], [], []))])
set_option maxRecDepth 100000 in
theorem p2_s344_s {X : Int → Int} {LX : Nat} : ck_Ok p2_O X LX 43 p2_s344 := ck_ok_s (O := p2_O) (X := X) (LX := LX) (E := [(44, [p2_s343]), (9, [p2_s139]), (10, [p2_s140])]) (mi := 43) (cuts := [(22, [some (.inr (.inr (.inl 206))), some (.inr (.inr (.inl 6))), some (.inl ((-2147483648), 2147483647, [])), some (.inl (0, 9, [])), none], ([], [], []), 100, .inl 3, true)]) (f := 290) (S := p2_s344) (lx := none) (XF := []) ⟨p2_nmu, ck_E1 (ck_S1 p2_s343_s ck_S0) (ck_E1 (ck_S1 p2_s139_s ck_S0) (ck_E1 (ck_S1 p2_s140_s ck_S0) ck_E0))⟩ ck_X0 ck_l0 (by decide +kernel)
set_option maxRecDepth 100000 in
/-- GlacierMail$Way.step -/
def p2_s345 : ck_Sum := ((2, 0, 0), 245, [.inr (.inr (.inl 206))], ([], [(3, 8, 0)], []), ([(206, 5, 8)], []), [(.inr none, 245, ([], [], []))])
set_option maxRecDepth 100000 in
theorem p2_s345_s {X : Int → Int} {LX : Nat} : ck_Ok p2_O X LX 32 p2_s345 := ck_ok_s (O := p2_O) (X := X) (LX := LX) (E := [(31, [p2_s340]), (33, [p2_s342]), (35, [p2_s308]), (43, [p2_s344])]) (mi := 32) (cuts := []) (f := 134) (S := p2_s345) (lx := none) (XF := []) ⟨p2_nmu, ck_E1 (ck_S1 p2_s340_s ck_S0) (ck_E1 (ck_S1 p2_s342_s ck_S0) (ck_E1 (ck_S1 p2_s308_s ck_S0) (ck_E1 (ck_S1 p2_s344_s ck_S0) ck_E0)))⟩ ck_X0 ck_l0 (by decide +kernel)
set_option maxRecDepth 100000 in
/-- GlacierMail$Way.runOut -/
def p2_s346 : ck_Sum := ((3, 0, 0), 245, [.inr (.inr (.inl 206)), .inl (0, 299, [])], ([], [(3, 8, 0)], []), ([(206, 5, 8)], []), [(.inr (some (.inl ((-2147483648), 299, []))), 245, ([], [], []))])
set_option maxRecDepth 100000 in
theorem p2_s346_s {X : Int → Int} {LX : Nat} : ck_Ok p2_O X LX 30 p2_s346 := ck_ok_s (O := p2_O) (X := X) (LX := LX) (E := [(31, [p2_s340]), (32, [p2_s345])]) (mi := 30) (cuts := [(5, [some (.inr (.inr (.inl 206))), some (.inl (0, 299, [])), some (.inl ((-2147483648), 2147483647, []))], ([], [(3, 8, 0)], []), 100, .inl 2, true)]) (f := 134) (S := p2_s346) (lx := none) (XF := []) ⟨p2_nmu, ck_E1 (ck_S1 p2_s340_s ck_S0) (ck_E1 (ck_S1 p2_s345_s ck_S0) ck_E0)⟩ ck_X0 ck_l0 (by decide +kernel)
set_option maxRecDepth 100000 in
/-- GlacierMail$Rows.put -/
def p2_s347 : ck_Sum := ((0, 0, 0), 245, [.inr (.inr (.inl 220)), .inl (0, 23, []), .inl (ck_one 0), .inl ((-2147483648), 299, [])], ([], [], []), (zl77, []), [(.inr none, 245, ([], [], []))])
set_option maxRecDepth 100000 in
theorem p2_s347_s {X : Int → Int} {LX : Nat} : ck_Ok p2_O X LX 45 p2_s347 := ck_ok_s (O := p2_O) (X := X) (LX := LX) (E := []) (mi := 45) (cuts := []) (f := 116) (S := p2_s347) (lx := none) (XF := []) ⟨p2_nmu, ck_E0⟩ ck_X0 ck_l0 (by decide +kernel)
set_option maxRecDepth 100000 in
/-- GlacierMail$Rows.put -/
def p2_s348 : ck_Sum := ((0, 0, 0), 245, [.inr (.inr (.inl 220)), .inl (0, 23, []), .inl (ck_one 1), .inl (0, 99, [])], ([], [], []), (zl78, []), [(.inr none, 245, ([], [], []))])
set_option maxRecDepth 100000 in
theorem p2_s348_s {X : Int → Int} {LX : Nat} : ck_Ok p2_O X LX 45 p2_s348 := ck_ok_s (O := p2_O) (X := X) (LX := LX) (E := []) (mi := 45) (cuts := []) (f := 116) (S := p2_s348) (lx := none) (XF := []) ⟨p2_nmu, ck_E0⟩ ck_X0 ck_l0 (by decide +kernel)
set_option maxRecDepth 100000 in
/-- GlacierMail.reckonEnds -/
def p2_s349 : ck_Sum := ((4, 0, 0), 245, [.inr (.inr (.inl 1))], ([], [(3, 8, 0)], []), (zl79, []), [(.inr none, 245, ([], [], [(1, 15, 15, ck_one 1)]))])
set_option maxRecDepth 100000 in
theorem p2_s349_s {X : Int → Int} {LX : Nat} : ck_Ok p2_O X LX 24 p2_s349 := ck_ok_s (O := p2_O) (X := X) (LX := LX) (E := [(9, [p2_s331, p2_s332]), (25, [p2_s334]), (27, [p2_s339]), (30, [p2_s346]), (45, [p2_s347, p2_s348])]) (mi := 24) (cuts := [(27, [some (.inr (.inr (.inl 1))), some (.inl (0, 24, []))], ([], [(3, 8, 0)], [(1, 15, 15, ck_one 0)]), 100, .inl 1, true)]) (f := 206) (S := p2_s349) (lx := none) (XF := []) ⟨p2_nmu, ck_E1 (ck_S1 p2_s331_s (ck_S1 p2_s332_s ck_S0)) (ck_E1 (ck_S1 p2_s334_s ck_S0) (ck_E1 (ck_S1 p2_s339_s ck_S0) (ck_E1 (ck_S1 p2_s346_s ck_S0) (ck_E1 (ck_S1 p2_s347_s (ck_S1 p2_s348_s ck_S0)) ck_E0))))⟩ ck_X0 ck_l0 (by decide +kernel)
set_option maxRecDepth 100000 in
/-- GlacierMail$Rows.get -/
def p2_s350 : ck_Sum := ((0, 0, 0), 245, [.inr (.inr (.inl 220)), .inl ((-2147483648), 2147483647, []), .inl ((-2147483648), 2147483647, [])], ([], [], []), ([], []), [(.inr (some (.inl ((-2147483648), 299, []))), 245, ([], [], []))])
set_option maxRecDepth 100000 in
theorem p2_s350_s {X : Int → Int} {LX : Nat} : ck_Ok p2_O X LX 10 p2_s350 := ck_ok_s (O := p2_O) (X := X) (LX := LX) (E := []) (mi := 10) (cuts := []) (f := 114) (S := p2_s350) (lx := none) (XF := []) ⟨p2_nmu, ck_E0⟩ ck_X0 ck_l0 (by decide +kernel)
set_option maxRecDepth 100000 in
/-- GlacierMail.isOutBy -/
def p2_s351 : ck_Sum := ((0, 0, 0), 245, [.inr (.inr (.inl 1)), .inl ((-2147483648), 299, []), .inl (0, 299, [])], ([], [], []), ([], []), [(.inr (some (.inl (ck_one 0))), 245, ([], [], [])), (.inr (some (.inl (ck_one 1))), 245, ([], [], []))])
set_option maxRecDepth 100000 in
theorem p2_s351_s {X : Int → Int} {LX : Nat} : ck_Ok p2_O X LX 67 p2_s351 := ck_ok_s (O := p2_O) (X := X) (LX := LX) (E := []) (mi := 67) (cuts := []) (f := 88) (S := p2_s351) (lx := none) (XF := []) ⟨p2_nmu, ck_E0⟩ ck_X0 ck_l0 (by decide +kernel)
set_option maxRecDepth 100000 in
/-- GlacierMail.waits -/
def p2_s352 : ck_Sum := ((2, 0, 0), 245, [.inr (.inr (.inl 1)), .inl (0, 23, [])], ([], [], [(3, 6, 6, (0, 299, [(10, 0)]))]), ([], []), [(.inr (some (.inl (ck_one 0))), 245, ([], [], [])), (.inr (some (.inl (ck_one 1))), 245, ([], [], []))])
set_option maxRecDepth 100000 in
theorem p2_s352_s {X : Int → Int} {LX : Nat} : ck_Ok p2_O X LX 66 p2_s352 := ck_ok_s (O := p2_O) (X := X) (LX := LX) (E := [(28, [p2_s336]), (10, [p2_s335, p2_s350]), (67, [p2_s351])]) (mi := 66) (cuts := []) (f := 134) (S := p2_s352) (lx := none) (XF := []) ⟨p2_nmu, ck_E1 (ck_S1 p2_s336_s ck_S0) (ck_E1 (ck_S1 p2_s335_s (ck_S1 p2_s350_s ck_S0)) (ck_E1 (ck_S1 p2_s351_s ck_S0) ck_E0))⟩ ck_X0 ck_l0 (by decide +kernel)
set_option maxRecDepth 100000 in
/-- GlacierMail.lettersWith -/
def p2_s354 : ck_Sum := ((1, 0, 0), 245, [.inr (.inr (.inl 1)), .inl (ck_one 5), .inl (0, 7, [])], ([], [], []), ([], []), [(.inr (some (.inl ((-2147483648), 2147483647, []))), 245, ([], [], []))])
set_option maxRecDepth 100000 in
theorem p2_s354_s {X : Int → Int} {LX : Nat} : ck_Ok p2_O X LX 140 p2_s354 := ck_ok_s (O := p2_O) (X := X) (LX := LX) (E := [(9, [p2_s331]), (10, [p2_s335])]) (mi := 140) (cuts := [(5, [some (.inr (.inr (.inl 1))), some (.inl (ck_one 5)), some (.inl (0, 7, [])), some (.inl ((-2147483648), 2147483647, [])), some (.inl (0, 24, []))], ([], [], []), 100, .inl 4, true)]) (f := 162) (S := p2_s354) (lx := none) (XF := []) ⟨p2_nmu, ck_E1 (ck_S1 p2_s331_s ck_S0) (ck_E1 (ck_S1 p2_s335_s ck_S0) ck_E0)⟩ ck_X0 ck_l0 (by decide +kernel)
set_option maxRecDepth 100000 in
/-- GlacierMail.lettersWith -/
def p2_s355 : ck_Sum := ((1, 0, 0), 245, [.inr (.inr (.inl 1)), .inl (ck_one 0), .inl (0, 7, [])], ([], [], []), ([], []), [(.inr (some (.inl ((-2147483648), 2147483647, []))), 245, ([], [], []))])
set_option maxRecDepth 100000 in
theorem p2_s355_s {X : Int → Int} {LX : Nat} : ck_Ok p2_O X LX 140 p2_s355 := ck_ok_s (O := p2_O) (X := X) (LX := LX) (E := [(9, [p2_s331]), (10, [p2_s335])]) (mi := 140) (cuts := [(5, [some (.inr (.inr (.inl 1))), some (.inl (ck_one 0)), some (.inl (0, 7, [])), some (.inl ((-2147483648), 2147483647, [])), some (.inl (0, 24, []))], ([], [], []), 100, .inl 4, true)]) (f := 162) (S := p2_s355) (lx := none) (XF := []) ⟨p2_nmu, ck_E1 (ck_S1 p2_s331_s ck_S0) (ck_E1 (ck_S1 p2_s335_s ck_S0) ck_E0)⟩ ck_X0 ck_l0 (by decide +kernel)
set_option maxRecDepth 100000 in
/-- GlacierMail$Rows.get -/
def p2_s356 : ck_Sum := ((0, 0, 0), 245, [.inr (.inr (.inl 8)), .inl ((-2147483648), 2147483647, []), .inl ((-2147483648), 2147483647, [])], ([], [], []), ([], []), [(.inr (some (.inl ((-1), 98, []))), 245, ([], [], []))])
set_option maxRecDepth 100000 in
theorem p2_s356_s {X : Int → Int} {LX : Nat} : ck_Ok p2_O X LX 10 p2_s356 := ck_ok_s (O := p2_O) (X := X) (LX := LX) (E := []) (mi := 10) (cuts := []) (f := 114) (S := p2_s356) (lx := none) (XF := []) ⟨p2_nmu, ck_E0⟩ ck_X0 ck_l0 (by decide +kernel)
set_option maxRecDepth 100000 in
/-- GlacierMailModel.in -/
def p2_s358 : ck_Sum := ((0, 0, 0), 245, [.inl ((-2147483648), (-1), []), .inl (ck_one 0), .inl ((-1), 7, [])], ([], [], []), ([], []), [(.inr (some (.inl (ck_one 0))), 245, ([], [], []))])
set_option maxRecDepth 100000 in
theorem p2_s358_s {X : Int → Int} {LX : Nat} : ck_Ok p2_O X LX 286 p2_s358 := ck_ok_s (O := p2_O) (X := X) (LX := LX) (E := []) (mi := 286) (cuts := []) (f := 80) (S := p2_s358) (lx := none) (XF := []) ⟨p2_nmu, ck_E0⟩ ck_X0 ck_l0 (by decide +kernel)
set_option maxRecDepth 100000 in
/-- GlacierMailModel.noPerson -/
def p2_s359 : ck_Sum := ((1, 0, 0), 245, [.inr (.inr (.inl 226)), .inl ((-2147483648), (-1), [])], ([], [], [(227, 3, 3, (0, 8, [(21, 0)]))]), ([], []), [(.inr (some (.inl (ck_one 1))), 245, ([], [], []))])
set_option maxRecDepth 100000 in
theorem p2_s359_s {X : Int → Int} {LX : Nat} : ck_Ok p2_O X LX 298 p2_s359 := ck_ok_s (O := p2_O) (X := X) (LX := LX) (E := [(253, [p2_s186]), (286, [p2_s358])]) (mi := 298) (cuts := []) (f := 92) (S := p2_s359) (lx := none) (XF := []) ⟨p2_nmu, ck_E1 (ck_S1 p2_s186_s ck_S0) (ck_E1 (ck_S1 p2_s358_s ck_S0) ck_E0)⟩ ck_X0 ck_l0 (by decide +kernel)
set_option maxRecDepth 100000 in
/-- GlacierMailModel.person -/
def p2_s360 : ck_Sum := ((2, 0, 0), 245, [.inr (.inr (.inl 226)), .inl ((-2147483648), (-1), []), .inl ((-2147483648), 2147483647, [])], ([], [], [(227, 3, 3, (0, 8, [(21, 0)]))]), ([(226, 0, 0)], []), [(.inr (some (.inl (ck_one 0))), 245, ([], [], [(226, 0, 0, ck_one 1)]))])
set_option maxRecDepth 100000 in
theorem p2_s360_s {X : Int → Int} {LX : Nat} : ck_Ok p2_O X LX 297 p2_s360 := ck_ok_s (O := p2_O) (X := X) (LX := LX) (E := [(298, [p2_s359]), (282, [p2_s241])]) (mi := 297) (cuts := []) (f := 94) (S := p2_s360) (lx := none) (XF := []) ⟨p2_nmu, ck_E1 (ck_S1 p2_s359_s ck_S0) (ck_E1 (ck_S1 p2_s241_s ck_S0) ck_E0)⟩ ck_X0 ck_l0 (by decide +kernel)
end
/-! 78r80a04.sf -/
section
/-! EVERY CALL ENDS, whatever was done before (laid by wip/am/p2k.py). -/
set_option maxRecDepth 100000 in
/-- GlacierMailModel.in -/
def p2_s361 : ck_Sum := ((0, 0, 0), 245, [.inl (8, 2147483647, []), .inl (ck_one 0), .inl ((-1), 7, [])], ([], [], []), ([], []), [(.inr (some (.inl (ck_one 0))), 245, ([], [], []))])
set_option maxRecDepth 100000 in
theorem p2_s361_s {X : Int → Int} {LX : Nat} : ck_Ok p2_O X LX 286 p2_s361 := ck_ok_s (O := p2_O) (X := X) (LX := LX) (E := []) (mi := 286) (cuts := []) (f := 86) (S := p2_s361) (lx := none) (XF := []) ⟨p2_nmu, ck_E0⟩ ck_X0 ck_l0 (by decide +kernel)
set_option maxRecDepth 100000 in
/-- GlacierMailModel.noPerson -/
def p2_s362 : ck_Sum := ((1, 0, 0), 245, [.inr (.inr (.inl 226)), .inl (8, 2147483647, [])], ([], [], [(227, 3, 3, (0, 8, [(21, 0)]))]), ([], []), [(.inr (some (.inl (ck_one 1))), 245, ([], [], []))])
set_option maxRecDepth 100000 in
theorem p2_s362_s {X : Int → Int} {LX : Nat} : ck_Ok p2_O X LX 298 p2_s362 := ck_ok_s (O := p2_O) (X := X) (LX := LX) (E := [(253, [p2_s186]), (286, [p2_s361])]) (mi := 298) (cuts := []) (f := 92) (S := p2_s362) (lx := none) (XF := []) ⟨p2_nmu, ck_E1 (ck_S1 p2_s186_s ck_S0) (ck_E1 (ck_S1 p2_s361_s ck_S0) ck_E0)⟩ ck_X0 ck_l0 (by decide +kernel)
set_option maxRecDepth 100000 in
/-- GlacierMailModel.person -/
def p2_s363 : ck_Sum := ((2, 0, 0), 245, [.inr (.inr (.inl 226)), .inl (8, 2147483647, []), .inl ((-2147483648), 2147483647, [])], ([], [], [(227, 3, 3, (0, 8, [(21, 0)]))]), ([(226, 0, 0)], []), [(.inr (some (.inl (ck_one 0))), 245, ([], [], [(226, 0, 0, ck_one 1)]))])
set_option maxRecDepth 100000 in
theorem p2_s363_s {X : Int → Int} {LX : Nat} : ck_Ok p2_O X LX 297 p2_s363 := ck_ok_s (O := p2_O) (X := X) (LX := LX) (E := [(298, [p2_s362]), (282, [p2_s241])]) (mi := 297) (cuts := []) (f := 94) (S := p2_s363) (lx := none) (XF := []) ⟨p2_nmu, ck_E1 (ck_S1 p2_s362_s ck_S0) (ck_E1 (ck_S1 p2_s241_s ck_S0) ck_E0)⟩ ck_X0 ck_l0 (by decide +kernel)
set_option maxRecDepth 100000 in
/-- GlacierMailModel.in -/
def p2_s364 : ck_Sum := ((0, 0, 0), 245, [.inl (0, 7, []), .inl (ck_one 0), .inl ((-1), 7, [])], ([], [], []), ([], []), [(.inr (some (.inl (ck_one 0))), 245, ([], [], [])), (.inr (some (.inl (ck_one 1))), 245, ([], [], []))])
set_option maxRecDepth 100000 in
theorem p2_s364_s {X : Int → Int} {LX : Nat} : ck_Ok p2_O X LX 286 p2_s364 := ck_ok_s (O := p2_O) (X := X) (LX := LX) (E := []) (mi := 286) (cuts := []) (f := 88) (S := p2_s364) (lx := none) (XF := []) ⟨p2_nmu, ck_E0⟩ ck_X0 ck_l0 (by decide +kernel)
set_option maxRecDepth 100000 in
/-- GlacierMailModel.noPerson -/
def p2_s365 : ck_Sum := ((1, 0, 0), 245, [.inr (.inr (.inl 226)), .inl (0, 7, [])], ([], [], [(227, 3, 3, (0, 8, [(21, 0)]))]), ([], []), [(.inr (some (.inl (ck_one 1))), 245, ([], [], [])), (.inr (some (.inl (ck_one 0))), 245, ([], [], []))])
set_option maxRecDepth 100000 in
theorem p2_s365_s {X : Int → Int} {LX : Nat} : ck_Ok p2_O X LX 298 p2_s365 := ck_ok_s (O := p2_O) (X := X) (LX := LX) (E := [(253, [p2_s186]), (286, [p2_s364])]) (mi := 298) (cuts := []) (f := 92) (S := p2_s365) (lx := none) (XF := []) ⟨p2_nmu, ck_E1 (ck_S1 p2_s186_s ck_S0) (ck_E1 (ck_S1 p2_s364_s ck_S0) ck_E0)⟩ ck_X0 ck_l0 (by decide +kernel)
set_option maxRecDepth 100000 in
/-- GlacierMailModel.in -/
def p2_s366 : ck_Sum := ((0, 0, 0), 245, [.inl ((-2147483648), (-1), []), .inl (ck_one 0), .inl (ck_one 5)], ([], [], []), ([], []), [(.inr (some (.inl (ck_one 0))), 245, ([], [], []))])
set_option maxRecDepth 100000 in
theorem p2_s366_s {X : Int → Int} {LX : Nat} : ck_Ok p2_O X LX 286 p2_s366 := ck_ok_s (O := p2_O) (X := X) (LX := LX) (E := []) (mi := 286) (cuts := []) (f := 80) (S := p2_s366) (lx := none) (XF := []) ⟨p2_nmu, ck_E0⟩ ck_X0 ck_l0 (by decide +kernel)
set_option maxRecDepth 100000 in
/-- GlacierMailModel.person -/
def p2_s367 : ck_Sum := ((2, 0, 0), 245, [.inr (.inr (.inl 226)), .inl (0, 7, []), .inl ((-2147483648), (-1), [])], ([], [], [(227, 3, 3, (0, 8, [(21, 0)]))]), ([(226, 0, 0)], []), [(.inr (some (.inl (ck_one 0))), 245, ([], [], [(226, 0, 0, (1, 2, []))]))])
set_option maxRecDepth 100000 in
theorem p2_s367_s {X : Int → Int} {LX : Nat} : ck_Ok p2_O X LX 297 p2_s367 := ck_ok_s (O := p2_O) (X := X) (LX := LX) (E := [(298, [p2_s365]), (282, [p2_s241, p2_s242, p2_s244]), (286, [p2_s366])]) (mi := 297) (cuts := []) (f := 116) (S := p2_s367) (lx := none) (XF := []) ⟨p2_nmu, ck_E1 (ck_S1 p2_s365_s ck_S0) (ck_E1 (ck_S1 p2_s241_s (ck_S1 p2_s242_s (ck_S1 p2_s244_s ck_S0))) (ck_E1 (ck_S1 p2_s366_s ck_S0) ck_E0))⟩ ck_X0 ck_l0 (by decide +kernel)
set_option maxRecDepth 100000 in
/-- GlacierMailModel.in -/
def p2_s368 : ck_Sum := ((0, 0, 0), 245, [.inl (10, 2147483647, []), .inl (ck_one 0), .inl (ck_one 5)], ([], [], []), ([], []), [(.inr (some (.inl (ck_one 0))), 245, ([], [], []))])
set_option maxRecDepth 100000 in
theorem p2_s368_s {X : Int → Int} {LX : Nat} : ck_Ok p2_O X LX 286 p2_s368 := ck_ok_s (O := p2_O) (X := X) (LX := LX) (E := []) (mi := 286) (cuts := []) (f := 86) (S := p2_s368) (lx := none) (XF := []) ⟨p2_nmu, ck_E0⟩ ck_X0 ck_l0 (by decide +kernel)
set_option maxRecDepth 100000 in
/-- GlacierMailModel.person -/
def p2_s369 : ck_Sum := ((2, 0, 0), 245, [.inr (.inr (.inl 226)), .inl (0, 7, []), .inl (10, 2147483647, [])], ([], [], [(227, 3, 3, (0, 8, [(21, 0)]))]), ([(226, 0, 0)], []), [(.inr (some (.inl (ck_one 0))), 245, ([], [], [(226, 0, 0, (1, 2, []))]))])
set_option maxRecDepth 100000 in
theorem p2_s369_s {X : Int → Int} {LX : Nat} : ck_Ok p2_O X LX 297 p2_s369 := ck_ok_s (O := p2_O) (X := X) (LX := LX) (E := [(298, [p2_s365]), (282, [p2_s241, p2_s242, p2_s244]), (286, [p2_s368])]) (mi := 297) (cuts := []) (f := 116) (S := p2_s369) (lx := none) (XF := []) ⟨p2_nmu, ck_E1 (ck_S1 p2_s365_s ck_S0) (ck_E1 (ck_S1 p2_s241_s (ck_S1 p2_s242_s (ck_S1 p2_s244_s ck_S0))) (ck_E1 (ck_S1 p2_s368_s ck_S0) ck_E0))⟩ ck_X0 ck_l0 (by decide +kernel)
set_option maxRecDepth 100000 in
/-- GlacierMailModel.in -/
def p2_s370 : ck_Sum := ((0, 0, 0), 245, [.inl (0, 9, []), .inl (ck_one 0), .inl (ck_one 5)], ([], [], []), ([], []), [(.inr (some (.inl (ck_one 0))), 245, ([], [], [])), (.inr (some (.inl (ck_one 1))), 245, ([], [], []))])
set_option maxRecDepth 100000 in
theorem p2_s370_s {X : Int → Int} {LX : Nat} : ck_Ok p2_O X LX 286 p2_s370 := ck_ok_s (O := p2_O) (X := X) (LX := LX) (E := []) (mi := 286) (cuts := []) (f := 88) (S := p2_s370) (lx := none) (XF := []) ⟨p2_nmu, ck_E0⟩ ck_X0 ck_l0 (by decide +kernel)
set_option maxRecDepth 100000 in
/-- GlacierMailModel.ofLetter -/
def p2_s371 : ck_Sum := ((0, 0, 0), 245, [.inr (.inr (.inl 226)), .inl (0, 23, []), .inl (ck_one 1)], ([], [], []), ([], []), [(.inr (some (.inl (ck_one (-1)))), 245, ([], [], [])), (.inr (some (.inl (0, 7, []))), 245, ([], [], []))])
set_option maxRecDepth 100000 in
theorem p2_s371_s {X : Int → Int} {LX : Nat} : ck_Ok p2_O X LX 301 p2_s371 := ck_ok_s (O := p2_O) (X := X) (LX := LX) (E := []) (mi := 301) (cuts := []) (f := 92) (S := p2_s371) (lx := none) (XF := []) ⟨p2_nmu, ck_E0⟩ ck_X0 ck_l0 (by decide +kernel)
set_option maxRecDepth 100000 in
/-- GlacierMailModel.ofLetter -/
def p2_s372 : ck_Sum := ((0, 0, 0), 245, [.inr (.inr (.inl 226)), .inl (0, 23, []), .inl (ck_one 5)], ([], [], []), ([], []), [(.inr (some (.inl (ck_one (-1)))), 245, ([], [], [])), (.inr (some (.inl (0, 7, []))), 245, ([], [], []))])
set_option maxRecDepth 100000 in
theorem p2_s372_s {X : Int → Int} {LX : Nat} : ck_Ok p2_O X LX 301 p2_s372 := ck_ok_s (O := p2_O) (X := X) (LX := LX) (E := []) (mi := 301) (cuts := []) (f := 92) (S := p2_s372) (lx := none) (XF := []) ⟨p2_nmu, ck_E0⟩ ck_X0 ck_l0 (by decide +kernel)
set_option maxRecDepth 100000 in
/-- GlacierMailModel.ofLetter -/
def p2_s373 : ck_Sum := ((0, 0, 0), 245, [.inr (.inr (.inl 226)), .inl (0, 23, []), .inl (ck_one 0)], ([], [], []), ([], []), [(.inr (some (.inl (ck_one (-1)))), 245, ([], [], [])), (.inr (some (.inl (0, 7, []))), 245, ([], [], []))])
set_option maxRecDepth 100000 in
theorem p2_s373_s {X : Int → Int} {LX : Nat} : ck_Ok p2_O X LX 301 p2_s373 := ck_ok_s (O := p2_O) (X := X) (LX := LX) (E := []) (mi := 301) (cuts := []) (f := 92) (S := p2_s373) (lx := none) (XF := []) ⟨p2_nmu, ck_E0⟩ ck_X0 ck_l0 (by decide +kernel)
set_option maxRecDepth 100000 in
/-- GlacierMailModel.isRock -/
def p2_s374 : ck_Sum := ((1, 0, 0), 245, [.inr (.inr (.inl 226)), .inl (0, 23, [])], ([], [], []), ([], []), [(.inr (some (.inl (ck_one 1))), 245, ([], [], [])), (.inr (some (.inl (ck_one 0))), 245, ([], [], []))])
set_option maxRecDepth 100000 in
theorem p2_s374_s {X : Int → Int} {LX : Nat} : ck_Ok p2_O X LX 303 p2_s374 := ck_ok_s (O := p2_O) (X := X) (LX := LX) (E := [(301, [p2_s373])]) (mi := 303) (cuts := []) (f := 86) (S := p2_s374) (lx := none) (XF := []) ⟨p2_nmu, ck_E1 (ck_S1 p2_s373_s ck_S0) ck_E0⟩ ck_X0 ck_l0 (by decide +kernel)
set_option maxRecDepth 100000 in
/-- GlacierMailModel.ofLetter -/
def p2_s375 : ck_Sum := ((0, 0, 0), 245, [.inr (.inr (.inl 226)), .inl (0, 23, []), .inl (ck_one 2)], ([], [], []), ([], []), [(.inr (some (.inl (0, 6, []))), 245, ([], [], []))])
set_option maxRecDepth 100000 in
theorem p2_s375_s {X : Int → Int} {LX : Nat} : ck_Ok p2_O X LX 301 p2_s375 := ck_ok_s (O := p2_O) (X := X) (LX := LX) (E := []) (mi := 301) (cuts := []) (f := 92) (S := p2_s375) (lx := none) (XF := []) ⟨p2_nmu, ck_E0⟩ ck_X0 ck_l0 (by decide +kernel)
set_option maxRecDepth 100000 in
/-- GlacierMailModel.ofLetter -/
def p2_s376 : ck_Sum := ((0, 0, 0), 245, [.inr (.inr (.inl 226)), .inl (0, 23, []), .inl (ck_one 4)], ([], [], []), ([], []), [(.inr (some (.inl (0, 98, []))), 245, ([], [], []))])
set_option maxRecDepth 100000 in
theorem p2_s376_s {X : Int → Int} {LX : Nat} : ck_Ok p2_O X LX 301 p2_s376 := ck_ok_s (O := p2_O) (X := X) (LX := LX) (E := []) (mi := 301) (cuts := []) (f := 92) (S := p2_s376) (lx := none) (XF := []) ⟨p2_nmu, ck_E0⟩ ck_X0 ck_l0 (by decide +kernel)
set_option maxRecDepth 100000 in
/-- GlacierMailModel.ofLetter -/
def p2_s377 : ck_Sum := ((0, 0, 0), 245, [.inr (.inr (.inl 226)), .inl (0, 23, []), .inl (ck_one 3)], ([], [], []), ([], []), [(.inr (some (.inl (0, 299, []))), 245, ([], [], []))])
set_option maxRecDepth 100000 in
theorem p2_s377_s {X : Int → Int} {LX : Nat} : ck_Ok p2_O X LX 301 p2_s377 := ck_ok_s (O := p2_O) (X := X) (LX := LX) (E := []) (mi := 301) (cuts := []) (f := 92) (S := p2_s377) (lx := none) (XF := []) ⟨p2_nmu, ck_E0⟩ ck_X0 ck_l0 (by decide +kernel)
set_option maxRecDepth 100000 in
/-- GlacierMailModel.floods -/
def p2_s378 : ck_Sum := ((0, 0, 0), 245, [.inr (.inr (.inl 226)), .inl (0, 128, []), .inl (0, 299, []), .inl ((-1), 7, [])], ([], [], [(227, 5, 5, (0, 8, [(23, 0)]))]), ([(226, 30, 30)], []), [(.inr (some (.inl (0, 288, []))), 245, ([], [], []))])
def p2_s378_E : List (Nat × List ck_Sum) := []
def p2_s378_i : List (Nat × ck_C) := []
set_option maxRecDepth 100000 in
def p2_s378_l : List ck_H := [(6, ([some (.inr (.inr (.inl 226))), some (.inl (0, 128, [])), some (.inl (0, 299, [])), some (.inl ((-1), 7, [])), some (.inl (0, 288, [])), some (.inl (ck_one 8)), some (.inl (ck_one 92))], ([], [], [(227, 5, 5, (8, 8, [(23, 0)]))]), 2000000, .inl 4, true), 0, 0, 245), (6, ([some (.inr (.inr (.inl 226))), some (.inl (0, 128, [])), some (.inl (0, 299, [])), some (.inl ((-1), 7, [])), some (.inl (0, 268, [])), some (.inl (ck_one 7)), some (.inl (ck_one 89))], ([], [], [(227, 5, 5, (7, 8, [(23, 0)]))]), 2000001, .inl 4, true), 0, 0, 245), (6, ([some (.inr (.inr (.inl 226))), some (.inl (0, 128, [])), some (.inl (0, 299, [])), some (.inl ((-1), 7, [])), some (.inl (0, 248, [])), some (.inl (ck_one 6)), some (.inl (ck_one 86))], ([], [], [(227, 5, 5, (6, 8, [(23, 0)]))]), 2000002, .inl 4, true), 0, 0, 245), (6, ([some (.inr (.inr (.inl 226))), some (.inl (0, 128, [])), some (.inl (0, 299, [])), some (.inl ((-1), 7, [])), some (.inl (0, 228, [])), some (.inl (ck_one 5)), some (.inl (ck_one 83))], ([], [], [(227, 5, 5, (5, 8, [(23, 0)]))]), 2000003, .inl 4, true), 0, 0, 245), (6, ([some (.inr (.inr (.inl 226))), some (.inl (0, 128, [])), some (.inl (0, 299, [])), some (.inl ((-1), 7, [])), some (.inl (0, 208, [])), some (.inl (ck_one 4)), some (.inl (ck_one 80))], ([], [], [(227, 5, 5, (4, 8, [(23, 0)]))]), 2000004, .inl 4, true), 0, 0, 245), (6, ([some (.inr (.inr (.inl 226))), some (.inl (0, 128, [])), some (.inl (0, 299, [])), some (.inl ((-1), 7, [])), some (.inl (0, 188, [])), some (.inl (ck_one 3)), some (.inl (ck_one 77))], ([], [], [(227, 5, 5, (3, 8, [(23, 0)]))]), 2000005, .inl 4, true), 0, 0, 245), (6, ([some (.inr (.inr (.inl 226))), some (.inl (0, 128, [])), some (.inl (0, 299, [])), some (.inl ((-1), 7, [])), some (.inl (0, 168, [])), some (.inl (ck_one 2)), some (.inl (ck_one 74))], ([], [], [(227, 5, 5, (2, 8, [(23, 0)]))]), 2000006, .inl 4, true), 0, 0, 245), (6, ([some (.inr (.inr (.inl 226))), some (.inl (0, 128, [])), some (.inl (0, 299, [])), some (.inl ((-1), 7, [])), some (.inl (0, 148, [])), some (.inl (ck_one 1)), some (.inl (ck_one 71))], ([], [], [(227, 5, 5, (1, 8, [(23, 0)]))]), 2000007, .inl 4, true), 0, 0, 245), (6, ([some (.inr (.inr (.inl 226))), some (.inl (0, 128, [])), some (.inl (0, 299, [])), some (.inl ((-1), 7, [])), some (.inl (0, 128, [])), some (.inl (ck_one 0)), none], ([], [], [(227, 5, 5, (0, 8, [(23, 0)]))]), 2000008, .inl 4, true), 0, 0, 245)]
set_option maxRecDepth 100000 in
theorem p2_s378_a : (decide (p2_s378.2.2.1.length ≤ gm_ml 307) && ck_cu (p2_s378_l.map (fun h => (h.1, h.2.1)) ++ p2_s378_i)) = true := by decide +kernel
set_option maxRecDepth 100000 in
theorem p2_s378_e0 : ck_stpi p2_O p2_s378_E 307 p2_s378.1.1 p2_s378.2.1 p2_s378.2.2.2.2.1 p2_s378.2.2.2.2.2 (p2_s378_l.map (fun h => (h.1, h.2.1)) ++ p2_s378_i) 1290 p2_s378_l 0 = true := by decide +kernel
set_option maxRecDepth 100000 in
theorem p2_s378_e1 : ck_stpi p2_O p2_s378_E 307 p2_s378.1.1 p2_s378.2.1 p2_s378.2.2.2.2.1 p2_s378.2.2.2.2.2 (p2_s378_l.map (fun h => (h.1, h.2.1)) ++ p2_s378_i) 1290 p2_s378_l 1 = true := by decide +kernel
set_option maxRecDepth 100000 in
theorem p2_s378_e2 : ck_stpi p2_O p2_s378_E 307 p2_s378.1.1 p2_s378.2.1 p2_s378.2.2.2.2.1 p2_s378.2.2.2.2.2 (p2_s378_l.map (fun h => (h.1, h.2.1)) ++ p2_s378_i) 1290 p2_s378_l 2 = true := by decide +kernel
set_option maxRecDepth 100000 in
theorem p2_s378_e3 : ck_stpi p2_O p2_s378_E 307 p2_s378.1.1 p2_s378.2.1 p2_s378.2.2.2.2.1 p2_s378.2.2.2.2.2 (p2_s378_l.map (fun h => (h.1, h.2.1)) ++ p2_s378_i) 1290 p2_s378_l 3 = true := by decide +kernel
set_option maxRecDepth 100000 in
theorem p2_s378_e4 : ck_stpi p2_O p2_s378_E 307 p2_s378.1.1 p2_s378.2.1 p2_s378.2.2.2.2.1 p2_s378.2.2.2.2.2 (p2_s378_l.map (fun h => (h.1, h.2.1)) ++ p2_s378_i) 1290 p2_s378_l 4 = true := by decide +kernel
set_option maxRecDepth 100000 in
theorem p2_s378_e5 : ck_stpi p2_O p2_s378_E 307 p2_s378.1.1 p2_s378.2.1 p2_s378.2.2.2.2.1 p2_s378.2.2.2.2.2 (p2_s378_l.map (fun h => (h.1, h.2.1)) ++ p2_s378_i) 1290 p2_s378_l 5 = true := by decide +kernel
set_option maxRecDepth 100000 in
theorem p2_s378_e6 : ck_stpi p2_O p2_s378_E 307 p2_s378.1.1 p2_s378.2.1 p2_s378.2.2.2.2.1 p2_s378.2.2.2.2.2 (p2_s378_l.map (fun h => (h.1, h.2.1)) ++ p2_s378_i) 1290 p2_s378_l 6 = true := by decide +kernel
set_option maxRecDepth 100000 in
theorem p2_s378_e7 : ck_stpi p2_O p2_s378_E 307 p2_s378.1.1 p2_s378.2.1 p2_s378.2.2.2.2.1 p2_s378.2.2.2.2.2 (p2_s378_l.map (fun h => (h.1, h.2.1)) ++ p2_s378_i) 1290 p2_s378_l 7 = true := by decide +kernel
set_option maxRecDepth 100000 in
theorem p2_s378_e8 : ck_stpi p2_O p2_s378_E 307 p2_s378.1.1 p2_s378.2.1 p2_s378.2.2.2.2.1 p2_s378.2.2.2.2.2 (p2_s378_l.map (fun h => (h.1, h.2.1)) ++ p2_s378_i) 1290 p2_s378_l 8 = true := by decide +kernel
set_option maxRecDepth 100000 in
theorem p2_s378_z : ck_go p2_O none [] p2_s378_E 307 p2_s378.1.1 p2_s378.2.1 p2_s378.2.2.2.2.1 p2_s378.2.2.2.2.2 (p2_s378_l.map (fun h => (h.1, h.2.1)) ++ p2_s378_i) 1290 false p2_s378_l p2_s378.1.2.1 p2_s378.1.2.2 0 (p2_s378.2.2.1.map some ++ List.replicate (gm_ml 307 - p2_s378.2.2.1.length) none) [] p2_s378.2.1 p2_s378.2.2.2.1 = true := by decide +kernel
theorem p2_s378_s {X : Int → Int} {LX : Nat} : ck_Ok p2_O X LX 307 p2_s378 := by
  refine ck_okp_i (cuts := p2_s378_i) (l := p2_s378_l) (f := 1290) ⟨p2_nmu, ck_E0⟩ p2_s378_a (fun i hi => ?_) p2_s378_z
  have hi : i < 9 := hi
  have : i = 0 ∨ i = 1 ∨ i = 2 ∨ i = 3 ∨ i = 4 ∨ i = 5 ∨ i = 6 ∨ i = 7 ∨ i = 8 := by omega
  rcases this with rfl | rfl | rfl | rfl | rfl | rfl | rfl | rfl | rfl
  · exact p2_s378_e0
  · exact p2_s378_e1
  · exact p2_s378_e2
  · exact p2_s378_e3
  · exact p2_s378_e4
  · exact p2_s378_e5
  · exact p2_s378_e6
  · exact p2_s378_e7
  · exact p2_s378_e8
set_option maxRecDepth 100000 in
/-- GlacierMailModel.runs -/
def p2_s379 : ck_Sum := ((5, 0, 0), 245, [.inr (.inr (.inl 226)), .inl (0, 6, []), .inl (0, 98, []), .inl (0, 299, []), .inl (0, 1, []), .inl ((-1), 7, [])], ([], [], zl80), (zl81, []), [(.inr none, 245, ([], [], []))])
set_option maxRecDepth 100000 in
theorem p2_s379_s {X : Int → Int} {LX : Nat} : ck_Ok p2_O X LX 306 p2_s379 := ck_ok_s (O := p2_O) (X := X) (LX := LX) (E := [(259, [p2_s180]), (292, [p2_s318]), (307, [p2_s378])]) (mi := 306) (cuts := [(3, [some (.inr (.inr (.inl 226))), some (.inl (0, 6, [])), some (.inl (0, 98, [])), some (.inl (0, 299, [])), some (.inl (0, 1, [])), some (.inl ((-1), 7, [])), some (.inl (0, 299, [])), none, none], ([], [], [(227, 2, 2, (0, 8, [(20, 0)])), (227, 5, 5, (0, 8, [(23, 0)]))]), 100, .inl 6, true), (50, [some (.inr (.inr (.inl 226))), some (.inl (0, 6, [])), some (.inl (0, 98, [])), some (.inl (0, 299, [])), some (.inl (0, 1, [])), some (.inl ((-1), 7, [])), some (.inl (0, 288, [])), some (.inl (0, 99, [])), some (.inl (0, 300, []))], ([], [], [(226, 29, 29, ((-1), 299, [])), (227, 2, 2, (0, 8, [(20, 0)])), (227, 5, 5, (0, 8, [(23, 0)]))]), 300, .inl 8, true)]) (f := 506) (S := p2_s379) (lx := none) (XF := []) ⟨p2_nmu, ck_E1 (ck_S1 p2_s180_s ck_S0) (ck_E1 (ck_S1 p2_s318_s ck_S0) (ck_E1 (ck_S1 p2_s378_s ck_S0) ck_E0))⟩ ck_X0 ck_l0 (by decide +kernel)
set_option maxRecDepth 100000 in
/-- GlacierMailModel.runsLetter -/
def p2_s380 : ck_Sum := ((6, 0, 0), 245, [.inr (.inr (.inl 226)), .inl (0, 23, []), .inl ((-1), 7, [])], ([], [], zl80), (zl81, []), [(.inr none, 245, ([], [], []))])
set_option maxRecDepth 100000 in
theorem p2_s380_s {X : Int → Int} {LX : Nat} : ck_Ok p2_O X LX 305 p2_s380 := ck_ok_s (O := p2_O) (X := X) (LX := LX) (E := [(301, [p2_s375, p2_s376, p2_s377]), (303, [p2_s374]), (306, [p2_s379])]) (mi := 305) (cuts := []) (f := 108) (S := p2_s380) (lx := none) (XF := []) ⟨p2_nmu, ck_E1 (ck_S1 p2_s375_s (ck_S1 p2_s376_s (ck_S1 p2_s377_s ck_S0))) (ck_E1 (ck_S1 p2_s374_s ck_S0) (ck_E1 (ck_S1 p2_s379_s ck_S0) ck_E0))⟩ ck_X0 ck_l0 (by decide +kernel)
set_option maxRecDepth 100000 in
/-- GlacierMailModel.outOf -/
def p2_s381 : ck_Sum := ((7, 0, 0), 245, [.inr (.inr (.inl 226)), .inl (0, 23, [])], ([], [], zl80), (zl81, []), zl82)
set_option maxRecDepth 100000 in
theorem p2_s381_s {X : Int → Int} {LX : Nat} : ck_Ok p2_O X LX 304 p2_s381 := ck_ok_s (O := p2_O) (X := X) (LX := LX) (E := [(305, [p2_s380])]) (mi := 304) (cuts := []) (f := 84) (S := p2_s381) (lx := none) (XF := []) ⟨p2_nmu, ck_E1 (ck_S1 p2_s380_s ck_S0) ck_E0⟩ ck_X0 ck_l0 (by decide +kernel)
set_option maxRecDepth 100000 in
/-- GlacierMailModel.of -/
def p2_s384 : ck_Sum := ((0, 0, 0), 245, [.inr (.inr (.inl 226)), .inl (0, 7, []), .inl (0, 2, [])], ([], [], []), ([], []), [(.inr (some (.inl ((-1), 98, []))), 245, ([], [], []))])
set_option maxRecDepth 100000 in
theorem p2_s384_s {X : Int → Int} {LX : Nat} : ck_Ok p2_O X LX 299 p2_s384 := ck_ok_s (O := p2_O) (X := X) (LX := LX) (E := []) (mi := 299) (cuts := []) (f := 92) (S := p2_s384) (lx := none) (XF := []) ⟨p2_nmu, ck_E0⟩ ck_X0 ck_l0 (by decide +kernel)
set_option maxRecDepth 100000 in
/-- GlacierMail.need -/
def p2_s386 : ck_Sum := ((6, 1, 6), 245, [.inr (.inr (.inl 1)), .inl ((-2147483648), (-1), []), .inl (0, 24, [])], ([], [], []), ([], []), [(.inl 3, 245, ([], [], []))])
set_option maxRecDepth 100000 in
theorem p2_s386_s {X : Int → Int} {LX : Nat} : ck_Ok p2_O X LX 133 p2_s386 := ck_ok_s (O := p2_O) (X := X) (LX := LX) (E := []) (mi := 133) (cuts := []) (f := 76) (S := p2_s386) (lx := none) (XF := []) ⟨p2_nmu, ck_E0⟩ ck_X0 ck_l0 (by decide +kernel)
set_option maxRecDepth 100000 in
/-- GlacierMail.needLetter -/
def p2_s387 : ck_Sum := ((7, 1, 6), 245, [.inr (.inr (.inl 1)), .inl ((-2147483648), (-1), [])], ([], [], []), ([], []), [(.inl 3, 245, ([], [], []))])
set_option maxRecDepth 100000 in
theorem p2_s387_s {X : Int → Int} {LX : Nat} : ck_Ok p2_O X LX 143 p2_s387 := ck_ok_s (O := p2_O) (X := X) (LX := LX) (E := [(9, [p2_s331]), (133, [p2_s386])]) (mi := 143) (cuts := []) (f := 84) (S := p2_s387) (lx := none) (XF := []) ⟨p2_nmu, ck_E1 (ck_S1 p2_s331_s ck_S0) (ck_E1 (ck_S1 p2_s386_s ck_S0) ck_E0)⟩ ck_X0 ck_l0 (by decide +kernel)
set_option maxRecDepth 100000 in
/-- GlacierMail.letter -/
def p2_s388 : ck_Sum := ((8, 1, 6), 245, [.inr (.inr (.inl 1)), .inl ((-2147483648), (-1), []), .inl ((-2147483648), 2147483647, [])], ([], [], []), ([], []), [(.inl 3, 245, ([], [], []))])
set_option maxRecDepth 100000 in
theorem p2_s388_s {X : Int → Int} {LX : Nat} : ck_Ok p2_O X LX 142 p2_s388 := ck_ok_s (O := p2_O) (X := X) (LX := LX) (E := [(143, [p2_s387])]) (mi := 142) (cuts := []) (f := 76) (S := p2_s388) (lx := none) (XF := []) ⟨p2_nmu, ck_E1 (ck_S1 p2_s387_s ck_S0) ck_E0⟩ ck_X0 ck_l0 (by decide +kernel)
set_option maxRecDepth 100000 in
/-- GlacierMail.need -/
def p2_s389 : ck_Sum := ((6, 1, 6), 245, [.inr (.inr (.inl 1)), .inl (24, 2147483647, []), .inl (0, 24, [])], ([], [], []), ([], []), [(.inl 3, 245, ([], [], []))])
set_option maxRecDepth 100000 in
theorem p2_s389_s {X : Int → Int} {LX : Nat} : ck_Ok p2_O X LX 133 p2_s389 := ck_ok_s (O := p2_O) (X := X) (LX := LX) (E := []) (mi := 133) (cuts := []) (f := 82) (S := p2_s389) (lx := none) (XF := []) ⟨p2_nmu, ck_E0⟩ ck_X0 ck_l0 (by decide +kernel)
set_option maxRecDepth 100000 in
/-- GlacierMail.needLetter -/
def p2_s390 : ck_Sum := ((7, 1, 6), 245, [.inr (.inr (.inl 1)), .inl (24, 2147483647, [])], ([], [], []), ([], []), [(.inl 3, 245, ([], [], []))])
set_option maxRecDepth 100000 in
theorem p2_s390_s {X : Int → Int} {LX : Nat} : ck_Ok p2_O X LX 143 p2_s390 := ck_ok_s (O := p2_O) (X := X) (LX := LX) (E := [(9, [p2_s331]), (133, [p2_s389])]) (mi := 143) (cuts := []) (f := 84) (S := p2_s390) (lx := none) (XF := []) ⟨p2_nmu, ck_E1 (ck_S1 p2_s331_s ck_S0) (ck_E1 (ck_S1 p2_s389_s ck_S0) ck_E0)⟩ ck_X0 ck_l0 (by decide +kernel)
set_option maxRecDepth 100000 in
/-- GlacierMail.letter -/
def p2_s391 : ck_Sum := ((8, 1, 6), 245, [.inr (.inr (.inl 1)), .inl (24, 2147483647, []), .inl ((-2147483648), 2147483647, [])], ([], [], []), ([], []), [(.inl 3, 245, ([], [], []))])
set_option maxRecDepth 100000 in
theorem p2_s391_s {X : Int → Int} {LX : Nat} : ck_Ok p2_O X LX 142 p2_s391 := ck_ok_s (O := p2_O) (X := X) (LX := LX) (E := [(143, [p2_s390])]) (mi := 142) (cuts := []) (f := 76) (S := p2_s391) (lx := none) (XF := []) ⟨p2_nmu, ck_E1 (ck_S1 p2_s390_s ck_S0) ck_E0⟩ ck_X0 ck_l0 (by decide +kernel)
set_option maxRecDepth 100000 in
/-- GlacierMail.need -/
def p2_s392 : ck_Sum := ((6, 1, 6), 245, [.inr (.inr (.inl 1)), .inl (0, 23, []), .inl (0, 24, [])], ([], [], []), ([], []), [(.inr none, 245, ([], [], [])), (.inl 3, 245, ([], [], []))])
set_option maxRecDepth 100000 in
theorem p2_s392_s {X : Int → Int} {LX : Nat} : ck_Ok p2_O X LX 133 p2_s392 := ck_ok_s (O := p2_O) (X := X) (LX := LX) (E := []) (mi := 133) (cuts := []) (f := 82) (S := p2_s392) (lx := none) (XF := []) ⟨p2_nmu, ck_E0⟩ ck_X0 ck_l0 (by decide +kernel)
set_option maxRecDepth 100000 in
/-- GlacierMail.needLetter -/
def p2_s393 : ck_Sum := ((7, 1, 6), 245, [.inr (.inr (.inl 1)), .inl (0, 23, [])], ([], [], []), ([], []), [(.inl 3, 245, ([], [], [])), (.inr none, 245, ([], [], []))])
set_option maxRecDepth 100000 in
theorem p2_s393_s {X : Int → Int} {LX : Nat} : ck_Ok p2_O X LX 143 p2_s393 := ck_ok_s (O := p2_O) (X := X) (LX := LX) (E := [(9, [p2_s331]), (133, [p2_s392])]) (mi := 143) (cuts := []) (f := 86) (S := p2_s393) (lx := none) (XF := []) ⟨p2_nmu, ck_E1 (ck_S1 p2_s331_s ck_S0) (ck_E1 (ck_S1 p2_s392_s ck_S0) ck_E0)⟩ ck_X0 ck_l0 (by decide +kernel)
set_option maxRecDepth 100000 in
/-- GlacierMail.letter -/
def p2_s394 : ck_Sum := ((8, 2, 12), 245, [.inr (.inr (.inl 1)), .inl (0, 23, []), .inl ((-2147483648), (-1), [])], ([], [], []), ([], []), [(.inl 3, 245, ([], [], [])), (.inl 4, 245, ([], [], []))])
set_option maxRecDepth 100000 in
theorem p2_s394_s {X : Int → Int} {LX : Nat} : ck_Ok p2_O X LX 142 p2_s394 := ck_ok_s (O := p2_O) (X := X) (LX := LX) (E := [(143, [p2_s393])]) (mi := 142) (cuts := []) (f := 82) (S := p2_s394) (lx := none) (XF := []) ⟨p2_nmu, ck_E1 (ck_S1 p2_s393_s ck_S0) ck_E0⟩ ck_X0 ck_l0 (by decide +kernel)
set_option maxRecDepth 100000 in
/-- GlacierMail.letter -/
def p2_s395 : ck_Sum := ((8, 2, 12), 245, [.inr (.inr (.inl 1)), .inl (0, 23, []), .inl (10, 2147483647, [])], ([], [], []), ([], []), [(.inl 3, 245, ([], [], [])), (.inl 4, 245, ([], [], []))])
set_option maxRecDepth 100000 in
theorem p2_s395_s {X : Int → Int} {LX : Nat} : ck_Ok p2_O X LX 142 p2_s395 := ck_ok_s (O := p2_O) (X := X) (LX := LX) (E := [(143, [p2_s393])]) (mi := 142) (cuts := []) (f := 82) (S := p2_s395) (lx := none) (XF := []) ⟨p2_nmu, ck_E1 (ck_S1 p2_s393_s ck_S0) ck_E0⟩ ck_X0 ck_l0 (by decide +kernel)
set_option maxRecDepth 100000 in
/-- GlacierMail.firstBare -/
def p2_s396 : ck_Sum := ((3, 0, 0), 245, [.inr (.inr (.inl 1)), .inl (0, 23, [])], ([], [(3, 8, 0)], []), ([(206, 2, 8)], []), [(.inr (some (.inl (ck_one (-1)))), 245, ([], [], zl86)), (.inr (some (.inl (0, 299, []))), 245, ([], [], zl87))])
set_option maxRecDepth 100000 in
theorem p2_s396_s {X : Int → Int} {LX : Nat} : ck_Ok p2_O X LX 145 p2_s396 := ck_ok_s (O := p2_O) (X := X) (LX := LX) (E := [(27, [p2_s339]), (32, [p2_s345]), (31, [p2_s340])]) (mi := 145) (cuts := [(18, [some (.inr (.inr (.inl 1))), some (.inl (0, 23, [])), some (.inl (0, 300, []))], ([], [(3, 8, 0)], [(206, 6, 6, (0, 99, [])), (206, 4, 4, ck_one (-1)), (206, 5, 5, ((-2147483648), 299, [])), (206, 2, 2, ((-1), 299, []))]), 100, .inl 2, true)]) (f := 158) (S := p2_s396) (lx := none) (XF := []) ⟨p2_nmu, ck_E1 (ck_S1 p2_s339_s ck_S0) (ck_E1 (ck_S1 p2_s345_s ck_S0) (ck_E1 (ck_S1 p2_s340_s ck_S0) ck_E0))⟩ ck_X0 ck_l0 (by decide +kernel)
set_option maxRecDepth 100000 in
/-- GlacierMail.outOf -/
def p2_s397 : ck_Sum := ((4, 0, 0), 245, [.inr (.inr (.inl 1)), .inl (0, 23, [])], ([], [(3, 8, 0)], []), ([(206, 2, 8)], []), [(.inr (some (.inl ((-2147483648), 299, []))), 245, ([], [], zl86))])
set_option maxRecDepth 100000 in
theorem p2_s397_s {X : Int → Int} {LX : Nat} : ck_Ok p2_O X LX 144 p2_s397 := ck_ok_s (O := p2_O) (X := X) (LX := LX) (E := [(27, [p2_s339]), (30, [p2_s346])]) (mi := 144) (cuts := []) (f := 88) (S := p2_s397) (lx := none) (XF := []) ⟨p2_nmu, ck_E1 (ck_S1 p2_s339_s ck_S0) (ck_E1 (ck_S1 p2_s346_s ck_S0) ck_E0)⟩ ck_X0 ck_l0 (by decide +kernel)
set_option maxRecDepth 100000 in
/-- GlacierMail.letter -/
def p2_s398 : ck_Sum := ((8, 1, 6), 245, [.inr (.inr (.inl 1)), .inl (0, 23, []), .inl (0, 9, [])], ([], [(3, 8, 0)], []), ([(206, 2, 8)], []), [(.inl 3, 245, ([], [], [])), (.inr (some (.inl ((-2147483648), 299, []))), 245, ([], [], [])), (.inr (some (.inl (0, 299, []))), 245, ([], [], zl86))])
set_option maxRecDepth 100000 in
theorem p2_s398_s {X : Int → Int} {LX : Nat} : ck_Ok p2_O X LX 142 p2_s398 := ck_ok_s (O := p2_O) (X := X) (LX := LX) (E := [(143, [p2_s393]), (10, [p2_s335]), (145, [p2_s396]), (144, [p2_s397])]) (mi := 142) (cuts := []) (f := 98) (S := p2_s398) (lx := none) (XF := []) ⟨p2_nmu, ck_E1 (ck_S1 p2_s393_s ck_S0) (ck_E1 (ck_S1 p2_s335_s ck_S0) (ck_E1 (ck_S1 p2_s396_s ck_S0) (ck_E1 (ck_S1 p2_s397_s ck_S0) ck_E0)))⟩ ck_X0 ck_l0 (by decide +kernel)
set_option maxRecDepth 100000 in
/-- GlacierMailModel.in -/
def p2_s399 : ck_Sum := ((0, 0, 0), 245, [.inl ((-2147483648), (-1), []), .inl (ck_one 0), .inl ((-1), 23, [])], ([], [], []), ([], []), [(.inr (some (.inl (ck_one 0))), 245, ([], [], []))])
set_option maxRecDepth 100000 in
theorem p2_s399_s {X : Int → Int} {LX : Nat} : ck_Ok p2_O X LX 286 p2_s399 := ck_ok_s (O := p2_O) (X := X) (LX := LX) (E := []) (mi := 286) (cuts := []) (f := 80) (S := p2_s399) (lx := none) (XF := []) ⟨p2_nmu, ck_E0⟩ ck_X0 ck_l0 (by decide +kernel)
set_option maxRecDepth 100000 in
/-- GlacierMailModel.noLetter -/
def p2_s400 : ck_Sum := ((1, 0, 0), 245, [.inr (.inr (.inl 226)), .inl ((-2147483648), (-1), [])], ([], [], [(227, 4, 4, (0, 24, [(22, 0)]))]), ([], []), [(.inr (some (.inl (ck_one 1))), 245, ([], [], []))])
set_option maxRecDepth 100000 in
theorem p2_s400_s {X : Int → Int} {LX : Nat} : ck_Ok p2_O X LX 309 p2_s400 := ck_ok_s (O := p2_O) (X := X) (LX := LX) (E := [(254, [p2_s176]), (286, [p2_s399])]) (mi := 309) (cuts := []) (f := 92) (S := p2_s400) (lx := none) (XF := []) ⟨p2_nmu, ck_E1 (ck_S1 p2_s176_s ck_S0) (ck_E1 (ck_S1 p2_s399_s ck_S0) ck_E0)⟩ ck_X0 ck_l0 (by decide +kernel)
set_option maxRecDepth 100000 in
/-- GlacierMailModel.letter -/
def p2_s401 : ck_Sum := ((2, 0, 0), 245, [.inr (.inr (.inl 226)), .inl ((-2147483648), (-1), []), .inl ((-2147483648), 2147483647, [])], ([], [], [(227, 4, 4, (0, 24, [(22, 0)]))]), ([(226, 0, 0)], []), [(.inr (some (.inl (ck_one 0))), 245, ([], [], [(226, 0, 0, ck_one 1)]))])
set_option maxRecDepth 100000 in
theorem p2_s401_s {X : Int → Int} {LX : Nat} : ck_Ok p2_O X LX 308 p2_s401 := ck_ok_s (O := p2_O) (X := X) (LX := LX) (E := [(309, [p2_s400]), (282, [p2_s241])]) (mi := 308) (cuts := []) (f := 94) (S := p2_s401) (lx := none) (XF := []) ⟨p2_nmu, ck_E1 (ck_S1 p2_s400_s ck_S0) (ck_E1 (ck_S1 p2_s241_s ck_S0) ck_E0)⟩ ck_X0 ck_l0 (by decide +kernel)
set_option maxRecDepth 100000 in
/-- GlacierMailModel.in -/
def p2_s402 : ck_Sum := ((0, 0, 0), 245, [.inl (24, 2147483647, []), .inl (ck_one 0), .inl ((-1), 23, [])], ([], [], []), ([], []), [(.inr (some (.inl (ck_one 0))), 245, ([], [], []))])
set_option maxRecDepth 100000 in
theorem p2_s402_s {X : Int → Int} {LX : Nat} : ck_Ok p2_O X LX 286 p2_s402 := ck_ok_s (O := p2_O) (X := X) (LX := LX) (E := []) (mi := 286) (cuts := []) (f := 86) (S := p2_s402) (lx := none) (XF := []) ⟨p2_nmu, ck_E0⟩ ck_X0 ck_l0 (by decide +kernel)
set_option maxRecDepth 100000 in
/-- GlacierMailModel.noLetter -/
def p2_s403 : ck_Sum := ((1, 0, 0), 245, [.inr (.inr (.inl 226)), .inl (24, 2147483647, [])], ([], [], [(227, 4, 4, (0, 24, [(22, 0)]))]), ([], []), [(.inr (some (.inl (ck_one 1))), 245, ([], [], []))])
set_option maxRecDepth 100000 in
theorem p2_s403_s {X : Int → Int} {LX : Nat} : ck_Ok p2_O X LX 309 p2_s403 := ck_ok_s (O := p2_O) (X := X) (LX := LX) (E := [(254, [p2_s176]), (286, [p2_s402])]) (mi := 309) (cuts := []) (f := 92) (S := p2_s403) (lx := none) (XF := []) ⟨p2_nmu, ck_E1 (ck_S1 p2_s176_s ck_S0) (ck_E1 (ck_S1 p2_s402_s ck_S0) ck_E0)⟩ ck_X0 ck_l0 (by decide +kernel)
set_option maxRecDepth 100000 in
/-- GlacierMailModel.letter -/
def p2_s404 : ck_Sum := ((2, 0, 0), 245, [.inr (.inr (.inl 226)), .inl (24, 2147483647, []), .inl ((-2147483648), 2147483647, [])], ([], [], [(227, 4, 4, (0, 24, [(22, 0)]))]), ([(226, 0, 0)], []), [(.inr (some (.inl (ck_one 0))), 245, ([], [], [(226, 0, 0, ck_one 1)]))])
set_option maxRecDepth 100000 in
theorem p2_s404_s {X : Int → Int} {LX : Nat} : ck_Ok p2_O X LX 308 p2_s404 := ck_ok_s (O := p2_O) (X := X) (LX := LX) (E := [(309, [p2_s403]), (282, [p2_s241])]) (mi := 308) (cuts := []) (f := 94) (S := p2_s404) (lx := none) (XF := []) ⟨p2_nmu, ck_E1 (ck_S1 p2_s403_s ck_S0) (ck_E1 (ck_S1 p2_s241_s ck_S0) ck_E0)⟩ ck_X0 ck_l0 (by decide +kernel)
set_option maxRecDepth 100000 in
/-- GlacierMailModel.in -/
def p2_s405 : ck_Sum := ((0, 0, 0), 245, [.inl (0, 23, []), .inl (ck_one 0), .inl ((-1), 23, [])], ([], [], []), ([], []), [(.inr (some (.inl (ck_one 0))), 245, ([], [], [])), (.inr (some (.inl (ck_one 1))), 245, ([], [], []))])
set_option maxRecDepth 100000 in
theorem p2_s405_s {X : Int → Int} {LX : Nat} : ck_Ok p2_O X LX 286 p2_s405 := ck_ok_s (O := p2_O) (X := X) (LX := LX) (E := []) (mi := 286) (cuts := []) (f := 88) (S := p2_s405) (lx := none) (XF := []) ⟨p2_nmu, ck_E0⟩ ck_X0 ck_l0 (by decide +kernel)
set_option maxRecDepth 100000 in
/-- GlacierMailModel.noLetter -/
def p2_s406 : ck_Sum := ((1, 0, 0), 245, [.inr (.inr (.inl 226)), .inl (0, 23, [])], ([], [], [(227, 4, 4, (0, 24, [(22, 0)]))]), ([], []), [(.inr (some (.inl (ck_one 1))), 245, ([], [], [])), (.inr (some (.inl (ck_one 0))), 245, ([], [], []))])
set_option maxRecDepth 100000 in
theorem p2_s406_s {X : Int → Int} {LX : Nat} : ck_Ok p2_O X LX 309 p2_s406 := ck_ok_s (O := p2_O) (X := X) (LX := LX) (E := [(254, [p2_s176]), (286, [p2_s405])]) (mi := 309) (cuts := []) (f := 92) (S := p2_s406) (lx := none) (XF := []) ⟨p2_nmu, ck_E1 (ck_S1 p2_s176_s ck_S0) (ck_E1 (ck_S1 p2_s405_s ck_S0) ck_E0)⟩ ck_X0 ck_l0 (by decide +kernel)
set_option maxRecDepth 100000 in
/-- GlacierMailModel.in -/
def p2_s407 : ck_Sum := ((0, 0, 0), 245, [.inl ((-2147483648), (-1), []), .inl (ck_one 0), .inl (ck_one 9)], ([], [], []), ([], []), [(.inr (some (.inl (ck_one 0))), 245, ([], [], []))])
set_option maxRecDepth 100000 in
theorem p2_s407_s {X : Int → Int} {LX : Nat} : ck_Ok p2_O X LX 286 p2_s407 := ck_ok_s (O := p2_O) (X := X) (LX := LX) (E := []) (mi := 286) (cuts := []) (f := 80) (S := p2_s407) (lx := none) (XF := []) ⟨p2_nmu, ck_E0⟩ ck_X0 ck_l0 (by decide +kernel)
set_option maxRecDepth 100000 in
/-- GlacierMailModel.letter -/
def p2_s408 : ck_Sum := ((2, 0, 0), 245, [.inr (.inr (.inl 226)), .inl (0, 23, []), .inl ((-2147483648), (-1), [])], ([], [], [(227, 4, 4, (0, 24, [(22, 0)]))]), ([(226, 0, 0)], []), [(.inr (some (.inl (ck_one 0))), 245, ([], [], [(226, 0, 0, (1, 2, []))]))])
set_option maxRecDepth 100000 in
theorem p2_s408_s {X : Int → Int} {LX : Nat} : ck_Ok p2_O X LX 308 p2_s408 := ck_ok_s (O := p2_O) (X := X) (LX := LX) (E := [(309, [p2_s406]), (282, [p2_s241, p2_s242, p2_s244]), (286, [p2_s407])]) (mi := 308) (cuts := []) (f := 116) (S := p2_s408) (lx := none) (XF := []) ⟨p2_nmu, ck_E1 (ck_S1 p2_s406_s ck_S0) (ck_E1 (ck_S1 p2_s241_s (ck_S1 p2_s242_s (ck_S1 p2_s244_s ck_S0))) (ck_E1 (ck_S1 p2_s407_s ck_S0) ck_E0))⟩ ck_X0 ck_l0 (by decide +kernel)
set_option maxRecDepth 100000 in
/-- GlacierMailModel.in -/
def p2_s409 : ck_Sum := ((0, 0, 0), 245, [.inl (10, 2147483647, []), .inl (ck_one 0), .inl (ck_one 9)], ([], [], []), ([], []), [(.inr (some (.inl (ck_one 0))), 245, ([], [], []))])
set_option maxRecDepth 100000 in
theorem p2_s409_s {X : Int → Int} {LX : Nat} : ck_Ok p2_O X LX 286 p2_s409 := ck_ok_s (O := p2_O) (X := X) (LX := LX) (E := []) (mi := 286) (cuts := []) (f := 86) (S := p2_s409) (lx := none) (XF := []) ⟨p2_nmu, ck_E0⟩ ck_X0 ck_l0 (by decide +kernel)
set_option maxRecDepth 100000 in
/-- GlacierMailModel.letter -/
def p2_s410 : ck_Sum := ((2, 0, 0), 245, [.inr (.inr (.inl 226)), .inl (0, 23, []), .inl (10, 2147483647, [])], ([], [], [(227, 4, 4, (0, 24, [(22, 0)]))]), ([(226, 0, 0)], []), [(.inr (some (.inl (ck_one 0))), 245, ([], [], [(226, 0, 0, (1, 2, []))]))])
set_option maxRecDepth 100000 in
theorem p2_s410_s {X : Int → Int} {LX : Nat} : ck_Ok p2_O X LX 308 p2_s410 := ck_ok_s (O := p2_O) (X := X) (LX := LX) (E := [(309, [p2_s406]), (282, [p2_s241, p2_s242, p2_s244]), (286, [p2_s409])]) (mi := 308) (cuts := []) (f := 116) (S := p2_s410) (lx := none) (XF := []) ⟨p2_nmu, ck_E1 (ck_S1 p2_s406_s ck_S0) (ck_E1 (ck_S1 p2_s241_s (ck_S1 p2_s242_s (ck_S1 p2_s244_s ck_S0))) (ck_E1 (ck_S1 p2_s409_s ck_S0) ck_E0))⟩ ck_X0 ck_l0 (by decide +kernel)
set_option maxRecDepth 100000 in
/-- GlacierMailModel.in -/
def p2_s411 : ck_Sum := ((0, 0, 0), 245, [.inl (0, 9, []), .inl (ck_one 0), .inl (ck_one 9)], ([], [], []), ([], []), [(.inr (some (.inl (ck_one 1))), 245, ([], [], []))])
set_option maxRecDepth 100000 in
theorem p2_s411_s {X : Int → Int} {LX : Nat} : ck_Ok p2_O X LX 286 p2_s411 := ck_ok_s (O := p2_O) (X := X) (LX := LX) (E := []) (mi := 286) (cuts := []) (f := 88) (S := p2_s411) (lx := none) (XF := []) ⟨p2_nmu, ck_E0⟩ ck_X0 ck_l0 (by decide +kernel)
set_option maxRecDepth 100000 in
/-- GlacierMailModel.isInIce -/
def p2_s412 : ck_Sum := ((1, 0, 0), 245, [.inr (.inr (.inl 226)), .inl (0, 299, [])], ([], [], []), ([], []), [(.inr (some (.inl (ck_one 0))), 245, ([], [], [])), (.inr (some (.inl (ck_one 1))), 245, ([], [], []))])
set_option maxRecDepth 100000 in
theorem p2_s412_s {X : Int → Int} {LX : Nat} : ck_Ok p2_O X LX 312 p2_s412 := ck_ok_s (O := p2_O) (X := X) (LX := LX) (E := [(259, [p2_s180])]) (mi := 312) (cuts := []) (f := 100) (S := p2_s412) (lx := none) (XF := []) ⟨p2_nmu, ck_E1 (ck_S1 p2_s180_s ck_S0) ck_E0⟩ ck_X0 ck_l0 (by decide +kernel)
set_option maxRecDepth 100000 in
/-- GlacierMailModel.isBare -/
def p2_s413 : ck_Sum := ((2, 0, 0), 245, [.inr (.inr (.inl 226)), .inl (0, 23, []), .inl (0, 299, [])], ([], [], []), ([], []), [(.inr (some (.inl (ck_one 0))), 245, ([], [], [])), (.inr (some (.inl (ck_one 1))), 245, ([], [], []))])
set_option maxRecDepth 100000 in
theorem p2_s413_s {X : Int → Int} {LX : Nat} : ck_Ok p2_O X LX 311 p2_s413 := ck_ok_s (O := p2_O) (X := X) (LX := LX) (E := [(301, [p2_s377]), (312, [p2_s412])]) (mi := 311) (cuts := []) (f := 106) (S := p2_s413) (lx := none) (XF := []) ⟨p2_nmu, ck_E1 (ck_S1 p2_s377_s ck_S0) (ck_E1 (ck_S1 p2_s412_s ck_S0) ck_E0)⟩ ck_X0 ck_l0 (by decide +kernel)
set_option maxRecDepth 100000 in
/-- GlacierMailModel.bareFrom -/
def p2_s414 : ck_Sum := ((3, 0, 0), 245, [.inr (.inr (.inl 226)), .inl (0, 23, [])], ([], [], []), ([], []), [(.inr (some (.inl (ck_one (-1)))), 245, ([], [], [])), (.inr (some (.inl (0, 299, []))), 245, ([], [], []))])
set_option maxRecDepth 100000 in
theorem p2_s414_s {X : Int → Int} {LX : Nat} : ck_Ok p2_O X LX 310 p2_s414 := ck_ok_s (O := p2_O) (X := X) (LX := LX) (E := [(311, [p2_s413])]) (mi := 310) (cuts := [(2, [some (.inr (.inr (.inl 226))), some (.inl (0, 23, [])), some (.inl (0, 300, []))], ([], [], []), 100, .inl 2, true)]) (f := 134) (S := p2_s414) (lx := none) (XF := []) ⟨p2_nmu, ck_E1 (ck_S1 p2_s413_s ck_S0) ck_E0⟩ ck_X0 ck_l0 (by decide +kernel)
set_option maxRecDepth 100000 in
/-- GlacierMailModel.ofLetter -/
def p2_s415 : ck_Sum := ((0, 0, 0), 245, [.inr (.inr (.inl 226)), .inl (0, 23, []), .inl (0, 6, [])], ([], [], []), ([], []), [(.inr (some (.inl ((-1), 299, []))), 245, ([], [], []))])
set_option maxRecDepth 100000 in
theorem p2_s415_s {X : Int → Int} {LX : Nat} : ck_Ok p2_O X LX 301 p2_s415 := ck_ok_s (O := p2_O) (X := X) (LX := LX) (E := []) (mi := 301) (cuts := []) (f := 92) (S := p2_s415) (lx := none) (XF := []) ⟨p2_nmu, ck_E0⟩ ck_X0 ck_l0 (by decide +kernel)
set_option maxRecDepth 100000 in
/-- GlacierMail.where -/
def p2_s417 : ck_Sum := ((8, 1, 6), 245, [.inr (.inr (.inl 1)), .inl ((-2147483648), (-1), []), .inl ((-2147483648), 2147483647, [])], ([], [], []), ([], []), [(.inl 3, 245, ([], [], []))])
set_option maxRecDepth 100000 in
theorem p2_s417_s {X : Int → Int} {LX : Nat} : ck_Ok p2_O X LX 147 p2_s417 := ck_ok_s (O := p2_O) (X := X) (LX := LX) (E := [(143, [p2_s387])]) (mi := 147) (cuts := []) (f := 76) (S := p2_s417) (lx := none) (XF := []) ⟨p2_nmu, ck_E1 (ck_S1 p2_s387_s ck_S0) ck_E0⟩ ck_X0 ck_l0 (by decide +kernel)
set_option maxRecDepth 100000 in
/-- GlacierMail.where -/
def p2_s418 : ck_Sum := ((8, 1, 6), 245, [.inr (.inr (.inl 1)), .inl (24, 2147483647, []), .inl ((-2147483648), 2147483647, [])], ([], [], []), ([], []), [(.inl 3, 245, ([], [], []))])
set_option maxRecDepth 100000 in
theorem p2_s418_s {X : Int → Int} {LX : Nat} : ck_Ok p2_O X LX 147 p2_s418 := ck_ok_s (O := p2_O) (X := X) (LX := LX) (E := [(143, [p2_s390])]) (mi := 147) (cuts := []) (f := 76) (S := p2_s418) (lx := none) (XF := []) ⟨p2_nmu, ck_E1 (ck_S1 p2_s390_s ck_S0) ck_E0⟩ ck_X0 ck_l0 (by decide +kernel)
set_option maxRecDepth 100000 in
/-- GlacierMail.where -/
def p2_s419 : ck_Sum := ((8, 2, 12), 245, [.inr (.inr (.inl 1)), .inl (0, 23, []), .inl ((-2147483648), (-1), [])], ([], [], []), ([], []), [(.inl 3, 245, ([], [], [])), (.inl 0, 245, ([], [], []))])
set_option maxRecDepth 100000 in
theorem p2_s419_s {X : Int → Int} {LX : Nat} : ck_Ok p2_O X LX 147 p2_s419 := ck_ok_s (O := p2_O) (X := X) (LX := LX) (E := [(143, [p2_s393]), (129, [p2_s249])]) (mi := 147) (cuts := []) (f := 82) (S := p2_s419) (lx := none) (XF := []) ⟨p2_nmu, ck_E1 (ck_S1 p2_s393_s ck_S0) (ck_E1 (ck_S1 p2_s249_s ck_S0) ck_E0)⟩ ck_X0 ck_l0 (by decide +kernel)
set_option maxRecDepth 100000 in
/-- GlacierMail.where -/
def p2_s420 : ck_Sum := ((8, 2, 12), 245, [.inr (.inr (.inl 1)), .inl (0, 23, []), .inl (300, 2147483647, [])], ([], [], []), ([], []), [(.inl 3, 245, ([], [], [])), (.inl 0, 245, ([], [], []))])
set_option maxRecDepth 100000 in
theorem p2_s420_s {X : Int → Int} {LX : Nat} : ck_Ok p2_O X LX 147 p2_s420 := ck_ok_s (O := p2_O) (X := X) (LX := LX) (E := [(143, [p2_s393]), (129, [p2_s251])]) (mi := 147) (cuts := []) (f := 82) (S := p2_s420) (lx := none) (XF := []) ⟨p2_nmu, ck_E1 (ck_S1 p2_s393_s ck_S0) (ck_E1 (ck_S1 p2_s251_s ck_S0) ck_E0)⟩ ck_X0 ck_l0 (by decide +kernel)
set_option maxRecDepth 100000 in
/-- GlacierMail$Way.goOnTo -/
def p2_s421 : ck_Sum := ((3, 0, 0), 245, [.inr (.inr (.inl 206)), .inl (0, 299, [])], ([], [(3, 8, 0)], []), ([(206, 5, 8)], []), [(.inr none, 245, ([], [], []))])
set_option maxRecDepth 100000 in
theorem p2_s421_s {X : Int → Int} {LX : Nat} : ck_Ok p2_O X LX 148 p2_s421 := ck_ok_s (O := p2_O) (X := X) (LX := LX) (E := [(32, [p2_s345])]) (mi := 148) (cuts := [(5, [some (.inr (.inr (.inl 206))), some (.inl (0, 299, [])), some (.inl ((-2147483648), 2147483647, []))], ([], [(3, 8, 0)], []), 100, .inl 2, true)]) (f := 122) (S := p2_s421) (lx := none) (XF := []) ⟨p2_nmu, ck_E1 (ck_S1 p2_s345_s ck_S0) ck_E0⟩ ck_X0 ck_l0 (by decide +kernel)
set_option maxRecDepth 100000 in
/-- GlacierMail.where -/
def p2_s422 : ck_Sum := ((8, 1, 6), 245, [.inr (.inr (.inl 1)), .inl (0, 23, []), .inl (0, 299, [])], ([], [(3, 8, 0)], []), ([(206, 2, 8)], []), [(.inl 3, 245, ([], [], [])), (.inr (some (.inl ((-2147483648), 99, []))), 245, ([], [], []))])
set_option maxRecDepth 100000 in
theorem p2_s422_s {X : Int → Int} {LX : Nat} : ck_Ok p2_O X LX 147 p2_s422 := ck_ok_s (O := p2_O) (X := X) (LX := LX) (E := [(143, [p2_s393]), (129, [p2_s253]), (10, [p2_s335]), (27, [p2_s339]), (148, [p2_s421])]) (mi := 147) (cuts := []) (f := 130) (S := p2_s422) (lx := none) (XF := []) ⟨p2_nmu, ck_E1 (ck_S1 p2_s393_s ck_S0) (ck_E1 (ck_S1 p2_s253_s ck_S0) (ck_E1 (ck_S1 p2_s335_s ck_S0) (ck_E1 (ck_S1 p2_s339_s ck_S0) (ck_E1 (ck_S1 p2_s421_s ck_S0) ck_E0))))⟩ ck_X0 ck_l0 (by decide +kernel)
set_option maxRecDepth 100000 in
/-- GlacierMailModel.where -/
def p2_s423 : ck_Sum := ((2, 0, 0), 245, [.inr (.inr (.inl 226)), .inl ((-2147483648), (-1), []), .inl ((-2147483648), 2147483647, [])], ([], [], [(227, 4, 4, (0, 24, [(22, 0)]))]), ([(226, 0, 0)], []), [(.inr (some (.inl (ck_one 0))), 245, ([], [], [(226, 0, 0, ck_one 1)]))])
set_option maxRecDepth 100000 in
theorem p2_s423_s {X : Int → Int} {LX : Nat} : ck_Ok p2_O X LX 313 p2_s423 := ck_ok_s (O := p2_O) (X := X) (LX := LX) (E := [(309, [p2_s400]), (282, [p2_s241])]) (mi := 313) (cuts := []) (f := 94) (S := p2_s423) (lx := none) (XF := []) ⟨p2_nmu, ck_E1 (ck_S1 p2_s400_s ck_S0) (ck_E1 (ck_S1 p2_s241_s ck_S0) ck_E0)⟩ ck_X0 ck_l0 (by decide +kernel)
set_option maxRecDepth 100000 in
/-- GlacierMailModel.where -/
def p2_s424 : ck_Sum := ((2, 0, 0), 245, [.inr (.inr (.inl 226)), .inl (24, 2147483647, []), .inl ((-2147483648), 2147483647, [])], ([], [], [(227, 4, 4, (0, 24, [(22, 0)]))]), ([(226, 0, 0)], []), [(.inr (some (.inl (ck_one 0))), 245, ([], [], [(226, 0, 0, ck_one 1)]))])
set_option maxRecDepth 100000 in
theorem p2_s424_s {X : Int → Int} {LX : Nat} : ck_Ok p2_O X LX 313 p2_s424 := ck_ok_s (O := p2_O) (X := X) (LX := LX) (E := [(309, [p2_s403]), (282, [p2_s241])]) (mi := 313) (cuts := []) (f := 94) (S := p2_s424) (lx := none) (XF := []) ⟨p2_nmu, ck_E1 (ck_S1 p2_s403_s ck_S0) (ck_E1 (ck_S1 p2_s241_s ck_S0) ck_E0)⟩ ck_X0 ck_l0 (by decide +kernel)
set_option maxRecDepth 100000 in
/-- GlacierMailModel.where -/
def p2_s425 : ck_Sum := ((2, 0, 0), 245, [.inr (.inr (.inl 226)), .inl (0, 23, []), .inl ((-2147483648), (-1), [])], ([], [], [(227, 4, 4, (0, 24, [(22, 0)]))]), ([(226, 0, 0)], []), [(.inr (some (.inl (ck_one 0))), 245, ([], [], [(226, 0, 0, (1, 2, []))]))])
set_option maxRecDepth 100000 in
theorem p2_s425_s {X : Int → Int} {LX : Nat} : ck_Ok p2_O X LX 313 p2_s425 := ck_ok_s (O := p2_O) (X := X) (LX := LX) (E := [(309, [p2_s406]), (282, [p2_s241, p2_s242, p2_s244]), (285, [p2_s257])]) (mi := 313) (cuts := []) (f := 106) (S := p2_s425) (lx := none) (XF := []) ⟨p2_nmu, ck_E1 (ck_S1 p2_s406_s ck_S0) (ck_E1 (ck_S1 p2_s241_s (ck_S1 p2_s242_s (ck_S1 p2_s244_s ck_S0))) (ck_E1 (ck_S1 p2_s257_s ck_S0) ck_E0))⟩ ck_X0 ck_l0 (by decide +kernel)
set_option maxRecDepth 100000 in
/-- GlacierMailModel.where -/
def p2_s426 : ck_Sum := ((2, 0, 0), 245, [.inr (.inr (.inl 226)), .inl (0, 23, []), .inl (300, 2147483647, [])], ([], [], [(227, 4, 4, (0, 24, [(22, 0)]))]), ([(226, 0, 0)], []), [(.inr (some (.inl (ck_one 0))), 245, ([], [], [(226, 0, 0, (1, 2, []))]))])
set_option maxRecDepth 100000 in
theorem p2_s426_s {X : Int → Int} {LX : Nat} : ck_Ok p2_O X LX 313 p2_s426 := ck_ok_s (O := p2_O) (X := X) (LX := LX) (E := [(309, [p2_s406]), (282, [p2_s241, p2_s242, p2_s244]), (285, [p2_s260])]) (mi := 313) (cuts := []) (f := 106) (S := p2_s426) (lx := none) (XF := []) ⟨p2_nmu, ck_E1 (ck_S1 p2_s406_s ck_S0) (ck_E1 (ck_S1 p2_s241_s (ck_S1 p2_s242_s (ck_S1 p2_s244_s ck_S0))) (ck_E1 (ck_S1 p2_s260_s ck_S0) ck_E0))⟩ ck_X0 ck_l0 (by decide +kernel)
set_option maxRecDepth 100000 in
/-- GlacierMail.deep -/
def p2_s428 : ck_Sum := ((8, 1, 6), 245, [.inr (.inr (.inl 1)), .inl ((-2147483648), (-1), []), .inl ((-2147483648), 2147483647, [])], ([], [], []), ([], []), [(.inl 3, 245, ([], [], []))])
set_option maxRecDepth 100000 in
theorem p2_s428_s {X : Int → Int} {LX : Nat} : ck_Ok p2_O X LX 150 p2_s428 := ck_ok_s (O := p2_O) (X := X) (LX := LX) (E := [(143, [p2_s387])]) (mi := 150) (cuts := []) (f := 76) (S := p2_s428) (lx := none) (XF := []) ⟨p2_nmu, ck_E1 (ck_S1 p2_s387_s ck_S0) ck_E0⟩ ck_X0 ck_l0 (by decide +kernel)
set_option maxRecDepth 100000 in
/-- GlacierMail.deep -/
def p2_s429 : ck_Sum := ((8, 1, 6), 245, [.inr (.inr (.inl 1)), .inl (24, 2147483647, []), .inl ((-2147483648), 2147483647, [])], ([], [], []), ([], []), [(.inl 3, 245, ([], [], []))])
set_option maxRecDepth 100000 in
theorem p2_s429_s {X : Int → Int} {LX : Nat} : ck_Ok p2_O X LX 150 p2_s429 := ck_ok_s (O := p2_O) (X := X) (LX := LX) (E := [(143, [p2_s390])]) (mi := 150) (cuts := []) (f := 76) (S := p2_s429) (lx := none) (XF := []) ⟨p2_nmu, ck_E1 (ck_S1 p2_s390_s ck_S0) ck_E0⟩ ck_X0 ck_l0 (by decide +kernel)
set_option maxRecDepth 100000 in
/-- GlacierMail.deep -/
def p2_s430 : ck_Sum := ((8, 2, 12), 245, [.inr (.inr (.inl 1)), .inl (0, 23, []), .inl ((-2147483648), (-1), [])], ([], [], []), ([], []), [(.inl 3, 245, ([], [], [])), (.inl 0, 245, ([], [], []))])
set_option maxRecDepth 100000 in
theorem p2_s430_s {X : Int → Int} {LX : Nat} : ck_Ok p2_O X LX 150 p2_s430 := ck_ok_s (O := p2_O) (X := X) (LX := LX) (E := [(143, [p2_s393]), (129, [p2_s249])]) (mi := 150) (cuts := []) (f := 82) (S := p2_s430) (lx := none) (XF := []) ⟨p2_nmu, ck_E1 (ck_S1 p2_s393_s ck_S0) (ck_E1 (ck_S1 p2_s249_s ck_S0) ck_E0)⟩ ck_X0 ck_l0 (by decide +kernel)
set_option maxRecDepth 100000 in
/-- GlacierMail.deep -/
def p2_s431 : ck_Sum := ((8, 2, 12), 245, [.inr (.inr (.inl 1)), .inl (0, 23, []), .inl (300, 2147483647, [])], ([], [], []), ([], []), [(.inl 3, 245, ([], [], [])), (.inl 0, 245, ([], [], []))])
set_option maxRecDepth 100000 in
theorem p2_s431_s {X : Int → Int} {LX : Nat} : ck_Ok p2_O X LX 150 p2_s431 := ck_ok_s (O := p2_O) (X := X) (LX := LX) (E := [(143, [p2_s393]), (129, [p2_s251])]) (mi := 150) (cuts := []) (f := 82) (S := p2_s431) (lx := none) (XF := []) ⟨p2_nmu, ck_E1 (ck_S1 p2_s393_s ck_S0) (ck_E1 (ck_S1 p2_s251_s ck_S0) ck_E0)⟩ ck_X0 ck_l0 (by decide +kernel)
set_option maxRecDepth 100000 in
/-- GlacierMail.deep -/
def p2_s432 : ck_Sum := ((8, 1, 6), 245, [.inr (.inr (.inl 1)), .inl (0, 23, []), .inl (0, 299, [])], ([], [(3, 8, 0)], []), ([(206, 2, 8)], []), [(.inl 3, 245, ([], [], [])), (.inr (some (.inl (0, 99, []))), 245, ([], [], zl86)), (.inr (some (.inl (ck_one (-1)))), 245, ([], [], []))])
set_option maxRecDepth 100000 in
theorem p2_s432_s {X : Int → Int} {LX : Nat} : ck_Ok p2_O X LX 150 p2_s432 := ck_ok_s (O := p2_O) (X := X) (LX := LX) (E := [(143, [p2_s393]), (129, [p2_s253]), (10, [p2_s335]), (27, [p2_s339]), (148, [p2_s421])]) (mi := 150) (cuts := []) (f := 122) (S := p2_s432) (lx := none) (XF := []) ⟨p2_nmu, ck_E1 (ck_S1 p2_s393_s ck_S0) (ck_E1 (ck_S1 p2_s253_s ck_S0) (ck_E1 (ck_S1 p2_s335_s ck_S0) (ck_E1 (ck_S1 p2_s339_s ck_S0) (ck_E1 (ck_S1 p2_s421_s ck_S0) ck_E0))))⟩ ck_X0 ck_l0 (by decide +kernel)
set_option maxRecDepth 100000 in
/-- GlacierMailModel.deep -/
def p2_s433 : ck_Sum := ((2, 0, 0), 245, [.inr (.inr (.inl 226)), .inl ((-2147483648), (-1), []), .inl ((-2147483648), 2147483647, [])], ([], [], [(227, 4, 4, (0, 24, [(22, 0)]))]), ([(226, 0, 0)], []), [(.inr (some (.inl (ck_one 0))), 245, ([], [], [(226, 0, 0, ck_one 1)]))])
set_option maxRecDepth 100000 in
theorem p2_s433_s {X : Int → Int} {LX : Nat} : ck_Ok p2_O X LX 314 p2_s433 := ck_ok_s (O := p2_O) (X := X) (LX := LX) (E := [(309, [p2_s400]), (282, [p2_s241])]) (mi := 314) (cuts := []) (f := 94) (S := p2_s433) (lx := none) (XF := []) ⟨p2_nmu, ck_E1 (ck_S1 p2_s400_s ck_S0) (ck_E1 (ck_S1 p2_s241_s ck_S0) ck_E0)⟩ ck_X0 ck_l0 (by decide +kernel)
set_option maxRecDepth 100000 in
/-- GlacierMailModel.deep -/
def p2_s434 : ck_Sum := ((2, 0, 0), 245, [.inr (.inr (.inl 226)), .inl (24, 2147483647, []), .inl ((-2147483648), 2147483647, [])], ([], [], [(227, 4, 4, (0, 24, [(22, 0)]))]), ([(226, 0, 0)], []), [(.inr (some (.inl (ck_one 0))), 245, ([], [], [(226, 0, 0, ck_one 1)]))])
set_option maxRecDepth 100000 in
theorem p2_s434_s {X : Int → Int} {LX : Nat} : ck_Ok p2_O X LX 314 p2_s434 := ck_ok_s (O := p2_O) (X := X) (LX := LX) (E := [(309, [p2_s403]), (282, [p2_s241])]) (mi := 314) (cuts := []) (f := 94) (S := p2_s434) (lx := none) (XF := []) ⟨p2_nmu, ck_E1 (ck_S1 p2_s403_s ck_S0) (ck_E1 (ck_S1 p2_s241_s ck_S0) ck_E0)⟩ ck_X0 ck_l0 (by decide +kernel)
set_option maxRecDepth 100000 in
/-- GlacierMailModel.deep -/
def p2_s435 : ck_Sum := ((2, 0, 0), 245, [.inr (.inr (.inl 226)), .inl (0, 23, []), .inl ((-2147483648), (-1), [])], ([], [], [(227, 4, 4, (0, 24, [(22, 0)]))]), ([(226, 0, 0)], []), [(.inr (some (.inl (ck_one 0))), 245, ([], [], [(226, 0, 0, (1, 2, []))]))])
set_option maxRecDepth 100000 in
theorem p2_s435_s {X : Int → Int} {LX : Nat} : ck_Ok p2_O X LX 314 p2_s435 := ck_ok_s (O := p2_O) (X := X) (LX := LX) (E := [(309, [p2_s406]), (282, [p2_s241, p2_s242, p2_s244]), (285, [p2_s257])]) (mi := 314) (cuts := []) (f := 106) (S := p2_s435) (lx := none) (XF := []) ⟨p2_nmu, ck_E1 (ck_S1 p2_s406_s ck_S0) (ck_E1 (ck_S1 p2_s241_s (ck_S1 p2_s242_s (ck_S1 p2_s244_s ck_S0))) (ck_E1 (ck_S1 p2_s257_s ck_S0) ck_E0))⟩ ck_X0 ck_l0 (by decide +kernel)
set_option maxRecDepth 100000 in
/-- GlacierMailModel.deep -/
def p2_s436 : ck_Sum := ((2, 0, 0), 245, [.inr (.inr (.inl 226)), .inl (0, 23, []), .inl (300, 2147483647, [])], ([], [], [(227, 4, 4, (0, 24, [(22, 0)]))]), ([(226, 0, 0)], []), [(.inr (some (.inl (ck_one 0))), 245, ([], [], [(226, 0, 0, (1, 2, []))]))])
set_option maxRecDepth 100000 in
theorem p2_s436_s {X : Int → Int} {LX : Nat} : ck_Ok p2_O X LX 314 p2_s436 := ck_ok_s (O := p2_O) (X := X) (LX := LX) (E := [(309, [p2_s406]), (282, [p2_s241, p2_s242, p2_s244]), (285, [p2_s260])]) (mi := 314) (cuts := []) (f := 106) (S := p2_s436) (lx := none) (XF := []) ⟨p2_nmu, ck_E1 (ck_S1 p2_s406_s ck_S0) (ck_E1 (ck_S1 p2_s241_s (ck_S1 p2_s242_s (ck_S1 p2_s244_s ck_S0))) (ck_E1 (ck_S1 p2_s260_s ck_S0) ck_E0))⟩ ck_X0 ck_l0 (by decide +kernel)
set_option maxRecDepth 100000 in
/-- GlacierMail.post -/
def p2_s438 : ck_Sum := ((8, 1, 6), 245, [.inr (.inr (.inl 1)), .inl ((-2147483648), (-1), []), .inl ((-2147483648), 2147483647, [])], ([], [], []), ([], []), [(.inl 3, 245, ([], [], []))])
set_option maxRecDepth 100000 in
theorem p2_s438_s {X : Int → Int} {LX : Nat} : ck_Ok p2_O X LX 152 p2_s438 := ck_ok_s (O := p2_O) (X := X) (LX := LX) (E := [(139, [p2_s322])]) (mi := 152) (cuts := []) (f := 76) (S := p2_s438) (lx := none) (XF := []) ⟨p2_nmu, ck_E1 (ck_S1 p2_s322_s ck_S0) ck_E0⟩ ck_X0 ck_l0 (by decide +kernel)
set_option maxRecDepth 100000 in
/-- GlacierMail.post -/
def p2_s439 : ck_Sum := ((8, 1, 6), 245, [.inr (.inr (.inl 1)), .inl (8, 2147483647, []), .inl ((-2147483648), 2147483647, [])], ([], [], []), ([], []), [(.inl 3, 245, ([], [], []))])
set_option maxRecDepth 100000 in
theorem p2_s439_s {X : Int → Int} {LX : Nat} : ck_Ok p2_O X LX 152 p2_s439 := ck_ok_s (O := p2_O) (X := X) (LX := LX) (E := [(139, [p2_s325])]) (mi := 152) (cuts := []) (f := 76) (S := p2_s439) (lx := none) (XF := []) ⟨p2_nmu, ck_E1 (ck_S1 p2_s325_s ck_S0) ck_E0⟩ ck_X0 ck_l0 (by decide +kernel)
set_option maxRecDepth 100000 in
/-- GlacierMail.post -/
def p2_s440 : ck_Sum := ((8, 2, 12), 245, [.inr (.inr (.inl 1)), .inl (0, 7, []), .inl ((-2147483648), (-1), [])], ([], [], []), ([], []), [(.inl 3, 245, ([], [], []))])
set_option maxRecDepth 100000 in
theorem p2_s440_s {X : Int → Int} {LX : Nat} : ck_Ok p2_O X LX 152 p2_s440 := ck_ok_s (O := p2_O) (X := X) (LX := LX) (E := [(139, [p2_s328, p2_s322])]) (mi := 152) (cuts := []) (f := 82) (S := p2_s440) (lx := none) (XF := []) ⟨p2_nmu, ck_E1 (ck_S1 p2_s328_s (ck_S1 p2_s322_s ck_S0)) ck_E0⟩ ck_X0 ck_l0 (by decide +kernel)
set_option maxRecDepth 100000 in
/-- GlacierMail.post -/
def p2_s441 : ck_Sum := ((8, 2, 12), 245, [.inr (.inr (.inl 1)), .inl (0, 7, []), .inl (8, 2147483647, [])], ([], [], []), ([], []), [(.inl 3, 245, ([], [], []))])
set_option maxRecDepth 100000 in
theorem p2_s441_s {X : Int → Int} {LX : Nat} : ck_Ok p2_O X LX 152 p2_s441 := ck_ok_s (O := p2_O) (X := X) (LX := LX) (E := [(139, [p2_s328, p2_s325])]) (mi := 152) (cuts := []) (f := 82) (S := p2_s441) (lx := none) (XF := []) ⟨p2_nmu, ck_E1 (ck_S1 p2_s328_s (ck_S1 p2_s325_s ck_S0)) ck_E0⟩ ck_X0 ck_l0 (by decide +kernel)
set_option maxRecDepth 100000 in
/-- GlacierMail.needUnlike -/
def p2_s442 : ck_Sum := ((6, 1, 6), 245, [.inr (.inr (.inl 1)), .inl (0, 7, []), .inl (0, 7, [])], ([], [], []), ([], []), [(.inr none, 245, ([], [], [])), (.inl 0, 245, ([], [], []))])
set_option maxRecDepth 100000 in
theorem p2_s442_s {X : Int → Int} {LX : Nat} : ck_Ok p2_O X LX 153 p2_s442 := ck_ok_s (O := p2_O) (X := X) (LX := LX) (E := []) (mi := 153) (cuts := []) (f := 78) (S := p2_s442) (lx := none) (XF := []) ⟨p2_nmu, ck_E0⟩ ck_X0 ck_l0 (by decide +kernel)
set_option maxRecDepth 100000 in
/-- GlacierMail$Rows.isFull -/
def p2_s443 : ck_Sum := ((0, 0, 0), 245, [.inr (.inr (.inl 10))], ([], [], []), ([], []), [(.inr (some (.inl (ck_one 0))), 245, ([], [], [(10, 3, 3, (0, 23, []))])), (.inr (some (.inl (ck_one 1))), 245, ([], [], [(10, 3, 3, ck_one 24)]))])
set_option maxRecDepth 100000 in
theorem p2_s443_s {X : Int → Int} {LX : Nat} : ck_Ok p2_O X LX 108 p2_s443 := ck_ok_s (O := p2_O) (X := X) (LX := LX) (E := []) (mi := 108) (cuts := []) (f := 86) (S := p2_s443) (lx := none) (XF := []) ⟨p2_nmu, ck_E0⟩ ck_X0 ck_l0 (by decide +kernel)
set_option maxRecDepth 100000 in
/-- GlacierMail$History.at -/
def p2_s444 : ck_Sum := ((0, 0, 0), 245, [.inr (.inr (.inl 42)), .inl (0, 12, [])], ([], [], []), ([], []), [(.inr (some (.inr (.inr (.inl 0)))), 245, ([], [], [])), (.inr (some (.inr (.inr (.inl 44)))), 245, ([], [], [])), (.inr (some (.inr (.inr (.inl 187)))), 245, ([], [], [])), (.inr (some (.inr (.inr (.inl 174)))), 245, ([], [], [])), (.inr (some (.inr (.inr (.inl 161)))), 245, ([], [], [])), (.inr (some (.inr (.inr (.inl 148)))), 245, ([], [], [])), (.inr (some (.inr (.inr (.inl 135)))), 245, ([], [], [])), (.inr (some (.inr (.inr (.inl 122)))), 245, ([], [], [])), (.inr (some (.inr (.inr (.inl 109)))), 245, ([], [], [])), (.inr (some (.inr (.inr (.inl 96)))), 245, ([], [], [])), (.inr (some (.inr (.inr (.inl 83)))), 245, ([], [], [])), (.inr (some (.inr (.inr (.inl 70)))), 245, ([], [], [])), (.inr (some (.inr (.inr (.inl 57)))), 245, ([], [], []))])
set_option maxRecDepth 100000 in
theorem p2_s444_s {X : Int → Int} {LX : Nat} : ck_Ok p2_O X LX 56 p2_s444 := ck_ok_s (O := p2_O) (X := X) (LX := LX) (E := []) (mi := 56) (cuts := []) (f := 96) (S := p2_s444) (lx := none) (XF := []) ⟨p2_nmu, ck_E0⟩ ck_X0 ck_l0 (by decide +kernel)
set_option maxRecDepth 100000 in
/-- GlacierMail$Rows.copyFrom -/
def p2_s445 : ck_Sum := ((1, 0, 0), 245, [.inr (.inr (.inl 58)), .inr (.inr (.inl 4))], ([], [], []), ([(58, 3, 3), (59, 0, 55)], []), [(.inr none, 245, ([], [], []))])
set_option maxRecDepth 100000 in
theorem p2_s445_s {X : Int → Int} {LX : Nat} : ck_Ok p2_O X LX 58 p2_s445 := ck_ok_s (O := p2_O) (X := X) (LX := LX) (E := []) (mi := 58) (cuts := []) (f := 114) (S := p2_s445) (lx := none) (XF := []) ⟨p2_nmu, ck_E0⟩ ck_X0 ck_l0 (by decide +kernel)
set_option maxRecDepth 100000 in
/-- GlacierMail$Rows.copyFrom -/
def p2_s446 : ck_Sum := ((1, 0, 0), 245, [.inr (.inr (.inl 60)), .inr (.inr (.inl 6))], ([], [], []), ([(60, 3, 3), (61, 0, 23)], []), [(.inr none, 245, ([], [], []))])
set_option maxRecDepth 100000 in
theorem p2_s446_s {X : Int → Int} {LX : Nat} : ck_Ok p2_O X LX 58 p2_s446 := ck_ok_s (O := p2_O) (X := X) (LX := LX) (E := []) (mi := 58) (cuts := []) (f := 114) (S := p2_s446) (lx := none) (XF := []) ⟨p2_nmu, ck_E0⟩ ck_X0 ck_l0 (by decide +kernel)
set_option maxRecDepth 100000 in
/-- GlacierMail$Rows.copyFrom -/
def p2_s447 : ck_Sum := ((1, 0, 0), 245, [.inr (.inr (.inl 62)), .inr (.inr (.inl 8))], ([], [], []), ([(62, 3, 3), (63, 0, 23)], []), [(.inr none, 245, ([], [], []))])
set_option maxRecDepth 100000 in
theorem p2_s447_s {X : Int → Int} {LX : Nat} : ck_Ok p2_O X LX 58 p2_s447 := ck_ok_s (O := p2_O) (X := X) (LX := LX) (E := []) (mi := 58) (cuts := []) (f := 114) (S := p2_s447) (lx := none) (XF := []) ⟨p2_nmu, ck_E0⟩ ck_X0 ck_l0 (by decide +kernel)
set_option maxRecDepth 100000 in
/-- GlacierMail$Rows.copyFrom -/
def p2_s448 : ck_Sum := ((1, 0, 0), 245, [.inr (.inr (.inl 64)), .inr (.inr (.inl 10))], ([], [], []), ([(64, 3, 3), (65, 0, 167)], []), [(.inr none, 245, ([], [], []))])
set_option maxRecDepth 100000 in
theorem p2_s448_s {X : Int → Int} {LX : Nat} : ck_Ok p2_O X LX 58 p2_s448 := ck_ok_s (O := p2_O) (X := X) (LX := LX) (E := []) (mi := 58) (cuts := []) (f := 114) (S := p2_s448) (lx := none) (XF := []) ⟨p2_nmu, ck_E0⟩ ck_X0 ck_l0 (by decide +kernel)
set_option maxRecDepth 100000 in
/-- GlacierMail$Rows.copyFrom -/
def p2_s449 : ck_Sum := ((1, 0, 0), 245, [.inr (.inr (.inl 66)), .inr (.inr (.inl 12))], ([], [], []), ([(66, 3, 3), (67, 0, 35)], []), [(.inr none, 245, ([], [], []))])
set_option maxRecDepth 100000 in
theorem p2_s449_s {X : Int → Int} {LX : Nat} : ck_Ok p2_O X LX 58 p2_s449 := ck_ok_s (O := p2_O) (X := X) (LX := LX) (E := []) (mi := 58) (cuts := []) (f := 114) (S := p2_s449) (lx := none) (XF := []) ⟨p2_nmu, ck_E0⟩ ck_X0 ck_l0 (by decide +kernel)
set_option maxRecDepth 100000 in
/-- GlacierMail$Rows.copyFrom -/
def p2_s450 : ck_Sum := ((1, 0, 0), 245, [.inr (.inr (.inl 68)), .inr (.inr (.inl 14))], ([], [], []), ([(68, 3, 3), (69, 0, 71)], []), [(.inr none, 245, ([], [], []))])
set_option maxRecDepth 100000 in
theorem p2_s450_s {X : Int → Int} {LX : Nat} : ck_Ok p2_O X LX 58 p2_s450 := ck_ok_s (O := p2_O) (X := X) (LX := LX) (E := []) (mi := 58) (cuts := []) (f := 114) (S := p2_s450) (lx := none) (XF := []) ⟨p2_nmu, ck_E0⟩ ck_X0 ck_l0 (by decide +kernel)
end
/-! 78r80a05.sf -/
section
/-! EVERY CALL ENDS, whatever was done before (laid by wip/am/p2k.py). -/
set_option maxRecDepth 100000 in
/-- GlacierMail$State.copyFrom -/
def p2_s451 : ck_Sum := ((2, 0, 0), 245, [.inr (.inr (.inl 57)), .inr (.inr (.inl 3))], ([], [(3, 8, 0), (57, 8, 100057)], [(3, 6, 6, (0, 299, [(10, 0)]))]), (zl90, [(57, 8)]), [(.inr none, 245, ([], [(57, 8, 0)], [(57, 6, 6, (0, 299, [(10, 0)]))]))])
set_option maxRecDepth 100000 in
theorem p2_s451_s {X : Int → Int} {LX : Nat} : ck_Ok p2_O X LX 57 p2_s451 := ck_ok_s (O := p2_O) (X := X) (LX := LX) (E := [(58, [p2_s445, p2_s446, p2_s447, p2_s448, p2_s449, p2_s450])]) (mi := 57) (cuts := []) (f := 204) (S := p2_s451) (lx := none) (XF := []) ⟨p2_nmu, ck_E1 (ck_S1 p2_s445_s (ck_S1 p2_s446_s (ck_S1 p2_s447_s (ck_S1 p2_s448_s (ck_S1 p2_s449_s (ck_S1 p2_s450_s ck_S0)))))) ck_E0⟩ ck_X0 ck_l0 (by decide +kernel)
set_option maxRecDepth 100000 in
/-- GlacierMail$Rows.copyFrom -/
def p2_s452 : ck_Sum := ((1, 0, 0), 245, [.inr (.inr (.inl 71)), .inr (.inr (.inl 4))], ([], [], []), ([(71, 3, 3), (72, 0, 55)], []), [(.inr none, 245, ([], [], []))])
set_option maxRecDepth 100000 in
theorem p2_s452_s {X : Int → Int} {LX : Nat} : ck_Ok p2_O X LX 58 p2_s452 := ck_ok_s (O := p2_O) (X := X) (LX := LX) (E := []) (mi := 58) (cuts := []) (f := 114) (S := p2_s452) (lx := none) (XF := []) ⟨p2_nmu, ck_E0⟩ ck_X0 ck_l0 (by decide +kernel)
set_option maxRecDepth 100000 in
/-- GlacierMail$Rows.copyFrom -/
def p2_s453 : ck_Sum := ((1, 0, 0), 245, [.inr (.inr (.inl 73)), .inr (.inr (.inl 6))], ([], [], []), ([(73, 3, 3), (74, 0, 23)], []), [(.inr none, 245, ([], [], []))])
set_option maxRecDepth 100000 in
theorem p2_s453_s {X : Int → Int} {LX : Nat} : ck_Ok p2_O X LX 58 p2_s453 := ck_ok_s (O := p2_O) (X := X) (LX := LX) (E := []) (mi := 58) (cuts := []) (f := 114) (S := p2_s453) (lx := none) (XF := []) ⟨p2_nmu, ck_E0⟩ ck_X0 ck_l0 (by decide +kernel)
set_option maxRecDepth 100000 in
/-- GlacierMail$Rows.copyFrom -/
def p2_s454 : ck_Sum := ((1, 0, 0), 245, [.inr (.inr (.inl 75)), .inr (.inr (.inl 8))], ([], [], []), ([(75, 3, 3), (76, 0, 23)], []), [(.inr none, 245, ([], [], []))])
set_option maxRecDepth 100000 in
theorem p2_s454_s {X : Int → Int} {LX : Nat} : ck_Ok p2_O X LX 58 p2_s454 := ck_ok_s (O := p2_O) (X := X) (LX := LX) (E := []) (mi := 58) (cuts := []) (f := 114) (S := p2_s454) (lx := none) (XF := []) ⟨p2_nmu, ck_E0⟩ ck_X0 ck_l0 (by decide +kernel)
set_option maxRecDepth 100000 in
/-- GlacierMail$Rows.copyFrom -/
def p2_s455 : ck_Sum := ((1, 0, 0), 245, [.inr (.inr (.inl 77)), .inr (.inr (.inl 10))], ([], [], []), ([(77, 3, 3), (78, 0, 167)], []), [(.inr none, 245, ([], [], []))])
set_option maxRecDepth 100000 in
theorem p2_s455_s {X : Int → Int} {LX : Nat} : ck_Ok p2_O X LX 58 p2_s455 := ck_ok_s (O := p2_O) (X := X) (LX := LX) (E := []) (mi := 58) (cuts := []) (f := 114) (S := p2_s455) (lx := none) (XF := []) ⟨p2_nmu, ck_E0⟩ ck_X0 ck_l0 (by decide +kernel)
set_option maxRecDepth 100000 in
/-- GlacierMail$Rows.copyFrom -/
def p2_s456 : ck_Sum := ((1, 0, 0), 245, [.inr (.inr (.inl 79)), .inr (.inr (.inl 12))], ([], [], []), ([(79, 3, 3), (80, 0, 35)], []), [(.inr none, 245, ([], [], []))])
set_option maxRecDepth 100000 in
theorem p2_s456_s {X : Int → Int} {LX : Nat} : ck_Ok p2_O X LX 58 p2_s456 := ck_ok_s (O := p2_O) (X := X) (LX := LX) (E := []) (mi := 58) (cuts := []) (f := 114) (S := p2_s456) (lx := none) (XF := []) ⟨p2_nmu, ck_E0⟩ ck_X0 ck_l0 (by decide +kernel)
set_option maxRecDepth 100000 in
/-- GlacierMail$Rows.copyFrom -/
def p2_s457 : ck_Sum := ((1, 0, 0), 245, [.inr (.inr (.inl 81)), .inr (.inr (.inl 14))], ([], [], []), ([(81, 3, 3), (82, 0, 71)], []), [(.inr none, 245, ([], [], []))])
set_option maxRecDepth 100000 in
theorem p2_s457_s {X : Int → Int} {LX : Nat} : ck_Ok p2_O X LX 58 p2_s457 := ck_ok_s (O := p2_O) (X := X) (LX := LX) (E := []) (mi := 58) (cuts := []) (f := 114) (S := p2_s457) (lx := none) (XF := []) ⟨p2_nmu, ck_E0⟩ ck_X0 ck_l0 (by decide +kernel)
set_option maxRecDepth 100000 in
/-- GlacierMail$State.copyFrom -/
def p2_s458 : ck_Sum := ((2, 0, 0), 245, [.inr (.inr (.inl 70)), .inr (.inr (.inl 3))], ([], [(3, 8, 0), (70, 8, 100070)], [(3, 6, 6, (0, 299, [(10, 0)]))]), (zl91, [(70, 8)]), [(.inr none, 245, ([], [(70, 8, 0)], [(70, 6, 6, (0, 299, [(10, 0)]))]))])
set_option maxRecDepth 100000 in
theorem p2_s458_s {X : Int → Int} {LX : Nat} : ck_Ok p2_O X LX 57 p2_s458 := ck_ok_s (O := p2_O) (X := X) (LX := LX) (E := [(58, [p2_s452, p2_s453, p2_s454, p2_s455, p2_s456, p2_s457])]) (mi := 57) (cuts := []) (f := 204) (S := p2_s458) (lx := none) (XF := []) ⟨p2_nmu, ck_E1 (ck_S1 p2_s452_s (ck_S1 p2_s453_s (ck_S1 p2_s454_s (ck_S1 p2_s455_s (ck_S1 p2_s456_s (ck_S1 p2_s457_s ck_S0)))))) ck_E0⟩ ck_X0 ck_l0 (by decide +kernel)
set_option maxRecDepth 100000 in
/-- GlacierMail$Rows.copyFrom -/
def p2_s459 : ck_Sum := ((1, 0, 0), 245, [.inr (.inr (.inl 84)), .inr (.inr (.inl 4))], ([], [], []), ([(84, 3, 3), (85, 0, 55)], []), [(.inr none, 245, ([], [], []))])
set_option maxRecDepth 100000 in
theorem p2_s459_s {X : Int → Int} {LX : Nat} : ck_Ok p2_O X LX 58 p2_s459 := ck_ok_s (O := p2_O) (X := X) (LX := LX) (E := []) (mi := 58) (cuts := []) (f := 114) (S := p2_s459) (lx := none) (XF := []) ⟨p2_nmu, ck_E0⟩ ck_X0 ck_l0 (by decide +kernel)
set_option maxRecDepth 100000 in
/-- GlacierMail$Rows.copyFrom -/
def p2_s460 : ck_Sum := ((1, 0, 0), 245, [.inr (.inr (.inl 86)), .inr (.inr (.inl 6))], ([], [], []), ([(86, 3, 3), (87, 0, 23)], []), [(.inr none, 245, ([], [], []))])
set_option maxRecDepth 100000 in
theorem p2_s460_s {X : Int → Int} {LX : Nat} : ck_Ok p2_O X LX 58 p2_s460 := ck_ok_s (O := p2_O) (X := X) (LX := LX) (E := []) (mi := 58) (cuts := []) (f := 114) (S := p2_s460) (lx := none) (XF := []) ⟨p2_nmu, ck_E0⟩ ck_X0 ck_l0 (by decide +kernel)
set_option maxRecDepth 100000 in
/-- GlacierMail$Rows.copyFrom -/
def p2_s461 : ck_Sum := ((1, 0, 0), 245, [.inr (.inr (.inl 88)), .inr (.inr (.inl 8))], ([], [], []), ([(88, 3, 3), (89, 0, 23)], []), [(.inr none, 245, ([], [], []))])
set_option maxRecDepth 100000 in
theorem p2_s461_s {X : Int → Int} {LX : Nat} : ck_Ok p2_O X LX 58 p2_s461 := ck_ok_s (O := p2_O) (X := X) (LX := LX) (E := []) (mi := 58) (cuts := []) (f := 114) (S := p2_s461) (lx := none) (XF := []) ⟨p2_nmu, ck_E0⟩ ck_X0 ck_l0 (by decide +kernel)
set_option maxRecDepth 100000 in
/-- GlacierMail$Rows.copyFrom -/
def p2_s462 : ck_Sum := ((1, 0, 0), 245, [.inr (.inr (.inl 90)), .inr (.inr (.inl 10))], ([], [], []), ([(90, 3, 3), (91, 0, 167)], []), [(.inr none, 245, ([], [], []))])
set_option maxRecDepth 100000 in
theorem p2_s462_s {X : Int → Int} {LX : Nat} : ck_Ok p2_O X LX 58 p2_s462 := ck_ok_s (O := p2_O) (X := X) (LX := LX) (E := []) (mi := 58) (cuts := []) (f := 114) (S := p2_s462) (lx := none) (XF := []) ⟨p2_nmu, ck_E0⟩ ck_X0 ck_l0 (by decide +kernel)
set_option maxRecDepth 100000 in
/-- GlacierMail$Rows.copyFrom -/
def p2_s463 : ck_Sum := ((1, 0, 0), 245, [.inr (.inr (.inl 92)), .inr (.inr (.inl 12))], ([], [], []), ([(92, 3, 3), (93, 0, 35)], []), [(.inr none, 245, ([], [], []))])
set_option maxRecDepth 100000 in
theorem p2_s463_s {X : Int → Int} {LX : Nat} : ck_Ok p2_O X LX 58 p2_s463 := ck_ok_s (O := p2_O) (X := X) (LX := LX) (E := []) (mi := 58) (cuts := []) (f := 114) (S := p2_s463) (lx := none) (XF := []) ⟨p2_nmu, ck_E0⟩ ck_X0 ck_l0 (by decide +kernel)
set_option maxRecDepth 100000 in
/-- GlacierMail$Rows.copyFrom -/
def p2_s464 : ck_Sum := ((1, 0, 0), 245, [.inr (.inr (.inl 94)), .inr (.inr (.inl 14))], ([], [], []), ([(94, 3, 3), (95, 0, 71)], []), [(.inr none, 245, ([], [], []))])
set_option maxRecDepth 100000 in
theorem p2_s464_s {X : Int → Int} {LX : Nat} : ck_Ok p2_O X LX 58 p2_s464 := ck_ok_s (O := p2_O) (X := X) (LX := LX) (E := []) (mi := 58) (cuts := []) (f := 114) (S := p2_s464) (lx := none) (XF := []) ⟨p2_nmu, ck_E0⟩ ck_X0 ck_l0 (by decide +kernel)
set_option maxRecDepth 100000 in
/-- GlacierMail$State.copyFrom -/
def p2_s465 : ck_Sum := ((2, 0, 0), 245, [.inr (.inr (.inl 83)), .inr (.inr (.inl 3))], ([], [(3, 8, 0), (83, 8, 100083)], [(3, 6, 6, (0, 299, [(10, 0)]))]), (zl92, [(83, 8)]), [(.inr none, 245, ([], [(83, 8, 0)], [(83, 6, 6, (0, 299, [(10, 0)]))]))])
set_option maxRecDepth 100000 in
theorem p2_s465_s {X : Int → Int} {LX : Nat} : ck_Ok p2_O X LX 57 p2_s465 := ck_ok_s (O := p2_O) (X := X) (LX := LX) (E := [(58, [p2_s459, p2_s460, p2_s461, p2_s462, p2_s463, p2_s464])]) (mi := 57) (cuts := []) (f := 204) (S := p2_s465) (lx := none) (XF := []) ⟨p2_nmu, ck_E1 (ck_S1 p2_s459_s (ck_S1 p2_s460_s (ck_S1 p2_s461_s (ck_S1 p2_s462_s (ck_S1 p2_s463_s (ck_S1 p2_s464_s ck_S0)))))) ck_E0⟩ ck_X0 ck_l0 (by decide +kernel)
set_option maxRecDepth 100000 in
/-- GlacierMail$Rows.copyFrom -/
def p2_s466 : ck_Sum := ((1, 0, 0), 245, [.inr (.inr (.inl 97)), .inr (.inr (.inl 4))], ([], [], []), ([(97, 3, 3), (98, 0, 55)], []), [(.inr none, 245, ([], [], []))])
set_option maxRecDepth 100000 in
theorem p2_s466_s {X : Int → Int} {LX : Nat} : ck_Ok p2_O X LX 58 p2_s466 := ck_ok_s (O := p2_O) (X := X) (LX := LX) (E := []) (mi := 58) (cuts := []) (f := 114) (S := p2_s466) (lx := none) (XF := []) ⟨p2_nmu, ck_E0⟩ ck_X0 ck_l0 (by decide +kernel)
set_option maxRecDepth 100000 in
/-- GlacierMail$Rows.copyFrom -/
def p2_s467 : ck_Sum := ((1, 0, 0), 245, [.inr (.inr (.inl 99)), .inr (.inr (.inl 6))], ([], [], []), ([(99, 3, 3), (100, 0, 23)], []), [(.inr none, 245, ([], [], []))])
set_option maxRecDepth 100000 in
theorem p2_s467_s {X : Int → Int} {LX : Nat} : ck_Ok p2_O X LX 58 p2_s467 := ck_ok_s (O := p2_O) (X := X) (LX := LX) (E := []) (mi := 58) (cuts := []) (f := 114) (S := p2_s467) (lx := none) (XF := []) ⟨p2_nmu, ck_E0⟩ ck_X0 ck_l0 (by decide +kernel)
set_option maxRecDepth 100000 in
/-- GlacierMail$Rows.copyFrom -/
def p2_s468 : ck_Sum := ((1, 0, 0), 245, [.inr (.inr (.inl 101)), .inr (.inr (.inl 8))], ([], [], []), ([(101, 3, 3), (102, 0, 23)], []), [(.inr none, 245, ([], [], []))])
set_option maxRecDepth 100000 in
theorem p2_s468_s {X : Int → Int} {LX : Nat} : ck_Ok p2_O X LX 58 p2_s468 := ck_ok_s (O := p2_O) (X := X) (LX := LX) (E := []) (mi := 58) (cuts := []) (f := 114) (S := p2_s468) (lx := none) (XF := []) ⟨p2_nmu, ck_E0⟩ ck_X0 ck_l0 (by decide +kernel)
set_option maxRecDepth 100000 in
/-- GlacierMail$Rows.copyFrom -/
def p2_s469 : ck_Sum := ((1, 0, 0), 245, [.inr (.inr (.inl 103)), .inr (.inr (.inl 10))], ([], [], []), ([(103, 3, 3), (104, 0, 167)], []), [(.inr none, 245, ([], [], []))])
set_option maxRecDepth 100000 in
theorem p2_s469_s {X : Int → Int} {LX : Nat} : ck_Ok p2_O X LX 58 p2_s469 := ck_ok_s (O := p2_O) (X := X) (LX := LX) (E := []) (mi := 58) (cuts := []) (f := 114) (S := p2_s469) (lx := none) (XF := []) ⟨p2_nmu, ck_E0⟩ ck_X0 ck_l0 (by decide +kernel)
set_option maxRecDepth 100000 in
/-- GlacierMail$Rows.copyFrom -/
def p2_s470 : ck_Sum := ((1, 0, 0), 245, [.inr (.inr (.inl 105)), .inr (.inr (.inl 12))], ([], [], []), ([(105, 3, 3), (106, 0, 35)], []), [(.inr none, 245, ([], [], []))])
set_option maxRecDepth 100000 in
theorem p2_s470_s {X : Int → Int} {LX : Nat} : ck_Ok p2_O X LX 58 p2_s470 := ck_ok_s (O := p2_O) (X := X) (LX := LX) (E := []) (mi := 58) (cuts := []) (f := 114) (S := p2_s470) (lx := none) (XF := []) ⟨p2_nmu, ck_E0⟩ ck_X0 ck_l0 (by decide +kernel)
set_option maxRecDepth 100000 in
/-- GlacierMail$Rows.copyFrom -/
def p2_s471 : ck_Sum := ((1, 0, 0), 245, [.inr (.inr (.inl 107)), .inr (.inr (.inl 14))], ([], [], []), ([(107, 3, 3), (108, 0, 71)], []), [(.inr none, 245, ([], [], []))])
set_option maxRecDepth 100000 in
theorem p2_s471_s {X : Int → Int} {LX : Nat} : ck_Ok p2_O X LX 58 p2_s471 := ck_ok_s (O := p2_O) (X := X) (LX := LX) (E := []) (mi := 58) (cuts := []) (f := 114) (S := p2_s471) (lx := none) (XF := []) ⟨p2_nmu, ck_E0⟩ ck_X0 ck_l0 (by decide +kernel)
set_option maxRecDepth 100000 in
/-- GlacierMail$State.copyFrom -/
def p2_s472 : ck_Sum := ((2, 0, 0), 245, [.inr (.inr (.inl 96)), .inr (.inr (.inl 3))], ([], [(3, 8, 0), (96, 8, 100096)], [(3, 6, 6, (0, 299, [(10, 0)]))]), (zl93, [(96, 8)]), [(.inr none, 245, ([], [(96, 8, 0)], [(96, 6, 6, (0, 299, [(10, 0)]))]))])
set_option maxRecDepth 100000 in
theorem p2_s472_s {X : Int → Int} {LX : Nat} : ck_Ok p2_O X LX 57 p2_s472 := ck_ok_s (O := p2_O) (X := X) (LX := LX) (E := [(58, [p2_s466, p2_s467, p2_s468, p2_s469, p2_s470, p2_s471])]) (mi := 57) (cuts := []) (f := 204) (S := p2_s472) (lx := none) (XF := []) ⟨p2_nmu, ck_E1 (ck_S1 p2_s466_s (ck_S1 p2_s467_s (ck_S1 p2_s468_s (ck_S1 p2_s469_s (ck_S1 p2_s470_s (ck_S1 p2_s471_s ck_S0)))))) ck_E0⟩ ck_X0 ck_l0 (by decide +kernel)
set_option maxRecDepth 100000 in
/-- GlacierMail$Rows.copyFrom -/
def p2_s473 : ck_Sum := ((1, 0, 0), 245, [.inr (.inr (.inl 110)), .inr (.inr (.inl 4))], ([], [], []), ([(110, 3, 3), (111, 0, 55)], []), [(.inr none, 245, ([], [], []))])
set_option maxRecDepth 100000 in
theorem p2_s473_s {X : Int → Int} {LX : Nat} : ck_Ok p2_O X LX 58 p2_s473 := ck_ok_s (O := p2_O) (X := X) (LX := LX) (E := []) (mi := 58) (cuts := []) (f := 114) (S := p2_s473) (lx := none) (XF := []) ⟨p2_nmu, ck_E0⟩ ck_X0 ck_l0 (by decide +kernel)
set_option maxRecDepth 100000 in
/-- GlacierMail$Rows.copyFrom -/
def p2_s474 : ck_Sum := ((1, 0, 0), 245, [.inr (.inr (.inl 112)), .inr (.inr (.inl 6))], ([], [], []), ([(112, 3, 3), (113, 0, 23)], []), [(.inr none, 245, ([], [], []))])
set_option maxRecDepth 100000 in
theorem p2_s474_s {X : Int → Int} {LX : Nat} : ck_Ok p2_O X LX 58 p2_s474 := ck_ok_s (O := p2_O) (X := X) (LX := LX) (E := []) (mi := 58) (cuts := []) (f := 114) (S := p2_s474) (lx := none) (XF := []) ⟨p2_nmu, ck_E0⟩ ck_X0 ck_l0 (by decide +kernel)
set_option maxRecDepth 100000 in
/-- GlacierMail$Rows.copyFrom -/
def p2_s475 : ck_Sum := ((1, 0, 0), 245, [.inr (.inr (.inl 114)), .inr (.inr (.inl 8))], ([], [], []), ([(114, 3, 3), (115, 0, 23)], []), [(.inr none, 245, ([], [], []))])
set_option maxRecDepth 100000 in
theorem p2_s475_s {X : Int → Int} {LX : Nat} : ck_Ok p2_O X LX 58 p2_s475 := ck_ok_s (O := p2_O) (X := X) (LX := LX) (E := []) (mi := 58) (cuts := []) (f := 114) (S := p2_s475) (lx := none) (XF := []) ⟨p2_nmu, ck_E0⟩ ck_X0 ck_l0 (by decide +kernel)
set_option maxRecDepth 100000 in
/-- GlacierMail$Rows.copyFrom -/
def p2_s476 : ck_Sum := ((1, 0, 0), 245, [.inr (.inr (.inl 116)), .inr (.inr (.inl 10))], ([], [], []), ([(116, 3, 3), (117, 0, 167)], []), [(.inr none, 245, ([], [], []))])
set_option maxRecDepth 100000 in
theorem p2_s476_s {X : Int → Int} {LX : Nat} : ck_Ok p2_O X LX 58 p2_s476 := ck_ok_s (O := p2_O) (X := X) (LX := LX) (E := []) (mi := 58) (cuts := []) (f := 114) (S := p2_s476) (lx := none) (XF := []) ⟨p2_nmu, ck_E0⟩ ck_X0 ck_l0 (by decide +kernel)
set_option maxRecDepth 100000 in
/-- GlacierMail$Rows.copyFrom -/
def p2_s477 : ck_Sum := ((1, 0, 0), 245, [.inr (.inr (.inl 118)), .inr (.inr (.inl 12))], ([], [], []), ([(118, 3, 3), (119, 0, 35)], []), [(.inr none, 245, ([], [], []))])
set_option maxRecDepth 100000 in
theorem p2_s477_s {X : Int → Int} {LX : Nat} : ck_Ok p2_O X LX 58 p2_s477 := ck_ok_s (O := p2_O) (X := X) (LX := LX) (E := []) (mi := 58) (cuts := []) (f := 114) (S := p2_s477) (lx := none) (XF := []) ⟨p2_nmu, ck_E0⟩ ck_X0 ck_l0 (by decide +kernel)
set_option maxRecDepth 100000 in
/-- GlacierMail$Rows.copyFrom -/
def p2_s478 : ck_Sum := ((1, 0, 0), 245, [.inr (.inr (.inl 120)), .inr (.inr (.inl 14))], ([], [], []), ([(120, 3, 3), (121, 0, 71)], []), [(.inr none, 245, ([], [], []))])
set_option maxRecDepth 100000 in
theorem p2_s478_s {X : Int → Int} {LX : Nat} : ck_Ok p2_O X LX 58 p2_s478 := ck_ok_s (O := p2_O) (X := X) (LX := LX) (E := []) (mi := 58) (cuts := []) (f := 114) (S := p2_s478) (lx := none) (XF := []) ⟨p2_nmu, ck_E0⟩ ck_X0 ck_l0 (by decide +kernel)
set_option maxRecDepth 100000 in
/-- GlacierMail$State.copyFrom -/
def p2_s479 : ck_Sum := ((2, 0, 0), 245, [.inr (.inr (.inl 109)), .inr (.inr (.inl 3))], ([], [(3, 8, 0), (109, 8, 100109)], [(3, 6, 6, (0, 299, [(10, 0)]))]), (zl94, [(109, 8)]), [(.inr none, 245, ([], [(109, 8, 0)], [(109, 6, 6, (0, 299, [(10, 0)]))]))])
set_option maxRecDepth 100000 in
theorem p2_s479_s {X : Int → Int} {LX : Nat} : ck_Ok p2_O X LX 57 p2_s479 := ck_ok_s (O := p2_O) (X := X) (LX := LX) (E := [(58, [p2_s473, p2_s474, p2_s475, p2_s476, p2_s477, p2_s478])]) (mi := 57) (cuts := []) (f := 204) (S := p2_s479) (lx := none) (XF := []) ⟨p2_nmu, ck_E1 (ck_S1 p2_s473_s (ck_S1 p2_s474_s (ck_S1 p2_s475_s (ck_S1 p2_s476_s (ck_S1 p2_s477_s (ck_S1 p2_s478_s ck_S0)))))) ck_E0⟩ ck_X0 ck_l0 (by decide +kernel)
set_option maxRecDepth 100000 in
/-- GlacierMail$Rows.copyFrom -/
def p2_s480 : ck_Sum := ((1, 0, 0), 245, [.inr (.inr (.inl 123)), .inr (.inr (.inl 4))], ([], [], []), ([(123, 3, 3), (124, 0, 55)], []), [(.inr none, 245, ([], [], []))])
set_option maxRecDepth 100000 in
theorem p2_s480_s {X : Int → Int} {LX : Nat} : ck_Ok p2_O X LX 58 p2_s480 := ck_ok_s (O := p2_O) (X := X) (LX := LX) (E := []) (mi := 58) (cuts := []) (f := 114) (S := p2_s480) (lx := none) (XF := []) ⟨p2_nmu, ck_E0⟩ ck_X0 ck_l0 (by decide +kernel)
set_option maxRecDepth 100000 in
/-- GlacierMail$Rows.copyFrom -/
def p2_s481 : ck_Sum := ((1, 0, 0), 245, [.inr (.inr (.inl 125)), .inr (.inr (.inl 6))], ([], [], []), ([(125, 3, 3), (126, 0, 23)], []), [(.inr none, 245, ([], [], []))])
set_option maxRecDepth 100000 in
theorem p2_s481_s {X : Int → Int} {LX : Nat} : ck_Ok p2_O X LX 58 p2_s481 := ck_ok_s (O := p2_O) (X := X) (LX := LX) (E := []) (mi := 58) (cuts := []) (f := 114) (S := p2_s481) (lx := none) (XF := []) ⟨p2_nmu, ck_E0⟩ ck_X0 ck_l0 (by decide +kernel)
set_option maxRecDepth 100000 in
/-- GlacierMail$Rows.copyFrom -/
def p2_s482 : ck_Sum := ((1, 0, 0), 245, [.inr (.inr (.inl 127)), .inr (.inr (.inl 8))], ([], [], []), ([(127, 3, 3), (128, 0, 23)], []), [(.inr none, 245, ([], [], []))])
set_option maxRecDepth 100000 in
theorem p2_s482_s {X : Int → Int} {LX : Nat} : ck_Ok p2_O X LX 58 p2_s482 := ck_ok_s (O := p2_O) (X := X) (LX := LX) (E := []) (mi := 58) (cuts := []) (f := 114) (S := p2_s482) (lx := none) (XF := []) ⟨p2_nmu, ck_E0⟩ ck_X0 ck_l0 (by decide +kernel)
set_option maxRecDepth 100000 in
/-- GlacierMail$Rows.copyFrom -/
def p2_s483 : ck_Sum := ((1, 0, 0), 245, [.inr (.inr (.inl 129)), .inr (.inr (.inl 10))], ([], [], []), ([(129, 3, 3), (130, 0, 167)], []), [(.inr none, 245, ([], [], []))])
set_option maxRecDepth 100000 in
theorem p2_s483_s {X : Int → Int} {LX : Nat} : ck_Ok p2_O X LX 58 p2_s483 := ck_ok_s (O := p2_O) (X := X) (LX := LX) (E := []) (mi := 58) (cuts := []) (f := 114) (S := p2_s483) (lx := none) (XF := []) ⟨p2_nmu, ck_E0⟩ ck_X0 ck_l0 (by decide +kernel)
set_option maxRecDepth 100000 in
/-- GlacierMail$Rows.copyFrom -/
def p2_s484 : ck_Sum := ((1, 0, 0), 245, [.inr (.inr (.inl 131)), .inr (.inr (.inl 12))], ([], [], []), ([(131, 3, 3), (132, 0, 35)], []), [(.inr none, 245, ([], [], []))])
set_option maxRecDepth 100000 in
theorem p2_s484_s {X : Int → Int} {LX : Nat} : ck_Ok p2_O X LX 58 p2_s484 := ck_ok_s (O := p2_O) (X := X) (LX := LX) (E := []) (mi := 58) (cuts := []) (f := 114) (S := p2_s484) (lx := none) (XF := []) ⟨p2_nmu, ck_E0⟩ ck_X0 ck_l0 (by decide +kernel)
set_option maxRecDepth 100000 in
/-- GlacierMail$Rows.copyFrom -/
def p2_s485 : ck_Sum := ((1, 0, 0), 245, [.inr (.inr (.inl 133)), .inr (.inr (.inl 14))], ([], [], []), ([(133, 3, 3), (134, 0, 71)], []), [(.inr none, 245, ([], [], []))])
set_option maxRecDepth 100000 in
theorem p2_s485_s {X : Int → Int} {LX : Nat} : ck_Ok p2_O X LX 58 p2_s485 := ck_ok_s (O := p2_O) (X := X) (LX := LX) (E := []) (mi := 58) (cuts := []) (f := 114) (S := p2_s485) (lx := none) (XF := []) ⟨p2_nmu, ck_E0⟩ ck_X0 ck_l0 (by decide +kernel)
set_option maxRecDepth 100000 in
/-- GlacierMail$State.copyFrom -/
def p2_s486 : ck_Sum := ((2, 0, 0), 245, [.inr (.inr (.inl 122)), .inr (.inr (.inl 3))], ([], [(3, 8, 0), (122, 8, 100122)], [(3, 6, 6, (0, 299, [(10, 0)]))]), (zl95, [(122, 8)]), [(.inr none, 245, ([], [(122, 8, 0)], [(122, 6, 6, (0, 299, [(10, 0)]))]))])
set_option maxRecDepth 100000 in
theorem p2_s486_s {X : Int → Int} {LX : Nat} : ck_Ok p2_O X LX 57 p2_s486 := ck_ok_s (O := p2_O) (X := X) (LX := LX) (E := [(58, [p2_s480, p2_s481, p2_s482, p2_s483, p2_s484, p2_s485])]) (mi := 57) (cuts := []) (f := 204) (S := p2_s486) (lx := none) (XF := []) ⟨p2_nmu, ck_E1 (ck_S1 p2_s480_s (ck_S1 p2_s481_s (ck_S1 p2_s482_s (ck_S1 p2_s483_s (ck_S1 p2_s484_s (ck_S1 p2_s485_s ck_S0)))))) ck_E0⟩ ck_X0 ck_l0 (by decide +kernel)
set_option maxRecDepth 100000 in
/-- GlacierMail$Rows.copyFrom -/
def p2_s487 : ck_Sum := ((1, 0, 0), 245, [.inr (.inr (.inl 136)), .inr (.inr (.inl 4))], ([], [], []), ([(136, 3, 3), (137, 0, 55)], []), [(.inr none, 245, ([], [], []))])
set_option maxRecDepth 100000 in
theorem p2_s487_s {X : Int → Int} {LX : Nat} : ck_Ok p2_O X LX 58 p2_s487 := ck_ok_s (O := p2_O) (X := X) (LX := LX) (E := []) (mi := 58) (cuts := []) (f := 114) (S := p2_s487) (lx := none) (XF := []) ⟨p2_nmu, ck_E0⟩ ck_X0 ck_l0 (by decide +kernel)
set_option maxRecDepth 100000 in
/-- GlacierMail$Rows.copyFrom -/
def p2_s488 : ck_Sum := ((1, 0, 0), 245, [.inr (.inr (.inl 138)), .inr (.inr (.inl 6))], ([], [], []), ([(138, 3, 3), (139, 0, 23)], []), [(.inr none, 245, ([], [], []))])
set_option maxRecDepth 100000 in
theorem p2_s488_s {X : Int → Int} {LX : Nat} : ck_Ok p2_O X LX 58 p2_s488 := ck_ok_s (O := p2_O) (X := X) (LX := LX) (E := []) (mi := 58) (cuts := []) (f := 114) (S := p2_s488) (lx := none) (XF := []) ⟨p2_nmu, ck_E0⟩ ck_X0 ck_l0 (by decide +kernel)
set_option maxRecDepth 100000 in
/-- GlacierMail$Rows.copyFrom -/
def p2_s489 : ck_Sum := ((1, 0, 0), 245, [.inr (.inr (.inl 140)), .inr (.inr (.inl 8))], ([], [], []), ([(140, 3, 3), (141, 0, 23)], []), [(.inr none, 245, ([], [], []))])
set_option maxRecDepth 100000 in
theorem p2_s489_s {X : Int → Int} {LX : Nat} : ck_Ok p2_O X LX 58 p2_s489 := ck_ok_s (O := p2_O) (X := X) (LX := LX) (E := []) (mi := 58) (cuts := []) (f := 114) (S := p2_s489) (lx := none) (XF := []) ⟨p2_nmu, ck_E0⟩ ck_X0 ck_l0 (by decide +kernel)
set_option maxRecDepth 100000 in
/-- GlacierMail$Rows.copyFrom -/
def p2_s490 : ck_Sum := ((1, 0, 0), 245, [.inr (.inr (.inl 142)), .inr (.inr (.inl 10))], ([], [], []), ([(142, 3, 3), (143, 0, 167)], []), [(.inr none, 245, ([], [], []))])
set_option maxRecDepth 100000 in
theorem p2_s490_s {X : Int → Int} {LX : Nat} : ck_Ok p2_O X LX 58 p2_s490 := ck_ok_s (O := p2_O) (X := X) (LX := LX) (E := []) (mi := 58) (cuts := []) (f := 114) (S := p2_s490) (lx := none) (XF := []) ⟨p2_nmu, ck_E0⟩ ck_X0 ck_l0 (by decide +kernel)
set_option maxRecDepth 100000 in
/-- GlacierMail$Rows.copyFrom -/
def p2_s491 : ck_Sum := ((1, 0, 0), 245, [.inr (.inr (.inl 144)), .inr (.inr (.inl 12))], ([], [], []), ([(144, 3, 3), (145, 0, 35)], []), [(.inr none, 245, ([], [], []))])
set_option maxRecDepth 100000 in
theorem p2_s491_s {X : Int → Int} {LX : Nat} : ck_Ok p2_O X LX 58 p2_s491 := ck_ok_s (O := p2_O) (X := X) (LX := LX) (E := []) (mi := 58) (cuts := []) (f := 114) (S := p2_s491) (lx := none) (XF := []) ⟨p2_nmu, ck_E0⟩ ck_X0 ck_l0 (by decide +kernel)
set_option maxRecDepth 100000 in
/-- GlacierMail$Rows.copyFrom -/
def p2_s492 : ck_Sum := ((1, 0, 0), 245, [.inr (.inr (.inl 146)), .inr (.inr (.inl 14))], ([], [], []), ([(146, 3, 3), (147, 0, 71)], []), [(.inr none, 245, ([], [], []))])
set_option maxRecDepth 100000 in
theorem p2_s492_s {X : Int → Int} {LX : Nat} : ck_Ok p2_O X LX 58 p2_s492 := ck_ok_s (O := p2_O) (X := X) (LX := LX) (E := []) (mi := 58) (cuts := []) (f := 114) (S := p2_s492) (lx := none) (XF := []) ⟨p2_nmu, ck_E0⟩ ck_X0 ck_l0 (by decide +kernel)
set_option maxRecDepth 100000 in
/-- GlacierMail$State.copyFrom -/
def p2_s493 : ck_Sum := ((2, 0, 0), 245, [.inr (.inr (.inl 135)), .inr (.inr (.inl 3))], ([], [(3, 8, 0), (135, 8, 100135)], [(3, 6, 6, (0, 299, [(10, 0)]))]), (zl96, [(135, 8)]), [(.inr none, 245, ([], [(135, 8, 0)], [(135, 6, 6, (0, 299, [(10, 0)]))]))])
set_option maxRecDepth 100000 in
theorem p2_s493_s {X : Int → Int} {LX : Nat} : ck_Ok p2_O X LX 57 p2_s493 := ck_ok_s (O := p2_O) (X := X) (LX := LX) (E := [(58, [p2_s487, p2_s488, p2_s489, p2_s490, p2_s491, p2_s492])]) (mi := 57) (cuts := []) (f := 204) (S := p2_s493) (lx := none) (XF := []) ⟨p2_nmu, ck_E1 (ck_S1 p2_s487_s (ck_S1 p2_s488_s (ck_S1 p2_s489_s (ck_S1 p2_s490_s (ck_S1 p2_s491_s (ck_S1 p2_s492_s ck_S0)))))) ck_E0⟩ ck_X0 ck_l0 (by decide +kernel)
set_option maxRecDepth 100000 in
/-- GlacierMail$Rows.copyFrom -/
def p2_s494 : ck_Sum := ((1, 0, 0), 245, [.inr (.inr (.inl 149)), .inr (.inr (.inl 4))], ([], [], []), ([(149, 3, 3), (150, 0, 55)], []), [(.inr none, 245, ([], [], []))])
set_option maxRecDepth 100000 in
theorem p2_s494_s {X : Int → Int} {LX : Nat} : ck_Ok p2_O X LX 58 p2_s494 := ck_ok_s (O := p2_O) (X := X) (LX := LX) (E := []) (mi := 58) (cuts := []) (f := 114) (S := p2_s494) (lx := none) (XF := []) ⟨p2_nmu, ck_E0⟩ ck_X0 ck_l0 (by decide +kernel)
set_option maxRecDepth 100000 in
/-- GlacierMail$Rows.copyFrom -/
def p2_s495 : ck_Sum := ((1, 0, 0), 245, [.inr (.inr (.inl 151)), .inr (.inr (.inl 6))], ([], [], []), ([(151, 3, 3), (152, 0, 23)], []), [(.inr none, 245, ([], [], []))])
set_option maxRecDepth 100000 in
theorem p2_s495_s {X : Int → Int} {LX : Nat} : ck_Ok p2_O X LX 58 p2_s495 := ck_ok_s (O := p2_O) (X := X) (LX := LX) (E := []) (mi := 58) (cuts := []) (f := 114) (S := p2_s495) (lx := none) (XF := []) ⟨p2_nmu, ck_E0⟩ ck_X0 ck_l0 (by decide +kernel)
set_option maxRecDepth 100000 in
/-- GlacierMail$Rows.copyFrom -/
def p2_s496 : ck_Sum := ((1, 0, 0), 245, [.inr (.inr (.inl 153)), .inr (.inr (.inl 8))], ([], [], []), ([(153, 3, 3), (154, 0, 23)], []), [(.inr none, 245, ([], [], []))])
set_option maxRecDepth 100000 in
theorem p2_s496_s {X : Int → Int} {LX : Nat} : ck_Ok p2_O X LX 58 p2_s496 := ck_ok_s (O := p2_O) (X := X) (LX := LX) (E := []) (mi := 58) (cuts := []) (f := 114) (S := p2_s496) (lx := none) (XF := []) ⟨p2_nmu, ck_E0⟩ ck_X0 ck_l0 (by decide +kernel)
set_option maxRecDepth 100000 in
/-- GlacierMail$Rows.copyFrom -/
def p2_s497 : ck_Sum := ((1, 0, 0), 245, [.inr (.inr (.inl 155)), .inr (.inr (.inl 10))], ([], [], []), ([(155, 3, 3), (156, 0, 167)], []), [(.inr none, 245, ([], [], []))])
set_option maxRecDepth 100000 in
theorem p2_s497_s {X : Int → Int} {LX : Nat} : ck_Ok p2_O X LX 58 p2_s497 := ck_ok_s (O := p2_O) (X := X) (LX := LX) (E := []) (mi := 58) (cuts := []) (f := 114) (S := p2_s497) (lx := none) (XF := []) ⟨p2_nmu, ck_E0⟩ ck_X0 ck_l0 (by decide +kernel)
set_option maxRecDepth 100000 in
/-- GlacierMail$Rows.copyFrom -/
def p2_s498 : ck_Sum := ((1, 0, 0), 245, [.inr (.inr (.inl 157)), .inr (.inr (.inl 12))], ([], [], []), ([(157, 3, 3), (158, 0, 35)], []), [(.inr none, 245, ([], [], []))])
set_option maxRecDepth 100000 in
theorem p2_s498_s {X : Int → Int} {LX : Nat} : ck_Ok p2_O X LX 58 p2_s498 := ck_ok_s (O := p2_O) (X := X) (LX := LX) (E := []) (mi := 58) (cuts := []) (f := 114) (S := p2_s498) (lx := none) (XF := []) ⟨p2_nmu, ck_E0⟩ ck_X0 ck_l0 (by decide +kernel)
set_option maxRecDepth 100000 in
/-- GlacierMail$Rows.copyFrom -/
def p2_s499 : ck_Sum := ((1, 0, 0), 245, [.inr (.inr (.inl 159)), .inr (.inr (.inl 14))], ([], [], []), ([(159, 3, 3), (160, 0, 71)], []), [(.inr none, 245, ([], [], []))])
set_option maxRecDepth 100000 in
theorem p2_s499_s {X : Int → Int} {LX : Nat} : ck_Ok p2_O X LX 58 p2_s499 := ck_ok_s (O := p2_O) (X := X) (LX := LX) (E := []) (mi := 58) (cuts := []) (f := 114) (S := p2_s499) (lx := none) (XF := []) ⟨p2_nmu, ck_E0⟩ ck_X0 ck_l0 (by decide +kernel)
set_option maxRecDepth 100000 in
/-- GlacierMail$State.copyFrom -/
def p2_s500 : ck_Sum := ((2, 0, 0), 245, [.inr (.inr (.inl 148)), .inr (.inr (.inl 3))], ([], [(3, 8, 0), (148, 8, 100148)], [(3, 6, 6, (0, 299, [(10, 0)]))]), (zl97, [(148, 8)]), [(.inr none, 245, ([], [(148, 8, 0)], [(148, 6, 6, (0, 299, [(10, 0)]))]))])
set_option maxRecDepth 100000 in
theorem p2_s500_s {X : Int → Int} {LX : Nat} : ck_Ok p2_O X LX 57 p2_s500 := ck_ok_s (O := p2_O) (X := X) (LX := LX) (E := [(58, [p2_s494, p2_s495, p2_s496, p2_s497, p2_s498, p2_s499])]) (mi := 57) (cuts := []) (f := 204) (S := p2_s500) (lx := none) (XF := []) ⟨p2_nmu, ck_E1 (ck_S1 p2_s494_s (ck_S1 p2_s495_s (ck_S1 p2_s496_s (ck_S1 p2_s497_s (ck_S1 p2_s498_s (ck_S1 p2_s499_s ck_S0)))))) ck_E0⟩ ck_X0 ck_l0 (by decide +kernel)
set_option maxRecDepth 100000 in
/-- GlacierMail$Rows.copyFrom -/
def p2_s501 : ck_Sum := ((1, 0, 0), 245, [.inr (.inr (.inl 162)), .inr (.inr (.inl 4))], ([], [], []), ([(162, 3, 3), (163, 0, 55)], []), [(.inr none, 245, ([], [], []))])
set_option maxRecDepth 100000 in
theorem p2_s501_s {X : Int → Int} {LX : Nat} : ck_Ok p2_O X LX 58 p2_s501 := ck_ok_s (O := p2_O) (X := X) (LX := LX) (E := []) (mi := 58) (cuts := []) (f := 114) (S := p2_s501) (lx := none) (XF := []) ⟨p2_nmu, ck_E0⟩ ck_X0 ck_l0 (by decide +kernel)
set_option maxRecDepth 100000 in
/-- GlacierMail$Rows.copyFrom -/
def p2_s502 : ck_Sum := ((1, 0, 0), 245, [.inr (.inr (.inl 164)), .inr (.inr (.inl 6))], ([], [], []), ([(164, 3, 3), (165, 0, 23)], []), [(.inr none, 245, ([], [], []))])
set_option maxRecDepth 100000 in
theorem p2_s502_s {X : Int → Int} {LX : Nat} : ck_Ok p2_O X LX 58 p2_s502 := ck_ok_s (O := p2_O) (X := X) (LX := LX) (E := []) (mi := 58) (cuts := []) (f := 114) (S := p2_s502) (lx := none) (XF := []) ⟨p2_nmu, ck_E0⟩ ck_X0 ck_l0 (by decide +kernel)
set_option maxRecDepth 100000 in
/-- GlacierMail$Rows.copyFrom -/
def p2_s503 : ck_Sum := ((1, 0, 0), 245, [.inr (.inr (.inl 166)), .inr (.inr (.inl 8))], ([], [], []), ([(166, 3, 3), (167, 0, 23)], []), [(.inr none, 245, ([], [], []))])
set_option maxRecDepth 100000 in
theorem p2_s503_s {X : Int → Int} {LX : Nat} : ck_Ok p2_O X LX 58 p2_s503 := ck_ok_s (O := p2_O) (X := X) (LX := LX) (E := []) (mi := 58) (cuts := []) (f := 114) (S := p2_s503) (lx := none) (XF := []) ⟨p2_nmu, ck_E0⟩ ck_X0 ck_l0 (by decide +kernel)
set_option maxRecDepth 100000 in
/-- GlacierMail$Rows.copyFrom -/
def p2_s504 : ck_Sum := ((1, 0, 0), 245, [.inr (.inr (.inl 168)), .inr (.inr (.inl 10))], ([], [], []), ([(168, 3, 3), (169, 0, 167)], []), [(.inr none, 245, ([], [], []))])
set_option maxRecDepth 100000 in
theorem p2_s504_s {X : Int → Int} {LX : Nat} : ck_Ok p2_O X LX 58 p2_s504 := ck_ok_s (O := p2_O) (X := X) (LX := LX) (E := []) (mi := 58) (cuts := []) (f := 114) (S := p2_s504) (lx := none) (XF := []) ⟨p2_nmu, ck_E0⟩ ck_X0 ck_l0 (by decide +kernel)
set_option maxRecDepth 100000 in
/-- GlacierMail$Rows.copyFrom -/
def p2_s505 : ck_Sum := ((1, 0, 0), 245, [.inr (.inr (.inl 170)), .inr (.inr (.inl 12))], ([], [], []), ([(170, 3, 3), (171, 0, 35)], []), [(.inr none, 245, ([], [], []))])
set_option maxRecDepth 100000 in
theorem p2_s505_s {X : Int → Int} {LX : Nat} : ck_Ok p2_O X LX 58 p2_s505 := ck_ok_s (O := p2_O) (X := X) (LX := LX) (E := []) (mi := 58) (cuts := []) (f := 114) (S := p2_s505) (lx := none) (XF := []) ⟨p2_nmu, ck_E0⟩ ck_X0 ck_l0 (by decide +kernel)
set_option maxRecDepth 100000 in
/-- GlacierMail$Rows.copyFrom -/
def p2_s506 : ck_Sum := ((1, 0, 0), 245, [.inr (.inr (.inl 172)), .inr (.inr (.inl 14))], ([], [], []), ([(172, 3, 3), (173, 0, 71)], []), [(.inr none, 245, ([], [], []))])
set_option maxRecDepth 100000 in
theorem p2_s506_s {X : Int → Int} {LX : Nat} : ck_Ok p2_O X LX 58 p2_s506 := ck_ok_s (O := p2_O) (X := X) (LX := LX) (E := []) (mi := 58) (cuts := []) (f := 114) (S := p2_s506) (lx := none) (XF := []) ⟨p2_nmu, ck_E0⟩ ck_X0 ck_l0 (by decide +kernel)
set_option maxRecDepth 100000 in
/-- GlacierMail$State.copyFrom -/
def p2_s507 : ck_Sum := ((2, 0, 0), 245, [.inr (.inr (.inl 161)), .inr (.inr (.inl 3))], ([], [(3, 8, 0), (161, 8, 100161)], [(3, 6, 6, (0, 299, [(10, 0)]))]), (zl98, [(161, 8)]), [(.inr none, 245, ([], [(161, 8, 0)], [(161, 6, 6, (0, 299, [(10, 0)]))]))])
set_option maxRecDepth 100000 in
theorem p2_s507_s {X : Int → Int} {LX : Nat} : ck_Ok p2_O X LX 57 p2_s507 := ck_ok_s (O := p2_O) (X := X) (LX := LX) (E := [(58, [p2_s501, p2_s502, p2_s503, p2_s504, p2_s505, p2_s506])]) (mi := 57) (cuts := []) (f := 204) (S := p2_s507) (lx := none) (XF := []) ⟨p2_nmu, ck_E1 (ck_S1 p2_s501_s (ck_S1 p2_s502_s (ck_S1 p2_s503_s (ck_S1 p2_s504_s (ck_S1 p2_s505_s (ck_S1 p2_s506_s ck_S0)))))) ck_E0⟩ ck_X0 ck_l0 (by decide +kernel)
set_option maxRecDepth 100000 in
/-- GlacierMail$Rows.copyFrom -/
def p2_s508 : ck_Sum := ((1, 0, 0), 245, [.inr (.inr (.inl 175)), .inr (.inr (.inl 4))], ([], [], []), ([(175, 3, 3), (176, 0, 55)], []), [(.inr none, 245, ([], [], []))])
set_option maxRecDepth 100000 in
theorem p2_s508_s {X : Int → Int} {LX : Nat} : ck_Ok p2_O X LX 58 p2_s508 := ck_ok_s (O := p2_O) (X := X) (LX := LX) (E := []) (mi := 58) (cuts := []) (f := 114) (S := p2_s508) (lx := none) (XF := []) ⟨p2_nmu, ck_E0⟩ ck_X0 ck_l0 (by decide +kernel)
set_option maxRecDepth 100000 in
/-- GlacierMail$Rows.copyFrom -/
def p2_s509 : ck_Sum := ((1, 0, 0), 245, [.inr (.inr (.inl 177)), .inr (.inr (.inl 6))], ([], [], []), ([(177, 3, 3), (178, 0, 23)], []), [(.inr none, 245, ([], [], []))])
set_option maxRecDepth 100000 in
theorem p2_s509_s {X : Int → Int} {LX : Nat} : ck_Ok p2_O X LX 58 p2_s509 := ck_ok_s (O := p2_O) (X := X) (LX := LX) (E := []) (mi := 58) (cuts := []) (f := 114) (S := p2_s509) (lx := none) (XF := []) ⟨p2_nmu, ck_E0⟩ ck_X0 ck_l0 (by decide +kernel)
set_option maxRecDepth 100000 in
/-- GlacierMail$Rows.copyFrom -/
def p2_s510 : ck_Sum := ((1, 0, 0), 245, [.inr (.inr (.inl 179)), .inr (.inr (.inl 8))], ([], [], []), ([(179, 3, 3), (180, 0, 23)], []), [(.inr none, 245, ([], [], []))])
set_option maxRecDepth 100000 in
theorem p2_s510_s {X : Int → Int} {LX : Nat} : ck_Ok p2_O X LX 58 p2_s510 := ck_ok_s (O := p2_O) (X := X) (LX := LX) (E := []) (mi := 58) (cuts := []) (f := 114) (S := p2_s510) (lx := none) (XF := []) ⟨p2_nmu, ck_E0⟩ ck_X0 ck_l0 (by decide +kernel)
set_option maxRecDepth 100000 in
/-- GlacierMail$Rows.copyFrom -/
def p2_s511 : ck_Sum := ((1, 0, 0), 245, [.inr (.inr (.inl 181)), .inr (.inr (.inl 10))], ([], [], []), ([(181, 3, 3), (182, 0, 167)], []), [(.inr none, 245, ([], [], []))])
set_option maxRecDepth 100000 in
theorem p2_s511_s {X : Int → Int} {LX : Nat} : ck_Ok p2_O X LX 58 p2_s511 := ck_ok_s (O := p2_O) (X := X) (LX := LX) (E := []) (mi := 58) (cuts := []) (f := 114) (S := p2_s511) (lx := none) (XF := []) ⟨p2_nmu, ck_E0⟩ ck_X0 ck_l0 (by decide +kernel)
set_option maxRecDepth 100000 in
/-- GlacierMail$Rows.copyFrom -/
def p2_s512 : ck_Sum := ((1, 0, 0), 245, [.inr (.inr (.inl 183)), .inr (.inr (.inl 12))], ([], [], []), ([(183, 3, 3), (184, 0, 35)], []), [(.inr none, 245, ([], [], []))])
set_option maxRecDepth 100000 in
theorem p2_s512_s {X : Int → Int} {LX : Nat} : ck_Ok p2_O X LX 58 p2_s512 := ck_ok_s (O := p2_O) (X := X) (LX := LX) (E := []) (mi := 58) (cuts := []) (f := 114) (S := p2_s512) (lx := none) (XF := []) ⟨p2_nmu, ck_E0⟩ ck_X0 ck_l0 (by decide +kernel)
set_option maxRecDepth 100000 in
/-- GlacierMail$Rows.copyFrom -/
def p2_s513 : ck_Sum := ((1, 0, 0), 245, [.inr (.inr (.inl 185)), .inr (.inr (.inl 14))], ([], [], []), ([(185, 3, 3), (186, 0, 71)], []), [(.inr none, 245, ([], [], []))])
set_option maxRecDepth 100000 in
theorem p2_s513_s {X : Int → Int} {LX : Nat} : ck_Ok p2_O X LX 58 p2_s513 := ck_ok_s (O := p2_O) (X := X) (LX := LX) (E := []) (mi := 58) (cuts := []) (f := 114) (S := p2_s513) (lx := none) (XF := []) ⟨p2_nmu, ck_E0⟩ ck_X0 ck_l0 (by decide +kernel)
set_option maxRecDepth 100000 in
/-- GlacierMail$State.copyFrom -/
def p2_s514 : ck_Sum := ((2, 0, 0), 245, [.inr (.inr (.inl 174)), .inr (.inr (.inl 3))], ([], [(3, 8, 0), (174, 8, 100174)], [(3, 6, 6, (0, 299, [(10, 0)]))]), (zl99, [(174, 8)]), [(.inr none, 245, ([], [(174, 8, 0)], [(174, 6, 6, (0, 299, [(10, 0)]))]))])
set_option maxRecDepth 100000 in
theorem p2_s514_s {X : Int → Int} {LX : Nat} : ck_Ok p2_O X LX 57 p2_s514 := ck_ok_s (O := p2_O) (X := X) (LX := LX) (E := [(58, [p2_s508, p2_s509, p2_s510, p2_s511, p2_s512, p2_s513])]) (mi := 57) (cuts := []) (f := 204) (S := p2_s514) (lx := none) (XF := []) ⟨p2_nmu, ck_E1 (ck_S1 p2_s508_s (ck_S1 p2_s509_s (ck_S1 p2_s510_s (ck_S1 p2_s511_s (ck_S1 p2_s512_s (ck_S1 p2_s513_s ck_S0)))))) ck_E0⟩ ck_X0 ck_l0 (by decide +kernel)
set_option maxRecDepth 100000 in
/-- GlacierMail$Rows.copyFrom -/
def p2_s515 : ck_Sum := ((1, 0, 0), 245, [.inr (.inr (.inl 188)), .inr (.inr (.inl 4))], ([], [], []), ([(188, 3, 3), (189, 0, 55)], []), [(.inr none, 245, ([], [], []))])
set_option maxRecDepth 100000 in
theorem p2_s515_s {X : Int → Int} {LX : Nat} : ck_Ok p2_O X LX 58 p2_s515 := ck_ok_s (O := p2_O) (X := X) (LX := LX) (E := []) (mi := 58) (cuts := []) (f := 114) (S := p2_s515) (lx := none) (XF := []) ⟨p2_nmu, ck_E0⟩ ck_X0 ck_l0 (by decide +kernel)
set_option maxRecDepth 100000 in
/-- GlacierMail$Rows.copyFrom -/
def p2_s516 : ck_Sum := ((1, 0, 0), 245, [.inr (.inr (.inl 190)), .inr (.inr (.inl 6))], ([], [], []), ([(190, 3, 3), (191, 0, 23)], []), [(.inr none, 245, ([], [], []))])
set_option maxRecDepth 100000 in
theorem p2_s516_s {X : Int → Int} {LX : Nat} : ck_Ok p2_O X LX 58 p2_s516 := ck_ok_s (O := p2_O) (X := X) (LX := LX) (E := []) (mi := 58) (cuts := []) (f := 114) (S := p2_s516) (lx := none) (XF := []) ⟨p2_nmu, ck_E0⟩ ck_X0 ck_l0 (by decide +kernel)
set_option maxRecDepth 100000 in
/-- GlacierMail$Rows.copyFrom -/
def p2_s517 : ck_Sum := ((1, 0, 0), 245, [.inr (.inr (.inl 192)), .inr (.inr (.inl 8))], ([], [], []), ([(192, 3, 3), (193, 0, 23)], []), [(.inr none, 245, ([], [], []))])
set_option maxRecDepth 100000 in
theorem p2_s517_s {X : Int → Int} {LX : Nat} : ck_Ok p2_O X LX 58 p2_s517 := ck_ok_s (O := p2_O) (X := X) (LX := LX) (E := []) (mi := 58) (cuts := []) (f := 114) (S := p2_s517) (lx := none) (XF := []) ⟨p2_nmu, ck_E0⟩ ck_X0 ck_l0 (by decide +kernel)
set_option maxRecDepth 100000 in
/-- GlacierMail$Rows.copyFrom -/
def p2_s518 : ck_Sum := ((1, 0, 0), 245, [.inr (.inr (.inl 194)), .inr (.inr (.inl 10))], ([], [], []), ([(194, 3, 3), (195, 0, 167)], []), [(.inr none, 245, ([], [], []))])
set_option maxRecDepth 100000 in
theorem p2_s518_s {X : Int → Int} {LX : Nat} : ck_Ok p2_O X LX 58 p2_s518 := ck_ok_s (O := p2_O) (X := X) (LX := LX) (E := []) (mi := 58) (cuts := []) (f := 114) (S := p2_s518) (lx := none) (XF := []) ⟨p2_nmu, ck_E0⟩ ck_X0 ck_l0 (by decide +kernel)
set_option maxRecDepth 100000 in
/-- GlacierMail$Rows.copyFrom -/
def p2_s519 : ck_Sum := ((1, 0, 0), 245, [.inr (.inr (.inl 196)), .inr (.inr (.inl 12))], ([], [], []), ([(196, 3, 3), (197, 0, 35)], []), [(.inr none, 245, ([], [], []))])
set_option maxRecDepth 100000 in
theorem p2_s519_s {X : Int → Int} {LX : Nat} : ck_Ok p2_O X LX 58 p2_s519 := ck_ok_s (O := p2_O) (X := X) (LX := LX) (E := []) (mi := 58) (cuts := []) (f := 114) (S := p2_s519) (lx := none) (XF := []) ⟨p2_nmu, ck_E0⟩ ck_X0 ck_l0 (by decide +kernel)
set_option maxRecDepth 100000 in
/-- GlacierMail$Rows.copyFrom -/
def p2_s520 : ck_Sum := ((1, 0, 0), 245, [.inr (.inr (.inl 198)), .inr (.inr (.inl 14))], ([], [], []), ([(198, 3, 3), (199, 0, 71)], []), [(.inr none, 245, ([], [], []))])
set_option maxRecDepth 100000 in
theorem p2_s520_s {X : Int → Int} {LX : Nat} : ck_Ok p2_O X LX 58 p2_s520 := ck_ok_s (O := p2_O) (X := X) (LX := LX) (E := []) (mi := 58) (cuts := []) (f := 114) (S := p2_s520) (lx := none) (XF := []) ⟨p2_nmu, ck_E0⟩ ck_X0 ck_l0 (by decide +kernel)
set_option maxRecDepth 100000 in
/-- GlacierMail$State.copyFrom -/
def p2_s521 : ck_Sum := ((2, 0, 0), 245, [.inr (.inr (.inl 187)), .inr (.inr (.inl 3))], ([], [(3, 8, 0), (187, 8, 100187)], [(3, 6, 6, (0, 299, [(10, 0)]))]), (zl100, [(187, 8)]), [(.inr none, 245, ([], [(187, 8, 0)], [(187, 6, 6, (0, 299, [(10, 0)]))]))])
set_option maxRecDepth 100000 in
theorem p2_s521_s {X : Int → Int} {LX : Nat} : ck_Ok p2_O X LX 57 p2_s521 := ck_ok_s (O := p2_O) (X := X) (LX := LX) (E := [(58, [p2_s515, p2_s516, p2_s517, p2_s518, p2_s519, p2_s520])]) (mi := 57) (cuts := []) (f := 204) (S := p2_s521) (lx := none) (XF := []) ⟨p2_nmu, ck_E1 (ck_S1 p2_s515_s (ck_S1 p2_s516_s (ck_S1 p2_s517_s (ck_S1 p2_s518_s (ck_S1 p2_s519_s (ck_S1 p2_s520_s ck_S0)))))) ck_E0⟩ ck_X0 ck_l0 (by decide +kernel)
set_option maxRecDepth 100000 in
/-- GlacierMail$Rows.copyFrom -/
def p2_s522 : ck_Sum := ((1, 0, 0), 245, [.inr (.inr (.inl 45)), .inr (.inr (.inl 4))], ([], [], []), ([(45, 3, 3), (46, 0, 55)], []), [(.inr none, 245, ([], [], []))])
set_option maxRecDepth 100000 in
theorem p2_s522_s {X : Int → Int} {LX : Nat} : ck_Ok p2_O X LX 58 p2_s522 := ck_ok_s (O := p2_O) (X := X) (LX := LX) (E := []) (mi := 58) (cuts := []) (f := 114) (S := p2_s522) (lx := none) (XF := []) ⟨p2_nmu, ck_E0⟩ ck_X0 ck_l0 (by decide +kernel)
set_option maxRecDepth 100000 in
/-- GlacierMail$Rows.copyFrom -/
def p2_s523 : ck_Sum := ((1, 0, 0), 245, [.inr (.inr (.inl 47)), .inr (.inr (.inl 6))], ([], [], []), ([(47, 3, 3), (48, 0, 23)], []), [(.inr none, 245, ([], [], []))])
set_option maxRecDepth 100000 in
theorem p2_s523_s {X : Int → Int} {LX : Nat} : ck_Ok p2_O X LX 58 p2_s523 := ck_ok_s (O := p2_O) (X := X) (LX := LX) (E := []) (mi := 58) (cuts := []) (f := 114) (S := p2_s523) (lx := none) (XF := []) ⟨p2_nmu, ck_E0⟩ ck_X0 ck_l0 (by decide +kernel)
set_option maxRecDepth 100000 in
/-- GlacierMail$Rows.copyFrom -/
def p2_s524 : ck_Sum := ((1, 0, 0), 245, [.inr (.inr (.inl 49)), .inr (.inr (.inl 8))], ([], [], []), ([(49, 3, 3), (50, 0, 23)], []), [(.inr none, 245, ([], [], []))])
set_option maxRecDepth 100000 in
theorem p2_s524_s {X : Int → Int} {LX : Nat} : ck_Ok p2_O X LX 58 p2_s524 := ck_ok_s (O := p2_O) (X := X) (LX := LX) (E := []) (mi := 58) (cuts := []) (f := 114) (S := p2_s524) (lx := none) (XF := []) ⟨p2_nmu, ck_E0⟩ ck_X0 ck_l0 (by decide +kernel)
set_option maxRecDepth 100000 in
/-- GlacierMail$Rows.copyFrom -/
def p2_s525 : ck_Sum := ((1, 0, 0), 245, [.inr (.inr (.inl 51)), .inr (.inr (.inl 10))], ([], [], []), ([(51, 3, 3), (52, 0, 167)], []), [(.inr none, 245, ([], [], []))])
set_option maxRecDepth 100000 in
theorem p2_s525_s {X : Int → Int} {LX : Nat} : ck_Ok p2_O X LX 58 p2_s525 := ck_ok_s (O := p2_O) (X := X) (LX := LX) (E := []) (mi := 58) (cuts := []) (f := 114) (S := p2_s525) (lx := none) (XF := []) ⟨p2_nmu, ck_E0⟩ ck_X0 ck_l0 (by decide +kernel)
set_option maxRecDepth 100000 in
/-- GlacierMail$Rows.copyFrom -/
def p2_s526 : ck_Sum := ((1, 0, 0), 245, [.inr (.inr (.inl 53)), .inr (.inr (.inl 12))], ([], [], []), ([(53, 3, 3), (54, 0, 35)], []), [(.inr none, 245, ([], [], []))])
set_option maxRecDepth 100000 in
theorem p2_s526_s {X : Int → Int} {LX : Nat} : ck_Ok p2_O X LX 58 p2_s526 := ck_ok_s (O := p2_O) (X := X) (LX := LX) (E := []) (mi := 58) (cuts := []) (f := 114) (S := p2_s526) (lx := none) (XF := []) ⟨p2_nmu, ck_E0⟩ ck_X0 ck_l0 (by decide +kernel)
set_option maxRecDepth 100000 in
/-- GlacierMail$Rows.copyFrom -/
def p2_s527 : ck_Sum := ((1, 0, 0), 245, [.inr (.inr (.inl 55)), .inr (.inr (.inl 14))], ([], [], []), ([(55, 3, 3), (56, 0, 71)], []), [(.inr none, 245, ([], [], []))])
set_option maxRecDepth 100000 in
theorem p2_s527_s {X : Int → Int} {LX : Nat} : ck_Ok p2_O X LX 58 p2_s527 := ck_ok_s (O := p2_O) (X := X) (LX := LX) (E := []) (mi := 58) (cuts := []) (f := 114) (S := p2_s527) (lx := none) (XF := []) ⟨p2_nmu, ck_E0⟩ ck_X0 ck_l0 (by decide +kernel)
set_option maxRecDepth 100000 in
/-- GlacierMail$State.copyFrom -/
def p2_s528 : ck_Sum := ((2, 0, 0), 245, [.inr (.inr (.inl 44)), .inr (.inr (.inl 3))], ([], [(3, 8, 0), (44, 8, 100044)], [(3, 6, 6, (0, 299, [(10, 0)]))]), (zl101, [(44, 8)]), [(.inr none, 245, ([], [(44, 8, 0)], [(44, 6, 6, (0, 299, [(10, 0)]))]))])
set_option maxRecDepth 100000 in
theorem p2_s528_s {X : Int → Int} {LX : Nat} : ck_Ok p2_O X LX 57 p2_s528 := ck_ok_s (O := p2_O) (X := X) (LX := LX) (E := [(58, [p2_s522, p2_s523, p2_s524, p2_s525, p2_s526, p2_s527])]) (mi := 57) (cuts := []) (f := 204) (S := p2_s528) (lx := none) (XF := []) ⟨p2_nmu, ck_E1 (ck_S1 p2_s522_s (ck_S1 p2_s523_s (ck_S1 p2_s524_s (ck_S1 p2_s525_s (ck_S1 p2_s526_s (ck_S1 p2_s527_s ck_S0)))))) ck_E0⟩ ck_X0 ck_l0 (by decide +kernel)
set_option maxRecDepth 100000 in
/-- GlacierMail$History.remember -/
def p2_s529 : ck_Sum := ((3, 0, 0), 245, [.inr (.inr (.inl 42)), .inr (.inr (.inl 3))], ([], zl102, [(3, 6, 6, (0, 299, [(10, 0)]))]), (zl103, zl104), [(.inr none, 245, ([], zl105, zl106)), (.inr none, 245, ([], zl107, zl108)), (.inr none, 245, ([], zl109, zl110)), (.inr none, 245, ([], zl111, zl112)), (.inr none, 245, ([], zl113, zl114)), (.inr none, 245, ([], zl115, zl116)), (.inr none, 245, ([], zl117, zl118)), (.inr none, 245, ([], zl119, zl120)), (.inr none, 245, ([], zl121, zl122)), (.inr none, 245, ([], zl123, zl124)), (.inr none, 245, ([], zl125, zl126)), (.inr none, 245, ([], zl127, zl128)), (.inr none, 245, ([], zl129, zl130))])
set_option maxRecDepth 100000 in
theorem p2_s529_s {X : Int → Int} {LX : Nat} : ck_Ok p2_O X LX 154 p2_s529 := ck_ok_s (O := p2_O) (X := X) (LX := LX) (E := [(56, [p2_s444]), (57, [p2_s451, p2_s458, p2_s465, p2_s472, p2_s479, p2_s486, p2_s493, p2_s500, p2_s507, p2_s514, p2_s521, p2_s528])]) (mi := 154) (cuts := []) (f := 124) (S := p2_s529) (lx := none) (XF := []) ⟨p2_nmu, ck_E1 (ck_S1 p2_s444_s ck_S0) (ck_E1 (ck_S1 p2_s451_s (ck_S1 p2_s458_s (ck_S1 p2_s465_s (ck_S1 p2_s472_s (ck_S1 p2_s479_s (ck_S1 p2_s486_s (ck_S1 p2_s493_s (ck_S1 p2_s500_s (ck_S1 p2_s507_s (ck_S1 p2_s514_s (ck_S1 p2_s521_s (ck_S1 p2_s528_s ck_S0)))))))))))) ck_E0)⟩ ck_X0 ck_l0 (by decide +kernel)
set_option maxRecDepth 100000 in
/-- GlacierMail$Rows.add -/
def p2_s530 : ck_Sum := ((0, 0, 0), 245, [.inr (.inr (.inl 10))], ([], [], []), ([(10, 3, 3)], []), zl131)
set_option maxRecDepth 100000 in
theorem p2_s530_s {X : Int → Int} {LX : Nat} : ck_Ok p2_O X LX 102 p2_s530 := ck_ok_s (O := p2_O) (X := X) (LX := LX) (E := []) (mi := 102) (cuts := []) (f := 102) (S := p2_s530) (lx := none) (XF := []) ⟨p2_nmu, ck_E0⟩ ck_X0 ck_l0 (by decide +kernel)
set_option maxRecDepth 100000 in
/-- GlacierMail$Rows.put -/
def p2_s531 : ck_Sum := ((0, 0, 0), 245, [.inr (.inr (.inl 10)), .inl (0, 23, []), .inl (ck_one 0), .inl (0, 7, [])], ([], [], []), (zl132, []), [(.inr none, 245, ([], [], []))])
set_option maxRecDepth 100000 in
theorem p2_s531_s {X : Int → Int} {LX : Nat} : ck_Ok p2_O X LX 45 p2_s531 := ck_ok_s (O := p2_O) (X := X) (LX := LX) (E := []) (mi := 45) (cuts := []) (f := 116) (S := p2_s531) (lx := none) (XF := []) ⟨p2_nmu, ck_E0⟩ ck_X0 ck_l0 (by decide +kernel)
set_option maxRecDepth 100000 in
/-- GlacierMail$Rows.put -/
def p2_s532 : ck_Sum := ((0, 0, 0), 245, [.inr (.inr (.inl 10)), .inl (0, 23, []), .inl (ck_one 1), .inl (0, 7, [])], ([], [], []), (zl133, []), [(.inr none, 245, ([], [], []))])
set_option maxRecDepth 100000 in
theorem p2_s532_s {X : Int → Int} {LX : Nat} : ck_Ok p2_O X LX 45 p2_s532 := ck_ok_s (O := p2_O) (X := X) (LX := LX) (E := []) (mi := 45) (cuts := []) (f := 116) (S := p2_s532) (lx := none) (XF := []) ⟨p2_nmu, ck_E0⟩ ck_X0 ck_l0 (by decide +kernel)
set_option maxRecDepth 100000 in
/-- GlacierMail$Rows.put -/
def p2_s533 : ck_Sum := ((0, 0, 0), 245, [.inr (.inr (.inl 10)), .inl (0, 23, []), .inl (ck_one 2), .inl ((-1), 98, [])], ([], [], []), (zl134, []), [(.inr none, 245, ([], [], []))])
set_option maxRecDepth 100000 in
theorem p2_s533_s {X : Int → Int} {LX : Nat} : ck_Ok p2_O X LX 45 p2_s533 := ck_ok_s (O := p2_O) (X := X) (LX := LX) (E := []) (mi := 45) (cuts := []) (f := 116) (S := p2_s533) (lx := none) (XF := []) ⟨p2_nmu, ck_E0⟩ ck_X0 ck_l0 (by decide +kernel)
set_option maxRecDepth 100000 in
/-- GlacierMail$Rows.put -/
def p2_s534 : ck_Sum := ((0, 0, 0), 245, [.inr (.inr (.inl 10)), .inl (0, 23, []), .inl (ck_one 3), .inl (0, 299, [])], ([], [], []), (zl135, []), [(.inr none, 245, ([], [], []))])
set_option maxRecDepth 100000 in
theorem p2_s534_s {X : Int → Int} {LX : Nat} : ck_Ok p2_O X LX 45 p2_s534 := ck_ok_s (O := p2_O) (X := X) (LX := LX) (E := []) (mi := 45) (cuts := []) (f := 116) (S := p2_s534) (lx := none) (XF := []) ⟨p2_nmu, ck_E0⟩ ck_X0 ck_l0 (by decide +kernel)
set_option maxRecDepth 100000 in
/-- GlacierMail$Rows.put -/
def p2_s535 : ck_Sum := ((0, 0, 0), 245, [.inr (.inr (.inl 10)), .inl (0, 23, []), .inl (ck_one 4), .inl ((-1), 98, [])], ([], [], []), (zl136, []), [(.inr none, 245, ([], [], []))])
set_option maxRecDepth 100000 in
theorem p2_s535_s {X : Int → Int} {LX : Nat} : ck_Ok p2_O X LX 45 p2_s535 := ck_ok_s (O := p2_O) (X := X) (LX := LX) (E := []) (mi := 45) (cuts := []) (f := 116) (S := p2_s535) (lx := none) (XF := []) ⟨p2_nmu, ck_E0⟩ ck_X0 ck_l0 (by decide +kernel)
set_option maxRecDepth 100000 in
/-- GlacierMail$Rows.put -/
def p2_s536 : ck_Sum := ((0, 0, 0), 245, [.inr (.inr (.inl 10)), .inl (0, 23, []), .inl (ck_one 5), .inl (ck_one (-1))], ([], [], []), (zl137, []), [(.inr none, 245, ([], [], []))])
set_option maxRecDepth 100000 in
theorem p2_s536_s {X : Int → Int} {LX : Nat} : ck_Ok p2_O X LX 45 p2_s536 := ck_ok_s (O := p2_O) (X := X) (LX := LX) (E := []) (mi := 45) (cuts := []) (f := 116) (S := p2_s536) (lx := none) (XF := []) ⟨p2_nmu, ck_E0⟩ ck_X0 ck_l0 (by decide +kernel)
set_option maxRecDepth 100000 in
/-- GlacierMail$Rows.put -/
def p2_s537 : ck_Sum := ((0, 0, 0), 245, [.inr (.inr (.inl 10)), .inl (0, 23, []), .inl (ck_one 6), .inl (ck_one (-1))], ([], [], []), (zl138, []), [(.inr none, 245, ([], [], []))])
set_option maxRecDepth 100000 in
theorem p2_s537_s {X : Int → Int} {LX : Nat} : ck_Ok p2_O X LX 45 p2_s537 := ck_ok_s (O := p2_O) (X := X) (LX := LX) (E := []) (mi := 45) (cuts := []) (f := 116) (S := p2_s537) (lx := none) (XF := []) ⟨p2_nmu, ck_E0⟩ ck_X0 ck_l0 (by decide +kernel)
set_option maxRecDepth 100000 in
/-- GlacierMail$Rows.put -/
def p2_s538 : ck_Sum := ((0, 0, 0), 245, [.inr (.inr (.inl 10)), .inl (ck_one (-1)), .inl (ck_one 0), .inl (0, 7, [])], ([], [], []), ([], []), [(.inr none, 245, ([], [], []))])
set_option maxRecDepth 100000 in
theorem p2_s538_s {X : Int → Int} {LX : Nat} : ck_Ok p2_O X LX 45 p2_s538 := ck_ok_s (O := p2_O) (X := X) (LX := LX) (E := []) (mi := 45) (cuts := []) (f := 76) (S := p2_s538) (lx := none) (XF := []) ⟨p2_nmu, ck_E0⟩ ck_X0 ck_l0 (by decide +kernel)
set_option maxRecDepth 100000 in
/-- GlacierMail$Rows.put -/
def p2_s539 : ck_Sum := ((0, 0, 0), 245, [.inr (.inr (.inl 10)), .inl (ck_one (-1)), .inl (ck_one 1), .inl (0, 7, [])], ([], [], []), ([], []), [(.inr none, 245, ([], [], []))])
set_option maxRecDepth 100000 in
theorem p2_s539_s {X : Int → Int} {LX : Nat} : ck_Ok p2_O X LX 45 p2_s539 := ck_ok_s (O := p2_O) (X := X) (LX := LX) (E := []) (mi := 45) (cuts := []) (f := 76) (S := p2_s539) (lx := none) (XF := []) ⟨p2_nmu, ck_E0⟩ ck_X0 ck_l0 (by decide +kernel)
set_option maxRecDepth 100000 in
/-- GlacierMail$Rows.put -/
def p2_s540 : ck_Sum := ((0, 0, 0), 245, [.inr (.inr (.inl 10)), .inl (ck_one (-1)), .inl (ck_one 2), .inl ((-1), 98, [])], ([], [], []), ([], []), [(.inr none, 245, ([], [], []))])
set_option maxRecDepth 100000 in
theorem p2_s540_s {X : Int → Int} {LX : Nat} : ck_Ok p2_O X LX 45 p2_s540 := ck_ok_s (O := p2_O) (X := X) (LX := LX) (E := []) (mi := 45) (cuts := []) (f := 76) (S := p2_s540) (lx := none) (XF := []) ⟨p2_nmu, ck_E0⟩ ck_X0 ck_l0 (by decide +kernel)
end
