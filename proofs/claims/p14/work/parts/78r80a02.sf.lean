/-! EVERY CALL ENDS, whatever was done before (laid by wip/am/p2k.py). -/
set_option maxRecDepth 100000 in
/-- GlacierMailModel.lip -/
def p2_s180 : ck_Sum := ((0, 0, 0), 245, [.inr (.inr (.inl 226))], ([], [], []), ([], []), [(.inr (some (.inl (0, 99, []))), 245, ([], [], []))])
set_option maxRecDepth 100000 in
theorem p2_s180_e : ck_ok p2_O none [] [] 259 [] 80 p2_s180 = true := by decide +kernel
theorem p2_s180_s {X : Int → Int} {LX : Nat} : ck_Ok p2_O X LX 259 p2_s180 := ck_ok_s ⟨p2_nmu, ck_E0⟩ ck_X0 ck_l0 p2_s180_e
set_option maxRecDepth 100000 in
/-- GlacierMailModel.figures -/
def p2_s181 : ck_Sum := ((2, 0, 0), 245, [.inr (.inr (.inl 226)), .inl (ck_one 0), .inl ((-1), 98, []), .inl (ck_one 4)], ([], [], [(226, 9, 9, (0, 400, [(1, 0)]))]), ([(226, 9, 9), (226, 11, 11)], []), [(.inr (some (.inl (ck_one (-1)))), 245, ([], [], [(226, 9, 9, (0, 400, [(1000001, 0)])), (226, 11, 11, (0, 400, [(1000001, 0)]))])), (.inr (some (.inl (0, 98, []))), 245, ([], [], [(226, 9, 9, (0, 400, [(1000001, 0)])), (226, 11, 11, (0, 400, [(1000001, 0)]))]))])
set_option maxRecDepth 100000 in
theorem p2_s181_e : ck_ok p2_O none [] [(245, [p2_s148]), (246, [p2_s161])] 256 [(7, [some (.inr (.inr (.inl 226))), some (.inl (ck_one 0)), some (.inl ((-1), 98, [])), some (.inl (ck_one 4)), some (.inl ((-2147483648), 2147483647, []))], ([], [], [(226, 11, 11, (0, 400, [(1000001, 0)])), (226, 9, 9, (0, 400, [(1000001, 0)]))]), 100, .inr (226, 9), true)] 222 p2_s181 = true := by decide +kernel
theorem p2_s181_s {X : Int → Int} {LX : Nat} : ck_Ok p2_O X LX 256 p2_s181 := ck_ok_s ⟨p2_nmu, ck_E1 (ck_S1 p2_s148_s ck_S0) (ck_E1 (ck_S1 p2_s161_s ck_S0) ck_E0)⟩ ck_X0 ck_l0 p2_s181_e
set_option maxRecDepth 100000 in
/-- GlacierMailModel.number -/
def p2_s182 : ck_Sum := ((3, 0, 0), 245, [.inr (.inr (.inl 226)), .inl (ck_one 0), .inl ((-1), 98, [])], ([], [], [(226, 9, 9, (0, 400, [(1, 0)]))]), ([(226, 9, 9), (226, 11, 11)], []), [(.inr (some (.inl (ck_one (-1)))), 245, ([], [], [(226, 9, 9, (0, 400, [(1000001, 0)])), (226, 11, 11, (0, 400, [(1000001, 0)]))])), (.inr (some (.inl (0, 98, []))), 245, ([], [], [(226, 9, 9, (0, 400, [(1000001, 0)])), (226, 11, 11, (0, 400, [(1000001, 0)]))]))])
set_option maxRecDepth 100000 in
theorem p2_s182_e : ck_ok p2_O none [] [(256, [p2_s181])] 255 [] 82 p2_s182 = true := by decide +kernel
theorem p2_s182_s {X : Int → Int} {LX : Nat} : ck_Ok p2_O X LX 255 p2_s182 := ck_ok_s ⟨p2_nmu, ck_E1 (ck_S1 p2_s181_s ck_S0) ck_E0⟩ ck_X0 ck_l0 p2_s182_e
set_option maxRecDepth 100000 in
/-- GlacierMailModel.rowTold -/
def p2_s183 : ck_Sum := ((4, 0, 0), 245, [.inr (.inr (.inl 226))], ([], [], [(226, 9, 9, (0, 400, [(1, 0)]))]), ([(226, 9, 9), (226, 11, 11)], []), [(.inr (some (.inl (ck_one (-1)))), 245, ([], [], [(226, 9, 9, (0, 400, [(1000001, 0)])), (226, 11, 11, (0, 400, [(1000001, 0)]))])), (.inr (some (.inl (0, 98, []))), 245, ([], [], [(226, 9, 9, (0, 400, [(1000001, 0)])), (226, 11, 11, (0, 400, [(1000001, 0)]))]))])
set_option maxRecDepth 100000 in
theorem p2_s183_e : ck_ok p2_O none [] [(259, [p2_s180]), (255, [p2_s182])] 263 [] 86 p2_s183 = true := by decide +kernel
theorem p2_s183_s {X : Int → Int} {LX : Nat} : ck_Ok p2_O X LX 263 p2_s183 := ck_ok_s ⟨p2_nmu, ck_E1 (ck_S1 p2_s180_s ck_S0) (ck_E1 (ck_S1 p2_s182_s ck_S0) ck_E0)⟩ ck_X0 ck_l0 p2_s183_e
/-- GlacierMailModel.throwsIn -/
def p2_s184 : ck_Sum := op_ts (-1) (-1) (-1) (-1) 0 5 0 98
theorem p2_s184_s {X : Int → Int} {LX : Nat} : ck_Ok p2_O X LX 271 p2_s184 := op_throw (by decide +kernel) (by decide)
set_option maxRecDepth 100000 in
/-- GlacierMailModel.readRock -/
def p2_s185 : ck_Sum := ((5, 0, 0), 245, [.inr (.inr (.inl 226))], ([], [], [(227, 4, 4, (0, 24, [(22, 0)])), (226, 9, 9, (0, 400, [(1, 0)])), (227, 9, 9, (0, 299, [(11, 0)]))]), ([(226, 9, 9), (226, 11, 11), (227, 4, 4), (227, 119, 286)], []), [(.inr (some (.inl (ck_one 0))), 245, ([], [], [(226, 9, 9, (0, 400, [(1000001, 0)])), (227, 4, 4, (0, 24, [(22, 0)]))])), (.inr (some (.inl (ck_one 1))), 245, ([], [], [(227, 4, 4, (1, 24, [(22, 1)])), (226, 9, 9, (0, 400, [(1000001, 0)])), (226, 11, 11, (0, 400, [(1000001, 0)]))]))])
set_option maxRecDepth 100000 in
theorem p2_s185_e : ck_ok p2_O none [] [(254, [p2_s176]), (268, [p2_s179]), (263, [p2_s183]), (271, [p2_s184])] 270 [] 120 p2_s185 = true := by decide +kernel
theorem p2_s185_s {X : Int → Int} {LX : Nat} : ck_Ok p2_O X LX 270 p2_s185 := ck_ok_s ⟨p2_nmu, ck_E1 (ck_S1 p2_s176_s ck_S0) (ck_E1 (ck_S1 p2_s179_s ck_S0) (ck_E1 (ck_S1 p2_s183_s ck_S0) (ck_E1 (ck_S1 p2_s184_s ck_S0) ck_E0)))⟩ ck_X0 ck_l0 p2_s185_e
set_option maxRecDepth 100000 in
/-- GlacierMailModel.people -/
def p2_s186 : ck_Sum := ((0, 0, 0), 245, [.inr (.inr (.inl 226))], ([], [], [(227, 3, 3, (0, 8, [(21, 0)]))]), ([], []), [(.inr (some (.inl (0, 8, [(21, 0)]))), 245, ([], [], []))])
set_option maxRecDepth 100000 in
theorem p2_s186_e : ck_ok p2_O none [] [] 253 [] 80 p2_s186 = true := by decide +kernel
theorem p2_s186_s {X : Int → Int} {LX : Nat} : ck_Ok p2_O X LX 253 p2_s186 := ck_ok_s ⟨p2_nmu, ck_E0⟩ ck_X0 ck_l0 p2_s186_e
set_option maxRecDepth 100000 in
/-- GlacierMailModel.isWord -/
def p2_s187 : ck_Sum := ((6, 0, 0), 245, [.inr (.inr (.inl 226)), .inr (.inr (.inr 54))], ([], [], [(226, 9, 9, (0, 400, [(1, 0)]))]), ([], []), [(.inr (some (.inl (ck_one 0))), 245, ([], [], [])), (.inr (some (.inl (ck_one 1))), 245, ([], [], [(226, 9, 9, (5, 400, [(1, 0)])), (226, 11, 11, (0, 395, []))]))])
set_option maxRecDepth 100000 in
theorem p2_s187_e : ck_ok p2_O none [] [] 250 [] 332 p2_s187 = true := by decide +kernel
theorem p2_s187_s {X : Int → Int} {LX : Nat} : ck_Ok p2_O X LX 250 p2_s187 := ck_ok_s ⟨p2_nmu, ck_E0⟩ ck_X0 ck_l0 p2_s187_e
set_option maxRecDepth 100000 in
/-- GlacierMailModel.isNext -/
def p2_s188 : ck_Sum := ((7, 0, 0), 245, [.inr (.inr (.inl 226)), .inr (.inr (.inr 54))], ([], [], [(226, 9, 9, (0, 400, [(1, 0)]))]), ([(226, 9, 9), (226, 11, 11)], []), [(.inr (some (.inl (ck_one 0))), 245, ([], [], [(226, 9, 9, (0, 400, [(1000001, 0)])), (226, 11, 11, (0, 400, [(1000001, 0)]))])), (.inr (some (.inl (ck_one 1))), 245, ([], [], [(226, 9, 9, (5, 400, [(1000001, 0)])), (226, 11, 11, (0, 395, []))]))])
set_option maxRecDepth 100000 in
theorem p2_s188_e : ck_ok p2_O none [] [(248, [p2_s150]), (250, [p2_s187])] 269 [] 94 p2_s188 = true := by decide +kernel
theorem p2_s188_s {X : Int → Int} {LX : Nat} : ck_Ok p2_O X LX 269 p2_s188 := ck_ok_s ⟨p2_nmu, ck_E1 (ck_S1 p2_s150_s ck_S0) (ck_E1 (ck_S1 p2_s187_s ck_S0) ck_E0)⟩ ck_X0 ck_l0 p2_s188_e
set_option maxRecDepth 100000 in
/-- GlacierMailModel.readPerson -/
def p2_s189 : ck_Sum := ((8, 0, 0), 245, [.inr (.inr (.inl 226))], ([], [], [(227, 3, 3, (0, 8, [(21, 0)])), (226, 9, 9, (0, 400, [(1, 0)]))]), ([(226, 9, 9), (226, 11, 11), (227, 3, 3), (227, 95, 118)], []), [(.inr (some (.inl (ck_one 0))), 245, ([], [], [(226, 9, 9, (0, 400, [(1000001, 0)])), (227, 3, 3, (0, 8, [(21, 0)]))])), (.inr (some (.inl (ck_one 1))), 245, ([], [], [(227, 3, 3, (1, 8, [])), (226, 9, 9, (0, 400, [(1000001, 0)])), (226, 11, 11, (0, 400, [(1000001, 0)]))]))])
set_option maxRecDepth 100000 in
theorem p2_s189_e : ck_ok p2_O none [] [(253, [p2_s186]), (268, [p2_s179]), (263, [p2_s183]), (269, [p2_s188])] 267 [] 192 p2_s189 = true := by decide +kernel
theorem p2_s189_s {X : Int → Int} {LX : Nat} : ck_Ok p2_O X LX 267 p2_s189 := ck_ok_s ⟨p2_nmu, ck_E1 (ck_S1 p2_s186_s ck_S0) (ck_E1 (ck_S1 p2_s179_s ck_S0) (ck_E1 (ck_S1 p2_s183_s ck_S0) (ck_E1 (ck_S1 p2_s188_s ck_S0) ck_E0)))⟩ ck_X0 ck_l0 p2_s189_e
set_option maxRecDepth 100000 in
/-- GlacierMailModel.now -/
def p2_s190 : ck_Sum := ((0, 0, 0), 245, [.inr (.inr (.inl 226))], ([], [], [(227, 9, 9, (0, 299, [(11, 0)]))]), ([], []), [(.inr (some (.inl (0, 299, [(11, 0)]))), 245, ([], [], []))])
set_option maxRecDepth 100000 in
theorem p2_s190_e : ck_ok p2_O none [] [] 266 [] 80 p2_s190 = true := by decide +kernel
theorem p2_s190_s {X : Int → Int} {LX : Nat} : ck_Ok p2_O X LX 266 p2_s190 := ck_ok_s ⟨p2_nmu, ck_E0⟩ ck_X0 ck_l0 p2_s190_e
set_option maxRecDepth 100000 in
/-- GlacierMailModel.figures -/
def p2_s191 : ck_Sum := ((2, 0, 0), 245, [.inr (.inr (.inl 226)), .inl (0, 299, []), .inl (ck_one 299), .inl (ck_one 4)], ([], [], [(226, 9, 9, (0, 400, [(1, 0)]))]), ([(226, 9, 9), (226, 11, 11)], []), [(.inr (some (.inl (ck_one (-1)))), 245, ([], [], [(226, 9, 9, (0, 400, [(1000001, 0)])), (226, 11, 11, (0, 400, [(1000001, 0)]))])), (.inr (some (.inl (0, 299, []))), 245, ([], [], [(226, 9, 9, (0, 400, [(1000001, 0)])), (226, 11, 11, (0, 400, [(1000001, 0)]))]))])
set_option maxRecDepth 100000 in
theorem p2_s191_e : ck_ok p2_O none [] [(245, [p2_s148]), (246, [p2_s161])] 256 [(7, [some (.inr (.inr (.inl 226))), some (.inl (0, 299, [])), some (.inl (ck_one 299)), some (.inl (ck_one 4)), some (.inl ((-2147483648), 2147483647, []))], ([], [], [(226, 11, 11, (0, 400, [(1000001, 0)])), (226, 9, 9, (0, 400, [(1000001, 0)]))]), 100, .inr (226, 9), true)] 222 p2_s191 = true := by decide +kernel
theorem p2_s191_s {X : Int → Int} {LX : Nat} : ck_Ok p2_O X LX 256 p2_s191 := ck_ok_s ⟨p2_nmu, ck_E1 (ck_S1 p2_s148_s ck_S0) (ck_E1 (ck_S1 p2_s161_s ck_S0) ck_E0)⟩ ck_X0 ck_l0 p2_s191_e
set_option maxRecDepth 100000 in
/-- GlacierMailModel.number -/
def p2_s192 : ck_Sum := ((3, 0, 0), 245, [.inr (.inr (.inl 226)), .inl (0, 299, []), .inl (ck_one 299)], ([], [], [(226, 9, 9, (0, 400, [(1, 0)]))]), ([(226, 9, 9), (226, 11, 11)], []), [(.inr (some (.inl (ck_one (-1)))), 245, ([], [], [(226, 9, 9, (0, 400, [(1000001, 0)])), (226, 11, 11, (0, 400, [(1000001, 0)]))])), (.inr (some (.inl (0, 299, []))), 245, ([], [], [(226, 9, 9, (0, 400, [(1000001, 0)])), (226, 11, 11, (0, 400, [(1000001, 0)]))]))])
set_option maxRecDepth 100000 in
theorem p2_s192_e : ck_ok p2_O none [] [(256, [p2_s191])] 255 [] 82 p2_s192 = true := by decide +kernel
theorem p2_s192_s {X : Int → Int} {LX : Nat} : ck_Ok p2_O X LX 255 p2_s192 := ck_ok_s ⟨p2_nmu, ck_E1 (ck_S1 p2_s191_s ck_S0) ck_E0⟩ ck_X0 ck_l0 p2_s192_e
set_option maxRecDepth 100000 in
/-- GlacierMailModel.figures -/
def p2_s193 : ck_Sum := ((2, 0, 0), 245, [.inr (.inr (.inl 226)), .inl (ck_one 1), .inl (ck_one 20), .inl (ck_one 4)], ([], [], [(226, 9, 9, (0, 400, [(1, 0)]))]), ([(226, 9, 9), (226, 11, 11)], []), [(.inr (some (.inl (ck_one (-1)))), 245, ([], [], [(226, 9, 9, (0, 400, [(1000001, 0)])), (226, 11, 11, (0, 400, [(1000001, 0)]))])), (.inr (some (.inl (1, 20, []))), 245, ([], [], [(226, 9, 9, (0, 400, [(1000001, 0)])), (226, 11, 11, (0, 400, [(1000001, 0)]))]))])
set_option maxRecDepth 100000 in
theorem p2_s193_e : ck_ok p2_O none [] [(245, [p2_s148]), (246, [p2_s161])] 256 [(7, [some (.inr (.inr (.inl 226))), some (.inl (ck_one 1)), some (.inl (ck_one 20)), some (.inl (ck_one 4)), some (.inl ((-2147483648), 2147483647, []))], ([], [], [(226, 11, 11, (0, 400, [(1000001, 0)])), (226, 9, 9, (0, 400, [(1000001, 0)]))]), 100, .inr (226, 9), true)] 222 p2_s193 = true := by decide +kernel
theorem p2_s193_s {X : Int → Int} {LX : Nat} : ck_Ok p2_O X LX 256 p2_s193 := ck_ok_s ⟨p2_nmu, ck_E1 (ck_S1 p2_s148_s ck_S0) (ck_E1 (ck_S1 p2_s161_s ck_S0) ck_E0)⟩ ck_X0 ck_l0 p2_s193_e
set_option maxRecDepth 100000 in
/-- GlacierMailModel.number -/
def p2_s194 : ck_Sum := ((3, 0, 0), 245, [.inr (.inr (.inl 226)), .inl (ck_one 1), .inl (ck_one 20)], ([], [], [(226, 9, 9, (0, 400, [(1, 0)]))]), ([(226, 9, 9), (226, 11, 11)], []), [(.inr (some (.inl (ck_one (-1)))), 245, ([], [], [(226, 9, 9, (0, 400, [(1000001, 0)])), (226, 11, 11, (0, 400, [(1000001, 0)]))])), (.inr (some (.inl (1, 20, []))), 245, ([], [], [(226, 9, 9, (0, 400, [(1000001, 0)])), (226, 11, 11, (0, 400, [(1000001, 0)]))]))])
set_option maxRecDepth 100000 in
theorem p2_s194_e : ck_ok p2_O none [] [(256, [p2_s193])] 255 [] 82 p2_s194 = true := by decide +kernel
theorem p2_s194_s {X : Int → Int} {LX : Nat} : ck_Ok p2_O X LX 255 p2_s194 := ck_ok_s ⟨p2_nmu, ck_E1 (ck_S1 p2_s193_s ck_S0) ck_E0⟩ ck_X0 ck_l0 p2_s194_e
set_option maxRecDepth 100000 in
/-- GlacierMailModel.readFlood -/
def p2_s195 : ck_Sum := ((5, 0, 0), 245, [.inr (.inr (.inl 226))], ([], [], [(227, 5, 5, (0, 8, [(23, 0)])), (226, 9, 9, (0, 400, [(1, 0)])), (227, 9, 9, (0, 299, [(11, 0)]))]), ([(226, 9, 9), (226, 11, 11), (227, 5, 5), (227, 71, 94)], []), [(.inr (some (.inl (ck_one 0))), 245, ([], [], [(226, 9, 9, (0, 400, [(1000001, 0)])), (227, 5, 5, (0, 8, [(23, 0)]))])), (.inr (some (.inl (ck_one 1))), 245, ([], [], [(227, 5, 5, (1, 8, [])), (226, 9, 9, (0, 400, [(1000001, 0)])), (226, 11, 11, (0, 400, [(1000001, 0)]))]))])
set_option maxRecDepth 100000 in
theorem p2_s195_e : ck_ok p2_O none [] [(266, [p2_s190]), (255, [p2_s192, p2_s194]), (263, [p2_s183])] 265 [] 198 p2_s195 = true := by decide +kernel
theorem p2_s195_s {X : Int → Int} {LX : Nat} : ck_Ok p2_O X LX 265 p2_s195 := ck_ok_s ⟨p2_nmu, ck_E1 (ck_S1 p2_s190_s ck_S0) (ck_E1 (ck_S1 p2_s192_s (ck_S1 p2_s194_s ck_S0)) (ck_E1 (ck_S1 p2_s183_s ck_S0) ck_E0))⟩ ck_X0 ck_l0 p2_s195_e
set_option maxRecDepth 100000 in
/-- GlacierMailModel.isWord -/
def p2_s196 : ck_Sum := ((6, 0, 0), 245, [.inr (.inr (.inl 226)), .inr (.inr (.inr 51))], ([], [], [(226, 9, 9, (0, 400, [(1, 0)]))]), ([], []), [(.inr (some (.inl (ck_one 0))), 245, ([], [], [])), (.inr (some (.inl (ck_one 1))), 245, ([], [], [(226, 9, 9, (4, 400, [(1, 0)])), (226, 11, 11, (0, 396, []))]))])
set_option maxRecDepth 100000 in
theorem p2_s196_e : ck_ok p2_O none [] [] 250 [] 288 p2_s196 = true := by decide +kernel
theorem p2_s196_s {X : Int → Int} {LX : Nat} : ck_Ok p2_O X LX 250 p2_s196 := ck_ok_s ⟨p2_nmu, ck_E0⟩ ck_X0 ck_l0 p2_s196_e
set_option maxRecDepth 100000 in
/-- GlacierMailModel.figures -/
def p2_s197 : ck_Sum := ((2, 0, 0), 245, [.inr (.inr (.inl 226)), .inl (ck_one 0), .inl (ck_one 9), .inl (ck_one 4)], ([], [], [(226, 9, 9, (0, 400, [(1, 0)]))]), ([(226, 9, 9), (226, 11, 11)], []), [(.inr (some (.inl (ck_one (-1)))), 245, ([], [], [(226, 9, 9, (0, 400, [(1000001, 0)])), (226, 11, 11, (0, 400, [(1000001, 0)]))])), (.inr (some (.inl (0, 9, []))), 245, ([], [], [(226, 9, 9, (0, 400, [(1000001, 0)])), (226, 11, 11, (0, 400, [(1000001, 0)]))]))])
set_option maxRecDepth 100000 in
theorem p2_s197_e : ck_ok p2_O none [] [(245, [p2_s148]), (246, [p2_s161])] 256 [(7, [some (.inr (.inr (.inl 226))), some (.inl (ck_one 0)), some (.inl (ck_one 9)), some (.inl (ck_one 4)), some (.inl ((-2147483648), 2147483647, []))], ([], [], [(226, 11, 11, (0, 400, [(1000001, 0)])), (226, 9, 9, (0, 400, [(1000001, 0)]))]), 100, .inr (226, 9), true)] 222 p2_s197 = true := by decide +kernel
theorem p2_s197_s {X : Int → Int} {LX : Nat} : ck_Ok p2_O X LX 256 p2_s197 := ck_ok_s ⟨p2_nmu, ck_E1 (ck_S1 p2_s148_s ck_S0) (ck_E1 (ck_S1 p2_s161_s ck_S0) ck_E0)⟩ ck_X0 ck_l0 p2_s197_e
set_option maxRecDepth 100000 in
/-- GlacierMailModel.number -/
def p2_s198 : ck_Sum := ((3, 0, 0), 245, [.inr (.inr (.inl 226)), .inl (ck_one 0), .inl (ck_one 9)], ([], [], [(226, 9, 9, (0, 400, [(1, 0)]))]), ([(226, 9, 9), (226, 11, 11)], []), [(.inr (some (.inl (ck_one (-1)))), 245, ([], [], [(226, 9, 9, (0, 400, [(1000001, 0)])), (226, 11, 11, (0, 400, [(1000001, 0)]))])), (.inr (some (.inl (0, 9, []))), 245, ([], [], [(226, 9, 9, (0, 400, [(1000001, 0)])), (226, 11, 11, (0, 400, [(1000001, 0)]))]))])
set_option maxRecDepth 100000 in
theorem p2_s198_e : ck_ok p2_O none [] [(256, [p2_s197])] 255 [] 82 p2_s198 = true := by decide +kernel
theorem p2_s198_s {X : Int → Int} {LX : Nat} : ck_Ok p2_O X LX 255 p2_s198 := ck_ok_s ⟨p2_nmu, ck_E1 (ck_S1 p2_s197_s ck_S0) ck_E0⟩ ck_X0 ck_l0 p2_s198_e
set_option maxRecDepth 100000 in
/-- GlacierMailModel.after -/
def p2_s199 : ck_Sum := ((7, 0, 0), 245, [.inr (.inr (.inl 226)), .inr (.inr (.inr 51)), .inl (ck_one 0), .inl (ck_one 9)], ([], [], [(226, 9, 9, (0, 400, [(1, 0)]))]), ([(226, 9, 9), (226, 11, 11)], []), [(.inr (some (.inl (ck_one (-1)))), 245, ([], [], [(226, 9, 9, (0, 400, [(1000001, 0)])), (226, 11, 11, (0, 400, [(1000001, 0)]))])), (.inr (some (.inl (0, 9, []))), 245, ([], [], [(226, 9, 9, (4, 400, [(1000001, 0)])), (226, 11, 11, (4, 400, [(1000001, 0)]))]))])
set_option maxRecDepth 100000 in
theorem p2_s199_e : ck_ok p2_O none [] [(248, [p2_s150]), (250, [p2_s196]), (255, [p2_s198])] 264 [] 94 p2_s199 = true := by decide +kernel
theorem p2_s199_s {X : Int → Int} {LX : Nat} : ck_Ok p2_O X LX 264 p2_s199 := ck_ok_s ⟨p2_nmu, ck_E1 (ck_S1 p2_s150_s ck_S0) (ck_E1 (ck_S1 p2_s196_s ck_S0) (ck_E1 (ck_S1 p2_s198_s ck_S0) ck_E0))⟩ ck_X0 ck_l0 p2_s199_e
set_option maxRecDepth 100000 in
/-- GlacierMailModel.readSnow -/
def p2_s200 : ck_Sum := ((8, 0, 0), 245, [.inr (.inr (.inl 226))], ([], [], [(226, 9, 9, (0, 400, [(1, 0)]))]), ([(226, 9, 9), (226, 11, 11), (227, 10, 11)], []), [(.inr (some (.inl (ck_one 0))), 245, ([], [], [(226, 9, 9, (0, 400, [(1000001, 0)])), (226, 11, 11, (0, 400, [(1000001, 0)]))])), (.inr (some (.inl (ck_one 1))), 245, ([], [], [(226, 9, 9, (4, 400, [(1000001, 0)])), (226, 11, 11, (4, 400, [(1000001, 0)]))]))])
set_option maxRecDepth 100000 in
theorem p2_s200_e : ck_ok p2_O none [] [(263, [p2_s183]), (264, [p2_s199])] 262 [] 120 p2_s200 = true := by decide +kernel
theorem p2_s200_s {X : Int → Int} {LX : Nat} : ck_Ok p2_O X LX 262 p2_s200 := ck_ok_s ⟨p2_nmu, ck_E1 (ck_S1 p2_s183_s ck_S0) (ck_E1 (ck_S1 p2_s199_s ck_S0) ck_E0)⟩ ck_X0 ck_l0 p2_s200_e
set_option maxRecDepth 100000 in
/-- GlacierMailModel.figures -/
def p2_s201 : ck_Sum := ((2, 0, 0), 245, [.inr (.inr (.inl 226)), .inl (ck_one 0), .inl (ck_one 0), .inl (ck_one 4)], ([], [], [(226, 9, 9, (0, 400, [(1, 0)]))]), ([(226, 9, 9), (226, 11, 11)], []), [(.inr (some (.inl (ck_one (-1)))), 245, ([], [], [(226, 9, 9, (0, 400, [(1000001, 0)])), (226, 11, 11, (0, 400, [(1000001, 0)]))])), (.inr (some (.inl (ck_one 0))), 245, ([], [], [(226, 9, 9, (0, 400, [(1000001, 0)])), (226, 11, 11, (0, 400, [(1000001, 0)]))]))])
set_option maxRecDepth 100000 in
theorem p2_s201_e : ck_ok p2_O none [] [(245, [p2_s148]), (246, [p2_s161])] 256 [(7, [some (.inr (.inr (.inl 226))), some (.inl (ck_one 0)), some (.inl (ck_one 0)), some (.inl (ck_one 4)), some (.inl ((-2147483648), 2147483647, []))], ([], [], [(226, 11, 11, (0, 400, [(1000001, 0)])), (226, 9, 9, (0, 400, [(1000001, 0)]))]), 100, .inr (226, 9), true)] 222 p2_s201 = true := by decide +kernel
theorem p2_s201_s {X : Int → Int} {LX : Nat} : ck_Ok p2_O X LX 256 p2_s201 := ck_ok_s ⟨p2_nmu, ck_E1 (ck_S1 p2_s148_s ck_S0) (ck_E1 (ck_S1 p2_s161_s ck_S0) ck_E0)⟩ ck_X0 ck_l0 p2_s201_e
set_option maxRecDepth 100000 in
/-- GlacierMailModel.number -/
def p2_s202 : ck_Sum := ((3, 0, 0), 245, [.inr (.inr (.inl 226)), .inl (ck_one 0), .inl (ck_one 0)], ([], [], [(226, 9, 9, (0, 400, [(1, 0)]))]), ([(226, 9, 9), (226, 11, 11)], []), [(.inr (some (.inl (ck_one (-1)))), 245, ([], [], [(226, 9, 9, (0, 400, [(1000001, 0)])), (226, 11, 11, (0, 400, [(1000001, 0)]))])), (.inr (some (.inl (ck_one 0))), 245, ([], [], [(226, 9, 9, (0, 400, [(1000001, 0)])), (226, 11, 11, (0, 400, [(1000001, 0)]))]))])
set_option maxRecDepth 100000 in
theorem p2_s202_e : ck_ok p2_O none [] [(256, [p2_s201])] 255 [] 82 p2_s202 = true := by decide +kernel
theorem p2_s202_s {X : Int → Int} {LX : Nat} : ck_Ok p2_O X LX 255 p2_s202 := ck_ok_s ⟨p2_nmu, ck_E1 (ck_S1 p2_s201_s ck_S0) ck_E0⟩ ck_X0 ck_l0 p2_s202_e
set_option maxRecDepth 100000 in
/-- GlacierMailModel.figures -/
def p2_s203 : ck_Sum := ((2, 0, 0), 245, [.inr (.inr (.inl 226)), .inl (1, 99, []), .inl ((-1), 98, []), .inl (ck_one 4)], ([], [], [(226, 9, 9, (0, 400, [(1, 0)]))]), ([(226, 9, 9), (226, 11, 11)], []), [(.inr (some (.inl (ck_one (-1)))), 245, ([], [], [(226, 9, 9, (0, 400, [(1000001, 0)])), (226, 11, 11, (0, 400, [(1000001, 0)]))])), (.inr (some (.inl (1, 98, []))), 245, ([], [], [(226, 9, 9, (0, 400, [(1000001, 0)])), (226, 11, 11, (0, 400, [(1000001, 0)]))]))])
set_option maxRecDepth 100000 in
theorem p2_s203_e : ck_ok p2_O none [] [(245, [p2_s148]), (246, [p2_s161])] 256 [(7, [some (.inr (.inr (.inl 226))), some (.inl (1, 99, [])), some (.inl ((-1), 98, [])), some (.inl (ck_one 4)), some (.inl ((-2147483648), 2147483647, []))], ([], [], [(226, 11, 11, (0, 400, [(1000001, 0)])), (226, 9, 9, (0, 400, [(1000001, 0)]))]), 100, .inr (226, 9), true)] 222 p2_s203 = true := by decide +kernel
theorem p2_s203_s {X : Int → Int} {LX : Nat} : ck_Ok p2_O X LX 256 p2_s203 := ck_ok_s ⟨p2_nmu, ck_E1 (ck_S1 p2_s148_s ck_S0) (ck_E1 (ck_S1 p2_s161_s ck_S0) ck_E0)⟩ ck_X0 ck_l0 p2_s203_e
set_option maxRecDepth 100000 in
/-- GlacierMailModel.number -/
def p2_s204 : ck_Sum := ((3, 0, 0), 245, [.inr (.inr (.inl 226)), .inl (1, 99, []), .inl ((-1), 98, [])], ([], [], [(226, 9, 9, (0, 400, [(1, 0)]))]), ([(226, 9, 9), (226, 11, 11)], []), [(.inr (some (.inl (ck_one (-1)))), 245, ([], [], [(226, 9, 9, (0, 400, [(1000001, 0)])), (226, 11, 11, (0, 400, [(1000001, 0)]))])), (.inr (some (.inl (1, 98, []))), 245, ([], [], [(226, 9, 9, (0, 400, [(1000001, 0)])), (226, 11, 11, (0, 400, [(1000001, 0)]))]))])
set_option maxRecDepth 100000 in
theorem p2_s204_e : ck_ok p2_O none [] [(256, [p2_s203])] 255 [] 82 p2_s204 = true := by decide +kernel
theorem p2_s204_s {X : Int → Int} {LX : Nat} : ck_Ok p2_O X LX 255 p2_s204 := ck_ok_s ⟨p2_nmu, ck_E1 (ck_S1 p2_s203_s ck_S0) ck_E0⟩ ck_X0 ck_l0 p2_s204_e
set_option maxRecDepth 100000 in
/-- GlacierMailModel.figures -/
def p2_s205 : ck_Sum := ((2, 0, 0), 245, [.inr (.inr (.inl 226)), .inl (ck_one 1), .inl ((-1), 98, []), .inl (ck_one 4)], ([], [], [(226, 9, 9, (0, 400, [(1, 0)]))]), ([(226, 9, 9), (226, 11, 11)], []), [(.inr (some (.inl (ck_one (-1)))), 245, ([], [], [(226, 9, 9, (0, 400, [(1000001, 0)])), (226, 11, 11, (0, 400, [(1000001, 0)]))])), (.inr (some (.inl (1, 98, []))), 245, ([], [], [(226, 9, 9, (0, 400, [(1000001, 0)])), (226, 11, 11, (0, 400, [(1000001, 0)]))]))])
set_option maxRecDepth 100000 in
theorem p2_s205_e : ck_ok p2_O none [] [(245, [p2_s148]), (246, [p2_s161])] 256 [(7, [some (.inr (.inr (.inl 226))), some (.inl (ck_one 1)), some (.inl ((-1), 98, [])), some (.inl (ck_one 4)), some (.inl ((-2147483648), 2147483647, []))], ([], [], [(226, 11, 11, (0, 400, [(1000001, 0)])), (226, 9, 9, (0, 400, [(1000001, 0)]))]), 100, .inr (226, 9), true)] 222 p2_s205 = true := by decide +kernel
theorem p2_s205_s {X : Int → Int} {LX : Nat} : ck_Ok p2_O X LX 256 p2_s205 := ck_ok_s ⟨p2_nmu, ck_E1 (ck_S1 p2_s148_s ck_S0) (ck_E1 (ck_S1 p2_s161_s ck_S0) ck_E0)⟩ ck_X0 ck_l0 p2_s205_e
set_option maxRecDepth 100000 in
/-- GlacierMailModel.number -/
def p2_s206 : ck_Sum := ((3, 0, 0), 245, [.inr (.inr (.inl 226)), .inl (ck_one 1), .inl ((-1), 98, [])], ([], [], [(226, 9, 9, (0, 400, [(1, 0)]))]), ([(226, 9, 9), (226, 11, 11)], []), [(.inr (some (.inl (ck_one (-1)))), 245, ([], [], [(226, 9, 9, (0, 400, [(1000001, 0)])), (226, 11, 11, (0, 400, [(1000001, 0)]))])), (.inr (some (.inl (1, 98, []))), 245, ([], [], [(226, 9, 9, (0, 400, [(1000001, 0)])), (226, 11, 11, (0, 400, [(1000001, 0)]))]))])
set_option maxRecDepth 100000 in
theorem p2_s206_e : ck_ok p2_O none [] [(256, [p2_s205])] 255 [] 82 p2_s206 = true := by decide +kernel
theorem p2_s206_s {X : Int → Int} {LX : Nat} : ck_Ok p2_O X LX 255 p2_s206 := ck_ok_s ⟨p2_nmu, ck_E1 (ck_S1 p2_s205_s ck_S0) ck_E0⟩ ck_X0 ck_l0 p2_s206_e
set_option maxRecDepth 100000 in
/-- GlacierMailModel.readSpeeds -/
def p2_s207 : ck_Sum := ((4, 0, 0), 245, [.inr (.inr (.inl 226)), .inl (ck_one 16)], ([], [], [(226, 9, 9, (0, 400, [(1, 0)]))]), ([(226, 9, 9), (226, 11, 11), (227, 16, 21)], []), [(.inr (some (.inl (ck_one 1))), 245, ([], [], [(226, 9, 9, (0, 400, [(1000001, 0)]))])), (.inr (some (.inl (ck_one 0))), 245, ([], [], [(226, 9, 9, (0, 400, [(1000001, 0)])), (226, 11, 11, (0, 400, [(1000001, 0)]))]))])
set_option maxRecDepth 100000 in
theorem p2_s207_e : ck_ok p2_O none [] [(261, [p2_s166]), (255, [p2_s168])] 260 [(2, [some (.inr (.inr (.inl 226))), some (.inl (ck_one 16)), some (.inl (0, 6, [])), none], ([], [], [(226, 9, 9, (0, 400, [(1000001, 0)]))]), 100, .inl 2, true)] 174 p2_s207 = true := by decide +kernel
theorem p2_s207_s {X : Int → Int} {LX : Nat} : ck_Ok p2_O X LX 260 p2_s207 := ck_ok_s ⟨p2_nmu, ck_E1 (ck_S1 p2_s166_s ck_S0) (ck_E1 (ck_S1 p2_s168_s ck_S0) ck_E0)⟩ ck_X0 ck_l0 p2_s207_e
set_option maxRecDepth 100000 in
/-- GlacierMailModel.readSpeeds -/
def p2_s208 : ck_Sum := ((4, 0, 0), 245, [.inr (.inr (.inl 226)), .inl (ck_one 65)], ([], [], [(226, 9, 9, (0, 400, [(1, 0)]))]), ([(226, 9, 9), (226, 11, 11), (227, 65, 70)], []), [(.inr (some (.inl (ck_one 1))), 245, ([], [], [(226, 9, 9, (0, 400, [(1000001, 0)]))])), (.inr (some (.inl (ck_one 0))), 245, ([], [], [(226, 9, 9, (0, 400, [(1000001, 0)])), (226, 11, 11, (0, 400, [(1000001, 0)]))]))])
set_option maxRecDepth 100000 in
theorem p2_s208_e : ck_ok p2_O none [] [(261, [p2_s166]), (255, [p2_s168])] 260 [(2, [some (.inr (.inr (.inl 226))), some (.inl (ck_one 65)), some (.inl (0, 6, [])), none], ([], [], [(226, 9, 9, (0, 400, [(1000001, 0)]))]), 100, .inl 2, true)] 174 p2_s208 = true := by decide +kernel
theorem p2_s208_s {X : Int → Int} {LX : Nat} : ck_Ok p2_O X LX 260 p2_s208 := ck_ok_s ⟨p2_nmu, ck_E1 (ck_S1 p2_s166_s ck_S0) (ck_E1 (ck_S1 p2_s168_s ck_S0) ck_E0)⟩ ck_X0 ck_l0 p2_s208_e
set_option maxRecDepth 100000 in
/-- GlacierMailModel.readSpeeds -/
def p2_s209 : ck_Sum := ((4, 0, 0), 245, [.inr (.inr (.inl 226)), .inl (ck_one 58)], ([], [], [(226, 9, 9, (0, 400, [(1, 0)]))]), ([(226, 9, 9), (226, 11, 11), (227, 58, 63)], []), [(.inr (some (.inl (ck_one 1))), 245, ([], [], [(226, 9, 9, (0, 400, [(1000001, 0)]))])), (.inr (some (.inl (ck_one 0))), 245, ([], [], [(226, 9, 9, (0, 400, [(1000001, 0)])), (226, 11, 11, (0, 400, [(1000001, 0)]))]))])
set_option maxRecDepth 100000 in
theorem p2_s209_e : ck_ok p2_O none [] [(261, [p2_s166]), (255, [p2_s168])] 260 [(2, [some (.inr (.inr (.inl 226))), some (.inl (ck_one 58)), some (.inl (0, 6, [])), none], ([], [], [(226, 9, 9, (0, 400, [(1000001, 0)]))]), 100, .inl 2, true)] 174 p2_s209 = true := by decide +kernel
theorem p2_s209_s {X : Int → Int} {LX : Nat} : ck_Ok p2_O X LX 260 p2_s209 := ck_ok_s ⟨p2_nmu, ck_E1 (ck_S1 p2_s166_s ck_S0) (ck_E1 (ck_S1 p2_s168_s ck_S0) ck_E0)⟩ ck_X0 ck_l0 p2_s209_e
set_option maxRecDepth 100000 in
/-- GlacierMailModel.readSpeeds -/
def p2_s210 : ck_Sum := ((4, 0, 0), 245, [.inr (.inr (.inl 226)), .inl (ck_one 51)], ([], [], [(226, 9, 9, (0, 400, [(1, 0)]))]), ([(226, 9, 9), (226, 11, 11), (227, 51, 56)], []), [(.inr (some (.inl (ck_one 1))), 245, ([], [], [(226, 9, 9, (0, 400, [(1000001, 0)]))])), (.inr (some (.inl (ck_one 0))), 245, ([], [], [(226, 9, 9, (0, 400, [(1000001, 0)])), (226, 11, 11, (0, 400, [(1000001, 0)]))]))])
set_option maxRecDepth 100000 in
theorem p2_s210_e : ck_ok p2_O none [] [(261, [p2_s166]), (255, [p2_s168])] 260 [(2, [some (.inr (.inr (.inl 226))), some (.inl (ck_one 51)), some (.inl (0, 6, [])), none], ([], [], [(226, 9, 9, (0, 400, [(1000001, 0)]))]), 100, .inl 2, true)] 174 p2_s210 = true := by decide +kernel
theorem p2_s210_s {X : Int → Int} {LX : Nat} : ck_Ok p2_O X LX 260 p2_s210 := ck_ok_s ⟨p2_nmu, ck_E1 (ck_S1 p2_s166_s ck_S0) (ck_E1 (ck_S1 p2_s168_s ck_S0) ck_E0)⟩ ck_X0 ck_l0 p2_s210_e
set_option maxRecDepth 100000 in
/-- GlacierMailModel.readSpeeds -/
def p2_s211 : ck_Sum := ((4, 0, 0), 245, [.inr (.inr (.inl 226)), .inl (ck_one 44)], ([], [], [(226, 9, 9, (0, 400, [(1, 0)]))]), ([(226, 9, 9), (226, 11, 11), (227, 44, 49)], []), [(.inr (some (.inl (ck_one 1))), 245, ([], [], [(226, 9, 9, (0, 400, [(1000001, 0)]))])), (.inr (some (.inl (ck_one 0))), 245, ([], [], [(226, 9, 9, (0, 400, [(1000001, 0)])), (226, 11, 11, (0, 400, [(1000001, 0)]))]))])
set_option maxRecDepth 100000 in
theorem p2_s211_e : ck_ok p2_O none [] [(261, [p2_s166]), (255, [p2_s168])] 260 [(2, [some (.inr (.inr (.inl 226))), some (.inl (ck_one 44)), some (.inl (0, 6, [])), none], ([], [], [(226, 9, 9, (0, 400, [(1000001, 0)]))]), 100, .inl 2, true)] 174 p2_s211 = true := by decide +kernel
theorem p2_s211_s {X : Int → Int} {LX : Nat} : ck_Ok p2_O X LX 260 p2_s211 := ck_ok_s ⟨p2_nmu, ck_E1 (ck_S1 p2_s166_s ck_S0) (ck_E1 (ck_S1 p2_s168_s ck_S0) ck_E0)⟩ ck_X0 ck_l0 p2_s211_e
set_option maxRecDepth 100000 in
/-- GlacierMailModel.readSpeeds -/
def p2_s212 : ck_Sum := ((4, 0, 0), 245, [.inr (.inr (.inl 226)), .inl (ck_one 37)], ([], [], [(226, 9, 9, (0, 400, [(1, 0)]))]), ([(226, 9, 9), (226, 11, 11), (227, 37, 42)], []), [(.inr (some (.inl (ck_one 1))), 245, ([], [], [(226, 9, 9, (0, 400, [(1000001, 0)]))])), (.inr (some (.inl (ck_one 0))), 245, ([], [], [(226, 9, 9, (0, 400, [(1000001, 0)])), (226, 11, 11, (0, 400, [(1000001, 0)]))]))])
set_option maxRecDepth 100000 in
theorem p2_s212_e : ck_ok p2_O none [] [(261, [p2_s166]), (255, [p2_s168])] 260 [(2, [some (.inr (.inr (.inl 226))), some (.inl (ck_one 37)), some (.inl (0, 6, [])), none], ([], [], [(226, 9, 9, (0, 400, [(1000001, 0)]))]), 100, .inl 2, true)] 174 p2_s212 = true := by decide +kernel
theorem p2_s212_s {X : Int → Int} {LX : Nat} : ck_Ok p2_O X LX 260 p2_s212 := ck_ok_s ⟨p2_nmu, ck_E1 (ck_S1 p2_s166_s ck_S0) (ck_E1 (ck_S1 p2_s168_s ck_S0) ck_E0)⟩ ck_X0 ck_l0 p2_s212_e
set_option maxRecDepth 100000 in
/-- GlacierMailModel.readSpeeds -/
def p2_s213 : ck_Sum := ((4, 0, 0), 245, [.inr (.inr (.inl 226)), .inl (ck_one 30)], ([], [], [(226, 9, 9, (0, 400, [(1, 0)]))]), ([(226, 9, 9), (226, 11, 11), (227, 30, 35)], []), [(.inr (some (.inl (ck_one 1))), 245, ([], [], [(226, 9, 9, (0, 400, [(1000001, 0)]))])), (.inr (some (.inl (ck_one 0))), 245, ([], [], [(226, 9, 9, (0, 400, [(1000001, 0)])), (226, 11, 11, (0, 400, [(1000001, 0)]))]))])
set_option maxRecDepth 100000 in
theorem p2_s213_e : ck_ok p2_O none [] [(261, [p2_s166]), (255, [p2_s168])] 260 [(2, [some (.inr (.inr (.inl 226))), some (.inl (ck_one 30)), some (.inl (0, 6, [])), none], ([], [], [(226, 9, 9, (0, 400, [(1000001, 0)]))]), 100, .inl 2, true)] 174 p2_s213 = true := by decide +kernel
theorem p2_s213_s {X : Int → Int} {LX : Nat} : ck_Ok p2_O X LX 260 p2_s213 := ck_ok_s ⟨p2_nmu, ck_E1 (ck_S1 p2_s166_s ck_S0) (ck_E1 (ck_S1 p2_s168_s ck_S0) ck_E0)⟩ ck_X0 ck_l0 p2_s213_e
set_option maxRecDepth 100000 in
/-- GlacierMailModel.readSpeeds -/
def p2_s214 : ck_Sum := ((4, 0, 0), 245, [.inr (.inr (.inl 226)), .inl (ck_one 23)], ([], [], [(226, 9, 9, (0, 400, [(1, 0)]))]), ([(226, 9, 9), (226, 11, 11), (227, 23, 28)], []), [(.inr (some (.inl (ck_one 1))), 245, ([], [], [(226, 9, 9, (0, 400, [(1000001, 0)]))])), (.inr (some (.inl (ck_one 0))), 245, ([], [], [(226, 9, 9, (0, 400, [(1000001, 0)])), (226, 11, 11, (0, 400, [(1000001, 0)]))]))])
set_option maxRecDepth 100000 in
theorem p2_s214_e : ck_ok p2_O none [] [(261, [p2_s166]), (255, [p2_s168])] 260 [(2, [some (.inr (.inr (.inl 226))), some (.inl (ck_one 23)), some (.inl (0, 6, [])), none], ([], [], [(226, 9, 9, (0, 400, [(1000001, 0)]))]), 100, .inl 2, true)] 174 p2_s214 = true := by decide +kernel
theorem p2_s214_s {X : Int → Int} {LX : Nat} : ck_Ok p2_O X LX 260 p2_s214 := ck_ok_s ⟨p2_nmu, ck_E1 (ck_S1 p2_s166_s ck_S0) (ck_E1 (ck_S1 p2_s168_s ck_S0) ck_E0)⟩ ck_X0 ck_l0 p2_s214_e
set_option maxRecDepth 100000 in
/-- GlacierMailModel.readSection -/
def p2_s215 : ck_Sum := ((5, 0, 0), 245, [.inr (.inr (.inl 226))], ([], [], [(227, 2, 2, (0, 8, [(20, 0)])), (226, 9, 9, (0, 400, [(1, 0)]))]), ([(226, 9, 9), (226, 11, 11), (227, 2, 2), (227, 15, 70)], []), [(.inr (some (.inl (ck_one 0))), 245, ([], [], [(226, 9, 9, (0, 400, [(1000001, 0)])), (227, 2, 2, (0, 8, [(20, 0)]))])), (.inr (some (.inl (ck_one 1))), 245, ([], [], [(227, 2, 2, (1, 8, [])), (226, 9, 9, (0, 400, [(1000001, 0)]))]))])
set_option maxRecDepth 100000 in
theorem p2_s215_e : ck_ok p2_O none [] [(255, [p2_s202, p2_s204, p2_s206]), (260, [p2_s207, p2_s208, p2_s209, p2_s210, p2_s211, p2_s212, p2_s213, p2_s214]), (259, [p2_s180])] 258 [] 178 p2_s215 = true := by decide +kernel
theorem p2_s215_s {X : Int → Int} {LX : Nat} : ck_Ok p2_O X LX 258 p2_s215 := ck_ok_s ⟨p2_nmu, ck_E1 (ck_S1 p2_s202_s (ck_S1 p2_s204_s (ck_S1 p2_s206_s ck_S0))) (ck_E1 (ck_S1 p2_s207_s (ck_S1 p2_s208_s (ck_S1 p2_s209_s (ck_S1 p2_s210_s (ck_S1 p2_s211_s (ck_S1 p2_s212_s (ck_S1 p2_s213_s (ck_S1 p2_s214_s ck_S0)))))))) (ck_E1 (ck_S1 p2_s180_s ck_S0) ck_E0))⟩ ck_X0 ck_l0 p2_s215_e
set_option maxRecDepth 100000 in
/-- GlacierMailModel.isEmpty -/
def p2_s216 : ck_Sum := ((1, 0, 0), 245, [.inr (.inr (.inl 226))], ([], [], [(227, 2, 2, (0, 8, [(20, 0)])), (227, 3, 3, (0, 8, [(21, 0)])), (227, 4, 4, (0, 24, [(22, 0)])), (227, 5, 5, (0, 8, [(23, 0)])), (227, 6, 6, (0, 6, [(24, 0)]))]), ([], []), [(.inr (some (.inl (ck_one 0))), 245, ([], [], [])), (.inr (some (.inl (ck_one 1))), 245, ([], [], []))])
set_option maxRecDepth 100000 in
theorem p2_s216_e : ck_ok p2_O none [] [(253, [p2_s186]), (254, [p2_s176])] 252 [] 118 p2_s216 = true := by decide +kernel
theorem p2_s216_s {X : Int → Int} {LX : Nat} : ck_Ok p2_O X LX 252 p2_s216 := ck_ok_s ⟨p2_nmu, ck_E1 (ck_S1 p2_s186_s ck_S0) (ck_E1 (ck_S1 p2_s176_s ck_S0) ck_E0)⟩ ck_X0 ck_l0 p2_s216_e
set_option maxRecDepth 100000 in
/-- GlacierMailModel.figures -/
def p2_s217 : ck_Sum := ((2, 0, 0), 245, [.inr (.inr (.inl 226)), .inl (ck_one 10), .inl (ck_one 99), .inl (ck_one 4)], ([], [], [(226, 9, 9, (0, 400, [(1, 0)]))]), ([(226, 9, 9), (226, 11, 11)], []), [(.inr (some (.inl (ck_one (-1)))), 245, ([], [], [(226, 9, 9, (0, 400, [(1000001, 0)])), (226, 11, 11, (0, 400, [(1000001, 0)]))])), (.inr (some (.inl (10, 99, []))), 245, ([], [], [(226, 9, 9, (0, 400, [(1000001, 0)])), (226, 11, 11, (0, 400, [(1000001, 0)]))]))])
set_option maxRecDepth 100000 in
theorem p2_s217_e : ck_ok p2_O none [] [(245, [p2_s148]), (246, [p2_s161])] 256 [(7, [some (.inr (.inr (.inl 226))), some (.inl (ck_one 10)), some (.inl (ck_one 99)), some (.inl (ck_one 4)), some (.inl ((-2147483648), 2147483647, []))], ([], [], [(226, 11, 11, (0, 400, [(1000001, 0)])), (226, 9, 9, (0, 400, [(1000001, 0)]))]), 100, .inr (226, 9), true)] 222 p2_s217 = true := by decide +kernel
theorem p2_s217_s {X : Int → Int} {LX : Nat} : ck_Ok p2_O X LX 256 p2_s217 := ck_ok_s ⟨p2_nmu, ck_E1 (ck_S1 p2_s148_s ck_S0) (ck_E1 (ck_S1 p2_s161_s ck_S0) ck_E0)⟩ ck_X0 ck_l0 p2_s217_e
set_option maxRecDepth 100000 in
/-- GlacierMailModel.number -/
def p2_s218 : ck_Sum := ((3, 0, 0), 245, [.inr (.inr (.inl 226)), .inl (ck_one 10), .inl (ck_one 99)], ([], [], [(226, 9, 9, (0, 400, [(1, 0)]))]), ([(226, 9, 9), (226, 11, 11)], []), [(.inr (some (.inl (ck_one (-1)))), 245, ([], [], [(226, 9, 9, (0, 400, [(1000001, 0)])), (226, 11, 11, (0, 400, [(1000001, 0)]))])), (.inr (some (.inl (10, 99, []))), 245, ([], [], [(226, 9, 9, (0, 400, [(1000001, 0)])), (226, 11, 11, (0, 400, [(1000001, 0)]))]))])
set_option maxRecDepth 100000 in
theorem p2_s218_e : ck_ok p2_O none [] [(256, [p2_s217])] 255 [] 82 p2_s218 = true := by decide +kernel
theorem p2_s218_s {X : Int → Int} {LX : Nat} : ck_Ok p2_O X LX 255 p2_s218 := ck_ok_s ⟨p2_nmu, ck_E1 (ck_S1 p2_s217_s ck_S0) ck_E0⟩ ck_X0 ck_l0 p2_s218_e
set_option maxRecDepth 100000 in
/-- GlacierMailModel.readLast -/
def p2_s219 : ck_Sum := ((4, 0, 0), 245, [.inr (.inr (.inl 226))], ([], [], [(227, 2, 2, (0, 8, [(20, 0)])), (227, 3, 3, (0, 8, [(21, 0)])), (227, 4, 4, (0, 24, [(22, 0)])), (227, 5, 5, (0, 8, [(23, 0)])), (227, 6, 6, (0, 6, [(24, 0)])), (226, 9, 9, (0, 400, [(1, 0)]))]), ([(226, 9, 9), (226, 11, 11), (227, 1, 1), (227, 10, 10)], []), [(.inr (some (.inl (ck_one 0))), 245, ([], [], [(226, 9, 9, (0, 400, [(1000001, 0)]))])), (.inr (some (.inl (ck_one 1))), 245, ([], [], [(227, 10, 10, ck_one 10), (227, 1, 1, (10, 99, [])), (226, 9, 9, (0, 400, [(1000001, 0)])), (226, 11, 11, (0, 400, [(1000001, 0)]))]))])
set_option maxRecDepth 100000 in
theorem p2_s219_e : ck_ok p2_O none [] [(252, [p2_s216]), (255, [p2_s218])] 257 [] 114 p2_s219 = true := by decide +kernel
theorem p2_s219_s {X : Int → Int} {LX : Nat} : ck_Ok p2_O X LX 257 p2_s219 := ck_ok_s ⟨p2_nmu, ck_E1 (ck_S1 p2_s216_s ck_S0) (ck_E1 (ck_S1 p2_s218_s ck_S0) ck_E0)⟩ ck_X0 ck_l0 p2_s219_e
set_option maxRecDepth 100000 in
/-- GlacierMailModel.figures -/
def p2_s220 : ck_Sum := ((2, 0, 0), 245, [.inr (.inr (.inl 226)), .inl (ck_one 1), .inl (ck_one 6), .inl (ck_one 4)], ([], [], [(226, 9, 9, (0, 400, [(1, 0)]))]), ([(226, 9, 9), (226, 11, 11)], []), [(.inr (some (.inl (ck_one (-1)))), 245, ([], [], [(226, 9, 9, (0, 400, [(1000001, 0)])), (226, 11, 11, (0, 400, [(1000001, 0)]))])), (.inr (some (.inl (1, 6, []))), 245, ([], [], [(226, 9, 9, (0, 400, [(1000001, 0)])), (226, 11, 11, (0, 400, [(1000001, 0)]))]))])
set_option maxRecDepth 100000 in
theorem p2_s220_e : ck_ok p2_O none [] [(245, [p2_s148]), (246, [p2_s161])] 256 [(7, [some (.inr (.inr (.inl 226))), some (.inl (ck_one 1)), some (.inl (ck_one 6)), some (.inl (ck_one 4)), some (.inl ((-2147483648), 2147483647, []))], ([], [], [(226, 11, 11, (0, 400, [(1000001, 0)])), (226, 9, 9, (0, 400, [(1000001, 0)]))]), 100, .inr (226, 9), true)] 222 p2_s220 = true := by decide +kernel
theorem p2_s220_s {X : Int → Int} {LX : Nat} : ck_Ok p2_O X LX 256 p2_s220 := ck_ok_s ⟨p2_nmu, ck_E1 (ck_S1 p2_s148_s ck_S0) (ck_E1 (ck_S1 p2_s161_s ck_S0) ck_E0)⟩ ck_X0 ck_l0 p2_s220_e
set_option maxRecDepth 100000 in
/-- GlacierMailModel.number -/
def p2_s221 : ck_Sum := ((3, 0, 0), 245, [.inr (.inr (.inl 226)), .inl (ck_one 1), .inl (ck_one 6)], ([], [], [(226, 9, 9, (0, 400, [(1, 0)]))]), ([(226, 9, 9), (226, 11, 11)], []), [(.inr (some (.inl (ck_one (-1)))), 245, ([], [], [(226, 9, 9, (0, 400, [(1000001, 0)])), (226, 11, 11, (0, 400, [(1000001, 0)]))])), (.inr (some (.inl (1, 6, []))), 245, ([], [], [(226, 9, 9, (0, 400, [(1000001, 0)])), (226, 11, 11, (0, 400, [(1000001, 0)]))]))])
set_option maxRecDepth 100000 in
theorem p2_s221_e : ck_ok p2_O none [] [(256, [p2_s220])] 255 [] 82 p2_s221 = true := by decide +kernel
theorem p2_s221_s {X : Int → Int} {LX : Nat} : ck_Ok p2_O X LX 255 p2_s221 := ck_ok_s ⟨p2_nmu, ck_E1 (ck_S1 p2_s220_s ck_S0) ck_E0⟩ ck_X0 ck_l0 p2_s221_e
set_option maxRecDepth 100000 in
/-- GlacierMailModel.readLanes -/
def p2_s222 : ck_Sum := ((4, 0, 0), 245, [.inr (.inr (.inl 226))], ([], [], [(227, 2, 2, (0, 8, [(20, 0)])), (227, 3, 3, (0, 8, [(21, 0)])), (227, 4, 4, (0, 24, [(22, 0)])), (227, 5, 5, (0, 8, [(23, 0)])), (227, 6, 6, (0, 6, [(24, 0)])), (226, 9, 9, (0, 400, [(1, 0)]))]), ([(226, 9, 9), (226, 11, 11), (227, 0, 0), (227, 12, 12)], []), [(.inr (some (.inl (ck_one 0))), 245, ([], [], [(226, 9, 9, (0, 400, [(1000001, 0)]))])), (.inr (some (.inl (ck_one 1))), 245, ([], [], [(227, 12, 12, (1, 6, [])), (227, 0, 0, (1, 6, [])), (226, 9, 9, (0, 400, [(1000001, 0)])), (226, 11, 11, (0, 400, [(1000001, 0)]))]))])
set_option maxRecDepth 100000 in
theorem p2_s222_e : ck_ok p2_O none [] [(252, [p2_s216]), (255, [p2_s221])] 251 [] 114 p2_s222 = true := by decide +kernel
theorem p2_s222_s {X : Int → Int} {LX : Nat} : ck_Ok p2_O X LX 251 p2_s222 := ck_ok_s ⟨p2_nmu, ck_E1 (ck_S1 p2_s216_s ck_S0) (ck_E1 (ck_S1 p2_s221_s ck_S0) ck_E0)⟩ ck_X0 ck_l0 p2_s222_e
set_option maxRecDepth 100000 in
/-- GlacierMailModel.readValleyLine -/
def p2_s223 : ck_Sum := ((9, 0, 0), 245, [.inr (.inr (.inl 226))], ([], [], [(227, 2, 2, (0, 8, [(20, 0)])), (227, 3, 3, (0, 8, [(21, 0)])), (227, 4, 4, (0, 24, [(22, 0)])), (227, 5, 5, (0, 8, [(23, 0)])), (227, 6, 6, (0, 6, [(24, 0)])), (226, 9, 9, (0, 400, [(1, 0)])), (227, 9, 9, (0, 299, [(11, 0)]))]), ([(226, 9, 9), (226, 11, 11), (227, 0, 6), (227, 10, 13), (227, 15, 322)], []), [(.inr (some (.inl (ck_one 0))), 245, ([], [], [(227, 2, 2, (0, 8, [(20, 0)])), (227, 3, 3, (0, 8, [(21, 0)])), (227, 4, 4, (0, 24, [(22, 0)])), (227, 5, 5, (0, 8, [(23, 0)])), (227, 6, 6, (0, 6, [(24, 0)])), (226, 9, 9, (0, 400, [(1000001, 0)]))])), (.inr (some (.inl (ck_one 1))), 245, ([], [], [(226, 9, 9, (4, 400, [(1000001, 0)])), (227, 4, 4, (0, 24, [(1000022, 0)]))]))])
set_option maxRecDepth 100000 in
theorem p2_s223_e : ck_ok p2_O none [] [(250, [p2_s151, p2_s152, p2_s153, p2_s154, p2_s155, p2_s156, p2_s157, p2_s158, p2_s159, p2_s160]), (255, [p2_s163, p2_s165]), (261, [p2_s166]), (273, [p2_s175]), (270, [p2_s185]), (267, [p2_s189]), (265, [p2_s195]), (262, [p2_s200]), (258, [p2_s215]), (257, [p2_s219]), (251, [p2_s222])] 249 [] 192 p2_s223 = true := by decide +kernel
theorem p2_s223_s {X : Int → Int} {LX : Nat} : ck_Ok p2_O X LX 249 p2_s223 := ck_ok_s ⟨p2_nmu, ck_E1 (ck_S1 p2_s151_s (ck_S1 p2_s152_s (ck_S1 p2_s153_s (ck_S1 p2_s154_s (ck_S1 p2_s155_s (ck_S1 p2_s156_s (ck_S1 p2_s157_s (ck_S1 p2_s158_s (ck_S1 p2_s159_s (ck_S1 p2_s160_s ck_S0)))))))))) (ck_E1 (ck_S1 p2_s163_s (ck_S1 p2_s165_s ck_S0)) (ck_E1 (ck_S1 p2_s166_s ck_S0) (ck_E1 (ck_S1 p2_s175_s ck_S0) (ck_E1 (ck_S1 p2_s185_s ck_S0) (ck_E1 (ck_S1 p2_s189_s ck_S0) (ck_E1 (ck_S1 p2_s195_s ck_S0) (ck_E1 (ck_S1 p2_s200_s ck_S0) (ck_E1 (ck_S1 p2_s215_s ck_S0) (ck_E1 (ck_S1 p2_s219_s ck_S0) (ck_E1 (ck_S1 p2_s222_s ck_S0) ck_E0))))))))))⟩ ck_X0 ck_l0 p2_s223_e
set_option maxRecDepth 100000 in
/-- GlacierMailModel.readLine -/
def p2_s224 : ck_Sum := ((10, 0, 0), 245, [.inr (.inr (.inl 226)), .inl (ck_one 1), .inl (ck_one 0)], ([], [], [(227, 2, 2, (0, 8, [(20, 0)])), (227, 3, 3, (0, 8, [(21, 0)])), (227, 4, 4, (0, 24, [(22, 0)])), (227, 5, 5, (0, 8, [(23, 0)])), (227, 6, 6, (0, 6, [(24, 0)])), (226, 9, 9, (0, 400, [(1, 0)])), (227, 9, 9, (0, 299, [(11, 0)]))]), ([(226, 9, 9), (226, 11, 11), (227, 0, 6), (227, 10, 13), (227, 15, 322)], []), [(.inr (some (.inl (ck_one 0))), 245, ([], [], [(227, 2, 2, (0, 8, [(20, 0)])), (227, 3, 3, (0, 8, [(21, 0)])), (227, 4, 4, (0, 24, [(22, 0)])), (227, 5, 5, (0, 8, [(23, 0)])), (227, 6, 6, (0, 6, [(24, 0)])), (226, 9, 9, (0, 400, [(1000001, 0)]))])), (.inr (some (.inl (ck_one 1))), 245, ([], [], [(226, 9, 9, (4, 400, [(1000001, 0)])), (227, 4, 4, (0, 24, [(1000022, 0)]))]))])
set_option maxRecDepth 100000 in
theorem p2_s224_e : ck_ok p2_O none [] [(248, [p2_s150]), (249, [p2_s223])] 247 [] 104 p2_s224 = true := by decide +kernel
theorem p2_s224_s {X : Int → Int} {LX : Nat} : ck_Ok p2_O X LX 247 p2_s224 := ck_ok_s ⟨p2_nmu, ck_E1 (ck_S1 p2_s150_s ck_S0) (ck_E1 (ck_S1 p2_s223_s ck_S0) ck_E0)⟩ ck_X0 ck_l0 p2_s224_e
set_option maxRecDepth 100000 in
/-- GlacierMailModel.readLine -/
def p2_s225 : ck_Sum := ((10, 0, 0), 245, [.inr (.inr (.inl 226)), .inl (ck_one 1), .inl (ck_one 1)], ([], [], [(227, 2, 2, (0, 8, [(20, 0)])), (227, 3, 3, (0, 8, [(21, 0)])), (227, 4, 4, (0, 24, [(22, 0)])), (227, 5, 5, (0, 8, [(23, 0)])), (227, 6, 6, (0, 6, [(24, 0)])), (226, 9, 9, (0, 400, [(1, 0)])), (227, 9, 9, (0, 299, [(11, 0)]))]), ([(226, 9, 9), (226, 11, 11), (227, 0, 6), (227, 10, 13), (227, 15, 322)], []), [(.inr (some (.inl (ck_one 0))), 245, ([], [], [(227, 2, 2, (0, 8, [(20, 0)])), (227, 3, 3, (0, 8, [(21, 0)])), (227, 4, 4, (0, 24, [(22, 0)])), (227, 5, 5, (0, 8, [(23, 0)])), (227, 6, 6, (0, 6, [(24, 0)])), (226, 9, 9, (0, 400, [(1000001, 0)]))])), (.inr (some (.inl (ck_one 1))), 245, ([], [], [(226, 9, 9, (4, 400, [(1000001, 0)])), (227, 4, 4, (0, 24, [(1000022, 0)]))]))])
set_option maxRecDepth 100000 in
theorem p2_s225_e : ck_ok p2_O none [] [(248, [p2_s150]), (249, [p2_s223])] 247 [] 104 p2_s225 = true := by decide +kernel
theorem p2_s225_s {X : Int → Int} {LX : Nat} : ck_Ok p2_O X LX 247 p2_s225 := ck_ok_s ⟨p2_nmu, ck_E1 (ck_S1 p2_s150_s ck_S0) (ck_E1 (ck_S1 p2_s223_s ck_S0) ck_E0)⟩ ck_X0 ck_l0 p2_s225_e
set_option maxRecDepth 100000 in
/-- GlacierMailModel.readLine -/
def p2_s226 : ck_Sum := ((10, 0, 0), 245, [.inr (.inr (.inl 226)), .inl (ck_one 1), .inl (ck_one 2)], ([], [], [(227, 2, 2, (0, 8, [(20, 0)])), (227, 3, 3, (0, 8, [(21, 0)])), (227, 4, 4, (0, 24, [(22, 0)])), (227, 5, 5, (0, 8, [(23, 0)])), (227, 6, 6, (0, 6, [(24, 0)])), (226, 9, 9, (0, 400, [(1, 0)])), (227, 9, 9, (0, 299, [(11, 0)]))]), ([(226, 9, 9), (226, 11, 11), (227, 0, 6), (227, 10, 13), (227, 15, 322)], []), [(.inr (some (.inl (ck_one 0))), 245, ([], [], [(227, 2, 2, (0, 8, [(20, 0)])), (227, 3, 3, (0, 8, [(21, 0)])), (227, 4, 4, (0, 24, [(22, 0)])), (227, 5, 5, (0, 8, [(23, 0)])), (227, 6, 6, (0, 6, [(24, 0)])), (226, 9, 9, (0, 400, [(1000001, 0)]))])), (.inr (some (.inl (ck_one 1))), 245, ([], [], [(226, 9, 9, (4, 400, [(1000001, 0)])), (227, 4, 4, (0, 24, [(1000022, 0)]))]))])
set_option maxRecDepth 100000 in
theorem p2_s226_e : ck_ok p2_O none [] [(248, [p2_s150]), (249, [p2_s223])] 247 [] 104 p2_s226 = true := by decide +kernel
theorem p2_s226_s {X : Int → Int} {LX : Nat} : ck_Ok p2_O X LX 247 p2_s226 := ck_ok_s ⟨p2_nmu, ck_E1 (ck_S1 p2_s150_s ck_S0) (ck_E1 (ck_S1 p2_s223_s ck_S0) ck_E0)⟩ ck_X0 ck_l0 p2_s226_e
set_option maxRecDepth 100000 in
/-- GlacierMailModel.readLine -/
def p2_s227 : ck_Sum := ((10, 0, 0), 245, [.inr (.inr (.inl 226)), .inl (ck_one 1), .inl (ck_one 3)], ([], [], [(227, 2, 2, (0, 8, [(20, 0)])), (227, 3, 3, (0, 8, [(21, 0)])), (227, 4, 4, (0, 24, [(22, 0)])), (227, 5, 5, (0, 8, [(23, 0)])), (227, 6, 6, (0, 6, [(24, 0)])), (226, 9, 9, (0, 400, [(1, 0)])), (227, 9, 9, (0, 299, [(11, 0)]))]), ([(226, 9, 9), (226, 11, 11), (227, 0, 6), (227, 10, 13), (227, 15, 322)], []), [(.inr (some (.inl (ck_one 0))), 245, ([], [], [(227, 2, 2, (0, 8, [(20, 0)])), (227, 3, 3, (0, 8, [(21, 0)])), (227, 4, 4, (0, 24, [(22, 0)])), (227, 5, 5, (0, 8, [(23, 0)])), (227, 6, 6, (0, 6, [(24, 0)])), (226, 9, 9, (0, 400, [(1000001, 0)]))])), (.inr (some (.inl (ck_one 1))), 245, ([], [], [(226, 9, 9, (4, 400, [(1000001, 0)])), (227, 4, 4, (0, 24, [(1000022, 0)]))]))])
set_option maxRecDepth 100000 in
theorem p2_s227_e : ck_ok p2_O none [] [(248, [p2_s150]), (249, [p2_s223])] 247 [] 104 p2_s227 = true := by decide +kernel
theorem p2_s227_s {X : Int → Int} {LX : Nat} : ck_Ok p2_O X LX 247 p2_s227 := ck_ok_s ⟨p2_nmu, ck_E1 (ck_S1 p2_s150_s ck_S0) (ck_E1 (ck_S1 p2_s223_s ck_S0) ck_E0)⟩ ck_X0 ck_l0 p2_s227_e
set_option maxRecDepth 100000 in
/-- GlacierMailModel.readLine -/
def p2_s228 : ck_Sum := ((10, 0, 0), 245, [.inr (.inr (.inl 226)), .inl (ck_one 1), .inl (ck_one 4)], ([], [], [(227, 2, 2, (0, 8, [(20, 0)])), (227, 3, 3, (0, 8, [(21, 0)])), (227, 4, 4, (0, 24, [(22, 0)])), (227, 5, 5, (0, 8, [(23, 0)])), (227, 6, 6, (0, 6, [(24, 0)])), (226, 9, 9, (0, 400, [(1, 0)])), (227, 9, 9, (0, 299, [(11, 0)]))]), ([(226, 9, 9), (226, 11, 11), (227, 0, 6), (227, 10, 13), (227, 15, 322)], []), [(.inr (some (.inl (ck_one 0))), 245, ([], [], [(227, 2, 2, (0, 8, [(20, 0)])), (227, 3, 3, (0, 8, [(21, 0)])), (227, 4, 4, (0, 24, [(22, 0)])), (227, 5, 5, (0, 8, [(23, 0)])), (227, 6, 6, (0, 6, [(24, 0)])), (226, 9, 9, (0, 400, [(1000001, 0)]))])), (.inr (some (.inl (ck_one 1))), 245, ([], [], [(226, 9, 9, (4, 400, [(1000001, 0)])), (227, 4, 4, (0, 24, [(1000022, 0)]))]))])
set_option maxRecDepth 100000 in
theorem p2_s228_e : ck_ok p2_O none [] [(248, [p2_s150]), (249, [p2_s223])] 247 [] 104 p2_s228 = true := by decide +kernel
theorem p2_s228_s {X : Int → Int} {LX : Nat} : ck_Ok p2_O X LX 247 p2_s228 := ck_ok_s ⟨p2_nmu, ck_E1 (ck_S1 p2_s150_s ck_S0) (ck_E1 (ck_S1 p2_s223_s ck_S0) ck_E0)⟩ ck_X0 ck_l0 p2_s228_e
set_option maxRecDepth 100000 in
/-- GlacierMailModel.readLine -/
def p2_s229 : ck_Sum := ((10, 0, 0), 245, [.inr (.inr (.inl 226)), .inl (ck_one 1), .inl (ck_one 5)], ([], [], [(227, 2, 2, (0, 8, [(20, 0)])), (227, 3, 3, (0, 8, [(21, 0)])), (227, 4, 4, (0, 24, [(22, 0)])), (227, 5, 5, (0, 8, [(23, 0)])), (227, 6, 6, (0, 6, [(24, 0)])), (226, 9, 9, (0, 400, [(1, 0)])), (227, 9, 9, (0, 299, [(11, 0)]))]), ([(226, 9, 9), (226, 11, 11), (227, 0, 6), (227, 10, 13), (227, 15, 322)], []), [(.inr (some (.inl (ck_one 0))), 245, ([], [], [(227, 2, 2, (0, 8, [(20, 0)])), (227, 3, 3, (0, 8, [(21, 0)])), (227, 4, 4, (0, 24, [(22, 0)])), (227, 5, 5, (0, 8, [(23, 0)])), (227, 6, 6, (0, 6, [(24, 0)])), (226, 9, 9, (0, 400, [(1000001, 0)]))])), (.inr (some (.inl (ck_one 1))), 245, ([], [], [(226, 9, 9, (4, 400, [(1000001, 0)])), (227, 4, 4, (0, 24, [(1000022, 0)]))]))])
set_option maxRecDepth 100000 in
theorem p2_s229_e : ck_ok p2_O none [] [(248, [p2_s150]), (249, [p2_s223])] 247 [] 104 p2_s229 = true := by decide +kernel
theorem p2_s229_s {X : Int → Int} {LX : Nat} : ck_Ok p2_O X LX 247 p2_s229 := ck_ok_s ⟨p2_nmu, ck_E1 (ck_S1 p2_s150_s ck_S0) (ck_E1 (ck_S1 p2_s223_s ck_S0) ck_E0)⟩ ck_X0 ck_l0 p2_s229_e
set_option maxRecDepth 100000 in
/-- GlacierMailModel.readLine -/
def p2_s230 : ck_Sum := ((10, 0, 0), 245, [.inr (.inr (.inl 226)), .inl (ck_one 1), .inl (ck_one 6)], ([], [], [(227, 2, 2, (0, 8, [(20, 0)])), (227, 3, 3, (0, 8, [(21, 0)])), (227, 4, 4, (0, 24, [(22, 0)])), (227, 5, 5, (0, 8, [(23, 0)])), (227, 6, 6, (0, 6, [(24, 0)])), (226, 9, 9, (0, 400, [(1, 0)])), (227, 9, 9, (0, 299, [(11, 0)]))]), ([(226, 9, 9), (226, 11, 11), (227, 0, 6), (227, 10, 13), (227, 15, 322)], []), [(.inr (some (.inl (ck_one 0))), 245, ([], [], [(227, 2, 2, (0, 8, [(20, 0)])), (227, 3, 3, (0, 8, [(21, 0)])), (227, 4, 4, (0, 24, [(22, 0)])), (227, 5, 5, (0, 8, [(23, 0)])), (227, 6, 6, (0, 6, [(24, 0)])), (226, 9, 9, (0, 400, [(1000001, 0)]))])), (.inr (some (.inl (ck_one 1))), 245, ([], [], [(226, 9, 9, (4, 400, [(1000001, 0)])), (227, 4, 4, (0, 24, [(1000022, 0)]))]))])
set_option maxRecDepth 100000 in
theorem p2_s230_e : ck_ok p2_O none [] [(248, [p2_s150]), (249, [p2_s223])] 247 [] 104 p2_s230 = true := by decide +kernel
theorem p2_s230_s {X : Int → Int} {LX : Nat} : ck_Ok p2_O X LX 247 p2_s230 := ck_ok_s ⟨p2_nmu, ck_E1 (ck_S1 p2_s150_s ck_S0) (ck_E1 (ck_S1 p2_s223_s ck_S0) ck_E0)⟩ ck_X0 ck_l0 p2_s230_e
set_option maxRecDepth 100000 in
/-- GlacierMailModel.readLine -/
def p2_s231 : ck_Sum := ((10, 0, 0), 245, [.inr (.inr (.inl 226)), .inl (ck_one 1), .inl (ck_one 7)], ([], [], [(227, 2, 2, (0, 8, [(20, 0)])), (227, 3, 3, (0, 8, [(21, 0)])), (227, 4, 4, (0, 24, [(22, 0)])), (227, 5, 5, (0, 8, [(23, 0)])), (227, 6, 6, (0, 6, [(24, 0)])), (226, 9, 9, (0, 400, [(1, 0)])), (227, 9, 9, (0, 299, [(11, 0)]))]), ([(226, 9, 9), (226, 11, 11), (227, 0, 6), (227, 10, 13), (227, 15, 322)], []), [(.inr (some (.inl (ck_one 0))), 245, ([], [], [(227, 2, 2, (0, 8, [(20, 0)])), (227, 3, 3, (0, 8, [(21, 0)])), (227, 4, 4, (0, 24, [(22, 0)])), (227, 5, 5, (0, 8, [(23, 0)])), (227, 6, 6, (0, 6, [(24, 0)])), (226, 9, 9, (0, 400, [(1000001, 0)]))])), (.inr (some (.inl (ck_one 1))), 245, ([], [], [(226, 9, 9, (4, 400, [(1000001, 0)])), (227, 4, 4, (0, 24, [(1000022, 0)]))]))])
set_option maxRecDepth 100000 in
theorem p2_s231_e : ck_ok p2_O none [] [(248, [p2_s150]), (249, [p2_s223])] 247 [] 104 p2_s231 = true := by decide +kernel
theorem p2_s231_s {X : Int → Int} {LX : Nat} : ck_Ok p2_O X LX 247 p2_s231 := ck_ok_s ⟨p2_nmu, ck_E1 (ck_S1 p2_s150_s ck_S0) (ck_E1 (ck_S1 p2_s223_s ck_S0) ck_E0)⟩ ck_X0 ck_l0 p2_s231_e
set_option maxRecDepth 100000 in
/-- GlacierMailModel.readLine -/
def p2_s232 : ck_Sum := ((10, 0, 0), 245, [.inr (.inr (.inl 226)), .inl (ck_one 1), .inl (ck_one 8)], ([], [], [(227, 2, 2, (0, 8, [(20, 0)])), (227, 3, 3, (0, 8, [(21, 0)])), (227, 4, 4, (0, 24, [(22, 0)])), (227, 5, 5, (0, 8, [(23, 0)])), (227, 6, 6, (0, 6, [(24, 0)])), (226, 9, 9, (0, 400, [(1, 0)])), (227, 9, 9, (0, 299, [(11, 0)]))]), ([(226, 9, 9), (226, 11, 11), (227, 0, 6), (227, 10, 13), (227, 15, 322)], []), [(.inr (some (.inl (ck_one 0))), 245, ([], [], [(227, 2, 2, (0, 8, [(20, 0)])), (227, 3, 3, (0, 8, [(21, 0)])), (227, 4, 4, (0, 24, [(22, 0)])), (227, 5, 5, (0, 8, [(23, 0)])), (227, 6, 6, (0, 6, [(24, 0)])), (226, 9, 9, (0, 400, [(1000001, 0)]))])), (.inr (some (.inl (ck_one 1))), 245, ([], [], [(226, 9, 9, (4, 400, [(1000001, 0)])), (227, 4, 4, (0, 24, [(1000022, 0)]))]))])
set_option maxRecDepth 100000 in
theorem p2_s232_e : ck_ok p2_O none [] [(248, [p2_s150]), (249, [p2_s223])] 247 [] 104 p2_s232 = true := by decide +kernel
theorem p2_s232_s {X : Int → Int} {LX : Nat} : ck_Ok p2_O X LX 247 p2_s232 := ck_ok_s ⟨p2_nmu, ck_E1 (ck_S1 p2_s150_s ck_S0) (ck_E1 (ck_S1 p2_s223_s ck_S0) ck_E0)⟩ ck_X0 ck_l0 p2_s232_e
set_option maxRecDepth 100000 in
/-- GlacierMailModel.readLine -/
def p2_s233 : ck_Sum := ((10, 0, 0), 245, [.inr (.inr (.inl 226)), .inl (ck_one 1), .inl (ck_one 9)], ([], [], [(227, 2, 2, (0, 8, [(20, 0)])), (227, 3, 3, (0, 8, [(21, 0)])), (227, 4, 4, (0, 24, [(22, 0)])), (227, 5, 5, (0, 8, [(23, 0)])), (227, 6, 6, (0, 6, [(24, 0)])), (226, 9, 9, (0, 400, [(1, 0)])), (227, 9, 9, (0, 299, [(11, 0)]))]), ([(226, 9, 9), (226, 11, 11), (227, 0, 6), (227, 10, 13), (227, 15, 322)], []), [(.inr (some (.inl (ck_one 0))), 245, ([], [], [(227, 2, 2, (0, 8, [(20, 0)])), (227, 3, 3, (0, 8, [(21, 0)])), (227, 4, 4, (0, 24, [(22, 0)])), (227, 5, 5, (0, 8, [(23, 0)])), (227, 6, 6, (0, 6, [(24, 0)])), (226, 9, 9, (0, 400, [(1000001, 0)]))])), (.inr (some (.inl (ck_one 1))), 245, ([], [], [(226, 9, 9, (4, 400, [(1000001, 0)])), (227, 4, 4, (0, 24, [(1000022, 0)]))]))])
set_option maxRecDepth 100000 in
theorem p2_s233_e : ck_ok p2_O none [] [(248, [p2_s150]), (249, [p2_s223])] 247 [] 104 p2_s233 = true := by decide +kernel
theorem p2_s233_s {X : Int → Int} {LX : Nat} : ck_Ok p2_O X LX 247 p2_s233 := ck_ok_s ⟨p2_nmu, ck_E1 (ck_S1 p2_s150_s ck_S0) (ck_E1 (ck_S1 p2_s223_s ck_S0) ck_E0)⟩ ck_X0 ck_l0 p2_s233_e
set_option maxRecDepth 100000 in
/-- GlacierMailModel.readLine -/
def p2_s234 : ck_Sum := ((10, 0, 0), 245, [.inr (.inr (.inl 226)), .inl (ck_one 1), .inl (ck_one 10)], ([], [], [(227, 2, 2, (0, 8, [(20, 0)])), (227, 3, 3, (0, 8, [(21, 0)])), (227, 4, 4, (0, 24, [(22, 0)])), (227, 5, 5, (0, 8, [(23, 0)])), (227, 6, 6, (0, 6, [(24, 0)])), (226, 9, 9, (0, 400, [(1, 0)])), (227, 9, 9, (0, 299, [(11, 0)]))]), ([(226, 9, 9), (226, 11, 11), (227, 0, 6), (227, 10, 13), (227, 15, 322)], []), [(.inr (some (.inl (ck_one 0))), 245, ([], [], [(227, 2, 2, (0, 8, [(20, 0)])), (227, 3, 3, (0, 8, [(21, 0)])), (227, 4, 4, (0, 24, [(22, 0)])), (227, 5, 5, (0, 8, [(23, 0)])), (227, 6, 6, (0, 6, [(24, 0)])), (226, 9, 9, (0, 400, [(1000001, 0)]))])), (.inr (some (.inl (ck_one 1))), 245, ([], [], [(226, 9, 9, (4, 400, [(1000001, 0)])), (227, 4, 4, (0, 24, [(1000022, 0)]))]))])
set_option maxRecDepth 100000 in
theorem p2_s234_e : ck_ok p2_O none [] [(248, [p2_s150]), (249, [p2_s223])] 247 [] 104 p2_s234 = true := by decide +kernel
theorem p2_s234_s {X : Int → Int} {LX : Nat} : ck_Ok p2_O X LX 247 p2_s234 := ck_ok_s ⟨p2_nmu, ck_E1 (ck_S1 p2_s150_s ck_S0) (ck_E1 (ck_S1 p2_s223_s ck_S0) ck_E0)⟩ ck_X0 ck_l0 p2_s234_e
set_option maxRecDepth 100000 in
/-- GlacierMailModel.readLine -/
def p2_s235 : ck_Sum := ((10, 0, 0), 245, [.inr (.inr (.inl 226)), .inl (ck_one 1), .inl (ck_one 11)], ([], [], [(227, 2, 2, (0, 8, [(20, 0)])), (227, 3, 3, (0, 8, [(21, 0)])), (227, 4, 4, (0, 24, [(22, 0)])), (227, 5, 5, (0, 8, [(23, 0)])), (227, 6, 6, (0, 6, [(24, 0)])), (226, 9, 9, (0, 400, [(1, 0)])), (227, 9, 9, (0, 299, [(11, 0)]))]), ([(226, 9, 9), (226, 11, 11), (227, 0, 6), (227, 10, 13), (227, 15, 322)], []), [(.inr (some (.inl (ck_one 0))), 245, ([], [], [(227, 2, 2, (0, 8, [(20, 0)])), (227, 3, 3, (0, 8, [(21, 0)])), (227, 4, 4, (0, 24, [(22, 0)])), (227, 5, 5, (0, 8, [(23, 0)])), (227, 6, 6, (0, 6, [(24, 0)])), (226, 9, 9, (0, 400, [(1000001, 0)]))])), (.inr (some (.inl (ck_one 1))), 245, ([], [], [(226, 9, 9, (4, 400, [(1000001, 0)])), (227, 4, 4, (0, 24, [(1000022, 0)]))]))])
set_option maxRecDepth 100000 in
theorem p2_s235_e : ck_ok p2_O none [] [(248, [p2_s150]), (249, [p2_s223])] 247 [] 104 p2_s235 = true := by decide +kernel
theorem p2_s235_s {X : Int → Int} {LX : Nat} : ck_Ok p2_O X LX 247 p2_s235 := ck_ok_s ⟨p2_nmu, ck_E1 (ck_S1 p2_s150_s ck_S0) (ck_E1 (ck_S1 p2_s223_s ck_S0) ck_E0)⟩ ck_X0 ck_l0 p2_s235_e
set_option maxRecDepth 100000 in
/-- GlacierMailModel.readLine -/
def p2_s236 : ck_Sum := ((10, 0, 0), 245, [.inr (.inr (.inl 226)), .inl (ck_one 1), .inl (ck_one 12)], ([], [], [(227, 2, 2, (0, 8, [(20, 0)])), (227, 3, 3, (0, 8, [(21, 0)])), (227, 4, 4, (0, 24, [(22, 0)])), (227, 5, 5, (0, 8, [(23, 0)])), (227, 6, 6, (0, 6, [(24, 0)])), (226, 9, 9, (0, 400, [(1, 0)])), (227, 9, 9, (0, 299, [(11, 0)]))]), ([(226, 9, 9), (226, 11, 11), (227, 0, 6), (227, 10, 13), (227, 15, 322)], []), [(.inr (some (.inl (ck_one 0))), 245, ([], [], [(227, 2, 2, (0, 8, [(20, 0)])), (227, 3, 3, (0, 8, [(21, 0)])), (227, 4, 4, (0, 24, [(22, 0)])), (227, 5, 5, (0, 8, [(23, 0)])), (227, 6, 6, (0, 6, [(24, 0)])), (226, 9, 9, (0, 400, [(1000001, 0)]))])), (.inr (some (.inl (ck_one 1))), 245, ([], [], [(226, 9, 9, (4, 400, [(1000001, 0)])), (227, 4, 4, (0, 24, [(1000022, 0)]))]))])
set_option maxRecDepth 100000 in
theorem p2_s236_e : ck_ok p2_O none [] [(248, [p2_s150]), (249, [p2_s223])] 247 [] 104 p2_s236 = true := by decide +kernel
theorem p2_s236_s {X : Int → Int} {LX : Nat} : ck_Ok p2_O X LX 247 p2_s236 := ck_ok_s ⟨p2_nmu, ck_E1 (ck_S1 p2_s150_s ck_S0) (ck_E1 (ck_S1 p2_s223_s ck_S0) ck_E0)⟩ ck_X0 ck_l0 p2_s236_e
set_option maxRecDepth 100000 in
/-- GlacierMailModel.readLine -/
def p2_s237 : ck_Sum := ((10, 0, 0), 245, [.inr (.inr (.inl 226)), .inl (ck_one 1), .inl (ck_one 13)], ([], [], [(227, 2, 2, (0, 8, [(20, 0)])), (227, 3, 3, (0, 8, [(21, 0)])), (227, 4, 4, (0, 24, [(22, 0)])), (227, 5, 5, (0, 8, [(23, 0)])), (227, 6, 6, (0, 6, [(24, 0)])), (226, 9, 9, (0, 400, [(1, 0)])), (227, 9, 9, (0, 299, [(11, 0)]))]), ([(226, 9, 9), (226, 11, 11), (227, 0, 6), (227, 10, 13), (227, 15, 322)], []), [(.inr (some (.inl (ck_one 0))), 245, ([], [], [(227, 2, 2, (0, 8, [(20, 0)])), (227, 3, 3, (0, 8, [(21, 0)])), (227, 4, 4, (0, 24, [(22, 0)])), (227, 5, 5, (0, 8, [(23, 0)])), (227, 6, 6, (0, 6, [(24, 0)])), (226, 9, 9, (0, 400, [(1000001, 0)]))])), (.inr (some (.inl (ck_one 1))), 245, ([], [], [(226, 9, 9, (4, 400, [(1000001, 0)])), (227, 4, 4, (0, 24, [(1000022, 0)]))]))])
set_option maxRecDepth 100000 in
theorem p2_s237_e : ck_ok p2_O none [] [(248, [p2_s150]), (249, [p2_s223])] 247 [] 104 p2_s237 = true := by decide +kernel
theorem p2_s237_s {X : Int → Int} {LX : Nat} : ck_Ok p2_O X LX 247 p2_s237 := ck_ok_s ⟨p2_nmu, ck_E1 (ck_S1 p2_s150_s ck_S0) (ck_E1 (ck_S1 p2_s223_s ck_S0) ck_E0)⟩ ck_X0 ck_l0 p2_s237_e
set_option maxRecDepth 100000 in
/-- GlacierMailModel.readLine -/
def p2_s238 : ck_Sum := ((3, 0, 0), 245, [.inr (.inr (.inl 226)), .inl (ck_one 1), .inl (ck_one 14)], ([], [], [(226, 9, 9, (0, 400, [(1, 0)]))]), ([(226, 9, 9), (226, 11, 11)], []), [(.inr (some (.inl (ck_one 0))), 245, ([], [], [(226, 9, 9, (0, 400, [(1000001, 0)])), (226, 11, 11, (0, 400, [(1000001, 0)]))]))])
set_option maxRecDepth 100000 in
theorem p2_s238_e : ck_ok p2_O none [] [(248, [p2_s150])] 247 [] 90 p2_s238 = true := by decide +kernel
theorem p2_s238_s {X : Int → Int} {LX : Nat} : ck_Ok p2_O X LX 247 p2_s238 := ck_ok_s ⟨p2_nmu, ck_E1 (ck_S1 p2_s150_s ck_S0) ck_E0⟩ ck_X0 ck_l0 p2_s238_e
set_option maxRecDepth 100000 in
/-- GlacierMailModel.isAt -/
def p2_s239 : ck_Sum := ((0, 0, 0), 245, [.inr (.inr (.inl 226)), .inl (ck_one 59), .inl (ck_one 59)], ([], [], [(226, 9, 9, (0, 400, [(1, 0)]))]), ([], []), [(.inr (some (.inl (ck_one 0))), 245, ([], [], [])), (.inr (some (.inl (ck_one 1))), 245, ([], [], [(226, 10, 10, (1, 400, [])), (226, 9, 9, (0, 399, [(1, 0)]))]))])
set_option maxRecDepth 100000 in
theorem p2_s239_e : ck_ok p2_O none [] [] 246 [] 114 p2_s239 = true := by decide +kernel
theorem p2_s239_s {X : Int → Int} {LX : Nat} : ck_Ok p2_O X LX 246 p2_s239 := ck_ok_s ⟨p2_nmu, ck_E0⟩ ck_X0 ck_l0 p2_s239_e
set_option maxRecDepth 100000 in
/-- GlacierMailModel.readAll -/
def p2_s240 : ck_Sum := ((11, 0, 0), 245, [.inr (.inr (.inl 226)), .inl (ck_one 1)], ([], [], [(227, 2, 2, (0, 8, [(20, 0)])), (227, 3, 3, (0, 8, [(21, 0)])), (227, 4, 4, (0, 24, [(22, 0)])), (227, 5, 5, (0, 8, [(23, 0)])), (227, 6, 6, (0, 6, [(24, 0)])), (226, 9, 9, (0, 400, [(1, 0)])), (226, 8, 8, (0, 400, [(7, 0)])), (227, 9, 9, (0, 299, [(11, 0)]))]), ([(226, 0, 0), (226, 8, 11), (226, 15, 15), (227, 0, 6), (227, 10, 13), (227, 15, 322)], []), [(.inr (some (.inl (ck_one (-1)))), 245, ([], [], [(227, 4, 4, (0, 24, [(1000022, 0)])), (226, 15, 15, ck_one 0), (226, 8, 8, ck_one 0), (226, 0, 0, ck_one 0)])), (.inr (some (.inl (0, 14, []))), 245, ([], [], [(227, 4, 4, (0, 24, [(1000022, 0)])), (226, 15, 15, ck_one 0), (226, 8, 8, ck_one 0), (226, 0, 0, ck_one 0)]))])
set_option maxRecDepth 100000 in
theorem p2_s240_e : ck_ok p2_O none [] [(244, [p2_s146]), (245, [p2_s148]), (247, [p2_s224, p2_s225, p2_s226, p2_s227, p2_s228, p2_s229, p2_s230, p2_s231, p2_s232, p2_s233, p2_s234, p2_s235, p2_s236, p2_s237, p2_s238]), (246, [p2_s239])] 243 [] 812 p2_s240 = true := by decide +kernel
theorem p2_s240_s {X : Int → Int} {LX : Nat} : ck_Ok p2_O X LX 243 p2_s240 := ck_ok_s ⟨p2_nmu, ck_E1 (ck_S1 p2_s146_s ck_S0) (ck_E1 (ck_S1 p2_s148_s ck_S0) (ck_E1 (ck_S1 p2_s224_s (ck_S1 p2_s225_s (ck_S1 p2_s226_s (ck_S1 p2_s227_s (ck_S1 p2_s228_s (ck_S1 p2_s229_s (ck_S1 p2_s230_s (ck_S1 p2_s231_s (ck_S1 p2_s232_s (ck_S1 p2_s233_s (ck_S1 p2_s234_s (ck_S1 p2_s235_s (ck_S1 p2_s236_s (ck_S1 p2_s237_s (ck_S1 p2_s238_s ck_S0))))))))))))))) (ck_E1 (ck_S1 p2_s239_s ck_S0) ck_E0)))⟩ ck_X0 ck_l0 p2_s240_e
set_option maxRecDepth 100000 in
/-- GlacierMailModel.throwsIf -/
def p2_s241 : ck_Sum := ((0, 0, 0), 245, [.inr (.inr (.inl 226)), .inl (ck_one 1), .inl (ck_one 1)], ([], [], []), ([(226, 0, 0)], []), [(.inr (some (.inl (ck_one 1))), 245, ([], [], [(226, 0, 0, ck_one 1)]))])
set_option maxRecDepth 100000 in
theorem p2_s241_e : ck_ok p2_O none [] [] 282 [] 84 p2_s241 = true := by decide +kernel
theorem p2_s241_s {X : Int → Int} {LX : Nat} : ck_Ok p2_O X LX 282 p2_s241 := ck_ok_s ⟨p2_nmu, ck_E0⟩ ck_X0 ck_l0 p2_s241_e
set_option maxRecDepth 100000 in
/-- GlacierMailModel.throwsIf -/
def p2_s242 : ck_Sum := ((0, 0, 0), 245, [.inr (.inr (.inl 226)), .inl (ck_one 0), .inl (ck_one 1)], ([], [], []), ([], []), [(.inr (some (.inl (ck_one 0))), 245, ([], [], []))])
set_option maxRecDepth 100000 in
theorem p2_s242_e : ck_ok p2_O none [] [] 282 [] 78 p2_s242 = true := by decide +kernel
theorem p2_s242_s {X : Int → Int} {LX : Nat} : ck_Ok p2_O X LX 282 p2_s242 := ck_ok_s ⟨p2_nmu, ck_E0⟩ ck_X0 ck_l0 p2_s242_e
set_option maxRecDepth 100000 in
/-- GlacierMailModel.throwsIf -/
def p2_s243 : ck_Sum := ((0, 0, 0), 245, [.inr (.inr (.inl 226)), .inl (ck_one 0), .inl (ck_one 2)], ([], [], []), ([], []), [(.inr (some (.inl (ck_one 0))), 245, ([], [], []))])
set_option maxRecDepth 100000 in
theorem p2_s243_e : ck_ok p2_O none [] [] 282 [] 78 p2_s243 = true := by decide +kernel
theorem p2_s243_s {X : Int → Int} {LX : Nat} : ck_Ok p2_O X LX 282 p2_s243 := ck_ok_s ⟨p2_nmu, ck_E0⟩ ck_X0 ck_l0 p2_s243_e
set_option maxRecDepth 100000 in
/-- GlacierMailModel.throwsIf -/
def p2_s244 : ck_Sum := ((0, 0, 0), 245, [.inr (.inr (.inl 226)), .inl (ck_one 1), .inl (ck_one 2)], ([], [], []), ([(226, 0, 0)], []), [(.inr (some (.inl (ck_one 1))), 245, ([], [], [(226, 0, 0, ck_one 2)]))])
set_option maxRecDepth 100000 in
theorem p2_s244_e : ck_ok p2_O none [] [] 282 [] 84 p2_s244 = true := by decide +kernel
theorem p2_s244_s {X : Int → Int} {LX : Nat} : ck_Ok p2_O X LX 282 p2_s244 := ck_ok_s ⟨p2_nmu, ck_E0⟩ ck_X0 ck_l0 p2_s244_e
set_option maxRecDepth 100000 in
/-- GlacierMailModel.warms -/
def p2_s245 : ck_Sum := ((0, 0, 0), 245, [.inr (.inr (.inl 226))], ([], [], []), ([(226, 26, 26), (234, 0, 299)], []), [(.inr none, 245, ([], [], [(226, 26, 26, ck_one (-1))]))])
set_option maxRecDepth 100000 in
theorem p2_s245_e : ck_ok p2_O none [] [] 235 [(10, [some (.inr (.inr (.inl 226))), some (.inl ((-2147483648), 2147483647, [])), some (.inl (0, 300, []))], ([], [], []), 100, .inl 2, true)] 182 p2_s245 = true := by decide +kernel
theorem p2_s245_s {X : Int → Int} {LX : Nat} : ck_Ok p2_O X LX 235 p2_s245 := ck_ok_s ⟨p2_nmu, ck_E0⟩ ck_X0 ck_l0 p2_s245_e
set_option maxRecDepth 100000 in
/-- GlacierMailModel.valley -/
def p2_s246 : ck_Sum := ((12, 0, 0), 245, [.inr (.inr (.inl 226))], ([], [], [(227, 2, 2, (0, 8, [(20, 0)])), (227, 3, 3, (0, 8, [(21, 0)])), (227, 4, 4, (0, 24, [(22, 0)])), (227, 5, 5, (0, 8, [(23, 0)])), (227, 6, 6, (0, 6, [(24, 0)])), (227, 7, 7, (0, 12, [(25, 0)])), (227, 14, 14, (0, 24, [(26, 0)])), (226, 6, 6, (0, 12, [(27, 0)])), (226, 9, 9, (0, 400, [(1, 0)])), (226, 15, 15, (0, 400, [(2, 0)])), (226, 8, 8, (0, 400, [(7, 0)])), (227, 9, 9, (0, 299, [(11, 0)]))]), ([(226, 0, 0), (226, 6, 6), (226, 8, 11), (226, 13, 13), (226, 15, 15), (226, 26, 26), (227, 0, 1243), (229, 0, 1243), (234, 0, 299)], []), [(.inr (some (.inl (0, 12, []))), 245, ([], [], [(226, 15, 15, ck_one 0), (226, 8, 8, ck_one 0), (226, 0, 0, (0, 2, []))]))])
def p2_s246_E : List (Nat × List ck_Sum) := [(243, [p2_s240]), (282, [p2_s241, p2_s242, p2_s243, p2_s244]), (235, [p2_s245])]
set_option maxRecDepth 100000 in
def p2_s246_C93 : ck_C := ([some (.inr (.inr (.inl 226))), some (.inl ((-1), 14, [])), some (.inl (ck_one 0))], ([], [], [(226, 0, 0, (1, 2, [])), (226, 13, 13, ((-1), 400, [])), (227, 4, 4, (0, 24, [(1000022, 0)])), (226, 15, 15, ck_one 0), (226, 8, 8, ck_one 0), (227, 7, 7, (0, 12, [(25, 0)])), (227, 14, 14, (0, 24, [(26, 0)])), (226, 6, 6, (0, 12, [(27, 0)])), (227, 9, 9, (0, 299, [(11, 0)]))]), 0, .inl 2, true)
set_option maxRecDepth 100000 in
def p2_s246_C2 : ck_C := ([some (.inr (.inr (.inl 226))), some (.inl (ck_one 0)), none], ([], [], [(227, 2, 2, (0, 8, [(20, 0)])), (227, 3, 3, (0, 8, [(21, 0)])), (227, 4, 4, (0, 24, [(22, 0)])), (227, 5, 5, (0, 8, [(23, 0)])), (227, 6, 6, (0, 6, [(24, 0)])), (227, 7, 7, (0, 12, [(25, 0)])), (227, 14, 14, (0, 24, [(26, 0)])), (226, 6, 6, (0, 12, [(27, 0)])), (226, 9, 9, (0, 400, [(1, 0)])), (226, 15, 15, (0, 400, [(2, 0)])), (226, 8, 8, (0, 400, [(7, 0)])), (227, 9, 9, (0, 299, [(11, 0)]))]), 0, .inl 1, true)
set_option maxRecDepth 100000 in
def p2_s246_Z : List (Nat × ck_C) := [(93, p2_s246_C93), (2, p2_s246_C2)]
set_option maxRecDepth 100000 in
theorem p2_s246_a : (decide (p2_s246.2.2.1.length ≤ gm_ml 242) && ck_go p2_O none [] p2_s246_E 242 p2_s246.1.1 p2_s246.2.1 p2_s246.2.2.2.2.1 p2_s246.2.2.2.2.2 p2_s246_Z 386 false [(93, p2_s246_C93, 0, 0, 245), (2, p2_s246_C2, 0, 0, 245)] p2_s246.1.2.1 p2_s246.1.2.2 0 (p2_s246.2.2.1.map some ++ List.replicate (gm_ml 242 - p2_s246.2.2.1.length) none) [] p2_s246.2.1 p2_s246.2.2.2.1) = true := by decide +kernel
theorem p2_s246_u : ck_cu p2_s246_Z = true := by decide +kernel
theorem p2_s246_h {X : Int → Int} {LX : Nat} : ck_nmu p2_O ∧ ck_OkE p2_O X LX p2_s246_E := ⟨p2_nmu, ck_E1 (ck_S1 p2_s240_s ck_S0) (ck_E1 (ck_S1 p2_s241_s (ck_S1 p2_s242_s (ck_S1 p2_s243_s (ck_S1 p2_s244_s ck_S0)))) (ck_E1 (ck_S1 p2_s245_s ck_S0) ck_E0))⟩
set_option maxRecDepth 100000 in
theorem p2_s246_g93 : ck_go p2_O none [] p2_s246_E 242 p2_s246.1.1 p2_s246.2.1 p2_s246.2.2.2.2.1 p2_s246.2.2.2.2.2 p2_s246_Z 386 false [] 0 0 118 (p2_s246_C93.1.set 2 (some (.inl (ck_one 1244)))) [] 245 (p2_s246_C93.2.1.1, p2_s246_C93.2.1.2.1, ck_cws [(227, 0, 1243)] p2_s246_C93.2.1.2.2) = true := by decide +kernel
set_option maxRecDepth 100000 in
theorem p2_s246_t93 : cp_tc p2_O 227 229 0 0 1244 = true := by decide +kernel
theorem p2_s246_y93 {X : Int → Int} {LX : Nat} {σ σ0 : Nat → Int} {K0 : gm_K} {R0 : gm_R} {M0 : gm_M} (hσ : ∀ s, s < 100 → σ s = σ0 s) : ck_Hy p2_O X LX 242 p2_s246.1.1 p2_s246.2.2.2.2.1 p2_s246.2.1 K0 R0 M0 (ck_Q p2_O σ0 p2_s246.2.2.2.2.1 p2_s246.2.1 K0 R0 M0 p2_s246.2.2.2.2.2) σ (93, p2_s246_C93, 0, 0, 245) := by
  refine ck_cpH (v := 2) (A := 227) (B := 229) (N := 1244) (wa := 0) (wb := 1243) (pc' := 118) p2_s246_u p2_s246_h hσ ⟨by decide, by decide⟩ (by decide +kernel) (fun bc bs L K R M hS => ?_) p2_s246_g93 (fun _ h => nomatch h)
  · obtain ⟨hF, hl, -, hf, -⟩ := hS
    obtain ⟨u0, l0, g0⟩ := hl.2 0 (.inr (.inr (.inl 226))) rfl
    cases g0
    obtain ⟨u1, lv, x1, rfl, -, e1, e2, -⟩ := hl.2 2 (.inl (ck_one 0)) rfl
    have e1 : (0 : Int) ≤ x1 := e1
    have e2 : x1 ≤ (0 : Int) := e2
    have e3 : x1 = 0 := by omega
    subst e3
    obtain ⟨u2, l2, y2, rfl, -⟩ := hl.2 1 (.inl ((-1), 14, [])) rfl
    have kA : (K 227).2 = 2093 := (md_kd hF md_o.1.2).2
    have kB : (K 229).2 = 1244 := (md_kd hF md_o.2.1.2).2
    refine ⟨0, 0, ⟨by omega, by omega⟩, gm_Fx_cpy hF (cp_tc_s hF p2_s246_t93) (jj_again (K := K) hF.2.2.2.2), fun Q hx => ?_⟩
    exact cp_lp (iv := .iload_n 2) (v := 2) (ixA := 13) (ixB := 20) (jA := 1) (jB := 3) (A := 227) (B := 229) (mo := 226) (p := 93) (qA := 105) (qB := 110) (N := 1244) (offe := 21) (offb := (-22)) (by decide) (md_mo hF) (md_kd hF md_o.1.2).1 (md_kd hF md_o.2.1.2).1 (md_rf hF md_r.1.1) (md_rf hF md_r.2.1) (by decide +kernel) (by decide +kernel) (by decide +kernel) (by decide +kernel) ⟨by omega, ⟨by omega, by omega⟩, ⟨by omega, by omega⟩, by omega, by omega⟩ (fun e => absurd e (by decide)) (by decide) (by decide +kernel) l0 lv ⟨rfl, rfl⟩ ⟨gm_vi y2, l2, by simp [gm_sort]⟩ (by decide +kernel) (by decide +kernel) (by decide +kernel) (by decide) (by decide +kernel) (by decide +kernel) (cp_sg_i (iv := .iload_n 2) lv ⟨rfl, rfl⟩ (by decide +kernel)) (by decide +kernel) (by decide +kernel) (cp_sg_i (iv := .iload_n 2) lv ⟨rfl, rfl⟩ (by decide +kernel)) (by decide +kernel) (by decide +kernel) (by decide +kernel) (by decide +kernel) (by decide) (by decide) hx
set_option maxRecDepth 100000 in
theorem p2_s246_g2 : ck_go p2_O none [] p2_s246_E 242 p2_s246.1.1 p2_s246.2.1 p2_s246.2.2.2.2.1 p2_s246.2.2.2.2.2 p2_s246_Z 386 false [(93, p2_s246_C93, 0, 0, 245)] 0 0 27 (p2_s246_C2.1.set 1 (some (.inl (ck_one 1244)))) [] 245 (p2_s246_C2.2.1.1, p2_s246_C2.2.1.2.1, ck_cws [(229, 0, 1243)] p2_s246_C2.2.1.2.2) = true := by decide +kernel
set_option maxRecDepth 100000 in
theorem p2_s246_t2 : cp_tc p2_O 229 227 0 0 1244 = true := by decide +kernel
theorem p2_s246_y2 {X : Int → Int} {LX : Nat} {σ σ0 : Nat → Int} {K0 : gm_K} {R0 : gm_R} {M0 : gm_M} (hσ : ∀ s, s < 100 → σ s = σ0 s) : ck_Hy p2_O X LX 242 p2_s246.1.1 p2_s246.2.2.2.2.1 p2_s246.2.1 K0 R0 M0 (ck_Q p2_O σ0 p2_s246.2.2.2.2.1 p2_s246.2.1 K0 R0 M0 p2_s246.2.2.2.2.2) σ (2, p2_s246_C2, 0, 0, 245) := by
  refine ck_cpH (v := 1) (A := 229) (B := 227) (N := 1244) (wa := 0) (wb := 1243) (pc' := 27) p2_s246_u p2_s246_h hσ ⟨by decide, by decide⟩ (by decide +kernel) (fun bc bs L K R M hS => ?_) p2_s246_g2 (fun h hm => by
      rcases List.mem_cons.mp hm with rfl | hm
      · exact ⟨by unfold p2_s246_Z; exact List.mem_cons_self, p2_s246_y93 hσ⟩
      · cases hm)
  · obtain ⟨hF, hl, -, hf, -⟩ := hS
    obtain ⟨u0, l0, g0⟩ := hl.2 0 (.inr (.inr (.inl 226))) rfl
    cases g0
    obtain ⟨u1, lv, x1, rfl, -, e1, e2, -⟩ := hl.2 1 (.inl (ck_one 0)) rfl
    have e1 : (0 : Int) ≤ x1 := e1
    have e2 : x1 ≤ (0 : Int) := e2
    have e3 : x1 = 0 := by omega
    subst e3
    have kA : (K 229).2 = 1244 := (md_kd hF md_o.2.1.2).2
    have kB : (K 227).2 = 2093 := (md_kd hF md_o.1.2).2
    refine ⟨0, 0, ⟨by omega, by omega⟩, gm_Fx_cpy hF (cp_tc_s hF p2_s246_t2) (jj_before (K := K) hF.2.2.2.2), fun Q hx => ?_⟩
    exact cp_lp (iv := .iload_n 1) (v := 1) (ixA := 20) (ixB := 13) (jA := 3) (jB := 1) (A := 229) (B := 227) (mo := 226) (p := 2) (qA := 14) (qB := 19) (N := 1244) (offe := 21) (offb := (-22)) (by decide) (md_mo hF) (md_kd hF md_o.2.1.2).1 (md_kd hF md_o.1.2).1 (md_rf hF md_r.2.1) (md_rf hF md_r.1.1) (by decide +kernel) (by decide +kernel) (by decide +kernel) (by decide +kernel) ⟨by omega, ⟨by omega, by omega⟩, ⟨by omega, by omega⟩, by omega, by omega⟩ (fun e => absurd e (by decide)) (by decide) (by decide +kernel) l0 lv ⟨rfl, rfl⟩ ⟨gm_vr 226, l0, by simp [gm_sort]⟩ (by decide +kernel) (by decide +kernel) (by decide +kernel) (by decide) (by decide +kernel) (by decide +kernel) (cp_sg_i (iv := .iload_n 1) lv ⟨rfl, rfl⟩ (by decide +kernel)) (by decide +kernel) (by decide +kernel) (cp_sg_i (iv := .iload_n 1) lv ⟨rfl, rfl⟩ (by decide +kernel)) (by decide +kernel) (by decide +kernel) (by decide +kernel) (by decide +kernel) (by decide) (by decide) hx
theorem p2_s246_s {X : Int → Int} {LX : Nat} : ck_Ok p2_O X LX 242 p2_s246 := by
  refine ck_ok_st (cuts := p2_s246_Z) p2_s246_u p2_s246_h p2_s246_a (fun h hm => ?_)
  rcases List.mem_cons.mp hm with rfl | hm
  · exact ⟨by unfold p2_s246_Z; exact List.mem_cons_self, fun σ K0 R0 M0 => p2_s246_y93 (fun _ _ => rfl)⟩
  rcases List.mem_cons.mp hm with rfl | hm
  · exact ⟨by unfold p2_s246_Z; exact List.mem_cons_of_mem _ (List.mem_cons_self), fun σ K0 R0 M0 => p2_s246_y2 (fun _ _ => rfl)⟩
  cases hm
set_option maxRecDepth 100000 in
/-- GlacierMail.fault -/
def p2_s247 : ck_Sum := ((0, 0, 0), 245, [.inr (.inr (.inl 1))], ([], [], []), ([], []), [(.inr (some (.inl (ck_one (-1)))), 245, ([], [], [(1, 2, 2, ck_one (-1))])), (.inr (some (.inl (0, 400, []))), 245, ([], [], [(1, 2, 2, (0, 400, []))]))])
set_option maxRecDepth 100000 in
theorem p2_s247_e : ck_ok p2_O none [] [] 22 [] 76 p2_s247 = true := by decide +kernel
theorem p2_s247_s {X : Int → Int} {LX : Nat} : ck_Ok p2_O X LX 22 p2_s247 := ck_ok_s ⟨p2_nmu, ck_E0⟩ ck_X0 ck_l0 p2_s247_e
set_option maxRecDepth 100000 in
/-- GlacierMailModel.fault -/
def p2_s248 : ck_Sum := ((0, 0, 0), 245, [.inr (.inr (.inl 226))], ([], [], []), ([(226, 0, 0)], []), [(.inr (some (.inl (ck_one (-1)))), 245, ([], [], [(226, 13, 13, ck_one (-1)), (226, 0, 0, ck_one 0)])), (.inr (some (.inl (0, 400, []))), 245, ([], [], [(226, 13, 13, (0, 400, [])), (226, 0, 0, ck_one 0)]))])
set_option maxRecDepth 100000 in
theorem p2_s248_e : ck_ok p2_O none [] [] 241 [] 82 p2_s248 = true := by decide +kernel
theorem p2_s248_s {X : Int → Int} {LX : Nat} : ck_Ok p2_O X LX 241 p2_s248 := ck_ok_s ⟨p2_nmu, ck_E0⟩ ck_X0 ck_l0 p2_s248_e
set_option maxRecDepth 100000 in
/-- GlacierMail.needYear -/
def p2_s249 : ck_Sum := ((6, 1, 6), 245, [.inr (.inr (.inl 1)), .inl ((-2147483648), (-1), [])], ([], [], []), ([], []), [(.inl 0, 245, ([], [], []))])
set_option maxRecDepth 100000 in
theorem p2_s249_e : ck_ok p2_O none [] [] 129 [] 76 p2_s249 = true := by decide +kernel
theorem p2_s249_s {X : Int → Int} {LX : Nat} : ck_Ok p2_O X LX 129 p2_s249 := ck_ok_s ⟨p2_nmu, ck_E0⟩ ck_X0 ck_l0 p2_s249_e
set_option maxRecDepth 100000 in
/-- GlacierMail.heat -/
def p2_s250 : ck_Sum := ((7, 1, 6), 245, [.inr (.inr (.inl 1)), .inl ((-2147483648), (-1), [])], ([], [], []), ([], []), [(.inl 0, 245, ([], [], []))])
set_option maxRecDepth 100000 in
theorem p2_s250_e : ck_ok p2_O none [] [(129, [p2_s249])] 128 [] 76 p2_s250 = true := by decide +kernel
theorem p2_s250_s {X : Int → Int} {LX : Nat} : ck_Ok p2_O X LX 128 p2_s250 := ck_ok_s ⟨p2_nmu, ck_E1 (ck_S1 p2_s249_s ck_S0) ck_E0⟩ ck_X0 ck_l0 p2_s250_e
set_option maxRecDepth 100000 in
/-- GlacierMail.needYear -/
def p2_s251 : ck_Sum := ((6, 1, 6), 245, [.inr (.inr (.inl 1)), .inl (300, 2147483647, [])], ([], [], []), ([], []), [(.inl 0, 245, ([], [], []))])
set_option maxRecDepth 100000 in
theorem p2_s251_e : ck_ok p2_O none [] [] 129 [] 82 p2_s251 = true := by decide +kernel
theorem p2_s251_s {X : Int → Int} {LX : Nat} : ck_Ok p2_O X LX 129 p2_s251 := ck_ok_s ⟨p2_nmu, ck_E0⟩ ck_X0 ck_l0 p2_s251_e
set_option maxRecDepth 100000 in
/-- GlacierMail.heat -/
def p2_s252 : ck_Sum := ((7, 1, 6), 245, [.inr (.inr (.inl 1)), .inl (300, 2147483647, [])], ([], [], []), ([], []), [(.inl 0, 245, ([], [], []))])
set_option maxRecDepth 100000 in
theorem p2_s252_e : ck_ok p2_O none [] [(129, [p2_s251])] 128 [] 76 p2_s252 = true := by decide +kernel
theorem p2_s252_s {X : Int → Int} {LX : Nat} : ck_Ok p2_O X LX 128 p2_s252 := ck_ok_s ⟨p2_nmu, ck_E1 (ck_S1 p2_s251_s ck_S0) ck_E0⟩ ck_X0 ck_l0 p2_s252_e
set_option maxRecDepth 100000 in
/-- GlacierMail.needYear -/
def p2_s253 : ck_Sum := ((0, 0, 0), 245, [.inr (.inr (.inl 1)), .inl (0, 299, [])], ([], [], []), ([], []), [(.inr none, 245, ([], [], []))])
set_option maxRecDepth 100000 in
theorem p2_s253_e : ck_ok p2_O none [] [] 129 [] 82 p2_s253 = true := by decide +kernel
theorem p2_s253_s {X : Int → Int} {LX : Nat} : ck_Ok p2_O X LX 129 p2_s253 := ck_ok_s ⟨p2_nmu, ck_E0⟩ ck_X0 ck_l0 p2_s253_e
set_option maxRecDepth 100000 in
/-- GlacierMail$Ice.heatIn -/
def p2_s254 : ck_Sum := ((0, 0, 0), 245, [.inr (.inr (.inl 200)), .inl (0, 299, [])], ([], [], []), ([], []), [(.inr (some (.inl (0, 9, []))), 245, ([], [], []))])
set_option maxRecDepth 100000 in
theorem p2_s254_e : ck_ok p2_O none [] [] 34 [] 92 p2_s254 = true := by decide +kernel
theorem p2_s254_s {X : Int → Int} {LX : Nat} : ck_Ok p2_O X LX 34 p2_s254 := ck_ok_s ⟨p2_nmu, ck_E0⟩ ck_X0 ck_l0 p2_s254_e
set_option maxRecDepth 100000 in
/-- GlacierMail.heat -/
def p2_s255 : ck_Sum := ((1, 0, 0), 245, [.inr (.inr (.inl 1)), .inl (0, 299, [])], ([], [], []), ([], []), [(.inr (some (.inl (0, 9, []))), 245, ([], [], []))])
set_option maxRecDepth 100000 in
theorem p2_s255_e : ck_ok p2_O none [] [(129, [p2_s253]), (34, [p2_s254])] 128 [] 86 p2_s255 = true := by decide +kernel
theorem p2_s255_s {X : Int → Int} {LX : Nat} : ck_Ok p2_O X LX 128 p2_s255 := ck_ok_s ⟨p2_nmu, ck_E1 (ck_S1 p2_s253_s ck_S0) (ck_E1 (ck_S1 p2_s254_s ck_S0) ck_E0)⟩ ck_X0 ck_l0 p2_s255_e
set_option maxRecDepth 100000 in
/-- GlacierMailModel.in -/
def p2_s256 : ck_Sum := ((0, 0, 0), 245, [.inl ((-2147483648), (-1), []), .inl (ck_one 0), .inl (ck_one 299)], ([], [], []), ([], []), [(.inr (some (.inl (ck_one 0))), 245, ([], [], []))])
set_option maxRecDepth 100000 in
theorem p2_s256_e : ck_ok p2_O none [] [] 286 [] 80 p2_s256 = true := by decide +kernel
theorem p2_s256_s {X : Int → Int} {LX : Nat} : ck_Ok p2_O X LX 286 p2_s256 := ck_ok_s ⟨p2_nmu, ck_E0⟩ ck_X0 ck_l0 p2_s256_e
set_option maxRecDepth 100000 in
/-- GlacierMailModel.noYear -/
def p2_s257 : ck_Sum := ((1, 0, 0), 245, [.inl ((-2147483648), (-1), [])], ([], [], []), ([], []), [(.inr (some (.inl (ck_one 1))), 245, ([], [], []))])
set_option maxRecDepth 100000 in
theorem p2_s257_e : ck_ok p2_O none [] [(286, [p2_s256])] 285 [] 86 p2_s257 = true := by decide +kernel
theorem p2_s257_s {X : Int → Int} {LX : Nat} : ck_Ok p2_O X LX 285 p2_s257 := ck_ok_s ⟨p2_nmu, ck_E1 (ck_S1 p2_s256_s ck_S0) ck_E0⟩ ck_X0 ck_l0 p2_s257_e
set_option maxRecDepth 100000 in
/-- GlacierMailModel.heat -/
def p2_s258 : ck_Sum := ((2, 0, 0), 245, [.inr (.inr (.inl 226)), .inl ((-2147483648), (-1), [])], ([], [], []), ([(226, 0, 0)], []), [(.inr (some (.inl (ck_one 0))), 245, ([], [], [(226, 0, 0, ck_one 1)]))])
set_option maxRecDepth 100000 in
theorem p2_s258_e : ck_ok p2_O none [] [(285, [p2_s257]), (282, [p2_s241])] 284 [] 94 p2_s258 = true := by decide +kernel
theorem p2_s258_s {X : Int → Int} {LX : Nat} : ck_Ok p2_O X LX 284 p2_s258 := ck_ok_s ⟨p2_nmu, ck_E1 (ck_S1 p2_s257_s ck_S0) (ck_E1 (ck_S1 p2_s241_s ck_S0) ck_E0)⟩ ck_X0 ck_l0 p2_s258_e
set_option maxRecDepth 100000 in
/-- GlacierMailModel.in -/
def p2_s259 : ck_Sum := ((0, 0, 0), 245, [.inl (300, 2147483647, []), .inl (ck_one 0), .inl (ck_one 299)], ([], [], []), ([], []), [(.inr (some (.inl (ck_one 0))), 245, ([], [], []))])
set_option maxRecDepth 100000 in
theorem p2_s259_e : ck_ok p2_O none [] [] 286 [] 86 p2_s259 = true := by decide +kernel
theorem p2_s259_s {X : Int → Int} {LX : Nat} : ck_Ok p2_O X LX 286 p2_s259 := ck_ok_s ⟨p2_nmu, ck_E0⟩ ck_X0 ck_l0 p2_s259_e
set_option maxRecDepth 100000 in
/-- GlacierMailModel.noYear -/
def p2_s260 : ck_Sum := ((1, 0, 0), 245, [.inl (300, 2147483647, [])], ([], [], []), ([], []), [(.inr (some (.inl (ck_one 1))), 245, ([], [], []))])
set_option maxRecDepth 100000 in
theorem p2_s260_e : ck_ok p2_O none [] [(286, [p2_s259])] 285 [] 86 p2_s260 = true := by decide +kernel
theorem p2_s260_s {X : Int → Int} {LX : Nat} : ck_Ok p2_O X LX 285 p2_s260 := ck_ok_s ⟨p2_nmu, ck_E1 (ck_S1 p2_s259_s ck_S0) ck_E0⟩ ck_X0 ck_l0 p2_s260_e
set_option maxRecDepth 100000 in
/-- GlacierMailModel.heat -/
def p2_s261 : ck_Sum := ((2, 0, 0), 245, [.inr (.inr (.inl 226)), .inl (300, 2147483647, [])], ([], [], []), ([(226, 0, 0)], []), [(.inr (some (.inl (ck_one 0))), 245, ([], [], [(226, 0, 0, ck_one 1)]))])
set_option maxRecDepth 100000 in
theorem p2_s261_e : ck_ok p2_O none [] [(285, [p2_s260]), (282, [p2_s241])] 284 [] 94 p2_s261 = true := by decide +kernel
theorem p2_s261_s {X : Int → Int} {LX : Nat} : ck_Ok p2_O X LX 284 p2_s261 := ck_ok_s ⟨p2_nmu, ck_E1 (ck_S1 p2_s260_s ck_S0) (ck_E1 (ck_S1 p2_s241_s ck_S0) ck_E0)⟩ ck_X0 ck_l0 p2_s261_e
set_option maxRecDepth 100000 in
/-- GlacierMailModel.in -/
def p2_s262 : ck_Sum := ((0, 0, 0), 245, [.inl (0, 299, []), .inl (ck_one 0), .inl (ck_one 299)], ([], [], []), ([], []), [(.inr (some (.inl (ck_one 1))), 245, ([], [], []))])
set_option maxRecDepth 100000 in
theorem p2_s262_e : ck_ok p2_O none [] [] 286 [] 88 p2_s262 = true := by decide +kernel
theorem p2_s262_s {X : Int → Int} {LX : Nat} : ck_Ok p2_O X LX 286 p2_s262 := ck_ok_s ⟨p2_nmu, ck_E0⟩ ck_X0 ck_l0 p2_s262_e
set_option maxRecDepth 100000 in
/-- GlacierMailModel.noYear -/
def p2_s263 : ck_Sum := ((1, 0, 0), 245, [.inl (0, 299, [])], ([], [], []), ([], []), [(.inr (some (.inl (ck_one 0))), 245, ([], [], []))])
set_option maxRecDepth 100000 in
theorem p2_s263_e : ck_ok p2_O none [] [(286, [p2_s262])] 285 [] 84 p2_s263 = true := by decide +kernel
theorem p2_s263_s {X : Int → Int} {LX : Nat} : ck_Ok p2_O X LX 285 p2_s263 := ck_ok_s ⟨p2_nmu, ck_E1 (ck_S1 p2_s262_s ck_S0) ck_E0⟩ ck_X0 ck_l0 p2_s263_e
set_option maxRecDepth 100000 in
/-- GlacierMailModel.heat -/
def p2_s264 : ck_Sum := ((2, 0, 0), 245, [.inr (.inr (.inl 226)), .inl (0, 299, [])], ([], [], []), ([(226, 0, 0)], []), [(.inr (some (.inl (0, 9, []))), 245, ([], [], [(226, 0, 0, ck_one 0)]))])
set_option maxRecDepth 100000 in
theorem p2_s264_e : ck_ok p2_O none [] [(285, [p2_s263]), (282, [p2_s242])] 284 [] 98 p2_s264 = true := by decide +kernel
theorem p2_s264_s {X : Int → Int} {LX : Nat} : ck_Ok p2_O X LX 284 p2_s264 := ck_ok_s ⟨p2_nmu, ck_E1 (ck_S1 p2_s263_s ck_S0) (ck_E1 (ck_S1 p2_s242_s ck_S0) ck_E0)⟩ ck_X0 ck_l0 p2_s264_e
set_option maxRecDepth 100000 in
/-- GlacierMail.need -/
def p2_s265 : ck_Sum := ((6, 1, 6), 245, [.inr (.inr (.inl 1)), .inl ((-2147483648), (-1), []), .inl (1, 6, [])], ([], [], []), ([], []), [(.inl 3, 245, ([], [], []))])
set_option maxRecDepth 100000 in
theorem p2_s265_e : ck_ok p2_O none [] [] 133 [] 76 p2_s265 = true := by decide +kernel
theorem p2_s265_s {X : Int → Int} {LX : Nat} : ck_Ok p2_O X LX 133 p2_s265 := ck_ok_s ⟨p2_nmu, ck_E0⟩ ck_X0 ck_l0 p2_s265_e
set_option maxRecDepth 100000 in
/-- GlacierMail.needLane -/
def p2_s266 : ck_Sum := ((7, 1, 6), 245, [.inr (.inr (.inl 1)), .inl ((-2147483648), (-1), [])], ([], [], []), ([], []), [(.inl 3, 245, ([], [], []))])
set_option maxRecDepth 100000 in
theorem p2_s266_e : ck_ok p2_O none [] [(133, [p2_s265])] 132 [] 82 p2_s266 = true := by decide +kernel
theorem p2_s266_s {X : Int → Int} {LX : Nat} : ck_Ok p2_O X LX 132 p2_s266 := ck_ok_s ⟨p2_nmu, ck_E1 (ck_S1 p2_s265_s ck_S0) ck_E0⟩ ck_X0 ck_l0 p2_s266_e
set_option maxRecDepth 100000 in
/-- GlacierMail.speed -/
def p2_s267 : ck_Sum := ((8, 1, 6), 245, [.inr (.inr (.inl 1)), .inl ((-2147483648), (-1), []), .inl ((-2147483648), 2147483647, [])], ([], [], []), ([], []), [(.inl 3, 245, ([], [], []))])
set_option maxRecDepth 100000 in
theorem p2_s267_e : ck_ok p2_O none [] [(132, [p2_s266])] 131 [] 76 p2_s267 = true := by decide +kernel
theorem p2_s267_s {X : Int → Int} {LX : Nat} : ck_Ok p2_O X LX 131 p2_s267 := ck_ok_s ⟨p2_nmu, ck_E1 (ck_S1 p2_s266_s ck_S0) ck_E0⟩ ck_X0 ck_l0 p2_s267_e
set_option maxRecDepth 100000 in
/-- GlacierMail.need -/
def p2_s268 : ck_Sum := ((6, 1, 6), 245, [.inr (.inr (.inl 1)), .inl (6, 2147483647, []), .inl (1, 6, [])], ([], [], []), ([], []), [(.inl 3, 245, ([], [], []))])
set_option maxRecDepth 100000 in
theorem p2_s268_e : ck_ok p2_O none [] [] 133 [] 82 p2_s268 = true := by decide +kernel
theorem p2_s268_s {X : Int → Int} {LX : Nat} : ck_Ok p2_O X LX 133 p2_s268 := ck_ok_s ⟨p2_nmu, ck_E0⟩ ck_X0 ck_l0 p2_s268_e
set_option maxRecDepth 100000 in
/-- GlacierMail.needLane -/
def p2_s269 : ck_Sum := ((7, 1, 6), 245, [.inr (.inr (.inl 1)), .inl (6, 2147483647, [])], ([], [], []), ([], []), [(.inl 3, 245, ([], [], []))])
set_option maxRecDepth 100000 in
theorem p2_s269_e : ck_ok p2_O none [] [(133, [p2_s268])] 132 [] 82 p2_s269 = true := by decide +kernel
theorem p2_s269_s {X : Int → Int} {LX : Nat} : ck_Ok p2_O X LX 132 p2_s269 := ck_ok_s ⟨p2_nmu, ck_E1 (ck_S1 p2_s268_s ck_S0) ck_E0⟩ ck_X0 ck_l0 p2_s269_e
