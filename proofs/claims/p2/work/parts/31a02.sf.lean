/-! EVERY CALL ENDS, whatever was done before (laid by wip/am/p2g.py). -/
set_option maxRecDepth 100000 in
/-- GlacierMailModel.number -/
def p2_s229 : ck_Sum := ((3, 0, 0), 245, [.inr (.inr (.inl 226)), .inl (ck_one 0), .inl (ck_one 0)], ([], [], [(226, 9, 9, (0, 400, [(1, 0)]))]), ([(226, 9, 9), (226, 11, 11)], []), [(.inr (some (.inl (ck_one (-1)))), 245, ([], [], [(226, 9, 9, (0, 400, [(1000001, 0)])), (226, 11, 11, (0, 400, [(1000001, 0)]))])), (.inr (some (.inl (ck_one 0))), 245, ([], [], [(226, 9, 9, (0, 400, [(1000001, 0)])), (226, 11, 11, (0, 400, [(1000001, 0)]))]))])
set_option maxRecDepth 100000 in
theorem p2_s229_e : ck_ok p2_O none [] [(256, [p2_s228])] 255 [] 82 p2_s229 = true := by decide +kernel
theorem p2_s229_s {X : Int → Int} {LX : Nat} : ck_Ok p2_O X LX 255 p2_s229 := ck_ok_s ⟨p2_nmu, ck_E1 (ck_S1 p2_s228_s ck_S0) ck_E0⟩ ck_X0 ck_l0 p2_s229_e
set_option maxRecDepth 100000 in
/-- GlacierMailModel.figures -/
def p2_s231 : ck_Sum := ((2, 0, 0), 245, [.inr (.inr (.inl 226)), .inl (1, 99, []), .inl ((-1), 98, []), .inl (ck_one 4)], ([], [], [(226, 9, 9, (0, 400, [(1, 0)]))]), ([(226, 9, 9), (226, 11, 11)], []), [(.inr (some (.inl (ck_one (-1)))), 245, ([], [], [(226, 9, 9, (0, 400, [(1000001, 0)])), (226, 11, 11, (0, 400, [(1000001, 0)]))])), (.inr (some (.inl (1, 98, []))), 245, ([], [], [(226, 9, 9, (0, 400, [(1000001, 0)])), (226, 11, 11, (0, 400, [(1000001, 0)]))]))])
set_option maxRecDepth 100000 in
theorem p2_s231_e : ck_ok p2_O none [] [(245, [p2_s168]), (246, [p2_s181])] 256 [(7, [some (.inr (.inr (.inl 226))), some (.inl (1, 99, [])), some (.inl ((-1), 98, [])), some (.inl (ck_one 4)), some (.inl ((-2147483648), 2147483647, []))], ([], [], [(226, 11, 11, (0, 400, [(1000001, 0)])), (226, 9, 9, (0, 400, [(1000001, 0)]))]), 100, .inr (226, 9), true)] 222 p2_s231 = true := by decide +kernel
theorem p2_s231_s {X : Int → Int} {LX : Nat} : ck_Ok p2_O X LX 256 p2_s231 := ck_ok_s ⟨p2_nmu, ck_E1 (ck_S1 p2_s168_s ck_S0) (ck_E1 (ck_S1 p2_s181_s ck_S0) ck_E0)⟩ ck_X0 ck_l0 p2_s231_e
set_option maxRecDepth 100000 in
/-- GlacierMailModel.number -/
def p2_s232 : ck_Sum := ((3, 0, 0), 245, [.inr (.inr (.inl 226)), .inl (1, 99, []), .inl ((-1), 98, [])], ([], [], [(226, 9, 9, (0, 400, [(1, 0)]))]), ([(226, 9, 9), (226, 11, 11)], []), [(.inr (some (.inl (ck_one (-1)))), 245, ([], [], [(226, 9, 9, (0, 400, [(1000001, 0)])), (226, 11, 11, (0, 400, [(1000001, 0)]))])), (.inr (some (.inl (1, 98, []))), 245, ([], [], [(226, 9, 9, (0, 400, [(1000001, 0)])), (226, 11, 11, (0, 400, [(1000001, 0)]))]))])
set_option maxRecDepth 100000 in
theorem p2_s232_e : ck_ok p2_O none [] [(256, [p2_s231])] 255 [] 82 p2_s232 = true := by decide +kernel
theorem p2_s232_s {X : Int → Int} {LX : Nat} : ck_Ok p2_O X LX 255 p2_s232 := ck_ok_s ⟨p2_nmu, ck_E1 (ck_S1 p2_s231_s ck_S0) ck_E0⟩ ck_X0 ck_l0 p2_s232_e
set_option maxRecDepth 100000 in
/-- GlacierMailModel.figures -/
def p2_s239 : ck_Sum := ((2, 0, 0), 245, [.inr (.inr (.inl 226)), .inl (ck_one 1), .inl ((-1), 98, []), .inl (ck_one 4)], ([], [], [(226, 9, 9, (0, 400, [(1, 0)]))]), ([(226, 9, 9), (226, 11, 11)], []), [(.inr (some (.inl (ck_one (-1)))), 245, ([], [], [(226, 9, 9, (0, 400, [(1000001, 0)])), (226, 11, 11, (0, 400, [(1000001, 0)]))])), (.inr (some (.inl (1, 98, []))), 245, ([], [], [(226, 9, 9, (0, 400, [(1000001, 0)])), (226, 11, 11, (0, 400, [(1000001, 0)]))]))])
set_option maxRecDepth 100000 in
theorem p2_s239_e : ck_ok p2_O none [] [(245, [p2_s168]), (246, [p2_s181])] 256 [(7, [some (.inr (.inr (.inl 226))), some (.inl (ck_one 1)), some (.inl ((-1), 98, [])), some (.inl (ck_one 4)), some (.inl ((-2147483648), 2147483647, []))], ([], [], [(226, 11, 11, (0, 400, [(1000001, 0)])), (226, 9, 9, (0, 400, [(1000001, 0)]))]), 100, .inr (226, 9), true)] 222 p2_s239 = true := by decide +kernel
theorem p2_s239_s {X : Int → Int} {LX : Nat} : ck_Ok p2_O X LX 256 p2_s239 := ck_ok_s ⟨p2_nmu, ck_E1 (ck_S1 p2_s168_s ck_S0) (ck_E1 (ck_S1 p2_s181_s ck_S0) ck_E0)⟩ ck_X0 ck_l0 p2_s239_e
set_option maxRecDepth 100000 in
/-- GlacierMailModel.number -/
def p2_s240 : ck_Sum := ((3, 0, 0), 245, [.inr (.inr (.inl 226)), .inl (ck_one 1), .inl ((-1), 98, [])], ([], [], [(226, 9, 9, (0, 400, [(1, 0)]))]), ([(226, 9, 9), (226, 11, 11)], []), [(.inr (some (.inl (ck_one (-1)))), 245, ([], [], [(226, 9, 9, (0, 400, [(1000001, 0)])), (226, 11, 11, (0, 400, [(1000001, 0)]))])), (.inr (some (.inl (1, 98, []))), 245, ([], [], [(226, 9, 9, (0, 400, [(1000001, 0)])), (226, 11, 11, (0, 400, [(1000001, 0)]))]))])
set_option maxRecDepth 100000 in
theorem p2_s240_e : ck_ok p2_O none [] [(256, [p2_s239])] 255 [] 82 p2_s240 = true := by decide +kernel
theorem p2_s240_s {X : Int → Int} {LX : Nat} : ck_Ok p2_O X LX 255 p2_s240 := ck_ok_s ⟨p2_nmu, ck_E1 (ck_S1 p2_s239_s ck_S0) ck_E0⟩ ck_X0 ck_l0 p2_s240_e
set_option maxRecDepth 100000 in
/-- GlacierMailModel.readSpeeds -/
def p2_s230 : ck_Sum := ((4, 0, 0), 245, [.inr (.inr (.inl 226)), .inl (ck_one 16)], ([], [], [(226, 9, 9, (0, 400, [(1, 0)]))]), ([(226, 9, 9), (226, 11, 11), (227, 16, 21)], []), [(.inr (some (.inl (ck_one 1))), 245, ([], [], [(226, 9, 9, (0, 400, [(1000001, 0)]))])), (.inr (some (.inl (ck_one 0))), 245, ([], [], [(226, 9, 9, (0, 400, [(1000001, 0)])), (226, 11, 11, (0, 400, [(1000001, 0)]))]))])
set_option maxRecDepth 100000 in
theorem p2_s230_e : ck_ok p2_O none [] [(261, [p2_s184]), (255, [p2_s188])] 260 [(2, [some (.inr (.inr (.inl 226))), some (.inl (ck_one 16)), some (.inl (0, 6, [])), none], ([], [], [(226, 9, 9, (0, 400, [(1000001, 0)]))]), 100, .inl 2, true)] 174 p2_s230 = true := by decide +kernel
theorem p2_s230_s {X : Int → Int} {LX : Nat} : ck_Ok p2_O X LX 260 p2_s230 := ck_ok_s ⟨p2_nmu, ck_E1 (ck_S1 p2_s184_s ck_S0) (ck_E1 (ck_S1 p2_s188_s ck_S0) ck_E0)⟩ ck_X0 ck_l0 p2_s230_e
set_option maxRecDepth 100000 in
/-- GlacierMailModel.readSpeeds -/
def p2_s233 : ck_Sum := ((4, 0, 0), 245, [.inr (.inr (.inl 226)), .inl (ck_one 65)], ([], [], [(226, 9, 9, (0, 400, [(1, 0)]))]), ([(226, 9, 9), (226, 11, 11), (227, 65, 70)], []), [(.inr (some (.inl (ck_one 1))), 245, ([], [], [(226, 9, 9, (0, 400, [(1000001, 0)]))])), (.inr (some (.inl (ck_one 0))), 245, ([], [], [(226, 9, 9, (0, 400, [(1000001, 0)])), (226, 11, 11, (0, 400, [(1000001, 0)]))]))])
set_option maxRecDepth 100000 in
theorem p2_s233_e : ck_ok p2_O none [] [(261, [p2_s184]), (255, [p2_s188])] 260 [(2, [some (.inr (.inr (.inl 226))), some (.inl (ck_one 65)), some (.inl (0, 6, [])), none], ([], [], [(226, 9, 9, (0, 400, [(1000001, 0)]))]), 100, .inl 2, true)] 174 p2_s233 = true := by decide +kernel
theorem p2_s233_s {X : Int → Int} {LX : Nat} : ck_Ok p2_O X LX 260 p2_s233 := ck_ok_s ⟨p2_nmu, ck_E1 (ck_S1 p2_s184_s ck_S0) (ck_E1 (ck_S1 p2_s188_s ck_S0) ck_E0)⟩ ck_X0 ck_l0 p2_s233_e
set_option maxRecDepth 100000 in
/-- GlacierMailModel.readSpeeds -/
def p2_s234 : ck_Sum := ((4, 0, 0), 245, [.inr (.inr (.inl 226)), .inl (ck_one 58)], ([], [], [(226, 9, 9, (0, 400, [(1, 0)]))]), ([(226, 9, 9), (226, 11, 11), (227, 58, 63)], []), [(.inr (some (.inl (ck_one 1))), 245, ([], [], [(226, 9, 9, (0, 400, [(1000001, 0)]))])), (.inr (some (.inl (ck_one 0))), 245, ([], [], [(226, 9, 9, (0, 400, [(1000001, 0)])), (226, 11, 11, (0, 400, [(1000001, 0)]))]))])
set_option maxRecDepth 100000 in
theorem p2_s234_e : ck_ok p2_O none [] [(261, [p2_s184]), (255, [p2_s188])] 260 [(2, [some (.inr (.inr (.inl 226))), some (.inl (ck_one 58)), some (.inl (0, 6, [])), none], ([], [], [(226, 9, 9, (0, 400, [(1000001, 0)]))]), 100, .inl 2, true)] 174 p2_s234 = true := by decide +kernel
theorem p2_s234_s {X : Int → Int} {LX : Nat} : ck_Ok p2_O X LX 260 p2_s234 := ck_ok_s ⟨p2_nmu, ck_E1 (ck_S1 p2_s184_s ck_S0) (ck_E1 (ck_S1 p2_s188_s ck_S0) ck_E0)⟩ ck_X0 ck_l0 p2_s234_e
set_option maxRecDepth 100000 in
/-- GlacierMailModel.readSpeeds -/
def p2_s235 : ck_Sum := ((4, 0, 0), 245, [.inr (.inr (.inl 226)), .inl (ck_one 51)], ([], [], [(226, 9, 9, (0, 400, [(1, 0)]))]), ([(226, 9, 9), (226, 11, 11), (227, 51, 56)], []), [(.inr (some (.inl (ck_one 1))), 245, ([], [], [(226, 9, 9, (0, 400, [(1000001, 0)]))])), (.inr (some (.inl (ck_one 0))), 245, ([], [], [(226, 9, 9, (0, 400, [(1000001, 0)])), (226, 11, 11, (0, 400, [(1000001, 0)]))]))])
set_option maxRecDepth 100000 in
theorem p2_s235_e : ck_ok p2_O none [] [(261, [p2_s184]), (255, [p2_s188])] 260 [(2, [some (.inr (.inr (.inl 226))), some (.inl (ck_one 51)), some (.inl (0, 6, [])), none], ([], [], [(226, 9, 9, (0, 400, [(1000001, 0)]))]), 100, .inl 2, true)] 174 p2_s235 = true := by decide +kernel
theorem p2_s235_s {X : Int → Int} {LX : Nat} : ck_Ok p2_O X LX 260 p2_s235 := ck_ok_s ⟨p2_nmu, ck_E1 (ck_S1 p2_s184_s ck_S0) (ck_E1 (ck_S1 p2_s188_s ck_S0) ck_E0)⟩ ck_X0 ck_l0 p2_s235_e
set_option maxRecDepth 100000 in
/-- GlacierMailModel.readSpeeds -/
def p2_s236 : ck_Sum := ((4, 0, 0), 245, [.inr (.inr (.inl 226)), .inl (ck_one 44)], ([], [], [(226, 9, 9, (0, 400, [(1, 0)]))]), ([(226, 9, 9), (226, 11, 11), (227, 44, 49)], []), [(.inr (some (.inl (ck_one 1))), 245, ([], [], [(226, 9, 9, (0, 400, [(1000001, 0)]))])), (.inr (some (.inl (ck_one 0))), 245, ([], [], [(226, 9, 9, (0, 400, [(1000001, 0)])), (226, 11, 11, (0, 400, [(1000001, 0)]))]))])
set_option maxRecDepth 100000 in
theorem p2_s236_e : ck_ok p2_O none [] [(261, [p2_s184]), (255, [p2_s188])] 260 [(2, [some (.inr (.inr (.inl 226))), some (.inl (ck_one 44)), some (.inl (0, 6, [])), none], ([], [], [(226, 9, 9, (0, 400, [(1000001, 0)]))]), 100, .inl 2, true)] 174 p2_s236 = true := by decide +kernel
theorem p2_s236_s {X : Int → Int} {LX : Nat} : ck_Ok p2_O X LX 260 p2_s236 := ck_ok_s ⟨p2_nmu, ck_E1 (ck_S1 p2_s184_s ck_S0) (ck_E1 (ck_S1 p2_s188_s ck_S0) ck_E0)⟩ ck_X0 ck_l0 p2_s236_e
set_option maxRecDepth 100000 in
/-- GlacierMailModel.readSpeeds -/
def p2_s237 : ck_Sum := ((4, 0, 0), 245, [.inr (.inr (.inl 226)), .inl (ck_one 37)], ([], [], [(226, 9, 9, (0, 400, [(1, 0)]))]), ([(226, 9, 9), (226, 11, 11), (227, 37, 42)], []), [(.inr (some (.inl (ck_one 1))), 245, ([], [], [(226, 9, 9, (0, 400, [(1000001, 0)]))])), (.inr (some (.inl (ck_one 0))), 245, ([], [], [(226, 9, 9, (0, 400, [(1000001, 0)])), (226, 11, 11, (0, 400, [(1000001, 0)]))]))])
set_option maxRecDepth 100000 in
theorem p2_s237_e : ck_ok p2_O none [] [(261, [p2_s184]), (255, [p2_s188])] 260 [(2, [some (.inr (.inr (.inl 226))), some (.inl (ck_one 37)), some (.inl (0, 6, [])), none], ([], [], [(226, 9, 9, (0, 400, [(1000001, 0)]))]), 100, .inl 2, true)] 174 p2_s237 = true := by decide +kernel
theorem p2_s237_s {X : Int → Int} {LX : Nat} : ck_Ok p2_O X LX 260 p2_s237 := ck_ok_s ⟨p2_nmu, ck_E1 (ck_S1 p2_s184_s ck_S0) (ck_E1 (ck_S1 p2_s188_s ck_S0) ck_E0)⟩ ck_X0 ck_l0 p2_s237_e
set_option maxRecDepth 100000 in
/-- GlacierMailModel.readSpeeds -/
def p2_s238 : ck_Sum := ((4, 0, 0), 245, [.inr (.inr (.inl 226)), .inl (ck_one 30)], ([], [], [(226, 9, 9, (0, 400, [(1, 0)]))]), ([(226, 9, 9), (226, 11, 11), (227, 30, 35)], []), [(.inr (some (.inl (ck_one 1))), 245, ([], [], [(226, 9, 9, (0, 400, [(1000001, 0)]))])), (.inr (some (.inl (ck_one 0))), 245, ([], [], [(226, 9, 9, (0, 400, [(1000001, 0)])), (226, 11, 11, (0, 400, [(1000001, 0)]))]))])
set_option maxRecDepth 100000 in
theorem p2_s238_e : ck_ok p2_O none [] [(261, [p2_s184]), (255, [p2_s188])] 260 [(2, [some (.inr (.inr (.inl 226))), some (.inl (ck_one 30)), some (.inl (0, 6, [])), none], ([], [], [(226, 9, 9, (0, 400, [(1000001, 0)]))]), 100, .inl 2, true)] 174 p2_s238 = true := by decide +kernel
theorem p2_s238_s {X : Int → Int} {LX : Nat} : ck_Ok p2_O X LX 260 p2_s238 := ck_ok_s ⟨p2_nmu, ck_E1 (ck_S1 p2_s184_s ck_S0) (ck_E1 (ck_S1 p2_s188_s ck_S0) ck_E0)⟩ ck_X0 ck_l0 p2_s238_e
set_option maxRecDepth 100000 in
/-- GlacierMailModel.readSpeeds -/
def p2_s241 : ck_Sum := ((4, 0, 0), 245, [.inr (.inr (.inl 226)), .inl (ck_one 23)], ([], [], [(226, 9, 9, (0, 400, [(1, 0)]))]), ([(226, 9, 9), (226, 11, 11), (227, 23, 28)], []), [(.inr (some (.inl (ck_one 1))), 245, ([], [], [(226, 9, 9, (0, 400, [(1000001, 0)]))])), (.inr (some (.inl (ck_one 0))), 245, ([], [], [(226, 9, 9, (0, 400, [(1000001, 0)])), (226, 11, 11, (0, 400, [(1000001, 0)]))]))])
set_option maxRecDepth 100000 in
theorem p2_s241_e : ck_ok p2_O none [] [(261, [p2_s184]), (255, [p2_s188])] 260 [(2, [some (.inr (.inr (.inl 226))), some (.inl (ck_one 23)), some (.inl (0, 6, [])), none], ([], [], [(226, 9, 9, (0, 400, [(1000001, 0)]))]), 100, .inl 2, true)] 174 p2_s241 = true := by decide +kernel
theorem p2_s241_s {X : Int → Int} {LX : Nat} : ck_Ok p2_O X LX 260 p2_s241 := ck_ok_s ⟨p2_nmu, ck_E1 (ck_S1 p2_s184_s ck_S0) (ck_E1 (ck_S1 p2_s188_s ck_S0) ck_E0)⟩ ck_X0 ck_l0 p2_s241_e
set_option maxRecDepth 100000 in
/-- GlacierMailModel.readSection -/
def p2_s242 : ck_Sum := ((5, 0, 0), 245, [.inr (.inr (.inl 226))], ([], [], [(227, 2, 2, (0, 8, [(20, 0)])), (226, 9, 9, (0, 400, [(1, 0)]))]), ([(226, 9, 9), (226, 11, 11), (227, 2, 2), (227, 15, 70)], []), [(.inr (some (.inl (ck_one 0))), 245, ([], [], [(226, 9, 9, (0, 400, [(1000001, 0)])), (227, 2, 2, (0, 8, [(20, 0)]))])), (.inr (some (.inl (ck_one 1))), 245, ([], [], [(227, 2, 2, (1, 8, [])), (226, 9, 9, (0, 400, [(1000001, 0)]))]))])
set_option maxRecDepth 100000 in
theorem p2_s242_e : ck_ok p2_O none [] [(255, [p2_s229, p2_s232, p2_s240]), (260, [p2_s230, p2_s233, p2_s234, p2_s235, p2_s236, p2_s237, p2_s238, p2_s241]), (259, [p2_s200])] 258 [] 178 p2_s242 = true := by decide +kernel
theorem p2_s242_s {X : Int → Int} {LX : Nat} : ck_Ok p2_O X LX 258 p2_s242 := ck_ok_s ⟨p2_nmu, ck_E1 (ck_S1 p2_s229_s (ck_S1 p2_s232_s (ck_S1 p2_s240_s ck_S0))) (ck_E1 (ck_S1 p2_s230_s (ck_S1 p2_s233_s (ck_S1 p2_s234_s (ck_S1 p2_s235_s (ck_S1 p2_s236_s (ck_S1 p2_s237_s (ck_S1 p2_s238_s (ck_S1 p2_s241_s ck_S0)))))))) (ck_E1 (ck_S1 p2_s200_s ck_S0) ck_E0))⟩ ck_X0 ck_l0 p2_s242_e
set_option maxRecDepth 100000 in
/-- GlacierMailModel.isEmpty -/
def p2_s243 : ck_Sum := ((1, 0, 0), 245, [.inr (.inr (.inl 226))], ([], [], [(227, 2, 2, (0, 8, [(20, 0)])), (227, 3, 3, (0, 8, [(21, 0)])), (227, 4, 4, (0, 24, [(22, 0)])), (227, 5, 5, (0, 8, [(23, 0)])), (227, 6, 6, (0, 6, [(24, 0)]))]), ([], []), [(.inr (some (.inl (ck_one 0))), 245, ([], [], [])), (.inr (some (.inl (ck_one 1))), 245, ([], [], []))])
set_option maxRecDepth 100000 in
theorem p2_s243_e : ck_ok p2_O none [] [(253, [p2_s214]), (254, [p2_s196])] 252 [] 118 p2_s243 = true := by decide +kernel
theorem p2_s243_s {X : Int → Int} {LX : Nat} : ck_Ok p2_O X LX 252 p2_s243 := ck_ok_s ⟨p2_nmu, ck_E1 (ck_S1 p2_s214_s ck_S0) (ck_E1 (ck_S1 p2_s196_s ck_S0) ck_E0)⟩ ck_X0 ck_l0 p2_s243_e
set_option maxRecDepth 100000 in
/-- GlacierMailModel.figures -/
def p2_s244 : ck_Sum := ((2, 0, 0), 245, [.inr (.inr (.inl 226)), .inl (ck_one 10), .inl (ck_one 99), .inl (ck_one 4)], ([], [], [(226, 9, 9, (0, 400, [(1, 0)]))]), ([(226, 9, 9), (226, 11, 11)], []), [(.inr (some (.inl (ck_one (-1)))), 245, ([], [], [(226, 9, 9, (0, 400, [(1000001, 0)])), (226, 11, 11, (0, 400, [(1000001, 0)]))])), (.inr (some (.inl (10, 99, []))), 245, ([], [], [(226, 9, 9, (0, 400, [(1000001, 0)])), (226, 11, 11, (0, 400, [(1000001, 0)]))]))])
set_option maxRecDepth 100000 in
theorem p2_s244_e : ck_ok p2_O none [] [(245, [p2_s168]), (246, [p2_s181])] 256 [(7, [some (.inr (.inr (.inl 226))), some (.inl (ck_one 10)), some (.inl (ck_one 99)), some (.inl (ck_one 4)), some (.inl ((-2147483648), 2147483647, []))], ([], [], [(226, 11, 11, (0, 400, [(1000001, 0)])), (226, 9, 9, (0, 400, [(1000001, 0)]))]), 100, .inr (226, 9), true)] 222 p2_s244 = true := by decide +kernel
theorem p2_s244_s {X : Int → Int} {LX : Nat} : ck_Ok p2_O X LX 256 p2_s244 := ck_ok_s ⟨p2_nmu, ck_E1 (ck_S1 p2_s168_s ck_S0) (ck_E1 (ck_S1 p2_s181_s ck_S0) ck_E0)⟩ ck_X0 ck_l0 p2_s244_e
set_option maxRecDepth 100000 in
/-- GlacierMailModel.number -/
def p2_s245 : ck_Sum := ((3, 0, 0), 245, [.inr (.inr (.inl 226)), .inl (ck_one 10), .inl (ck_one 99)], ([], [], [(226, 9, 9, (0, 400, [(1, 0)]))]), ([(226, 9, 9), (226, 11, 11)], []), [(.inr (some (.inl (ck_one (-1)))), 245, ([], [], [(226, 9, 9, (0, 400, [(1000001, 0)])), (226, 11, 11, (0, 400, [(1000001, 0)]))])), (.inr (some (.inl (10, 99, []))), 245, ([], [], [(226, 9, 9, (0, 400, [(1000001, 0)])), (226, 11, 11, (0, 400, [(1000001, 0)]))]))])
set_option maxRecDepth 100000 in
theorem p2_s245_e : ck_ok p2_O none [] [(256, [p2_s244])] 255 [] 82 p2_s245 = true := by decide +kernel
theorem p2_s245_s {X : Int → Int} {LX : Nat} : ck_Ok p2_O X LX 255 p2_s245 := ck_ok_s ⟨p2_nmu, ck_E1 (ck_S1 p2_s244_s ck_S0) ck_E0⟩ ck_X0 ck_l0 p2_s245_e
set_option maxRecDepth 100000 in
/-- GlacierMailModel.readLast -/
def p2_s246 : ck_Sum := ((4, 0, 0), 245, [.inr (.inr (.inl 226))], ([], [], [(227, 2, 2, (0, 8, [(20, 0)])), (227, 3, 3, (0, 8, [(21, 0)])), (227, 4, 4, (0, 24, [(22, 0)])), (227, 5, 5, (0, 8, [(23, 0)])), (227, 6, 6, (0, 6, [(24, 0)])), (226, 9, 9, (0, 400, [(1, 0)]))]), ([(226, 9, 9), (226, 11, 11), (227, 1, 1), (227, 10, 10)], []), [(.inr (some (.inl (ck_one 0))), 245, ([], [], [(226, 9, 9, (0, 400, [(1000001, 0)]))])), (.inr (some (.inl (ck_one 1))), 245, ([], [], [(227, 10, 10, ck_one 10), (227, 1, 1, (10, 99, [])), (226, 9, 9, (0, 400, [(1000001, 0)])), (226, 11, 11, (0, 400, [(1000001, 0)]))]))])
set_option maxRecDepth 100000 in
theorem p2_s246_e : ck_ok p2_O none [] [(252, [p2_s243]), (255, [p2_s245])] 257 [] 114 p2_s246 = true := by decide +kernel
theorem p2_s246_s {X : Int → Int} {LX : Nat} : ck_Ok p2_O X LX 257 p2_s246 := ck_ok_s ⟨p2_nmu, ck_E1 (ck_S1 p2_s243_s ck_S0) (ck_E1 (ck_S1 p2_s245_s ck_S0) ck_E0)⟩ ck_X0 ck_l0 p2_s246_e
set_option maxRecDepth 100000 in
/-- GlacierMailModel.figures -/
def p2_s247 : ck_Sum := ((2, 0, 0), 245, [.inr (.inr (.inl 226)), .inl (ck_one 1), .inl (ck_one 6), .inl (ck_one 4)], ([], [], [(226, 9, 9, (0, 400, [(1, 0)]))]), ([(226, 9, 9), (226, 11, 11)], []), [(.inr (some (.inl (ck_one (-1)))), 245, ([], [], [(226, 9, 9, (0, 400, [(1000001, 0)])), (226, 11, 11, (0, 400, [(1000001, 0)]))])), (.inr (some (.inl (1, 6, []))), 245, ([], [], [(226, 9, 9, (0, 400, [(1000001, 0)])), (226, 11, 11, (0, 400, [(1000001, 0)]))]))])
set_option maxRecDepth 100000 in
theorem p2_s247_e : ck_ok p2_O none [] [(245, [p2_s168]), (246, [p2_s181])] 256 [(7, [some (.inr (.inr (.inl 226))), some (.inl (ck_one 1)), some (.inl (ck_one 6)), some (.inl (ck_one 4)), some (.inl ((-2147483648), 2147483647, []))], ([], [], [(226, 11, 11, (0, 400, [(1000001, 0)])), (226, 9, 9, (0, 400, [(1000001, 0)]))]), 100, .inr (226, 9), true)] 222 p2_s247 = true := by decide +kernel
theorem p2_s247_s {X : Int → Int} {LX : Nat} : ck_Ok p2_O X LX 256 p2_s247 := ck_ok_s ⟨p2_nmu, ck_E1 (ck_S1 p2_s168_s ck_S0) (ck_E1 (ck_S1 p2_s181_s ck_S0) ck_E0)⟩ ck_X0 ck_l0 p2_s247_e
set_option maxRecDepth 100000 in
/-- GlacierMailModel.number -/
def p2_s248 : ck_Sum := ((3, 0, 0), 245, [.inr (.inr (.inl 226)), .inl (ck_one 1), .inl (ck_one 6)], ([], [], [(226, 9, 9, (0, 400, [(1, 0)]))]), ([(226, 9, 9), (226, 11, 11)], []), [(.inr (some (.inl (ck_one (-1)))), 245, ([], [], [(226, 9, 9, (0, 400, [(1000001, 0)])), (226, 11, 11, (0, 400, [(1000001, 0)]))])), (.inr (some (.inl (1, 6, []))), 245, ([], [], [(226, 9, 9, (0, 400, [(1000001, 0)])), (226, 11, 11, (0, 400, [(1000001, 0)]))]))])
set_option maxRecDepth 100000 in
theorem p2_s248_e : ck_ok p2_O none [] [(256, [p2_s247])] 255 [] 82 p2_s248 = true := by decide +kernel
theorem p2_s248_s {X : Int → Int} {LX : Nat} : ck_Ok p2_O X LX 255 p2_s248 := ck_ok_s ⟨p2_nmu, ck_E1 (ck_S1 p2_s247_s ck_S0) ck_E0⟩ ck_X0 ck_l0 p2_s248_e
set_option maxRecDepth 100000 in
/-- GlacierMailModel.readLanes -/
def p2_s249 : ck_Sum := ((4, 0, 0), 245, [.inr (.inr (.inl 226))], ([], [], [(227, 2, 2, (0, 8, [(20, 0)])), (227, 3, 3, (0, 8, [(21, 0)])), (227, 4, 4, (0, 24, [(22, 0)])), (227, 5, 5, (0, 8, [(23, 0)])), (227, 6, 6, (0, 6, [(24, 0)])), (226, 9, 9, (0, 400, [(1, 0)]))]), ([(226, 9, 9), (226, 11, 11), (227, 0, 0), (227, 12, 12)], []), [(.inr (some (.inl (ck_one 0))), 245, ([], [], [(226, 9, 9, (0, 400, [(1000001, 0)]))])), (.inr (some (.inl (ck_one 1))), 245, ([], [], [(227, 12, 12, (1, 6, [])), (227, 0, 0, (1, 6, [])), (226, 9, 9, (0, 400, [(1000001, 0)])), (226, 11, 11, (0, 400, [(1000001, 0)]))]))])
set_option maxRecDepth 100000 in
theorem p2_s249_e : ck_ok p2_O none [] [(252, [p2_s243]), (255, [p2_s248])] 251 [] 114 p2_s249 = true := by decide +kernel
theorem p2_s249_s {X : Int → Int} {LX : Nat} : ck_Ok p2_O X LX 251 p2_s249 := ck_ok_s ⟨p2_nmu, ck_E1 (ck_S1 p2_s243_s ck_S0) (ck_E1 (ck_S1 p2_s248_s ck_S0) ck_E0)⟩ ck_X0 ck_l0 p2_s249_e
set_option maxRecDepth 100000 in
/-- GlacierMailModel.readLine -/
def p2_s266 : ck_Sum := ((3, 0, 0), 245, [.inr (.inr (.inl 226)), .inl (ck_one 1), .inl (ck_one 14)], ([], [], [(226, 9, 9, (0, 400, [(1, 0)]))]), ([(226, 9, 9), (226, 11, 11)], []), [(.inr (some (.inl (ck_one 0))), 245, ([], [], [(226, 9, 9, (0, 400, [(1000001, 0)])), (226, 11, 11, (0, 400, [(1000001, 0)]))]))])
set_option maxRecDepth 100000 in
theorem p2_s266_e : ck_ok p2_O none [] [(248, [p2_s170])] 247 [] 90 p2_s266 = true := by decide +kernel
theorem p2_s266_s {X : Int → Int} {LX : Nat} : ck_Ok p2_O X LX 247 p2_s266 := ck_ok_s ⟨p2_nmu, ck_E1 (ck_S1 p2_s170_s ck_S0) ck_E0⟩ ck_X0 ck_l0 p2_s266_e
set_option maxRecDepth 100000 in
/-- GlacierMailModel.isAt -/
def p2_s252 : ck_Sum := ((0, 0, 0), 245, [.inr (.inr (.inl 226)), .inl (ck_one 59), .inl (ck_one 59)], ([], [], [(226, 9, 9, (0, 400, [(1, 0)]))]), ([], []), [(.inr (some (.inl (ck_one 0))), 245, ([], [], [])), (.inr (some (.inl (ck_one 1))), 245, ([], [], [(226, 10, 10, (1, 400, [])), (226, 9, 9, (0, 399, [(1, 0)]))]))])
set_option maxRecDepth 100000 in
theorem p2_s252_e : ck_ok p2_O none [] [] 246 [] 114 p2_s252 = true := by decide +kernel
theorem p2_s252_s {X : Int → Int} {LX : Nat} : ck_Ok p2_O X LX 246 p2_s252 := ck_ok_s ⟨p2_nmu, ck_E0⟩ ck_X0 ck_l0 p2_s252_e
set_option maxRecDepth 100000 in
/-- GlacierMailModel.throwsIf -/
def p2_s268 : ck_Sum := ((0, 0, 0), 245, [.inr (.inr (.inl 226)), .inl (ck_one 1), .inl (ck_one 1)], ([], [], []), ([(226, 0, 0)], []), [(.inr (some (.inl (ck_one 1))), 245, ([], [], [(226, 0, 0, ck_one 1)]))])
set_option maxRecDepth 100000 in
theorem p2_s268_e : ck_ok p2_O none [] [] 282 [] 84 p2_s268 = true := by decide +kernel
theorem p2_s268_s {X : Int → Int} {LX : Nat} : ck_Ok p2_O X LX 282 p2_s268 := ck_ok_s ⟨p2_nmu, ck_E0⟩ ck_X0 ck_l0 p2_s268_e
set_option maxRecDepth 100000 in
/-- GlacierMailModel.throwsIf -/
def p2_s269 : ck_Sum := ((0, 0, 0), 245, [.inr (.inr (.inl 226)), .inl (ck_one 0), .inl (ck_one 1)], ([], [], []), ([], []), [(.inr (some (.inl (ck_one 0))), 245, ([], [], []))])
set_option maxRecDepth 100000 in
theorem p2_s269_e : ck_ok p2_O none [] [] 282 [] 78 p2_s269 = true := by decide +kernel
theorem p2_s269_s {X : Int → Int} {LX : Nat} : ck_Ok p2_O X LX 282 p2_s269 := ck_ok_s ⟨p2_nmu, ck_E0⟩ ck_X0 ck_l0 p2_s269_e
set_option maxRecDepth 100000 in
/-- GlacierMailModel.throwsIf -/
def p2_s270 : ck_Sum := ((0, 0, 0), 245, [.inr (.inr (.inl 226)), .inl (ck_one 0), .inl (ck_one 2)], ([], [], []), ([], []), [(.inr (some (.inl (ck_one 0))), 245, ([], [], []))])
set_option maxRecDepth 100000 in
theorem p2_s270_e : ck_ok p2_O none [] [] 282 [] 78 p2_s270 = true := by decide +kernel
theorem p2_s270_s {X : Int → Int} {LX : Nat} : ck_Ok p2_O X LX 282 p2_s270 := ck_ok_s ⟨p2_nmu, ck_E0⟩ ck_X0 ck_l0 p2_s270_e
set_option maxRecDepth 100000 in
/-- GlacierMailModel.throwsIf -/
def p2_s272 : ck_Sum := ((0, 0, 0), 245, [.inr (.inr (.inl 226)), .inl (ck_one 1), .inl (ck_one 2)], ([], [], []), ([(226, 0, 0)], []), [(.inr (some (.inl (ck_one 1))), 245, ([], [], [(226, 0, 0, ck_one 2)]))])
set_option maxRecDepth 100000 in
theorem p2_s272_e : ck_ok p2_O none [] [] 282 [] 84 p2_s272 = true := by decide +kernel
theorem p2_s272_s {X : Int → Int} {LX : Nat} : ck_Ok p2_O X LX 282 p2_s272 := ck_ok_s ⟨p2_nmu, ck_E0⟩ ck_X0 ck_l0 p2_s272_e
set_option maxRecDepth 100000 in
/-- GlacierMailModel.warms -/
def p2_s271 : ck_Sum := ((0, 0, 0), 245, [.inr (.inr (.inl 226))], ([], [], []), ([(226, 26, 26), (234, 0, 299)], []), [(.inr none, 245, ([], [], [(226, 26, 26, ck_one (-1))]))])
set_option maxRecDepth 100000 in
theorem p2_s271_e : ck_ok p2_O none [] [] 235 [(10, [some (.inr (.inr (.inl 226))), some (.inl ((-2147483648), 2147483647, [])), some (.inl (0, 300, []))], ([], [], []), 100, .inl 2, true)] 182 p2_s271 = true := by decide +kernel
theorem p2_s271_s {X : Int → Int} {LX : Nat} : ck_Ok p2_O X LX 235 p2_s271 := ck_ok_s ⟨p2_nmu, ck_E0⟩ ck_X0 ck_l0 p2_s271_e
set_option maxRecDepth 100000 in
/-- GlacierMail.fault -/
def p2_s274 : ck_Sum := ((0, 0, 0), 245, [.inr (.inr (.inl 1))], ([], [], []), ([], []), [(.inr (some (.inl (ck_one (-1)))), 245, ([], [], [(1, 2, 2, ck_one (-1))])), (.inr (some (.inl (0, 400, []))), 245, ([], [], [(1, 2, 2, (0, 400, []))]))])
set_option maxRecDepth 100000 in
theorem p2_s274_e : ck_ok p2_O none [] [] 22 [] 76 p2_s274 = true := by decide +kernel
theorem p2_s274_s {X : Int → Int} {LX : Nat} : ck_Ok p2_O X LX 22 p2_s274 := ck_ok_s ⟨p2_nmu, ck_E0⟩ ck_X0 ck_l0 p2_s274_e
set_option maxRecDepth 100000 in
/-- GlacierMailModel.fault -/
def p2_s275 : ck_Sum := ((0, 0, 0), 245, [.inr (.inr (.inl 226))], ([], [], []), ([(226, 0, 0)], []), [(.inr (some (.inl (ck_one (-1)))), 245, ([], [], [(226, 13, 13, ck_one (-1)), (226, 0, 0, ck_one 0)])), (.inr (some (.inl (0, 400, []))), 245, ([], [], [(226, 13, 13, (0, 400, [])), (226, 0, 0, ck_one 0)]))])
set_option maxRecDepth 100000 in
theorem p2_s275_e : ck_ok p2_O none [] [] 241 [] 82 p2_s275 = true := by decide +kernel
theorem p2_s275_s {X : Int → Int} {LX : Nat} : ck_Ok p2_O X LX 241 p2_s275 := ck_ok_s ⟨p2_nmu, ck_E0⟩ ck_X0 ck_l0 p2_s275_e
set_option maxRecDepth 100000 in
/-- GlacierMail.needYear -/
def p2_s276 : ck_Sum := ((6, 1, 6), 245, [.inr (.inr (.inl 1)), .inl ((-2147483648), (-1), [])], ([], [], []), ([], []), [(.inl 0, 245, ([], [], []))])
set_option maxRecDepth 100000 in
theorem p2_s276_e : ck_ok p2_O none [] [] 129 [] 76 p2_s276 = true := by decide +kernel
theorem p2_s276_s {X : Int → Int} {LX : Nat} : ck_Ok p2_O X LX 129 p2_s276 := ck_ok_s ⟨p2_nmu, ck_E0⟩ ck_X0 ck_l0 p2_s276_e
set_option maxRecDepth 100000 in
/-- GlacierMail.heat -/
def p2_s277 : ck_Sum := ((7, 1, 6), 245, [.inr (.inr (.inl 1)), .inl ((-2147483648), (-1), [])], ([], [], []), ([], []), [(.inl 0, 245, ([], [], []))])
set_option maxRecDepth 100000 in
theorem p2_s277_e : ck_ok p2_O none [] [(129, [p2_s276])] 128 [] 76 p2_s277 = true := by decide +kernel
theorem p2_s277_s {X : Int → Int} {LX : Nat} : ck_Ok p2_O X LX 128 p2_s277 := ck_ok_s ⟨p2_nmu, ck_E1 (ck_S1 p2_s276_s ck_S0) ck_E0⟩ ck_X0 ck_l0 p2_s277_e
set_option maxRecDepth 100000 in
/-- GlacierMail.needYear -/
def p2_s278 : ck_Sum := ((6, 1, 6), 245, [.inr (.inr (.inl 1)), .inl (300, 2147483647, [])], ([], [], []), ([], []), [(.inl 0, 245, ([], [], []))])
set_option maxRecDepth 100000 in
theorem p2_s278_e : ck_ok p2_O none [] [] 129 [] 82 p2_s278 = true := by decide +kernel
theorem p2_s278_s {X : Int → Int} {LX : Nat} : ck_Ok p2_O X LX 129 p2_s278 := ck_ok_s ⟨p2_nmu, ck_E0⟩ ck_X0 ck_l0 p2_s278_e
set_option maxRecDepth 100000 in
/-- GlacierMail.heat -/
def p2_s279 : ck_Sum := ((7, 1, 6), 245, [.inr (.inr (.inl 1)), .inl (300, 2147483647, [])], ([], [], []), ([], []), [(.inl 0, 245, ([], [], []))])
set_option maxRecDepth 100000 in
theorem p2_s279_e : ck_ok p2_O none [] [(129, [p2_s278])] 128 [] 76 p2_s279 = true := by decide +kernel
theorem p2_s279_s {X : Int → Int} {LX : Nat} : ck_Ok p2_O X LX 128 p2_s279 := ck_ok_s ⟨p2_nmu, ck_E1 (ck_S1 p2_s278_s ck_S0) ck_E0⟩ ck_X0 ck_l0 p2_s279_e
set_option maxRecDepth 100000 in
/-- GlacierMail.needYear -/
def p2_s280 : ck_Sum := ((0, 0, 0), 245, [.inr (.inr (.inl 1)), .inl (0, 299, [])], ([], [], []), ([], []), [(.inr none, 245, ([], [], []))])
set_option maxRecDepth 100000 in
theorem p2_s280_e : ck_ok p2_O none [] [] 129 [] 82 p2_s280 = true := by decide +kernel
theorem p2_s280_s {X : Int → Int} {LX : Nat} : ck_Ok p2_O X LX 129 p2_s280 := ck_ok_s ⟨p2_nmu, ck_E0⟩ ck_X0 ck_l0 p2_s280_e
set_option maxRecDepth 100000 in
/-- GlacierMail$Ice.heatIn -/
def p2_s281 : ck_Sum := ((0, 0, 0), 245, [.inr (.inr (.inl 200)), .inl (0, 299, [])], ([], [], []), ([], []), [(.inr (some (.inl (0, 9, []))), 245, ([], [], []))])
set_option maxRecDepth 100000 in
theorem p2_s281_e : ck_ok p2_O none [] [] 34 [] 92 p2_s281 = true := by decide +kernel
theorem p2_s281_s {X : Int → Int} {LX : Nat} : ck_Ok p2_O X LX 34 p2_s281 := ck_ok_s ⟨p2_nmu, ck_E0⟩ ck_X0 ck_l0 p2_s281_e
set_option maxRecDepth 100000 in
/-- GlacierMail.heat -/
def p2_s282 : ck_Sum := ((1, 0, 0), 245, [.inr (.inr (.inl 1)), .inl (0, 299, [])], ([], [], []), ([], []), [(.inr (some (.inl (0, 9, []))), 245, ([], [], []))])
set_option maxRecDepth 100000 in
theorem p2_s282_e : ck_ok p2_O none [] [(129, [p2_s280]), (34, [p2_s281])] 128 [] 86 p2_s282 = true := by decide +kernel
theorem p2_s282_s {X : Int → Int} {LX : Nat} : ck_Ok p2_O X LX 128 p2_s282 := ck_ok_s ⟨p2_nmu, ck_E1 (ck_S1 p2_s280_s ck_S0) (ck_E1 (ck_S1 p2_s281_s ck_S0) ck_E0)⟩ ck_X0 ck_l0 p2_s282_e
set_option maxRecDepth 100000 in
/-- GlacierMailModel.in -/
def p2_s283 : ck_Sum := ((0, 0, 0), 245, [.inl ((-2147483648), (-1), []), .inl (ck_one 0), .inl (ck_one 299)], ([], [], []), ([], []), [(.inr (some (.inl (ck_one 0))), 245, ([], [], []))])
set_option maxRecDepth 100000 in
theorem p2_s283_e : ck_ok p2_O none [] [] 286 [] 80 p2_s283 = true := by decide +kernel
theorem p2_s283_s {X : Int → Int} {LX : Nat} : ck_Ok p2_O X LX 286 p2_s283 := ck_ok_s ⟨p2_nmu, ck_E0⟩ ck_X0 ck_l0 p2_s283_e
set_option maxRecDepth 100000 in
/-- GlacierMailModel.noYear -/
def p2_s284 : ck_Sum := ((1, 0, 0), 245, [.inl ((-2147483648), (-1), [])], ([], [], []), ([], []), [(.inr (some (.inl (ck_one 1))), 245, ([], [], []))])
set_option maxRecDepth 100000 in
theorem p2_s284_e : ck_ok p2_O none [] [(286, [p2_s283])] 285 [] 86 p2_s284 = true := by decide +kernel
theorem p2_s284_s {X : Int → Int} {LX : Nat} : ck_Ok p2_O X LX 285 p2_s284 := ck_ok_s ⟨p2_nmu, ck_E1 (ck_S1 p2_s283_s ck_S0) ck_E0⟩ ck_X0 ck_l0 p2_s284_e
set_option maxRecDepth 100000 in
/-- GlacierMailModel.heat -/
def p2_s285 : ck_Sum := ((2, 0, 0), 245, [.inr (.inr (.inl 226)), .inl ((-2147483648), (-1), [])], ([], [], []), ([(226, 0, 0)], []), [(.inr (some (.inl (ck_one 0))), 245, ([], [], [(226, 0, 0, ck_one 1)]))])
set_option maxRecDepth 100000 in
theorem p2_s285_e : ck_ok p2_O none [] [(285, [p2_s284]), (282, [p2_s268])] 284 [] 94 p2_s285 = true := by decide +kernel
theorem p2_s285_s {X : Int → Int} {LX : Nat} : ck_Ok p2_O X LX 284 p2_s285 := ck_ok_s ⟨p2_nmu, ck_E1 (ck_S1 p2_s284_s ck_S0) (ck_E1 (ck_S1 p2_s268_s ck_S0) ck_E0)⟩ ck_X0 ck_l0 p2_s285_e
set_option maxRecDepth 100000 in
/-- GlacierMailModel.in -/
def p2_s286 : ck_Sum := ((0, 0, 0), 245, [.inl (300, 2147483647, []), .inl (ck_one 0), .inl (ck_one 299)], ([], [], []), ([], []), [(.inr (some (.inl (ck_one 0))), 245, ([], [], []))])
set_option maxRecDepth 100000 in
theorem p2_s286_e : ck_ok p2_O none [] [] 286 [] 86 p2_s286 = true := by decide +kernel
theorem p2_s286_s {X : Int → Int} {LX : Nat} : ck_Ok p2_O X LX 286 p2_s286 := ck_ok_s ⟨p2_nmu, ck_E0⟩ ck_X0 ck_l0 p2_s286_e
set_option maxRecDepth 100000 in
/-- GlacierMailModel.noYear -/
def p2_s287 : ck_Sum := ((1, 0, 0), 245, [.inl (300, 2147483647, [])], ([], [], []), ([], []), [(.inr (some (.inl (ck_one 1))), 245, ([], [], []))])
set_option maxRecDepth 100000 in
theorem p2_s287_e : ck_ok p2_O none [] [(286, [p2_s286])] 285 [] 86 p2_s287 = true := by decide +kernel
theorem p2_s287_s {X : Int → Int} {LX : Nat} : ck_Ok p2_O X LX 285 p2_s287 := ck_ok_s ⟨p2_nmu, ck_E1 (ck_S1 p2_s286_s ck_S0) ck_E0⟩ ck_X0 ck_l0 p2_s287_e
set_option maxRecDepth 100000 in
/-- GlacierMailModel.heat -/
def p2_s288 : ck_Sum := ((2, 0, 0), 245, [.inr (.inr (.inl 226)), .inl (300, 2147483647, [])], ([], [], []), ([(226, 0, 0)], []), [(.inr (some (.inl (ck_one 0))), 245, ([], [], [(226, 0, 0, ck_one 1)]))])
set_option maxRecDepth 100000 in
theorem p2_s288_e : ck_ok p2_O none [] [(285, [p2_s287]), (282, [p2_s268])] 284 [] 94 p2_s288 = true := by decide +kernel
theorem p2_s288_s {X : Int → Int} {LX : Nat} : ck_Ok p2_O X LX 284 p2_s288 := ck_ok_s ⟨p2_nmu, ck_E1 (ck_S1 p2_s287_s ck_S0) (ck_E1 (ck_S1 p2_s268_s ck_S0) ck_E0)⟩ ck_X0 ck_l0 p2_s288_e
set_option maxRecDepth 100000 in
/-- GlacierMailModel.in -/
def p2_s289 : ck_Sum := ((0, 0, 0), 245, [.inl (0, 299, []), .inl (ck_one 0), .inl (ck_one 299)], ([], [], []), ([], []), [(.inr (some (.inl (ck_one 1))), 245, ([], [], []))])
set_option maxRecDepth 100000 in
theorem p2_s289_e : ck_ok p2_O none [] [] 286 [] 88 p2_s289 = true := by decide +kernel
theorem p2_s289_s {X : Int → Int} {LX : Nat} : ck_Ok p2_O X LX 286 p2_s289 := ck_ok_s ⟨p2_nmu, ck_E0⟩ ck_X0 ck_l0 p2_s289_e
set_option maxRecDepth 100000 in
/-- GlacierMailModel.noYear -/
def p2_s290 : ck_Sum := ((1, 0, 0), 245, [.inl (0, 299, [])], ([], [], []), ([], []), [(.inr (some (.inl (ck_one 0))), 245, ([], [], []))])
set_option maxRecDepth 100000 in
theorem p2_s290_e : ck_ok p2_O none [] [(286, [p2_s289])] 285 [] 84 p2_s290 = true := by decide +kernel
theorem p2_s290_s {X : Int → Int} {LX : Nat} : ck_Ok p2_O X LX 285 p2_s290 := ck_ok_s ⟨p2_nmu, ck_E1 (ck_S1 p2_s289_s ck_S0) ck_E0⟩ ck_X0 ck_l0 p2_s290_e
set_option maxRecDepth 100000 in
/-- GlacierMailModel.heat -/
def p2_s291 : ck_Sum := ((2, 0, 0), 245, [.inr (.inr (.inl 226)), .inl (0, 299, [])], ([], [], []), ([(226, 0, 0)], []), [(.inr (some (.inl (0, 9, []))), 245, ([], [], [(226, 0, 0, ck_one 0)]))])
set_option maxRecDepth 100000 in
theorem p2_s291_e : ck_ok p2_O none [] [(285, [p2_s290]), (282, [p2_s269])] 284 [] 98 p2_s291 = true := by decide +kernel
theorem p2_s291_s {X : Int → Int} {LX : Nat} : ck_Ok p2_O X LX 284 p2_s291 := ck_ok_s ⟨p2_nmu, ck_E1 (ck_S1 p2_s290_s ck_S0) (ck_E1 (ck_S1 p2_s269_s ck_S0) ck_E0)⟩ ck_X0 ck_l0 p2_s291_e
set_option maxRecDepth 100000 in
/-- GlacierMail.need -/
def p2_s292 : ck_Sum := ((6, 1, 6), 245, [.inr (.inr (.inl 1)), .inl ((-2147483648), (-1), []), .inl (1, 6, [])], ([], [], []), ([], []), [(.inl 3, 245, ([], [], []))])
set_option maxRecDepth 100000 in
theorem p2_s292_e : ck_ok p2_O none [] [] 133 [] 76 p2_s292 = true := by decide +kernel
theorem p2_s292_s {X : Int → Int} {LX : Nat} : ck_Ok p2_O X LX 133 p2_s292 := ck_ok_s ⟨p2_nmu, ck_E0⟩ ck_X0 ck_l0 p2_s292_e
set_option maxRecDepth 100000 in
/-- GlacierMail.needLane -/
def p2_s293 : ck_Sum := ((7, 1, 6), 245, [.inr (.inr (.inl 1)), .inl ((-2147483648), (-1), [])], ([], [], []), ([], []), [(.inl 3, 245, ([], [], []))])
set_option maxRecDepth 100000 in
theorem p2_s293_e : ck_ok p2_O none [] [(133, [p2_s292])] 132 [] 82 p2_s293 = true := by decide +kernel
theorem p2_s293_s {X : Int → Int} {LX : Nat} : ck_Ok p2_O X LX 132 p2_s293 := ck_ok_s ⟨p2_nmu, ck_E1 (ck_S1 p2_s292_s ck_S0) ck_E0⟩ ck_X0 ck_l0 p2_s293_e
set_option maxRecDepth 100000 in
/-- GlacierMail.speed -/
def p2_s294 : ck_Sum := ((8, 1, 6), 245, [.inr (.inr (.inl 1)), .inl ((-2147483648), (-1), []), .inl ((-2147483648), 2147483647, [])], ([], [], []), ([], []), [(.inl 3, 245, ([], [], []))])
set_option maxRecDepth 100000 in
theorem p2_s294_e : ck_ok p2_O none [] [(132, [p2_s293])] 131 [] 76 p2_s294 = true := by decide +kernel
theorem p2_s294_s {X : Int → Int} {LX : Nat} : ck_Ok p2_O X LX 131 p2_s294 := ck_ok_s ⟨p2_nmu, ck_E1 (ck_S1 p2_s293_s ck_S0) ck_E0⟩ ck_X0 ck_l0 p2_s294_e
set_option maxRecDepth 100000 in
/-- GlacierMail.need -/
def p2_s295 : ck_Sum := ((6, 1, 6), 245, [.inr (.inr (.inl 1)), .inl (6, 2147483647, []), .inl (1, 6, [])], ([], [], []), ([], []), [(.inl 3, 245, ([], [], []))])
set_option maxRecDepth 100000 in
theorem p2_s295_e : ck_ok p2_O none [] [] 133 [] 82 p2_s295 = true := by decide +kernel
theorem p2_s295_s {X : Int → Int} {LX : Nat} : ck_Ok p2_O X LX 133 p2_s295 := ck_ok_s ⟨p2_nmu, ck_E0⟩ ck_X0 ck_l0 p2_s295_e
set_option maxRecDepth 100000 in
/-- GlacierMail.needLane -/
def p2_s296 : ck_Sum := ((7, 1, 6), 245, [.inr (.inr (.inl 1)), .inl (6, 2147483647, [])], ([], [], []), ([], []), [(.inl 3, 245, ([], [], []))])
set_option maxRecDepth 100000 in
theorem p2_s296_e : ck_ok p2_O none [] [(133, [p2_s295])] 132 [] 82 p2_s296 = true := by decide +kernel
theorem p2_s296_s {X : Int → Int} {LX : Nat} : ck_Ok p2_O X LX 132 p2_s296 := ck_ok_s ⟨p2_nmu, ck_E1 (ck_S1 p2_s295_s ck_S0) ck_E0⟩ ck_X0 ck_l0 p2_s296_e
set_option maxRecDepth 100000 in
/-- GlacierMail.speed -/
def p2_s297 : ck_Sum := ((8, 1, 6), 245, [.inr (.inr (.inl 1)), .inl (6, 2147483647, []), .inl ((-2147483648), 2147483647, [])], ([], [], []), ([], []), [(.inl 3, 245, ([], [], []))])
set_option maxRecDepth 100000 in
theorem p2_s297_e : ck_ok p2_O none [] [(132, [p2_s296])] 131 [] 76 p2_s297 = true := by decide +kernel
theorem p2_s297_s {X : Int → Int} {LX : Nat} : ck_Ok p2_O X LX 131 p2_s297 := ck_ok_s ⟨p2_nmu, ck_E1 (ck_S1 p2_s296_s ck_S0) ck_E0⟩ ck_X0 ck_l0 p2_s297_e
set_option maxRecDepth 100000 in
/-- GlacierMail.need -/
def p2_s298 : ck_Sum := ((6, 1, 6), 245, [.inr (.inr (.inl 1)), .inl (0, 5, []), .inl (1, 6, [])], ([], [], []), ([], []), [(.inr none, 245, ([], [], [])), (.inl 3, 245, ([], [], []))])
set_option maxRecDepth 100000 in
theorem p2_s298_e : ck_ok p2_O none [] [] 133 [] 82 p2_s298 = true := by decide +kernel
theorem p2_s298_s {X : Int → Int} {LX : Nat} : ck_Ok p2_O X LX 133 p2_s298 := ck_ok_s ⟨p2_nmu, ck_E0⟩ ck_X0 ck_l0 p2_s298_e
set_option maxRecDepth 100000 in
/-- GlacierMail.needLane -/
def p2_s299 : ck_Sum := ((7, 1, 6), 245, [.inr (.inr (.inl 1)), .inl (0, 5, [])], ([], [], []), ([], []), [(.inl 3, 245, ([], [], [])), (.inr none, 245, ([], [], []))])
set_option maxRecDepth 100000 in
theorem p2_s299_e : ck_ok p2_O none [] [(133, [p2_s298])] 132 [] 84 p2_s299 = true := by decide +kernel
theorem p2_s299_s {X : Int → Int} {LX : Nat} : ck_Ok p2_O X LX 132 p2_s299 := ck_ok_s ⟨p2_nmu, ck_E1 (ck_S1 p2_s298_s ck_S0) ck_E0⟩ ck_X0 ck_l0 p2_s299_e
set_option maxRecDepth 100000 in
/-- GlacierMail.need -/
def p2_s300 : ck_Sum := ((6, 1, 6), 245, [.inr (.inr (.inl 1)), .inl ((-2147483648), (-1), []), .inl (10, 99, [])], ([], [], []), ([], []), [(.inl 3, 245, ([], [], []))])
set_option maxRecDepth 100000 in
theorem p2_s300_e : ck_ok p2_O none [] [] 133 [] 76 p2_s300 = true := by decide +kernel
theorem p2_s300_s {X : Int → Int} {LX : Nat} : ck_Ok p2_O X LX 133 p2_s300 := ck_ok_s ⟨p2_nmu, ck_E0⟩ ck_X0 ck_l0 p2_s300_e
set_option maxRecDepth 100000 in
/-- GlacierMail.needRow -/
def p2_s301 : ck_Sum := ((7, 1, 6), 245, [.inr (.inr (.inl 1)), .inl ((-2147483648), (-1), [])], ([], [], []), ([], []), [(.inl 3, 245, ([], [], []))])
set_option maxRecDepth 100000 in
theorem p2_s301_e : ck_ok p2_O none [] [(133, [p2_s300])] 134 [] 82 p2_s301 = true := by decide +kernel
theorem p2_s301_s {X : Int → Int} {LX : Nat} : ck_Ok p2_O X LX 134 p2_s301 := ck_ok_s ⟨p2_nmu, ck_E1 (ck_S1 p2_s300_s ck_S0) ck_E0⟩ ck_X0 ck_l0 p2_s301_e
set_option maxRecDepth 100000 in
/-- GlacierMail.speed -/
def p2_s302 : ck_Sum := ((8, 2, 12), 245, [.inr (.inr (.inl 1)), .inl (0, 5, []), .inl ((-2147483648), (-1), [])], ([], [], []), ([], []), [(.inl 3, 245, ([], [], []))])
set_option maxRecDepth 100000 in
theorem p2_s302_e : ck_ok p2_O none [] [(132, [p2_s299]), (134, [p2_s301])] 131 [] 82 p2_s302 = true := by decide +kernel
theorem p2_s302_s {X : Int → Int} {LX : Nat} : ck_Ok p2_O X LX 131 p2_s302 := ck_ok_s ⟨p2_nmu, ck_E1 (ck_S1 p2_s299_s ck_S0) (ck_E1 (ck_S1 p2_s301_s ck_S0) ck_E0)⟩ ck_X0 ck_l0 p2_s302_e
set_option maxRecDepth 100000 in
/-- GlacierMail.need -/
def p2_s303 : ck_Sum := ((6, 1, 6), 245, [.inr (.inr (.inl 1)), .inl (99, 2147483647, []), .inl (10, 99, [])], ([], [], []), ([], []), [(.inl 3, 245, ([], [], []))])
set_option maxRecDepth 100000 in
theorem p2_s303_e : ck_ok p2_O none [] [] 133 [] 82 p2_s303 = true := by decide +kernel
theorem p2_s303_s {X : Int → Int} {LX : Nat} : ck_Ok p2_O X LX 133 p2_s303 := ck_ok_s ⟨p2_nmu, ck_E0⟩ ck_X0 ck_l0 p2_s303_e
set_option maxRecDepth 100000 in
/-- GlacierMail.needRow -/
def p2_s304 : ck_Sum := ((7, 1, 6), 245, [.inr (.inr (.inl 1)), .inl (99, 2147483647, [])], ([], [], []), ([], []), [(.inl 3, 245, ([], [], []))])
set_option maxRecDepth 100000 in
theorem p2_s304_e : ck_ok p2_O none [] [(133, [p2_s303])] 134 [] 82 p2_s304 = true := by decide +kernel
theorem p2_s304_s {X : Int → Int} {LX : Nat} : ck_Ok p2_O X LX 134 p2_s304 := ck_ok_s ⟨p2_nmu, ck_E1 (ck_S1 p2_s303_s ck_S0) ck_E0⟩ ck_X0 ck_l0 p2_s304_e
set_option maxRecDepth 100000 in
/-- GlacierMail.speed -/
def p2_s305 : ck_Sum := ((8, 2, 12), 245, [.inr (.inr (.inl 1)), .inl (0, 5, []), .inl (99, 2147483647, [])], ([], [], []), ([], []), [(.inl 3, 245, ([], [], []))])
set_option maxRecDepth 100000 in
theorem p2_s305_e : ck_ok p2_O none [] [(132, [p2_s299]), (134, [p2_s304])] 131 [] 82 p2_s305 = true := by decide +kernel
theorem p2_s305_s {X : Int → Int} {LX : Nat} : ck_Ok p2_O X LX 131 p2_s305 := ck_ok_s ⟨p2_nmu, ck_E1 (ck_S1 p2_s299_s ck_S0) (ck_E1 (ck_S1 p2_s304_s ck_S0) ck_E0)⟩ ck_X0 ck_l0 p2_s305_e
set_option maxRecDepth 100000 in
/-- GlacierMail.need -/
def p2_s306 : ck_Sum := ((6, 1, 6), 245, [.inr (.inr (.inl 1)), .inl (0, 98, []), .inl (10, 99, [])], ([], [], []), ([], []), [(.inr none, 245, ([], [], [])), (.inl 3, 245, ([], [], []))])
set_option maxRecDepth 100000 in
theorem p2_s306_e : ck_ok p2_O none [] [] 133 [] 82 p2_s306 = true := by decide +kernel
theorem p2_s306_s {X : Int → Int} {LX : Nat} : ck_Ok p2_O X LX 133 p2_s306 := ck_ok_s ⟨p2_nmu, ck_E0⟩ ck_X0 ck_l0 p2_s306_e
set_option maxRecDepth 100000 in
/-- GlacierMail.needRow -/
def p2_s307 : ck_Sum := ((7, 1, 6), 245, [.inr (.inr (.inl 1)), .inl (0, 98, [])], ([], [], []), ([], []), [(.inl 3, 245, ([], [], [])), (.inr none, 245, ([], [], []))])
set_option maxRecDepth 100000 in
theorem p2_s307_e : ck_ok p2_O none [] [(133, [p2_s306])] 134 [] 84 p2_s307 = true := by decide +kernel
theorem p2_s307_s {X : Int → Int} {LX : Nat} : ck_Ok p2_O X LX 134 p2_s307 := ck_ok_s ⟨p2_nmu, ck_E1 (ck_S1 p2_s306_s ck_S0) ck_E0⟩ ck_X0 ck_l0 p2_s307_e
set_option maxRecDepth 100000 in
/-- GlacierMail$Ice.speedAt -/
def p2_s308 : ck_Sum := ((0, 0, 0), 245, [.inr (.inr (.inl 200)), .inl (0, 5, []), .inl (0, 98, [])], ([], [], []), ([], []), [(.inr (some (.inl ((-1), 98, []))), 245, ([], [], []))])
set_option maxRecDepth 100000 in
theorem p2_s308_e : ck_ok p2_O none [] [] 36 [] 108 p2_s308 = true := by decide +kernel
theorem p2_s308_s {X : Int → Int} {LX : Nat} : ck_Ok p2_O X LX 36 p2_s308 := ck_ok_s ⟨p2_nmu, ck_E0⟩ ck_X0 ck_l0 p2_s308_e
set_option maxRecDepth 100000 in
/-- GlacierMail.speed -/
def p2_s309 : ck_Sum := ((8, 2, 12), 245, [.inr (.inr (.inl 1)), .inl (0, 5, []), .inl (0, 98, [])], ([], [], []), ([], []), [(.inl 3, 245, ([], [], [])), (.inr (some (.inl ((-1), 98, []))), 245, ([], [], []))])
set_option maxRecDepth 100000 in
theorem p2_s309_e : ck_ok p2_O none [] [(132, [p2_s299]), (134, [p2_s307]), (36, [p2_s308])] 131 [] 94 p2_s309 = true := by decide +kernel
theorem p2_s309_s {X : Int → Int} {LX : Nat} : ck_Ok p2_O X LX 131 p2_s309 := ck_ok_s ⟨p2_nmu, ck_E1 (ck_S1 p2_s299_s ck_S0) (ck_E1 (ck_S1 p2_s307_s ck_S0) (ck_E1 (ck_S1 p2_s308_s ck_S0) ck_E0))⟩ ck_X0 ck_l0 p2_s309_e
set_option maxRecDepth 100000 in
/-- GlacierMailModel.in -/
def p2_s310 : ck_Sum := ((0, 0, 0), 245, [.inl ((-2147483648), (-1), []), .inl (ck_one 0), .inl ((-1), 5, [])], ([], [], []), ([], []), [(.inr (some (.inl (ck_one 0))), 245, ([], [], []))])
set_option maxRecDepth 100000 in
theorem p2_s310_e : ck_ok p2_O none [] [] 286 [] 80 p2_s310 = true := by decide +kernel
theorem p2_s310_s {X : Int → Int} {LX : Nat} : ck_Ok p2_O X LX 286 p2_s310 := ck_ok_s ⟨p2_nmu, ck_E0⟩ ck_X0 ck_l0 p2_s310_e
set_option maxRecDepth 100000 in
/-- GlacierMailModel.noLane -/
def p2_s311 : ck_Sum := ((1, 0, 0), 245, [.inr (.inr (.inl 226)), .inl ((-2147483648), (-1), [])], ([], [], []), ([], []), [(.inr (some (.inl (ck_one 1))), 245, ([], [], []))])
set_option maxRecDepth 100000 in
theorem p2_s311_e : ck_ok p2_O none [] [(261, [p2_s184]), (286, [p2_s310])] 288 [] 92 p2_s311 = true := by decide +kernel
theorem p2_s311_s {X : Int → Int} {LX : Nat} : ck_Ok p2_O X LX 288 p2_s311 := ck_ok_s ⟨p2_nmu, ck_E1 (ck_S1 p2_s184_s ck_S0) (ck_E1 (ck_S1 p2_s310_s ck_S0) ck_E0)⟩ ck_X0 ck_l0 p2_s311_e
set_option maxRecDepth 100000 in
/-- GlacierMailModel.speed -/
def p2_s312 : ck_Sum := ((2, 0, 0), 245, [.inr (.inr (.inl 226)), .inl ((-2147483648), (-1), []), .inl ((-2147483648), 2147483647, [])], ([], [], []), ([(226, 0, 0)], []), [(.inr (some (.inl (ck_one 0))), 245, ([], [], [(226, 0, 0, ck_one 1)]))])
set_option maxRecDepth 100000 in
theorem p2_s312_e : ck_ok p2_O none [] [(288, [p2_s311]), (282, [p2_s268])] 287 [] 102 p2_s312 = true := by decide +kernel
theorem p2_s312_s {X : Int → Int} {LX : Nat} : ck_Ok p2_O X LX 287 p2_s312 := ck_ok_s ⟨p2_nmu, ck_E1 (ck_S1 p2_s311_s ck_S0) (ck_E1 (ck_S1 p2_s268_s ck_S0) ck_E0)⟩ ck_X0 ck_l0 p2_s312_e
set_option maxRecDepth 100000 in
/-- GlacierMailModel.in -/
def p2_s313 : ck_Sum := ((0, 0, 0), 245, [.inl (6, 2147483647, []), .inl (ck_one 0), .inl ((-1), 5, [])], ([], [], []), ([], []), [(.inr (some (.inl (ck_one 0))), 245, ([], [], []))])
set_option maxRecDepth 100000 in
theorem p2_s313_e : ck_ok p2_O none [] [] 286 [] 86 p2_s313 = true := by decide +kernel
theorem p2_s313_s {X : Int → Int} {LX : Nat} : ck_Ok p2_O X LX 286 p2_s313 := ck_ok_s ⟨p2_nmu, ck_E0⟩ ck_X0 ck_l0 p2_s313_e
set_option maxRecDepth 100000 in
/-- GlacierMailModel.noLane -/
def p2_s314 : ck_Sum := ((1, 0, 0), 245, [.inr (.inr (.inl 226)), .inl (6, 2147483647, [])], ([], [], []), ([], []), [(.inr (some (.inl (ck_one 1))), 245, ([], [], []))])
set_option maxRecDepth 100000 in
theorem p2_s314_e : ck_ok p2_O none [] [(261, [p2_s184]), (286, [p2_s313])] 288 [] 92 p2_s314 = true := by decide +kernel
theorem p2_s314_s {X : Int → Int} {LX : Nat} : ck_Ok p2_O X LX 288 p2_s314 := ck_ok_s ⟨p2_nmu, ck_E1 (ck_S1 p2_s184_s ck_S0) (ck_E1 (ck_S1 p2_s313_s ck_S0) ck_E0)⟩ ck_X0 ck_l0 p2_s314_e
set_option maxRecDepth 100000 in
/-- GlacierMailModel.speed -/
def p2_s315 : ck_Sum := ((2, 0, 0), 245, [.inr (.inr (.inl 226)), .inl (6, 2147483647, []), .inl ((-2147483648), 2147483647, [])], ([], [], []), ([(226, 0, 0)], []), [(.inr (some (.inl (ck_one 0))), 245, ([], [], [(226, 0, 0, ck_one 1)]))])
set_option maxRecDepth 100000 in
theorem p2_s315_e : ck_ok p2_O none [] [(288, [p2_s314]), (282, [p2_s268])] 287 [] 102 p2_s315 = true := by decide +kernel
theorem p2_s315_s {X : Int → Int} {LX : Nat} : ck_Ok p2_O X LX 287 p2_s315 := ck_ok_s ⟨p2_nmu, ck_E1 (ck_S1 p2_s314_s ck_S0) (ck_E1 (ck_S1 p2_s268_s ck_S0) ck_E0)⟩ ck_X0 ck_l0 p2_s315_e
set_option maxRecDepth 100000 in
/-- GlacierMailModel.in -/
def p2_s316 : ck_Sum := ((0, 0, 0), 245, [.inl (0, 5, []), .inl (ck_one 0), .inl ((-1), 5, [])], ([], [], []), ([], []), [(.inr (some (.inl (ck_one 0))), 245, ([], [], [])), (.inr (some (.inl (ck_one 1))), 245, ([], [], []))])
set_option maxRecDepth 100000 in
theorem p2_s316_e : ck_ok p2_O none [] [] 286 [] 88 p2_s316 = true := by decide +kernel
theorem p2_s316_s {X : Int → Int} {LX : Nat} : ck_Ok p2_O X LX 286 p2_s316 := ck_ok_s ⟨p2_nmu, ck_E0⟩ ck_X0 ck_l0 p2_s316_e
set_option maxRecDepth 100000 in
/-- GlacierMailModel.noLane -/
def p2_s317 : ck_Sum := ((1, 0, 0), 245, [.inr (.inr (.inl 226)), .inl (0, 5, [])], ([], [], []), ([], []), [(.inr (some (.inl (ck_one 1))), 245, ([], [], [])), (.inr (some (.inl (ck_one 0))), 245, ([], [], []))])
set_option maxRecDepth 100000 in
theorem p2_s317_e : ck_ok p2_O none [] [(261, [p2_s184]), (286, [p2_s316])] 288 [] 92 p2_s317 = true := by decide +kernel
theorem p2_s317_s {X : Int → Int} {LX : Nat} : ck_Ok p2_O X LX 288 p2_s317 := ck_ok_s ⟨p2_nmu, ck_E1 (ck_S1 p2_s184_s ck_S0) (ck_E1 (ck_S1 p2_s316_s ck_S0) ck_E0)⟩ ck_X0 ck_l0 p2_s317_e
set_option maxRecDepth 100000 in
/-- GlacierMailModel.in -/
def p2_s318 : ck_Sum := ((0, 0, 0), 245, [.inl ((-2147483648), (-1), []), .inl (ck_one 0), .inl ((-1), 98, [])], ([], [], []), ([], []), [(.inr (some (.inl (ck_one 0))), 245, ([], [], []))])
set_option maxRecDepth 100000 in
theorem p2_s318_e : ck_ok p2_O none [] [] 286 [] 80 p2_s318 = true := by decide +kernel
theorem p2_s318_s {X : Int → Int} {LX : Nat} : ck_Ok p2_O X LX 286 p2_s318 := ck_ok_s ⟨p2_nmu, ck_E0⟩ ck_X0 ck_l0 p2_s318_e
set_option maxRecDepth 100000 in
/-- GlacierMailModel.noRow -/
def p2_s319 : ck_Sum := ((1, 0, 0), 245, [.inr (.inr (.inl 226)), .inl ((-2147483648), (-1), [])], ([], [], []), ([], []), [(.inr (some (.inl (ck_one 1))), 245, ([], [], []))])
set_option maxRecDepth 100000 in
theorem p2_s319_e : ck_ok p2_O none [] [(259, [p2_s200]), (286, [p2_s318])] 289 [] 92 p2_s319 = true := by decide +kernel
theorem p2_s319_s {X : Int → Int} {LX : Nat} : ck_Ok p2_O X LX 289 p2_s319 := ck_ok_s ⟨p2_nmu, ck_E1 (ck_S1 p2_s200_s ck_S0) (ck_E1 (ck_S1 p2_s318_s ck_S0) ck_E0)⟩ ck_X0 ck_l0 p2_s319_e
set_option maxRecDepth 100000 in
/-- GlacierMailModel.speed -/
def p2_s320 : ck_Sum := ((2, 0, 0), 245, [.inr (.inr (.inl 226)), .inl (0, 5, []), .inl ((-2147483648), (-1), [])], ([], [], []), ([(226, 0, 0)], []), [(.inr (some (.inl (ck_one 0))), 245, ([], [], [(226, 0, 0, ck_one 1)]))])
set_option maxRecDepth 100000 in
theorem p2_s320_e : ck_ok p2_O none [] [(288, [p2_s317]), (282, [p2_s268]), (289, [p2_s319])] 287 [] 110 p2_s320 = true := by decide +kernel
theorem p2_s320_s {X : Int → Int} {LX : Nat} : ck_Ok p2_O X LX 287 p2_s320 := ck_ok_s ⟨p2_nmu, ck_E1 (ck_S1 p2_s317_s ck_S0) (ck_E1 (ck_S1 p2_s268_s ck_S0) (ck_E1 (ck_S1 p2_s319_s ck_S0) ck_E0))⟩ ck_X0 ck_l0 p2_s320_e
set_option maxRecDepth 100000 in
/-- GlacierMailModel.in -/
def p2_s321 : ck_Sum := ((0, 0, 0), 245, [.inl (99, 2147483647, []), .inl (ck_one 0), .inl ((-1), 98, [])], ([], [], []), ([], []), [(.inr (some (.inl (ck_one 0))), 245, ([], [], []))])
set_option maxRecDepth 100000 in
theorem p2_s321_e : ck_ok p2_O none [] [] 286 [] 86 p2_s321 = true := by decide +kernel
theorem p2_s321_s {X : Int → Int} {LX : Nat} : ck_Ok p2_O X LX 286 p2_s321 := ck_ok_s ⟨p2_nmu, ck_E0⟩ ck_X0 ck_l0 p2_s321_e
set_option maxRecDepth 100000 in
/-- GlacierMailModel.noRow -/
def p2_s322 : ck_Sum := ((1, 0, 0), 245, [.inr (.inr (.inl 226)), .inl (99, 2147483647, [])], ([], [], []), ([], []), [(.inr (some (.inl (ck_one 1))), 245, ([], [], []))])
set_option maxRecDepth 100000 in
theorem p2_s322_e : ck_ok p2_O none [] [(259, [p2_s200]), (286, [p2_s321])] 289 [] 92 p2_s322 = true := by decide +kernel
theorem p2_s322_s {X : Int → Int} {LX : Nat} : ck_Ok p2_O X LX 289 p2_s322 := ck_ok_s ⟨p2_nmu, ck_E1 (ck_S1 p2_s200_s ck_S0) (ck_E1 (ck_S1 p2_s321_s ck_S0) ck_E0)⟩ ck_X0 ck_l0 p2_s322_e
set_option maxRecDepth 100000 in
/-- GlacierMailModel.speed -/
def p2_s323 : ck_Sum := ((2, 0, 0), 245, [.inr (.inr (.inl 226)), .inl (0, 5, []), .inl (99, 2147483647, [])], ([], [], []), ([(226, 0, 0)], []), [(.inr (some (.inl (ck_one 0))), 245, ([], [], [(226, 0, 0, ck_one 1)]))])
set_option maxRecDepth 100000 in
theorem p2_s323_e : ck_ok p2_O none [] [(288, [p2_s317]), (282, [p2_s268]), (289, [p2_s322])] 287 [] 110 p2_s323 = true := by decide +kernel
theorem p2_s323_s {X : Int → Int} {LX : Nat} : ck_Ok p2_O X LX 287 p2_s323 := ck_ok_s ⟨p2_nmu, ck_E1 (ck_S1 p2_s317_s ck_S0) (ck_E1 (ck_S1 p2_s268_s ck_S0) (ck_E1 (ck_S1 p2_s322_s ck_S0) ck_E0))⟩ ck_X0 ck_l0 p2_s323_e
set_option maxRecDepth 100000 in
/-- GlacierMailModel.in -/
def p2_s324 : ck_Sum := ((0, 0, 0), 245, [.inl (0, 98, []), .inl (ck_one 0), .inl ((-1), 98, [])], ([], [], []), ([], []), [(.inr (some (.inl (ck_one 0))), 245, ([], [], [])), (.inr (some (.inl (ck_one 1))), 245, ([], [], []))])
set_option maxRecDepth 100000 in
theorem p2_s324_e : ck_ok p2_O none [] [] 286 [] 88 p2_s324 = true := by decide +kernel
theorem p2_s324_s {X : Int → Int} {LX : Nat} : ck_Ok p2_O X LX 286 p2_s324 := ck_ok_s ⟨p2_nmu, ck_E0⟩ ck_X0 ck_l0 p2_s324_e
set_option maxRecDepth 100000 in
/-- GlacierMailModel.noRow -/
def p2_s325 : ck_Sum := ((1, 0, 0), 245, [.inr (.inr (.inl 226)), .inl (0, 98, [])], ([], [], []), ([], []), [(.inr (some (.inl (ck_one 1))), 245, ([], [], [])), (.inr (some (.inl (ck_one 0))), 245, ([], [], []))])
set_option maxRecDepth 100000 in
theorem p2_s325_e : ck_ok p2_O none [] [(259, [p2_s200]), (286, [p2_s324])] 289 [] 92 p2_s325 = true := by decide +kernel
theorem p2_s325_s {X : Int → Int} {LX : Nat} : ck_Ok p2_O X LX 289 p2_s325 := ck_ok_s ⟨p2_nmu, ck_E1 (ck_S1 p2_s200_s ck_S0) (ck_E1 (ck_S1 p2_s324_s ck_S0) ck_E0)⟩ ck_X0 ck_l0 p2_s325_e
set_option maxRecDepth 100000 in
/-- GlacierMailModel.speedAt -/
def p2_s326 : ck_Sum := ((0, 0, 0), 245, [.inr (.inr (.inl 226)), .inl (0, 6, []), .inl (0, 98, [])], ([], [], [(227, 2, 2, (0, 8, [(20, 0)]))]), ([], []), [(.inr (some (.inl (0, 299, []))), 245, ([], [], []))])
set_option maxRecDepth 100000 in
theorem p2_s326_e : ck_ok p2_O none [] [] 290 [(5, [some (.inr (.inr (.inl 226))), some (.inl (0, 6, [])), some (.inl (0, 98, [])), some (.inl (0, 299, [])), some (.inl (0, 8, []))], ([], [], [(227, 2, 2, (0, 8, [(20, 0)]))]), 100, .inl 4, true)] 222 p2_s326 = true := by decide +kernel
theorem p2_s326_s {X : Int → Int} {LX : Nat} : ck_Ok p2_O X LX 290 p2_s326 := ck_ok_s ⟨p2_nmu, ck_E0⟩ ck_X0 ck_l0 p2_s326_e
set_option maxRecDepth 100000 in
/-- GlacierMailModel.speed -/
def p2_s327 : ck_Sum := ((2, 0, 0), 245, [.inr (.inr (.inl 226)), .inl (0, 5, []), .inl (0, 98, [])], ([], [], [(227, 2, 2, (0, 8, [(20, 0)]))]), ([(226, 0, 0)], []), [(.inr (some (.inl (0, 299, []))), 245, ([], [], [(226, 0, 0, (0, 1, []))]))])
set_option maxRecDepth 100000 in
theorem p2_s327_e : ck_ok p2_O none [] [(288, [p2_s317]), (282, [p2_s268, p2_s269]), (289, [p2_s325]), (290, [p2_s326])] 287 [] 112 p2_s327 = true := by decide +kernel
theorem p2_s327_s {X : Int → Int} {LX : Nat} : ck_Ok p2_O X LX 287 p2_s327 := ck_ok_s ⟨p2_nmu, ck_E1 (ck_S1 p2_s317_s ck_S0) (ck_E1 (ck_S1 p2_s268_s (ck_S1 p2_s269_s ck_S0)) (ck_E1 (ck_S1 p2_s325_s ck_S0) (ck_E1 (ck_S1 p2_s326_s ck_S0) ck_E0)))⟩ ck_X0 ck_l0 p2_s327_e
set_option maxRecDepth 100000 in
/-- GlacierMail.flow -/
def p2_s328 : ck_Sum := ((8, 1, 6), 245, [.inr (.inr (.inl 1)), .inl ((-2147483648), (-1), []), .inl ((-2147483648), 2147483647, []), .inl ((-2147483648), 2147483647, [])], ([], [], []), ([], []), [(.inl 3, 245, ([], [], []))])
set_option maxRecDepth 100000 in
theorem p2_s328_e : ck_ok p2_O none [] [(132, [p2_s293])] 136 [] 76 p2_s328 = true := by decide +kernel
theorem p2_s328_s {X : Int → Int} {LX : Nat} : ck_Ok p2_O X LX 136 p2_s328 := ck_ok_s ⟨p2_nmu, ck_E1 (ck_S1 p2_s293_s ck_S0) ck_E0⟩ ck_X0 ck_l0 p2_s328_e
set_option maxRecDepth 100000 in
/-- GlacierMail.flow -/
def p2_s329 : ck_Sum := ((8, 1, 6), 245, [.inr (.inr (.inl 1)), .inl (6, 2147483647, []), .inl ((-2147483648), 2147483647, []), .inl ((-2147483648), 2147483647, [])], ([], [], []), ([], []), [(.inl 3, 245, ([], [], []))])
set_option maxRecDepth 100000 in
theorem p2_s329_e : ck_ok p2_O none [] [(132, [p2_s296])] 136 [] 76 p2_s329 = true := by decide +kernel
theorem p2_s329_s {X : Int → Int} {LX : Nat} : ck_Ok p2_O X LX 136 p2_s329 := ck_ok_s ⟨p2_nmu, ck_E1 (ck_S1 p2_s296_s ck_S0) ck_E0⟩ ck_X0 ck_l0 p2_s329_e
set_option maxRecDepth 100000 in
/-- GlacierMail.flow -/
def p2_s330 : ck_Sum := ((8, 2, 12), 245, [.inr (.inr (.inl 1)), .inl (0, 5, []), .inl ((-2147483648), (-1), []), .inl ((-2147483648), 2147483647, [])], ([], [], []), ([], []), [(.inl 3, 245, ([], [], []))])
set_option maxRecDepth 100000 in
theorem p2_s330_e : ck_ok p2_O none [] [(132, [p2_s299]), (134, [p2_s301])] 136 [] 82 p2_s330 = true := by decide +kernel
theorem p2_s330_s {X : Int → Int} {LX : Nat} : ck_Ok p2_O X LX 136 p2_s330 := ck_ok_s ⟨p2_nmu, ck_E1 (ck_S1 p2_s299_s ck_S0) (ck_E1 (ck_S1 p2_s301_s ck_S0) ck_E0)⟩ ck_X0 ck_l0 p2_s330_e
set_option maxRecDepth 100000 in
/-- GlacierMail.flow -/
def p2_s331 : ck_Sum := ((8, 2, 12), 245, [.inr (.inr (.inl 1)), .inl (0, 5, []), .inl (99, 2147483647, []), .inl ((-2147483648), 2147483647, [])], ([], [], []), ([], []), [(.inl 3, 245, ([], [], []))])
set_option maxRecDepth 100000 in
theorem p2_s331_e : ck_ok p2_O none [] [(132, [p2_s299]), (134, [p2_s304])] 136 [] 82 p2_s331 = true := by decide +kernel
theorem p2_s331_s {X : Int → Int} {LX : Nat} : ck_Ok p2_O X LX 136 p2_s331 := ck_ok_s ⟨p2_nmu, ck_E1 (ck_S1 p2_s299_s ck_S0) (ck_E1 (ck_S1 p2_s304_s ck_S0) ck_E0)⟩ ck_X0 ck_l0 p2_s331_e
set_option maxRecDepth 100000 in
/-- GlacierMail.flow -/
def p2_s332 : ck_Sum := ((8, 3, 18), 245, [.inr (.inr (.inl 1)), .inl (0, 5, []), .inl (0, 98, []), .inl ((-2147483648), (-1), [])], ([], [], []), ([], []), [(.inl 3, 245, ([], [], [])), (.inl 0, 245, ([], [], []))])
set_option maxRecDepth 100000 in
theorem p2_s332_e : ck_ok p2_O none [] [(132, [p2_s299]), (134, [p2_s307]), (129, [p2_s276])] 136 [] 88 p2_s332 = true := by decide +kernel
theorem p2_s332_s {X : Int → Int} {LX : Nat} : ck_Ok p2_O X LX 136 p2_s332 := ck_ok_s ⟨p2_nmu, ck_E1 (ck_S1 p2_s299_s ck_S0) (ck_E1 (ck_S1 p2_s307_s ck_S0) (ck_E1 (ck_S1 p2_s276_s ck_S0) ck_E0))⟩ ck_X0 ck_l0 p2_s332_e
set_option maxRecDepth 100000 in
/-- GlacierMail.flow -/
def p2_s333 : ck_Sum := ((8, 3, 18), 245, [.inr (.inr (.inl 1)), .inl (0, 5, []), .inl (0, 98, []), .inl (300, 2147483647, [])], ([], [], []), ([], []), [(.inl 3, 245, ([], [], [])), (.inl 0, 245, ([], [], []))])
set_option maxRecDepth 100000 in
theorem p2_s333_e : ck_ok p2_O none [] [(132, [p2_s299]), (134, [p2_s307]), (129, [p2_s278])] 136 [] 88 p2_s333 = true := by decide +kernel
theorem p2_s333_s {X : Int → Int} {LX : Nat} : ck_Ok p2_O X LX 136 p2_s333 := ck_ok_s ⟨p2_nmu, ck_E1 (ck_S1 p2_s299_s ck_S0) (ck_E1 (ck_S1 p2_s307_s ck_S0) (ck_E1 (ck_S1 p2_s278_s ck_S0) ck_E0))⟩ ck_X0 ck_l0 p2_s333_e
set_option maxRecDepth 100000 in
/-- GlacierMail$Ice.speedAt -/
def p2_s334 : ck_Sum := ((0, 0, 0), 245, [.inr (.inr (.inl 200)), .inl ((-2147483648), 2147483647, []), .inl ((-2147483648), 2147483647, [])], ([], [], []), ([], []), [(.inr (some (.inl (ck_one 0))), 245, ([], [], [])), (.inr (some (.inl ((-1), 98, []))), 245, ([], [], []))])
set_option maxRecDepth 100000 in
theorem p2_s334_e : ck_ok p2_O none [] [] 36 [] 108 p2_s334 = true := by decide +kernel
theorem p2_s334_s {X : Int → Int} {LX : Nat} : ck_Ok p2_O X LX 36 p2_s334 := ck_ok_s ⟨p2_nmu, ck_E0⟩ ck_X0 ck_l0 p2_s334_e
set_option maxRecDepth 100000 in
/-- GlacierMail$Ice.flowAt -/
def p2_s335 : ck_Sum := ((1, 0, 0), 245, [.inr (.inr (.inl 200)), .inl ((-2147483648), 2147483647, []), .inl ((-2147483648), 2147483647, []), .inl ((-2147483648), 2147483647, [])], ([], [(3, 8, 0)], []), ([], []), [(.inr (some (.inl (ck_one 0))), 245, ([], [], [])), (.inr (some (.inl ((-1), 98, []))), 245, ([], [], []))])
set_option maxRecDepth 100000 in
theorem p2_s335_e : ck_ok p2_O none [] [(36, [p2_s334])] 35 [] 92 p2_s335 = true := by decide +kernel
theorem p2_s335_s {X : Int → Int} {LX : Nat} : ck_Ok p2_O X LX 35 p2_s335 := ck_ok_s ⟨p2_nmu, ck_E1 (ck_S1 p2_s334_s ck_S0) ck_E0⟩ ck_X0 ck_l0 p2_s335_e
set_option maxRecDepth 100000 in
/-- GlacierMail.flow -/
def p2_s336 : ck_Sum := ((8, 2, 12), 245, [.inr (.inr (.inl 1)), .inl (0, 5, []), .inl (0, 98, []), .inl (0, 299, [])], ([], [(3, 8, 0)], []), ([], []), [(.inl 3, 245, ([], [], [])), (.inr (some (.inl (ck_one 0))), 245, ([], [], [])), (.inr (some (.inl ((-1), 98, []))), 245, ([], [], []))])
set_option maxRecDepth 100000 in
theorem p2_s336_e : ck_ok p2_O none [] [(132, [p2_s299]), (134, [p2_s307]), (129, [p2_s280]), (35, [p2_s335])] 136 [] 102 p2_s336 = true := by decide +kernel
theorem p2_s336_s {X : Int → Int} {LX : Nat} : ck_Ok p2_O X LX 136 p2_s336 := ck_ok_s ⟨p2_nmu, ck_E1 (ck_S1 p2_s299_s ck_S0) (ck_E1 (ck_S1 p2_s307_s ck_S0) (ck_E1 (ck_S1 p2_s280_s ck_S0) (ck_E1 (ck_S1 p2_s335_s ck_S0) ck_E0)))⟩ ck_X0 ck_l0 p2_s336_e
set_option maxRecDepth 100000 in
/-- GlacierMailModel.flow -/
def p2_s337 : ck_Sum := ((2, 0, 0), 245, [.inr (.inr (.inl 226)), .inl ((-2147483648), (-1), []), .inl ((-2147483648), 2147483647, []), .inl ((-2147483648), 2147483647, [])], ([], [], []), ([(226, 0, 0)], []), [(.inr (some (.inl (ck_one 0))), 245, ([], [], [(226, 0, 0, ck_one 1)]))])
set_option maxRecDepth 100000 in
theorem p2_s337_e : ck_ok p2_O none [] [(288, [p2_s311]), (282, [p2_s268])] 291 [] 102 p2_s337 = true := by decide +kernel
theorem p2_s337_s {X : Int → Int} {LX : Nat} : ck_Ok p2_O X LX 291 p2_s337 := ck_ok_s ⟨p2_nmu, ck_E1 (ck_S1 p2_s311_s ck_S0) (ck_E1 (ck_S1 p2_s268_s ck_S0) ck_E0)⟩ ck_X0 ck_l0 p2_s337_e
set_option maxRecDepth 100000 in
/-- GlacierMailModel.flow -/
def p2_s338 : ck_Sum := ((2, 0, 0), 245, [.inr (.inr (.inl 226)), .inl (6, 2147483647, []), .inl ((-2147483648), 2147483647, []), .inl ((-2147483648), 2147483647, [])], ([], [], []), ([(226, 0, 0)], []), [(.inr (some (.inl (ck_one 0))), 245, ([], [], [(226, 0, 0, ck_one 1)]))])
set_option maxRecDepth 100000 in
theorem p2_s338_e : ck_ok p2_O none [] [(288, [p2_s314]), (282, [p2_s268])] 291 [] 102 p2_s338 = true := by decide +kernel
theorem p2_s338_s {X : Int → Int} {LX : Nat} : ck_Ok p2_O X LX 291 p2_s338 := ck_ok_s ⟨p2_nmu, ck_E1 (ck_S1 p2_s314_s ck_S0) (ck_E1 (ck_S1 p2_s268_s ck_S0) ck_E0)⟩ ck_X0 ck_l0 p2_s338_e
set_option maxRecDepth 100000 in
/-- GlacierMailModel.flow -/
def p2_s339 : ck_Sum := ((2, 0, 0), 245, [.inr (.inr (.inl 226)), .inl (0, 5, []), .inl ((-2147483648), (-1), []), .inl ((-2147483648), 2147483647, [])], ([], [], []), ([(226, 0, 0)], []), [(.inr (some (.inl (ck_one 0))), 245, ([], [], [(226, 0, 0, ck_one 1)]))])
set_option maxRecDepth 100000 in
theorem p2_s339_e : ck_ok p2_O none [] [(288, [p2_s317]), (282, [p2_s268]), (289, [p2_s319])] 291 [] 110 p2_s339 = true := by decide +kernel
theorem p2_s339_s {X : Int → Int} {LX : Nat} : ck_Ok p2_O X LX 291 p2_s339 := ck_ok_s ⟨p2_nmu, ck_E1 (ck_S1 p2_s317_s ck_S0) (ck_E1 (ck_S1 p2_s268_s ck_S0) (ck_E1 (ck_S1 p2_s319_s ck_S0) ck_E0))⟩ ck_X0 ck_l0 p2_s339_e
set_option maxRecDepth 100000 in
/-- GlacierMailModel.flow -/
def p2_s340 : ck_Sum := ((2, 0, 0), 245, [.inr (.inr (.inl 226)), .inl (0, 5, []), .inl (99, 2147483647, []), .inl ((-2147483648), 2147483647, [])], ([], [], []), ([(226, 0, 0)], []), [(.inr (some (.inl (ck_one 0))), 245, ([], [], [(226, 0, 0, ck_one 1)]))])
set_option maxRecDepth 100000 in
theorem p2_s340_e : ck_ok p2_O none [] [(288, [p2_s317]), (282, [p2_s268]), (289, [p2_s322])] 291 [] 110 p2_s340 = true := by decide +kernel
theorem p2_s340_s {X : Int → Int} {LX : Nat} : ck_Ok p2_O X LX 291 p2_s340 := ck_ok_s ⟨p2_nmu, ck_E1 (ck_S1 p2_s317_s ck_S0) (ck_E1 (ck_S1 p2_s268_s ck_S0) (ck_E1 (ck_S1 p2_s322_s ck_S0) ck_E0))⟩ ck_X0 ck_l0 p2_s340_e
set_option maxRecDepth 100000 in
/-- GlacierMailModel.flow -/
def p2_s341 : ck_Sum := ((2, 0, 0), 245, [.inr (.inr (.inl 226)), .inl (0, 5, []), .inl (0, 98, []), .inl ((-2147483648), (-1), [])], ([], [], []), ([(226, 0, 0)], []), [(.inr (some (.inl (ck_one 0))), 245, ([], [], [(226, 0, 0, (1, 2, []))]))])
set_option maxRecDepth 100000 in
theorem p2_s341_e : ck_ok p2_O none [] [(288, [p2_s317]), (282, [p2_s268, p2_s269, p2_s272]), (289, [p2_s325]), (285, [p2_s284])] 291 [] 120 p2_s341 = true := by decide +kernel
theorem p2_s341_s {X : Int → Int} {LX : Nat} : ck_Ok p2_O X LX 291 p2_s341 := ck_ok_s ⟨p2_nmu, ck_E1 (ck_S1 p2_s317_s ck_S0) (ck_E1 (ck_S1 p2_s268_s (ck_S1 p2_s269_s (ck_S1 p2_s272_s ck_S0))) (ck_E1 (ck_S1 p2_s325_s ck_S0) (ck_E1 (ck_S1 p2_s284_s ck_S0) ck_E0)))⟩ ck_X0 ck_l0 p2_s341_e
set_option maxRecDepth 100000 in
/-- GlacierMailModel.flow -/
def p2_s342 : ck_Sum := ((2, 0, 0), 245, [.inr (.inr (.inl 226)), .inl (0, 5, []), .inl (0, 98, []), .inl (300, 2147483647, [])], ([], [], []), ([(226, 0, 0)], []), [(.inr (some (.inl (ck_one 0))), 245, ([], [], [(226, 0, 0, (1, 2, []))]))])
set_option maxRecDepth 100000 in
theorem p2_s342_e : ck_ok p2_O none [] [(288, [p2_s317]), (282, [p2_s268, p2_s269, p2_s272]), (289, [p2_s325]), (285, [p2_s287])] 291 [] 120 p2_s342 = true := by decide +kernel
theorem p2_s342_s {X : Int → Int} {LX : Nat} : ck_Ok p2_O X LX 291 p2_s342 := ck_ok_s ⟨p2_nmu, ck_E1 (ck_S1 p2_s317_s ck_S0) (ck_E1 (ck_S1 p2_s268_s (ck_S1 p2_s269_s (ck_S1 p2_s272_s ck_S0))) (ck_E1 (ck_S1 p2_s325_s ck_S0) (ck_E1 (ck_S1 p2_s287_s ck_S0) ck_E0)))⟩ ck_X0 ck_l0 p2_s342_e
set_option maxRecDepth 100000 in
/-- GlacierMailModel.turnsTo -/
def p2_s343 : ck_Sum := ((0, 0, 0), 245, [.inr (.inr (.inl 226)), .inl (0, 6, [])], ([], [], []), ([(226, 26, 26), (235, 0, 29699)], []), [(.inr none, 245, ([], [], [(226, 26, 26, (0, 6, []))]))])
set_option maxRecDepth 100000 in
theorem p2_s343_e : ck_ok p2_O none [] [] 293 [(16, [some (.inr (.inr (.inl 226))), some (.inl (0, 6, [])), some (.inl (0, 29700, []))], ([], [], [(226, 26, 26, (0, 6, []))]), 100, .inl 2, true)] 142 p2_s343 = true := by decide +kernel
theorem p2_s343_s {X : Int → Int} {LX : Nat} : ck_Ok p2_O X LX 293 p2_s343 := ck_ok_s ⟨p2_nmu, ck_E0⟩ ck_X0 ck_l0 p2_s343_e
set_option maxRecDepth 100000 in
/-- GlacierMail$Rows.size -/
def p2_s360 : ck_Sum := ((0, 0, 0), 245, [.inr (.inr (.inl 8))], ([], [], []), ([], []), [(.inr (some (.inl (0, 8, []))), 245, ([], [], []))])
set_option maxRecDepth 100000 in
theorem p2_s360_e : ck_ok p2_O none [] [] 9 [] 76 p2_s360 = true := by decide +kernel
theorem p2_s360_s {X : Int → Int} {LX : Nat} : ck_Ok p2_O X LX 9 p2_s360 := ck_ok_s ⟨p2_nmu, ck_E0⟩ ck_X0 ck_l0 p2_s360_e
set_option maxRecDepth 100000 in
/-- GlacierMail.need -/
def p2_s361 : ck_Sum := ((6, 1, 6), 245, [.inr (.inr (.inl 1)), .inl ((-2147483648), (-1), []), .inl (0, 8, [])], ([], [], []), ([], []), [(.inl 3, 245, ([], [], []))])
set_option maxRecDepth 100000 in
theorem p2_s361_e : ck_ok p2_O none [] [] 133 [] 76 p2_s361 = true := by decide +kernel
theorem p2_s361_s {X : Int → Int} {LX : Nat} : ck_Ok p2_O X LX 133 p2_s361 := ck_ok_s ⟨p2_nmu, ck_E0⟩ ck_X0 ck_l0 p2_s361_e
