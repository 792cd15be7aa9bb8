/-! EVERY CALL ENDS, whatever was done before (laid by wip/am/p2g.py). -/
set_option maxRecDepth 100000 in
/-- GlacierMailModel.readSpeeds -/
def p2_s190 : ck_Sum := ((4, 0, 0), 245, [.inr (.inr (.inl 226)), .inl (ck_one 317)], ([], [], [(226, 9, 9, (0, 400, [(1, 0)]))]), ([(226, 9, 9), (226, 11, 11), (227, 317, 322)], []), [(.inr (some (.inl (ck_one 1))), 245, ([], [], [(226, 9, 9, (0, 400, [(1000001, 0)]))])), (.inr (some (.inl (ck_one 0))), 245, ([], [], [(226, 9, 9, (0, 400, [(1000001, 0)])), (226, 11, 11, (0, 400, [(1000001, 0)]))]))])
set_option maxRecDepth 100000 in
theorem p2_s190_e : ck_ok p2_O none [] [(261, [p2_s184]), (255, [p2_s188])] 260 [(2, [some (.inr (.inr (.inl 226))), some (.inl (ck_one 317)), some (.inl (0, 6, [])), none], ([], [], [(226, 9, 9, (0, 400, [(1000001, 0)]))]), 100, .inl 2, true)] 174 p2_s190 = true := by decide +kernel
theorem p2_s190_s {X : Int → Int} {LX : Nat} : ck_Ok p2_O X LX 260 p2_s190 := ck_ok_s ⟨p2_nmu, ck_E1 (ck_S1 p2_s184_s ck_S0) (ck_E1 (ck_S1 p2_s188_s ck_S0) ck_E0)⟩ ck_X0 ck_l0 p2_s190_e
set_option maxRecDepth 100000 in
/-- GlacierMailModel.readSpeeds -/
def p2_s191 : ck_Sum := ((4, 0, 0), 245, [.inr (.inr (.inl 226)), .inl (ck_one 311)], ([], [], [(226, 9, 9, (0, 400, [(1, 0)]))]), ([(226, 9, 9), (226, 11, 11), (227, 311, 316)], []), [(.inr (some (.inl (ck_one 1))), 245, ([], [], [(226, 9, 9, (0, 400, [(1000001, 0)]))])), (.inr (some (.inl (ck_one 0))), 245, ([], [], [(226, 9, 9, (0, 400, [(1000001, 0)])), (226, 11, 11, (0, 400, [(1000001, 0)]))]))])
set_option maxRecDepth 100000 in
theorem p2_s191_e : ck_ok p2_O none [] [(261, [p2_s184]), (255, [p2_s188])] 260 [(2, [some (.inr (.inr (.inl 226))), some (.inl (ck_one 311)), some (.inl (0, 6, [])), none], ([], [], [(226, 9, 9, (0, 400, [(1000001, 0)]))]), 100, .inl 2, true)] 174 p2_s191 = true := by decide +kernel
theorem p2_s191_s {X : Int → Int} {LX : Nat} : ck_Ok p2_O X LX 260 p2_s191 := ck_ok_s ⟨p2_nmu, ck_E1 (ck_S1 p2_s184_s ck_S0) (ck_E1 (ck_S1 p2_s188_s ck_S0) ck_E0)⟩ ck_X0 ck_l0 p2_s191_e
set_option maxRecDepth 100000 in
/-- GlacierMailModel.readSpeeds -/
def p2_s192 : ck_Sum := ((4, 0, 0), 245, [.inr (.inr (.inl 226)), .inl (ck_one 305)], ([], [], [(226, 9, 9, (0, 400, [(1, 0)]))]), ([(226, 9, 9), (226, 11, 11), (227, 305, 310)], []), [(.inr (some (.inl (ck_one 1))), 245, ([], [], [(226, 9, 9, (0, 400, [(1000001, 0)]))])), (.inr (some (.inl (ck_one 0))), 245, ([], [], [(226, 9, 9, (0, 400, [(1000001, 0)])), (226, 11, 11, (0, 400, [(1000001, 0)]))]))])
set_option maxRecDepth 100000 in
theorem p2_s192_e : ck_ok p2_O none [] [(261, [p2_s184]), (255, [p2_s188])] 260 [(2, [some (.inr (.inr (.inl 226))), some (.inl (ck_one 305)), some (.inl (0, 6, [])), none], ([], [], [(226, 9, 9, (0, 400, [(1000001, 0)]))]), 100, .inl 2, true)] 174 p2_s192 = true := by decide +kernel
theorem p2_s192_s {X : Int → Int} {LX : Nat} : ck_Ok p2_O X LX 260 p2_s192 := ck_ok_s ⟨p2_nmu, ck_E1 (ck_S1 p2_s184_s ck_S0) (ck_E1 (ck_S1 p2_s188_s ck_S0) ck_E0)⟩ ck_X0 ck_l0 p2_s192_e
set_option maxRecDepth 100000 in
/-- GlacierMailModel.readSpeeds -/
def p2_s193 : ck_Sum := ((4, 0, 0), 245, [.inr (.inr (.inl 226)), .inl (ck_one 299)], ([], [], [(226, 9, 9, (0, 400, [(1, 0)]))]), ([(226, 9, 9), (226, 11, 11), (227, 299, 304)], []), [(.inr (some (.inl (ck_one 1))), 245, ([], [], [(226, 9, 9, (0, 400, [(1000001, 0)]))])), (.inr (some (.inl (ck_one 0))), 245, ([], [], [(226, 9, 9, (0, 400, [(1000001, 0)])), (226, 11, 11, (0, 400, [(1000001, 0)]))]))])
set_option maxRecDepth 100000 in
theorem p2_s193_e : ck_ok p2_O none [] [(261, [p2_s184]), (255, [p2_s188])] 260 [(2, [some (.inr (.inr (.inl 226))), some (.inl (ck_one 299)), some (.inl (0, 6, [])), none], ([], [], [(226, 9, 9, (0, 400, [(1000001, 0)]))]), 100, .inl 2, true)] 174 p2_s193 = true := by decide +kernel
theorem p2_s193_s {X : Int → Int} {LX : Nat} : ck_Ok p2_O X LX 260 p2_s193 := ck_ok_s ⟨p2_nmu, ck_E1 (ck_S1 p2_s184_s ck_S0) (ck_E1 (ck_S1 p2_s188_s ck_S0) ck_E0)⟩ ck_X0 ck_l0 p2_s193_e
set_option maxRecDepth 100000 in
/-- GlacierMailModel.readSpeeds -/
def p2_s194 : ck_Sum := ((4, 0, 0), 245, [.inr (.inr (.inl 226)), .inl (ck_one 293)], ([], [], [(226, 9, 9, (0, 400, [(1, 0)]))]), ([(226, 9, 9), (226, 11, 11), (227, 293, 298)], []), [(.inr (some (.inl (ck_one 1))), 245, ([], [], [(226, 9, 9, (0, 400, [(1000001, 0)]))])), (.inr (some (.inl (ck_one 0))), 245, ([], [], [(226, 9, 9, (0, 400, [(1000001, 0)])), (226, 11, 11, (0, 400, [(1000001, 0)]))]))])
set_option maxRecDepth 100000 in
theorem p2_s194_e : ck_ok p2_O none [] [(261, [p2_s184]), (255, [p2_s188])] 260 [(2, [some (.inr (.inr (.inl 226))), some (.inl (ck_one 293)), some (.inl (0, 6, [])), none], ([], [], [(226, 9, 9, (0, 400, [(1000001, 0)]))]), 100, .inl 2, true)] 174 p2_s194 = true := by decide +kernel
theorem p2_s194_s {X : Int → Int} {LX : Nat} : ck_Ok p2_O X LX 260 p2_s194 := ck_ok_s ⟨p2_nmu, ck_E1 (ck_S1 p2_s184_s ck_S0) (ck_E1 (ck_S1 p2_s188_s ck_S0) ck_E0)⟩ ck_X0 ck_l0 p2_s194_e
set_option maxRecDepth 100000 in
/-- GlacierMailModel.readTable -/
def p2_s195 : ck_Sum := ((5, 0, 0), 245, [.inr (.inr (.inl 226))], ([], [], [(227, 6, 6, (0, 6, [(24, 0)])), (226, 9, 9, (0, 400, [(1, 0)]))]), ([(226, 9, 9), (226, 11, 11), (227, 6, 6), (227, 287, 322)], []), [(.inr (some (.inl (ck_one 0))), 245, ([], [], [(227, 6, 6, (0, 6, [(24, 0)])), (226, 9, 9, (0, 400, [(1000001, 0)]))])), (.inr (some (.inl (ck_one 1))), 245, ([], [], [(227, 6, 6, (1, 6, [])), (226, 9, 9, (0, 400, [(1000001, 0)]))]))])
set_option maxRecDepth 100000 in
theorem p2_s195_e : ck_ok p2_O none [] [(260, [p2_s189, p2_s190, p2_s191, p2_s192, p2_s193, p2_s194])] 273 [] 122 p2_s195 = true := by decide +kernel
theorem p2_s195_s {X : Int → Int} {LX : Nat} : ck_Ok p2_O X LX 273 p2_s195 := ck_ok_s ⟨p2_nmu, ck_E1 (ck_S1 p2_s189_s (ck_S1 p2_s190_s (ck_S1 p2_s191_s (ck_S1 p2_s192_s (ck_S1 p2_s193_s (ck_S1 p2_s194_s ck_S0)))))) ck_E0⟩ ck_X0 ck_l0 p2_s195_e
set_option maxRecDepth 100000 in
/-- GlacierMailModel.letters -/
def p2_s196 : ck_Sum := ((0, 0, 0), 245, [.inr (.inr (.inl 226))], ([], [], [(227, 4, 4, (0, 24, [(22, 0)]))]), ([], []), [(.inr (some (.inl (0, 24, [(22, 0)]))), 245, ([], [], []))])
set_option maxRecDepth 100000 in
theorem p2_s196_e : ck_ok p2_O none [] [] 254 [] 80 p2_s196 = true := by decide +kernel
theorem p2_s196_s {X : Int → Int} {LX : Nat} : ck_Ok p2_O X LX 254 p2_s196 := ck_ok_s ⟨p2_nmu, ck_E0⟩ ck_X0 ck_l0 p2_s196_e
set_option maxRecDepth 100000 in
/-- GlacierMailModel.figures -/
def p2_s197 : ck_Sum := ((2, 0, 0), 245, [.inr (.inr (.inl 226)), .inl (ck_one 0), .inl (0, 5, []), .inl (ck_one 4)], ([], [], [(226, 9, 9, (0, 400, [(1, 0)]))]), ([(226, 9, 9), (226, 11, 11)], []), [(.inr (some (.inl (ck_one (-1)))), 245, ([], [], [(226, 9, 9, (0, 400, [(1000001, 0)])), (226, 11, 11, (0, 400, [(1000001, 0)]))])), (.inr (some (.inl (0, 5, []))), 245, ([], [], [(226, 9, 9, (0, 400, [(1000001, 0)])), (226, 11, 11, (0, 400, [(1000001, 0)]))]))])
set_option maxRecDepth 100000 in
theorem p2_s197_e : ck_ok p2_O none [] [(245, [p2_s168]), (246, [p2_s181])] 256 [(7, [some (.inr (.inr (.inl 226))), some (.inl (ck_one 0)), some (.inl (0, 5, [])), some (.inl (ck_one 4)), some (.inl ((-2147483648), 2147483647, []))], ([], [], [(226, 11, 11, (0, 400, [(1000001, 0)])), (226, 9, 9, (0, 400, [(1000001, 0)]))]), 100, .inr (226, 9), true)] 222 p2_s197 = true := by decide +kernel
theorem p2_s197_s {X : Int → Int} {LX : Nat} : ck_Ok p2_O X LX 256 p2_s197 := ck_ok_s ⟨p2_nmu, ck_E1 (ck_S1 p2_s168_s ck_S0) (ck_E1 (ck_S1 p2_s181_s ck_S0) ck_E0)⟩ ck_X0 ck_l0 p2_s197_e
set_option maxRecDepth 100000 in
/-- GlacierMailModel.number -/
def p2_s198 : ck_Sum := ((3, 0, 0), 245, [.inr (.inr (.inl 226)), .inl (ck_one 0), .inl (0, 5, [])], ([], [], [(226, 9, 9, (0, 400, [(1, 0)]))]), ([(226, 9, 9), (226, 11, 11)], []), [(.inr (some (.inl (ck_one (-1)))), 245, ([], [], [(226, 9, 9, (0, 400, [(1000001, 0)])), (226, 11, 11, (0, 400, [(1000001, 0)]))])), (.inr (some (.inl (0, 5, []))), 245, ([], [], [(226, 9, 9, (0, 400, [(1000001, 0)])), (226, 11, 11, (0, 400, [(1000001, 0)]))]))])
set_option maxRecDepth 100000 in
theorem p2_s198_e : ck_ok p2_O none [] [(256, [p2_s197])] 255 [] 82 p2_s198 = true := by decide +kernel
theorem p2_s198_s {X : Int → Int} {LX : Nat} : ck_Ok p2_O X LX 255 p2_s198 := ck_ok_s ⟨p2_nmu, ck_E1 (ck_S1 p2_s197_s ck_S0) ck_E0⟩ ck_X0 ck_l0 p2_s198_e
set_option maxRecDepth 100000 in
/-- GlacierMailModel.laneTold -/
def p2_s199 : ck_Sum := ((4, 0, 0), 245, [.inr (.inr (.inl 226))], ([], [], [(226, 9, 9, (0, 400, [(1, 0)]))]), ([(226, 9, 9), (226, 11, 11)], []), [(.inr (some (.inl (ck_one (-1)))), 245, ([], [], [(226, 9, 9, (0, 400, [(1000001, 0)])), (226, 11, 11, (0, 400, [(1000001, 0)]))])), (.inr (some (.inl (0, 5, []))), 245, ([], [], [(226, 9, 9, (0, 400, [(1000001, 0)])), (226, 11, 11, (0, 400, [(1000001, 0)]))]))])
set_option maxRecDepth 100000 in
theorem p2_s199_e : ck_ok p2_O none [] [(261, [p2_s184]), (255, [p2_s198])] 268 [] 86 p2_s199 = true := by decide +kernel
theorem p2_s199_s {X : Int → Int} {LX : Nat} : ck_Ok p2_O X LX 268 p2_s199 := ck_ok_s ⟨p2_nmu, ck_E1 (ck_S1 p2_s184_s ck_S0) (ck_E1 (ck_S1 p2_s198_s ck_S0) ck_E0)⟩ ck_X0 ck_l0 p2_s199_e
set_option maxRecDepth 100000 in
/-- GlacierMailModel.lip -/
def p2_s200 : ck_Sum := ((0, 0, 0), 245, [.inr (.inr (.inl 226))], ([], [], []), ([], []), [(.inr (some (.inl (10, 99, []))), 245, ([], [], []))])
set_option maxRecDepth 100000 in
theorem p2_s200_e : ck_ok p2_O none [] [] 259 [] 80 p2_s200 = true := by decide +kernel
theorem p2_s200_s {X : Int → Int} {LX : Nat} : ck_Ok p2_O X LX 259 p2_s200 := ck_ok_s ⟨p2_nmu, ck_E0⟩ ck_X0 ck_l0 p2_s200_e
set_option maxRecDepth 100000 in
/-- GlacierMailModel.figures -/
def p2_s201 : ck_Sum := ((2, 0, 0), 245, [.inr (.inr (.inl 226)), .inl (ck_one 0), .inl (9, 98, []), .inl (ck_one 4)], ([], [], [(226, 9, 9, (0, 400, [(1, 0)]))]), ([(226, 9, 9), (226, 11, 11)], []), [(.inr (some (.inl (ck_one (-1)))), 245, ([], [], [(226, 9, 9, (0, 400, [(1000001, 0)])), (226, 11, 11, (0, 400, [(1000001, 0)]))])), (.inr (some (.inl (0, 98, []))), 245, ([], [], [(226, 9, 9, (0, 400, [(1000001, 0)])), (226, 11, 11, (0, 400, [(1000001, 0)]))]))])
set_option maxRecDepth 100000 in
theorem p2_s201_e : ck_ok p2_O none [] [(245, [p2_s168]), (246, [p2_s181])] 256 [(7, [some (.inr (.inr (.inl 226))), some (.inl (ck_one 0)), some (.inl (9, 98, [])), some (.inl (ck_one 4)), some (.inl ((-2147483648), 2147483647, []))], ([], [], [(226, 11, 11, (0, 400, [(1000001, 0)])), (226, 9, 9, (0, 400, [(1000001, 0)]))]), 100, .inr (226, 9), true)] 222 p2_s201 = true := by decide +kernel
theorem p2_s201_s {X : Int → Int} {LX : Nat} : ck_Ok p2_O X LX 256 p2_s201 := ck_ok_s ⟨p2_nmu, ck_E1 (ck_S1 p2_s168_s ck_S0) (ck_E1 (ck_S1 p2_s181_s ck_S0) ck_E0)⟩ ck_X0 ck_l0 p2_s201_e
set_option maxRecDepth 100000 in
/-- GlacierMailModel.number -/
def p2_s202 : ck_Sum := ((3, 0, 0), 245, [.inr (.inr (.inl 226)), .inl (ck_one 0), .inl (9, 98, [])], ([], [], [(226, 9, 9, (0, 400, [(1, 0)]))]), ([(226, 9, 9), (226, 11, 11)], []), [(.inr (some (.inl (ck_one (-1)))), 245, ([], [], [(226, 9, 9, (0, 400, [(1000001, 0)])), (226, 11, 11, (0, 400, [(1000001, 0)]))])), (.inr (some (.inl (0, 98, []))), 245, ([], [], [(226, 9, 9, (0, 400, [(1000001, 0)])), (226, 11, 11, (0, 400, [(1000001, 0)]))]))])
set_option maxRecDepth 100000 in
theorem p2_s202_e : ck_ok p2_O none [] [(256, [p2_s201])] 255 [] 82 p2_s202 = true := by decide +kernel
theorem p2_s202_s {X : Int → Int} {LX : Nat} : ck_Ok p2_O X LX 255 p2_s202 := ck_ok_s ⟨p2_nmu, ck_E1 (ck_S1 p2_s201_s ck_S0) ck_E0⟩ ck_X0 ck_l0 p2_s202_e
set_option maxRecDepth 100000 in
/-- GlacierMailModel.rowTold -/
def p2_s203 : ck_Sum := ((4, 0, 0), 245, [.inr (.inr (.inl 226))], ([], [], [(226, 9, 9, (0, 400, [(1, 0)]))]), ([(226, 9, 9), (226, 11, 11)], []), [(.inr (some (.inl (ck_one (-1)))), 245, ([], [], [(226, 9, 9, (0, 400, [(1000001, 0)])), (226, 11, 11, (0, 400, [(1000001, 0)]))])), (.inr (some (.inl (0, 98, []))), 245, ([], [], [(226, 9, 9, (0, 400, [(1000001, 0)])), (226, 11, 11, (0, 400, [(1000001, 0)]))]))])
set_option maxRecDepth 100000 in
theorem p2_s203_e : ck_ok p2_O none [] [(259, [p2_s200]), (255, [p2_s202])] 263 [] 86 p2_s203 = true := by decide +kernel
theorem p2_s203_s {X : Int → Int} {LX : Nat} : ck_Ok p2_O X LX 263 p2_s203 := ck_ok_s ⟨p2_nmu, ck_E1 (ck_S1 p2_s200_s ck_S0) (ck_E1 (ck_S1 p2_s202_s ck_S0) ck_E0)⟩ ck_X0 ck_l0 p2_s203_e
set_option maxRecDepth 100000 in
/-- GlacierMailModel.setsLetter -/
def p2_s204 : ck_Sum := ((0, 0, 0), 245, [.inr (.inr (.inl 226)), .inl (0, 23, []), .inl (ck_one 0), .inl (ck_one (-1))], ([], [], []), ([(227, 119, 119), (227, 126, 126), (227, 133, 133), (227, 140, 140), (227, 147, 147), (227, 154, 154), (227, 161, 161), (227, 168, 168), (227, 175, 175), (227, 182, 182), (227, 189, 189), (227, 196, 196), (227, 203, 203), (227, 210, 210), (227, 217, 217), (227, 224, 224), (227, 231, 231), (227, 238, 238), (227, 245, 245), (227, 252, 252), (227, 259, 259), (227, 266, 266), (227, 273, 273), (227, 280, 280)], []), [(.inr none, 245, ([], [], []))])
set_option maxRecDepth 100000 in
theorem p2_s204_e : ck_ok p2_O none [] [] 272 [] 94 p2_s204 = true := by decide +kernel
theorem p2_s204_s {X : Int → Int} {LX : Nat} : ck_Ok p2_O X LX 272 p2_s204 := ck_ok_s ⟨p2_nmu, ck_E0⟩ ck_X0 ck_l0 p2_s204_e
set_option maxRecDepth 100000 in
/-- GlacierMailModel.setsLetter -/
def p2_s205 : ck_Sum := ((0, 0, 0), 245, [.inr (.inr (.inl 226)), .inl (0, 23, []), .inl (ck_one 1), .inl (ck_one (-1))], ([], [], []), ([(227, 120, 120), (227, 127, 127), (227, 134, 134), (227, 141, 141), (227, 148, 148), (227, 155, 155), (227, 162, 162), (227, 169, 169), (227, 176, 176), (227, 183, 183), (227, 190, 190), (227, 197, 197), (227, 204, 204), (227, 211, 211), (227, 218, 218), (227, 225, 225), (227, 232, 232), (227, 239, 239), (227, 246, 246), (227, 253, 253), (227, 260, 260), (227, 267, 267), (227, 274, 274), (227, 281, 281)], []), [(.inr none, 245, ([], [], []))])
set_option maxRecDepth 100000 in
theorem p2_s205_e : ck_ok p2_O none [] [] 272 [] 94 p2_s205 = true := by decide +kernel
theorem p2_s205_s {X : Int → Int} {LX : Nat} : ck_Ok p2_O X LX 272 p2_s205 := ck_ok_s ⟨p2_nmu, ck_E0⟩ ck_X0 ck_l0 p2_s205_e
set_option maxRecDepth 100000 in
/-- GlacierMailModel.setsLetter -/
def p2_s206 : ck_Sum := ((0, 0, 0), 245, [.inr (.inr (.inl 226)), .inl (0, 23, []), .inl (ck_one 2), .inl (0, 5, [])], ([], [], []), ([(227, 121, 121), (227, 128, 128), (227, 135, 135), (227, 142, 142), (227, 149, 149), (227, 156, 156), (227, 163, 163), (227, 170, 170), (227, 177, 177), (227, 184, 184), (227, 191, 191), (227, 198, 198), (227, 205, 205), (227, 212, 212), (227, 219, 219), (227, 226, 226), (227, 233, 233), (227, 240, 240), (227, 247, 247), (227, 254, 254), (227, 261, 261), (227, 268, 268), (227, 275, 275), (227, 282, 282)], []), [(.inr none, 245, ([], [], []))])
set_option maxRecDepth 100000 in
theorem p2_s206_e : ck_ok p2_O none [] [] 272 [] 94 p2_s206 = true := by decide +kernel
theorem p2_s206_s {X : Int → Int} {LX : Nat} : ck_Ok p2_O X LX 272 p2_s206 := ck_ok_s ⟨p2_nmu, ck_E0⟩ ck_X0 ck_l0 p2_s206_e
set_option maxRecDepth 100000 in
/-- GlacierMailModel.setsLetter -/
def p2_s208 : ck_Sum := ((0, 0, 0), 245, [.inr (.inr (.inl 226)), .inl (0, 23, []), .inl (ck_one 3), .inl (0, 299, [])], ([], [], []), ([(227, 122, 122), (227, 129, 129), (227, 136, 136), (227, 143, 143), (227, 150, 150), (227, 157, 157), (227, 164, 164), (227, 171, 171), (227, 178, 178), (227, 185, 185), (227, 192, 192), (227, 199, 199), (227, 206, 206), (227, 213, 213), (227, 220, 220), (227, 227, 227), (227, 234, 234), (227, 241, 241), (227, 248, 248), (227, 255, 255), (227, 262, 262), (227, 269, 269), (227, 276, 276), (227, 283, 283)], []), [(.inr none, 245, ([], [], []))])
set_option maxRecDepth 100000 in
theorem p2_s208_e : ck_ok p2_O none [] [] 272 [] 94 p2_s208 = true := by decide +kernel
theorem p2_s208_s {X : Int → Int} {LX : Nat} : ck_Ok p2_O X LX 272 p2_s208 := ck_ok_s ⟨p2_nmu, ck_E0⟩ ck_X0 ck_l0 p2_s208_e
set_option maxRecDepth 100000 in
/-- GlacierMailModel.setsLetter -/
def p2_s209 : ck_Sum := ((0, 0, 0), 245, [.inr (.inr (.inl 226)), .inl (0, 23, []), .inl (ck_one 4), .inl (0, 98, [])], ([], [], []), ([(227, 123, 123), (227, 130, 130), (227, 137, 137), (227, 144, 144), (227, 151, 151), (227, 158, 158), (227, 165, 165), (227, 172, 172), (227, 179, 179), (227, 186, 186), (227, 193, 193), (227, 200, 200), (227, 207, 207), (227, 214, 214), (227, 221, 221), (227, 228, 228), (227, 235, 235), (227, 242, 242), (227, 249, 249), (227, 256, 256), (227, 263, 263), (227, 270, 270), (227, 277, 277), (227, 284, 284)], []), [(.inr none, 245, ([], [], []))])
set_option maxRecDepth 100000 in
theorem p2_s209_e : ck_ok p2_O none [] [] 272 [] 94 p2_s209 = true := by decide +kernel
theorem p2_s209_s {X : Int → Int} {LX : Nat} : ck_Ok p2_O X LX 272 p2_s209 := ck_ok_s ⟨p2_nmu, ck_E0⟩ ck_X0 ck_l0 p2_s209_e
set_option maxRecDepth 100000 in
/-- GlacierMailModel.setsLetter -/
def p2_s210 : ck_Sum := ((0, 0, 0), 245, [.inr (.inr (.inl 226)), .inl (0, 23, []), .inl (ck_one 5), .inl (ck_one (-1))], ([], [], []), ([(227, 124, 124), (227, 131, 131), (227, 138, 138), (227, 145, 145), (227, 152, 152), (227, 159, 159), (227, 166, 166), (227, 173, 173), (227, 180, 180), (227, 187, 187), (227, 194, 194), (227, 201, 201), (227, 208, 208), (227, 215, 215), (227, 222, 222), (227, 229, 229), (227, 236, 236), (227, 243, 243), (227, 250, 250), (227, 257, 257), (227, 264, 264), (227, 271, 271), (227, 278, 278), (227, 285, 285)], []), [(.inr none, 245, ([], [], []))])
set_option maxRecDepth 100000 in
theorem p2_s210_e : ck_ok p2_O none [] [] 272 [] 94 p2_s210 = true := by decide +kernel
theorem p2_s210_s {X : Int → Int} {LX : Nat} : ck_Ok p2_O X LX 272 p2_s210 := ck_ok_s ⟨p2_nmu, ck_E0⟩ ck_X0 ck_l0 p2_s210_e
set_option maxRecDepth 100000 in
/-- GlacierMailModel.setsLetter -/
def p2_s211 : ck_Sum := ((0, 0, 0), 245, [.inr (.inr (.inl 226)), .inl (0, 23, []), .inl (ck_one 6), .inl (ck_one (-1))], ([], [], []), ([(227, 125, 125), (227, 132, 132), (227, 139, 139), (227, 146, 146), (227, 153, 153), (227, 160, 160), (227, 167, 167), (227, 174, 174), (227, 181, 181), (227, 188, 188), (227, 195, 195), (227, 202, 202), (227, 209, 209), (227, 216, 216), (227, 223, 223), (227, 230, 230), (227, 237, 237), (227, 244, 244), (227, 251, 251), (227, 258, 258), (227, 265, 265), (227, 272, 272), (227, 279, 279), (227, 286, 286)], []), [(.inr none, 245, ([], [], []))])
set_option maxRecDepth 100000 in
theorem p2_s211_e : ck_ok p2_O none [] [] 272 [] 94 p2_s211 = true := by decide +kernel
theorem p2_s211_s {X : Int → Int} {LX : Nat} : ck_Ok p2_O X LX 272 p2_s211 := ck_ok_s ⟨p2_nmu, ck_E0⟩ ck_X0 ck_l0 p2_s211_e
set_option maxRecDepth 100000 in
/-- GlacierMailModel.now -/
def p2_s207 : ck_Sum := ((0, 0, 0), 245, [.inr (.inr (.inl 226))], ([], [], [(227, 9, 9, (0, 299, [(11, 0)]))]), ([], []), [(.inr (some (.inl (0, 299, [(11, 0)]))), 245, ([], [], []))])
set_option maxRecDepth 100000 in
theorem p2_s207_e : ck_ok p2_O none [] [] 266 [] 80 p2_s207 = true := by decide +kernel
theorem p2_s207_s {X : Int → Int} {LX : Nat} : ck_Ok p2_O X LX 266 p2_s207 := ck_ok_s ⟨p2_nmu, ck_E0⟩ ck_X0 ck_l0 p2_s207_e
set_option maxRecDepth 100000 in
/-- GlacierMailModel.throwsIn -/
def p2_s212 : ck_Sum := ((1, 0, 0), 245, [.inr (.inr (.inl 226)), .inl (ck_one (-1)), .inl (ck_one (-1)), .inl (0, 5, []), .inl (0, 98, [])], ([], [], [(227, 4, 4, (0, 23, [(22, 0)])), (227, 9, 9, (0, 299, [(11, 0)]))]), ([(227, 4, 4), (227, 119, 286)], []), [(.inr none, 245, ([], [], [(227, 4, 4, (1, 24, [(22, 1)]))]))])
set_option maxRecDepth 100000 in
theorem p2_s212_e : ck_ok p2_O none [] [(254, [p2_s196]), (272, [p2_s204, p2_s205, p2_s206, p2_s208, p2_s209, p2_s210, p2_s211]), (266, [p2_s207])] 271 [] 166 p2_s212 = true := by decide +kernel
theorem p2_s212_s {X : Int → Int} {LX : Nat} : ck_Ok p2_O X LX 271 p2_s212 := ck_ok_s ⟨p2_nmu, ck_E1 (ck_S1 p2_s196_s ck_S0) (ck_E1 (ck_S1 p2_s204_s (ck_S1 p2_s205_s (ck_S1 p2_s206_s (ck_S1 p2_s208_s (ck_S1 p2_s209_s (ck_S1 p2_s210_s (ck_S1 p2_s211_s ck_S0))))))) (ck_E1 (ck_S1 p2_s207_s ck_S0) ck_E0))⟩ ck_X0 ck_l0 p2_s212_e
set_option maxRecDepth 100000 in
/-- GlacierMailModel.readRock -/
def p2_s213 : ck_Sum := ((5, 0, 0), 245, [.inr (.inr (.inl 226))], ([], [], [(227, 4, 4, (0, 24, [(22, 0)])), (226, 9, 9, (0, 400, [(1, 0)])), (227, 9, 9, (0, 299, [(11, 0)]))]), ([(226, 9, 9), (226, 11, 11), (227, 4, 4), (227, 119, 286)], []), [(.inr (some (.inl (ck_one 0))), 245, ([], [], [(226, 9, 9, (0, 400, [(1000001, 0)])), (227, 4, 4, (0, 24, [(22, 0)]))])), (.inr (some (.inl (ck_one 1))), 245, ([], [], [(227, 4, 4, (1, 24, [(22, 1)])), (226, 9, 9, (0, 400, [(1000001, 0)])), (226, 11, 11, (0, 400, [(1000001, 0)]))]))])
set_option maxRecDepth 100000 in
theorem p2_s213_e : ck_ok p2_O none [] [(254, [p2_s196]), (268, [p2_s199]), (263, [p2_s203]), (271, [p2_s212])] 270 [] 120 p2_s213 = true := by decide +kernel
theorem p2_s213_s {X : Int → Int} {LX : Nat} : ck_Ok p2_O X LX 270 p2_s213 := ck_ok_s ⟨p2_nmu, ck_E1 (ck_S1 p2_s196_s ck_S0) (ck_E1 (ck_S1 p2_s199_s ck_S0) (ck_E1 (ck_S1 p2_s203_s ck_S0) (ck_E1 (ck_S1 p2_s212_s ck_S0) ck_E0)))⟩ ck_X0 ck_l0 p2_s213_e
set_option maxRecDepth 100000 in
/-- GlacierMailModel.people -/
def p2_s214 : ck_Sum := ((0, 0, 0), 245, [.inr (.inr (.inl 226))], ([], [], [(227, 3, 3, (0, 8, [(21, 0)]))]), ([], []), [(.inr (some (.inl (0, 8, [(21, 0)]))), 245, ([], [], []))])
set_option maxRecDepth 100000 in
theorem p2_s214_e : ck_ok p2_O none [] [] 253 [] 80 p2_s214 = true := by decide +kernel
theorem p2_s214_s {X : Int → Int} {LX : Nat} : ck_Ok p2_O X LX 253 p2_s214 := ck_ok_s ⟨p2_nmu, ck_E0⟩ ck_X0 ck_l0 p2_s214_e
set_option maxRecDepth 100000 in
/-- GlacierMailModel.figures -/
def p2_s218 : ck_Sum := ((2, 0, 0), 245, [.inr (.inr (.inl 226)), .inl (0, 299, []), .inl (ck_one 299), .inl (ck_one 4)], ([], [], [(226, 9, 9, (0, 400, [(1, 0)]))]), ([(226, 9, 9), (226, 11, 11)], []), [(.inr (some (.inl (ck_one (-1)))), 245, ([], [], [(226, 9, 9, (0, 400, [(1000001, 0)])), (226, 11, 11, (0, 400, [(1000001, 0)]))])), (.inr (some (.inl (0, 299, []))), 245, ([], [], [(226, 9, 9, (0, 400, [(1000001, 0)])), (226, 11, 11, (0, 400, [(1000001, 0)]))]))])
set_option maxRecDepth 100000 in
theorem p2_s218_e : ck_ok p2_O none [] [(245, [p2_s168]), (246, [p2_s181])] 256 [(7, [some (.inr (.inr (.inl 226))), some (.inl (0, 299, [])), some (.inl (ck_one 299)), some (.inl (ck_one 4)), some (.inl ((-2147483648), 2147483647, []))], ([], [], [(226, 11, 11, (0, 400, [(1000001, 0)])), (226, 9, 9, (0, 400, [(1000001, 0)]))]), 100, .inr (226, 9), true)] 222 p2_s218 = true := by decide +kernel
theorem p2_s218_s {X : Int → Int} {LX : Nat} : ck_Ok p2_O X LX 256 p2_s218 := ck_ok_s ⟨p2_nmu, ck_E1 (ck_S1 p2_s168_s ck_S0) (ck_E1 (ck_S1 p2_s181_s ck_S0) ck_E0)⟩ ck_X0 ck_l0 p2_s218_e
set_option maxRecDepth 100000 in
/-- GlacierMailModel.number -/
def p2_s219 : ck_Sum := ((3, 0, 0), 245, [.inr (.inr (.inl 226)), .inl (0, 299, []), .inl (ck_one 299)], ([], [], [(226, 9, 9, (0, 400, [(1, 0)]))]), ([(226, 9, 9), (226, 11, 11)], []), [(.inr (some (.inl (ck_one (-1)))), 245, ([], [], [(226, 9, 9, (0, 400, [(1000001, 0)])), (226, 11, 11, (0, 400, [(1000001, 0)]))])), (.inr (some (.inl (0, 299, []))), 245, ([], [], [(226, 9, 9, (0, 400, [(1000001, 0)])), (226, 11, 11, (0, 400, [(1000001, 0)]))]))])
set_option maxRecDepth 100000 in
theorem p2_s219_e : ck_ok p2_O none [] [(256, [p2_s218])] 255 [] 82 p2_s219 = true := by decide +kernel
theorem p2_s219_s {X : Int → Int} {LX : Nat} : ck_Ok p2_O X LX 255 p2_s219 := ck_ok_s ⟨p2_nmu, ck_E1 (ck_S1 p2_s218_s ck_S0) ck_E0⟩ ck_X0 ck_l0 p2_s219_e
set_option maxRecDepth 100000 in
/-- GlacierMailModel.figures -/
def p2_s220 : ck_Sum := ((2, 0, 0), 245, [.inr (.inr (.inl 226)), .inl (ck_one 1), .inl (ck_one 20), .inl (ck_one 4)], ([], [], [(226, 9, 9, (0, 400, [(1, 0)]))]), ([(226, 9, 9), (226, 11, 11)], []), [(.inr (some (.inl (ck_one (-1)))), 245, ([], [], [(226, 9, 9, (0, 400, [(1000001, 0)])), (226, 11, 11, (0, 400, [(1000001, 0)]))])), (.inr (some (.inl (1, 20, []))), 245, ([], [], [(226, 9, 9, (0, 400, [(1000001, 0)])), (226, 11, 11, (0, 400, [(1000001, 0)]))]))])
set_option maxRecDepth 100000 in
theorem p2_s220_e : ck_ok p2_O none [] [(245, [p2_s168]), (246, [p2_s181])] 256 [(7, [some (.inr (.inr (.inl 226))), some (.inl (ck_one 1)), some (.inl (ck_one 20)), some (.inl (ck_one 4)), some (.inl ((-2147483648), 2147483647, []))], ([], [], [(226, 11, 11, (0, 400, [(1000001, 0)])), (226, 9, 9, (0, 400, [(1000001, 0)]))]), 100, .inr (226, 9), true)] 222 p2_s220 = true := by decide +kernel
theorem p2_s220_s {X : Int → Int} {LX : Nat} : ck_Ok p2_O X LX 256 p2_s220 := ck_ok_s ⟨p2_nmu, ck_E1 (ck_S1 p2_s168_s ck_S0) (ck_E1 (ck_S1 p2_s181_s ck_S0) ck_E0)⟩ ck_X0 ck_l0 p2_s220_e
set_option maxRecDepth 100000 in
/-- GlacierMailModel.number -/
def p2_s221 : ck_Sum := ((3, 0, 0), 245, [.inr (.inr (.inl 226)), .inl (ck_one 1), .inl (ck_one 20)], ([], [], [(226, 9, 9, (0, 400, [(1, 0)]))]), ([(226, 9, 9), (226, 11, 11)], []), [(.inr (some (.inl (ck_one (-1)))), 245, ([], [], [(226, 9, 9, (0, 400, [(1000001, 0)])), (226, 11, 11, (0, 400, [(1000001, 0)]))])), (.inr (some (.inl (1, 20, []))), 245, ([], [], [(226, 9, 9, (0, 400, [(1000001, 0)])), (226, 11, 11, (0, 400, [(1000001, 0)]))]))])
set_option maxRecDepth 100000 in
theorem p2_s221_e : ck_ok p2_O none [] [(256, [p2_s220])] 255 [] 82 p2_s221 = true := by decide +kernel
theorem p2_s221_s {X : Int → Int} {LX : Nat} : ck_Ok p2_O X LX 255 p2_s221 := ck_ok_s ⟨p2_nmu, ck_E1 (ck_S1 p2_s220_s ck_S0) ck_E0⟩ ck_X0 ck_l0 p2_s221_e
set_option maxRecDepth 100000 in
/-- GlacierMailModel.readFlood -/
def p2_s222 : ck_Sum := ((5, 0, 0), 245, [.inr (.inr (.inl 226))], ([], [], [(227, 5, 5, (0, 8, [(23, 0)])), (226, 9, 9, (0, 400, [(1, 0)])), (227, 9, 9, (0, 299, [(11, 0)]))]), ([(226, 9, 9), (226, 11, 11), (227, 5, 5), (227, 71, 94)], []), [(.inr (some (.inl (ck_one 0))), 245, ([], [], [(226, 9, 9, (0, 400, [(1000001, 0)])), (227, 5, 5, (0, 8, [(23, 0)]))])), (.inr (some (.inl (ck_one 1))), 245, ([], [], [(227, 5, 5, (1, 8, [])), (226, 9, 9, (0, 400, [(1000001, 0)])), (226, 11, 11, (0, 400, [(1000001, 0)]))]))])
set_option maxRecDepth 100000 in
theorem p2_s222_e : ck_ok p2_O none [] [(266, [p2_s207]), (255, [p2_s219, p2_s221]), (263, [p2_s203])] 265 [] 198 p2_s222 = true := by decide +kernel
theorem p2_s222_s {X : Int → Int} {LX : Nat} : ck_Ok p2_O X LX 265 p2_s222 := ck_ok_s ⟨p2_nmu, ck_E1 (ck_S1 p2_s207_s ck_S0) (ck_E1 (ck_S1 p2_s219_s (ck_S1 p2_s221_s ck_S0)) (ck_E1 (ck_S1 p2_s203_s ck_S0) ck_E0))⟩ ck_X0 ck_l0 p2_s222_e
set_option maxRecDepth 100000 in
/-- GlacierMailModel.figures -/
def p2_s224 : ck_Sum := ((2, 0, 0), 245, [.inr (.inr (.inl 226)), .inl (ck_one 0), .inl (ck_one 9), .inl (ck_one 4)], ([], [], [(226, 9, 9, (0, 400, [(1, 0)]))]), ([(226, 9, 9), (226, 11, 11)], []), [(.inr (some (.inl (ck_one (-1)))), 245, ([], [], [(226, 9, 9, (0, 400, [(1000001, 0)])), (226, 11, 11, (0, 400, [(1000001, 0)]))])), (.inr (some (.inl (0, 9, []))), 245, ([], [], [(226, 9, 9, (0, 400, [(1000001, 0)])), (226, 11, 11, (0, 400, [(1000001, 0)]))]))])
set_option maxRecDepth 100000 in
theorem p2_s224_e : ck_ok p2_O none [] [(245, [p2_s168]), (246, [p2_s181])] 256 [(7, [some (.inr (.inr (.inl 226))), some (.inl (ck_one 0)), some (.inl (ck_one 9)), some (.inl (ck_one 4)), some (.inl ((-2147483648), 2147483647, []))], ([], [], [(226, 11, 11, (0, 400, [(1000001, 0)])), (226, 9, 9, (0, 400, [(1000001, 0)]))]), 100, .inr (226, 9), true)] 222 p2_s224 = true := by decide +kernel
theorem p2_s224_s {X : Int → Int} {LX : Nat} : ck_Ok p2_O X LX 256 p2_s224 := ck_ok_s ⟨p2_nmu, ck_E1 (ck_S1 p2_s168_s ck_S0) (ck_E1 (ck_S1 p2_s181_s ck_S0) ck_E0)⟩ ck_X0 ck_l0 p2_s224_e
set_option maxRecDepth 100000 in
/-- GlacierMailModel.number -/
def p2_s225 : ck_Sum := ((3, 0, 0), 245, [.inr (.inr (.inl 226)), .inl (ck_one 0), .inl (ck_one 9)], ([], [], [(226, 9, 9, (0, 400, [(1, 0)]))]), ([(226, 9, 9), (226, 11, 11)], []), [(.inr (some (.inl (ck_one (-1)))), 245, ([], [], [(226, 9, 9, (0, 400, [(1000001, 0)])), (226, 11, 11, (0, 400, [(1000001, 0)]))])), (.inr (some (.inl (0, 9, []))), 245, ([], [], [(226, 9, 9, (0, 400, [(1000001, 0)])), (226, 11, 11, (0, 400, [(1000001, 0)]))]))])
set_option maxRecDepth 100000 in
theorem p2_s225_e : ck_ok p2_O none [] [(256, [p2_s224])] 255 [] 82 p2_s225 = true := by decide +kernel
theorem p2_s225_s {X : Int → Int} {LX : Nat} : ck_Ok p2_O X LX 255 p2_s225 := ck_ok_s ⟨p2_nmu, ck_E1 (ck_S1 p2_s224_s ck_S0) ck_E0⟩ ck_X0 ck_l0 p2_s225_e
set_option maxRecDepth 100000 in
/-- GlacierMailModel.figures -/
def p2_s228 : ck_Sum := ((2, 0, 0), 245, [.inr (.inr (.inl 226)), .inl (ck_one 0), .inl (ck_one 0), .inl (ck_one 4)], ([], [], [(226, 9, 9, (0, 400, [(1, 0)]))]), ([(226, 9, 9), (226, 11, 11)], []), [(.inr (some (.inl (ck_one (-1)))), 245, ([], [], [(226, 9, 9, (0, 400, [(1000001, 0)])), (226, 11, 11, (0, 400, [(1000001, 0)]))])), (.inr (some (.inl (ck_one 0))), 245, ([], [], [(226, 9, 9, (0, 400, [(1000001, 0)])), (226, 11, 11, (0, 400, [(1000001, 0)]))]))])
set_option maxRecDepth 100000 in
theorem p2_s228_e : ck_ok p2_O none [] [(245, [p2_s168]), (246, [p2_s181])] 256 [(7, [some (.inr (.inr (.inl 226))), some (.inl (ck_one 0)), some (.inl (ck_one 0)), some (.inl (ck_one 4)), some (.inl ((-2147483648), 2147483647, []))], ([], [], [(226, 11, 11, (0, 400, [(1000001, 0)])), (226, 9, 9, (0, 400, [(1000001, 0)]))]), 100, .inr (226, 9), true)] 222 p2_s228 = true := by decide +kernel
theorem p2_s228_s {X : Int → Int} {LX : Nat} : ck_Ok p2_O X LX 256 p2_s228 := ck_ok_s ⟨p2_nmu, ck_E1 (ck_S1 p2_s168_s ck_S0) (ck_E1 (ck_S1 p2_s181_s ck_S0) ck_E0)⟩ ck_X0 ck_l0 p2_s228_e
set_option maxRecDepth 100000 in
/-- GlacierMailModel.number -/
def p2_s229 : ck_Sum := ((3, 0, 0), 245, [.inr (.inr (.inl 226)), .inl (ck_one 0), .inl (ck_one 0)], ([], [], [(226, 9, 9, (0, 400, [(1, 0)]))]), ([(226, 9, 9), (226, 11, 11)], []), [(.inr (some (.inl (ck_one (-1)))), 245, ([], [], [(226, 9, 9, (0, 400, [(1000001, 0)])), (226, 11, 11, (0, 400, [(1000001, 0)]))])), (.inr (some (.inl (ck_one 0))), 245, ([], [], [(226, 9, 9, (0, 400, [(1000001, 0)])), (226, 11, 11, (0, 400, [(1000001, 0)]))]))])
set_option maxRecDepth 100000 in
theorem p2_s229_e : ck_ok p2_O none [] [(256, [p2_s228])] 255 [] 82 p2_s229 = true := by decide +kernel
theorem p2_s229_s {X : Int → Int} {LX : Nat} : ck_Ok p2_O X LX 255 p2_s229 := ck_ok_s ⟨p2_nmu, ck_E1 (ck_S1 p2_s228_s ck_S0) ck_E0⟩ ck_X0 ck_l0 p2_s229_e
set_option maxRecDepth 100000 in
/-- GlacierMailModel.figures -/
def p2_s231 : ck_Sum := ((2, 0, 0), 245, [.inr (.inr (.inl 226)), .inl (1, 99, []), .inl (9, 98, []), .inl (ck_one 4)], ([], [], [(226, 9, 9, (0, 400, [(1, 0)]))]), ([(226, 9, 9), (226, 11, 11)], []), [(.inr (some (.inl (ck_one (-1)))), 245, ([], [], [(226, 9, 9, (0, 400, [(1000001, 0)])), (226, 11, 11, (0, 400, [(1000001, 0)]))])), (.inr (some (.inl (1, 98, []))), 245, ([], [], [(226, 9, 9, (0, 400, [(1000001, 0)])), (226, 11, 11, (0, 400, [(1000001, 0)]))]))])
set_option maxRecDepth 100000 in
theorem p2_s231_e : ck_ok p2_O none [] [(245, [p2_s168]), (246, [p2_s181])] 256 [(7, [some (.inr (.inr (.inl 226))), some (.inl (1, 99, [])), some (.inl (9, 98, [])), some (.inl (ck_one 4)), some (.inl ((-2147483648), 2147483647, []))], ([], [], [(226, 11, 11, (0, 400, [(1000001, 0)])), (226, 9, 9, (0, 400, [(1000001, 0)]))]), 100, .inr (226, 9), true)] 222 p2_s231 = true := by decide +kernel
theorem p2_s231_s {X : Int → Int} {LX : Nat} : ck_Ok p2_O X LX 256 p2_s231 := ck_ok_s ⟨p2_nmu, ck_E1 (ck_S1 p2_s168_s ck_S0) (ck_E1 (ck_S1 p2_s181_s ck_S0) ck_E0)⟩ ck_X0 ck_l0 p2_s231_e
set_option maxRecDepth 100000 in
/-- GlacierMailModel.number -/
def p2_s232 : ck_Sum := ((3, 0, 0), 245, [.inr (.inr (.inl 226)), .inl (1, 99, []), .inl (9, 98, [])], ([], [], [(226, 9, 9, (0, 400, [(1, 0)]))]), ([(226, 9, 9), (226, 11, 11)], []), [(.inr (some (.inl (ck_one (-1)))), 245, ([], [], [(226, 9, 9, (0, 400, [(1000001, 0)])), (226, 11, 11, (0, 400, [(1000001, 0)]))])), (.inr (some (.inl (1, 98, []))), 245, ([], [], [(226, 9, 9, (0, 400, [(1000001, 0)])), (226, 11, 11, (0, 400, [(1000001, 0)]))]))])
set_option maxRecDepth 100000 in
theorem p2_s232_e : ck_ok p2_O none [] [(256, [p2_s231])] 255 [] 82 p2_s232 = true := by decide +kernel
theorem p2_s232_s {X : Int → Int} {LX : Nat} : ck_Ok p2_O X LX 255 p2_s232 := ck_ok_s ⟨p2_nmu, ck_E1 (ck_S1 p2_s231_s ck_S0) ck_E0⟩ ck_X0 ck_l0 p2_s232_e
set_option maxRecDepth 100000 in
/-- GlacierMailModel.figures -/
def p2_s239 : ck_Sum := ((2, 0, 0), 245, [.inr (.inr (.inl 226)), .inl (ck_one 1), .inl (9, 98, []), .inl (ck_one 4)], ([], [], [(226, 9, 9, (0, 400, [(1, 0)]))]), ([(226, 9, 9), (226, 11, 11)], []), [(.inr (some (.inl (ck_one (-1)))), 245, ([], [], [(226, 9, 9, (0, 400, [(1000001, 0)])), (226, 11, 11, (0, 400, [(1000001, 0)]))])), (.inr (some (.inl (1, 98, []))), 245, ([], [], [(226, 9, 9, (0, 400, [(1000001, 0)])), (226, 11, 11, (0, 400, [(1000001, 0)]))]))])
set_option maxRecDepth 100000 in
theorem p2_s239_e : ck_ok p2_O none [] [(245, [p2_s168]), (246, [p2_s181])] 256 [(7, [some (.inr (.inr (.inl 226))), some (.inl (ck_one 1)), some (.inl (9, 98, [])), some (.inl (ck_one 4)), some (.inl ((-2147483648), 2147483647, []))], ([], [], [(226, 11, 11, (0, 400, [(1000001, 0)])), (226, 9, 9, (0, 400, [(1000001, 0)]))]), 100, .inr (226, 9), true)] 222 p2_s239 = true := by decide +kernel
theorem p2_s239_s {X : Int → Int} {LX : Nat} : ck_Ok p2_O X LX 256 p2_s239 := ck_ok_s ⟨p2_nmu, ck_E1 (ck_S1 p2_s168_s ck_S0) (ck_E1 (ck_S1 p2_s181_s ck_S0) ck_E0)⟩ ck_X0 ck_l0 p2_s239_e
set_option maxRecDepth 100000 in
/-- GlacierMailModel.number -/
def p2_s240 : ck_Sum := ((3, 0, 0), 245, [.inr (.inr (.inl 226)), .inl (ck_one 1), .inl (9, 98, [])], ([], [], [(226, 9, 9, (0, 400, [(1, 0)]))]), ([(226, 9, 9), (226, 11, 11)], []), [(.inr (some (.inl (ck_one (-1)))), 245, ([], [], [(226, 9, 9, (0, 400, [(1000001, 0)])), (226, 11, 11, (0, 400, [(1000001, 0)]))])), (.inr (some (.inl (1, 98, []))), 245, ([], [], [(226, 9, 9, (0, 400, [(1000001, 0)])), (226, 11, 11, (0, 400, [(1000001, 0)]))]))])
set_option maxRecDepth 100000 in
theorem p2_s240_e : ck_ok p2_O none [] [(256, [p2_s239])] 255 [] 82 p2_s240 = true := by decide +kernel
theorem p2_s240_s {X : Int → Int} {LX : Nat} : ck_Ok p2_O X LX 255 p2_s240 := ck_ok_s ⟨p2_nmu, ck_E1 (ck_S1 p2_s239_s ck_S0) ck_E0⟩ ck_X0 ck_l0 p2_s240_e
set_option maxRecDepth 100000 in
/-- GlacierMailModel.readSpeeds -/
def p2_s230 : ck_Sum := ((4, 0, 0), 245, [.inr (.inr (.inl 226)), .inl (ck_one 16)], ([], [], [(226, 9, 9, (0, 400, [(1, 0)]))]), ([(226, 9, 9), (226, 11, 11), (227, 16, 21)], []), [(.inr (some (.inl (ck_one 1))), 245, ([], [], [(226, 9, 9, (0, 400, [(1000001, 0)]))])), (.inr (some (.inl (ck_one 0))), 245, ([], [], [(226, 9, 9, (0, 400, [(1000001, 0)])), (226, 11, 11, (0, 400, [(1000001, 0)]))]))])
set_option maxRecDepth 100000 in
theorem p2_s230_e : ck_ok p2_O none [] [(261, [p2_s184]), (255, [p2_s188])] 260 [(2, [some (.inr (.inr (.inl 226))), some (.inl (ck_one 16)), some (.inl (0, 6, [])), none], ([], [], [(226, 9, 9, (0, 400, [(1000001, 0)]))]), 100, .inl 2, true)] 174 p2_s230 = true := by decide +kernel
theorem p2_s230_s {X : Int → Int} {LX : Nat} : ck_Ok p2_O X LX 260 p2_s230 := ck_ok_s ⟨p2_nmu, ck_E1 (ck_S1 p2_s184_s ck_S0) (ck_E1 (ck_S1 p2_s188_s ck_S0) ck_E0)⟩ ck_X0 ck_l0 p2_s230_e
set_option maxRecDepth 100000 in
/-- GlacierMailModel.readSpeeds -/
def p2_s233 : ck_Sum := ((4, 0, 0), 245, [.inr (.inr (.inl 226)), .inl (ck_one 65)], ([], [], [(226, 9, 9, (0, 400, [(1, 0)]))]), ([(226, 9, 9), (226, 11, 11), (227, 65, 70)], []), [(.inr (some (.inl (ck_one 1))), 245, ([], [], [(226, 9, 9, (0, 400, [(1000001, 0)]))])), (.inr (some (.inl (ck_one 0))), 245, ([], [], [(226, 9, 9, (0, 400, [(1000001, 0)])), (226, 11, 11, (0, 400, [(1000001, 0)]))]))])
set_option maxRecDepth 100000 in
theorem p2_s233_e : ck_ok p2_O none [] [(261, [p2_s184]), (255, [p2_s188])] 260 [(2, [some (.inr (.inr (.inl 226))), some (.inl (ck_one 65)), some (.inl (0, 6, [])), none], ([], [], [(226, 9, 9, (0, 400, [(1000001, 0)]))]), 100, .inl 2, true)] 174 p2_s233 = true := by decide +kernel
theorem p2_s233_s {X : Int → Int} {LX : Nat} : ck_Ok p2_O X LX 260 p2_s233 := ck_ok_s ⟨p2_nmu, ck_E1 (ck_S1 p2_s184_s ck_S0) (ck_E1 (ck_S1 p2_s188_s ck_S0) ck_E0)⟩ ck_X0 ck_l0 p2_s233_e
set_option maxRecDepth 100000 in
/-- GlacierMailModel.readSpeeds -/
def p2_s234 : ck_Sum := ((4, 0, 0), 245, [.inr (.inr (.inl 226)), .inl (ck_one 58)], ([], [], [(226, 9, 9, (0, 400, [(1, 0)]))]), ([(226, 9, 9), (226, 11, 11), (227, 58, 63)], []), [(.inr (some (.inl (ck_one 1))), 245, ([], [], [(226, 9, 9, (0, 400, [(1000001, 0)]))])), (.inr (some (.inl (ck_one 0))), 245, ([], [], [(226, 9, 9, (0, 400, [(1000001, 0)])), (226, 11, 11, (0, 400, [(1000001, 0)]))]))])
set_option maxRecDepth 100000 in
theorem p2_s234_e : ck_ok p2_O none [] [(261, [p2_s184]), (255, [p2_s188])] 260 [(2, [some (.inr (.inr (.inl 226))), some (.inl (ck_one 58)), some (.inl (0, 6, [])), none], ([], [], [(226, 9, 9, (0, 400, [(1000001, 0)]))]), 100, .inl 2, true)] 174 p2_s234 = true := by decide +kernel
theorem p2_s234_s {X : Int → Int} {LX : Nat} : ck_Ok p2_O X LX 260 p2_s234 := ck_ok_s ⟨p2_nmu, ck_E1 (ck_S1 p2_s184_s ck_S0) (ck_E1 (ck_S1 p2_s188_s ck_S0) ck_E0)⟩ ck_X0 ck_l0 p2_s234_e
set_option maxRecDepth 100000 in
/-- GlacierMailModel.readSpeeds -/
def p2_s235 : ck_Sum := ((4, 0, 0), 245, [.inr (.inr (.inl 226)), .inl (ck_one 51)], ([], [], [(226, 9, 9, (0, 400, [(1, 0)]))]), ([(226, 9, 9), (226, 11, 11), (227, 51, 56)], []), [(.inr (some (.inl (ck_one 1))), 245, ([], [], [(226, 9, 9, (0, 400, [(1000001, 0)]))])), (.inr (some (.inl (ck_one 0))), 245, ([], [], [(226, 9, 9, (0, 400, [(1000001, 0)])), (226, 11, 11, (0, 400, [(1000001, 0)]))]))])
set_option maxRecDepth 100000 in
theorem p2_s235_e : ck_ok p2_O none [] [(261, [p2_s184]), (255, [p2_s188])] 260 [(2, [some (.inr (.inr (.inl 226))), some (.inl (ck_one 51)), some (.inl (0, 6, [])), none], ([], [], [(226, 9, 9, (0, 400, [(1000001, 0)]))]), 100, .inl 2, true)] 174 p2_s235 = true := by decide +kernel
theorem p2_s235_s {X : Int → Int} {LX : Nat} : ck_Ok p2_O X LX 260 p2_s235 := ck_ok_s ⟨p2_nmu, ck_E1 (ck_S1 p2_s184_s ck_S0) (ck_E1 (ck_S1 p2_s188_s ck_S0) ck_E0)⟩ ck_X0 ck_l0 p2_s235_e
set_option maxRecDepth 100000 in
/-- GlacierMailModel.readSpeeds -/
def p2_s236 : ck_Sum := ((4, 0, 0), 245, [.inr (.inr (.inl 226)), .inl (ck_one 44)], ([], [], [(226, 9, 9, (0, 400, [(1, 0)]))]), ([(226, 9, 9), (226, 11, 11), (227, 44, 49)], []), [(.inr (some (.inl (ck_one 1))), 245, ([], [], [(226, 9, 9, (0, 400, [(1000001, 0)]))])), (.inr (some (.inl (ck_one 0))), 245, ([], [], [(226, 9, 9, (0, 400, [(1000001, 0)])), (226, 11, 11, (0, 400, [(1000001, 0)]))]))])
set_option maxRecDepth 100000 in
theorem p2_s236_e : ck_ok p2_O none [] [(261, [p2_s184]), (255, [p2_s188])] 260 [(2, [some (.inr (.inr (.inl 226))), some (.inl (ck_one 44)), some (.inl (0, 6, [])), none], ([], [], [(226, 9, 9, (0, 400, [(1000001, 0)]))]), 100, .inl 2, true)] 174 p2_s236 = true := by decide +kernel
theorem p2_s236_s {X : Int → Int} {LX : Nat} : ck_Ok p2_O X LX 260 p2_s236 := ck_ok_s ⟨p2_nmu, ck_E1 (ck_S1 p2_s184_s ck_S0) (ck_E1 (ck_S1 p2_s188_s ck_S0) ck_E0)⟩ ck_X0 ck_l0 p2_s236_e
set_option maxRecDepth 100000 in
/-- GlacierMailModel.readSpeeds -/
def p2_s237 : ck_Sum := ((4, 0, 0), 245, [.inr (.inr (.inl 226)), .inl (ck_one 37)], ([], [], [(226, 9, 9, (0, 400, [(1, 0)]))]), ([(226, 9, 9), (226, 11, 11), (227, 37, 42)], []), [(.inr (some (.inl (ck_one 1))), 245, ([], [], [(226, 9, 9, (0, 400, [(1000001, 0)]))])), (.inr (some (.inl (ck_one 0))), 245, ([], [], [(226, 9, 9, (0, 400, [(1000001, 0)])), (226, 11, 11, (0, 400, [(1000001, 0)]))]))])
set_option maxRecDepth 100000 in
theorem p2_s237_e : ck_ok p2_O none [] [(261, [p2_s184]), (255, [p2_s188])] 260 [(2, [some (.inr (.inr (.inl 226))), some (.inl (ck_one 37)), some (.inl (0, 6, [])), none], ([], [], [(226, 9, 9, (0, 400, [(1000001, 0)]))]), 100, .inl 2, true)] 174 p2_s237 = true := by decide +kernel
theorem p2_s237_s {X : Int → Int} {LX : Nat} : ck_Ok p2_O X LX 260 p2_s237 := ck_ok_s ⟨p2_nmu, ck_E1 (ck_S1 p2_s184_s ck_S0) (ck_E1 (ck_S1 p2_s188_s ck_S0) ck_E0)⟩ ck_X0 ck_l0 p2_s237_e
set_option maxRecDepth 100000 in
/-- GlacierMailModel.readSpeeds -/
def p2_s238 : ck_Sum := ((4, 0, 0), 245, [.inr (.inr (.inl 226)), .inl (ck_one 30)], ([], [], [(226, 9, 9, (0, 400, [(1, 0)]))]), ([(226, 9, 9), (226, 11, 11), (227, 30, 35)], []), [(.inr (some (.inl (ck_one 1))), 245, ([], [], [(226, 9, 9, (0, 400, [(1000001, 0)]))])), (.inr (some (.inl (ck_one 0))), 245, ([], [], [(226, 9, 9, (0, 400, [(1000001, 0)])), (226, 11, 11, (0, 400, [(1000001, 0)]))]))])
set_option maxRecDepth 100000 in
theorem p2_s238_e : ck_ok p2_O none [] [(261, [p2_s184]), (255, [p2_s188])] 260 [(2, [some (.inr (.inr (.inl 226))), some (.inl (ck_one 30)), some (.inl (0, 6, [])), none], ([], [], [(226, 9, 9, (0, 400, [(1000001, 0)]))]), 100, .inl 2, true)] 174 p2_s238 = true := by decide +kernel
theorem p2_s238_s {X : Int → Int} {LX : Nat} : ck_Ok p2_O X LX 260 p2_s238 := ck_ok_s ⟨p2_nmu, ck_E1 (ck_S1 p2_s184_s ck_S0) (ck_E1 (ck_S1 p2_s188_s ck_S0) ck_E0)⟩ ck_X0 ck_l0 p2_s238_e
set_option maxRecDepth 100000 in
/-- GlacierMailModel.readSpeeds -/
def p2_s241 : ck_Sum := ((4, 0, 0), 245, [.inr (.inr (.inl 226)), .inl (ck_one 23)], ([], [], [(226, 9, 9, (0, 400, [(1, 0)]))]), ([(226, 9, 9), (226, 11, 11), (227, 23, 28)], []), [(.inr (some (.inl (ck_one 1))), 245, ([], [], [(226, 9, 9, (0, 400, [(1000001, 0)]))])), (.inr (some (.inl (ck_one 0))), 245, ([], [], [(226, 9, 9, (0, 400, [(1000001, 0)])), (226, 11, 11, (0, 400, [(1000001, 0)]))]))])
set_option maxRecDepth 100000 in
theorem p2_s241_e : ck_ok p2_O none [] [(261, [p2_s184]), (255, [p2_s188])] 260 [(2, [some (.inr (.inr (.inl 226))), some (.inl (ck_one 23)), some (.inl (0, 6, [])), none], ([], [], [(226, 9, 9, (0, 400, [(1000001, 0)]))]), 100, .inl 2, true)] 174 p2_s241 = true := by decide +kernel
theorem p2_s241_s {X : Int → Int} {LX : Nat} : ck_Ok p2_O X LX 260 p2_s241 := ck_ok_s ⟨p2_nmu, ck_E1 (ck_S1 p2_s184_s ck_S0) (ck_E1 (ck_S1 p2_s188_s ck_S0) ck_E0)⟩ ck_X0 ck_l0 p2_s241_e
set_option maxRecDepth 100000 in
/-- GlacierMailModel.readSection -/
def p2_s242 : ck_Sum := ((5, 0, 0), 245, [.inr (.inr (.inl 226))], ([], [], [(227, 2, 2, (0, 8, [(20, 0)])), (226, 9, 9, (0, 400, [(1, 0)]))]), ([(226, 9, 9), (226, 11, 11), (227, 2, 2), (227, 15, 70)], []), [(.inr (some (.inl (ck_one 0))), 245, ([], [], [(226, 9, 9, (0, 400, [(1000001, 0)])), (227, 2, 2, (0, 8, [(20, 0)]))])), (.inr (some (.inl (ck_one 1))), 245, ([], [], [(227, 2, 2, (1, 8, [])), (226, 9, 9, (0, 400, [(1000001, 0)]))]))])
set_option maxRecDepth 100000 in
theorem p2_s242_e : ck_ok p2_O none [] [(255, [p2_s229, p2_s232, p2_s240]), (260, [p2_s230, p2_s233, p2_s234, p2_s235, p2_s236, p2_s237, p2_s238, p2_s241]), (259, [p2_s200])] 258 [] 178 p2_s242 = true := by decide +kernel
theorem p2_s242_s {X : Int → Int} {LX : Nat} : ck_Ok p2_O X LX 258 p2_s242 := ck_ok_s ⟨p2_nmu, ck_E1 (ck_S1 p2_s229_s (ck_S1 p2_s232_s (ck_S1 p2_s240_s ck_S0))) (ck_E1 (ck_S1 p2_s230_s (ck_S1 p2_s233_s (ck_S1 p2_s234_s (ck_S1 p2_s235_s (ck_S1 p2_s236_s (ck_S1 p2_s237_s (ck_S1 p2_s238_s (ck_S1 p2_s241_s ck_S0)))))))) (ck_E1 (ck_S1 p2_s200_s ck_S0) ck_E0))⟩ ck_X0 ck_l0 p2_s242_e
set_option maxRecDepth 100000 in
/-- GlacierMailModel.isEmpty -/
def p2_s243 : ck_Sum := ((1, 0, 0), 245, [.inr (.inr (.inl 226))], ([], [], [(227, 2, 2, (0, 8, [(20, 0)])), (227, 3, 3, (0, 8, [(21, 0)])), (227, 4, 4, (0, 24, [(22, 0)])), (227, 5, 5, (0, 8, [(23, 0)])), (227, 6, 6, (0, 6, [(24, 0)]))]), ([], []), [(.inr (some (.inl (ck_one 0))), 245, ([], [], [])), (.inr (some (.inl (ck_one 1))), 245, ([], [], []))])
set_option maxRecDepth 100000 in
theorem p2_s243_e : ck_ok p2_O none [] [(253, [p2_s214]), (254, [p2_s196])] 252 [] 118 p2_s243 = true := by decide +kernel
theorem p2_s243_s {X : Int → Int} {LX : Nat} : ck_Ok p2_O X LX 252 p2_s243 := ck_ok_s ⟨p2_nmu, ck_E1 (ck_S1 p2_s214_s ck_S0) (ck_E1 (ck_S1 p2_s196_s ck_S0) ck_E0)⟩ ck_X0 ck_l0 p2_s243_e
set_option maxRecDepth 100000 in
/-- GlacierMailModel.figures -/
def p2_s244 : ck_Sum := ((2, 0, 0), 245, [.inr (.inr (.inl 226)), .inl (ck_one 10), .inl (ck_one 99), .inl (ck_one 4)], ([], [], [(226, 9, 9, (0, 400, [(1, 0)]))]), ([(226, 9, 9), (226, 11, 11)], []), [(.inr (some (.inl (ck_one (-1)))), 245, ([], [], [(226, 9, 9, (0, 400, [(1000001, 0)])), (226, 11, 11, (0, 400, [(1000001, 0)]))])), (.inr (some (.inl (10, 99, []))), 245, ([], [], [(226, 9, 9, (0, 400, [(1000001, 0)])), (226, 11, 11, (0, 400, [(1000001, 0)]))]))])
set_option maxRecDepth 100000 in
theorem p2_s244_e : ck_ok p2_O none [] [(245, [p2_s168]), (246, [p2_s181])] 256 [(7, [some (.inr (.inr (.inl 226))), some (.inl (ck_one 10)), some (.inl (ck_one 99)), some (.inl (ck_one 4)), some (.inl ((-2147483648), 2147483647, []))], ([], [], [(226, 11, 11, (0, 400, [(1000001, 0)])), (226, 9, 9, (0, 400, [(1000001, 0)]))]), 100, .inr (226, 9), true)] 222 p2_s244 = true := by decide +kernel
theorem p2_s244_s {X : Int → Int} {LX : Nat} : ck_Ok p2_O X LX 256 p2_s244 := ck_ok_s ⟨p2_nmu, ck_E1 (ck_S1 p2_s168_s ck_S0) (ck_E1 (ck_S1 p2_s181_s ck_S0) ck_E0)⟩ ck_X0 ck_l0 p2_s244_e
set_option maxRecDepth 100000 in
/-- GlacierMailModel.number -/
def p2_s245 : ck_Sum := ((3, 0, 0), 245, [.inr (.inr (.inl 226)), .inl (ck_one 10), .inl (ck_one 99)], ([], [], [(226, 9, 9, (0, 400, [(1, 0)]))]), ([(226, 9, 9), (226, 11, 11)], []), [(.inr (some (.inl (ck_one (-1)))), 245, ([], [], [(226, 9, 9, (0, 400, [(1000001, 0)])), (226, 11, 11, (0, 400, [(1000001, 0)]))])), (.inr (some (.inl (10, 99, []))), 245, ([], [], [(226, 9, 9, (0, 400, [(1000001, 0)])), (226, 11, 11, (0, 400, [(1000001, 0)]))]))])
set_option maxRecDepth 100000 in
theorem p2_s245_e : ck_ok p2_O none [] [(256, [p2_s244])] 255 [] 82 p2_s245 = true := by decide +kernel
theorem p2_s245_s {X : Int → Int} {LX : Nat} : ck_Ok p2_O X LX 255 p2_s245 := ck_ok_s ⟨p2_nmu, ck_E1 (ck_S1 p2_s244_s ck_S0) ck_E0⟩ ck_X0 ck_l0 p2_s245_e
set_option maxRecDepth 100000 in
/-- GlacierMailModel.readLast -/
def p2_s246 : ck_Sum := ((4, 0, 0), 245, [.inr (.inr (.inl 226))], ([], [], [(227, 2, 2, (0, 8, [(20, 0)])), (227, 3, 3, (0, 8, [(21, 0)])), (227, 4, 4, (0, 24, [(22, 0)])), (227, 5, 5, (0, 8, [(23, 0)])), (227, 6, 6, (0, 6, [(24, 0)])), (226, 9, 9, (0, 400, [(1, 0)]))]), ([(226, 9, 9), (226, 11, 11), (227, 1, 1), (227, 10, 10)], []), [(.inr (some (.inl (ck_one 0))), 245, ([], [], [(226, 9, 9, (0, 400, [(1000001, 0)]))])), (.inr (some (.inl (ck_one 1))), 245, ([], [], [(227, 10, 10, ck_one 10), (226, 9, 9, (0, 400, [(1000001, 0)])), (226, 11, 11, (0, 400, [(1000001, 0)]))]))])
set_option maxRecDepth 100000 in
theorem p2_s246_e : ck_ok p2_O none [] [(252, [p2_s243]), (255, [p2_s245])] 257 [] 114 p2_s246 = true := by decide +kernel
theorem p2_s246_s {X : Int → Int} {LX : Nat} : ck_Ok p2_O X LX 257 p2_s246 := ck_ok_s ⟨p2_nmu, ck_E1 (ck_S1 p2_s243_s ck_S0) (ck_E1 (ck_S1 p2_s245_s ck_S0) ck_E0)⟩ ck_X0 ck_l0 p2_s246_e
set_option maxRecDepth 100000 in
/-- GlacierMailModel.figures -/
def p2_s247 : ck_Sum := ((2, 0, 0), 245, [.inr (.inr (.inl 226)), .inl (ck_one 1), .inl (ck_one 6), .inl (ck_one 4)], ([], [], [(226, 9, 9, (0, 400, [(1, 0)]))]), ([(226, 9, 9), (226, 11, 11)], []), [(.inr (some (.inl (ck_one (-1)))), 245, ([], [], [(226, 9, 9, (0, 400, [(1000001, 0)])), (226, 11, 11, (0, 400, [(1000001, 0)]))])), (.inr (some (.inl (1, 6, []))), 245, ([], [], [(226, 9, 9, (0, 400, [(1000001, 0)])), (226, 11, 11, (0, 400, [(1000001, 0)]))]))])
set_option maxRecDepth 100000 in
theorem p2_s247_e : ck_ok p2_O none [] [(245, [p2_s168]), (246, [p2_s181])] 256 [(7, [some (.inr (.inr (.inl 226))), some (.inl (ck_one 1)), some (.inl (ck_one 6)), some (.inl (ck_one 4)), some (.inl ((-2147483648), 2147483647, []))], ([], [], [(226, 11, 11, (0, 400, [(1000001, 0)])), (226, 9, 9, (0, 400, [(1000001, 0)]))]), 100, .inr (226, 9), true)] 222 p2_s247 = true := by decide +kernel
theorem p2_s247_s {X : Int → Int} {LX : Nat} : ck_Ok p2_O X LX 256 p2_s247 := ck_ok_s ⟨p2_nmu, ck_E1 (ck_S1 p2_s168_s ck_S0) (ck_E1 (ck_S1 p2_s181_s ck_S0) ck_E0)⟩ ck_X0 ck_l0 p2_s247_e
set_option maxRecDepth 100000 in
/-- GlacierMailModel.number -/
def p2_s248 : ck_Sum := ((3, 0, 0), 245, [.inr (.inr (.inl 226)), .inl (ck_one 1), .inl (ck_one 6)], ([], [], [(226, 9, 9, (0, 400, [(1, 0)]))]), ([(226, 9, 9), (226, 11, 11)], []), [(.inr (some (.inl (ck_one (-1)))), 245, ([], [], [(226, 9, 9, (0, 400, [(1000001, 0)])), (226, 11, 11, (0, 400, [(1000001, 0)]))])), (.inr (some (.inl (1, 6, []))), 245, ([], [], [(226, 9, 9, (0, 400, [(1000001, 0)])), (226, 11, 11, (0, 400, [(1000001, 0)]))]))])
set_option maxRecDepth 100000 in
theorem p2_s248_e : ck_ok p2_O none [] [(256, [p2_s247])] 255 [] 82 p2_s248 = true := by decide +kernel
theorem p2_s248_s {X : Int → Int} {LX : Nat} : ck_Ok p2_O X LX 255 p2_s248 := ck_ok_s ⟨p2_nmu, ck_E1 (ck_S1 p2_s247_s ck_S0) ck_E0⟩ ck_X0 ck_l0 p2_s248_e
set_option maxRecDepth 100000 in
/-- GlacierMailModel.readLanes -/
def p2_s249 : ck_Sum := ((4, 0, 0), 245, [.inr (.inr (.inl 226))], ([], [], [(227, 2, 2, (0, 8, [(20, 0)])), (227, 3, 3, (0, 8, [(21, 0)])), (227, 4, 4, (0, 24, [(22, 0)])), (227, 5, 5, (0, 8, [(23, 0)])), (227, 6, 6, (0, 6, [(24, 0)])), (226, 9, 9, (0, 400, [(1, 0)]))]), ([(226, 9, 9), (226, 11, 11), (227, 0, 0), (227, 12, 12)], []), [(.inr (some (.inl (ck_one 0))), 245, ([], [], [(226, 9, 9, (0, 400, [(1000001, 0)]))])), (.inr (some (.inl (ck_one 1))), 245, ([], [], [(227, 12, 12, (1, 6, [])), (226, 9, 9, (0, 400, [(1000001, 0)])), (226, 11, 11, (0, 400, [(1000001, 0)]))]))])
set_option maxRecDepth 100000 in
theorem p2_s249_e : ck_ok p2_O none [] [(252, [p2_s243]), (255, [p2_s248])] 251 [] 114 p2_s249 = true := by decide +kernel
theorem p2_s249_s {X : Int → Int} {LX : Nat} : ck_Ok p2_O X LX 251 p2_s249 := ck_ok_s ⟨p2_nmu, ck_E1 (ck_S1 p2_s243_s ck_S0) (ck_E1 (ck_S1 p2_s248_s ck_S0) ck_E0)⟩ ck_X0 ck_l0 p2_s249_e
set_option maxRecDepth 100000 in
/-- GlacierMailModel.readLine -/
def p2_s266 : ck_Sum := ((3, 0, 0), 245, [.inr (.inr (.inl 226)), .inl (ck_one 1), .inl (ck_one 14)], ([], [], [(226, 9, 9, (0, 400, [(1, 0)]))]), ([(226, 9, 9), (226, 11, 11)], []), [(.inr (some (.inl (ck_one 0))), 245, ([], [], [(226, 9, 9, (0, 400, [(1000001, 0)])), (226, 11, 11, (0, 400, [(1000001, 0)]))]))])
set_option maxRecDepth 100000 in
theorem p2_s266_e : ck_ok p2_O none [] [(248, [p2_s170])] 247 [] 90 p2_s266 = true := by decide +kernel
theorem p2_s266_s {X : Int → Int} {LX : Nat} : ck_Ok p2_O X LX 247 p2_s266 := ck_ok_s ⟨p2_nmu, ck_E1 (ck_S1 p2_s170_s ck_S0) ck_E0⟩ ck_X0 ck_l0 p2_s266_e
set_option maxRecDepth 100000 in
/-- GlacierMailModel.isAt -/
def p2_s252 : ck_Sum := ((0, 0, 0), 245, [.inr (.inr (.inl 226)), .inl (ck_one 59), .inl (ck_one 59)], ([], [], [(226, 9, 9, (0, 400, [(1, 0)]))]), ([], []), [(.inr (some (.inl (ck_one 0))), 245, ([], [], [])), (.inr (some (.inl (ck_one 1))), 245, ([], [], [(226, 10, 10, (1, 400, [])), (226, 9, 9, (0, 399, [(1, 0)]))]))])
set_option maxRecDepth 100000 in
theorem p2_s252_e : ck_ok p2_O none [] [] 246 [] 114 p2_s252 = true := by decide +kernel
theorem p2_s252_s {X : Int → Int} {LX : Nat} : ck_Ok p2_O X LX 246 p2_s252 := ck_ok_s ⟨p2_nmu, ck_E0⟩ ck_X0 ck_l0 p2_s252_e
set_option maxRecDepth 100000 in
/-- GlacierMailModel.throwsIf -/
def p2_s268 : ck_Sum := ((0, 0, 0), 245, [.inr (.inr (.inl 226)), .inl (ck_one 1), .inl (ck_one 1)], ([], [], []), ([(226, 0, 0)], []), [(.inr (some (.inl (ck_one 1))), 245, ([], [], [(226, 0, 0, ck_one 1)]))])
set_option maxRecDepth 100000 in
theorem p2_s268_e : ck_ok p2_O none [] [] 282 [] 84 p2_s268 = true := by decide +kernel
theorem p2_s268_s {X : Int → Int} {LX : Nat} : ck_Ok p2_O X LX 282 p2_s268 := ck_ok_s ⟨p2_nmu, ck_E0⟩ ck_X0 ck_l0 p2_s268_e
set_option maxRecDepth 100000 in
/-- GlacierMailModel.throwsIf -/
def p2_s269 : ck_Sum := ((0, 0, 0), 245, [.inr (.inr (.inl 226)), .inl (ck_one 0), .inl (ck_one 1)], ([], [], []), ([], []), [(.inr (some (.inl (ck_one 0))), 245, ([], [], []))])
set_option maxRecDepth 100000 in
theorem p2_s269_e : ck_ok p2_O none [] [] 282 [] 78 p2_s269 = true := by decide +kernel
theorem p2_s269_s {X : Int → Int} {LX : Nat} : ck_Ok p2_O X LX 282 p2_s269 := ck_ok_s ⟨p2_nmu, ck_E0⟩ ck_X0 ck_l0 p2_s269_e
set_option maxRecDepth 100000 in
/-- GlacierMailModel.throwsIf -/
def p2_s270 : ck_Sum := ((0, 0, 0), 245, [.inr (.inr (.inl 226)), .inl (ck_one 0), .inl (ck_one 2)], ([], [], []), ([], []), [(.inr (some (.inl (ck_one 0))), 245, ([], [], []))])
set_option maxRecDepth 100000 in
theorem p2_s270_e : ck_ok p2_O none [] [] 282 [] 78 p2_s270 = true := by decide +kernel
theorem p2_s270_s {X : Int → Int} {LX : Nat} : ck_Ok p2_O X LX 282 p2_s270 := ck_ok_s ⟨p2_nmu, ck_E0⟩ ck_X0 ck_l0 p2_s270_e
set_option maxRecDepth 100000 in
/-- GlacierMailModel.throwsIf -/
def p2_s272 : ck_Sum := ((0, 0, 0), 245, [.inr (.inr (.inl 226)), .inl (ck_one 1), .inl (ck_one 2)], ([], [], []), ([(226, 0, 0)], []), [(.inr (some (.inl (ck_one 1))), 245, ([], [], [(226, 0, 0, ck_one 2)]))])
set_option maxRecDepth 100000 in
theorem p2_s272_e : ck_ok p2_O none [] [] 282 [] 84 p2_s272 = true := by decide +kernel
theorem p2_s272_s {X : Int → Int} {LX : Nat} : ck_Ok p2_O X LX 282 p2_s272 := ck_ok_s ⟨p2_nmu, ck_E0⟩ ck_X0 ck_l0 p2_s272_e
set_option maxRecDepth 100000 in
/-- GlacierMailModel.warms -/
def p2_s271 : ck_Sum := ((0, 0, 0), 245, [.inr (.inr (.inl 226))], ([], [], []), ([(226, 26, 26), (234, 0, 299)], []), [(.inr none, 245, ([], [], [(226, 26, 26, ck_one (-1))]))])
set_option maxRecDepth 100000 in
theorem p2_s271_e : ck_ok p2_O none [] [] 235 [(10, [some (.inr (.inr (.inl 226))), some (.inl ((-2147483648), 2147483647, [])), some (.inl (0, 300, []))], ([], [], []), 100, .inl 2, true)] 182 p2_s271 = true := by decide +kernel
theorem p2_s271_s {X : Int → Int} {LX : Nat} : ck_Ok p2_O X LX 235 p2_s271 := ck_ok_s ⟨p2_nmu, ck_E0⟩ ck_X0 ck_l0 p2_s271_e
set_option maxRecDepth 100000 in
/-- GlacierMail.fault -/
def p2_s274 : ck_Sum := ((0, 0, 0), 245, [.inr (.inr (.inl 1))], ([], [], []), ([], []), [(.inr (some (.inl (ck_one (-1)))), 245, ([], [], [(1, 2, 2, ck_one (-1))])), (.inr (some (.inl (0, 400, []))), 245, ([], [], [(1, 2, 2, (0, 400, []))]))])
set_option maxRecDepth 100000 in
theorem p2_s274_e : ck_ok p2_O none [] [] 22 [] 76 p2_s274 = true := by decide +kernel
theorem p2_s274_s {X : Int → Int} {LX : Nat} : ck_Ok p2_O X LX 22 p2_s274 := ck_ok_s ⟨p2_nmu, ck_E0⟩ ck_X0 ck_l0 p2_s274_e
set_option maxRecDepth 100000 in
/-- GlacierMailModel.fault -/
def p2_s275 : ck_Sum := ((0, 0, 0), 245, [.inr (.inr (.inl 226))], ([], [], []), ([(226, 0, 0)], []), [(.inr (some (.inl (ck_one (-1)))), 245, ([], [], [(226, 13, 13, ck_one (-1)), (226, 0, 0, ck_one 0)])), (.inr (some (.inl (0, 400, []))), 245, ([], [], [(226, 13, 13, (0, 400, [])), (226, 0, 0, ck_one 0)]))])
set_option maxRecDepth 100000 in
theorem p2_s275_e : ck_ok p2_O none [] [] 241 [] 82 p2_s275 = true := by decide +kernel
theorem p2_s275_s {X : Int → Int} {LX : Nat} : ck_Ok p2_O X LX 241 p2_s275 := ck_ok_s ⟨p2_nmu, ck_E0⟩ ck_X0 ck_l0 p2_s275_e
set_option maxRecDepth 100000 in
/-- GlacierMail.needYear -/
def p2_s276 : ck_Sum := ((6, 1, 6), 245, [.inr (.inr (.inl 1)), .inl ((-2147483648), (-1), [])], ([], [], []), ([], []), [(.inl 0, 245, ([], [], []))])
set_option maxRecDepth 100000 in
theorem p2_s276_e : ck_ok p2_O none [] [] 129 [] 76 p2_s276 = true := by decide +kernel
theorem p2_s276_s {X : Int → Int} {LX : Nat} : ck_Ok p2_O X LX 129 p2_s276 := ck_ok_s ⟨p2_nmu, ck_E0⟩ ck_X0 ck_l0 p2_s276_e
set_option maxRecDepth 100000 in
/-- GlacierMail.heat -/
def p2_s277 : ck_Sum := ((7, 1, 6), 245, [.inr (.inr (.inl 1)), .inl ((-2147483648), (-1), [])], ([], [], []), ([], []), [(.inl 0, 245, ([], [], []))])
set_option maxRecDepth 100000 in
theorem p2_s277_e : ck_ok p2_O none [] [(129, [p2_s276])] 128 [] 76 p2_s277 = true := by decide +kernel
theorem p2_s277_s {X : Int → Int} {LX : Nat} : ck_Ok p2_O X LX 128 p2_s277 := ck_ok_s ⟨p2_nmu, ck_E1 (ck_S1 p2_s276_s ck_S0) ck_E0⟩ ck_X0 ck_l0 p2_s277_e
set_option maxRecDepth 100000 in
/-- GlacierMail.needYear -/
def p2_s278 : ck_Sum := ((6, 1, 6), 245, [.inr (.inr (.inl 1)), .inl (300, 2147483647, [])], ([], [], []), ([], []), [(.inl 0, 245, ([], [], []))])
set_option maxRecDepth 100000 in
theorem p2_s278_e : ck_ok p2_O none [] [] 129 [] 82 p2_s278 = true := by decide +kernel
theorem p2_s278_s {X : Int → Int} {LX : Nat} : ck_Ok p2_O X LX 129 p2_s278 := ck_ok_s ⟨p2_nmu, ck_E0⟩ ck_X0 ck_l0 p2_s278_e
set_option maxRecDepth 100000 in
/-- GlacierMail.heat -/
def p2_s279 : ck_Sum := ((7, 1, 6), 245, [.inr (.inr (.inl 1)), .inl (300, 2147483647, [])], ([], [], []), ([], []), [(.inl 0, 245, ([], [], []))])
set_option maxRecDepth 100000 in
theorem p2_s279_e : ck_ok p2_O none [] [(129, [p2_s278])] 128 [] 76 p2_s279 = true := by decide +kernel
theorem p2_s279_s {X : Int → Int} {LX : Nat} : ck_Ok p2_O X LX 128 p2_s279 := ck_ok_s ⟨p2_nmu, ck_E1 (ck_S1 p2_s278_s ck_S0) ck_E0⟩ ck_X0 ck_l0 p2_s279_e
set_option maxRecDepth 100000 in
/-- GlacierMail.needYear -/
def p2_s280 : ck_Sum := ((0, 0, 0), 245, [.inr (.inr (.inl 1)), .inl (0, 299, [])], ([], [], []), ([], []), [(.inr none, 245, ([], [], []))])
set_option maxRecDepth 100000 in
theorem p2_s280_e : ck_ok p2_O none [] [] 129 [] 82 p2_s280 = true := by decide +kernel
theorem p2_s280_s {X : Int → Int} {LX : Nat} : ck_Ok p2_O X LX 129 p2_s280 := ck_ok_s ⟨p2_nmu, ck_E0⟩ ck_X0 ck_l0 p2_s280_e
set_option maxRecDepth 100000 in
/-- GlacierMail$Ice.heatIn -/
def p2_s281 : ck_Sum := ((0, 0, 0), 245, [.inr (.inr (.inl 200)), .inl (0, 299, [])], ([], [], []), ([], []), [(.inr (some (.inl (0, 9, []))), 245, ([], [], []))])
set_option maxRecDepth 100000 in
theorem p2_s281_e : ck_ok p2_O none [] [] 34 [] 92 p2_s281 = true := by decide +kernel
theorem p2_s281_s {X : Int → Int} {LX : Nat} : ck_Ok p2_O X LX 34 p2_s281 := ck_ok_s ⟨p2_nmu, ck_E0⟩ ck_X0 ck_l0 p2_s281_e
set_option maxRecDepth 100000 in
/-- GlacierMail.heat -/
def p2_s282 : ck_Sum := ((1, 0, 0), 245, [.inr (.inr (.inl 1)), .inl (0, 299, [])], ([], [], []), ([], []), [(.inr (some (.inl (0, 9, []))), 245, ([], [], []))])
set_option maxRecDepth 100000 in
theorem p2_s282_e : ck_ok p2_O none [] [(129, [p2_s280]), (34, [p2_s281])] 128 [] 86 p2_s282 = true := by decide +kernel
theorem p2_s282_s {X : Int → Int} {LX : Nat} : ck_Ok p2_O X LX 128 p2_s282 := ck_ok_s ⟨p2_nmu, ck_E1 (ck_S1 p2_s280_s ck_S0) (ck_E1 (ck_S1 p2_s281_s ck_S0) ck_E0)⟩ ck_X0 ck_l0 p2_s282_e
