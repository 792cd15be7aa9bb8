/-! EVERY CALL ENDS, whatever was done before (laid by wip/am/p2g.py). -/
set_option maxRecDepth 100000 in
/-- GlacierMailModel.sign -/
def p2_s2265 : ck_Sum := ((2, 0, 0), 245, [.inr (.inr (.inl 226)), .inl (ck_one 41)], ([], [], [(226, 9, 9, (0, 400, [(1, 0)]))]), ([(226, 9, 9), (226, 11, 11)], []), [(.inr (some (.inl (ck_one 0))), 245, ([], [], [(226, 11, 11, (0, 400, [(1000001, 0)])), (226, 9, 9, (0, 400, [(1000001, 0)]))])), (.inr (some (.inl (ck_one 1))), 245, ([], [], [(226, 9, 9, (1, 400, [(1000001, 1)])), (226, 10, 10, (1, 400, [])), (226, 11, 11, (0, 400, [(1000001, 0)]))]))])
set_option maxRecDepth 100000 in
theorem p2_s2265_e : ck_ok p2_O none [] [(245, [p2_s168]), (246, [p2_s2264])] 278 [] 100 p2_s2265 = true := by decide +kernel
theorem p2_s2265_s {X : Int → Int} {LX : Nat} : ck_Ok p2_O X LX 278 p2_s2265 := ck_ok_s ⟨p2_nmu, ck_E1 (ck_S1 p2_s168_s ck_S0) (ck_E1 (ck_S1 p2_s2264_s ck_S0) ck_E0)⟩ ck_X0 ck_l0 p2_s2265_e
set_option maxRecDepth 100000 in
/-- GlacierMailModel.isWord -/
def p2_s2216 : ck_Sum := ((6, 0, 0), 245, [.inr (.inr (.inl 226)), .inr (.inr (.inr 63))], ([], [], [(226, 9, 9, (0, 400, [(1, 0)]))]), ([], []), [(.inr (some (.inl (ck_one 0))), 245, ([], [], [])), (.inr (some (.inl (ck_one 1))), 245, ([], [], [(226, 9, 9, (3, 400, [(1, 0)])), (226, 11, 11, (0, 397, []))]))])
set_option maxRecDepth 100000 in
theorem p2_s2216_e : ck_ok p2_O none [] [] 250 [] 244 p2_s2216 = true := by decide +kernel
theorem p2_s2216_s {X : Int → Int} {LX : Nat} : ck_Ok p2_O X LX 250 p2_s2216 := ck_ok_s ⟨p2_nmu, ck_E0⟩ ck_X0 ck_l0 p2_s2216_e
set_option maxRecDepth 100000 in
/-- GlacierMailModel.isNext -/
def p2_s2217 : ck_Sum := ((7, 0, 0), 245, [.inr (.inr (.inl 226)), .inr (.inr (.inr 63))], ([], [], [(226, 9, 9, (0, 400, [(1, 0)]))]), ([(226, 9, 9), (226, 11, 11)], []), [(.inr (some (.inl (ck_one 0))), 245, ([], [], [(226, 9, 9, (0, 400, [(1000001, 0)])), (226, 11, 11, (0, 400, [(1000001, 0)]))])), (.inr (some (.inl (ck_one 1))), 245, ([], [], [(226, 9, 9, (3, 400, [(1000001, 0)])), (226, 11, 11, (0, 397, []))]))])
set_option maxRecDepth 100000 in
theorem p2_s2217_e : ck_ok p2_O none [] [(248, [p2_s170]), (250, [p2_s2216])] 269 [] 94 p2_s2217 = true := by decide +kernel
theorem p2_s2217_s {X : Int → Int} {LX : Nat} : ck_Ok p2_O X LX 269 p2_s2217 := ck_ok_s ⟨p2_nmu, ck_E1 (ck_S1 p2_s170_s ck_S0) (ck_E1 (ck_S1 p2_s2216_s ck_S0) ck_E0)⟩ ck_X0 ck_l0 p2_s2217_e
set_option maxRecDepth 100000 in
/-- GlacierMailModel.isWord -/
def p2_s2218 : ck_Sum := ((6, 0, 0), 245, [.inr (.inr (.inl 226)), .inr (.inr (.inr 64))], ([], [], [(226, 9, 9, (0, 400, [(1, 0)]))]), ([], []), [(.inr (some (.inl (ck_one 0))), 245, ([], [], [])), (.inr (some (.inl (ck_one 1))), 245, ([], [], [(226, 9, 9, (4, 400, [(1, 0)])), (226, 11, 11, (0, 396, []))]))])
set_option maxRecDepth 100000 in
theorem p2_s2218_e : ck_ok p2_O none [] [] 250 [] 288 p2_s2218 = true := by decide +kernel
theorem p2_s2218_s {X : Int → Int} {LX : Nat} : ck_Ok p2_O X LX 250 p2_s2218 := ck_ok_s ⟨p2_nmu, ck_E0⟩ ck_X0 ck_l0 p2_s2218_e
set_option maxRecDepth 100000 in
/-- GlacierMailModel.isNext -/
def p2_s2219 : ck_Sum := ((7, 0, 0), 245, [.inr (.inr (.inl 226)), .inr (.inr (.inr 64))], ([], [], [(226, 9, 9, (0, 400, [(1, 0)]))]), ([(226, 9, 9), (226, 11, 11)], []), [(.inr (some (.inl (ck_one 0))), 245, ([], [], [(226, 9, 9, (0, 400, [(1000001, 0)])), (226, 11, 11, (0, 400, [(1000001, 0)]))])), (.inr (some (.inl (ck_one 1))), 245, ([], [], [(226, 9, 9, (4, 400, [(1000001, 0)])), (226, 11, 11, (0, 396, []))]))])
set_option maxRecDepth 100000 in
theorem p2_s2219_e : ck_ok p2_O none [] [(248, [p2_s170]), (250, [p2_s2218])] 269 [] 94 p2_s2219 = true := by decide +kernel
theorem p2_s2219_s {X : Int → Int} {LX : Nat} : ck_Ok p2_O X LX 269 p2_s2219 := ck_ok_s ⟨p2_nmu, ck_E1 (ck_S1 p2_s170_s ck_S0) (ck_E1 (ck_S1 p2_s2218_s ck_S0) ck_E0)⟩ ck_X0 ck_l0 p2_s2219_e
set_option maxRecDepth 100000 in
/-- GlacierMailModel.isWord -/
def p2_s2220 : ck_Sum := ((6, 0, 0), 245, [.inr (.inr (.inl 226)), .inr (.inr (.inr 65))], ([], [], [(226, 9, 9, (0, 400, [(1, 0)]))]), ([], []), [(.inr (some (.inl (ck_one 0))), 245, ([], [], [])), (.inr (some (.inl (ck_one 1))), 245, ([], [], [(226, 9, 9, (5, 400, [(1, 0)])), (226, 11, 11, (0, 395, []))]))])
set_option maxRecDepth 100000 in
theorem p2_s2220_e : ck_ok p2_O none [] [] 250 [] 332 p2_s2220 = true := by decide +kernel
theorem p2_s2220_s {X : Int → Int} {LX : Nat} : ck_Ok p2_O X LX 250 p2_s2220 := ck_ok_s ⟨p2_nmu, ck_E0⟩ ck_X0 ck_l0 p2_s2220_e
set_option maxRecDepth 100000 in
/-- GlacierMailModel.isNext -/
def p2_s2221 : ck_Sum := ((7, 0, 0), 245, [.inr (.inr (.inl 226)), .inr (.inr (.inr 65))], ([], [], [(226, 9, 9, (0, 400, [(1, 0)]))]), ([(226, 9, 9), (226, 11, 11)], []), [(.inr (some (.inl (ck_one 0))), 245, ([], [], [(226, 9, 9, (0, 400, [(1000001, 0)])), (226, 11, 11, (0, 400, [(1000001, 0)]))])), (.inr (some (.inl (ck_one 1))), 245, ([], [], [(226, 9, 9, (5, 400, [(1000001, 0)])), (226, 11, 11, (0, 395, []))]))])
set_option maxRecDepth 100000 in
theorem p2_s2221_e : ck_ok p2_O none [] [(248, [p2_s170]), (250, [p2_s2220])] 269 [] 94 p2_s2221 = true := by decide +kernel
theorem p2_s2221_s {X : Int → Int} {LX : Nat} : ck_Ok p2_O X LX 269 p2_s2221 := ck_ok_s ⟨p2_nmu, ck_E1 (ck_S1 p2_s170_s ck_S0) (ck_E1 (ck_S1 p2_s2220_s ck_S0) ck_E0)⟩ ck_X0 ck_l0 p2_s2221_e
set_option maxRecDepth 100000 in
/-- GlacierMailModel.isWord -/
def p2_s2222 : ck_Sum := ((6, 0, 0), 245, [.inr (.inr (.inl 226)), .inr (.inr (.inr 66))], ([], [], [(226, 9, 9, (0, 400, [(1, 0)]))]), ([], []), [(.inr (some (.inl (ck_one 0))), 245, ([], [], [])), (.inr (some (.inl (ck_one 1))), 245, ([], [], [(226, 9, 9, (4, 400, [(1, 0)])), (226, 11, 11, (0, 396, []))]))])
set_option maxRecDepth 100000 in
theorem p2_s2222_e : ck_ok p2_O none [] [] 250 [] 288 p2_s2222 = true := by decide +kernel
theorem p2_s2222_s {X : Int → Int} {LX : Nat} : ck_Ok p2_O X LX 250 p2_s2222 := ck_ok_s ⟨p2_nmu, ck_E0⟩ ck_X0 ck_l0 p2_s2222_e
set_option maxRecDepth 100000 in
/-- GlacierMailModel.isWord -/
def p2_s2223 : ck_Sum := ((6, 0, 0), 245, [.inr (.inr (.inl 226)), .inr (.inr (.inr 67))], ([], [], [(226, 9, 9, (0, 400, [(1, 0)]))]), ([], []), [(.inr (some (.inl (ck_one 0))), 245, ([], [], [])), (.inr (some (.inl (ck_one 1))), 245, ([], [], [(226, 9, 9, (3, 400, [(1, 0)])), (226, 11, 11, (0, 397, []))]))])
set_option maxRecDepth 100000 in
theorem p2_s2223_e : ck_ok p2_O none [] [] 250 [] 244 p2_s2223 = true := by decide +kernel
theorem p2_s2223_s {X : Int → Int} {LX : Nat} : ck_Ok p2_O X LX 250 p2_s2223 := ck_ok_s ⟨p2_nmu, ck_E0⟩ ck_X0 ck_l0 p2_s2223_e
set_option maxRecDepth 100000 in
/-- GlacierMailModel.isWord -/
def p2_s2224 : ck_Sum := ((6, 0, 0), 245, [.inr (.inr (.inl 226)), .inr (.inr (.inr 68))], ([], [], [(226, 9, 9, (0, 400, [(1, 0)]))]), ([], []), [(.inr (some (.inl (ck_one 0))), 245, ([], [], [])), (.inr (some (.inl (ck_one 1))), 245, ([], [], [(226, 9, 9, (4, 400, [(1, 0)])), (226, 11, 11, (0, 396, []))]))])
set_option maxRecDepth 100000 in
theorem p2_s2224_e : ck_ok p2_O none [] [] 250 [] 288 p2_s2224 = true := by decide +kernel
theorem p2_s2224_s {X : Int → Int} {LX : Nat} : ck_Ok p2_O X LX 250 p2_s2224 := ck_ok_s ⟨p2_nmu, ck_E0⟩ ck_X0 ck_l0 p2_s2224_e
set_option maxRecDepth 100000 in
/-- GlacierMailModel.isWord -/
def p2_s2225 : ck_Sum := ((6, 0, 0), 245, [.inr (.inr (.inl 226)), .inr (.inr (.inr 69))], ([], [], [(226, 9, 9, (0, 400, [(1, 0)]))]), ([], []), [(.inr (some (.inl (ck_one 0))), 245, ([], [], [])), (.inr (some (.inl (ck_one 1))), 245, ([], [], [(226, 9, 9, (4, 400, [(1, 0)])), (226, 11, 11, (0, 396, []))]))])
set_option maxRecDepth 100000 in
theorem p2_s2225_e : ck_ok p2_O none [] [] 250 [] 288 p2_s2225 = true := by decide +kernel
theorem p2_s2225_s {X : Int → Int} {LX : Nat} : ck_Ok p2_O X LX 250 p2_s2225 := ck_ok_s ⟨p2_nmu, ck_E0⟩ ck_X0 ck_l0 p2_s2225_e
set_option maxRecDepth 100000 in
/-- GlacierMailModel.isWord -/
def p2_s2226 : ck_Sum := ((6, 0, 0), 245, [.inr (.inr (.inl 226)), .inr (.inr (.inr 70))], ([], [], [(226, 9, 9, (0, 400, [(1, 0)]))]), ([], []), [(.inr (some (.inl (ck_one 0))), 245, ([], [], [])), (.inr (some (.inl (ck_one 1))), 245, ([], [], [(226, 9, 9, (5, 400, [(1, 0)])), (226, 11, 11, (0, 395, []))]))])
set_option maxRecDepth 100000 in
theorem p2_s2226_e : ck_ok p2_O none [] [] 250 [] 332 p2_s2226 = true := by decide +kernel
theorem p2_s2226_s {X : Int → Int} {LX : Nat} : ck_Ok p2_O X LX 250 p2_s2226 := ck_ok_s ⟨p2_nmu, ck_E0⟩ ck_X0 ck_l0 p2_s2226_e
set_option maxRecDepth 100000 in
/-- GlacierMailModel.isWord -/
def p2_s2227 : ck_Sum := ((6, 0, 0), 245, [.inr (.inr (.inl 226)), .inr (.inr (.inr 71))], ([], [], [(226, 9, 9, (0, 400, [(1, 0)]))]), ([], []), [(.inr (some (.inl (ck_one 0))), 245, ([], [], [])), (.inr (some (.inl (ck_one 1))), 245, ([], [], [(226, 9, 9, (3, 400, [(1, 0)])), (226, 11, 11, (0, 397, []))]))])
set_option maxRecDepth 100000 in
theorem p2_s2227_e : ck_ok p2_O none [] [] 250 [] 244 p2_s2227 = true := by decide +kernel
theorem p2_s2227_s {X : Int → Int} {LX : Nat} : ck_Ok p2_O X LX 250 p2_s2227 := ck_ok_s ⟨p2_nmu, ck_E0⟩ ck_X0 ck_l0 p2_s2227_e
set_option maxRecDepth 100000 in
/-- GlacierMailModel.isWord -/
def p2_s2228 : ck_Sum := ((6, 0, 0), 245, [.inr (.inr (.inl 226)), .inr (.inr (.inr 72))], ([], [], [(226, 9, 9, (0, 400, [(1, 0)]))]), ([], []), [(.inr (some (.inl (ck_one 0))), 245, ([], [], [])), (.inr (some (.inl (ck_one 1))), 245, ([], [], [(226, 9, 9, (4, 400, [(1, 0)])), (226, 11, 11, (0, 396, []))]))])
set_option maxRecDepth 100000 in
theorem p2_s2228_e : ck_ok p2_O none [] [] 250 [] 288 p2_s2228 = true := by decide +kernel
theorem p2_s2228_s {X : Int → Int} {LX : Nat} : ck_Ok p2_O X LX 250 p2_s2228 := ck_ok_s ⟨p2_nmu, ck_E0⟩ ck_X0 ck_l0 p2_s2228_e
set_option maxRecDepth 100000 in
/-- GlacierMailModel.figures -/
def p2_s2238 : ck_Sum := ((2, 0, 0), 245, [.inr (.inr (.inl 226)), .inl (ck_one 0), .inl (ck_one 999), .inl (ck_one 3)], ([], [], [(226, 9, 9, (0, 400, [(1, 0)]))]), ([(226, 9, 9), (226, 11, 11)], []), [(.inr (some (.inl (ck_one (-1)))), 245, ([], [], [(226, 9, 9, (0, 400, [(1000001, 0)])), (226, 11, 11, (0, 400, [(1000001, 0)]))])), (.inr (some (.inl (0, 999, []))), 245, ([], [], [(226, 9, 9, (0, 400, [(1000001, 0)])), (226, 11, 11, (0, 400, [(1000001, 0)]))]))])
set_option maxRecDepth 100000 in
theorem p2_s2238_e : ck_ok p2_O none [] [(245, [p2_s168]), (246, [p2_s181])] 256 [(7, [some (.inr (.inr (.inl 226))), some (.inl (ck_one 0)), some (.inl (ck_one 999)), some (.inl (ck_one 3)), some (.inl ((-2147483648), 2147483647, []))], ([], [], [(226, 11, 11, (0, 400, [(1000001, 0)])), (226, 9, 9, (0, 400, [(1000001, 0)]))]), 100, .inr (226, 9), true)] 222 p2_s2238 = true := by decide +kernel
theorem p2_s2238_s {X : Int → Int} {LX : Nat} : ck_Ok p2_O X LX 256 p2_s2238 := ck_ok_s ⟨p2_nmu, ck_E1 (ck_S1 p2_s168_s ck_S0) (ck_E1 (ck_S1 p2_s181_s ck_S0) ck_E0)⟩ ck_X0 ck_l0 p2_s2238_e
set_option maxRecDepth 100000 in
/-- GlacierMailModel.isAt -/
def p2_s2242 : ck_Sum := ((0, 0, 0), 245, [.inr (.inr (.inl 226)), .inl (ck_one 43), .inl (ck_one 43)], ([], [], [(226, 9, 9, (0, 400, [(1, 0)]))]), ([], []), [(.inr (some (.inl (ck_one 0))), 245, ([], [], [])), (.inr (some (.inl (ck_one 1))), 245, ([], [], [(226, 10, 10, (1, 400, [])), (226, 9, 9, (0, 399, [(1, 0)]))]))])
set_option maxRecDepth 100000 in
theorem p2_s2242_e : ck_ok p2_O none [] [] 246 [] 114 p2_s2242 = true := by decide +kernel
theorem p2_s2242_s {X : Int → Int} {LX : Nat} : ck_Ok p2_O X LX 246 p2_s2242 := ck_ok_s ⟨p2_nmu, ck_E0⟩ ck_X0 ck_l0 p2_s2242_e
set_option maxRecDepth 100000 in
/-- GlacierMailModel.sign -/
def p2_s2243 : ck_Sum := ((2, 0, 0), 245, [.inr (.inr (.inl 226)), .inl (ck_one 43)], ([], [], [(226, 9, 9, (0, 400, [(1, 0)]))]), ([(226, 9, 9), (226, 11, 11)], []), [(.inr (some (.inl (ck_one 0))), 245, ([], [], [(226, 11, 11, (0, 400, [(1000001, 0)])), (226, 9, 9, (0, 400, [(1000001, 0)]))])), (.inr (some (.inl (ck_one 1))), 245, ([], [], [(226, 9, 9, (1, 400, [(1000001, 1)])), (226, 10, 10, (1, 400, [])), (226, 11, 11, (0, 400, [(1000001, 0)]))]))])
set_option maxRecDepth 100000 in
theorem p2_s2243_e : ck_ok p2_O none [] [(245, [p2_s168]), (246, [p2_s2242])] 278 [] 100 p2_s2243 = true := by decide +kernel
theorem p2_s2243_s {X : Int → Int} {LX : Nat} : ck_Ok p2_O X LX 278 p2_s2243 := ck_ok_s ⟨p2_nmu, ck_E1 (ck_S1 p2_s168_s ck_S0) (ck_E1 (ck_S1 p2_s2242_s ck_S0) ck_E0)⟩ ck_X0 ck_l0 p2_s2243_e
set_option maxRecDepth 100000 in
/-- GlacierMailModel.isWord -/
def p2_s2256 : ck_Sum := ((6, 0, 0), 245, [.inr (.inr (.inl 226)), .inr (.inr (.inr 73))], ([], [], [(226, 9, 9, (0, 400, [(1, 0)]))]), ([], []), [(.inr (some (.inl (ck_one 0))), 245, ([], [], [])), (.inr (some (.inl (ck_one 1))), 245, ([], [], [(226, 9, 9, (3, 400, [(1, 0)])), (226, 11, 11, (0, 397, []))]))])
set_option maxRecDepth 100000 in
theorem p2_s2256_e : ck_ok p2_O none [] [] 250 [] 244 p2_s2256 = true := by decide +kernel
theorem p2_s2256_s {X : Int → Int} {LX : Nat} : ck_Ok p2_O X LX 250 p2_s2256 := ck_ok_s ⟨p2_nmu, ck_E0⟩ ck_X0 ck_l0 p2_s2256_e
set_option maxRecDepth 100000 in
/-- GlacierMailModel.isNext -/
def p2_s2257 : ck_Sum := ((7, 0, 0), 245, [.inr (.inr (.inl 226)), .inr (.inr (.inr 73))], ([], [], [(226, 9, 9, (0, 400, [(1, 0)]))]), ([(226, 9, 9), (226, 11, 11)], []), [(.inr (some (.inl (ck_one 0))), 245, ([], [], [(226, 9, 9, (0, 400, [(1000001, 0)])), (226, 11, 11, (0, 400, [(1000001, 0)]))])), (.inr (some (.inl (ck_one 1))), 245, ([], [], [(226, 9, 9, (3, 400, [(1000001, 0)])), (226, 11, 11, (0, 397, []))]))])
set_option maxRecDepth 100000 in
theorem p2_s2257_e : ck_ok p2_O none [] [(248, [p2_s170]), (250, [p2_s2256])] 269 [] 94 p2_s2257 = true := by decide +kernel
theorem p2_s2257_s {X : Int → Int} {LX : Nat} : ck_Ok p2_O X LX 269 p2_s2257 := ck_ok_s ⟨p2_nmu, ck_E1 (ck_S1 p2_s170_s ck_S0) (ck_E1 (ck_S1 p2_s2256_s ck_S0) ck_E0)⟩ ck_X0 ck_l0 p2_s2257_e
set_option maxRecDepth 100000 in
/-- GlacierMailModel.isWord -/
def p2_s2260 : ck_Sum := ((6, 0, 0), 245, [.inr (.inr (.inl 226)), .inr (.inr (.inr 74))], ([], [], [(226, 9, 9, (0, 400, [(1, 0)]))]), ([], []), [(.inr (some (.inl (ck_one 0))), 245, ([], [], [])), (.inr (some (.inl (ck_one 1))), 245, ([], [], [(226, 9, 9, (2, 400, [(1, 0)])), (226, 11, 11, (0, 398, []))]))])
set_option maxRecDepth 100000 in
theorem p2_s2260_e : ck_ok p2_O none [] [] 250 [] 200 p2_s2260 = true := by decide +kernel
theorem p2_s2260_s {X : Int → Int} {LX : Nat} : ck_Ok p2_O X LX 250 p2_s2260 := ck_ok_s ⟨p2_nmu, ck_E0⟩ ck_X0 ck_l0 p2_s2260_e
set_option maxRecDepth 100000 in
/-- GlacierMailModel.isNext -/
def p2_s2261 : ck_Sum := ((7, 0, 0), 245, [.inr (.inr (.inl 226)), .inr (.inr (.inr 74))], ([], [], [(226, 9, 9, (0, 400, [(1, 0)]))]), ([(226, 9, 9), (226, 11, 11)], []), [(.inr (some (.inl (ck_one 0))), 245, ([], [], [(226, 9, 9, (0, 400, [(1000001, 0)])), (226, 11, 11, (0, 400, [(1000001, 0)]))])), (.inr (some (.inl (ck_one 1))), 245, ([], [], [(226, 9, 9, (2, 400, [(1000001, 0)])), (226, 11, 11, (0, 398, []))]))])
set_option maxRecDepth 100000 in
theorem p2_s2261_e : ck_ok p2_O none [] [(248, [p2_s170]), (250, [p2_s2260])] 269 [] 94 p2_s2261 = true := by decide +kernel
theorem p2_s2261_s {X : Int → Int} {LX : Nat} : ck_Ok p2_O X LX 269 p2_s2261 := ck_ok_s ⟨p2_nmu, ck_E1 (ck_S1 p2_s170_s ck_S0) (ck_E1 (ck_S1 p2_s2260_s ck_S0) ck_E0)⟩ ck_X0 ck_l0 p2_s2261_e
set_option maxRecDepth 100000 in
/-- GlacierMailModel.figures -/
def p2_s2284 : ck_Sum := ((2, 0, 0), 245, [.inr (.inr (.inl 226)), .inl (ck_one 0), .inl (ck_one 20), .inl (ck_one 3)], ([], [], [(226, 9, 9, (0, 400, [(1, 0)]))]), ([(226, 9, 9), (226, 11, 11)], []), [(.inr (some (.inl (ck_one (-1)))), 245, ([], [], [(226, 9, 9, (0, 400, [(1000001, 0)])), (226, 11, 11, (0, 400, [(1000001, 0)]))])), (.inr (some (.inl (0, 20, []))), 245, ([], [], [(226, 9, 9, (0, 400, [(1000001, 0)])), (226, 11, 11, (0, 400, [(1000001, 0)]))]))])
set_option maxRecDepth 100000 in
theorem p2_s2284_e : ck_ok p2_O none [] [(245, [p2_s168]), (246, [p2_s181])] 256 [(7, [some (.inr (.inr (.inl 226))), some (.inl (ck_one 0)), some (.inl (ck_one 20)), some (.inl (ck_one 3)), some (.inl ((-2147483648), 2147483647, []))], ([], [], [(226, 11, 11, (0, 400, [(1000001, 0)])), (226, 9, 9, (0, 400, [(1000001, 0)]))]), 100, .inr (226, 9), true)] 222 p2_s2284 = true := by decide +kernel
theorem p2_s2284_s {X : Int → Int} {LX : Nat} : ck_Ok p2_O X LX 256 p2_s2284 := ck_ok_s ⟨p2_nmu, ck_E1 (ck_S1 p2_s168_s ck_S0) (ck_E1 (ck_S1 p2_s181_s ck_S0) ck_E0)⟩ ck_X0 ck_l0 p2_s2284_e
set_option maxRecDepth 100000 in
/-- GlacierMailModel.readLine -/
def p2_s2309 : ck_Sum := ((3, 0, 0), 245, [.inr (.inr (.inl 226)), .inl (ck_one 0), .inl (ck_one 12)], ([], [], [(226, 9, 9, (0, 400, [(1, 0)]))]), ([(226, 9, 9), (226, 11, 11)], []), [(.inr (some (.inl (ck_one 0))), 245, ([], [], [(226, 9, 9, (0, 400, [(1000001, 0)])), (226, 11, 11, (0, 400, [(1000001, 0)]))]))])
set_option maxRecDepth 100000 in
theorem p2_s2309_e : ck_ok p2_O none [] [(248, [p2_s170])] 247 [] 88 p2_s2309 = true := by decide +kernel
theorem p2_s2309_s {X : Int → Int} {LX : Nat} : ck_Ok p2_O X LX 247 p2_s2309 := ck_ok_s ⟨p2_nmu, ck_E1 (ck_S1 p2_s170_s ck_S0) ck_E0⟩ ck_X0 ck_l0 p2_s2309_e
