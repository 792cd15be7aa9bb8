/-! EVERY CALL ENDS, whatever was done before (laid by wip/am/p2g.py). -/
set_option maxRecDepth 100000 in
/-- GlacierMail$Rows.size -/
def p2_s159 : ck_Sum := ((0, 0, 0), 245, [.inr (.inr (.inl 6))], ([], [], []), ([], []), [(.inr (some (.inl (0, 8, []))), 245, ([], [], []))])
set_option maxRecDepth 100000 in
theorem p2_s159_e : ck_ok p2_O none [] [] 9 [] 76 p2_s159 = true := by decide +kernel
theorem p2_s159_s {X : Int → Int} {LX : Nat} : ck_Ok p2_O X LX 9 p2_s159 := ck_ok_s ⟨p2_nmu, ck_E0⟩ ck_X0 ck_l0 p2_s159_e
set_option maxRecDepth 100000 in
/-- GlacierMail$Rows.get -/
def p2_s160 : ck_Sum := ((0, 0, 0), 245, [.inr (.inr (.inl 6)), .inl ((-2147483648), 2147483647, []), .inl ((-2147483648), 2147483647, [])], ([], [], []), ([], []), [(.inr (some (.inl (ck_one (-1)))), 245, ([], [], [])), (.inr (some (.inl (0, 299, []))), 245, ([], [], [(6, 3, 3, (1, 8, []))]))])
set_option maxRecDepth 100000 in
theorem p2_s160_e : ck_ok p2_O none [] [] 10 [] 114 p2_s160 = true := by decide +kernel
theorem p2_s160_s {X : Int → Int} {LX : Nat} : ck_Ok p2_O X LX 10 p2_s160 := ck_ok_s ⟨p2_nmu, ck_E0⟩ ck_X0 ck_l0 p2_s160_e
set_option maxRecDepth 100000 in
/-- GlacierMail$Ice.reckonFloods -/
def p2_s161 : ck_Sum := ((1, 0, 0), 245, [.inr (.inr (.inl 200))], ([], [], []), ([(203, 0, 299)], []), [(.inr none, 245, ([], [], []))])
set_option maxRecDepth 100000 in
theorem p2_s161_e : ck_ok p2_O none [] [(8, [p2_s158]), (9, [p2_s159]), (10, [p2_s160])] 12 [(10, [some (.inr (.inr (.inl 200))), some (.inl (0, 9, [])), none], ([], [], []), 100, .inl 1, true)] 214 p2_s161 = true := by decide +kernel
theorem p2_s161_s {X : Int → Int} {LX : Nat} : ck_Ok p2_O X LX 12 p2_s161 := ck_ok_s ⟨p2_nmu, ck_E1 (ck_S1 p2_s158_s ck_S0) (ck_E1 (ck_S1 p2_s159_s ck_S0) (ck_E1 (ck_S1 p2_s160_s ck_S0) ck_E0))⟩ ck_X0 ck_l0 p2_s161_e
set_option maxRecDepth 100000 in
/-- GlacierMail$Ice.renew -/
def p2_s162 : ck_Sum := ((2, 0, 0), 245, [.inr (.inr (.inl 200))], ([], [], []), ([(200, 6, 6), (201, 0, 299), (202, 0, 593), (203, 0, 299)], []), [(.inr none, 245, ([], [], []))])
set_option maxRecDepth 100000 in
theorem p2_s162_e : ck_ok p2_O none [] [(6, [p2_s153]), (7, [p2_s157]), (12, [p2_s161])] 5 [] 90 p2_s162 = true := by decide +kernel
theorem p2_s162_s {X : Int → Int} {LX : Nat} : ck_Ok p2_O X LX 5 p2_s162 := ck_ok_s ⟨p2_nmu, ck_E1 (ck_S1 p2_s153_s ck_S0) (ck_E1 (ck_S1 p2_s157_s ck_S0) (ck_E1 (ck_S1 p2_s161_s ck_S0) ck_E0))⟩ ck_X0 ck_l0 p2_s162_e
set_option maxRecDepth 100000 in
/-- GlacierMail$History.forget -/
def p2_s163 : ck_Sum := ((0, 0, 0), 245, [.inr (.inr (.inl 42))], ([], [], []), ([(42, 2, 2)], []), [(.inr none, 245, ([], [], [(42, 2, 2, ck_one 0)]))])
set_option maxRecDepth 100000 in
theorem p2_s163_e : ck_ok p2_O none [] [] 62 [] 78 p2_s163 = true := by decide +kernel
theorem p2_s163_s {X : Int → Int} {LX : Nat} : ck_Ok p2_O X LX 62 p2_s163 := ck_ok_s ⟨p2_nmu, ck_E0⟩ ck_X0 ck_l0 p2_s163_e
set_option maxRecDepth 100000 in
/-- GlacierMail.forgetWays -/
def p2_s164 : ck_Sum := ((3, 0, 0), 245, [.inr (.inr (.inl 1))], ([], [], []), ([(1, 15, 15), (42, 2, 2), (200, 6, 6), (201, 0, 299), (202, 0, 593), (203, 0, 299)], []), [(.inr none, 245, ([], [], [(1, 15, 15, ck_one 0), (42, 2, 2, ck_one 0)]))])
set_option maxRecDepth 100000 in
theorem p2_s164_e : ck_ok p2_O none [] [(5, [p2_s162]), (62, [p2_s163])] 61 [] 90 p2_s164 = true := by decide +kernel
theorem p2_s164_s {X : Int → Int} {LX : Nat} : ck_Ok p2_O X LX 61 p2_s164 := ck_ok_s ⟨p2_nmu, ck_E1 (ck_S1 p2_s162_s ck_S0) (ck_E1 (ck_S1 p2_s163_s ck_S0) ck_E0)⟩ ck_X0 ck_l0 p2_s164_e
set_option maxRecDepth 100000 in
/-- GlacierMailModel.uses -/
def p2_s166 : ck_Sum := ((0, 0, 0), 245, [.inr (.inr (.inl 226))], ([], [], [(226, 8, 8, (0, 400, [(7, 0)]))]), ([(226, 0, 0), (226, 8, 10)], []), [(.inr none, 245, ([], [], [(226, 9, 9, ck_one 0), (226, 8, 8, ck_one 0), (226, 10, 10, (0, 400, [(7, 0)])), (226, 0, 0, ck_one 0)]))])
set_option maxRecDepth 100000 in
theorem p2_s166_e : ck_ok p2_O none [] [] 244 [] 98 p2_s166 = true := by decide +kernel
theorem p2_s166_s {X : Int → Int} {LX : Nat} : ck_Ok p2_O X LX 244 p2_s166 := ck_ok_s ⟨p2_nmu, ck_E0⟩ ck_X0 ck_l0 p2_s166_e
set_option maxRecDepth 100000 in
/-- GlacierMailModel.isAt -/
def p2_s167 : ck_Sum := ((0, 0, 0), 245, [.inr (.inr (.inl 226)), .inl (ck_one 32), .inl (ck_one 32)], ([], [], [(226, 9, 9, (0, 400, [(1, 0)]))]), ([], []), [(.inr (some (.inl (ck_one 0))), 245, ([], [], [])), (.inr (some (.inl (ck_one 1))), 245, ([], [], [(226, 10, 10, (1, 400, [])), (226, 9, 9, (0, 399, [(1, 0)]))]))])
set_option maxRecDepth 100000 in
theorem p2_s167_e : ck_ok p2_O none [] [] 246 [] 114 p2_s167 = true := by decide +kernel
theorem p2_s167_s {X : Int → Int} {LX : Nat} : ck_Ok p2_O X LX 246 p2_s167 := ck_ok_s ⟨p2_nmu, ck_E0⟩ ck_X0 ck_l0 p2_s167_e
set_option maxRecDepth 100000 in
/-- GlacierMailModel.blanks -/
def p2_s168 : ck_Sum := ((1, 0, 0), 245, [.inr (.inr (.inl 226))], ([], [], [(226, 9, 9, (0, 400, [(1, 0)]))]), ([(226, 9, 9), (226, 11, 11)], []), [(.inr none, 245, ([], [], [(226, 11, 11, (0, 400, [(1000001, 0)])), (226, 9, 9, (0, 400, [(1000001, 0)]))]))])
set_option maxRecDepth 100000 in
theorem p2_s168_e : ck_ok p2_O none [] [(246, [p2_s167])] 245 [(0, [some (.inr (.inr (.inl 226)))], ([], [], [(226, 9, 9, (0, 400, [(1000001, 0)]))]), 100, .inr (226, 9), true)] 142 p2_s168 = true := by decide +kernel
theorem p2_s168_s {X : Int → Int} {LX : Nat} : ck_Ok p2_O X LX 245 p2_s168 := ck_ok_s ⟨p2_nmu, ck_E1 (ck_S1 p2_s167_s ck_S0) ck_E0⟩ ck_X0 ck_l0 p2_s168_e
set_option maxRecDepth 100000 in
/-- GlacierMailModel.isAt -/
def p2_s169 : ck_Sum := ((0, 0, 0), 245, [.inr (.inr (.inl 226)), .inl (ck_one 97), .inl (ck_one 122)], ([], [], [(226, 9, 9, (0, 400, [(1, 0)]))]), ([], []), [(.inr (some (.inl (ck_one 0))), 245, ([], [], [])), (.inr (some (.inl (ck_one 1))), 245, ([], [], [(226, 10, 10, (1, 400, [])), (226, 9, 9, (0, 399, [(1, 0)]))]))])
set_option maxRecDepth 100000 in
theorem p2_s169_e : ck_ok p2_O none [] [] 246 [] 114 p2_s169 = true := by decide +kernel
theorem p2_s169_s {X : Int → Int} {LX : Nat} : ck_Ok p2_O X LX 246 p2_s169 := ck_ok_s ⟨p2_nmu, ck_E0⟩ ck_X0 ck_l0 p2_s169_e
set_option maxRecDepth 100000 in
/-- GlacierMailModel.letterRow -/
def p2_s170 : ck_Sum := ((2, 0, 0), 245, [.inr (.inr (.inl 226))], ([], [], [(226, 9, 9, (0, 400, [(1, 0)]))]), ([(226, 9, 9), (226, 11, 11)], []), [(.inr none, 245, ([], [], [(226, 9, 9, (0, 400, [(1000001, 0)])), (226, 11, 11, (0, 400, [(1000001, 0)]))]))])
set_option maxRecDepth 100000 in
theorem p2_s170_e : ck_ok p2_O none [] [(245, [p2_s168]), (246, [p2_s169])] 248 [(4, [some (.inr (.inr (.inl 226)))], ([], [], [(226, 11, 11, (0, 400, [(1000001, 0)])), (226, 9, 9, (0, 400, [(1000001, 0)]))]), 100, .inr (226, 9), true)] 142 p2_s170 = true := by decide +kernel
theorem p2_s170_s {X : Int → Int} {LX : Nat} : ck_Ok p2_O X LX 248 p2_s170 := ck_ok_s ⟨p2_nmu, ck_E1 (ck_S1 p2_s168_s ck_S0) (ck_E1 (ck_S1 p2_s169_s ck_S0) ck_E0)⟩ ck_X0 ck_l0 p2_s170_e
set_option maxRecDepth 100000 in
/-- GlacierMailModel.isAt -/
def p2_s181 : ck_Sum := ((0, 0, 0), 245, [.inr (.inr (.inl 226)), .inl (ck_one 48), .inl (ck_one 57)], ([], [], [(226, 9, 9, (0, 400, [(1, 0)]))]), ([], []), [(.inr (some (.inl (ck_one 0))), 245, ([], [], [])), (.inr (some (.inl (ck_one 1))), 245, ([], [], [(226, 10, 10, (1, 400, [])), (226, 9, 9, (0, 399, [(1, 0)]))]))])
set_option maxRecDepth 100000 in
theorem p2_s181_e : ck_ok p2_O none [] [] 246 [] 114 p2_s181 = true := by decide +kernel
theorem p2_s181_s {X : Int → Int} {LX : Nat} : ck_Ok p2_O X LX 246 p2_s181 := ck_ok_s ⟨p2_nmu, ck_E0⟩ ck_X0 ck_l0 p2_s181_e
set_option maxRecDepth 100000 in
/-- GlacierMailModel.figures -/
def p2_s182 : ck_Sum := ((2, 0, 0), 245, [.inr (.inr (.inl 226)), .inl (ck_one 0), .inl (ck_one 9999), .inl (ck_one 4)], ([], [], [(226, 9, 9, (0, 400, [(1, 0)]))]), ([(226, 9, 9), (226, 11, 11)], []), [(.inr (some (.inl (ck_one (-1)))), 245, ([], [], [(226, 9, 9, (0, 400, [(1000001, 0)])), (226, 11, 11, (0, 400, [(1000001, 0)]))])), (.inr (some (.inl (0, 9999, []))), 245, ([], [], [(226, 9, 9, (0, 400, [(1000001, 0)])), (226, 11, 11, (0, 400, [(1000001, 0)]))]))])
set_option maxRecDepth 100000 in
theorem p2_s182_e : ck_ok p2_O none [] [(245, [p2_s168]), (246, [p2_s181])] 256 [(7, [some (.inr (.inr (.inl 226))), some (.inl (ck_one 0)), some (.inl (ck_one 9999)), some (.inl (ck_one 4)), some (.inl ((-2147483648), 2147483647, []))], ([], [], [(226, 11, 11, (0, 400, [(1000001, 0)])), (226, 9, 9, (0, 400, [(1000001, 0)]))]), 100, .inr (226, 9), true)] 222 p2_s182 = true := by decide +kernel
theorem p2_s182_s {X : Int → Int} {LX : Nat} : ck_Ok p2_O X LX 256 p2_s182 := ck_ok_s ⟨p2_nmu, ck_E1 (ck_S1 p2_s168_s ck_S0) (ck_E1 (ck_S1 p2_s181_s ck_S0) ck_E0)⟩ ck_X0 ck_l0 p2_s182_e
set_option maxRecDepth 100000 in
/-- GlacierMailModel.number -/
def p2_s183 : ck_Sum := ((3, 0, 0), 245, [.inr (.inr (.inl 226)), .inl (ck_one 0), .inl (ck_one 9999)], ([], [], [(226, 9, 9, (0, 400, [(1, 0)]))]), ([(226, 9, 9), (226, 11, 11)], []), [(.inr (some (.inl (ck_one (-1)))), 245, ([], [], [(226, 9, 9, (0, 400, [(1000001, 0)])), (226, 11, 11, (0, 400, [(1000001, 0)]))])), (.inr (some (.inl (0, 9999, []))), 245, ([], [], [(226, 9, 9, (0, 400, [(1000001, 0)])), (226, 11, 11, (0, 400, [(1000001, 0)]))]))])
set_option maxRecDepth 100000 in
theorem p2_s183_e : ck_ok p2_O none [] [(256, [p2_s182])] 255 [] 82 p2_s183 = true := by decide +kernel
theorem p2_s183_s {X : Int → Int} {LX : Nat} : ck_Ok p2_O X LX 255 p2_s183 := ck_ok_s ⟨p2_nmu, ck_E1 (ck_S1 p2_s182_s ck_S0) ck_E0⟩ ck_X0 ck_l0 p2_s183_e
set_option maxRecDepth 100000 in
/-- GlacierMailModel.figures -/
def p2_s185 : ck_Sum := ((2, 0, 0), 245, [.inr (.inr (.inl 226)), .inl (ck_one 0), .inl (1, 6, []), .inl (ck_one 4)], ([], [], [(226, 9, 9, (0, 400, [(1, 0)]))]), ([(226, 9, 9), (226, 11, 11)], []), [(.inr (some (.inl (ck_one (-1)))), 245, ([], [], [(226, 9, 9, (0, 400, [(1000001, 0)])), (226, 11, 11, (0, 400, [(1000001, 0)]))])), (.inr (some (.inl (0, 6, []))), 245, ([], [], [(226, 9, 9, (0, 400, [(1000001, 0)])), (226, 11, 11, (0, 400, [(1000001, 0)]))]))])
set_option maxRecDepth 100000 in
theorem p2_s185_e : ck_ok p2_O none [] [(245, [p2_s168]), (246, [p2_s181])] 256 [(7, [some (.inr (.inr (.inl 226))), some (.inl (ck_one 0)), some (.inl (1, 6, [])), some (.inl (ck_one 4)), some (.inl ((-2147483648), 2147483647, []))], ([], [], [(226, 11, 11, (0, 400, [(1000001, 0)])), (226, 9, 9, (0, 400, [(1000001, 0)]))]), 100, .inr (226, 9), true)] 222 p2_s185 = true := by decide +kernel
theorem p2_s185_s {X : Int → Int} {LX : Nat} : ck_Ok p2_O X LX 256 p2_s185 := ck_ok_s ⟨p2_nmu, ck_E1 (ck_S1 p2_s168_s ck_S0) (ck_E1 (ck_S1 p2_s181_s ck_S0) ck_E0)⟩ ck_X0 ck_l0 p2_s185_e
set_option maxRecDepth 100000 in
/-- GlacierMailModel.number -/
def p2_s186 : ck_Sum := ((3, 0, 0), 245, [.inr (.inr (.inl 226)), .inl (ck_one 0), .inl (1, 6, [])], ([], [], [(226, 9, 9, (0, 400, [(1, 0)]))]), ([(226, 9, 9), (226, 11, 11)], []), [(.inr (some (.inl (ck_one (-1)))), 245, ([], [], [(226, 9, 9, (0, 400, [(1000001, 0)])), (226, 11, 11, (0, 400, [(1000001, 0)]))])), (.inr (some (.inl (0, 6, []))), 245, ([], [], [(226, 9, 9, (0, 400, [(1000001, 0)])), (226, 11, 11, (0, 400, [(1000001, 0)]))]))])
set_option maxRecDepth 100000 in
theorem p2_s186_e : ck_ok p2_O none [] [(256, [p2_s185])] 255 [] 82 p2_s186 = true := by decide +kernel
theorem p2_s186_s {X : Int → Int} {LX : Nat} : ck_Ok p2_O X LX 255 p2_s186 := ck_ok_s ⟨p2_nmu, ck_E1 (ck_S1 p2_s185_s ck_S0) ck_E0⟩ ck_X0 ck_l0 p2_s186_e
set_option maxRecDepth 100000 in
/-- GlacierMailModel.lanes -/
def p2_s184 : ck_Sum := ((0, 0, 0), 245, [.inr (.inr (.inl 226))], ([], [], []), ([], []), [(.inr (some (.inl (1, 6, []))), 245, ([], [], []))])
set_option maxRecDepth 100000 in
theorem p2_s184_e : ck_ok p2_O none [] [] 261 [] 80 p2_s184 = true := by decide +kernel
theorem p2_s184_s {X : Int → Int} {LX : Nat} : ck_Ok p2_O X LX 261 p2_s184 := ck_ok_s ⟨p2_nmu, ck_E0⟩ ck_X0 ck_l0 p2_s184_e
set_option maxRecDepth 100000 in
/-- GlacierMailModel.figures -/
def p2_s187 : ck_Sum := ((2, 0, 0), 245, [.inr (.inr (.inl 226)), .inl (ck_one 0), .inl (ck_one 20), .inl (ck_one 4)], ([], [], [(226, 9, 9, (0, 400, [(1, 0)]))]), ([(226, 9, 9), (226, 11, 11)], []), [(.inr (some (.inl (ck_one (-1)))), 245, ([], [], [(226, 9, 9, (0, 400, [(1000001, 0)])), (226, 11, 11, (0, 400, [(1000001, 0)]))])), (.inr (some (.inl (0, 20, []))), 245, ([], [], [(226, 9, 9, (0, 400, [(1000001, 0)])), (226, 11, 11, (0, 400, [(1000001, 0)]))]))])
set_option maxRecDepth 100000 in
theorem p2_s187_e : ck_ok p2_O none [] [(245, [p2_s168]), (246, [p2_s181])] 256 [(7, [some (.inr (.inr (.inl 226))), some (.inl (ck_one 0)), some (.inl (ck_one 20)), some (.inl (ck_one 4)), some (.inl ((-2147483648), 2147483647, []))], ([], [], [(226, 11, 11, (0, 400, [(1000001, 0)])), (226, 9, 9, (0, 400, [(1000001, 0)]))]), 100, .inr (226, 9), true)] 222 p2_s187 = true := by decide +kernel
theorem p2_s187_s {X : Int → Int} {LX : Nat} : ck_Ok p2_O X LX 256 p2_s187 := ck_ok_s ⟨p2_nmu, ck_E1 (ck_S1 p2_s168_s ck_S0) (ck_E1 (ck_S1 p2_s181_s ck_S0) ck_E0)⟩ ck_X0 ck_l0 p2_s187_e
set_option maxRecDepth 100000 in
/-- GlacierMailModel.number -/
def p2_s188 : ck_Sum := ((3, 0, 0), 245, [.inr (.inr (.inl 226)), .inl (ck_one 0), .inl (ck_one 20)], ([], [], [(226, 9, 9, (0, 400, [(1, 0)]))]), ([(226, 9, 9), (226, 11, 11)], []), [(.inr (some (.inl (ck_one (-1)))), 245, ([], [], [(226, 9, 9, (0, 400, [(1000001, 0)])), (226, 11, 11, (0, 400, [(1000001, 0)]))])), (.inr (some (.inl (0, 20, []))), 245, ([], [], [(226, 9, 9, (0, 400, [(1000001, 0)])), (226, 11, 11, (0, 400, [(1000001, 0)]))]))])
set_option maxRecDepth 100000 in
theorem p2_s188_e : ck_ok p2_O none [] [(256, [p2_s187])] 255 [] 82 p2_s188 = true := by decide +kernel
theorem p2_s188_s {X : Int → Int} {LX : Nat} : ck_Ok p2_O X LX 255 p2_s188 := ck_ok_s ⟨p2_nmu, ck_E1 (ck_S1 p2_s187_s ck_S0) ck_E0⟩ ck_X0 ck_l0 p2_s188_e
set_option maxRecDepth 100000 in
/-- GlacierMailModel.readSpeeds -/
def p2_s189 : ck_Sum := ((4, 0, 0), 245, [.inr (.inr (.inl 226)), .inl (ck_one 287)], ([], [], [(226, 9, 9, (0, 400, [(1, 0)]))]), ([(226, 9, 9), (226, 11, 11), (227, 287, 292)], []), [(.inr (some (.inl (ck_one 1))), 245, ([], [], [(226, 9, 9, (0, 400, [(1000001, 0)]))])), (.inr (some (.inl (ck_one 0))), 245, ([], [], [(226, 9, 9, (0, 400, [(1000001, 0)])), (226, 11, 11, (0, 400, [(1000001, 0)]))]))])
set_option maxRecDepth 100000 in
theorem p2_s189_e : ck_ok p2_O none [] [(261, [p2_s184]), (255, [p2_s188])] 260 [(2, [some (.inr (.inr (.inl 226))), some (.inl (ck_one 287)), some (.inl (0, 6, [])), none], ([], [], [(226, 9, 9, (0, 400, [(1000001, 0)]))]), 100, .inl 2, true)] 174 p2_s189 = true := by decide +kernel
theorem p2_s189_s {X : Int → Int} {LX : Nat} : ck_Ok p2_O X LX 260 p2_s189 := ck_ok_s ⟨p2_nmu, ck_E1 (ck_S1 p2_s184_s ck_S0) (ck_E1 (ck_S1 p2_s188_s ck_S0) ck_E0)⟩ ck_X0 ck_l0 p2_s189_e
set_option maxRecDepth 100000 in
/-- GlacierMailModel.readSpeeds -/
def p2_s190 : ck_Sum := ((4, 0, 0), 245, [.inr (.inr (.inl 226)), .inl (ck_one 317)], ([], [], [(226, 9, 9, (0, 400, [(1, 0)]))]), ([(226, 9, 9), (226, 11, 11), (227, 317, 322)], []), [(.inr (some (.inl (ck_one 1))), 245, ([], [], [(226, 9, 9, (0, 400, [(1000001, 0)]))])), (.inr (some (.inl (ck_one 0))), 245, ([], [], [(226, 9, 9, (0, 400, [(1000001, 0)])), (226, 11, 11, (0, 400, [(1000001, 0)]))]))])
set_option maxRecDepth 100000 in
theorem p2_s190_e : ck_ok p2_O none [] [(261, [p2_s184]), (255, [p2_s188])] 260 [(2, [some (.inr (.inr (.inl 226))), some (.inl (ck_one 317)), some (.inl (0, 6, [])), none], ([], [], [(226, 9, 9, (0, 400, [(1000001, 0)]))]), 100, .inl 2, true)] 174 p2_s190 = true := by decide +kernel
theorem p2_s190_s {X : Int → Int} {LX : Nat} : ck_Ok p2_O X LX 260 p2_s190 := ck_ok_s ⟨p2_nmu, ck_E1 (ck_S1 p2_s184_s ck_S0) (ck_E1 (ck_S1 p2_s188_s ck_S0) ck_E0)⟩ ck_X0 ck_l0 p2_s190_e
set_option maxRecDepth 100000 in
/-- GlacierMailModel.readSpeeds -/
def p2_s191 : ck_Sum := ((4, 0, 0), 245, [.inr (.inr (.inl 226)), .inl (ck_one 311)], ([], [], [(226, 9, 9, (0, 400, [(1, 0)]))]), ([(226, 9, 9), (226, 11, 11), (227, 311, 316)], []), [(.inr (some (.inl (ck_one 1))), 245, ([], [], [(226, 9, 9, (0, 400, [(1000001, 0)]))])), (.inr (some (.inl (ck_one 0))), 245, ([], [], [(226, 9, 9, (0, 400, [(1000001, 0)])), (226, 11, 11, (0, 400, [(1000001, 0)]))]))])
set_option maxRecDepth 100000 in
theorem p2_s191_e : ck_ok p2_O none [] [(261, [p2_s184]), (255, [p2_s188])] 260 [(2, [some (.inr (.inr (.inl 226))), some (.inl (ck_one 311)), some (.inl (0, 6, [])), none], ([], [], [(226, 9, 9, (0, 400, [(1000001, 0)]))]), 100, .inl 2, true)] 174 p2_s191 = true := by decide +kernel
theorem p2_s191_s {X : Int → Int} {LX : Nat} : ck_Ok p2_O X LX 260 p2_s191 := ck_ok_s ⟨p2_nmu, ck_E1 (ck_S1 p2_s184_s ck_S0) (ck_E1 (ck_S1 p2_s188_s ck_S0) ck_E0)⟩ ck_X0 ck_l0 p2_s191_e
set_option maxRecDepth 100000 in
/-- GlacierMailModel.readSpeeds -/
def p2_s192 : ck_Sum := ((4, 0, 0), 245, [.inr (.inr (.inl 226)), .inl (ck_one 305)], ([], [], [(226, 9, 9, (0, 400, [(1, 0)]))]), ([(226, 9, 9), (226, 11, 11), (227, 305, 310)], []), [(.inr (some (.inl (ck_one 1))), 245, ([], [], [(226, 9, 9, (0, 400, [(1000001, 0)]))])), (.inr (some (.inl (ck_one 0))), 245, ([], [], [(226, 9, 9, (0, 400, [(1000001, 0)])), (226, 11, 11, (0, 400, [(1000001, 0)]))]))])
set_option maxRecDepth 100000 in
theorem p2_s192_e : ck_ok p2_O none [] [(261, [p2_s184]), (255, [p2_s188])] 260 [(2, [some (.inr (.inr (.inl 226))), some (.inl (ck_one 305)), some (.inl (0, 6, [])), none], ([], [], [(226, 9, 9, (0, 400, [(1000001, 0)]))]), 100, .inl 2, true)] 174 p2_s192 = true := by decide +kernel
theorem p2_s192_s {X : Int → Int} {LX : Nat} : ck_Ok p2_O X LX 260 p2_s192 := ck_ok_s ⟨p2_nmu, ck_E1 (ck_S1 p2_s184_s ck_S0) (ck_E1 (ck_S1 p2_s188_s ck_S0) ck_E0)⟩ ck_X0 ck_l0 p2_s192_e
set_option maxRecDepth 100000 in
/-- GlacierMailModel.readSpeeds -/
def p2_s193 : ck_Sum := ((4, 0, 0), 245, [.inr (.inr (.inl 226)), .inl (ck_one 299)], ([], [], [(226, 9, 9, (0, 400, [(1, 0)]))]), ([(226, 9, 9), (226, 11, 11), (227, 299, 304)], []), [(.inr (some (.inl (ck_one 1))), 245, ([], [], [(226, 9, 9, (0, 400, [(1000001, 0)]))])), (.inr (some (.inl (ck_one 0))), 245, ([], [], [(226, 9, 9, (0, 400, [(1000001, 0)])), (226, 11, 11, (0, 400, [(1000001, 0)]))]))])
set_option maxRecDepth 100000 in
theorem p2_s193_e : ck_ok p2_O none [] [(261, [p2_s184]), (255, [p2_s188])] 260 [(2, [some (.inr (.inr (.inl 226))), some (.inl (ck_one 299)), some (.inl (0, 6, [])), none], ([], [], [(226, 9, 9, (0, 400, [(1000001, 0)]))]), 100, .inl 2, true)] 174 p2_s193 = true := by decide +kernel
theorem p2_s193_s {X : Int → Int} {LX : Nat} : ck_Ok p2_O X LX 260 p2_s193 := ck_ok_s ⟨p2_nmu, ck_E1 (ck_S1 p2_s184_s ck_S0) (ck_E1 (ck_S1 p2_s188_s ck_S0) ck_E0)⟩ ck_X0 ck_l0 p2_s193_e
set_option maxRecDepth 100000 in
/-- GlacierMailModel.readSpeeds -/
def p2_s194 : ck_Sum := ((4, 0, 0), 245, [.inr (.inr (.inl 226)), .inl (ck_one 293)], ([], [], [(226, 9, 9, (0, 400, [(1, 0)]))]), ([(226, 9, 9), (226, 11, 11), (227, 293, 298)], []), [(.inr (some (.inl (ck_one 1))), 245, ([], [], [(226, 9, 9, (0, 400, [(1000001, 0)]))])), (.inr (some (.inl (ck_one 0))), 245, ([], [], [(226, 9, 9, (0, 400, [(1000001, 0)])), (226, 11, 11, (0, 400, [(1000001, 0)]))]))])
set_option maxRecDepth 100000 in
theorem p2_s194_e : ck_ok p2_O none [] [(261, [p2_s184]), (255, [p2_s188])] 260 [(2, [some (.inr (.inr (.inl 226))), some (.inl (ck_one 293)), some (.inl (0, 6, [])), none], ([], [], [(226, 9, 9, (0, 400, [(1000001, 0)]))]), 100, .inl 2, true)] 174 p2_s194 = true := by decide +kernel
theorem p2_s194_s {X : Int → Int} {LX : Nat} : ck_Ok p2_O X LX 260 p2_s194 := ck_ok_s ⟨p2_nmu, ck_E1 (ck_S1 p2_s184_s ck_S0) (ck_E1 (ck_S1 p2_s188_s ck_S0) ck_E0)⟩ ck_X0 ck_l0 p2_s194_e
set_option maxRecDepth 100000 in
/-- GlacierMailModel.readTable -/
def p2_s195 : ck_Sum := ((5, 0, 0), 245, [.inr (.inr (.inl 226))], ([], [], [(227, 6, 6, (0, 6, [(24, 0)])), (226, 9, 9, (0, 400, [(1, 0)]))]), ([(226, 9, 9), (226, 11, 11), (227, 6, 6), (227, 287, 322)], []), [(.inr (some (.inl (ck_one 0))), 245, ([], [], [(227, 6, 6, (0, 6, [(24, 0)])), (226, 9, 9, (0, 400, [(1000001, 0)]))])), (.inr (some (.inl (ck_one 1))), 245, ([], [], [(227, 6, 6, (1, 6, [])), (226, 9, 9, (0, 400, [(1000001, 0)]))]))])
set_option maxRecDepth 100000 in
theorem p2_s195_e : ck_ok p2_O none [] [(260, [p2_s189, p2_s190, p2_s191, p2_s192, p2_s193, p2_s194])] 273 [] 122 p2_s195 = true := by decide +kernel
theorem p2_s195_s {X : Int → Int} {LX : Nat} : ck_Ok p2_O X LX 273 p2_s195 := ck_ok_s ⟨p2_nmu, ck_E1 (ck_S1 p2_s189_s (ck_S1 p2_s190_s (ck_S1 p2_s191_s (ck_S1 p2_s192_s (ck_S1 p2_s193_s (ck_S1 p2_s194_s ck_S0)))))) ck_E0⟩ ck_X0 ck_l0 p2_s195_e
set_option maxRecDepth 100000 in
/-- GlacierMailModel.letters -/
def p2_s196 : ck_Sum := ((0, 0, 0), 245, [.inr (.inr (.inl 226))], ([], [], [(227, 4, 4, (0, 24, [(22, 0)]))]), ([], []), [(.inr (some (.inl (0, 24, [(22, 0)]))), 245, ([], [], []))])
set_option maxRecDepth 100000 in
theorem p2_s196_e : ck_ok p2_O none [] [] 254 [] 80 p2_s196 = true := by decide +kernel
theorem p2_s196_s {X : Int → Int} {LX : Nat} : ck_Ok p2_O X LX 254 p2_s196 := ck_ok_s ⟨p2_nmu, ck_E0⟩ ck_X0 ck_l0 p2_s196_e
set_option maxRecDepth 100000 in
/-- GlacierMailModel.figures -/
def p2_s197 : ck_Sum := ((2, 0, 0), 245, [.inr (.inr (.inl 226)), .inl (ck_one 0), .inl (0, 5, []), .inl (ck_one 4)], ([], [], [(226, 9, 9, (0, 400, [(1, 0)]))]), ([(226, 9, 9), (226, 11, 11)], []), [(.inr (some (.inl (ck_one (-1)))), 245, ([], [], [(226, 9, 9, (0, 400, [(1000001, 0)])), (226, 11, 11, (0, 400, [(1000001, 0)]))])), (.inr (some (.inl (0, 5, []))), 245, ([], [], [(226, 9, 9, (0, 400, [(1000001, 0)])), (226, 11, 11, (0, 400, [(1000001, 0)]))]))])
set_option maxRecDepth 100000 in
theorem p2_s197_e : ck_ok p2_O none [] [(245, [p2_s168]), (246, [p2_s181])] 256 [(7, [some (.inr (.inr (.inl 226))), some (.inl (ck_one 0)), some (.inl (0, 5, [])), some (.inl (ck_one 4)), some (.inl ((-2147483648), 2147483647, []))], ([], [], [(226, 11, 11, (0, 400, [(1000001, 0)])), (226, 9, 9, (0, 400, [(1000001, 0)]))]), 100, .inr (226, 9), true)] 222 p2_s197 = true := by decide +kernel
theorem p2_s197_s {X : Int → Int} {LX : Nat} : ck_Ok p2_O X LX 256 p2_s197 := ck_ok_s ⟨p2_nmu, ck_E1 (ck_S1 p2_s168_s ck_S0) (ck_E1 (ck_S1 p2_s181_s ck_S0) ck_E0)⟩ ck_X0 ck_l0 p2_s197_e
set_option maxRecDepth 100000 in
/-- GlacierMailModel.number -/
def p2_s198 : ck_Sum := ((3, 0, 0), 245, [.inr (.inr (.inl 226)), .inl (ck_one 0), .inl (0, 5, [])], ([], [], [(226, 9, 9, (0, 400, [(1, 0)]))]), ([(226, 9, 9), (226, 11, 11)], []), [(.inr (some (.inl (ck_one (-1)))), 245, ([], [], [(226, 9, 9, (0, 400, [(1000001, 0)])), (226, 11, 11, (0, 400, [(1000001, 0)]))])), (.inr (some (.inl (0, 5, []))), 245, ([], [], [(226, 9, 9, (0, 400, [(1000001, 0)])), (226, 11, 11, (0, 400, [(1000001, 0)]))]))])
set_option maxRecDepth 100000 in
theorem p2_s198_e : ck_ok p2_O none [] [(256, [p2_s197])] 255 [] 82 p2_s198 = true := by decide +kernel
theorem p2_s198_s {X : Int → Int} {LX : Nat} : ck_Ok p2_O X LX 255 p2_s198 := ck_ok_s ⟨p2_nmu, ck_E1 (ck_S1 p2_s197_s ck_S0) ck_E0⟩ ck_X0 ck_l0 p2_s198_e
set_option maxRecDepth 100000 in
/-- GlacierMailModel.laneTold -/
def p2_s199 : ck_Sum := ((4, 0, 0), 245, [.inr (.inr (.inl 226))], ([], [], [(226, 9, 9, (0, 400, [(1, 0)]))]), ([(226, 9, 9), (226, 11, 11)], []), [(.inr (some (.inl (ck_one (-1)))), 245, ([], [], [(226, 9, 9, (0, 400, [(1000001, 0)])), (226, 11, 11, (0, 400, [(1000001, 0)]))])), (.inr (some (.inl (0, 5, []))), 245, ([], [], [(226, 9, 9, (0, 400, [(1000001, 0)])), (226, 11, 11, (0, 400, [(1000001, 0)]))]))])
set_option maxRecDepth 100000 in
theorem p2_s199_e : ck_ok p2_O none [] [(261, [p2_s184]), (255, [p2_s198])] 268 [] 86 p2_s199 = true := by decide +kernel
theorem p2_s199_s {X : Int → Int} {LX : Nat} : ck_Ok p2_O X LX 268 p2_s199 := ck_ok_s ⟨p2_nmu, ck_E1 (ck_S1 p2_s184_s ck_S0) (ck_E1 (ck_S1 p2_s198_s ck_S0) ck_E0)⟩ ck_X0 ck_l0 p2_s199_e
set_option maxRecDepth 100000 in
/-- GlacierMailModel.lip -/
def p2_s200 : ck_Sum := ((0, 0, 0), 245, [.inr (.inr (.inl 226))], ([], [], []), ([], []), [(.inr (some (.inl (10, 99, []))), 245, ([], [], []))])
set_option maxRecDepth 100000 in
theorem p2_s200_e : ck_ok p2_O none [] [] 259 [] 80 p2_s200 = true := by decide +kernel
theorem p2_s200_s {X : Int → Int} {LX : Nat} : ck_Ok p2_O X LX 259 p2_s200 := ck_ok_s ⟨p2_nmu, ck_E0⟩ ck_X0 ck_l0 p2_s200_e
set_option maxRecDepth 100000 in
/-- GlacierMailModel.figures -/
def p2_s201 : ck_Sum := ((2, 0, 0), 245, [.inr (.inr (.inl 226)), .inl (ck_one 0), .inl (9, 98, []), .inl (ck_one 4)], ([], [], [(226, 9, 9, (0, 400, [(1, 0)]))]), ([(226, 9, 9), (226, 11, 11)], []), [(.inr (some (.inl (ck_one (-1)))), 245, ([], [], [(226, 9, 9, (0, 400, [(1000001, 0)])), (226, 11, 11, (0, 400, [(1000001, 0)]))])), (.inr (some (.inl (0, 98, []))), 245, ([], [], [(226, 9, 9, (0, 400, [(1000001, 0)])), (226, 11, 11, (0, 400, [(1000001, 0)]))]))])
set_option maxRecDepth 100000 in
theorem p2_s201_e : ck_ok p2_O none [] [(245, [p2_s168]), (246, [p2_s181])] 256 [(7, [some (.inr (.inr (.inl 226))), some (.inl (ck_one 0)), some (.inl (9, 98, [])), some (.inl (ck_one 4)), some (.inl ((-2147483648), 2147483647, []))], ([], [], [(226, 11, 11, (0, 400, [(1000001, 0)])), (226, 9, 9, (0, 400, [(1000001, 0)]))]), 100, .inr (226, 9), true)] 222 p2_s201 = true := by decide +kernel
theorem p2_s201_s {X : Int → Int} {LX : Nat} : ck_Ok p2_O X LX 256 p2_s201 := ck_ok_s ⟨p2_nmu, ck_E1 (ck_S1 p2_s168_s ck_S0) (ck_E1 (ck_S1 p2_s181_s ck_S0) ck_E0)⟩ ck_X0 ck_l0 p2_s201_e
set_option maxRecDepth 100000 in
/-- GlacierMailModel.number -/
def p2_s202 : ck_Sum := ((3, 0, 0), 245, [.inr (.inr (.inl 226)), .inl (ck_one 0), .inl (9, 98, [])], ([], [], [(226, 9, 9, (0, 400, [(1, 0)]))]), ([(226, 9, 9), (226, 11, 11)], []), [(.inr (some (.inl (ck_one (-1)))), 245, ([], [], [(226, 9, 9, (0, 400, [(1000001, 0)])), (226, 11, 11, (0, 400, [(1000001, 0)]))])), (.inr (some (.inl (0, 98, []))), 245, ([], [], [(226, 9, 9, (0, 400, [(1000001, 0)])), (226, 11, 11, (0, 400, [(1000001, 0)]))]))])
set_option maxRecDepth 100000 in
theorem p2_s202_e : ck_ok p2_O none [] [(256, [p2_s201])] 255 [] 82 p2_s202 = true := by decide +kernel
theorem p2_s202_s {X : Int → Int} {LX : Nat} : ck_Ok p2_O X LX 255 p2_s202 := ck_ok_s ⟨p2_nmu, ck_E1 (ck_S1 p2_s201_s ck_S0) ck_E0⟩ ck_X0 ck_l0 p2_s202_e
set_option maxRecDepth 100000 in
/-- GlacierMailModel.rowTold -/
def p2_s203 : ck_Sum := ((4, 0, 0), 245, [.inr (.inr (.inl 226))], ([], [], [(226, 9, 9, (0, 400, [(1, 0)]))]), ([(226, 9, 9), (226, 11, 11)], []), [(.inr (some (.inl (ck_one (-1)))), 245, ([], [], [(226, 9, 9, (0, 400, [(1000001, 0)])), (226, 11, 11, (0, 400, [(1000001, 0)]))])), (.inr (some (.inl (0, 98, []))), 245, ([], [], [(226, 9, 9, (0, 400, [(1000001, 0)])), (226, 11, 11, (0, 400, [(1000001, 0)]))]))])
set_option maxRecDepth 100000 in
theorem p2_s203_e : ck_ok p2_O none [] [(259, [p2_s200]), (255, [p2_s202])] 263 [] 86 p2_s203 = true := by decide +kernel
theorem p2_s203_s {X : Int → Int} {LX : Nat} : ck_Ok p2_O X LX 263 p2_s203 := ck_ok_s ⟨p2_nmu, ck_E1 (ck_S1 p2_s200_s ck_S0) (ck_E1 (ck_S1 p2_s202_s ck_S0) ck_E0)⟩ ck_X0 ck_l0 p2_s203_e
set_option maxRecDepth 100000 in
/-- GlacierMailModel.setsLetter -/
def p2_s204 : ck_Sum := ((0, 0, 0), 245, [.inr (.inr (.inl 226)), .inl (0, 23, []), .inl (ck_one 0), .inl (ck_one (-1))], ([], [], []), ([(227, 119, 119), (227, 126, 126), (227, 133, 133), (227, 140, 140), (227, 147, 147), (227, 154, 154), (227, 161, 161), (227, 168, 168), (227, 175, 175), (227, 182, 182), (227, 189, 189), (227, 196, 196), (227, 203, 203), (227, 210, 210), (227, 217, 217), (227, 224, 224), (227, 231, 231), (227, 238, 238), (227, 245, 245), (227, 252, 252), (227, 259, 259), (227, 266, 266), (227, 273, 273), (227, 280, 280)], []), [(.inr none, 245, ([], [], []))])
set_option maxRecDepth 100000 in
theorem p2_s204_e : ck_ok p2_O none [] [] 272 [] 94 p2_s204 = true := by decide +kernel
theorem p2_s204_s {X : Int → Int} {LX : Nat} : ck_Ok p2_O X LX 272 p2_s204 := ck_ok_s ⟨p2_nmu, ck_E0⟩ ck_X0 ck_l0 p2_s204_e
set_option maxRecDepth 100000 in
/-- GlacierMailModel.setsLetter -/
def p2_s205 : ck_Sum := ((0, 0, 0), 245, [.inr (.inr (.inl 226)), .inl (0, 23, []), .inl (ck_one 1), .inl (ck_one (-1))], ([], [], []), ([(227, 120, 120), (227, 127, 127), (227, 134, 134), (227, 141, 141), (227, 148, 148), (227, 155, 155), (227, 162, 162), (227, 169, 169), (227, 176, 176), (227, 183, 183), (227, 190, 190), (227, 197, 197), (227, 204, 204), (227, 211, 211), (227, 218, 218), (227, 225, 225), (227, 232, 232), (227, 239, 239), (227, 246, 246), (227, 253, 253), (227, 260, 260), (227, 267, 267), (227, 274, 274), (227, 281, 281)], []), [(.inr none, 245, ([], [], []))])
set_option maxRecDepth 100000 in
theorem p2_s205_e : ck_ok p2_O none [] [] 272 [] 94 p2_s205 = true := by decide +kernel
theorem p2_s205_s {X : Int → Int} {LX : Nat} : ck_Ok p2_O X LX 272 p2_s205 := ck_ok_s ⟨p2_nmu, ck_E0⟩ ck_X0 ck_l0 p2_s205_e
set_option maxRecDepth 100000 in
/-- GlacierMailModel.setsLetter -/
def p2_s206 : ck_Sum := ((0, 0, 0), 245, [.inr (.inr (.inl 226)), .inl (0, 23, []), .inl (ck_one 2), .inl (0, 5, [])], ([], [], []), ([(227, 121, 121), (227, 128, 128), (227, 135, 135), (227, 142, 142), (227, 149, 149), (227, 156, 156), (227, 163, 163), (227, 170, 170), (227, 177, 177), (227, 184, 184), (227, 191, 191), (227, 198, 198), (227, 205, 205), (227, 212, 212), (227, 219, 219), (227, 226, 226), (227, 233, 233), (227, 240, 240), (227, 247, 247), (227, 254, 254), (227, 261, 261), (227, 268, 268), (227, 275, 275), (227, 282, 282)], []), [(.inr none, 245, ([], [], []))])
set_option maxRecDepth 100000 in
theorem p2_s206_e : ck_ok p2_O none [] [] 272 [] 94 p2_s206 = true := by decide +kernel
theorem p2_s206_s {X : Int → Int} {LX : Nat} : ck_Ok p2_O X LX 272 p2_s206 := ck_ok_s ⟨p2_nmu, ck_E0⟩ ck_X0 ck_l0 p2_s206_e
set_option maxRecDepth 100000 in
/-- GlacierMailModel.setsLetter -/
def p2_s208 : ck_Sum := ((0, 0, 0), 245, [.inr (.inr (.inl 226)), .inl (0, 23, []), .inl (ck_one 3), .inl (0, 299, [])], ([], [], []), ([(227, 122, 122), (227, 129, 129), (227, 136, 136), (227, 143, 143), (227, 150, 150), (227, 157, 157), (227, 164, 164), (227, 171, 171), (227, 178, 178), (227, 185, 185), (227, 192, 192), (227, 199, 199), (227, 206, 206), (227, 213, 213), (227, 220, 220), (227, 227, 227), (227, 234, 234), (227, 241, 241), (227, 248, 248), (227, 255, 255), (227, 262, 262), (227, 269, 269), (227, 276, 276), (227, 283, 283)], []), [(.inr none, 245, ([], [], []))])
set_option maxRecDepth 100000 in
theorem p2_s208_e : ck_ok p2_O none [] [] 272 [] 94 p2_s208 = true := by decide +kernel
theorem p2_s208_s {X : Int → Int} {LX : Nat} : ck_Ok p2_O X LX 272 p2_s208 := ck_ok_s ⟨p2_nmu, ck_E0⟩ ck_X0 ck_l0 p2_s208_e
set_option maxRecDepth 100000 in
/-- GlacierMailModel.setsLetter -/
def p2_s209 : ck_Sum := ((0, 0, 0), 245, [.inr (.inr (.inl 226)), .inl (0, 23, []), .inl (ck_one 4), .inl (0, 98, [])], ([], [], []), ([(227, 123, 123), (227, 130, 130), (227, 137, 137), (227, 144, 144), (227, 151, 151), (227, 158, 158), (227, 165, 165), (227, 172, 172), (227, 179, 179), (227, 186, 186), (227, 193, 193), (227, 200, 200), (227, 207, 207), (227, 214, 214), (227, 221, 221), (227, 228, 228), (227, 235, 235), (227, 242, 242), (227, 249, 249), (227, 256, 256), (227, 263, 263), (227, 270, 270), (227, 277, 277), (227, 284, 284)], []), [(.inr none, 245, ([], [], []))])
set_option maxRecDepth 100000 in
theorem p2_s209_e : ck_ok p2_O none [] [] 272 [] 94 p2_s209 = true := by decide +kernel
theorem p2_s209_s {X : Int → Int} {LX : Nat} : ck_Ok p2_O X LX 272 p2_s209 := ck_ok_s ⟨p2_nmu, ck_E0⟩ ck_X0 ck_l0 p2_s209_e
set_option maxRecDepth 100000 in
/-- GlacierMailModel.setsLetter -/
def p2_s210 : ck_Sum := ((0, 0, 0), 245, [.inr (.inr (.inl 226)), .inl (0, 23, []), .inl (ck_one 5), .inl (ck_one (-1))], ([], [], []), ([(227, 124, 124), (227, 131, 131), (227, 138, 138), (227, 145, 145), (227, 152, 152), (227, 159, 159), (227, 166, 166), (227, 173, 173), (227, 180, 180), (227, 187, 187), (227, 194, 194), (227, 201, 201), (227, 208, 208), (227, 215, 215), (227, 222, 222), (227, 229, 229), (227, 236, 236), (227, 243, 243), (227, 250, 250), (227, 257, 257), (227, 264, 264), (227, 271, 271), (227, 278, 278), (227, 285, 285)], []), [(.inr none, 245, ([], [], []))])
set_option maxRecDepth 100000 in
theorem p2_s210_e : ck_ok p2_O none [] [] 272 [] 94 p2_s210 = true := by decide +kernel
theorem p2_s210_s {X : Int → Int} {LX : Nat} : ck_Ok p2_O X LX 272 p2_s210 := ck_ok_s ⟨p2_nmu, ck_E0⟩ ck_X0 ck_l0 p2_s210_e
set_option maxRecDepth 100000 in
/-- GlacierMailModel.setsLetter -/
def p2_s211 : ck_Sum := ((0, 0, 0), 245, [.inr (.inr (.inl 226)), .inl (0, 23, []), .inl (ck_one 6), .inl (ck_one (-1))], ([], [], []), ([(227, 125, 125), (227, 132, 132), (227, 139, 139), (227, 146, 146), (227, 153, 153), (227, 160, 160), (227, 167, 167), (227, 174, 174), (227, 181, 181), (227, 188, 188), (227, 195, 195), (227, 202, 202), (227, 209, 209), (227, 216, 216), (227, 223, 223), (227, 230, 230), (227, 237, 237), (227, 244, 244), (227, 251, 251), (227, 258, 258), (227, 265, 265), (227, 272, 272), (227, 279, 279), (227, 286, 286)], []), [(.inr none, 245, ([], [], []))])
set_option maxRecDepth 100000 in
theorem p2_s211_e : ck_ok p2_O none [] [] 272 [] 94 p2_s211 = true := by decide +kernel
theorem p2_s211_s {X : Int → Int} {LX : Nat} : ck_Ok p2_O X LX 272 p2_s211 := ck_ok_s ⟨p2_nmu, ck_E0⟩ ck_X0 ck_l0 p2_s211_e
set_option maxRecDepth 100000 in
/-- GlacierMailModel.now -/
def p2_s207 : ck_Sum := ((0, 0, 0), 245, [.inr (.inr (.inl 226))], ([], [], [(227, 9, 9, (0, 299, [(11, 0)]))]), ([], []), [(.inr (some (.inl (0, 299, [(11, 0)]))), 245, ([], [], []))])
set_option maxRecDepth 100000 in
theorem p2_s207_e : ck_ok p2_O none [] [] 266 [] 80 p2_s207 = true := by decide +kernel
theorem p2_s207_s {X : Int → Int} {LX : Nat} : ck_Ok p2_O X LX 266 p2_s207 := ck_ok_s ⟨p2_nmu, ck_E0⟩ ck_X0 ck_l0 p2_s207_e
set_option maxRecDepth 100000 in
/-- GlacierMailModel.throwsIn -/
def p2_s212 : ck_Sum := ((1, 0, 0), 245, [.inr (.inr (.inl 226)), .inl (ck_one (-1)), .inl (ck_one (-1)), .inl (0, 5, []), .inl (0, 98, [])], ([], [], [(227, 4, 4, (0, 23, [(22, 0)])), (227, 9, 9, (0, 299, [(11, 0)]))]), ([(227, 4, 4), (227, 119, 286)], []), [(.inr none, 245, ([], [], [(227, 4, 4, (1, 24, [(22, 1)]))]))])
set_option maxRecDepth 100000 in
theorem p2_s212_e : ck_ok p2_O none [] [(254, [p2_s196]), (272, [p2_s204, p2_s205, p2_s206, p2_s208, p2_s209, p2_s210, p2_s211]), (266, [p2_s207])] 271 [] 166 p2_s212 = true := by decide +kernel
theorem p2_s212_s {X : Int → Int} {LX : Nat} : ck_Ok p2_O X LX 271 p2_s212 := ck_ok_s ⟨p2_nmu, ck_E1 (ck_S1 p2_s196_s ck_S0) (ck_E1 (ck_S1 p2_s204_s (ck_S1 p2_s205_s (ck_S1 p2_s206_s (ck_S1 p2_s208_s (ck_S1 p2_s209_s (ck_S1 p2_s210_s (ck_S1 p2_s211_s ck_S0))))))) (ck_E1 (ck_S1 p2_s207_s ck_S0) ck_E0))⟩ ck_X0 ck_l0 p2_s212_e
set_option maxRecDepth 100000 in
/-- GlacierMailModel.readRock -/
def p2_s213 : ck_Sum := ((5, 0, 0), 245, [.inr (.inr (.inl 226))], ([], [], [(227, 4, 4, (0, 24, [(22, 0)])), (226, 9, 9, (0, 400, [(1, 0)])), (227, 9, 9, (0, 299, [(11, 0)]))]), ([(226, 9, 9), (226, 11, 11), (227, 4, 4), (227, 119, 286)], []), [(.inr (some (.inl (ck_one 0))), 245, ([], [], [(226, 9, 9, (0, 400, [(1000001, 0)])), (227, 4, 4, (0, 24, [(22, 0)]))])), (.inr (some (.inl (ck_one 1))), 245, ([], [], [(227, 4, 4, (1, 24, [(22, 1)])), (226, 9, 9, (0, 400, [(1000001, 0)])), (226, 11, 11, (0, 400, [(1000001, 0)]))]))])
set_option maxRecDepth 100000 in
theorem p2_s213_e : ck_ok p2_O none [] [(254, [p2_s196]), (268, [p2_s199]), (263, [p2_s203]), (271, [p2_s212])] 270 [] 120 p2_s213 = true := by decide +kernel
theorem p2_s213_s {X : Int → Int} {LX : Nat} : ck_Ok p2_O X LX 270 p2_s213 := ck_ok_s ⟨p2_nmu, ck_E1 (ck_S1 p2_s196_s ck_S0) (ck_E1 (ck_S1 p2_s199_s ck_S0) (ck_E1 (ck_S1 p2_s203_s ck_S0) (ck_E1 (ck_S1 p2_s212_s ck_S0) ck_E0)))⟩ ck_X0 ck_l0 p2_s213_e
set_option maxRecDepth 100000 in
/-- GlacierMailModel.people -/
def p2_s214 : ck_Sum := ((0, 0, 0), 245, [.inr (.inr (.inl 226))], ([], [], [(227, 3, 3, (0, 8, [(21, 0)]))]), ([], []), [(.inr (some (.inl (0, 8, [(21, 0)]))), 245, ([], [], []))])
set_option maxRecDepth 100000 in
theorem p2_s214_e : ck_ok p2_O none [] [] 253 [] 80 p2_s214 = true := by decide +kernel
theorem p2_s214_s {X : Int → Int} {LX : Nat} : ck_Ok p2_O X LX 253 p2_s214 := ck_ok_s ⟨p2_nmu, ck_E0⟩ ck_X0 ck_l0 p2_s214_e
set_option maxRecDepth 100000 in
/-- GlacierMailModel.figures -/
def p2_s218 : ck_Sum := ((2, 0, 0), 245, [.inr (.inr (.inl 226)), .inl (0, 299, []), .inl (ck_one 299), .inl (ck_one 4)], ([], [], [(226, 9, 9, (0, 400, [(1, 0)]))]), ([(226, 9, 9), (226, 11, 11)], []), [(.inr (some (.inl (ck_one (-1)))), 245, ([], [], [(226, 9, 9, (0, 400, [(1000001, 0)])), (226, 11, 11, (0, 400, [(1000001, 0)]))])), (.inr (some (.inl (0, 299, []))), 245, ([], [], [(226, 9, 9, (0, 400, [(1000001, 0)])), (226, 11, 11, (0, 400, [(1000001, 0)]))]))])
set_option maxRecDepth 100000 in
theorem p2_s218_e : ck_ok p2_O none [] [(245, [p2_s168]), (246, [p2_s181])] 256 [(7, [some (.inr (.inr (.inl 226))), some (.inl (0, 299, [])), some (.inl (ck_one 299)), some (.inl (ck_one 4)), some (.inl ((-2147483648), 2147483647, []))], ([], [], [(226, 11, 11, (0, 400, [(1000001, 0)])), (226, 9, 9, (0, 400, [(1000001, 0)]))]), 100, .inr (226, 9), true)] 222 p2_s218 = true := by decide +kernel
theorem p2_s218_s {X : Int → Int} {LX : Nat} : ck_Ok p2_O X LX 256 p2_s218 := ck_ok_s ⟨p2_nmu, ck_E1 (ck_S1 p2_s168_s ck_S0) (ck_E1 (ck_S1 p2_s181_s ck_S0) ck_E0)⟩ ck_X0 ck_l0 p2_s218_e
set_option maxRecDepth 100000 in
/-- GlacierMailModel.number -/
def p2_s219 : ck_Sum := ((3, 0, 0), 245, [.inr (.inr (.inl 226)), .inl (0, 299, []), .inl (ck_one 299)], ([], [], [(226, 9, 9, (0, 400, [(1, 0)]))]), ([(226, 9, 9), (226, 11, 11)], []), [(.inr (some (.inl (ck_one (-1)))), 245, ([], [], [(226, 9, 9, (0, 400, [(1000001, 0)])), (226, 11, 11, (0, 400, [(1000001, 0)]))])), (.inr (some (.inl (0, 299, []))), 245, ([], [], [(226, 9, 9, (0, 400, [(1000001, 0)])), (226, 11, 11, (0, 400, [(1000001, 0)]))]))])
set_option maxRecDepth 100000 in
theorem p2_s219_e : ck_ok p2_O none [] [(256, [p2_s218])] 255 [] 82 p2_s219 = true := by decide +kernel
theorem p2_s219_s {X : Int → Int} {LX : Nat} : ck_Ok p2_O X LX 255 p2_s219 := ck_ok_s ⟨p2_nmu, ck_E1 (ck_S1 p2_s218_s ck_S0) ck_E0⟩ ck_X0 ck_l0 p2_s219_e
set_option maxRecDepth 100000 in
/-- GlacierMailModel.figures -/
def p2_s220 : ck_Sum := ((2, 0, 0), 245, [.inr (.inr (.inl 226)), .inl (ck_one 1), .inl (ck_one 20), .inl (ck_one 4)], ([], [], [(226, 9, 9, (0, 400, [(1, 0)]))]), ([(226, 9, 9), (226, 11, 11)], []), [(.inr (some (.inl (ck_one (-1)))), 245, ([], [], [(226, 9, 9, (0, 400, [(1000001, 0)])), (226, 11, 11, (0, 400, [(1000001, 0)]))])), (.inr (some (.inl (1, 20, []))), 245, ([], [], [(226, 9, 9, (0, 400, [(1000001, 0)])), (226, 11, 11, (0, 400, [(1000001, 0)]))]))])
set_option maxRecDepth 100000 in
theorem p2_s220_e : ck_ok p2_O none [] [(245, [p2_s168]), (246, [p2_s181])] 256 [(7, [some (.inr (.inr (.inl 226))), some (.inl (ck_one 1)), some (.inl (ck_one 20)), some (.inl (ck_one 4)), some (.inl ((-2147483648), 2147483647, []))], ([], [], [(226, 11, 11, (0, 400, [(1000001, 0)])), (226, 9, 9, (0, 400, [(1000001, 0)]))]), 100, .inr (226, 9), true)] 222 p2_s220 = true := by decide +kernel
theorem p2_s220_s {X : Int → Int} {LX : Nat} : ck_Ok p2_O X LX 256 p2_s220 := ck_ok_s ⟨p2_nmu, ck_E1 (ck_S1 p2_s168_s ck_S0) (ck_E1 (ck_S1 p2_s181_s ck_S0) ck_E0)⟩ ck_X0 ck_l0 p2_s220_e
set_option maxRecDepth 100000 in
/-- GlacierMailModel.number -/
def p2_s221 : ck_Sum := ((3, 0, 0), 245, [.inr (.inr (.inl 226)), .inl (ck_one 1), .inl (ck_one 20)], ([], [], [(226, 9, 9, (0, 400, [(1, 0)]))]), ([(226, 9, 9), (226, 11, 11)], []), [(.inr (some (.inl (ck_one (-1)))), 245, ([], [], [(226, 9, 9, (0, 400, [(1000001, 0)])), (226, 11, 11, (0, 400, [(1000001, 0)]))])), (.inr (some (.inl (1, 20, []))), 245, ([], [], [(226, 9, 9, (0, 400, [(1000001, 0)])), (226, 11, 11, (0, 400, [(1000001, 0)]))]))])
set_option maxRecDepth 100000 in
theorem p2_s221_e : ck_ok p2_O none [] [(256, [p2_s220])] 255 [] 82 p2_s221 = true := by decide +kernel
theorem p2_s221_s {X : Int → Int} {LX : Nat} : ck_Ok p2_O X LX 255 p2_s221 := ck_ok_s ⟨p2_nmu, ck_E1 (ck_S1 p2_s220_s ck_S0) ck_E0⟩ ck_X0 ck_l0 p2_s221_e
set_option maxRecDepth 100000 in
/-- GlacierMailModel.readFlood -/
def p2_s222 : ck_Sum := ((5, 0, 0), 245, [.inr (.inr (.inl 226))], ([], [], [(227, 5, 5, (0, 8, [(23, 0)])), (226, 9, 9, (0, 400, [(1, 0)])), (227, 9, 9, (0, 299, [(11, 0)]))]), ([(226, 9, 9), (226, 11, 11), (227, 5, 5), (227, 71, 94)], []), [(.inr (some (.inl (ck_one 0))), 245, ([], [], [(226, 9, 9, (0, 400, [(1000001, 0)])), (227, 5, 5, (0, 8, [(23, 0)]))])), (.inr (some (.inl (ck_one 1))), 245, ([], [], [(227, 5, 5, (1, 8, [])), (226, 9, 9, (0, 400, [(1000001, 0)])), (226, 11, 11, (0, 400, [(1000001, 0)]))]))])
set_option maxRecDepth 100000 in
theorem p2_s222_e : ck_ok p2_O none [] [(266, [p2_s207]), (255, [p2_s219, p2_s221]), (263, [p2_s203])] 265 [] 198 p2_s222 = true := by decide +kernel
theorem p2_s222_s {X : Int → Int} {LX : Nat} : ck_Ok p2_O X LX 265 p2_s222 := ck_ok_s ⟨p2_nmu, ck_E1 (ck_S1 p2_s207_s ck_S0) (ck_E1 (ck_S1 p2_s219_s (ck_S1 p2_s221_s ck_S0)) (ck_E1 (ck_S1 p2_s203_s ck_S0) ck_E0))⟩ ck_X0 ck_l0 p2_s222_e
set_option maxRecDepth 100000 in
/-- GlacierMailModel.figures -/
def p2_s224 : ck_Sum := ((2, 0, 0), 245, [.inr (.inr (.inl 226)), .inl (ck_one 0), .inl (ck_one 9), .inl (ck_one 4)], ([], [], [(226, 9, 9, (0, 400, [(1, 0)]))]), ([(226, 9, 9), (226, 11, 11)], []), [(.inr (some (.inl (ck_one (-1)))), 245, ([], [], [(226, 9, 9, (0, 400, [(1000001, 0)])), (226, 11, 11, (0, 400, [(1000001, 0)]))])), (.inr (some (.inl (0, 9, []))), 245, ([], [], [(226, 9, 9, (0, 400, [(1000001, 0)])), (226, 11, 11, (0, 400, [(1000001, 0)]))]))])
set_option maxRecDepth 100000 in
theorem p2_s224_e : ck_ok p2_O none [] [(245, [p2_s168]), (246, [p2_s181])] 256 [(7, [some (.inr (.inr (.inl 226))), some (.inl (ck_one 0)), some (.inl (ck_one 9)), some (.inl (ck_one 4)), some (.inl ((-2147483648), 2147483647, []))], ([], [], [(226, 11, 11, (0, 400, [(1000001, 0)])), (226, 9, 9, (0, 400, [(1000001, 0)]))]), 100, .inr (226, 9), true)] 222 p2_s224 = true := by decide +kernel
theorem p2_s224_s {X : Int → Int} {LX : Nat} : ck_Ok p2_O X LX 256 p2_s224 := ck_ok_s ⟨p2_nmu, ck_E1 (ck_S1 p2_s168_s ck_S0) (ck_E1 (ck_S1 p2_s181_s ck_S0) ck_E0)⟩ ck_X0 ck_l0 p2_s224_e
set_option maxRecDepth 100000 in
/-- GlacierMailModel.number -/
def p2_s225 : ck_Sum := ((3, 0, 0), 245, [.inr (.inr (.inl 226)), .inl (ck_one 0), .inl (ck_one 9)], ([], [], [(226, 9, 9, (0, 400, [(1, 0)]))]), ([(226, 9, 9), (226, 11, 11)], []), [(.inr (some (.inl (ck_one (-1)))), 245, ([], [], [(226, 9, 9, (0, 400, [(1000001, 0)])), (226, 11, 11, (0, 400, [(1000001, 0)]))])), (.inr (some (.inl (0, 9, []))), 245, ([], [], [(226, 9, 9, (0, 400, [(1000001, 0)])), (226, 11, 11, (0, 400, [(1000001, 0)]))]))])
set_option maxRecDepth 100000 in
theorem p2_s225_e : ck_ok p2_O none [] [(256, [p2_s224])] 255 [] 82 p2_s225 = true := by decide +kernel
theorem p2_s225_s {X : Int → Int} {LX : Nat} : ck_Ok p2_O X LX 255 p2_s225 := ck_ok_s ⟨p2_nmu, ck_E1 (ck_S1 p2_s224_s ck_S0) ck_E0⟩ ck_X0 ck_l0 p2_s225_e
set_option maxRecDepth 100000 in
/-- GlacierMailModel.figures -/
def p2_s228 : ck_Sum := ((2, 0, 0), 245, [.inr (.inr (.inl 226)), .inl (ck_one 0), .inl (ck_one 0), .inl (ck_one 4)], ([], [], [(226, 9, 9, (0, 400, [(1, 0)]))]), ([(226, 9, 9), (226, 11, 11)], []), [(.inr (some (.inl (ck_one (-1)))), 245, ([], [], [(226, 9, 9, (0, 400, [(1000001, 0)])), (226, 11, 11, (0, 400, [(1000001, 0)]))])), (.inr (some (.inl (ck_one 0))), 245, ([], [], [(226, 9, 9, (0, 400, [(1000001, 0)])), (226, 11, 11, (0, 400, [(1000001, 0)]))]))])
set_option maxRecDepth 100000 in
theorem p2_s228_e : ck_ok p2_O none [] [(245, [p2_s168]), (246, [p2_s181])] 256 [(7, [some (.inr (.inr (.inl 226))), some (.inl (ck_one 0)), some (.inl (ck_one 0)), some (.inl (ck_one 4)), some (.inl ((-2147483648), 2147483647, []))], ([], [], [(226, 11, 11, (0, 400, [(1000001, 0)])), (226, 9, 9, (0, 400, [(1000001, 0)]))]), 100, .inr (226, 9), true)] 222 p2_s228 = true := by decide +kernel
theorem p2_s228_s {X : Int → Int} {LX : Nat} : ck_Ok p2_O X LX 256 p2_s228 := ck_ok_s ⟨p2_nmu, ck_E1 (ck_S1 p2_s168_s ck_S0) (ck_E1 (ck_S1 p2_s181_s ck_S0) ck_E0)⟩ ck_X0 ck_l0 p2_s228_e
set_option maxRecDepth 100000 in
/-- GlacierMailModel.number -/
def p2_s229 : ck_Sum := ((3, 0, 0), 245, [.inr (.inr (.inl 226)), .inl (ck_one 0), .inl (ck_one 0)], ([], [], [(226, 9, 9, (0, 400, [(1, 0)]))]), ([(226, 9, 9), (226, 11, 11)], []), [(.inr (some (.inl (ck_one (-1)))), 245, ([], [], [(226, 9, 9, (0, 400, [(1000001, 0)])), (226, 11, 11, (0, 400, [(1000001, 0)]))])), (.inr (some (.inl (ck_one 0))), 245, ([], [], [(226, 9, 9, (0, 400, [(1000001, 0)])), (226, 11, 11, (0, 400, [(1000001, 0)]))]))])
set_option maxRecDepth 100000 in
theorem p2_s229_e : ck_ok p2_O none [] [(256, [p2_s228])] 255 [] 82 p2_s229 = true := by decide +kernel
theorem p2_s229_s {X : Int → Int} {LX : Nat} : ck_Ok p2_O X LX 255 p2_s229 := ck_ok_s ⟨p2_nmu, ck_E1 (ck_S1 p2_s228_s ck_S0) ck_E0⟩ ck_X0 ck_l0 p2_s229_e
set_option maxRecDepth 100000 in
/-- GlacierMailModel.figures -/
def p2_s231 : ck_Sum := ((2, 0, 0), 245, [.inr (.inr (.inl 226)), .inl (1, 99, []), .inl (9, 98, []), .inl (ck_one 4)], ([], [], [(226, 9, 9, (0, 400, [(1, 0)]))]), ([(226, 9, 9), (226, 11, 11)], []), [(.inr (some (.inl (ck_one (-1)))), 245, ([], [], [(226, 9, 9, (0, 400, [(1000001, 0)])), (226, 11, 11, (0, 400, [(1000001, 0)]))])), (.inr (some (.inl (1, 98, []))), 245, ([], [], [(226, 9, 9, (0, 400, [(1000001, 0)])), (226, 11, 11, (0, 400, [(1000001, 0)]))]))])
set_option maxRecDepth 100000 in
theorem p2_s231_e : ck_ok p2_O none [] [(245, [p2_s168]), (246, [p2_s181])] 256 [(7, [some (.inr (.inr (.inl 226))), some (.inl (1, 99, [])), some (.inl (9, 98, [])), some (.inl (ck_one 4)), some (.inl ((-2147483648), 2147483647, []))], ([], [], [(226, 11, 11, (0, 400, [(1000001, 0)])), (226, 9, 9, (0, 400, [(1000001, 0)]))]), 100, .inr (226, 9), true)] 222 p2_s231 = true := by decide +kernel
theorem p2_s231_s {X : Int → Int} {LX : Nat} : ck_Ok p2_O X LX 256 p2_s231 := ck_ok_s ⟨p2_nmu, ck_E1 (ck_S1 p2_s168_s ck_S0) (ck_E1 (ck_S1 p2_s181_s ck_S0) ck_E0)⟩ ck_X0 ck_l0 p2_s231_e
set_option maxRecDepth 100000 in
/-- GlacierMailModel.number -/
def p2_s232 : ck_Sum := ((3, 0, 0), 245, [.inr (.inr (.inl 226)), .inl (1, 99, []), .inl (9, 98, [])], ([], [], [(226, 9, 9, (0, 400, [(1, 0)]))]), ([(226, 9, 9), (226, 11, 11)], []), [(.inr (some (.inl (ck_one (-1)))), 245, ([], [], [(226, 9, 9, (0, 400, [(1000001, 0)])), (226, 11, 11, (0, 400, [(1000001, 0)]))])), (.inr (some (.inl (1, 98, []))), 245, ([], [], [(226, 9, 9, (0, 400, [(1000001, 0)])), (226, 11, 11, (0, 400, [(1000001, 0)]))]))])
set_option maxRecDepth 100000 in
theorem p2_s232_e : ck_ok p2_O none [] [(256, [p2_s231])] 255 [] 82 p2_s232 = true := by decide +kernel
theorem p2_s232_s {X : Int → Int} {LX : Nat} : ck_Ok p2_O X LX 255 p2_s232 := ck_ok_s ⟨p2_nmu, ck_E1 (ck_S1 p2_s231_s ck_S0) ck_E0⟩ ck_X0 ck_l0 p2_s232_e
set_option maxRecDepth 100000 in
/-- GlacierMailModel.figures -/
def p2_s239 : ck_Sum := ((2, 0, 0), 245, [.inr (.inr (.inl 226)), .inl (ck_one 1), .inl (9, 98, []), .inl (ck_one 4)], ([], [], [(226, 9, 9, (0, 400, [(1, 0)]))]), ([(226, 9, 9), (226, 11, 11)], []), [(.inr (some (.inl (ck_one (-1)))), 245, ([], [], [(226, 9, 9, (0, 400, [(1000001, 0)])), (226, 11, 11, (0, 400, [(1000001, 0)]))])), (.inr (some (.inl (1, 98, []))), 245, ([], [], [(226, 9, 9, (0, 400, [(1000001, 0)])), (226, 11, 11, (0, 400, [(1000001, 0)]))]))])
set_option maxRecDepth 100000 in
theorem p2_s239_e : ck_ok p2_O none [] [(245, [p2_s168]), (246, [p2_s181])] 256 [(7, [some (.inr (.inr (.inl 226))), some (.inl (ck_one 1)), some (.inl (9, 98, [])), some (.inl (ck_one 4)), some (.inl ((-2147483648), 2147483647, []))], ([], [], [(226, 11, 11, (0, 400, [(1000001, 0)])), (226, 9, 9, (0, 400, [(1000001, 0)]))]), 100, .inr (226, 9), true)] 222 p2_s239 = true := by decide +kernel
theorem p2_s239_s {X : Int → Int} {LX : Nat} : ck_Ok p2_O X LX 256 p2_s239 := ck_ok_s ⟨p2_nmu, ck_E1 (ck_S1 p2_s168_s ck_S0) (ck_E1 (ck_S1 p2_s181_s ck_S0) ck_E0)⟩ ck_X0 ck_l0 p2_s239_e
set_option maxRecDepth 100000 in
/-- GlacierMailModel.number -/
def p2_s240 : ck_Sum := ((3, 0, 0), 245, [.inr (.inr (.inl 226)), .inl (ck_one 1), .inl (9, 98, [])], ([], [], [(226, 9, 9, (0, 400, [(1, 0)]))]), ([(226, 9, 9), (226, 11, 11)], []), [(.inr (some (.inl (ck_one (-1)))), 245, ([], [], [(226, 9, 9, (0, 400, [(1000001, 0)])), (226, 11, 11, (0, 400, [(1000001, 0)]))])), (.inr (some (.inl (1, 98, []))), 245, ([], [], [(226, 9, 9, (0, 400, [(1000001, 0)])), (226, 11, 11, (0, 400, [(1000001, 0)]))]))])
set_option maxRecDepth 100000 in
theorem p2_s240_e : ck_ok p2_O none [] [(256, [p2_s239])] 255 [] 82 p2_s240 = true := by decide +kernel
theorem p2_s240_s {X : Int → Int} {LX : Nat} : ck_Ok p2_O X LX 255 p2_s240 := ck_ok_s ⟨p2_nmu, ck_E1 (ck_S1 p2_s239_s ck_S0) ck_E0⟩ ck_X0 ck_l0 p2_s240_e
set_option maxRecDepth 100000 in
/-- GlacierMailModel.readSpeeds -/
def p2_s230 : ck_Sum := ((4, 0, 0), 245, [.inr (.inr (.inl 226)), .inl (ck_one 16)], ([], [], [(226, 9, 9, (0, 400, [(1, 0)]))]), ([(226, 9, 9), (226, 11, 11), (227, 16, 21)], []), [(.inr (some (.inl (ck_one 1))), 245, ([], [], [(226, 9, 9, (0, 400, [(1000001, 0)]))])), (.inr (some (.inl (ck_one 0))), 245, ([], [], [(226, 9, 9, (0, 400, [(1000001, 0)])), (226, 11, 11, (0, 400, [(1000001, 0)]))]))])
set_option maxRecDepth 100000 in
theorem p2_s230_e : ck_ok p2_O none [] [(261, [p2_s184]), (255, [p2_s188])] 260 [(2, [some (.inr (.inr (.inl 226))), some (.inl (ck_one 16)), some (.inl (0, 6, [])), none], ([], [], [(226, 9, 9, (0, 400, [(1000001, 0)]))]), 100, .inl 2, true)] 174 p2_s230 = true := by decide +kernel
theorem p2_s230_s {X : Int → Int} {LX : Nat} : ck_Ok p2_O X LX 260 p2_s230 := ck_ok_s ⟨p2_nmu, ck_E1 (ck_S1 p2_s184_s ck_S0) (ck_E1 (ck_S1 p2_s188_s ck_S0) ck_E0)⟩ ck_X0 ck_l0 p2_s230_e
set_option maxRecDepth 100000 in
/-- GlacierMailModel.readSpeeds -/
def p2_s233 : ck_Sum := ((4, 0, 0), 245, [.inr (.inr (.inl 226)), .inl (ck_one 65)], ([], [], [(226, 9, 9, (0, 400, [(1, 0)]))]), ([(226, 9, 9), (226, 11, 11), (227, 65, 70)], []), [(.inr (some (.inl (ck_one 1))), 245, ([], [], [(226, 9, 9, (0, 400, [(1000001, 0)]))])), (.inr (some (.inl (ck_one 0))), 245, ([], [], [(226, 9, 9, (0, 400, [(1000001, 0)])), (226, 11, 11, (0, 400, [(1000001, 0)]))]))])
set_option maxRecDepth 100000 in
theorem p2_s233_e : ck_ok p2_O none [] [(261, [p2_s184]), (255, [p2_s188])] 260 [(2, [some (.inr (.inr (.inl 226))), some (.inl (ck_one 65)), some (.inl (0, 6, [])), none], ([], [], [(226, 9, 9, (0, 400, [(1000001, 0)]))]), 100, .inl 2, true)] 174 p2_s233 = true := by decide +kernel
theorem p2_s233_s {X : Int → Int} {LX : Nat} : ck_Ok p2_O X LX 260 p2_s233 := ck_ok_s ⟨p2_nmu, ck_E1 (ck_S1 p2_s184_s ck_S0) (ck_E1 (ck_S1 p2_s188_s ck_S0) ck_E0)⟩ ck_X0 ck_l0 p2_s233_e
