/-! EVERY CALL ENDS, whatever was done before (laid by wip/am/p2g.py). -/
set_option maxRecDepth 100000 in
/-- GlacierMail.back -/
def p2_s2179 : ck_Sum := ((4, 0, 0), 245, [.inr (.inr (.inl 1))], ([], [(3, 8, 0), (29, 8, 100029)], [(1, 6, 6, (0, 1, [(9, 0)]))]), ([(1, 15, 15), (3, 0, 7), (4, 3, 3), (5, 0, 55), (6, 3, 3), (7, 0, 23), (8, 3, 3), (9, 0, 23), (10, 3, 3), (11, 0, 167), (12, 3, 3), (13, 0, 35), (14, 3, 3), (15, 0, 71), (42, 2, 2), (200, 6, 6), (201, 0, 299), (202, 0, 593), (203, 0, 299)], [(3, 8)]), [(.inr (some (.inl (ck_one 1))), 245, ([], [(3, 8, 100029)], [(1, 15, 15, ck_one 0), (42, 2, 2, ck_one 0), (1, 6, 6, (1, 1, [(9, 0)]))])), (.inr (some (.inl (ck_one 0))), 245, ([], [(3, 8, 0)], [(1, 6, 6, (0, 0, [(9, 0)]))]))])
set_option maxRecDepth 100000 in
theorem p2_s2179_e : ck_ok p2_O none [] [(57, [p2_s2178]), (61, [p2_s164])] 60 [] 94 p2_s2179 = true := by decide +kernel
theorem p2_s2179_s {X : Int → Int} {LX : Nat} : ck_Ok p2_O X LX 60 p2_s2179 := ck_ok_s ⟨p2_nmu, ck_E1 (ck_S1 p2_s2178_s ck_S0) (ck_E1 (ck_S1 p2_s164_s ck_S0) ck_E0)⟩ ck_X0 ck_l0 p2_s2179_e
set_option maxRecDepth 100000 in
/-- GlacierMail.count -/
def p2_s2181 : ck_Sum := ((0, 0, 0), 245, [.inr (.inr (.inl 1)), .inl ((-2147483648), (-1), [])], ([], [], []), ([], []), [(.inr (some (.inl (ck_one (-1)))), 245, ([], [], []))])
set_option maxRecDepth 100000 in
theorem p2_s2181_e : ck_ok p2_O none [] [] 63 [] 78 p2_s2181 = true := by decide +kernel
theorem p2_s2181_s {X : Int → Int} {LX : Nat} : ck_Ok p2_O X LX 63 p2_s2181 := ck_ok_s ⟨p2_nmu, ck_E0⟩ ck_X0 ck_l0 p2_s2181_e
set_option maxRecDepth 100000 in
/-- GlacierMail$History.size -/
def p2_s2182 : ck_Sum := ((0, 0, 0), 245, [.inr (.inr (.inl 42))], ([], [], []), ([], []), [(.inr (some (.inl (0, 12, []))), 245, ([], [], []))])
set_option maxRecDepth 100000 in
theorem p2_s2182_e : ck_ok p2_O none [] [] 69 [] 76 p2_s2182 = true := by decide +kernel
theorem p2_s2182_s {X : Int → Int} {LX : Nat} : ck_Ok p2_O X LX 69 p2_s2182 := ck_ok_s ⟨p2_nmu, ck_E0⟩ ck_X0 ck_l0 p2_s2182_e
set_option maxRecDepth 100000 in
/-- GlacierMail.inIceNow -/
def p2_s2183 : ck_Sum := ((5, 0, 0), 245, [.inr (.inr (.inl 1))], ([], [(3, 8, 0)], [(3, 6, 6, (0, 299, [(10, 0)]))]), ([(1, 15, 15), (206, 2, 8), (220, 3, 3), (221, 0, 47)], []), [(.inr (some (.inl ((-2147483648), 2147483647, []))), 245, ([], [], [(1, 15, 15, ck_one 1)]))])
set_option maxRecDepth 100000 in
theorem p2_s2183_e : ck_ok p2_O none [] [(24, [p2_s405]), (9, [p2_s359]), (10, [p2_s407]), (67, [p2_s408])] 68 [(8, [some (.inr (.inr (.inl 1))), some (.inl ((-2147483648), 2147483647, [])), some (.inl (0, 24, []))], ([], [(3, 8, 0)], [(1, 15, 15, ck_one 1), (3, 6, 6, (0, 299, [(10, 0)]))]), 100, .inl 2, true)] 174 p2_s2183 = true := by decide +kernel
theorem p2_s2183_s {X : Int → Int} {LX : Nat} : ck_Ok p2_O X LX 68 p2_s2183 := ck_ok_s ⟨p2_nmu, ck_E1 (ck_S1 p2_s405_s ck_S0) (ck_E1 (ck_S1 p2_s359_s ck_S0) (ck_E1 (ck_S1 p2_s407_s ck_S0) (ck_E1 (ck_S1 p2_s408_s ck_S0) ck_E0)))⟩ ck_X0 ck_l0 p2_s2183_e
set_option maxRecDepth 100000 in
/-- GlacierMail.waiting -/
def p2_s2184 : ck_Sum := ((5, 0, 0), 245, [.inr (.inr (.inl 1)), .inl (ck_one (-1))], ([], [(3, 8, 0)], [(3, 6, 6, (0, 299, [(10, 0)]))]), ([(1, 15, 15), (206, 2, 8), (220, 3, 3), (221, 0, 47)], []), [(.inr (some (.inl ((-2147483648), 2147483647, []))), 245, ([], [], [(1, 15, 15, ck_one 1)]))])
set_option maxRecDepth 100000 in
theorem p2_s2184_e : ck_ok p2_O none [] [(24, [p2_s405]), (9, [p2_s359]), (66, [p2_s434])] 65 [(8, [some (.inr (.inr (.inl 1))), some (.inl (ck_one (-1))), some (.inl ((-2147483648), 2147483647, [])), some (.inl (0, 24, [])), none], ([], [(3, 8, 0)], [(1, 15, 15, ck_one 1), (3, 6, 6, (0, 299, [(10, 0)]))]), 100, .inl 3, true)] 178 p2_s2184 = true := by decide +kernel
theorem p2_s2184_s {X : Int → Int} {LX : Nat} : ck_Ok p2_O X LX 65 p2_s2184 := ck_ok_s ⟨p2_nmu, ck_E1 (ck_S1 p2_s405_s ck_S0) (ck_E1 (ck_S1 p2_s359_s ck_S0) (ck_E1 (ck_S1 p2_s434_s ck_S0) ck_E0))⟩ ck_X0 ck_l0 p2_s2184_e
set_option maxRecDepth 100000 in
/-- GlacierMail$Rows.size -/
def p2_s2185 : ck_Sum := ((0, 0, 0), 245, [.inr (.inr (.inl 14))], ([], [], []), ([], []), [(.inr (some (.inl (0, 24, []))), 245, ([], [], []))])
set_option maxRecDepth 100000 in
theorem p2_s2185_e : ck_ok p2_O none [] [] 9 [] 76 p2_s2185 = true := by decide +kernel
theorem p2_s2185_s {X : Int → Int} {LX : Nat} : ck_Ok p2_O X LX 9 p2_s2185 := ck_ok_s ⟨p2_nmu, ck_E0⟩ ck_X0 ck_l0 p2_s2185_e
set_option maxRecDepth 100000 in
/-- GlacierMail.count -/
def p2_s2186 : ck_Sum := ((6, 0, 0), 245, [.inr (.inr (.inl 1)), .inl (10, 2147483647, [])], ([], [(3, 8, 0)], [(3, 6, 6, (0, 299, [(10, 0)]))]), ([(1, 15, 15), (206, 2, 8), (220, 3, 3), (221, 0, 47)], []), [(.inr (some (.inl ((-2147483648), 2147483647, []))), 245, ([], [], [])), (.inr (some (.inl (0, 9999, []))), 245, ([], [], []))])
set_option maxRecDepth 100000 in
theorem p2_s2186_e : ck_ok p2_O none [] [(69, [p2_s2182]), (68, [p2_s2183]), (65, [p2_s2184]), (9, [p2_s2185])] 63 [] 84 p2_s2186 = true := by decide +kernel
theorem p2_s2186_s {X : Int → Int} {LX : Nat} : ck_Ok p2_O X LX 63 p2_s2186 := ck_ok_s ⟨p2_nmu, ck_E1 (ck_S1 p2_s2182_s ck_S0) (ck_E1 (ck_S1 p2_s2183_s ck_S0) (ck_E1 (ck_S1 p2_s2184_s ck_S0) (ck_E1 (ck_S1 p2_s2185_s ck_S0) ck_E0)))⟩ ck_X0 ck_l0 p2_s2186_e
set_option maxRecDepth 100000 in
/-- GlacierMail.lawLines -/
def p2_s2187 : ck_Sum := ((0, 0, 0), 245, [.inr (.inr (.inl 1))], ([], [(3, 8, 0)], []), ([], []), [(.inr (some (.inl (ck_one (-1)))), 245, ([], [], []))])
set_option maxRecDepth 100000 in
theorem p2_s2187_e : ck_ok p2_O none [] [] 64 [] 84 p2_s2187 = true := by decide +kernel
theorem p2_s2187_s {X : Int → Int} {LX : Nat} : ck_Ok p2_O X LX 64 p2_s2187 := ck_ok_s ⟨p2_nmu, ck_E0⟩ ck_X0 ck_l0 p2_s2187_e
set_option maxRecDepth 100000 in
/-- GlacierMail.count -/
def p2_s2188 : ck_Sum := ((1, 0, 0), 245, [.inr (.inr (.inl 1)), .inl (0, 9, [])], ([], [(3, 8, 0)], [(3, 6, 6, (0, 299, [(10, 0)]))]), ([], []), [(.inr (some (.inl (0, 2147483647, []))), 245, ([], [], [])), (.inr (some (.inl ((-2147483648), (-1), []))), 245, ([], [], []))])
set_option maxRecDepth 100000 in
theorem p2_s2188_e : ck_ok p2_O none [] [(64, [p2_s2187]), (9, [p2_s1744, p2_s159, p2_s359, p2_s348, p2_s155])] 63 [] 84 p2_s2188 = true := by decide +kernel
theorem p2_s2188_s {X : Int → Int} {LX : Nat} : ck_Ok p2_O X LX 63 p2_s2188 := ck_ok_s ⟨p2_nmu, ck_E1 (ck_S1 p2_s2187_s ck_S0) (ck_E1 (ck_S1 p2_s1744_s (ck_S1 p2_s159_s (ck_S1 p2_s359_s (ck_S1 p2_s348_s (ck_S1 p2_s155_s ck_S0))))) ck_E0)⟩ ck_X0 ck_l0 p2_s2188_e
set_option maxRecDepth 100000 in
/-- GlacierMailModel.in -/
def p2_s2189 : ck_Sum := ((0, 0, 0), 245, [.inl ((-2147483648), (-1), []), .inl (ck_one 0), .inl (ck_one 13)], ([], [], []), ([], []), [(.inr (some (.inl (ck_one 0))), 245, ([], [], []))])
set_option maxRecDepth 100000 in
theorem p2_s2189_e : ck_ok p2_O none [] [] 286 [] 80 p2_s2189 = true := by decide +kernel
theorem p2_s2189_s {X : Int → Int} {LX : Nat} : ck_Ok p2_O X LX 286 p2_s2189 := ck_ok_s ⟨p2_nmu, ck_E0⟩ ck_X0 ck_l0 p2_s2189_e
set_option maxRecDepth 100000 in
/-- GlacierMailModel.count -/
def p2_s2190 : ck_Sum := ((1, 0, 0), 245, [.inr (.inr (.inl 226)), .inl ((-2147483648), (-1), [])], ([], [], []), ([(226, 0, 0)], []), [(.inr (some (.inl (ck_one (-1)))), 245, ([], [], [(226, 0, 0, ck_one 0)]))])
set_option maxRecDepth 100000 in
theorem p2_s2190_e : ck_ok p2_O none [] [(286, [p2_s2189])] 368 [] 98 p2_s2190 = true := by decide +kernel
theorem p2_s2190_s {X : Int → Int} {LX : Nat} : ck_Ok p2_O X LX 368 p2_s2190 := ck_ok_s ⟨p2_nmu, ck_E1 (ck_S1 p2_s2189_s ck_S0) ck_E0⟩ ck_X0 ck_l0 p2_s2190_e
set_option maxRecDepth 100000 in
/-- GlacierMailModel.in -/
def p2_s2191 : ck_Sum := ((0, 0, 0), 245, [.inl (18, 2147483647, []), .inl (ck_one 0), .inl (ck_one 13)], ([], [], []), ([], []), [(.inr (some (.inl (ck_one 0))), 245, ([], [], []))])
set_option maxRecDepth 100000 in
theorem p2_s2191_e : ck_ok p2_O none [] [] 286 [] 86 p2_s2191 = true := by decide +kernel
theorem p2_s2191_s {X : Int → Int} {LX : Nat} : ck_Ok p2_O X LX 286 p2_s2191 := ck_ok_s ⟨p2_nmu, ck_E0⟩ ck_X0 ck_l0 p2_s2191_e
set_option maxRecDepth 100000 in
/-- GlacierMailModel.in -/
def p2_s2192 : ck_Sum := ((0, 0, 0), 245, [.inl (ck_one 13), .inl (ck_one 0), .inl (ck_one 13)], ([], [], []), ([], []), [(.inr (some (.inl (ck_one 1))), 245, ([], [], []))])
set_option maxRecDepth 100000 in
theorem p2_s2192_e : ck_ok p2_O none [] [] 286 [] 88 p2_s2192 = true := by decide +kernel
theorem p2_s2192_s {X : Int → Int} {LX : Nat} : ck_Ok p2_O X LX 286 p2_s2192 := ck_ok_s ⟨p2_nmu, ck_E0⟩ ck_X0 ck_l0 p2_s2192_e
set_option maxRecDepth 100000 in
/-- GlacierMailModel.in -/
def p2_s2193 : ck_Sum := ((0, 0, 0), 245, [.inl (ck_one 12), .inl (ck_one 0), .inl (ck_one 13)], ([], [], []), ([], []), [(.inr (some (.inl (ck_one 1))), 245, ([], [], []))])
set_option maxRecDepth 100000 in
theorem p2_s2193_e : ck_ok p2_O none [] [] 286 [] 88 p2_s2193 = true := by decide +kernel
theorem p2_s2193_s {X : Int → Int} {LX : Nat} : ck_Ok p2_O X LX 286 p2_s2193 := ck_ok_s ⟨p2_nmu, ck_E0⟩ ck_X0 ck_l0 p2_s2193_e
set_option maxRecDepth 100000 in
/-- GlacierMailModel.in -/
def p2_s2194 : ck_Sum := ((0, 0, 0), 245, [.inl (ck_one 11), .inl (ck_one 0), .inl (ck_one 13)], ([], [], []), ([], []), [(.inr (some (.inl (ck_one 1))), 245, ([], [], []))])
set_option maxRecDepth 100000 in
theorem p2_s2194_e : ck_ok p2_O none [] [] 286 [] 88 p2_s2194 = true := by decide +kernel
theorem p2_s2194_s {X : Int → Int} {LX : Nat} : ck_Ok p2_O X LX 286 p2_s2194 := ck_ok_s ⟨p2_nmu, ck_E0⟩ ck_X0 ck_l0 p2_s2194_e
set_option maxRecDepth 100000 in
/-- GlacierMailModel.in -/
def p2_s2195 : ck_Sum := ((0, 0, 0), 245, [.inl (ck_one 10), .inl (ck_one 0), .inl (ck_one 13)], ([], [], []), ([], []), [(.inr (some (.inl (ck_one 1))), 245, ([], [], []))])
set_option maxRecDepth 100000 in
theorem p2_s2195_e : ck_ok p2_O none [] [] 286 [] 88 p2_s2195 = true := by decide +kernel
theorem p2_s2195_s {X : Int → Int} {LX : Nat} : ck_Ok p2_O X LX 286 p2_s2195 := ck_ok_s ⟨p2_nmu, ck_E0⟩ ck_X0 ck_l0 p2_s2195_e
set_option maxRecDepth 100000 in
/-- GlacierMailModel.in -/
def p2_s2197 : ck_Sum := ((0, 0, 0), 245, [.inl (0, 7, []), .inl (ck_one 0), .inl (ck_one 13)], ([], [], []), ([], []), [(.inr (some (.inl (ck_one 1))), 245, ([], [], []))])
set_option maxRecDepth 100000 in
theorem p2_s2197_e : ck_ok p2_O none [] [] 286 [] 88 p2_s2197 = true := by decide +kernel
theorem p2_s2197_s {X : Int → Int} {LX : Nat} : ck_Ok p2_O X LX 286 p2_s2197 := ck_ok_s ⟨p2_nmu, ck_E0⟩ ck_X0 ck_l0 p2_s2197_e
set_option maxRecDepth 100000 in
/-- GlacierMailModel.in -/
def p2_s2198 : ck_Sum := ((0, 0, 0), 245, [.inl (ck_one 9), .inl (ck_one 0), .inl (ck_one 13)], ([], [], []), ([], []), [(.inr (some (.inl (ck_one 1))), 245, ([], [], []))])
set_option maxRecDepth 100000 in
theorem p2_s2198_e : ck_ok p2_O none [] [] 286 [] 88 p2_s2198 = true := by decide +kernel
theorem p2_s2198_s {X : Int → Int} {LX : Nat} : ck_Ok p2_O X LX 286 p2_s2198 := ck_ok_s ⟨p2_nmu, ck_E0⟩ ck_X0 ck_l0 p2_s2198_e
set_option maxRecDepth 100000 in
/-- GlacierMailModel.count -/
def p2_s2199 : ck_Sum := ((1, 0, 0), 245, [.inr (.inr (.inl 226)), .inl (0, 9, [])], ([], [], [(227, 9, 9, (0, 299, [(11, 0)]))]), ([(226, 0, 0)], []), [(.inr (some (.inl (0, 299, []))), 245, ([], [], [(226, 0, 0, ck_one 0)])), (.inr (some (.inl (ck_one (-1)))), 245, ([], [], [(227, 8, 8, ck_one 0), (226, 0, 0, ck_one 0)]))])
set_option maxRecDepth 100000 in
theorem p2_s2199_e : ck_ok p2_O none [] [(286, [p2_s2197, p2_s2198])] 368 [] 108 p2_s2199 = true := by decide +kernel
theorem p2_s2199_s {X : Int → Int} {LX : Nat} : ck_Ok p2_O X LX 368 p2_s2199 := ck_ok_s ⟨p2_nmu, ck_E1 (ck_S1 p2_s2197_s (ck_S1 p2_s2198_s ck_S0)) ck_E0⟩ ck_X0 ck_l0 p2_s2199_e
set_option maxRecDepth 100000 in
/-- GlacierMailModel.isWord -/
def p2_s2200 : ck_Sum := ((6, 0, 0), 245, [.inr (.inr (.inl 226)), .inr (.inr (.inr 59))], ([], [], [(226, 9, 9, (0, 400, [(1, 0)]))]), ([], []), [(.inr (some (.inl (ck_one 0))), 245, ([], [], [])), (.inr (some (.inl (ck_one 1))), 245, ([], [], [(226, 9, 9, (4, 400, [(1, 0)])), (226, 11, 11, (0, 396, []))]))])
set_option maxRecDepth 100000 in
theorem p2_s2200_e : ck_ok p2_O none [] [] 250 [] 288 p2_s2200 = true := by decide +kernel
theorem p2_s2200_s {X : Int → Int} {LX : Nat} : ck_Ok p2_O X LX 250 p2_s2200 := ck_ok_s ⟨p2_nmu, ck_E0⟩ ck_X0 ck_l0 p2_s2200_e
set_option maxRecDepth 100000 in
/-- GlacierMailModel.isWord -/
def p2_s2201 : ck_Sum := ((6, 0, 0), 245, [.inr (.inr (.inl 226)), .inr (.inr (.inr 60))], ([], [], [(226, 9, 9, (0, 400, [(1, 0)]))]), ([], []), [(.inr (some (.inl (ck_one 0))), 245, ([], [], [])), (.inr (some (.inl (ck_one 1))), 245, ([], [], [(226, 9, 9, (4, 400, [(1, 0)])), (226, 11, 11, (0, 396, []))]))])
set_option maxRecDepth 100000 in
theorem p2_s2201_e : ck_ok p2_O none [] [] 250 [] 288 p2_s2201 = true := by decide +kernel
theorem p2_s2201_s {X : Int → Int} {LX : Nat} : ck_Ok p2_O X LX 250 p2_s2201 := ck_ok_s ⟨p2_nmu, ck_E0⟩ ck_X0 ck_l0 p2_s2201_e
set_option maxRecDepth 100000 in
/-- GlacierMailModel.isWord -/
def p2_s2202 : ck_Sum := ((6, 0, 0), 245, [.inr (.inr (.inl 226)), .inr (.inr (.inr 61))], ([], [], [(226, 9, 9, (0, 400, [(1, 0)]))]), ([], []), [(.inr (some (.inl (ck_one 0))), 245, ([], [], [])), (.inr (some (.inl (ck_one 1))), 245, ([], [], [(226, 9, 9, (4, 400, [(1, 0)])), (226, 11, 11, (0, 396, []))]))])
set_option maxRecDepth 100000 in
theorem p2_s2202_e : ck_ok p2_O none [] [] 250 [] 288 p2_s2202 = true := by decide +kernel
theorem p2_s2202_s {X : Int → Int} {LX : Nat} : ck_Ok p2_O X LX 250 p2_s2202 := ck_ok_s ⟨p2_nmu, ck_E0⟩ ck_X0 ck_l0 p2_s2202_e
set_option maxRecDepth 100000 in
/-- GlacierMailModel.isWord -/
def p2_s2203 : ck_Sum := ((6, 0, 0), 245, [.inr (.inr (.inl 226)), .inr (.inr (.inr 62))], ([], [], [(226, 9, 9, (0, 400, [(1, 0)]))]), ([], []), [(.inr (some (.inl (ck_one 0))), 245, ([], [], [])), (.inr (some (.inl (ck_one 1))), 245, ([], [], [(226, 9, 9, (2, 400, [(1, 0)])), (226, 11, 11, (0, 398, []))]))])
set_option maxRecDepth 100000 in
theorem p2_s2203_e : ck_ok p2_O none [] [] 250 [] 200 p2_s2203 = true := by decide +kernel
theorem p2_s2203_s {X : Int → Int} {LX : Nat} : ck_Ok p2_O X LX 250 p2_s2203 := ck_ok_s ⟨p2_nmu, ck_E0⟩ ck_X0 ck_l0 p2_s2203_e
set_option maxRecDepth 100000 in
/-- GlacierMailModel.isNext -/
def p2_s2204 : ck_Sum := ((7, 0, 0), 245, [.inr (.inr (.inl 226)), .inr (.inr (.inr 62))], ([], [], [(226, 9, 9, (0, 400, [(1, 0)]))]), ([(226, 9, 9), (226, 11, 11)], []), [(.inr (some (.inl (ck_one 0))), 245, ([], [], [(226, 9, 9, (0, 400, [(1000001, 0)])), (226, 11, 11, (0, 400, [(1000001, 0)]))])), (.inr (some (.inl (ck_one 1))), 245, ([], [], [(226, 9, 9, (2, 400, [(1000001, 0)])), (226, 11, 11, (0, 398, []))]))])
set_option maxRecDepth 100000 in
theorem p2_s2204_e : ck_ok p2_O none [] [(248, [p2_s170]), (250, [p2_s2203])] 269 [] 94 p2_s2204 = true := by decide +kernel
theorem p2_s2204_s {X : Int → Int} {LX : Nat} : ck_Ok p2_O X LX 269 p2_s2204 := ck_ok_s ⟨p2_nmu, ck_E1 (ck_S1 p2_s170_s ck_S0) (ck_E1 (ck_S1 p2_s2203_s ck_S0) ck_E0)⟩ ck_X0 ck_l0 p2_s2204_e
set_option maxRecDepth 100000 in
/-- GlacierMailModel.isAt -/
def p2_s2205 : ck_Sum := ((0, 0, 0), 245, [.inr (.inr (.inl 226)), .inl (ck_one 40), .inl (ck_one 40)], ([], [], [(226, 9, 9, (0, 400, [(1, 0)]))]), ([], []), [(.inr (some (.inl (ck_one 0))), 245, ([], [], [])), (.inr (some (.inl (ck_one 1))), 245, ([], [], [(226, 10, 10, (1, 400, [])), (226, 9, 9, (0, 399, [(1, 0)]))]))])
set_option maxRecDepth 100000 in
theorem p2_s2205_e : ck_ok p2_O none [] [] 246 [] 114 p2_s2205 = true := by decide +kernel
theorem p2_s2205_s {X : Int → Int} {LX : Nat} : ck_Ok p2_O X LX 246 p2_s2205 := ck_ok_s ⟨p2_nmu, ck_E0⟩ ck_X0 ck_l0 p2_s2205_e
set_option maxRecDepth 100000 in
/-- GlacierMailModel.sign -/
def p2_s2206 : ck_Sum := ((2, 0, 0), 245, [.inr (.inr (.inl 226)), .inl (ck_one 40)], ([], [], [(226, 9, 9, (0, 400, [(1, 0)]))]), ([(226, 9, 9), (226, 11, 11)], []), [(.inr (some (.inl (ck_one 0))), 245, ([], [], [(226, 11, 11, (0, 400, [(1000001, 0)])), (226, 9, 9, (0, 400, [(1000001, 0)]))])), (.inr (some (.inl (ck_one 1))), 245, ([], [], [(226, 9, 9, (1, 400, [(1000001, 1)])), (226, 10, 10, (1, 400, [])), (226, 11, 11, (0, 400, [(1000001, 0)]))]))])
set_option maxRecDepth 100000 in
theorem p2_s2206_e : ck_ok p2_O none [] [(245, [p2_s168]), (246, [p2_s2205])] 278 [] 100 p2_s2206 = true := by decide +kernel
theorem p2_s2206_s {X : Int → Int} {LX : Nat} : ck_Ok p2_O X LX 278 p2_s2206 := ck_ok_s ⟨p2_nmu, ck_E1 (ck_S1 p2_s168_s ck_S0) (ck_E1 (ck_S1 p2_s2205_s ck_S0) ck_E0)⟩ ck_X0 ck_l0 p2_s2206_e
set_option maxRecDepth 100000 in
/-- GlacierMailModel.isAt -/
def p2_s2237 : ck_Sum := ((0, 0, 0), 245, [.inr (.inr (.inl 226)), .inl (ck_one 60), .inl (ck_one 60)], ([], [], [(226, 9, 9, (0, 400, [(1, 0)]))]), ([], []), [(.inr (some (.inl (ck_one 0))), 245, ([], [], [])), (.inr (some (.inl (ck_one 1))), 245, ([], [], [(226, 10, 10, (1, 400, [])), (226, 9, 9, (0, 399, [(1, 0)]))]))])
set_option maxRecDepth 100000 in
theorem p2_s2237_e : ck_ok p2_O none [] [] 246 [] 114 p2_s2237 = true := by decide +kernel
theorem p2_s2237_s {X : Int → Int} {LX : Nat} : ck_Ok p2_O X LX 246 p2_s2237 := ck_ok_s ⟨p2_nmu, ck_E0⟩ ck_X0 ck_l0 p2_s2237_e
set_option maxRecDepth 100000 in
/-- GlacierMailModel.sign -/
def p2_s2238 : ck_Sum := ((2, 0, 0), 245, [.inr (.inr (.inl 226)), .inl (ck_one 60)], ([], [], [(226, 9, 9, (0, 400, [(1, 0)]))]), ([(226, 9, 9), (226, 11, 11)], []), [(.inr (some (.inl (ck_one 0))), 245, ([], [], [(226, 11, 11, (0, 400, [(1000001, 0)])), (226, 9, 9, (0, 400, [(1000001, 0)]))])), (.inr (some (.inl (ck_one 1))), 245, ([], [], [(226, 9, 9, (1, 400, [(1000001, 1)])), (226, 10, 10, (1, 400, [])), (226, 11, 11, (0, 400, [(1000001, 0)]))]))])
set_option maxRecDepth 100000 in
theorem p2_s2238_e : ck_ok p2_O none [] [(245, [p2_s168]), (246, [p2_s2237])] 278 [] 100 p2_s2238 = true := by decide +kernel
theorem p2_s2238_s {X : Int → Int} {LX : Nat} : ck_Ok p2_O X LX 278 p2_s2238 := ck_ok_s ⟨p2_nmu, ck_E1 (ck_S1 p2_s168_s ck_S0) (ck_E1 (ck_S1 p2_s2237_s ck_S0) ck_E0)⟩ ck_X0 ck_l0 p2_s2238_e
set_option maxRecDepth 100000 in
/-- GlacierMailModel.isAt -/
def p2_s2239 : ck_Sum := ((0, 0, 0), 245, [.inr (.inr (.inl 226)), .inl (ck_one 62), .inl (ck_one 62)], ([], [], [(226, 9, 9, (0, 400, [(1, 0)]))]), ([], []), [(.inr (some (.inl (ck_one 0))), 245, ([], [], [])), (.inr (some (.inl (ck_one 1))), 245, ([], [], [(226, 10, 10, (1, 400, [])), (226, 9, 9, (0, 399, [(1, 0)]))]))])
set_option maxRecDepth 100000 in
theorem p2_s2239_e : ck_ok p2_O none [] [] 246 [] 114 p2_s2239 = true := by decide +kernel
theorem p2_s2239_s {X : Int → Int} {LX : Nat} : ck_Ok p2_O X LX 246 p2_s2239 := ck_ok_s ⟨p2_nmu, ck_E0⟩ ck_X0 ck_l0 p2_s2239_e
set_option maxRecDepth 100000 in
/-- GlacierMailModel.sign -/
def p2_s2240 : ck_Sum := ((2, 0, 0), 245, [.inr (.inr (.inl 226)), .inl (ck_one 62)], ([], [], [(226, 9, 9, (0, 400, [(1, 0)]))]), ([(226, 9, 9), (226, 11, 11)], []), [(.inr (some (.inl (ck_one 0))), 245, ([], [], [(226, 11, 11, (0, 400, [(1000001, 0)])), (226, 9, 9, (0, 400, [(1000001, 0)]))])), (.inr (some (.inl (ck_one 1))), 245, ([], [], [(226, 9, 9, (1, 400, [(1000001, 1)])), (226, 10, 10, (1, 400, [])), (226, 11, 11, (0, 400, [(1000001, 0)]))]))])
set_option maxRecDepth 100000 in
theorem p2_s2240_e : ck_ok p2_O none [] [(245, [p2_s168]), (246, [p2_s2239])] 278 [] 100 p2_s2240 = true := by decide +kernel
theorem p2_s2240_s {X : Int → Int} {LX : Nat} : ck_Ok p2_O X LX 278 p2_s2240 := ck_ok_s ⟨p2_nmu, ck_E1 (ck_S1 p2_s168_s ck_S0) (ck_E1 (ck_S1 p2_s2239_s ck_S0) ck_E0)⟩ ck_X0 ck_l0 p2_s2240_e
set_option maxRecDepth 100000 in
/-- GlacierMailModel.isAt -/
def p2_s2255 : ck_Sum := ((0, 0, 0), 245, [.inr (.inr (.inl 226)), .inl (ck_one 41), .inl (ck_one 41)], ([], [], [(226, 9, 9, (0, 400, [(1, 0)]))]), ([], []), [(.inr (some (.inl (ck_one 0))), 245, ([], [], [])), (.inr (some (.inl (ck_one 1))), 245, ([], [], [(226, 10, 10, (1, 400, [])), (226, 9, 9, (0, 399, [(1, 0)]))]))])
set_option maxRecDepth 100000 in
theorem p2_s2255_e : ck_ok p2_O none [] [] 246 [] 114 p2_s2255 = true := by decide +kernel
theorem p2_s2255_s {X : Int → Int} {LX : Nat} : ck_Ok p2_O X LX 246 p2_s2255 := ck_ok_s ⟨p2_nmu, ck_E0⟩ ck_X0 ck_l0 p2_s2255_e
set_option maxRecDepth 100000 in
/-- GlacierMailModel.sign -/
def p2_s2256 : ck_Sum := ((2, 0, 0), 245, [.inr (.inr (.inl 226)), .inl (ck_one 41)], ([], [], [(226, 9, 9, (0, 400, [(1, 0)]))]), ([(226, 9, 9), (226, 11, 11)], []), [(.inr (some (.inl (ck_one 0))), 245, ([], [], [(226, 11, 11, (0, 400, [(1000001, 0)])), (226, 9, 9, (0, 400, [(1000001, 0)]))])), (.inr (some (.inl (ck_one 1))), 245, ([], [], [(226, 9, 9, (1, 400, [(1000001, 1)])), (226, 10, 10, (1, 400, [])), (226, 11, 11, (0, 400, [(1000001, 0)]))]))])
set_option maxRecDepth 100000 in
theorem p2_s2256_e : ck_ok p2_O none [] [(245, [p2_s168]), (246, [p2_s2255])] 278 [] 100 p2_s2256 = true := by decide +kernel
theorem p2_s2256_s {X : Int → Int} {LX : Nat} : ck_Ok p2_O X LX 278 p2_s2256 := ck_ok_s ⟨p2_nmu, ck_E1 (ck_S1 p2_s168_s ck_S0) (ck_E1 (ck_S1 p2_s2255_s ck_S0) ck_E0)⟩ ck_X0 ck_l0 p2_s2256_e
set_option maxRecDepth 100000 in
/-- GlacierMailModel.isWord -/
def p2_s2207 : ck_Sum := ((6, 0, 0), 245, [.inr (.inr (.inl 226)), .inr (.inr (.inr 63))], ([], [], [(226, 9, 9, (0, 400, [(1, 0)]))]), ([], []), [(.inr (some (.inl (ck_one 0))), 245, ([], [], [])), (.inr (some (.inl (ck_one 1))), 245, ([], [], [(226, 9, 9, (3, 400, [(1, 0)])), (226, 11, 11, (0, 397, []))]))])
set_option maxRecDepth 100000 in
theorem p2_s2207_e : ck_ok p2_O none [] [] 250 [] 244 p2_s2207 = true := by decide +kernel
theorem p2_s2207_s {X : Int → Int} {LX : Nat} : ck_Ok p2_O X LX 250 p2_s2207 := ck_ok_s ⟨p2_nmu, ck_E0⟩ ck_X0 ck_l0 p2_s2207_e
set_option maxRecDepth 100000 in
/-- GlacierMailModel.isNext -/
def p2_s2208 : ck_Sum := ((7, 0, 0), 245, [.inr (.inr (.inl 226)), .inr (.inr (.inr 63))], ([], [], [(226, 9, 9, (0, 400, [(1, 0)]))]), ([(226, 9, 9), (226, 11, 11)], []), [(.inr (some (.inl (ck_one 0))), 245, ([], [], [(226, 9, 9, (0, 400, [(1000001, 0)])), (226, 11, 11, (0, 400, [(1000001, 0)]))])), (.inr (some (.inl (ck_one 1))), 245, ([], [], [(226, 9, 9, (3, 400, [(1000001, 0)])), (226, 11, 11, (0, 397, []))]))])
set_option maxRecDepth 100000 in
theorem p2_s2208_e : ck_ok p2_O none [] [(248, [p2_s170]), (250, [p2_s2207])] 269 [] 94 p2_s2208 = true := by decide +kernel
theorem p2_s2208_s {X : Int → Int} {LX : Nat} : ck_Ok p2_O X LX 269 p2_s2208 := ck_ok_s ⟨p2_nmu, ck_E1 (ck_S1 p2_s170_s ck_S0) (ck_E1 (ck_S1 p2_s2207_s ck_S0) ck_E0)⟩ ck_X0 ck_l0 p2_s2208_e
set_option maxRecDepth 100000 in
/-- GlacierMailModel.isWord -/
def p2_s2209 : ck_Sum := ((6, 0, 0), 245, [.inr (.inr (.inl 226)), .inr (.inr (.inr 64))], ([], [], [(226, 9, 9, (0, 400, [(1, 0)]))]), ([], []), [(.inr (some (.inl (ck_one 0))), 245, ([], [], [])), (.inr (some (.inl (ck_one 1))), 245, ([], [], [(226, 9, 9, (4, 400, [(1, 0)])), (226, 11, 11, (0, 396, []))]))])
set_option maxRecDepth 100000 in
theorem p2_s2209_e : ck_ok p2_O none [] [] 250 [] 288 p2_s2209 = true := by decide +kernel
theorem p2_s2209_s {X : Int → Int} {LX : Nat} : ck_Ok p2_O X LX 250 p2_s2209 := ck_ok_s ⟨p2_nmu, ck_E0⟩ ck_X0 ck_l0 p2_s2209_e
set_option maxRecDepth 100000 in
/-- GlacierMailModel.isNext -/
def p2_s2210 : ck_Sum := ((7, 0, 0), 245, [.inr (.inr (.inl 226)), .inr (.inr (.inr 64))], ([], [], [(226, 9, 9, (0, 400, [(1, 0)]))]), ([(226, 9, 9), (226, 11, 11)], []), [(.inr (some (.inl (ck_one 0))), 245, ([], [], [(226, 9, 9, (0, 400, [(1000001, 0)])), (226, 11, 11, (0, 400, [(1000001, 0)]))])), (.inr (some (.inl (ck_one 1))), 245, ([], [], [(226, 9, 9, (4, 400, [(1000001, 0)])), (226, 11, 11, (0, 396, []))]))])
set_option maxRecDepth 100000 in
theorem p2_s2210_e : ck_ok p2_O none [] [(248, [p2_s170]), (250, [p2_s2209])] 269 [] 94 p2_s2210 = true := by decide +kernel
theorem p2_s2210_s {X : Int → Int} {LX : Nat} : ck_Ok p2_O X LX 269 p2_s2210 := ck_ok_s ⟨p2_nmu, ck_E1 (ck_S1 p2_s170_s ck_S0) (ck_E1 (ck_S1 p2_s2209_s ck_S0) ck_E0)⟩ ck_X0 ck_l0 p2_s2210_e
set_option maxRecDepth 100000 in
/-- GlacierMailModel.isWord -/
def p2_s2211 : ck_Sum := ((6, 0, 0), 245, [.inr (.inr (.inl 226)), .inr (.inr (.inr 65))], ([], [], [(226, 9, 9, (0, 400, [(1, 0)]))]), ([], []), [(.inr (some (.inl (ck_one 0))), 245, ([], [], [])), (.inr (some (.inl (ck_one 1))), 245, ([], [], [(226, 9, 9, (5, 400, [(1, 0)])), (226, 11, 11, (0, 395, []))]))])
set_option maxRecDepth 100000 in
theorem p2_s2211_e : ck_ok p2_O none [] [] 250 [] 332 p2_s2211 = true := by decide +kernel
theorem p2_s2211_s {X : Int → Int} {LX : Nat} : ck_Ok p2_O X LX 250 p2_s2211 := ck_ok_s ⟨p2_nmu, ck_E0⟩ ck_X0 ck_l0 p2_s2211_e
set_option maxRecDepth 100000 in
/-- GlacierMailModel.isNext -/
def p2_s2212 : ck_Sum := ((7, 0, 0), 245, [.inr (.inr (.inl 226)), .inr (.inr (.inr 65))], ([], [], [(226, 9, 9, (0, 400, [(1, 0)]))]), ([(226, 9, 9), (226, 11, 11)], []), [(.inr (some (.inl (ck_one 0))), 245, ([], [], [(226, 9, 9, (0, 400, [(1000001, 0)])), (226, 11, 11, (0, 400, [(1000001, 0)]))])), (.inr (some (.inl (ck_one 1))), 245, ([], [], [(226, 9, 9, (5, 400, [(1000001, 0)])), (226, 11, 11, (0, 395, []))]))])
set_option maxRecDepth 100000 in
theorem p2_s2212_e : ck_ok p2_O none [] [(248, [p2_s170]), (250, [p2_s2211])] 269 [] 94 p2_s2212 = true := by decide +kernel
theorem p2_s2212_s {X : Int → Int} {LX : Nat} : ck_Ok p2_O X LX 269 p2_s2212 := ck_ok_s ⟨p2_nmu, ck_E1 (ck_S1 p2_s170_s ck_S0) (ck_E1 (ck_S1 p2_s2211_s ck_S0) ck_E0)⟩ ck_X0 ck_l0 p2_s2212_e
set_option maxRecDepth 100000 in
/-- GlacierMailModel.isWord -/
def p2_s2213 : ck_Sum := ((6, 0, 0), 245, [.inr (.inr (.inl 226)), .inr (.inr (.inr 66))], ([], [], [(226, 9, 9, (0, 400, [(1, 0)]))]), ([], []), [(.inr (some (.inl (ck_one 0))), 245, ([], [], [])), (.inr (some (.inl (ck_one 1))), 245, ([], [], [(226, 9, 9, (4, 400, [(1, 0)])), (226, 11, 11, (0, 396, []))]))])
set_option maxRecDepth 100000 in
theorem p2_s2213_e : ck_ok p2_O none [] [] 250 [] 288 p2_s2213 = true := by decide +kernel
theorem p2_s2213_s {X : Int → Int} {LX : Nat} : ck_Ok p2_O X LX 250 p2_s2213 := ck_ok_s ⟨p2_nmu, ck_E0⟩ ck_X0 ck_l0 p2_s2213_e
set_option maxRecDepth 100000 in
/-- GlacierMailModel.isWord -/
def p2_s2214 : ck_Sum := ((6, 0, 0), 245, [.inr (.inr (.inl 226)), .inr (.inr (.inr 67))], ([], [], [(226, 9, 9, (0, 400, [(1, 0)]))]), ([], []), [(.inr (some (.inl (ck_one 0))), 245, ([], [], [])), (.inr (some (.inl (ck_one 1))), 245, ([], [], [(226, 9, 9, (3, 400, [(1, 0)])), (226, 11, 11, (0, 397, []))]))])
set_option maxRecDepth 100000 in
theorem p2_s2214_e : ck_ok p2_O none [] [] 250 [] 244 p2_s2214 = true := by decide +kernel
theorem p2_s2214_s {X : Int → Int} {LX : Nat} : ck_Ok p2_O X LX 250 p2_s2214 := ck_ok_s ⟨p2_nmu, ck_E0⟩ ck_X0 ck_l0 p2_s2214_e
set_option maxRecDepth 100000 in
/-- GlacierMailModel.isWord -/
def p2_s2215 : ck_Sum := ((6, 0, 0), 245, [.inr (.inr (.inl 226)), .inr (.inr (.inr 68))], ([], [], [(226, 9, 9, (0, 400, [(1, 0)]))]), ([], []), [(.inr (some (.inl (ck_one 0))), 245, ([], [], [])), (.inr (some (.inl (ck_one 1))), 245, ([], [], [(226, 9, 9, (4, 400, [(1, 0)])), (226, 11, 11, (0, 396, []))]))])
set_option maxRecDepth 100000 in
theorem p2_s2215_e : ck_ok p2_O none [] [] 250 [] 288 p2_s2215 = true := by decide +kernel
theorem p2_s2215_s {X : Int → Int} {LX : Nat} : ck_Ok p2_O X LX 250 p2_s2215 := ck_ok_s ⟨p2_nmu, ck_E0⟩ ck_X0 ck_l0 p2_s2215_e
set_option maxRecDepth 100000 in
/-- GlacierMailModel.isWord -/
def p2_s2216 : ck_Sum := ((6, 0, 0), 245, [.inr (.inr (.inl 226)), .inr (.inr (.inr 69))], ([], [], [(226, 9, 9, (0, 400, [(1, 0)]))]), ([], []), [(.inr (some (.inl (ck_one 0))), 245, ([], [], [])), (.inr (some (.inl (ck_one 1))), 245, ([], [], [(226, 9, 9, (4, 400, [(1, 0)])), (226, 11, 11, (0, 396, []))]))])
set_option maxRecDepth 100000 in
theorem p2_s2216_e : ck_ok p2_O none [] [] 250 [] 288 p2_s2216 = true := by decide +kernel
theorem p2_s2216_s {X : Int → Int} {LX : Nat} : ck_Ok p2_O X LX 250 p2_s2216 := ck_ok_s ⟨p2_nmu, ck_E0⟩ ck_X0 ck_l0 p2_s2216_e
set_option maxRecDepth 100000 in
/-- GlacierMailModel.isWord -/
def p2_s2217 : ck_Sum := ((6, 0, 0), 245, [.inr (.inr (.inl 226)), .inr (.inr (.inr 70))], ([], [], [(226, 9, 9, (0, 400, [(1, 0)]))]), ([], []), [(.inr (some (.inl (ck_one 0))), 245, ([], [], [])), (.inr (some (.inl (ck_one 1))), 245, ([], [], [(226, 9, 9, (5, 400, [(1, 0)])), (226, 11, 11, (0, 395, []))]))])
set_option maxRecDepth 100000 in
theorem p2_s2217_e : ck_ok p2_O none [] [] 250 [] 332 p2_s2217 = true := by decide +kernel
theorem p2_s2217_s {X : Int → Int} {LX : Nat} : ck_Ok p2_O X LX 250 p2_s2217 := ck_ok_s ⟨p2_nmu, ck_E0⟩ ck_X0 ck_l0 p2_s2217_e
set_option maxRecDepth 100000 in
/-- GlacierMailModel.isWord -/
def p2_s2218 : ck_Sum := ((6, 0, 0), 245, [.inr (.inr (.inl 226)), .inr (.inr (.inr 71))], ([], [], [(226, 9, 9, (0, 400, [(1, 0)]))]), ([], []), [(.inr (some (.inl (ck_one 0))), 245, ([], [], [])), (.inr (some (.inl (ck_one 1))), 245, ([], [], [(226, 9, 9, (3, 400, [(1, 0)])), (226, 11, 11, (0, 397, []))]))])
set_option maxRecDepth 100000 in
theorem p2_s2218_e : ck_ok p2_O none [] [] 250 [] 244 p2_s2218 = true := by decide +kernel
theorem p2_s2218_s {X : Int → Int} {LX : Nat} : ck_Ok p2_O X LX 250 p2_s2218 := ck_ok_s ⟨p2_nmu, ck_E0⟩ ck_X0 ck_l0 p2_s2218_e
set_option maxRecDepth 100000 in
/-- GlacierMailModel.isWord -/
def p2_s2219 : ck_Sum := ((6, 0, 0), 245, [.inr (.inr (.inl 226)), .inr (.inr (.inr 72))], ([], [], [(226, 9, 9, (0, 400, [(1, 0)]))]), ([], []), [(.inr (some (.inl (ck_one 0))), 245, ([], [], [])), (.inr (some (.inl (ck_one 1))), 245, ([], [], [(226, 9, 9, (4, 400, [(1, 0)])), (226, 11, 11, (0, 396, []))]))])
set_option maxRecDepth 100000 in
theorem p2_s2219_e : ck_ok p2_O none [] [] 250 [] 288 p2_s2219 = true := by decide +kernel
theorem p2_s2219_s {X : Int → Int} {LX : Nat} : ck_Ok p2_O X LX 250 p2_s2219 := ck_ok_s ⟨p2_nmu, ck_E0⟩ ck_X0 ck_l0 p2_s2219_e
set_option maxRecDepth 100000 in
/-- GlacierMailModel.figures -/
def p2_s2229 : ck_Sum := ((2, 0, 0), 245, [.inr (.inr (.inl 226)), .inl (ck_one 0), .inl (ck_one 999), .inl (ck_one 3)], ([], [], [(226, 9, 9, (0, 400, [(1, 0)]))]), ([(226, 9, 9), (226, 11, 11)], []), [(.inr (some (.inl (ck_one (-1)))), 245, ([], [], [(226, 9, 9, (0, 400, [(1000001, 0)])), (226, 11, 11, (0, 400, [(1000001, 0)]))])), (.inr (some (.inl (0, 999, []))), 245, ([], [], [(226, 9, 9, (0, 400, [(1000001, 0)])), (226, 11, 11, (0, 400, [(1000001, 0)]))]))])
set_option maxRecDepth 100000 in
theorem p2_s2229_e : ck_ok p2_O none [] [(245, [p2_s168]), (246, [p2_s181])] 256 [(7, [some (.inr (.inr (.inl 226))), some (.inl (ck_one 0)), some (.inl (ck_one 999)), some (.inl (ck_one 3)), some (.inl ((-2147483648), 2147483647, []))], ([], [], [(226, 11, 11, (0, 400, [(1000001, 0)])), (226, 9, 9, (0, 400, [(1000001, 0)]))]), 100, .inr (226, 9), true)] 222 p2_s2229 = true := by decide +kernel
theorem p2_s2229_s {X : Int → Int} {LX : Nat} : ck_Ok p2_O X LX 256 p2_s2229 := ck_ok_s ⟨p2_nmu, ck_E1 (ck_S1 p2_s168_s ck_S0) (ck_E1 (ck_S1 p2_s181_s ck_S0) ck_E0)⟩ ck_X0 ck_l0 p2_s2229_e
set_option maxRecDepth 100000 in
/-- GlacierMailModel.isAt -/
def p2_s2233 : ck_Sum := ((0, 0, 0), 245, [.inr (.inr (.inl 226)), .inl (ck_one 43), .inl (ck_one 43)], ([], [], [(226, 9, 9, (0, 400, [(1, 0)]))]), ([], []), [(.inr (some (.inl (ck_one 0))), 245, ([], [], [])), (.inr (some (.inl (ck_one 1))), 245, ([], [], [(226, 10, 10, (1, 400, [])), (226, 9, 9, (0, 399, [(1, 0)]))]))])
set_option maxRecDepth 100000 in
theorem p2_s2233_e : ck_ok p2_O none [] [] 246 [] 114 p2_s2233 = true := by decide +kernel
theorem p2_s2233_s {X : Int → Int} {LX : Nat} : ck_Ok p2_O X LX 246 p2_s2233 := ck_ok_s ⟨p2_nmu, ck_E0⟩ ck_X0 ck_l0 p2_s2233_e
set_option maxRecDepth 100000 in
/-- GlacierMailModel.sign -/
def p2_s2234 : ck_Sum := ((2, 0, 0), 245, [.inr (.inr (.inl 226)), .inl (ck_one 43)], ([], [], [(226, 9, 9, (0, 400, [(1, 0)]))]), ([(226, 9, 9), (226, 11, 11)], []), [(.inr (some (.inl (ck_one 0))), 245, ([], [], [(226, 11, 11, (0, 400, [(1000001, 0)])), (226, 9, 9, (0, 400, [(1000001, 0)]))])), (.inr (some (.inl (ck_one 1))), 245, ([], [], [(226, 9, 9, (1, 400, [(1000001, 1)])), (226, 10, 10, (1, 400, [])), (226, 11, 11, (0, 400, [(1000001, 0)]))]))])
set_option maxRecDepth 100000 in
theorem p2_s2234_e : ck_ok p2_O none [] [(245, [p2_s168]), (246, [p2_s2233])] 278 [] 100 p2_s2234 = true := by decide +kernel
theorem p2_s2234_s {X : Int → Int} {LX : Nat} : ck_Ok p2_O X LX 278 p2_s2234 := ck_ok_s ⟨p2_nmu, ck_E1 (ck_S1 p2_s168_s ck_S0) (ck_E1 (ck_S1 p2_s2233_s ck_S0) ck_E0)⟩ ck_X0 ck_l0 p2_s2234_e
set_option maxRecDepth 100000 in
/-- GlacierMailModel.isWord -/
def p2_s2247 : ck_Sum := ((6, 0, 0), 245, [.inr (.inr (.inl 226)), .inr (.inr (.inr 73))], ([], [], [(226, 9, 9, (0, 400, [(1, 0)]))]), ([], []), [(.inr (some (.inl (ck_one 0))), 245, ([], [], [])), (.inr (some (.inl (ck_one 1))), 245, ([], [], [(226, 9, 9, (3, 400, [(1, 0)])), (226, 11, 11, (0, 397, []))]))])
set_option maxRecDepth 100000 in
theorem p2_s2247_e : ck_ok p2_O none [] [] 250 [] 244 p2_s2247 = true := by decide +kernel
theorem p2_s2247_s {X : Int → Int} {LX : Nat} : ck_Ok p2_O X LX 250 p2_s2247 := ck_ok_s ⟨p2_nmu, ck_E0⟩ ck_X0 ck_l0 p2_s2247_e
set_option maxRecDepth 100000 in
/-- GlacierMailModel.isNext -/
def p2_s2248 : ck_Sum := ((7, 0, 0), 245, [.inr (.inr (.inl 226)), .inr (.inr (.inr 73))], ([], [], [(226, 9, 9, (0, 400, [(1, 0)]))]), ([(226, 9, 9), (226, 11, 11)], []), [(.inr (some (.inl (ck_one 0))), 245, ([], [], [(226, 9, 9, (0, 400, [(1000001, 0)])), (226, 11, 11, (0, 400, [(1000001, 0)]))])), (.inr (some (.inl (ck_one 1))), 245, ([], [], [(226, 9, 9, (3, 400, [(1000001, 0)])), (226, 11, 11, (0, 397, []))]))])
set_option maxRecDepth 100000 in
theorem p2_s2248_e : ck_ok p2_O none [] [(248, [p2_s170]), (250, [p2_s2247])] 269 [] 94 p2_s2248 = true := by decide +kernel
theorem p2_s2248_s {X : Int → Int} {LX : Nat} : ck_Ok p2_O X LX 269 p2_s2248 := ck_ok_s ⟨p2_nmu, ck_E1 (ck_S1 p2_s170_s ck_S0) (ck_E1 (ck_S1 p2_s2247_s ck_S0) ck_E0)⟩ ck_X0 ck_l0 p2_s2248_e
set_option maxRecDepth 100000 in
/-- GlacierMailModel.isWord -/
def p2_s2251 : ck_Sum := ((6, 0, 0), 245, [.inr (.inr (.inl 226)), .inr (.inr (.inr 74))], ([], [], [(226, 9, 9, (0, 400, [(1, 0)]))]), ([], []), [(.inr (some (.inl (ck_one 0))), 245, ([], [], [])), (.inr (some (.inl (ck_one 1))), 245, ([], [], [(226, 9, 9, (2, 400, [(1, 0)])), (226, 11, 11, (0, 398, []))]))])
set_option maxRecDepth 100000 in
theorem p2_s2251_e : ck_ok p2_O none [] [] 250 [] 200 p2_s2251 = true := by decide +kernel
theorem p2_s2251_s {X : Int → Int} {LX : Nat} : ck_Ok p2_O X LX 250 p2_s2251 := ck_ok_s ⟨p2_nmu, ck_E0⟩ ck_X0 ck_l0 p2_s2251_e
set_option maxRecDepth 100000 in
/-- GlacierMailModel.isNext -/
def p2_s2252 : ck_Sum := ((7, 0, 0), 245, [.inr (.inr (.inl 226)), .inr (.inr (.inr 74))], ([], [], [(226, 9, 9, (0, 400, [(1, 0)]))]), ([(226, 9, 9), (226, 11, 11)], []), [(.inr (some (.inl (ck_one 0))), 245, ([], [], [(226, 9, 9, (0, 400, [(1000001, 0)])), (226, 11, 11, (0, 400, [(1000001, 0)]))])), (.inr (some (.inl (ck_one 1))), 245, ([], [], [(226, 9, 9, (2, 400, [(1000001, 0)])), (226, 11, 11, (0, 398, []))]))])
set_option maxRecDepth 100000 in
theorem p2_s2252_e : ck_ok p2_O none [] [(248, [p2_s170]), (250, [p2_s2251])] 269 [] 94 p2_s2252 = true := by decide +kernel
theorem p2_s2252_s {X : Int → Int} {LX : Nat} : ck_Ok p2_O X LX 269 p2_s2252 := ck_ok_s ⟨p2_nmu, ck_E1 (ck_S1 p2_s170_s ck_S0) (ck_E1 (ck_S1 p2_s2251_s ck_S0) ck_E0)⟩ ck_X0 ck_l0 p2_s2252_e
set_option maxRecDepth 100000 in
/-- GlacierMailModel.figures -/
def p2_s2275 : ck_Sum := ((2, 0, 0), 245, [.inr (.inr (.inl 226)), .inl (ck_one 0), .inl (ck_one 20), .inl (ck_one 3)], ([], [], [(226, 9, 9, (0, 400, [(1, 0)]))]), ([(226, 9, 9), (226, 11, 11)], []), [(.inr (some (.inl (ck_one (-1)))), 245, ([], [], [(226, 9, 9, (0, 400, [(1000001, 0)])), (226, 11, 11, (0, 400, [(1000001, 0)]))])), (.inr (some (.inl (0, 20, []))), 245, ([], [], [(226, 9, 9, (0, 400, [(1000001, 0)])), (226, 11, 11, (0, 400, [(1000001, 0)]))]))])
set_option maxRecDepth 100000 in
theorem p2_s2275_e : ck_ok p2_O none [] [(245, [p2_s168]), (246, [p2_s181])] 256 [(7, [some (.inr (.inr (.inl 226))), some (.inl (ck_one 0)), some (.inl (ck_one 20)), some (.inl (ck_one 3)), some (.inl ((-2147483648), 2147483647, []))], ([], [], [(226, 11, 11, (0, 400, [(1000001, 0)])), (226, 9, 9, (0, 400, [(1000001, 0)]))]), 100, .inr (226, 9), true)] 222 p2_s2275 = true := by decide +kernel
theorem p2_s2275_s {X : Int → Int} {LX : Nat} : ck_Ok p2_O X LX 256 p2_s2275 := ck_ok_s ⟨p2_nmu, ck_E1 (ck_S1 p2_s168_s ck_S0) (ck_E1 (ck_S1 p2_s181_s ck_S0) ck_E0)⟩ ck_X0 ck_l0 p2_s2275_e
set_option maxRecDepth 100000 in
/-- GlacierMailModel.readLine -/
def p2_s2300 : ck_Sum := ((3, 0, 0), 245, [.inr (.inr (.inl 226)), .inl (ck_one 0), .inl (ck_one 12)], ([], [], [(226, 9, 9, (0, 400, [(1, 0)]))]), ([(226, 9, 9), (226, 11, 11)], []), [(.inr (some (.inl (ck_one 0))), 245, ([], [], [(226, 9, 9, (0, 400, [(1000001, 0)])), (226, 11, 11, (0, 400, [(1000001, 0)]))]))])
set_option maxRecDepth 100000 in
theorem p2_s2300_e : ck_ok p2_O none [] [(248, [p2_s170])] 247 [] 88 p2_s2300 = true := by decide +kernel
theorem p2_s2300_s {X : Int → Int} {LX : Nat} : ck_Ok p2_O X LX 247 p2_s2300 := ck_ok_s ⟨p2_nmu, ck_E1 (ck_S1 p2_s170_s ck_S0) ck_E0⟩ ck_X0 ck_l0 p2_s2300_e
