/-! THE REFERENCE'S law(): its readers, with counted cells (laid by wip/am/g8.py). -/
set_option maxRecDepth 100000 in
/-- GlacierMailModel.isAt -/
def pg_s0 : ck_Sum := ((0, 0, 0), 245, [.inr (.inr (.inl 226)), .inl (ck_one 32), .inl (ck_one 32)], ([], [], [(226, 9, 9, (0, 400, [(1, 0)]))]), ([], []), [(.inr (some (.inl (ck_one 0))), 245, ([], [], [])), (.inr (some (.inl (ck_one 1))), 245, ([], [], [(226, 10, 10, (1, 400, [])), (226, 9, 9, (0, 399, [(1, 0)]))]))])
set_option maxRecDepth 100000 in
theorem pg_s0_e : ck_ok pg_O none [] [] 246 [] 114 pg_s0 = true := by decide +kernel
theorem pg_s0_s {X : Int → Int} {LX : Nat} : ck_Ok pg_O X LX 246 pg_s0 := ck_ok_s ⟨pg_nmu, ck_E0⟩ ck_X0 ck_l0 pg_s0_e
set_option maxRecDepth 100000 in
/-- GlacierMailModel.blanks -/
def pg_s1 : ck_Sum := ((1, 0, 0), 245, [.inr (.inr (.inl 226))], ([], [], [(0, 3, 3, ((-400), 400, [(31, 0)])), (0, 4, 4, ((-400), 400, [(32, 0)])), (0, 5, 5, ((-400), 400, [(33, 0)])), (226, 9, 9, (0, 400, [(1, 0)]))]), ([(0, 3, 5), (226, 9, 9), (226, 11, 11)], []), [(.inr none, 245, ([], [], [(0, 5, 5, ((-400), 400, [(1000033, 0)])), (0, 3, 3, ((-400), 400, [(1000033, 0)])), (0, 4, 4, ck_one 0), (226, 11, 11, (0, 400, [(1000001, 0)])), (226, 9, 9, (0, 400, [(1000001, 0)]))]))])
set_option maxRecDepth 100000 in
theorem pg_s1_e : ck_ok pg_O none [] [(246, [pg_s0])] 245 [(0, [some (.inr (.inr (.inl 226)))], ([], [], [(0, 3, 3, ((-400), 400, [(31, 0)])), (0, 4, 4, ((-400), 400, [(1000032, 0)])), (0, 5, 5, ((-400), 400, [(1000033, 0)])), (226, 9, 9, (0, 400, [(1000001, 0)]))]), 100, .inr (0, 4), true)] 142 pg_s1 = true := by decide +kernel
theorem pg_s1_s {X : Int → Int} {LX : Nat} : ck_Ok pg_O X LX 245 pg_s1 := ck_ok_s ⟨pg_nmu, ck_E1 (ck_S1 pg_s0_s ck_S0) ck_E0⟩ ck_X0 ck_l0 pg_s1_e
set_option maxRecDepth 100000 in
/-- GlacierMailModel.isAt -/
def pg_s2 : ck_Sum := ((0, 0, 0), 245, [.inr (.inr (.inl 226)), .inl (ck_one 97), .inl (ck_one 122)], ([], [], [(226, 9, 9, (0, 400, [(1, 0)]))]), ([], []), [(.inr (some (.inl (ck_one 0))), 245, ([], [], [])), (.inr (some (.inl (ck_one 1))), 245, ([], [], [(226, 10, 10, (1, 400, [])), (226, 9, 9, (0, 399, [(1, 0)]))]))])
set_option maxRecDepth 100000 in
theorem pg_s2_e : ck_ok pg_O none [] [] 246 [] 114 pg_s2 = true := by decide +kernel
theorem pg_s2_s {X : Int → Int} {LX : Nat} : ck_Ok pg_O X LX 246 pg_s2 := ck_ok_s ⟨pg_nmu, ck_E0⟩ ck_X0 ck_l0 pg_s2_e
set_option maxRecDepth 100000 in
/-- GlacierMailModel.letterRow -/
def pg_s3 : ck_Sum := ((2, 0, 0), 245, [.inr (.inr (.inl 226))], ([], [], [(0, 3, 3, ((-400), 400, [(31, 0)])), (0, 4, 4, ((-400), 400, [(32, 0)])), (0, 5, 5, ((-400), 400, [(33, 0)])), (226, 9, 9, (0, 400, [(1, 0)]))]), ([(0, 3, 5), (226, 9, 9), (226, 11, 11)], []), [(.inr none, 245, ([], [], [(0, 5, 5, ((-400), 400, [(1000033, 0)])), (226, 11, 11, (0, 400, [(1000001, 0)])), (0, 3, 3, ((-400), 400, [(1000033, 0)])), (0, 4, 4, (0, 400, [])), (226, 9, 9, (0, 400, [(1000001, 0)]))]))])
set_option maxRecDepth 100000 in
theorem pg_s3_e : ck_ok pg_O none [] [(245, [pg_s1]), (246, [pg_s2])] 248 [(4, [some (.inr (.inr (.inl 226)))], ([], [], [(0, 5, 5, ((-400), 400, [(1000033, 0)])), (0, 3, 3, ((-400), 400, [(1000033, 0)])), (0, 4, 4, (0, 400, [])), (226, 11, 11, (0, 400, [(1000001, 0)])), (226, 9, 9, (0, 400, [(1000001, 0)]))]), 100, .inr (0, 5), true)] 142 pg_s3 = true := by decide +kernel
theorem pg_s3_s {X : Int → Int} {LX : Nat} : ck_Ok pg_O X LX 248 pg_s3 := ck_ok_s ⟨pg_nmu, ck_E1 (ck_S1 pg_s1_s ck_S0) (ck_E1 (ck_S1 pg_s2_s ck_S0) ck_E0)⟩ ck_X0 ck_l0 pg_s3_e
set_option maxRecDepth 100000 in
/-- GlacierMailModel.isWord -/
def pg_s4 : ck_Sum := ((6, 0, 0), 245, [.inr (.inr (.inl 226)), .inr (.inr (.inr 59))], ([], [], [(0, 3, 3, ((-400), 400, [(31, 0)])), (0, 4, 4, ((-400), 400, [(32, 0)])), (0, 5, 5, ((-400), 400, [(33, 0)])), (226, 9, 9, (0, 400, [(1, 0)]))]), ([], []), [(.inr (some (.inl (ck_one 0))), 245, ([], [], [])), (.inr (some (.inl (ck_one 1))), 245, ([], [], [(0, 5, 5, ((-396), 400, [(33, 0), (31, 4)])), (226, 11, 11, (0, 396, [])), (0, 4, 4, (4, 4, [(32, 0)]))]))])
set_option maxRecDepth 100000 in
theorem pg_s4_e : ck_ok pg_O none [] [] 250 [] 288 pg_s4 = true := by decide +kernel
theorem pg_s4_s {X : Int → Int} {LX : Nat} : ck_Ok pg_O X LX 250 pg_s4 := ck_ok_s ⟨pg_nmu, ck_E0⟩ ck_X0 ck_l0 pg_s4_e
set_option maxRecDepth 100000 in
/-- GlacierMailModel.isWord -/
def pg_s5 : ck_Sum := ((6, 0, 0), 245, [.inr (.inr (.inl 226)), .inr (.inr (.inr 60))], ([], [], [(0, 3, 3, ((-400), 400, [(31, 0)])), (0, 4, 4, ((-400), 400, [(32, 0)])), (0, 5, 5, ((-400), 400, [(33, 0)])), (226, 9, 9, (0, 400, [(1, 0)]))]), ([], []), [(.inr (some (.inl (ck_one 0))), 245, ([], [], [])), (.inr (some (.inl (ck_one 1))), 245, ([], [], [(0, 5, 5, ((-396), 400, [(33, 0), (31, 4)])), (226, 11, 11, (0, 396, [])), (0, 4, 4, (4, 4, [(32, 0)]))]))])
set_option maxRecDepth 100000 in
theorem pg_s5_e : ck_ok pg_O none [] [] 250 [] 288 pg_s5 = true := by decide +kernel
theorem pg_s5_s {X : Int → Int} {LX : Nat} : ck_Ok pg_O X LX 250 pg_s5 := ck_ok_s ⟨pg_nmu, ck_E0⟩ ck_X0 ck_l0 pg_s5_e
set_option maxRecDepth 100000 in
/-- GlacierMailModel.isWord -/
def pg_s6 : ck_Sum := ((6, 0, 0), 245, [.inr (.inr (.inl 226)), .inr (.inr (.inr 61))], ([], [], [(0, 3, 3, ((-400), 400, [(31, 0)])), (0, 4, 4, ((-400), 400, [(32, 0)])), (0, 5, 5, ((-400), 400, [(33, 0)])), (226, 9, 9, (0, 400, [(1, 0)]))]), ([], []), [(.inr (some (.inl (ck_one 0))), 245, ([], [], [])), (.inr (some (.inl (ck_one 1))), 245, ([], [], [(0, 5, 5, ((-396), 400, [(33, 0), (31, 4)])), (226, 11, 11, (0, 396, [])), (0, 4, 4, (4, 4, [(32, 0)]))]))])
set_option maxRecDepth 100000 in
theorem pg_s6_e : ck_ok pg_O none [] [] 250 [] 288 pg_s6 = true := by decide +kernel
theorem pg_s6_s {X : Int → Int} {LX : Nat} : ck_Ok pg_O X LX 250 pg_s6 := ck_ok_s ⟨pg_nmu, ck_E0⟩ ck_X0 ck_l0 pg_s6_e
set_option maxRecDepth 100000 in
/-- GlacierMailModel.isAt -/
def pg_s7 : ck_Sum := ((0, 0, 0), 245, [.inr (.inr (.inl 226)), .inl (ck_one 48), .inl (ck_one 57)], ([], [], [(226, 9, 9, (0, 400, [(1, 0)]))]), ([], []), [(.inr (some (.inl (ck_one 0))), 245, ([], [], [])), (.inr (some (.inl (ck_one 1))), 245, ([], [], [(226, 10, 10, (1, 400, [])), (226, 9, 9, (0, 399, [(1, 0)]))]))])
set_option maxRecDepth 100000 in
theorem pg_s7_e : ck_ok pg_O none [] [] 246 [] 114 pg_s7 = true := by decide +kernel
theorem pg_s7_s {X : Int → Int} {LX : Nat} : ck_Ok pg_O X LX 246 pg_s7 := ck_ok_s ⟨pg_nmu, ck_E0⟩ ck_X0 ck_l0 pg_s7_e
set_option maxRecDepth 100000 in
/-- GlacierMailModel.figures -/
def pg_s8 : ck_Sum := ((2, 0, 0), 245, [.inr (.inr (.inl 226)), .inl (ck_one 0), .inl (ck_one 20), .inl (ck_one 3)], ([], [], [(0, 3, 3, ((-400), 400, [(31, 0)])), (0, 4, 4, ((-400), 400, [(32, 0)])), (0, 5, 5, ((-400), 400, [(33, 0)])), (226, 9, 9, (0, 400, [(1, 0)]))]), ([(0, 3, 5), (226, 9, 9), (226, 11, 11)], []), [(.inr (some (.inl (ck_one (-1)))), 245, ([], [], [(0, 5, 5, ((-400), 400, [(1000033, 0)])), (226, 11, 11, (0, 400, [(1000001, 0)])), (0, 4, 4, (0, 400, [])), (0, 3, 3, ((-400), 400, [(1000033, 0)])), (226, 9, 9, (0, 400, [(1000001, 0)]))])), (.inr (some (.inl (0, 20, []))), 245, ([], [], [(0, 5, 5, ((-399), 400, [(1000033, 1)])), (226, 11, 11, (0, 399, [(1000001, 0)])), (0, 4, 4, (1, 3, [])), (0, 3, 3, ((-400), 400, [(1000033, 0)])), (226, 9, 9, (0, 400, [(1000001, 0)]))]))])
set_option maxRecDepth 100000 in
theorem pg_s8_e : ck_ok pg_O none [] [(245, [pg_s1]), (246, [pg_s7])] 256 [(7, [some (.inr (.inr (.inl 226))), some (.inl (ck_one 0)), some (.inl (ck_one 20)), some (.inl (ck_one 3)), some (.inl ((-2147483648), 2147483647, []))], ([], [], [(0, 5, 5, ((-400), 400, [(1000033, 0)])), (0, 3, 3, ((-400), 400, [(1000033, 0)])), (0, 4, 4, (0, 400, [])), (226, 11, 11, (0, 400, [(1000001, 0)])), (226, 9, 9, (0, 400, [(1000001, 0)]))]), 100, .inr (0, 5), true)] 222 pg_s8 = true := by decide +kernel
theorem pg_s8_s {X : Int → Int} {LX : Nat} : ck_Ok pg_O X LX 256 pg_s8 := ck_ok_s ⟨pg_nmu, ck_E1 (ck_S1 pg_s1_s ck_S0) (ck_E1 (ck_S1 pg_s7_s ck_S0) ck_E0)⟩ ck_X0 ck_l0 pg_s8_e
set_option maxRecDepth 100000 in
/-- GlacierMailModel.isWord -/
def pg_s9 : ck_Sum := ((6, 0, 0), 245, [.inr (.inr (.inl 226)), .inr (.inr (.inr 62))], ([], [], [(0, 3, 3, ((-400), 400, [(31, 0)])), (0, 4, 4, ((-400), 400, [(32, 0)])), (0, 5, 5, ((-400), 400, [(33, 0)])), (226, 9, 9, (0, 400, [(1, 0)]))]), ([], []), [(.inr (some (.inl (ck_one 0))), 245, ([], [], [])), (.inr (some (.inl (ck_one 1))), 245, ([], [], [(0, 5, 5, ((-398), 400, [(33, 0), (31, 2)])), (226, 11, 11, (0, 398, [])), (0, 4, 4, (2, 2, [(32, 0)]))]))])
set_option maxRecDepth 100000 in
theorem pg_s9_e : ck_ok pg_O none [] [] 250 [] 200 pg_s9 = true := by decide +kernel
theorem pg_s9_s {X : Int → Int} {LX : Nat} : ck_Ok pg_O X LX 250 pg_s9 := ck_ok_s ⟨pg_nmu, ck_E0⟩ ck_X0 ck_l0 pg_s9_e
set_option maxRecDepth 100000 in
/-- GlacierMailModel.isNext -/
def pg_s10 : ck_Sum := ((7, 0, 0), 245, [.inr (.inr (.inl 226)), .inr (.inr (.inr 62))], ([], [], [(0, 3, 3, ((-400), 400, [(31, 0)])), (0, 4, 4, ((-400), 400, [(32, 0)])), (0, 5, 5, ((-400), 400, [(33, 0)])), (226, 9, 9, (0, 400, [(1, 0)]))]), ([(0, 3, 5), (226, 9, 9), (226, 11, 11)], []), [(.inr (some (.inl (ck_one 0))), 245, ([], [], [(0, 5, 5, ((-400), 400, [(1000033, 0)])), (0, 3, 3, ((-400), 400, [(1000033, 0)])), (0, 4, 4, ck_one 0), (226, 9, 9, (0, 400, [(1000001, 0)])), (226, 11, 11, (0, 400, [(1000001, 0)]))])), (.inr (some (.inl (ck_one 1))), 245, ([], [], [(0, 5, 5, ((-398), 400, [(1000033, 2)])), (226, 11, 11, (0, 398, [])), (0, 4, 4, ck_one 2), (0, 3, 3, ((-400), 400, [(1000033, 0)])), (226, 9, 9, (0, 400, [(1000001, 0)]))]))])
set_option maxRecDepth 100000 in
theorem pg_s10_e : ck_ok pg_O none [] [(248, [pg_s3]), (250, [pg_s9])] 269 [] 94 pg_s10 = true := by decide +kernel
theorem pg_s10_s {X : Int → Int} {LX : Nat} : ck_Ok pg_O X LX 269 pg_s10 := ck_ok_s ⟨pg_nmu, ck_E1 (ck_S1 pg_s3_s ck_S0) (ck_E1 (ck_S1 pg_s9_s ck_S0) ck_E0)⟩ ck_X0 ck_l0 pg_s10_e
set_option maxRecDepth 100000 in
/-- GlacierMailModel.isAt -/
def pg_s11 : ck_Sum := ((0, 0, 0), 245, [.inr (.inr (.inl 226)), .inl (ck_one 40), .inl (ck_one 40)], ([], [], [(226, 9, 9, (0, 400, [(1, 0)]))]), ([], []), [(.inr (some (.inl (ck_one 0))), 245, ([], [], [])), (.inr (some (.inl (ck_one 1))), 245, ([], [], [(226, 10, 10, (1, 400, [])), (226, 9, 9, (0, 399, [(1, 0)]))]))])
set_option maxRecDepth 100000 in
theorem pg_s11_e : ck_ok pg_O none [] [] 246 [] 114 pg_s11 = true := by decide +kernel
theorem pg_s11_s {X : Int → Int} {LX : Nat} : ck_Ok pg_O X LX 246 pg_s11 := ck_ok_s ⟨pg_nmu, ck_E0⟩ ck_X0 ck_l0 pg_s11_e
set_option maxRecDepth 100000 in
/-- GlacierMailModel.sign -/
def pg_s12 : ck_Sum := ((2, 0, 0), 245, [.inr (.inr (.inl 226)), .inl (ck_one 40)], ([], [], [(0, 3, 3, ((-400), 400, [(31, 0)])), (0, 4, 4, ((-400), 400, [(32, 0)])), (0, 5, 5, ((-400), 400, [(33, 0)])), (226, 9, 9, (0, 400, [(1, 0)]))]), ([(0, 3, 5), (226, 9, 9), (226, 11, 11)], []), [(.inr (some (.inl (ck_one 0))), 245, ([], [], [(0, 5, 5, ((-400), 400, [(1000033, 0)])), (226, 11, 11, (0, 400, [(1000001, 0)])), (0, 3, 3, ((-400), 400, [(1000033, 0)])), (0, 4, 4, ck_one 0), (226, 9, 9, (0, 400, [(1000001, 0)]))])), (.inr (some (.inl (ck_one 1))), 245, ([], [], [(0, 5, 5, ((-399), 400, [(1000033, 1)])), (0, 3, 3, ((-400), 400, [(1000033, 0)])), (0, 4, 4, ck_one 1), (226, 9, 9, (1, 400, [(1000001, 1)])), (226, 11, 11, (0, 399, [(1000001, 0)])), (226, 10, 10, (1, 400, []))]))])
set_option maxRecDepth 100000 in
theorem pg_s12_e : ck_ok pg_O none [] [(245, [pg_s1]), (246, [pg_s11])] 278 [] 100 pg_s12 = true := by decide +kernel
theorem pg_s12_s {X : Int → Int} {LX : Nat} : ck_Ok pg_O X LX 278 pg_s12 := ck_ok_s ⟨pg_nmu, ck_E1 (ck_S1 pg_s1_s ck_S0) (ck_E1 (ck_S1 pg_s11_s ck_S0) ck_E0)⟩ ck_X0 ck_l0 pg_s12_e
set_option maxRecDepth 100000 in
/-- GlacierMailModel.isAt -/
def pg_s13 : ck_Sum := ((0, 0, 0), 245, [.inr (.inr (.inl 226)), .inl (ck_one 60), .inl (ck_one 60)], ([], [], [(226, 9, 9, (0, 400, [(1, 0)]))]), ([], []), [(.inr (some (.inl (ck_one 0))), 245, ([], [], [])), (.inr (some (.inl (ck_one 1))), 245, ([], [], [(226, 10, 10, (1, 400, [])), (226, 9, 9, (0, 399, [(1, 0)]))]))])
set_option maxRecDepth 100000 in
theorem pg_s13_e : ck_ok pg_O none [] [] 246 [] 114 pg_s13 = true := by decide +kernel
theorem pg_s13_s {X : Int → Int} {LX : Nat} : ck_Ok pg_O X LX 246 pg_s13 := ck_ok_s ⟨pg_nmu, ck_E0⟩ ck_X0 ck_l0 pg_s13_e
set_option maxRecDepth 100000 in
/-- GlacierMailModel.sign -/
def pg_s14 : ck_Sum := ((2, 0, 0), 245, [.inr (.inr (.inl 226)), .inl (ck_one 60)], ([], [], [(0, 3, 3, ((-400), 400, [(31, 0)])), (0, 4, 4, ((-400), 400, [(32, 0)])), (0, 5, 5, ((-400), 400, [(33, 0)])), (226, 9, 9, (0, 400, [(1, 0)]))]), ([(0, 3, 5), (226, 9, 9), (226, 11, 11)], []), [(.inr (some (.inl (ck_one 0))), 245, ([], [], [(0, 5, 5, ((-400), 400, [(1000033, 0)])), (226, 11, 11, (0, 400, [(1000001, 0)])), (0, 3, 3, ((-400), 400, [(1000033, 0)])), (0, 4, 4, ck_one 0), (226, 9, 9, (0, 400, [(1000001, 0)]))])), (.inr (some (.inl (ck_one 1))), 245, ([], [], [(0, 5, 5, ((-399), 400, [(1000033, 1)])), (0, 3, 3, ((-400), 400, [(1000033, 0)])), (0, 4, 4, ck_one 1), (226, 9, 9, (1, 400, [(1000001, 1)])), (226, 11, 11, (0, 399, [(1000001, 0)])), (226, 10, 10, (1, 400, []))]))])
set_option maxRecDepth 100000 in
theorem pg_s14_e : ck_ok pg_O none [] [(245, [pg_s1]), (246, [pg_s13])] 278 [] 100 pg_s14 = true := by decide +kernel
theorem pg_s14_s {X : Int → Int} {LX : Nat} : ck_Ok pg_O X LX 278 pg_s14 := ck_ok_s ⟨pg_nmu, ck_E1 (ck_S1 pg_s1_s ck_S0) (ck_E1 (ck_S1 pg_s13_s ck_S0) ck_E0)⟩ ck_X0 ck_l0 pg_s14_e
set_option maxRecDepth 100000 in
/-- GlacierMailModel.isAt -/
def pg_s15 : ck_Sum := ((0, 0, 0), 245, [.inr (.inr (.inl 226)), .inl (ck_one 62), .inl (ck_one 62)], ([], [], [(226, 9, 9, (0, 400, [(1, 0)]))]), ([], []), [(.inr (some (.inl (ck_one 0))), 245, ([], [], [])), (.inr (some (.inl (ck_one 1))), 245, ([], [], [(226, 10, 10, (1, 400, [])), (226, 9, 9, (0, 399, [(1, 0)]))]))])
set_option maxRecDepth 100000 in
theorem pg_s15_e : ck_ok pg_O none [] [] 246 [] 114 pg_s15 = true := by decide +kernel
theorem pg_s15_s {X : Int → Int} {LX : Nat} : ck_Ok pg_O X LX 246 pg_s15 := ck_ok_s ⟨pg_nmu, ck_E0⟩ ck_X0 ck_l0 pg_s15_e
set_option maxRecDepth 100000 in
/-- GlacierMailModel.sign -/
def pg_s16 : ck_Sum := ((2, 0, 0), 245, [.inr (.inr (.inl 226)), .inl (ck_one 62)], ([], [], [(0, 3, 3, ((-400), 400, [(31, 0)])), (0, 4, 4, ((-400), 400, [(32, 0)])), (0, 5, 5, ((-400), 400, [(33, 0)])), (226, 9, 9, (0, 400, [(1, 0)]))]), ([(0, 3, 5), (226, 9, 9), (226, 11, 11)], []), [(.inr (some (.inl (ck_one 0))), 245, ([], [], [(0, 5, 5, ((-400), 400, [(1000033, 0)])), (226, 11, 11, (0, 400, [(1000001, 0)])), (0, 3, 3, ((-400), 400, [(1000033, 0)])), (0, 4, 4, ck_one 0), (226, 9, 9, (0, 400, [(1000001, 0)]))])), (.inr (some (.inl (ck_one 1))), 245, ([], [], [(0, 5, 5, ((-399), 400, [(1000033, 1)])), (0, 3, 3, ((-400), 400, [(1000033, 0)])), (0, 4, 4, ck_one 1), (226, 9, 9, (1, 400, [(1000001, 1)])), (226, 11, 11, (0, 399, [(1000001, 0)])), (226, 10, 10, (1, 400, []))]))])
set_option maxRecDepth 100000 in
theorem pg_s16_e : ck_ok pg_O none [] [(245, [pg_s1]), (246, [pg_s15])] 278 [] 100 pg_s16 = true := by decide +kernel
theorem pg_s16_s {X : Int → Int} {LX : Nat} : ck_Ok pg_O X LX 278 pg_s16 := ck_ok_s ⟨pg_nmu, ck_E1 (ck_S1 pg_s1_s ck_S0) (ck_E1 (ck_S1 pg_s15_s ck_S0) ck_E0)⟩ ck_X0 ck_l0 pg_s16_e
set_option maxRecDepth 100000 in
/-- GlacierMailModel.isAt -/
def pg_s17 : ck_Sum := ((0, 0, 0), 245, [.inr (.inr (.inl 226)), .inl (ck_one 41), .inl (ck_one 41)], ([], [], [(226, 9, 9, (0, 400, [(1, 0)]))]), ([], []), [(.inr (some (.inl (ck_one 0))), 245, ([], [], [])), (.inr (some (.inl (ck_one 1))), 245, ([], [], [(226, 10, 10, (1, 400, [])), (226, 9, 9, (0, 399, [(1, 0)]))]))])
set_option maxRecDepth 100000 in
theorem pg_s17_e : ck_ok pg_O none [] [] 246 [] 114 pg_s17 = true := by decide +kernel
theorem pg_s17_s {X : Int → Int} {LX : Nat} : ck_Ok pg_O X LX 246 pg_s17 := ck_ok_s ⟨pg_nmu, ck_E0⟩ ck_X0 ck_l0 pg_s17_e
set_option maxRecDepth 100000 in
/-- GlacierMailModel.sign -/
def pg_s18 : ck_Sum := ((2, 0, 0), 245, [.inr (.inr (.inl 226)), .inl (ck_one 41)], ([], [], [(0, 3, 3, ((-400), 400, [(31, 0)])), (0, 4, 4, ((-400), 400, [(32, 0)])), (0, 5, 5, ((-400), 400, [(33, 0)])), (226, 9, 9, (0, 400, [(1, 0)]))]), ([(0, 3, 5), (226, 9, 9), (226, 11, 11)], []), [(.inr (some (.inl (ck_one 0))), 245, ([], [], [(0, 5, 5, ((-400), 400, [(1000033, 0)])), (226, 11, 11, (0, 400, [(1000001, 0)])), (0, 3, 3, ((-400), 400, [(1000033, 0)])), (0, 4, 4, ck_one 0), (226, 9, 9, (0, 400, [(1000001, 0)]))])), (.inr (some (.inl (ck_one 1))), 245, ([], [], [(0, 5, 5, ((-399), 400, [(1000033, 1)])), (0, 3, 3, ((-400), 400, [(1000033, 0)])), (0, 4, 4, ck_one 1), (226, 9, 9, (1, 400, [(1000001, 1)])), (226, 11, 11, (0, 399, [(1000001, 0)])), (226, 10, 10, (1, 400, []))]))])
set_option maxRecDepth 100000 in
theorem pg_s18_e : ck_ok pg_O none [] [(245, [pg_s1]), (246, [pg_s17])] 278 [] 100 pg_s18 = true := by decide +kernel
theorem pg_s18_s {X : Int → Int} {LX : Nat} : ck_Ok pg_O X LX 278 pg_s18 := ck_ok_s ⟨pg_nmu, ck_E1 (ck_S1 pg_s1_s ck_S0) (ck_E1 (ck_S1 pg_s17_s ck_S0) ck_E0)⟩ ck_X0 ck_l0 pg_s18_e
set_option maxRecDepth 100000 in
/-- GlacierMailModel.isWord -/
def pg_s19 : ck_Sum := ((6, 0, 0), 245, [.inr (.inr (.inl 226)), .inr (.inr (.inr 63))], ([], [], [(0, 3, 3, ((-400), 400, [(31, 0)])), (0, 4, 4, ((-400), 400, [(32, 0)])), (0, 5, 5, ((-400), 400, [(33, 0)])), (226, 9, 9, (0, 400, [(1, 0)]))]), ([], []), [(.inr (some (.inl (ck_one 0))), 245, ([], [], [])), (.inr (some (.inl (ck_one 1))), 245, ([], [], [(0, 5, 5, ((-397), 400, [(33, 0), (31, 3)])), (226, 11, 11, (0, 397, [])), (0, 4, 4, (3, 3, [(32, 0)]))]))])
set_option maxRecDepth 100000 in
theorem pg_s19_e : ck_ok pg_O none [] [] 250 [] 244 pg_s19 = true := by decide +kernel
theorem pg_s19_s {X : Int → Int} {LX : Nat} : ck_Ok pg_O X LX 250 pg_s19 := ck_ok_s ⟨pg_nmu, ck_E0⟩ ck_X0 ck_l0 pg_s19_e
set_option maxRecDepth 100000 in
/-- GlacierMailModel.isNext -/
def pg_s20 : ck_Sum := ((7, 0, 0), 245, [.inr (.inr (.inl 226)), .inr (.inr (.inr 63))], ([], [], [(0, 3, 3, ((-400), 400, [(31, 0)])), (0, 4, 4, ((-400), 400, [(32, 0)])), (0, 5, 5, ((-400), 400, [(33, 0)])), (226, 9, 9, (0, 400, [(1, 0)]))]), ([(0, 3, 5), (226, 9, 9), (226, 11, 11)], []), [(.inr (some (.inl (ck_one 0))), 245, ([], [], [(0, 5, 5, ((-400), 400, [(1000033, 0)])), (0, 3, 3, ((-400), 400, [(1000033, 0)])), (0, 4, 4, ck_one 0), (226, 9, 9, (0, 400, [(1000001, 0)])), (226, 11, 11, (0, 400, [(1000001, 0)]))])), (.inr (some (.inl (ck_one 1))), 245, ([], [], [(0, 5, 5, ((-397), 400, [(1000033, 3)])), (226, 11, 11, (0, 397, [])), (0, 4, 4, ck_one 3), (0, 3, 3, ((-400), 400, [(1000033, 0)])), (226, 9, 9, (0, 400, [(1000001, 0)]))]))])
set_option maxRecDepth 100000 in
theorem pg_s20_e : ck_ok pg_O none [] [(248, [pg_s3]), (250, [pg_s19])] 269 [] 94 pg_s20 = true := by decide +kernel
theorem pg_s20_s {X : Int → Int} {LX : Nat} : ck_Ok pg_O X LX 269 pg_s20 := ck_ok_s ⟨pg_nmu, ck_E1 (ck_S1 pg_s3_s ck_S0) (ck_E1 (ck_S1 pg_s19_s ck_S0) ck_E0)⟩ ck_X0 ck_l0 pg_s20_e
set_option maxRecDepth 100000 in
/-- GlacierMailModel.isWord -/
def pg_s21 : ck_Sum := ((6, 0, 0), 245, [.inr (.inr (.inl 226)), .inr (.inr (.inr 64))], ([], [], [(0, 3, 3, ((-400), 400, [(31, 0)])), (0, 4, 4, ((-400), 400, [(32, 0)])), (0, 5, 5, ((-400), 400, [(33, 0)])), (226, 9, 9, (0, 400, [(1, 0)]))]), ([], []), [(.inr (some (.inl (ck_one 0))), 245, ([], [], [])), (.inr (some (.inl (ck_one 1))), 245, ([], [], [(0, 5, 5, ((-396), 400, [(33, 0), (31, 4)])), (226, 11, 11, (0, 396, [])), (0, 4, 4, (4, 4, [(32, 0)]))]))])
set_option maxRecDepth 100000 in
theorem pg_s21_e : ck_ok pg_O none [] [] 250 [] 288 pg_s21 = true := by decide +kernel
theorem pg_s21_s {X : Int → Int} {LX : Nat} : ck_Ok pg_O X LX 250 pg_s21 := ck_ok_s ⟨pg_nmu, ck_E0⟩ ck_X0 ck_l0 pg_s21_e
set_option maxRecDepth 100000 in
/-- GlacierMailModel.isNext -/
def pg_s22 : ck_Sum := ((7, 0, 0), 245, [.inr (.inr (.inl 226)), .inr (.inr (.inr 64))], ([], [], [(0, 3, 3, ((-400), 400, [(31, 0)])), (0, 4, 4, ((-400), 400, [(32, 0)])), (0, 5, 5, ((-400), 400, [(33, 0)])), (226, 9, 9, (0, 400, [(1, 0)]))]), ([(0, 3, 5), (226, 9, 9), (226, 11, 11)], []), [(.inr (some (.inl (ck_one 0))), 245, ([], [], [(0, 5, 5, ((-400), 400, [(1000033, 0)])), (0, 3, 3, ((-400), 400, [(1000033, 0)])), (0, 4, 4, ck_one 0), (226, 9, 9, (0, 400, [(1000001, 0)])), (226, 11, 11, (0, 400, [(1000001, 0)]))])), (.inr (some (.inl (ck_one 1))), 245, ([], [], [(0, 5, 5, ((-396), 400, [(1000033, 4)])), (226, 11, 11, (0, 396, [])), (0, 4, 4, ck_one 4), (0, 3, 3, ((-400), 400, [(1000033, 0)])), (226, 9, 9, (0, 400, [(1000001, 0)]))]))])
set_option maxRecDepth 100000 in
theorem pg_s22_e : ck_ok pg_O none [] [(248, [pg_s3]), (250, [pg_s21])] 269 [] 94 pg_s22 = true := by decide +kernel
theorem pg_s22_s {X : Int → Int} {LX : Nat} : ck_Ok pg_O X LX 269 pg_s22 := ck_ok_s ⟨pg_nmu, ck_E1 (ck_S1 pg_s3_s ck_S0) (ck_E1 (ck_S1 pg_s21_s ck_S0) ck_E0)⟩ ck_X0 ck_l0 pg_s22_e
set_option maxRecDepth 100000 in
/-- GlacierMailModel.isWord -/
def pg_s23 : ck_Sum := ((6, 0, 0), 245, [.inr (.inr (.inl 226)), .inr (.inr (.inr 65))], ([], [], [(0, 3, 3, ((-400), 400, [(31, 0)])), (0, 4, 4, ((-400), 400, [(32, 0)])), (0, 5, 5, ((-400), 400, [(33, 0)])), (226, 9, 9, (0, 400, [(1, 0)]))]), ([], []), [(.inr (some (.inl (ck_one 0))), 245, ([], [], [])), (.inr (some (.inl (ck_one 1))), 245, ([], [], [(0, 5, 5, ((-395), 400, [(33, 0), (31, 5)])), (226, 11, 11, (0, 395, [])), (0, 4, 4, (5, 5, [(32, 0)]))]))])
set_option maxRecDepth 100000 in
theorem pg_s23_e : ck_ok pg_O none [] [] 250 [] 332 pg_s23 = true := by decide +kernel
theorem pg_s23_s {X : Int → Int} {LX : Nat} : ck_Ok pg_O X LX 250 pg_s23 := ck_ok_s ⟨pg_nmu, ck_E0⟩ ck_X0 ck_l0 pg_s23_e
set_option maxRecDepth 100000 in
/-- GlacierMailModel.isNext -/
def pg_s24 : ck_Sum := ((7, 0, 0), 245, [.inr (.inr (.inl 226)), .inr (.inr (.inr 65))], ([], [], [(0, 3, 3, ((-400), 400, [(31, 0)])), (0, 4, 4, ((-400), 400, [(32, 0)])), (0, 5, 5, ((-400), 400, [(33, 0)])), (226, 9, 9, (0, 400, [(1, 0)]))]), ([(0, 3, 5), (226, 9, 9), (226, 11, 11)], []), [(.inr (some (.inl (ck_one 0))), 245, ([], [], [(0, 5, 5, ((-400), 400, [(1000033, 0)])), (0, 3, 3, ((-400), 400, [(1000033, 0)])), (0, 4, 4, ck_one 0), (226, 9, 9, (0, 400, [(1000001, 0)])), (226, 11, 11, (0, 400, [(1000001, 0)]))])), (.inr (some (.inl (ck_one 1))), 245, ([], [], [(0, 5, 5, ((-395), 400, [(1000033, 5)])), (226, 11, 11, (0, 395, [])), (0, 4, 4, ck_one 5), (0, 3, 3, ((-400), 400, [(1000033, 0)])), (226, 9, 9, (0, 400, [(1000001, 0)]))]))])
set_option maxRecDepth 100000 in
theorem pg_s24_e : ck_ok pg_O none [] [(248, [pg_s3]), (250, [pg_s23])] 269 [] 94 pg_s24 = true := by decide +kernel
theorem pg_s24_s {X : Int → Int} {LX : Nat} : ck_Ok pg_O X LX 269 pg_s24 := ck_ok_s ⟨pg_nmu, ck_E1 (ck_S1 pg_s3_s ck_S0) (ck_E1 (ck_S1 pg_s23_s ck_S0) ck_E0)⟩ ck_X0 ck_l0 pg_s24_e
set_option maxRecDepth 100000 in
/-- GlacierMailModel.isWord -/
def pg_s25 : ck_Sum := ((6, 0, 0), 245, [.inr (.inr (.inl 226)), .inr (.inr (.inr 66))], ([], [], [(0, 3, 3, ((-400), 400, [(31, 0)])), (0, 4, 4, ((-400), 400, [(32, 0)])), (0, 5, 5, ((-400), 400, [(33, 0)])), (226, 9, 9, (0, 400, [(1, 0)]))]), ([], []), [(.inr (some (.inl (ck_one 0))), 245, ([], [], [])), (.inr (some (.inl (ck_one 1))), 245, ([], [], [(0, 5, 5, ((-396), 400, [(33, 0), (31, 4)])), (226, 11, 11, (0, 396, [])), (0, 4, 4, (4, 4, [(32, 0)]))]))])
set_option maxRecDepth 100000 in
theorem pg_s25_e : ck_ok pg_O none [] [] 250 [] 288 pg_s25 = true := by decide +kernel
theorem pg_s25_s {X : Int → Int} {LX : Nat} : ck_Ok pg_O X LX 250 pg_s25 := ck_ok_s ⟨pg_nmu, ck_E0⟩ ck_X0 ck_l0 pg_s25_e
set_option maxRecDepth 100000 in
/-- GlacierMailModel.isWord -/
def pg_s26 : ck_Sum := ((6, 0, 0), 245, [.inr (.inr (.inl 226)), .inr (.inr (.inr 67))], ([], [], [(0, 3, 3, ((-400), 400, [(31, 0)])), (0, 4, 4, ((-400), 400, [(32, 0)])), (0, 5, 5, ((-400), 400, [(33, 0)])), (226, 9, 9, (0, 400, [(1, 0)]))]), ([], []), [(.inr (some (.inl (ck_one 0))), 245, ([], [], [])), (.inr (some (.inl (ck_one 1))), 245, ([], [], [(0, 5, 5, ((-397), 400, [(33, 0), (31, 3)])), (226, 11, 11, (0, 397, [])), (0, 4, 4, (3, 3, [(32, 0)]))]))])
set_option maxRecDepth 100000 in
theorem pg_s26_e : ck_ok pg_O none [] [] 250 [] 244 pg_s26 = true := by decide +kernel
theorem pg_s26_s {X : Int → Int} {LX : Nat} : ck_Ok pg_O X LX 250 pg_s26 := ck_ok_s ⟨pg_nmu, ck_E0⟩ ck_X0 ck_l0 pg_s26_e
set_option maxRecDepth 100000 in
/-- GlacierMailModel.isWord -/
def pg_s27 : ck_Sum := ((6, 0, 0), 245, [.inr (.inr (.inl 226)), .inr (.inr (.inr 68))], ([], [], [(0, 3, 3, ((-400), 400, [(31, 0)])), (0, 4, 4, ((-400), 400, [(32, 0)])), (0, 5, 5, ((-400), 400, [(33, 0)])), (226, 9, 9, (0, 400, [(1, 0)]))]), ([], []), [(.inr (some (.inl (ck_one 0))), 245, ([], [], [])), (.inr (some (.inl (ck_one 1))), 245, ([], [], [(0, 5, 5, ((-396), 400, [(33, 0), (31, 4)])), (226, 11, 11, (0, 396, [])), (0, 4, 4, (4, 4, [(32, 0)]))]))])
set_option maxRecDepth 100000 in
theorem pg_s27_e : ck_ok pg_O none [] [] 250 [] 288 pg_s27 = true := by decide +kernel
theorem pg_s27_s {X : Int → Int} {LX : Nat} : ck_Ok pg_O X LX 250 pg_s27 := ck_ok_s ⟨pg_nmu, ck_E0⟩ ck_X0 ck_l0 pg_s27_e
set_option maxRecDepth 100000 in
/-- GlacierMailModel.isWord -/
def pg_s28 : ck_Sum := ((6, 0, 0), 245, [.inr (.inr (.inl 226)), .inr (.inr (.inr 69))], ([], [], [(0, 3, 3, ((-400), 400, [(31, 0)])), (0, 4, 4, ((-400), 400, [(32, 0)])), (0, 5, 5, ((-400), 400, [(33, 0)])), (226, 9, 9, (0, 400, [(1, 0)]))]), ([], []), [(.inr (some (.inl (ck_one 0))), 245, ([], [], [])), (.inr (some (.inl (ck_one 1))), 245, ([], [], [(0, 5, 5, ((-396), 400, [(33, 0), (31, 4)])), (226, 11, 11, (0, 396, [])), (0, 4, 4, (4, 4, [(32, 0)]))]))])
set_option maxRecDepth 100000 in
theorem pg_s28_e : ck_ok pg_O none [] [] 250 [] 288 pg_s28 = true := by decide +kernel
theorem pg_s28_s {X : Int → Int} {LX : Nat} : ck_Ok pg_O X LX 250 pg_s28 := ck_ok_s ⟨pg_nmu, ck_E0⟩ ck_X0 ck_l0 pg_s28_e
set_option maxRecDepth 100000 in
/-- GlacierMailModel.isWord -/
def pg_s29 : ck_Sum := ((6, 0, 0), 245, [.inr (.inr (.inl 226)), .inr (.inr (.inr 70))], ([], [], [(0, 3, 3, ((-400), 400, [(31, 0)])), (0, 4, 4, ((-400), 400, [(32, 0)])), (0, 5, 5, ((-400), 400, [(33, 0)])), (226, 9, 9, (0, 400, [(1, 0)]))]), ([], []), [(.inr (some (.inl (ck_one 0))), 245, ([], [], [])), (.inr (some (.inl (ck_one 1))), 245, ([], [], [(0, 5, 5, ((-395), 400, [(33, 0), (31, 5)])), (226, 11, 11, (0, 395, [])), (0, 4, 4, (5, 5, [(32, 0)]))]))])
set_option maxRecDepth 100000 in
theorem pg_s29_e : ck_ok pg_O none [] [] 250 [] 332 pg_s29 = true := by decide +kernel
theorem pg_s29_s {X : Int → Int} {LX : Nat} : ck_Ok pg_O X LX 250 pg_s29 := ck_ok_s ⟨pg_nmu, ck_E0⟩ ck_X0 ck_l0 pg_s29_e
set_option maxRecDepth 100000 in
/-- GlacierMailModel.isWord -/
def pg_s30 : ck_Sum := ((6, 0, 0), 245, [.inr (.inr (.inl 226)), .inr (.inr (.inr 53))], ([], [], [(0, 3, 3, ((-400), 400, [(31, 0)])), (0, 4, 4, ((-400), 400, [(32, 0)])), (0, 5, 5, ((-400), 400, [(33, 0)])), (226, 9, 9, (0, 400, [(1, 0)]))]), ([], []), [(.inr (some (.inl (ck_one 0))), 245, ([], [], [])), (.inr (some (.inl (ck_one 1))), 245, ([], [], [(0, 5, 5, ((-394), 400, [(33, 0), (31, 6)])), (226, 11, 11, (0, 394, [])), (0, 4, 4, (6, 6, [(32, 0)]))]))])
set_option maxRecDepth 100000 in
theorem pg_s30_e : ck_ok pg_O none [] [] 250 [] 376 pg_s30 = true := by decide +kernel
theorem pg_s30_s {X : Int → Int} {LX : Nat} : ck_Ok pg_O X LX 250 pg_s30 := ck_ok_s ⟨pg_nmu, ck_E0⟩ ck_X0 ck_l0 pg_s30_e
set_option maxRecDepth 100000 in
/-- GlacierMailModel.isWord -/
def pg_s31 : ck_Sum := ((6, 0, 0), 245, [.inr (.inr (.inl 226)), .inr (.inr (.inr 71))], ([], [], [(0, 3, 3, ((-400), 400, [(31, 0)])), (0, 4, 4, ((-400), 400, [(32, 0)])), (0, 5, 5, ((-400), 400, [(33, 0)])), (226, 9, 9, (0, 400, [(1, 0)]))]), ([], []), [(.inr (some (.inl (ck_one 0))), 245, ([], [], [])), (.inr (some (.inl (ck_one 1))), 245, ([], [], [(0, 5, 5, ((-397), 400, [(33, 0), (31, 3)])), (226, 11, 11, (0, 397, [])), (0, 4, 4, (3, 3, [(32, 0)]))]))])
set_option maxRecDepth 100000 in
theorem pg_s31_e : ck_ok pg_O none [] [] 250 [] 244 pg_s31 = true := by decide +kernel
theorem pg_s31_s {X : Int → Int} {LX : Nat} : ck_Ok pg_O X LX 250 pg_s31 := ck_ok_s ⟨pg_nmu, ck_E0⟩ ck_X0 ck_l0 pg_s31_e
set_option maxRecDepth 100000 in
/-- GlacierMailModel.isWord -/
def pg_s32 : ck_Sum := ((6, 0, 0), 245, [.inr (.inr (.inl 226)), .inr (.inr (.inr 72))], ([], [], [(0, 3, 3, ((-400), 400, [(31, 0)])), (0, 4, 4, ((-400), 400, [(32, 0)])), (0, 5, 5, ((-400), 400, [(33, 0)])), (226, 9, 9, (0, 400, [(1, 0)]))]), ([], []), [(.inr (some (.inl (ck_one 0))), 245, ([], [], [])), (.inr (some (.inl (ck_one 1))), 245, ([], [], [(0, 5, 5, ((-396), 400, [(33, 0), (31, 4)])), (226, 11, 11, (0, 396, [])), (0, 4, 4, (4, 4, [(32, 0)]))]))])
set_option maxRecDepth 100000 in
theorem pg_s32_e : ck_ok pg_O none [] [] 250 [] 288 pg_s32 = true := by decide +kernel
theorem pg_s32_s {X : Int → Int} {LX : Nat} : ck_Ok pg_O X LX 250 pg_s32 := ck_ok_s ⟨pg_nmu, ck_E0⟩ ck_X0 ck_l0 pg_s32_e
set_option maxRecDepth 100000 in
/-- GlacierMailModel.figures -/
def pg_s34 : ck_Sum := ((2, 0, 0), 245, [.inr (.inr (.inl 226)), .inl (ck_one 0), .inl (ck_one 999), .inl (ck_one 3)], ([], [], [(0, 3, 3, ((-400), 400, [(31, 0)])), (0, 4, 4, ((-400), 400, [(32, 0)])), (0, 5, 5, ((-400), 400, [(33, 0)])), (226, 9, 9, (0, 400, [(1, 0)]))]), ([(0, 3, 5), (226, 9, 9), (226, 11, 11)], []), [(.inr (some (.inl (ck_one (-1)))), 245, ([], [], [(0, 5, 5, ((-400), 400, [(1000033, 0)])), (226, 11, 11, (0, 400, [(1000001, 0)])), (0, 4, 4, (0, 400, [])), (0, 3, 3, ((-400), 400, [(1000033, 0)])), (226, 9, 9, (0, 400, [(1000001, 0)]))])), (.inr (some (.inl (0, 999, []))), 245, ([], [], [(0, 5, 5, ((-399), 400, [(1000033, 1)])), (226, 11, 11, (0, 399, [(1000001, 0)])), (0, 4, 4, (1, 3, [])), (0, 3, 3, ((-400), 400, [(1000033, 0)])), (226, 9, 9, (0, 400, [(1000001, 0)]))]))])
set_option maxRecDepth 100000 in
theorem pg_s34_e : ck_ok pg_O none [] [(245, [pg_s1]), (246, [pg_s7])] 256 [(7, [some (.inr (.inr (.inl 226))), some (.inl (ck_one 0)), some (.inl (ck_one 999)), some (.inl (ck_one 3)), some (.inl ((-2147483648), 2147483647, []))], ([], [], [(0, 5, 5, ((-400), 400, [(1000033, 0)])), (0, 3, 3, ((-400), 400, [(1000033, 0)])), (0, 4, 4, (0, 400, [])), (226, 11, 11, (0, 400, [(1000001, 0)])), (226, 9, 9, (0, 400, [(1000001, 0)]))]), 100, .inr (0, 5), true)] 222 pg_s34 = true := by decide +kernel
theorem pg_s34_s {X : Int → Int} {LX : Nat} : ck_Ok pg_O X LX 256 pg_s34 := ck_ok_s ⟨pg_nmu, ck_E1 (ck_S1 pg_s1_s ck_S0) (ck_E1 (ck_S1 pg_s7_s ck_S0) ck_E0)⟩ ck_X0 ck_l0 pg_s34_e
set_option maxRecDepth 100000 in
/-- GlacierMailModel.readPart -/
def pg_s35 : ck_Sum := ((7, 0, 0), 245, [.inr (.inr (.inl 226))], ([], [], [(0, 0, 0, (0, 400, [(30, 0)])), (0, 3, 3, ((-400), 400, [(31, 0)])), (0, 4, 4, ((-400), 400, [(32, 0)])), (0, 5, 5, (1, 400, [(33, 0)])), (226, 9, 9, (0, 400, [(1, 0)]))]), ([(0, 0, 0), (0, 3, 5), (226, 9, 9), (226, 11, 11), (226, 15, 15), (227, 1293, 2092)], []), [(.inr (some (.inl (ck_one 0))), 245, ([], [], [(0, 5, 5, (0, 399, [(1000033, (-1))])), (226, 11, 11, (0, 400, [(1000001, 0)])), (0, 0, 0, (1, 400, [(30, 1)])), (0, 3, 3, (0, 399, [(1000033, (-1))])), (226, 15, 15, (1, 400, [])), (0, 4, 4, (0, 400, [])), (226, 9, 9, (0, 400, [(1000001, 0)]))])), (.inr (some (.inl (ck_one 1))), 245, ([], [], [(0, 5, 5, (1, 399, [(1000033, 0)])), (226, 11, 11, (0, 399, [])), (0, 0, 0, (1, 400, [(30, 1)])), (0, 3, 3, (0, 399, [(1000033, (-1))])), (226, 15, 15, (1, 400, [])), (0, 4, 4, (1, 6, [])), (226, 9, 9, (0, 400, [(1000001, 0)]))]))])
set_option maxRecDepth 100000 in
theorem pg_s35_e : ck_ok pg_O none [] [(248, [pg_s3]), (250, [pg_s25, pg_s26, pg_s27, pg_s28, pg_s29, pg_s30, pg_s31, pg_s32]), (279, [pg_em0]), (256, [pg_s34])] 281 [] 172 pg_s35 = true := by decide +kernel
theorem pg_s35_s {X : Int → Int} {LX : Nat} : ck_Ok pg_O X LX 281 pg_s35 := ck_ok_s ⟨pg_nmu, ck_E1 (ck_S1 pg_s3_s ck_S0) (ck_E1 (ck_S1 pg_s25_s (ck_S1 pg_s26_s (ck_S1 pg_s27_s (ck_S1 pg_s28_s (ck_S1 pg_s29_s (ck_S1 pg_s30_s (ck_S1 pg_s31_s (ck_S1 pg_s32_s ck_S0)))))))) (ck_E1 (ck_S1 pg_em0_s ck_S0) (ck_E1 (ck_S1 pg_s34_s ck_S0) ck_E0)))⟩ ck_X0 ck_l0 pg_s35_e
set_option maxRecDepth 100000 in
/-- GlacierMailModel.isAt -/
def pg_s36 : ck_Sum := ((0, 0, 0), 245, [.inr (.inr (.inl 226)), .inl (ck_one 43), .inl (ck_one 43)], ([], [], [(226, 9, 9, (0, 400, [(1, 0)]))]), ([], []), [(.inr (some (.inl (ck_one 0))), 245, ([], [], [])), (.inr (some (.inl (ck_one 1))), 245, ([], [], [(226, 10, 10, (1, 400, [])), (226, 9, 9, (0, 399, [(1, 0)]))]))])
set_option maxRecDepth 100000 in
theorem pg_s36_e : ck_ok pg_O none [] [] 246 [] 114 pg_s36 = true := by decide +kernel
theorem pg_s36_s {X : Int → Int} {LX : Nat} : ck_Ok pg_O X LX 246 pg_s36 := ck_ok_s ⟨pg_nmu, ck_E0⟩ ck_X0 ck_l0 pg_s36_e
set_option maxRecDepth 100000 in
/-- GlacierMailModel.sign -/
def pg_s37 : ck_Sum := ((2, 0, 0), 245, [.inr (.inr (.inl 226)), .inl (ck_one 43)], ([], [], [(0, 3, 3, ((-400), 400, [(31, 0)])), (0, 4, 4, ((-400), 400, [(32, 0)])), (0, 5, 5, ((-400), 400, [(33, 0)])), (226, 9, 9, (0, 400, [(1, 0)]))]), ([(0, 3, 5), (226, 9, 9), (226, 11, 11)], []), [(.inr (some (.inl (ck_one 0))), 245, ([], [], [(0, 5, 5, ((-400), 400, [(1000033, 0)])), (226, 11, 11, (0, 400, [(1000001, 0)])), (0, 3, 3, ((-400), 400, [(1000033, 0)])), (0, 4, 4, ck_one 0), (226, 9, 9, (0, 400, [(1000001, 0)]))])), (.inr (some (.inl (ck_one 1))), 245, ([], [], [(0, 5, 5, ((-399), 400, [(1000033, 1)])), (0, 3, 3, ((-400), 400, [(1000033, 0)])), (0, 4, 4, ck_one 1), (226, 9, 9, (1, 400, [(1000001, 1)])), (226, 11, 11, (0, 399, [(1000001, 0)])), (226, 10, 10, (1, 400, []))]))])
set_option maxRecDepth 100000 in
theorem pg_s37_e : ck_ok pg_O none [] [(245, [pg_s1]), (246, [pg_s36])] 278 [] 100 pg_s37 = true := by decide +kernel
theorem pg_s37_s {X : Int → Int} {LX : Nat} : ck_Ok pg_O X LX 278 pg_s37 := ck_ok_s ⟨pg_nmu, ck_E1 (ck_S1 pg_s1_s ck_S0) (ck_E1 (ck_S1 pg_s36_s ck_S0) ck_E0)⟩ ck_X0 ck_l0 pg_s37_e
set_option maxRecDepth 100000 in
/-- GlacierMailModel.readSum -/
def pg_s39 : ck_Sum := ((8, 0, 0), 245, [.inr (.inr (.inl 226))], ([], [], [(0, 0, 0, (0, 400, [(30, 0)])), (0, 3, 3, ((-400), 400, [(31, 0)])), (0, 4, 4, ((-400), 400, [(32, 0)])), (0, 5, 5, (1, 400, [(33, 0)])), (226, 9, 9, (0, 400, [(1, 0)])), (226, 15, 15, (0, 400, [(2, 0)]))]), ([(0, 0, 0), (0, 3, 5), (226, 9, 9), (226, 11, 11), (226, 15, 15), (227, 1293, 2092)], []), [(.inr (some (.inl (ck_one 0))), 245, ([], [], [(0, 5, 5, (0, 399, [(1000033, (-1))])), (226, 11, 11, (0, 400, [(1000001, 0)])), (0, 0, 0, (1, 400, [(1000030, 1)])), (0, 3, 3, (0, 399, [(1000033, (-1))])), (226, 15, 15, (1, 400, [])), (0, 4, 4, (0, 400, [])), (226, 9, 9, (0, 400, [(1000001, 0)]))])), (.inr (some (.inl (ck_one 1))), 245, ([], [], [(0, 5, 5, (1, 400, [(1000033, 0)])), (226, 11, 11, (0, 400, [(1000001, 0)])), (0, 3, 3, (1, 400, [(1000033, 0)])), (0, 4, 4, ck_one 0), (226, 9, 9, (0, 400, [(1000001, 0)])), (0, 0, 0, (1, 400, [(30, 1)])), (226, 15, 15, (1, 400, []))]))])
set_option maxRecDepth 100000 in
theorem pg_s39_e : ck_ok pg_O none [] [(281, [pg_s35]), (278, [pg_s37]), (279, [pg_em1])] 280 [(9, [some (.inr (.inr (.inl 226)))], ([], [], [(0, 5, 5, (1, 399, [(1000033, 0)])), (226, 11, 11, (0, 399, [])), (0, 0, 0, (1, 400, [(30, 1)])), (0, 3, 3, (0, 399, [(1000033, (-1))])), (226, 15, 15, (1, 400, [])), (0, 4, 4, (1, 6, [])), (226, 9, 9, (0, 400, [(1000001, 0)]))]), 100, .inr (226, 9), true)] 142 pg_s39 = true := by decide +kernel
theorem pg_s39_s {X : Int → Int} {LX : Nat} : ck_Ok pg_O X LX 280 pg_s39 := ck_ok_s ⟨pg_nmu, ck_E1 (ck_S1 pg_s35_s ck_S0) (ck_E1 (ck_S1 pg_s37_s ck_S0) (ck_E1 (ck_S1 pg_em1_s ck_S0) ck_E0))⟩ ck_X0 ck_l0 pg_s39_e
set_option maxRecDepth 100000 in
/-- GlacierMailModel.readAtom -/
def pg_s41 : ck_Sum := ((9, 0, 0), 245, [.inr (.inr (.inl 226))], ([], [], [(226, 12, 12, ck_one 6), (0, 0, 0, (0, 400, [(30, 0)])), (0, 3, 3, ((-400), 400, [(31, 0)])), (0, 4, 4, ((-400), 400, [(32, 0)])), (0, 5, 5, (1, 400, [(33, 0)])), (226, 9, 9, (0, 400, [(1, 0)])), (226, 15, 15, (0, 400, [(2, 0)]))]), ([(0, 0, 0), (0, 3, 5), (226, 9, 9), (226, 11, 11), (226, 15, 15), (227, 1293, 2092)], []), [(.inr (some (.inl (ck_one 0))), 245, ([], [], [(0, 5, 5, (0, 400, [(1000033, (-1))])), (0, 0, 0, (0, 400, [(1000030, 0)])), (0, 3, 3, (0, 400, [(1000033, (-1))])), (0, 4, 4, (0, 400, [])), (226, 9, 9, (0, 400, [(1000001, 0)]))])), (.inr (some (.inl (ck_one 1))), 245, ([], [], [(0, 0, 0, (1, 400, [(30, 1)])), (0, 3, 3, (0, 399, [(1000033, (-1))])), (0, 5, 5, (1, 399, [(1000033, 0)])), (226, 15, 15, (1, 400, [])), (0, 4, 4, (0, 5, [])), (226, 9, 9, (0, 400, [(1000001, 0)]))]))])
set_option maxRecDepth 100000 in
theorem pg_s41_e : ck_ok pg_O none [] [(278, [pg_s12, pg_s14, pg_s16]), (269, [pg_s20, pg_s22, pg_s24]), (280, [pg_s39]), (279, [pg_em1, pg_em0])] 277 [] 154 pg_s41 = true := by decide +kernel
theorem pg_s41_s {X : Int → Int} {LX : Nat} : ck_Ok pg_O X LX 277 pg_s41 := ck_ok_s ⟨pg_nmu, ck_E1 (ck_S1 pg_s12_s (ck_S1 pg_s14_s (ck_S1 pg_s16_s ck_S0))) (ck_E1 (ck_S1 pg_s20_s (ck_S1 pg_s22_s (ck_S1 pg_s24_s ck_S0))) (ck_E1 (ck_S1 pg_s39_s ck_S0) (ck_E1 (ck_S1 pg_em1_s (ck_S1 pg_em0_s ck_S0)) ck_E0)))⟩ ck_X0 ck_l0 pg_s41_e
set_option maxRecDepth 100000 in
/-- GlacierMailModel.isWord -/
def pg_s42 : ck_Sum := ((6, 0, 0), 245, [.inr (.inr (.inl 226)), .inr (.inr (.inr 73))], ([], [], [(0, 3, 3, ((-400), 400, [(31, 0)])), (0, 4, 4, ((-400), 400, [(32, 0)])), (0, 5, 5, ((-400), 400, [(33, 0)])), (226, 9, 9, (0, 400, [(1, 0)]))]), ([], []), [(.inr (some (.inl (ck_one 0))), 245, ([], [], [])), (.inr (some (.inl (ck_one 1))), 245, ([], [], [(0, 5, 5, ((-397), 400, [(33, 0), (31, 3)])), (226, 11, 11, (0, 397, [])), (0, 4, 4, (3, 3, [(32, 0)]))]))])
set_option maxRecDepth 100000 in
theorem pg_s42_e : ck_ok pg_O none [] [] 250 [] 244 pg_s42 = true := by decide +kernel
theorem pg_s42_s {X : Int → Int} {LX : Nat} : ck_Ok pg_O X LX 250 pg_s42 := ck_ok_s ⟨pg_nmu, ck_E0⟩ ck_X0 ck_l0 pg_s42_e
set_option maxRecDepth 100000 in
/-- GlacierMailModel.isNext -/
def pg_s43 : ck_Sum := ((7, 0, 0), 245, [.inr (.inr (.inl 226)), .inr (.inr (.inr 73))], ([], [], [(0, 3, 3, ((-400), 400, [(31, 0)])), (0, 4, 4, ((-400), 400, [(32, 0)])), (0, 5, 5, ((-400), 400, [(33, 0)])), (226, 9, 9, (0, 400, [(1, 0)]))]), ([(0, 3, 5), (226, 9, 9), (226, 11, 11)], []), [(.inr (some (.inl (ck_one 0))), 245, ([], [], [(0, 5, 5, ((-400), 400, [(1000033, 0)])), (0, 3, 3, ((-400), 400, [(1000033, 0)])), (0, 4, 4, ck_one 0), (226, 9, 9, (0, 400, [(1000001, 0)])), (226, 11, 11, (0, 400, [(1000001, 0)]))])), (.inr (some (.inl (ck_one 1))), 245, ([], [], [(0, 5, 5, ((-397), 400, [(1000033, 3)])), (226, 11, 11, (0, 397, [])), (0, 4, 4, ck_one 3), (0, 3, 3, ((-400), 400, [(1000033, 0)])), (226, 9, 9, (0, 400, [(1000001, 0)]))]))])
set_option maxRecDepth 100000 in
theorem pg_s43_e : ck_ok pg_O none [] [(248, [pg_s3]), (250, [pg_s42])] 269 [] 94 pg_s43 = true := by decide +kernel
theorem pg_s43_s {X : Int → Int} {LX : Nat} : ck_Ok pg_O X LX 269 pg_s43 := ck_ok_s ⟨pg_nmu, ck_E1 (ck_S1 pg_s3_s ck_S0) (ck_E1 (ck_S1 pg_s42_s ck_S0) ck_E0)⟩ ck_X0 ck_l0 pg_s43_e
set_option maxRecDepth 100000 in
/-- GlacierMailModel.readAllOf -/
def pg_s45 : ck_Sum := ((10, 0, 0), 245, [.inr (.inr (.inl 226))], ([], [], [(226, 12, 12, ck_one 6), (0, 0, 0, (0, 400, [(30, 0)])), (0, 3, 3, ((-400), 400, [(31, 0)])), (0, 4, 4, ((-400), 400, [(32, 0)])), (0, 5, 5, (1, 400, [(33, 0)])), (226, 9, 9, (0, 400, [(1, 0)])), (226, 15, 15, (0, 400, [(2, 0)]))]), ([(0, 0, 0), (0, 3, 5), (226, 9, 9), (226, 11, 11), (226, 15, 15), (227, 1293, 2092)], []), [(.inr (some (.inl (ck_one 0))), 245, ([], [], [(0, 5, 5, (0, 400, [(1000033, (-1))])), (0, 0, 0, (0, 400, [(1000030, 0)])), (0, 3, 3, (0, 400, [(1000033, (-1))])), (0, 4, 4, (0, 400, [])), (226, 9, 9, (0, 400, [(1000001, 0)]))])), (.inr (some (.inl (ck_one 1))), 245, ([], [], [(0, 5, 5, (1, 400, [(1000033, 0)])), (226, 11, 11, (0, 400, [(1000001, 0)])), (0, 3, 3, (1, 400, [(1000033, 0)])), (0, 4, 4, ck_one 0), (226, 9, 9, (0, 400, [(1000001, 0)])), (0, 0, 0, (1, 400, [(30, 1)])), (226, 15, 15, (1, 400, []))]))])
set_option maxRecDepth 100000 in
theorem pg_s45_e : ck_ok pg_O none [] [(277, [pg_s41]), (269, [pg_s43]), (279, [pg_em3])] 276 [(9, [some (.inr (.inr (.inl 226)))], ([], [], [(0, 5, 5, (1, 399, [(1000033, 0)])), (226, 11, 11, (0, 400, [])), (0, 0, 0, (1, 400, [(30, 1)])), (0, 3, 3, (0, 399, [(1000033, (-1))])), (226, 15, 15, (1, 400, [])), (0, 4, 4, (0, 5, [])), (226, 9, 9, (0, 400, [(1000001, 0)])), (226, 12, 12, ck_one 6)]), 100, .inr (0, 5), true)] 142 pg_s45 = true := by decide +kernel
theorem pg_s45_s {X : Int → Int} {LX : Nat} : ck_Ok pg_O X LX 276 pg_s45 := ck_ok_s ⟨pg_nmu, ck_E1 (ck_S1 pg_s41_s ck_S0) (ck_E1 (ck_S1 pg_s43_s ck_S0) (ck_E1 (ck_S1 pg_em3_s ck_S0) ck_E0))⟩ ck_X0 ck_l0 pg_s45_e
set_option maxRecDepth 100000 in
/-- GlacierMailModel.isWord -/
def pg_s46 : ck_Sum := ((6, 0, 0), 245, [.inr (.inr (.inl 226)), .inr (.inr (.inr 74))], ([], [], [(0, 3, 3, ((-400), 400, [(31, 0)])), (0, 4, 4, ((-400), 400, [(32, 0)])), (0, 5, 5, ((-400), 400, [(33, 0)])), (226, 9, 9, (0, 400, [(1, 0)]))]), ([], []), [(.inr (some (.inl (ck_one 0))), 245, ([], [], [])), (.inr (some (.inl (ck_one 1))), 245, ([], [], [(0, 5, 5, ((-398), 400, [(33, 0), (31, 2)])), (226, 11, 11, (0, 398, [])), (0, 4, 4, (2, 2, [(32, 0)]))]))])
set_option maxRecDepth 100000 in
theorem pg_s46_e : ck_ok pg_O none [] [] 250 [] 200 pg_s46 = true := by decide +kernel
theorem pg_s46_s {X : Int → Int} {LX : Nat} : ck_Ok pg_O X LX 250 pg_s46 := ck_ok_s ⟨pg_nmu, ck_E0⟩ ck_X0 ck_l0 pg_s46_e
set_option maxRecDepth 100000 in
/-- GlacierMailModel.isNext -/
def pg_s47 : ck_Sum := ((7, 0, 0), 245, [.inr (.inr (.inl 226)), .inr (.inr (.inr 74))], ([], [], [(0, 3, 3, ((-400), 400, [(31, 0)])), (0, 4, 4, ((-400), 400, [(32, 0)])), (0, 5, 5, ((-400), 400, [(33, 0)])), (226, 9, 9, (0, 400, [(1, 0)]))]), ([(0, 3, 5), (226, 9, 9), (226, 11, 11)], []), [(.inr (some (.inl (ck_one 0))), 245, ([], [], [(0, 5, 5, ((-400), 400, [(1000033, 0)])), (0, 3, 3, ((-400), 400, [(1000033, 0)])), (0, 4, 4, ck_one 0), (226, 9, 9, (0, 400, [(1000001, 0)])), (226, 11, 11, (0, 400, [(1000001, 0)]))])), (.inr (some (.inl (ck_one 1))), 245, ([], [], [(0, 5, 5, ((-398), 400, [(1000033, 2)])), (226, 11, 11, (0, 398, [])), (0, 4, 4, ck_one 2), (0, 3, 3, ((-400), 400, [(1000033, 0)])), (226, 9, 9, (0, 400, [(1000001, 0)]))]))])
set_option maxRecDepth 100000 in
theorem pg_s47_e : ck_ok pg_O none [] [(248, [pg_s3]), (250, [pg_s46])] 269 [] 94 pg_s47 = true := by decide +kernel
theorem pg_s47_s {X : Int → Int} {LX : Nat} : ck_Ok pg_O X LX 269 pg_s47 := ck_ok_s ⟨pg_nmu, ck_E1 (ck_S1 pg_s3_s ck_S0) (ck_E1 (ck_S1 pg_s46_s ck_S0) ck_E0)⟩ ck_X0 ck_l0 pg_s47_e
set_option maxRecDepth 100000 in
/-- GlacierMailModel.readCond -/
def pg_s48 : ck_Sum := ((11, 0, 0), 245, [.inr (.inr (.inl 226))], ([], [], [(226, 12, 12, ck_one 6), (0, 0, 0, (0, 400, [(30, 0)])), (0, 3, 3, ((-400), 400, [(31, 0)])), (0, 4, 4, ((-400), 400, [(32, 0)])), (0, 5, 5, (1, 400, [(33, 0)])), (226, 9, 9, (0, 400, [(1, 0)])), (226, 15, 15, (0, 400, [(2, 0)]))]), ([(0, 0, 0), (0, 3, 5), (226, 9, 9), (226, 11, 11), (226, 15, 15), (227, 1293, 2092)], []), [(.inr (some (.inl (ck_one 0))), 245, ([], [], [(0, 5, 5, (0, 400, [(1000033, (-1))])), (0, 0, 0, (0, 400, [(1000030, 0)])), (0, 3, 3, (0, 400, [(1000033, (-1))])), (0, 4, 4, (0, 400, [])), (226, 9, 9, (0, 400, [(1000001, 0)]))])), (.inr (some (.inl (ck_one 1))), 245, ([], [], [(0, 5, 5, (1, 400, [(1000033, 0)])), (226, 11, 11, (0, 400, [(1000001, 0)])), (0, 3, 3, (1, 400, [(1000033, 0)])), (0, 4, 4, ck_one 0), (226, 9, 9, (0, 400, [(1000001, 0)])), (0, 0, 0, (1, 400, [(30, 1)])), (226, 15, 15, (1, 400, []))]))])
set_option maxRecDepth 100000 in
theorem pg_s48_e : ck_ok pg_O none [] [(276, [pg_s45]), (269, [pg_s47]), (279, [pg_em3])] 275 [(9, [some (.inr (.inr (.inl 226)))], ([], [], [(0, 5, 5, (1, 400, [(1000033, 0)])), (226, 11, 11, (0, 400, [(1000001, 0)])), (0, 3, 3, (1, 400, [(1000033, 0)])), (0, 4, 4, ck_one 0), (226, 9, 9, (0, 400, [(1000001, 0)])), (0, 0, 0, (1, 400, [(30, 1)])), (226, 15, 15, (1, 400, [])), (226, 12, 12, ck_one 6)]), 100, .inr (0, 5), true)] 142 pg_s48 = true := by decide +kernel
theorem pg_s48_s {X : Int → Int} {LX : Nat} : ck_Ok pg_O X LX 275 pg_s48 := ck_ok_s ⟨pg_nmu, ck_E1 (ck_S1 pg_s45_s ck_S0) (ck_E1 (ck_S1 pg_s47_s ck_S0) (ck_E1 (ck_S1 pg_em3_s ck_S0) ck_E0))⟩ ck_X0 ck_l0 pg_s48_e
set_option maxRecDepth 100000 in
/-- GlacierMailModel.readAtom -/
def pg_s49 : ck_Sum := ((12, 0, 0), 245, [.inr (.inr (.inl 226))], ([], [], [(226, 12, 12, ck_one 5), (0, 0, 0, (0, 400, [(30, 0)])), (0, 3, 3, ((-400), 400, [(31, 0)])), (0, 4, 4, ((-400), 400, [(32, 0)])), (0, 5, 5, (1, 400, [(33, 0)])), (226, 9, 9, (0, 400, [(1, 0)])), (226, 15, 15, (0, 400, [(2, 0)]))]), ([(0, 0, 0), (0, 3, 5), (226, 9, 9), (226, 11, 12), (226, 15, 15), (227, 1293, 2092)], []), [(.inr (some (.inl (ck_one 0))), 245, ([], [], [(0, 5, 5, (0, 400, [(1000033, (-1))])), (0, 0, 0, (0, 400, [(1000030, 0)])), (0, 3, 3, (0, 400, [(1000033, (-1))])), (0, 4, 4, (0, 400, [])), (226, 9, 9, (0, 400, [(1000001, 0)])), (226, 12, 12, (5, 6, []))])), (.inr (some (.inl (ck_one 1))), 245, ([], [], [(0, 0, 0, (1, 400, [(30, 1)])), (0, 3, 3, (0, 400, [(1000033, (-1))])), (0, 5, 5, (1, 400, [(1000033, 0)])), (226, 15, 15, (1, 400, [])), (0, 4, 4, (0, 5, [])), (226, 9, 9, (0, 400, [(1000001, 0)])), (226, 12, 12, ck_one 5)]))])
set_option maxRecDepth 100000 in
theorem pg_s49_e : ck_ok pg_O none [] [(278, [pg_s12, pg_s14, pg_s16, pg_s18]), (269, [pg_s20, pg_s22, pg_s24]), (280, [pg_s39]), (279, [pg_em1, pg_em0, pg_em2]), (277, [pg_s41]), (275, [pg_s48])] 277 [] 154 pg_s49 = true := by decide +kernel
theorem pg_s49_s {X : Int → Int} {LX : Nat} : ck_Ok pg_O X LX 277 pg_s49 := ck_ok_s ⟨pg_nmu, ck_E1 (ck_S1 pg_s12_s (ck_S1 pg_s14_s (ck_S1 pg_s16_s (ck_S1 pg_s18_s ck_S0)))) (ck_E1 (ck_S1 pg_s20_s (ck_S1 pg_s22_s (ck_S1 pg_s24_s ck_S0))) (ck_E1 (ck_S1 pg_s39_s ck_S0) (ck_E1 (ck_S1 pg_em1_s (ck_S1 pg_em0_s (ck_S1 pg_em2_s ck_S0))) (ck_E1 (ck_S1 pg_s41_s ck_S0) (ck_E1 (ck_S1 pg_s48_s ck_S0) ck_E0)))))⟩ ck_X0 ck_l0 pg_s49_e
set_option maxRecDepth 100000 in
/-- GlacierMailModel.readAllOf -/
def pg_s50 : ck_Sum := ((13, 0, 0), 245, [.inr (.inr (.inl 226))], ([], [], [(226, 12, 12, ck_one 5), (0, 0, 0, (0, 400, [(30, 0)])), (0, 3, 3, ((-400), 400, [(31, 0)])), (0, 4, 4, ((-400), 400, [(32, 0)])), (0, 5, 5, (1, 400, [(33, 0)])), (226, 9, 9, (0, 400, [(1, 0)])), (226, 15, 15, (0, 400, [(2, 0)]))]), ([(0, 0, 0), (0, 3, 5), (226, 9, 9), (226, 11, 12), (226, 15, 15), (227, 1293, 2092)], []), [(.inr (some (.inl (ck_one 0))), 245, ([], [], [(0, 5, 5, (0, 400, [(1000033, (-1))])), (0, 0, 0, (0, 400, [(1000030, 0)])), (0, 3, 3, (0, 400, [(1000033, (-1))])), (0, 4, 4, (0, 400, [])), (226, 9, 9, (0, 400, [(1000001, 0)])), (226, 12, 12, (5, 6, []))])), (.inr (some (.inl (ck_one 1))), 245, ([], [], [(0, 5, 5, (1, 400, [(1000033, 0)])), (226, 11, 11, (0, 400, [(1000001, 0)])), (0, 3, 3, (1, 400, [(1000033, 0)])), (0, 4, 4, ck_one 0), (226, 9, 9, (0, 400, [(1000001, 0)])), (0, 0, 0, (1, 400, [(30, 1)])), (226, 15, 15, (1, 400, [])), (226, 12, 12, ck_one 5)]))])
set_option maxRecDepth 100000 in
theorem pg_s50_e : ck_ok pg_O none [] [(277, [pg_s49]), (269, [pg_s43]), (279, [pg_em3])] 276 [(9, [some (.inr (.inr (.inl 226)))], ([], [], [(0, 5, 5, (1, 400, [(1000033, 0)])), (226, 11, 11, (0, 400, [])), (0, 0, 0, (1, 400, [(30, 1)])), (0, 3, 3, (0, 400, [(1000033, (-1))])), (226, 15, 15, (1, 400, [])), (0, 4, 4, (0, 5, [])), (226, 9, 9, (0, 400, [(1000001, 0)])), (226, 12, 12, ck_one 5)]), 100, .inr (0, 5), true)] 142 pg_s50 = true := by decide +kernel
theorem pg_s50_s {X : Int → Int} {LX : Nat} : ck_Ok pg_O X LX 276 pg_s50 := ck_ok_s ⟨pg_nmu, ck_E1 (ck_S1 pg_s49_s ck_S0) (ck_E1 (ck_S1 pg_s43_s ck_S0) (ck_E1 (ck_S1 pg_em3_s ck_S0) ck_E0))⟩ ck_X0 ck_l0 pg_s50_e
set_option maxRecDepth 100000 in
/-- GlacierMailModel.readCond -/
def pg_s51 : ck_Sum := ((14, 0, 0), 245, [.inr (.inr (.inl 226))], ([], [], [(226, 12, 12, ck_one 5), (0, 0, 0, (0, 400, [(30, 0)])), (0, 3, 3, ((-400), 400, [(31, 0)])), (0, 4, 4, ((-400), 400, [(32, 0)])), (0, 5, 5, (1, 400, [(33, 0)])), (226, 9, 9, (0, 400, [(1, 0)])), (226, 15, 15, (0, 400, [(2, 0)]))]), ([(0, 0, 0), (0, 3, 5), (226, 9, 9), (226, 11, 12), (226, 15, 15), (227, 1293, 2092)], []), [(.inr (some (.inl (ck_one 0))), 245, ([], [], [(0, 5, 5, (0, 400, [(1000033, (-1))])), (0, 0, 0, (0, 400, [(1000030, 0)])), (0, 3, 3, (0, 400, [(1000033, (-1))])), (0, 4, 4, (0, 400, [])), (226, 9, 9, (0, 400, [(1000001, 0)])), (226, 12, 12, (5, 6, []))])), (.inr (some (.inl (ck_one 1))), 245, ([], [], [(0, 5, 5, (1, 400, [(1000033, 0)])), (226, 11, 11, (0, 400, [(1000001, 0)])), (0, 3, 3, (1, 400, [(1000033, 0)])), (0, 4, 4, ck_one 0), (226, 9, 9, (0, 400, [(1000001, 0)])), (0, 0, 0, (1, 400, [(30, 1)])), (226, 15, 15, (1, 400, [])), (226, 12, 12, ck_one 5)]))])
set_option maxRecDepth 100000 in
theorem pg_s51_e : ck_ok pg_O none [] [(276, [pg_s50]), (269, [pg_s47]), (279, [pg_em3])] 275 [(9, [some (.inr (.inr (.inl 226)))], ([], [], [(0, 5, 5, (1, 400, [(1000033, 0)])), (226, 11, 11, (0, 400, [(1000001, 0)])), (0, 3, 3, (1, 400, [(1000033, 0)])), (0, 4, 4, ck_one 0), (226, 9, 9, (0, 400, [(1000001, 0)])), (0, 0, 0, (1, 400, [(30, 1)])), (226, 15, 15, (1, 400, [])), (226, 12, 12, ck_one 5)]), 100, .inr (0, 5), true)] 142 pg_s51 = true := by decide +kernel
theorem pg_s51_s {X : Int → Int} {LX : Nat} : ck_Ok pg_O X LX 275 pg_s51 := ck_ok_s ⟨pg_nmu, ck_E1 (ck_S1 pg_s50_s ck_S0) (ck_E1 (ck_S1 pg_s47_s ck_S0) (ck_E1 (ck_S1 pg_em3_s ck_S0) ck_E0))⟩ ck_X0 ck_l0 pg_s51_e
set_option maxRecDepth 100000 in
/-- GlacierMailModel.readAtom -/
def pg_s52 : ck_Sum := ((15, 0, 0), 245, [.inr (.inr (.inl 226))], ([], [], [(226, 12, 12, ck_one 4), (0, 0, 0, (0, 400, [(30, 0)])), (0, 3, 3, ((-400), 400, [(31, 0)])), (0, 4, 4, ((-400), 400, [(32, 0)])), (0, 5, 5, (1, 400, [(33, 0)])), (226, 9, 9, (0, 400, [(1, 0)])), (226, 15, 15, (0, 400, [(2, 0)]))]), ([(0, 0, 0), (0, 3, 5), (226, 9, 9), (226, 11, 12), (226, 15, 15), (227, 1293, 2092)], []), [(.inr (some (.inl (ck_one 0))), 245, ([], [], [(0, 5, 5, (0, 400, [(1000033, (-1))])), (0, 0, 0, (0, 400, [(1000030, 0)])), (0, 3, 3, (0, 400, [(1000033, (-1))])), (0, 4, 4, (0, 400, [])), (226, 9, 9, (0, 400, [(1000001, 0)])), (226, 12, 12, (4, 6, []))])), (.inr (some (.inl (ck_one 1))), 245, ([], [], [(0, 0, 0, (1, 400, [(30, 1)])), (0, 3, 3, (0, 400, [(1000033, (-1))])), (0, 5, 5, (1, 400, [(1000033, 0)])), (226, 15, 15, (1, 400, [])), (0, 4, 4, (0, 5, [])), (226, 9, 9, (0, 400, [(1000001, 0)])), (226, 12, 12, ck_one 4)]))])
set_option maxRecDepth 100000 in
theorem pg_s52_e : ck_ok pg_O none [] [(278, [pg_s12, pg_s14, pg_s16, pg_s18]), (269, [pg_s20, pg_s22, pg_s24]), (280, [pg_s39]), (279, [pg_em1, pg_em0, pg_em2]), (277, [pg_s49]), (275, [pg_s51])] 277 [] 154 pg_s52 = true := by decide +kernel
theorem pg_s52_s {X : Int → Int} {LX : Nat} : ck_Ok pg_O X LX 277 pg_s52 := ck_ok_s ⟨pg_nmu, ck_E1 (ck_S1 pg_s12_s (ck_S1 pg_s14_s (ck_S1 pg_s16_s (ck_S1 pg_s18_s ck_S0)))) (ck_E1 (ck_S1 pg_s20_s (ck_S1 pg_s22_s (ck_S1 pg_s24_s ck_S0))) (ck_E1 (ck_S1 pg_s39_s ck_S0) (ck_E1 (ck_S1 pg_em1_s (ck_S1 pg_em0_s (ck_S1 pg_em2_s ck_S0))) (ck_E1 (ck_S1 pg_s49_s ck_S0) (ck_E1 (ck_S1 pg_s51_s ck_S0) ck_E0)))))⟩ ck_X0 ck_l0 pg_s52_e
set_option maxRecDepth 100000 in
/-- GlacierMailModel.readAllOf -/
def pg_s53 : ck_Sum := ((16, 0, 0), 245, [.inr (.inr (.inl 226))], ([], [], [(226, 12, 12, ck_one 4), (0, 0, 0, (0, 400, [(30, 0)])), (0, 3, 3, ((-400), 400, [(31, 0)])), (0, 4, 4, ((-400), 400, [(32, 0)])), (0, 5, 5, (1, 400, [(33, 0)])), (226, 9, 9, (0, 400, [(1, 0)])), (226, 15, 15, (0, 400, [(2, 0)]))]), ([(0, 0, 0), (0, 3, 5), (226, 9, 9), (226, 11, 12), (226, 15, 15), (227, 1293, 2092)], []), [(.inr (some (.inl (ck_one 0))), 245, ([], [], [(0, 5, 5, (0, 400, [(1000033, (-1))])), (0, 0, 0, (0, 400, [(1000030, 0)])), (0, 3, 3, (0, 400, [(1000033, (-1))])), (0, 4, 4, (0, 400, [])), (226, 9, 9, (0, 400, [(1000001, 0)])), (226, 12, 12, (4, 6, []))])), (.inr (some (.inl (ck_one 1))), 245, ([], [], [(0, 5, 5, (1, 400, [(1000033, 0)])), (226, 11, 11, (0, 400, [(1000001, 0)])), (0, 3, 3, (1, 400, [(1000033, 0)])), (0, 4, 4, ck_one 0), (226, 9, 9, (0, 400, [(1000001, 0)])), (0, 0, 0, (1, 400, [(30, 1)])), (226, 15, 15, (1, 400, [])), (226, 12, 12, ck_one 4)]))])
set_option maxRecDepth 100000 in
theorem pg_s53_e : ck_ok pg_O none [] [(277, [pg_s52]), (269, [pg_s43]), (279, [pg_em3])] 276 [(9, [some (.inr (.inr (.inl 226)))], ([], [], [(0, 5, 5, (1, 400, [(1000033, 0)])), (226, 11, 11, (0, 400, [])), (0, 0, 0, (1, 400, [(30, 1)])), (0, 3, 3, (0, 400, [(1000033, (-1))])), (226, 15, 15, (1, 400, [])), (0, 4, 4, (0, 5, [])), (226, 9, 9, (0, 400, [(1000001, 0)])), (226, 12, 12, ck_one 4)]), 100, .inr (0, 5), true)] 142 pg_s53 = true := by decide +kernel
theorem pg_s53_s {X : Int → Int} {LX : Nat} : ck_Ok pg_O X LX 276 pg_s53 := ck_ok_s ⟨pg_nmu, ck_E1 (ck_S1 pg_s52_s ck_S0) (ck_E1 (ck_S1 pg_s43_s ck_S0) (ck_E1 (ck_S1 pg_em3_s ck_S0) ck_E0))⟩ ck_X0 ck_l0 pg_s53_e
set_option maxRecDepth 100000 in
/-- GlacierMailModel.readCond -/
def pg_s54 : ck_Sum := ((17, 0, 0), 245, [.inr (.inr (.inl 226))], ([], [], [(226, 12, 12, ck_one 4), (0, 0, 0, (0, 400, [(30, 0)])), (0, 3, 3, ((-400), 400, [(31, 0)])), (0, 4, 4, ((-400), 400, [(32, 0)])), (0, 5, 5, (1, 400, [(33, 0)])), (226, 9, 9, (0, 400, [(1, 0)])), (226, 15, 15, (0, 400, [(2, 0)]))]), ([(0, 0, 0), (0, 3, 5), (226, 9, 9), (226, 11, 12), (226, 15, 15), (227, 1293, 2092)], []), [(.inr (some (.inl (ck_one 0))), 245, ([], [], [(0, 5, 5, (0, 400, [(1000033, (-1))])), (0, 0, 0, (0, 400, [(1000030, 0)])), (0, 3, 3, (0, 400, [(1000033, (-1))])), (0, 4, 4, (0, 400, [])), (226, 9, 9, (0, 400, [(1000001, 0)])), (226, 12, 12, (4, 6, []))])), (.inr (some (.inl (ck_one 1))), 245, ([], [], [(0, 5, 5, (1, 400, [(1000033, 0)])), (226, 11, 11, (0, 400, [(1000001, 0)])), (0, 3, 3, (1, 400, [(1000033, 0)])), (0, 4, 4, ck_one 0), (226, 9, 9, (0, 400, [(1000001, 0)])), (0, 0, 0, (1, 400, [(30, 1)])), (226, 15, 15, (1, 400, [])), (226, 12, 12, ck_one 4)]))])
set_option maxRecDepth 100000 in
theorem pg_s54_e : ck_ok pg_O none [] [(276, [pg_s53]), (269, [pg_s47]), (279, [pg_em3])] 275 [(9, [some (.inr (.inr (.inl 226)))], ([], [], [(0, 5, 5, (1, 400, [(1000033, 0)])), (226, 11, 11, (0, 400, [(1000001, 0)])), (0, 3, 3, (1, 400, [(1000033, 0)])), (0, 4, 4, ck_one 0), (226, 9, 9, (0, 400, [(1000001, 0)])), (0, 0, 0, (1, 400, [(30, 1)])), (226, 15, 15, (1, 400, [])), (226, 12, 12, ck_one 4)]), 100, .inr (0, 5), true)] 142 pg_s54 = true := by decide +kernel
theorem pg_s54_s {X : Int → Int} {LX : Nat} : ck_Ok pg_O X LX 275 pg_s54 := ck_ok_s ⟨pg_nmu, ck_E1 (ck_S1 pg_s53_s ck_S0) (ck_E1 (ck_S1 pg_s47_s ck_S0) (ck_E1 (ck_S1 pg_em3_s ck_S0) ck_E0))⟩ ck_X0 ck_l0 pg_s54_e
set_option maxRecDepth 100000 in
/-- GlacierMailModel.readAtom -/
def pg_s55 : ck_Sum := ((18, 0, 0), 245, [.inr (.inr (.inl 226))], ([], [], [(226, 12, 12, ck_one 3), (0, 0, 0, (0, 400, [(30, 0)])), (0, 3, 3, ((-400), 400, [(31, 0)])), (0, 4, 4, ((-400), 400, [(32, 0)])), (0, 5, 5, (1, 400, [(33, 0)])), (226, 9, 9, (0, 400, [(1, 0)])), (226, 15, 15, (0, 400, [(2, 0)]))]), ([(0, 0, 0), (0, 3, 5), (226, 9, 9), (226, 11, 12), (226, 15, 15), (227, 1293, 2092)], []), [(.inr (some (.inl (ck_one 0))), 245, ([], [], [(0, 5, 5, (0, 400, [(1000033, (-1))])), (0, 0, 0, (0, 400, [(1000030, 0)])), (0, 3, 3, (0, 400, [(1000033, (-1))])), (0, 4, 4, (0, 400, [])), (226, 9, 9, (0, 400, [(1000001, 0)])), (226, 12, 12, (3, 6, []))])), (.inr (some (.inl (ck_one 1))), 245, ([], [], [(0, 0, 0, (1, 400, [(30, 1)])), (0, 3, 3, (0, 400, [(1000033, (-1))])), (0, 5, 5, (1, 400, [(1000033, 0)])), (226, 15, 15, (1, 400, [])), (0, 4, 4, (0, 5, [])), (226, 9, 9, (0, 400, [(1000001, 0)])), (226, 12, 12, ck_one 3)]))])
set_option maxRecDepth 100000 in
theorem pg_s55_e : ck_ok pg_O none [] [(278, [pg_s12, pg_s14, pg_s16, pg_s18]), (269, [pg_s20, pg_s22, pg_s24]), (280, [pg_s39]), (279, [pg_em1, pg_em0, pg_em2]), (277, [pg_s52]), (275, [pg_s54])] 277 [] 154 pg_s55 = true := by decide +kernel
theorem pg_s55_s {X : Int → Int} {LX : Nat} : ck_Ok pg_O X LX 277 pg_s55 := ck_ok_s ⟨pg_nmu, ck_E1 (ck_S1 pg_s12_s (ck_S1 pg_s14_s (ck_S1 pg_s16_s (ck_S1 pg_s18_s ck_S0)))) (ck_E1 (ck_S1 pg_s20_s (ck_S1 pg_s22_s (ck_S1 pg_s24_s ck_S0))) (ck_E1 (ck_S1 pg_s39_s ck_S0) (ck_E1 (ck_S1 pg_em1_s (ck_S1 pg_em0_s (ck_S1 pg_em2_s ck_S0))) (ck_E1 (ck_S1 pg_s52_s ck_S0) (ck_E1 (ck_S1 pg_s54_s ck_S0) ck_E0)))))⟩ ck_X0 ck_l0 pg_s55_e
set_option maxRecDepth 100000 in
/-- GlacierMailModel.readAllOf -/
def pg_s56 : ck_Sum := ((19, 0, 0), 245, [.inr (.inr (.inl 226))], ([], [], [(226, 12, 12, ck_one 3), (0, 0, 0, (0, 400, [(30, 0)])), (0, 3, 3, ((-400), 400, [(31, 0)])), (0, 4, 4, ((-400), 400, [(32, 0)])), (0, 5, 5, (1, 400, [(33, 0)])), (226, 9, 9, (0, 400, [(1, 0)])), (226, 15, 15, (0, 400, [(2, 0)]))]), ([(0, 0, 0), (0, 3, 5), (226, 9, 9), (226, 11, 12), (226, 15, 15), (227, 1293, 2092)], []), [(.inr (some (.inl (ck_one 0))), 245, ([], [], [(0, 5, 5, (0, 400, [(1000033, (-1))])), (0, 0, 0, (0, 400, [(1000030, 0)])), (0, 3, 3, (0, 400, [(1000033, (-1))])), (0, 4, 4, (0, 400, [])), (226, 9, 9, (0, 400, [(1000001, 0)])), (226, 12, 12, (3, 6, []))])), (.inr (some (.inl (ck_one 1))), 245, ([], [], [(0, 5, 5, (1, 400, [(1000033, 0)])), (226, 11, 11, (0, 400, [(1000001, 0)])), (0, 3, 3, (1, 400, [(1000033, 0)])), (0, 4, 4, ck_one 0), (226, 9, 9, (0, 400, [(1000001, 0)])), (0, 0, 0, (1, 400, [(30, 1)])), (226, 15, 15, (1, 400, [])), (226, 12, 12, ck_one 3)]))])
set_option maxRecDepth 100000 in
theorem pg_s56_e : ck_ok pg_O none [] [(277, [pg_s55]), (269, [pg_s43]), (279, [pg_em3])] 276 [(9, [some (.inr (.inr (.inl 226)))], ([], [], [(0, 5, 5, (1, 400, [(1000033, 0)])), (226, 11, 11, (0, 400, [])), (0, 0, 0, (1, 400, [(30, 1)])), (0, 3, 3, (0, 400, [(1000033, (-1))])), (226, 15, 15, (1, 400, [])), (0, 4, 4, (0, 5, [])), (226, 9, 9, (0, 400, [(1000001, 0)])), (226, 12, 12, ck_one 3)]), 100, .inr (0, 5), true)] 142 pg_s56 = true := by decide +kernel
theorem pg_s56_s {X : Int → Int} {LX : Nat} : ck_Ok pg_O X LX 276 pg_s56 := ck_ok_s ⟨pg_nmu, ck_E1 (ck_S1 pg_s55_s ck_S0) (ck_E1 (ck_S1 pg_s43_s ck_S0) (ck_E1 (ck_S1 pg_em3_s ck_S0) ck_E0))⟩ ck_X0 ck_l0 pg_s56_e
set_option maxRecDepth 100000 in
/-- GlacierMailModel.readCond -/
def pg_s57 : ck_Sum := ((20, 0, 0), 245, [.inr (.inr (.inl 226))], ([], [], [(226, 12, 12, ck_one 3), (0, 0, 0, (0, 400, [(30, 0)])), (0, 3, 3, ((-400), 400, [(31, 0)])), (0, 4, 4, ((-400), 400, [(32, 0)])), (0, 5, 5, (1, 400, [(33, 0)])), (226, 9, 9, (0, 400, [(1, 0)])), (226, 15, 15, (0, 400, [(2, 0)]))]), ([(0, 0, 0), (0, 3, 5), (226, 9, 9), (226, 11, 12), (226, 15, 15), (227, 1293, 2092)], []), [(.inr (some (.inl (ck_one 0))), 245, ([], [], [(0, 5, 5, (0, 400, [(1000033, (-1))])), (0, 0, 0, (0, 400, [(1000030, 0)])), (0, 3, 3, (0, 400, [(1000033, (-1))])), (0, 4, 4, (0, 400, [])), (226, 9, 9, (0, 400, [(1000001, 0)])), (226, 12, 12, (3, 6, []))])), (.inr (some (.inl (ck_one 1))), 245, ([], [], [(0, 5, 5, (1, 400, [(1000033, 0)])), (226, 11, 11, (0, 400, [(1000001, 0)])), (0, 3, 3, (1, 400, [(1000033, 0)])), (0, 4, 4, ck_one 0), (226, 9, 9, (0, 400, [(1000001, 0)])), (0, 0, 0, (1, 400, [(30, 1)])), (226, 15, 15, (1, 400, [])), (226, 12, 12, ck_one 3)]))])
set_option maxRecDepth 100000 in
theorem pg_s57_e : ck_ok pg_O none [] [(276, [pg_s56]), (269, [pg_s47]), (279, [pg_em3])] 275 [(9, [some (.inr (.inr (.inl 226)))], ([], [], [(0, 5, 5, (1, 400, [(1000033, 0)])), (226, 11, 11, (0, 400, [(1000001, 0)])), (0, 3, 3, (1, 400, [(1000033, 0)])), (0, 4, 4, ck_one 0), (226, 9, 9, (0, 400, [(1000001, 0)])), (0, 0, 0, (1, 400, [(30, 1)])), (226, 15, 15, (1, 400, [])), (226, 12, 12, ck_one 3)]), 100, .inr (0, 5), true)] 142 pg_s57 = true := by decide +kernel
theorem pg_s57_s {X : Int → Int} {LX : Nat} : ck_Ok pg_O X LX 275 pg_s57 := ck_ok_s ⟨pg_nmu, ck_E1 (ck_S1 pg_s56_s ck_S0) (ck_E1 (ck_S1 pg_s47_s ck_S0) (ck_E1 (ck_S1 pg_em3_s ck_S0) ck_E0))⟩ ck_X0 ck_l0 pg_s57_e
set_option maxRecDepth 100000 in
/-- GlacierMailModel.readAtom -/
def pg_s58 : ck_Sum := ((21, 0, 0), 245, [.inr (.inr (.inl 226))], ([], [], [(226, 12, 12, ck_one 2), (0, 0, 0, (0, 400, [(30, 0)])), (0, 3, 3, ((-400), 400, [(31, 0)])), (0, 4, 4, ((-400), 400, [(32, 0)])), (0, 5, 5, (1, 400, [(33, 0)])), (226, 9, 9, (0, 400, [(1, 0)])), (226, 15, 15, (0, 400, [(2, 0)]))]), ([(0, 0, 0), (0, 3, 5), (226, 9, 9), (226, 11, 12), (226, 15, 15), (227, 1293, 2092)], []), [(.inr (some (.inl (ck_one 0))), 245, ([], [], [(0, 5, 5, (0, 400, [(1000033, (-1))])), (0, 0, 0, (0, 400, [(1000030, 0)])), (0, 3, 3, (0, 400, [(1000033, (-1))])), (0, 4, 4, (0, 400, [])), (226, 9, 9, (0, 400, [(1000001, 0)])), (226, 12, 12, (2, 6, []))])), (.inr (some (.inl (ck_one 1))), 245, ([], [], [(0, 0, 0, (1, 400, [(30, 1)])), (0, 3, 3, (0, 400, [(1000033, (-1))])), (0, 5, 5, (1, 400, [(1000033, 0)])), (226, 15, 15, (1, 400, [])), (0, 4, 4, (0, 5, [])), (226, 9, 9, (0, 400, [(1000001, 0)])), (226, 12, 12, ck_one 2)]))])
set_option maxRecDepth 100000 in
theorem pg_s58_e : ck_ok pg_O none [] [(278, [pg_s12, pg_s14, pg_s16, pg_s18]), (269, [pg_s20, pg_s22, pg_s24]), (280, [pg_s39]), (279, [pg_em1, pg_em0, pg_em2]), (277, [pg_s55]), (275, [pg_s57])] 277 [] 154 pg_s58 = true := by decide +kernel
theorem pg_s58_s {X : Int → Int} {LX : Nat} : ck_Ok pg_O X LX 277 pg_s58 := ck_ok_s ⟨pg_nmu, ck_E1 (ck_S1 pg_s12_s (ck_S1 pg_s14_s (ck_S1 pg_s16_s (ck_S1 pg_s18_s ck_S0)))) (ck_E1 (ck_S1 pg_s20_s (ck_S1 pg_s22_s (ck_S1 pg_s24_s ck_S0))) (ck_E1 (ck_S1 pg_s39_s ck_S0) (ck_E1 (ck_S1 pg_em1_s (ck_S1 pg_em0_s (ck_S1 pg_em2_s ck_S0))) (ck_E1 (ck_S1 pg_s55_s ck_S0) (ck_E1 (ck_S1 pg_s57_s ck_S0) ck_E0)))))⟩ ck_X0 ck_l0 pg_s58_e
set_option maxRecDepth 100000 in
/-- GlacierMailModel.readAllOf -/
def pg_s59 : ck_Sum := ((22, 0, 0), 245, [.inr (.inr (.inl 226))], ([], [], [(226, 12, 12, ck_one 2), (0, 0, 0, (0, 400, [(30, 0)])), (0, 3, 3, ((-400), 400, [(31, 0)])), (0, 4, 4, ((-400), 400, [(32, 0)])), (0, 5, 5, (1, 400, [(33, 0)])), (226, 9, 9, (0, 400, [(1, 0)])), (226, 15, 15, (0, 400, [(2, 0)]))]), ([(0, 0, 0), (0, 3, 5), (226, 9, 9), (226, 11, 12), (226, 15, 15), (227, 1293, 2092)], []), [(.inr (some (.inl (ck_one 0))), 245, ([], [], [(0, 5, 5, (0, 400, [(1000033, (-1))])), (0, 0, 0, (0, 400, [(1000030, 0)])), (0, 3, 3, (0, 400, [(1000033, (-1))])), (0, 4, 4, (0, 400, [])), (226, 9, 9, (0, 400, [(1000001, 0)])), (226, 12, 12, (2, 6, []))])), (.inr (some (.inl (ck_one 1))), 245, ([], [], [(0, 5, 5, (1, 400, [(1000033, 0)])), (226, 11, 11, (0, 400, [(1000001, 0)])), (0, 3, 3, (1, 400, [(1000033, 0)])), (0, 4, 4, ck_one 0), (226, 9, 9, (0, 400, [(1000001, 0)])), (0, 0, 0, (1, 400, [(30, 1)])), (226, 15, 15, (1, 400, [])), (226, 12, 12, ck_one 2)]))])
set_option maxRecDepth 100000 in
theorem pg_s59_e : ck_ok pg_O none [] [(277, [pg_s58]), (269, [pg_s43]), (279, [pg_em3])] 276 [(9, [some (.inr (.inr (.inl 226)))], ([], [], [(0, 5, 5, (1, 400, [(1000033, 0)])), (226, 11, 11, (0, 400, [])), (0, 0, 0, (1, 400, [(30, 1)])), (0, 3, 3, (0, 400, [(1000033, (-1))])), (226, 15, 15, (1, 400, [])), (0, 4, 4, (0, 5, [])), (226, 9, 9, (0, 400, [(1000001, 0)])), (226, 12, 12, ck_one 2)]), 100, .inr (0, 5), true)] 142 pg_s59 = true := by decide +kernel
theorem pg_s59_s {X : Int → Int} {LX : Nat} : ck_Ok pg_O X LX 276 pg_s59 := ck_ok_s ⟨pg_nmu, ck_E1 (ck_S1 pg_s58_s ck_S0) (ck_E1 (ck_S1 pg_s43_s ck_S0) (ck_E1 (ck_S1 pg_em3_s ck_S0) ck_E0))⟩ ck_X0 ck_l0 pg_s59_e
set_option maxRecDepth 100000 in
/-- GlacierMailModel.readCond -/
def pg_s60 : ck_Sum := ((23, 0, 0), 245, [.inr (.inr (.inl 226))], ([], [], [(226, 12, 12, ck_one 2), (0, 0, 0, (0, 400, [(30, 0)])), (0, 3, 3, ((-400), 400, [(31, 0)])), (0, 4, 4, ((-400), 400, [(32, 0)])), (0, 5, 5, (1, 400, [(33, 0)])), (226, 9, 9, (0, 400, [(1, 0)])), (226, 15, 15, (0, 400, [(2, 0)]))]), ([(0, 0, 0), (0, 3, 5), (226, 9, 9), (226, 11, 12), (226, 15, 15), (227, 1293, 2092)], []), [(.inr (some (.inl (ck_one 0))), 245, ([], [], [(0, 5, 5, (0, 400, [(1000033, (-1))])), (0, 0, 0, (0, 400, [(1000030, 0)])), (0, 3, 3, (0, 400, [(1000033, (-1))])), (0, 4, 4, (0, 400, [])), (226, 9, 9, (0, 400, [(1000001, 0)])), (226, 12, 12, (2, 6, []))])), (.inr (some (.inl (ck_one 1))), 245, ([], [], [(0, 5, 5, (1, 400, [(1000033, 0)])), (226, 11, 11, (0, 400, [(1000001, 0)])), (0, 3, 3, (1, 400, [(1000033, 0)])), (0, 4, 4, ck_one 0), (226, 9, 9, (0, 400, [(1000001, 0)])), (0, 0, 0, (1, 400, [(30, 1)])), (226, 15, 15, (1, 400, [])), (226, 12, 12, ck_one 2)]))])
set_option maxRecDepth 100000 in
theorem pg_s60_e : ck_ok pg_O none [] [(276, [pg_s59]), (269, [pg_s47]), (279, [pg_em3])] 275 [(9, [some (.inr (.inr (.inl 226)))], ([], [], [(0, 5, 5, (1, 400, [(1000033, 0)])), (226, 11, 11, (0, 400, [(1000001, 0)])), (0, 3, 3, (1, 400, [(1000033, 0)])), (0, 4, 4, ck_one 0), (226, 9, 9, (0, 400, [(1000001, 0)])), (0, 0, 0, (1, 400, [(30, 1)])), (226, 15, 15, (1, 400, [])), (226, 12, 12, ck_one 2)]), 100, .inr (0, 5), true)] 142 pg_s60 = true := by decide +kernel
theorem pg_s60_s {X : Int → Int} {LX : Nat} : ck_Ok pg_O X LX 275 pg_s60 := ck_ok_s ⟨pg_nmu, ck_E1 (ck_S1 pg_s59_s ck_S0) (ck_E1 (ck_S1 pg_s47_s ck_S0) (ck_E1 (ck_S1 pg_em3_s ck_S0) ck_E0))⟩ ck_X0 ck_l0 pg_s60_e
set_option maxRecDepth 100000 in
/-- GlacierMailModel.readAtom -/
def pg_s61 : ck_Sum := ((24, 0, 0), 245, [.inr (.inr (.inl 226))], ([], [], [(226, 12, 12, ck_one 1), (0, 0, 0, (0, 400, [(30, 0)])), (0, 3, 3, ((-400), 400, [(31, 0)])), (0, 4, 4, ((-400), 400, [(32, 0)])), (0, 5, 5, (1, 400, [(33, 0)])), (226, 9, 9, (0, 400, [(1, 0)])), (226, 15, 15, (0, 400, [(2, 0)]))]), ([(0, 0, 0), (0, 3, 5), (226, 9, 9), (226, 11, 12), (226, 15, 15), (227, 1293, 2092)], []), [(.inr (some (.inl (ck_one 0))), 245, ([], [], [(0, 5, 5, (0, 400, [(1000033, (-1))])), (0, 0, 0, (0, 400, [(1000030, 0)])), (0, 3, 3, (0, 400, [(1000033, (-1))])), (0, 4, 4, (0, 400, [])), (226, 9, 9, (0, 400, [(1000001, 0)])), (226, 12, 12, (1, 6, []))])), (.inr (some (.inl (ck_one 1))), 245, ([], [], [(0, 0, 0, (1, 400, [(30, 1)])), (0, 3, 3, (0, 400, [(1000033, (-1))])), (0, 5, 5, (1, 400, [(1000033, 0)])), (226, 15, 15, (1, 400, [])), (0, 4, 4, (0, 5, [])), (226, 9, 9, (0, 400, [(1000001, 0)])), (226, 12, 12, ck_one 1)]))])
set_option maxRecDepth 100000 in
theorem pg_s61_e : ck_ok pg_O none [] [(278, [pg_s12, pg_s14, pg_s16, pg_s18]), (269, [pg_s20, pg_s22, pg_s24]), (280, [pg_s39]), (279, [pg_em1, pg_em0, pg_em2]), (277, [pg_s58]), (275, [pg_s60])] 277 [] 154 pg_s61 = true := by decide +kernel
theorem pg_s61_s {X : Int → Int} {LX : Nat} : ck_Ok pg_O X LX 277 pg_s61 := ck_ok_s ⟨pg_nmu, ck_E1 (ck_S1 pg_s12_s (ck_S1 pg_s14_s (ck_S1 pg_s16_s (ck_S1 pg_s18_s ck_S0)))) (ck_E1 (ck_S1 pg_s20_s (ck_S1 pg_s22_s (ck_S1 pg_s24_s ck_S0))) (ck_E1 (ck_S1 pg_s39_s ck_S0) (ck_E1 (ck_S1 pg_em1_s (ck_S1 pg_em0_s (ck_S1 pg_em2_s ck_S0))) (ck_E1 (ck_S1 pg_s58_s ck_S0) (ck_E1 (ck_S1 pg_s60_s ck_S0) ck_E0)))))⟩ ck_X0 ck_l0 pg_s61_e
set_option maxRecDepth 100000 in
/-- GlacierMailModel.readAllOf -/
def pg_s62 : ck_Sum := ((25, 0, 0), 245, [.inr (.inr (.inl 226))], ([], [], [(226, 12, 12, ck_one 1), (0, 0, 0, (0, 400, [(30, 0)])), (0, 3, 3, ((-400), 400, [(31, 0)])), (0, 4, 4, ((-400), 400, [(32, 0)])), (0, 5, 5, (1, 400, [(33, 0)])), (226, 9, 9, (0, 400, [(1, 0)])), (226, 15, 15, (0, 400, [(2, 0)]))]), ([(0, 0, 0), (0, 3, 5), (226, 9, 9), (226, 11, 12), (226, 15, 15), (227, 1293, 2092)], []), [(.inr (some (.inl (ck_one 0))), 245, ([], [], [(0, 5, 5, (0, 400, [(1000033, (-1))])), (0, 0, 0, (0, 400, [(1000030, 0)])), (0, 3, 3, (0, 400, [(1000033, (-1))])), (0, 4, 4, (0, 400, [])), (226, 9, 9, (0, 400, [(1000001, 0)])), (226, 12, 12, (1, 6, []))])), (.inr (some (.inl (ck_one 1))), 245, ([], [], [(0, 5, 5, (1, 400, [(1000033, 0)])), (226, 11, 11, (0, 400, [(1000001, 0)])), (0, 3, 3, (1, 400, [(1000033, 0)])), (0, 4, 4, ck_one 0), (226, 9, 9, (0, 400, [(1000001, 0)])), (0, 0, 0, (1, 400, [(30, 1)])), (226, 15, 15, (1, 400, [])), (226, 12, 12, ck_one 1)]))])
set_option maxRecDepth 100000 in
theorem pg_s62_e : ck_ok pg_O none [] [(277, [pg_s61]), (269, [pg_s43]), (279, [pg_em3])] 276 [(9, [some (.inr (.inr (.inl 226)))], ([], [], [(0, 5, 5, (1, 400, [(1000033, 0)])), (226, 11, 11, (0, 400, [])), (0, 0, 0, (1, 400, [(30, 1)])), (0, 3, 3, (0, 400, [(1000033, (-1))])), (226, 15, 15, (1, 400, [])), (0, 4, 4, (0, 5, [])), (226, 9, 9, (0, 400, [(1000001, 0)])), (226, 12, 12, ck_one 1)]), 100, .inr (0, 5), true)] 142 pg_s62 = true := by decide +kernel
theorem pg_s62_s {X : Int → Int} {LX : Nat} : ck_Ok pg_O X LX 276 pg_s62 := ck_ok_s ⟨pg_nmu, ck_E1 (ck_S1 pg_s61_s ck_S0) (ck_E1 (ck_S1 pg_s43_s ck_S0) (ck_E1 (ck_S1 pg_em3_s ck_S0) ck_E0))⟩ ck_X0 ck_l0 pg_s62_e
set_option maxRecDepth 100000 in
/-- GlacierMailModel.readCond -/
def pg_s63 : ck_Sum := ((26, 0, 0), 245, [.inr (.inr (.inl 226))], ([], [], [(226, 12, 12, ck_one 1), (0, 0, 0, (0, 400, [(30, 0)])), (0, 3, 3, ((-400), 400, [(31, 0)])), (0, 4, 4, ((-400), 400, [(32, 0)])), (0, 5, 5, (1, 400, [(33, 0)])), (226, 9, 9, (0, 400, [(1, 0)])), (226, 15, 15, (0, 400, [(2, 0)]))]), ([(0, 0, 0), (0, 3, 5), (226, 9, 9), (226, 11, 12), (226, 15, 15), (227, 1293, 2092)], []), [(.inr (some (.inl (ck_one 0))), 245, ([], [], [(0, 5, 5, (0, 400, [(1000033, (-1))])), (0, 0, 0, (0, 400, [(1000030, 0)])), (0, 3, 3, (0, 400, [(1000033, (-1))])), (0, 4, 4, (0, 400, [])), (226, 9, 9, (0, 400, [(1000001, 0)])), (226, 12, 12, (1, 6, []))])), (.inr (some (.inl (ck_one 1))), 245, ([], [], [(0, 5, 5, (1, 400, [(1000033, 0)])), (226, 11, 11, (0, 400, [(1000001, 0)])), (0, 3, 3, (1, 400, [(1000033, 0)])), (0, 4, 4, ck_one 0), (226, 9, 9, (0, 400, [(1000001, 0)])), (0, 0, 0, (1, 400, [(30, 1)])), (226, 15, 15, (1, 400, [])), (226, 12, 12, ck_one 1)]))])
set_option maxRecDepth 100000 in
theorem pg_s63_e : ck_ok pg_O none [] [(276, [pg_s62]), (269, [pg_s47]), (279, [pg_em3])] 275 [(9, [some (.inr (.inr (.inl 226)))], ([], [], [(0, 5, 5, (1, 400, [(1000033, 0)])), (226, 11, 11, (0, 400, [(1000001, 0)])), (0, 3, 3, (1, 400, [(1000033, 0)])), (0, 4, 4, ck_one 0), (226, 9, 9, (0, 400, [(1000001, 0)])), (0, 0, 0, (1, 400, [(30, 1)])), (226, 15, 15, (1, 400, [])), (226, 12, 12, ck_one 1)]), 100, .inr (0, 5), true)] 142 pg_s63 = true := by decide +kernel
theorem pg_s63_s {X : Int → Int} {LX : Nat} : ck_Ok pg_O X LX 275 pg_s63 := ck_ok_s ⟨pg_nmu, ck_E1 (ck_S1 pg_s62_s ck_S0) (ck_E1 (ck_S1 pg_s47_s ck_S0) (ck_E1 (ck_S1 pg_em3_s ck_S0) ck_E0))⟩ ck_X0 ck_l0 pg_s63_e
