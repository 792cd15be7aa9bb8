/-! EVERY CALL ENDS, whatever was done before (laid by wip/am/p2g.py). -/
set_option maxRecDepth 100000 in
/-- GlacierMailModel.thrower -/
def p2_s3273 : ck_Sum := ((2, 0, 0), 245, [.inr (.inr (.inl 226)), .inl ((-1), 7, []), .inl ((-1), 299, []), .inl (52, 1000, [])], ([], [], [(227, 3, 3, (0, 8, [(21, 0)])), (227, 9, 9, (0, 299, [(11, 0)]))]), ([(226, 36, 36)], []), [(.inr (some (.inl (ck_one (-1)))), 245, ([], [], [])), (.inr (some (.inl (0, 7, []))), 245, ([], [], [(226, 36, 36, (0, 298, [(1000011, 0)])), (227, 3, 3, (1, 8, [(21, 0)]))]))])
set_option maxRecDepth 100000 in
theorem p2_s3273_e : ck_ok p2_O none [] [(253, [p2_s214]), (266, [p2_s207]), (352, [p2_s3269]), (351, [p2_s3237])] 355 [(3, [some (.inr (.inr (.inl 226))), some (.inl ((-1), 7, [])), some (.inl ((-1), 299, [])), some (.inl (52, 1000, [])), some (.inl (0, 8, [])), none], ([], [], [(227, 3, 3, (0, 8, [(21, 0)])), (227, 9, 9, (0, 299, [(11, 0)]))]), 100, .inl 4, true), (18, [some (.inr (.inr (.inl 226))), some (.inl ((-1), 7, [])), some (.inl ((-1), 299, [])), some (.inl (52, 1000, [])), some (.inl (0, 7, [(100, 0)])), some (.inl (0, 299, [(1000011, 0)]))], ([], [], [(227, 3, 3, (1, 8, [(21, 0)])), (227, 9, 9, (0, 299, [(11, 0)]))]), 300, .inl 5, true)] 284 p2_s3273 = true := by decide +kernel
theorem p2_s3273_s {X : Int → Int} {LX : Nat} : ck_Ok p2_O X LX 355 p2_s3273 := ck_ok_s ⟨p2_nmu, ck_E1 (ck_S1 p2_s214_s ck_S0) (ck_E1 (ck_S1 p2_s207_s ck_S0) (ck_E1 (ck_S1 p2_s3269_s ck_S0) (ck_E1 (ck_S1 p2_s3237_s ck_S0) ck_E0)))⟩ ck_X0 ck_l0 p2_s3273_e
set_option maxRecDepth 100000 in
/-- GlacierMailModel.thrower -/
def p2_s3277 : ck_Sum := ((2, 0, 0), 245, [.inr (.inr (.inl 226)), .inl ((-1), 7, []), .inl ((-1), 299, []), .inl (2, 1000, [])], ([], [], [(227, 3, 3, (0, 8, [(21, 0)])), (227, 9, 9, (0, 299, [(11, 0)]))]), ([(226, 36, 36)], []), [(.inr (some (.inl (ck_one (-1)))), 245, ([], [], [])), (.inr (some (.inl (0, 7, []))), 245, ([], [], [(226, 36, 36, (0, 298, [(1000011, 0)])), (227, 3, 3, (1, 8, [(21, 0)]))]))])
set_option maxRecDepth 100000 in
theorem p2_s3277_e : ck_ok p2_O none [] [(253, [p2_s214]), (266, [p2_s207]), (352, [p2_s3269]), (351, [p2_s3237])] 355 [(3, [some (.inr (.inr (.inl 226))), some (.inl ((-1), 7, [])), some (.inl ((-1), 299, [])), some (.inl (2, 1000, [])), some (.inl (0, 8, [])), none], ([], [], [(227, 3, 3, (0, 8, [(21, 0)])), (227, 9, 9, (0, 299, [(11, 0)]))]), 100, .inl 4, true), (18, [some (.inr (.inr (.inl 226))), some (.inl ((-1), 7, [])), some (.inl ((-1), 299, [])), some (.inl (2, 1000, [])), some (.inl (0, 7, [(100, 0)])), some (.inl (0, 299, [(1000011, 0)]))], ([], [], [(227, 3, 3, (1, 8, [(21, 0)])), (227, 9, 9, (0, 299, [(11, 0)]))]), 300, .inl 5, true)] 284 p2_s3277 = true := by decide +kernel
theorem p2_s3277_s {X : Int → Int} {LX : Nat} : ck_Ok p2_O X LX 355 p2_s3277 := ck_ok_s ⟨p2_nmu, ck_E1 (ck_S1 p2_s214_s ck_S0) (ck_E1 (ck_S1 p2_s207_s ck_S0) (ck_E1 (ck_S1 p2_s3269_s ck_S0) (ck_E1 (ck_S1 p2_s3237_s ck_S0) ck_E0)))⟩ ck_X0 ck_l0 p2_s3277_e
set_option maxRecDepth 100000 in
/-- GlacierMail.reached -/
def p2_s3279 : ck_Sum := ((8, 1, 6), 245, [.inr (.inr (.inl 1)), .inl ((-2147483648), (-1), []), .inl ((-2147483648), 2147483647, [])], ([], [], []), ([], []), [(.inl 3, 245, ([], [], []))])
set_option maxRecDepth 100000 in
theorem p2_s3279_e : ck_ok p2_O none [] [(139, [p2_s350])] 211 [] 76 p2_s3279 = true := by decide +kernel
theorem p2_s3279_s {X : Int → Int} {LX : Nat} : ck_Ok p2_O X LX 211 p2_s3279 := ck_ok_s ⟨p2_nmu, ck_E1 (ck_S1 p2_s350_s ck_S0) ck_E0⟩ ck_X0 ck_l0 p2_s3279_e
set_option maxRecDepth 100000 in
/-- GlacierMail.reached -/
def p2_s3280 : ck_Sum := ((8, 1, 6), 245, [.inr (.inr (.inl 1)), .inl (8, 2147483647, []), .inl ((-2147483648), 2147483647, [])], ([], [], []), ([], []), [(.inl 3, 245, ([], [], []))])
set_option maxRecDepth 100000 in
theorem p2_s3280_e : ck_ok p2_O none [] [(139, [p2_s353])] 211 [] 76 p2_s3280 = true := by decide +kernel
theorem p2_s3280_s {X : Int → Int} {LX : Nat} : ck_Ok p2_O X LX 211 p2_s3280 := ck_ok_s ⟨p2_nmu, ck_E1 (ck_S1 p2_s353_s ck_S0) ck_E0⟩ ck_X0 ck_l0 p2_s3280_e
set_option maxRecDepth 100000 in
/-- GlacierMail.reached -/
def p2_s3281 : ck_Sum := ((8, 2, 12), 245, [.inr (.inr (.inl 1)), .inl (0, 7, []), .inl ((-2147483648), (-1), [])], ([], [], []), ([], []), [(.inl 3, 245, ([], [], [])), (.inl 0, 245, ([], [], []))])
set_option maxRecDepth 100000 in
theorem p2_s3281_e : ck_ok p2_O none [] [(139, [p2_s356]), (129, [p2_s276])] 211 [] 82 p2_s3281 = true := by decide +kernel
theorem p2_s3281_s {X : Int → Int} {LX : Nat} : ck_Ok p2_O X LX 211 p2_s3281 := ck_ok_s ⟨p2_nmu, ck_E1 (ck_S1 p2_s356_s ck_S0) (ck_E1 (ck_S1 p2_s276_s ck_S0) ck_E0)⟩ ck_X0 ck_l0 p2_s3281_e
set_option maxRecDepth 100000 in
/-- GlacierMail.reached -/
def p2_s3282 : ck_Sum := ((8, 2, 12), 245, [.inr (.inr (.inl 1)), .inl (0, 7, []), .inl (300, 2147483647, [])], ([], [], []), ([], []), [(.inl 3, 245, ([], [], [])), (.inl 0, 245, ([], [], []))])
set_option maxRecDepth 100000 in
theorem p2_s3282_e : ck_ok p2_O none [] [(139, [p2_s356]), (129, [p2_s278])] 211 [] 82 p2_s3282 = true := by decide +kernel
theorem p2_s3282_s {X : Int → Int} {LX : Nat} : ck_Ok p2_O X LX 211 p2_s3282 := ck_ok_s ⟨p2_nmu, ck_E1 (ck_S1 p2_s356_s ck_S0) (ck_E1 (ck_S1 p2_s278_s ck_S0) ck_E0)⟩ ck_X0 ck_l0 p2_s3282_e
set_option maxRecDepth 100000 in
/-- GlacierMail$Answers.throwAgain -/
def p2_s3283 : ck_Sum := ((4, 0, 0), 245, [.inr (.inr (.inl 208)), .inl (0, 7, []), .inl (0, 299, []), .inl (ck_one 1), .inl (0, 299, [])], ([], [(3, 8, 0)], []), ([(206, 2, 8), (210, 0, 2399), (212, 0, 2399)], []), [(.inr none, 245, ([], [], [(206, 4, 4, ck_one (-1))]))])
set_option maxRecDepth 100000 in
theorem p2_s3283_e : ck_ok p2_O none [] [(10, [p2_s438, p2_s3197]), (170, [p2_s1133]), (30, [p2_s374]), (45, [p2_s3196, p2_s3205]), (9, [p2_s348])] 203 [(59, [some (.inr (.inr (.inl 208))), some (.inl (0, 7, [])), some (.inl (0, 299, [])), some (.inl (ck_one 1)), some (.inl (0, 299, [])), some (.inr (.inr (.inl 8))), some (.inl ((-1), 98, [])), some (.inl ((-2147483648), 299, [])), some (.inl (0, 8, [])), none], ([], [(3, 8, 0)], [(206, 4, 4, ck_one (-1))]), 100, .inl 8, true)] 214 p2_s3283 = true := by decide +kernel
theorem p2_s3283_s {X : Int → Int} {LX : Nat} : ck_Ok p2_O X LX 203 p2_s3283 := ck_ok_s ⟨p2_nmu, ck_E1 (ck_S1 p2_s438_s (ck_S1 p2_s3197_s ck_S0)) (ck_E1 (ck_S1 p2_s1133_s ck_S0) (ck_E1 (ck_S1 p2_s374_s ck_S0) (ck_E1 (ck_S1 p2_s3196_s (ck_S1 p2_s3205_s ck_S0)) (ck_E1 (ck_S1 p2_s348_s ck_S0) ck_E0))))⟩ ck_X0 ck_l0 p2_s3283_e
set_option maxRecDepth 100000 in
/-- GlacierMail$Answers.throwAgain -/
def p2_s3290 : ck_Sum := ((4, 0, 0), 245, [.inr (.inr (.inl 208)), .inl (0, 7, []), .inl (2, 299, []), .inl ((-2147483648), 2147483647, []), .inl (2, 299, [])], ([], [(3, 8, 0)], []), ([(206, 2, 8), (210, 0, 2399), (212, 2, 299), (212, 302, 599), (212, 602, 899), (212, 902, 1199), (212, 1202, 1499), (212, 1502, 1799), (212, 1802, 2099), (212, 2102, 2399)], []), [(.inr none, 245, ([], [], [(206, 4, 4, ck_one (-1))]))])
set_option maxRecDepth 100000 in
theorem p2_s3290_e : ck_ok p2_O none [] [(10, [p2_s438, p2_s3197]), (170, [p2_s1133]), (30, [p2_s374]), (45, [p2_s3227, p2_s3215]), (9, [p2_s348])] 203 [(59, [some (.inr (.inr (.inl 208))), some (.inl (0, 7, [])), some (.inl (2, 299, [])), some (.inl ((-2147483648), 2147483647, [])), some (.inl (2, 299, [])), some (.inr (.inr (.inl 8))), some (.inl ((-1), 98, [])), some (.inl ((-2147483648), 299, [])), some (.inl (0, 8, [])), none], ([], [(3, 8, 0)], [(206, 4, 4, ck_one (-1))]), 100, .inl 8, true)] 214 p2_s3290 = true := by decide +kernel
theorem p2_s3290_s {X : Int → Int} {LX : Nat} : ck_Ok p2_O X LX 203 p2_s3290 := ck_ok_s ⟨p2_nmu, ck_E1 (ck_S1 p2_s438_s (ck_S1 p2_s3197_s ck_S0)) (ck_E1 (ck_S1 p2_s1133_s ck_S0) (ck_E1 (ck_S1 p2_s374_s ck_S0) (ck_E1 (ck_S1 p2_s3227_s (ck_S1 p2_s3215_s ck_S0)) (ck_E1 (ck_S1 p2_s348_s ck_S0) ck_E0))))⟩ ck_X0 ck_l0 p2_s3290_e
set_option maxRecDepth 100000 in
/-- GlacierMail$Answers.spread -/
def p2_s3291 : ck_Sum := ((5, 0, 0), 245, [.inr (.inr (.inl 208)), .inl (0, 7, []), .inl (ck_one (-1)), .inl (0, 299, [])], ([], [(3, 8, 0)], [(3, 6, 6, (0, 299, [(10, 0)]))]), ([(206, 2, 8), (209, 3, 3), (210, 0, 2399), (211, 3, 3), (212, 0, 2399)], []), [(.inr none, 245, ([], [], [(206, 4, 4, ck_one (-1))]))])
set_option maxRecDepth 100000 in
theorem p2_s3291_e : ck_ok p2_O none [] [(9, [p2_s348]), (25, [p2_s3193, p2_s3195]), (203, [p2_s3283, p2_s3290]), (10, [p2_s3197])] 202 [(59, [some (.inr (.inr (.inl 208))), some (.inl (0, 7, [])), some (.inl (ck_one (-1))), some (.inl (0, 299, [])), some (.inl (1, 300, [(1000010, 1)])), none, none], ([], [(3, 8, 0)], [(206, 4, 4, ck_one (-1)), (3, 6, 6, (0, 299, [(10, 0)]))]), 100, .inl 4, true), (82, [some (.inr (.inr (.inl 208))), some (.inl (0, 7, [])), some (.inl (ck_one (-1))), some (.inl (2, 299, [])), some (.inl (1, 298, [(100, 0), (1000010, 1)])), some (.inl (0, 8, [])), none], ([], [(3, 8, 0)], [(206, 4, 4, ck_one (-1)), (3, 6, 6, (0, 299, [(10, 0)]))]), 300, .inl 5, true)] 284 p2_s3291 = true := by decide +kernel
theorem p2_s3291_s {X : Int → Int} {LX : Nat} : ck_Ok p2_O X LX 202 p2_s3291 := ck_ok_s ⟨p2_nmu, ck_E1 (ck_S1 p2_s348_s ck_S0) (ck_E1 (ck_S1 p2_s3193_s (ck_S1 p2_s3195_s ck_S0)) (ck_E1 (ck_S1 p2_s3283_s (ck_S1 p2_s3290_s ck_S0)) (ck_E1 (ck_S1 p2_s3197_s ck_S0) ck_E0)))⟩ ck_X0 ck_l0 p2_s3291_e
set_option maxRecDepth 100000 in
/-- GlacierMail.reached -/
def p2_s3298 : ck_Sum := ((8, 1, 6), 245, [.inr (.inr (.inl 1)), .inl (0, 7, []), .inl (0, 299, [])], ([], [(3, 8, 0)], [(3, 6, 6, (0, 299, [(10, 0)]))]), ([(206, 2, 8), (209, 3, 3), (210, 0, 2399), (211, 3, 3), (212, 0, 2399)], []), [(.inl 3, 245, ([], [], [])), (.inr (some (.inl ((-2147483648), 2147483647, []))), 245, ([], [], [(206, 4, 4, ck_one (-1))]))])
set_option maxRecDepth 100000 in
theorem p2_s3298_e : ck_ok p2_O none [] [(139, [p2_s356]), (129, [p2_s280]), (202, [p2_s3291]), (9, [p2_s348]), (204, [p2_s3230])] 211 [(27, [some (.inr (.inr (.inl 1))), some (.inl (0, 7, [])), some (.inl (0, 299, [])), some (.inl ((-2147483648), 2147483647, [])), some (.inl (0, 8, []))], ([], [(3, 8, 0)], [(206, 4, 4, ck_one (-1)), (3, 6, 6, (0, 299, [(10, 0)]))]), 100, .inl 4, true)] 174 p2_s3298 = true := by decide +kernel
theorem p2_s3298_s {X : Int → Int} {LX : Nat} : ck_Ok p2_O X LX 211 p2_s3298 := ck_ok_s ⟨p2_nmu, ck_E1 (ck_S1 p2_s356_s ck_S0) (ck_E1 (ck_S1 p2_s280_s ck_S0) (ck_E1 (ck_S1 p2_s3291_s ck_S0) (ck_E1 (ck_S1 p2_s348_s ck_S0) (ck_E1 (ck_S1 p2_s3230_s ck_S0) ck_E0))))⟩ ck_X0 ck_l0 p2_s3298_e
set_option maxRecDepth 100000 in
/-- GlacierMailModel.reached -/
def p2_s3299 : ck_Sum := ((2, 0, 0), 245, [.inr (.inr (.inl 226)), .inl ((-2147483648), (-1), []), .inl ((-2147483648), 2147483647, [])], ([], [], [(227, 3, 3, (0, 8, [(21, 0)]))]), ([(226, 0, 0)], []), [(.inr (some (.inl (ck_one 0))), 245, ([], [], [(226, 0, 0, ck_one 1)]))])
set_option maxRecDepth 100000 in
theorem p2_s3299_e : ck_ok p2_O none [] [(298, [p2_s441]), (282, [p2_s268])] 356 [] 94 p2_s3299 = true := by decide +kernel
theorem p2_s3299_s {X : Int → Int} {LX : Nat} : ck_Ok p2_O X LX 356 p2_s3299 := ck_ok_s ⟨p2_nmu, ck_E1 (ck_S1 p2_s441_s ck_S0) (ck_E1 (ck_S1 p2_s268_s ck_S0) ck_E0)⟩ ck_X0 ck_l0 p2_s3299_e
set_option maxRecDepth 100000 in
/-- GlacierMailModel.reached -/
def p2_s3300 : ck_Sum := ((2, 0, 0), 245, [.inr (.inr (.inl 226)), .inl (8, 2147483647, []), .inl ((-2147483648), 2147483647, [])], ([], [], [(227, 3, 3, (0, 8, [(21, 0)]))]), ([(226, 0, 0)], []), [(.inr (some (.inl (ck_one 0))), 245, ([], [], [(226, 0, 0, ck_one 1)]))])
set_option maxRecDepth 100000 in
theorem p2_s3300_e : ck_ok p2_O none [] [(298, [p2_s444]), (282, [p2_s268])] 356 [] 94 p2_s3300 = true := by decide +kernel
theorem p2_s3300_s {X : Int → Int} {LX : Nat} : ck_Ok p2_O X LX 356 p2_s3300 := ck_ok_s ⟨p2_nmu, ck_E1 (ck_S1 p2_s444_s ck_S0) (ck_E1 (ck_S1 p2_s268_s ck_S0) ck_E0)⟩ ck_X0 ck_l0 p2_s3300_e
set_option maxRecDepth 100000 in
/-- GlacierMailModel.reached -/
def p2_s3301 : ck_Sum := ((2, 0, 0), 245, [.inr (.inr (.inl 226)), .inl (0, 7, []), .inl ((-2147483648), (-1), [])], ([], [], [(227, 3, 3, (0, 8, [(21, 0)]))]), ([(226, 0, 0)], []), [(.inr (some (.inl (ck_one 0))), 245, ([], [], [(226, 0, 0, (1, 2, []))]))])
set_option maxRecDepth 100000 in
theorem p2_s3301_e : ck_ok p2_O none [] [(298, [p2_s447]), (282, [p2_s268, p2_s269, p2_s272]), (285, [p2_s284])] 356 [] 106 p2_s3301 = true := by decide +kernel
theorem p2_s3301_s {X : Int → Int} {LX : Nat} : ck_Ok p2_O X LX 356 p2_s3301 := ck_ok_s ⟨p2_nmu, ck_E1 (ck_S1 p2_s447_s ck_S0) (ck_E1 (ck_S1 p2_s268_s (ck_S1 p2_s269_s (ck_S1 p2_s272_s ck_S0))) (ck_E1 (ck_S1 p2_s284_s ck_S0) ck_E0))⟩ ck_X0 ck_l0 p2_s3301_e
set_option maxRecDepth 100000 in
/-- GlacierMailModel.reached -/
def p2_s3302 : ck_Sum := ((2, 0, 0), 245, [.inr (.inr (.inl 226)), .inl (0, 7, []), .inl (300, 2147483647, [])], ([], [], [(227, 3, 3, (0, 8, [(21, 0)]))]), ([(226, 0, 0)], []), [(.inr (some (.inl (ck_one 0))), 245, ([], [], [(226, 0, 0, (1, 2, []))]))])
set_option maxRecDepth 100000 in
theorem p2_s3302_e : ck_ok p2_O none [] [(298, [p2_s447]), (282, [p2_s268, p2_s269, p2_s272]), (285, [p2_s287])] 356 [] 106 p2_s3302 = true := by decide +kernel
theorem p2_s3302_s {X : Int → Int} {LX : Nat} : ck_Ok p2_O X LX 356 p2_s3302 := ck_ok_s ⟨p2_nmu, ck_E1 (ck_S1 p2_s447_s ck_S0) (ck_E1 (ck_S1 p2_s268_s (ck_S1 p2_s269_s (ck_S1 p2_s272_s ck_S0))) (ck_E1 (ck_S1 p2_s287_s ck_S0) ck_E0))⟩ ck_X0 ck_l0 p2_s3302_e
set_option maxRecDepth 100000 in
/-- GlacierMail.needThiefYears -/
def p2_s3311 : ck_Sum := ((6, 1, 6), 245, [.inr (.inr (.inl 1)), .inl ((-2147483648), (-1), [])], ([], [], []), ([], []), [(.inl 0, 245, ([], [], []))])
set_option maxRecDepth 100000 in
theorem p2_s3311_e : ck_ok p2_O none [] [] 214 [] 78 p2_s3311 = true := by decide +kernel
theorem p2_s3311_s {X : Int → Int} {LX : Nat} : ck_Ok p2_O X LX 214 p2_s3311 := ck_ok_s ⟨p2_nmu, ck_E0⟩ ck_X0 ck_l0 p2_s3311_e
set_option maxRecDepth 100000 in
/-- GlacierMail.thieves -/
def p2_s3312 : ck_Sum := ((7, 1, 6), 245, [.inr (.inr (.inl 1)), .inl ((-2147483648), (-1), []), .inl (0, 1, [])], ([], [], []), ([], []), [(.inl 0, 245, ([], [], []))])
set_option maxRecDepth 100000 in
theorem p2_s3312_e : ck_ok p2_O none [] [(214, [p2_s3311])] 213 [] 76 p2_s3312 = true := by decide +kernel
theorem p2_s3312_s {X : Int → Int} {LX : Nat} : ck_Ok p2_O X LX 213 p2_s3312 := ck_ok_s ⟨p2_nmu, ck_E1 (ck_S1 p2_s3311_s ck_S0) ck_E0⟩ ck_X0 ck_l0 p2_s3312_e
set_option maxRecDepth 100000 in
/-- GlacierMail.needThiefYears -/
def p2_s3313 : ck_Sum := ((6, 1, 6), 245, [.inr (.inr (.inl 1)), .inl (31, 2147483647, [])], ([], [], []), ([], []), [(.inl 0, 245, ([], [], []))])
set_option maxRecDepth 100000 in
theorem p2_s3313_e : ck_ok p2_O none [] [] 214 [] 84 p2_s3313 = true := by decide +kernel
theorem p2_s3313_s {X : Int → Int} {LX : Nat} : ck_Ok p2_O X LX 214 p2_s3313 := ck_ok_s ⟨p2_nmu, ck_E0⟩ ck_X0 ck_l0 p2_s3313_e
set_option maxRecDepth 100000 in
/-- GlacierMail.thieves -/
def p2_s3314 : ck_Sum := ((7, 1, 6), 245, [.inr (.inr (.inl 1)), .inl (31, 2147483647, []), .inl (0, 1, [])], ([], [], []), ([], []), [(.inl 0, 245, ([], [], []))])
set_option maxRecDepth 100000 in
theorem p2_s3314_e : ck_ok p2_O none [] [(214, [p2_s3313])] 213 [] 76 p2_s3314 = true := by decide +kernel
theorem p2_s3314_s {X : Int → Int} {LX : Nat} : ck_Ok p2_O X LX 213 p2_s3314 := ck_ok_s ⟨p2_nmu, ck_E1 (ck_S1 p2_s3313_s ck_S0) ck_E0⟩ ck_X0 ck_l0 p2_s3314_e
set_option maxRecDepth 100000 in
/-- GlacierMail.needThiefYears -/
def p2_s3315 : ck_Sum := ((6, 1, 6), 245, [.inr (.inr (.inl 1)), .inl (0, 30, [])], ([], [], []), ([], []), [(.inl 0, 245, ([], [], [])), (.inr none, 245, ([], [], []))])
set_option maxRecDepth 100000 in
theorem p2_s3315_e : ck_ok p2_O none [] [] 214 [] 84 p2_s3315 = true := by decide +kernel
theorem p2_s3315_s {X : Int → Int} {LX : Nat} : ck_Ok p2_O X LX 214 p2_s3315 := ck_ok_s ⟨p2_nmu, ck_E0⟩ ck_X0 ck_l0 p2_s3315_e
set_option maxRecDepth 100000 in
/-- java/util/Arrays.fill -/
def p2_s3316 : ck_Sum := ((0, 0, 0), 245, [.inr (.inr (.inl 223)), .inl (ck_one 0)], ([], [], []), ([(223, 0, 179)], []), [(.inr none, 245, ([], [], []))])
set_option maxRecDepth 100000 in
theorem p2_s3316_e : ck_ok p2_O none [] [] 8 [(5, [some (.inr (.inr (.inl 223))), some (.inl (ck_one 0)), some (.inl (0, 180, [])), some (.inl (ck_one 180))], ([], [], []), 100, .inl 2, true)] 130 p2_s3316 = true := by decide +kernel
theorem p2_s3316_s {X : Int → Int} {LX : Nat} : ck_Ok p2_O X LX 8 p2_s3316 := ck_ok_s ⟨p2_nmu, ck_E0⟩ ck_X0 ck_l0 p2_s3316_e
set_option maxRecDepth 100000 in
/-- GlacierMail$Rows.reset -/
def p2_s3317 : ck_Sum := ((1, 0, 0), 245, [.inr (.inr (.inl 222)), .inl (0, 30, [])], ([], [], []), ([(222, 3, 3), (223, 0, 179)], []), [(.inr none, 245, ([], [], []))])
set_option maxRecDepth 100000 in
theorem p2_s3317_e : ck_ok p2_O none [] [(8, [p2_s3316])] 25 [] 96 p2_s3317 = true := by decide +kernel
theorem p2_s3317_s {X : Int → Int} {LX : Nat} : ck_Ok p2_O X LX 25 p2_s3317 := ck_ok_s ⟨p2_nmu, ck_E1 (ck_S1 p2_s3316_s ck_S0) ck_E0⟩ ck_X0 ck_l0 p2_s3317_e
set_option maxRecDepth 100000 in
/-- GlacierMail$Rows.get -/
def p2_s3318 : ck_Sum := ((0, 0, 0), 245, [.inr (.inr (.inl 222)), .inl ((-2147483648), 2147483647, []), .inl ((-2147483648), 2147483647, [])], ([], [], []), ([], []), [(.inr (some (.inl ((-2147483648), 2147483647, []))), 245, ([], [], []))])
set_option maxRecDepth 100000 in
theorem p2_s3318_e : ck_ok p2_O none [] [] 10 [] 114 p2_s3318 = true := by decide +kernel
theorem p2_s3318_s {X : Int → Int} {LX : Nat} : ck_Ok p2_O X LX 10 p2_s3318 := ck_ok_s ⟨p2_nmu, ck_E0⟩ ck_X0 ck_l0 p2_s3318_e
set_option maxRecDepth 100000 in
/-- GlacierMail$Rows.put -/
def p2_s3319 : ck_Sum := ((0, 0, 0), 245, [.inr (.inr (.inl 222)), .inl ((-2147483648), 2147483647, []), .inl ((-1), 299, []), .inl ((-2147483648), 2147483647, [])], ([], [], []), ([(223, 0, 179)], []), [(.inr none, 245, ([], [], []))])
set_option maxRecDepth 100000 in
theorem p2_s3319_e : ck_ok p2_O none [] [] 45 [] 116 p2_s3319 = true := by decide +kernel
theorem p2_s3319_s {X : Int → Int} {LX : Nat} : ck_Ok p2_O X LX 45 p2_s3319 := ck_ok_s ⟨p2_nmu, ck_E0⟩ ck_X0 ck_l0 p2_s3319_e
set_option maxRecDepth 100000 in
/-- GlacierMail.reckonCame -/
def p2_s3321 : ck_Sum := ((2, 0, 0), 245, [.inr (.inr (.inl 1)), .inl (0, 30, [])], ([], [], [(3, 6, 6, (0, 299, [(10, 0)]))]), ([(222, 3, 3), (223, 0, 179)], []), [(.inr none, 245, ([], [], []))])
set_option maxRecDepth 100000 in
theorem p2_s3321_e : ck_ok p2_O none [] [(25, [p2_s3317]), (9, [p2_s362]), (10, [p2_s407, p2_s363, p2_s3318]), (28, [p2_s364]), (45, [p2_s3319])] 215 [(10, [some (.inr (.inr (.inl 1))), some (.inl (0, 30, [])), some (.inl (0, 24, [])), none, none], ([], [], [(3, 6, 6, (0, 299, [(10, 0)]))]), 100, .inl 2, true)] 286 p2_s3321 = true := by decide +kernel
theorem p2_s3321_s {X : Int → Int} {LX : Nat} : ck_Ok p2_O X LX 215 p2_s3321 := ck_ok_s ⟨p2_nmu, ck_E1 (ck_S1 p2_s3317_s ck_S0) (ck_E1 (ck_S1 p2_s362_s ck_S0) (ck_E1 (ck_S1 p2_s407_s (ck_S1 p2_s363_s (ck_S1 p2_s3318_s ck_S0))) (ck_E1 (ck_S1 p2_s364_s ck_S0) (ck_E1 (ck_S1 p2_s3319_s ck_S0) ck_E0))))⟩ ck_X0 ck_l0 p2_s3321_e
set_option maxRecDepth 100000 in
/-- java/util/Arrays.fill -/
def p2_s3322 : ck_Sum := ((0, 0, 0), 245, [.inr (.inr (.inl 225)), .inl (ck_one 0)], ([], [], []), ([(225, 0, 185)], []), [(.inr none, 245, ([], [], []))])
set_option maxRecDepth 100000 in
theorem p2_s3322_e : ck_ok p2_O none [] [] 8 [(5, [some (.inr (.inr (.inl 225))), some (.inl (ck_one 0)), some (.inl (0, 186, [])), some (.inl (ck_one 186))], ([], [], []), 100, .inl 2, true)] 130 p2_s3322 = true := by decide +kernel
theorem p2_s3322_s {X : Int → Int} {LX : Nat} : ck_Ok p2_O X LX 8 p2_s3322 := ck_ok_s ⟨p2_nmu, ck_E0⟩ ck_X0 ck_l0 p2_s3322_e
set_option maxRecDepth 100000 in
/-- GlacierMail$Rows.reset -/
def p2_s3323 : ck_Sum := ((1, 0, 0), 245, [.inr (.inr (.inl 224)), .inl (1, 31, [])], ([], [], []), ([(224, 3, 3), (225, 0, 185)], []), [(.inr none, 245, ([], [], [(224, 3, 3, (1, 31, []))]))])
set_option maxRecDepth 100000 in
theorem p2_s3323_e : ck_ok p2_O none [] [(8, [p2_s3322])] 25 [] 96 p2_s3323 = true := by decide +kernel
theorem p2_s3323_s {X : Int → Int} {LX : Nat} : ck_Ok p2_O X LX 25 p2_s3323 := ck_ok_s ⟨p2_nmu, ck_E1 (ck_S1 p2_s3322_s ck_S0) ck_E0⟩ ck_X0 ck_l0 p2_s3323_e
set_option maxRecDepth 100000 in
/-- GlacierMail$Rows.get -/
def p2_s3324 : ck_Sum := ((0, 0, 0), 245, [.inr (.inr (.inl 224)), .inl ((-2147483648), 2147483647, []), .inl ((-2147483648), 2147483647, [])], ([], [], []), ([], []), [(.inr (some (.inl ((-2147483648), 2147483647, []))), 245, ([], [], []))])
set_option maxRecDepth 100000 in
theorem p2_s3324_e : ck_ok p2_O none [] [] 10 [] 114 p2_s3324 = true := by decide +kernel
theorem p2_s3324_s {X : Int → Int} {LX : Nat} : ck_Ok p2_O X LX 10 p2_s3324 := ck_ok_s ⟨p2_nmu, ck_E0⟩ ck_X0 ck_l0 p2_s3324_e
set_option maxRecDepth 100000 in
/-- GlacierMail.bestNext -/
def p2_s3335 : ck_Sum := ((1, 0, 0), 245, [.inr (.inr (.inl 1)), .inl (1, 30, []), .inl (0, 5, [])], ([], [], []), ([], []), [(.inr (some (.inl ((-2147483648), 2147483647, []))), 245, ([], [], []))])
set_option maxRecDepth 100000 in
theorem p2_s3335_e : ck_ok p2_O none [] [(10, [p2_s3324])] 216 [] 118 p2_s3335 = true := by decide +kernel
theorem p2_s3335_s {X : Int → Int} {LX : Nat} : ck_Ok p2_O X LX 216 p2_s3335 := ck_ok_s ⟨p2_nmu, ck_E1 (ck_S1 p2_s3324_s ck_S0) ck_E0⟩ ck_X0 ck_l0 p2_s3335_e
set_option maxRecDepth 100000 in
/-- GlacierMail$Rows.put -/
def p2_s3336 : ck_Sum := ((0, 0, 0), 245, [.inr (.inr (.inl 224)), .inl (0, 29, []), .inl (0, 5, []), .inl ((-2147483648), 2147483647, [])], ([], [], []), ([(225, 0, 179)], []), [(.inr none, 245, ([], [], []))])
set_option maxRecDepth 100000 in
theorem p2_s3336_e : ck_ok p2_O none [] [] 45 [] 116 p2_s3336 = true := by decide +kernel
theorem p2_s3336_s {X : Int → Int} {LX : Nat} : ck_Ok p2_O X LX 45 p2_s3336 := ck_ok_s ⟨p2_nmu, ck_E0⟩ ck_X0 ck_l0 p2_s3336_e
set_option maxRecDepth 100000 in
/-- GlacierMail.thieves -/
def p2_s3337 : ck_Sum := ((7, 1, 6), 245, [.inr (.inr (.inl 1)), .inl (0, 30, []), .inl (0, 1, [])], ([], [(3, 8, 0)], [(3, 6, 6, (0, 299, [(10, 0)]))]), ([(1, 15, 15), (206, 2, 8), (220, 3, 3), (221, 0, 47), (222, 3, 3), (223, 0, 179), (224, 3, 3), (225, 0, 185)], []), [(.inl 0, 245, ([], [], [])), (.inr (some (.inl ((-2147483648), 2147483647, []))), 245, ([], [], [(224, 3, 3, (1, 31, [])), (1, 15, 15, ck_one 1)])), (.inr (some (.inl (0, 5, []))), 245, ([], [], [(224, 3, 3, (1, 31, [])), (1, 15, 15, ck_one 1)]))])
set_option maxRecDepth 100000 in
theorem p2_s3337_e : ck_ok p2_O none [] [(214, [p2_s3315]), (24, [p2_s405]), (215, [p2_s3321]), (25, [p2_s3323]), (10, [p2_s3324, p2_s3318]), (216, [p2_s3335]), (45, [p2_s3336])] 213 [(28, [some (.inr (.inr (.inl 1))), some (.inl (0, 30, [])), some (.inl (0, 1, [])), some (.inl ((-1), 29, [])), none], ([], [(3, 8, 0)], [(224, 3, 3, (1, 31, [])), (1, 15, 15, ck_one 1), (3, 6, 6, (0, 299, [(10, 0)]))]), 100, .inl 3, false), (94, [some (.inr (.inr (.inl 1))), some (.inl (0, 30, [])), some (.inl (0, 1, [])), some (.inl (0, 5, [])), some (.inl (1, 6, []))], ([], [(3, 8, 0)], [(224, 3, 3, (1, 31, [])), (1, 15, 15, ck_one 1), (3, 6, 6, (0, 299, [(10, 0)]))]), 300, .inl 4, true), (35, [some (.inr (.inr (.inl 1))), some (.inl (0, 30, [])), some (.inl (0, 1, [])), some (.inl (0, 29, [(100, 0)])), some (.inl (0, 6, []))], ([], [(3, 8, 0)], [(224, 3, 3, (1, 31, [])), (1, 15, 15, ck_one 1), (3, 6, 6, (0, 299, [(10, 0)]))]), 500, .inl 4, true)] 330 p2_s3337 = true := by decide +kernel
theorem p2_s3337_s {X : Int → Int} {LX : Nat} : ck_Ok p2_O X LX 213 p2_s3337 := ck_ok_s ⟨p2_nmu, ck_E1 (ck_S1 p2_s3315_s ck_S0) (ck_E1 (ck_S1 p2_s405_s ck_S0) (ck_E1 (ck_S1 p2_s3321_s ck_S0) (ck_E1 (ck_S1 p2_s3323_s ck_S0) (ck_E1 (ck_S1 p2_s3324_s (ck_S1 p2_s3318_s ck_S0)) (ck_E1 (ck_S1 p2_s3335_s ck_S0) (ck_E1 (ck_S1 p2_s3336_s ck_S0) ck_E0))))))⟩ ck_X0 ck_l0 p2_s3337_e
set_option maxRecDepth 100000 in
/-- GlacierMailModel.in -/
def p2_s3338 : ck_Sum := ((0, 0, 0), 245, [.inl ((-2147483648), (-1), []), .inl (ck_one 1), .inl (ck_one 30)], ([], [], []), ([], []), [(.inr (some (.inl (ck_one 0))), 245, ([], [], []))])
set_option maxRecDepth 100000 in
theorem p2_s3338_e : ck_ok p2_O none [] [] 286 [] 80 p2_s3338 = true := by decide +kernel
theorem p2_s3338_s {X : Int → Int} {LX : Nat} : ck_Ok p2_O X LX 286 p2_s3338 := ck_ok_s ⟨p2_nmu, ck_E0⟩ ck_X0 ck_l0 p2_s3338_e
set_option maxRecDepth 100000 in
/-- GlacierMailModel.thieves -/
def p2_s3339 : ck_Sum := ((1, 0, 0), 245, [.inr (.inr (.inl 226)), .inl ((-2147483648), (-1), []), .inl (0, 1, [])], ([], [], []), ([(226, 0, 0)], []), [(.inr (some (.inl (ck_one 0))), 245, ([], [], [(226, 0, 0, ck_one 1)]))])
set_option maxRecDepth 100000 in
theorem p2_s3339_e : ck_ok p2_O none [] [(286, [p2_s3338]), (282, [p2_s268])] 357 [] 102 p2_s3339 = true := by decide +kernel
theorem p2_s3339_s {X : Int → Int} {LX : Nat} : ck_Ok p2_O X LX 357 p2_s3339 := ck_ok_s ⟨p2_nmu, ck_E1 (ck_S1 p2_s3338_s ck_S0) (ck_E1 (ck_S1 p2_s268_s ck_S0) ck_E0)⟩ ck_X0 ck_l0 p2_s3339_e
set_option maxRecDepth 100000 in
/-- GlacierMailModel.in -/
def p2_s3340 : ck_Sum := ((0, 0, 0), 245, [.inl (31, 2147483647, []), .inl (ck_one 1), .inl (ck_one 30)], ([], [], []), ([], []), [(.inr (some (.inl (ck_one 0))), 245, ([], [], []))])
set_option maxRecDepth 100000 in
theorem p2_s3340_e : ck_ok p2_O none [] [] 286 [] 86 p2_s3340 = true := by decide +kernel
theorem p2_s3340_s {X : Int → Int} {LX : Nat} : ck_Ok p2_O X LX 286 p2_s3340 := ck_ok_s ⟨p2_nmu, ck_E0⟩ ck_X0 ck_l0 p2_s3340_e
set_option maxRecDepth 100000 in
/-- GlacierMailModel.thieves -/
def p2_s3341 : ck_Sum := ((1, 0, 0), 245, [.inr (.inr (.inl 226)), .inl (31, 2147483647, []), .inl (0, 1, [])], ([], [], []), ([(226, 0, 0)], []), [(.inr (some (.inl (ck_one 0))), 245, ([], [], [(226, 0, 0, ck_one 1)]))])
set_option maxRecDepth 100000 in
theorem p2_s3341_e : ck_ok p2_O none [] [(286, [p2_s3340]), (282, [p2_s268])] 357 [] 102 p2_s3341 = true := by decide +kernel
theorem p2_s3341_s {X : Int → Int} {LX : Nat} : ck_Ok p2_O X LX 357 p2_s3341 := ck_ok_s ⟨p2_nmu, ck_E1 (ck_S1 p2_s3340_s ck_S0) (ck_E1 (ck_S1 p2_s268_s ck_S0) ck_E0)⟩ ck_X0 ck_l0 p2_s3341_e
set_option maxRecDepth 100000 in
/-- GlacierMailModel.in -/
def p2_s3342 : ck_Sum := ((0, 0, 0), 245, [.inl (0, 30, []), .inl (ck_one 1), .inl (ck_one 30)], ([], [], []), ([], []), [(.inr (some (.inl (ck_one 0))), 245, ([], [], [])), (.inr (some (.inl (ck_one 1))), 245, ([], [], []))])
set_option maxRecDepth 100000 in
theorem p2_s3342_e : ck_ok p2_O none [] [] 286 [] 88 p2_s3342 = true := by decide +kernel
theorem p2_s3342_s {X : Int → Int} {LX : Nat} : ck_Ok p2_O X LX 286 p2_s3342 := ck_ok_s ⟨p2_nmu, ck_E0⟩ ck_X0 ck_l0 p2_s3342_e
set_option maxRecDepth 100000 in
/-- GlacierMailModel.outsIn -/
def p2_s3354 : ck_Sum := ((2, 0, 0), 245, [.inr (.inr (.inl 226)), .inl (0, 328, []), .inl (0, 5, []), .inl (ck_one 0)], ([], [], [(227, 4, 4, (0, 24, [(22, 0)]))]), ([], []), [(.inr (some (.inl ((-2147483648), 2147483647, []))), 245, ([], [], []))])
set_option maxRecDepth 100000 in
theorem p2_s3354_e : ck_ok p2_O none [] [(254, [p2_s196]), (301, [p2_s457]), (303, [p2_s455])] 333 [(6, [some (.inr (.inr (.inl 226))), some (.inl (0, 328, [])), some (.inl (0, 5, [])), some (.inl (ck_one 0)), some (.inl ((-2147483648), 2147483647, [])), some (.inl (0, 24, []))], ([], [], [(227, 4, 4, (0, 24, [(22, 0)]))]), 100, .inl 5, true)] 218 p2_s3354 = true := by decide +kernel
theorem p2_s3354_s {X : Int → Int} {LX : Nat} : ck_Ok p2_O X LX 333 p2_s3354 := ck_ok_s ⟨p2_nmu, ck_E1 (ck_S1 p2_s196_s ck_S0) (ck_E1 (ck_S1 p2_s457_s ck_S0) (ck_E1 (ck_S1 p2_s455_s ck_S0) ck_E0))⟩ ck_X0 ck_l0 p2_s3354_e
set_option maxRecDepth 100000 in
/-- GlacierMailModel.outsIn -/
def p2_s3355 : ck_Sum := ((2, 0, 0), 245, [.inr (.inr (.inl 226)), .inl (0, 327, []), .inl (0, 5, []), .inl (ck_one 0)], ([], [], [(227, 4, 4, (0, 24, [(22, 0)]))]), ([], []), [(.inr (some (.inl ((-2147483648), 2147483647, []))), 245, ([], [], []))])
set_option maxRecDepth 100000 in
theorem p2_s3355_e : ck_ok p2_O none [] [(254, [p2_s196]), (301, [p2_s457]), (303, [p2_s455])] 333 [(6, [some (.inr (.inr (.inl 226))), some (.inl (0, 327, [])), some (.inl (0, 5, [])), some (.inl (ck_one 0)), some (.inl ((-2147483648), 2147483647, [])), some (.inl (0, 24, []))], ([], [], [(227, 4, 4, (0, 24, [(22, 0)]))]), 100, .inl 5, true)] 218 p2_s3355 = true := by decide +kernel
theorem p2_s3355_s {X : Int → Int} {LX : Nat} : ck_Ok p2_O X LX 333 p2_s3355 := ck_ok_s ⟨p2_nmu, ck_E1 (ck_S1 p2_s196_s ck_S0) (ck_E1 (ck_S1 p2_s457_s ck_S0) (ck_E1 (ck_S1 p2_s455_s ck_S0) ck_E0))⟩ ck_X0 ck_l0 p2_s3355_e
set_option maxRecDepth 100000 in
/-- GlacierMailModel.outsIn -/
def p2_s3352 : ck_Sum := ((2, 0, 0), 245, [.inr (.inr (.inl 226)), .inl (0, 327, []), .inl (0, 4, []), .inl (ck_one 0)], ([], [], [(227, 4, 4, (0, 24, [(22, 0)]))]), ([], []), [(.inr (some (.inl ((-2147483648), 2147483647, []))), 245, ([], [], []))])
set_option maxRecDepth 100000 in
theorem p2_s3352_e : ck_ok p2_O none [] [(254, [p2_s196]), (301, [p2_s457]), (303, [p2_s455])] 333 [(6, [some (.inr (.inr (.inl 226))), some (.inl (0, 327, [])), some (.inl (0, 4, [])), some (.inl (ck_one 0)), some (.inl ((-2147483648), 2147483647, [])), some (.inl (0, 24, []))], ([], [], [(227, 4, 4, (0, 24, [(22, 0)]))]), 100, .inl 5, true)] 218 p2_s3352 = true := by decide +kernel
theorem p2_s3352_s {X : Int → Int} {LX : Nat} : ck_Ok p2_O X LX 333 p2_s3352 := ck_ok_s ⟨p2_nmu, ck_E1 (ck_S1 p2_s196_s ck_S0) (ck_E1 (ck_S1 p2_s457_s ck_S0) (ck_E1 (ck_S1 p2_s455_s ck_S0) ck_E0))⟩ ck_X0 ck_l0 p2_s3352_e
set_option maxRecDepth 100000 in
/-- GlacierMailModel.outsIn -/
def p2_s3344 : ck_Sum := ((2, 0, 0), 245, [.inr (.inr (.inl 226)), .inl (0, 327, []), .inl (ck_one 0), .inl (ck_one 0)], ([], [], [(227, 4, 4, (0, 24, [(22, 0)]))]), ([], []), [(.inr (some (.inl ((-2147483648), 2147483647, []))), 245, ([], [], []))])
set_option maxRecDepth 100000 in
theorem p2_s3344_e : ck_ok p2_O none [] [(254, [p2_s196]), (301, [p2_s457]), (303, [p2_s455])] 333 [(6, [some (.inr (.inr (.inl 226))), some (.inl (0, 327, [])), some (.inl (ck_one 0)), some (.inl (ck_one 0)), some (.inl ((-2147483648), 2147483647, [])), some (.inl (0, 24, []))], ([], [], [(227, 4, 4, (0, 24, [(22, 0)]))]), 100, .inl 5, true)] 218 p2_s3344 = true := by decide +kernel
theorem p2_s3344_s {X : Int → Int} {LX : Nat} : ck_Ok p2_O X LX 333 p2_s3344 := ck_ok_s ⟨p2_nmu, ck_E1 (ck_S1 p2_s196_s ck_S0) (ck_E1 (ck_S1 p2_s457_s ck_S0) (ck_E1 (ck_S1 p2_s455_s ck_S0) ck_E0))⟩ ck_X0 ck_l0 p2_s3344_e
set_option maxRecDepth 100000 in
/-- GlacierMailModel.outsIn -/
def p2_s3356 : ck_Sum := ((2, 0, 0), 245, [.inr (.inr (.inl 226)), .inl (0, 327, []), .inl (1, 5, []), .inl (ck_one 0)], ([], [], [(227, 4, 4, (0, 24, [(22, 0)]))]), ([], []), [(.inr (some (.inl ((-2147483648), 2147483647, []))), 245, ([], [], []))])
set_option maxRecDepth 100000 in
theorem p2_s3356_e : ck_ok p2_O none [] [(254, [p2_s196]), (301, [p2_s457]), (303, [p2_s455])] 333 [(6, [some (.inr (.inr (.inl 226))), some (.inl (0, 327, [])), some (.inl (1, 5, [])), some (.inl (ck_one 0)), some (.inl ((-2147483648), 2147483647, [])), some (.inl (0, 24, []))], ([], [], [(227, 4, 4, (0, 24, [(22, 0)]))]), 100, .inl 5, true)] 218 p2_s3356 = true := by decide +kernel
theorem p2_s3356_s {X : Int → Int} {LX : Nat} : ck_Ok p2_O X LX 333 p2_s3356 := ck_ok_s ⟨p2_nmu, ck_E1 (ck_S1 p2_s196_s ck_S0) (ck_E1 (ck_S1 p2_s457_s ck_S0) (ck_E1 (ck_S1 p2_s455_s ck_S0) ck_E0))⟩ ck_X0 ck_l0 p2_s3356_e
set_option maxRecDepth 100000 in
/-- GlacierMailModel.outsIn -/
def p2_s3353 : ck_Sum := ((2, 0, 0), 245, [.inr (.inr (.inl 226)), .inl (0, 327, []), .inl (1, 4, []), .inl (ck_one 0)], ([], [], [(227, 4, 4, (0, 24, [(22, 0)]))]), ([], []), [(.inr (some (.inl ((-2147483648), 2147483647, []))), 245, ([], [], []))])
set_option maxRecDepth 100000 in
theorem p2_s3353_e : ck_ok p2_O none [] [(254, [p2_s196]), (301, [p2_s457]), (303, [p2_s455])] 333 [(6, [some (.inr (.inr (.inl 226))), some (.inl (0, 327, [])), some (.inl (1, 4, [])), some (.inl (ck_one 0)), some (.inl ((-2147483648), 2147483647, [])), some (.inl (0, 24, []))], ([], [], [(227, 4, 4, (0, 24, [(22, 0)]))]), 100, .inl 5, true)] 218 p2_s3353 = true := by decide +kernel
theorem p2_s3353_s {X : Int → Int} {LX : Nat} : ck_Ok p2_O X LX 333 p2_s3353 := ck_ok_s ⟨p2_nmu, ck_E1 (ck_S1 p2_s196_s ck_S0) (ck_E1 (ck_S1 p2_s457_s ck_S0) (ck_E1 (ck_S1 p2_s455_s ck_S0) ck_E0))⟩ ck_X0 ck_l0 p2_s3353_e
set_option maxRecDepth 100000 in
/-- GlacierMail.watchman -/
def p2_s3359 : ck_Sum := ((7, 1, 6), 245, [.inr (.inr (.inl 1)), .inl ((-2147483648), (-1), []), .inl (0, 1, [])], ([], [], []), ([], []), [(.inl 0, 245, ([], [], []))])
set_option maxRecDepth 100000 in
theorem p2_s3359_e : ck_ok p2_O none [] [(214, [p2_s3311])] 218 [] 76 p2_s3359 = true := by decide +kernel
theorem p2_s3359_s {X : Int → Int} {LX : Nat} : ck_Ok p2_O X LX 218 p2_s3359 := ck_ok_s ⟨p2_nmu, ck_E1 (ck_S1 p2_s3311_s ck_S0) ck_E0⟩ ck_X0 ck_l0 p2_s3359_e
set_option maxRecDepth 100000 in
/-- GlacierMail.watchman -/
def p2_s3360 : ck_Sum := ((7, 1, 6), 245, [.inr (.inr (.inl 1)), .inl (31, 2147483647, []), .inl (0, 1, [])], ([], [], []), ([], []), [(.inl 0, 245, ([], [], []))])
set_option maxRecDepth 100000 in
theorem p2_s3360_e : ck_ok p2_O none [] [(214, [p2_s3313])] 218 [] 76 p2_s3360 = true := by decide +kernel
theorem p2_s3360_s {X : Int → Int} {LX : Nat} : ck_Ok p2_O X LX 218 p2_s3360 := ck_ok_s ⟨p2_nmu, ck_E1 (ck_S1 p2_s3313_s ck_S0) ck_E0⟩ ck_X0 ck_l0 p2_s3360_e
set_option maxRecDepth 100000 in
/-- GlacierMail.mostBeside -/
def p2_s3370 : ck_Sum := ((1, 0, 0), 245, [.inr (.inr (.inl 1)), .inl (0, 5, []), .inl (0, 30, [])], ([], [], []), ([], []), [(.inr (some (.inl (0, 2147483647, []))), 245, ([], [], []))])
set_option maxRecDepth 100000 in
theorem p2_s3370_e : ck_ok p2_O none [] [(10, [p2_s3318])] 219 [(5, [some (.inr (.inr (.inl 1))), some (.inl (0, 5, [])), some (.inl (0, 30, [])), some (.inl (0, 2147483647, [])), some (.inl (0, 6, [])), none, none], ([], [], []), 100, .inl 4, true), (23, [some (.inr (.inr (.inl 1))), some (.inl (0, 5, [])), some (.inl (0, 30, [])), some (.inl (0, 2147483647, [])), some (.inl (0, 5, [(100, 0)])), some (.inl ((-2147483648), 2147483647, [])), some (.inl (0, 30, []))], ([], [], []), 300, .inl 6, true)] 194 p2_s3370 = true := by decide +kernel
theorem p2_s3370_s {X : Int → Int} {LX : Nat} : ck_Ok p2_O X LX 219 p2_s3370 := ck_ok_s ⟨p2_nmu, ck_E1 (ck_S1 p2_s3318_s ck_S0) ck_E0⟩ ck_X0 ck_l0 p2_s3370_e
set_option maxRecDepth 100000 in
/-- GlacierMail.mostBeside -/
def p2_s3369 : ck_Sum := ((1, 0, 0), 245, [.inr (.inr (.inl 1)), .inl (1, 5, []), .inl (0, 30, [])], ([], [], []), ([], []), [(.inr (some (.inl (0, 2147483647, []))), 245, ([], [], []))])
set_option maxRecDepth 100000 in
theorem p2_s3369_e : ck_ok p2_O none [] [(10, [p2_s3318])] 219 [(5, [some (.inr (.inr (.inl 1))), some (.inl (1, 5, [])), some (.inl (0, 30, [])), some (.inl (0, 2147483647, [])), some (.inl (0, 6, [])), none, none], ([], [], []), 100, .inl 4, true), (23, [some (.inr (.inr (.inl 1))), some (.inl (1, 5, [])), some (.inl (0, 30, [])), some (.inl (0, 2147483647, [])), some (.inl (0, 5, [(100, 0)])), some (.inl ((-2147483648), 2147483647, [])), some (.inl (0, 30, []))], ([], [], []), 300, .inl 6, true)] 194 p2_s3369 = true := by decide +kernel
theorem p2_s3369_s {X : Int → Int} {LX : Nat} : ck_Ok p2_O X LX 219 p2_s3369 := ck_ok_s ⟨p2_nmu, ck_E1 (ck_S1 p2_s3318_s ck_S0) ck_E0⟩ ck_X0 ck_l0 p2_s3369_e
set_option maxRecDepth 100000 in
/-- GlacierMail.watchman -/
def p2_s3371 : ck_Sum := ((7, 1, 6), 245, [.inr (.inr (.inl 1)), .inl (0, 30, []), .inl (0, 1, [])], ([], [(3, 8, 0)], [(3, 6, 6, (0, 299, [(10, 0)]))]), ([(1, 15, 15), (206, 2, 8), (220, 3, 3), (221, 0, 47), (222, 3, 3), (223, 0, 179)], []), [(.inl 0, 245, ([], [], [])), (.inr (some (.inl (0, 2147483647, []))), 245, ([], [], [(1, 15, 15, ck_one 1)]))])
set_option maxRecDepth 100000 in
theorem p2_s3371_e : ck_ok p2_O none [] [(214, [p2_s3315]), (24, [p2_s405]), (215, [p2_s3321]), (219, [p2_s3370, p2_s3369])] 218 [(19, [some (.inr (.inr (.inl 1))), some (.inl (0, 30, [])), some (.inl (0, 1, [])), some (.inl (0, 5, [])), some (.inl (1, 6, []))], ([], [(3, 8, 0)], [(1, 15, 15, ck_one 1), (3, 6, 6, (0, 299, [(10, 0)]))]), 100, .inl 4, true)] 166 p2_s3371 = true := by decide +kernel
theorem p2_s3371_s {X : Int → Int} {LX : Nat} : ck_Ok p2_O X LX 218 p2_s3371 := ck_ok_s ⟨p2_nmu, ck_E1 (ck_S1 p2_s3315_s ck_S0) (ck_E1 (ck_S1 p2_s405_s ck_S0) (ck_E1 (ck_S1 p2_s3321_s ck_S0) (ck_E1 (ck_S1 p2_s3370_s (ck_S1 p2_s3369_s ck_S0)) ck_E0)))⟩ ck_X0 ck_l0 p2_s3371_e
set_option maxRecDepth 100000 in
/-- GlacierMailModel.watchman -/
def p2_s3372 : ck_Sum := ((1, 0, 0), 245, [.inr (.inr (.inl 226)), .inl ((-2147483648), (-1), []), .inl (0, 1, [])], ([], [], []), ([(226, 0, 0)], []), [(.inr (some (.inl (ck_one 0))), 245, ([], [], [(226, 0, 0, ck_one 1)]))])
set_option maxRecDepth 100000 in
theorem p2_s3372_e : ck_ok p2_O none [] [(286, [p2_s3338]), (282, [p2_s268])] 359 [] 102 p2_s3372 = true := by decide +kernel
theorem p2_s3372_s {X : Int → Int} {LX : Nat} : ck_Ok p2_O X LX 359 p2_s3372 := ck_ok_s ⟨p2_nmu, ck_E1 (ck_S1 p2_s3338_s ck_S0) (ck_E1 (ck_S1 p2_s268_s ck_S0) ck_E0)⟩ ck_X0 ck_l0 p2_s3372_e
set_option maxRecDepth 100000 in
/-- GlacierMailModel.watchman -/
def p2_s3373 : ck_Sum := ((1, 0, 0), 245, [.inr (.inr (.inl 226)), .inl (31, 2147483647, []), .inl (0, 1, [])], ([], [], []), ([(226, 0, 0)], []), [(.inr (some (.inl (ck_one 0))), 245, ([], [], [(226, 0, 0, ck_one 1)]))])
set_option maxRecDepth 100000 in
theorem p2_s3373_e : ck_ok p2_O none [] [(286, [p2_s3340]), (282, [p2_s268])] 359 [] 102 p2_s3373 = true := by decide +kernel
theorem p2_s3373_s {X : Int → Int} {LX : Nat} : ck_Ok p2_O X LX 359 p2_s3373 := ck_ok_s ⟨p2_nmu, ck_E1 (ck_S1 p2_s3340_s ck_S0) (ck_E1 (ck_S1 p2_s268_s ck_S0) ck_E0)⟩ ck_X0 ck_l0 p2_s3373_e
set_option maxRecDepth 100000 in
/-- GlacierMail.meeting -/
def p2_s3377 : ck_Sum := ((8, 1, 6), 245, [.inr (.inr (.inl 1)), .inl ((-2147483648), (-1), []), .inl ((-2147483648), 2147483647, [])], ([], [], []), ([], []), [(.inl 3, 245, ([], [], []))])
set_option maxRecDepth 100000 in
theorem p2_s3377_e : ck_ok p2_O none [] [(143, [p2_s599])] 221 [] 76 p2_s3377 = true := by decide +kernel
theorem p2_s3377_s {X : Int → Int} {LX : Nat} : ck_Ok p2_O X LX 221 p2_s3377 := ck_ok_s ⟨p2_nmu, ck_E1 (ck_S1 p2_s599_s ck_S0) ck_E0⟩ ck_X0 ck_l0 p2_s3377_e
set_option maxRecDepth 100000 in
/-- GlacierMail.meeting -/
def p2_s3378 : ck_Sum := ((8, 1, 6), 245, [.inr (.inr (.inl 1)), .inl (24, 2147483647, []), .inl ((-2147483648), 2147483647, [])], ([], [], []), ([], []), [(.inl 3, 245, ([], [], []))])
set_option maxRecDepth 100000 in
theorem p2_s3378_e : ck_ok p2_O none [] [(143, [p2_s602])] 221 [] 76 p2_s3378 = true := by decide +kernel
theorem p2_s3378_s {X : Int → Int} {LX : Nat} : ck_Ok p2_O X LX 221 p2_s3378 := ck_ok_s ⟨p2_nmu, ck_E1 (ck_S1 p2_s602_s ck_S0) ck_E0⟩ ck_X0 ck_l0 p2_s3378_e
set_option maxRecDepth 100000 in
/-- GlacierMail.meeting -/
def p2_s3379 : ck_Sum := ((8, 2, 12), 245, [.inr (.inr (.inl 1)), .inl (0, 23, []), .inl ((-2147483648), (-1), [])], ([], [], []), ([], []), [(.inl 3, 245, ([], [], []))])
set_option maxRecDepth 100000 in
theorem p2_s3379_e : ck_ok p2_O none [] [(143, [p2_s605, p2_s599])] 221 [] 82 p2_s3379 = true := by decide +kernel
theorem p2_s3379_s {X : Int → Int} {LX : Nat} : ck_Ok p2_O X LX 221 p2_s3379 := ck_ok_s ⟨p2_nmu, ck_E1 (ck_S1 p2_s605_s (ck_S1 p2_s599_s ck_S0)) ck_E0⟩ ck_X0 ck_l0 p2_s3379_e
set_option maxRecDepth 100000 in
/-- GlacierMail.meeting -/
def p2_s3380 : ck_Sum := ((8, 2, 12), 245, [.inr (.inr (.inl 1)), .inl (0, 23, []), .inl (24, 2147483647, [])], ([], [], []), ([], []), [(.inl 3, 245, ([], [], []))])
set_option maxRecDepth 100000 in
theorem p2_s3380_e : ck_ok p2_O none [] [(143, [p2_s605, p2_s602])] 221 [] 82 p2_s3380 = true := by decide +kernel
theorem p2_s3380_s {X : Int → Int} {LX : Nat} : ck_Ok p2_O X LX 221 p2_s3380 := ck_ok_s ⟨p2_nmu, ck_E1 (ck_S1 p2_s605_s (ck_S1 p2_s602_s ck_S0)) ck_E0⟩ ck_X0 ck_l0 p2_s3380_e
set_option maxRecDepth 100000 in
/-- GlacierMail.needUnlike -/
def p2_s3381 : ck_Sum := ((6, 1, 6), 245, [.inr (.inr (.inl 1)), .inl (0, 23, []), .inl (0, 23, [])], ([], [], []), ([], []), [(.inr none, 245, ([], [], [])), (.inl 0, 245, ([], [], []))])
set_option maxRecDepth 100000 in
theorem p2_s3381_e : ck_ok p2_O none [] [] 153 [] 78 p2_s3381 = true := by decide +kernel
theorem p2_s3381_s {X : Int → Int} {LX : Nat} : ck_Ok p2_O X LX 153 p2_s3381 := ck_ok_s ⟨p2_nmu, ck_E0⟩ ck_X0 ck_l0 p2_s3381_e
set_option maxRecDepth 100000 in
/-- GlacierMail.startBoth -/
def p2_s3382 : ck_Sum := ((4, 0, 0), 245, [.inr (.inr (.inl 1)), .inl (0, 23, []), .inl (0, 23, []), .inl (0, 299, [])], ([], [(3, 8, 0)], []), ([(206, 2, 8), (207, 2, 8)], []), [(.inr (some (.inl (0, 299, []))), 245, ([], [], [(206, 4, 4, ck_one (-1)), (206, 2, 2, ((-1), 299, []))]))])
set_option maxRecDepth 100000 in
theorem p2_s3382_e : ck_ok p2_O none [] [(27, [p2_s367, p2_s3005]), (148, [p2_s633, p2_s3010])] 182 [] 126 p2_s3382 = true := by decide +kernel
theorem p2_s3382_s {X : Int → Int} {LX : Nat} : ck_Ok p2_O X LX 182 p2_s3382 := ck_ok_s ⟨p2_nmu, ck_E1 (ck_S1 p2_s367_s (ck_S1 p2_s3005_s ck_S0)) (ck_E1 (ck_S1 p2_s633_s (ck_S1 p2_s3010_s ck_S0)) ck_E0)⟩ ck_X0 ck_l0 p2_s3382_e
set_option maxRecDepth 100000 in
/-- GlacierMail.meeting -/
def p2_s3383 : ck_Sum := ((8, 3, 18), 245, [.inr (.inr (.inl 1)), .inl (0, 23, []), .inl (0, 23, [])], ([], [(3, 8, 0)], [(3, 6, 6, (0, 299, [(10, 0)]))]), ([(206, 2, 8), (207, 2, 8)], []), [(.inl 3, 245, ([], [], [])), (.inl 0, 245, ([], [], [])), (.inr (some (.inl (ck_one (-1)))), 245, ([], [], [])), (.inr (some (.inl (0, 299, []))), 245, ([], [], [(207, 5, 5, ((-2147483648), 98, [])), (206, 5, 5, ((-2147483648), 98, [])), (206, 4, 4, ck_one (-1)), (206, 2, 2, ((-1), 299, []))]))])
set_option maxRecDepth 100000 in
theorem p2_s3383_e : ck_ok p2_O none [] [(143, [p2_s605]), (153, [p2_s3381]), (180, [p2_s3054]), (182, [p2_s3382]), (183, [p2_s3012]), (184, [p2_s3013])] 221 [(44, [some (.inr (.inr (.inl 1))), some (.inl (0, 23, [])), some (.inl (0, 23, [])), some (.inl (0, 299, [])), some (.inl (0, 300, []))], ([], [(3, 8, 0)], [(206, 4, 4, ck_one (-1)), (206, 2, 2, ((-1), 299, [])), (3, 6, 6, (0, 299, [(10, 0)]))]), 100, .inl 4, true)] 194 p2_s3383 = true := by decide +kernel
theorem p2_s3383_s {X : Int → Int} {LX : Nat} : ck_Ok p2_O X LX 221 p2_s3383 := ck_ok_s ⟨p2_nmu, ck_E1 (ck_S1 p2_s605_s ck_S0) (ck_E1 (ck_S1 p2_s3381_s ck_S0) (ck_E1 (ck_S1 p2_s3054_s ck_S0) (ck_E1 (ck_S1 p2_s3382_s ck_S0) (ck_E1 (ck_S1 p2_s3012_s ck_S0) (ck_E1 (ck_S1 p2_s3013_s ck_S0) ck_E0)))))⟩ ck_X0 ck_l0 p2_s3383_e
set_option maxRecDepth 100000 in
/-- GlacierMailModel.meeting -/
def p2_s3384 : ck_Sum := ((2, 0, 0), 245, [.inr (.inr (.inl 226)), .inl ((-2147483648), (-1), []), .inl ((-2147483648), 2147483647, [])], ([], [], [(227, 4, 4, (0, 24, [(22, 0)]))]), ([(226, 0, 0)], []), [(.inr (some (.inl (ck_one 0))), 245, ([], [], [(226, 0, 0, ck_one 1)]))])
set_option maxRecDepth 100000 in
theorem p2_s3384_e : ck_ok p2_O none [] [(309, [p2_s612]), (282, [p2_s268])] 360 [] 100 p2_s3384 = true := by decide +kernel
theorem p2_s3384_s {X : Int → Int} {LX : Nat} : ck_Ok p2_O X LX 360 p2_s3384 := ck_ok_s ⟨p2_nmu, ck_E1 (ck_S1 p2_s612_s ck_S0) (ck_E1 (ck_S1 p2_s268_s ck_S0) ck_E0)⟩ ck_X0 ck_l0 p2_s3384_e
set_option maxRecDepth 100000 in
/-- GlacierMailModel.meeting -/
def p2_s3385 : ck_Sum := ((2, 0, 0), 245, [.inr (.inr (.inl 226)), .inl (24, 2147483647, []), .inl ((-2147483648), 2147483647, [])], ([], [], [(227, 4, 4, (0, 24, [(22, 0)]))]), ([(226, 0, 0)], []), [(.inr (some (.inl (ck_one 0))), 245, ([], [], [(226, 0, 0, ck_one 1)]))])
set_option maxRecDepth 100000 in
theorem p2_s3385_e : ck_ok p2_O none [] [(309, [p2_s615]), (282, [p2_s268])] 360 [] 100 p2_s3385 = true := by decide +kernel
theorem p2_s3385_s {X : Int → Int} {LX : Nat} : ck_Ok p2_O X LX 360 p2_s3385 := ck_ok_s ⟨p2_nmu, ck_E1 (ck_S1 p2_s615_s ck_S0) (ck_E1 (ck_S1 p2_s268_s ck_S0) ck_E0)⟩ ck_X0 ck_l0 p2_s3385_e
set_option maxRecDepth 100000 in
/-- GlacierMailModel.meeting -/
def p2_s3386 : ck_Sum := ((2, 0, 0), 245, [.inr (.inr (.inl 226)), .inl (0, 23, []), .inl ((-2147483648), (-1), [])], ([], [], [(227, 4, 4, (0, 24, [(22, 0)]))]), ([(226, 0, 0)], []), [(.inr (some (.inl (ck_one 0))), 245, ([], [], [(226, 0, 0, ck_one 1)]))])
set_option maxRecDepth 100000 in
theorem p2_s3386_e : ck_ok p2_O none [] [(309, [p2_s618, p2_s612]), (282, [p2_s268])] 360 [] 108 p2_s3386 = true := by decide +kernel
theorem p2_s3386_s {X : Int → Int} {LX : Nat} : ck_Ok p2_O X LX 360 p2_s3386 := ck_ok_s ⟨p2_nmu, ck_E1 (ck_S1 p2_s618_s (ck_S1 p2_s612_s ck_S0)) (ck_E1 (ck_S1 p2_s268_s ck_S0) ck_E0)⟩ ck_X0 ck_l0 p2_s3386_e
set_option maxRecDepth 100000 in
/-- GlacierMailModel.meeting -/
def p2_s3387 : ck_Sum := ((2, 0, 0), 245, [.inr (.inr (.inl 226)), .inl (0, 23, []), .inl (24, 2147483647, [])], ([], [], [(227, 4, 4, (0, 24, [(22, 0)]))]), ([(226, 0, 0)], []), [(.inr (some (.inl (ck_one 0))), 245, ([], [], [(226, 0, 0, ck_one 1)]))])
set_option maxRecDepth 100000 in
theorem p2_s3387_e : ck_ok p2_O none [] [(309, [p2_s618, p2_s615]), (282, [p2_s268])] 360 [] 108 p2_s3387 = true := by decide +kernel
theorem p2_s3387_s {X : Int → Int} {LX : Nat} : ck_Ok p2_O X LX 360 p2_s3387 := ck_ok_s ⟨p2_nmu, ck_E1 (ck_S1 p2_s618_s (ck_S1 p2_s615_s ck_S0)) (ck_E1 (ck_S1 p2_s268_s ck_S0) ck_E0)⟩ ck_X0 ck_l0 p2_s3387_e
set_option maxRecDepth 100000 in
/-- GlacierMail.outs -/
def p2_s3389 : ck_Sum := ((7, 1, 6), 245, [.inr (.inr (.inl 1)), .inl ((-2147483648), (-1), [])], ([], [], []), ([], []), [(.inl 0, 245, ([], [], []))])
set_option maxRecDepth 100000 in
theorem p2_s3389_e : ck_ok p2_O none [] [(129, [p2_s276])] 223 [] 76 p2_s3389 = true := by decide +kernel
theorem p2_s3389_s {X : Int → Int} {LX : Nat} : ck_Ok p2_O X LX 223 p2_s3389 := ck_ok_s ⟨p2_nmu, ck_E1 (ck_S1 p2_s276_s ck_S0) ck_E0⟩ ck_X0 ck_l0 p2_s3389_e
set_option maxRecDepth 100000 in
/-- GlacierMail.outs -/
def p2_s3390 : ck_Sum := ((7, 1, 6), 245, [.inr (.inr (.inl 1)), .inl (300, 2147483647, [])], ([], [], []), ([], []), [(.inl 0, 245, ([], [], []))])
set_option maxRecDepth 100000 in
theorem p2_s3390_e : ck_ok p2_O none [] [(129, [p2_s278])] 223 [] 76 p2_s3390 = true := by decide +kernel
theorem p2_s3390_s {X : Int → Int} {LX : Nat} : ck_Ok p2_O X LX 223 p2_s3390 := ck_ok_s ⟨p2_nmu, ck_E1 (ck_S1 p2_s278_s ck_S0) ck_E0⟩ ck_X0 ck_l0 p2_s3390_e
set_option maxRecDepth 100000 in
/-- GlacierMail.outIn -/
def p2_s3391 : ck_Sum := ((1, 0, 0), 245, [.inr (.inr (.inl 1)), .inl (0, 299, []), .inl (ck_one 1)], ([], [], []), ([], []), [(.inr (some (.inl ((-2147483648), 2147483647, []))), 245, ([], [], []))])
set_option maxRecDepth 100000 in
theorem p2_s3391_e : ck_ok p2_O none [] [(9, [p2_s362]), (10, [p2_s407])] 47 [(5, [some (.inr (.inr (.inl 1))), some (.inl (0, 299, [])), some (.inl (ck_one 1)), some (.inl ((-2147483648), 2147483647, [])), some (.inl (0, 24, []))], ([], [], []), 100, .inl 4, true)] 162 p2_s3391 = true := by decide +kernel
theorem p2_s3391_s {X : Int → Int} {LX : Nat} : ck_Ok p2_O X LX 47 p2_s3391 := ck_ok_s ⟨p2_nmu, ck_E1 (ck_S1 p2_s362_s ck_S0) (ck_E1 (ck_S1 p2_s407_s ck_S0) ck_E0)⟩ ck_X0 ck_l0 p2_s3391_e
set_option maxRecDepth 100000 in
/-- GlacierMail.outs -/
def p2_s3392 : ck_Sum := ((5, 0, 0), 245, [.inr (.inr (.inl 1)), .inl (0, 299, [])], ([], [(3, 8, 0)], []), ([(1, 15, 15), (206, 2, 8), (220, 3, 3), (221, 0, 47)], []), [(.inr (some (.inl ((-2147483648), 2147483647, []))), 245, ([], [], [(1, 15, 15, ck_one 1)]))])
set_option maxRecDepth 100000 in
theorem p2_s3392_e : ck_ok p2_O none [] [(129, [p2_s280]), (24, [p2_s405]), (47, [p2_s3391])] 223 [] 90 p2_s3392 = true := by decide +kernel
theorem p2_s3392_s {X : Int → Int} {LX : Nat} : ck_Ok p2_O X LX 223 p2_s3392 := ck_ok_s ⟨p2_nmu, ck_E1 (ck_S1 p2_s280_s ck_S0) (ck_E1 (ck_S1 p2_s405_s ck_S0) (ck_E1 (ck_S1 p2_s3391_s ck_S0) ck_E0))⟩ ck_X0 ck_l0 p2_s3392_e
set_option maxRecDepth 100000 in
/-- GlacierMailModel.outs -/
def p2_s3393 : ck_Sum := ((2, 0, 0), 245, [.inr (.inr (.inl 226)), .inl ((-2147483648), (-1), [])], ([], [], []), ([(226, 0, 0)], []), [(.inr (some (.inl (ck_one 0))), 245, ([], [], [(226, 0, 0, ck_one 1)]))])
set_option maxRecDepth 100000 in
theorem p2_s3393_e : ck_ok p2_O none [] [(285, [p2_s284]), (282, [p2_s268])] 361 [] 92 p2_s3393 = true := by decide +kernel
theorem p2_s3393_s {X : Int → Int} {LX : Nat} : ck_Ok p2_O X LX 361 p2_s3393 := ck_ok_s ⟨p2_nmu, ck_E1 (ck_S1 p2_s284_s ck_S0) (ck_E1 (ck_S1 p2_s268_s ck_S0) ck_E0)⟩ ck_X0 ck_l0 p2_s3393_e
set_option maxRecDepth 100000 in
/-- GlacierMailModel.outs -/
def p2_s3394 : ck_Sum := ((2, 0, 0), 245, [.inr (.inr (.inl 226)), .inl (300, 2147483647, [])], ([], [], []), ([(226, 0, 0)], []), [(.inr (some (.inl (ck_one 0))), 245, ([], [], [(226, 0, 0, ck_one 1)]))])
set_option maxRecDepth 100000 in
theorem p2_s3394_e : ck_ok p2_O none [] [(285, [p2_s287]), (282, [p2_s268])] 361 [] 92 p2_s3394 = true := by decide +kernel
theorem p2_s3394_s {X : Int → Int} {LX : Nat} : ck_Ok p2_O X LX 361 p2_s3394 := ck_ok_s ⟨p2_nmu, ck_E1 (ck_S1 p2_s287_s ck_S0) (ck_E1 (ck_S1 p2_s268_s ck_S0) ck_E0)⟩ ck_X0 ck_l0 p2_s3394_e
set_option maxRecDepth 100000 in
/-- GlacierMail.outAheadOf -/
def p2_s3409 : ck_Sum := ((1, 0, 0), 245, [.inr (.inr (.inl 1)), .inl (0, 23, [])], ([], [], []), ([], []), [(.inr (some (.inl ((-2147483648), 2147483647, []))), 245, ([], [], []))])
set_option maxRecDepth 100000 in
theorem p2_s3409_e : ck_ok p2_O none [] [(10, [p2_s407]), (9, [p2_s362])] 53 [(15, [some (.inr (.inr (.inl 1))), some (.inl (0, 23, [])), some (.inl ((-2147483648), 299, [])), some (.inl ((-2147483648), 2147483647, [])), some (.inl (0, 24, [])), none, none], ([], [], []), 100, .inl 4, true)] 214 p2_s3409 = true := by decide +kernel
theorem p2_s3409_s {X : Int → Int} {LX : Nat} : ck_Ok p2_O X LX 53 p2_s3409 := ck_ok_s ⟨p2_nmu, ck_E1 (ck_S1 p2_s407_s ck_S0) (ck_E1 (ck_S1 p2_s362_s ck_S0) ck_E0)⟩ ck_X0 ck_l0 p2_s3409_e
set_option maxRecDepth 100000 in
/-- GlacierMail.order -/
def p2_s3410 : ck_Sum := ((5, 0, 0), 245, [.inr (.inr (.inl 1)), .inl ((-2147483648), 2147483647, [])], ([], [(3, 8, 0)], []), ([(1, 15, 15), (206, 2, 8), (220, 3, 3), (221, 0, 47)], []), [(.inr (some (.inl (ck_one (-1)))), 245, ([], [], [(1, 15, 15, ck_one 1)])), (.inr (some (.inl (0, 23, []))), 245, ([], [], [(1, 15, 15, ck_one 1)]))])
set_option maxRecDepth 100000 in
theorem p2_s3410_e : ck_ok p2_O none [] [(24, [p2_s405]), (9, [p2_s362]), (10, [p2_s407]), (53, [p2_s3409])] 52 [(6, [some (.inr (.inr (.inl 1))), some (.inl ((-2147483648), 2147483647, [])), some (.inl (0, 24, []))], ([], [(3, 8, 0)], [(1, 15, 15, ck_one 1)]), 100, .inl 2, true)] 170 p2_s3410 = true := by decide +kernel
theorem p2_s3410_s {X : Int → Int} {LX : Nat} : ck_Ok p2_O X LX 52 p2_s3410 := ck_ok_s ⟨p2_nmu, ck_E1 (ck_S1 p2_s405_s ck_S0) (ck_E1 (ck_S1 p2_s362_s ck_S0) (ck_E1 (ck_S1 p2_s407_s ck_S0) (ck_E1 (ck_S1 p2_s3409_s ck_S0) ck_E0)))⟩ ck_X0 ck_l0 p2_s3410_e
set_option maxRecDepth 100000 in
/-- GlacierMail.streams -/
def p2_s3412 : ck_Sum := ((7, 1, 6), 245, [.inr (.inr (.inl 1)), .inl ((-2147483648), (-1), []), .inl (0, 1, [])], ([], [], []), ([], []), [(.inl 0, 245, ([], [], []))])
set_option maxRecDepth 100000 in
theorem p2_s3412_e : ck_ok p2_O none [] [(129, [p2_s276])] 225 [] 76 p2_s3412 = true := by decide +kernel
theorem p2_s3412_s {X : Int → Int} {LX : Nat} : ck_Ok p2_O X LX 225 p2_s3412 := ck_ok_s ⟨p2_nmu, ck_E1 (ck_S1 p2_s276_s ck_S0) ck_E0⟩ ck_X0 ck_l0 p2_s3412_e
set_option maxRecDepth 100000 in
/-- GlacierMail.streams -/
def p2_s3413 : ck_Sum := ((7, 1, 6), 245, [.inr (.inr (.inl 1)), .inl (300, 2147483647, []), .inl (0, 1, [])], ([], [], []), ([], []), [(.inl 0, 245, ([], [], []))])
set_option maxRecDepth 100000 in
theorem p2_s3413_e : ck_ok p2_O none [] [(129, [p2_s278])] 225 [] 76 p2_s3413 = true := by decide +kernel
theorem p2_s3413_s {X : Int → Int} {LX : Nat} : ck_Ok p2_O X LX 225 p2_s3413 := ck_ok_s ⟨p2_nmu, ck_E1 (ck_S1 p2_s278_s ck_S0) ck_E0⟩ ck_X0 ck_l0 p2_s3413_e
set_option maxRecDepth 100000 in
/-- GlacierMail.streams -/
def p2_s3414 : ck_Sum := ((5, 0, 0), 245, [.inr (.inr (.inl 1)), .inl (0, 299, []), .inl (0, 1, [])], ([], [(3, 8, 0)], []), ([(1, 15, 15), (206, 2, 8), (220, 3, 3), (221, 0, 47)], []), [(.inr (some (.inl ((-2147483648), 2147483647, []))), 245, ([], [], [(1, 15, 15, ck_one 1)]))])
set_option maxRecDepth 100000 in
theorem p2_s3414_e : ck_ok p2_O none [] [(129, [p2_s280]), (24, [p2_s405]), (9, [p2_s362]), (10, [p2_s363, p2_s407]), (67, [p2_s408])] 225 [(14, [some (.inr (.inr (.inl 1))), some (.inl (0, 299, [])), some (.inl (0, 1, [])), some (.inl ((-2147483648), 2147483647, [])), some (.inl (0, 24, [])), none], ([], [(3, 8, 0)], [(1, 15, 15, ck_one 1)]), 100, .inl 4, true)] 226 p2_s3414 = true := by decide +kernel
theorem p2_s3414_s {X : Int → Int} {LX : Nat} : ck_Ok p2_O X LX 225 p2_s3414 := ck_ok_s ⟨p2_nmu, ck_E1 (ck_S1 p2_s280_s ck_S0) (ck_E1 (ck_S1 p2_s405_s ck_S0) (ck_E1 (ck_S1 p2_s362_s ck_S0) (ck_E1 (ck_S1 p2_s363_s (ck_S1 p2_s407_s ck_S0)) (ck_E1 (ck_S1 p2_s408_s ck_S0) ck_E0))))⟩ ck_X0 ck_l0 p2_s3414_e
