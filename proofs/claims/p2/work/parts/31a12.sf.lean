/-! EVERY CALL ENDS, whatever was done before (laid by wip/am/p2g.py). -/
set_option maxRecDepth 100000 in
/-- GlacierMailModel.streams -/
def p2_s3415 : ck_Sum := ((2, 0, 0), 245, [.inr (.inr (.inl 226)), .inl ((-2147483648), (-1), []), .inl (0, 1, [])], ([], [], []), ([(226, 0, 0)], []), [(.inr (some (.inl (ck_one 0))), 245, ([], [], [(226, 0, 0, ck_one 1)]))])
set_option maxRecDepth 100000 in
theorem p2_s3415_e : ck_ok p2_O none [] [(285, [p2_s284]), (282, [p2_s268])] 363 [] 92 p2_s3415 = true := by decide +kernel
theorem p2_s3415_s {X : Int → Int} {LX : Nat} : ck_Ok p2_O X LX 363 p2_s3415 := ck_ok_s ⟨p2_nmu, ck_E1 (ck_S1 p2_s284_s ck_S0) (ck_E1 (ck_S1 p2_s268_s ck_S0) ck_E0)⟩ ck_X0 ck_l0 p2_s3415_e
set_option maxRecDepth 100000 in
/-- GlacierMailModel.streams -/
def p2_s3416 : ck_Sum := ((2, 0, 0), 245, [.inr (.inr (.inl 226)), .inl (300, 2147483647, []), .inl (0, 1, [])], ([], [], []), ([(226, 0, 0)], []), [(.inr (some (.inl (ck_one 0))), 245, ([], [], [(226, 0, 0, ck_one 1)]))])
set_option maxRecDepth 100000 in
theorem p2_s3416_e : ck_ok p2_O none [] [(285, [p2_s287]), (282, [p2_s268])] 363 [] 92 p2_s3416 = true := by decide +kernel
theorem p2_s3416_s {X : Int → Int} {LX : Nat} : ck_Ok p2_O X LX 363 p2_s3416 := ck_ok_s ⟨p2_nmu, ck_E1 (ck_S1 p2_s287_s ck_S0) (ck_E1 (ck_S1 p2_s268_s ck_S0) ck_E0)⟩ ck_X0 ck_l0 p2_s3416_e
set_option maxRecDepth 100000 in
/-- GlacierMail.range -/
def p2_s3418 : ck_Sum := ((8, 1, 6), 245, [.inr (.inr (.inl 1)), .inl ((-2147483648), (-1), []), .inl ((-2147483648), 2147483647, [])], ([], [], []), ([], []), [(.inl 3, 245, ([], [], []))])
set_option maxRecDepth 100000 in
theorem p2_s3418_e : ck_ok p2_O none [] [(132, [p2_s293])] 227 [] 76 p2_s3418 = true := by decide +kernel
theorem p2_s3418_s {X : Int → Int} {LX : Nat} : ck_Ok p2_O X LX 227 p2_s3418 := ck_ok_s ⟨p2_nmu, ck_E1 (ck_S1 p2_s293_s ck_S0) ck_E0⟩ ck_X0 ck_l0 p2_s3418_e
set_option maxRecDepth 100000 in
/-- GlacierMail.range -/
def p2_s3419 : ck_Sum := ((8, 1, 6), 245, [.inr (.inr (.inl 1)), .inl (6, 2147483647, []), .inl ((-2147483648), 2147483647, [])], ([], [], []), ([], []), [(.inl 3, 245, ([], [], []))])
set_option maxRecDepth 100000 in
theorem p2_s3419_e : ck_ok p2_O none [] [(132, [p2_s296])] 227 [] 76 p2_s3419 = true := by decide +kernel
theorem p2_s3419_s {X : Int → Int} {LX : Nat} : ck_Ok p2_O X LX 227 p2_s3419 := ck_ok_s ⟨p2_nmu, ck_E1 (ck_S1 p2_s296_s ck_S0) ck_E0⟩ ck_X0 ck_l0 p2_s3419_e
set_option maxRecDepth 100000 in
/-- GlacierMail.range -/
def p2_s3420 : ck_Sum := ((8, 2, 12), 245, [.inr (.inr (.inl 1)), .inl (0, 5, []), .inl ((-2147483648), (-1), [])], ([], [], []), ([], []), [(.inl 3, 245, ([], [], [])), (.inl 0, 245, ([], [], []))])
set_option maxRecDepth 100000 in
theorem p2_s3420_e : ck_ok p2_O none [] [(132, [p2_s299]), (129, [p2_s276])] 227 [] 82 p2_s3420 = true := by decide +kernel
theorem p2_s3420_s {X : Int → Int} {LX : Nat} : ck_Ok p2_O X LX 227 p2_s3420 := ck_ok_s ⟨p2_nmu, ck_E1 (ck_S1 p2_s299_s ck_S0) (ck_E1 (ck_S1 p2_s276_s ck_S0) ck_E0)⟩ ck_X0 ck_l0 p2_s3420_e
set_option maxRecDepth 100000 in
/-- GlacierMail.range -/
def p2_s3421 : ck_Sum := ((8, 2, 12), 245, [.inr (.inr (.inl 1)), .inl (0, 5, []), .inl (300, 2147483647, [])], ([], [], []), ([], []), [(.inl 3, 245, ([], [], [])), (.inl 0, 245, ([], [], []))])
set_option maxRecDepth 100000 in
theorem p2_s3421_e : ck_ok p2_O none [] [(132, [p2_s299]), (129, [p2_s278])] 227 [] 82 p2_s3421 = true := by decide +kernel
theorem p2_s3421_s {X : Int → Int} {LX : Nat} : ck_Ok p2_O X LX 227 p2_s3421 := ck_ok_s ⟨p2_nmu, ck_E1 (ck_S1 p2_s299_s ck_S0) (ck_E1 (ck_S1 p2_s278_s ck_S0) ck_E0)⟩ ck_X0 ck_l0 p2_s3421_e
set_option maxRecDepth 100000 in
/-- GlacierMail.range -/
def p2_s3422 : ck_Sum := ((8, 1, 6), 245, [.inr (.inr (.inl 1)), .inl (0, 5, []), .inl (0, 299, [])], ([], [(3, 8, 0)], []), ([(206, 2, 8)], []), [(.inl 3, 245, ([], [], [])), (.inr (some (.inl ((-2147483648), 2147483647, []))), 245, ([], [], [(206, 4, 4, ck_one (-1))]))])
set_option maxRecDepth 100000 in
theorem p2_s3422_e : ck_ok p2_O none [] [(132, [p2_s299]), (129, [p2_s280]), (29, [p2_s1113]), (30, [p2_s374])] 227 [] 120 p2_s3422 = true := by decide +kernel
theorem p2_s3422_s {X : Int → Int} {LX : Nat} : ck_Ok p2_O X LX 227 p2_s3422 := ck_ok_s ⟨p2_nmu, ck_E1 (ck_S1 p2_s299_s ck_S0) (ck_E1 (ck_S1 p2_s280_s ck_S0) (ck_E1 (ck_S1 p2_s1113_s ck_S0) (ck_E1 (ck_S1 p2_s374_s ck_S0) ck_E0)))⟩ ck_X0 ck_l0 p2_s3422_e
set_option maxRecDepth 100000 in
/-- GlacierMailModel.range -/
def p2_s3423 : ck_Sum := ((2, 0, 0), 245, [.inr (.inr (.inl 226)), .inl ((-2147483648), (-1), []), .inl ((-2147483648), 2147483647, [])], ([], [], []), ([(226, 0, 0)], []), [(.inr (some (.inl (ck_one 0))), 245, ([], [], [(226, 0, 0, ck_one 1)]))])
set_option maxRecDepth 100000 in
theorem p2_s3423_e : ck_ok p2_O none [] [(288, [p2_s311]), (282, [p2_s268])] 364 [] 94 p2_s3423 = true := by decide +kernel
theorem p2_s3423_s {X : Int → Int} {LX : Nat} : ck_Ok p2_O X LX 364 p2_s3423 := ck_ok_s ⟨p2_nmu, ck_E1 (ck_S1 p2_s311_s ck_S0) (ck_E1 (ck_S1 p2_s268_s ck_S0) ck_E0)⟩ ck_X0 ck_l0 p2_s3423_e
set_option maxRecDepth 100000 in
/-- GlacierMailModel.range -/
def p2_s3424 : ck_Sum := ((2, 0, 0), 245, [.inr (.inr (.inl 226)), .inl (6, 2147483647, []), .inl ((-2147483648), 2147483647, [])], ([], [], []), ([(226, 0, 0)], []), [(.inr (some (.inl (ck_one 0))), 245, ([], [], [(226, 0, 0, ck_one 1)]))])
set_option maxRecDepth 100000 in
theorem p2_s3424_e : ck_ok p2_O none [] [(288, [p2_s314]), (282, [p2_s268])] 364 [] 94 p2_s3424 = true := by decide +kernel
theorem p2_s3424_s {X : Int → Int} {LX : Nat} : ck_Ok p2_O X LX 364 p2_s3424 := ck_ok_s ⟨p2_nmu, ck_E1 (ck_S1 p2_s314_s ck_S0) (ck_E1 (ck_S1 p2_s268_s ck_S0) ck_E0)⟩ ck_X0 ck_l0 p2_s3424_e
set_option maxRecDepth 100000 in
/-- GlacierMailModel.range -/
def p2_s3425 : ck_Sum := ((2, 0, 0), 245, [.inr (.inr (.inl 226)), .inl (0, 5, []), .inl ((-2147483648), (-1), [])], ([], [], []), ([(226, 0, 0)], []), [(.inr (some (.inl (ck_one 0))), 245, ([], [], [(226, 0, 0, (1, 2, []))]))])
set_option maxRecDepth 100000 in
theorem p2_s3425_e : ck_ok p2_O none [] [(288, [p2_s317]), (282, [p2_s268, p2_s269, p2_s272]), (285, [p2_s284])] 364 [] 106 p2_s3425 = true := by decide +kernel
theorem p2_s3425_s {X : Int → Int} {LX : Nat} : ck_Ok p2_O X LX 364 p2_s3425 := ck_ok_s ⟨p2_nmu, ck_E1 (ck_S1 p2_s317_s ck_S0) (ck_E1 (ck_S1 p2_s268_s (ck_S1 p2_s269_s (ck_S1 p2_s272_s ck_S0))) (ck_E1 (ck_S1 p2_s284_s ck_S0) ck_E0))⟩ ck_X0 ck_l0 p2_s3425_e
set_option maxRecDepth 100000 in
/-- GlacierMailModel.range -/
def p2_s3426 : ck_Sum := ((2, 0, 0), 245, [.inr (.inr (.inl 226)), .inl (0, 5, []), .inl (300, 2147483647, [])], ([], [], []), ([(226, 0, 0)], []), [(.inr (some (.inl (ck_one 0))), 245, ([], [], [(226, 0, 0, (1, 2, []))]))])
set_option maxRecDepth 100000 in
theorem p2_s3426_e : ck_ok p2_O none [] [(288, [p2_s317]), (282, [p2_s268, p2_s269, p2_s272]), (285, [p2_s287])] 364 [] 106 p2_s3426 = true := by decide +kernel
theorem p2_s3426_s {X : Int → Int} {LX : Nat} : ck_Ok p2_O X LX 364 p2_s3426 := ck_ok_s ⟨p2_nmu, ck_E1 (ck_S1 p2_s317_s ck_S0) (ck_E1 (ck_S1 p2_s268_s (ck_S1 p2_s269_s (ck_S1 p2_s272_s ck_S0))) (ck_E1 (ck_S1 p2_s287_s ck_S0) ck_E0))⟩ ck_X0 ck_l0 p2_s3426_e
set_option maxRecDepth 100000 in
/-- GlacierMail.swiftest -/
def p2_s3428 : ck_Sum := ((8, 1, 6), 245, [.inr (.inr (.inl 1)), .inl ((-2147483648), (-1), []), .inl ((-2147483648), 2147483647, [])], ([], [], []), ([], []), [(.inl 3, 245, ([], [], []))])
set_option maxRecDepth 100000 in
theorem p2_s3428_e : ck_ok p2_O none [] [(134, [p2_s301])] 229 [] 76 p2_s3428 = true := by decide +kernel
theorem p2_s3428_s {X : Int → Int} {LX : Nat} : ck_Ok p2_O X LX 229 p2_s3428 := ck_ok_s ⟨p2_nmu, ck_E1 (ck_S1 p2_s301_s ck_S0) ck_E0⟩ ck_X0 ck_l0 p2_s3428_e
set_option maxRecDepth 100000 in
/-- GlacierMail.swiftest -/
def p2_s3429 : ck_Sum := ((8, 1, 6), 245, [.inr (.inr (.inl 1)), .inl (99, 2147483647, []), .inl ((-2147483648), 2147483647, [])], ([], [], []), ([], []), [(.inl 3, 245, ([], [], []))])
set_option maxRecDepth 100000 in
theorem p2_s3429_e : ck_ok p2_O none [] [(134, [p2_s304])] 229 [] 76 p2_s3429 = true := by decide +kernel
theorem p2_s3429_s {X : Int → Int} {LX : Nat} : ck_Ok p2_O X LX 229 p2_s3429 := ck_ok_s ⟨p2_nmu, ck_E1 (ck_S1 p2_s304_s ck_S0) ck_E0⟩ ck_X0 ck_l0 p2_s3429_e
set_option maxRecDepth 100000 in
/-- GlacierMail.swiftest -/
def p2_s3430 : ck_Sum := ((8, 2, 12), 245, [.inr (.inr (.inl 1)), .inl (0, 98, []), .inl ((-2147483648), (-1), [])], ([], [], []), ([], []), [(.inl 3, 245, ([], [], [])), (.inl 0, 245, ([], [], []))])
set_option maxRecDepth 100000 in
theorem p2_s3430_e : ck_ok p2_O none [] [(134, [p2_s307]), (129, [p2_s276])] 229 [] 82 p2_s3430 = true := by decide +kernel
theorem p2_s3430_s {X : Int → Int} {LX : Nat} : ck_Ok p2_O X LX 229 p2_s3430 := ck_ok_s ⟨p2_nmu, ck_E1 (ck_S1 p2_s307_s ck_S0) (ck_E1 (ck_S1 p2_s276_s ck_S0) ck_E0)⟩ ck_X0 ck_l0 p2_s3430_e
set_option maxRecDepth 100000 in
/-- GlacierMail.swiftest -/
def p2_s3431 : ck_Sum := ((8, 2, 12), 245, [.inr (.inr (.inl 1)), .inl (0, 98, []), .inl (300, 2147483647, [])], ([], [], []), ([], []), [(.inl 3, 245, ([], [], [])), (.inl 0, 245, ([], [], []))])
set_option maxRecDepth 100000 in
theorem p2_s3431_e : ck_ok p2_O none [] [(134, [p2_s307]), (129, [p2_s278])] 229 [] 82 p2_s3431 = true := by decide +kernel
theorem p2_s3431_s {X : Int → Int} {LX : Nat} : ck_Ok p2_O X LX 229 p2_s3431 := ck_ok_s ⟨p2_nmu, ck_E1 (ck_S1 p2_s307_s ck_S0) (ck_E1 (ck_S1 p2_s278_s ck_S0) ck_E0)⟩ ck_X0 ck_l0 p2_s3431_e
set_option maxRecDepth 100000 in
/-- GlacierMail.swiftest -/
def p2_s3432 : ck_Sum := ((8, 1, 6), 245, [.inr (.inr (.inl 1)), .inl (0, 98, []), .inl (0, 299, [])], ([], [(3, 8, 0)], []), ([(206, 2, 8)], []), [(.inl 3, 245, ([], [], [])), (.inr (some (.inl ((-1), 5, []))), 245, ([], [], []))])
set_option maxRecDepth 100000 in
theorem p2_s3432_e : ck_ok p2_O none [] [(134, [p2_s307]), (129, [p2_s280]), (29, [p2_s1113]), (30, [p2_s374])] 229 [(20, [some (.inr (.inr (.inl 1))), some (.inl (0, 98, [])), some (.inl (0, 299, [])), some (.inl ((-1), 5, [])), some (.inl ((-2147483648), 300, [])), some (.inl (0, 6, [])), none], ([], [(3, 8, 0)], []), 100, .inl 5, true)] 210 p2_s3432 = true := by decide +kernel
theorem p2_s3432_s {X : Int → Int} {LX : Nat} : ck_Ok p2_O X LX 229 p2_s3432 := ck_ok_s ⟨p2_nmu, ck_E1 (ck_S1 p2_s307_s ck_S0) (ck_E1 (ck_S1 p2_s280_s ck_S0) (ck_E1 (ck_S1 p2_s1113_s ck_S0) (ck_E1 (ck_S1 p2_s374_s ck_S0) ck_E0)))⟩ ck_X0 ck_l0 p2_s3432_e
set_option maxRecDepth 100000 in
/-- GlacierMailModel.swiftest -/
def p2_s3433 : ck_Sum := ((2, 0, 0), 245, [.inr (.inr (.inl 226)), .inl ((-2147483648), (-1), []), .inl ((-2147483648), 2147483647, [])], ([], [], []), ([(226, 0, 0)], []), [(.inr (some (.inl (ck_one 0))), 245, ([], [], [(226, 0, 0, ck_one 1)]))])
set_option maxRecDepth 100000 in
theorem p2_s3433_e : ck_ok p2_O none [] [(289, [p2_s319]), (282, [p2_s268])] 365 [] 94 p2_s3433 = true := by decide +kernel
theorem p2_s3433_s {X : Int → Int} {LX : Nat} : ck_Ok p2_O X LX 365 p2_s3433 := ck_ok_s ⟨p2_nmu, ck_E1 (ck_S1 p2_s319_s ck_S0) (ck_E1 (ck_S1 p2_s268_s ck_S0) ck_E0)⟩ ck_X0 ck_l0 p2_s3433_e
set_option maxRecDepth 100000 in
/-- GlacierMailModel.swiftest -/
def p2_s3434 : ck_Sum := ((2, 0, 0), 245, [.inr (.inr (.inl 226)), .inl (99, 2147483647, []), .inl ((-2147483648), 2147483647, [])], ([], [], []), ([(226, 0, 0)], []), [(.inr (some (.inl (ck_one 0))), 245, ([], [], [(226, 0, 0, ck_one 1)]))])
set_option maxRecDepth 100000 in
theorem p2_s3434_e : ck_ok p2_O none [] [(289, [p2_s322]), (282, [p2_s268])] 365 [] 94 p2_s3434 = true := by decide +kernel
theorem p2_s3434_s {X : Int → Int} {LX : Nat} : ck_Ok p2_O X LX 365 p2_s3434 := ck_ok_s ⟨p2_nmu, ck_E1 (ck_S1 p2_s322_s ck_S0) (ck_E1 (ck_S1 p2_s268_s ck_S0) ck_E0)⟩ ck_X0 ck_l0 p2_s3434_e
set_option maxRecDepth 100000 in
/-- GlacierMailModel.swiftest -/
def p2_s3435 : ck_Sum := ((2, 0, 0), 245, [.inr (.inr (.inl 226)), .inl (0, 98, []), .inl ((-2147483648), (-1), [])], ([], [], []), ([(226, 0, 0)], []), [(.inr (some (.inl (ck_one 0))), 245, ([], [], [(226, 0, 0, (1, 2, []))]))])
set_option maxRecDepth 100000 in
theorem p2_s3435_e : ck_ok p2_O none [] [(289, [p2_s325]), (282, [p2_s268, p2_s269, p2_s272]), (285, [p2_s284])] 365 [] 106 p2_s3435 = true := by decide +kernel
theorem p2_s3435_s {X : Int → Int} {LX : Nat} : ck_Ok p2_O X LX 365 p2_s3435 := ck_ok_s ⟨p2_nmu, ck_E1 (ck_S1 p2_s325_s ck_S0) (ck_E1 (ck_S1 p2_s268_s (ck_S1 p2_s269_s (ck_S1 p2_s272_s ck_S0))) (ck_E1 (ck_S1 p2_s284_s ck_S0) ck_E0))⟩ ck_X0 ck_l0 p2_s3435_e
set_option maxRecDepth 100000 in
/-- GlacierMailModel.swiftest -/
def p2_s3436 : ck_Sum := ((2, 0, 0), 245, [.inr (.inr (.inl 226)), .inl (0, 98, []), .inl (300, 2147483647, [])], ([], [], []), ([(226, 0, 0)], []), [(.inr (some (.inl (ck_one 0))), 245, ([], [], [(226, 0, 0, (1, 2, []))]))])
set_option maxRecDepth 100000 in
theorem p2_s3436_e : ck_ok p2_O none [] [(289, [p2_s325]), (282, [p2_s268, p2_s269, p2_s272]), (285, [p2_s287])] 365 [] 106 p2_s3436 = true := by decide +kernel
theorem p2_s3436_s {X : Int → Int} {LX : Nat} : ck_Ok p2_O X LX 365 p2_s3436 := ck_ok_s ⟨p2_nmu, ck_E1 (ck_S1 p2_s325_s ck_S0) (ck_E1 (ck_S1 p2_s268_s (ck_S1 p2_s269_s (ck_S1 p2_s272_s ck_S0))) (ck_E1 (ck_S1 p2_s287_s ck_S0) ck_E0))⟩ ck_X0 ck_l0 p2_s3436_e
set_option maxRecDepth 100000 in
/-- GlacierMail.bare -/
def p2_s3438 : ck_Sum := ((7, 1, 6), 245, [.inr (.inr (.inl 1)), .inl ((-2147483648), (-1), [])], ([], [], []), ([], []), [(.inl 0, 245, ([], [], []))])
set_option maxRecDepth 100000 in
theorem p2_s3438_e : ck_ok p2_O none [] [(129, [p2_s276])] 231 [] 76 p2_s3438 = true := by decide +kernel
theorem p2_s3438_s {X : Int → Int} {LX : Nat} : ck_Ok p2_O X LX 231 p2_s3438 := ck_ok_s ⟨p2_nmu, ck_E1 (ck_S1 p2_s276_s ck_S0) ck_E0⟩ ck_X0 ck_l0 p2_s3438_e
set_option maxRecDepth 100000 in
/-- GlacierMail.bare -/
def p2_s3439 : ck_Sum := ((7, 1, 6), 245, [.inr (.inr (.inl 1)), .inl (300, 2147483647, [])], ([], [], []), ([], []), [(.inl 0, 245, ([], [], []))])
set_option maxRecDepth 100000 in
theorem p2_s3439_e : ck_ok p2_O none [] [(129, [p2_s278])] 231 [] 76 p2_s3439 = true := by decide +kernel
theorem p2_s3439_s {X : Int → Int} {LX : Nat} : ck_Ok p2_O X LX 231 p2_s3439 := ck_ok_s ⟨p2_nmu, ck_E1 (ck_S1 p2_s278_s ck_S0) ck_E0⟩ ck_X0 ck_l0 p2_s3439_e
set_option maxRecDepth 100000 in
/-- GlacierMail.bare -/
def p2_s3440 : ck_Sum := ((4, 0, 0), 245, [.inr (.inr (.inl 1)), .inl (0, 299, [])], ([], [(3, 8, 0)], []), ([(206, 2, 8)], []), [(.inr (some (.inl ((-2147483648), 2147483647, []))), 245, ([], [], []))])
set_option maxRecDepth 100000 in
theorem p2_s3440_e : ck_ok p2_O none [] [(129, [p2_s280]), (9, [p2_s359]), (10, [p2_s363]), (27, [p2_s367]), (148, [p2_s633]), (31, [p2_s368])] 231 [(9, [some (.inr (.inr (.inl 1))), some (.inl (0, 299, [])), some (.inl ((-2147483648), 2147483647, [])), some (.inl (0, 24, []))], ([], [(3, 8, 0)], []), 100, .inl 3, true)] 246 p2_s3440 = true := by decide +kernel
theorem p2_s3440_s {X : Int → Int} {LX : Nat} : ck_Ok p2_O X LX 231 p2_s3440 := ck_ok_s ⟨p2_nmu, ck_E1 (ck_S1 p2_s280_s ck_S0) (ck_E1 (ck_S1 p2_s359_s ck_S0) (ck_E1 (ck_S1 p2_s363_s ck_S0) (ck_E1 (ck_S1 p2_s367_s ck_S0) (ck_E1 (ck_S1 p2_s633_s ck_S0) (ck_E1 (ck_S1 p2_s368_s ck_S0) ck_E0)))))⟩ ck_X0 ck_l0 p2_s3440_e
set_option maxRecDepth 100000 in
/-- GlacierMailModel.bare -/
def p2_s3441 : ck_Sum := ((2, 0, 0), 245, [.inr (.inr (.inl 226)), .inl ((-2147483648), (-1), [])], ([], [], []), ([(226, 0, 0)], []), [(.inr (some (.inl (ck_one 0))), 245, ([], [], [(226, 0, 0, ck_one 1)]))])
set_option maxRecDepth 100000 in
theorem p2_s3441_e : ck_ok p2_O none [] [(285, [p2_s284]), (282, [p2_s268])] 366 [] 92 p2_s3441 = true := by decide +kernel
theorem p2_s3441_s {X : Int → Int} {LX : Nat} : ck_Ok p2_O X LX 366 p2_s3441 := ck_ok_s ⟨p2_nmu, ck_E1 (ck_S1 p2_s284_s ck_S0) (ck_E1 (ck_S1 p2_s268_s ck_S0) ck_E0)⟩ ck_X0 ck_l0 p2_s3441_e
set_option maxRecDepth 100000 in
/-- GlacierMailModel.bare -/
def p2_s3442 : ck_Sum := ((2, 0, 0), 245, [.inr (.inr (.inl 226)), .inl (300, 2147483647, [])], ([], [], []), ([(226, 0, 0)], []), [(.inr (some (.inl (ck_one 0))), 245, ([], [], [(226, 0, 0, ck_one 1)]))])
set_option maxRecDepth 100000 in
theorem p2_s3442_e : ck_ok p2_O none [] [(285, [p2_s287]), (282, [p2_s268])] 366 [] 92 p2_s3442 = true := by decide +kernel
theorem p2_s3442_s {X : Int → Int} {LX : Nat} : ck_Ok p2_O X LX 366 p2_s3442 := ck_ok_s ⟨p2_nmu, ck_E1 (ck_S1 p2_s287_s ck_S0) (ck_E1 (ck_S1 p2_s268_s ck_S0) ck_E0)⟩ ck_X0 ck_l0 p2_s3442_e
set_option maxRecDepth 100000 in
/-- GlacierMail$Rows.get -/
def p2_s3444 : ck_Sum := ((0, 0, 0), 245, [.inr (.inr (.inl 14)), .inl ((-2147483648), 2147483647, []), .inl ((-2147483648), 2147483647, [])], ([], [], []), ([], []), [(.inr (some (.inl ((-1), 299, []))), 245, ([], [], []))])
set_option maxRecDepth 100000 in
theorem p2_s3444_e : ck_ok p2_O none [] [] 10 [] 114 p2_s3444 = true := by decide +kernel
theorem p2_s3444_s {X : Int → Int} {LX : Nat} : ck_Ok p2_O X LX 10 p2_s3444 := ck_ok_s ⟨p2_nmu, ck_E0⟩ ck_X0 ck_l0 p2_s3444_e
set_option maxRecDepth 100000 in
/-- GlacierMail.log -/
def p2_s3445 : ck_Sum := ((6, 1, 6), 245, [.inr (.inr (.inl 1)), .inl ((-2147483648), (-1), []), .inl ((-2147483648), 2147483647, [])], ([], [], []), ([], []), [(.inl 4, 245, ([], [], [])), (.inr (some (.inl ((-1), 299, []))), 245, ([], [], []))])
set_option maxRecDepth 100000 in
theorem p2_s3445_e : ck_ok p2_O none [] [(10, [p2_s3444])] 233 [] 94 p2_s3445 = true := by decide +kernel
theorem p2_s3445_s {X : Int → Int} {LX : Nat} : ck_Ok p2_O X LX 233 p2_s3445 := ck_ok_s ⟨p2_nmu, ck_E1 (ck_S1 p2_s3444_s ck_S0) ck_E0⟩ ck_X0 ck_l0 p2_s3445_e
set_option maxRecDepth 100000 in
/-- GlacierMail.log -/
def p2_s3446 : ck_Sum := ((6, 1, 6), 245, [.inr (.inr (.inl 1)), .inl (24, 2147483647, []), .inl ((-2147483648), 2147483647, [])], ([], [], []), ([], []), [(.inl 4, 245, ([], [], [])), (.inr (some (.inl ((-1), 299, []))), 245, ([], [], []))])
set_option maxRecDepth 100000 in
theorem p2_s3446_e : ck_ok p2_O none [] [(10, [p2_s3444])] 233 [] 94 p2_s3446 = true := by decide +kernel
theorem p2_s3446_s {X : Int → Int} {LX : Nat} : ck_Ok p2_O X LX 233 p2_s3446 := ck_ok_s ⟨p2_nmu, ck_E1 (ck_S1 p2_s3444_s ck_S0) ck_E0⟩ ck_X0 ck_l0 p2_s3446_e
set_option maxRecDepth 100000 in
/-- GlacierMail.log -/
def p2_s3447 : ck_Sum := ((6, 1, 6), 245, [.inr (.inr (.inl 1)), .inl (0, 23, []), .inl ((-2147483648), (-1), [])], ([], [], []), ([], []), [(.inl 4, 245, ([], [], []))])
set_option maxRecDepth 100000 in
theorem p2_s3447_e : ck_ok p2_O none [] [] 233 [] 76 p2_s3447 = true := by decide +kernel
theorem p2_s3447_s {X : Int → Int} {LX : Nat} : ck_Ok p2_O X LX 233 p2_s3447 := ck_ok_s ⟨p2_nmu, ck_E0⟩ ck_X0 ck_l0 p2_s3447_e
set_option maxRecDepth 100000 in
/-- GlacierMail.log -/
def p2_s3448 : ck_Sum := ((6, 1, 6), 245, [.inr (.inr (.inl 1)), .inl (0, 23, []), .inl (10, 2147483647, [])], ([], [], []), ([], []), [(.inl 4, 245, ([], [], []))])
set_option maxRecDepth 100000 in
theorem p2_s3448_e : ck_ok p2_O none [] [] 233 [] 82 p2_s3448 = true := by decide +kernel
theorem p2_s3448_s {X : Int → Int} {LX : Nat} : ck_Ok p2_O X LX 233 p2_s3448 := ck_ok_s ⟨p2_nmu, ck_E0⟩ ck_X0 ck_l0 p2_s3448_e
set_option maxRecDepth 100000 in
/-- GlacierMail.log -/
def p2_s3449 : ck_Sum := ((6, 1, 6), 245, [.inr (.inr (.inl 1)), .inl (0, 23, []), .inl (0, 9, [])], ([], [], []), ([], []), [(.inr (some (.inl ((-1), 299, []))), 245, ([], [], [])), (.inl 4, 245, ([], [], []))])
set_option maxRecDepth 100000 in
theorem p2_s3449_e : ck_ok p2_O none [] [(10, [p2_s3444])] 233 [] 94 p2_s3449 = true := by decide +kernel
theorem p2_s3449_s {X : Int → Int} {LX : Nat} : ck_Ok p2_O X LX 233 p2_s3449 := ck_ok_s ⟨p2_nmu, ck_E1 (ck_S1 p2_s3444_s ck_S0) ck_E0⟩ ck_X0 ck_l0 p2_s3449_e
set_option maxRecDepth 100000 in
/-- GlacierMailModel.in -/
def p2_s3450 : ck_Sum := ((0, 0, 0), 245, [.inl ((-2147483648), 2147483647, []), .inl (ck_one 0), .inl (ck_one 2)], ([], [], []), ([], []), [(.inr (some (.inl (ck_one 0))), 245, ([], [], [])), (.inr (some (.inl (ck_one 1))), 245, ([], [], []))])
set_option maxRecDepth 100000 in
theorem p2_s3450_e : ck_ok p2_O none [] [] 286 [] 88 p2_s3450 = true := by decide +kernel
theorem p2_s3450_s {X : Int → Int} {LX : Nat} : ck_Ok p2_O X LX 286 p2_s3450 := ck_ok_s ⟨p2_nmu, ck_E0⟩ ck_X0 ck_l0 p2_s3450_e
set_option maxRecDepth 100000 in
/-- GlacierMailModel.log -/
def p2_s3451 : ck_Sum := ((1, 0, 0), 245, [.inr (.inr (.inl 226)), .inl ((-2147483648), (-1), []), .inl ((-2147483648), 2147483647, [])], ([], [], [(227, 14, 14, (0, 24, [(26, 0)]))]), ([(226, 0, 0)], []), [(.inr (some (.inl (ck_one 0))), 245, ([], [], [(226, 0, 0, ck_one 1)])), (.inr (some (.inl (ck_one (-1)))), 245, ([], [], [(226, 0, 0, ck_one 0)]))])
set_option maxRecDepth 100000 in
theorem p2_s3451_e : ck_ok p2_O none [] [(286, [p2_s3450, p2_s611]), (282, [p2_s268, p2_s269])] 367 [] 120 p2_s3451 = true := by decide +kernel
theorem p2_s3451_s {X : Int → Int} {LX : Nat} : ck_Ok p2_O X LX 367 p2_s3451 := ck_ok_s ⟨p2_nmu, ck_E1 (ck_S1 p2_s3450_s (ck_S1 p2_s611_s ck_S0)) (ck_E1 (ck_S1 p2_s268_s (ck_S1 p2_s269_s ck_S0)) ck_E0)⟩ ck_X0 ck_l0 p2_s3451_e
set_option maxRecDepth 100000 in
/-- GlacierMailModel.log -/
def p2_s3452 : ck_Sum := ((1, 0, 0), 245, [.inr (.inr (.inl 226)), .inl (24, 2147483647, []), .inl ((-2147483648), 2147483647, [])], ([], [], [(227, 14, 14, (0, 24, [(26, 0)]))]), ([(226, 0, 0)], []), [(.inr (some (.inl (ck_one 0))), 245, ([], [], [(226, 0, 0, ck_one 1)])), (.inr (some (.inl (ck_one (-1)))), 245, ([], [], [(226, 0, 0, ck_one 0)]))])
set_option maxRecDepth 100000 in
theorem p2_s3452_e : ck_ok p2_O none [] [(286, [p2_s3450, p2_s614]), (282, [p2_s268, p2_s269])] 367 [] 120 p2_s3452 = true := by decide +kernel
theorem p2_s3452_s {X : Int → Int} {LX : Nat} : ck_Ok p2_O X LX 367 p2_s3452 := ck_ok_s ⟨p2_nmu, ck_E1 (ck_S1 p2_s3450_s (ck_S1 p2_s614_s ck_S0)) (ck_E1 (ck_S1 p2_s268_s (ck_S1 p2_s269_s ck_S0)) ck_E0)⟩ ck_X0 ck_l0 p2_s3452_e
set_option maxRecDepth 100000 in
/-- GlacierMailModel.log -/
def p2_s3453 : ck_Sum := ((1, 0, 0), 245, [.inr (.inr (.inl 226)), .inl (0, 23, []), .inl ((-2147483648), (-1), [])], ([], [], []), ([(226, 0, 0)], []), [(.inr (some (.inl (ck_one 0))), 245, ([], [], [(226, 0, 0, ck_one 1)]))])
set_option maxRecDepth 100000 in
theorem p2_s3453_e : ck_ok p2_O none [] [(286, [p2_s1121]), (282, [p2_s268])] 367 [] 102 p2_s3453 = true := by decide +kernel
theorem p2_s3453_s {X : Int → Int} {LX : Nat} : ck_Ok p2_O X LX 367 p2_s3453 := ck_ok_s ⟨p2_nmu, ck_E1 (ck_S1 p2_s1121_s ck_S0) (ck_E1 (ck_S1 p2_s268_s ck_S0) ck_E0)⟩ ck_X0 ck_l0 p2_s3453_e
set_option maxRecDepth 100000 in
/-- GlacierMailModel.log -/
def p2_s3454 : ck_Sum := ((1, 0, 0), 245, [.inr (.inr (.inl 226)), .inl (0, 23, []), .inl (10, 2147483647, [])], ([], [], []), ([(226, 0, 0)], []), [(.inr (some (.inl (ck_one 0))), 245, ([], [], [(226, 0, 0, ck_one 1)]))])
set_option maxRecDepth 100000 in
theorem p2_s3454_e : ck_ok p2_O none [] [(286, [p2_s1123]), (282, [p2_s268])] 367 [] 102 p2_s3454 = true := by decide +kernel
theorem p2_s3454_s {X : Int → Int} {LX : Nat} : ck_Ok p2_O X LX 367 p2_s3454 := ck_ok_s ⟨p2_nmu, ck_E1 (ck_S1 p2_s1123_s ck_S0) (ck_E1 (ck_S1 p2_s268_s ck_S0) ck_E0)⟩ ck_X0 ck_l0 p2_s3454_e
set_option maxRecDepth 100000 in
/-- GlacierMailModel.log -/
def p2_s3455 : ck_Sum := ((1, 0, 0), 245, [.inr (.inr (.inl 226)), .inl (0, 23, []), .inl (0, 9, [])], ([], [], [(227, 14, 14, (0, 24, [(26, 0)]))]), ([(226, 0, 0)], []), [(.inr (some (.inl (ck_one 0))), 245, ([], [], [(226, 0, 0, ck_one 1)])), (.inr (some (.inl ((-1), 299, []))), 245, ([], [], [(226, 0, 0, ck_one 0)]))])
set_option maxRecDepth 100000 in
theorem p2_s3455_e : ck_ok p2_O none [] [(286, [p2_s1125, p2_s617]), (282, [p2_s268, p2_s269])] 367 [] 140 p2_s3455 = true := by decide +kernel
theorem p2_s3455_s {X : Int → Int} {LX : Nat} : ck_Ok p2_O X LX 367 p2_s3455 := ck_ok_s ⟨p2_nmu, ck_E1 (ck_S1 p2_s1125_s (ck_S1 p2_s617_s ck_S0)) (ck_E1 (ck_S1 p2_s268_s (ck_S1 p2_s269_s ck_S0)) ck_E0)⟩ ck_X0 ck_l0 p2_s3455_e
set_option maxRecDepth 100000 in
/-- GlacierMail$History.at -/
def p2_s3456 : ck_Sum := ((0, 0, 0), 245, [.inr (.inr (.inl 42)), .inl (0, 11, [])], ([], [], []), ([], []), [(.inr (some (.inr (.inr (.inl 44)))), 245, ([], [], [])), (.inr (some (.inr (.inr (.inl 187)))), 245, ([], [], [])), (.inr (some (.inr (.inr (.inl 174)))), 245, ([], [], [])), (.inr (some (.inr (.inr (.inl 161)))), 245, ([], [], [])), (.inr (some (.inr (.inr (.inl 148)))), 245, ([], [], [])), (.inr (some (.inr (.inr (.inl 135)))), 245, ([], [], [])), (.inr (some (.inr (.inr (.inl 122)))), 245, ([], [], [])), (.inr (some (.inr (.inr (.inl 109)))), 245, ([], [], [])), (.inr (some (.inr (.inr (.inl 96)))), 245, ([], [], [])), (.inr (some (.inr (.inr (.inl 83)))), 245, ([], [], [])), (.inr (some (.inr (.inr (.inl 70)))), 245, ([], [], [])), (.inr (some (.inr (.inr (.inl 57)))), 245, ([], [], []))])
set_option maxRecDepth 100000 in
theorem p2_s3456_e : ck_ok p2_O none [] [] 56 [] 96 p2_s3456 = true := by decide +kernel
theorem p2_s3456_s {X : Int → Int} {LX : Nat} : ck_Ok p2_O X LX 56 p2_s3456 := ck_ok_s ⟨p2_nmu, ck_E0⟩ ck_X0 ck_l0 p2_s3456_e
set_option maxRecDepth 100000 in
/-- GlacierMail$Rows.copyFrom -/
def p2_s3457 : ck_Sum := ((1, 0, 0), 245, [.inr (.inr (.inl 4)), .inr (.inr (.inl 45))], ([], [], []), ([(4, 3, 3), (5, 0, 55)], []), [(.inr none, 245, ([], [], []))])
set_option maxRecDepth 100000 in
theorem p2_s3457_e : ck_ok p2_O none [] [] 58 [] 114 p2_s3457 = true := by decide +kernel
theorem p2_s3457_s {X : Int → Int} {LX : Nat} : ck_Ok p2_O X LX 58 p2_s3457 := ck_ok_s ⟨p2_nmu, ck_E0⟩ ck_X0 ck_l0 p2_s3457_e
set_option maxRecDepth 100000 in
/-- GlacierMail$Rows.copyFrom -/
def p2_s3458 : ck_Sum := ((1, 0, 0), 245, [.inr (.inr (.inl 6)), .inr (.inr (.inl 47))], ([], [], []), ([(6, 3, 3), (7, 0, 23)], []), [(.inr none, 245, ([], [], []))])
set_option maxRecDepth 100000 in
theorem p2_s3458_e : ck_ok p2_O none [] [] 58 [] 114 p2_s3458 = true := by decide +kernel
theorem p2_s3458_s {X : Int → Int} {LX : Nat} : ck_Ok p2_O X LX 58 p2_s3458 := ck_ok_s ⟨p2_nmu, ck_E0⟩ ck_X0 ck_l0 p2_s3458_e
set_option maxRecDepth 100000 in
/-- GlacierMail$Rows.copyFrom -/
def p2_s3459 : ck_Sum := ((1, 0, 0), 245, [.inr (.inr (.inl 8)), .inr (.inr (.inl 49))], ([], [], []), ([(8, 3, 3), (9, 0, 23)], []), [(.inr none, 245, ([], [], []))])
set_option maxRecDepth 100000 in
theorem p2_s3459_e : ck_ok p2_O none [] [] 58 [] 114 p2_s3459 = true := by decide +kernel
theorem p2_s3459_s {X : Int → Int} {LX : Nat} : ck_Ok p2_O X LX 58 p2_s3459 := ck_ok_s ⟨p2_nmu, ck_E0⟩ ck_X0 ck_l0 p2_s3459_e
set_option maxRecDepth 100000 in
/-- GlacierMail$Rows.copyFrom -/
def p2_s3460 : ck_Sum := ((1, 0, 0), 245, [.inr (.inr (.inl 10)), .inr (.inr (.inl 51))], ([], [], []), ([(10, 3, 3), (11, 0, 167)], []), [(.inr none, 245, ([], [], []))])
set_option maxRecDepth 100000 in
theorem p2_s3460_e : ck_ok p2_O none [] [] 58 [] 114 p2_s3460 = true := by decide +kernel
theorem p2_s3460_s {X : Int → Int} {LX : Nat} : ck_Ok p2_O X LX 58 p2_s3460 := ck_ok_s ⟨p2_nmu, ck_E0⟩ ck_X0 ck_l0 p2_s3460_e
set_option maxRecDepth 100000 in
/-- GlacierMail$Rows.copyFrom -/
def p2_s3461 : ck_Sum := ((1, 0, 0), 245, [.inr (.inr (.inl 12)), .inr (.inr (.inl 53))], ([], [], []), ([(12, 3, 3), (13, 0, 35)], []), [(.inr none, 245, ([], [], []))])
set_option maxRecDepth 100000 in
theorem p2_s3461_e : ck_ok p2_O none [] [] 58 [] 114 p2_s3461 = true := by decide +kernel
theorem p2_s3461_s {X : Int → Int} {LX : Nat} : ck_Ok p2_O X LX 58 p2_s3461 := ck_ok_s ⟨p2_nmu, ck_E0⟩ ck_X0 ck_l0 p2_s3461_e
set_option maxRecDepth 100000 in
/-- GlacierMail$Rows.copyFrom -/
def p2_s3462 : ck_Sum := ((1, 0, 0), 245, [.inr (.inr (.inl 14)), .inr (.inr (.inl 55))], ([], [], []), ([(14, 3, 3), (15, 0, 71)], []), [(.inr none, 245, ([], [], []))])
set_option maxRecDepth 100000 in
theorem p2_s3462_e : ck_ok p2_O none [] [] 58 [] 114 p2_s3462 = true := by decide +kernel
theorem p2_s3462_s {X : Int → Int} {LX : Nat} : ck_Ok p2_O X LX 58 p2_s3462 := ck_ok_s ⟨p2_nmu, ck_E0⟩ ck_X0 ck_l0 p2_s3462_e
set_option maxRecDepth 100000 in
/-- GlacierMail$State.copyFrom -/
def p2_s3463 : ck_Sum := ((2, 0, 0), 245, [.inr (.inr (.inl 3)), .inr (.inr (.inl 44))], ([], [(3, 8, 0), (44, 8, 100044)], []), ([(3, 0, 7), (4, 3, 3), (5, 0, 55), (6, 3, 3), (7, 0, 23), (8, 3, 3), (9, 0, 23), (10, 3, 3), (11, 0, 167), (12, 3, 3), (13, 0, 35), (14, 3, 3), (15, 0, 71)], [(3, 8)]), [(.inr none, 245, ([], [(3, 8, 100044)], []))])
set_option maxRecDepth 100000 in
theorem p2_s3463_e : ck_ok p2_O none [] [(58, [p2_s3457, p2_s3458, p2_s3459, p2_s3460, p2_s3461, p2_s3462])] 57 [] 204 p2_s3463 = true := by decide +kernel
theorem p2_s3463_s {X : Int → Int} {LX : Nat} : ck_Ok p2_O X LX 57 p2_s3463 := ck_ok_s ⟨p2_nmu, ck_E1 (ck_S1 p2_s3457_s (ck_S1 p2_s3458_s (ck_S1 p2_s3459_s (ck_S1 p2_s3460_s (ck_S1 p2_s3461_s (ck_S1 p2_s3462_s ck_S0)))))) ck_E0⟩ ck_X0 ck_l0 p2_s3463_e
set_option maxRecDepth 100000 in
/-- GlacierMail$Rows.copyFrom -/
def p2_s3464 : ck_Sum := ((1, 0, 0), 245, [.inr (.inr (.inl 4)), .inr (.inr (.inl 58))], ([], [], []), ([(4, 3, 3), (5, 0, 55)], []), [(.inr none, 245, ([], [], []))])
set_option maxRecDepth 100000 in
theorem p2_s3464_e : ck_ok p2_O none [] [] 58 [] 114 p2_s3464 = true := by decide +kernel
theorem p2_s3464_s {X : Int → Int} {LX : Nat} : ck_Ok p2_O X LX 58 p2_s3464 := ck_ok_s ⟨p2_nmu, ck_E0⟩ ck_X0 ck_l0 p2_s3464_e
set_option maxRecDepth 100000 in
/-- GlacierMail$Rows.copyFrom -/
def p2_s3465 : ck_Sum := ((1, 0, 0), 245, [.inr (.inr (.inl 6)), .inr (.inr (.inl 60))], ([], [], []), ([(6, 3, 3), (7, 0, 23)], []), [(.inr none, 245, ([], [], []))])
set_option maxRecDepth 100000 in
theorem p2_s3465_e : ck_ok p2_O none [] [] 58 [] 114 p2_s3465 = true := by decide +kernel
theorem p2_s3465_s {X : Int → Int} {LX : Nat} : ck_Ok p2_O X LX 58 p2_s3465 := ck_ok_s ⟨p2_nmu, ck_E0⟩ ck_X0 ck_l0 p2_s3465_e
set_option maxRecDepth 100000 in
/-- GlacierMail$Rows.copyFrom -/
def p2_s3466 : ck_Sum := ((1, 0, 0), 245, [.inr (.inr (.inl 8)), .inr (.inr (.inl 62))], ([], [], []), ([(8, 3, 3), (9, 0, 23)], []), [(.inr none, 245, ([], [], []))])
set_option maxRecDepth 100000 in
theorem p2_s3466_e : ck_ok p2_O none [] [] 58 [] 114 p2_s3466 = true := by decide +kernel
theorem p2_s3466_s {X : Int → Int} {LX : Nat} : ck_Ok p2_O X LX 58 p2_s3466 := ck_ok_s ⟨p2_nmu, ck_E0⟩ ck_X0 ck_l0 p2_s3466_e
set_option maxRecDepth 100000 in
/-- GlacierMail$Rows.copyFrom -/
def p2_s3467 : ck_Sum := ((1, 0, 0), 245, [.inr (.inr (.inl 10)), .inr (.inr (.inl 64))], ([], [], []), ([(10, 3, 3), (11, 0, 167)], []), [(.inr none, 245, ([], [], []))])
set_option maxRecDepth 100000 in
theorem p2_s3467_e : ck_ok p2_O none [] [] 58 [] 114 p2_s3467 = true := by decide +kernel
theorem p2_s3467_s {X : Int → Int} {LX : Nat} : ck_Ok p2_O X LX 58 p2_s3467 := ck_ok_s ⟨p2_nmu, ck_E0⟩ ck_X0 ck_l0 p2_s3467_e
set_option maxRecDepth 100000 in
/-- GlacierMail$Rows.copyFrom -/
def p2_s3468 : ck_Sum := ((1, 0, 0), 245, [.inr (.inr (.inl 12)), .inr (.inr (.inl 66))], ([], [], []), ([(12, 3, 3), (13, 0, 35)], []), [(.inr none, 245, ([], [], []))])
set_option maxRecDepth 100000 in
theorem p2_s3468_e : ck_ok p2_O none [] [] 58 [] 114 p2_s3468 = true := by decide +kernel
theorem p2_s3468_s {X : Int → Int} {LX : Nat} : ck_Ok p2_O X LX 58 p2_s3468 := ck_ok_s ⟨p2_nmu, ck_E0⟩ ck_X0 ck_l0 p2_s3468_e
set_option maxRecDepth 100000 in
/-- GlacierMail$Rows.copyFrom -/
def p2_s3469 : ck_Sum := ((1, 0, 0), 245, [.inr (.inr (.inl 14)), .inr (.inr (.inl 68))], ([], [], []), ([(14, 3, 3), (15, 0, 71)], []), [(.inr none, 245, ([], [], []))])
set_option maxRecDepth 100000 in
theorem p2_s3469_e : ck_ok p2_O none [] [] 58 [] 114 p2_s3469 = true := by decide +kernel
theorem p2_s3469_s {X : Int → Int} {LX : Nat} : ck_Ok p2_O X LX 58 p2_s3469 := ck_ok_s ⟨p2_nmu, ck_E0⟩ ck_X0 ck_l0 p2_s3469_e
set_option maxRecDepth 100000 in
/-- GlacierMail$State.copyFrom -/
def p2_s3470 : ck_Sum := ((2, 0, 0), 245, [.inr (.inr (.inl 3)), .inr (.inr (.inl 57))], ([], [(3, 8, 0), (57, 8, 100057)], []), ([(3, 0, 7), (4, 3, 3), (5, 0, 55), (6, 3, 3), (7, 0, 23), (8, 3, 3), (9, 0, 23), (10, 3, 3), (11, 0, 167), (12, 3, 3), (13, 0, 35), (14, 3, 3), (15, 0, 71)], [(3, 8)]), [(.inr none, 245, ([], [(3, 8, 100057)], []))])
set_option maxRecDepth 100000 in
theorem p2_s3470_e : ck_ok p2_O none [] [(58, [p2_s3464, p2_s3465, p2_s3466, p2_s3467, p2_s3468, p2_s3469])] 57 [] 204 p2_s3470 = true := by decide +kernel
theorem p2_s3470_s {X : Int → Int} {LX : Nat} : ck_Ok p2_O X LX 57 p2_s3470 := ck_ok_s ⟨p2_nmu, ck_E1 (ck_S1 p2_s3464_s (ck_S1 p2_s3465_s (ck_S1 p2_s3466_s (ck_S1 p2_s3467_s (ck_S1 p2_s3468_s (ck_S1 p2_s3469_s ck_S0)))))) ck_E0⟩ ck_X0 ck_l0 p2_s3470_e
set_option maxRecDepth 100000 in
/-- GlacierMail$Rows.copyFrom -/
def p2_s3471 : ck_Sum := ((1, 0, 0), 245, [.inr (.inr (.inl 4)), .inr (.inr (.inl 71))], ([], [], []), ([(4, 3, 3), (5, 0, 55)], []), [(.inr none, 245, ([], [], []))])
set_option maxRecDepth 100000 in
theorem p2_s3471_e : ck_ok p2_O none [] [] 58 [] 114 p2_s3471 = true := by decide +kernel
theorem p2_s3471_s {X : Int → Int} {LX : Nat} : ck_Ok p2_O X LX 58 p2_s3471 := ck_ok_s ⟨p2_nmu, ck_E0⟩ ck_X0 ck_l0 p2_s3471_e
set_option maxRecDepth 100000 in
/-- GlacierMail$Rows.copyFrom -/
def p2_s3472 : ck_Sum := ((1, 0, 0), 245, [.inr (.inr (.inl 6)), .inr (.inr (.inl 73))], ([], [], []), ([(6, 3, 3), (7, 0, 23)], []), [(.inr none, 245, ([], [], []))])
set_option maxRecDepth 100000 in
theorem p2_s3472_e : ck_ok p2_O none [] [] 58 [] 114 p2_s3472 = true := by decide +kernel
theorem p2_s3472_s {X : Int → Int} {LX : Nat} : ck_Ok p2_O X LX 58 p2_s3472 := ck_ok_s ⟨p2_nmu, ck_E0⟩ ck_X0 ck_l0 p2_s3472_e
set_option maxRecDepth 100000 in
/-- GlacierMail$Rows.copyFrom -/
def p2_s3473 : ck_Sum := ((1, 0, 0), 245, [.inr (.inr (.inl 8)), .inr (.inr (.inl 75))], ([], [], []), ([(8, 3, 3), (9, 0, 23)], []), [(.inr none, 245, ([], [], []))])
set_option maxRecDepth 100000 in
theorem p2_s3473_e : ck_ok p2_O none [] [] 58 [] 114 p2_s3473 = true := by decide +kernel
theorem p2_s3473_s {X : Int → Int} {LX : Nat} : ck_Ok p2_O X LX 58 p2_s3473 := ck_ok_s ⟨p2_nmu, ck_E0⟩ ck_X0 ck_l0 p2_s3473_e
set_option maxRecDepth 100000 in
/-- GlacierMail$Rows.copyFrom -/
def p2_s3474 : ck_Sum := ((1, 0, 0), 245, [.inr (.inr (.inl 10)), .inr (.inr (.inl 77))], ([], [], []), ([(10, 3, 3), (11, 0, 167)], []), [(.inr none, 245, ([], [], []))])
set_option maxRecDepth 100000 in
theorem p2_s3474_e : ck_ok p2_O none [] [] 58 [] 114 p2_s3474 = true := by decide +kernel
theorem p2_s3474_s {X : Int → Int} {LX : Nat} : ck_Ok p2_O X LX 58 p2_s3474 := ck_ok_s ⟨p2_nmu, ck_E0⟩ ck_X0 ck_l0 p2_s3474_e
set_option maxRecDepth 100000 in
/-- GlacierMail$Rows.copyFrom -/
def p2_s3475 : ck_Sum := ((1, 0, 0), 245, [.inr (.inr (.inl 12)), .inr (.inr (.inl 79))], ([], [], []), ([(12, 3, 3), (13, 0, 35)], []), [(.inr none, 245, ([], [], []))])
set_option maxRecDepth 100000 in
theorem p2_s3475_e : ck_ok p2_O none [] [] 58 [] 114 p2_s3475 = true := by decide +kernel
theorem p2_s3475_s {X : Int → Int} {LX : Nat} : ck_Ok p2_O X LX 58 p2_s3475 := ck_ok_s ⟨p2_nmu, ck_E0⟩ ck_X0 ck_l0 p2_s3475_e
set_option maxRecDepth 100000 in
/-- GlacierMail$Rows.copyFrom -/
def p2_s3476 : ck_Sum := ((1, 0, 0), 245, [.inr (.inr (.inl 14)), .inr (.inr (.inl 81))], ([], [], []), ([(14, 3, 3), (15, 0, 71)], []), [(.inr none, 245, ([], [], []))])
set_option maxRecDepth 100000 in
theorem p2_s3476_e : ck_ok p2_O none [] [] 58 [] 114 p2_s3476 = true := by decide +kernel
theorem p2_s3476_s {X : Int → Int} {LX : Nat} : ck_Ok p2_O X LX 58 p2_s3476 := ck_ok_s ⟨p2_nmu, ck_E0⟩ ck_X0 ck_l0 p2_s3476_e
set_option maxRecDepth 100000 in
/-- GlacierMail$State.copyFrom -/
def p2_s3477 : ck_Sum := ((2, 0, 0), 245, [.inr (.inr (.inl 3)), .inr (.inr (.inl 70))], ([], [(3, 8, 0), (70, 8, 100070)], []), ([(3, 0, 7), (4, 3, 3), (5, 0, 55), (6, 3, 3), (7, 0, 23), (8, 3, 3), (9, 0, 23), (10, 3, 3), (11, 0, 167), (12, 3, 3), (13, 0, 35), (14, 3, 3), (15, 0, 71)], [(3, 8)]), [(.inr none, 245, ([], [(3, 8, 100070)], []))])
set_option maxRecDepth 100000 in
theorem p2_s3477_e : ck_ok p2_O none [] [(58, [p2_s3471, p2_s3472, p2_s3473, p2_s3474, p2_s3475, p2_s3476])] 57 [] 204 p2_s3477 = true := by decide +kernel
theorem p2_s3477_s {X : Int → Int} {LX : Nat} : ck_Ok p2_O X LX 57 p2_s3477 := ck_ok_s ⟨p2_nmu, ck_E1 (ck_S1 p2_s3471_s (ck_S1 p2_s3472_s (ck_S1 p2_s3473_s (ck_S1 p2_s3474_s (ck_S1 p2_s3475_s (ck_S1 p2_s3476_s ck_S0)))))) ck_E0⟩ ck_X0 ck_l0 p2_s3477_e
set_option maxRecDepth 100000 in
/-- GlacierMail$Rows.copyFrom -/
def p2_s3478 : ck_Sum := ((1, 0, 0), 245, [.inr (.inr (.inl 4)), .inr (.inr (.inl 84))], ([], [], []), ([(4, 3, 3), (5, 0, 55)], []), [(.inr none, 245, ([], [], []))])
set_option maxRecDepth 100000 in
theorem p2_s3478_e : ck_ok p2_O none [] [] 58 [] 114 p2_s3478 = true := by decide +kernel
theorem p2_s3478_s {X : Int → Int} {LX : Nat} : ck_Ok p2_O X LX 58 p2_s3478 := ck_ok_s ⟨p2_nmu, ck_E0⟩ ck_X0 ck_l0 p2_s3478_e
set_option maxRecDepth 100000 in
/-- GlacierMail$Rows.copyFrom -/
def p2_s3479 : ck_Sum := ((1, 0, 0), 245, [.inr (.inr (.inl 6)), .inr (.inr (.inl 86))], ([], [], []), ([(6, 3, 3), (7, 0, 23)], []), [(.inr none, 245, ([], [], []))])
set_option maxRecDepth 100000 in
theorem p2_s3479_e : ck_ok p2_O none [] [] 58 [] 114 p2_s3479 = true := by decide +kernel
theorem p2_s3479_s {X : Int → Int} {LX : Nat} : ck_Ok p2_O X LX 58 p2_s3479 := ck_ok_s ⟨p2_nmu, ck_E0⟩ ck_X0 ck_l0 p2_s3479_e
set_option maxRecDepth 100000 in
/-- GlacierMail$Rows.copyFrom -/
def p2_s3480 : ck_Sum := ((1, 0, 0), 245, [.inr (.inr (.inl 8)), .inr (.inr (.inl 88))], ([], [], []), ([(8, 3, 3), (9, 0, 23)], []), [(.inr none, 245, ([], [], []))])
set_option maxRecDepth 100000 in
theorem p2_s3480_e : ck_ok p2_O none [] [] 58 [] 114 p2_s3480 = true := by decide +kernel
theorem p2_s3480_s {X : Int → Int} {LX : Nat} : ck_Ok p2_O X LX 58 p2_s3480 := ck_ok_s ⟨p2_nmu, ck_E0⟩ ck_X0 ck_l0 p2_s3480_e
set_option maxRecDepth 100000 in
/-- GlacierMail$Rows.copyFrom -/
def p2_s3481 : ck_Sum := ((1, 0, 0), 245, [.inr (.inr (.inl 10)), .inr (.inr (.inl 90))], ([], [], []), ([(10, 3, 3), (11, 0, 167)], []), [(.inr none, 245, ([], [], []))])
set_option maxRecDepth 100000 in
theorem p2_s3481_e : ck_ok p2_O none [] [] 58 [] 114 p2_s3481 = true := by decide +kernel
theorem p2_s3481_s {X : Int → Int} {LX : Nat} : ck_Ok p2_O X LX 58 p2_s3481 := ck_ok_s ⟨p2_nmu, ck_E0⟩ ck_X0 ck_l0 p2_s3481_e
set_option maxRecDepth 100000 in
/-- GlacierMail$Rows.copyFrom -/
def p2_s3482 : ck_Sum := ((1, 0, 0), 245, [.inr (.inr (.inl 12)), .inr (.inr (.inl 92))], ([], [], []), ([(12, 3, 3), (13, 0, 35)], []), [(.inr none, 245, ([], [], []))])
set_option maxRecDepth 100000 in
theorem p2_s3482_e : ck_ok p2_O none [] [] 58 [] 114 p2_s3482 = true := by decide +kernel
theorem p2_s3482_s {X : Int → Int} {LX : Nat} : ck_Ok p2_O X LX 58 p2_s3482 := ck_ok_s ⟨p2_nmu, ck_E0⟩ ck_X0 ck_l0 p2_s3482_e
set_option maxRecDepth 100000 in
/-- GlacierMail$Rows.copyFrom -/
def p2_s3483 : ck_Sum := ((1, 0, 0), 245, [.inr (.inr (.inl 14)), .inr (.inr (.inl 94))], ([], [], []), ([(14, 3, 3), (15, 0, 71)], []), [(.inr none, 245, ([], [], []))])
set_option maxRecDepth 100000 in
theorem p2_s3483_e : ck_ok p2_O none [] [] 58 [] 114 p2_s3483 = true := by decide +kernel
theorem p2_s3483_s {X : Int → Int} {LX : Nat} : ck_Ok p2_O X LX 58 p2_s3483 := ck_ok_s ⟨p2_nmu, ck_E0⟩ ck_X0 ck_l0 p2_s3483_e
set_option maxRecDepth 100000 in
/-- GlacierMail$State.copyFrom -/
def p2_s3484 : ck_Sum := ((2, 0, 0), 245, [.inr (.inr (.inl 3)), .inr (.inr (.inl 83))], ([], [(3, 8, 0), (83, 8, 100083)], []), ([(3, 0, 7), (4, 3, 3), (5, 0, 55), (6, 3, 3), (7, 0, 23), (8, 3, 3), (9, 0, 23), (10, 3, 3), (11, 0, 167), (12, 3, 3), (13, 0, 35), (14, 3, 3), (15, 0, 71)], [(3, 8)]), [(.inr none, 245, ([], [(3, 8, 100083)], []))])
set_option maxRecDepth 100000 in
theorem p2_s3484_e : ck_ok p2_O none [] [(58, [p2_s3478, p2_s3479, p2_s3480, p2_s3481, p2_s3482, p2_s3483])] 57 [] 204 p2_s3484 = true := by decide +kernel
theorem p2_s3484_s {X : Int → Int} {LX : Nat} : ck_Ok p2_O X LX 57 p2_s3484 := ck_ok_s ⟨p2_nmu, ck_E1 (ck_S1 p2_s3478_s (ck_S1 p2_s3479_s (ck_S1 p2_s3480_s (ck_S1 p2_s3481_s (ck_S1 p2_s3482_s (ck_S1 p2_s3483_s ck_S0)))))) ck_E0⟩ ck_X0 ck_l0 p2_s3484_e
set_option maxRecDepth 100000 in
/-- GlacierMail$Rows.copyFrom -/
def p2_s3485 : ck_Sum := ((1, 0, 0), 245, [.inr (.inr (.inl 4)), .inr (.inr (.inl 97))], ([], [], []), ([(4, 3, 3), (5, 0, 55)], []), [(.inr none, 245, ([], [], []))])
set_option maxRecDepth 100000 in
theorem p2_s3485_e : ck_ok p2_O none [] [] 58 [] 114 p2_s3485 = true := by decide +kernel
theorem p2_s3485_s {X : Int → Int} {LX : Nat} : ck_Ok p2_O X LX 58 p2_s3485 := ck_ok_s ⟨p2_nmu, ck_E0⟩ ck_X0 ck_l0 p2_s3485_e
set_option maxRecDepth 100000 in
/-- GlacierMail$Rows.copyFrom -/
def p2_s3486 : ck_Sum := ((1, 0, 0), 245, [.inr (.inr (.inl 6)), .inr (.inr (.inl 99))], ([], [], []), ([(6, 3, 3), (7, 0, 23)], []), [(.inr none, 245, ([], [], []))])
set_option maxRecDepth 100000 in
theorem p2_s3486_e : ck_ok p2_O none [] [] 58 [] 114 p2_s3486 = true := by decide +kernel
theorem p2_s3486_s {X : Int → Int} {LX : Nat} : ck_Ok p2_O X LX 58 p2_s3486 := ck_ok_s ⟨p2_nmu, ck_E0⟩ ck_X0 ck_l0 p2_s3486_e
set_option maxRecDepth 100000 in
/-- GlacierMail$Rows.copyFrom -/
def p2_s3487 : ck_Sum := ((1, 0, 0), 245, [.inr (.inr (.inl 8)), .inr (.inr (.inl 101))], ([], [], []), ([(8, 3, 3), (9, 0, 23)], []), [(.inr none, 245, ([], [], []))])
set_option maxRecDepth 100000 in
theorem p2_s3487_e : ck_ok p2_O none [] [] 58 [] 114 p2_s3487 = true := by decide +kernel
theorem p2_s3487_s {X : Int → Int} {LX : Nat} : ck_Ok p2_O X LX 58 p2_s3487 := ck_ok_s ⟨p2_nmu, ck_E0⟩ ck_X0 ck_l0 p2_s3487_e
set_option maxRecDepth 100000 in
/-- GlacierMail$Rows.copyFrom -/
def p2_s3488 : ck_Sum := ((1, 0, 0), 245, [.inr (.inr (.inl 10)), .inr (.inr (.inl 103))], ([], [], []), ([(10, 3, 3), (11, 0, 167)], []), [(.inr none, 245, ([], [], []))])
set_option maxRecDepth 100000 in
theorem p2_s3488_e : ck_ok p2_O none [] [] 58 [] 114 p2_s3488 = true := by decide +kernel
theorem p2_s3488_s {X : Int → Int} {LX : Nat} : ck_Ok p2_O X LX 58 p2_s3488 := ck_ok_s ⟨p2_nmu, ck_E0⟩ ck_X0 ck_l0 p2_s3488_e
