/-! EVERY CALL ENDS, whatever was done before (laid by wip/am/p2g.py). -/
set_option maxRecDepth 100000 in
/-- GlacierMailModel.in -/
def p2_s313 : ck_Sum := ((0, 0, 0), 245, [.inl (6, 2147483647, []), .inl (ck_one 0), .inl (0, 5, [])], ([], [], []), ([], []), [(.inr (some (.inl (ck_one 0))), 245, ([], [], []))])
set_option maxRecDepth 100000 in
theorem p2_s313_e : ck_ok p2_O none [] [] 286 [] 86 p2_s313 = true := by decide +kernel
theorem p2_s313_s {X : Int → Int} {LX : Nat} : ck_Ok p2_O X LX 286 p2_s313 := ck_ok_s ⟨p2_nmu, ck_E0⟩ ck_X0 ck_l0 p2_s313_e
set_option maxRecDepth 100000 in
/-- GlacierMailModel.noLane -/
def p2_s314 : ck_Sum := ((1, 0, 0), 245, [.inr (.inr (.inl 226)), .inl (6, 2147483647, [])], ([], [], []), ([], []), [(.inr (some (.inl (ck_one 1))), 245, ([], [], []))])
set_option maxRecDepth 100000 in
theorem p2_s314_e : ck_ok p2_O none [] [(261, [p2_s184]), (286, [p2_s313])] 288 [] 92 p2_s314 = true := by decide +kernel
theorem p2_s314_s {X : Int → Int} {LX : Nat} : ck_Ok p2_O X LX 288 p2_s314 := ck_ok_s ⟨p2_nmu, ck_E1 (ck_S1 p2_s184_s ck_S0) (ck_E1 (ck_S1 p2_s313_s ck_S0) ck_E0)⟩ ck_X0 ck_l0 p2_s314_e
set_option maxRecDepth 100000 in
/-- GlacierMailModel.speed -/
def p2_s315 : ck_Sum := ((2, 0, 0), 245, [.inr (.inr (.inl 226)), .inl (6, 2147483647, []), .inl ((-2147483648), 2147483647, [])], ([], [], []), ([(226, 0, 0)], []), [(.inr (some (.inl (ck_one 0))), 245, ([], [], [(226, 0, 0, ck_one 1)]))])
set_option maxRecDepth 100000 in
theorem p2_s315_e : ck_ok p2_O none [] [(288, [p2_s314]), (282, [p2_s268])] 287 [] 102 p2_s315 = true := by decide +kernel
theorem p2_s315_s {X : Int → Int} {LX : Nat} : ck_Ok p2_O X LX 287 p2_s315 := ck_ok_s ⟨p2_nmu, ck_E1 (ck_S1 p2_s314_s ck_S0) (ck_E1 (ck_S1 p2_s268_s ck_S0) ck_E0)⟩ ck_X0 ck_l0 p2_s315_e
set_option maxRecDepth 100000 in
/-- GlacierMailModel.in -/
def p2_s316 : ck_Sum := ((0, 0, 0), 245, [.inl (0, 5, []), .inl (ck_one 0), .inl (0, 5, [])], ([], [], []), ([], []), [(.inr (some (.inl (ck_one 0))), 245, ([], [], [])), (.inr (some (.inl (ck_one 1))), 245, ([], [], []))])
set_option maxRecDepth 100000 in
theorem p2_s316_e : ck_ok p2_O none [] [] 286 [] 88 p2_s316 = true := by decide +kernel
theorem p2_s316_s {X : Int → Int} {LX : Nat} : ck_Ok p2_O X LX 286 p2_s316 := ck_ok_s ⟨p2_nmu, ck_E0⟩ ck_X0 ck_l0 p2_s316_e
set_option maxRecDepth 100000 in
/-- GlacierMailModel.noLane -/
def p2_s317 : ck_Sum := ((1, 0, 0), 245, [.inr (.inr (.inl 226)), .inl (0, 5, [])], ([], [], []), ([], []), [(.inr (some (.inl (ck_one 1))), 245, ([], [], [])), (.inr (some (.inl (ck_one 0))), 245, ([], [], []))])
set_option maxRecDepth 100000 in
theorem p2_s317_e : ck_ok p2_O none [] [(261, [p2_s184]), (286, [p2_s316])] 288 [] 92 p2_s317 = true := by decide +kernel
theorem p2_s317_s {X : Int → Int} {LX : Nat} : ck_Ok p2_O X LX 288 p2_s317 := ck_ok_s ⟨p2_nmu, ck_E1 (ck_S1 p2_s184_s ck_S0) (ck_E1 (ck_S1 p2_s316_s ck_S0) ck_E0)⟩ ck_X0 ck_l0 p2_s317_e
set_option maxRecDepth 100000 in
/-- GlacierMailModel.in -/
def p2_s318 : ck_Sum := ((0, 0, 0), 245, [.inl ((-2147483648), (-1), []), .inl (ck_one 0), .inl (9, 98, [])], ([], [], []), ([], []), [(.inr (some (.inl (ck_one 0))), 245, ([], [], []))])
set_option maxRecDepth 100000 in
theorem p2_s318_e : ck_ok p2_O none [] [] 286 [] 80 p2_s318 = true := by decide +kernel
theorem p2_s318_s {X : Int → Int} {LX : Nat} : ck_Ok p2_O X LX 286 p2_s318 := ck_ok_s ⟨p2_nmu, ck_E0⟩ ck_X0 ck_l0 p2_s318_e
set_option maxRecDepth 100000 in
/-- GlacierMailModel.noRow -/
def p2_s319 : ck_Sum := ((1, 0, 0), 245, [.inr (.inr (.inl 226)), .inl ((-2147483648), (-1), [])], ([], [], []), ([], []), [(.inr (some (.inl (ck_one 1))), 245, ([], [], []))])
set_option maxRecDepth 100000 in
theorem p2_s319_e : ck_ok p2_O none [] [(259, [p2_s200]), (286, [p2_s318])] 289 [] 92 p2_s319 = true := by decide +kernel
theorem p2_s319_s {X : Int → Int} {LX : Nat} : ck_Ok p2_O X LX 289 p2_s319 := ck_ok_s ⟨p2_nmu, ck_E1 (ck_S1 p2_s200_s ck_S0) (ck_E1 (ck_S1 p2_s318_s ck_S0) ck_E0)⟩ ck_X0 ck_l0 p2_s319_e
set_option maxRecDepth 100000 in
/-- GlacierMailModel.speed -/
def p2_s320 : ck_Sum := ((2, 0, 0), 245, [.inr (.inr (.inl 226)), .inl (0, 5, []), .inl ((-2147483648), (-1), [])], ([], [], []), ([(226, 0, 0)], []), [(.inr (some (.inl (ck_one 0))), 245, ([], [], [(226, 0, 0, ck_one 1)]))])
set_option maxRecDepth 100000 in
theorem p2_s320_e : ck_ok p2_O none [] [(288, [p2_s317]), (282, [p2_s268]), (289, [p2_s319])] 287 [] 110 p2_s320 = true := by decide +kernel
theorem p2_s320_s {X : Int → Int} {LX : Nat} : ck_Ok p2_O X LX 287 p2_s320 := ck_ok_s ⟨p2_nmu, ck_E1 (ck_S1 p2_s317_s ck_S0) (ck_E1 (ck_S1 p2_s268_s ck_S0) (ck_E1 (ck_S1 p2_s319_s ck_S0) ck_E0))⟩ ck_X0 ck_l0 p2_s320_e
set_option maxRecDepth 100000 in
/-- GlacierMailModel.in -/
def p2_s321 : ck_Sum := ((0, 0, 0), 245, [.inl (99, 2147483647, []), .inl (ck_one 0), .inl (9, 98, [])], ([], [], []), ([], []), [(.inr (some (.inl (ck_one 0))), 245, ([], [], []))])
set_option maxRecDepth 100000 in
theorem p2_s321_e : ck_ok p2_O none [] [] 286 [] 86 p2_s321 = true := by decide +kernel
theorem p2_s321_s {X : Int → Int} {LX : Nat} : ck_Ok p2_O X LX 286 p2_s321 := ck_ok_s ⟨p2_nmu, ck_E0⟩ ck_X0 ck_l0 p2_s321_e
set_option maxRecDepth 100000 in
/-- GlacierMailModel.noRow -/
def p2_s322 : ck_Sum := ((1, 0, 0), 245, [.inr (.inr (.inl 226)), .inl (99, 2147483647, [])], ([], [], []), ([], []), [(.inr (some (.inl (ck_one 1))), 245, ([], [], []))])
set_option maxRecDepth 100000 in
theorem p2_s322_e : ck_ok p2_O none [] [(259, [p2_s200]), (286, [p2_s321])] 289 [] 92 p2_s322 = true := by decide +kernel
theorem p2_s322_s {X : Int → Int} {LX : Nat} : ck_Ok p2_O X LX 289 p2_s322 := ck_ok_s ⟨p2_nmu, ck_E1 (ck_S1 p2_s200_s ck_S0) (ck_E1 (ck_S1 p2_s321_s ck_S0) ck_E0)⟩ ck_X0 ck_l0 p2_s322_e
set_option maxRecDepth 100000 in
/-- GlacierMailModel.speed -/
def p2_s323 : ck_Sum := ((2, 0, 0), 245, [.inr (.inr (.inl 226)), .inl (0, 5, []), .inl (99, 2147483647, [])], ([], [], []), ([(226, 0, 0)], []), [(.inr (some (.inl (ck_one 0))), 245, ([], [], [(226, 0, 0, ck_one 1)]))])
set_option maxRecDepth 100000 in
theorem p2_s323_e : ck_ok p2_O none [] [(288, [p2_s317]), (282, [p2_s268]), (289, [p2_s322])] 287 [] 110 p2_s323 = true := by decide +kernel
theorem p2_s323_s {X : Int → Int} {LX : Nat} : ck_Ok p2_O X LX 287 p2_s323 := ck_ok_s ⟨p2_nmu, ck_E1 (ck_S1 p2_s317_s ck_S0) (ck_E1 (ck_S1 p2_s268_s ck_S0) (ck_E1 (ck_S1 p2_s322_s ck_S0) ck_E0))⟩ ck_X0 ck_l0 p2_s323_e
set_option maxRecDepth 100000 in
/-- GlacierMailModel.in -/
def p2_s324 : ck_Sum := ((0, 0, 0), 245, [.inl (0, 98, []), .inl (ck_one 0), .inl (9, 98, [])], ([], [], []), ([], []), [(.inr (some (.inl (ck_one 0))), 245, ([], [], [])), (.inr (some (.inl (ck_one 1))), 245, ([], [], []))])
set_option maxRecDepth 100000 in
theorem p2_s324_e : ck_ok p2_O none [] [] 286 [] 88 p2_s324 = true := by decide +kernel
theorem p2_s324_s {X : Int → Int} {LX : Nat} : ck_Ok p2_O X LX 286 p2_s324 := ck_ok_s ⟨p2_nmu, ck_E0⟩ ck_X0 ck_l0 p2_s324_e
set_option maxRecDepth 100000 in
/-- GlacierMailModel.noRow -/
def p2_s325 : ck_Sum := ((1, 0, 0), 245, [.inr (.inr (.inl 226)), .inl (0, 98, [])], ([], [], []), ([], []), [(.inr (some (.inl (ck_one 1))), 245, ([], [], [])), (.inr (some (.inl (ck_one 0))), 245, ([], [], []))])
set_option maxRecDepth 100000 in
theorem p2_s325_e : ck_ok p2_O none [] [(259, [p2_s200]), (286, [p2_s324])] 289 [] 92 p2_s325 = true := by decide +kernel
theorem p2_s325_s {X : Int → Int} {LX : Nat} : ck_Ok p2_O X LX 289 p2_s325 := ck_ok_s ⟨p2_nmu, ck_E1 (ck_S1 p2_s200_s ck_S0) (ck_E1 (ck_S1 p2_s324_s ck_S0) ck_E0)⟩ ck_X0 ck_l0 p2_s325_e
set_option maxRecDepth 100000 in
/-- GlacierMailModel.speedAt -/
def p2_s326 : ck_Sum := ((0, 0, 0), 245, [.inr (.inr (.inl 226)), .inl (0, 5, []), .inl (0, 98, [])], ([], [], [(227, 2, 2, (0, 8, [(20, 0)]))]), ([], []), [(.inr (some (.inl (0, 20, []))), 245, ([], [], []))])
set_option maxRecDepth 100000 in
theorem p2_s326_e : ck_ok p2_O none [] [] 290 [(5, [some (.inr (.inr (.inl 226))), some (.inl (0, 5, [])), some (.inl (0, 98, [])), some (.inl (0, 20, [])), some (.inl (0, 8, []))], ([], [], [(227, 2, 2, (0, 8, [(20, 0)]))]), 100, .inl 4, true)] 222 p2_s326 = true := by decide +kernel
theorem p2_s326_s {X : Int → Int} {LX : Nat} : ck_Ok p2_O X LX 290 p2_s326 := ck_ok_s ⟨p2_nmu, ck_E0⟩ ck_X0 ck_l0 p2_s326_e
set_option maxRecDepth 100000 in
/-- GlacierMailModel.speed -/
def p2_s327 : ck_Sum := ((2, 0, 0), 245, [.inr (.inr (.inl 226)), .inl (0, 5, []), .inl (0, 98, [])], ([], [], [(227, 2, 2, (0, 8, [(20, 0)]))]), ([(226, 0, 0)], []), [(.inr (some (.inl (0, 20, []))), 245, ([], [], [(226, 0, 0, (0, 1, []))]))])
set_option maxRecDepth 100000 in
theorem p2_s327_e : ck_ok p2_O none [] [(288, [p2_s317]), (282, [p2_s268, p2_s269]), (289, [p2_s325]), (290, [p2_s326])] 287 [] 112 p2_s327 = true := by decide +kernel
theorem p2_s327_s {X : Int → Int} {LX : Nat} : ck_Ok p2_O X LX 287 p2_s327 := ck_ok_s ⟨p2_nmu, ck_E1 (ck_S1 p2_s317_s ck_S0) (ck_E1 (ck_S1 p2_s268_s (ck_S1 p2_s269_s ck_S0)) (ck_E1 (ck_S1 p2_s325_s ck_S0) (ck_E1 (ck_S1 p2_s326_s ck_S0) ck_E0)))⟩ ck_X0 ck_l0 p2_s327_e
set_option maxRecDepth 100000 in
/-- GlacierMail.flow -/
def p2_s328 : ck_Sum := ((8, 1, 6), 245, [.inr (.inr (.inl 1)), .inl ((-2147483648), (-1), []), .inl ((-2147483648), 2147483647, []), .inl ((-2147483648), 2147483647, [])], ([], [], []), ([], []), [(.inl 3, 245, ([], [], []))])
set_option maxRecDepth 100000 in
theorem p2_s328_e : ck_ok p2_O none [] [(132, [p2_s293])] 136 [] 76 p2_s328 = true := by decide +kernel
theorem p2_s328_s {X : Int → Int} {LX : Nat} : ck_Ok p2_O X LX 136 p2_s328 := ck_ok_s ⟨p2_nmu, ck_E1 (ck_S1 p2_s293_s ck_S0) ck_E0⟩ ck_X0 ck_l0 p2_s328_e
set_option maxRecDepth 100000 in
/-- GlacierMail.flow -/
def p2_s329 : ck_Sum := ((8, 1, 6), 245, [.inr (.inr (.inl 1)), .inl (6, 2147483647, []), .inl ((-2147483648), 2147483647, []), .inl ((-2147483648), 2147483647, [])], ([], [], []), ([], []), [(.inl 3, 245, ([], [], []))])
set_option maxRecDepth 100000 in
theorem p2_s329_e : ck_ok p2_O none [] [(132, [p2_s296])] 136 [] 76 p2_s329 = true := by decide +kernel
theorem p2_s329_s {X : Int → Int} {LX : Nat} : ck_Ok p2_O X LX 136 p2_s329 := ck_ok_s ⟨p2_nmu, ck_E1 (ck_S1 p2_s296_s ck_S0) ck_E0⟩ ck_X0 ck_l0 p2_s329_e
set_option maxRecDepth 100000 in
/-- GlacierMail.flow -/
def p2_s330 : ck_Sum := ((8, 2, 12), 245, [.inr (.inr (.inl 1)), .inl (0, 5, []), .inl ((-2147483648), (-1), []), .inl ((-2147483648), 2147483647, [])], ([], [], []), ([], []), [(.inl 3, 245, ([], [], []))])
set_option maxRecDepth 100000 in
theorem p2_s330_e : ck_ok p2_O none [] [(132, [p2_s299]), (134, [p2_s301])] 136 [] 82 p2_s330 = true := by decide +kernel
theorem p2_s330_s {X : Int → Int} {LX : Nat} : ck_Ok p2_O X LX 136 p2_s330 := ck_ok_s ⟨p2_nmu, ck_E1 (ck_S1 p2_s299_s ck_S0) (ck_E1 (ck_S1 p2_s301_s ck_S0) ck_E0)⟩ ck_X0 ck_l0 p2_s330_e
set_option maxRecDepth 100000 in
/-- GlacierMail.flow -/
def p2_s331 : ck_Sum := ((8, 2, 12), 245, [.inr (.inr (.inl 1)), .inl (0, 5, []), .inl (99, 2147483647, []), .inl ((-2147483648), 2147483647, [])], ([], [], []), ([], []), [(.inl 3, 245, ([], [], []))])
set_option maxRecDepth 100000 in
theorem p2_s331_e : ck_ok p2_O none [] [(132, [p2_s299]), (134, [p2_s304])] 136 [] 82 p2_s331 = true := by decide +kernel
theorem p2_s331_s {X : Int → Int} {LX : Nat} : ck_Ok p2_O X LX 136 p2_s331 := ck_ok_s ⟨p2_nmu, ck_E1 (ck_S1 p2_s299_s ck_S0) (ck_E1 (ck_S1 p2_s304_s ck_S0) ck_E0)⟩ ck_X0 ck_l0 p2_s331_e
set_option maxRecDepth 100000 in
/-- GlacierMail.flow -/
def p2_s332 : ck_Sum := ((8, 3, 18), 245, [.inr (.inr (.inl 1)), .inl (0, 5, []), .inl (0, 98, []), .inl ((-2147483648), (-1), [])], ([], [], []), ([], []), [(.inl 3, 245, ([], [], [])), (.inl 0, 245, ([], [], []))])
set_option maxRecDepth 100000 in
theorem p2_s332_e : ck_ok p2_O none [] [(132, [p2_s299]), (134, [p2_s307]), (129, [p2_s276])] 136 [] 88 p2_s332 = true := by decide +kernel
theorem p2_s332_s {X : Int → Int} {LX : Nat} : ck_Ok p2_O X LX 136 p2_s332 := ck_ok_s ⟨p2_nmu, ck_E1 (ck_S1 p2_s299_s ck_S0) (ck_E1 (ck_S1 p2_s307_s ck_S0) (ck_E1 (ck_S1 p2_s276_s ck_S0) ck_E0))⟩ ck_X0 ck_l0 p2_s332_e
set_option maxRecDepth 100000 in
/-- GlacierMail.flow -/
def p2_s333 : ck_Sum := ((8, 3, 18), 245, [.inr (.inr (.inl 1)), .inl (0, 5, []), .inl (0, 98, []), .inl (300, 2147483647, [])], ([], [], []), ([], []), [(.inl 3, 245, ([], [], [])), (.inl 0, 245, ([], [], []))])
set_option maxRecDepth 100000 in
theorem p2_s333_e : ck_ok p2_O none [] [(132, [p2_s299]), (134, [p2_s307]), (129, [p2_s278])] 136 [] 88 p2_s333 = true := by decide +kernel
theorem p2_s333_s {X : Int → Int} {LX : Nat} : ck_Ok p2_O X LX 136 p2_s333 := ck_ok_s ⟨p2_nmu, ck_E1 (ck_S1 p2_s299_s ck_S0) (ck_E1 (ck_S1 p2_s307_s ck_S0) (ck_E1 (ck_S1 p2_s278_s ck_S0) ck_E0))⟩ ck_X0 ck_l0 p2_s333_e
set_option maxRecDepth 100000 in
/-- GlacierMail$Ice.speedAt -/
def p2_s334 : ck_Sum := ((0, 0, 0), 245, [.inr (.inr (.inl 200)), .inl ((-2147483648), 2147483647, []), .inl ((-2147483648), 2147483647, [])], ([], [], []), ([], []), [(.inr (some (.inl (ck_one 0))), 245, ([], [], [])), (.inr (some (.inl ((-1), 98, []))), 245, ([], [], []))])
set_option maxRecDepth 100000 in
theorem p2_s334_e : ck_ok p2_O none [] [] 36 [] 108 p2_s334 = true := by decide +kernel
theorem p2_s334_s {X : Int → Int} {LX : Nat} : ck_Ok p2_O X LX 36 p2_s334 := ck_ok_s ⟨p2_nmu, ck_E0⟩ ck_X0 ck_l0 p2_s334_e
set_option maxRecDepth 100000 in
/-- GlacierMail$Ice.flowAt -/
def p2_s335 : ck_Sum := ((1, 0, 0), 245, [.inr (.inr (.inl 200)), .inl ((-2147483648), 2147483647, []), .inl ((-2147483648), 2147483647, []), .inl ((-2147483648), 2147483647, [])], ([], [(3, 8, 0)], []), ([], []), [(.inr (some (.inl (ck_one 0))), 245, ([], [], [])), (.inr (some (.inl ((-1), 98, []))), 245, ([], [], []))])
set_option maxRecDepth 100000 in
theorem p2_s335_e : ck_ok p2_O none [] [(36, [p2_s334])] 35 [] 92 p2_s335 = true := by decide +kernel
theorem p2_s335_s {X : Int → Int} {LX : Nat} : ck_Ok p2_O X LX 35 p2_s335 := ck_ok_s ⟨p2_nmu, ck_E1 (ck_S1 p2_s334_s ck_S0) ck_E0⟩ ck_X0 ck_l0 p2_s335_e
set_option maxRecDepth 100000 in
/-- GlacierMail.flow -/
def p2_s336 : ck_Sum := ((8, 2, 12), 245, [.inr (.inr (.inl 1)), .inl (0, 5, []), .inl (0, 98, []), .inl (0, 299, [])], ([], [(3, 8, 0)], []), ([], []), [(.inl 3, 245, ([], [], [])), (.inr (some (.inl (ck_one 0))), 245, ([], [], [])), (.inr (some (.inl ((-1), 98, []))), 245, ([], [], []))])
set_option maxRecDepth 100000 in
theorem p2_s336_e : ck_ok p2_O none [] [(132, [p2_s299]), (134, [p2_s307]), (129, [p2_s280]), (35, [p2_s335])] 136 [] 102 p2_s336 = true := by decide +kernel
theorem p2_s336_s {X : Int → Int} {LX : Nat} : ck_Ok p2_O X LX 136 p2_s336 := ck_ok_s ⟨p2_nmu, ck_E1 (ck_S1 p2_s299_s ck_S0) (ck_E1 (ck_S1 p2_s307_s ck_S0) (ck_E1 (ck_S1 p2_s280_s ck_S0) (ck_E1 (ck_S1 p2_s335_s ck_S0) ck_E0)))⟩ ck_X0 ck_l0 p2_s336_e
set_option maxRecDepth 100000 in
/-- GlacierMailModel.flow -/
def p2_s337 : ck_Sum := ((2, 0, 0), 245, [.inr (.inr (.inl 226)), .inl ((-2147483648), (-1), []), .inl ((-2147483648), 2147483647, []), .inl ((-2147483648), 2147483647, [])], ([], [], []), ([(226, 0, 0)], []), [(.inr (some (.inl (ck_one 0))), 245, ([], [], [(226, 0, 0, ck_one 1)]))])
set_option maxRecDepth 100000 in
theorem p2_s337_e : ck_ok p2_O none [] [(288, [p2_s311]), (282, [p2_s268])] 291 [] 102 p2_s337 = true := by decide +kernel
theorem p2_s337_s {X : Int → Int} {LX : Nat} : ck_Ok p2_O X LX 291 p2_s337 := ck_ok_s ⟨p2_nmu, ck_E1 (ck_S1 p2_s311_s ck_S0) (ck_E1 (ck_S1 p2_s268_s ck_S0) ck_E0)⟩ ck_X0 ck_l0 p2_s337_e
set_option maxRecDepth 100000 in
/-- GlacierMailModel.flow -/
def p2_s338 : ck_Sum := ((2, 0, 0), 245, [.inr (.inr (.inl 226)), .inl (6, 2147483647, []), .inl ((-2147483648), 2147483647, []), .inl ((-2147483648), 2147483647, [])], ([], [], []), ([(226, 0, 0)], []), [(.inr (some (.inl (ck_one 0))), 245, ([], [], [(226, 0, 0, ck_one 1)]))])
set_option maxRecDepth 100000 in
theorem p2_s338_e : ck_ok p2_O none [] [(288, [p2_s314]), (282, [p2_s268])] 291 [] 102 p2_s338 = true := by decide +kernel
theorem p2_s338_s {X : Int → Int} {LX : Nat} : ck_Ok p2_O X LX 291 p2_s338 := ck_ok_s ⟨p2_nmu, ck_E1 (ck_S1 p2_s314_s ck_S0) (ck_E1 (ck_S1 p2_s268_s ck_S0) ck_E0)⟩ ck_X0 ck_l0 p2_s338_e
set_option maxRecDepth 100000 in
/-- GlacierMailModel.flow -/
def p2_s339 : ck_Sum := ((2, 0, 0), 245, [.inr (.inr (.inl 226)), .inl (0, 5, []), .inl ((-2147483648), (-1), []), .inl ((-2147483648), 2147483647, [])], ([], [], []), ([(226, 0, 0)], []), [(.inr (some (.inl (ck_one 0))), 245, ([], [], [(226, 0, 0, ck_one 1)]))])
set_option maxRecDepth 100000 in
theorem p2_s339_e : ck_ok p2_O none [] [(288, [p2_s317]), (282, [p2_s268]), (289, [p2_s319])] 291 [] 110 p2_s339 = true := by decide +kernel
theorem p2_s339_s {X : Int → Int} {LX : Nat} : ck_Ok p2_O X LX 291 p2_s339 := ck_ok_s ⟨p2_nmu, ck_E1 (ck_S1 p2_s317_s ck_S0) (ck_E1 (ck_S1 p2_s268_s ck_S0) (ck_E1 (ck_S1 p2_s319_s ck_S0) ck_E0))⟩ ck_X0 ck_l0 p2_s339_e
set_option maxRecDepth 100000 in
/-- GlacierMailModel.flow -/
def p2_s340 : ck_Sum := ((2, 0, 0), 245, [.inr (.inr (.inl 226)), .inl (0, 5, []), .inl (99, 2147483647, []), .inl ((-2147483648), 2147483647, [])], ([], [], []), ([(226, 0, 0)], []), [(.inr (some (.inl (ck_one 0))), 245, ([], [], [(226, 0, 0, ck_one 1)]))])
set_option maxRecDepth 100000 in
theorem p2_s340_e : ck_ok p2_O none [] [(288, [p2_s317]), (282, [p2_s268]), (289, [p2_s322])] 291 [] 110 p2_s340 = true := by decide +kernel
theorem p2_s340_s {X : Int → Int} {LX : Nat} : ck_Ok p2_O X LX 291 p2_s340 := ck_ok_s ⟨p2_nmu, ck_E1 (ck_S1 p2_s317_s ck_S0) (ck_E1 (ck_S1 p2_s268_s ck_S0) (ck_E1 (ck_S1 p2_s322_s ck_S0) ck_E0))⟩ ck_X0 ck_l0 p2_s340_e
set_option maxRecDepth 100000 in
/-- GlacierMailModel.flow -/
def p2_s341 : ck_Sum := ((2, 0, 0), 245, [.inr (.inr (.inl 226)), .inl (0, 5, []), .inl (0, 98, []), .inl ((-2147483648), (-1), [])], ([], [], []), ([(226, 0, 0)], []), [(.inr (some (.inl (ck_one 0))), 245, ([], [], [(226, 0, 0, (1, 2, []))]))])
set_option maxRecDepth 100000 in
theorem p2_s341_e : ck_ok p2_O none [] [(288, [p2_s317]), (282, [p2_s268, p2_s269, p2_s272]), (289, [p2_s325]), (285, [p2_s284])] 291 [] 120 p2_s341 = true := by decide +kernel
theorem p2_s341_s {X : Int → Int} {LX : Nat} : ck_Ok p2_O X LX 291 p2_s341 := ck_ok_s ⟨p2_nmu, ck_E1 (ck_S1 p2_s317_s ck_S0) (ck_E1 (ck_S1 p2_s268_s (ck_S1 p2_s269_s (ck_S1 p2_s272_s ck_S0))) (ck_E1 (ck_S1 p2_s325_s ck_S0) (ck_E1 (ck_S1 p2_s284_s ck_S0) ck_E0)))⟩ ck_X0 ck_l0 p2_s341_e
set_option maxRecDepth 100000 in
/-- GlacierMailModel.flow -/
def p2_s342 : ck_Sum := ((2, 0, 0), 245, [.inr (.inr (.inl 226)), .inl (0, 5, []), .inl (0, 98, []), .inl (300, 2147483647, [])], ([], [], []), ([(226, 0, 0)], []), [(.inr (some (.inl (ck_one 0))), 245, ([], [], [(226, 0, 0, (1, 2, []))]))])
set_option maxRecDepth 100000 in
theorem p2_s342_e : ck_ok p2_O none [] [(288, [p2_s317]), (282, [p2_s268, p2_s269, p2_s272]), (289, [p2_s325]), (285, [p2_s287])] 291 [] 120 p2_s342 = true := by decide +kernel
theorem p2_s342_s {X : Int → Int} {LX : Nat} : ck_Ok p2_O X LX 291 p2_s342 := ck_ok_s ⟨p2_nmu, ck_E1 (ck_S1 p2_s317_s ck_S0) (ck_E1 (ck_S1 p2_s268_s (ck_S1 p2_s269_s (ck_S1 p2_s272_s ck_S0))) (ck_E1 (ck_S1 p2_s325_s ck_S0) (ck_E1 (ck_S1 p2_s287_s ck_S0) ck_E0)))⟩ ck_X0 ck_l0 p2_s342_e
set_option maxRecDepth 100000 in
/-- GlacierMailModel.turnsTo -/
def p2_s343 : ck_Sum := ((0, 0, 0), 245, [.inr (.inr (.inl 226)), .inl (0, 5, [])], ([], [], []), ([(226, 26, 26), (235, 0, 29699)], []), [(.inr none, 245, ([], [], [(226, 26, 26, (0, 5, []))]))])
set_option maxRecDepth 100000 in
theorem p2_s343_e : ck_ok p2_O none [] [] 293 [(16, [some (.inr (.inr (.inl 226))), some (.inl (0, 5, [])), some (.inl (0, 29700, []))], ([], [], [(226, 26, 26, (0, 5, []))]), 100, .inl 2, true)] 142 p2_s343 = true := by decide +kernel
theorem p2_s343_s {X : Int → Int} {LX : Nat} : ck_Ok p2_O X LX 293 p2_s343 := ck_ok_s ⟨p2_nmu, ck_E0⟩ ck_X0 ck_l0 p2_s343_e
set_option maxRecDepth 100000 in
/-- GlacierMailModel.sumOf -/
def p2_s344 : ck_Sum := ((0, 0, 0), 245, [.inr (.inr (.inl 226)), .inl (ck_one 0)], ([], [], []), ([], []), [(.inr (some (.inl (ck_one 0))), 245, ([], [], []))])
set_option maxRecDepth 100000 in
theorem p2_s344_e : ck_ok p2_O none [] [] 294 [(4, [some (.inr (.inr (.inl 226))), some (.inl (ck_one 0)), some (.inl (ck_one 0)), some (.inl (ck_one 0))], ([], [], []), 100, .inl 2, true)] 146 p2_s344 = true := by decide +kernel
theorem p2_s344_s {X : Int → Int} {LX : Nat} : ck_Ok p2_O X LX 294 p2_s344 := ck_ok_s ⟨p2_nmu, ck_E0⟩ ck_X0 ck_l0 p2_s344_e
set_option maxRecDepth 100000 in
/-- GlacierMailModel.sumOf -/
def p2_s345 : ck_Sum := ((0, 0, 0), 245, [.inr (.inr (.inl 226)), .inl (ck_one 1)], ([], [], []), ([], []), [(.inr (some (.inl (ck_one 0))), 245, ([], [], []))])
set_option maxRecDepth 100000 in
theorem p2_s345_e : ck_ok p2_O none [] [] 294 [(4, [some (.inr (.inr (.inl 226))), some (.inl (ck_one 1)), some (.inl (ck_one 0)), some (.inl (ck_one 0))], ([], [], []), 100, .inl 2, true)] 146 p2_s345 = true := by decide +kernel
theorem p2_s345_s {X : Int → Int} {LX : Nat} : ck_Ok p2_O X LX 294 p2_s345 := ck_ok_s ⟨p2_nmu, ck_E0⟩ ck_X0 ck_l0 p2_s345_e
set_option maxRecDepth 100000 in
/-- GlacierMail$Rows.size -/
def p2_s348 : ck_Sum := ((0, 0, 0), 245, [.inr (.inr (.inl 8))], ([], [], []), ([], []), [(.inr (some (.inl (0, 8, []))), 245, ([], [], []))])
set_option maxRecDepth 100000 in
theorem p2_s348_e : ck_ok p2_O none [] [] 9 [] 76 p2_s348 = true := by decide +kernel
theorem p2_s348_s {X : Int → Int} {LX : Nat} : ck_Ok p2_O X LX 9 p2_s348 := ck_ok_s ⟨p2_nmu, ck_E0⟩ ck_X0 ck_l0 p2_s348_e
set_option maxRecDepth 100000 in
/-- GlacierMail.need -/
def p2_s349 : ck_Sum := ((6, 1, 6), 245, [.inr (.inr (.inl 1)), .inl ((-2147483648), (-1), []), .inl (0, 8, [])], ([], [], []), ([], []), [(.inl 3, 245, ([], [], []))])
set_option maxRecDepth 100000 in
theorem p2_s349_e : ck_ok p2_O none [] [] 133 [] 76 p2_s349 = true := by decide +kernel
theorem p2_s349_s {X : Int → Int} {LX : Nat} : ck_Ok p2_O X LX 133 p2_s349 := ck_ok_s ⟨p2_nmu, ck_E0⟩ ck_X0 ck_l0 p2_s349_e
set_option maxRecDepth 100000 in
/-- GlacierMail.needPerson -/
def p2_s350 : ck_Sum := ((7, 1, 6), 245, [.inr (.inr (.inl 1)), .inl ((-2147483648), (-1), [])], ([], [], []), ([], []), [(.inl 3, 245, ([], [], []))])
set_option maxRecDepth 100000 in
theorem p2_s350_e : ck_ok p2_O none [] [(9, [p2_s348]), (133, [p2_s349])] 139 [] 84 p2_s350 = true := by decide +kernel
theorem p2_s350_s {X : Int → Int} {LX : Nat} : ck_Ok p2_O X LX 139 p2_s350 := ck_ok_s ⟨p2_nmu, ck_E1 (ck_S1 p2_s348_s ck_S0) (ck_E1 (ck_S1 p2_s349_s ck_S0) ck_E0)⟩ ck_X0 ck_l0 p2_s350_e
set_option maxRecDepth 100000 in
/-- GlacierMail.person -/
def p2_s351 : ck_Sum := ((8, 1, 6), 245, [.inr (.inr (.inl 1)), .inl ((-2147483648), (-1), []), .inl ((-2147483648), 2147483647, [])], ([], [], []), ([], []), [(.inl 3, 245, ([], [], []))])
set_option maxRecDepth 100000 in
theorem p2_s351_e : ck_ok p2_O none [] [(139, [p2_s350])] 138 [] 76 p2_s351 = true := by decide +kernel
theorem p2_s351_s {X : Int → Int} {LX : Nat} : ck_Ok p2_O X LX 138 p2_s351 := ck_ok_s ⟨p2_nmu, ck_E1 (ck_S1 p2_s350_s ck_S0) ck_E0⟩ ck_X0 ck_l0 p2_s351_e
set_option maxRecDepth 100000 in
/-- GlacierMail.need -/
def p2_s352 : ck_Sum := ((6, 1, 6), 245, [.inr (.inr (.inl 1)), .inl (8, 2147483647, []), .inl (0, 8, [])], ([], [], []), ([], []), [(.inl 3, 245, ([], [], []))])
set_option maxRecDepth 100000 in
theorem p2_s352_e : ck_ok p2_O none [] [] 133 [] 82 p2_s352 = true := by decide +kernel
theorem p2_s352_s {X : Int → Int} {LX : Nat} : ck_Ok p2_O X LX 133 p2_s352 := ck_ok_s ⟨p2_nmu, ck_E0⟩ ck_X0 ck_l0 p2_s352_e
set_option maxRecDepth 100000 in
/-- GlacierMail.needPerson -/
def p2_s353 : ck_Sum := ((7, 1, 6), 245, [.inr (.inr (.inl 1)), .inl (8, 2147483647, [])], ([], [], []), ([], []), [(.inl 3, 245, ([], [], []))])
set_option maxRecDepth 100000 in
theorem p2_s353_e : ck_ok p2_O none [] [(9, [p2_s348]), (133, [p2_s352])] 139 [] 84 p2_s353 = true := by decide +kernel
theorem p2_s353_s {X : Int → Int} {LX : Nat} : ck_Ok p2_O X LX 139 p2_s353 := ck_ok_s ⟨p2_nmu, ck_E1 (ck_S1 p2_s348_s ck_S0) (ck_E1 (ck_S1 p2_s352_s ck_S0) ck_E0)⟩ ck_X0 ck_l0 p2_s353_e
set_option maxRecDepth 100000 in
/-- GlacierMail.person -/
def p2_s354 : ck_Sum := ((8, 1, 6), 245, [.inr (.inr (.inl 1)), .inl (8, 2147483647, []), .inl ((-2147483648), 2147483647, [])], ([], [], []), ([], []), [(.inl 3, 245, ([], [], []))])
set_option maxRecDepth 100000 in
theorem p2_s354_e : ck_ok p2_O none [] [(139, [p2_s353])] 138 [] 76 p2_s354 = true := by decide +kernel
theorem p2_s354_s {X : Int → Int} {LX : Nat} : ck_Ok p2_O X LX 138 p2_s354 := ck_ok_s ⟨p2_nmu, ck_E1 (ck_S1 p2_s353_s ck_S0) ck_E0⟩ ck_X0 ck_l0 p2_s354_e
set_option maxRecDepth 100000 in
/-- GlacierMail.need -/
def p2_s355 : ck_Sum := ((6, 1, 6), 245, [.inr (.inr (.inl 1)), .inl (0, 7, []), .inl (0, 8, [])], ([], [], []), ([], []), [(.inr none, 245, ([], [], [])), (.inl 3, 245, ([], [], []))])
set_option maxRecDepth 100000 in
theorem p2_s355_e : ck_ok p2_O none [] [] 133 [] 82 p2_s355 = true := by decide +kernel
theorem p2_s355_s {X : Int → Int} {LX : Nat} : ck_Ok p2_O X LX 133 p2_s355 := ck_ok_s ⟨p2_nmu, ck_E0⟩ ck_X0 ck_l0 p2_s355_e
set_option maxRecDepth 100000 in
/-- GlacierMail.needPerson -/
def p2_s356 : ck_Sum := ((7, 1, 6), 245, [.inr (.inr (.inl 1)), .inl (0, 7, [])], ([], [], []), ([], []), [(.inl 3, 245, ([], [], [])), (.inr none, 245, ([], [], []))])
set_option maxRecDepth 100000 in
theorem p2_s356_e : ck_ok p2_O none [] [(9, [p2_s348]), (133, [p2_s355])] 139 [] 86 p2_s356 = true := by decide +kernel
theorem p2_s356_s {X : Int → Int} {LX : Nat} : ck_Ok p2_O X LX 139 p2_s356 := ck_ok_s ⟨p2_nmu, ck_E1 (ck_S1 p2_s348_s ck_S0) (ck_E1 (ck_S1 p2_s355_s ck_S0) ck_E0)⟩ ck_X0 ck_l0 p2_s356_e
set_option maxRecDepth 100000 in
/-- GlacierMail.person -/
def p2_s357 : ck_Sum := ((8, 2, 12), 245, [.inr (.inr (.inl 1)), .inl (0, 7, []), .inl ((-2147483648), (-1), [])], ([], [], []), ([], []), [(.inl 3, 245, ([], [], [])), (.inl 4, 245, ([], [], []))])
set_option maxRecDepth 100000 in
theorem p2_s357_e : ck_ok p2_O none [] [(139, [p2_s356])] 138 [] 82 p2_s357 = true := by decide +kernel
theorem p2_s357_s {X : Int → Int} {LX : Nat} : ck_Ok p2_O X LX 138 p2_s357 := ck_ok_s ⟨p2_nmu, ck_E1 (ck_S1 p2_s356_s ck_S0) ck_E0⟩ ck_X0 ck_l0 p2_s357_e
set_option maxRecDepth 100000 in
/-- GlacierMail.person -/
def p2_s358 : ck_Sum := ((8, 2, 12), 245, [.inr (.inr (.inl 1)), .inl (0, 7, []), .inl (10, 2147483647, [])], ([], [], []), ([], []), [(.inl 3, 245, ([], [], [])), (.inl 4, 245, ([], [], []))])
set_option maxRecDepth 100000 in
theorem p2_s358_e : ck_ok p2_O none [] [(139, [p2_s356])] 138 [] 82 p2_s358 = true := by decide +kernel
theorem p2_s358_s {X : Int → Int} {LX : Nat} : ck_Ok p2_O X LX 138 p2_s358 := ck_ok_s ⟨p2_nmu, ck_E1 (ck_S1 p2_s356_s ck_S0) ck_E0⟩ ck_X0 ck_l0 p2_s358_e
set_option maxRecDepth 100000 in
/-- GlacierMail$Rows.size -/
def p2_s359 : ck_Sum := ((0, 0, 0), 245, [.inr (.inr (.inl 10))], ([], [], []), ([], []), [(.inr (some (.inl (0, 24, []))), 245, ([], [], []))])
set_option maxRecDepth 100000 in
theorem p2_s359_e : ck_ok p2_O none [] [] 9 [] 76 p2_s359 = true := by decide +kernel
theorem p2_s359_s {X : Int → Int} {LX : Nat} : ck_Ok p2_O X LX 9 p2_s359 := ck_ok_s ⟨p2_nmu, ck_E0⟩ ck_X0 ck_l0 p2_s359_e
set_option maxRecDepth 100000 in
/-- GlacierMail$Rows.size -/
def p2_s362 : ck_Sum := ((0, 0, 0), 245, [.inr (.inr (.inl 220))], ([], [], []), ([], []), [(.inr (some (.inl (0, 24, []))), 245, ([], [], []))])
set_option maxRecDepth 100000 in
theorem p2_s362_e : ck_ok p2_O none [] [] 9 [] 76 p2_s362 = true := by decide +kernel
theorem p2_s362_s {X : Int → Int} {LX : Nat} : ck_Ok p2_O X LX 9 p2_s362 := ck_ok_s ⟨p2_nmu, ck_E0⟩ ck_X0 ck_l0 p2_s362_e
set_option maxRecDepth 100000 in
/-- java/util/Arrays.fill -/
def p2_s360 : ck_Sum := ((0, 0, 0), 245, [.inr (.inr (.inl 221)), .inl (ck_one 0)], ([], [], []), ([(221, 0, 47)], []), [(.inr none, 245, ([], [], []))])
set_option maxRecDepth 100000 in
theorem p2_s360_e : ck_ok p2_O none [] [] 8 [(5, [some (.inr (.inr (.inl 221))), some (.inl (ck_one 0)), some (.inl (0, 48, [])), some (.inl (ck_one 48))], ([], [], []), 100, .inl 2, true)] 130 p2_s360 = true := by decide +kernel
theorem p2_s360_s {X : Int → Int} {LX : Nat} : ck_Ok p2_O X LX 8 p2_s360 := ck_ok_s ⟨p2_nmu, ck_E0⟩ ck_X0 ck_l0 p2_s360_e
set_option maxRecDepth 100000 in
/-- GlacierMail$Rows.reset -/
def p2_s361 : ck_Sum := ((1, 0, 0), 245, [.inr (.inr (.inl 220)), .inl (0, 24, [])], ([], [], []), ([(220, 3, 3), (221, 0, 47)], []), [(.inr none, 245, ([], [], []))])
set_option maxRecDepth 100000 in
theorem p2_s361_e : ck_ok p2_O none [] [(8, [p2_s360])] 25 [] 96 p2_s361 = true := by decide +kernel
theorem p2_s361_s {X : Int → Int} {LX : Nat} : ck_Ok p2_O X LX 25 p2_s361 := ck_ok_s ⟨p2_nmu, ck_E1 (ck_S1 p2_s360_s ck_S0) ck_E0⟩ ck_X0 ck_l0 p2_s361_e
set_option maxRecDepth 100000 in
/-- GlacierMail$Rows.get -/
def p2_s363 : ck_Sum := ((0, 0, 0), 245, [.inr (.inr (.inl 10)), .inl ((-2147483648), 2147483647, []), .inl ((-2147483648), 2147483647, [])], ([], [], []), ([], []), [(.inr (some (.inl ((-1), 299, []))), 245, ([], [], []))])
set_option maxRecDepth 100000 in
theorem p2_s363_e : ck_ok p2_O none [] [] 10 [] 114 p2_s363 = true := by decide +kernel
theorem p2_s363_s {X : Int → Int} {LX : Nat} : ck_Ok p2_O X LX 10 p2_s363 := ck_ok_s ⟨p2_nmu, ck_E0⟩ ck_X0 ck_l0 p2_s363_e
set_option maxRecDepth 100000 in
/-- GlacierMail$State.isRock -/
def p2_s364 : ck_Sum := ((1, 0, 0), 245, [.inr (.inr (.inl 3)), .inl (0, 23, [])], ([], [], []), ([], []), [(.inr (some (.inl (ck_one 0))), 245, ([], [], [])), (.inr (some (.inl (ck_one 1))), 245, ([], [], []))])
set_option maxRecDepth 100000 in
theorem p2_s364_e : ck_ok p2_O none [] [(10, [p2_s363])] 28 [] 90 p2_s364 = true := by decide +kernel
theorem p2_s364_s {X : Int → Int} {LX : Nat} : ck_Ok p2_O X LX 28 p2_s364 := ck_ok_s ⟨p2_nmu, ck_E1 (ck_S1 p2_s363_s ck_S0) ck_E0⟩ ck_X0 ck_l0 p2_s364_e
set_option maxRecDepth 100000 in
/-- GlacierMail$Way.start -/
def p2_s365 : ck_Sum := ((0, 0, 0), 245, [.inr (.inr (.inl 206)), .inl ((-1), 299, []), .inl ((-1), 299, []), .inl ((-1), 299, []), .inl (ck_one 0)], ([], [], []), ([(206, 2, 8)], []), [(.inr none, 245, ([], [], [(206, 8, 8, ck_one 0), (206, 6, 6, ck_one 0), (206, 4, 4, ck_one (-1)), (206, 3, 3, ck_one 0), (206, 7, 7, ((-1), 299, [])), (206, 5, 5, ((-1), 299, [])), (206, 2, 2, ((-1), 299, []))]))])
set_option maxRecDepth 100000 in
theorem p2_s365_e : ck_ok p2_O none [] [] 29 [] 114 p2_s365 = true := by decide +kernel
theorem p2_s365_s {X : Int → Int} {LX : Nat} : ck_Ok p2_O X LX 29 p2_s365 := ck_ok_s ⟨p2_nmu, ck_E0⟩ ck_X0 ck_l0 p2_s365_e
set_option maxRecDepth 100000 in
/-- GlacierMail$Way.start -/
def p2_s366 : ck_Sum := ((0, 0, 0), 245, [.inr (.inr (.inl 206)), .inl ((-1), 299, []), .inl ((-1), 299, []), .inl ((-1), 299, []), .inl (ck_one 1)], ([], [], []), ([(206, 2, 8)], []), [(.inr none, 245, ([], [], [(206, 8, 8, ck_one 0), (206, 6, 6, ck_one 0), (206, 4, 4, ck_one (-1)), (206, 3, 3, ck_one 1), (206, 7, 7, ((-1), 299, [])), (206, 5, 5, ((-1), 299, [])), (206, 2, 2, ((-1), 299, []))]))])
set_option maxRecDepth 100000 in
theorem p2_s366_e : ck_ok p2_O none [] [] 29 [] 114 p2_s366 = true := by decide +kernel
theorem p2_s366_s {X : Int → Int} {LX : Nat} : ck_Ok p2_O X LX 29 p2_s366 := ck_ok_s ⟨p2_nmu, ck_E0⟩ ck_X0 ck_l0 p2_s366_e
set_option maxRecDepth 100000 in
/-- GlacierMail$Way.startLetter -/
def p2_s367 : ck_Sum := ((2, 0, 0), 245, [.inr (.inr (.inl 206)), .inl (0, 23, [])], ([], [], []), ([(206, 2, 8)], []), [(.inr none, 245, ([], [], [(206, 8, 8, ck_one 0), (206, 6, 6, ck_one 0), (206, 4, 4, ck_one (-1)), (206, 7, 7, ((-1), 299, [])), (206, 5, 5, ((-1), 299, [])), (206, 2, 2, ((-1), 299, []))]))])
set_option maxRecDepth 100000 in
theorem p2_s367_e : ck_ok p2_O none [] [(10, [p2_s363]), (28, [p2_s364]), (29, [p2_s365, p2_s366])] 27 [] 116 p2_s367 = true := by decide +kernel
theorem p2_s367_s {X : Int → Int} {LX : Nat} : ck_Ok p2_O X LX 27 p2_s367 := ck_ok_s ⟨p2_nmu, ck_E1 (ck_S1 p2_s363_s ck_S0) (ck_E1 (ck_S1 p2_s364_s ck_S0) (ck_E1 (ck_S1 p2_s365_s (ck_S1 p2_s366_s ck_S0)) ck_E0))⟩ ck_X0 ck_l0 p2_s367_e
set_option maxRecDepth 100000 in
/-- GlacierMail$Way.isOut -/
def p2_s368 : ck_Sum := ((0, 0, 0), 245, [.inr (.inr (.inl 206))], ([], [], []), ([], []), [(.inr (some (.inl (ck_one 0))), 245, ([], [], [(206, 5, 5, ((-2147483648), 98, []))])), (.inr (some (.inl (ck_one 1))), 245, ([], [], [(206, 5, 5, (10, 2147483647, []))]))])
set_option maxRecDepth 100000 in
theorem p2_s368_e : ck_ok p2_O none [] [] 31 [] 88 p2_s368 = true := by decide +kernel
theorem p2_s368_s {X : Int → Int} {LX : Nat} : ck_Ok p2_O X LX 31 p2_s368 := ck_ok_s ⟨p2_nmu, ck_E0⟩ ck_X0 ck_l0 p2_s368_e
set_option maxRecDepth 100000 in
/-- GlacierMail$Ice.heatIn -/
def p2_s369 : ck_Sum := ((0, 0, 0), 245, [.inr (.inr (.inl 200)), .inl ((-2147483648), 2147483647, [])], ([], [], []), ([], []), [(.inr (some (.inl (0, 9, []))), 245, ([], [], []))])
set_option maxRecDepth 100000 in
theorem p2_s369_e : ck_ok p2_O none [] [] 34 [] 92 p2_s369 = true := by decide +kernel
theorem p2_s369_s {X : Int → Int} {LX : Nat} : ck_Ok p2_O X LX 34 p2_s369 := ck_ok_s ⟨p2_nmu, ck_E0⟩ ck_X0 ck_l0 p2_s369_e
set_option maxRecDepth 100000 in
/-- GlacierMail$Way.deepAfter -/
def p2_s370 : ck_Sum := ((1, 0, 0), 245, [.inr (.inr (.inl 206))], ([], [], []), ([], []), [(.inr (some (.inl (0, 99, []))), 245, ([], [], []))])
set_option maxRecDepth 100000 in
theorem p2_s370_e : ck_ok p2_O none [] [(34, [p2_s369])] 33 [] 110 p2_s370 = true := by decide +kernel
theorem p2_s370_s {X : Int → Int} {LX : Nat} : ck_Ok p2_O X LX 33 p2_s370 := ck_ok_s ⟨p2_nmu, ck_E1 (ck_S1 p2_s369_s ck_S0) ck_E0⟩ ck_X0 ck_l0 p2_s370_e
set_option maxRecDepth 100000 in
/-- GlacierMail$Ice.floodsIn -/
def p2_s371 : ck_Sum := ((0, 0, 0), 245, [.inr (.inr (.inl 200)), .inl ((-2147483648), 2147483647, [])], ([], [], []), ([], []), [(.inr (some (.inl (ck_one 0))), 245, ([], [], [])), (.inr (some (.inl ((-2147483648), 2147483647, []))), 245, ([], [], []))])
set_option maxRecDepth 100000 in
theorem p2_s371_e : ck_ok p2_O none [] [] 44 [] 92 p2_s371 = true := by decide +kernel
theorem p2_s371_s {X : Int → Int} {LX : Nat} : ck_Ok p2_O X LX 44 p2_s371 := ck_ok_s ⟨p2_nmu, ck_E0⟩ ck_X0 ck_l0 p2_s371_e
set_option maxRecDepth 100000 in
/-- GlacierMail$Way.takeFloods -/
def p2_s372 : ck_Sum := ((1, 0, 0), 245, [.inr (.inr (.inl 206))], ([], [], []), ([(206, 5, 5), (206, 8, 8)], []), [(.inr none, 245, ([], [], []))])
set_option maxRecDepth 100000 in
theorem p2_s372_e : ck_ok p2_O none [] [(44, [p2_s371]), (9, [p2_s159]), (10, [p2_s160])] 43 [(22, [some (.inr (.inr (.inl 206))), some (.inr (.inr (.inl 6))), some (.inl ((-2147483648), 2147483647, [])), some (.inl (0, 9, [])), none], ([], [], []), 100, .inl 3, true)] 290 p2_s372 = true := by decide +kernel
theorem p2_s372_s {X : Int → Int} {LX : Nat} : ck_Ok p2_O X LX 43 p2_s372 := ck_ok_s ⟨p2_nmu, ck_E1 (ck_S1 p2_s371_s ck_S0) (ck_E1 (ck_S1 p2_s159_s ck_S0) (ck_E1 (ck_S1 p2_s160_s ck_S0) ck_E0))⟩ ck_X0 ck_l0 p2_s372_e
set_option maxRecDepth 100000 in
/-- GlacierMail$Way.step -/
def p2_s373 : ck_Sum := ((2, 0, 0), 245, [.inr (.inr (.inl 206))], ([], [(3, 8, 0)], []), ([(206, 5, 8)], []), [(.inr none, 245, ([], [], []))])
set_option maxRecDepth 100000 in
theorem p2_s373_e : ck_ok p2_O none [] [(31, [p2_s368]), (33, [p2_s370]), (35, [p2_s335]), (43, [p2_s372])] 32 [] 134 p2_s373 = true := by decide +kernel
theorem p2_s373_s {X : Int → Int} {LX : Nat} : ck_Ok p2_O X LX 32 p2_s373 := ck_ok_s ⟨p2_nmu, ck_E1 (ck_S1 p2_s368_s ck_S0) (ck_E1 (ck_S1 p2_s370_s ck_S0) (ck_E1 (ck_S1 p2_s335_s ck_S0) (ck_E1 (ck_S1 p2_s372_s ck_S0) ck_E0)))⟩ ck_X0 ck_l0 p2_s373_e
set_option maxRecDepth 100000 in
/-- GlacierMail$Way.runOut -/
def p2_s374 : ck_Sum := ((3, 0, 0), 245, [.inr (.inr (.inl 206)), .inl (0, 299, [])], ([], [(3, 8, 0)], []), ([(206, 5, 8)], []), [(.inr (some (.inl ((-2147483648), 299, []))), 245, ([], [], []))])
set_option maxRecDepth 100000 in
theorem p2_s374_e : ck_ok p2_O none [] [(31, [p2_s368]), (32, [p2_s373])] 30 [(5, [some (.inr (.inr (.inl 206))), some (.inl (0, 299, [])), some (.inl ((-2147483648), 2147483647, []))], ([], [(3, 8, 0)], []), 100, .inl 2, true)] 134 p2_s374 = true := by decide +kernel
theorem p2_s374_s {X : Int → Int} {LX : Nat} : ck_Ok p2_O X LX 30 p2_s374 := ck_ok_s ⟨p2_nmu, ck_E1 (ck_S1 p2_s368_s ck_S0) (ck_E1 (ck_S1 p2_s373_s ck_S0) ck_E0)⟩ ck_X0 ck_l0 p2_s374_e
