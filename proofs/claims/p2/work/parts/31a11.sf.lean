/-! EVERY CALL ENDS, whatever was done before (laid by wip/am/p2g.py). -/
set_option maxRecDepth 100000 in
/-- GlacierMail.wrote -/
def p2_s3109 : ck_Sum := ((8, 2, 12), 245, [.inr (.inr (.inl 1)), .inl (0, 7, []), .inl ((-2147483648), (-1), []), .inl ((-2147483648), 2147483647, []), .inl ((-2147483648), 2147483647, [])], ([], [], []), ([], []), [(.inl 3, 245, ([], [], []))])
set_option maxRecDepth 100000 in
theorem p2_s3109_e : ck_ok p2_O none [] [(139, [p2_s356]), (132, [p2_s293])] 190 [] 82 p2_s3109 = true := by decide +kernel
theorem p2_s3109_s {X : Int → Int} {LX : Nat} : ck_Ok p2_O X LX 190 p2_s3109 := ck_ok_s ⟨p2_nmu, ck_E1 (ck_S1 p2_s356_s ck_S0) (ck_E1 (ck_S1 p2_s293_s ck_S0) ck_E0)⟩ ck_X0 ck_l0 p2_s3109_e
set_option maxRecDepth 100000 in
/-- GlacierMail.wrote -/
def p2_s3110 : ck_Sum := ((8, 2, 12), 245, [.inr (.inr (.inl 1)), .inl (0, 7, []), .inl (6, 2147483647, []), .inl ((-2147483648), 2147483647, []), .inl ((-2147483648), 2147483647, [])], ([], [], []), ([], []), [(.inl 3, 245, ([], [], []))])
set_option maxRecDepth 100000 in
theorem p2_s3110_e : ck_ok p2_O none [] [(139, [p2_s356]), (132, [p2_s296])] 190 [] 82 p2_s3110 = true := by decide +kernel
theorem p2_s3110_s {X : Int → Int} {LX : Nat} : ck_Ok p2_O X LX 190 p2_s3110 := ck_ok_s ⟨p2_nmu, ck_E1 (ck_S1 p2_s356_s ck_S0) (ck_E1 (ck_S1 p2_s296_s ck_S0) ck_E0)⟩ ck_X0 ck_l0 p2_s3110_e
set_option maxRecDepth 100000 in
/-- GlacierMail.wrote -/
def p2_s3111 : ck_Sum := ((8, 3, 18), 245, [.inr (.inr (.inl 1)), .inl (0, 7, []), .inl (0, 5, []), .inl ((-2147483648), (-1), []), .inl ((-2147483648), 2147483647, [])], ([], [], []), ([], []), [(.inl 3, 245, ([], [], [])), (.inl 0, 245, ([], [], []))])
set_option maxRecDepth 100000 in
theorem p2_s3111_e : ck_ok p2_O none [] [(139, [p2_s356]), (132, [p2_s299]), (187, [p2_s3072])] 190 [] 90 p2_s3111 = true := by decide +kernel
theorem p2_s3111_s {X : Int → Int} {LX : Nat} : ck_Ok p2_O X LX 190 p2_s3111 := ck_ok_s ⟨p2_nmu, ck_E1 (ck_S1 p2_s356_s ck_S0) (ck_E1 (ck_S1 p2_s299_s ck_S0) (ck_E1 (ck_S1 p2_s3072_s ck_S0) ck_E0))⟩ ck_X0 ck_l0 p2_s3111_e
set_option maxRecDepth 100000 in
/-- GlacierMail.wrote -/
def p2_s3112 : ck_Sum := ((8, 3, 18), 245, [.inr (.inr (.inl 1)), .inl (0, 7, []), .inl (0, 5, []), .inl (300, 2147483647, []), .inl ((-2147483648), 2147483647, [])], ([], [], []), ([], []), [(.inl 3, 245, ([], [], [])), (.inl 0, 245, ([], [], []))])
set_option maxRecDepth 100000 in
theorem p2_s3112_e : ck_ok p2_O none [] [(139, [p2_s356]), (132, [p2_s299]), (187, [p2_s3074])] 190 [] 90 p2_s3112 = true := by decide +kernel
theorem p2_s3112_s {X : Int → Int} {LX : Nat} : ck_Ok p2_O X LX 190 p2_s3112 := ck_ok_s ⟨p2_nmu, ck_E1 (ck_S1 p2_s356_s ck_S0) (ck_E1 (ck_S1 p2_s299_s ck_S0) (ck_E1 (ck_S1 p2_s3074_s ck_S0) ck_E0))⟩ ck_X0 ck_l0 p2_s3112_e
set_option maxRecDepth 100000 in
/-- GlacierMail.wrote -/
def p2_s3113 : ck_Sum := ((8, 3, 18), 245, [.inr (.inr (.inl 1)), .inl (0, 7, []), .inl (0, 5, []), .inl (0, 299, []), .inl ((-2147483648), (-1), [])], ([], [], []), ([], []), [(.inl 3, 245, ([], [], [])), (.inl 0, 245, ([], [], []))])
set_option maxRecDepth 100000 in
theorem p2_s3113_e : ck_ok p2_O none [] [(139, [p2_s356]), (132, [p2_s299]), (187, [p2_s3076])] 190 [] 90 p2_s3113 = true := by decide +kernel
theorem p2_s3113_s {X : Int → Int} {LX : Nat} : ck_Ok p2_O X LX 190 p2_s3113 := ck_ok_s ⟨p2_nmu, ck_E1 (ck_S1 p2_s356_s ck_S0) (ck_E1 (ck_S1 p2_s299_s ck_S0) (ck_E1 (ck_S1 p2_s3076_s ck_S0) ck_E0))⟩ ck_X0 ck_l0 p2_s3113_e
set_option maxRecDepth 100000 in
/-- GlacierMail.wrote -/
def p2_s3114 : ck_Sum := ((8, 3, 18), 245, [.inr (.inr (.inl 1)), .inl (0, 7, []), .inl (0, 5, []), .inl (0, 299, []), .inl (100, 2147483647, [])], ([], [], []), ([], []), [(.inl 3, 245, ([], [], [])), (.inl 0, 245, ([], [], []))])
set_option maxRecDepth 100000 in
theorem p2_s3114_e : ck_ok p2_O none [] [(139, [p2_s356]), (132, [p2_s299]), (187, [p2_s3078])] 190 [] 90 p2_s3114 = true := by decide +kernel
theorem p2_s3114_s {X : Int → Int} {LX : Nat} : ck_Ok p2_O X LX 190 p2_s3114 := ck_ok_s ⟨p2_nmu, ck_E1 (ck_S1 p2_s356_s ck_S0) (ck_E1 (ck_S1 p2_s299_s ck_S0) (ck_E1 (ck_S1 p2_s3078_s ck_S0) ck_E0))⟩ ck_X0 ck_l0 p2_s3114_e
set_option maxRecDepth 100000 in
/-- GlacierMail.wrote -/
def p2_s3115 : ck_Sum := ((8, 2, 12), 245, [.inr (.inr (.inl 1)), .inl (0, 7, []), .inl (0, 5, []), .inl (0, 299, []), .inl (0, 99, [])], ([], [(3, 8, 0)], []), ([(206, 2, 8)], []), [(.inl 3, 245, ([], [], [])), (.inr (some (.inl (ck_one (-1)))), 245, ([], [], [])), (.inr (some (.inl (0, 298, []))), 245, ([], [], [(206, 4, 4, ck_one (-1))]))])
set_option maxRecDepth 100000 in
theorem p2_s3115_e : ck_ok p2_O none [] [(139, [p2_s356]), (132, [p2_s299]), (187, [p2_s3080]), (188, [p2_s3087])] 190 [] 104 p2_s3115 = true := by decide +kernel
theorem p2_s3115_s {X : Int → Int} {LX : Nat} : ck_Ok p2_O X LX 190 p2_s3115 := ck_ok_s ⟨p2_nmu, ck_E1 (ck_S1 p2_s356_s ck_S0) (ck_E1 (ck_S1 p2_s299_s ck_S0) (ck_E1 (ck_S1 p2_s3080_s ck_S0) (ck_E1 (ck_S1 p2_s3087_s ck_S0) ck_E0)))⟩ ck_X0 ck_l0 p2_s3115_e
set_option maxRecDepth 100000 in
/-- GlacierMailModel.wrote -/
def p2_s3116 : ck_Sum := ((2, 0, 0), 245, [.inr (.inr (.inl 226)), .inl ((-2147483648), (-1), []), .inl ((-2147483648), 2147483647, []), .inl ((-2147483648), 2147483647, []), .inl ((-2147483648), 2147483647, [])], ([], [], [(227, 3, 3, (0, 8, [(21, 0)]))]), ([(226, 0, 0)], []), [(.inr (some (.inl (ck_one 0))), 245, ([], [], [(226, 0, 0, ck_one 1)]))])
set_option maxRecDepth 100000 in
theorem p2_s3116_e : ck_ok p2_O none [] [(298, [p2_s441]), (282, [p2_s268])] 340 [] 100 p2_s3116 = true := by decide +kernel
theorem p2_s3116_s {X : Int → Int} {LX : Nat} : ck_Ok p2_O X LX 340 p2_s3116 := ck_ok_s ⟨p2_nmu, ck_E1 (ck_S1 p2_s441_s ck_S0) (ck_E1 (ck_S1 p2_s268_s ck_S0) ck_E0)⟩ ck_X0 ck_l0 p2_s3116_e
set_option maxRecDepth 100000 in
/-- GlacierMailModel.wrote -/
def p2_s3117 : ck_Sum := ((2, 0, 0), 245, [.inr (.inr (.inl 226)), .inl (8, 2147483647, []), .inl ((-2147483648), 2147483647, []), .inl ((-2147483648), 2147483647, []), .inl ((-2147483648), 2147483647, [])], ([], [], [(227, 3, 3, (0, 8, [(21, 0)]))]), ([(226, 0, 0)], []), [(.inr (some (.inl (ck_one 0))), 245, ([], [], [(226, 0, 0, ck_one 1)]))])
set_option maxRecDepth 100000 in
theorem p2_s3117_e : ck_ok p2_O none [] [(298, [p2_s444]), (282, [p2_s268])] 340 [] 100 p2_s3117 = true := by decide +kernel
theorem p2_s3117_s {X : Int → Int} {LX : Nat} : ck_Ok p2_O X LX 340 p2_s3117 := ck_ok_s ⟨p2_nmu, ck_E1 (ck_S1 p2_s444_s ck_S0) (ck_E1 (ck_S1 p2_s268_s ck_S0) ck_E0)⟩ ck_X0 ck_l0 p2_s3117_e
set_option maxRecDepth 100000 in
/-- GlacierMailModel.wrote -/
def p2_s3118 : ck_Sum := ((2, 0, 0), 245, [.inr (.inr (.inl 226)), .inl (0, 7, []), .inl ((-2147483648), (-1), []), .inl ((-2147483648), 2147483647, []), .inl ((-2147483648), 2147483647, [])], ([], [], [(227, 3, 3, (0, 8, [(21, 0)]))]), ([(226, 0, 0)], []), [(.inr (some (.inl (ck_one 0))), 245, ([], [], [(226, 0, 0, ck_one 1)]))])
set_option maxRecDepth 100000 in
theorem p2_s3118_e : ck_ok p2_O none [] [(298, [p2_s447]), (282, [p2_s268]), (288, [p2_s311])] 340 [] 108 p2_s3118 = true := by decide +kernel
theorem p2_s3118_s {X : Int → Int} {LX : Nat} : ck_Ok p2_O X LX 340 p2_s3118 := ck_ok_s ⟨p2_nmu, ck_E1 (ck_S1 p2_s447_s ck_S0) (ck_E1 (ck_S1 p2_s268_s ck_S0) (ck_E1 (ck_S1 p2_s311_s ck_S0) ck_E0))⟩ ck_X0 ck_l0 p2_s3118_e
set_option maxRecDepth 100000 in
/-- GlacierMailModel.wrote -/
def p2_s3119 : ck_Sum := ((2, 0, 0), 245, [.inr (.inr (.inl 226)), .inl (0, 7, []), .inl (6, 2147483647, []), .inl ((-2147483648), 2147483647, []), .inl ((-2147483648), 2147483647, [])], ([], [], [(227, 3, 3, (0, 8, [(21, 0)]))]), ([(226, 0, 0)], []), [(.inr (some (.inl (ck_one 0))), 245, ([], [], [(226, 0, 0, ck_one 1)]))])
set_option maxRecDepth 100000 in
theorem p2_s3119_e : ck_ok p2_O none [] [(298, [p2_s447]), (282, [p2_s268]), (288, [p2_s314])] 340 [] 108 p2_s3119 = true := by decide +kernel
theorem p2_s3119_s {X : Int → Int} {LX : Nat} : ck_Ok p2_O X LX 340 p2_s3119 := ck_ok_s ⟨p2_nmu, ck_E1 (ck_S1 p2_s447_s ck_S0) (ck_E1 (ck_S1 p2_s268_s ck_S0) (ck_E1 (ck_S1 p2_s314_s ck_S0) ck_E0))⟩ ck_X0 ck_l0 p2_s3119_e
set_option maxRecDepth 100000 in
/-- GlacierMailModel.wrote -/
def p2_s3120 : ck_Sum := ((2, 0, 0), 245, [.inr (.inr (.inl 226)), .inl (0, 7, []), .inl (0, 5, []), .inl ((-2147483648), (-1), []), .inl ((-2147483648), 2147483647, [])], ([], [], [(227, 3, 3, (0, 8, [(21, 0)]))]), ([(226, 0, 0)], []), [(.inr (some (.inl (ck_one 0))), 245, ([], [], [(226, 0, 0, (1, 2, []))]))])
set_option maxRecDepth 100000 in
theorem p2_s3120_e : ck_ok p2_O none [] [(298, [p2_s447]), (282, [p2_s268, p2_s269, p2_s272]), (288, [p2_s317]), (285, [p2_s284])] 340 [] 124 p2_s3120 = true := by decide +kernel
theorem p2_s3120_s {X : Int → Int} {LX : Nat} : ck_Ok p2_O X LX 340 p2_s3120 := ck_ok_s ⟨p2_nmu, ck_E1 (ck_S1 p2_s447_s ck_S0) (ck_E1 (ck_S1 p2_s268_s (ck_S1 p2_s269_s (ck_S1 p2_s272_s ck_S0))) (ck_E1 (ck_S1 p2_s317_s ck_S0) (ck_E1 (ck_S1 p2_s284_s ck_S0) ck_E0)))⟩ ck_X0 ck_l0 p2_s3120_e
set_option maxRecDepth 100000 in
/-- GlacierMailModel.wrote -/
def p2_s3121 : ck_Sum := ((2, 0, 0), 245, [.inr (.inr (.inl 226)), .inl (0, 7, []), .inl (0, 5, []), .inl (300, 2147483647, []), .inl ((-2147483648), 2147483647, [])], ([], [], [(227, 3, 3, (0, 8, [(21, 0)]))]), ([(226, 0, 0)], []), [(.inr (some (.inl (ck_one 0))), 245, ([], [], [(226, 0, 0, (1, 2, []))]))])
set_option maxRecDepth 100000 in
theorem p2_s3121_e : ck_ok p2_O none [] [(298, [p2_s447]), (282, [p2_s268, p2_s269, p2_s272]), (288, [p2_s317]), (285, [p2_s287])] 340 [] 124 p2_s3121 = true := by decide +kernel
theorem p2_s3121_s {X : Int → Int} {LX : Nat} : ck_Ok p2_O X LX 340 p2_s3121 := ck_ok_s ⟨p2_nmu, ck_E1 (ck_S1 p2_s447_s ck_S0) (ck_E1 (ck_S1 p2_s268_s (ck_S1 p2_s269_s (ck_S1 p2_s272_s ck_S0))) (ck_E1 (ck_S1 p2_s317_s ck_S0) (ck_E1 (ck_S1 p2_s287_s ck_S0) ck_E0)))⟩ ck_X0 ck_l0 p2_s3121_e
set_option maxRecDepth 100000 in
/-- GlacierMailModel.wrote -/
def p2_s3122 : ck_Sum := ((2, 0, 0), 245, [.inr (.inr (.inl 226)), .inl (0, 7, []), .inl (0, 5, []), .inl (0, 299, []), .inl ((-2147483648), (-1), [])], ([], [], [(227, 3, 3, (0, 8, [(21, 0)]))]), ([(226, 0, 0)], []), [(.inr (some (.inl (ck_one 0))), 245, ([], [], [(226, 0, 0, (1, 2, []))]))])
set_option maxRecDepth 100000 in
theorem p2_s3122_e : ck_ok p2_O none [] [(298, [p2_s447]), (282, [p2_s268, p2_s269, p2_s272]), (288, [p2_s317]), (285, [p2_s290]), (286, [p2_s3093])] 340 [] 134 p2_s3122 = true := by decide +kernel
theorem p2_s3122_s {X : Int → Int} {LX : Nat} : ck_Ok p2_O X LX 340 p2_s3122 := ck_ok_s ⟨p2_nmu, ck_E1 (ck_S1 p2_s447_s ck_S0) (ck_E1 (ck_S1 p2_s268_s (ck_S1 p2_s269_s (ck_S1 p2_s272_s ck_S0))) (ck_E1 (ck_S1 p2_s317_s ck_S0) (ck_E1 (ck_S1 p2_s290_s ck_S0) (ck_E1 (ck_S1 p2_s3093_s ck_S0) ck_E0))))⟩ ck_X0 ck_l0 p2_s3122_e
set_option maxRecDepth 100000 in
/-- GlacierMailModel.wrote -/
def p2_s3123 : ck_Sum := ((2, 0, 0), 245, [.inr (.inr (.inl 226)), .inl (0, 7, []), .inl (0, 5, []), .inl (0, 299, []), .inl (100, 2147483647, [])], ([], [], [(227, 3, 3, (0, 8, [(21, 0)]))]), ([(226, 0, 0)], []), [(.inr (some (.inl (ck_one 0))), 245, ([], [], [(226, 0, 0, (1, 2, []))]))])
set_option maxRecDepth 100000 in
theorem p2_s3123_e : ck_ok p2_O none [] [(298, [p2_s447]), (282, [p2_s268, p2_s269, p2_s272]), (288, [p2_s317]), (285, [p2_s290]), (286, [p2_s3095])] 340 [] 134 p2_s3123 = true := by decide +kernel
theorem p2_s3123_s {X : Int → Int} {LX : Nat} : ck_Ok p2_O X LX 340 p2_s3123 := ck_ok_s ⟨p2_nmu, ck_E1 (ck_S1 p2_s447_s ck_S0) (ck_E1 (ck_S1 p2_s268_s (ck_S1 p2_s269_s (ck_S1 p2_s272_s ck_S0))) (ck_E1 (ck_S1 p2_s317_s ck_S0) (ck_E1 (ck_S1 p2_s290_s ck_S0) (ck_E1 (ck_S1 p2_s3095_s ck_S0) ck_E0))))⟩ ck_X0 ck_l0 p2_s3123_e
set_option maxRecDepth 100000 in
/-- GlacierMail$Rows.size -/
def p2_s3125 : ck_Sum := ((0, 0, 0), 245, [.inr (.inr (.inl 12))], ([], [], []), ([], []), [(.inr (some (.inl (0, 6, []))), 245, ([], [], []))])
set_option maxRecDepth 100000 in
theorem p2_s3125_e : ck_ok p2_O none [] [] 9 [] 76 p2_s3125 = true := by decide +kernel
theorem p2_s3125_s {X : Int → Int} {LX : Nat} : ck_Ok p2_O X LX 9 p2_s3125 := ck_ok_s ⟨p2_nmu, ck_E0⟩ ck_X0 ck_l0 p2_s3125_e
set_option maxRecDepth 100000 in
/-- GlacierMail.need -/
def p2_s3126 : ck_Sum := ((6, 1, 6), 245, [.inr (.inr (.inl 1)), .inl ((-2147483648), (-1), []), .inl (0, 6, [])], ([], [], []), ([], []), [(.inl 3, 245, ([], [], []))])
set_option maxRecDepth 100000 in
theorem p2_s3126_e : ck_ok p2_O none [] [] 133 [] 76 p2_s3126 = true := by decide +kernel
theorem p2_s3126_s {X : Int → Int} {LX : Nat} : ck_Ok p2_O X LX 133 p2_s3126 := ck_ok_s ⟨p2_nmu, ck_E0⟩ ck_X0 ck_l0 p2_s3126_e
set_option maxRecDepth 100000 in
/-- GlacierMail.needTable -/
def p2_s3127 : ck_Sum := ((7, 1, 6), 245, [.inr (.inr (.inl 1)), .inl ((-2147483648), (-1), [])], ([], [], []), ([], []), [(.inl 3, 245, ([], [], []))])
set_option maxRecDepth 100000 in
theorem p2_s3127_e : ck_ok p2_O none [] [(9, [p2_s3125]), (133, [p2_s3126])] 193 [] 84 p2_s3127 = true := by decide +kernel
theorem p2_s3127_s {X : Int → Int} {LX : Nat} : ck_Ok p2_O X LX 193 p2_s3127 := ck_ok_s ⟨p2_nmu, ck_E1 (ck_S1 p2_s3125_s ck_S0) (ck_E1 (ck_S1 p2_s3126_s ck_S0) ck_E0)⟩ ck_X0 ck_l0 p2_s3127_e
set_option maxRecDepth 100000 in
/-- GlacierMail.table -/
def p2_s3128 : ck_Sum := ((8, 1, 6), 245, [.inr (.inr (.inl 1)), .inl ((-2147483648), (-1), []), .inl ((-2147483648), 2147483647, [])], ([], [], []), ([], []), [(.inl 3, 245, ([], [], []))])
set_option maxRecDepth 100000 in
theorem p2_s3128_e : ck_ok p2_O none [] [(193, [p2_s3127])] 192 [] 76 p2_s3128 = true := by decide +kernel
theorem p2_s3128_s {X : Int → Int} {LX : Nat} : ck_Ok p2_O X LX 192 p2_s3128 := ck_ok_s ⟨p2_nmu, ck_E1 (ck_S1 p2_s3127_s ck_S0) ck_E0⟩ ck_X0 ck_l0 p2_s3128_e
set_option maxRecDepth 100000 in
/-- GlacierMail.need -/
def p2_s3129 : ck_Sum := ((6, 1, 6), 245, [.inr (.inr (.inl 1)), .inl (6, 2147483647, []), .inl (0, 6, [])], ([], [], []), ([], []), [(.inl 3, 245, ([], [], []))])
set_option maxRecDepth 100000 in
theorem p2_s3129_e : ck_ok p2_O none [] [] 133 [] 82 p2_s3129 = true := by decide +kernel
theorem p2_s3129_s {X : Int → Int} {LX : Nat} : ck_Ok p2_O X LX 133 p2_s3129 := ck_ok_s ⟨p2_nmu, ck_E0⟩ ck_X0 ck_l0 p2_s3129_e
set_option maxRecDepth 100000 in
/-- GlacierMail.needTable -/
def p2_s3130 : ck_Sum := ((7, 1, 6), 245, [.inr (.inr (.inl 1)), .inl (6, 2147483647, [])], ([], [], []), ([], []), [(.inl 3, 245, ([], [], []))])
set_option maxRecDepth 100000 in
theorem p2_s3130_e : ck_ok p2_O none [] [(9, [p2_s3125]), (133, [p2_s3129])] 193 [] 84 p2_s3130 = true := by decide +kernel
theorem p2_s3130_s {X : Int → Int} {LX : Nat} : ck_Ok p2_O X LX 193 p2_s3130 := ck_ok_s ⟨p2_nmu, ck_E1 (ck_S1 p2_s3125_s ck_S0) (ck_E1 (ck_S1 p2_s3129_s ck_S0) ck_E0)⟩ ck_X0 ck_l0 p2_s3130_e
set_option maxRecDepth 100000 in
/-- GlacierMail.table -/
def p2_s3131 : ck_Sum := ((8, 1, 6), 245, [.inr (.inr (.inl 1)), .inl (6, 2147483647, []), .inl ((-2147483648), 2147483647, [])], ([], [], []), ([], []), [(.inl 3, 245, ([], [], []))])
set_option maxRecDepth 100000 in
theorem p2_s3131_e : ck_ok p2_O none [] [(193, [p2_s3130])] 192 [] 76 p2_s3131 = true := by decide +kernel
theorem p2_s3131_s {X : Int → Int} {LX : Nat} : ck_Ok p2_O X LX 192 p2_s3131 := ck_ok_s ⟨p2_nmu, ck_E1 (ck_S1 p2_s3130_s ck_S0) ck_E0⟩ ck_X0 ck_l0 p2_s3131_e
set_option maxRecDepth 100000 in
/-- GlacierMail.need -/
def p2_s3132 : ck_Sum := ((6, 1, 6), 245, [.inr (.inr (.inl 1)), .inl (0, 5, []), .inl (0, 6, [])], ([], [], []), ([], []), [(.inr none, 245, ([], [], [])), (.inl 3, 245, ([], [], []))])
set_option maxRecDepth 100000 in
theorem p2_s3132_e : ck_ok p2_O none [] [] 133 [] 82 p2_s3132 = true := by decide +kernel
theorem p2_s3132_s {X : Int → Int} {LX : Nat} : ck_Ok p2_O X LX 133 p2_s3132 := ck_ok_s ⟨p2_nmu, ck_E0⟩ ck_X0 ck_l0 p2_s3132_e
set_option maxRecDepth 100000 in
/-- GlacierMail.needTable -/
def p2_s3133 : ck_Sum := ((7, 1, 6), 245, [.inr (.inr (.inl 1)), .inl (0, 5, [])], ([], [], []), ([], []), [(.inl 3, 245, ([], [], [])), (.inr none, 245, ([], [], []))])
set_option maxRecDepth 100000 in
theorem p2_s3133_e : ck_ok p2_O none [] [(9, [p2_s3125]), (133, [p2_s3132])] 193 [] 86 p2_s3133 = true := by decide +kernel
theorem p2_s3133_s {X : Int → Int} {LX : Nat} : ck_Ok p2_O X LX 193 p2_s3133 := ck_ok_s ⟨p2_nmu, ck_E1 (ck_S1 p2_s3125_s ck_S0) (ck_E1 (ck_S1 p2_s3132_s ck_S0) ck_E0)⟩ ck_X0 ck_l0 p2_s3133_e
set_option maxRecDepth 100000 in
/-- GlacierMail.table -/
def p2_s3134 : ck_Sum := ((8, 2, 12), 245, [.inr (.inr (.inl 1)), .inl (0, 5, []), .inl ((-2147483648), (-1), [])], ([], [], []), ([], []), [(.inl 3, 245, ([], [], []))])
set_option maxRecDepth 100000 in
theorem p2_s3134_e : ck_ok p2_O none [] [(193, [p2_s3133]), (132, [p2_s293])] 192 [] 82 p2_s3134 = true := by decide +kernel
theorem p2_s3134_s {X : Int → Int} {LX : Nat} : ck_Ok p2_O X LX 192 p2_s3134 := ck_ok_s ⟨p2_nmu, ck_E1 (ck_S1 p2_s3133_s ck_S0) (ck_E1 (ck_S1 p2_s293_s ck_S0) ck_E0)⟩ ck_X0 ck_l0 p2_s3134_e
set_option maxRecDepth 100000 in
/-- GlacierMail.table -/
def p2_s3135 : ck_Sum := ((8, 2, 12), 245, [.inr (.inr (.inl 1)), .inl (0, 5, []), .inl (6, 2147483647, [])], ([], [], []), ([], []), [(.inl 3, 245, ([], [], []))])
set_option maxRecDepth 100000 in
theorem p2_s3135_e : ck_ok p2_O none [] [(193, [p2_s3133]), (132, [p2_s296])] 192 [] 82 p2_s3135 = true := by decide +kernel
theorem p2_s3135_s {X : Int → Int} {LX : Nat} : ck_Ok p2_O X LX 192 p2_s3135 := ck_ok_s ⟨p2_nmu, ck_E1 (ck_S1 p2_s3133_s ck_S0) (ck_E1 (ck_S1 p2_s296_s ck_S0) ck_E0)⟩ ck_X0 ck_l0 p2_s3135_e
set_option maxRecDepth 100000 in
/-- GlacierMail$Rows.get -/
def p2_s3136 : ck_Sum := ((0, 0, 0), 245, [.inr (.inr (.inl 12)), .inl ((-2147483648), 2147483647, []), .inl ((-2147483648), 2147483647, [])], ([], [], []), ([], []), [(.inr (some (.inl (ck_one (-1)))), 245, ([], [], [])), (.inr (some (.inl (0, 20, []))), 245, ([], [], [(12, 3, 3, (1, 6, []))]))])
set_option maxRecDepth 100000 in
theorem p2_s3136_e : ck_ok p2_O none [] [] 10 [] 114 p2_s3136 = true := by decide +kernel
theorem p2_s3136_s {X : Int → Int} {LX : Nat} : ck_Ok p2_O X LX 10 p2_s3136 := ck_ok_s ⟨p2_nmu, ck_E0⟩ ck_X0 ck_l0 p2_s3136_e
set_option maxRecDepth 100000 in
/-- GlacierMail.table -/
def p2_s3137 : ck_Sum := ((8, 2, 12), 245, [.inr (.inr (.inl 1)), .inl (0, 5, []), .inl (0, 5, [])], ([], [], []), ([], []), [(.inl 3, 245, ([], [], [])), (.inr (some (.inl (ck_one (-1)))), 245, ([], [], [])), (.inr (some (.inl (0, 20, []))), 245, ([], [], [(12, 3, 3, (1, 6, []))]))])
set_option maxRecDepth 100000 in
theorem p2_s3137_e : ck_ok p2_O none [] [(193, [p2_s3133]), (132, [p2_s299]), (10, [p2_s3136])] 192 [] 96 p2_s3137 = true := by decide +kernel
theorem p2_s3137_s {X : Int → Int} {LX : Nat} : ck_Ok p2_O X LX 192 p2_s3137 := ck_ok_s ⟨p2_nmu, ck_E1 (ck_S1 p2_s3133_s ck_S0) (ck_E1 (ck_S1 p2_s299_s ck_S0) (ck_E1 (ck_S1 p2_s3136_s ck_S0) ck_E0))⟩ ck_X0 ck_l0 p2_s3137_e
set_option maxRecDepth 100000 in
/-- GlacierMailModel.in -/
def p2_s3138 : ck_Sum := ((0, 0, 0), 245, [.inl ((-2147483648), (-1), []), .inl (ck_one 0), .inl ((-1), 5, [])], ([], [], []), ([], []), [(.inr (some (.inl (ck_one 0))), 245, ([], [], []))])
set_option maxRecDepth 100000 in
theorem p2_s3138_e : ck_ok p2_O none [] [] 286 [] 80 p2_s3138 = true := by decide +kernel
theorem p2_s3138_s {X : Int → Int} {LX : Nat} : ck_Ok p2_O X LX 286 p2_s3138 := ck_ok_s ⟨p2_nmu, ck_E0⟩ ck_X0 ck_l0 p2_s3138_e
set_option maxRecDepth 100000 in
/-- GlacierMailModel.noTable -/
def p2_s3139 : ck_Sum := ((1, 0, 0), 245, [.inr (.inr (.inl 226)), .inl ((-2147483648), (-1), [])], ([], [], [(227, 6, 6, (0, 6, [(24, 0)]))]), ([], []), [(.inr (some (.inl (ck_one 1))), 245, ([], [], []))])
set_option maxRecDepth 100000 in
theorem p2_s3139_e : ck_ok p2_O none [] [(286, [p2_s3138])] 342 [] 96 p2_s3139 = true := by decide +kernel
theorem p2_s3139_s {X : Int → Int} {LX : Nat} : ck_Ok p2_O X LX 342 p2_s3139 := ck_ok_s ⟨p2_nmu, ck_E1 (ck_S1 p2_s3138_s ck_S0) ck_E0⟩ ck_X0 ck_l0 p2_s3139_e
set_option maxRecDepth 100000 in
/-- GlacierMailModel.table -/
def p2_s3140 : ck_Sum := ((2, 0, 0), 245, [.inr (.inr (.inl 226)), .inl ((-2147483648), (-1), []), .inl ((-2147483648), 2147483647, [])], ([], [], [(227, 6, 6, (0, 6, [(24, 0)]))]), ([(226, 0, 0)], []), [(.inr (some (.inl (ck_one 0))), 245, ([], [], [(226, 0, 0, ck_one 1)]))])
set_option maxRecDepth 100000 in
theorem p2_s3140_e : ck_ok p2_O none [] [(342, [p2_s3139]), (282, [p2_s268])] 341 [] 102 p2_s3140 = true := by decide +kernel
theorem p2_s3140_s {X : Int → Int} {LX : Nat} : ck_Ok p2_O X LX 341 p2_s3140 := ck_ok_s ⟨p2_nmu, ck_E1 (ck_S1 p2_s3139_s ck_S0) (ck_E1 (ck_S1 p2_s268_s ck_S0) ck_E0)⟩ ck_X0 ck_l0 p2_s3140_e
set_option maxRecDepth 100000 in
/-- GlacierMailModel.in -/
def p2_s3141 : ck_Sum := ((0, 0, 0), 245, [.inl (6, 2147483647, []), .inl (ck_one 0), .inl ((-1), 5, [])], ([], [], []), ([], []), [(.inr (some (.inl (ck_one 0))), 245, ([], [], []))])
set_option maxRecDepth 100000 in
theorem p2_s3141_e : ck_ok p2_O none [] [] 286 [] 86 p2_s3141 = true := by decide +kernel
theorem p2_s3141_s {X : Int → Int} {LX : Nat} : ck_Ok p2_O X LX 286 p2_s3141 := ck_ok_s ⟨p2_nmu, ck_E0⟩ ck_X0 ck_l0 p2_s3141_e
set_option maxRecDepth 100000 in
/-- GlacierMailModel.noTable -/
def p2_s3142 : ck_Sum := ((1, 0, 0), 245, [.inr (.inr (.inl 226)), .inl (6, 2147483647, [])], ([], [], [(227, 6, 6, (0, 6, [(24, 0)]))]), ([], []), [(.inr (some (.inl (ck_one 1))), 245, ([], [], []))])
set_option maxRecDepth 100000 in
theorem p2_s3142_e : ck_ok p2_O none [] [(286, [p2_s3141])] 342 [] 96 p2_s3142 = true := by decide +kernel
theorem p2_s3142_s {X : Int → Int} {LX : Nat} : ck_Ok p2_O X LX 342 p2_s3142 := ck_ok_s ⟨p2_nmu, ck_E1 (ck_S1 p2_s3141_s ck_S0) ck_E0⟩ ck_X0 ck_l0 p2_s3142_e
set_option maxRecDepth 100000 in
/-- GlacierMailModel.table -/
def p2_s3143 : ck_Sum := ((2, 0, 0), 245, [.inr (.inr (.inl 226)), .inl (6, 2147483647, []), .inl ((-2147483648), 2147483647, [])], ([], [], [(227, 6, 6, (0, 6, [(24, 0)]))]), ([(226, 0, 0)], []), [(.inr (some (.inl (ck_one 0))), 245, ([], [], [(226, 0, 0, ck_one 1)]))])
set_option maxRecDepth 100000 in
theorem p2_s3143_e : ck_ok p2_O none [] [(342, [p2_s3142]), (282, [p2_s268])] 341 [] 102 p2_s3143 = true := by decide +kernel
theorem p2_s3143_s {X : Int → Int} {LX : Nat} : ck_Ok p2_O X LX 341 p2_s3143 := ck_ok_s ⟨p2_nmu, ck_E1 (ck_S1 p2_s3142_s ck_S0) (ck_E1 (ck_S1 p2_s268_s ck_S0) ck_E0)⟩ ck_X0 ck_l0 p2_s3143_e
set_option maxRecDepth 100000 in
/-- GlacierMailModel.in -/
def p2_s3144 : ck_Sum := ((0, 0, 0), 245, [.inl (0, 5, []), .inl (ck_one 0), .inl ((-1), 5, [])], ([], [], []), ([], []), [(.inr (some (.inl (ck_one 0))), 245, ([], [], [])), (.inr (some (.inl (ck_one 1))), 245, ([], [], []))])
set_option maxRecDepth 100000 in
theorem p2_s3144_e : ck_ok p2_O none [] [] 286 [] 88 p2_s3144 = true := by decide +kernel
theorem p2_s3144_s {X : Int → Int} {LX : Nat} : ck_Ok p2_O X LX 286 p2_s3144 := ck_ok_s ⟨p2_nmu, ck_E0⟩ ck_X0 ck_l0 p2_s3144_e
set_option maxRecDepth 100000 in
/-- GlacierMailModel.noTable -/
def p2_s3145 : ck_Sum := ((1, 0, 0), 245, [.inr (.inr (.inl 226)), .inl (0, 5, [])], ([], [], [(227, 6, 6, (0, 6, [(24, 0)]))]), ([], []), [(.inr (some (.inl (ck_one 1))), 245, ([], [], [])), (.inr (some (.inl (ck_one 0))), 245, ([], [], []))])
set_option maxRecDepth 100000 in
theorem p2_s3145_e : ck_ok p2_O none [] [(286, [p2_s3144])] 342 [] 96 p2_s3145 = true := by decide +kernel
theorem p2_s3145_s {X : Int → Int} {LX : Nat} : ck_Ok p2_O X LX 342 p2_s3145 := ck_ok_s ⟨p2_nmu, ck_E1 (ck_S1 p2_s3144_s ck_S0) ck_E0⟩ ck_X0 ck_l0 p2_s3145_e
set_option maxRecDepth 100000 in
/-- GlacierMailModel.table -/
def p2_s3146 : ck_Sum := ((2, 0, 0), 245, [.inr (.inr (.inl 226)), .inl (0, 5, []), .inl ((-2147483648), (-1), [])], ([], [], [(227, 6, 6, (0, 6, [(24, 0)]))]), ([(226, 0, 0)], []), [(.inr (some (.inl (ck_one 0))), 245, ([], [], [(226, 0, 0, ck_one 1)]))])
set_option maxRecDepth 100000 in
theorem p2_s3146_e : ck_ok p2_O none [] [(342, [p2_s3145]), (282, [p2_s268]), (288, [p2_s311])] 341 [] 110 p2_s3146 = true := by decide +kernel
theorem p2_s3146_s {X : Int → Int} {LX : Nat} : ck_Ok p2_O X LX 341 p2_s3146 := ck_ok_s ⟨p2_nmu, ck_E1 (ck_S1 p2_s3145_s ck_S0) (ck_E1 (ck_S1 p2_s268_s ck_S0) (ck_E1 (ck_S1 p2_s311_s ck_S0) ck_E0))⟩ ck_X0 ck_l0 p2_s3146_e
set_option maxRecDepth 100000 in
/-- GlacierMailModel.table -/
def p2_s3147 : ck_Sum := ((2, 0, 0), 245, [.inr (.inr (.inl 226)), .inl (0, 5, []), .inl (6, 2147483647, [])], ([], [], [(227, 6, 6, (0, 6, [(24, 0)]))]), ([(226, 0, 0)], []), [(.inr (some (.inl (ck_one 0))), 245, ([], [], [(226, 0, 0, ck_one 1)]))])
set_option maxRecDepth 100000 in
theorem p2_s3147_e : ck_ok p2_O none [] [(342, [p2_s3145]), (282, [p2_s268]), (288, [p2_s314])] 341 [] 110 p2_s3147 = true := by decide +kernel
theorem p2_s3147_s {X : Int → Int} {LX : Nat} : ck_Ok p2_O X LX 341 p2_s3147 := ck_ok_s ⟨p2_nmu, ck_E1 (ck_S1 p2_s3145_s ck_S0) (ck_E1 (ck_S1 p2_s268_s ck_S0) (ck_E1 (ck_S1 p2_s314_s ck_S0) ck_E0))⟩ ck_X0 ck_l0 p2_s3147_e
set_option maxRecDepth 100000 in
/-- GlacierMailModel.ofTable -/
def p2_s3148 : ck_Sum := ((0, 0, 0), 245, [.inr (.inr (.inl 226)), .inl (0, 5, []), .inl (0, 5, [])], ([], [], []), ([], []), [(.inr (some (.inl (0, 20, []))), 245, ([], [], []))])
set_option maxRecDepth 100000 in
theorem p2_s3148_e : ck_ok p2_O none [] [] 343 [] 92 p2_s3148 = true := by decide +kernel
theorem p2_s3148_s {X : Int → Int} {LX : Nat} : ck_Ok p2_O X LX 343 p2_s3148 := ck_ok_s ⟨p2_nmu, ck_E0⟩ ck_X0 ck_l0 p2_s3148_e
set_option maxRecDepth 100000 in
/-- GlacierMailModel.table -/
def p2_s3149 : ck_Sum := ((2, 0, 0), 245, [.inr (.inr (.inl 226)), .inl (0, 5, []), .inl (0, 5, [])], ([], [], [(227, 6, 6, (0, 6, [(24, 0)]))]), ([(226, 0, 0)], []), [(.inr (some (.inl (0, 20, []))), 245, ([], [], [(226, 0, 0, (0, 1, []))]))])
set_option maxRecDepth 100000 in
theorem p2_s3149_e : ck_ok p2_O none [] [(342, [p2_s3145]), (282, [p2_s268, p2_s269]), (288, [p2_s317]), (343, [p2_s3148])] 341 [] 112 p2_s3149 = true := by decide +kernel
theorem p2_s3149_s {X : Int → Int} {LX : Nat} : ck_Ok p2_O X LX 341 p2_s3149 := ck_ok_s ⟨p2_nmu, ck_E1 (ck_S1 p2_s3145_s ck_S0) (ck_E1 (ck_S1 p2_s268_s (ck_S1 p2_s269_s ck_S0)) (ck_E1 (ck_S1 p2_s317_s ck_S0) (ck_E1 (ck_S1 p2_s3148_s ck_S0) ck_E0)))⟩ ck_X0 ck_l0 p2_s3149_e
set_option maxRecDepth 100000 in
/-- GlacierMail.apart -/
def p2_s3150 : ck_Sum := ((8, 1, 6), 245, [.inr (.inr (.inl 1)), .inl ((-2147483648), (-1), []), .inl ((-2147483648), 2147483647, []), .inl ((-2147483648), 2147483647, [])], ([], [], []), ([], []), [(.inl 3, 245, ([], [], []))])
set_option maxRecDepth 100000 in
theorem p2_s3150_e : ck_ok p2_O none [] [(193, [p2_s3127])] 195 [] 76 p2_s3150 = true := by decide +kernel
theorem p2_s3150_s {X : Int → Int} {LX : Nat} : ck_Ok p2_O X LX 195 p2_s3150 := ck_ok_s ⟨p2_nmu, ck_E1 (ck_S1 p2_s3127_s ck_S0) ck_E0⟩ ck_X0 ck_l0 p2_s3150_e
set_option maxRecDepth 100000 in
/-- GlacierMail.apart -/
def p2_s3151 : ck_Sum := ((8, 1, 6), 245, [.inr (.inr (.inl 1)), .inl (6, 2147483647, []), .inl ((-2147483648), 2147483647, []), .inl ((-2147483648), 2147483647, [])], ([], [], []), ([], []), [(.inl 3, 245, ([], [], []))])
set_option maxRecDepth 100000 in
theorem p2_s3151_e : ck_ok p2_O none [] [(193, [p2_s3130])] 195 [] 76 p2_s3151 = true := by decide +kernel
theorem p2_s3151_s {X : Int → Int} {LX : Nat} : ck_Ok p2_O X LX 195 p2_s3151 := ck_ok_s ⟨p2_nmu, ck_E1 (ck_S1 p2_s3130_s ck_S0) ck_E0⟩ ck_X0 ck_l0 p2_s3151_e
set_option maxRecDepth 100000 in
/-- GlacierMail.apart -/
def p2_s3152 : ck_Sum := ((8, 2, 12), 245, [.inr (.inr (.inl 1)), .inl (0, 5, []), .inl ((-2147483648), (-1), []), .inl ((-2147483648), 2147483647, [])], ([], [], []), ([], []), [(.inl 3, 245, ([], [], []))])
set_option maxRecDepth 100000 in
theorem p2_s3152_e : ck_ok p2_O none [] [(193, [p2_s3133, p2_s3127])] 195 [] 82 p2_s3152 = true := by decide +kernel
theorem p2_s3152_s {X : Int → Int} {LX : Nat} : ck_Ok p2_O X LX 195 p2_s3152 := ck_ok_s ⟨p2_nmu, ck_E1 (ck_S1 p2_s3133_s (ck_S1 p2_s3127_s ck_S0)) ck_E0⟩ ck_X0 ck_l0 p2_s3152_e
set_option maxRecDepth 100000 in
/-- GlacierMail.apart -/
def p2_s3153 : ck_Sum := ((8, 2, 12), 245, [.inr (.inr (.inl 1)), .inl (0, 5, []), .inl (6, 2147483647, []), .inl ((-2147483648), 2147483647, [])], ([], [], []), ([], []), [(.inl 3, 245, ([], [], []))])
set_option maxRecDepth 100000 in
theorem p2_s3153_e : ck_ok p2_O none [] [(193, [p2_s3133, p2_s3130])] 195 [] 82 p2_s3153 = true := by decide +kernel
theorem p2_s3153_s {X : Int → Int} {LX : Nat} : ck_Ok p2_O X LX 195 p2_s3153 := ck_ok_s ⟨p2_nmu, ck_E1 (ck_S1 p2_s3133_s (ck_S1 p2_s3130_s ck_S0)) ck_E0⟩ ck_X0 ck_l0 p2_s3153_e
set_option maxRecDepth 100000 in
/-- GlacierMail.toldApart -/
def p2_s3154 : ck_Sum := ((1, 0, 0), 245, [.inr (.inr (.inl 1)), .inl (0, 5, []), .inl (0, 5, []), .inl ((-2147483648), 2147483647, [])], ([], [], []), ([], []), [(.inr (some (.inl (ck_one 0))), 245, ([], [], [])), (.inr (some (.inl (ck_one 1))), 245, ([], [], [(12, 3, 3, (1, 6, []))]))])
set_option maxRecDepth 100000 in
theorem p2_s3154_e : ck_ok p2_O none [] [(10, [p2_s3136])] 51 [(3, [some (.inr (.inr (.inl 1))), some (.inl (0, 5, [])), some (.inl (0, 5, [])), some (.inl ((-2147483648), 2147483647, [])), some (.inl (0, 6, []))], ([], [], []), 100, .inl 4, true)] 202 p2_s3154 = true := by decide +kernel
theorem p2_s3154_s {X : Int → Int} {LX : Nat} : ck_Ok p2_O X LX 51 p2_s3154 := ck_ok_s ⟨p2_nmu, ck_E1 (ck_S1 p2_s3136_s ck_S0) ck_E0⟩ ck_X0 ck_l0 p2_s3154_e
set_option maxRecDepth 100000 in
/-- GlacierMail.apart -/
def p2_s3155 : ck_Sum := ((8, 2, 12), 245, [.inr (.inr (.inl 1)), .inl (0, 5, []), .inl (0, 5, []), .inl ((-2147483648), 2147483647, [])], ([], [], []), ([], []), [(.inl 3, 245, ([], [], [])), (.inr (some (.inl (ck_one 0))), 245, ([], [], [])), (.inr (some (.inl (ck_one 1))), 245, ([], [], [(12, 3, 3, (1, 6, []))]))])
set_option maxRecDepth 100000 in
theorem p2_s3155_e : ck_ok p2_O none [] [(193, [p2_s3133]), (51, [p2_s3154])] 195 [] 94 p2_s3155 = true := by decide +kernel
theorem p2_s3155_s {X : Int → Int} {LX : Nat} : ck_Ok p2_O X LX 195 p2_s3155 := ck_ok_s ⟨p2_nmu, ck_E1 (ck_S1 p2_s3133_s ck_S0) (ck_E1 (ck_S1 p2_s3154_s ck_S0) ck_E0)⟩ ck_X0 ck_l0 p2_s3155_e
set_option maxRecDepth 100000 in
/-- GlacierMailModel.apart -/
def p2_s3156 : ck_Sum := ((2, 0, 0), 245, [.inr (.inr (.inl 226)), .inl ((-2147483648), (-1), []), .inl ((-2147483648), 2147483647, []), .inl ((-2147483648), 2147483647, [])], ([], [], [(227, 6, 6, (0, 6, [(24, 0)]))]), ([(226, 0, 0)], []), [(.inr (some (.inl (ck_one 0))), 245, ([], [], [(226, 0, 0, ck_one 1)]))])
set_option maxRecDepth 100000 in
theorem p2_s3156_e : ck_ok p2_O none [] [(342, [p2_s3139]), (282, [p2_s268])] 344 [] 100 p2_s3156 = true := by decide +kernel
theorem p2_s3156_s {X : Int → Int} {LX : Nat} : ck_Ok p2_O X LX 344 p2_s3156 := ck_ok_s ⟨p2_nmu, ck_E1 (ck_S1 p2_s3139_s ck_S0) (ck_E1 (ck_S1 p2_s268_s ck_S0) ck_E0)⟩ ck_X0 ck_l0 p2_s3156_e
set_option maxRecDepth 100000 in
/-- GlacierMailModel.apart -/
def p2_s3157 : ck_Sum := ((2, 0, 0), 245, [.inr (.inr (.inl 226)), .inl (6, 2147483647, []), .inl ((-2147483648), 2147483647, []), .inl ((-2147483648), 2147483647, [])], ([], [], [(227, 6, 6, (0, 6, [(24, 0)]))]), ([(226, 0, 0)], []), [(.inr (some (.inl (ck_one 0))), 245, ([], [], [(226, 0, 0, ck_one 1)]))])
set_option maxRecDepth 100000 in
theorem p2_s3157_e : ck_ok p2_O none [] [(342, [p2_s3142]), (282, [p2_s268])] 344 [] 100 p2_s3157 = true := by decide +kernel
theorem p2_s3157_s {X : Int → Int} {LX : Nat} : ck_Ok p2_O X LX 344 p2_s3157 := ck_ok_s ⟨p2_nmu, ck_E1 (ck_S1 p2_s3142_s ck_S0) (ck_E1 (ck_S1 p2_s268_s ck_S0) ck_E0)⟩ ck_X0 ck_l0 p2_s3157_e
set_option maxRecDepth 100000 in
/-- GlacierMailModel.apart -/
def p2_s3158 : ck_Sum := ((2, 0, 0), 245, [.inr (.inr (.inl 226)), .inl (0, 5, []), .inl ((-2147483648), (-1), []), .inl ((-2147483648), 2147483647, [])], ([], [], [(227, 6, 6, (0, 6, [(24, 0)]))]), ([(226, 0, 0)], []), [(.inr (some (.inl (ck_one 0))), 245, ([], [], [(226, 0, 0, ck_one 1)]))])
set_option maxRecDepth 100000 in
theorem p2_s3158_e : ck_ok p2_O none [] [(342, [p2_s3145, p2_s3139]), (282, [p2_s268])] 344 [] 108 p2_s3158 = true := by decide +kernel
theorem p2_s3158_s {X : Int → Int} {LX : Nat} : ck_Ok p2_O X LX 344 p2_s3158 := ck_ok_s ⟨p2_nmu, ck_E1 (ck_S1 p2_s3145_s (ck_S1 p2_s3139_s ck_S0)) (ck_E1 (ck_S1 p2_s268_s ck_S0) ck_E0)⟩ ck_X0 ck_l0 p2_s3158_e
set_option maxRecDepth 100000 in
/-- GlacierMailModel.apart -/
def p2_s3159 : ck_Sum := ((2, 0, 0), 245, [.inr (.inr (.inl 226)), .inl (0, 5, []), .inl (6, 2147483647, []), .inl ((-2147483648), 2147483647, [])], ([], [], [(227, 6, 6, (0, 6, [(24, 0)]))]), ([(226, 0, 0)], []), [(.inr (some (.inl (ck_one 0))), 245, ([], [], [(226, 0, 0, ck_one 1)]))])
set_option maxRecDepth 100000 in
theorem p2_s3159_e : ck_ok p2_O none [] [(342, [p2_s3145, p2_s3142]), (282, [p2_s268])] 344 [] 108 p2_s3159 = true := by decide +kernel
theorem p2_s3159_s {X : Int → Int} {LX : Nat} : ck_Ok p2_O X LX 344 p2_s3159 := ck_ok_s ⟨p2_nmu, ck_E1 (ck_S1 p2_s3145_s (ck_S1 p2_s3142_s ck_S0)) (ck_E1 (ck_S1 p2_s268_s ck_S0) ck_E0)⟩ ck_X0 ck_l0 p2_s3159_e
set_option maxRecDepth 100000 in
/-- GlacierMailModel.has -/
def p2_s3160 : ck_Sum := ((0, 0, 0), 245, [.inl ((-2147483648), 2147483647, []), .inl (0, 5, [])], ([], [], []), ([], []), [(.inr (some (.inl (ck_one 0))), 245, ([], [], [])), (.inr (some (.inl (ck_one 1))), 245, ([], [], []))])
set_option maxRecDepth 100000 in
theorem p2_s3160_e : ck_ok p2_O none [] [] 346 [] 90 p2_s3160 = true := by decide +kernel
theorem p2_s3160_s {X : Int → Int} {LX : Nat} : ck_Ok p2_O X LX 346 p2_s3160 := ck_ok_s ⟨p2_nmu, ck_E0⟩ ck_X0 ck_l0 p2_s3160_e
set_option maxRecDepth 100000 in
/-- GlacierMailModel.areApart -/
def p2_s3165 : ck_Sum := ((1, 0, 0), 245, [.inr (.inr (.inl 226)), .inl (0, 5, []), .inl (0, 5, []), .inl ((-2147483648), 2147483647, [])], ([], [], []), ([], []), [(.inr (some (.inl (0, 1, []))), 245, ([], [], []))])
set_option maxRecDepth 100000 in
theorem p2_s3165_e : ck_ok p2_O none [] [(261, [p2_s184]), (346, [p2_s3160]), (343, [p2_s3148])] 345 [(6, [some (.inr (.inr (.inl 226))), some (.inl (0, 5, [])), some (.inl (0, 5, [])), some (.inl ((-2147483648), 2147483647, [])), some (.inl (0, 1, [])), some (.inl (0, 6, []))], ([], [], []), 100, .inl 5, true)] 190 p2_s3165 = true := by decide +kernel
theorem p2_s3165_s {X : Int → Int} {LX : Nat} : ck_Ok p2_O X LX 345 p2_s3165 := ck_ok_s ⟨p2_nmu, ck_E1 (ck_S1 p2_s184_s ck_S0) (ck_E1 (ck_S1 p2_s3160_s ck_S0) (ck_E1 (ck_S1 p2_s3148_s ck_S0) ck_E0))⟩ ck_X0 ck_l0 p2_s3165_e
set_option maxRecDepth 100000 in
/-- GlacierMailModel.apart -/
def p2_s3166 : ck_Sum := ((2, 0, 0), 245, [.inr (.inr (.inl 226)), .inl (0, 5, []), .inl (0, 5, []), .inl ((-2147483648), 2147483647, [])], ([], [], [(227, 6, 6, (0, 6, [(24, 0)]))]), ([(226, 0, 0)], []), [(.inr (some (.inl (ck_one 0))), 245, ([], [], [(226, 0, 0, (0, 1, []))])), (.inr (some (.inl (ck_one 1))), 245, ([], [], [(226, 0, 0, ck_one 0)]))])
set_option maxRecDepth 100000 in
theorem p2_s3166_e : ck_ok p2_O none [] [(342, [p2_s3145]), (282, [p2_s268, p2_s269]), (345, [p2_s3165])] 344 [] 120 p2_s3166 = true := by decide +kernel
theorem p2_s3166_s {X : Int → Int} {LX : Nat} : ck_Ok p2_O X LX 344 p2_s3166 := ck_ok_s ⟨p2_nmu, ck_E1 (ck_S1 p2_s3145_s ck_S0) (ck_E1 (ck_S1 p2_s268_s (ck_S1 p2_s269_s ck_S0)) (ck_E1 (ck_S1 p2_s3165_s ck_S0) ck_E0))⟩ ck_X0 ck_l0 p2_s3166_e
set_option maxRecDepth 100000 in
/-- GlacierMail.allToldApart -/
def p2_s3167 : ck_Sum := ((2, 0, 0), 245, [.inr (.inr (.inl 1)), .inl ((-2147483648), 2147483647, [])], ([], [], []), ([], []), [(.inr (some (.inl (ck_one 1))), 245, ([], [], [])), (.inr (some (.inl (ck_one 0))), 245, ([], [], []))])
set_option maxRecDepth 100000 in
theorem p2_s3167_e : ck_ok p2_O none [] [(9, [p2_s3125]), (51, [p2_s3154])] 50 [(2, [some (.inr (.inr (.inl 1))), some (.inl ((-2147483648), 2147483647, [])), some (.inl (0, 6, [])), none], ([], [], []), 100, .inl 2, true), (20, [some (.inr (.inr (.inl 1))), some (.inl ((-2147483648), 2147483647, [])), some (.inl (0, 5, [(100, 0)])), some (.inl (1, 6, []))], ([], [], []), 300, .inl 3, true)] 200 p2_s3167 = true := by decide +kernel
theorem p2_s3167_s {X : Int → Int} {LX : Nat} : ck_Ok p2_O X LX 50 p2_s3167 := ck_ok_s ⟨p2_nmu, ck_E1 (ck_S1 p2_s3125_s ck_S0) (ck_E1 (ck_S1 p2_s3154_s ck_S0) ck_E0)⟩ ck_X0 ck_l0 p2_s3167_e
set_option maxRecDepth 100000 in
/-- java/lang/Integer.bitCount -/
def p2_s3168 : ck_Sum := ((0, 0, 0), 245, [.inl ((-2147483648), 2147483647, [])], ([], [], []), ([], []), [(.inr (some (.inl (0, 63, []))), 245, ([], [], []))])
set_option maxRecDepth 100000 in
theorem p2_s3168_e : ck_ok p2_O none [] [] 49 [] 154 p2_s3168 = true := by decide +kernel
theorem p2_s3168_s {X : Int → Int} {LX : Nat} : ck_Ok p2_O X LX 49 p2_s3168 := ck_ok_s ⟨p2_nmu, ck_E0⟩ ck_X0 ck_l0 p2_s3168_e
set_option maxRecDepth 100000 in
/-- GlacierMail.poles -/
def p2_s3169 : ck_Sum := ((3, 0, 0), 245, [.inr (.inr (.inl 1))], ([], [], []), ([], []), [(.inr (some (.inl ((-1), 2147483646, []))), 245, ([], [], []))])
set_option maxRecDepth 100000 in
theorem p2_s3169_e : ck_ok p2_O none [] [(50, [p2_s3167]), (49, [p2_s3168])] 48 [(4, [some (.inr (.inr (.inl 1))), some (.inl ((-1), 2147483646, [])), some (.inl (0, 2147483647, [])), none], ([], [], []), 100, .inl 2, true)] 206 p2_s3169 = true := by decide +kernel
theorem p2_s3169_s {X : Int → Int} {LX : Nat} : ck_Ok p2_O X LX 48 p2_s3169 := ck_ok_s ⟨p2_nmu, ck_E1 (ck_S1 p2_s3167_s ck_S0) (ck_E1 (ck_S1 p2_s3168_s ck_S0) ck_E0)⟩ ck_X0 ck_l0 p2_s3169_e
set_option maxRecDepth 100000 in
/-- GlacierMailModel.poles -/
def p2_s3170 : ck_Sum := ((2, 0, 0), 245, [.inr (.inr (.inl 226))], ([], [], [(227, 6, 6, (0, 6, [(24, 0)]))]), ([(226, 0, 0)], []), [(.inr (some (.inl ((-1), 2147483646, []))), 245, ([], [], [(226, 0, 0, ck_one 0)]))])
set_option maxRecDepth 100000 in
theorem p2_s3170_e : ck_ok p2_O none [] [(261, [p2_s184]), (49, [p2_s3168]), (345, [p2_s3165])] 347 [(9, [some (.inr (.inr (.inl 226))), some (.inl ((-1), 2147483646, [])), some (.inl (0, 2147483647, [])), none, none, none], ([], [], [(226, 0, 0, ck_one 0), (227, 6, 6, (0, 6, [(24, 0)]))]), 100, .inl 2, true), (43, [some (.inr (.inr (.inl 226))), some (.inl ((-1), 2147483646, [])), some (.inl (0, 2147483646, [(100, 0)])), some (.inl (0, 1, [])), some (.inl (0, 6, [])), none], ([], [], [(226, 0, 0, ck_one 0), (227, 6, 6, (0, 6, [(24, 0)]))]), 300, .inl 4, true), (58, [some (.inr (.inr (.inl 226))), some (.inl ((-1), 2147483646, [])), some (.inl (0, 2147483646, [(100, 0)])), some (.inl (0, 1, [])), some (.inl (0, 5, [(300, 0)])), some (.inl (0, 5, []))], ([], [], [(227, 6, 6, (1, 6, [(24, 0)])), (226, 0, 0, ck_one 0)]), 500, .inl 5, true)] 282 p2_s3170 = true := by decide +kernel
theorem p2_s3170_s {X : Int → Int} {LX : Nat} : ck_Ok p2_O X LX 347 p2_s3170 := ck_ok_s ⟨p2_nmu, ck_E1 (ck_S1 p2_s184_s ck_S0) (ck_E1 (ck_S1 p2_s3168_s ck_S0) (ck_E1 (ck_S1 p2_s3165_s ck_S0) ck_E0))⟩ ck_X0 ck_l0 p2_s3170_e
set_option maxRecDepth 100000 in
/-- GlacierMail.areReadings -/
def p2_s3171 : ck_Sum := ((0, 0, 0), 245, [.inr (.inr (.inl 1)), .inl (0, 400, [])], ([], [], []), ([], []), [(.inr (some (.inl (ck_one 0))), 245, ([], [], [])), (.inr (some (.inl (ck_one 1))), 245, ([], [], []))])
set_option maxRecDepth 100000 in
theorem p2_s3171_e : ck_ok p2_O none [] [] 198 [(10, [some (.inr (.inr (.inl 1))), some (.inl (0, 400, [])), some (.inl (0, 400, [])), none, none], ([], [], []), 100, .inl 2, true)] 302 p2_s3171 = true := by decide +kernel
theorem p2_s3171_s {X : Int → Int} {LX : Nat} : ck_Ok p2_O X LX 198 p2_s3171 := ck_ok_s ⟨p2_nmu, ck_E0⟩ ck_X0 ck_l0 p2_s3171_e
set_option maxRecDepth 100000 in
/-- GlacierMail.fitsReadings -/
def p2_s3176 : ck_Sum := ((1, 0, 0), 245, [.inr (.inr (.inl 1)), .inl (0, 5, []), .inl (0, 400, [])], ([], [], []), ([], []), [(.inr (some (.inl (ck_one 1))), 245, ([], [], [])), (.inr (some (.inl (ck_one 0))), 245, ([], [], []))])
set_option maxRecDepth 100000 in
theorem p2_s3176_e : ck_ok p2_O none [] [(10, [p2_s3136])] 199 [(2, [some (.inr (.inr (.inl 1))), some (.inl (0, 5, [])), some (.inl (0, 400, [])), some (.inl (0, 400, []))], ([], [], []), 100, .inl 3, true)] 214 p2_s3176 = true := by decide +kernel
theorem p2_s3176_s {X : Int → Int} {LX : Nat} : ck_Ok p2_O X LX 199 p2_s3176 := ck_ok_s ⟨p2_nmu, ck_E1 (ck_S1 p2_s3136_s ck_S0) ck_E0⟩ ck_X0 ck_l0 p2_s3176_e
set_option maxRecDepth 100000 in
/-- GlacierMail.fit -/
def p2_s3177 : ck_Sum := ((6, 1, 6), 245, [.inr (.inr (.inl 1))], ([], [], [(1, 1, 1, (0, 400, [(6, 0)]))]), ([(1, 1, 1)], []), [(.inl 0, 245, ([], [], [(1, 1, 1, ck_one 0)])), (.inr (some (.inl ((-2147483648), 2147483647, []))), 245, ([], [], [(1, 1, 1, ck_one 0)]))])
set_option maxRecDepth 100000 in
theorem p2_s3177_e : ck_ok p2_O none [] [(198, [p2_s3171]), (9, [p2_s3125]), (199, [p2_s3176])] 197 [(33, [some (.inr (.inr (.inl 1))), some (.inl (0, 400, [(6, 0)])), some (.inl ((-2147483648), 2147483647, [])), some (.inl (0, 6, []))], ([], [], [(1, 1, 1, ck_one 0)]), 100, .inl 3, true)] 170 p2_s3177 = true := by decide +kernel
theorem p2_s3177_s {X : Int → Int} {LX : Nat} : ck_Ok p2_O X LX 197 p2_s3177 := ck_ok_s ⟨p2_nmu, ck_E1 (ck_S1 p2_s3171_s ck_S0) (ck_E1 (ck_S1 p2_s3125_s ck_S0) (ck_E1 (ck_S1 p2_s3176_s ck_S0) ck_E0))⟩ ck_X0 ck_l0 p2_s3177_e
