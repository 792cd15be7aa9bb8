/-! EVERY CALL ENDS, whatever was done before (laid by wip/am/p2g.py). -/
set_option maxRecDepth 100000 in
/-- GlacierMail.apart -/
def p2_s3150 : ck_Sum := ((8, 1, 6), 245, [.inr (.inr (.inl 1)), .inl ((-2147483648), (-1), []), .inl ((-2147483648), 2147483647, []), .inl ((-2147483648), 2147483647, [])], ([], [], []), ([], []), [(.inl 3, 245, ([], [], []))])
set_option maxRecDepth 100000 in
theorem p2_s3150_e : ck_ok p2_O none [] [(193, [p2_s3127])] 195 [] 76 p2_s3150 = true := by decide +kernel
theorem p2_s3150_s {X : Int → Int} {LX : Nat} : ck_Ok p2_O X LX 195 p2_s3150 := ck_ok_s ⟨p2_nmu, ck_E1 (ck_S1 p2_s3127_s ck_S0) ck_E0⟩ ck_X0 ck_l0 p2_s3150_e
set_option maxRecDepth 100000 in
/-- GlacierMail.apart -/
def p2_s3151 : ck_Sum := ((8, 1, 6), 245, [.inr (.inr (.inl 1)), .inl (6, 2147483647, []), .inl ((-2147483648), 2147483647, []), .inl ((-2147483648), 2147483647, [])], ([], [], []), ([], []), [(.inl 3, 245, ([], [], []))])
set_option maxRecDepth 100000 in
theorem p2_s3151_e : ck_ok p2_O none [] [(193, [p2_s3130])] 195 [] 76 p2_s3151 = true := by decide +kernel
theorem p2_s3151_s {X : Int → Int} {LX : Nat} : ck_Ok p2_O X LX 195 p2_s3151 := ck_ok_s ⟨p2_nmu, ck_E1 (ck_S1 p2_s3130_s ck_S0) ck_E0⟩ ck_X0 ck_l0 p2_s3151_e
set_option maxRecDepth 100000 in
/-- GlacierMail.apart -/
def p2_s3152 : ck_Sum := ((8, 2, 12), 245, [.inr (.inr (.inl 1)), .inl (0, 5, []), .inl ((-2147483648), (-1), []), .inl ((-2147483648), 2147483647, [])], ([], [], []), ([], []), [(.inl 3, 245, ([], [], []))])
set_option maxRecDepth 100000 in
theorem p2_s3152_e : ck_ok p2_O none [] [(193, [p2_s3133, p2_s3127])] 195 [] 82 p2_s3152 = true := by decide +kernel
theorem p2_s3152_s {X : Int → Int} {LX : Nat} : ck_Ok p2_O X LX 195 p2_s3152 := ck_ok_s ⟨p2_nmu, ck_E1 (ck_S1 p2_s3133_s (ck_S1 p2_s3127_s ck_S0)) ck_E0⟩ ck_X0 ck_l0 p2_s3152_e
set_option maxRecDepth 100000 in
/-- GlacierMail.apart -/
def p2_s3153 : ck_Sum := ((8, 2, 12), 245, [.inr (.inr (.inl 1)), .inl (0, 5, []), .inl (6, 2147483647, []), .inl ((-2147483648), 2147483647, [])], ([], [], []), ([], []), [(.inl 3, 245, ([], [], []))])
set_option maxRecDepth 100000 in
theorem p2_s3153_e : ck_ok p2_O none [] [(193, [p2_s3133, p2_s3130])] 195 [] 82 p2_s3153 = true := by decide +kernel
theorem p2_s3153_s {X : Int → Int} {LX : Nat} : ck_Ok p2_O X LX 195 p2_s3153 := ck_ok_s ⟨p2_nmu, ck_E1 (ck_S1 p2_s3133_s (ck_S1 p2_s3130_s ck_S0)) ck_E0⟩ ck_X0 ck_l0 p2_s3153_e
set_option maxRecDepth 100000 in
/-- GlacierMail.toldApart -/
def p2_s3154 : ck_Sum := ((1, 0, 0), 245, [.inr (.inr (.inl 1)), .inl (0, 5, []), .inl (0, 5, []), .inl ((-2147483648), 2147483647, [])], ([], [], []), ([], []), [(.inr (some (.inl (ck_one 0))), 245, ([], [], [])), (.inr (some (.inl (ck_one 1))), 245, ([], [], [(12, 3, 3, (1, 6, []))]))])
set_option maxRecDepth 100000 in
theorem p2_s3154_e : ck_ok p2_O none [] [(10, [p2_s3136])] 51 [(3, [some (.inr (.inr (.inl 1))), some (.inl (0, 5, [])), some (.inl (0, 5, [])), some (.inl ((-2147483648), 2147483647, [])), some (.inl (0, 6, []))], ([], [], []), 100, .inl 4, true)] 202 p2_s3154 = true := by decide +kernel
theorem p2_s3154_s {X : Int → Int} {LX : Nat} : ck_Ok p2_O X LX 51 p2_s3154 := ck_ok_s ⟨p2_nmu, ck_E1 (ck_S1 p2_s3136_s ck_S0) ck_E0⟩ ck_X0 ck_l0 p2_s3154_e
set_option maxRecDepth 100000 in
/-- GlacierMail.apart -/
def p2_s3155 : ck_Sum := ((8, 2, 12), 245, [.inr (.inr (.inl 1)), .inl (0, 5, []), .inl (0, 5, []), .inl ((-2147483648), 2147483647, [])], ([], [], []), ([], []), [(.inl 3, 245, ([], [], [])), (.inr (some (.inl (ck_one 0))), 245, ([], [], [])), (.inr (some (.inl (ck_one 1))), 245, ([], [], [(12, 3, 3, (1, 6, []))]))])
set_option maxRecDepth 100000 in
theorem p2_s3155_e : ck_ok p2_O none [] [(193, [p2_s3133]), (51, [p2_s3154])] 195 [] 94 p2_s3155 = true := by decide +kernel
theorem p2_s3155_s {X : Int → Int} {LX : Nat} : ck_Ok p2_O X LX 195 p2_s3155 := ck_ok_s ⟨p2_nmu, ck_E1 (ck_S1 p2_s3133_s ck_S0) (ck_E1 (ck_S1 p2_s3154_s ck_S0) ck_E0)⟩ ck_X0 ck_l0 p2_s3155_e
set_option maxRecDepth 100000 in
/-- GlacierMailModel.apart -/
def p2_s3156 : ck_Sum := ((2, 0, 0), 245, [.inr (.inr (.inl 226)), .inl ((-2147483648), (-1), []), .inl ((-2147483648), 2147483647, []), .inl ((-2147483648), 2147483647, [])], ([], [], [(227, 6, 6, (0, 6, [(24, 0)]))]), ([(226, 0, 0)], []), [(.inr (some (.inl (ck_one 0))), 245, ([], [], [(226, 0, 0, ck_one 1)]))])
set_option maxRecDepth 100000 in
theorem p2_s3156_e : ck_ok p2_O none [] [(342, [p2_s3139]), (282, [p2_s268])] 344 [] 100 p2_s3156 = true := by decide +kernel
theorem p2_s3156_s {X : Int → Int} {LX : Nat} : ck_Ok p2_O X LX 344 p2_s3156 := ck_ok_s ⟨p2_nmu, ck_E1 (ck_S1 p2_s3139_s ck_S0) (ck_E1 (ck_S1 p2_s268_s ck_S0) ck_E0)⟩ ck_X0 ck_l0 p2_s3156_e
set_option maxRecDepth 100000 in
/-- GlacierMailModel.apart -/
def p2_s3157 : ck_Sum := ((2, 0, 0), 245, [.inr (.inr (.inl 226)), .inl (6, 2147483647, []), .inl ((-2147483648), 2147483647, []), .inl ((-2147483648), 2147483647, [])], ([], [], [(227, 6, 6, (0, 6, [(24, 0)]))]), ([(226, 0, 0)], []), [(.inr (some (.inl (ck_one 0))), 245, ([], [], [(226, 0, 0, ck_one 1)]))])
set_option maxRecDepth 100000 in
theorem p2_s3157_e : ck_ok p2_O none [] [(342, [p2_s3142]), (282, [p2_s268])] 344 [] 100 p2_s3157 = true := by decide +kernel
theorem p2_s3157_s {X : Int → Int} {LX : Nat} : ck_Ok p2_O X LX 344 p2_s3157 := ck_ok_s ⟨p2_nmu, ck_E1 (ck_S1 p2_s3142_s ck_S0) (ck_E1 (ck_S1 p2_s268_s ck_S0) ck_E0)⟩ ck_X0 ck_l0 p2_s3157_e
set_option maxRecDepth 100000 in
/-- GlacierMailModel.apart -/
def p2_s3158 : ck_Sum := ((2, 0, 0), 245, [.inr (.inr (.inl 226)), .inl (0, 5, []), .inl ((-2147483648), (-1), []), .inl ((-2147483648), 2147483647, [])], ([], [], [(227, 6, 6, (0, 6, [(24, 0)]))]), ([(226, 0, 0)], []), [(.inr (some (.inl (ck_one 0))), 245, ([], [], [(226, 0, 0, ck_one 1)]))])
set_option maxRecDepth 100000 in
theorem p2_s3158_e : ck_ok p2_O none [] [(342, [p2_s3145, p2_s3139]), (282, [p2_s268])] 344 [] 108 p2_s3158 = true := by decide +kernel
theorem p2_s3158_s {X : Int → Int} {LX : Nat} : ck_Ok p2_O X LX 344 p2_s3158 := ck_ok_s ⟨p2_nmu, ck_E1 (ck_S1 p2_s3145_s (ck_S1 p2_s3139_s ck_S0)) (ck_E1 (ck_S1 p2_s268_s ck_S0) ck_E0)⟩ ck_X0 ck_l0 p2_s3158_e
set_option maxRecDepth 100000 in
/-- GlacierMailModel.apart -/
def p2_s3159 : ck_Sum := ((2, 0, 0), 245, [.inr (.inr (.inl 226)), .inl (0, 5, []), .inl (6, 2147483647, []), .inl ((-2147483648), 2147483647, [])], ([], [], [(227, 6, 6, (0, 6, [(24, 0)]))]), ([(226, 0, 0)], []), [(.inr (some (.inl (ck_one 0))), 245, ([], [], [(226, 0, 0, ck_one 1)]))])
set_option maxRecDepth 100000 in
theorem p2_s3159_e : ck_ok p2_O none [] [(342, [p2_s3145, p2_s3142]), (282, [p2_s268])] 344 [] 108 p2_s3159 = true := by decide +kernel
theorem p2_s3159_s {X : Int → Int} {LX : Nat} : ck_Ok p2_O X LX 344 p2_s3159 := ck_ok_s ⟨p2_nmu, ck_E1 (ck_S1 p2_s3145_s (ck_S1 p2_s3142_s ck_S0)) (ck_E1 (ck_S1 p2_s268_s ck_S0) ck_E0)⟩ ck_X0 ck_l0 p2_s3159_e
set_option maxRecDepth 100000 in
/-- GlacierMailModel.has -/
def p2_s3160 : ck_Sum := ((0, 0, 0), 245, [.inl ((-2147483648), 2147483647, []), .inl (0, 5, [])], ([], [], []), ([], []), [(.inr (some (.inl (ck_one 0))), 245, ([], [], [])), (.inr (some (.inl (ck_one 1))), 245, ([], [], []))])
set_option maxRecDepth 100000 in
theorem p2_s3160_e : ck_ok p2_O none [] [] 346 [] 90 p2_s3160 = true := by decide +kernel
theorem p2_s3160_s {X : Int → Int} {LX : Nat} : ck_Ok p2_O X LX 346 p2_s3160 := ck_ok_s ⟨p2_nmu, ck_E0⟩ ck_X0 ck_l0 p2_s3160_e
set_option maxRecDepth 100000 in
/-- GlacierMailModel.areApart -/
def p2_s3165 : ck_Sum := ((1, 0, 0), 245, [.inr (.inr (.inl 226)), .inl (0, 5, []), .inl (0, 5, []), .inl ((-2147483648), 2147483647, [])], ([], [], []), ([], []), [(.inr (some (.inl (0, 1, []))), 245, ([], [], []))])
set_option maxRecDepth 100000 in
theorem p2_s3165_e : ck_ok p2_O none [] [(261, [p2_s184]), (346, [p2_s3160]), (343, [p2_s3148])] 345 [(6, [some (.inr (.inr (.inl 226))), some (.inl (0, 5, [])), some (.inl (0, 5, [])), some (.inl ((-2147483648), 2147483647, [])), some (.inl (0, 1, [])), some (.inl (0, 6, []))], ([], [], []), 100, .inl 5, true)] 190 p2_s3165 = true := by decide +kernel
theorem p2_s3165_s {X : Int → Int} {LX : Nat} : ck_Ok p2_O X LX 345 p2_s3165 := ck_ok_s ⟨p2_nmu, ck_E1 (ck_S1 p2_s184_s ck_S0) (ck_E1 (ck_S1 p2_s3160_s ck_S0) (ck_E1 (ck_S1 p2_s3148_s ck_S0) ck_E0))⟩ ck_X0 ck_l0 p2_s3165_e
set_option maxRecDepth 100000 in
/-- GlacierMailModel.apart -/
def p2_s3166 : ck_Sum := ((2, 0, 0), 245, [.inr (.inr (.inl 226)), .inl (0, 5, []), .inl (0, 5, []), .inl ((-2147483648), 2147483647, [])], ([], [], [(227, 6, 6, (0, 6, [(24, 0)]))]), ([(226, 0, 0)], []), [(.inr (some (.inl (ck_one 0))), 245, ([], [], [(226, 0, 0, (0, 1, []))])), (.inr (some (.inl (ck_one 1))), 245, ([], [], [(226, 0, 0, ck_one 0)]))])
set_option maxRecDepth 100000 in
theorem p2_s3166_e : ck_ok p2_O none [] [(342, [p2_s3145]), (282, [p2_s268, p2_s269]), (345, [p2_s3165])] 344 [] 120 p2_s3166 = true := by decide +kernel
theorem p2_s3166_s {X : Int → Int} {LX : Nat} : ck_Ok p2_O X LX 344 p2_s3166 := ck_ok_s ⟨p2_nmu, ck_E1 (ck_S1 p2_s3145_s ck_S0) (ck_E1 (ck_S1 p2_s268_s (ck_S1 p2_s269_s ck_S0)) (ck_E1 (ck_S1 p2_s3165_s ck_S0) ck_E0))⟩ ck_X0 ck_l0 p2_s3166_e
set_option maxRecDepth 100000 in
/-- GlacierMail.allToldApart -/
def p2_s3167 : ck_Sum := ((2, 0, 0), 245, [.inr (.inr (.inl 1)), .inl ((-2147483648), 2147483647, [])], ([], [], []), ([], []), [(.inr (some (.inl (ck_one 1))), 245, ([], [], [])), (.inr (some (.inl (ck_one 0))), 245, ([], [], []))])
set_option maxRecDepth 100000 in
theorem p2_s3167_e : ck_ok p2_O none [] [(9, [p2_s3125]), (51, [p2_s3154])] 50 [(2, [some (.inr (.inr (.inl 1))), some (.inl ((-2147483648), 2147483647, [])), some (.inl (0, 6, [])), none], ([], [], []), 100, .inl 2, true), (20, [some (.inr (.inr (.inl 1))), some (.inl ((-2147483648), 2147483647, [])), some (.inl (0, 5, [(100, 0)])), some (.inl (1, 6, []))], ([], [], []), 300, .inl 3, true)] 200 p2_s3167 = true := by decide +kernel
theorem p2_s3167_s {X : Int → Int} {LX : Nat} : ck_Ok p2_O X LX 50 p2_s3167 := ck_ok_s ⟨p2_nmu, ck_E1 (ck_S1 p2_s3125_s ck_S0) (ck_E1 (ck_S1 p2_s3154_s ck_S0) ck_E0)⟩ ck_X0 ck_l0 p2_s3167_e
set_option maxRecDepth 100000 in
/-- java/lang/Integer.bitCount -/
def p2_s3168 : ck_Sum := ((0, 0, 0), 245, [.inl ((-2147483648), 2147483647, [])], ([], [], []), ([], []), [(.inr (some (.inl (0, 63, []))), 245, ([], [], []))])
set_option maxRecDepth 100000 in
theorem p2_s3168_e : ck_ok p2_O none [] [] 49 [] 154 p2_s3168 = true := by decide +kernel
theorem p2_s3168_s {X : Int → Int} {LX : Nat} : ck_Ok p2_O X LX 49 p2_s3168 := ck_ok_s ⟨p2_nmu, ck_E0⟩ ck_X0 ck_l0 p2_s3168_e
set_option maxRecDepth 100000 in
/-- GlacierMail.poles -/
def p2_s3169 : ck_Sum := ((3, 0, 0), 245, [.inr (.inr (.inl 1))], ([], [], []), ([], []), [(.inr (some (.inl ((-1), 2147483646, []))), 245, ([], [], []))])
set_option maxRecDepth 100000 in
theorem p2_s3169_e : ck_ok p2_O none [] [(50, [p2_s3167]), (49, [p2_s3168])] 48 [(4, [some (.inr (.inr (.inl 1))), some (.inl ((-1), 2147483646, [])), some (.inl (0, 2147483647, [])), none], ([], [], []), 100, .inl 2, true)] 206 p2_s3169 = true := by decide +kernel
theorem p2_s3169_s {X : Int → Int} {LX : Nat} : ck_Ok p2_O X LX 48 p2_s3169 := ck_ok_s ⟨p2_nmu, ck_E1 (ck_S1 p2_s3167_s ck_S0) (ck_E1 (ck_S1 p2_s3168_s ck_S0) ck_E0)⟩ ck_X0 ck_l0 p2_s3169_e
set_option maxRecDepth 100000 in
/-- GlacierMailModel.poles -/
def p2_s3170 : ck_Sum := ((2, 0, 0), 245, [.inr (.inr (.inl 226))], ([], [], [(227, 6, 6, (0, 6, [(24, 0)]))]), ([(226, 0, 0)], []), [(.inr (some (.inl ((-1), 2147483646, []))), 245, ([], [], [(226, 0, 0, ck_one 0)]))])
set_option maxRecDepth 100000 in
theorem p2_s3170_e : ck_ok p2_O none [] [(261, [p2_s184]), (49, [p2_s3168]), (345, [p2_s3165])] 347 [(9, [some (.inr (.inr (.inl 226))), some (.inl ((-1), 2147483646, [])), some (.inl (0, 2147483647, [])), none, none, none], ([], [], [(226, 0, 0, ck_one 0), (227, 6, 6, (0, 6, [(24, 0)]))]), 100, .inl 2, true), (43, [some (.inr (.inr (.inl 226))), some (.inl ((-1), 2147483646, [])), some (.inl (0, 2147483646, [(100, 0)])), some (.inl (0, 1, [])), some (.inl (0, 6, [])), none], ([], [], [(226, 0, 0, ck_one 0), (227, 6, 6, (0, 6, [(24, 0)]))]), 300, .inl 4, true), (58, [some (.inr (.inr (.inl 226))), some (.inl ((-1), 2147483646, [])), some (.inl (0, 2147483646, [(100, 0)])), some (.inl (0, 1, [])), some (.inl (0, 5, [(300, 0)])), some (.inl (0, 5, []))], ([], [], [(227, 6, 6, (1, 6, [(24, 0)])), (226, 0, 0, ck_one 0)]), 500, .inl 5, true)] 282 p2_s3170 = true := by decide +kernel
theorem p2_s3170_s {X : Int → Int} {LX : Nat} : ck_Ok p2_O X LX 347 p2_s3170 := ck_ok_s ⟨p2_nmu, ck_E1 (ck_S1 p2_s184_s ck_S0) (ck_E1 (ck_S1 p2_s3168_s ck_S0) (ck_E1 (ck_S1 p2_s3165_s ck_S0) ck_E0))⟩ ck_X0 ck_l0 p2_s3170_e
set_option maxRecDepth 100000 in
/-- GlacierMail.areReadings -/
def p2_s3171 : ck_Sum := ((0, 0, 0), 245, [.inr (.inr (.inl 1)), .inl (0, 400, [])], ([], [], []), ([], []), [(.inr (some (.inl (ck_one 0))), 245, ([], [], [])), (.inr (some (.inl (ck_one 1))), 245, ([], [], []))])
set_option maxRecDepth 100000 in
theorem p2_s3171_e : ck_ok p2_O none [] [] 198 [(10, [some (.inr (.inr (.inl 1))), some (.inl (0, 400, [])), some (.inl (0, 400, [])), none, none], ([], [], []), 100, .inl 2, true)] 302 p2_s3171 = true := by decide +kernel
theorem p2_s3171_s {X : Int → Int} {LX : Nat} : ck_Ok p2_O X LX 198 p2_s3171 := ck_ok_s ⟨p2_nmu, ck_E0⟩ ck_X0 ck_l0 p2_s3171_e
set_option maxRecDepth 100000 in
/-- GlacierMail.fitsReadings -/
def p2_s3176 : ck_Sum := ((1, 0, 0), 245, [.inr (.inr (.inl 1)), .inl (0, 5, []), .inl (0, 400, [])], ([], [], []), ([], []), [(.inr (some (.inl (ck_one 1))), 245, ([], [], [])), (.inr (some (.inl (ck_one 0))), 245, ([], [], []))])
set_option maxRecDepth 100000 in
theorem p2_s3176_e : ck_ok p2_O none [] [(10, [p2_s3136])] 199 [(2, [some (.inr (.inr (.inl 1))), some (.inl (0, 5, [])), some (.inl (0, 400, [])), some (.inl (0, 400, []))], ([], [], []), 100, .inl 3, true)] 214 p2_s3176 = true := by decide +kernel
theorem p2_s3176_s {X : Int → Int} {LX : Nat} : ck_Ok p2_O X LX 199 p2_s3176 := ck_ok_s ⟨p2_nmu, ck_E1 (ck_S1 p2_s3136_s ck_S0) ck_E0⟩ ck_X0 ck_l0 p2_s3176_e
set_option maxRecDepth 100000 in
/-- GlacierMail.fit -/
def p2_s3177 : ck_Sum := ((6, 1, 6), 245, [.inr (.inr (.inl 1))], ([], [], [(1, 1, 1, (0, 400, [(6, 0)]))]), ([(1, 1, 1)], []), [(.inl 0, 245, ([], [], [(1, 1, 1, ck_one 0)])), (.inr (some (.inl ((-2147483648), 2147483647, []))), 245, ([], [], [(1, 1, 1, ck_one 0)]))])
set_option maxRecDepth 100000 in
theorem p2_s3177_e : ck_ok p2_O none [] [(198, [p2_s3171]), (9, [p2_s3125]), (199, [p2_s3176])] 197 [(33, [some (.inr (.inr (.inl 1))), some (.inl (0, 400, [(6, 0)])), some (.inl ((-2147483648), 2147483647, [])), some (.inl (0, 6, []))], ([], [], [(1, 1, 1, ck_one 0)]), 100, .inl 3, true)] 170 p2_s3177 = true := by decide +kernel
theorem p2_s3177_s {X : Int → Int} {LX : Nat} : ck_Ok p2_O X LX 197 p2_s3177 := ck_ok_s ⟨p2_nmu, ck_E1 (ck_S1 p2_s3171_s ck_S0) (ck_E1 (ck_S1 p2_s3125_s ck_S0) (ck_E1 (ck_S1 p2_s3176_s ck_S0) ck_E0))⟩ ck_X0 ck_l0 p2_s3177_e
set_option maxRecDepth 100000 in
/-- GlacierMailModel.in -/
def p2_s3178 : ck_Sum := ((0, 0, 0), 245, [.inl ((-128), 127, []), .inl (ck_one 0), .inl (0, 5, [])], ([], [], []), ([], []), [(.inr (some (.inl (ck_one 0))), 245, ([], [], [])), (.inr (some (.inl (ck_one 1))), 245, ([], [], []))])
set_option maxRecDepth 100000 in
theorem p2_s3178_e : ck_ok p2_O none [] [] 286 [] 88 p2_s3178 = true := by decide +kernel
theorem p2_s3178_s {X : Int → Int} {LX : Nat} : ck_Ok p2_O X LX 286 p2_s3178 := ck_ok_s ⟨p2_nmu, ck_E0⟩ ck_X0 ck_l0 p2_s3178_e
set_option maxRecDepth 100000 in
/-- GlacierMailModel.noLane -/
def p2_s3179 : ck_Sum := ((1, 0, 0), 245, [.inr (.inr (.inl 226)), .inl ((-128), 127, [])], ([], [], []), ([], []), [(.inr (some (.inl (ck_one 1))), 245, ([], [], [])), (.inr (some (.inl (ck_one 0))), 245, ([], [], []))])
set_option maxRecDepth 100000 in
theorem p2_s3179_e : ck_ok p2_O none [] [(261, [p2_s184]), (286, [p2_s3178])] 288 [] 92 p2_s3179 = true := by decide +kernel
theorem p2_s3179_s {X : Int → Int} {LX : Nat} : ck_Ok p2_O X LX 288 p2_s3179 := ck_ok_s ⟨p2_nmu, ck_E1 (ck_S1 p2_s184_s ck_S0) (ck_E1 (ck_S1 p2_s3178_s ck_S0) ck_E0)⟩ ck_X0 ck_l0 p2_s3179_e
set_option maxRecDepth 100000 in
/-- GlacierMailModel.in -/
def p2_s3180 : ck_Sum := ((0, 0, 0), 245, [.inl ((-128), 127, []), .inl (ck_one 0), .inl (ck_one 20)], ([], [], []), ([], []), [(.inr (some (.inl (ck_one 0))), 245, ([], [], [])), (.inr (some (.inl (ck_one 1))), 245, ([], [], []))])
set_option maxRecDepth 100000 in
theorem p2_s3180_e : ck_ok p2_O none [] [] 286 [] 88 p2_s3180 = true := by decide +kernel
theorem p2_s3180_s {X : Int → Int} {LX : Nat} : ck_Ok p2_O X LX 286 p2_s3180 := ck_ok_s ⟨p2_nmu, ck_E0⟩ ck_X0 ck_l0 p2_s3180_e
set_option maxRecDepth 100000 in
/-- GlacierMailModel.ofTable -/
def p2_s3186 : ck_Sum := ((0, 0, 0), 245, [.inr (.inr (.inl 226)), .inl (0, 5, []), .inl ((-128), 127, [])], ([], [], []), ([], []), [(.inr (some (.inl ((-1), 299, []))), 245, ([], [], []))])
set_option maxRecDepth 100000 in
theorem p2_s3186_e : ck_ok p2_O none [] [] 343 [] 92 p2_s3186 = true := by decide +kernel
theorem p2_s3186_s {X : Int → Int} {LX : Nat} : ck_Ok p2_O X LX 343 p2_s3186 := ck_ok_s ⟨p2_nmu, ck_E0⟩ ck_X0 ck_l0 p2_s3186_e
set_option maxRecDepth 100000 in
/-- GlacierMail.soonest -/
def p2_s3188 : ck_Sum := ((8, 1, 6), 245, [.inr (.inr (.inl 1)), .inl ((-2147483648), (-1), []), .inl ((-2147483648), 2147483647, []), .inl (0, 1, [])], ([], [], []), ([], []), [(.inl 3, 245, ([], [], []))])
set_option maxRecDepth 100000 in
theorem p2_s3188_e : ck_ok p2_O none [] [(139, [p2_s350])] 201 [] 76 p2_s3188 = true := by decide +kernel
theorem p2_s3188_s {X : Int → Int} {LX : Nat} : ck_Ok p2_O X LX 201 p2_s3188 := ck_ok_s ⟨p2_nmu, ck_E1 (ck_S1 p2_s350_s ck_S0) ck_E0⟩ ck_X0 ck_l0 p2_s3188_e
set_option maxRecDepth 100000 in
/-- GlacierMail.soonest -/
def p2_s3189 : ck_Sum := ((8, 1, 6), 245, [.inr (.inr (.inl 1)), .inl (8, 2147483647, []), .inl ((-2147483648), 2147483647, []), .inl (0, 1, [])], ([], [], []), ([], []), [(.inl 3, 245, ([], [], []))])
set_option maxRecDepth 100000 in
theorem p2_s3189_e : ck_ok p2_O none [] [(139, [p2_s353])] 201 [] 76 p2_s3189 = true := by decide +kernel
theorem p2_s3189_s {X : Int → Int} {LX : Nat} : ck_Ok p2_O X LX 201 p2_s3189 := ck_ok_s ⟨p2_nmu, ck_E1 (ck_S1 p2_s353_s ck_S0) ck_E0⟩ ck_X0 ck_l0 p2_s3189_e
set_option maxRecDepth 100000 in
/-- GlacierMail.soonest -/
def p2_s3190 : ck_Sum := ((8, 2, 12), 245, [.inr (.inr (.inl 1)), .inl (0, 7, []), .inl ((-2147483648), (-1), []), .inl (0, 1, [])], ([], [], []), ([], []), [(.inl 3, 245, ([], [], []))])
set_option maxRecDepth 100000 in
theorem p2_s3190_e : ck_ok p2_O none [] [(139, [p2_s356, p2_s350])] 201 [] 82 p2_s3190 = true := by decide +kernel
theorem p2_s3190_s {X : Int → Int} {LX : Nat} : ck_Ok p2_O X LX 201 p2_s3190 := ck_ok_s ⟨p2_nmu, ck_E1 (ck_S1 p2_s356_s (ck_S1 p2_s350_s ck_S0)) ck_E0⟩ ck_X0 ck_l0 p2_s3190_e
set_option maxRecDepth 100000 in
/-- GlacierMail.soonest -/
def p2_s3191 : ck_Sum := ((8, 2, 12), 245, [.inr (.inr (.inl 1)), .inl (0, 7, []), .inl (8, 2147483647, []), .inl (0, 1, [])], ([], [], []), ([], []), [(.inl 3, 245, ([], [], []))])
set_option maxRecDepth 100000 in
theorem p2_s3191_e : ck_ok p2_O none [] [(139, [p2_s356, p2_s353])] 201 [] 82 p2_s3191 = true := by decide +kernel
theorem p2_s3191_s {X : Int → Int} {LX : Nat} : ck_Ok p2_O X LX 201 p2_s3191 := ck_ok_s ⟨p2_nmu, ck_E1 (ck_S1 p2_s356_s (ck_S1 p2_s353_s ck_S0)) ck_E0⟩ ck_X0 ck_l0 p2_s3191_e
set_option maxRecDepth 100000 in
/-- java/util/Arrays.fill -/
def p2_s3192 : ck_Sum := ((0, 0, 0), 245, [.inr (.inr (.inl 210)), .inl (ck_one 0)], ([], [], []), ([(210, 0, 2399)], []), [(.inr none, 245, ([], [], []))])
set_option maxRecDepth 100000 in
theorem p2_s3192_e : ck_ok p2_O none [] [] 8 [(5, [some (.inr (.inr (.inl 210))), some (.inl (ck_one 0)), some (.inl (0, 2400, [])), some (.inl (ck_one 2400))], ([], [], []), 100, .inl 2, true)] 130 p2_s3192 = true := by decide +kernel
theorem p2_s3192_s {X : Int → Int} {LX : Nat} : ck_Ok p2_O X LX 8 p2_s3192 := ck_ok_s ⟨p2_nmu, ck_E0⟩ ck_X0 ck_l0 p2_s3192_e
set_option maxRecDepth 100000 in
/-- GlacierMail$Rows.reset -/
def p2_s3193 : ck_Sum := ((1, 0, 0), 245, [.inr (.inr (.inl 209)), .inl (0, 8, [])], ([], [], []), ([(209, 3, 3), (210, 0, 2399)], []), [(.inr none, 245, ([], [], []))])
set_option maxRecDepth 100000 in
theorem p2_s3193_e : ck_ok p2_O none [] [(8, [p2_s3192])] 25 [] 96 p2_s3193 = true := by decide +kernel
theorem p2_s3193_s {X : Int → Int} {LX : Nat} : ck_Ok p2_O X LX 25 p2_s3193 := ck_ok_s ⟨p2_nmu, ck_E1 (ck_S1 p2_s3192_s ck_S0) ck_E0⟩ ck_X0 ck_l0 p2_s3193_e
set_option maxRecDepth 100000 in
/-- java/util/Arrays.fill -/
def p2_s3194 : ck_Sum := ((0, 0, 0), 245, [.inr (.inr (.inl 212)), .inl (ck_one 0)], ([], [], []), ([(212, 0, 2399)], []), [(.inr none, 245, ([], [], []))])
set_option maxRecDepth 100000 in
theorem p2_s3194_e : ck_ok p2_O none [] [] 8 [(5, [some (.inr (.inr (.inl 212))), some (.inl (ck_one 0)), some (.inl (0, 2400, [])), some (.inl (ck_one 2400))], ([], [], []), 100, .inl 2, true)] 130 p2_s3194 = true := by decide +kernel
theorem p2_s3194_s {X : Int → Int} {LX : Nat} : ck_Ok p2_O X LX 8 p2_s3194 := ck_ok_s ⟨p2_nmu, ck_E0⟩ ck_X0 ck_l0 p2_s3194_e
set_option maxRecDepth 100000 in
/-- GlacierMail$Rows.reset -/
def p2_s3195 : ck_Sum := ((1, 0, 0), 245, [.inr (.inr (.inl 211)), .inl (0, 8, [])], ([], [], []), ([(211, 3, 3), (212, 0, 2399)], []), [(.inr none, 245, ([], [], []))])
set_option maxRecDepth 100000 in
theorem p2_s3195_e : ck_ok p2_O none [] [(8, [p2_s3194])] 25 [] 96 p2_s3195 = true := by decide +kernel
theorem p2_s3195_s {X : Int → Int} {LX : Nat} : ck_Ok p2_O X LX 25 p2_s3195 := ck_ok_s ⟨p2_nmu, ck_E1 (ck_S1 p2_s3194_s ck_S0) ck_E0⟩ ck_X0 ck_l0 p2_s3195_e
set_option maxRecDepth 100000 in
/-- GlacierMail$Rows.get -/
def p2_s3197 : ck_Sum := ((0, 0, 0), 245, [.inr (.inr (.inl 209)), .inl ((-2147483648), 2147483647, []), .inl ((-2147483648), 2147483647, [])], ([], [], []), ([], []), [(.inr (some (.inl ((-2147483648), 2147483647, []))), 245, ([], [], []))])
set_option maxRecDepth 100000 in
theorem p2_s3197_e : ck_ok p2_O none [] [] 10 [] 114 p2_s3197 = true := by decide +kernel
theorem p2_s3197_s {X : Int → Int} {LX : Nat} : ck_Ok p2_O X LX 10 p2_s3197 := ck_ok_s ⟨p2_nmu, ck_E0⟩ ck_X0 ck_l0 p2_s3197_e
set_option maxRecDepth 100000 in
/-- GlacierMail$Rows.put -/
def p2_s3196 : ck_Sum := ((0, 0, 0), 245, [.inr (.inr (.inl 211)), .inl (0, 7, []), .inl (0, 299, []), .inl ((-2147483648), 299, [])], ([], [], []), ([(212, 0, 2399)], []), [(.inr none, 245, ([], [], []))])
set_option maxRecDepth 100000 in
theorem p2_s3196_e : ck_ok p2_O none [] [] 45 [] 116 p2_s3196 = true := by decide +kernel
theorem p2_s3196_s {X : Int → Int} {LX : Nat} : ck_Ok p2_O X LX 45 p2_s3196 := ck_ok_s ⟨p2_nmu, ck_E0⟩ ck_X0 ck_l0 p2_s3196_e
set_option maxRecDepth 100000 in
/-- GlacierMail$Rows.put -/
def p2_s3205 : ck_Sum := ((0, 0, 0), 245, [.inr (.inr (.inl 209)), .inl (0, 7, []), .inl ((-2147483648), 299, []), .inl (ck_one 1)], ([], [], []), ([(210, 0, 2399)], []), [(.inr none, 245, ([], [], []))])
set_option maxRecDepth 100000 in
theorem p2_s3205_e : ck_ok p2_O none [] [] 45 [] 116 p2_s3205 = true := by decide +kernel
theorem p2_s3205_s {X : Int → Int} {LX : Nat} : ck_Ok p2_O X LX 45 p2_s3205 := ck_ok_s ⟨p2_nmu, ck_E0⟩ ck_X0 ck_l0 p2_s3205_e
set_option maxRecDepth 100000 in
/-- GlacierMail$Answers.throwAgain -/
def p2_s3206 : ck_Sum := ((4, 0, 0), 245, [.inr (.inr (.inl 208)), .inl (0, 7, []), .inl (0, 299, []), .inl (ck_one 1), .inl (ck_one 299)], ([], [(3, 8, 0)], []), ([(206, 2, 8), (210, 0, 2399), (212, 0, 2399)], []), [(.inr none, 245, ([], [], [(206, 4, 4, ck_one (-1))]))])
set_option maxRecDepth 100000 in
theorem p2_s3206_e : ck_ok p2_O none [] [(10, [p2_s438, p2_s3197]), (170, [p2_s1133]), (30, [p2_s374]), (45, [p2_s3196, p2_s3205]), (9, [p2_s348])] 203 [(59, [some (.inr (.inr (.inl 208))), some (.inl (0, 7, [])), some (.inl (0, 299, [])), some (.inl (ck_one 1)), some (.inl (ck_one 299)), some (.inr (.inr (.inl 8))), some (.inl ((-1), 98, [])), some (.inl ((-2147483648), 299, [])), some (.inl (0, 8, [])), none], ([], [(3, 8, 0)], [(206, 4, 4, ck_one (-1))]), 100, .inl 8, true)] 214 p2_s3206 = true := by decide +kernel
theorem p2_s3206_s {X : Int → Int} {LX : Nat} : ck_Ok p2_O X LX 203 p2_s3206 := ck_ok_s ⟨p2_nmu, ck_E1 (ck_S1 p2_s438_s (ck_S1 p2_s3197_s ck_S0)) (ck_E1 (ck_S1 p2_s1133_s ck_S0) (ck_E1 (ck_S1 p2_s374_s ck_S0) (ck_E1 (ck_S1 p2_s3196_s (ck_S1 p2_s3205_s ck_S0)) (ck_E1 (ck_S1 p2_s348_s ck_S0) ck_E0))))⟩ ck_X0 ck_l0 p2_s3206_e
set_option maxRecDepth 100000 in
/-- GlacierMail$Rows.put -/
def p2_s3227 : ck_Sum := ((0, 0, 0), 245, [.inr (.inr (.inl 211)), .inl (0, 7, []), .inl (2, 299, []), .inl ((-2147483648), 299, [])], ([], [], []), ([(212, 2, 299), (212, 302, 599), (212, 602, 899), (212, 902, 1199), (212, 1202, 1499), (212, 1502, 1799), (212, 1802, 2099), (212, 2102, 2399)], []), [(.inr none, 245, ([], [], []))])
set_option maxRecDepth 100000 in
theorem p2_s3227_e : ck_ok p2_O none [] [] 45 [] 116 p2_s3227 = true := by decide +kernel
theorem p2_s3227_s {X : Int → Int} {LX : Nat} : ck_Ok p2_O X LX 45 p2_s3227 := ck_ok_s ⟨p2_nmu, ck_E0⟩ ck_X0 ck_l0 p2_s3227_e
set_option maxRecDepth 100000 in
/-- GlacierMail$Rows.put -/
def p2_s3215 : ck_Sum := ((0, 0, 0), 245, [.inr (.inr (.inl 209)), .inl (0, 7, []), .inl ((-2147483648), 299, []), .inl ((-2147483648), 2147483647, [])], ([], [], []), ([(210, 0, 2399)], []), [(.inr none, 245, ([], [], []))])
set_option maxRecDepth 100000 in
theorem p2_s3215_e : ck_ok p2_O none [] [] 45 [] 116 p2_s3215 = true := by decide +kernel
theorem p2_s3215_s {X : Int → Int} {LX : Nat} : ck_Ok p2_O X LX 45 p2_s3215 := ck_ok_s ⟨p2_nmu, ck_E0⟩ ck_X0 ck_l0 p2_s3215_e
set_option maxRecDepth 100000 in
/-- GlacierMail$Answers.throwAgain -/
def p2_s3228 : ck_Sum := ((4, 0, 0), 245, [.inr (.inr (.inl 208)), .inl (0, 7, []), .inl (2, 299, []), .inl ((-2147483648), 2147483647, []), .inl (ck_one 299)], ([], [(3, 8, 0)], []), ([(206, 2, 8), (210, 0, 2399), (212, 2, 299), (212, 302, 599), (212, 602, 899), (212, 902, 1199), (212, 1202, 1499), (212, 1502, 1799), (212, 1802, 2099), (212, 2102, 2399)], []), [(.inr none, 245, ([], [], [(206, 4, 4, ck_one (-1))]))])
set_option maxRecDepth 100000 in
theorem p2_s3228_e : ck_ok p2_O none [] [(10, [p2_s438, p2_s3197]), (170, [p2_s1133]), (30, [p2_s374]), (45, [p2_s3227, p2_s3215]), (9, [p2_s348])] 203 [(59, [some (.inr (.inr (.inl 208))), some (.inl (0, 7, [])), some (.inl (2, 299, [])), some (.inl ((-2147483648), 2147483647, [])), some (.inl (ck_one 299)), some (.inr (.inr (.inl 8))), some (.inl ((-1), 98, [])), some (.inl ((-2147483648), 299, [])), some (.inl (0, 8, [])), none], ([], [(3, 8, 0)], [(206, 4, 4, ck_one (-1))]), 100, .inl 8, true)] 214 p2_s3228 = true := by decide +kernel
theorem p2_s3228_s {X : Int → Int} {LX : Nat} : ck_Ok p2_O X LX 203 p2_s3228 := ck_ok_s ⟨p2_nmu, ck_E1 (ck_S1 p2_s438_s (ck_S1 p2_s3197_s ck_S0)) (ck_E1 (ck_S1 p2_s1133_s ck_S0) (ck_E1 (ck_S1 p2_s374_s ck_S0) (ck_E1 (ck_S1 p2_s3227_s (ck_S1 p2_s3215_s ck_S0)) (ck_E1 (ck_S1 p2_s348_s ck_S0) ck_E0))))⟩ ck_X0 ck_l0 p2_s3228_e
set_option maxRecDepth 100000 in
/-- GlacierMail$Answers.spread -/
def p2_s3229 : ck_Sum := ((5, 0, 0), 245, [.inr (.inr (.inl 208)), .inl (0, 7, []), .inl (0, 7, []), .inl (ck_one 299)], ([], [(3, 8, 0)], [(3, 6, 6, (0, 299, [(10, 0)]))]), ([(206, 2, 8), (209, 3, 3), (210, 0, 2399), (211, 3, 3), (212, 0, 2399)], []), [(.inr none, 245, ([], [], [(206, 4, 4, ck_one (-1))]))])
set_option maxRecDepth 100000 in
theorem p2_s3229_e : ck_ok p2_O none [] [(9, [p2_s348]), (25, [p2_s3193, p2_s3195]), (203, [p2_s3206, p2_s3228]), (10, [p2_s3197])] 202 [(59, [some (.inr (.inr (.inl 208))), some (.inl (0, 7, [])), some (.inl (0, 7, [])), some (.inl (ck_one 299)), some (.inl (1, 300, [(1000010, 1)])), none, none], ([], [(3, 8, 0)], [(206, 4, 4, ck_one (-1)), (3, 6, 6, (0, 299, [(10, 0)]))]), 100, .inl 4, true), (82, [some (.inr (.inr (.inl 208))), some (.inl (0, 7, [])), some (.inl (0, 7, [])), some (.inl (ck_one 299)), some (.inl (1, 298, [(100, 0), (1000010, 1)])), some (.inl (0, 8, [])), none], ([], [(3, 8, 0)], [(206, 4, 4, ck_one (-1)), (3, 6, 6, (0, 299, [(10, 0)]))]), 300, .inl 5, true)] 284 p2_s3229 = true := by decide +kernel
theorem p2_s3229_s {X : Int → Int} {LX : Nat} : ck_Ok p2_O X LX 202 p2_s3229 := ck_ok_s ⟨p2_nmu, ck_E1 (ck_S1 p2_s348_s ck_S0) (ck_E1 (ck_S1 p2_s3193_s (ck_S1 p2_s3195_s ck_S0)) (ck_E1 (ck_S1 p2_s3206_s (ck_S1 p2_s3228_s ck_S0)) (ck_E1 (ck_S1 p2_s3197_s ck_S0) ck_E0)))⟩ ck_X0 ck_l0 p2_s3229_e
set_option maxRecDepth 100000 in
/-- GlacierMail$Answers.firstYear -/
def p2_s3230 : ck_Sum := ((1, 0, 0), 245, [.inr (.inr (.inl 208)), .inl (0, 7, [])], ([], [], []), ([], []), [(.inr (some (.inl (ck_one (-1)))), 245, ([], [], [])), (.inr (some (.inl (0, 299, []))), 245, ([], [], []))])
set_option maxRecDepth 100000 in
theorem p2_s3230_e : ck_ok p2_O none [] [(10, [p2_s3197])] 204 [(2, [some (.inr (.inr (.inl 208))), some (.inl (0, 7, [])), some (.inl (0, 300, []))], ([], [], []), 100, .inl 2, true)] 138 p2_s3230 = true := by decide +kernel
theorem p2_s3230_s {X : Int → Int} {LX : Nat} : ck_Ok p2_O X LX 204 p2_s3230 := ck_ok_s ⟨p2_nmu, ck_E1 (ck_S1 p2_s3197_s ck_S0) ck_E0⟩ ck_X0 ck_l0 p2_s3230_e
set_option maxRecDepth 100000 in
/-- GlacierMail$Answers.fewestThrows -/
def p2_s3231 : ck_Sum := ((1, 0, 0), 245, [.inr (.inr (.inl 208)), .inl (0, 7, []), .inl (0, 299, [])], ([], [], []), ([], []), [(.inr (some (.inl ((-2147483648), 2147483647, []))), 245, ([], [], []))])
set_option maxRecDepth 100000 in
theorem p2_s3231_e : ck_ok p2_O none [] [(10, [p2_s3197])] 205 [] 82 p2_s3231 = true := by decide +kernel
theorem p2_s3231_s {X : Int → Int} {LX : Nat} : ck_Ok p2_O X LX 205 p2_s3231 := ck_ok_s ⟨p2_nmu, ck_E1 (ck_S1 p2_s3197_s ck_S0) ck_E0⟩ ck_X0 ck_l0 p2_s3231_e
set_option maxRecDepth 100000 in
/-- GlacierMail.soonest -/
def p2_s3232 : ck_Sum := ((8, 3, 18), 245, [.inr (.inr (.inl 1)), .inl (0, 7, []), .inl (0, 7, []), .inl (0, 1, [])], ([], [(3, 8, 0)], [(3, 6, 6, (0, 299, [(10, 0)]))]), ([(206, 2, 8), (209, 3, 3), (210, 0, 2399), (211, 3, 3), (212, 0, 2399)], []), [(.inl 3, 245, ([], [], [])), (.inl 0, 245, ([], [], [])), (.inr (some (.inl ((-2147483648), 2147483647, []))), 245, ([], [], [(206, 4, 4, ck_one (-1))])), (.inr (some (.inl (0, 299, []))), 245, ([], [], [(206, 4, 4, ck_one (-1))]))])
set_option maxRecDepth 100000 in
theorem p2_s3232_e : ck_ok p2_O none [] [(139, [p2_s356]), (153, [p2_s654]), (202, [p2_s3229]), (204, [p2_s3230]), (205, [p2_s3231])] 201 [] 136 p2_s3232 = true := by decide +kernel
theorem p2_s3232_s {X : Int → Int} {LX : Nat} : ck_Ok p2_O X LX 201 p2_s3232 := ck_ok_s ⟨p2_nmu, ck_E1 (ck_S1 p2_s356_s ck_S0) (ck_E1 (ck_S1 p2_s654_s ck_S0) (ck_E1 (ck_S1 p2_s3229_s ck_S0) (ck_E1 (ck_S1 p2_s3230_s ck_S0) (ck_E1 (ck_S1 p2_s3231_s ck_S0) ck_E0))))⟩ ck_X0 ck_l0 p2_s3232_e
set_option maxRecDepth 100000 in
/-- GlacierMailModel.soonest -/
def p2_s3233 : ck_Sum := ((2, 0, 0), 245, [.inr (.inr (.inl 226)), .inl ((-2147483648), (-1), []), .inl ((-2147483648), 2147483647, []), .inl (0, 1, [])], ([], [], [(227, 3, 3, (0, 8, [(21, 0)]))]), ([(226, 0, 0)], []), [(.inr (some (.inl (ck_one 0))), 245, ([], [], [(226, 0, 0, ck_one 1)]))])
set_option maxRecDepth 100000 in
theorem p2_s3233_e : ck_ok p2_O none [] [(298, [p2_s441]), (282, [p2_s268])] 349 [] 100 p2_s3233 = true := by decide +kernel
theorem p2_s3233_s {X : Int → Int} {LX : Nat} : ck_Ok p2_O X LX 349 p2_s3233 := ck_ok_s ⟨p2_nmu, ck_E1 (ck_S1 p2_s441_s ck_S0) (ck_E1 (ck_S1 p2_s268_s ck_S0) ck_E0)⟩ ck_X0 ck_l0 p2_s3233_e
set_option maxRecDepth 100000 in
/-- GlacierMailModel.soonest -/
def p2_s3234 : ck_Sum := ((2, 0, 0), 245, [.inr (.inr (.inl 226)), .inl (8, 2147483647, []), .inl ((-2147483648), 2147483647, []), .inl (0, 1, [])], ([], [], [(227, 3, 3, (0, 8, [(21, 0)]))]), ([(226, 0, 0)], []), [(.inr (some (.inl (ck_one 0))), 245, ([], [], [(226, 0, 0, ck_one 1)]))])
set_option maxRecDepth 100000 in
theorem p2_s3234_e : ck_ok p2_O none [] [(298, [p2_s444]), (282, [p2_s268])] 349 [] 100 p2_s3234 = true := by decide +kernel
theorem p2_s3234_s {X : Int → Int} {LX : Nat} : ck_Ok p2_O X LX 349 p2_s3234 := ck_ok_s ⟨p2_nmu, ck_E1 (ck_S1 p2_s444_s ck_S0) (ck_E1 (ck_S1 p2_s268_s ck_S0) ck_E0)⟩ ck_X0 ck_l0 p2_s3234_e
set_option maxRecDepth 100000 in
/-- GlacierMailModel.soonest -/
def p2_s3235 : ck_Sum := ((2, 0, 0), 245, [.inr (.inr (.inl 226)), .inl (0, 7, []), .inl ((-2147483648), (-1), []), .inl (0, 1, [])], ([], [], [(227, 3, 3, (0, 8, [(21, 0)]))]), ([(226, 0, 0)], []), [(.inr (some (.inl (ck_one 0))), 245, ([], [], [(226, 0, 0, ck_one 1)]))])
set_option maxRecDepth 100000 in
theorem p2_s3235_e : ck_ok p2_O none [] [(298, [p2_s447, p2_s441]), (282, [p2_s268])] 349 [] 108 p2_s3235 = true := by decide +kernel
theorem p2_s3235_s {X : Int → Int} {LX : Nat} : ck_Ok p2_O X LX 349 p2_s3235 := ck_ok_s ⟨p2_nmu, ck_E1 (ck_S1 p2_s447_s (ck_S1 p2_s441_s ck_S0)) (ck_E1 (ck_S1 p2_s268_s ck_S0) ck_E0)⟩ ck_X0 ck_l0 p2_s3235_e
set_option maxRecDepth 100000 in
/-- GlacierMailModel.soonest -/
def p2_s3236 : ck_Sum := ((2, 0, 0), 245, [.inr (.inr (.inl 226)), .inl (0, 7, []), .inl (8, 2147483647, []), .inl (0, 1, [])], ([], [], [(227, 3, 3, (0, 8, [(21, 0)]))]), ([(226, 0, 0)], []), [(.inr (some (.inl (ck_one 0))), 245, ([], [], [(226, 0, 0, ck_one 1)]))])
set_option maxRecDepth 100000 in
theorem p2_s3236_e : ck_ok p2_O none [] [(298, [p2_s447, p2_s444]), (282, [p2_s268])] 349 [] 108 p2_s3236 = true := by decide +kernel
theorem p2_s3236_s {X : Int → Int} {LX : Nat} : ck_Ok p2_O X LX 349 p2_s3236 := ck_ok_s ⟨p2_nmu, ck_E1 (ck_S1 p2_s447_s (ck_S1 p2_s444_s ck_S0)) (ck_E1 (ck_S1 p2_s268_s ck_S0) ck_E0)⟩ ck_X0 ck_l0 p2_s3236_e
set_option maxRecDepth 100000 in
/-- GlacierMailModel.at -/
def p2_s3237 : ck_Sum := ((0, 0, 0), 245, [.inl (0, 7, []), .inl (0, 300, [])], ([], [], []), ([], []), [(.inr (some (.inl (0, 2407, []))), 245, ([], [], []))])
set_option maxRecDepth 100000 in
theorem p2_s3237_e : ck_ok p2_O none [] [] 351 [] 82 p2_s3237 = true := by decide +kernel
theorem p2_s3237_s {X : Int → Int} {LX : Nat} : ck_Ok p2_O X LX 351 p2_s3237 := ck_ok_s ⟨p2_nmu, ck_E0⟩ ck_X0 ck_l0 p2_s3237_e
set_option maxRecDepth 100000 in
/-- GlacierMailModel.isWatching -/
def p2_s3238 : ck_Sum := ((1, 0, 0), 245, [.inr (.inr (.inl 226)), .inl (0, 7, []), .inl (0, 7, [])], ([], [], []), ([], []), [(.inr (some (.inl (ck_one 0))), 245, ([], [], [])), (.inr (some (.inl (ck_one 1))), 245, ([], [], []))])
set_option maxRecDepth 100000 in
theorem p2_s3238_e : ck_ok p2_O none [] [(299, [p2_s784, p2_s765])] 352 [] 94 p2_s3238 = true := by decide +kernel
theorem p2_s3238_s {X : Int → Int} {LX : Nat} : ck_Ok p2_O X LX 352 p2_s3238 := ck_ok_s ⟨p2_nmu, ck_E1 (ck_S1 p2_s784_s (ck_S1 p2_s765_s ck_S0)) ck_E0⟩ ck_X0 ck_l0 p2_s3238_e
set_option maxRecDepth 100000 in
/-- GlacierMailModel.hasIn -/
def p2_s3240 : ck_Sum := ((1, 0, 0), 245, [.inr (.inr (.inl 226)), .inl (0, 7, [])], ([], [], []), ([], []), [(.inr (some (.inl (ck_one (-1)))), 245, ([], [], [])), (.inr (some (.inl (0, 299, []))), 245, ([], [], []))])
set_option maxRecDepth 100000 in
theorem p2_s3240_e : ck_ok p2_O none [] [(351, [p2_s3237])] 353 [(2, [some (.inr (.inr (.inl 226))), some (.inl (0, 7, [])), some (.inl (0, 300, []))], ([], [], []), 100, .inl 2, true)] 146 p2_s3240 = true := by decide +kernel
theorem p2_s3240_s {X : Int → Int} {LX : Nat} : ck_Ok p2_O X LX 353 p2_s3240 := ck_ok_s ⟨p2_nmu, ck_E1 (ck_S1 p2_s3237_s ck_S0) ck_E0⟩ ck_X0 ck_l0 p2_s3240_e
set_option maxRecDepth 100000 in
/-- GlacierMail.chain -/
def p2_s3242 : ck_Sum := ((8, 1, 6), 245, [.inr (.inr (.inl 1)), .inl ((-2147483648), (-1), []), .inl ((-2147483648), 2147483647, []), .inl ((-2147483648), 2147483647, [])], ([], [], []), ([], []), [(.inl 3, 245, ([], [], []))])
set_option maxRecDepth 100000 in
theorem p2_s3242_e : ck_ok p2_O none [] [(139, [p2_s350])] 207 [] 76 p2_s3242 = true := by decide +kernel
theorem p2_s3242_s {X : Int → Int} {LX : Nat} : ck_Ok p2_O X LX 207 p2_s3242 := ck_ok_s ⟨p2_nmu, ck_E1 (ck_S1 p2_s350_s ck_S0) ck_E0⟩ ck_X0 ck_l0 p2_s3242_e
set_option maxRecDepth 100000 in
/-- GlacierMail.chain -/
def p2_s3243 : ck_Sum := ((8, 1, 6), 245, [.inr (.inr (.inl 1)), .inl (8, 2147483647, []), .inl ((-2147483648), 2147483647, []), .inl ((-2147483648), 2147483647, [])], ([], [], []), ([], []), [(.inl 3, 245, ([], [], []))])
set_option maxRecDepth 100000 in
theorem p2_s3243_e : ck_ok p2_O none [] [(139, [p2_s353])] 207 [] 76 p2_s3243 = true := by decide +kernel
theorem p2_s3243_s {X : Int → Int} {LX : Nat} : ck_Ok p2_O X LX 207 p2_s3243 := ck_ok_s ⟨p2_nmu, ck_E1 (ck_S1 p2_s353_s ck_S0) ck_E0⟩ ck_X0 ck_l0 p2_s3243_e
set_option maxRecDepth 100000 in
/-- GlacierMail.chain -/
def p2_s3244 : ck_Sum := ((8, 2, 12), 245, [.inr (.inr (.inl 1)), .inl (0, 7, []), .inl ((-2147483648), (-1), []), .inl ((-2147483648), 2147483647, [])], ([], [], []), ([], []), [(.inl 3, 245, ([], [], []))])
set_option maxRecDepth 100000 in
theorem p2_s3244_e : ck_ok p2_O none [] [(139, [p2_s356, p2_s350])] 207 [] 82 p2_s3244 = true := by decide +kernel
theorem p2_s3244_s {X : Int → Int} {LX : Nat} : ck_Ok p2_O X LX 207 p2_s3244 := ck_ok_s ⟨p2_nmu, ck_E1 (ck_S1 p2_s356_s (ck_S1 p2_s350_s ck_S0)) ck_E0⟩ ck_X0 ck_l0 p2_s3244_e
set_option maxRecDepth 100000 in
/-- GlacierMail.chain -/
def p2_s3245 : ck_Sum := ((8, 2, 12), 245, [.inr (.inr (.inl 1)), .inl (0, 7, []), .inl (8, 2147483647, []), .inl ((-2147483648), 2147483647, [])], ([], [], []), ([], []), [(.inl 3, 245, ([], [], []))])
set_option maxRecDepth 100000 in
theorem p2_s3245_e : ck_ok p2_O none [] [(139, [p2_s356, p2_s353])] 207 [] 82 p2_s3245 = true := by decide +kernel
theorem p2_s3245_s {X : Int → Int} {LX : Nat} : ck_Ok p2_O X LX 207 p2_s3245 := ck_ok_s ⟨p2_nmu, ck_E1 (ck_S1 p2_s356_s (ck_S1 p2_s353_s ck_S0)) ck_E0⟩ ck_X0 ck_l0 p2_s3245_e
set_option maxRecDepth 100000 in
/-- GlacierMail$Rows.get -/
def p2_s3246 : ck_Sum := ((0, 0, 0), 245, [.inr (.inr (.inl 211)), .inl ((-2147483648), 2147483647, []), .inl ((-2147483648), 2147483647, [])], ([], [], []), ([], []), [(.inr (some (.inl ((-2147483648), 299, []))), 245, ([], [], []))])
set_option maxRecDepth 100000 in
theorem p2_s3246_e : ck_ok p2_O none [] [] 10 [] 114 p2_s3246 = true := by decide +kernel
theorem p2_s3246_s {X : Int → Int} {LX : Nat} : ck_Ok p2_O X LX 10 p2_s3246 := ck_ok_s ⟨p2_nmu, ck_E0⟩ ck_X0 ck_l0 p2_s3246_e
set_option maxRecDepth 100000 in
/-- GlacierMail$Answers.throwAhead -/
def p2_s3248 : ck_Sum := ((1, 0, 0), 245, [.inr (.inr (.inl 208)), .inl (0, 2398, []), .inl (0, 299, []), .inl (1, 2147483646, [])], ([], [], [(3, 6, 6, (0, 299, [(10, 0)]))]), ([], []), [(.inr (some (.inl (0, 2398, []))), 245, ([], [], []))])
set_option maxRecDepth 100000 in
theorem p2_s3248_e : ck_ok p2_O none [] [(10, [p2_s438, p2_s3197, p2_s3246]), (9, [p2_s348])] 209 [(17, [some (.inr (.inr (.inl 208))), some (.inl (0, 2398, [])), some (.inl (0, 299, [])), some (.inl (1, 2147483646, [])), some (.inl ((-1), 98, [])), some (.inl (0, 9, [])), none], ([], [], [(3, 6, 6, (0, 299, [(10, 0)]))]), 100, .inl 5, true), (59, [some (.inr (.inr (.inl 208))), some (.inl (0, 2398, [])), some (.inl (0, 299, [])), some (.inl (1, 2147483646, [])), some (.inl ((-1), 98, [])), some (.inl (0, 7, [(100, 0)])), some (.inl (0, 299, [(1000010, 0)]))], ([], [], [(3, 6, 6, (0, 299, [(10, 0)]))]), 300, .inl 6, true)] 260 p2_s3248 = true := by decide +kernel
theorem p2_s3248_s {X : Int → Int} {LX : Nat} : ck_Ok p2_O X LX 209 p2_s3248 := ck_ok_s ⟨p2_nmu, ck_E1 (ck_S1 p2_s438_s (ck_S1 p2_s3197_s (ck_S1 p2_s3246_s ck_S0))) (ck_E1 (ck_S1 p2_s348_s ck_S0) ck_E0)⟩ ck_X0 ck_l0 p2_s3248_e
set_option maxRecDepth 100000 in
/-- GlacierMail$Answers.holder -/
def p2_s3249 : ck_Sum := ((2, 0, 0), 245, [.inr (.inr (.inl 208)), .inl (0, 7, []), .inl (0, 7, []), .inl (ck_one 0)], ([], [], [(3, 6, 6, (0, 299, [(10, 0)]))]), ([], []), [(.inr (some (.inl (ck_one (-1)))), 245, ([], [], [])), (.inr (some (.inl (0, 7, []))), 245, ([], [], []))])
set_option maxRecDepth 100000 in
theorem p2_s3249_e : ck_ok p2_O none [] [(204, [p2_s3230]), (10, [p2_s3197]), (209, [p2_s3248])] 208 [(44, [some (.inr (.inr (.inl 208))), some (.inl (0, 7, [])), some (.inl (0, 7, [])), some (.inl (ck_one 0)), some (.inl (0, 299, [])), some (.inl (0, 2398, [])), some (.inl (0, 2147483647, [])), some (.inl (0, 2147483647, [])), none], ([], [], [(3, 6, 6, (0, 299, [(10, 0)]))]), 100, .inl 7, false)] 190 p2_s3249 = true := by decide +kernel
theorem p2_s3249_s {X : Int → Int} {LX : Nat} : ck_Ok p2_O X LX 208 p2_s3249 := ck_ok_s ⟨p2_nmu, ck_E1 (ck_S1 p2_s3230_s ck_S0) (ck_E1 (ck_S1 p2_s3197_s ck_S0) (ck_E1 (ck_S1 p2_s3248_s ck_S0) ck_E0))⟩ ck_X0 ck_l0 p2_s3249_e
set_option maxRecDepth 100000 in
/-- GlacierMail.chain -/
def p2_s3250 : ck_Sum := ((8, 4, 24), 245, [.inr (.inr (.inl 1)), .inl (0, 7, []), .inl (0, 7, []), .inl ((-2147483648), 0, [])], ([], [(3, 8, 0)], [(3, 6, 6, (0, 299, [(10, 0)]))]), ([(206, 2, 8), (209, 3, 3), (210, 0, 2399), (211, 3, 3), (212, 0, 2399)], []), [(.inl 3, 245, ([], [], [])), (.inl 0, 245, ([], [], [])), (.inr (some (.inl (ck_one (-1)))), 245, ([], [], [(206, 4, 4, ck_one (-1))])), (.inr (some (.inl (0, 7, []))), 245, ([], [], [(206, 4, 4, ck_one (-1))]))])
set_option maxRecDepth 100000 in
theorem p2_s3250_e : ck_ok p2_O none [] [(139, [p2_s356]), (153, [p2_s654]), (202, [p2_s3229]), (208, [p2_s3249])] 207 [] 120 p2_s3250 = true := by decide +kernel
theorem p2_s3250_s {X : Int → Int} {LX : Nat} : ck_Ok p2_O X LX 207 p2_s3250 := ck_ok_s ⟨p2_nmu, ck_E1 (ck_S1 p2_s356_s ck_S0) (ck_E1 (ck_S1 p2_s654_s ck_S0) (ck_E1 (ck_S1 p2_s3229_s ck_S0) (ck_E1 (ck_S1 p2_s3249_s ck_S0) ck_E0)))⟩ ck_X0 ck_l0 p2_s3250_e
set_option maxRecDepth 100000 in
/-- GlacierMail$Answers.throwAhead -/
def p2_s3252 : ck_Sum := ((1, 0, 0), 245, [.inr (.inr (.inl 208)), .inl (0, 2398, []), .inl (0, 299, []), .inl (51, 2147483646, [])], ([], [], [(3, 6, 6, (0, 299, [(10, 0)]))]), ([], []), [(.inr (some (.inl (0, 2398, []))), 245, ([], [], []))])
set_option maxRecDepth 100000 in
theorem p2_s3252_e : ck_ok p2_O none [] [(10, [p2_s438, p2_s3197, p2_s3246]), (9, [p2_s348])] 209 [(17, [some (.inr (.inr (.inl 208))), some (.inl (0, 2398, [])), some (.inl (0, 299, [])), some (.inl (51, 2147483646, [])), some (.inl ((-1), 98, [])), some (.inl (0, 9, [])), none], ([], [], [(3, 6, 6, (0, 299, [(10, 0)]))]), 100, .inl 5, true), (59, [some (.inr (.inr (.inl 208))), some (.inl (0, 2398, [])), some (.inl (0, 299, [])), some (.inl (51, 2147483646, [])), some (.inl ((-1), 98, [])), some (.inl (0, 7, [(100, 0)])), some (.inl (0, 299, [(1000010, 0)]))], ([], [], [(3, 6, 6, (0, 299, [(10, 0)]))]), 300, .inl 6, true)] 260 p2_s3252 = true := by decide +kernel
theorem p2_s3252_s {X : Int → Int} {LX : Nat} : ck_Ok p2_O X LX 209 p2_s3252 := ck_ok_s ⟨p2_nmu, ck_E1 (ck_S1 p2_s438_s (ck_S1 p2_s3197_s (ck_S1 p2_s3246_s ck_S0))) (ck_E1 (ck_S1 p2_s348_s ck_S0) ck_E0)⟩ ck_X0 ck_l0 p2_s3252_e
set_option maxRecDepth 100000 in
/-- GlacierMail$Answers.holder -/
def p2_s3253 : ck_Sum := ((2, 0, 0), 245, [.inr (.inr (.inl 208)), .inl (0, 7, []), .inl (0, 7, []), .inl (51, 2147483647, [])], ([], [], [(3, 6, 6, (0, 299, [(10, 0)]))]), ([], []), [(.inr (some (.inl (ck_one (-1)))), 245, ([], [], [])), (.inr (some (.inl (0, 2398, []))), 245, ([], [], []))])
set_option maxRecDepth 100000 in
theorem p2_s3253_e : ck_ok p2_O none [] [(204, [p2_s3230]), (10, [p2_s3197]), (209, [p2_s3252])] 208 [(44, [some (.inr (.inr (.inl 208))), some (.inl (0, 7, [])), some (.inl (0, 7, [])), some (.inl (51, 2147483647, [])), some (.inl (0, 299, [])), some (.inl (0, 2398, [])), some (.inl (51, 2147483647, [])), some (.inl (51, 2147483647, [])), none], ([], [], [(3, 6, 6, (0, 299, [(10, 0)]))]), 100, .inl 7, false)] 190 p2_s3253 = true := by decide +kernel
theorem p2_s3253_s {X : Int → Int} {LX : Nat} : ck_Ok p2_O X LX 208 p2_s3253 := ck_ok_s ⟨p2_nmu, ck_E1 (ck_S1 p2_s3230_s ck_S0) (ck_E1 (ck_S1 p2_s3197_s ck_S0) (ck_E1 (ck_S1 p2_s3252_s ck_S0) ck_E0))⟩ ck_X0 ck_l0 p2_s3253_e
set_option maxRecDepth 100000 in
/-- GlacierMail.chain -/
def p2_s3254 : ck_Sum := ((8, 3, 18), 245, [.inr (.inr (.inl 1)), .inl (0, 7, []), .inl (0, 7, []), .inl (51, 2147483647, [])], ([], [(3, 8, 0)], [(3, 6, 6, (0, 299, [(10, 0)]))]), ([(206, 2, 8), (209, 3, 3), (210, 0, 2399), (211, 3, 3), (212, 0, 2399)], []), [(.inl 3, 245, ([], [], [])), (.inl 0, 245, ([], [], [])), (.inr (some (.inl (ck_one (-1)))), 245, ([], [], [(206, 4, 4, ck_one (-1))])), (.inr (some (.inl (0, 2398, []))), 245, ([], [], [(206, 4, 4, ck_one (-1))]))])
set_option maxRecDepth 100000 in
theorem p2_s3254_e : ck_ok p2_O none [] [(139, [p2_s356]), (153, [p2_s654]), (202, [p2_s3229]), (208, [p2_s3253])] 207 [] 120 p2_s3254 = true := by decide +kernel
theorem p2_s3254_s {X : Int → Int} {LX : Nat} : ck_Ok p2_O X LX 207 p2_s3254 := ck_ok_s ⟨p2_nmu, ck_E1 (ck_S1 p2_s356_s ck_S0) (ck_E1 (ck_S1 p2_s654_s ck_S0) (ck_E1 (ck_S1 p2_s3229_s ck_S0) (ck_E1 (ck_S1 p2_s3253_s ck_S0) ck_E0)))⟩ ck_X0 ck_l0 p2_s3254_e
set_option maxRecDepth 100000 in
/-- GlacierMail$Answers.holder -/
def p2_s3255 : ck_Sum := ((2, 0, 0), 245, [.inr (.inr (.inl 208)), .inl (0, 7, []), .inl (0, 7, []), .inl (1, 50, [])], ([], [], [(3, 6, 6, (0, 299, [(10, 0)]))]), ([], []), [(.inr (some (.inl (ck_one (-1)))), 245, ([], [], [])), (.inr (some (.inl (0, 2398, []))), 245, ([], [], []))])
set_option maxRecDepth 100000 in
theorem p2_s3255_e : ck_ok p2_O none [] [(204, [p2_s3230]), (10, [p2_s3197]), (209, [p2_s3248])] 208 [(44, [some (.inr (.inr (.inl 208))), some (.inl (0, 7, [])), some (.inl (0, 7, [])), some (.inl (1, 50, [])), some (.inl (0, 299, [])), some (.inl (0, 2398, [])), some (.inl (1, 2147483647, [])), some (.inl (1, 2147483647, [])), none], ([], [], [(3, 6, 6, (0, 299, [(10, 0)]))]), 100, .inl 7, false)] 190 p2_s3255 = true := by decide +kernel
theorem p2_s3255_s {X : Int → Int} {LX : Nat} : ck_Ok p2_O X LX 208 p2_s3255 := ck_ok_s ⟨p2_nmu, ck_E1 (ck_S1 p2_s3230_s ck_S0) (ck_E1 (ck_S1 p2_s3197_s ck_S0) (ck_E1 (ck_S1 p2_s3248_s ck_S0) ck_E0))⟩ ck_X0 ck_l0 p2_s3255_e
set_option maxRecDepth 100000 in
/-- GlacierMail.chain -/
def p2_s3256 : ck_Sum := ((8, 3, 18), 245, [.inr (.inr (.inl 1)), .inl (0, 7, []), .inl (0, 7, []), .inl (1, 50, [])], ([], [(3, 8, 0)], [(3, 6, 6, (0, 299, [(10, 0)]))]), ([(206, 2, 8), (209, 3, 3), (210, 0, 2399), (211, 3, 3), (212, 0, 2399)], []), [(.inl 3, 245, ([], [], [])), (.inl 0, 245, ([], [], [])), (.inr (some (.inl (ck_one (-1)))), 245, ([], [], [(206, 4, 4, ck_one (-1))])), (.inr (some (.inl (0, 2398, []))), 245, ([], [], [(206, 4, 4, ck_one (-1))]))])
set_option maxRecDepth 100000 in
theorem p2_s3256_e : ck_ok p2_O none [] [(139, [p2_s356]), (153, [p2_s654]), (202, [p2_s3229]), (208, [p2_s3255])] 207 [] 120 p2_s3256 = true := by decide +kernel
theorem p2_s3256_s {X : Int → Int} {LX : Nat} : ck_Ok p2_O X LX 207 p2_s3256 := ck_ok_s ⟨p2_nmu, ck_E1 (ck_S1 p2_s356_s ck_S0) (ck_E1 (ck_S1 p2_s654_s ck_S0) (ck_E1 (ck_S1 p2_s3229_s ck_S0) (ck_E1 (ck_S1 p2_s3255_s ck_S0) ck_E0)))⟩ ck_X0 ck_l0 p2_s3256_e
set_option maxRecDepth 100000 in
/-- GlacierMailModel.chain -/
def p2_s3257 : ck_Sum := ((2, 0, 0), 245, [.inr (.inr (.inl 226)), .inl ((-2147483648), (-1), []), .inl ((-2147483648), 2147483647, []), .inl ((-2147483648), 2147483647, [])], ([], [], [(227, 3, 3, (0, 8, [(21, 0)]))]), ([(226, 0, 0)], []), [(.inr (some (.inl (ck_one 0))), 245, ([], [], [(226, 0, 0, ck_one 1)]))])
set_option maxRecDepth 100000 in
theorem p2_s3257_e : ck_ok p2_O none [] [(298, [p2_s441]), (282, [p2_s268])] 354 [] 100 p2_s3257 = true := by decide +kernel
theorem p2_s3257_s {X : Int → Int} {LX : Nat} : ck_Ok p2_O X LX 354 p2_s3257 := ck_ok_s ⟨p2_nmu, ck_E1 (ck_S1 p2_s441_s ck_S0) (ck_E1 (ck_S1 p2_s268_s ck_S0) ck_E0)⟩ ck_X0 ck_l0 p2_s3257_e
set_option maxRecDepth 100000 in
/-- GlacierMailModel.chain -/
def p2_s3258 : ck_Sum := ((2, 0, 0), 245, [.inr (.inr (.inl 226)), .inl (8, 2147483647, []), .inl ((-2147483648), 2147483647, []), .inl ((-2147483648), 2147483647, [])], ([], [], [(227, 3, 3, (0, 8, [(21, 0)]))]), ([(226, 0, 0)], []), [(.inr (some (.inl (ck_one 0))), 245, ([], [], [(226, 0, 0, ck_one 1)]))])
set_option maxRecDepth 100000 in
theorem p2_s3258_e : ck_ok p2_O none [] [(298, [p2_s444]), (282, [p2_s268])] 354 [] 100 p2_s3258 = true := by decide +kernel
theorem p2_s3258_s {X : Int → Int} {LX : Nat} : ck_Ok p2_O X LX 354 p2_s3258 := ck_ok_s ⟨p2_nmu, ck_E1 (ck_S1 p2_s444_s ck_S0) (ck_E1 (ck_S1 p2_s268_s ck_S0) ck_E0)⟩ ck_X0 ck_l0 p2_s3258_e
set_option maxRecDepth 100000 in
/-- GlacierMailModel.chain -/
def p2_s3259 : ck_Sum := ((2, 0, 0), 245, [.inr (.inr (.inl 226)), .inl (0, 7, []), .inl ((-2147483648), (-1), []), .inl ((-2147483648), 2147483647, [])], ([], [], [(227, 3, 3, (0, 8, [(21, 0)]))]), ([(226, 0, 0)], []), [(.inr (some (.inl (ck_one 0))), 245, ([], [], [(226, 0, 0, ck_one 1)]))])
set_option maxRecDepth 100000 in
theorem p2_s3259_e : ck_ok p2_O none [] [(298, [p2_s447, p2_s441]), (282, [p2_s268])] 354 [] 108 p2_s3259 = true := by decide +kernel
theorem p2_s3259_s {X : Int → Int} {LX : Nat} : ck_Ok p2_O X LX 354 p2_s3259 := ck_ok_s ⟨p2_nmu, ck_E1 (ck_S1 p2_s447_s (ck_S1 p2_s441_s ck_S0)) (ck_E1 (ck_S1 p2_s268_s ck_S0) ck_E0)⟩ ck_X0 ck_l0 p2_s3259_e
set_option maxRecDepth 100000 in
/-- GlacierMailModel.chain -/
def p2_s3260 : ck_Sum := ((2, 0, 0), 245, [.inr (.inr (.inl 226)), .inl (0, 7, []), .inl (8, 2147483647, []), .inl ((-2147483648), 2147483647, [])], ([], [], [(227, 3, 3, (0, 8, [(21, 0)]))]), ([(226, 0, 0)], []), [(.inr (some (.inl (ck_one 0))), 245, ([], [], [(226, 0, 0, ck_one 1)]))])
set_option maxRecDepth 100000 in
theorem p2_s3260_e : ck_ok p2_O none [] [(298, [p2_s447, p2_s444]), (282, [p2_s268])] 354 [] 108 p2_s3260 = true := by decide +kernel
theorem p2_s3260_s {X : Int → Int} {LX : Nat} : ck_Ok p2_O X LX 354 p2_s3260 := ck_ok_s ⟨p2_nmu, ck_E1 (ck_S1 p2_s447_s (ck_S1 p2_s444_s ck_S0)) (ck_E1 (ck_S1 p2_s268_s ck_S0) ck_E0)⟩ ck_X0 ck_l0 p2_s3260_e
set_option maxRecDepth 100000 in
/-- GlacierMailModel.of -/
def p2_s3262 : ck_Sum := ((0, 0, 0), 245, [.inr (.inr (.inl 226)), .inl ((-1), 7, []), .inl (ck_one 2)], ([], [], []), ([], []), [(.inr (some (.inl (0, 20, []))), 245, ([], [], [])), (.inr (some (.inl (ck_one (-1)))), 245, ([], [], []))])
set_option maxRecDepth 100000 in
theorem p2_s3262_e : ck_ok p2_O none [] [] 299 [] 92 p2_s3262 = true := by decide +kernel
theorem p2_s3262_s {X : Int → Int} {LX : Nat} : ck_Ok p2_O X LX 299 p2_s3262 := ck_ok_s ⟨p2_nmu, ck_E0⟩ ck_X0 ck_l0 p2_s3262_e
set_option maxRecDepth 100000 in
/-- GlacierMailModel.isWatching -/
def p2_s3269 : ck_Sum := ((1, 0, 0), 245, [.inr (.inr (.inl 226)), .inl ((-1), 7, []), .inl (0, 7, [])], ([], [], []), ([], []), [(.inr (some (.inl (ck_one 0))), 245, ([], [], [])), (.inr (some (.inl (ck_one 1))), 245, ([], [], []))])
set_option maxRecDepth 100000 in
theorem p2_s3269_e : ck_ok p2_O none [] [(299, [p2_s3262, p2_s765])] 352 [] 94 p2_s3269 = true := by decide +kernel
theorem p2_s3269_s {X : Int → Int} {LX : Nat} : ck_Ok p2_O X LX 352 p2_s3269 := ck_ok_s ⟨p2_nmu, ck_E1 (ck_S1 p2_s3262_s (ck_S1 p2_s765_s ck_S0)) ck_E0⟩ ck_X0 ck_l0 p2_s3269_e
set_option maxRecDepth 100000 in
/-- GlacierMailModel.thrower -/
def p2_s3270 : ck_Sum := ((2, 0, 0), 245, [.inr (.inr (.inl 226)), .inl ((-1), 7, []), .inl ((-1), 299, []), .inl (1, 1000, [])], ([], [], [(227, 3, 3, (0, 8, [(21, 0)])), (227, 9, 9, (0, 299, [(11, 0)]))]), ([(226, 36, 36)], []), [(.inr (some (.inl (ck_one (-1)))), 245, ([], [], [])), (.inr (some (.inl (0, 7, []))), 245, ([], [], [(226, 36, 36, (0, 298, [(1000011, 0)])), (227, 3, 3, (1, 8, [(21, 0)]))]))])
set_option maxRecDepth 100000 in
theorem p2_s3270_e : ck_ok p2_O none [] [(253, [p2_s214]), (266, [p2_s207]), (352, [p2_s3269]), (351, [p2_s3237])] 355 [(3, [some (.inr (.inr (.inl 226))), some (.inl ((-1), 7, [])), some (.inl ((-1), 299, [])), some (.inl (1, 1000, [])), some (.inl (0, 8, [])), none], ([], [], [(227, 3, 3, (0, 8, [(21, 0)])), (227, 9, 9, (0, 299, [(11, 0)]))]), 100, .inl 4, true), (18, [some (.inr (.inr (.inl 226))), some (.inl ((-1), 7, [])), some (.inl ((-1), 299, [])), some (.inl (1, 1000, [])), some (.inl (0, 7, [(100, 0)])), some (.inl (0, 299, [(1000011, 0)]))], ([], [], [(227, 3, 3, (1, 8, [(21, 0)])), (227, 9, 9, (0, 299, [(11, 0)]))]), 300, .inl 5, true)] 284 p2_s3270 = true := by decide +kernel
theorem p2_s3270_s {X : Int → Int} {LX : Nat} : ck_Ok p2_O X LX 355 p2_s3270 := ck_ok_s ⟨p2_nmu, ck_E1 (ck_S1 p2_s214_s ck_S0) (ck_E1 (ck_S1 p2_s207_s ck_S0) (ck_E1 (ck_S1 p2_s3269_s ck_S0) (ck_E1 (ck_S1 p2_s3237_s ck_S0) ck_E0)))⟩ ck_X0 ck_l0 p2_s3270_e
