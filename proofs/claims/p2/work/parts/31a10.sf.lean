/-! EVERY CALL ENDS, whatever was done before (laid by wip/am/p2g.py). -/
set_option maxRecDepth 100000 in
/-- GlacierMail.without -/
def p2_s2966 : ck_Sum := ((8, 2, 12), 245, [.inr (.inr (.inl 1)), .inl (0, 23, []), .inl (0, 7, [])], ([], [(3, 8, 0)], []), ([(206, 2, 8)], []), [(.inl 3, 245, ([], [], [])), (.inr (some (.inl ((-2147483648), 299, []))), 245, ([], [], [(206, 4, 4, (0, 7, [])), (206, 2, 2, ((-1), 299, []))]))])
set_option maxRecDepth 100000 in
theorem p2_s2966_e : ck_ok p2_O none [] [(143, [p2_s605]), (9, [p2_s159]), (133, [p2_s355]), (27, [p2_s367]), (175, [p2_s2965]), (30, [p2_s374])] 174 [] 116 p2_s2966 = true := by decide +kernel
theorem p2_s2966_s {X : Int → Int} {LX : Nat} : ck_Ok p2_O X LX 174 p2_s2966 := ck_ok_s ⟨p2_nmu, ck_E1 (ck_S1 p2_s605_s ck_S0) (ck_E1 (ck_S1 p2_s159_s ck_S0) (ck_E1 (ck_S1 p2_s355_s ck_S0) (ck_E1 (ck_S1 p2_s367_s ck_S0) (ck_E1 (ck_S1 p2_s2965_s ck_S0) (ck_E1 (ck_S1 p2_s374_s ck_S0) ck_E0)))))⟩ ck_X0 ck_l0 p2_s2966_e
set_option maxRecDepth 100000 in
/-- GlacierMailModel.without -/
def p2_s2967 : ck_Sum := ((2, 0, 0), 245, [.inr (.inr (.inl 226)), .inl ((-2147483648), (-1), []), .inl ((-2147483648), 2147483647, [])], ([], [], [(227, 4, 4, (0, 24, [(22, 0)]))]), ([(226, 0, 0)], []), [(.inr (some (.inl (ck_one 0))), 245, ([], [], [(226, 0, 0, ck_one 1)]))])
set_option maxRecDepth 100000 in
theorem p2_s2967_e : ck_ok p2_O none [] [(309, [p2_s612]), (282, [p2_s268])] 328 [] 100 p2_s2967 = true := by decide +kernel
theorem p2_s2967_s {X : Int → Int} {LX : Nat} : ck_Ok p2_O X LX 328 p2_s2967 := ck_ok_s ⟨p2_nmu, ck_E1 (ck_S1 p2_s612_s ck_S0) (ck_E1 (ck_S1 p2_s268_s ck_S0) ck_E0)⟩ ck_X0 ck_l0 p2_s2967_e
set_option maxRecDepth 100000 in
/-- GlacierMailModel.without -/
def p2_s2968 : ck_Sum := ((2, 0, 0), 245, [.inr (.inr (.inl 226)), .inl (24, 2147483647, []), .inl ((-2147483648), 2147483647, [])], ([], [], [(227, 4, 4, (0, 24, [(22, 0)]))]), ([(226, 0, 0)], []), [(.inr (some (.inl (ck_one 0))), 245, ([], [], [(226, 0, 0, ck_one 1)]))])
set_option maxRecDepth 100000 in
theorem p2_s2968_e : ck_ok p2_O none [] [(309, [p2_s615]), (282, [p2_s268])] 328 [] 100 p2_s2968 = true := by decide +kernel
theorem p2_s2968_s {X : Int → Int} {LX : Nat} : ck_Ok p2_O X LX 328 p2_s2968 := ck_ok_s ⟨p2_nmu, ck_E1 (ck_S1 p2_s615_s ck_S0) (ck_E1 (ck_S1 p2_s268_s ck_S0) ck_E0)⟩ ck_X0 ck_l0 p2_s2968_e
set_option maxRecDepth 100000 in
/-- GlacierMailModel.without -/
def p2_s2969 : ck_Sum := ((2, 0, 0), 245, [.inr (.inr (.inl 226)), .inl (0, 23, []), .inl ((-2147483648), (-1), [])], ([], [], [(227, 4, 4, (0, 24, [(22, 0)])), (227, 5, 5, (0, 8, [(23, 0)]))]), ([(226, 0, 0)], []), [(.inr (some (.inl (ck_one 0))), 245, ([], [], [(226, 0, 0, ck_one 1)]))])
set_option maxRecDepth 100000 in
theorem p2_s2969_e : ck_ok p2_O none [] [(309, [p2_s618]), (282, [p2_s268]), (286, [p2_s440])] 328 [] 120 p2_s2969 = true := by decide +kernel
theorem p2_s2969_s {X : Int → Int} {LX : Nat} : ck_Ok p2_O X LX 328 p2_s2969 := ck_ok_s ⟨p2_nmu, ck_E1 (ck_S1 p2_s618_s ck_S0) (ck_E1 (ck_S1 p2_s268_s ck_S0) (ck_E1 (ck_S1 p2_s440_s ck_S0) ck_E0))⟩ ck_X0 ck_l0 p2_s2969_e
set_option maxRecDepth 100000 in
/-- GlacierMailModel.without -/
def p2_s2970 : ck_Sum := ((2, 0, 0), 245, [.inr (.inr (.inl 226)), .inl (0, 23, []), .inl (8, 2147483647, [])], ([], [], [(227, 4, 4, (0, 24, [(22, 0)])), (227, 5, 5, (0, 8, [(23, 0)]))]), ([(226, 0, 0)], []), [(.inr (some (.inl (ck_one 0))), 245, ([], [], [(226, 0, 0, ck_one 1)]))])
set_option maxRecDepth 100000 in
theorem p2_s2970_e : ck_ok p2_O none [] [(309, [p2_s618]), (282, [p2_s268]), (286, [p2_s443])] 328 [] 120 p2_s2970 = true := by decide +kernel
theorem p2_s2970_s {X : Int → Int} {LX : Nat} : ck_Ok p2_O X LX 328 p2_s2970 := ck_ok_s ⟨p2_nmu, ck_E1 (ck_S1 p2_s618_s ck_S0) (ck_E1 (ck_S1 p2_s268_s ck_S0) (ck_E1 (ck_S1 p2_s443_s ck_S0) ck_E0))⟩ ck_X0 ck_l0 p2_s2970_e
set_option maxRecDepth 100000 in
/-- GlacierMail.moved -/
def p2_s2972 : ck_Sum := ((8, 1, 6), 245, [.inr (.inr (.inl 1)), .inl ((-2147483648), (-1), [])], ([], [], []), ([], []), [(.inl 3, 245, ([], [], []))])
set_option maxRecDepth 100000 in
theorem p2_s2972_e : ck_ok p2_O none [] [(143, [p2_s599])] 177 [] 76 p2_s2972 = true := by decide +kernel
theorem p2_s2972_s {X : Int → Int} {LX : Nat} : ck_Ok p2_O X LX 177 p2_s2972 := ck_ok_s ⟨p2_nmu, ck_E1 (ck_S1 p2_s599_s ck_S0) ck_E0⟩ ck_X0 ck_l0 p2_s2972_e
set_option maxRecDepth 100000 in
/-- GlacierMail.moved -/
def p2_s2973 : ck_Sum := ((8, 1, 6), 245, [.inr (.inr (.inl 1)), .inl (24, 2147483647, [])], ([], [], []), ([], []), [(.inl 3, 245, ([], [], []))])
set_option maxRecDepth 100000 in
theorem p2_s2973_e : ck_ok p2_O none [] [(143, [p2_s602])] 177 [] 76 p2_s2973 = true := by decide +kernel
theorem p2_s2973_s {X : Int → Int} {LX : Nat} : ck_Ok p2_O X LX 177 p2_s2973 := ck_ok_s ⟨p2_nmu, ck_E1 (ck_S1 p2_s602_s ck_S0) ck_E0⟩ ck_X0 ck_l0 p2_s2973_e
set_option maxRecDepth 100000 in
/-- GlacierMail.moved -/
def p2_s2974 : ck_Sum := ((8, 1, 6), 245, [.inr (.inr (.inl 1)), .inl (0, 23, [])], ([], [(3, 8, 0)], []), ([(206, 2, 8)], []), [(.inl 3, 245, ([], [], [])), (.inr (some (.inl ((-2147483648), (-1), []))), 245, ([], [], [(206, 8, 8, ((-2147483648), (-1), [])), (206, 4, 4, ck_one (-1)), (206, 2, 2, ((-1), 299, []))])), (.inr (some (.inl (0, 2147483647, []))), 245, ([], [], [(206, 8, 8, (0, 2147483647, [])), (206, 4, 4, ck_one (-1)), (206, 2, 2, ((-1), 299, []))]))])
set_option maxRecDepth 100000 in
theorem p2_s2974_e : ck_ok p2_O none [] [(143, [p2_s605]), (27, [p2_s367]), (30, [p2_s374])] 177 [] 102 p2_s2974 = true := by decide +kernel
theorem p2_s2974_s {X : Int → Int} {LX : Nat} : ck_Ok p2_O X LX 177 p2_s2974 := ck_ok_s ⟨p2_nmu, ck_E1 (ck_S1 p2_s605_s ck_S0) (ck_E1 (ck_S1 p2_s367_s ck_S0) (ck_E1 (ck_S1 p2_s374_s ck_S0) ck_E0))⟩ ck_X0 ck_l0 p2_s2974_e
set_option maxRecDepth 100000 in
/-- GlacierMailModel.moved -/
def p2_s2975 : ck_Sum := ((2, 0, 0), 245, [.inr (.inr (.inl 226)), .inl ((-2147483648), (-1), [])], ([], [], [(227, 4, 4, (0, 24, [(22, 0)]))]), ([(226, 0, 0)], []), [(.inr (some (.inl (ck_one 0))), 245, ([], [], [(226, 0, 0, ck_one 1)]))])
set_option maxRecDepth 100000 in
theorem p2_s2975_e : ck_ok p2_O none [] [(309, [p2_s612]), (282, [p2_s268])] 329 [] 94 p2_s2975 = true := by decide +kernel
theorem p2_s2975_s {X : Int → Int} {LX : Nat} : ck_Ok p2_O X LX 329 p2_s2975 := ck_ok_s ⟨p2_nmu, ck_E1 (ck_S1 p2_s612_s ck_S0) (ck_E1 (ck_S1 p2_s268_s ck_S0) ck_E0)⟩ ck_X0 ck_l0 p2_s2975_e
set_option maxRecDepth 100000 in
/-- GlacierMailModel.moved -/
def p2_s2976 : ck_Sum := ((2, 0, 0), 245, [.inr (.inr (.inl 226)), .inl (24, 2147483647, [])], ([], [], [(227, 4, 4, (0, 24, [(22, 0)]))]), ([(226, 0, 0)], []), [(.inr (some (.inl (ck_one 0))), 245, ([], [], [(226, 0, 0, ck_one 1)]))])
set_option maxRecDepth 100000 in
theorem p2_s2976_e : ck_ok p2_O none [] [(309, [p2_s615]), (282, [p2_s268])] 329 [] 94 p2_s2976 = true := by decide +kernel
theorem p2_s2976_s {X : Int → Int} {LX : Nat} : ck_Ok p2_O X LX 329 p2_s2976 := ck_ok_s ⟨p2_nmu, ck_E1 (ck_S1 p2_s615_s ck_S0) (ck_E1 (ck_S1 p2_s268_s ck_S0) ck_E0)⟩ ck_X0 ck_l0 p2_s2976_e
set_option maxRecDepth 100000 in
/-- GlacierMail.lost -/
def p2_s2978 : ck_Sum := ((5, 0, 0), 245, [.inr (.inr (.inl 1))], ([], [(3, 8, 0)], []), ([(1, 15, 15), (206, 2, 8), (220, 3, 3), (221, 0, 47)], []), [(.inr (some (.inl ((-2147483648), 2147483647, []))), 245, ([], [], [(1, 15, 15, ck_one 1)]))])
set_option maxRecDepth 100000 in
theorem p2_s2978_e : ck_ok p2_O none [] [(24, [p2_s405]), (9, [p2_s362]), (10, [p2_s407])] 23 [(8, [some (.inr (.inr (.inl 1))), some (.inl ((-2147483648), 2147483647, [])), some (.inl (0, 24, []))], ([], [(3, 8, 0)], [(1, 15, 15, ck_one 1)]), 100, .inl 2, true)] 174 p2_s2978 = true := by decide +kernel
theorem p2_s2978_s {X : Int → Int} {LX : Nat} : ck_Ok p2_O X LX 23 p2_s2978 := ck_ok_s ⟨p2_nmu, ck_E1 (ck_S1 p2_s405_s ck_S0) (ck_E1 (ck_S1 p2_s362_s ck_S0) (ck_E1 (ck_S1 p2_s407_s ck_S0) ck_E0))⟩ ck_X0 ck_l0 p2_s2978_e
set_option maxRecDepth 100000 in
/-- GlacierMail.outIn -/
def p2_s2980 : ck_Sum := ((2, 0, 0), 245, [.inr (.inr (.inl 1)), .inl ((-2147483648), 299, []), .inl (ck_one 0)], ([], [], []), ([], []), [(.inr (some (.inl ((-2147483648), 2147483647, []))), 245, ([], [], []))])
set_option maxRecDepth 100000 in
theorem p2_s2980_e : ck_ok p2_O none [] [(9, [p2_s362]), (10, [p2_s407]), (28, [p2_s364])] 47 [(5, [some (.inr (.inr (.inl 1))), some (.inl ((-2147483648), 299, [])), some (.inl (ck_one 0)), some (.inl ((-2147483648), 2147483647, [])), some (.inl (0, 24, []))], ([], [], []), 100, .inl 4, true)] 182 p2_s2980 = true := by decide +kernel
theorem p2_s2980_s {X : Int → Int} {LX : Nat} : ck_Ok p2_O X LX 47 p2_s2980 := ck_ok_s ⟨p2_nmu, ck_E1 (ck_S1 p2_s362_s ck_S0) (ck_E1 (ck_S1 p2_s407_s ck_S0) (ck_E1 (ck_S1 p2_s364_s ck_S0) ck_E0))⟩ ck_X0 ck_l0 p2_s2980_e
set_option maxRecDepth 100000 in
/-- GlacierMail.market -/
def p2_s2981 : ck_Sum := ((5, 0, 0), 245, [.inr (.inr (.inl 1)), .inl (0, 1, [])], ([], [(3, 8, 0)], []), ([(1, 15, 15), (206, 2, 8), (220, 3, 3), (221, 0, 47)], []), [(.inr (some (.inl ((-2147483648), 299, []))), 245, ([], [], [(1, 15, 15, ck_one 1)])), (.inr (some (.inl (0, 2147483647, []))), 245, ([], [], [(1, 15, 15, ck_one 1)]))])
set_option maxRecDepth 100000 in
theorem p2_s2981_e : ck_ok p2_O none [] [(24, [p2_s405]), (9, [p2_s362]), (10, [p2_s407]), (47, [p2_s2980])] 46 [(11, [some (.inr (.inr (.inl 1))), some (.inl (0, 1, [])), some (.inl ((-2147483648), 299, [])), some (.inl (0, 2147483647, [])), some (.inl (0, 24, [])), none, none], ([], [(3, 8, 0)], [(1, 15, 15, ck_one 1)]), 100, .inl 4, true)] 230 p2_s2981 = true := by decide +kernel
theorem p2_s2981_s {X : Int → Int} {LX : Nat} : ck_Ok p2_O X LX 46 p2_s2981 := ck_ok_s ⟨p2_nmu, ck_E1 (ck_S1 p2_s405_s ck_S0) (ck_E1 (ck_S1 p2_s362_s ck_S0) (ck_E1 (ck_S1 p2_s407_s ck_S0) (ck_E1 (ck_S1 p2_s2980_s ck_S0) ck_E0)))⟩ ck_X0 ck_l0 p2_s2981_e
set_option maxRecDepth 100000 in
/-- GlacierMailModel.outsIn -/
def p2_s2998 : ck_Sum := ((2, 0, 0), 245, [.inr (.inr (.inl 226)), .inl (0, 299, []), .inl ((-1), 7, []), .inl (0, 1, [])], ([], [], [(227, 4, 4, (0, 24, [(22, 0)]))]), ([], []), [(.inr (some (.inl ((-2147483648), 2147483647, []))), 245, ([], [], []))])
set_option maxRecDepth 100000 in
theorem p2_s2998_e : ck_ok p2_O none [] [(254, [p2_s196]), (303, [p2_s455]), (301, [p2_s457])] 333 [(6, [some (.inr (.inr (.inl 226))), some (.inl (0, 299, [])), some (.inl ((-1), 7, [])), some (.inl (0, 1, [])), some (.inl ((-2147483648), 2147483647, [])), some (.inl (0, 24, []))], ([], [], [(227, 4, 4, (0, 24, [(22, 0)]))]), 100, .inl 5, true)] 218 p2_s2998 = true := by decide +kernel
theorem p2_s2998_s {X : Int → Int} {LX : Nat} : ck_Ok p2_O X LX 333 p2_s2998 := ck_ok_s ⟨p2_nmu, ck_E1 (ck_S1 p2_s196_s ck_S0) (ck_E1 (ck_S1 p2_s455_s ck_S0) (ck_E1 (ck_S1 p2_s457_s ck_S0) ck_E0))⟩ ck_X0 ck_l0 p2_s2998_e
set_option maxRecDepth 100000 in
/-- GlacierMail.passes -/
def p2_s3000 : ck_Sum := ((8, 1, 6), 245, [.inr (.inr (.inl 1)), .inl ((-2147483648), (-1), [])], ([], [], []), ([], []), [(.inl 3, 245, ([], [], []))])
set_option maxRecDepth 100000 in
theorem p2_s3000_e : ck_ok p2_O none [] [(143, [p2_s599])] 179 [] 76 p2_s3000 = true := by decide +kernel
theorem p2_s3000_s {X : Int → Int} {LX : Nat} : ck_Ok p2_O X LX 179 p2_s3000 := ck_ok_s ⟨p2_nmu, ck_E1 (ck_S1 p2_s599_s ck_S0) ck_E0⟩ ck_X0 ck_l0 p2_s3000_e
set_option maxRecDepth 100000 in
/-- GlacierMail.passes -/
def p2_s3001 : ck_Sum := ((8, 1, 6), 245, [.inr (.inr (.inl 1)), .inl (24, 2147483647, [])], ([], [], []), ([], []), [(.inl 3, 245, ([], [], []))])
set_option maxRecDepth 100000 in
theorem p2_s3001_e : ck_ok p2_O none [] [(143, [p2_s602])] 179 [] 76 p2_s3001 = true := by decide +kernel
theorem p2_s3001_s {X : Int → Int} {LX : Nat} : ck_Ok p2_O X LX 179 p2_s3001 := ck_ok_s ⟨p2_nmu, ck_E1 (ck_S1 p2_s602_s ck_S0) ck_E0⟩ ck_X0 ck_l0 p2_s3001_e
set_option maxRecDepth 100000 in
/-- GlacierMail.sameLane -/
def p2_s3054 : ck_Sum := ((1, 0, 0), 245, [.inr (.inr (.inl 1)), .inl (0, 23, []), .inl (0, 23, [])], ([], [], []), ([], []), [(.inr (some (.inl (ck_one 0))), 245, ([], [], [])), (.inr (some (.inl (ck_one 1))), 245, ([], [], []))])
set_option maxRecDepth 100000 in
theorem p2_s3054_e : ck_ok p2_O none [] [(10, [p2_s363])] 180 [] 102 p2_s3054 = true := by decide +kernel
theorem p2_s3054_s {X : Int → Int} {LX : Nat} : ck_Ok p2_O X LX 180 p2_s3054 := ck_ok_s ⟨p2_nmu, ck_E1 (ck_S1 p2_s363_s ck_S0) ck_E0⟩ ck_X0 ck_l0 p2_s3054_e
set_option maxRecDepth 100000 in
/-- GlacierMail$Way.start -/
def p2_s3003 : ck_Sum := ((0, 0, 0), 245, [.inr (.inr (.inl 207)), .inl ((-1), 299, []), .inl ((-1), 299, []), .inl ((-1), 299, []), .inl (ck_one 0)], ([], [], []), ([(207, 2, 8)], []), [(.inr none, 245, ([], [], [(207, 8, 8, ck_one 0), (207, 6, 6, ck_one 0), (207, 3, 3, ck_one 0), (207, 7, 7, ((-1), 299, [])), (207, 5, 5, ((-1), 299, []))]))])
set_option maxRecDepth 100000 in
theorem p2_s3003_e : ck_ok p2_O none [] [] 29 [] 114 p2_s3003 = true := by decide +kernel
theorem p2_s3003_s {X : Int → Int} {LX : Nat} : ck_Ok p2_O X LX 29 p2_s3003 := ck_ok_s ⟨p2_nmu, ck_E0⟩ ck_X0 ck_l0 p2_s3003_e
set_option maxRecDepth 100000 in
/-- GlacierMail$Way.start -/
def p2_s3004 : ck_Sum := ((0, 0, 0), 245, [.inr (.inr (.inl 207)), .inl ((-1), 299, []), .inl ((-1), 299, []), .inl ((-1), 299, []), .inl (ck_one 1)], ([], [], []), ([(207, 2, 8)], []), [(.inr none, 245, ([], [], [(207, 8, 8, ck_one 0), (207, 6, 6, ck_one 0), (207, 3, 3, ck_one 1), (207, 7, 7, ((-1), 299, [])), (207, 5, 5, ((-1), 299, []))]))])
set_option maxRecDepth 100000 in
theorem p2_s3004_e : ck_ok p2_O none [] [] 29 [] 114 p2_s3004 = true := by decide +kernel
theorem p2_s3004_s {X : Int → Int} {LX : Nat} : ck_Ok p2_O X LX 29 p2_s3004 := ck_ok_s ⟨p2_nmu, ck_E0⟩ ck_X0 ck_l0 p2_s3004_e
set_option maxRecDepth 100000 in
/-- GlacierMail$Way.startLetter -/
def p2_s3005 : ck_Sum := ((2, 0, 0), 245, [.inr (.inr (.inl 207)), .inl (0, 23, [])], ([], [], []), ([(207, 2, 8)], []), [(.inr none, 245, ([], [], [(207, 8, 8, ck_one 0), (207, 6, 6, ck_one 0), (207, 7, 7, ((-1), 299, [])), (207, 5, 5, ((-1), 299, []))]))])
set_option maxRecDepth 100000 in
theorem p2_s3005_e : ck_ok p2_O none [] [(10, [p2_s363]), (28, [p2_s364]), (29, [p2_s3003, p2_s3004])] 27 [] 116 p2_s3005 = true := by decide +kernel
theorem p2_s3005_s {X : Int → Int} {LX : Nat} : ck_Ok p2_O X LX 27 p2_s3005 := ck_ok_s ⟨p2_nmu, ck_E1 (ck_S1 p2_s363_s ck_S0) (ck_E1 (ck_S1 p2_s364_s ck_S0) (ck_E1 (ck_S1 p2_s3003_s (ck_S1 p2_s3004_s ck_S0)) ck_E0))⟩ ck_X0 ck_l0 p2_s3005_e
set_option maxRecDepth 100000 in
/-- GlacierMail$Way.isOut -/
def p2_s3006 : ck_Sum := ((0, 0, 0), 245, [.inr (.inr (.inl 207))], ([], [], []), ([], []), [(.inr (some (.inl (ck_one 0))), 245, ([], [], [(207, 5, 5, ((-2147483648), 98, []))])), (.inr (some (.inl (ck_one 1))), 245, ([], [], [(207, 5, 5, (10, 2147483647, []))]))])
set_option maxRecDepth 100000 in
theorem p2_s3006_e : ck_ok p2_O none [] [] 31 [] 88 p2_s3006 = true := by decide +kernel
theorem p2_s3006_s {X : Int → Int} {LX : Nat} : ck_Ok p2_O X LX 31 p2_s3006 := ck_ok_s ⟨p2_nmu, ck_E0⟩ ck_X0 ck_l0 p2_s3006_e
set_option maxRecDepth 100000 in
/-- GlacierMail$Way.deepAfter -/
def p2_s3007 : ck_Sum := ((1, 0, 0), 245, [.inr (.inr (.inl 207))], ([], [], []), ([], []), [(.inr (some (.inl (0, 99, []))), 245, ([], [], []))])
set_option maxRecDepth 100000 in
theorem p2_s3007_e : ck_ok p2_O none [] [(34, [p2_s369])] 33 [] 110 p2_s3007 = true := by decide +kernel
theorem p2_s3007_s {X : Int → Int} {LX : Nat} : ck_Ok p2_O X LX 33 p2_s3007 := ck_ok_s ⟨p2_nmu, ck_E1 (ck_S1 p2_s369_s ck_S0) ck_E0⟩ ck_X0 ck_l0 p2_s3007_e
set_option maxRecDepth 100000 in
/-- GlacierMail$Way.takeFloods -/
def p2_s3008 : ck_Sum := ((1, 0, 0), 245, [.inr (.inr (.inl 207))], ([], [], []), ([(207, 5, 5), (207, 8, 8)], []), [(.inr none, 245, ([], [], []))])
set_option maxRecDepth 100000 in
theorem p2_s3008_e : ck_ok p2_O none [] [(44, [p2_s371]), (9, [p2_s159]), (10, [p2_s160])] 43 [(22, [some (.inr (.inr (.inl 207))), some (.inr (.inr (.inl 6))), some (.inl ((-2147483648), 2147483647, [])), some (.inl (0, 9, [])), none], ([], [], []), 100, .inl 3, true)] 290 p2_s3008 = true := by decide +kernel
theorem p2_s3008_s {X : Int → Int} {LX : Nat} : ck_Ok p2_O X LX 43 p2_s3008 := ck_ok_s ⟨p2_nmu, ck_E1 (ck_S1 p2_s371_s ck_S0) (ck_E1 (ck_S1 p2_s159_s ck_S0) (ck_E1 (ck_S1 p2_s160_s ck_S0) ck_E0))⟩ ck_X0 ck_l0 p2_s3008_e
set_option maxRecDepth 100000 in
/-- GlacierMail$Way.step -/
def p2_s3009 : ck_Sum := ((2, 0, 0), 245, [.inr (.inr (.inl 207))], ([], [(3, 8, 0)], []), ([(207, 5, 8)], []), [(.inr none, 245, ([], [], []))])
set_option maxRecDepth 100000 in
theorem p2_s3009_e : ck_ok p2_O none [] [(31, [p2_s3006]), (33, [p2_s3007]), (35, [p2_s335]), (43, [p2_s3008])] 32 [] 134 p2_s3009 = true := by decide +kernel
theorem p2_s3009_s {X : Int → Int} {LX : Nat} : ck_Ok p2_O X LX 32 p2_s3009 := ck_ok_s ⟨p2_nmu, ck_E1 (ck_S1 p2_s3006_s ck_S0) (ck_E1 (ck_S1 p2_s3007_s ck_S0) (ck_E1 (ck_S1 p2_s335_s ck_S0) (ck_E1 (ck_S1 p2_s3008_s ck_S0) ck_E0)))⟩ ck_X0 ck_l0 p2_s3009_e
set_option maxRecDepth 100000 in
/-- GlacierMail$Way.goOnTo -/
def p2_s3010 : ck_Sum := ((3, 0, 0), 245, [.inr (.inr (.inl 207)), .inl (0, 299, [])], ([], [(3, 8, 0)], []), ([(207, 5, 8)], []), [(.inr none, 245, ([], [], []))])
set_option maxRecDepth 100000 in
theorem p2_s3010_e : ck_ok p2_O none [] [(32, [p2_s3009])] 148 [(5, [some (.inr (.inr (.inl 207))), some (.inl (0, 299, [])), some (.inl ((-2147483648), 2147483647, []))], ([], [(3, 8, 0)], []), 100, .inl 2, true)] 122 p2_s3010 = true := by decide +kernel
theorem p2_s3010_s {X : Int → Int} {LX : Nat} : ck_Ok p2_O X LX 148 p2_s3010 := ck_ok_s ⟨p2_nmu, ck_E1 (ck_S1 p2_s3009_s ck_S0) ck_E0⟩ ck_X0 ck_l0 p2_s3010_e
set_option maxRecDepth 100000 in
/-- GlacierMail.startBoth -/
def p2_s3055 : ck_Sum := ((4, 0, 0), 245, [.inr (.inr (.inl 1)), .inl (0, 23, []), .inl (0, 23, []), .inl (ck_one 0)], ([], [(3, 8, 0)], []), ([(206, 2, 8), (207, 2, 8)], []), [(.inr (some (.inl (0, 299, []))), 245, ([], [], [(206, 4, 4, ck_one (-1)), (206, 2, 2, ((-1), 299, []))]))])
set_option maxRecDepth 100000 in
theorem p2_s3055_e : ck_ok p2_O none [] [(27, [p2_s367, p2_s3005]), (148, [p2_s633, p2_s3010])] 182 [] 126 p2_s3055 = true := by decide +kernel
theorem p2_s3055_s {X : Int → Int} {LX : Nat} : ck_Ok p2_O X LX 182 p2_s3055 := ck_ok_s ⟨p2_nmu, ck_E1 (ck_S1 p2_s367_s (ck_S1 p2_s3005_s ck_S0)) (ck_E1 (ck_S1 p2_s633_s (ck_S1 p2_s3010_s ck_S0)) ck_E0)⟩ ck_X0 ck_l0 p2_s3055_e
set_option maxRecDepth 100000 in
/-- GlacierMail.bothInIce -/
def p2_s3012 : ck_Sum := ((1, 0, 0), 245, [.inr (.inr (.inl 1))], ([], [], []), ([], []), [(.inr (some (.inl (ck_one 1))), 245, ([], [], [(207, 5, 5, ((-2147483648), 98, [])), (206, 5, 5, ((-2147483648), 98, []))])), (.inr (some (.inl (ck_one 0))), 245, ([], [], []))])
set_option maxRecDepth 100000 in
theorem p2_s3012_e : ck_ok p2_O none [] [(31, [p2_s368, p2_s3006])] 183 [] 92 p2_s3012 = true := by decide +kernel
theorem p2_s3012_s {X : Int → Int} {LX : Nat} : ck_Ok p2_O X LX 183 p2_s3012 := ck_ok_s ⟨p2_nmu, ck_E1 (ck_S1 p2_s368_s (ck_S1 p2_s3006_s ck_S0)) ck_E0⟩ ck_X0 ck_l0 p2_s3012_e
set_option maxRecDepth 100000 in
/-- GlacierMail.stepBoth -/
def p2_s3013 : ck_Sum := ((3, 0, 0), 245, [.inr (.inr (.inl 1))], ([], [(3, 8, 0)], []), ([(206, 5, 8), (207, 5, 8)], []), [(.inr none, 245, ([], [], []))])
set_option maxRecDepth 100000 in
theorem p2_s3013_e : ck_ok p2_O none [] [(32, [p2_s373, p2_s3009])] 184 [] 84 p2_s3013 = true := by decide +kernel
theorem p2_s3013_s {X : Int → Int} {LX : Nat} : ck_Ok p2_O X LX 184 p2_s3013 := ck_ok_s ⟨p2_nmu, ck_E1 (ck_S1 p2_s373_s (ck_S1 p2_s3009_s ck_S0)) ck_E0⟩ ck_X0 ck_l0 p2_s3013_e
set_option maxRecDepth 100000 in
/-- GlacierMail.passesBy -/
def p2_s3056 : ck_Sum := ((5, 0, 0), 245, [.inr (.inr (.inl 1)), .inl (0, 23, []), .inl (0, 23, [])], ([], [(3, 8, 0)], []), ([(206, 2, 8), (207, 2, 8)], []), [(.inr (some (.inl (ck_one 0))), 245, ([], [], [(206, 4, 4, ck_one (-1)), (206, 2, 2, ((-1), 299, []))])), (.inr (some (.inl (ck_one 1))), 245, ([], [], [(207, 5, 5, ((-2147483648), 97, [])), (206, 5, 5, ((-2147483647), 98, [])), (206, 4, 4, ck_one (-1)), (206, 2, 2, ((-1), 299, []))]))])
set_option maxRecDepth 100000 in
theorem p2_s3056_e : ck_ok p2_O none [] [(182, [p2_s3055]), (183, [p2_s3012]), (184, [p2_s3013])] 181 [(39, [some (.inr (.inr (.inl 1))), some (.inl (0, 23, [])), some (.inl (0, 23, [])), some (.inl (0, 299, [])), some (.inl (1, 300, []))], ([], [(3, 8, 0)], [(207, 5, 5, ((-2147483648), 98, [])), (206, 5, 5, ((-2147483648), 98, [])), (206, 4, 4, ck_one (-1)), (206, 2, 2, ((-1), 299, []))]), 100, .inl 4, true)] 174 p2_s3056 = true := by decide +kernel
theorem p2_s3056_s {X : Int → Int} {LX : Nat} : ck_Ok p2_O X LX 181 p2_s3056 := ck_ok_s ⟨p2_nmu, ck_E1 (ck_S1 p2_s3055_s ck_S0) (ck_E1 (ck_S1 p2_s3012_s ck_S0) (ck_E1 (ck_S1 p2_s3013_s ck_S0) ck_E0))⟩ ck_X0 ck_l0 p2_s3056_e
set_option maxRecDepth 100000 in
/-- GlacierMail.passes -/
def p2_s3057 : ck_Sum := ((8, 1, 6), 245, [.inr (.inr (.inl 1)), .inl (0, 23, [])], ([], [(3, 8, 0)], []), ([(206, 2, 8), (207, 2, 8)], []), [(.inl 3, 245, ([], [], [])), (.inr (some (.inl ((-2147483648), 2147483647, []))), 245, ([], [], []))])
set_option maxRecDepth 100000 in
theorem p2_s3057_e : ck_ok p2_O none [] [(143, [p2_s605]), (9, [p2_s359]), (180, [p2_s3054]), (181, [p2_s3056])] 179 [(9, [some (.inr (.inr (.inl 1))), some (.inl (0, 23, [])), some (.inl ((-2147483648), 2147483647, [])), some (.inl (0, 24, []))], ([], [(3, 8, 0)], []), 100, .inl 3, true)] 182 p2_s3057 = true := by decide +kernel
theorem p2_s3057_s {X : Int → Int} {LX : Nat} : ck_Ok p2_O X LX 179 p2_s3057 := ck_ok_s ⟨p2_nmu, ck_E1 (ck_S1 p2_s605_s ck_S0) (ck_E1 (ck_S1 p2_s359_s ck_S0) (ck_E1 (ck_S1 p2_s3054_s ck_S0) (ck_E1 (ck_S1 p2_s3056_s ck_S0) ck_E0)))⟩ ck_X0 ck_l0 p2_s3057_e
set_option maxRecDepth 100000 in
/-- GlacierMailModel.passes -/
def p2_s3058 : ck_Sum := ((2, 0, 0), 245, [.inr (.inr (.inl 226)), .inl ((-2147483648), (-1), [])], ([], [], [(227, 4, 4, (0, 24, [(22, 0)]))]), ([(226, 0, 0)], []), [(.inr (some (.inl (ck_one 0))), 245, ([], [], [(226, 0, 0, ck_one 1)]))])
set_option maxRecDepth 100000 in
theorem p2_s3058_e : ck_ok p2_O none [] [(309, [p2_s612]), (282, [p2_s268])] 334 [] 94 p2_s3058 = true := by decide +kernel
theorem p2_s3058_s {X : Int → Int} {LX : Nat} : ck_Ok p2_O X LX 334 p2_s3058 := ck_ok_s ⟨p2_nmu, ck_E1 (ck_S1 p2_s612_s ck_S0) (ck_E1 (ck_S1 p2_s268_s ck_S0) ck_E0)⟩ ck_X0 ck_l0 p2_s3058_e
set_option maxRecDepth 100000 in
/-- GlacierMailModel.passes -/
def p2_s3059 : ck_Sum := ((2, 0, 0), 245, [.inr (.inr (.inl 226)), .inl (24, 2147483647, [])], ([], [], [(227, 4, 4, (0, 24, [(22, 0)]))]), ([(226, 0, 0)], []), [(.inr (some (.inl (ck_one 0))), 245, ([], [], [(226, 0, 0, ck_one 1)]))])
set_option maxRecDepth 100000 in
theorem p2_s3059_e : ck_ok p2_O none [] [(309, [p2_s615]), (282, [p2_s268])] 334 [] 94 p2_s3059 = true := by decide +kernel
theorem p2_s3059_s {X : Int → Int} {LX : Nat} : ck_Ok p2_O X LX 334 p2_s3059 := ck_ok_s ⟨p2_nmu, ck_E1 (ck_S1 p2_s615_s ck_S0) (ck_E1 (ck_S1 p2_s268_s ck_S0) ck_E0)⟩ ck_X0 ck_l0 p2_s3059_e
set_option maxRecDepth 100000 in
/-- GlacierMailModel.keepsRows -/
def p2_s3060 : ck_Sum := ((0, 0, 0), 245, [.inr (.inr (.inl 226))], ([], [], []), ([(239, 0, 299)], []), [(.inr none, 245, ([], [], []))])
set_option maxRecDepth 100000 in
theorem p2_s3060_e : ck_ok p2_O none [] [] 335 [(2, [some (.inr (.inr (.inl 226))), some (.inl (0, 300, []))], ([], [], []), 100, .inl 1, true)] 146 p2_s3060 = true := by decide +kernel
theorem p2_s3060_s {X : Int → Int} {LX : Nat} : ck_Ok p2_O X LX 335 p2_s3060 := ck_ok_s ⟨p2_nmu, ck_E0⟩ ck_X0 ck_l0 p2_s3060_e
set_option maxRecDepth 100000 in
/-- GlacierMailModel.isOtherInIce -/
def p2_s3063 : ck_Sum := ((1, 0, 0), 245, [.inr (.inr (.inl 226)), .inl (0, 299, [])], ([], [], []), ([], []), [(.inr (some (.inl (ck_one 0))), 245, ([], [], [])), (.inr (some (.inl (ck_one 1))), 245, ([], [], []))])
set_option maxRecDepth 100000 in
theorem p2_s3063_e : ck_ok p2_O none [] [(259, [p2_s200])] 337 [] 100 p2_s3063 = true := by decide +kernel
theorem p2_s3063_s {X : Int → Int} {LX : Nat} : ck_Ok p2_O X LX 337 p2_s3063 := ck_ok_s ⟨p2_nmu, ck_E1 (ck_S1 p2_s200_s ck_S0) ck_E0⟩ ck_X0 ck_l0 p2_s3063_e
set_option maxRecDepth 100000 in
/-- GlacierMailModel.isOtherInIce -/
def p2_s3064 : ck_Sum := ((1, 0, 0), 245, [.inr (.inr (.inl 226)), .inl (1, 299, [])], ([], [], []), ([], []), [(.inr (some (.inl (ck_one 0))), 245, ([], [], [])), (.inr (some (.inl (ck_one 1))), 245, ([], [], []))])
set_option maxRecDepth 100000 in
theorem p2_s3064_e : ck_ok p2_O none [] [(259, [p2_s200])] 337 [] 100 p2_s3064 = true := by decide +kernel
theorem p2_s3064_s {X : Int → Int} {LX : Nat} : ck_Ok p2_O X LX 337 p2_s3064 := ck_ok_s ⟨p2_nmu, ck_E1 (ck_S1 p2_s200_s ck_S0) ck_E0⟩ ck_X0 ck_l0 p2_s3064_e
set_option maxRecDepth 100000 in
/-- GlacierMailModel.isPassing -/
def p2_s3065 : ck_Sum := ((2, 0, 0), 245, [.inr (.inr (.inl 226)), .inl (0, 299, [])], ([], [], []), ([], []), [(.inr (some (.inl (ck_one 0))), 245, ([], [], [])), (.inr (some (.inl (ck_one 1))), 245, ([], [], []))])
set_option maxRecDepth 100000 in
theorem p2_s3065_e : ck_ok p2_O none [] [(312, [p2_s624]), (337, [p2_s3063, p2_s3064])] 336 [(37, [some (.inr (.inr (.inl 226))), some (.inl (0, 299, [])), some (.inl (1, 300, []))], ([], [], []), 100, .inl 2, true)] 182 p2_s3065 = true := by decide +kernel
theorem p2_s3065_s {X : Int → Int} {LX : Nat} : ck_Ok p2_O X LX 336 p2_s3065 := ck_ok_s ⟨p2_nmu, ck_E1 (ck_S1 p2_s624_s ck_S0) (ck_E1 (ck_S1 p2_s3063_s (ck_S1 p2_s3064_s ck_S0)) ck_E0)⟩ ck_X0 ck_l0 p2_s3065_e
set_option maxRecDepth 100000 in
/-- GlacierMail.writers -/
def p2_s3070 : ck_Sum := ((8, 1, 6), 245, [.inr (.inr (.inl 1)), .inl ((-2147483648), (-1), []), .inl ((-2147483648), 2147483647, []), .inl ((-2147483648), 2147483647, [])], ([], [], []), ([], []), [(.inl 3, 245, ([], [], []))])
set_option maxRecDepth 100000 in
theorem p2_s3070_e : ck_ok p2_O none [] [(132, [p2_s293])] 186 [] 76 p2_s3070 = true := by decide +kernel
theorem p2_s3070_s {X : Int → Int} {LX : Nat} : ck_Ok p2_O X LX 186 p2_s3070 := ck_ok_s ⟨p2_nmu, ck_E1 (ck_S1 p2_s293_s ck_S0) ck_E0⟩ ck_X0 ck_l0 p2_s3070_e
set_option maxRecDepth 100000 in
/-- GlacierMail.writers -/
def p2_s3071 : ck_Sum := ((8, 1, 6), 245, [.inr (.inr (.inl 1)), .inl (6, 2147483647, []), .inl ((-2147483648), 2147483647, []), .inl ((-2147483648), 2147483647, [])], ([], [], []), ([], []), [(.inl 3, 245, ([], [], []))])
set_option maxRecDepth 100000 in
theorem p2_s3071_e : ck_ok p2_O none [] [(132, [p2_s296])] 186 [] 76 p2_s3071 = true := by decide +kernel
theorem p2_s3071_s {X : Int → Int} {LX : Nat} : ck_Ok p2_O X LX 186 p2_s3071 := ck_ok_s ⟨p2_nmu, ck_E1 (ck_S1 p2_s296_s ck_S0) ck_E0⟩ ck_X0 ck_l0 p2_s3071_e
set_option maxRecDepth 100000 in
/-- GlacierMail.needFind -/
def p2_s3072 : ck_Sum := ((7, 1, 6), 245, [.inr (.inr (.inl 1)), .inl ((-2147483648), (-1), []), .inl ((-2147483648), 2147483647, [])], ([], [], []), ([], []), [(.inl 0, 245, ([], [], []))])
set_option maxRecDepth 100000 in
theorem p2_s3072_e : ck_ok p2_O none [] [(129, [p2_s276])] 187 [] 76 p2_s3072 = true := by decide +kernel
theorem p2_s3072_s {X : Int → Int} {LX : Nat} : ck_Ok p2_O X LX 187 p2_s3072 := ck_ok_s ⟨p2_nmu, ck_E1 (ck_S1 p2_s276_s ck_S0) ck_E0⟩ ck_X0 ck_l0 p2_s3072_e
set_option maxRecDepth 100000 in
/-- GlacierMail.writers -/
def p2_s3073 : ck_Sum := ((8, 2, 12), 245, [.inr (.inr (.inl 1)), .inl (0, 5, []), .inl ((-2147483648), (-1), []), .inl ((-2147483648), 2147483647, [])], ([], [], []), ([], []), [(.inl 3, 245, ([], [], [])), (.inl 0, 245, ([], [], []))])
set_option maxRecDepth 100000 in
theorem p2_s3073_e : ck_ok p2_O none [] [(132, [p2_s299]), (187, [p2_s3072])] 186 [] 84 p2_s3073 = true := by decide +kernel
theorem p2_s3073_s {X : Int → Int} {LX : Nat} : ck_Ok p2_O X LX 186 p2_s3073 := ck_ok_s ⟨p2_nmu, ck_E1 (ck_S1 p2_s299_s ck_S0) (ck_E1 (ck_S1 p2_s3072_s ck_S0) ck_E0)⟩ ck_X0 ck_l0 p2_s3073_e
set_option maxRecDepth 100000 in
/-- GlacierMail.needFind -/
def p2_s3074 : ck_Sum := ((7, 1, 6), 245, [.inr (.inr (.inl 1)), .inl (300, 2147483647, []), .inl ((-2147483648), 2147483647, [])], ([], [], []), ([], []), [(.inl 0, 245, ([], [], []))])
set_option maxRecDepth 100000 in
theorem p2_s3074_e : ck_ok p2_O none [] [(129, [p2_s278])] 187 [] 76 p2_s3074 = true := by decide +kernel
theorem p2_s3074_s {X : Int → Int} {LX : Nat} : ck_Ok p2_O X LX 187 p2_s3074 := ck_ok_s ⟨p2_nmu, ck_E1 (ck_S1 p2_s278_s ck_S0) ck_E0⟩ ck_X0 ck_l0 p2_s3074_e
set_option maxRecDepth 100000 in
/-- GlacierMail.writers -/
def p2_s3075 : ck_Sum := ((8, 2, 12), 245, [.inr (.inr (.inl 1)), .inl (0, 5, []), .inl (300, 2147483647, []), .inl ((-2147483648), 2147483647, [])], ([], [], []), ([], []), [(.inl 3, 245, ([], [], [])), (.inl 0, 245, ([], [], []))])
set_option maxRecDepth 100000 in
theorem p2_s3075_e : ck_ok p2_O none [] [(132, [p2_s299]), (187, [p2_s3074])] 186 [] 84 p2_s3075 = true := by decide +kernel
theorem p2_s3075_s {X : Int → Int} {LX : Nat} : ck_Ok p2_O X LX 186 p2_s3075 := ck_ok_s ⟨p2_nmu, ck_E1 (ck_S1 p2_s299_s ck_S0) (ck_E1 (ck_S1 p2_s3074_s ck_S0) ck_E0)⟩ ck_X0 ck_l0 p2_s3075_e
set_option maxRecDepth 100000 in
/-- GlacierMail.needFind -/
def p2_s3076 : ck_Sum := ((6, 1, 6), 245, [.inr (.inr (.inl 1)), .inl (0, 299, []), .inl ((-2147483648), (-1), [])], ([], [], []), ([], []), [(.inl 0, 245, ([], [], []))])
set_option maxRecDepth 100000 in
theorem p2_s3076_e : ck_ok p2_O none [] [(129, [p2_s280])] 187 [] 82 p2_s3076 = true := by decide +kernel
theorem p2_s3076_s {X : Int → Int} {LX : Nat} : ck_Ok p2_O X LX 187 p2_s3076 := ck_ok_s ⟨p2_nmu, ck_E1 (ck_S1 p2_s280_s ck_S0) ck_E0⟩ ck_X0 ck_l0 p2_s3076_e
set_option maxRecDepth 100000 in
/-- GlacierMail.writers -/
def p2_s3077 : ck_Sum := ((8, 2, 12), 245, [.inr (.inr (.inl 1)), .inl (0, 5, []), .inl (0, 299, []), .inl ((-2147483648), (-1), [])], ([], [], []), ([], []), [(.inl 3, 245, ([], [], [])), (.inl 0, 245, ([], [], []))])
set_option maxRecDepth 100000 in
theorem p2_s3077_e : ck_ok p2_O none [] [(132, [p2_s299]), (187, [p2_s3076])] 186 [] 84 p2_s3077 = true := by decide +kernel
theorem p2_s3077_s {X : Int → Int} {LX : Nat} : ck_Ok p2_O X LX 186 p2_s3077 := ck_ok_s ⟨p2_nmu, ck_E1 (ck_S1 p2_s299_s ck_S0) (ck_E1 (ck_S1 p2_s3076_s ck_S0) ck_E0)⟩ ck_X0 ck_l0 p2_s3077_e
set_option maxRecDepth 100000 in
/-- GlacierMail.needFind -/
def p2_s3078 : ck_Sum := ((6, 1, 6), 245, [.inr (.inr (.inl 1)), .inl (0, 299, []), .inl (100, 2147483647, [])], ([], [], []), ([], []), [(.inl 0, 245, ([], [], []))])
set_option maxRecDepth 100000 in
theorem p2_s3078_e : ck_ok p2_O none [] [(129, [p2_s280])] 187 [] 88 p2_s3078 = true := by decide +kernel
theorem p2_s3078_s {X : Int → Int} {LX : Nat} : ck_Ok p2_O X LX 187 p2_s3078 := ck_ok_s ⟨p2_nmu, ck_E1 (ck_S1 p2_s280_s ck_S0) ck_E0⟩ ck_X0 ck_l0 p2_s3078_e
set_option maxRecDepth 100000 in
/-- GlacierMail.writers -/
def p2_s3079 : ck_Sum := ((8, 2, 12), 245, [.inr (.inr (.inl 1)), .inl (0, 5, []), .inl (0, 299, []), .inl (100, 2147483647, [])], ([], [], []), ([], []), [(.inl 3, 245, ([], [], [])), (.inl 0, 245, ([], [], []))])
set_option maxRecDepth 100000 in
theorem p2_s3079_e : ck_ok p2_O none [] [(132, [p2_s299]), (187, [p2_s3078])] 186 [] 84 p2_s3079 = true := by decide +kernel
theorem p2_s3079_s {X : Int → Int} {LX : Nat} : ck_Ok p2_O X LX 186 p2_s3079 := ck_ok_s ⟨p2_nmu, ck_E1 (ck_S1 p2_s299_s ck_S0) (ck_E1 (ck_S1 p2_s3078_s ck_S0) ck_E0)⟩ ck_X0 ck_l0 p2_s3079_e
set_option maxRecDepth 100000 in
/-- GlacierMail.needFind -/
def p2_s3080 : ck_Sum := ((1, 0, 0), 245, [.inr (.inr (.inl 1)), .inl (0, 299, []), .inl (0, 99, [])], ([], [], []), ([], []), [(.inr none, 245, ([], [], []))])
set_option maxRecDepth 100000 in
theorem p2_s3080_e : ck_ok p2_O none [] [(129, [p2_s280])] 187 [] 88 p2_s3080 = true := by decide +kernel
theorem p2_s3080_s {X : Int → Int} {LX : Nat} : ck_Ok p2_O X LX 187 p2_s3080 := ck_ok_s ⟨p2_nmu, ck_E1 (ck_S1 p2_s280_s ck_S0) ck_E0⟩ ck_X0 ck_l0 p2_s3080_e
set_option maxRecDepth 100000 in
/-- GlacierMail.latestWriting -/
def p2_s3087 : ck_Sum := ((4, 0, 0), 245, [.inr (.inr (.inl 1)), .inl (0, 7, []), .inl (0, 5, []), .inl (0, 299, []), .inl (0, 99, [])], ([], [(3, 8, 0)], []), ([(206, 2, 8)], []), [(.inr (some (.inl (ck_one (-1)))), 245, ([], [], [])), (.inr (some (.inl (0, 298, []))), 245, ([], [], [(206, 4, 4, ck_one (-1))]))])
set_option maxRecDepth 100000 in
theorem p2_s3087_e : ck_ok p2_O none [] [(10, [p2_s438]), (170, [p2_s1133]), (30, [p2_s374])] 188 [(23, [some (.inr (.inr (.inl 1))), some (.inl (0, 7, [])), some (.inl (0, 5, [])), some (.inl (0, 299, [])), some (.inl (0, 99, [])), some (.inl ((-1), 298, []))], ([], [(3, 8, 0)], []), 100, .inl 5, false)] 174 p2_s3087 = true := by decide +kernel
theorem p2_s3087_s {X : Int → Int} {LX : Nat} : ck_Ok p2_O X LX 188 p2_s3087 := ck_ok_s ⟨p2_nmu, ck_E1 (ck_S1 p2_s438_s ck_S0) (ck_E1 (ck_S1 p2_s1133_s ck_S0) (ck_E1 (ck_S1 p2_s374_s ck_S0) ck_E0))⟩ ck_X0 ck_l0 p2_s3087_e
set_option maxRecDepth 100000 in
/-- GlacierMail.writers -/
def p2_s3088 : ck_Sum := ((8, 1, 6), 245, [.inr (.inr (.inl 1)), .inl (0, 5, []), .inl (0, 299, []), .inl (0, 99, [])], ([], [(3, 8, 0)], []), ([(206, 2, 8)], []), [(.inl 3, 245, ([], [], [])), (.inr (some (.inl ((-2147483648), 2147483647, []))), 245, ([], [], []))])
set_option maxRecDepth 100000 in
theorem p2_s3088_e : ck_ok p2_O none [] [(132, [p2_s299]), (187, [p2_s3080]), (9, [p2_s348]), (188, [p2_s3087])] 186 [(17, [some (.inr (.inr (.inl 1))), some (.inl (0, 5, [])), some (.inl (0, 299, [])), some (.inl (0, 99, [])), some (.inl ((-2147483648), 2147483647, [])), some (.inl (0, 9, []))], ([], [(3, 8, 0)], []), 100, .inl 5, true)] 182 p2_s3088 = true := by decide +kernel
theorem p2_s3088_s {X : Int → Int} {LX : Nat} : ck_Ok p2_O X LX 186 p2_s3088 := ck_ok_s ⟨p2_nmu, ck_E1 (ck_S1 p2_s299_s ck_S0) (ck_E1 (ck_S1 p2_s3080_s ck_S0) (ck_E1 (ck_S1 p2_s348_s ck_S0) (ck_E1 (ck_S1 p2_s3087_s ck_S0) ck_E0)))⟩ ck_X0 ck_l0 p2_s3088_e
set_option maxRecDepth 100000 in
/-- GlacierMailModel.writers -/
def p2_s3089 : ck_Sum := ((2, 0, 0), 245, [.inr (.inr (.inl 226)), .inl ((-2147483648), (-1), []), .inl ((-2147483648), 2147483647, []), .inl ((-2147483648), 2147483647, [])], ([], [], []), ([(226, 0, 0)], []), [(.inr (some (.inl (ck_one 0))), 245, ([], [], [(226, 0, 0, ck_one 1)]))])
set_option maxRecDepth 100000 in
theorem p2_s3089_e : ck_ok p2_O none [] [(288, [p2_s311]), (282, [p2_s268])] 338 [] 94 p2_s3089 = true := by decide +kernel
theorem p2_s3089_s {X : Int → Int} {LX : Nat} : ck_Ok p2_O X LX 338 p2_s3089 := ck_ok_s ⟨p2_nmu, ck_E1 (ck_S1 p2_s311_s ck_S0) (ck_E1 (ck_S1 p2_s268_s ck_S0) ck_E0)⟩ ck_X0 ck_l0 p2_s3089_e
set_option maxRecDepth 100000 in
/-- GlacierMailModel.writers -/
def p2_s3090 : ck_Sum := ((2, 0, 0), 245, [.inr (.inr (.inl 226)), .inl (6, 2147483647, []), .inl ((-2147483648), 2147483647, []), .inl ((-2147483648), 2147483647, [])], ([], [], []), ([(226, 0, 0)], []), [(.inr (some (.inl (ck_one 0))), 245, ([], [], [(226, 0, 0, ck_one 1)]))])
set_option maxRecDepth 100000 in
theorem p2_s3090_e : ck_ok p2_O none [] [(288, [p2_s314]), (282, [p2_s268])] 338 [] 94 p2_s3090 = true := by decide +kernel
theorem p2_s3090_s {X : Int → Int} {LX : Nat} : ck_Ok p2_O X LX 338 p2_s3090 := ck_ok_s ⟨p2_nmu, ck_E1 (ck_S1 p2_s314_s ck_S0) (ck_E1 (ck_S1 p2_s268_s ck_S0) ck_E0)⟩ ck_X0 ck_l0 p2_s3090_e
set_option maxRecDepth 100000 in
/-- GlacierMailModel.writers -/
def p2_s3091 : ck_Sum := ((2, 0, 0), 245, [.inr (.inr (.inl 226)), .inl (0, 5, []), .inl ((-2147483648), (-1), []), .inl ((-2147483648), 2147483647, [])], ([], [], []), ([(226, 0, 0)], []), [(.inr (some (.inl (ck_one 0))), 245, ([], [], [(226, 0, 0, (1, 2, []))]))])
set_option maxRecDepth 100000 in
theorem p2_s3091_e : ck_ok p2_O none [] [(288, [p2_s317]), (282, [p2_s268, p2_s269, p2_s272]), (285, [p2_s284])] 338 [] 112 p2_s3091 = true := by decide +kernel
theorem p2_s3091_s {X : Int → Int} {LX : Nat} : ck_Ok p2_O X LX 338 p2_s3091 := ck_ok_s ⟨p2_nmu, ck_E1 (ck_S1 p2_s317_s ck_S0) (ck_E1 (ck_S1 p2_s268_s (ck_S1 p2_s269_s (ck_S1 p2_s272_s ck_S0))) (ck_E1 (ck_S1 p2_s284_s ck_S0) ck_E0))⟩ ck_X0 ck_l0 p2_s3091_e
set_option maxRecDepth 100000 in
/-- GlacierMailModel.writers -/
def p2_s3092 : ck_Sum := ((2, 0, 0), 245, [.inr (.inr (.inl 226)), .inl (0, 5, []), .inl (300, 2147483647, []), .inl ((-2147483648), 2147483647, [])], ([], [], []), ([(226, 0, 0)], []), [(.inr (some (.inl (ck_one 0))), 245, ([], [], [(226, 0, 0, (1, 2, []))]))])
set_option maxRecDepth 100000 in
theorem p2_s3092_e : ck_ok p2_O none [] [(288, [p2_s317]), (282, [p2_s268, p2_s269, p2_s272]), (285, [p2_s287])] 338 [] 112 p2_s3092 = true := by decide +kernel
theorem p2_s3092_s {X : Int → Int} {LX : Nat} : ck_Ok p2_O X LX 338 p2_s3092 := ck_ok_s ⟨p2_nmu, ck_E1 (ck_S1 p2_s317_s ck_S0) (ck_E1 (ck_S1 p2_s268_s (ck_S1 p2_s269_s (ck_S1 p2_s272_s ck_S0))) (ck_E1 (ck_S1 p2_s287_s ck_S0) ck_E0))⟩ ck_X0 ck_l0 p2_s3092_e
set_option maxRecDepth 100000 in
/-- GlacierMailModel.in -/
def p2_s3093 : ck_Sum := ((0, 0, 0), 245, [.inl ((-2147483648), (-1), []), .inl (ck_one 0), .inl (ck_one 99)], ([], [], []), ([], []), [(.inr (some (.inl (ck_one 0))), 245, ([], [], []))])
set_option maxRecDepth 100000 in
theorem p2_s3093_e : ck_ok p2_O none [] [] 286 [] 80 p2_s3093 = true := by decide +kernel
theorem p2_s3093_s {X : Int → Int} {LX : Nat} : ck_Ok p2_O X LX 286 p2_s3093 := ck_ok_s ⟨p2_nmu, ck_E0⟩ ck_X0 ck_l0 p2_s3093_e
set_option maxRecDepth 100000 in
/-- GlacierMailModel.writers -/
def p2_s3094 : ck_Sum := ((2, 0, 0), 245, [.inr (.inr (.inl 226)), .inl (0, 5, []), .inl (0, 299, []), .inl ((-2147483648), (-1), [])], ([], [], []), ([(226, 0, 0)], []), [(.inr (some (.inl (ck_one 0))), 245, ([], [], [(226, 0, 0, (1, 2, []))]))])
set_option maxRecDepth 100000 in
theorem p2_s3094_e : ck_ok p2_O none [] [(288, [p2_s317]), (282, [p2_s268, p2_s269, p2_s272]), (285, [p2_s290]), (286, [p2_s3093])] 338 [] 122 p2_s3094 = true := by decide +kernel
theorem p2_s3094_s {X : Int → Int} {LX : Nat} : ck_Ok p2_O X LX 338 p2_s3094 := ck_ok_s ⟨p2_nmu, ck_E1 (ck_S1 p2_s317_s ck_S0) (ck_E1 (ck_S1 p2_s268_s (ck_S1 p2_s269_s (ck_S1 p2_s272_s ck_S0))) (ck_E1 (ck_S1 p2_s290_s ck_S0) (ck_E1 (ck_S1 p2_s3093_s ck_S0) ck_E0)))⟩ ck_X0 ck_l0 p2_s3094_e
set_option maxRecDepth 100000 in
/-- GlacierMailModel.in -/
def p2_s3095 : ck_Sum := ((0, 0, 0), 245, [.inl (100, 2147483647, []), .inl (ck_one 0), .inl (ck_one 99)], ([], [], []), ([], []), [(.inr (some (.inl (ck_one 0))), 245, ([], [], []))])
set_option maxRecDepth 100000 in
theorem p2_s3095_e : ck_ok p2_O none [] [] 286 [] 86 p2_s3095 = true := by decide +kernel
theorem p2_s3095_s {X : Int → Int} {LX : Nat} : ck_Ok p2_O X LX 286 p2_s3095 := ck_ok_s ⟨p2_nmu, ck_E0⟩ ck_X0 ck_l0 p2_s3095_e
set_option maxRecDepth 100000 in
/-- GlacierMailModel.writers -/
def p2_s3096 : ck_Sum := ((2, 0, 0), 245, [.inr (.inr (.inl 226)), .inl (0, 5, []), .inl (0, 299, []), .inl (100, 2147483647, [])], ([], [], []), ([(226, 0, 0)], []), [(.inr (some (.inl (ck_one 0))), 245, ([], [], [(226, 0, 0, (1, 2, []))]))])
set_option maxRecDepth 100000 in
theorem p2_s3096_e : ck_ok p2_O none [] [(288, [p2_s317]), (282, [p2_s268, p2_s269, p2_s272]), (285, [p2_s290]), (286, [p2_s3095])] 338 [] 122 p2_s3096 = true := by decide +kernel
theorem p2_s3096_s {X : Int → Int} {LX : Nat} : ck_Ok p2_O X LX 338 p2_s3096 := ck_ok_s ⟨p2_nmu, ck_E1 (ck_S1 p2_s317_s ck_S0) (ck_E1 (ck_S1 p2_s268_s (ck_S1 p2_s269_s (ck_S1 p2_s272_s ck_S0))) (ck_E1 (ck_S1 p2_s290_s ck_S0) (ck_E1 (ck_S1 p2_s3095_s ck_S0) ck_E0)))⟩ ck_X0 ck_l0 p2_s3096_e
set_option maxRecDepth 100000 in
/-- GlacierMailModel.in -/
def p2_s3097 : ck_Sum := ((0, 0, 0), 245, [.inl (0, 99, []), .inl (ck_one 0), .inl (ck_one 99)], ([], [], []), ([], []), [(.inr (some (.inl (ck_one 1))), 245, ([], [], []))])
set_option maxRecDepth 100000 in
theorem p2_s3097_e : ck_ok p2_O none [] [] 286 [] 88 p2_s3097 = true := by decide +kernel
theorem p2_s3097_s {X : Int → Int} {LX : Nat} : ck_Ok p2_O X LX 286 p2_s3097 := ck_ok_s ⟨p2_nmu, ck_E0⟩ ck_X0 ck_l0 p2_s3097_e
set_option maxRecDepth 100000 in
/-- GlacierMail.wrote -/
def p2_s3107 : ck_Sum := ((8, 1, 6), 245, [.inr (.inr (.inl 1)), .inl ((-2147483648), (-1), []), .inl ((-2147483648), 2147483647, []), .inl ((-2147483648), 2147483647, []), .inl ((-2147483648), 2147483647, [])], ([], [], []), ([], []), [(.inl 3, 245, ([], [], []))])
set_option maxRecDepth 100000 in
theorem p2_s3107_e : ck_ok p2_O none [] [(139, [p2_s350])] 190 [] 76 p2_s3107 = true := by decide +kernel
theorem p2_s3107_s {X : Int → Int} {LX : Nat} : ck_Ok p2_O X LX 190 p2_s3107 := ck_ok_s ⟨p2_nmu, ck_E1 (ck_S1 p2_s350_s ck_S0) ck_E0⟩ ck_X0 ck_l0 p2_s3107_e
set_option maxRecDepth 100000 in
/-- GlacierMail.wrote -/
def p2_s3108 : ck_Sum := ((8, 1, 6), 245, [.inr (.inr (.inl 1)), .inl (8, 2147483647, []), .inl ((-2147483648), 2147483647, []), .inl ((-2147483648), 2147483647, []), .inl ((-2147483648), 2147483647, [])], ([], [], []), ([], []), [(.inl 3, 245, ([], [], []))])
set_option maxRecDepth 100000 in
theorem p2_s3108_e : ck_ok p2_O none [] [(139, [p2_s353])] 190 [] 76 p2_s3108 = true := by decide +kernel
theorem p2_s3108_s {X : Int → Int} {LX : Nat} : ck_Ok p2_O X LX 190 p2_s3108 := ck_ok_s ⟨p2_nmu, ck_E1 (ck_S1 p2_s353_s ck_S0) ck_E0⟩ ck_X0 ck_l0 p2_s3108_e
