/-! EVERY CALL ENDS, whatever was done before (laid by wip/am/p2g.py). -/
set_option maxRecDepth 100000 in
/-- GlacierMail$Rows.put -/
def p2_s901 : ck_Sum := ((0, 0, 0), 245, [.inr (.inr (.inl 10)), .inl (0, 23, []), .inl (ck_one 5), .inl (0, 299, [])], ([], [], []), ([(11, 5, 5), (11, 12, 12), (11, 19, 19), (11, 26, 26), (11, 33, 33), (11, 40, 40), (11, 47, 47), (11, 54, 54), (11, 61, 61), (11, 68, 68), (11, 75, 75), (11, 82, 82), (11, 89, 89), (11, 96, 96), (11, 103, 103), (11, 110, 110), (11, 117, 117), (11, 124, 124), (11, 131, 131), (11, 138, 138), (11, 145, 145), (11, 152, 152), (11, 159, 159), (11, 166, 166)], []), [(.inr none, 245, ([], [], []))])
set_option maxRecDepth 100000 in
theorem p2_s901_e : ck_ok p2_O none [] [] 45 [] 116 p2_s901 = true := by decide +kernel
theorem p2_s901_s {X : Int → Int} {LX : Nat} : ck_Ok p2_O X LX 45 p2_s901 := ck_ok_s ⟨p2_nmu, ck_E0⟩ ck_X0 ck_l0 p2_s901_e
set_option maxRecDepth 100000 in
/-- GlacierMail$Rows.put -/
def p2_s824 : ck_Sum := ((0, 0, 0), 245, [.inr (.inr (.inl 14)), .inl (0, 23, []), .inl (ck_one 2), .inl (0, 299, [])], ([], [], []), ([(15, 2, 2), (15, 5, 5), (15, 8, 8), (15, 11, 11), (15, 14, 14), (15, 17, 17), (15, 20, 20), (15, 23, 23), (15, 26, 26), (15, 29, 29), (15, 32, 32), (15, 35, 35), (15, 38, 38), (15, 41, 41), (15, 44, 44), (15, 47, 47), (15, 50, 50), (15, 53, 53), (15, 56, 56), (15, 59, 59), (15, 62, 62), (15, 65, 65), (15, 68, 68), (15, 71, 71)], []), [(.inr none, 245, ([], [], []))])
set_option maxRecDepth 100000 in
theorem p2_s824_e : ck_ok p2_O none [] [] 45 [] 116 p2_s824 = true := by decide +kernel
theorem p2_s824_s {X : Int → Int} {LX : Nat} : ck_Ok p2_O X LX 45 p2_s824 := ck_ok_s ⟨p2_nmu, ck_E0⟩ ck_X0 ck_l0 p2_s824_e
set_option maxRecDepth 100000 in
/-- GlacierMail$Rows.put -/
def p2_s826 : ck_Sum := ((0, 0, 0), 245, [.inr (.inr (.inl 14)), .inl (ck_one (-1)), .inl (ck_one 2), .inl (0, 299, [])], ([], [], []), ([], []), [(.inr none, 245, ([], [], []))])
set_option maxRecDepth 100000 in
theorem p2_s826_e : ck_ok p2_O none [] [] 45 [] 76 p2_s826 = true := by decide +kernel
theorem p2_s826_s {X : Int → Int} {LX : Nat} : ck_Ok p2_O X LX 45 p2_s826 := ck_ok_s ⟨p2_nmu, ck_E0⟩ ck_X0 ck_l0 p2_s826_e
set_option maxRecDepth 100000 in
/-- GlacierMail$State.openLetter -/
def p2_s902 : ck_Sum := ((1, 0, 0), 245, [.inr (.inr (.inl 3)), .inl (0, 23, []), .inl (0, 299, [])], ([], [], [(3, 6, 6, (0, 299, [(10, 0)]))]), ([(11, 5, 6), (11, 12, 13), (11, 19, 20), (11, 26, 27), (11, 33, 34), (11, 40, 41), (11, 47, 48), (11, 54, 55), (11, 61, 62), (11, 68, 69), (11, 75, 76), (11, 82, 83), (11, 89, 90), (11, 96, 97), (11, 103, 104), (11, 110, 111), (11, 117, 118), (11, 124, 125), (11, 131, 132), (11, 138, 139), (11, 145, 146), (11, 152, 153), (11, 159, 160), (11, 166, 167), (14, 3, 3), (15, 0, 71)], []), [(.inr none, 245, ([], [], [(14, 3, 3, (1, 24, []))]))])
set_option maxRecDepth 100000 in
theorem p2_s902_e : ck_ok p2_O none [] [(45, [p2_s901, p2_s793, p2_s795, p2_s796, p2_s824, p2_s798, p2_s799, p2_s826]), (102, [p2_s794])] 159 [] 144 p2_s902 = true := by decide +kernel
theorem p2_s902_s {X : Int → Int} {LX : Nat} : ck_Ok p2_O X LX 159 p2_s902 := ck_ok_s ⟨p2_nmu, ck_E1 (ck_S1 p2_s901_s (ck_S1 p2_s793_s (ck_S1 p2_s795_s (ck_S1 p2_s796_s (ck_S1 p2_s824_s (ck_S1 p2_s798_s (ck_S1 p2_s799_s (ck_S1 p2_s826_s ck_S0)))))))) (ck_E1 (ck_S1 p2_s794_s ck_S0) ck_E0)⟩ ck_X0 ck_l0 p2_s902_e
set_option maxRecDepth 100000 in
/-- GlacierMail.oneYearMore -/
def p2_s903 : ck_Sum := ((3, 0, 0), 245, [.inr (.inr (.inl 1))], ([], [(3, 8, 0)], [(3, 6, 6, (0, 298, [(10, 0)]))]), ([(3, 6, 6), (11, 5, 6), (11, 12, 13), (11, 19, 20), (11, 26, 27), (11, 33, 34), (11, 40, 41), (11, 47, 48), (11, 54, 55), (11, 61, 62), (11, 68, 69), (11, 75, 76), (11, 82, 83), (11, 89, 90), (11, 96, 97), (11, 103, 104), (11, 110, 111), (11, 117, 118), (11, 124, 125), (11, 131, 132), (11, 138, 139), (11, 145, 146), (11, 152, 153), (11, 159, 160), (11, 166, 167), (14, 3, 3), (15, 0, 71)], []), [(.inr (some (.inl ((-2147483648), 2147483647, []))), 245, ([], [], [(3, 6, 6, (1, 299, [(10, 1)]))]))])
set_option maxRecDepth 100000 in
theorem p2_s903_e : ck_ok p2_O none [] [(9, [p2_s359]), (66, [p2_s434]), (163, [p2_s900]), (159, [p2_s902])] 162 [(17, [some (.inr (.inr (.inl 1))), some (.inl ((-2147483648), 2147483647, [])), some (.inl (0, 24, [])), none], ([], [(3, 8, 0)], [(3, 6, 6, (1, 299, [(10, 1)]))]), 100, .inl 2, true)] 194 p2_s903 = true := by decide +kernel
theorem p2_s903_s {X : Int → Int} {LX : Nat} : ck_Ok p2_O X LX 162 p2_s903 := ck_ok_s ⟨p2_nmu, ck_E1 (ck_S1 p2_s359_s ck_S0) (ck_E1 (ck_S1 p2_s434_s ck_S0) (ck_E1 (ck_S1 p2_s900_s ck_S0) (ck_E1 (ck_S1 p2_s902_s ck_S0) ck_E0)))⟩ ck_X0 ck_l0 p2_s903_e
set_option maxRecDepth 100000 in
/-- GlacierMailModel.in -/
def p2_s905 : ck_Sum := ((0, 0, 0), 245, [.inl ((-2147483648), 0, []), .inl (ck_one 1), .inl (ck_one 50)], ([], [], []), ([], []), [(.inr (some (.inl (ck_one 0))), 245, ([], [], []))])
set_option maxRecDepth 100000 in
theorem p2_s905_e : ck_ok p2_O none [] [] 286 [] 80 p2_s905 = true := by decide +kernel
theorem p2_s905_s {X : Int → Int} {LX : Nat} : ck_Ok p2_O X LX 286 p2_s905 := ck_ok_s ⟨p2_nmu, ck_E0⟩ ck_X0 ck_l0 p2_s905_e
set_option maxRecDepth 100000 in
/-- GlacierMailModel.in -/
def p2_s907 : ck_Sum := ((0, 0, 0), 245, [.inl (51, 2147483647, []), .inl (ck_one 1), .inl (ck_one 50)], ([], [], []), ([], []), [(.inr (some (.inl (ck_one 0))), 245, ([], [], []))])
set_option maxRecDepth 100000 in
theorem p2_s907_e : ck_ok p2_O none [] [] 286 [] 86 p2_s907 = true := by decide +kernel
theorem p2_s907_s {X : Int → Int} {LX : Nat} : ck_Ok p2_O X LX 286 p2_s907 := ck_ok_s ⟨p2_nmu, ck_E0⟩ ck_X0 ck_l0 p2_s907_e
set_option maxRecDepth 100000 in
/-- GlacierMailModel.in -/
def p2_s909 : ck_Sum := ((0, 0, 0), 245, [.inl (1, 50, []), .inl (ck_one 1), .inl (ck_one 50)], ([], [], []), ([], []), [(.inr (some (.inl (ck_one 1))), 245, ([], [], []))])
set_option maxRecDepth 100000 in
theorem p2_s909_e : ck_ok p2_O none [] [] 286 [] 88 p2_s909 = true := by decide +kernel
theorem p2_s909_s {X : Int → Int} {LX : Nat} : ck_Ok p2_O X LX 286 p2_s909 := ck_ok_s ⟨p2_nmu, ck_E0⟩ ck_X0 ck_l0 p2_s909_e
set_option maxRecDepth 100000 in
/-- GlacierMailModel.of -/
def p2_s911 : ck_Sum := ((0, 0, 0), 245, [.inr (.inr (.inl 226)), .inl (ck_one (-1)), .inl (ck_one 2)], ([], [], []), ([], []), [(.inr (some (.inl (0, 20, []))), 245, ([], [], []))])
set_option maxRecDepth 100000 in
theorem p2_s911_e : ck_ok p2_O none [] [] 299 [] 92 p2_s911 = true := by decide +kernel
theorem p2_s911_s {X : Int → Int} {LX : Nat} : ck_Ok p2_O X LX 299 p2_s911 := ck_ok_s ⟨p2_nmu, ck_E0⟩ ck_X0 ck_l0 p2_s911_e
set_option maxRecDepth 100000 in
/-- GlacierMailModel.sumOf -/
def p2_s913 : ck_Sum := ((0, 0, 0), 245, [.inr (.inr (.inl 226)), .inl (ck_one 2)], ([], [], []), ([], []), [(.inr (some (.inl (ck_one 0))), 245, ([], [], []))])
set_option maxRecDepth 100000 in
theorem p2_s913_e : ck_ok p2_O none [] [] 294 [(4, [some (.inr (.inr (.inl 226))), some (.inl (ck_one 2)), some (.inl (ck_one 0)), some (.inl (ck_one 0))], ([], [], []), 100, .inl 2, true)] 146 p2_s913 = true := by decide +kernel
theorem p2_s913_s {X : Int → Int} {LX : Nat} : ck_Ok p2_O X LX 294 p2_s913 := ck_ok_s ⟨p2_nmu, ck_E0⟩ ck_X0 ck_l0 p2_s913_e
set_option maxRecDepth 100000 in
/-- GlacierMailModel.mayOpen -/
def p2_s1101 : ck_Sum := ((1, 0, 0), 245, [.inr (.inr (.inl 226)), .inl (0, 7, []), .inl (0, 23, [])], ([], [], [(226, 29, 29, (0, 299, [])), (227, 9, 9, (1, 299, [(11, 0)]))]), ([(226, 17, 23)], []), [(.inr (some (.inl (ck_one 0))), 245, ([], [], [(226, 22, 22, ((-298), 299, [])), (226, 20, 20, ck_one 0), (226, 19, 19, (1, 299, [(11, 0)])), (226, 18, 18, (10, 99, []))]))])
set_option maxRecDepth 100000 in
theorem p2_s1101_e : ck_ok p2_O none [] [(301, [p2_s457, p2_s459]), (259, [p2_s200]), (266, [p2_s207]), (294, [p2_s913])] 323 [] 154 p2_s1101 = true := by decide +kernel
theorem p2_s1101_s {X : Int → Int} {LX : Nat} : ck_Ok p2_O X LX 323 p2_s1101 := ck_ok_s ⟨p2_nmu, ck_E1 (ck_S1 p2_s457_s (ck_S1 p2_s459_s ck_S0)) (ck_E1 (ck_S1 p2_s200_s ck_S0) (ck_E1 (ck_S1 p2_s207_s ck_S0) (ck_E1 (ck_S1 p2_s913_s ck_S0) ck_E0)))⟩ ck_X0 ck_l0 p2_s1101_e
set_option maxRecDepth 100000 in
/-- GlacierMailModel.opener -/
def p2_s1102 : ck_Sum := ((2, 0, 0), 245, [.inr (.inr (.inl 226)), .inl (0, 23, [])], ([], [], [(226, 29, 29, (0, 299, [])), (227, 9, 9, (1, 299, [(11, 0)])), (227, 3, 3, (0, 8, [(21, 0)]))]), ([(226, 17, 23)], []), [(.inr (some (.inl (ck_one (-1)))), 245, ([], [], [])), (.inr (some (.inl (0, 7, []))), 245, ([], [], []))])
set_option maxRecDepth 100000 in
theorem p2_s1102_e : ck_ok p2_O none [] [(301, [p2_s457, p2_s594]), (299, [p2_s911, p2_s784]), (253, [p2_s214]), (323, [p2_s1101])] 322 [(31, [some (.inr (.inr (.inl 226))), some (.inl (0, 23, [])), some (.inl (0, 6, [])), some (.inl (0, 8, []))], ([], [], [(226, 29, 29, (0, 299, [])), (227, 9, 9, (1, 299, [(11, 0)])), (227, 3, 3, (0, 8, [(21, 0)]))]), 100, .inl 3, true)] 166 p2_s1102 = true := by decide +kernel
theorem p2_s1102_s {X : Int → Int} {LX : Nat} : ck_Ok p2_O X LX 322 p2_s1102 := ck_ok_s ⟨p2_nmu, ck_E1 (ck_S1 p2_s457_s (ck_S1 p2_s594_s ck_S0)) (ck_E1 (ck_S1 p2_s911_s (ck_S1 p2_s784_s ck_S0)) (ck_E1 (ck_S1 p2_s214_s ck_S0) (ck_E1 (ck_S1 p2_s1101_s ck_S0) ck_E0)))⟩ ck_X0 ck_l0 p2_s1102_e
set_option maxRecDepth 100000 in
/-- GlacierMail.throwsFor -/
def p2_s1105 : ck_Sum := ((8, 1, 6), 245, [.inr (.inr (.inl 1)), .inl ((-2147483648), (-1), []), .inl ((-2147483648), 2147483647, []), .inl ((-2147483648), 2147483647, []), .inl ((-2147483648), 2147483647, [])], ([], [], []), ([], []), [(.inl 3, 245, ([], [], []))])
set_option maxRecDepth 100000 in
theorem p2_s1105_e : ck_ok p2_O none [] [(132, [p2_s293])] 167 [] 76 p2_s1105 = true := by decide +kernel
theorem p2_s1105_s {X : Int → Int} {LX : Nat} : ck_Ok p2_O X LX 167 p2_s1105 := ck_ok_s ⟨p2_nmu, ck_E1 (ck_S1 p2_s293_s ck_S0) ck_E0⟩ ck_X0 ck_l0 p2_s1105_e
set_option maxRecDepth 100000 in
/-- GlacierMail.throwsFor -/
def p2_s1106 : ck_Sum := ((8, 1, 6), 245, [.inr (.inr (.inl 1)), .inl (6, 2147483647, []), .inl ((-2147483648), 2147483647, []), .inl ((-2147483648), 2147483647, []), .inl ((-2147483648), 2147483647, [])], ([], [], []), ([], []), [(.inl 3, 245, ([], [], []))])
set_option maxRecDepth 100000 in
theorem p2_s1106_e : ck_ok p2_O none [] [(132, [p2_s296])] 167 [] 76 p2_s1106 = true := by decide +kernel
theorem p2_s1106_s {X : Int → Int} {LX : Nat} : ck_Ok p2_O X LX 167 p2_s1106 := ck_ok_s ⟨p2_nmu, ck_E1 (ck_S1 p2_s296_s ck_S0) ck_E0⟩ ck_X0 ck_l0 p2_s1106_e
set_option maxRecDepth 100000 in
/-- GlacierMail.throwsFor -/
def p2_s1107 : ck_Sum := ((8, 2, 12), 245, [.inr (.inr (.inl 1)), .inl (0, 5, []), .inl ((-2147483648), (-1), []), .inl ((-2147483648), 2147483647, []), .inl ((-2147483648), 2147483647, [])], ([], [], []), ([], []), [(.inl 3, 245, ([], [], [])), (.inl 0, 245, ([], [], []))])
set_option maxRecDepth 100000 in
theorem p2_s1107_e : ck_ok p2_O none [] [(132, [p2_s299]), (129, [p2_s276])] 167 [] 82 p2_s1107 = true := by decide +kernel
theorem p2_s1107_s {X : Int → Int} {LX : Nat} : ck_Ok p2_O X LX 167 p2_s1107 := ck_ok_s ⟨p2_nmu, ck_E1 (ck_S1 p2_s299_s ck_S0) (ck_E1 (ck_S1 p2_s276_s ck_S0) ck_E0)⟩ ck_X0 ck_l0 p2_s1107_e
set_option maxRecDepth 100000 in
/-- GlacierMail.throwsFor -/
def p2_s1108 : ck_Sum := ((8, 2, 12), 245, [.inr (.inr (.inl 1)), .inl (0, 5, []), .inl (300, 2147483647, []), .inl ((-2147483648), 2147483647, []), .inl ((-2147483648), 2147483647, [])], ([], [], []), ([], []), [(.inl 3, 245, ([], [], [])), (.inl 0, 245, ([], [], []))])
set_option maxRecDepth 100000 in
theorem p2_s1108_e : ck_ok p2_O none [] [(132, [p2_s299]), (129, [p2_s278])] 167 [] 82 p2_s1108 = true := by decide +kernel
theorem p2_s1108_s {X : Int → Int} {LX : Nat} : ck_Ok p2_O X LX 167 p2_s1108 := ck_ok_s ⟨p2_nmu, ck_E1 (ck_S1 p2_s299_s ck_S0) (ck_E1 (ck_S1 p2_s278_s ck_S0) ck_E0)⟩ ck_X0 ck_l0 p2_s1108_e
set_option maxRecDepth 100000 in
/-- GlacierMail.throwsFor -/
def p2_s1109 : ck_Sum := ((8, 2, 12), 245, [.inr (.inr (.inl 1)), .inl (0, 5, []), .inl (0, 299, []), .inl ((-2147483648), (-1), []), .inl ((-2147483648), 2147483647, [])], ([], [], []), ([], []), [(.inl 3, 245, ([], [], [])), (.inl 0, 245, ([], [], []))])
set_option maxRecDepth 100000 in
theorem p2_s1109_e : ck_ok p2_O none [] [(132, [p2_s299]), (129, [p2_s280, p2_s276])] 167 [] 88 p2_s1109 = true := by decide +kernel
theorem p2_s1109_s {X : Int → Int} {LX : Nat} : ck_Ok p2_O X LX 167 p2_s1109 := ck_ok_s ⟨p2_nmu, ck_E1 (ck_S1 p2_s299_s ck_S0) (ck_E1 (ck_S1 p2_s280_s (ck_S1 p2_s276_s ck_S0)) ck_E0)⟩ ck_X0 ck_l0 p2_s1109_e
set_option maxRecDepth 100000 in
/-- GlacierMail.throwsFor -/
def p2_s1110 : ck_Sum := ((8, 2, 12), 245, [.inr (.inr (.inl 1)), .inl (0, 5, []), .inl (0, 299, []), .inl (300, 2147483647, []), .inl ((-2147483648), 2147483647, [])], ([], [], []), ([], []), [(.inl 3, 245, ([], [], [])), (.inl 0, 245, ([], [], []))])
set_option maxRecDepth 100000 in
theorem p2_s1110_e : ck_ok p2_O none [] [(132, [p2_s299]), (129, [p2_s280, p2_s278])] 167 [] 88 p2_s1110 = true := by decide +kernel
theorem p2_s1110_s {X : Int → Int} {LX : Nat} : ck_Ok p2_O X LX 167 p2_s1110 := ck_ok_s ⟨p2_nmu, ck_E1 (ck_S1 p2_s299_s ck_S0) (ck_E1 (ck_S1 p2_s280_s (ck_S1 p2_s278_s ck_S0)) ck_E0)⟩ ck_X0 ck_l0 p2_s1110_e
set_option maxRecDepth 100000 in
/-- GlacierMail.throwsFor -/
def p2_s1111 : ck_Sum := ((8, 2, 12), 245, [.inr (.inr (.inl 1)), .inl (0, 5, []), .inl (0, 299, []), .inl (0, 299, []), .inl ((-2147483648), (-1), [])], ([], [], [(3, 6, 6, (0, 299, [(10, 0)]))]), ([], []), [(.inl 3, 245, ([], [], [])), (.inl 4, 245, ([], [], [])), (.inl 0, 245, ([], [], [(3, 6, 6, (1, 299, [(10, 0)]))]))])
set_option maxRecDepth 100000 in
theorem p2_s1111_e : ck_ok p2_O none [] [(132, [p2_s299]), (129, [p2_s280])] 167 [] 104 p2_s1111 = true := by decide +kernel
theorem p2_s1111_s {X : Int → Int} {LX : Nat} : ck_Ok p2_O X LX 167 p2_s1111 := ck_ok_s ⟨p2_nmu, ck_E1 (ck_S1 p2_s299_s ck_S0) (ck_E1 (ck_S1 p2_s280_s ck_S0) ck_E0)⟩ ck_X0 ck_l0 p2_s1111_e
set_option maxRecDepth 100000 in
/-- GlacierMail.throwsFor -/
def p2_s1112 : ck_Sum := ((8, 2, 12), 245, [.inr (.inr (.inl 1)), .inl (0, 5, []), .inl (0, 299, []), .inl (0, 299, []), .inl (10, 2147483647, [])], ([], [], [(3, 6, 6, (0, 299, [(10, 0)]))]), ([], []), [(.inl 3, 245, ([], [], [])), (.inl 4, 245, ([], [], [])), (.inl 0, 245, ([], [], [(3, 6, 6, (1, 299, [(10, 0)]))]))])
set_option maxRecDepth 100000 in
theorem p2_s1112_e : ck_ok p2_O none [] [(132, [p2_s299]), (129, [p2_s280])] 167 [] 110 p2_s1112 = true := by decide +kernel
theorem p2_s1112_s {X : Int → Int} {LX : Nat} : ck_Ok p2_O X LX 167 p2_s1112 := ck_ok_s ⟨p2_nmu, ck_E1 (ck_S1 p2_s299_s ck_S0) (ck_E1 (ck_S1 p2_s280_s ck_S0) ck_E0)⟩ ck_X0 ck_l0 p2_s1112_e
set_option maxRecDepth 100000 in
/-- GlacierMail$Way.start -/
def p2_s1113 : ck_Sum := ((0, 0, 0), 245, [.inr (.inr (.inl 206)), .inl ((-2147483648), 2147483647, []), .inl ((-2147483648), 2147483647, []), .inl (0, 299, []), .inl (0, 1, [])], ([], [], []), ([(206, 2, 8)], []), [(.inr none, 245, ([], [], [(206, 8, 8, ck_one 0), (206, 6, 6, ck_one 0), (206, 4, 4, ck_one (-1)), (206, 7, 7, (0, 299, []))]))])
set_option maxRecDepth 100000 in
theorem p2_s1113_e : ck_ok p2_O none [] [] 29 [] 114 p2_s1113 = true := by decide +kernel
theorem p2_s1113_s {X : Int → Int} {LX : Nat} : ck_Ok p2_O X LX 29 p2_s1113 := ck_ok_s ⟨p2_nmu, ck_E0⟩ ck_X0 ck_l0 p2_s1113_e
set_option maxRecDepth 100000 in
/-- GlacierMail.throwsFor -/
def p2_s1114 : ck_Sum := ((8, 2, 12), 245, [.inr (.inr (.inl 1)), .inl (0, 5, []), .inl (0, 299, []), .inl (0, 299, []), .inl (0, 9, [])], ([], [(3, 8, 0)], [(3, 6, 6, (0, 299, [(10, 0)]))]), ([(206, 2, 8)], []), [(.inl 3, 245, ([], [], [])), (.inl 4, 245, ([], [], [])), (.inl 0, 245, ([], [], [(3, 6, 6, (1, 299, [(10, 0)]))])), (.inr (some (.inl ((-2147483648), 2147483647, []))), 245, ([], [], []))])
set_option maxRecDepth 100000 in
theorem p2_s1114_e : ck_ok p2_O none [] [(132, [p2_s299]), (129, [p2_s280]), (29, [p2_s1113]), (30, [p2_s374])] 167 [(71, [some (.inr (.inr (.inl 1))), some (.inl (0, 5, [])), some (.inl (0, 299, [])), some (.inl (0, 299, [])), some (.inl (0, 2, [])), some (.inl ((-2147483648), 2147483647, [])), some (.inl ((-1), 167, [])), some (.inl ((-1), 167, [])), some (.inl (0, 167, []))], ([], [(3, 8, 0)], [(3, 6, 6, (0, 299, [(10, 0)]))]), 100, .inl 8, true)] 210 p2_s1114 = true := by decide +kernel
theorem p2_s1114_s {X : Int → Int} {LX : Nat} : ck_Ok p2_O X LX 167 p2_s1114 := ck_ok_s ⟨p2_nmu, ck_E1 (ck_S1 p2_s299_s ck_S0) (ck_E1 (ck_S1 p2_s280_s ck_S0) (ck_E1 (ck_S1 p2_s1113_s ck_S0) (ck_E1 (ck_S1 p2_s374_s ck_S0) ck_E0)))⟩ ck_X0 ck_l0 p2_s1114_e
set_option maxRecDepth 100000 in
/-- GlacierMailModel.throwsFor -/
def p2_s1115 : ck_Sum := ((2, 0, 0), 245, [.inr (.inr (.inl 226)), .inl ((-2147483648), (-1), []), .inl ((-2147483648), 2147483647, []), .inl ((-2147483648), 2147483647, []), .inl ((-2147483648), 2147483647, [])], ([], [], []), ([(226, 0, 0)], []), [(.inr (some (.inl (ck_one 0))), 245, ([], [], [(226, 0, 0, ck_one 1)]))])
set_option maxRecDepth 100000 in
theorem p2_s1115_e : ck_ok p2_O none [] [(288, [p2_s311]), (282, [p2_s268])] 324 [] 94 p2_s1115 = true := by decide +kernel
theorem p2_s1115_s {X : Int → Int} {LX : Nat} : ck_Ok p2_O X LX 324 p2_s1115 := ck_ok_s ⟨p2_nmu, ck_E1 (ck_S1 p2_s311_s ck_S0) (ck_E1 (ck_S1 p2_s268_s ck_S0) ck_E0)⟩ ck_X0 ck_l0 p2_s1115_e
set_option maxRecDepth 100000 in
/-- GlacierMailModel.throwsFor -/
def p2_s1116 : ck_Sum := ((2, 0, 0), 245, [.inr (.inr (.inl 226)), .inl (6, 2147483647, []), .inl ((-2147483648), 2147483647, []), .inl ((-2147483648), 2147483647, []), .inl ((-2147483648), 2147483647, [])], ([], [], []), ([(226, 0, 0)], []), [(.inr (some (.inl (ck_one 0))), 245, ([], [], [(226, 0, 0, ck_one 1)]))])
set_option maxRecDepth 100000 in
theorem p2_s1116_e : ck_ok p2_O none [] [(288, [p2_s314]), (282, [p2_s268])] 324 [] 94 p2_s1116 = true := by decide +kernel
theorem p2_s1116_s {X : Int → Int} {LX : Nat} : ck_Ok p2_O X LX 324 p2_s1116 := ck_ok_s ⟨p2_nmu, ck_E1 (ck_S1 p2_s314_s ck_S0) (ck_E1 (ck_S1 p2_s268_s ck_S0) ck_E0)⟩ ck_X0 ck_l0 p2_s1116_e
set_option maxRecDepth 100000 in
/-- GlacierMailModel.throwsFor -/
def p2_s1117 : ck_Sum := ((2, 0, 0), 245, [.inr (.inr (.inl 226)), .inl (0, 5, []), .inl ((-2147483648), (-1), []), .inl ((-2147483648), 2147483647, []), .inl ((-2147483648), 2147483647, [])], ([], [], []), ([(226, 0, 0)], []), [(.inr (some (.inl (ck_one 0))), 245, ([], [], [(226, 0, 0, (1, 2, []))]))])
set_option maxRecDepth 100000 in
theorem p2_s1117_e : ck_ok p2_O none [] [(288, [p2_s317]), (282, [p2_s268, p2_s269, p2_s272]), (285, [p2_s284])] 324 [] 112 p2_s1117 = true := by decide +kernel
theorem p2_s1117_s {X : Int → Int} {LX : Nat} : ck_Ok p2_O X LX 324 p2_s1117 := ck_ok_s ⟨p2_nmu, ck_E1 (ck_S1 p2_s317_s ck_S0) (ck_E1 (ck_S1 p2_s268_s (ck_S1 p2_s269_s (ck_S1 p2_s272_s ck_S0))) (ck_E1 (ck_S1 p2_s284_s ck_S0) ck_E0))⟩ ck_X0 ck_l0 p2_s1117_e
set_option maxRecDepth 100000 in
/-- GlacierMailModel.throwsFor -/
def p2_s1118 : ck_Sum := ((2, 0, 0), 245, [.inr (.inr (.inl 226)), .inl (0, 5, []), .inl (300, 2147483647, []), .inl ((-2147483648), 2147483647, []), .inl ((-2147483648), 2147483647, [])], ([], [], []), ([(226, 0, 0)], []), [(.inr (some (.inl (ck_one 0))), 245, ([], [], [(226, 0, 0, (1, 2, []))]))])
set_option maxRecDepth 100000 in
theorem p2_s1118_e : ck_ok p2_O none [] [(288, [p2_s317]), (282, [p2_s268, p2_s269, p2_s272]), (285, [p2_s287])] 324 [] 112 p2_s1118 = true := by decide +kernel
theorem p2_s1118_s {X : Int → Int} {LX : Nat} : ck_Ok p2_O X LX 324 p2_s1118 := ck_ok_s ⟨p2_nmu, ck_E1 (ck_S1 p2_s317_s ck_S0) (ck_E1 (ck_S1 p2_s268_s (ck_S1 p2_s269_s (ck_S1 p2_s272_s ck_S0))) (ck_E1 (ck_S1 p2_s287_s ck_S0) ck_E0))⟩ ck_X0 ck_l0 p2_s1118_e
set_option maxRecDepth 100000 in
/-- GlacierMailModel.throwsFor -/
def p2_s1119 : ck_Sum := ((2, 0, 0), 245, [.inr (.inr (.inl 226)), .inl (0, 5, []), .inl (0, 299, []), .inl ((-2147483648), (-1), []), .inl ((-2147483648), 2147483647, [])], ([], [], []), ([(226, 0, 0)], []), [(.inr (some (.inl (ck_one 0))), 245, ([], [], [(226, 0, 0, (1, 2, []))]))])
set_option maxRecDepth 100000 in
theorem p2_s1119_e : ck_ok p2_O none [] [(288, [p2_s317]), (282, [p2_s268, p2_s269, p2_s272]), (285, [p2_s290, p2_s284])] 324 [] 118 p2_s1119 = true := by decide +kernel
theorem p2_s1119_s {X : Int → Int} {LX : Nat} : ck_Ok p2_O X LX 324 p2_s1119 := ck_ok_s ⟨p2_nmu, ck_E1 (ck_S1 p2_s317_s ck_S0) (ck_E1 (ck_S1 p2_s268_s (ck_S1 p2_s269_s (ck_S1 p2_s272_s ck_S0))) (ck_E1 (ck_S1 p2_s290_s (ck_S1 p2_s284_s ck_S0)) ck_E0))⟩ ck_X0 ck_l0 p2_s1119_e
set_option maxRecDepth 100000 in
/-- GlacierMailModel.throwsFor -/
def p2_s1120 : ck_Sum := ((2, 0, 0), 245, [.inr (.inr (.inl 226)), .inl (0, 5, []), .inl (0, 299, []), .inl (300, 2147483647, []), .inl ((-2147483648), 2147483647, [])], ([], [], []), ([(226, 0, 0)], []), [(.inr (some (.inl (ck_one 0))), 245, ([], [], [(226, 0, 0, (1, 2, []))]))])
set_option maxRecDepth 100000 in
theorem p2_s1120_e : ck_ok p2_O none [] [(288, [p2_s317]), (282, [p2_s268, p2_s269, p2_s272]), (285, [p2_s290, p2_s287])] 324 [] 118 p2_s1120 = true := by decide +kernel
theorem p2_s1120_s {X : Int → Int} {LX : Nat} : ck_Ok p2_O X LX 324 p2_s1120 := ck_ok_s ⟨p2_nmu, ck_E1 (ck_S1 p2_s317_s ck_S0) (ck_E1 (ck_S1 p2_s268_s (ck_S1 p2_s269_s (ck_S1 p2_s272_s ck_S0))) (ck_E1 (ck_S1 p2_s290_s (ck_S1 p2_s287_s ck_S0)) ck_E0))⟩ ck_X0 ck_l0 p2_s1120_e
set_option maxRecDepth 100000 in
/-- GlacierMailModel.in -/
def p2_s1121 : ck_Sum := ((0, 0, 0), 245, [.inl ((-2147483648), (-1), []), .inl (ck_one 0), .inl (ck_one 2)], ([], [], []), ([], []), [(.inr (some (.inl (ck_one 0))), 245, ([], [], []))])
set_option maxRecDepth 100000 in
theorem p2_s1121_e : ck_ok p2_O none [] [] 286 [] 80 p2_s1121 = true := by decide +kernel
theorem p2_s1121_s {X : Int → Int} {LX : Nat} : ck_Ok p2_O X LX 286 p2_s1121 := ck_ok_s ⟨p2_nmu, ck_E0⟩ ck_X0 ck_l0 p2_s1121_e
set_option maxRecDepth 100000 in
/-- GlacierMailModel.throwsFor -/
def p2_s1122 : ck_Sum := ((2, 0, 0), 245, [.inr (.inr (.inl 226)), .inl (0, 5, []), .inl (0, 299, []), .inl (0, 299, []), .inl ((-2147483648), (-1), [])], ([], [], [(227, 9, 9, (0, 299, [(11, 0)]))]), ([(226, 0, 0)], []), [(.inr (some (.inl (ck_one 0))), 245, ([], [], [(226, 0, 0, (1, 3, []))]))])
set_option maxRecDepth 100000 in
theorem p2_s1122_e : ck_ok p2_O none [] [(288, [p2_s317]), (282, [p2_s268, p2_s269, p2_s270, p2_s771, p2_s272]), (285, [p2_s290]), (266, [p2_s207]), (286, [p2_s1121])] 324 [] 146 p2_s1122 = true := by decide +kernel
theorem p2_s1122_s {X : Int → Int} {LX : Nat} : ck_Ok p2_O X LX 324 p2_s1122 := ck_ok_s ⟨p2_nmu, ck_E1 (ck_S1 p2_s317_s ck_S0) (ck_E1 (ck_S1 p2_s268_s (ck_S1 p2_s269_s (ck_S1 p2_s270_s (ck_S1 p2_s771_s (ck_S1 p2_s272_s ck_S0))))) (ck_E1 (ck_S1 p2_s290_s ck_S0) (ck_E1 (ck_S1 p2_s207_s ck_S0) (ck_E1 (ck_S1 p2_s1121_s ck_S0) ck_E0))))⟩ ck_X0 ck_l0 p2_s1122_e
set_option maxRecDepth 100000 in
/-- GlacierMailModel.in -/
def p2_s1123 : ck_Sum := ((0, 0, 0), 245, [.inl (10, 2147483647, []), .inl (ck_one 0), .inl (ck_one 2)], ([], [], []), ([], []), [(.inr (some (.inl (ck_one 0))), 245, ([], [], []))])
set_option maxRecDepth 100000 in
theorem p2_s1123_e : ck_ok p2_O none [] [] 286 [] 86 p2_s1123 = true := by decide +kernel
theorem p2_s1123_s {X : Int → Int} {LX : Nat} : ck_Ok p2_O X LX 286 p2_s1123 := ck_ok_s ⟨p2_nmu, ck_E0⟩ ck_X0 ck_l0 p2_s1123_e
set_option maxRecDepth 100000 in
/-- GlacierMailModel.throwsFor -/
def p2_s1124 : ck_Sum := ((2, 0, 0), 245, [.inr (.inr (.inl 226)), .inl (0, 5, []), .inl (0, 299, []), .inl (0, 299, []), .inl (10, 2147483647, [])], ([], [], [(227, 9, 9, (0, 299, [(11, 0)]))]), ([(226, 0, 0)], []), [(.inr (some (.inl (ck_one 0))), 245, ([], [], [(226, 0, 0, (1, 3, []))]))])
set_option maxRecDepth 100000 in
theorem p2_s1124_e : ck_ok p2_O none [] [(288, [p2_s317]), (282, [p2_s268, p2_s269, p2_s270, p2_s771, p2_s272]), (285, [p2_s290]), (266, [p2_s207]), (286, [p2_s1123])] 324 [] 146 p2_s1124 = true := by decide +kernel
theorem p2_s1124_s {X : Int → Int} {LX : Nat} : ck_Ok p2_O X LX 324 p2_s1124 := ck_ok_s ⟨p2_nmu, ck_E1 (ck_S1 p2_s317_s ck_S0) (ck_E1 (ck_S1 p2_s268_s (ck_S1 p2_s269_s (ck_S1 p2_s270_s (ck_S1 p2_s771_s (ck_S1 p2_s272_s ck_S0))))) (ck_E1 (ck_S1 p2_s290_s ck_S0) (ck_E1 (ck_S1 p2_s207_s ck_S0) (ck_E1 (ck_S1 p2_s1123_s ck_S0) ck_E0))))⟩ ck_X0 ck_l0 p2_s1124_e
set_option maxRecDepth 100000 in
/-- GlacierMailModel.in -/
def p2_s1125 : ck_Sum := ((0, 0, 0), 245, [.inl (0, 9, []), .inl (ck_one 0), .inl (ck_one 2)], ([], [], []), ([], []), [(.inr (some (.inl (ck_one 0))), 245, ([], [], [])), (.inr (some (.inl (ck_one 1))), 245, ([], [], []))])
set_option maxRecDepth 100000 in
theorem p2_s1125_e : ck_ok p2_O none [] [] 286 [] 88 p2_s1125 = true := by decide +kernel
theorem p2_s1125_s {X : Int → Int} {LX : Nat} : ck_Ok p2_O X LX 286 p2_s1125 := ck_ok_s ⟨p2_nmu, ck_E0⟩ ck_X0 ck_l0 p2_s1125_e
set_option maxRecDepth 100000 in
/-- GlacierMail.latest -/
def p2_s1129 : ck_Sum := ((8, 1, 6), 245, [.inr (.inr (.inl 1)), .inl ((-2147483648), (-1), []), .inl ((-2147483648), 2147483647, [])], ([], [], []), ([], []), [(.inl 3, 245, ([], [], []))])
set_option maxRecDepth 100000 in
theorem p2_s1129_e : ck_ok p2_O none [] [(139, [p2_s350])] 169 [] 76 p2_s1129 = true := by decide +kernel
theorem p2_s1129_s {X : Int → Int} {LX : Nat} : ck_Ok p2_O X LX 169 p2_s1129 := ck_ok_s ⟨p2_nmu, ck_E1 (ck_S1 p2_s350_s ck_S0) ck_E0⟩ ck_X0 ck_l0 p2_s1129_e
set_option maxRecDepth 100000 in
/-- GlacierMail.latest -/
def p2_s1130 : ck_Sum := ((8, 1, 6), 245, [.inr (.inr (.inl 1)), .inl (8, 2147483647, []), .inl ((-2147483648), 2147483647, [])], ([], [], []), ([], []), [(.inl 3, 245, ([], [], []))])
set_option maxRecDepth 100000 in
theorem p2_s1130_e : ck_ok p2_O none [] [(139, [p2_s353])] 169 [] 76 p2_s1130 = true := by decide +kernel
theorem p2_s1130_s {X : Int → Int} {LX : Nat} : ck_Ok p2_O X LX 169 p2_s1130 := ck_ok_s ⟨p2_nmu, ck_E1 (ck_S1 p2_s353_s ck_S0) ck_E0⟩ ck_X0 ck_l0 p2_s1130_e
set_option maxRecDepth 100000 in
/-- GlacierMail.latest -/
def p2_s1131 : ck_Sum := ((8, 2, 12), 245, [.inr (.inr (.inl 1)), .inl (0, 7, []), .inl ((-2147483648), (-1), [])], ([], [], []), ([], []), [(.inl 3, 245, ([], [], [])), (.inl 0, 245, ([], [], []))])
set_option maxRecDepth 100000 in
theorem p2_s1131_e : ck_ok p2_O none [] [(139, [p2_s356]), (129, [p2_s276])] 169 [] 82 p2_s1131 = true := by decide +kernel
theorem p2_s1131_s {X : Int → Int} {LX : Nat} : ck_Ok p2_O X LX 169 p2_s1131 := ck_ok_s ⟨p2_nmu, ck_E1 (ck_S1 p2_s356_s ck_S0) (ck_E1 (ck_S1 p2_s276_s ck_S0) ck_E0)⟩ ck_X0 ck_l0 p2_s1131_e
set_option maxRecDepth 100000 in
/-- GlacierMail.latest -/
def p2_s1132 : ck_Sum := ((8, 2, 12), 245, [.inr (.inr (.inl 1)), .inl (0, 7, []), .inl (300, 2147483647, [])], ([], [], []), ([], []), [(.inl 3, 245, ([], [], [])), (.inl 0, 245, ([], [], []))])
set_option maxRecDepth 100000 in
theorem p2_s1132_e : ck_ok p2_O none [] [(139, [p2_s356]), (129, [p2_s278])] 169 [] 82 p2_s1132 = true := by decide +kernel
theorem p2_s1132_s {X : Int → Int} {LX : Nat} : ck_Ok p2_O X LX 169 p2_s1132 := ck_ok_s ⟨p2_nmu, ck_E1 (ck_S1 p2_s356_s ck_S0) (ck_E1 (ck_S1 p2_s278_s ck_S0) ck_E0)⟩ ck_X0 ck_l0 p2_s1132_e
set_option maxRecDepth 100000 in
/-- GlacierMail$Way.startHut -/
def p2_s1133 : ck_Sum := ((1, 0, 0), 245, [.inr (.inr (.inl 206)), .inl (0, 7, []), .inl (0, 299, [])], ([], [], []), ([(206, 2, 8)], []), [(.inr none, 245, ([], [], [(206, 8, 8, ck_one 0), (206, 6, 6, ck_one 0), (206, 4, 4, ck_one (-1)), (206, 7, 7, (0, 299, []))]))])
set_option maxRecDepth 100000 in
theorem p2_s1133_e : ck_ok p2_O none [] [(10, [p2_s438]), (29, [p2_s1113])] 170 [] 104 p2_s1133 = true := by decide +kernel
theorem p2_s1133_s {X : Int → Int} {LX : Nat} : ck_Ok p2_O X LX 170 p2_s1133 := ck_ok_s ⟨p2_nmu, ck_E1 (ck_S1 p2_s438_s ck_S0) (ck_E1 (ck_S1 p2_s1113_s ck_S0) ck_E0)⟩ ck_X0 ck_l0 p2_s1133_e
set_option maxRecDepth 100000 in
/-- GlacierMail.latest -/
def p2_s1134 : ck_Sum := ((8, 1, 6), 245, [.inr (.inr (.inl 1)), .inl (0, 7, []), .inl (0, 299, [])], ([], [(3, 8, 0)], [(3, 6, 6, (0, 299, [(10, 0)]))]), ([(206, 2, 8)], []), [(.inl 3, 245, ([], [], [])), (.inr (some (.inl (ck_one (-1)))), 245, ([], [], [])), (.inr (some (.inl (0, 299, []))), 245, ([], [], [(206, 4, 4, ck_one (-1))]))])
set_option maxRecDepth 100000 in
theorem p2_s1134_e : ck_ok p2_O none [] [(139, [p2_s356]), (129, [p2_s280]), (170, [p2_s1133]), (30, [p2_s374])] 169 [(12, [some (.inr (.inr (.inl 1))), some (.inl (0, 7, [])), some (.inl (0, 299, [])), some (.inl ((-1), 299, []))], ([], [(3, 8, 0)], [(3, 6, 6, (0, 299, [(10, 0)]))]), 100, .inl 3, false)] 166 p2_s1134 = true := by decide +kernel
theorem p2_s1134_s {X : Int → Int} {LX : Nat} : ck_Ok p2_O X LX 169 p2_s1134 := ck_ok_s ⟨p2_nmu, ck_E1 (ck_S1 p2_s356_s ck_S0) (ck_E1 (ck_S1 p2_s280_s ck_S0) (ck_E1 (ck_S1 p2_s1133_s ck_S0) (ck_E1 (ck_S1 p2_s374_s ck_S0) ck_E0)))⟩ ck_X0 ck_l0 p2_s1134_e
set_option maxRecDepth 100000 in
/-- GlacierMailModel.latest -/
def p2_s1135 : ck_Sum := ((2, 0, 0), 245, [.inr (.inr (.inl 226)), .inl ((-2147483648), (-1), []), .inl ((-2147483648), 2147483647, [])], ([], [], [(227, 3, 3, (0, 8, [(21, 0)]))]), ([(226, 0, 0)], []), [(.inr (some (.inl (ck_one 0))), 245, ([], [], [(226, 0, 0, ck_one 1)]))])
set_option maxRecDepth 100000 in
theorem p2_s1135_e : ck_ok p2_O none [] [(298, [p2_s441]), (282, [p2_s268])] 326 [] 94 p2_s1135 = true := by decide +kernel
theorem p2_s1135_s {X : Int → Int} {LX : Nat} : ck_Ok p2_O X LX 326 p2_s1135 := ck_ok_s ⟨p2_nmu, ck_E1 (ck_S1 p2_s441_s ck_S0) (ck_E1 (ck_S1 p2_s268_s ck_S0) ck_E0)⟩ ck_X0 ck_l0 p2_s1135_e
set_option maxRecDepth 100000 in
/-- GlacierMailModel.latest -/
def p2_s1136 : ck_Sum := ((2, 0, 0), 245, [.inr (.inr (.inl 226)), .inl (8, 2147483647, []), .inl ((-2147483648), 2147483647, [])], ([], [], [(227, 3, 3, (0, 8, [(21, 0)]))]), ([(226, 0, 0)], []), [(.inr (some (.inl (ck_one 0))), 245, ([], [], [(226, 0, 0, ck_one 1)]))])
set_option maxRecDepth 100000 in
theorem p2_s1136_e : ck_ok p2_O none [] [(298, [p2_s444]), (282, [p2_s268])] 326 [] 94 p2_s1136 = true := by decide +kernel
theorem p2_s1136_s {X : Int → Int} {LX : Nat} : ck_Ok p2_O X LX 326 p2_s1136 := ck_ok_s ⟨p2_nmu, ck_E1 (ck_S1 p2_s444_s ck_S0) (ck_E1 (ck_S1 p2_s268_s ck_S0) ck_E0)⟩ ck_X0 ck_l0 p2_s1136_e
set_option maxRecDepth 100000 in
/-- GlacierMailModel.latest -/
def p2_s1137 : ck_Sum := ((2, 0, 0), 245, [.inr (.inr (.inl 226)), .inl (0, 7, []), .inl ((-2147483648), (-1), [])], ([], [], [(227, 3, 3, (0, 8, [(21, 0)]))]), ([(226, 0, 0)], []), [(.inr (some (.inl (ck_one 0))), 245, ([], [], [(226, 0, 0, (1, 2, []))]))])
set_option maxRecDepth 100000 in
theorem p2_s1137_e : ck_ok p2_O none [] [(298, [p2_s447]), (282, [p2_s268, p2_s269, p2_s272]), (285, [p2_s284])] 326 [] 106 p2_s1137 = true := by decide +kernel
theorem p2_s1137_s {X : Int → Int} {LX : Nat} : ck_Ok p2_O X LX 326 p2_s1137 := ck_ok_s ⟨p2_nmu, ck_E1 (ck_S1 p2_s447_s ck_S0) (ck_E1 (ck_S1 p2_s268_s (ck_S1 p2_s269_s (ck_S1 p2_s272_s ck_S0))) (ck_E1 (ck_S1 p2_s284_s ck_S0) ck_E0))⟩ ck_X0 ck_l0 p2_s1137_e
set_option maxRecDepth 100000 in
/-- GlacierMailModel.latest -/
def p2_s1138 : ck_Sum := ((2, 0, 0), 245, [.inr (.inr (.inl 226)), .inl (0, 7, []), .inl (300, 2147483647, [])], ([], [], [(227, 3, 3, (0, 8, [(21, 0)]))]), ([(226, 0, 0)], []), [(.inr (some (.inl (ck_one 0))), 245, ([], [], [(226, 0, 0, (1, 2, []))]))])
set_option maxRecDepth 100000 in
theorem p2_s1138_e : ck_ok p2_O none [] [(298, [p2_s447]), (282, [p2_s268, p2_s269, p2_s272]), (285, [p2_s287])] 326 [] 106 p2_s1138 = true := by decide +kernel
theorem p2_s1138_s {X : Int → Int} {LX : Nat} : ck_Ok p2_O X LX 326 p2_s1138 := ck_ok_s ⟨p2_nmu, ck_E1 (ck_S1 p2_s447_s ck_S0) (ck_E1 (ck_S1 p2_s268_s (ck_S1 p2_s269_s (ck_S1 p2_s272_s ck_S0))) (ck_E1 (ck_S1 p2_s287_s ck_S0) ck_E0))⟩ ck_X0 ck_l0 p2_s1138_e
set_option maxRecDepth 100000 in
/-- GlacierMail.hut -/
def p2_s2948 : ck_Sum := ((8, 1, 6), 245, [.inr (.inr (.inl 1)), .inl ((-2147483648), (-1), []), .inl ((-2147483648), 2147483647, [])], ([], [], []), ([], []), [(.inl 3, 245, ([], [], []))])
set_option maxRecDepth 100000 in
theorem p2_s2948_e : ck_ok p2_O none [] [(132, [p2_s293])] 172 [] 76 p2_s2948 = true := by decide +kernel
theorem p2_s2948_s {X : Int → Int} {LX : Nat} : ck_Ok p2_O X LX 172 p2_s2948 := ck_ok_s ⟨p2_nmu, ck_E1 (ck_S1 p2_s293_s ck_S0) ck_E0⟩ ck_X0 ck_l0 p2_s2948_e
set_option maxRecDepth 100000 in
/-- GlacierMail.hut -/
def p2_s2949 : ck_Sum := ((8, 1, 6), 245, [.inr (.inr (.inl 1)), .inl (6, 2147483647, []), .inl ((-2147483648), 2147483647, [])], ([], [], []), ([], []), [(.inl 3, 245, ([], [], []))])
set_option maxRecDepth 100000 in
theorem p2_s2949_e : ck_ok p2_O none [] [(132, [p2_s296])] 172 [] 76 p2_s2949 = true := by decide +kernel
theorem p2_s2949_s {X : Int → Int} {LX : Nat} : ck_Ok p2_O X LX 172 p2_s2949 := ck_ok_s ⟨p2_nmu, ck_E1 (ck_S1 p2_s296_s ck_S0) ck_E0⟩ ck_X0 ck_l0 p2_s2949_e
set_option maxRecDepth 100000 in
/-- GlacierMail.hut -/
def p2_s2950 : ck_Sum := ((8, 2, 12), 245, [.inr (.inr (.inl 1)), .inl (0, 5, []), .inl ((-2147483648), (-1), [])], ([], [], []), ([], []), [(.inl 3, 245, ([], [], [])), (.inl 0, 245, ([], [], []))])
set_option maxRecDepth 100000 in
theorem p2_s2950_e : ck_ok p2_O none [] [(132, [p2_s299])] 172 [] 84 p2_s2950 = true := by decide +kernel
theorem p2_s2950_s {X : Int → Int} {LX : Nat} : ck_Ok p2_O X LX 172 p2_s2950 := ck_ok_s ⟨p2_nmu, ck_E1 (ck_S1 p2_s299_s ck_S0) ck_E0⟩ ck_X0 ck_l0 p2_s2950_e
set_option maxRecDepth 100000 in
/-- GlacierMail.hut -/
def p2_s2951 : ck_Sum := ((8, 2, 12), 245, [.inr (.inr (.inl 1)), .inl (0, 5, []), .inl (300, 2147483647, [])], ([], [], []), ([], []), [(.inl 3, 245, ([], [], [])), (.inl 0, 245, ([], [], []))])
set_option maxRecDepth 100000 in
theorem p2_s2951_e : ck_ok p2_O none [] [(132, [p2_s299])] 172 [] 90 p2_s2951 = true := by decide +kernel
theorem p2_s2951_s {X : Int → Int} {LX : Nat} : ck_Ok p2_O X LX 172 p2_s2951 := ck_ok_s ⟨p2_nmu, ck_E1 (ck_S1 p2_s299_s ck_S0) ck_E0⟩ ck_X0 ck_l0 p2_s2951_e
set_option maxRecDepth 100000 in
/-- GlacierMail.hut -/
def p2_s2952 : ck_Sum := ((8, 2, 12), 245, [.inr (.inr (.inl 1)), .inl (0, 5, []), .inl (0, 299, [])], ([], [(3, 8, 0)], [(3, 6, 6, (0, 299, [(10, 0)]))]), ([(206, 2, 8)], []), [(.inl 3, 245, ([], [], [])), (.inl 0, 245, ([], [], [])), (.inr (some (.inl (ck_one (-1)))), 245, ([], [], [])), (.inr (some (.inl (0, 98, []))), 245, ([], [], [(206, 4, 4, ck_one (-1))]))])
set_option maxRecDepth 100000 in
theorem p2_s2952_e : ck_ok p2_O none [] [(132, [p2_s299]), (29, [p2_s1113]), (30, [p2_s374])] 172 [(47, [some (.inr (.inr (.inl 1))), some (.inl (0, 5, [])), some (.inl (1, 299, [])), some (.inl (1, 299, [])), some (.inl (0, 167, []))], ([], [(3, 8, 0)], [(3, 6, 6, (0, 299, [(10, 0)]))]), 100, .inl 4, true)] 182 p2_s2952 = true := by decide +kernel
theorem p2_s2952_s {X : Int → Int} {LX : Nat} : ck_Ok p2_O X LX 172 p2_s2952 := ck_ok_s ⟨p2_nmu, ck_E1 (ck_S1 p2_s299_s ck_S0) (ck_E1 (ck_S1 p2_s1113_s ck_S0) (ck_E1 (ck_S1 p2_s374_s ck_S0) ck_E0))⟩ ck_X0 ck_l0 p2_s2952_e
set_option maxRecDepth 100000 in
/-- GlacierMailModel.hut -/
def p2_s2953 : ck_Sum := ((2, 0, 0), 245, [.inr (.inr (.inl 226)), .inl ((-2147483648), (-1), []), .inl ((-2147483648), 2147483647, [])], ([], [], []), ([(226, 0, 0)], []), [(.inr (some (.inl (ck_one 0))), 245, ([], [], [(226, 0, 0, ck_one 1)]))])
set_option maxRecDepth 100000 in
theorem p2_s2953_e : ck_ok p2_O none [] [(288, [p2_s311]), (282, [p2_s268])] 327 [] 94 p2_s2953 = true := by decide +kernel
theorem p2_s2953_s {X : Int → Int} {LX : Nat} : ck_Ok p2_O X LX 327 p2_s2953 := ck_ok_s ⟨p2_nmu, ck_E1 (ck_S1 p2_s311_s ck_S0) (ck_E1 (ck_S1 p2_s268_s ck_S0) ck_E0)⟩ ck_X0 ck_l0 p2_s2953_e
set_option maxRecDepth 100000 in
/-- GlacierMailModel.hut -/
def p2_s2954 : ck_Sum := ((2, 0, 0), 245, [.inr (.inr (.inl 226)), .inl (6, 2147483647, []), .inl ((-2147483648), 2147483647, [])], ([], [], []), ([(226, 0, 0)], []), [(.inr (some (.inl (ck_one 0))), 245, ([], [], [(226, 0, 0, ck_one 1)]))])
set_option maxRecDepth 100000 in
theorem p2_s2954_e : ck_ok p2_O none [] [(288, [p2_s314]), (282, [p2_s268])] 327 [] 94 p2_s2954 = true := by decide +kernel
theorem p2_s2954_s {X : Int → Int} {LX : Nat} : ck_Ok p2_O X LX 327 p2_s2954 := ck_ok_s ⟨p2_nmu, ck_E1 (ck_S1 p2_s314_s ck_S0) (ck_E1 (ck_S1 p2_s268_s ck_S0) ck_E0)⟩ ck_X0 ck_l0 p2_s2954_e
set_option maxRecDepth 100000 in
/-- GlacierMailModel.in -/
def p2_s2955 : ck_Sum := ((0, 0, 0), 245, [.inl ((-2147483648), (-1), []), .inl (ck_one 1), .inl (ck_one 299)], ([], [], []), ([], []), [(.inr (some (.inl (ck_one 0))), 245, ([], [], []))])
set_option maxRecDepth 100000 in
theorem p2_s2955_e : ck_ok p2_O none [] [] 286 [] 80 p2_s2955 = true := by decide +kernel
theorem p2_s2955_s {X : Int → Int} {LX : Nat} : ck_Ok p2_O X LX 286 p2_s2955 := ck_ok_s ⟨p2_nmu, ck_E0⟩ ck_X0 ck_l0 p2_s2955_e
set_option maxRecDepth 100000 in
/-- GlacierMailModel.hut -/
def p2_s2956 : ck_Sum := ((2, 0, 0), 245, [.inr (.inr (.inl 226)), .inl (0, 5, []), .inl ((-2147483648), (-1), [])], ([], [], []), ([(226, 0, 0)], []), [(.inr (some (.inl (ck_one 0))), 245, ([], [], [(226, 0, 0, (1, 2, []))]))])
set_option maxRecDepth 100000 in
theorem p2_s2956_e : ck_ok p2_O none [] [(288, [p2_s317]), (282, [p2_s268, p2_s269, p2_s272]), (286, [p2_s2955])] 327 [] 116 p2_s2956 = true := by decide +kernel
theorem p2_s2956_s {X : Int → Int} {LX : Nat} : ck_Ok p2_O X LX 327 p2_s2956 := ck_ok_s ⟨p2_nmu, ck_E1 (ck_S1 p2_s317_s ck_S0) (ck_E1 (ck_S1 p2_s268_s (ck_S1 p2_s269_s (ck_S1 p2_s272_s ck_S0))) (ck_E1 (ck_S1 p2_s2955_s ck_S0) ck_E0))⟩ ck_X0 ck_l0 p2_s2956_e
set_option maxRecDepth 100000 in
/-- GlacierMailModel.in -/
def p2_s2957 : ck_Sum := ((0, 0, 0), 245, [.inl (300, 2147483647, []), .inl (ck_one 1), .inl (ck_one 299)], ([], [], []), ([], []), [(.inr (some (.inl (ck_one 0))), 245, ([], [], []))])
set_option maxRecDepth 100000 in
theorem p2_s2957_e : ck_ok p2_O none [] [] 286 [] 86 p2_s2957 = true := by decide +kernel
theorem p2_s2957_s {X : Int → Int} {LX : Nat} : ck_Ok p2_O X LX 286 p2_s2957 := ck_ok_s ⟨p2_nmu, ck_E0⟩ ck_X0 ck_l0 p2_s2957_e
set_option maxRecDepth 100000 in
/-- GlacierMailModel.hut -/
def p2_s2958 : ck_Sum := ((2, 0, 0), 245, [.inr (.inr (.inl 226)), .inl (0, 5, []), .inl (300, 2147483647, [])], ([], [], []), ([(226, 0, 0)], []), [(.inr (some (.inl (ck_one 0))), 245, ([], [], [(226, 0, 0, (1, 2, []))]))])
set_option maxRecDepth 100000 in
theorem p2_s2958_e : ck_ok p2_O none [] [(288, [p2_s317]), (282, [p2_s268, p2_s269, p2_s272]), (286, [p2_s2957])] 327 [] 116 p2_s2958 = true := by decide +kernel
theorem p2_s2958_s {X : Int → Int} {LX : Nat} : ck_Ok p2_O X LX 327 p2_s2958 := ck_ok_s ⟨p2_nmu, ck_E1 (ck_S1 p2_s317_s ck_S0) (ck_E1 (ck_S1 p2_s268_s (ck_S1 p2_s269_s (ck_S1 p2_s272_s ck_S0))) (ck_E1 (ck_S1 p2_s2957_s ck_S0) ck_E0))⟩ ck_X0 ck_l0 p2_s2958_e
set_option maxRecDepth 100000 in
/-- GlacierMailModel.in -/
def p2_s2959 : ck_Sum := ((0, 0, 0), 245, [.inl (0, 299, []), .inl (ck_one 1), .inl (ck_one 299)], ([], [], []), ([], []), [(.inr (some (.inl (ck_one 0))), 245, ([], [], [])), (.inr (some (.inl (ck_one 1))), 245, ([], [], []))])
set_option maxRecDepth 100000 in
theorem p2_s2959_e : ck_ok p2_O none [] [] 286 [] 88 p2_s2959 = true := by decide +kernel
theorem p2_s2959_s {X : Int → Int} {LX : Nat} : ck_Ok p2_O X LX 286 p2_s2959 := ck_ok_s ⟨p2_nmu, ck_E0⟩ ck_X0 ck_l0 p2_s2959_e
set_option maxRecDepth 100000 in
/-- GlacierMail.without -/
def p2_s2961 : ck_Sum := ((8, 1, 6), 245, [.inr (.inr (.inl 1)), .inl ((-2147483648), (-1), []), .inl ((-2147483648), 2147483647, [])], ([], [], []), ([], []), [(.inl 3, 245, ([], [], []))])
set_option maxRecDepth 100000 in
theorem p2_s2961_e : ck_ok p2_O none [] [(143, [p2_s599])] 174 [] 76 p2_s2961 = true := by decide +kernel
theorem p2_s2961_s {X : Int → Int} {LX : Nat} : ck_Ok p2_O X LX 174 p2_s2961 := ck_ok_s ⟨p2_nmu, ck_E1 (ck_S1 p2_s599_s ck_S0) ck_E0⟩ ck_X0 ck_l0 p2_s2961_e
set_option maxRecDepth 100000 in
/-- GlacierMail.without -/
def p2_s2962 : ck_Sum := ((8, 1, 6), 245, [.inr (.inr (.inl 1)), .inl (24, 2147483647, []), .inl ((-2147483648), 2147483647, [])], ([], [], []), ([], []), [(.inl 3, 245, ([], [], []))])
set_option maxRecDepth 100000 in
theorem p2_s2962_e : ck_ok p2_O none [] [(143, [p2_s602])] 174 [] 76 p2_s2962 = true := by decide +kernel
theorem p2_s2962_s {X : Int → Int} {LX : Nat} : ck_Ok p2_O X LX 174 p2_s2962 := ck_ok_s ⟨p2_nmu, ck_E1 (ck_S1 p2_s602_s ck_S0) ck_E0⟩ ck_X0 ck_l0 p2_s2962_e
set_option maxRecDepth 100000 in
/-- GlacierMail.without -/
def p2_s2963 : ck_Sum := ((8, 2, 12), 245, [.inr (.inr (.inl 1)), .inl (0, 23, []), .inl ((-2147483648), (-1), [])], ([], [], []), ([], []), [(.inl 3, 245, ([], [], []))])
set_option maxRecDepth 100000 in
theorem p2_s2963_e : ck_ok p2_O none [] [(143, [p2_s605]), (9, [p2_s159]), (133, [p2_s349])] 174 [] 90 p2_s2963 = true := by decide +kernel
theorem p2_s2963_s {X : Int → Int} {LX : Nat} : ck_Ok p2_O X LX 174 p2_s2963 := ck_ok_s ⟨p2_nmu, ck_E1 (ck_S1 p2_s605_s ck_S0) (ck_E1 (ck_S1 p2_s159_s ck_S0) (ck_E1 (ck_S1 p2_s349_s ck_S0) ck_E0))⟩ ck_X0 ck_l0 p2_s2963_e
set_option maxRecDepth 100000 in
/-- GlacierMail.without -/
def p2_s2964 : ck_Sum := ((8, 2, 12), 245, [.inr (.inr (.inl 1)), .inl (0, 23, []), .inl (8, 2147483647, [])], ([], [], []), ([], []), [(.inl 3, 245, ([], [], []))])
set_option maxRecDepth 100000 in
theorem p2_s2964_e : ck_ok p2_O none [] [(143, [p2_s605]), (9, [p2_s159]), (133, [p2_s352])] 174 [] 90 p2_s2964 = true := by decide +kernel
theorem p2_s2964_s {X : Int → Int} {LX : Nat} : ck_Ok p2_O X LX 174 p2_s2964 := ck_ok_s ⟨p2_nmu, ck_E1 (ck_S1 p2_s605_s ck_S0) (ck_E1 (ck_S1 p2_s159_s ck_S0) (ck_E1 (ck_S1 p2_s352_s ck_S0) ck_E0))⟩ ck_X0 ck_l0 p2_s2964_e
set_option maxRecDepth 100000 in
/-- GlacierMail$Way.leaveOut -/
def p2_s2965 : ck_Sum := ((0, 0, 0), 245, [.inr (.inr (.inl 206)), .inl (0, 7, [])], ([], [], []), ([(206, 4, 4)], []), [(.inr none, 245, ([], [], [(206, 4, 4, (0, 7, []))]))])
set_option maxRecDepth 100000 in
theorem p2_s2965_e : ck_ok p2_O none [] [] 175 [] 78 p2_s2965 = true := by decide +kernel
theorem p2_s2965_s {X : Int → Int} {LX : Nat} : ck_Ok p2_O X LX 175 p2_s2965 := ck_ok_s ⟨p2_nmu, ck_E0⟩ ck_X0 ck_l0 p2_s2965_e
