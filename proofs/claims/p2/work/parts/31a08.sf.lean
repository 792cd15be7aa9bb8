/-! EVERY CALL ENDS, whatever was done before (laid by wip/am/p2g.py). -/
set_option maxRecDepth 100000 in
/-- GlacierMailModel.isRock -/
def p2_s960 : ck_Sum := ((1, 0, 0), 245, [.inr (.inr (.inl 226)), .inl (ck_one 1)], ([], [], []), ([], []), [(.inr (some (.inl (ck_one 1))), 245, ([], [], [(227, 126, 126, ck_one (-1))])), (.inr (some (.inl (ck_one 0))), 245, ([], [], [(227, 126, 126, (0, 7, []))]))])
set_option maxRecDepth 100000 in
theorem p2_s960_e : ck_ok p2_O none [] [(301, [p2_s959])] 303 [] 86 p2_s960 = true := by decide +kernel
theorem p2_s960_s {X : Int → Int} {LX : Nat} : ck_Ok p2_O X LX 303 p2_s960 := ck_ok_s ⟨p2_nmu, ck_E1 (ck_S1 p2_s959_s ck_S0) ck_E0⟩ ck_X0 ck_l0 p2_s960_e
set_option maxRecDepth 100000 in
/-- GlacierMailModel.ofLetter -/
def p2_s961 : ck_Sum := ((0, 0, 0), 245, [.inr (.inr (.inl 226)), .inl (ck_one 1), .inl (ck_one 5)], ([], [], []), ([], []), [(.inr (some (.inl (ck_one (-1)))), 245, ([], [], [(227, 131, 131, ck_one (-1))])), (.inr (some (.inl (0, 7, []))), 245, ([], [], [(227, 131, 131, (0, 7, []))]))])
set_option maxRecDepth 100000 in
theorem p2_s961_e : ck_ok p2_O none [] [] 301 [] 92 p2_s961 = true := by decide +kernel
theorem p2_s961_s {X : Int → Int} {LX : Nat} : ck_Ok p2_O X LX 301 p2_s961 := ck_ok_s ⟨p2_nmu, ck_E0⟩ ck_X0 ck_l0 p2_s961_e
set_option maxRecDepth 100000 in
/-- GlacierMailModel.ofLetter -/
def p2_s963 : ck_Sum := ((0, 0, 0), 245, [.inr (.inr (.inl 226)), .inl (ck_one 1), .inl (ck_one 1)], ([], [], []), ([], []), [(.inr (some (.inl (ck_one (-1)))), 245, ([], [], [(227, 127, 127, ck_one (-1))])), (.inr (some (.inl (0, 7, []))), 245, ([], [], [(227, 127, 127, (0, 7, []))]))])
set_option maxRecDepth 100000 in
theorem p2_s963_e : ck_ok p2_O none [] [] 301 [] 92 p2_s963 = true := by decide +kernel
theorem p2_s963_s {X : Int → Int} {LX : Nat} : ck_Ok p2_O X LX 301 p2_s963 := ck_ok_s ⟨p2_nmu, ck_E0⟩ ck_X0 ck_l0 p2_s963_e
set_option maxRecDepth 100000 in
/-- GlacierMailModel.ofLetter -/
def p2_s966 : ck_Sum := ((0, 0, 0), 245, [.inr (.inr (.inl 226)), .inl (ck_one 1), .inl (ck_one 3)], ([], [], []), ([], []), [(.inr (some (.inl (0, 299, []))), 245, ([], [], []))])
set_option maxRecDepth 100000 in
theorem p2_s966_e : ck_ok p2_O none [] [] 301 [] 92 p2_s966 = true := by decide +kernel
theorem p2_s966_s {X : Int → Int} {LX : Nat} : ck_Ok p2_O X LX 301 p2_s966 := ck_ok_s ⟨p2_nmu, ck_E0⟩ ck_X0 ck_l0 p2_s966_e
set_option maxRecDepth 100000 in
/-- GlacierMailModel.in -/
def p2_s968 : ck_Sum := ((0, 0, 0), 245, [.inl (ck_one 2), .inl (ck_one 0), .inl ((-1), 23, [])], ([], [], []), ([], []), [(.inr (some (.inl (ck_one 0))), 245, ([], [], [])), (.inr (some (.inl (ck_one 1))), 245, ([], [], []))])
set_option maxRecDepth 100000 in
theorem p2_s968_e : ck_ok p2_O none [] [] 286 [] 88 p2_s968 = true := by decide +kernel
theorem p2_s968_s {X : Int → Int} {LX : Nat} : ck_Ok p2_O X LX 286 p2_s968 := ck_ok_s ⟨p2_nmu, ck_E0⟩ ck_X0 ck_l0 p2_s968_e
set_option maxRecDepth 100000 in
/-- GlacierMailModel.noLetter -/
def p2_s969 : ck_Sum := ((1, 0, 0), 245, [.inr (.inr (.inl 226)), .inl (ck_one 2)], ([], [], [(227, 4, 4, (0, 24, [(22, 0)]))]), ([], []), [(.inr (some (.inl (ck_one 1))), 245, ([], [], [])), (.inr (some (.inl (ck_one 0))), 245, ([], [], []))])
set_option maxRecDepth 100000 in
theorem p2_s969_e : ck_ok p2_O none [] [(254, [p2_s196]), (286, [p2_s968])] 309 [] 92 p2_s969 = true := by decide +kernel
theorem p2_s969_s {X : Int → Int} {LX : Nat} : ck_Ok p2_O X LX 309 p2_s969 := ck_ok_s ⟨p2_nmu, ck_E1 (ck_S1 p2_s196_s ck_S0) (ck_E1 (ck_S1 p2_s968_s ck_S0) ck_E0)⟩ ck_X0 ck_l0 p2_s969_e
set_option maxRecDepth 100000 in
/-- GlacierMailModel.ofLetter -/
def p2_s970 : ck_Sum := ((0, 0, 0), 245, [.inr (.inr (.inl 226)), .inl (ck_one 2), .inl (ck_one 0)], ([], [], []), ([], []), [(.inr (some (.inl (ck_one (-1)))), 245, ([], [], [(227, 133, 133, ck_one (-1))])), (.inr (some (.inl (0, 7, []))), 245, ([], [], [(227, 133, 133, (0, 7, []))]))])
set_option maxRecDepth 100000 in
theorem p2_s970_e : ck_ok p2_O none [] [] 301 [] 92 p2_s970 = true := by decide +kernel
theorem p2_s970_s {X : Int → Int} {LX : Nat} : ck_Ok p2_O X LX 301 p2_s970 := ck_ok_s ⟨p2_nmu, ck_E0⟩ ck_X0 ck_l0 p2_s970_e
set_option maxRecDepth 100000 in
/-- GlacierMailModel.isRock -/
def p2_s971 : ck_Sum := ((1, 0, 0), 245, [.inr (.inr (.inl 226)), .inl (ck_one 2)], ([], [], []), ([], []), [(.inr (some (.inl (ck_one 1))), 245, ([], [], [(227, 133, 133, ck_one (-1))])), (.inr (some (.inl (ck_one 0))), 245, ([], [], [(227, 133, 133, (0, 7, []))]))])
set_option maxRecDepth 100000 in
theorem p2_s971_e : ck_ok p2_O none [] [(301, [p2_s970])] 303 [] 86 p2_s971 = true := by decide +kernel
theorem p2_s971_s {X : Int → Int} {LX : Nat} : ck_Ok p2_O X LX 303 p2_s971 := ck_ok_s ⟨p2_nmu, ck_E1 (ck_S1 p2_s970_s ck_S0) ck_E0⟩ ck_X0 ck_l0 p2_s971_e
set_option maxRecDepth 100000 in
/-- GlacierMailModel.ofLetter -/
def p2_s972 : ck_Sum := ((0, 0, 0), 245, [.inr (.inr (.inl 226)), .inl (ck_one 2), .inl (ck_one 5)], ([], [], []), ([], []), [(.inr (some (.inl (ck_one (-1)))), 245, ([], [], [(227, 138, 138, ck_one (-1))])), (.inr (some (.inl (0, 7, []))), 245, ([], [], [(227, 138, 138, (0, 7, []))]))])
set_option maxRecDepth 100000 in
theorem p2_s972_e : ck_ok p2_O none [] [] 301 [] 92 p2_s972 = true := by decide +kernel
theorem p2_s972_s {X : Int → Int} {LX : Nat} : ck_Ok p2_O X LX 301 p2_s972 := ck_ok_s ⟨p2_nmu, ck_E0⟩ ck_X0 ck_l0 p2_s972_e
set_option maxRecDepth 100000 in
/-- GlacierMailModel.ofLetter -/
def p2_s974 : ck_Sum := ((0, 0, 0), 245, [.inr (.inr (.inl 226)), .inl (ck_one 2), .inl (ck_one 1)], ([], [], []), ([], []), [(.inr (some (.inl (ck_one (-1)))), 245, ([], [], [(227, 134, 134, ck_one (-1))])), (.inr (some (.inl (0, 7, []))), 245, ([], [], [(227, 134, 134, (0, 7, []))]))])
set_option maxRecDepth 100000 in
theorem p2_s974_e : ck_ok p2_O none [] [] 301 [] 92 p2_s974 = true := by decide +kernel
theorem p2_s974_s {X : Int → Int} {LX : Nat} : ck_Ok p2_O X LX 301 p2_s974 := ck_ok_s ⟨p2_nmu, ck_E0⟩ ck_X0 ck_l0 p2_s974_e
set_option maxRecDepth 100000 in
/-- GlacierMailModel.ofLetter -/
def p2_s977 : ck_Sum := ((0, 0, 0), 245, [.inr (.inr (.inl 226)), .inl (ck_one 2), .inl (ck_one 3)], ([], [], []), ([], []), [(.inr (some (.inl (0, 299, []))), 245, ([], [], []))])
set_option maxRecDepth 100000 in
theorem p2_s977_e : ck_ok p2_O none [] [] 301 [] 92 p2_s977 = true := by decide +kernel
theorem p2_s977_s {X : Int → Int} {LX : Nat} : ck_Ok p2_O X LX 301 p2_s977 := ck_ok_s ⟨p2_nmu, ck_E0⟩ ck_X0 ck_l0 p2_s977_e
set_option maxRecDepth 100000 in
/-- GlacierMailModel.in -/
def p2_s979 : ck_Sum := ((0, 0, 0), 245, [.inl (ck_one 3), .inl (ck_one 0), .inl ((-1), 23, [])], ([], [], []), ([], []), [(.inr (some (.inl (ck_one 0))), 245, ([], [], [])), (.inr (some (.inl (ck_one 1))), 245, ([], [], []))])
set_option maxRecDepth 100000 in
theorem p2_s979_e : ck_ok p2_O none [] [] 286 [] 88 p2_s979 = true := by decide +kernel
theorem p2_s979_s {X : Int → Int} {LX : Nat} : ck_Ok p2_O X LX 286 p2_s979 := ck_ok_s ⟨p2_nmu, ck_E0⟩ ck_X0 ck_l0 p2_s979_e
set_option maxRecDepth 100000 in
/-- GlacierMailModel.noLetter -/
def p2_s980 : ck_Sum := ((1, 0, 0), 245, [.inr (.inr (.inl 226)), .inl (ck_one 3)], ([], [], [(227, 4, 4, (0, 24, [(22, 0)]))]), ([], []), [(.inr (some (.inl (ck_one 1))), 245, ([], [], [])), (.inr (some (.inl (ck_one 0))), 245, ([], [], []))])
set_option maxRecDepth 100000 in
theorem p2_s980_e : ck_ok p2_O none [] [(254, [p2_s196]), (286, [p2_s979])] 309 [] 92 p2_s980 = true := by decide +kernel
theorem p2_s980_s {X : Int → Int} {LX : Nat} : ck_Ok p2_O X LX 309 p2_s980 := ck_ok_s ⟨p2_nmu, ck_E1 (ck_S1 p2_s196_s ck_S0) (ck_E1 (ck_S1 p2_s979_s ck_S0) ck_E0)⟩ ck_X0 ck_l0 p2_s980_e
set_option maxRecDepth 100000 in
/-- GlacierMailModel.ofLetter -/
def p2_s981 : ck_Sum := ((0, 0, 0), 245, [.inr (.inr (.inl 226)), .inl (ck_one 3), .inl (ck_one 0)], ([], [], []), ([], []), [(.inr (some (.inl (ck_one (-1)))), 245, ([], [], [(227, 140, 140, ck_one (-1))])), (.inr (some (.inl (0, 7, []))), 245, ([], [], [(227, 140, 140, (0, 7, []))]))])
set_option maxRecDepth 100000 in
theorem p2_s981_e : ck_ok p2_O none [] [] 301 [] 92 p2_s981 = true := by decide +kernel
theorem p2_s981_s {X : Int → Int} {LX : Nat} : ck_Ok p2_O X LX 301 p2_s981 := ck_ok_s ⟨p2_nmu, ck_E0⟩ ck_X0 ck_l0 p2_s981_e
set_option maxRecDepth 100000 in
/-- GlacierMailModel.isRock -/
def p2_s982 : ck_Sum := ((1, 0, 0), 245, [.inr (.inr (.inl 226)), .inl (ck_one 3)], ([], [], []), ([], []), [(.inr (some (.inl (ck_one 1))), 245, ([], [], [(227, 140, 140, ck_one (-1))])), (.inr (some (.inl (ck_one 0))), 245, ([], [], [(227, 140, 140, (0, 7, []))]))])
set_option maxRecDepth 100000 in
theorem p2_s982_e : ck_ok p2_O none [] [(301, [p2_s981])] 303 [] 86 p2_s982 = true := by decide +kernel
theorem p2_s982_s {X : Int → Int} {LX : Nat} : ck_Ok p2_O X LX 303 p2_s982 := ck_ok_s ⟨p2_nmu, ck_E1 (ck_S1 p2_s981_s ck_S0) ck_E0⟩ ck_X0 ck_l0 p2_s982_e
set_option maxRecDepth 100000 in
/-- GlacierMailModel.ofLetter -/
def p2_s983 : ck_Sum := ((0, 0, 0), 245, [.inr (.inr (.inl 226)), .inl (ck_one 3), .inl (ck_one 5)], ([], [], []), ([], []), [(.inr (some (.inl (ck_one (-1)))), 245, ([], [], [(227, 145, 145, ck_one (-1))])), (.inr (some (.inl (0, 7, []))), 245, ([], [], [(227, 145, 145, (0, 7, []))]))])
set_option maxRecDepth 100000 in
theorem p2_s983_e : ck_ok p2_O none [] [] 301 [] 92 p2_s983 = true := by decide +kernel
theorem p2_s983_s {X : Int → Int} {LX : Nat} : ck_Ok p2_O X LX 301 p2_s983 := ck_ok_s ⟨p2_nmu, ck_E0⟩ ck_X0 ck_l0 p2_s983_e
set_option maxRecDepth 100000 in
/-- GlacierMailModel.ofLetter -/
def p2_s985 : ck_Sum := ((0, 0, 0), 245, [.inr (.inr (.inl 226)), .inl (ck_one 3), .inl (ck_one 1)], ([], [], []), ([], []), [(.inr (some (.inl (ck_one (-1)))), 245, ([], [], [(227, 141, 141, ck_one (-1))])), (.inr (some (.inl (0, 7, []))), 245, ([], [], [(227, 141, 141, (0, 7, []))]))])
set_option maxRecDepth 100000 in
theorem p2_s985_e : ck_ok p2_O none [] [] 301 [] 92 p2_s985 = true := by decide +kernel
theorem p2_s985_s {X : Int → Int} {LX : Nat} : ck_Ok p2_O X LX 301 p2_s985 := ck_ok_s ⟨p2_nmu, ck_E0⟩ ck_X0 ck_l0 p2_s985_e
set_option maxRecDepth 100000 in
/-- GlacierMailModel.ofLetter -/
def p2_s988 : ck_Sum := ((0, 0, 0), 245, [.inr (.inr (.inl 226)), .inl (ck_one 3), .inl (ck_one 3)], ([], [], []), ([], []), [(.inr (some (.inl (0, 299, []))), 245, ([], [], []))])
set_option maxRecDepth 100000 in
theorem p2_s988_e : ck_ok p2_O none [] [] 301 [] 92 p2_s988 = true := by decide +kernel
theorem p2_s988_s {X : Int → Int} {LX : Nat} : ck_Ok p2_O X LX 301 p2_s988 := ck_ok_s ⟨p2_nmu, ck_E0⟩ ck_X0 ck_l0 p2_s988_e
set_option maxRecDepth 100000 in
/-- GlacierMailModel.in -/
def p2_s990 : ck_Sum := ((0, 0, 0), 245, [.inl (ck_one 4), .inl (ck_one 0), .inl ((-1), 23, [])], ([], [], []), ([], []), [(.inr (some (.inl (ck_one 0))), 245, ([], [], [])), (.inr (some (.inl (ck_one 1))), 245, ([], [], []))])
set_option maxRecDepth 100000 in
theorem p2_s990_e : ck_ok p2_O none [] [] 286 [] 88 p2_s990 = true := by decide +kernel
theorem p2_s990_s {X : Int → Int} {LX : Nat} : ck_Ok p2_O X LX 286 p2_s990 := ck_ok_s ⟨p2_nmu, ck_E0⟩ ck_X0 ck_l0 p2_s990_e
set_option maxRecDepth 100000 in
/-- GlacierMailModel.noLetter -/
def p2_s991 : ck_Sum := ((1, 0, 0), 245, [.inr (.inr (.inl 226)), .inl (ck_one 4)], ([], [], [(227, 4, 4, (0, 24, [(22, 0)]))]), ([], []), [(.inr (some (.inl (ck_one 1))), 245, ([], [], [])), (.inr (some (.inl (ck_one 0))), 245, ([], [], []))])
set_option maxRecDepth 100000 in
theorem p2_s991_e : ck_ok p2_O none [] [(254, [p2_s196]), (286, [p2_s990])] 309 [] 92 p2_s991 = true := by decide +kernel
theorem p2_s991_s {X : Int → Int} {LX : Nat} : ck_Ok p2_O X LX 309 p2_s991 := ck_ok_s ⟨p2_nmu, ck_E1 (ck_S1 p2_s196_s ck_S0) (ck_E1 (ck_S1 p2_s990_s ck_S0) ck_E0)⟩ ck_X0 ck_l0 p2_s991_e
set_option maxRecDepth 100000 in
/-- GlacierMailModel.ofLetter -/
def p2_s992 : ck_Sum := ((0, 0, 0), 245, [.inr (.inr (.inl 226)), .inl (ck_one 4), .inl (ck_one 0)], ([], [], []), ([], []), [(.inr (some (.inl (ck_one (-1)))), 245, ([], [], [(227, 147, 147, ck_one (-1))])), (.inr (some (.inl (0, 7, []))), 245, ([], [], [(227, 147, 147, (0, 7, []))]))])
set_option maxRecDepth 100000 in
theorem p2_s992_e : ck_ok p2_O none [] [] 301 [] 92 p2_s992 = true := by decide +kernel
theorem p2_s992_s {X : Int → Int} {LX : Nat} : ck_Ok p2_O X LX 301 p2_s992 := ck_ok_s ⟨p2_nmu, ck_E0⟩ ck_X0 ck_l0 p2_s992_e
set_option maxRecDepth 100000 in
/-- GlacierMailModel.isRock -/
def p2_s993 : ck_Sum := ((1, 0, 0), 245, [.inr (.inr (.inl 226)), .inl (ck_one 4)], ([], [], []), ([], []), [(.inr (some (.inl (ck_one 1))), 245, ([], [], [(227, 147, 147, ck_one (-1))])), (.inr (some (.inl (ck_one 0))), 245, ([], [], [(227, 147, 147, (0, 7, []))]))])
set_option maxRecDepth 100000 in
theorem p2_s993_e : ck_ok p2_O none [] [(301, [p2_s992])] 303 [] 86 p2_s993 = true := by decide +kernel
theorem p2_s993_s {X : Int → Int} {LX : Nat} : ck_Ok p2_O X LX 303 p2_s993 := ck_ok_s ⟨p2_nmu, ck_E1 (ck_S1 p2_s992_s ck_S0) ck_E0⟩ ck_X0 ck_l0 p2_s993_e
set_option maxRecDepth 100000 in
/-- GlacierMailModel.ofLetter -/
def p2_s994 : ck_Sum := ((0, 0, 0), 245, [.inr (.inr (.inl 226)), .inl (ck_one 4), .inl (ck_one 5)], ([], [], []), ([], []), [(.inr (some (.inl (ck_one (-1)))), 245, ([], [], [(227, 152, 152, ck_one (-1))])), (.inr (some (.inl (0, 7, []))), 245, ([], [], [(227, 152, 152, (0, 7, []))]))])
set_option maxRecDepth 100000 in
theorem p2_s994_e : ck_ok p2_O none [] [] 301 [] 92 p2_s994 = true := by decide +kernel
theorem p2_s994_s {X : Int → Int} {LX : Nat} : ck_Ok p2_O X LX 301 p2_s994 := ck_ok_s ⟨p2_nmu, ck_E0⟩ ck_X0 ck_l0 p2_s994_e
set_option maxRecDepth 100000 in
/-- GlacierMailModel.ofLetter -/
def p2_s996 : ck_Sum := ((0, 0, 0), 245, [.inr (.inr (.inl 226)), .inl (ck_one 4), .inl (ck_one 1)], ([], [], []), ([], []), [(.inr (some (.inl (ck_one (-1)))), 245, ([], [], [(227, 148, 148, ck_one (-1))])), (.inr (some (.inl (0, 7, []))), 245, ([], [], [(227, 148, 148, (0, 7, []))]))])
set_option maxRecDepth 100000 in
theorem p2_s996_e : ck_ok p2_O none [] [] 301 [] 92 p2_s996 = true := by decide +kernel
theorem p2_s996_s {X : Int → Int} {LX : Nat} : ck_Ok p2_O X LX 301 p2_s996 := ck_ok_s ⟨p2_nmu, ck_E0⟩ ck_X0 ck_l0 p2_s996_e
set_option maxRecDepth 100000 in
/-- GlacierMailModel.ofLetter -/
def p2_s999 : ck_Sum := ((0, 0, 0), 245, [.inr (.inr (.inl 226)), .inl (ck_one 4), .inl (ck_one 3)], ([], [], []), ([], []), [(.inr (some (.inl (0, 299, []))), 245, ([], [], []))])
set_option maxRecDepth 100000 in
theorem p2_s999_e : ck_ok p2_O none [] [] 301 [] 92 p2_s999 = true := by decide +kernel
theorem p2_s999_s {X : Int → Int} {LX : Nat} : ck_Ok p2_O X LX 301 p2_s999 := ck_ok_s ⟨p2_nmu, ck_E0⟩ ck_X0 ck_l0 p2_s999_e
set_option maxRecDepth 100000 in
/-- GlacierMailModel.in -/
def p2_s1001 : ck_Sum := ((0, 0, 0), 245, [.inl (ck_one 5), .inl (ck_one 0), .inl ((-1), 23, [])], ([], [], []), ([], []), [(.inr (some (.inl (ck_one 0))), 245, ([], [], [])), (.inr (some (.inl (ck_one 1))), 245, ([], [], []))])
set_option maxRecDepth 100000 in
theorem p2_s1001_e : ck_ok p2_O none [] [] 286 [] 88 p2_s1001 = true := by decide +kernel
theorem p2_s1001_s {X : Int → Int} {LX : Nat} : ck_Ok p2_O X LX 286 p2_s1001 := ck_ok_s ⟨p2_nmu, ck_E0⟩ ck_X0 ck_l0 p2_s1001_e
set_option maxRecDepth 100000 in
/-- GlacierMailModel.noLetter -/
def p2_s1002 : ck_Sum := ((1, 0, 0), 245, [.inr (.inr (.inl 226)), .inl (ck_one 5)], ([], [], [(227, 4, 4, (0, 24, [(22, 0)]))]), ([], []), [(.inr (some (.inl (ck_one 1))), 245, ([], [], [])), (.inr (some (.inl (ck_one 0))), 245, ([], [], []))])
set_option maxRecDepth 100000 in
theorem p2_s1002_e : ck_ok p2_O none [] [(254, [p2_s196]), (286, [p2_s1001])] 309 [] 92 p2_s1002 = true := by decide +kernel
theorem p2_s1002_s {X : Int → Int} {LX : Nat} : ck_Ok p2_O X LX 309 p2_s1002 := ck_ok_s ⟨p2_nmu, ck_E1 (ck_S1 p2_s196_s ck_S0) (ck_E1 (ck_S1 p2_s1001_s ck_S0) ck_E0)⟩ ck_X0 ck_l0 p2_s1002_e
set_option maxRecDepth 100000 in
/-- GlacierMailModel.ofLetter -/
def p2_s1003 : ck_Sum := ((0, 0, 0), 245, [.inr (.inr (.inl 226)), .inl (ck_one 5), .inl (ck_one 0)], ([], [], []), ([], []), [(.inr (some (.inl (ck_one (-1)))), 245, ([], [], [(227, 154, 154, ck_one (-1))])), (.inr (some (.inl (0, 7, []))), 245, ([], [], [(227, 154, 154, (0, 7, []))]))])
set_option maxRecDepth 100000 in
theorem p2_s1003_e : ck_ok p2_O none [] [] 301 [] 92 p2_s1003 = true := by decide +kernel
theorem p2_s1003_s {X : Int → Int} {LX : Nat} : ck_Ok p2_O X LX 301 p2_s1003 := ck_ok_s ⟨p2_nmu, ck_E0⟩ ck_X0 ck_l0 p2_s1003_e
set_option maxRecDepth 100000 in
/-- GlacierMailModel.isRock -/
def p2_s1004 : ck_Sum := ((1, 0, 0), 245, [.inr (.inr (.inl 226)), .inl (ck_one 5)], ([], [], []), ([], []), [(.inr (some (.inl (ck_one 1))), 245, ([], [], [(227, 154, 154, ck_one (-1))])), (.inr (some (.inl (ck_one 0))), 245, ([], [], [(227, 154, 154, (0, 7, []))]))])
set_option maxRecDepth 100000 in
theorem p2_s1004_e : ck_ok p2_O none [] [(301, [p2_s1003])] 303 [] 86 p2_s1004 = true := by decide +kernel
theorem p2_s1004_s {X : Int → Int} {LX : Nat} : ck_Ok p2_O X LX 303 p2_s1004 := ck_ok_s ⟨p2_nmu, ck_E1 (ck_S1 p2_s1003_s ck_S0) ck_E0⟩ ck_X0 ck_l0 p2_s1004_e
set_option maxRecDepth 100000 in
/-- GlacierMailModel.ofLetter -/
def p2_s1005 : ck_Sum := ((0, 0, 0), 245, [.inr (.inr (.inl 226)), .inl (ck_one 5), .inl (ck_one 5)], ([], [], []), ([], []), [(.inr (some (.inl (ck_one (-1)))), 245, ([], [], [(227, 159, 159, ck_one (-1))])), (.inr (some (.inl (0, 7, []))), 245, ([], [], [(227, 159, 159, (0, 7, []))]))])
set_option maxRecDepth 100000 in
theorem p2_s1005_e : ck_ok p2_O none [] [] 301 [] 92 p2_s1005 = true := by decide +kernel
theorem p2_s1005_s {X : Int → Int} {LX : Nat} : ck_Ok p2_O X LX 301 p2_s1005 := ck_ok_s ⟨p2_nmu, ck_E0⟩ ck_X0 ck_l0 p2_s1005_e
set_option maxRecDepth 100000 in
/-- GlacierMailModel.ofLetter -/
def p2_s1007 : ck_Sum := ((0, 0, 0), 245, [.inr (.inr (.inl 226)), .inl (ck_one 5), .inl (ck_one 1)], ([], [], []), ([], []), [(.inr (some (.inl (ck_one (-1)))), 245, ([], [], [(227, 155, 155, ck_one (-1))])), (.inr (some (.inl (0, 7, []))), 245, ([], [], [(227, 155, 155, (0, 7, []))]))])
set_option maxRecDepth 100000 in
theorem p2_s1007_e : ck_ok p2_O none [] [] 301 [] 92 p2_s1007 = true := by decide +kernel
theorem p2_s1007_s {X : Int → Int} {LX : Nat} : ck_Ok p2_O X LX 301 p2_s1007 := ck_ok_s ⟨p2_nmu, ck_E0⟩ ck_X0 ck_l0 p2_s1007_e
set_option maxRecDepth 100000 in
/-- GlacierMailModel.ofLetter -/
def p2_s1010 : ck_Sum := ((0, 0, 0), 245, [.inr (.inr (.inl 226)), .inl (ck_one 5), .inl (ck_one 3)], ([], [], []), ([], []), [(.inr (some (.inl (0, 299, []))), 245, ([], [], []))])
set_option maxRecDepth 100000 in
theorem p2_s1010_e : ck_ok p2_O none [] [] 301 [] 92 p2_s1010 = true := by decide +kernel
theorem p2_s1010_s {X : Int → Int} {LX : Nat} : ck_Ok p2_O X LX 301 p2_s1010 := ck_ok_s ⟨p2_nmu, ck_E0⟩ ck_X0 ck_l0 p2_s1010_e
set_option maxRecDepth 100000 in
/-- GlacierMailModel.in -/
def p2_s1012 : ck_Sum := ((0, 0, 0), 245, [.inl (ck_one 6), .inl (ck_one 0), .inl ((-1), 23, [])], ([], [], []), ([], []), [(.inr (some (.inl (ck_one 0))), 245, ([], [], [])), (.inr (some (.inl (ck_one 1))), 245, ([], [], []))])
set_option maxRecDepth 100000 in
theorem p2_s1012_e : ck_ok p2_O none [] [] 286 [] 88 p2_s1012 = true := by decide +kernel
theorem p2_s1012_s {X : Int → Int} {LX : Nat} : ck_Ok p2_O X LX 286 p2_s1012 := ck_ok_s ⟨p2_nmu, ck_E0⟩ ck_X0 ck_l0 p2_s1012_e
set_option maxRecDepth 100000 in
/-- GlacierMailModel.noLetter -/
def p2_s1013 : ck_Sum := ((1, 0, 0), 245, [.inr (.inr (.inl 226)), .inl (ck_one 6)], ([], [], [(227, 4, 4, (0, 24, [(22, 0)]))]), ([], []), [(.inr (some (.inl (ck_one 1))), 245, ([], [], [])), (.inr (some (.inl (ck_one 0))), 245, ([], [], []))])
set_option maxRecDepth 100000 in
theorem p2_s1013_e : ck_ok p2_O none [] [(254, [p2_s196]), (286, [p2_s1012])] 309 [] 92 p2_s1013 = true := by decide +kernel
theorem p2_s1013_s {X : Int → Int} {LX : Nat} : ck_Ok p2_O X LX 309 p2_s1013 := ck_ok_s ⟨p2_nmu, ck_E1 (ck_S1 p2_s196_s ck_S0) (ck_E1 (ck_S1 p2_s1012_s ck_S0) ck_E0)⟩ ck_X0 ck_l0 p2_s1013_e
set_option maxRecDepth 100000 in
/-- GlacierMailModel.ofLetter -/
def p2_s1014 : ck_Sum := ((0, 0, 0), 245, [.inr (.inr (.inl 226)), .inl (ck_one 6), .inl (ck_one 0)], ([], [], []), ([], []), [(.inr (some (.inl (ck_one (-1)))), 245, ([], [], [(227, 161, 161, ck_one (-1))])), (.inr (some (.inl (0, 7, []))), 245, ([], [], [(227, 161, 161, (0, 7, []))]))])
set_option maxRecDepth 100000 in
theorem p2_s1014_e : ck_ok p2_O none [] [] 301 [] 92 p2_s1014 = true := by decide +kernel
theorem p2_s1014_s {X : Int → Int} {LX : Nat} : ck_Ok p2_O X LX 301 p2_s1014 := ck_ok_s ⟨p2_nmu, ck_E0⟩ ck_X0 ck_l0 p2_s1014_e
set_option maxRecDepth 100000 in
/-- GlacierMailModel.isRock -/
def p2_s1015 : ck_Sum := ((1, 0, 0), 245, [.inr (.inr (.inl 226)), .inl (ck_one 6)], ([], [], []), ([], []), [(.inr (some (.inl (ck_one 1))), 245, ([], [], [(227, 161, 161, ck_one (-1))])), (.inr (some (.inl (ck_one 0))), 245, ([], [], [(227, 161, 161, (0, 7, []))]))])
set_option maxRecDepth 100000 in
theorem p2_s1015_e : ck_ok p2_O none [] [(301, [p2_s1014])] 303 [] 86 p2_s1015 = true := by decide +kernel
theorem p2_s1015_s {X : Int → Int} {LX : Nat} : ck_Ok p2_O X LX 303 p2_s1015 := ck_ok_s ⟨p2_nmu, ck_E1 (ck_S1 p2_s1014_s ck_S0) ck_E0⟩ ck_X0 ck_l0 p2_s1015_e
set_option maxRecDepth 100000 in
/-- GlacierMailModel.ofLetter -/
def p2_s1016 : ck_Sum := ((0, 0, 0), 245, [.inr (.inr (.inl 226)), .inl (ck_one 6), .inl (ck_one 5)], ([], [], []), ([], []), [(.inr (some (.inl (ck_one (-1)))), 245, ([], [], [(227, 166, 166, ck_one (-1))])), (.inr (some (.inl (0, 7, []))), 245, ([], [], [(227, 166, 166, (0, 7, []))]))])
set_option maxRecDepth 100000 in
theorem p2_s1016_e : ck_ok p2_O none [] [] 301 [] 92 p2_s1016 = true := by decide +kernel
theorem p2_s1016_s {X : Int → Int} {LX : Nat} : ck_Ok p2_O X LX 301 p2_s1016 := ck_ok_s ⟨p2_nmu, ck_E0⟩ ck_X0 ck_l0 p2_s1016_e
set_option maxRecDepth 100000 in
/-- GlacierMailModel.ofLetter -/
def p2_s1018 : ck_Sum := ((0, 0, 0), 245, [.inr (.inr (.inl 226)), .inl (ck_one 6), .inl (ck_one 1)], ([], [], []), ([], []), [(.inr (some (.inl (ck_one (-1)))), 245, ([], [], [(227, 162, 162, ck_one (-1))])), (.inr (some (.inl (0, 7, []))), 245, ([], [], [(227, 162, 162, (0, 7, []))]))])
set_option maxRecDepth 100000 in
theorem p2_s1018_e : ck_ok p2_O none [] [] 301 [] 92 p2_s1018 = true := by decide +kernel
theorem p2_s1018_s {X : Int → Int} {LX : Nat} : ck_Ok p2_O X LX 301 p2_s1018 := ck_ok_s ⟨p2_nmu, ck_E0⟩ ck_X0 ck_l0 p2_s1018_e
set_option maxRecDepth 100000 in
/-- GlacierMailModel.ofLetter -/
def p2_s1021 : ck_Sum := ((0, 0, 0), 245, [.inr (.inr (.inl 226)), .inl (ck_one 6), .inl (ck_one 3)], ([], [], []), ([], []), [(.inr (some (.inl (0, 299, []))), 245, ([], [], []))])
set_option maxRecDepth 100000 in
theorem p2_s1021_e : ck_ok p2_O none [] [] 301 [] 92 p2_s1021 = true := by decide +kernel
theorem p2_s1021_s {X : Int → Int} {LX : Nat} : ck_Ok p2_O X LX 301 p2_s1021 := ck_ok_s ⟨p2_nmu, ck_E0⟩ ck_X0 ck_l0 p2_s1021_e
set_option maxRecDepth 100000 in
/-- GlacierMailModel.in -/
def p2_s1023 : ck_Sum := ((0, 0, 0), 245, [.inl (ck_one 7), .inl (ck_one 0), .inl ((-1), 23, [])], ([], [], []), ([], []), [(.inr (some (.inl (ck_one 0))), 245, ([], [], [])), (.inr (some (.inl (ck_one 1))), 245, ([], [], []))])
set_option maxRecDepth 100000 in
theorem p2_s1023_e : ck_ok p2_O none [] [] 286 [] 88 p2_s1023 = true := by decide +kernel
theorem p2_s1023_s {X : Int → Int} {LX : Nat} : ck_Ok p2_O X LX 286 p2_s1023 := ck_ok_s ⟨p2_nmu, ck_E0⟩ ck_X0 ck_l0 p2_s1023_e
set_option maxRecDepth 100000 in
/-- GlacierMailModel.noLetter -/
def p2_s1024 : ck_Sum := ((1, 0, 0), 245, [.inr (.inr (.inl 226)), .inl (ck_one 7)], ([], [], [(227, 4, 4, (0, 24, [(22, 0)]))]), ([], []), [(.inr (some (.inl (ck_one 1))), 245, ([], [], [])), (.inr (some (.inl (ck_one 0))), 245, ([], [], []))])
set_option maxRecDepth 100000 in
theorem p2_s1024_e : ck_ok p2_O none [] [(254, [p2_s196]), (286, [p2_s1023])] 309 [] 92 p2_s1024 = true := by decide +kernel
theorem p2_s1024_s {X : Int → Int} {LX : Nat} : ck_Ok p2_O X LX 309 p2_s1024 := ck_ok_s ⟨p2_nmu, ck_E1 (ck_S1 p2_s196_s ck_S0) (ck_E1 (ck_S1 p2_s1023_s ck_S0) ck_E0)⟩ ck_X0 ck_l0 p2_s1024_e
set_option maxRecDepth 100000 in
/-- GlacierMailModel.ofLetter -/
def p2_s1025 : ck_Sum := ((0, 0, 0), 245, [.inr (.inr (.inl 226)), .inl (ck_one 7), .inl (ck_one 0)], ([], [], []), ([], []), [(.inr (some (.inl (ck_one (-1)))), 245, ([], [], [(227, 168, 168, ck_one (-1))])), (.inr (some (.inl (0, 7, []))), 245, ([], [], [(227, 168, 168, (0, 7, []))]))])
set_option maxRecDepth 100000 in
theorem p2_s1025_e : ck_ok p2_O none [] [] 301 [] 92 p2_s1025 = true := by decide +kernel
theorem p2_s1025_s {X : Int → Int} {LX : Nat} : ck_Ok p2_O X LX 301 p2_s1025 := ck_ok_s ⟨p2_nmu, ck_E0⟩ ck_X0 ck_l0 p2_s1025_e
set_option maxRecDepth 100000 in
/-- GlacierMailModel.isRock -/
def p2_s1026 : ck_Sum := ((1, 0, 0), 245, [.inr (.inr (.inl 226)), .inl (ck_one 7)], ([], [], []), ([], []), [(.inr (some (.inl (ck_one 1))), 245, ([], [], [(227, 168, 168, ck_one (-1))])), (.inr (some (.inl (ck_one 0))), 245, ([], [], [(227, 168, 168, (0, 7, []))]))])
set_option maxRecDepth 100000 in
theorem p2_s1026_e : ck_ok p2_O none [] [(301, [p2_s1025])] 303 [] 86 p2_s1026 = true := by decide +kernel
theorem p2_s1026_s {X : Int → Int} {LX : Nat} : ck_Ok p2_O X LX 303 p2_s1026 := ck_ok_s ⟨p2_nmu, ck_E1 (ck_S1 p2_s1025_s ck_S0) ck_E0⟩ ck_X0 ck_l0 p2_s1026_e
set_option maxRecDepth 100000 in
/-- GlacierMailModel.ofLetter -/
def p2_s1027 : ck_Sum := ((0, 0, 0), 245, [.inr (.inr (.inl 226)), .inl (ck_one 7), .inl (ck_one 5)], ([], [], []), ([], []), [(.inr (some (.inl (ck_one (-1)))), 245, ([], [], [(227, 173, 173, ck_one (-1))])), (.inr (some (.inl (0, 7, []))), 245, ([], [], [(227, 173, 173, (0, 7, []))]))])
set_option maxRecDepth 100000 in
theorem p2_s1027_e : ck_ok p2_O none [] [] 301 [] 92 p2_s1027 = true := by decide +kernel
theorem p2_s1027_s {X : Int → Int} {LX : Nat} : ck_Ok p2_O X LX 301 p2_s1027 := ck_ok_s ⟨p2_nmu, ck_E0⟩ ck_X0 ck_l0 p2_s1027_e
set_option maxRecDepth 100000 in
/-- GlacierMailModel.ofLetter -/
def p2_s1029 : ck_Sum := ((0, 0, 0), 245, [.inr (.inr (.inl 226)), .inl (ck_one 7), .inl (ck_one 1)], ([], [], []), ([], []), [(.inr (some (.inl (ck_one (-1)))), 245, ([], [], [(227, 169, 169, ck_one (-1))])), (.inr (some (.inl (0, 7, []))), 245, ([], [], [(227, 169, 169, (0, 7, []))]))])
set_option maxRecDepth 100000 in
theorem p2_s1029_e : ck_ok p2_O none [] [] 301 [] 92 p2_s1029 = true := by decide +kernel
theorem p2_s1029_s {X : Int → Int} {LX : Nat} : ck_Ok p2_O X LX 301 p2_s1029 := ck_ok_s ⟨p2_nmu, ck_E0⟩ ck_X0 ck_l0 p2_s1029_e
set_option maxRecDepth 100000 in
/-- GlacierMailModel.ofLetter -/
def p2_s1032 : ck_Sum := ((0, 0, 0), 245, [.inr (.inr (.inl 226)), .inl (ck_one 7), .inl (ck_one 3)], ([], [], []), ([], []), [(.inr (some (.inl (0, 299, []))), 245, ([], [], []))])
set_option maxRecDepth 100000 in
theorem p2_s1032_e : ck_ok p2_O none [] [] 301 [] 92 p2_s1032 = true := by decide +kernel
theorem p2_s1032_s {X : Int → Int} {LX : Nat} : ck_Ok p2_O X LX 301 p2_s1032 := ck_ok_s ⟨p2_nmu, ck_E0⟩ ck_X0 ck_l0 p2_s1032_e
set_option maxRecDepth 100000 in
/-- GlacierMailModel.in -/
def p2_s1034 : ck_Sum := ((0, 0, 0), 245, [.inl (ck_one 8), .inl (ck_one 0), .inl ((-1), 23, [])], ([], [], []), ([], []), [(.inr (some (.inl (ck_one 0))), 245, ([], [], [])), (.inr (some (.inl (ck_one 1))), 245, ([], [], []))])
set_option maxRecDepth 100000 in
theorem p2_s1034_e : ck_ok p2_O none [] [] 286 [] 88 p2_s1034 = true := by decide +kernel
theorem p2_s1034_s {X : Int → Int} {LX : Nat} : ck_Ok p2_O X LX 286 p2_s1034 := ck_ok_s ⟨p2_nmu, ck_E0⟩ ck_X0 ck_l0 p2_s1034_e
set_option maxRecDepth 100000 in
/-- GlacierMailModel.noLetter -/
def p2_s1035 : ck_Sum := ((1, 0, 0), 245, [.inr (.inr (.inl 226)), .inl (ck_one 8)], ([], [], [(227, 4, 4, (0, 24, [(22, 0)]))]), ([], []), [(.inr (some (.inl (ck_one 1))), 245, ([], [], [])), (.inr (some (.inl (ck_one 0))), 245, ([], [], []))])
set_option maxRecDepth 100000 in
theorem p2_s1035_e : ck_ok p2_O none [] [(254, [p2_s196]), (286, [p2_s1034])] 309 [] 92 p2_s1035 = true := by decide +kernel
theorem p2_s1035_s {X : Int → Int} {LX : Nat} : ck_Ok p2_O X LX 309 p2_s1035 := ck_ok_s ⟨p2_nmu, ck_E1 (ck_S1 p2_s196_s ck_S0) (ck_E1 (ck_S1 p2_s1034_s ck_S0) ck_E0)⟩ ck_X0 ck_l0 p2_s1035_e
set_option maxRecDepth 100000 in
/-- GlacierMailModel.ofLetter -/
def p2_s1036 : ck_Sum := ((0, 0, 0), 245, [.inr (.inr (.inl 226)), .inl (ck_one 8), .inl (ck_one 0)], ([], [], []), ([], []), [(.inr (some (.inl (ck_one (-1)))), 245, ([], [], [(227, 175, 175, ck_one (-1))])), (.inr (some (.inl (0, 7, []))), 245, ([], [], [(227, 175, 175, (0, 7, []))]))])
set_option maxRecDepth 100000 in
theorem p2_s1036_e : ck_ok p2_O none [] [] 301 [] 92 p2_s1036 = true := by decide +kernel
theorem p2_s1036_s {X : Int → Int} {LX : Nat} : ck_Ok p2_O X LX 301 p2_s1036 := ck_ok_s ⟨p2_nmu, ck_E0⟩ ck_X0 ck_l0 p2_s1036_e
set_option maxRecDepth 100000 in
/-- GlacierMailModel.isRock -/
def p2_s1037 : ck_Sum := ((1, 0, 0), 245, [.inr (.inr (.inl 226)), .inl (ck_one 8)], ([], [], []), ([], []), [(.inr (some (.inl (ck_one 1))), 245, ([], [], [(227, 175, 175, ck_one (-1))])), (.inr (some (.inl (ck_one 0))), 245, ([], [], [(227, 175, 175, (0, 7, []))]))])
set_option maxRecDepth 100000 in
theorem p2_s1037_e : ck_ok p2_O none [] [(301, [p2_s1036])] 303 [] 86 p2_s1037 = true := by decide +kernel
theorem p2_s1037_s {X : Int → Int} {LX : Nat} : ck_Ok p2_O X LX 303 p2_s1037 := ck_ok_s ⟨p2_nmu, ck_E1 (ck_S1 p2_s1036_s ck_S0) ck_E0⟩ ck_X0 ck_l0 p2_s1037_e
set_option maxRecDepth 100000 in
/-- GlacierMailModel.ofLetter -/
def p2_s1038 : ck_Sum := ((0, 0, 0), 245, [.inr (.inr (.inl 226)), .inl (ck_one 8), .inl (ck_one 5)], ([], [], []), ([], []), [(.inr (some (.inl (ck_one (-1)))), 245, ([], [], [(227, 180, 180, ck_one (-1))])), (.inr (some (.inl (0, 7, []))), 245, ([], [], [(227, 180, 180, (0, 7, []))]))])
set_option maxRecDepth 100000 in
theorem p2_s1038_e : ck_ok p2_O none [] [] 301 [] 92 p2_s1038 = true := by decide +kernel
theorem p2_s1038_s {X : Int → Int} {LX : Nat} : ck_Ok p2_O X LX 301 p2_s1038 := ck_ok_s ⟨p2_nmu, ck_E0⟩ ck_X0 ck_l0 p2_s1038_e
set_option maxRecDepth 100000 in
/-- GlacierMailModel.ofLetter -/
def p2_s1040 : ck_Sum := ((0, 0, 0), 245, [.inr (.inr (.inl 226)), .inl (ck_one 8), .inl (ck_one 1)], ([], [], []), ([], []), [(.inr (some (.inl (ck_one (-1)))), 245, ([], [], [(227, 176, 176, ck_one (-1))])), (.inr (some (.inl (0, 7, []))), 245, ([], [], [(227, 176, 176, (0, 7, []))]))])
set_option maxRecDepth 100000 in
theorem p2_s1040_e : ck_ok p2_O none [] [] 301 [] 92 p2_s1040 = true := by decide +kernel
theorem p2_s1040_s {X : Int → Int} {LX : Nat} : ck_Ok p2_O X LX 301 p2_s1040 := ck_ok_s ⟨p2_nmu, ck_E0⟩ ck_X0 ck_l0 p2_s1040_e
set_option maxRecDepth 100000 in
/-- GlacierMailModel.ofLetter -/
def p2_s1043 : ck_Sum := ((0, 0, 0), 245, [.inr (.inr (.inl 226)), .inl (ck_one 8), .inl (ck_one 3)], ([], [], []), ([], []), [(.inr (some (.inl (0, 299, []))), 245, ([], [], []))])
set_option maxRecDepth 100000 in
theorem p2_s1043_e : ck_ok p2_O none [] [] 301 [] 92 p2_s1043 = true := by decide +kernel
theorem p2_s1043_s {X : Int → Int} {LX : Nat} : ck_Ok p2_O X LX 301 p2_s1043 := ck_ok_s ⟨p2_nmu, ck_E0⟩ ck_X0 ck_l0 p2_s1043_e
set_option maxRecDepth 100000 in
/-- GlacierMailModel.in -/
def p2_s1045 : ck_Sum := ((0, 0, 0), 245, [.inl (ck_one 9), .inl (ck_one 0), .inl ((-1), 23, [])], ([], [], []), ([], []), [(.inr (some (.inl (ck_one 0))), 245, ([], [], [])), (.inr (some (.inl (ck_one 1))), 245, ([], [], []))])
set_option maxRecDepth 100000 in
theorem p2_s1045_e : ck_ok p2_O none [] [] 286 [] 88 p2_s1045 = true := by decide +kernel
theorem p2_s1045_s {X : Int → Int} {LX : Nat} : ck_Ok p2_O X LX 286 p2_s1045 := ck_ok_s ⟨p2_nmu, ck_E0⟩ ck_X0 ck_l0 p2_s1045_e
set_option maxRecDepth 100000 in
/-- GlacierMailModel.noLetter -/
def p2_s1046 : ck_Sum := ((1, 0, 0), 245, [.inr (.inr (.inl 226)), .inl (ck_one 9)], ([], [], [(227, 4, 4, (0, 24, [(22, 0)]))]), ([], []), [(.inr (some (.inl (ck_one 1))), 245, ([], [], [])), (.inr (some (.inl (ck_one 0))), 245, ([], [], []))])
set_option maxRecDepth 100000 in
theorem p2_s1046_e : ck_ok p2_O none [] [(254, [p2_s196]), (286, [p2_s1045])] 309 [] 92 p2_s1046 = true := by decide +kernel
theorem p2_s1046_s {X : Int → Int} {LX : Nat} : ck_Ok p2_O X LX 309 p2_s1046 := ck_ok_s ⟨p2_nmu, ck_E1 (ck_S1 p2_s196_s ck_S0) (ck_E1 (ck_S1 p2_s1045_s ck_S0) ck_E0)⟩ ck_X0 ck_l0 p2_s1046_e
set_option maxRecDepth 100000 in
/-- GlacierMailModel.ofLetter -/
def p2_s1047 : ck_Sum := ((0, 0, 0), 245, [.inr (.inr (.inl 226)), .inl (ck_one 9), .inl (ck_one 0)], ([], [], []), ([], []), [(.inr (some (.inl (ck_one (-1)))), 245, ([], [], [(227, 182, 182, ck_one (-1))])), (.inr (some (.inl (0, 7, []))), 245, ([], [], [(227, 182, 182, (0, 7, []))]))])
set_option maxRecDepth 100000 in
theorem p2_s1047_e : ck_ok p2_O none [] [] 301 [] 92 p2_s1047 = true := by decide +kernel
theorem p2_s1047_s {X : Int → Int} {LX : Nat} : ck_Ok p2_O X LX 301 p2_s1047 := ck_ok_s ⟨p2_nmu, ck_E0⟩ ck_X0 ck_l0 p2_s1047_e
set_option maxRecDepth 100000 in
/-- GlacierMailModel.isRock -/
def p2_s1048 : ck_Sum := ((1, 0, 0), 245, [.inr (.inr (.inl 226)), .inl (ck_one 9)], ([], [], []), ([], []), [(.inr (some (.inl (ck_one 1))), 245, ([], [], [(227, 182, 182, ck_one (-1))])), (.inr (some (.inl (ck_one 0))), 245, ([], [], [(227, 182, 182, (0, 7, []))]))])
set_option maxRecDepth 100000 in
theorem p2_s1048_e : ck_ok p2_O none [] [(301, [p2_s1047])] 303 [] 86 p2_s1048 = true := by decide +kernel
theorem p2_s1048_s {X : Int → Int} {LX : Nat} : ck_Ok p2_O X LX 303 p2_s1048 := ck_ok_s ⟨p2_nmu, ck_E1 (ck_S1 p2_s1047_s ck_S0) ck_E0⟩ ck_X0 ck_l0 p2_s1048_e
set_option maxRecDepth 100000 in
/-- GlacierMailModel.ofLetter -/
def p2_s1049 : ck_Sum := ((0, 0, 0), 245, [.inr (.inr (.inl 226)), .inl (ck_one 9), .inl (ck_one 5)], ([], [], []), ([], []), [(.inr (some (.inl (ck_one (-1)))), 245, ([], [], [(227, 187, 187, ck_one (-1))])), (.inr (some (.inl (0, 7, []))), 245, ([], [], [(227, 187, 187, (0, 7, []))]))])
set_option maxRecDepth 100000 in
theorem p2_s1049_e : ck_ok p2_O none [] [] 301 [] 92 p2_s1049 = true := by decide +kernel
theorem p2_s1049_s {X : Int → Int} {LX : Nat} : ck_Ok p2_O X LX 301 p2_s1049 := ck_ok_s ⟨p2_nmu, ck_E0⟩ ck_X0 ck_l0 p2_s1049_e
set_option maxRecDepth 100000 in
/-- GlacierMailModel.ofLetter -/
def p2_s1051 : ck_Sum := ((0, 0, 0), 245, [.inr (.inr (.inl 226)), .inl (ck_one 9), .inl (ck_one 1)], ([], [], []), ([], []), [(.inr (some (.inl (ck_one (-1)))), 245, ([], [], [(227, 183, 183, ck_one (-1))])), (.inr (some (.inl (0, 7, []))), 245, ([], [], [(227, 183, 183, (0, 7, []))]))])
set_option maxRecDepth 100000 in
theorem p2_s1051_e : ck_ok p2_O none [] [] 301 [] 92 p2_s1051 = true := by decide +kernel
theorem p2_s1051_s {X : Int → Int} {LX : Nat} : ck_Ok p2_O X LX 301 p2_s1051 := ck_ok_s ⟨p2_nmu, ck_E0⟩ ck_X0 ck_l0 p2_s1051_e
set_option maxRecDepth 100000 in
/-- GlacierMailModel.ofLetter -/
def p2_s1054 : ck_Sum := ((0, 0, 0), 245, [.inr (.inr (.inl 226)), .inl (ck_one 9), .inl (ck_one 3)], ([], [], []), ([], []), [(.inr (some (.inl (0, 299, []))), 245, ([], [], []))])
set_option maxRecDepth 100000 in
theorem p2_s1054_e : ck_ok p2_O none [] [] 301 [] 92 p2_s1054 = true := by decide +kernel
theorem p2_s1054_s {X : Int → Int} {LX : Nat} : ck_Ok p2_O X LX 301 p2_s1054 := ck_ok_s ⟨p2_nmu, ck_E0⟩ ck_X0 ck_l0 p2_s1054_e
set_option maxRecDepth 100000 in
/-- GlacierMailModel.in -/
def p2_s1056 : ck_Sum := ((0, 0, 0), 245, [.inl (ck_one 10), .inl (ck_one 0), .inl ((-1), 23, [])], ([], [], []), ([], []), [(.inr (some (.inl (ck_one 0))), 245, ([], [], [])), (.inr (some (.inl (ck_one 1))), 245, ([], [], []))])
set_option maxRecDepth 100000 in
theorem p2_s1056_e : ck_ok p2_O none [] [] 286 [] 88 p2_s1056 = true := by decide +kernel
theorem p2_s1056_s {X : Int → Int} {LX : Nat} : ck_Ok p2_O X LX 286 p2_s1056 := ck_ok_s ⟨p2_nmu, ck_E0⟩ ck_X0 ck_l0 p2_s1056_e
set_option maxRecDepth 100000 in
/-- GlacierMailModel.noLetter -/
def p2_s1057 : ck_Sum := ((1, 0, 0), 245, [.inr (.inr (.inl 226)), .inl (ck_one 10)], ([], [], [(227, 4, 4, (0, 24, [(22, 0)]))]), ([], []), [(.inr (some (.inl (ck_one 1))), 245, ([], [], [])), (.inr (some (.inl (ck_one 0))), 245, ([], [], []))])
set_option maxRecDepth 100000 in
theorem p2_s1057_e : ck_ok p2_O none [] [(254, [p2_s196]), (286, [p2_s1056])] 309 [] 92 p2_s1057 = true := by decide +kernel
theorem p2_s1057_s {X : Int → Int} {LX : Nat} : ck_Ok p2_O X LX 309 p2_s1057 := ck_ok_s ⟨p2_nmu, ck_E1 (ck_S1 p2_s196_s ck_S0) (ck_E1 (ck_S1 p2_s1056_s ck_S0) ck_E0)⟩ ck_X0 ck_l0 p2_s1057_e
set_option maxRecDepth 100000 in
/-- GlacierMailModel.ofLetter -/
def p2_s1058 : ck_Sum := ((0, 0, 0), 245, [.inr (.inr (.inl 226)), .inl (ck_one 10), .inl (ck_one 0)], ([], [], []), ([], []), [(.inr (some (.inl (ck_one (-1)))), 245, ([], [], [(227, 189, 189, ck_one (-1))])), (.inr (some (.inl (0, 7, []))), 245, ([], [], [(227, 189, 189, (0, 7, []))]))])
set_option maxRecDepth 100000 in
theorem p2_s1058_e : ck_ok p2_O none [] [] 301 [] 92 p2_s1058 = true := by decide +kernel
theorem p2_s1058_s {X : Int → Int} {LX : Nat} : ck_Ok p2_O X LX 301 p2_s1058 := ck_ok_s ⟨p2_nmu, ck_E0⟩ ck_X0 ck_l0 p2_s1058_e
set_option maxRecDepth 100000 in
/-- GlacierMailModel.isRock -/
def p2_s1059 : ck_Sum := ((1, 0, 0), 245, [.inr (.inr (.inl 226)), .inl (ck_one 10)], ([], [], []), ([], []), [(.inr (some (.inl (ck_one 1))), 245, ([], [], [(227, 189, 189, ck_one (-1))])), (.inr (some (.inl (ck_one 0))), 245, ([], [], [(227, 189, 189, (0, 7, []))]))])
set_option maxRecDepth 100000 in
theorem p2_s1059_e : ck_ok p2_O none [] [(301, [p2_s1058])] 303 [] 86 p2_s1059 = true := by decide +kernel
theorem p2_s1059_s {X : Int → Int} {LX : Nat} : ck_Ok p2_O X LX 303 p2_s1059 := ck_ok_s ⟨p2_nmu, ck_E1 (ck_S1 p2_s1058_s ck_S0) ck_E0⟩ ck_X0 ck_l0 p2_s1059_e
set_option maxRecDepth 100000 in
/-- GlacierMailModel.ofLetter -/
def p2_s1060 : ck_Sum := ((0, 0, 0), 245, [.inr (.inr (.inl 226)), .inl (ck_one 10), .inl (ck_one 5)], ([], [], []), ([], []), [(.inr (some (.inl (ck_one (-1)))), 245, ([], [], [(227, 194, 194, ck_one (-1))])), (.inr (some (.inl (0, 7, []))), 245, ([], [], [(227, 194, 194, (0, 7, []))]))])
set_option maxRecDepth 100000 in
theorem p2_s1060_e : ck_ok p2_O none [] [] 301 [] 92 p2_s1060 = true := by decide +kernel
theorem p2_s1060_s {X : Int → Int} {LX : Nat} : ck_Ok p2_O X LX 301 p2_s1060 := ck_ok_s ⟨p2_nmu, ck_E0⟩ ck_X0 ck_l0 p2_s1060_e
set_option maxRecDepth 100000 in
/-- GlacierMailModel.ofLetter -/
def p2_s1062 : ck_Sum := ((0, 0, 0), 245, [.inr (.inr (.inl 226)), .inl (ck_one 10), .inl (ck_one 1)], ([], [], []), ([], []), [(.inr (some (.inl (ck_one (-1)))), 245, ([], [], [(227, 190, 190, ck_one (-1))])), (.inr (some (.inl (0, 7, []))), 245, ([], [], [(227, 190, 190, (0, 7, []))]))])
set_option maxRecDepth 100000 in
theorem p2_s1062_e : ck_ok p2_O none [] [] 301 [] 92 p2_s1062 = true := by decide +kernel
theorem p2_s1062_s {X : Int → Int} {LX : Nat} : ck_Ok p2_O X LX 301 p2_s1062 := ck_ok_s ⟨p2_nmu, ck_E0⟩ ck_X0 ck_l0 p2_s1062_e
set_option maxRecDepth 100000 in
/-- GlacierMailModel.ofLetter -/
def p2_s1065 : ck_Sum := ((0, 0, 0), 245, [.inr (.inr (.inl 226)), .inl (ck_one 10), .inl (ck_one 3)], ([], [], []), ([], []), [(.inr (some (.inl (0, 299, []))), 245, ([], [], []))])
set_option maxRecDepth 100000 in
theorem p2_s1065_e : ck_ok p2_O none [] [] 301 [] 92 p2_s1065 = true := by decide +kernel
theorem p2_s1065_s {X : Int → Int} {LX : Nat} : ck_Ok p2_O X LX 301 p2_s1065 := ck_ok_s ⟨p2_nmu, ck_E0⟩ ck_X0 ck_l0 p2_s1065_e
set_option maxRecDepth 100000 in
/-- GlacierMailModel.in -/
def p2_s1067 : ck_Sum := ((0, 0, 0), 245, [.inl (ck_one 11), .inl (ck_one 0), .inl ((-1), 23, [])], ([], [], []), ([], []), [(.inr (some (.inl (ck_one 0))), 245, ([], [], [])), (.inr (some (.inl (ck_one 1))), 245, ([], [], []))])
set_option maxRecDepth 100000 in
theorem p2_s1067_e : ck_ok p2_O none [] [] 286 [] 88 p2_s1067 = true := by decide +kernel
theorem p2_s1067_s {X : Int → Int} {LX : Nat} : ck_Ok p2_O X LX 286 p2_s1067 := ck_ok_s ⟨p2_nmu, ck_E0⟩ ck_X0 ck_l0 p2_s1067_e
set_option maxRecDepth 100000 in
/-- GlacierMailModel.noLetter -/
def p2_s1068 : ck_Sum := ((1, 0, 0), 245, [.inr (.inr (.inl 226)), .inl (ck_one 11)], ([], [], [(227, 4, 4, (0, 24, [(22, 0)]))]), ([], []), [(.inr (some (.inl (ck_one 1))), 245, ([], [], [])), (.inr (some (.inl (ck_one 0))), 245, ([], [], []))])
set_option maxRecDepth 100000 in
theorem p2_s1068_e : ck_ok p2_O none [] [(254, [p2_s196]), (286, [p2_s1067])] 309 [] 92 p2_s1068 = true := by decide +kernel
theorem p2_s1068_s {X : Int → Int} {LX : Nat} : ck_Ok p2_O X LX 309 p2_s1068 := ck_ok_s ⟨p2_nmu, ck_E1 (ck_S1 p2_s196_s ck_S0) (ck_E1 (ck_S1 p2_s1067_s ck_S0) ck_E0)⟩ ck_X0 ck_l0 p2_s1068_e
set_option maxRecDepth 100000 in
/-- GlacierMailModel.ofLetter -/
def p2_s1069 : ck_Sum := ((0, 0, 0), 245, [.inr (.inr (.inl 226)), .inl (ck_one 11), .inl (ck_one 0)], ([], [], []), ([], []), [(.inr (some (.inl (ck_one (-1)))), 245, ([], [], [(227, 196, 196, ck_one (-1))])), (.inr (some (.inl (0, 7, []))), 245, ([], [], [(227, 196, 196, (0, 7, []))]))])
set_option maxRecDepth 100000 in
theorem p2_s1069_e : ck_ok p2_O none [] [] 301 [] 92 p2_s1069 = true := by decide +kernel
theorem p2_s1069_s {X : Int → Int} {LX : Nat} : ck_Ok p2_O X LX 301 p2_s1069 := ck_ok_s ⟨p2_nmu, ck_E0⟩ ck_X0 ck_l0 p2_s1069_e
set_option maxRecDepth 100000 in
/-- GlacierMailModel.isRock -/
def p2_s1070 : ck_Sum := ((1, 0, 0), 245, [.inr (.inr (.inl 226)), .inl (ck_one 11)], ([], [], []), ([], []), [(.inr (some (.inl (ck_one 1))), 245, ([], [], [(227, 196, 196, ck_one (-1))])), (.inr (some (.inl (ck_one 0))), 245, ([], [], [(227, 196, 196, (0, 7, []))]))])
set_option maxRecDepth 100000 in
theorem p2_s1070_e : ck_ok p2_O none [] [(301, [p2_s1069])] 303 [] 86 p2_s1070 = true := by decide +kernel
theorem p2_s1070_s {X : Int → Int} {LX : Nat} : ck_Ok p2_O X LX 303 p2_s1070 := ck_ok_s ⟨p2_nmu, ck_E1 (ck_S1 p2_s1069_s ck_S0) ck_E0⟩ ck_X0 ck_l0 p2_s1070_e
set_option maxRecDepth 100000 in
/-- GlacierMailModel.ofLetter -/
def p2_s1071 : ck_Sum := ((0, 0, 0), 245, [.inr (.inr (.inl 226)), .inl (ck_one 11), .inl (ck_one 5)], ([], [], []), ([], []), [(.inr (some (.inl (ck_one (-1)))), 245, ([], [], [(227, 201, 201, ck_one (-1))])), (.inr (some (.inl (0, 7, []))), 245, ([], [], [(227, 201, 201, (0, 7, []))]))])
set_option maxRecDepth 100000 in
theorem p2_s1071_e : ck_ok p2_O none [] [] 301 [] 92 p2_s1071 = true := by decide +kernel
theorem p2_s1071_s {X : Int → Int} {LX : Nat} : ck_Ok p2_O X LX 301 p2_s1071 := ck_ok_s ⟨p2_nmu, ck_E0⟩ ck_X0 ck_l0 p2_s1071_e
set_option maxRecDepth 100000 in
/-- GlacierMailModel.ofLetter -/
def p2_s1073 : ck_Sum := ((0, 0, 0), 245, [.inr (.inr (.inl 226)), .inl (ck_one 11), .inl (ck_one 1)], ([], [], []), ([], []), [(.inr (some (.inl (ck_one (-1)))), 245, ([], [], [(227, 197, 197, ck_one (-1))])), (.inr (some (.inl (0, 7, []))), 245, ([], [], [(227, 197, 197, (0, 7, []))]))])
set_option maxRecDepth 100000 in
theorem p2_s1073_e : ck_ok p2_O none [] [] 301 [] 92 p2_s1073 = true := by decide +kernel
theorem p2_s1073_s {X : Int → Int} {LX : Nat} : ck_Ok p2_O X LX 301 p2_s1073 := ck_ok_s ⟨p2_nmu, ck_E0⟩ ck_X0 ck_l0 p2_s1073_e
set_option maxRecDepth 100000 in
/-- GlacierMailModel.ofLetter -/
def p2_s1076 : ck_Sum := ((0, 0, 0), 245, [.inr (.inr (.inl 226)), .inl (ck_one 11), .inl (ck_one 3)], ([], [], []), ([], []), [(.inr (some (.inl (0, 299, []))), 245, ([], [], []))])
set_option maxRecDepth 100000 in
theorem p2_s1076_e : ck_ok p2_O none [] [] 301 [] 92 p2_s1076 = true := by decide +kernel
theorem p2_s1076_s {X : Int → Int} {LX : Nat} : ck_Ok p2_O X LX 301 p2_s1076 := ck_ok_s ⟨p2_nmu, ck_E0⟩ ck_X0 ck_l0 p2_s1076_e
set_option maxRecDepth 100000 in
/-- GlacierMailModel.in -/
def p2_s1078 : ck_Sum := ((0, 0, 0), 245, [.inl (ck_one 12), .inl (ck_one 0), .inl ((-1), 23, [])], ([], [], []), ([], []), [(.inr (some (.inl (ck_one 0))), 245, ([], [], [])), (.inr (some (.inl (ck_one 1))), 245, ([], [], []))])
set_option maxRecDepth 100000 in
theorem p2_s1078_e : ck_ok p2_O none [] [] 286 [] 88 p2_s1078 = true := by decide +kernel
theorem p2_s1078_s {X : Int → Int} {LX : Nat} : ck_Ok p2_O X LX 286 p2_s1078 := ck_ok_s ⟨p2_nmu, ck_E0⟩ ck_X0 ck_l0 p2_s1078_e
set_option maxRecDepth 100000 in
/-- GlacierMailModel.noLetter -/
def p2_s1079 : ck_Sum := ((1, 0, 0), 245, [.inr (.inr (.inl 226)), .inl (ck_one 12)], ([], [], [(227, 4, 4, (0, 24, [(22, 0)]))]), ([], []), [(.inr (some (.inl (ck_one 1))), 245, ([], [], [])), (.inr (some (.inl (ck_one 0))), 245, ([], [], []))])
set_option maxRecDepth 100000 in
theorem p2_s1079_e : ck_ok p2_O none [] [(254, [p2_s196]), (286, [p2_s1078])] 309 [] 92 p2_s1079 = true := by decide +kernel
theorem p2_s1079_s {X : Int → Int} {LX : Nat} : ck_Ok p2_O X LX 309 p2_s1079 := ck_ok_s ⟨p2_nmu, ck_E1 (ck_S1 p2_s196_s ck_S0) (ck_E1 (ck_S1 p2_s1078_s ck_S0) ck_E0)⟩ ck_X0 ck_l0 p2_s1079_e
set_option maxRecDepth 100000 in
/-- GlacierMailModel.ofLetter -/
def p2_s1080 : ck_Sum := ((0, 0, 0), 245, [.inr (.inr (.inl 226)), .inl (ck_one 12), .inl (ck_one 0)], ([], [], []), ([], []), [(.inr (some (.inl (ck_one (-1)))), 245, ([], [], [(227, 203, 203, ck_one (-1))])), (.inr (some (.inl (0, 7, []))), 245, ([], [], [(227, 203, 203, (0, 7, []))]))])
set_option maxRecDepth 100000 in
theorem p2_s1080_e : ck_ok p2_O none [] [] 301 [] 92 p2_s1080 = true := by decide +kernel
theorem p2_s1080_s {X : Int → Int} {LX : Nat} : ck_Ok p2_O X LX 301 p2_s1080 := ck_ok_s ⟨p2_nmu, ck_E0⟩ ck_X0 ck_l0 p2_s1080_e
set_option maxRecDepth 100000 in
/-- GlacierMailModel.isRock -/
def p2_s1081 : ck_Sum := ((1, 0, 0), 245, [.inr (.inr (.inl 226)), .inl (ck_one 12)], ([], [], []), ([], []), [(.inr (some (.inl (ck_one 1))), 245, ([], [], [(227, 203, 203, ck_one (-1))])), (.inr (some (.inl (ck_one 0))), 245, ([], [], [(227, 203, 203, (0, 7, []))]))])
set_option maxRecDepth 100000 in
theorem p2_s1081_e : ck_ok p2_O none [] [(301, [p2_s1080])] 303 [] 86 p2_s1081 = true := by decide +kernel
theorem p2_s1081_s {X : Int → Int} {LX : Nat} : ck_Ok p2_O X LX 303 p2_s1081 := ck_ok_s ⟨p2_nmu, ck_E1 (ck_S1 p2_s1080_s ck_S0) ck_E0⟩ ck_X0 ck_l0 p2_s1081_e
set_option maxRecDepth 100000 in
/-- GlacierMailModel.ofLetter -/
def p2_s1082 : ck_Sum := ((0, 0, 0), 245, [.inr (.inr (.inl 226)), .inl (ck_one 12), .inl (ck_one 5)], ([], [], []), ([], []), [(.inr (some (.inl (ck_one (-1)))), 245, ([], [], [(227, 208, 208, ck_one (-1))])), (.inr (some (.inl (0, 7, []))), 245, ([], [], [(227, 208, 208, (0, 7, []))]))])
set_option maxRecDepth 100000 in
theorem p2_s1082_e : ck_ok p2_O none [] [] 301 [] 92 p2_s1082 = true := by decide +kernel
theorem p2_s1082_s {X : Int → Int} {LX : Nat} : ck_Ok p2_O X LX 301 p2_s1082 := ck_ok_s ⟨p2_nmu, ck_E0⟩ ck_X0 ck_l0 p2_s1082_e
set_option maxRecDepth 100000 in
/-- GlacierMailModel.ofLetter -/
def p2_s1084 : ck_Sum := ((0, 0, 0), 245, [.inr (.inr (.inl 226)), .inl (ck_one 12), .inl (ck_one 1)], ([], [], []), ([], []), [(.inr (some (.inl (ck_one (-1)))), 245, ([], [], [(227, 204, 204, ck_one (-1))])), (.inr (some (.inl (0, 7, []))), 245, ([], [], [(227, 204, 204, (0, 7, []))]))])
set_option maxRecDepth 100000 in
theorem p2_s1084_e : ck_ok p2_O none [] [] 301 [] 92 p2_s1084 = true := by decide +kernel
theorem p2_s1084_s {X : Int → Int} {LX : Nat} : ck_Ok p2_O X LX 301 p2_s1084 := ck_ok_s ⟨p2_nmu, ck_E0⟩ ck_X0 ck_l0 p2_s1084_e
set_option maxRecDepth 100000 in
/-- GlacierMailModel.ofLetter -/
def p2_s1087 : ck_Sum := ((0, 0, 0), 245, [.inr (.inr (.inl 226)), .inl (ck_one 12), .inl (ck_one 3)], ([], [], []), ([], []), [(.inr (some (.inl (0, 299, []))), 245, ([], [], []))])
set_option maxRecDepth 100000 in
theorem p2_s1087_e : ck_ok p2_O none [] [] 301 [] 92 p2_s1087 = true := by decide +kernel
theorem p2_s1087_s {X : Int → Int} {LX : Nat} : ck_Ok p2_O X LX 301 p2_s1087 := ck_ok_s ⟨p2_nmu, ck_E0⟩ ck_X0 ck_l0 p2_s1087_e
set_option maxRecDepth 100000 in
/-- GlacierMailModel.in -/
def p2_s1089 : ck_Sum := ((0, 0, 0), 245, [.inl (ck_one 13), .inl (ck_one 0), .inl ((-1), 23, [])], ([], [], []), ([], []), [(.inr (some (.inl (ck_one 0))), 245, ([], [], [])), (.inr (some (.inl (ck_one 1))), 245, ([], [], []))])
set_option maxRecDepth 100000 in
theorem p2_s1089_e : ck_ok p2_O none [] [] 286 [] 88 p2_s1089 = true := by decide +kernel
theorem p2_s1089_s {X : Int → Int} {LX : Nat} : ck_Ok p2_O X LX 286 p2_s1089 := ck_ok_s ⟨p2_nmu, ck_E0⟩ ck_X0 ck_l0 p2_s1089_e
set_option maxRecDepth 100000 in
/-- GlacierMailModel.noLetter -/
def p2_s1090 : ck_Sum := ((1, 0, 0), 245, [.inr (.inr (.inl 226)), .inl (ck_one 13)], ([], [], [(227, 4, 4, (0, 24, [(22, 0)]))]), ([], []), [(.inr (some (.inl (ck_one 1))), 245, ([], [], [])), (.inr (some (.inl (ck_one 0))), 245, ([], [], []))])
set_option maxRecDepth 100000 in
theorem p2_s1090_e : ck_ok p2_O none [] [(254, [p2_s196]), (286, [p2_s1089])] 309 [] 92 p2_s1090 = true := by decide +kernel
theorem p2_s1090_s {X : Int → Int} {LX : Nat} : ck_Ok p2_O X LX 309 p2_s1090 := ck_ok_s ⟨p2_nmu, ck_E1 (ck_S1 p2_s196_s ck_S0) (ck_E1 (ck_S1 p2_s1089_s ck_S0) ck_E0)⟩ ck_X0 ck_l0 p2_s1090_e
set_option maxRecDepth 100000 in
/-- GlacierMailModel.ofLetter -/
def p2_s1091 : ck_Sum := ((0, 0, 0), 245, [.inr (.inr (.inl 226)), .inl (ck_one 13), .inl (ck_one 0)], ([], [], []), ([], []), [(.inr (some (.inl (ck_one (-1)))), 245, ([], [], [(227, 210, 210, ck_one (-1))])), (.inr (some (.inl (0, 7, []))), 245, ([], [], [(227, 210, 210, (0, 7, []))]))])
set_option maxRecDepth 100000 in
theorem p2_s1091_e : ck_ok p2_O none [] [] 301 [] 92 p2_s1091 = true := by decide +kernel
theorem p2_s1091_s {X : Int → Int} {LX : Nat} : ck_Ok p2_O X LX 301 p2_s1091 := ck_ok_s ⟨p2_nmu, ck_E0⟩ ck_X0 ck_l0 p2_s1091_e
set_option maxRecDepth 100000 in
/-- GlacierMailModel.isRock -/
def p2_s1092 : ck_Sum := ((1, 0, 0), 245, [.inr (.inr (.inl 226)), .inl (ck_one 13)], ([], [], []), ([], []), [(.inr (some (.inl (ck_one 1))), 245, ([], [], [(227, 210, 210, ck_one (-1))])), (.inr (some (.inl (ck_one 0))), 245, ([], [], [(227, 210, 210, (0, 7, []))]))])
set_option maxRecDepth 100000 in
theorem p2_s1092_e : ck_ok p2_O none [] [(301, [p2_s1091])] 303 [] 86 p2_s1092 = true := by decide +kernel
theorem p2_s1092_s {X : Int → Int} {LX : Nat} : ck_Ok p2_O X LX 303 p2_s1092 := ck_ok_s ⟨p2_nmu, ck_E1 (ck_S1 p2_s1091_s ck_S0) ck_E0⟩ ck_X0 ck_l0 p2_s1092_e
set_option maxRecDepth 100000 in
/-- GlacierMailModel.ofLetter -/
def p2_s1093 : ck_Sum := ((0, 0, 0), 245, [.inr (.inr (.inl 226)), .inl (ck_one 13), .inl (ck_one 5)], ([], [], []), ([], []), [(.inr (some (.inl (ck_one (-1)))), 245, ([], [], [(227, 215, 215, ck_one (-1))])), (.inr (some (.inl (0, 7, []))), 245, ([], [], [(227, 215, 215, (0, 7, []))]))])
set_option maxRecDepth 100000 in
theorem p2_s1093_e : ck_ok p2_O none [] [] 301 [] 92 p2_s1093 = true := by decide +kernel
theorem p2_s1093_s {X : Int → Int} {LX : Nat} : ck_Ok p2_O X LX 301 p2_s1093 := ck_ok_s ⟨p2_nmu, ck_E0⟩ ck_X0 ck_l0 p2_s1093_e
set_option maxRecDepth 100000 in
/-- GlacierMailModel.ofLetter -/
def p2_s1095 : ck_Sum := ((0, 0, 0), 245, [.inr (.inr (.inl 226)), .inl (ck_one 13), .inl (ck_one 1)], ([], [], []), ([], []), [(.inr (some (.inl (ck_one (-1)))), 245, ([], [], [(227, 211, 211, ck_one (-1))])), (.inr (some (.inl (0, 7, []))), 245, ([], [], [(227, 211, 211, (0, 7, []))]))])
set_option maxRecDepth 100000 in
theorem p2_s1095_e : ck_ok p2_O none [] [] 301 [] 92 p2_s1095 = true := by decide +kernel
theorem p2_s1095_s {X : Int → Int} {LX : Nat} : ck_Ok p2_O X LX 301 p2_s1095 := ck_ok_s ⟨p2_nmu, ck_E0⟩ ck_X0 ck_l0 p2_s1095_e
set_option maxRecDepth 100000 in
/-- GlacierMailModel.ofLetter -/
def p2_s1098 : ck_Sum := ((0, 0, 0), 245, [.inr (.inr (.inl 226)), .inl (ck_one 13), .inl (ck_one 3)], ([], [], []), ([], []), [(.inr (some (.inl (0, 299, []))), 245, ([], [], []))])
set_option maxRecDepth 100000 in
theorem p2_s1098_e : ck_ok p2_O none [] [] 301 [] 92 p2_s1098 = true := by decide +kernel
theorem p2_s1098_s {X : Int → Int} {LX : Nat} : ck_Ok p2_O X LX 301 p2_s1098 := ck_ok_s ⟨p2_nmu, ck_E0⟩ ck_X0 ck_l0 p2_s1098_e
set_option maxRecDepth 100000 in
/-- GlacierMailModel.in -/
def p2_s1100 : ck_Sum := ((0, 0, 0), 245, [.inl (ck_one 14), .inl (ck_one 0), .inl ((-1), 23, [])], ([], [], []), ([], []), [(.inr (some (.inl (ck_one 0))), 245, ([], [], [])), (.inr (some (.inl (ck_one 1))), 245, ([], [], []))])
set_option maxRecDepth 100000 in
theorem p2_s1100_e : ck_ok p2_O none [] [] 286 [] 88 p2_s1100 = true := by decide +kernel
theorem p2_s1100_s {X : Int → Int} {LX : Nat} : ck_Ok p2_O X LX 286 p2_s1100 := ck_ok_s ⟨p2_nmu, ck_E0⟩ ck_X0 ck_l0 p2_s1100_e
set_option maxRecDepth 100000 in
/-- GlacierMailModel.noLetter -/
def p2_s1101 : ck_Sum := ((1, 0, 0), 245, [.inr (.inr (.inl 226)), .inl (ck_one 14)], ([], [], [(227, 4, 4, (0, 24, [(22, 0)]))]), ([], []), [(.inr (some (.inl (ck_one 1))), 245, ([], [], [])), (.inr (some (.inl (ck_one 0))), 245, ([], [], []))])
set_option maxRecDepth 100000 in
theorem p2_s1101_e : ck_ok p2_O none [] [(254, [p2_s196]), (286, [p2_s1100])] 309 [] 92 p2_s1101 = true := by decide +kernel
theorem p2_s1101_s {X : Int → Int} {LX : Nat} : ck_Ok p2_O X LX 309 p2_s1101 := ck_ok_s ⟨p2_nmu, ck_E1 (ck_S1 p2_s196_s ck_S0) (ck_E1 (ck_S1 p2_s1100_s ck_S0) ck_E0)⟩ ck_X0 ck_l0 p2_s1101_e
set_option maxRecDepth 100000 in
/-- GlacierMailModel.ofLetter -/
def p2_s1102 : ck_Sum := ((0, 0, 0), 245, [.inr (.inr (.inl 226)), .inl (ck_one 14), .inl (ck_one 0)], ([], [], []), ([], []), [(.inr (some (.inl (ck_one (-1)))), 245, ([], [], [(227, 217, 217, ck_one (-1))])), (.inr (some (.inl (0, 7, []))), 245, ([], [], [(227, 217, 217, (0, 7, []))]))])
set_option maxRecDepth 100000 in
theorem p2_s1102_e : ck_ok p2_O none [] [] 301 [] 92 p2_s1102 = true := by decide +kernel
theorem p2_s1102_s {X : Int → Int} {LX : Nat} : ck_Ok p2_O X LX 301 p2_s1102 := ck_ok_s ⟨p2_nmu, ck_E0⟩ ck_X0 ck_l0 p2_s1102_e
set_option maxRecDepth 100000 in
/-- GlacierMailModel.isRock -/
def p2_s1103 : ck_Sum := ((1, 0, 0), 245, [.inr (.inr (.inl 226)), .inl (ck_one 14)], ([], [], []), ([], []), [(.inr (some (.inl (ck_one 1))), 245, ([], [], [(227, 217, 217, ck_one (-1))])), (.inr (some (.inl (ck_one 0))), 245, ([], [], [(227, 217, 217, (0, 7, []))]))])
set_option maxRecDepth 100000 in
theorem p2_s1103_e : ck_ok p2_O none [] [(301, [p2_s1102])] 303 [] 86 p2_s1103 = true := by decide +kernel
theorem p2_s1103_s {X : Int → Int} {LX : Nat} : ck_Ok p2_O X LX 303 p2_s1103 := ck_ok_s ⟨p2_nmu, ck_E1 (ck_S1 p2_s1102_s ck_S0) ck_E0⟩ ck_X0 ck_l0 p2_s1103_e
set_option maxRecDepth 100000 in
/-- GlacierMailModel.ofLetter -/
def p2_s1104 : ck_Sum := ((0, 0, 0), 245, [.inr (.inr (.inl 226)), .inl (ck_one 14), .inl (ck_one 5)], ([], [], []), ([], []), [(.inr (some (.inl (ck_one (-1)))), 245, ([], [], [(227, 222, 222, ck_one (-1))])), (.inr (some (.inl (0, 7, []))), 245, ([], [], [(227, 222, 222, (0, 7, []))]))])
set_option maxRecDepth 100000 in
theorem p2_s1104_e : ck_ok p2_O none [] [] 301 [] 92 p2_s1104 = true := by decide +kernel
theorem p2_s1104_s {X : Int → Int} {LX : Nat} : ck_Ok p2_O X LX 301 p2_s1104 := ck_ok_s ⟨p2_nmu, ck_E0⟩ ck_X0 ck_l0 p2_s1104_e
set_option maxRecDepth 100000 in
/-- GlacierMailModel.ofLetter -/
def p2_s1106 : ck_Sum := ((0, 0, 0), 245, [.inr (.inr (.inl 226)), .inl (ck_one 14), .inl (ck_one 1)], ([], [], []), ([], []), [(.inr (some (.inl (ck_one (-1)))), 245, ([], [], [(227, 218, 218, ck_one (-1))])), (.inr (some (.inl (0, 7, []))), 245, ([], [], [(227, 218, 218, (0, 7, []))]))])
set_option maxRecDepth 100000 in
theorem p2_s1106_e : ck_ok p2_O none [] [] 301 [] 92 p2_s1106 = true := by decide +kernel
theorem p2_s1106_s {X : Int → Int} {LX : Nat} : ck_Ok p2_O X LX 301 p2_s1106 := ck_ok_s ⟨p2_nmu, ck_E0⟩ ck_X0 ck_l0 p2_s1106_e
set_option maxRecDepth 100000 in
/-- GlacierMailModel.ofLetter -/
def p2_s1109 : ck_Sum := ((0, 0, 0), 245, [.inr (.inr (.inl 226)), .inl (ck_one 14), .inl (ck_one 3)], ([], [], []), ([], []), [(.inr (some (.inl (0, 299, []))), 245, ([], [], []))])
set_option maxRecDepth 100000 in
theorem p2_s1109_e : ck_ok p2_O none [] [] 301 [] 92 p2_s1109 = true := by decide +kernel
theorem p2_s1109_s {X : Int → Int} {LX : Nat} : ck_Ok p2_O X LX 301 p2_s1109 := ck_ok_s ⟨p2_nmu, ck_E0⟩ ck_X0 ck_l0 p2_s1109_e
set_option maxRecDepth 100000 in
/-- GlacierMailModel.in -/
def p2_s1111 : ck_Sum := ((0, 0, 0), 245, [.inl (ck_one 15), .inl (ck_one 0), .inl ((-1), 23, [])], ([], [], []), ([], []), [(.inr (some (.inl (ck_one 0))), 245, ([], [], [])), (.inr (some (.inl (ck_one 1))), 245, ([], [], []))])
set_option maxRecDepth 100000 in
theorem p2_s1111_e : ck_ok p2_O none [] [] 286 [] 88 p2_s1111 = true := by decide +kernel
theorem p2_s1111_s {X : Int → Int} {LX : Nat} : ck_Ok p2_O X LX 286 p2_s1111 := ck_ok_s ⟨p2_nmu, ck_E0⟩ ck_X0 ck_l0 p2_s1111_e
set_option maxRecDepth 100000 in
/-- GlacierMailModel.noLetter -/
def p2_s1112 : ck_Sum := ((1, 0, 0), 245, [.inr (.inr (.inl 226)), .inl (ck_one 15)], ([], [], [(227, 4, 4, (0, 24, [(22, 0)]))]), ([], []), [(.inr (some (.inl (ck_one 1))), 245, ([], [], [])), (.inr (some (.inl (ck_one 0))), 245, ([], [], []))])
set_option maxRecDepth 100000 in
theorem p2_s1112_e : ck_ok p2_O none [] [(254, [p2_s196]), (286, [p2_s1111])] 309 [] 92 p2_s1112 = true := by decide +kernel
theorem p2_s1112_s {X : Int → Int} {LX : Nat} : ck_Ok p2_O X LX 309 p2_s1112 := ck_ok_s ⟨p2_nmu, ck_E1 (ck_S1 p2_s196_s ck_S0) (ck_E1 (ck_S1 p2_s1111_s ck_S0) ck_E0)⟩ ck_X0 ck_l0 p2_s1112_e
set_option maxRecDepth 100000 in
/-- GlacierMailModel.ofLetter -/
def p2_s1113 : ck_Sum := ((0, 0, 0), 245, [.inr (.inr (.inl 226)), .inl (ck_one 15), .inl (ck_one 0)], ([], [], []), ([], []), [(.inr (some (.inl (ck_one (-1)))), 245, ([], [], [(227, 224, 224, ck_one (-1))])), (.inr (some (.inl (0, 7, []))), 245, ([], [], [(227, 224, 224, (0, 7, []))]))])
set_option maxRecDepth 100000 in
theorem p2_s1113_e : ck_ok p2_O none [] [] 301 [] 92 p2_s1113 = true := by decide +kernel
theorem p2_s1113_s {X : Int → Int} {LX : Nat} : ck_Ok p2_O X LX 301 p2_s1113 := ck_ok_s ⟨p2_nmu, ck_E0⟩ ck_X0 ck_l0 p2_s1113_e
set_option maxRecDepth 100000 in
/-- GlacierMailModel.isRock -/
def p2_s1114 : ck_Sum := ((1, 0, 0), 245, [.inr (.inr (.inl 226)), .inl (ck_one 15)], ([], [], []), ([], []), [(.inr (some (.inl (ck_one 1))), 245, ([], [], [(227, 224, 224, ck_one (-1))])), (.inr (some (.inl (ck_one 0))), 245, ([], [], [(227, 224, 224, (0, 7, []))]))])
set_option maxRecDepth 100000 in
theorem p2_s1114_e : ck_ok p2_O none [] [(301, [p2_s1113])] 303 [] 86 p2_s1114 = true := by decide +kernel
theorem p2_s1114_s {X : Int → Int} {LX : Nat} : ck_Ok p2_O X LX 303 p2_s1114 := ck_ok_s ⟨p2_nmu, ck_E1 (ck_S1 p2_s1113_s ck_S0) ck_E0⟩ ck_X0 ck_l0 p2_s1114_e
set_option maxRecDepth 100000 in
/-- GlacierMailModel.ofLetter -/
def p2_s1115 : ck_Sum := ((0, 0, 0), 245, [.inr (.inr (.inl 226)), .inl (ck_one 15), .inl (ck_one 5)], ([], [], []), ([], []), [(.inr (some (.inl (ck_one (-1)))), 245, ([], [], [(227, 229, 229, ck_one (-1))])), (.inr (some (.inl (0, 7, []))), 245, ([], [], [(227, 229, 229, (0, 7, []))]))])
set_option maxRecDepth 100000 in
theorem p2_s1115_e : ck_ok p2_O none [] [] 301 [] 92 p2_s1115 = true := by decide +kernel
theorem p2_s1115_s {X : Int → Int} {LX : Nat} : ck_Ok p2_O X LX 301 p2_s1115 := ck_ok_s ⟨p2_nmu, ck_E0⟩ ck_X0 ck_l0 p2_s1115_e
