/-! EVERY CALL ENDS, whatever was done before (laid by wip/am/p2g.py). -/
set_option maxRecDepth 100000 in
/-- GlacierMailModel.ofLetter -/
def p2_s975 : ck_Sum := ((0, 0, 0), 245, [.inr (.inr (.inl 226)), .inl (ck_one 1), .inl (ck_one 1)], ([], [], []), ([], []), [(.inr (some (.inl (ck_one (-1)))), 245, ([], [], [(227, 127, 127, ck_one (-1))])), (.inr (some (.inl (0, 7, []))), 245, ([], [], [(227, 127, 127, (0, 7, []))]))])
set_option maxRecDepth 100000 in
theorem p2_s975_e : ck_ok p2_O none [] [] 301 [] 92 p2_s975 = true := by decide +kernel
theorem p2_s975_s {X : Int → Int} {LX : Nat} : ck_Ok p2_O X LX 301 p2_s975 := ck_ok_s ⟨p2_nmu, ck_E0⟩ ck_X0 ck_l0 p2_s975_e
set_option maxRecDepth 100000 in
/-- GlacierMailModel.ofLetter -/
def p2_s978 : ck_Sum := ((0, 0, 0), 245, [.inr (.inr (.inl 226)), .inl (ck_one 1), .inl (ck_one 3)], ([], [], []), ([], []), [(.inr (some (.inl (0, 299, []))), 245, ([], [], []))])
set_option maxRecDepth 100000 in
theorem p2_s978_e : ck_ok p2_O none [] [] 301 [] 92 p2_s978 = true := by decide +kernel
theorem p2_s978_s {X : Int → Int} {LX : Nat} : ck_Ok p2_O X LX 301 p2_s978 := ck_ok_s ⟨p2_nmu, ck_E0⟩ ck_X0 ck_l0 p2_s978_e
set_option maxRecDepth 100000 in
/-- GlacierMailModel.in -/
def p2_s980 : ck_Sum := ((0, 0, 0), 245, [.inl (ck_one 2), .inl (ck_one 0), .inl ((-1), 23, [])], ([], [], []), ([], []), [(.inr (some (.inl (ck_one 0))), 245, ([], [], [])), (.inr (some (.inl (ck_one 1))), 245, ([], [], []))])
set_option maxRecDepth 100000 in
theorem p2_s980_e : ck_ok p2_O none [] [] 286 [] 88 p2_s980 = true := by decide +kernel
theorem p2_s980_s {X : Int → Int} {LX : Nat} : ck_Ok p2_O X LX 286 p2_s980 := ck_ok_s ⟨p2_nmu, ck_E0⟩ ck_X0 ck_l0 p2_s980_e
set_option maxRecDepth 100000 in
/-- GlacierMailModel.noLetter -/
def p2_s981 : ck_Sum := ((1, 0, 0), 245, [.inr (.inr (.inl 226)), .inl (ck_one 2)], ([], [], [(227, 4, 4, (0, 24, [(22, 0)]))]), ([], []), [(.inr (some (.inl (ck_one 1))), 245, ([], [], [])), (.inr (some (.inl (ck_one 0))), 245, ([], [], []))])
set_option maxRecDepth 100000 in
theorem p2_s981_e : ck_ok p2_O none [] [(254, [p2_s196]), (286, [p2_s980])] 309 [] 92 p2_s981 = true := by decide +kernel
theorem p2_s981_s {X : Int → Int} {LX : Nat} : ck_Ok p2_O X LX 309 p2_s981 := ck_ok_s ⟨p2_nmu, ck_E1 (ck_S1 p2_s196_s ck_S0) (ck_E1 (ck_S1 p2_s980_s ck_S0) ck_E0)⟩ ck_X0 ck_l0 p2_s981_e
set_option maxRecDepth 100000 in
/-- GlacierMailModel.ofLetter -/
def p2_s982 : ck_Sum := ((0, 0, 0), 245, [.inr (.inr (.inl 226)), .inl (ck_one 2), .inl (ck_one 0)], ([], [], []), ([], []), [(.inr (some (.inl (ck_one (-1)))), 245, ([], [], [(227, 133, 133, ck_one (-1))])), (.inr (some (.inl (0, 7, []))), 245, ([], [], [(227, 133, 133, (0, 7, []))]))])
set_option maxRecDepth 100000 in
theorem p2_s982_e : ck_ok p2_O none [] [] 301 [] 92 p2_s982 = true := by decide +kernel
theorem p2_s982_s {X : Int → Int} {LX : Nat} : ck_Ok p2_O X LX 301 p2_s982 := ck_ok_s ⟨p2_nmu, ck_E0⟩ ck_X0 ck_l0 p2_s982_e
set_option maxRecDepth 100000 in
/-- GlacierMailModel.isRock -/
def p2_s983 : ck_Sum := ((1, 0, 0), 245, [.inr (.inr (.inl 226)), .inl (ck_one 2)], ([], [], []), ([], []), [(.inr (some (.inl (ck_one 1))), 245, ([], [], [(227, 133, 133, ck_one (-1))])), (.inr (some (.inl (ck_one 0))), 245, ([], [], [(227, 133, 133, (0, 7, []))]))])
set_option maxRecDepth 100000 in
theorem p2_s983_e : ck_ok p2_O none [] [(301, [p2_s982])] 303 [] 86 p2_s983 = true := by decide +kernel
theorem p2_s983_s {X : Int → Int} {LX : Nat} : ck_Ok p2_O X LX 303 p2_s983 := ck_ok_s ⟨p2_nmu, ck_E1 (ck_S1 p2_s982_s ck_S0) ck_E0⟩ ck_X0 ck_l0 p2_s983_e
set_option maxRecDepth 100000 in
/-- GlacierMailModel.ofLetter -/
def p2_s984 : ck_Sum := ((0, 0, 0), 245, [.inr (.inr (.inl 226)), .inl (ck_one 2), .inl (ck_one 5)], ([], [], []), ([], []), [(.inr (some (.inl (ck_one (-1)))), 245, ([], [], [(227, 138, 138, ck_one (-1))])), (.inr (some (.inl (0, 7, []))), 245, ([], [], [(227, 138, 138, (0, 7, []))]))])
set_option maxRecDepth 100000 in
theorem p2_s984_e : ck_ok p2_O none [] [] 301 [] 92 p2_s984 = true := by decide +kernel
theorem p2_s984_s {X : Int → Int} {LX : Nat} : ck_Ok p2_O X LX 301 p2_s984 := ck_ok_s ⟨p2_nmu, ck_E0⟩ ck_X0 ck_l0 p2_s984_e
set_option maxRecDepth 100000 in
/-- GlacierMailModel.ofLetter -/
def p2_s986 : ck_Sum := ((0, 0, 0), 245, [.inr (.inr (.inl 226)), .inl (ck_one 2), .inl (ck_one 1)], ([], [], []), ([], []), [(.inr (some (.inl (ck_one (-1)))), 245, ([], [], [(227, 134, 134, ck_one (-1))])), (.inr (some (.inl (0, 7, []))), 245, ([], [], [(227, 134, 134, (0, 7, []))]))])
set_option maxRecDepth 100000 in
theorem p2_s986_e : ck_ok p2_O none [] [] 301 [] 92 p2_s986 = true := by decide +kernel
theorem p2_s986_s {X : Int → Int} {LX : Nat} : ck_Ok p2_O X LX 301 p2_s986 := ck_ok_s ⟨p2_nmu, ck_E0⟩ ck_X0 ck_l0 p2_s986_e
set_option maxRecDepth 100000 in
/-- GlacierMailModel.ofLetter -/
def p2_s989 : ck_Sum := ((0, 0, 0), 245, [.inr (.inr (.inl 226)), .inl (ck_one 2), .inl (ck_one 3)], ([], [], []), ([], []), [(.inr (some (.inl (0, 299, []))), 245, ([], [], []))])
set_option maxRecDepth 100000 in
theorem p2_s989_e : ck_ok p2_O none [] [] 301 [] 92 p2_s989 = true := by decide +kernel
theorem p2_s989_s {X : Int → Int} {LX : Nat} : ck_Ok p2_O X LX 301 p2_s989 := ck_ok_s ⟨p2_nmu, ck_E0⟩ ck_X0 ck_l0 p2_s989_e
set_option maxRecDepth 100000 in
/-- GlacierMailModel.in -/
def p2_s991 : ck_Sum := ((0, 0, 0), 245, [.inl (ck_one 3), .inl (ck_one 0), .inl ((-1), 23, [])], ([], [], []), ([], []), [(.inr (some (.inl (ck_one 0))), 245, ([], [], [])), (.inr (some (.inl (ck_one 1))), 245, ([], [], []))])
set_option maxRecDepth 100000 in
theorem p2_s991_e : ck_ok p2_O none [] [] 286 [] 88 p2_s991 = true := by decide +kernel
theorem p2_s991_s {X : Int → Int} {LX : Nat} : ck_Ok p2_O X LX 286 p2_s991 := ck_ok_s ⟨p2_nmu, ck_E0⟩ ck_X0 ck_l0 p2_s991_e
set_option maxRecDepth 100000 in
/-- GlacierMailModel.noLetter -/
def p2_s992 : ck_Sum := ((1, 0, 0), 245, [.inr (.inr (.inl 226)), .inl (ck_one 3)], ([], [], [(227, 4, 4, (0, 24, [(22, 0)]))]), ([], []), [(.inr (some (.inl (ck_one 1))), 245, ([], [], [])), (.inr (some (.inl (ck_one 0))), 245, ([], [], []))])
set_option maxRecDepth 100000 in
theorem p2_s992_e : ck_ok p2_O none [] [(254, [p2_s196]), (286, [p2_s991])] 309 [] 92 p2_s992 = true := by decide +kernel
theorem p2_s992_s {X : Int → Int} {LX : Nat} : ck_Ok p2_O X LX 309 p2_s992 := ck_ok_s ⟨p2_nmu, ck_E1 (ck_S1 p2_s196_s ck_S0) (ck_E1 (ck_S1 p2_s991_s ck_S0) ck_E0)⟩ ck_X0 ck_l0 p2_s992_e
set_option maxRecDepth 100000 in
/-- GlacierMailModel.ofLetter -/
def p2_s993 : ck_Sum := ((0, 0, 0), 245, [.inr (.inr (.inl 226)), .inl (ck_one 3), .inl (ck_one 0)], ([], [], []), ([], []), [(.inr (some (.inl (ck_one (-1)))), 245, ([], [], [(227, 140, 140, ck_one (-1))])), (.inr (some (.inl (0, 7, []))), 245, ([], [], [(227, 140, 140, (0, 7, []))]))])
set_option maxRecDepth 100000 in
theorem p2_s993_e : ck_ok p2_O none [] [] 301 [] 92 p2_s993 = true := by decide +kernel
theorem p2_s993_s {X : Int → Int} {LX : Nat} : ck_Ok p2_O X LX 301 p2_s993 := ck_ok_s ⟨p2_nmu, ck_E0⟩ ck_X0 ck_l0 p2_s993_e
set_option maxRecDepth 100000 in
/-- GlacierMailModel.isRock -/
def p2_s994 : ck_Sum := ((1, 0, 0), 245, [.inr (.inr (.inl 226)), .inl (ck_one 3)], ([], [], []), ([], []), [(.inr (some (.inl (ck_one 1))), 245, ([], [], [(227, 140, 140, ck_one (-1))])), (.inr (some (.inl (ck_one 0))), 245, ([], [], [(227, 140, 140, (0, 7, []))]))])
set_option maxRecDepth 100000 in
theorem p2_s994_e : ck_ok p2_O none [] [(301, [p2_s993])] 303 [] 86 p2_s994 = true := by decide +kernel
theorem p2_s994_s {X : Int → Int} {LX : Nat} : ck_Ok p2_O X LX 303 p2_s994 := ck_ok_s ⟨p2_nmu, ck_E1 (ck_S1 p2_s993_s ck_S0) ck_E0⟩ ck_X0 ck_l0 p2_s994_e
set_option maxRecDepth 100000 in
/-- GlacierMailModel.ofLetter -/
def p2_s995 : ck_Sum := ((0, 0, 0), 245, [.inr (.inr (.inl 226)), .inl (ck_one 3), .inl (ck_one 5)], ([], [], []), ([], []), [(.inr (some (.inl (ck_one (-1)))), 245, ([], [], [(227, 145, 145, ck_one (-1))])), (.inr (some (.inl (0, 7, []))), 245, ([], [], [(227, 145, 145, (0, 7, []))]))])
set_option maxRecDepth 100000 in
theorem p2_s995_e : ck_ok p2_O none [] [] 301 [] 92 p2_s995 = true := by decide +kernel
theorem p2_s995_s {X : Int → Int} {LX : Nat} : ck_Ok p2_O X LX 301 p2_s995 := ck_ok_s ⟨p2_nmu, ck_E0⟩ ck_X0 ck_l0 p2_s995_e
set_option maxRecDepth 100000 in
/-- GlacierMailModel.ofLetter -/
def p2_s997 : ck_Sum := ((0, 0, 0), 245, [.inr (.inr (.inl 226)), .inl (ck_one 3), .inl (ck_one 1)], ([], [], []), ([], []), [(.inr (some (.inl (ck_one (-1)))), 245, ([], [], [(227, 141, 141, ck_one (-1))])), (.inr (some (.inl (0, 7, []))), 245, ([], [], [(227, 141, 141, (0, 7, []))]))])
set_option maxRecDepth 100000 in
theorem p2_s997_e : ck_ok p2_O none [] [] 301 [] 92 p2_s997 = true := by decide +kernel
theorem p2_s997_s {X : Int → Int} {LX : Nat} : ck_Ok p2_O X LX 301 p2_s997 := ck_ok_s ⟨p2_nmu, ck_E0⟩ ck_X0 ck_l0 p2_s997_e
set_option maxRecDepth 100000 in
/-- GlacierMailModel.ofLetter -/
def p2_s1000 : ck_Sum := ((0, 0, 0), 245, [.inr (.inr (.inl 226)), .inl (ck_one 3), .inl (ck_one 3)], ([], [], []), ([], []), [(.inr (some (.inl (0, 299, []))), 245, ([], [], []))])
set_option maxRecDepth 100000 in
theorem p2_s1000_e : ck_ok p2_O none [] [] 301 [] 92 p2_s1000 = true := by decide +kernel
theorem p2_s1000_s {X : Int → Int} {LX : Nat} : ck_Ok p2_O X LX 301 p2_s1000 := ck_ok_s ⟨p2_nmu, ck_E0⟩ ck_X0 ck_l0 p2_s1000_e
set_option maxRecDepth 100000 in
/-- GlacierMailModel.in -/
def p2_s1002 : ck_Sum := ((0, 0, 0), 245, [.inl (ck_one 4), .inl (ck_one 0), .inl ((-1), 23, [])], ([], [], []), ([], []), [(.inr (some (.inl (ck_one 0))), 245, ([], [], [])), (.inr (some (.inl (ck_one 1))), 245, ([], [], []))])
set_option maxRecDepth 100000 in
theorem p2_s1002_e : ck_ok p2_O none [] [] 286 [] 88 p2_s1002 = true := by decide +kernel
theorem p2_s1002_s {X : Int → Int} {LX : Nat} : ck_Ok p2_O X LX 286 p2_s1002 := ck_ok_s ⟨p2_nmu, ck_E0⟩ ck_X0 ck_l0 p2_s1002_e
set_option maxRecDepth 100000 in
/-- GlacierMailModel.noLetter -/
def p2_s1003 : ck_Sum := ((1, 0, 0), 245, [.inr (.inr (.inl 226)), .inl (ck_one 4)], ([], [], [(227, 4, 4, (0, 24, [(22, 0)]))]), ([], []), [(.inr (some (.inl (ck_one 1))), 245, ([], [], [])), (.inr (some (.inl (ck_one 0))), 245, ([], [], []))])
set_option maxRecDepth 100000 in
theorem p2_s1003_e : ck_ok p2_O none [] [(254, [p2_s196]), (286, [p2_s1002])] 309 [] 92 p2_s1003 = true := by decide +kernel
theorem p2_s1003_s {X : Int → Int} {LX : Nat} : ck_Ok p2_O X LX 309 p2_s1003 := ck_ok_s ⟨p2_nmu, ck_E1 (ck_S1 p2_s196_s ck_S0) (ck_E1 (ck_S1 p2_s1002_s ck_S0) ck_E0)⟩ ck_X0 ck_l0 p2_s1003_e
set_option maxRecDepth 100000 in
/-- GlacierMailModel.ofLetter -/
def p2_s1004 : ck_Sum := ((0, 0, 0), 245, [.inr (.inr (.inl 226)), .inl (ck_one 4), .inl (ck_one 0)], ([], [], []), ([], []), [(.inr (some (.inl (ck_one (-1)))), 245, ([], [], [(227, 147, 147, ck_one (-1))])), (.inr (some (.inl (0, 7, []))), 245, ([], [], [(227, 147, 147, (0, 7, []))]))])
set_option maxRecDepth 100000 in
theorem p2_s1004_e : ck_ok p2_O none [] [] 301 [] 92 p2_s1004 = true := by decide +kernel
theorem p2_s1004_s {X : Int → Int} {LX : Nat} : ck_Ok p2_O X LX 301 p2_s1004 := ck_ok_s ⟨p2_nmu, ck_E0⟩ ck_X0 ck_l0 p2_s1004_e
set_option maxRecDepth 100000 in
/-- GlacierMailModel.isRock -/
def p2_s1005 : ck_Sum := ((1, 0, 0), 245, [.inr (.inr (.inl 226)), .inl (ck_one 4)], ([], [], []), ([], []), [(.inr (some (.inl (ck_one 1))), 245, ([], [], [(227, 147, 147, ck_one (-1))])), (.inr (some (.inl (ck_one 0))), 245, ([], [], [(227, 147, 147, (0, 7, []))]))])
set_option maxRecDepth 100000 in
theorem p2_s1005_e : ck_ok p2_O none [] [(301, [p2_s1004])] 303 [] 86 p2_s1005 = true := by decide +kernel
theorem p2_s1005_s {X : Int → Int} {LX : Nat} : ck_Ok p2_O X LX 303 p2_s1005 := ck_ok_s ⟨p2_nmu, ck_E1 (ck_S1 p2_s1004_s ck_S0) ck_E0⟩ ck_X0 ck_l0 p2_s1005_e
set_option maxRecDepth 100000 in
/-- GlacierMailModel.ofLetter -/
def p2_s1006 : ck_Sum := ((0, 0, 0), 245, [.inr (.inr (.inl 226)), .inl (ck_one 4), .inl (ck_one 5)], ([], [], []), ([], []), [(.inr (some (.inl (ck_one (-1)))), 245, ([], [], [(227, 152, 152, ck_one (-1))])), (.inr (some (.inl (0, 7, []))), 245, ([], [], [(227, 152, 152, (0, 7, []))]))])
set_option maxRecDepth 100000 in
theorem p2_s1006_e : ck_ok p2_O none [] [] 301 [] 92 p2_s1006 = true := by decide +kernel
theorem p2_s1006_s {X : Int → Int} {LX : Nat} : ck_Ok p2_O X LX 301 p2_s1006 := ck_ok_s ⟨p2_nmu, ck_E0⟩ ck_X0 ck_l0 p2_s1006_e
set_option maxRecDepth 100000 in
/-- GlacierMailModel.ofLetter -/
def p2_s1008 : ck_Sum := ((0, 0, 0), 245, [.inr (.inr (.inl 226)), .inl (ck_one 4), .inl (ck_one 1)], ([], [], []), ([], []), [(.inr (some (.inl (ck_one (-1)))), 245, ([], [], [(227, 148, 148, ck_one (-1))])), (.inr (some (.inl (0, 7, []))), 245, ([], [], [(227, 148, 148, (0, 7, []))]))])
set_option maxRecDepth 100000 in
theorem p2_s1008_e : ck_ok p2_O none [] [] 301 [] 92 p2_s1008 = true := by decide +kernel
theorem p2_s1008_s {X : Int → Int} {LX : Nat} : ck_Ok p2_O X LX 301 p2_s1008 := ck_ok_s ⟨p2_nmu, ck_E0⟩ ck_X0 ck_l0 p2_s1008_e
set_option maxRecDepth 100000 in
/-- GlacierMailModel.ofLetter -/
def p2_s1011 : ck_Sum := ((0, 0, 0), 245, [.inr (.inr (.inl 226)), .inl (ck_one 4), .inl (ck_one 3)], ([], [], []), ([], []), [(.inr (some (.inl (0, 299, []))), 245, ([], [], []))])
set_option maxRecDepth 100000 in
theorem p2_s1011_e : ck_ok p2_O none [] [] 301 [] 92 p2_s1011 = true := by decide +kernel
theorem p2_s1011_s {X : Int → Int} {LX : Nat} : ck_Ok p2_O X LX 301 p2_s1011 := ck_ok_s ⟨p2_nmu, ck_E0⟩ ck_X0 ck_l0 p2_s1011_e
set_option maxRecDepth 100000 in
/-- GlacierMailModel.in -/
def p2_s1013 : ck_Sum := ((0, 0, 0), 245, [.inl (ck_one 5), .inl (ck_one 0), .inl ((-1), 23, [])], ([], [], []), ([], []), [(.inr (some (.inl (ck_one 0))), 245, ([], [], [])), (.inr (some (.inl (ck_one 1))), 245, ([], [], []))])
set_option maxRecDepth 100000 in
theorem p2_s1013_e : ck_ok p2_O none [] [] 286 [] 88 p2_s1013 = true := by decide +kernel
theorem p2_s1013_s {X : Int → Int} {LX : Nat} : ck_Ok p2_O X LX 286 p2_s1013 := ck_ok_s ⟨p2_nmu, ck_E0⟩ ck_X0 ck_l0 p2_s1013_e
set_option maxRecDepth 100000 in
/-- GlacierMailModel.noLetter -/
def p2_s1014 : ck_Sum := ((1, 0, 0), 245, [.inr (.inr (.inl 226)), .inl (ck_one 5)], ([], [], [(227, 4, 4, (0, 24, [(22, 0)]))]), ([], []), [(.inr (some (.inl (ck_one 1))), 245, ([], [], [])), (.inr (some (.inl (ck_one 0))), 245, ([], [], []))])
set_option maxRecDepth 100000 in
theorem p2_s1014_e : ck_ok p2_O none [] [(254, [p2_s196]), (286, [p2_s1013])] 309 [] 92 p2_s1014 = true := by decide +kernel
theorem p2_s1014_s {X : Int → Int} {LX : Nat} : ck_Ok p2_O X LX 309 p2_s1014 := ck_ok_s ⟨p2_nmu, ck_E1 (ck_S1 p2_s196_s ck_S0) (ck_E1 (ck_S1 p2_s1013_s ck_S0) ck_E0)⟩ ck_X0 ck_l0 p2_s1014_e
set_option maxRecDepth 100000 in
/-- GlacierMailModel.ofLetter -/
def p2_s1015 : ck_Sum := ((0, 0, 0), 245, [.inr (.inr (.inl 226)), .inl (ck_one 5), .inl (ck_one 0)], ([], [], []), ([], []), [(.inr (some (.inl (ck_one (-1)))), 245, ([], [], [(227, 154, 154, ck_one (-1))])), (.inr (some (.inl (0, 7, []))), 245, ([], [], [(227, 154, 154, (0, 7, []))]))])
set_option maxRecDepth 100000 in
theorem p2_s1015_e : ck_ok p2_O none [] [] 301 [] 92 p2_s1015 = true := by decide +kernel
theorem p2_s1015_s {X : Int → Int} {LX : Nat} : ck_Ok p2_O X LX 301 p2_s1015 := ck_ok_s ⟨p2_nmu, ck_E0⟩ ck_X0 ck_l0 p2_s1015_e
set_option maxRecDepth 100000 in
/-- GlacierMailModel.isRock -/
def p2_s1016 : ck_Sum := ((1, 0, 0), 245, [.inr (.inr (.inl 226)), .inl (ck_one 5)], ([], [], []), ([], []), [(.inr (some (.inl (ck_one 1))), 245, ([], [], [(227, 154, 154, ck_one (-1))])), (.inr (some (.inl (ck_one 0))), 245, ([], [], [(227, 154, 154, (0, 7, []))]))])
set_option maxRecDepth 100000 in
theorem p2_s1016_e : ck_ok p2_O none [] [(301, [p2_s1015])] 303 [] 86 p2_s1016 = true := by decide +kernel
theorem p2_s1016_s {X : Int → Int} {LX : Nat} : ck_Ok p2_O X LX 303 p2_s1016 := ck_ok_s ⟨p2_nmu, ck_E1 (ck_S1 p2_s1015_s ck_S0) ck_E0⟩ ck_X0 ck_l0 p2_s1016_e
set_option maxRecDepth 100000 in
/-- GlacierMailModel.ofLetter -/
def p2_s1017 : ck_Sum := ((0, 0, 0), 245, [.inr (.inr (.inl 226)), .inl (ck_one 5), .inl (ck_one 5)], ([], [], []), ([], []), [(.inr (some (.inl (ck_one (-1)))), 245, ([], [], [(227, 159, 159, ck_one (-1))])), (.inr (some (.inl (0, 7, []))), 245, ([], [], [(227, 159, 159, (0, 7, []))]))])
set_option maxRecDepth 100000 in
theorem p2_s1017_e : ck_ok p2_O none [] [] 301 [] 92 p2_s1017 = true := by decide +kernel
theorem p2_s1017_s {X : Int → Int} {LX : Nat} : ck_Ok p2_O X LX 301 p2_s1017 := ck_ok_s ⟨p2_nmu, ck_E0⟩ ck_X0 ck_l0 p2_s1017_e
set_option maxRecDepth 100000 in
/-- GlacierMailModel.ofLetter -/
def p2_s1019 : ck_Sum := ((0, 0, 0), 245, [.inr (.inr (.inl 226)), .inl (ck_one 5), .inl (ck_one 1)], ([], [], []), ([], []), [(.inr (some (.inl (ck_one (-1)))), 245, ([], [], [(227, 155, 155, ck_one (-1))])), (.inr (some (.inl (0, 7, []))), 245, ([], [], [(227, 155, 155, (0, 7, []))]))])
set_option maxRecDepth 100000 in
theorem p2_s1019_e : ck_ok p2_O none [] [] 301 [] 92 p2_s1019 = true := by decide +kernel
theorem p2_s1019_s {X : Int → Int} {LX : Nat} : ck_Ok p2_O X LX 301 p2_s1019 := ck_ok_s ⟨p2_nmu, ck_E0⟩ ck_X0 ck_l0 p2_s1019_e
set_option maxRecDepth 100000 in
/-- GlacierMailModel.ofLetter -/
def p2_s1022 : ck_Sum := ((0, 0, 0), 245, [.inr (.inr (.inl 226)), .inl (ck_one 5), .inl (ck_one 3)], ([], [], []), ([], []), [(.inr (some (.inl (0, 299, []))), 245, ([], [], []))])
set_option maxRecDepth 100000 in
theorem p2_s1022_e : ck_ok p2_O none [] [] 301 [] 92 p2_s1022 = true := by decide +kernel
theorem p2_s1022_s {X : Int → Int} {LX : Nat} : ck_Ok p2_O X LX 301 p2_s1022 := ck_ok_s ⟨p2_nmu, ck_E0⟩ ck_X0 ck_l0 p2_s1022_e
set_option maxRecDepth 100000 in
/-- GlacierMailModel.in -/
def p2_s1024 : ck_Sum := ((0, 0, 0), 245, [.inl (ck_one 6), .inl (ck_one 0), .inl ((-1), 23, [])], ([], [], []), ([], []), [(.inr (some (.inl (ck_one 0))), 245, ([], [], [])), (.inr (some (.inl (ck_one 1))), 245, ([], [], []))])
set_option maxRecDepth 100000 in
theorem p2_s1024_e : ck_ok p2_O none [] [] 286 [] 88 p2_s1024 = true := by decide +kernel
theorem p2_s1024_s {X : Int → Int} {LX : Nat} : ck_Ok p2_O X LX 286 p2_s1024 := ck_ok_s ⟨p2_nmu, ck_E0⟩ ck_X0 ck_l0 p2_s1024_e
set_option maxRecDepth 100000 in
/-- GlacierMailModel.noLetter -/
def p2_s1025 : ck_Sum := ((1, 0, 0), 245, [.inr (.inr (.inl 226)), .inl (ck_one 6)], ([], [], [(227, 4, 4, (0, 24, [(22, 0)]))]), ([], []), [(.inr (some (.inl (ck_one 1))), 245, ([], [], [])), (.inr (some (.inl (ck_one 0))), 245, ([], [], []))])
set_option maxRecDepth 100000 in
theorem p2_s1025_e : ck_ok p2_O none [] [(254, [p2_s196]), (286, [p2_s1024])] 309 [] 92 p2_s1025 = true := by decide +kernel
theorem p2_s1025_s {X : Int → Int} {LX : Nat} : ck_Ok p2_O X LX 309 p2_s1025 := ck_ok_s ⟨p2_nmu, ck_E1 (ck_S1 p2_s196_s ck_S0) (ck_E1 (ck_S1 p2_s1024_s ck_S0) ck_E0)⟩ ck_X0 ck_l0 p2_s1025_e
set_option maxRecDepth 100000 in
/-- GlacierMailModel.ofLetter -/
def p2_s1026 : ck_Sum := ((0, 0, 0), 245, [.inr (.inr (.inl 226)), .inl (ck_one 6), .inl (ck_one 0)], ([], [], []), ([], []), [(.inr (some (.inl (ck_one (-1)))), 245, ([], [], [(227, 161, 161, ck_one (-1))])), (.inr (some (.inl (0, 7, []))), 245, ([], [], [(227, 161, 161, (0, 7, []))]))])
set_option maxRecDepth 100000 in
theorem p2_s1026_e : ck_ok p2_O none [] [] 301 [] 92 p2_s1026 = true := by decide +kernel
theorem p2_s1026_s {X : Int → Int} {LX : Nat} : ck_Ok p2_O X LX 301 p2_s1026 := ck_ok_s ⟨p2_nmu, ck_E0⟩ ck_X0 ck_l0 p2_s1026_e
set_option maxRecDepth 100000 in
/-- GlacierMailModel.isRock -/
def p2_s1027 : ck_Sum := ((1, 0, 0), 245, [.inr (.inr (.inl 226)), .inl (ck_one 6)], ([], [], []), ([], []), [(.inr (some (.inl (ck_one 1))), 245, ([], [], [(227, 161, 161, ck_one (-1))])), (.inr (some (.inl (ck_one 0))), 245, ([], [], [(227, 161, 161, (0, 7, []))]))])
set_option maxRecDepth 100000 in
theorem p2_s1027_e : ck_ok p2_O none [] [(301, [p2_s1026])] 303 [] 86 p2_s1027 = true := by decide +kernel
theorem p2_s1027_s {X : Int → Int} {LX : Nat} : ck_Ok p2_O X LX 303 p2_s1027 := ck_ok_s ⟨p2_nmu, ck_E1 (ck_S1 p2_s1026_s ck_S0) ck_E0⟩ ck_X0 ck_l0 p2_s1027_e
set_option maxRecDepth 100000 in
/-- GlacierMailModel.ofLetter -/
def p2_s1028 : ck_Sum := ((0, 0, 0), 245, [.inr (.inr (.inl 226)), .inl (ck_one 6), .inl (ck_one 5)], ([], [], []), ([], []), [(.inr (some (.inl (ck_one (-1)))), 245, ([], [], [(227, 166, 166, ck_one (-1))])), (.inr (some (.inl (0, 7, []))), 245, ([], [], [(227, 166, 166, (0, 7, []))]))])
set_option maxRecDepth 100000 in
theorem p2_s1028_e : ck_ok p2_O none [] [] 301 [] 92 p2_s1028 = true := by decide +kernel
theorem p2_s1028_s {X : Int → Int} {LX : Nat} : ck_Ok p2_O X LX 301 p2_s1028 := ck_ok_s ⟨p2_nmu, ck_E0⟩ ck_X0 ck_l0 p2_s1028_e
set_option maxRecDepth 100000 in
/-- GlacierMailModel.ofLetter -/
def p2_s1030 : ck_Sum := ((0, 0, 0), 245, [.inr (.inr (.inl 226)), .inl (ck_one 6), .inl (ck_one 1)], ([], [], []), ([], []), [(.inr (some (.inl (ck_one (-1)))), 245, ([], [], [(227, 162, 162, ck_one (-1))])), (.inr (some (.inl (0, 7, []))), 245, ([], [], [(227, 162, 162, (0, 7, []))]))])
set_option maxRecDepth 100000 in
theorem p2_s1030_e : ck_ok p2_O none [] [] 301 [] 92 p2_s1030 = true := by decide +kernel
theorem p2_s1030_s {X : Int → Int} {LX : Nat} : ck_Ok p2_O X LX 301 p2_s1030 := ck_ok_s ⟨p2_nmu, ck_E0⟩ ck_X0 ck_l0 p2_s1030_e
set_option maxRecDepth 100000 in
/-- GlacierMailModel.ofLetter -/
def p2_s1033 : ck_Sum := ((0, 0, 0), 245, [.inr (.inr (.inl 226)), .inl (ck_one 6), .inl (ck_one 3)], ([], [], []), ([], []), [(.inr (some (.inl (0, 299, []))), 245, ([], [], []))])
set_option maxRecDepth 100000 in
theorem p2_s1033_e : ck_ok p2_O none [] [] 301 [] 92 p2_s1033 = true := by decide +kernel
theorem p2_s1033_s {X : Int → Int} {LX : Nat} : ck_Ok p2_O X LX 301 p2_s1033 := ck_ok_s ⟨p2_nmu, ck_E0⟩ ck_X0 ck_l0 p2_s1033_e
set_option maxRecDepth 100000 in
/-- GlacierMailModel.in -/
def p2_s1035 : ck_Sum := ((0, 0, 0), 245, [.inl (ck_one 7), .inl (ck_one 0), .inl ((-1), 23, [])], ([], [], []), ([], []), [(.inr (some (.inl (ck_one 0))), 245, ([], [], [])), (.inr (some (.inl (ck_one 1))), 245, ([], [], []))])
set_option maxRecDepth 100000 in
theorem p2_s1035_e : ck_ok p2_O none [] [] 286 [] 88 p2_s1035 = true := by decide +kernel
theorem p2_s1035_s {X : Int → Int} {LX : Nat} : ck_Ok p2_O X LX 286 p2_s1035 := ck_ok_s ⟨p2_nmu, ck_E0⟩ ck_X0 ck_l0 p2_s1035_e
set_option maxRecDepth 100000 in
/-- GlacierMailModel.noLetter -/
def p2_s1036 : ck_Sum := ((1, 0, 0), 245, [.inr (.inr (.inl 226)), .inl (ck_one 7)], ([], [], [(227, 4, 4, (0, 24, [(22, 0)]))]), ([], []), [(.inr (some (.inl (ck_one 1))), 245, ([], [], [])), (.inr (some (.inl (ck_one 0))), 245, ([], [], []))])
set_option maxRecDepth 100000 in
theorem p2_s1036_e : ck_ok p2_O none [] [(254, [p2_s196]), (286, [p2_s1035])] 309 [] 92 p2_s1036 = true := by decide +kernel
theorem p2_s1036_s {X : Int → Int} {LX : Nat} : ck_Ok p2_O X LX 309 p2_s1036 := ck_ok_s ⟨p2_nmu, ck_E1 (ck_S1 p2_s196_s ck_S0) (ck_E1 (ck_S1 p2_s1035_s ck_S0) ck_E0)⟩ ck_X0 ck_l0 p2_s1036_e
set_option maxRecDepth 100000 in
/-- GlacierMailModel.ofLetter -/
def p2_s1037 : ck_Sum := ((0, 0, 0), 245, [.inr (.inr (.inl 226)), .inl (ck_one 7), .inl (ck_one 0)], ([], [], []), ([], []), [(.inr (some (.inl (ck_one (-1)))), 245, ([], [], [(227, 168, 168, ck_one (-1))])), (.inr (some (.inl (0, 7, []))), 245, ([], [], [(227, 168, 168, (0, 7, []))]))])
set_option maxRecDepth 100000 in
theorem p2_s1037_e : ck_ok p2_O none [] [] 301 [] 92 p2_s1037 = true := by decide +kernel
theorem p2_s1037_s {X : Int → Int} {LX : Nat} : ck_Ok p2_O X LX 301 p2_s1037 := ck_ok_s ⟨p2_nmu, ck_E0⟩ ck_X0 ck_l0 p2_s1037_e
set_option maxRecDepth 100000 in
/-- GlacierMailModel.isRock -/
def p2_s1038 : ck_Sum := ((1, 0, 0), 245, [.inr (.inr (.inl 226)), .inl (ck_one 7)], ([], [], []), ([], []), [(.inr (some (.inl (ck_one 1))), 245, ([], [], [(227, 168, 168, ck_one (-1))])), (.inr (some (.inl (ck_one 0))), 245, ([], [], [(227, 168, 168, (0, 7, []))]))])
set_option maxRecDepth 100000 in
theorem p2_s1038_e : ck_ok p2_O none [] [(301, [p2_s1037])] 303 [] 86 p2_s1038 = true := by decide +kernel
theorem p2_s1038_s {X : Int → Int} {LX : Nat} : ck_Ok p2_O X LX 303 p2_s1038 := ck_ok_s ⟨p2_nmu, ck_E1 (ck_S1 p2_s1037_s ck_S0) ck_E0⟩ ck_X0 ck_l0 p2_s1038_e
set_option maxRecDepth 100000 in
/-- GlacierMailModel.ofLetter -/
def p2_s1039 : ck_Sum := ((0, 0, 0), 245, [.inr (.inr (.inl 226)), .inl (ck_one 7), .inl (ck_one 5)], ([], [], []), ([], []), [(.inr (some (.inl (ck_one (-1)))), 245, ([], [], [(227, 173, 173, ck_one (-1))])), (.inr (some (.inl (0, 7, []))), 245, ([], [], [(227, 173, 173, (0, 7, []))]))])
set_option maxRecDepth 100000 in
theorem p2_s1039_e : ck_ok p2_O none [] [] 301 [] 92 p2_s1039 = true := by decide +kernel
theorem p2_s1039_s {X : Int → Int} {LX : Nat} : ck_Ok p2_O X LX 301 p2_s1039 := ck_ok_s ⟨p2_nmu, ck_E0⟩ ck_X0 ck_l0 p2_s1039_e
set_option maxRecDepth 100000 in
/-- GlacierMailModel.ofLetter -/
def p2_s1041 : ck_Sum := ((0, 0, 0), 245, [.inr (.inr (.inl 226)), .inl (ck_one 7), .inl (ck_one 1)], ([], [], []), ([], []), [(.inr (some (.inl (ck_one (-1)))), 245, ([], [], [(227, 169, 169, ck_one (-1))])), (.inr (some (.inl (0, 7, []))), 245, ([], [], [(227, 169, 169, (0, 7, []))]))])
set_option maxRecDepth 100000 in
theorem p2_s1041_e : ck_ok p2_O none [] [] 301 [] 92 p2_s1041 = true := by decide +kernel
theorem p2_s1041_s {X : Int → Int} {LX : Nat} : ck_Ok p2_O X LX 301 p2_s1041 := ck_ok_s ⟨p2_nmu, ck_E0⟩ ck_X0 ck_l0 p2_s1041_e
set_option maxRecDepth 100000 in
/-- GlacierMailModel.ofLetter -/
def p2_s1044 : ck_Sum := ((0, 0, 0), 245, [.inr (.inr (.inl 226)), .inl (ck_one 7), .inl (ck_one 3)], ([], [], []), ([], []), [(.inr (some (.inl (0, 299, []))), 245, ([], [], []))])
set_option maxRecDepth 100000 in
theorem p2_s1044_e : ck_ok p2_O none [] [] 301 [] 92 p2_s1044 = true := by decide +kernel
theorem p2_s1044_s {X : Int → Int} {LX : Nat} : ck_Ok p2_O X LX 301 p2_s1044 := ck_ok_s ⟨p2_nmu, ck_E0⟩ ck_X0 ck_l0 p2_s1044_e
set_option maxRecDepth 100000 in
/-- GlacierMailModel.in -/
def p2_s1046 : ck_Sum := ((0, 0, 0), 245, [.inl (ck_one 8), .inl (ck_one 0), .inl ((-1), 23, [])], ([], [], []), ([], []), [(.inr (some (.inl (ck_one 0))), 245, ([], [], [])), (.inr (some (.inl (ck_one 1))), 245, ([], [], []))])
set_option maxRecDepth 100000 in
theorem p2_s1046_e : ck_ok p2_O none [] [] 286 [] 88 p2_s1046 = true := by decide +kernel
theorem p2_s1046_s {X : Int → Int} {LX : Nat} : ck_Ok p2_O X LX 286 p2_s1046 := ck_ok_s ⟨p2_nmu, ck_E0⟩ ck_X0 ck_l0 p2_s1046_e
set_option maxRecDepth 100000 in
/-- GlacierMailModel.noLetter -/
def p2_s1047 : ck_Sum := ((1, 0, 0), 245, [.inr (.inr (.inl 226)), .inl (ck_one 8)], ([], [], [(227, 4, 4, (0, 24, [(22, 0)]))]), ([], []), [(.inr (some (.inl (ck_one 1))), 245, ([], [], [])), (.inr (some (.inl (ck_one 0))), 245, ([], [], []))])
set_option maxRecDepth 100000 in
theorem p2_s1047_e : ck_ok p2_O none [] [(254, [p2_s196]), (286, [p2_s1046])] 309 [] 92 p2_s1047 = true := by decide +kernel
theorem p2_s1047_s {X : Int → Int} {LX : Nat} : ck_Ok p2_O X LX 309 p2_s1047 := ck_ok_s ⟨p2_nmu, ck_E1 (ck_S1 p2_s196_s ck_S0) (ck_E1 (ck_S1 p2_s1046_s ck_S0) ck_E0)⟩ ck_X0 ck_l0 p2_s1047_e
set_option maxRecDepth 100000 in
/-- GlacierMailModel.ofLetter -/
def p2_s1048 : ck_Sum := ((0, 0, 0), 245, [.inr (.inr (.inl 226)), .inl (ck_one 8), .inl (ck_one 0)], ([], [], []), ([], []), [(.inr (some (.inl (ck_one (-1)))), 245, ([], [], [(227, 175, 175, ck_one (-1))])), (.inr (some (.inl (0, 7, []))), 245, ([], [], [(227, 175, 175, (0, 7, []))]))])
set_option maxRecDepth 100000 in
theorem p2_s1048_e : ck_ok p2_O none [] [] 301 [] 92 p2_s1048 = true := by decide +kernel
theorem p2_s1048_s {X : Int → Int} {LX : Nat} : ck_Ok p2_O X LX 301 p2_s1048 := ck_ok_s ⟨p2_nmu, ck_E0⟩ ck_X0 ck_l0 p2_s1048_e
set_option maxRecDepth 100000 in
/-- GlacierMailModel.isRock -/
def p2_s1049 : ck_Sum := ((1, 0, 0), 245, [.inr (.inr (.inl 226)), .inl (ck_one 8)], ([], [], []), ([], []), [(.inr (some (.inl (ck_one 1))), 245, ([], [], [(227, 175, 175, ck_one (-1))])), (.inr (some (.inl (ck_one 0))), 245, ([], [], [(227, 175, 175, (0, 7, []))]))])
set_option maxRecDepth 100000 in
theorem p2_s1049_e : ck_ok p2_O none [] [(301, [p2_s1048])] 303 [] 86 p2_s1049 = true := by decide +kernel
theorem p2_s1049_s {X : Int → Int} {LX : Nat} : ck_Ok p2_O X LX 303 p2_s1049 := ck_ok_s ⟨p2_nmu, ck_E1 (ck_S1 p2_s1048_s ck_S0) ck_E0⟩ ck_X0 ck_l0 p2_s1049_e
set_option maxRecDepth 100000 in
/-- GlacierMailModel.ofLetter -/
def p2_s1050 : ck_Sum := ((0, 0, 0), 245, [.inr (.inr (.inl 226)), .inl (ck_one 8), .inl (ck_one 5)], ([], [], []), ([], []), [(.inr (some (.inl (ck_one (-1)))), 245, ([], [], [(227, 180, 180, ck_one (-1))])), (.inr (some (.inl (0, 7, []))), 245, ([], [], [(227, 180, 180, (0, 7, []))]))])
set_option maxRecDepth 100000 in
theorem p2_s1050_e : ck_ok p2_O none [] [] 301 [] 92 p2_s1050 = true := by decide +kernel
theorem p2_s1050_s {X : Int → Int} {LX : Nat} : ck_Ok p2_O X LX 301 p2_s1050 := ck_ok_s ⟨p2_nmu, ck_E0⟩ ck_X0 ck_l0 p2_s1050_e
set_option maxRecDepth 100000 in
/-- GlacierMailModel.ofLetter -/
def p2_s1052 : ck_Sum := ((0, 0, 0), 245, [.inr (.inr (.inl 226)), .inl (ck_one 8), .inl (ck_one 1)], ([], [], []), ([], []), [(.inr (some (.inl (ck_one (-1)))), 245, ([], [], [(227, 176, 176, ck_one (-1))])), (.inr (some (.inl (0, 7, []))), 245, ([], [], [(227, 176, 176, (0, 7, []))]))])
set_option maxRecDepth 100000 in
theorem p2_s1052_e : ck_ok p2_O none [] [] 301 [] 92 p2_s1052 = true := by decide +kernel
theorem p2_s1052_s {X : Int → Int} {LX : Nat} : ck_Ok p2_O X LX 301 p2_s1052 := ck_ok_s ⟨p2_nmu, ck_E0⟩ ck_X0 ck_l0 p2_s1052_e
set_option maxRecDepth 100000 in
/-- GlacierMailModel.ofLetter -/
def p2_s1055 : ck_Sum := ((0, 0, 0), 245, [.inr (.inr (.inl 226)), .inl (ck_one 8), .inl (ck_one 3)], ([], [], []), ([], []), [(.inr (some (.inl (0, 299, []))), 245, ([], [], []))])
set_option maxRecDepth 100000 in
theorem p2_s1055_e : ck_ok p2_O none [] [] 301 [] 92 p2_s1055 = true := by decide +kernel
theorem p2_s1055_s {X : Int → Int} {LX : Nat} : ck_Ok p2_O X LX 301 p2_s1055 := ck_ok_s ⟨p2_nmu, ck_E0⟩ ck_X0 ck_l0 p2_s1055_e
set_option maxRecDepth 100000 in
/-- GlacierMailModel.in -/
def p2_s1057 : ck_Sum := ((0, 0, 0), 245, [.inl (ck_one 9), .inl (ck_one 0), .inl ((-1), 23, [])], ([], [], []), ([], []), [(.inr (some (.inl (ck_one 0))), 245, ([], [], [])), (.inr (some (.inl (ck_one 1))), 245, ([], [], []))])
set_option maxRecDepth 100000 in
theorem p2_s1057_e : ck_ok p2_O none [] [] 286 [] 88 p2_s1057 = true := by decide +kernel
theorem p2_s1057_s {X : Int → Int} {LX : Nat} : ck_Ok p2_O X LX 286 p2_s1057 := ck_ok_s ⟨p2_nmu, ck_E0⟩ ck_X0 ck_l0 p2_s1057_e
set_option maxRecDepth 100000 in
/-- GlacierMailModel.noLetter -/
def p2_s1058 : ck_Sum := ((1, 0, 0), 245, [.inr (.inr (.inl 226)), .inl (ck_one 9)], ([], [], [(227, 4, 4, (0, 24, [(22, 0)]))]), ([], []), [(.inr (some (.inl (ck_one 1))), 245, ([], [], [])), (.inr (some (.inl (ck_one 0))), 245, ([], [], []))])
set_option maxRecDepth 100000 in
theorem p2_s1058_e : ck_ok p2_O none [] [(254, [p2_s196]), (286, [p2_s1057])] 309 [] 92 p2_s1058 = true := by decide +kernel
theorem p2_s1058_s {X : Int → Int} {LX : Nat} : ck_Ok p2_O X LX 309 p2_s1058 := ck_ok_s ⟨p2_nmu, ck_E1 (ck_S1 p2_s196_s ck_S0) (ck_E1 (ck_S1 p2_s1057_s ck_S0) ck_E0)⟩ ck_X0 ck_l0 p2_s1058_e
set_option maxRecDepth 100000 in
/-- GlacierMailModel.ofLetter -/
def p2_s1059 : ck_Sum := ((0, 0, 0), 245, [.inr (.inr (.inl 226)), .inl (ck_one 9), .inl (ck_one 0)], ([], [], []), ([], []), [(.inr (some (.inl (ck_one (-1)))), 245, ([], [], [(227, 182, 182, ck_one (-1))])), (.inr (some (.inl (0, 7, []))), 245, ([], [], [(227, 182, 182, (0, 7, []))]))])
set_option maxRecDepth 100000 in
theorem p2_s1059_e : ck_ok p2_O none [] [] 301 [] 92 p2_s1059 = true := by decide +kernel
theorem p2_s1059_s {X : Int → Int} {LX : Nat} : ck_Ok p2_O X LX 301 p2_s1059 := ck_ok_s ⟨p2_nmu, ck_E0⟩ ck_X0 ck_l0 p2_s1059_e
set_option maxRecDepth 100000 in
/-- GlacierMailModel.isRock -/
def p2_s1060 : ck_Sum := ((1, 0, 0), 245, [.inr (.inr (.inl 226)), .inl (ck_one 9)], ([], [], []), ([], []), [(.inr (some (.inl (ck_one 1))), 245, ([], [], [(227, 182, 182, ck_one (-1))])), (.inr (some (.inl (ck_one 0))), 245, ([], [], [(227, 182, 182, (0, 7, []))]))])
set_option maxRecDepth 100000 in
theorem p2_s1060_e : ck_ok p2_O none [] [(301, [p2_s1059])] 303 [] 86 p2_s1060 = true := by decide +kernel
theorem p2_s1060_s {X : Int → Int} {LX : Nat} : ck_Ok p2_O X LX 303 p2_s1060 := ck_ok_s ⟨p2_nmu, ck_E1 (ck_S1 p2_s1059_s ck_S0) ck_E0⟩ ck_X0 ck_l0 p2_s1060_e
set_option maxRecDepth 100000 in
/-- GlacierMailModel.ofLetter -/
def p2_s1061 : ck_Sum := ((0, 0, 0), 245, [.inr (.inr (.inl 226)), .inl (ck_one 9), .inl (ck_one 5)], ([], [], []), ([], []), [(.inr (some (.inl (ck_one (-1)))), 245, ([], [], [(227, 187, 187, ck_one (-1))])), (.inr (some (.inl (0, 7, []))), 245, ([], [], [(227, 187, 187, (0, 7, []))]))])
set_option maxRecDepth 100000 in
theorem p2_s1061_e : ck_ok p2_O none [] [] 301 [] 92 p2_s1061 = true := by decide +kernel
theorem p2_s1061_s {X : Int → Int} {LX : Nat} : ck_Ok p2_O X LX 301 p2_s1061 := ck_ok_s ⟨p2_nmu, ck_E0⟩ ck_X0 ck_l0 p2_s1061_e
set_option maxRecDepth 100000 in
/-- GlacierMailModel.ofLetter -/
def p2_s1063 : ck_Sum := ((0, 0, 0), 245, [.inr (.inr (.inl 226)), .inl (ck_one 9), .inl (ck_one 1)], ([], [], []), ([], []), [(.inr (some (.inl (ck_one (-1)))), 245, ([], [], [(227, 183, 183, ck_one (-1))])), (.inr (some (.inl (0, 7, []))), 245, ([], [], [(227, 183, 183, (0, 7, []))]))])
set_option maxRecDepth 100000 in
theorem p2_s1063_e : ck_ok p2_O none [] [] 301 [] 92 p2_s1063 = true := by decide +kernel
theorem p2_s1063_s {X : Int → Int} {LX : Nat} : ck_Ok p2_O X LX 301 p2_s1063 := ck_ok_s ⟨p2_nmu, ck_E0⟩ ck_X0 ck_l0 p2_s1063_e
set_option maxRecDepth 100000 in
/-- GlacierMailModel.ofLetter -/
def p2_s1066 : ck_Sum := ((0, 0, 0), 245, [.inr (.inr (.inl 226)), .inl (ck_one 9), .inl (ck_one 3)], ([], [], []), ([], []), [(.inr (some (.inl (0, 299, []))), 245, ([], [], []))])
set_option maxRecDepth 100000 in
theorem p2_s1066_e : ck_ok p2_O none [] [] 301 [] 92 p2_s1066 = true := by decide +kernel
theorem p2_s1066_s {X : Int → Int} {LX : Nat} : ck_Ok p2_O X LX 301 p2_s1066 := ck_ok_s ⟨p2_nmu, ck_E0⟩ ck_X0 ck_l0 p2_s1066_e
set_option maxRecDepth 100000 in
/-- GlacierMailModel.in -/
def p2_s1068 : ck_Sum := ((0, 0, 0), 245, [.inl (ck_one 10), .inl (ck_one 0), .inl ((-1), 23, [])], ([], [], []), ([], []), [(.inr (some (.inl (ck_one 0))), 245, ([], [], [])), (.inr (some (.inl (ck_one 1))), 245, ([], [], []))])
set_option maxRecDepth 100000 in
theorem p2_s1068_e : ck_ok p2_O none [] [] 286 [] 88 p2_s1068 = true := by decide +kernel
theorem p2_s1068_s {X : Int → Int} {LX : Nat} : ck_Ok p2_O X LX 286 p2_s1068 := ck_ok_s ⟨p2_nmu, ck_E0⟩ ck_X0 ck_l0 p2_s1068_e
set_option maxRecDepth 100000 in
/-- GlacierMailModel.noLetter -/
def p2_s1069 : ck_Sum := ((1, 0, 0), 245, [.inr (.inr (.inl 226)), .inl (ck_one 10)], ([], [], [(227, 4, 4, (0, 24, [(22, 0)]))]), ([], []), [(.inr (some (.inl (ck_one 1))), 245, ([], [], [])), (.inr (some (.inl (ck_one 0))), 245, ([], [], []))])
set_option maxRecDepth 100000 in
theorem p2_s1069_e : ck_ok p2_O none [] [(254, [p2_s196]), (286, [p2_s1068])] 309 [] 92 p2_s1069 = true := by decide +kernel
theorem p2_s1069_s {X : Int → Int} {LX : Nat} : ck_Ok p2_O X LX 309 p2_s1069 := ck_ok_s ⟨p2_nmu, ck_E1 (ck_S1 p2_s196_s ck_S0) (ck_E1 (ck_S1 p2_s1068_s ck_S0) ck_E0)⟩ ck_X0 ck_l0 p2_s1069_e
set_option maxRecDepth 100000 in
/-- GlacierMailModel.ofLetter -/
def p2_s1070 : ck_Sum := ((0, 0, 0), 245, [.inr (.inr (.inl 226)), .inl (ck_one 10), .inl (ck_one 0)], ([], [], []), ([], []), [(.inr (some (.inl (ck_one (-1)))), 245, ([], [], [(227, 189, 189, ck_one (-1))])), (.inr (some (.inl (0, 7, []))), 245, ([], [], [(227, 189, 189, (0, 7, []))]))])
set_option maxRecDepth 100000 in
theorem p2_s1070_e : ck_ok p2_O none [] [] 301 [] 92 p2_s1070 = true := by decide +kernel
theorem p2_s1070_s {X : Int → Int} {LX : Nat} : ck_Ok p2_O X LX 301 p2_s1070 := ck_ok_s ⟨p2_nmu, ck_E0⟩ ck_X0 ck_l0 p2_s1070_e
set_option maxRecDepth 100000 in
/-- GlacierMailModel.isRock -/
def p2_s1071 : ck_Sum := ((1, 0, 0), 245, [.inr (.inr (.inl 226)), .inl (ck_one 10)], ([], [], []), ([], []), [(.inr (some (.inl (ck_one 1))), 245, ([], [], [(227, 189, 189, ck_one (-1))])), (.inr (some (.inl (ck_one 0))), 245, ([], [], [(227, 189, 189, (0, 7, []))]))])
set_option maxRecDepth 100000 in
theorem p2_s1071_e : ck_ok p2_O none [] [(301, [p2_s1070])] 303 [] 86 p2_s1071 = true := by decide +kernel
theorem p2_s1071_s {X : Int → Int} {LX : Nat} : ck_Ok p2_O X LX 303 p2_s1071 := ck_ok_s ⟨p2_nmu, ck_E1 (ck_S1 p2_s1070_s ck_S0) ck_E0⟩ ck_X0 ck_l0 p2_s1071_e
set_option maxRecDepth 100000 in
/-- GlacierMailModel.ofLetter -/
def p2_s1072 : ck_Sum := ((0, 0, 0), 245, [.inr (.inr (.inl 226)), .inl (ck_one 10), .inl (ck_one 5)], ([], [], []), ([], []), [(.inr (some (.inl (ck_one (-1)))), 245, ([], [], [(227, 194, 194, ck_one (-1))])), (.inr (some (.inl (0, 7, []))), 245, ([], [], [(227, 194, 194, (0, 7, []))]))])
set_option maxRecDepth 100000 in
theorem p2_s1072_e : ck_ok p2_O none [] [] 301 [] 92 p2_s1072 = true := by decide +kernel
theorem p2_s1072_s {X : Int → Int} {LX : Nat} : ck_Ok p2_O X LX 301 p2_s1072 := ck_ok_s ⟨p2_nmu, ck_E0⟩ ck_X0 ck_l0 p2_s1072_e
set_option maxRecDepth 100000 in
/-- GlacierMailModel.ofLetter -/
def p2_s1074 : ck_Sum := ((0, 0, 0), 245, [.inr (.inr (.inl 226)), .inl (ck_one 10), .inl (ck_one 1)], ([], [], []), ([], []), [(.inr (some (.inl (ck_one (-1)))), 245, ([], [], [(227, 190, 190, ck_one (-1))])), (.inr (some (.inl (0, 7, []))), 245, ([], [], [(227, 190, 190, (0, 7, []))]))])
set_option maxRecDepth 100000 in
theorem p2_s1074_e : ck_ok p2_O none [] [] 301 [] 92 p2_s1074 = true := by decide +kernel
theorem p2_s1074_s {X : Int → Int} {LX : Nat} : ck_Ok p2_O X LX 301 p2_s1074 := ck_ok_s ⟨p2_nmu, ck_E0⟩ ck_X0 ck_l0 p2_s1074_e
set_option maxRecDepth 100000 in
/-- GlacierMailModel.ofLetter -/
def p2_s1077 : ck_Sum := ((0, 0, 0), 245, [.inr (.inr (.inl 226)), .inl (ck_one 10), .inl (ck_one 3)], ([], [], []), ([], []), [(.inr (some (.inl (0, 299, []))), 245, ([], [], []))])
set_option maxRecDepth 100000 in
theorem p2_s1077_e : ck_ok p2_O none [] [] 301 [] 92 p2_s1077 = true := by decide +kernel
theorem p2_s1077_s {X : Int → Int} {LX : Nat} : ck_Ok p2_O X LX 301 p2_s1077 := ck_ok_s ⟨p2_nmu, ck_E0⟩ ck_X0 ck_l0 p2_s1077_e
set_option maxRecDepth 100000 in
/-- GlacierMailModel.in -/
def p2_s1079 : ck_Sum := ((0, 0, 0), 245, [.inl (ck_one 11), .inl (ck_one 0), .inl ((-1), 23, [])], ([], [], []), ([], []), [(.inr (some (.inl (ck_one 0))), 245, ([], [], [])), (.inr (some (.inl (ck_one 1))), 245, ([], [], []))])
set_option maxRecDepth 100000 in
theorem p2_s1079_e : ck_ok p2_O none [] [] 286 [] 88 p2_s1079 = true := by decide +kernel
theorem p2_s1079_s {X : Int → Int} {LX : Nat} : ck_Ok p2_O X LX 286 p2_s1079 := ck_ok_s ⟨p2_nmu, ck_E0⟩ ck_X0 ck_l0 p2_s1079_e
set_option maxRecDepth 100000 in
/-- GlacierMailModel.noLetter -/
def p2_s1080 : ck_Sum := ((1, 0, 0), 245, [.inr (.inr (.inl 226)), .inl (ck_one 11)], ([], [], [(227, 4, 4, (0, 24, [(22, 0)]))]), ([], []), [(.inr (some (.inl (ck_one 1))), 245, ([], [], [])), (.inr (some (.inl (ck_one 0))), 245, ([], [], []))])
set_option maxRecDepth 100000 in
theorem p2_s1080_e : ck_ok p2_O none [] [(254, [p2_s196]), (286, [p2_s1079])] 309 [] 92 p2_s1080 = true := by decide +kernel
theorem p2_s1080_s {X : Int → Int} {LX : Nat} : ck_Ok p2_O X LX 309 p2_s1080 := ck_ok_s ⟨p2_nmu, ck_E1 (ck_S1 p2_s196_s ck_S0) (ck_E1 (ck_S1 p2_s1079_s ck_S0) ck_E0)⟩ ck_X0 ck_l0 p2_s1080_e
set_option maxRecDepth 100000 in
/-- GlacierMailModel.ofLetter -/
def p2_s1081 : ck_Sum := ((0, 0, 0), 245, [.inr (.inr (.inl 226)), .inl (ck_one 11), .inl (ck_one 0)], ([], [], []), ([], []), [(.inr (some (.inl (ck_one (-1)))), 245, ([], [], [(227, 196, 196, ck_one (-1))])), (.inr (some (.inl (0, 7, []))), 245, ([], [], [(227, 196, 196, (0, 7, []))]))])
set_option maxRecDepth 100000 in
theorem p2_s1081_e : ck_ok p2_O none [] [] 301 [] 92 p2_s1081 = true := by decide +kernel
theorem p2_s1081_s {X : Int → Int} {LX : Nat} : ck_Ok p2_O X LX 301 p2_s1081 := ck_ok_s ⟨p2_nmu, ck_E0⟩ ck_X0 ck_l0 p2_s1081_e
set_option maxRecDepth 100000 in
/-- GlacierMailModel.isRock -/
def p2_s1082 : ck_Sum := ((1, 0, 0), 245, [.inr (.inr (.inl 226)), .inl (ck_one 11)], ([], [], []), ([], []), [(.inr (some (.inl (ck_one 1))), 245, ([], [], [(227, 196, 196, ck_one (-1))])), (.inr (some (.inl (ck_one 0))), 245, ([], [], [(227, 196, 196, (0, 7, []))]))])
set_option maxRecDepth 100000 in
theorem p2_s1082_e : ck_ok p2_O none [] [(301, [p2_s1081])] 303 [] 86 p2_s1082 = true := by decide +kernel
theorem p2_s1082_s {X : Int → Int} {LX : Nat} : ck_Ok p2_O X LX 303 p2_s1082 := ck_ok_s ⟨p2_nmu, ck_E1 (ck_S1 p2_s1081_s ck_S0) ck_E0⟩ ck_X0 ck_l0 p2_s1082_e
set_option maxRecDepth 100000 in
/-- GlacierMailModel.ofLetter -/
def p2_s1083 : ck_Sum := ((0, 0, 0), 245, [.inr (.inr (.inl 226)), .inl (ck_one 11), .inl (ck_one 5)], ([], [], []), ([], []), [(.inr (some (.inl (ck_one (-1)))), 245, ([], [], [(227, 201, 201, ck_one (-1))])), (.inr (some (.inl (0, 7, []))), 245, ([], [], [(227, 201, 201, (0, 7, []))]))])
set_option maxRecDepth 100000 in
theorem p2_s1083_e : ck_ok p2_O none [] [] 301 [] 92 p2_s1083 = true := by decide +kernel
theorem p2_s1083_s {X : Int → Int} {LX : Nat} : ck_Ok p2_O X LX 301 p2_s1083 := ck_ok_s ⟨p2_nmu, ck_E0⟩ ck_X0 ck_l0 p2_s1083_e
set_option maxRecDepth 100000 in
/-- GlacierMailModel.ofLetter -/
def p2_s1085 : ck_Sum := ((0, 0, 0), 245, [.inr (.inr (.inl 226)), .inl (ck_one 11), .inl (ck_one 1)], ([], [], []), ([], []), [(.inr (some (.inl (ck_one (-1)))), 245, ([], [], [(227, 197, 197, ck_one (-1))])), (.inr (some (.inl (0, 7, []))), 245, ([], [], [(227, 197, 197, (0, 7, []))]))])
set_option maxRecDepth 100000 in
theorem p2_s1085_e : ck_ok p2_O none [] [] 301 [] 92 p2_s1085 = true := by decide +kernel
theorem p2_s1085_s {X : Int → Int} {LX : Nat} : ck_Ok p2_O X LX 301 p2_s1085 := ck_ok_s ⟨p2_nmu, ck_E0⟩ ck_X0 ck_l0 p2_s1085_e
set_option maxRecDepth 100000 in
/-- GlacierMailModel.ofLetter -/
def p2_s1088 : ck_Sum := ((0, 0, 0), 245, [.inr (.inr (.inl 226)), .inl (ck_one 11), .inl (ck_one 3)], ([], [], []), ([], []), [(.inr (some (.inl (0, 299, []))), 245, ([], [], []))])
set_option maxRecDepth 100000 in
theorem p2_s1088_e : ck_ok p2_O none [] [] 301 [] 92 p2_s1088 = true := by decide +kernel
theorem p2_s1088_s {X : Int → Int} {LX : Nat} : ck_Ok p2_O X LX 301 p2_s1088 := ck_ok_s ⟨p2_nmu, ck_E0⟩ ck_X0 ck_l0 p2_s1088_e
set_option maxRecDepth 100000 in
/-- GlacierMailModel.in -/
def p2_s1090 : ck_Sum := ((0, 0, 0), 245, [.inl (ck_one 12), .inl (ck_one 0), .inl ((-1), 23, [])], ([], [], []), ([], []), [(.inr (some (.inl (ck_one 0))), 245, ([], [], [])), (.inr (some (.inl (ck_one 1))), 245, ([], [], []))])
set_option maxRecDepth 100000 in
theorem p2_s1090_e : ck_ok p2_O none [] [] 286 [] 88 p2_s1090 = true := by decide +kernel
theorem p2_s1090_s {X : Int → Int} {LX : Nat} : ck_Ok p2_O X LX 286 p2_s1090 := ck_ok_s ⟨p2_nmu, ck_E0⟩ ck_X0 ck_l0 p2_s1090_e
set_option maxRecDepth 100000 in
/-- GlacierMailModel.noLetter -/
def p2_s1091 : ck_Sum := ((1, 0, 0), 245, [.inr (.inr (.inl 226)), .inl (ck_one 12)], ([], [], [(227, 4, 4, (0, 24, [(22, 0)]))]), ([], []), [(.inr (some (.inl (ck_one 1))), 245, ([], [], [])), (.inr (some (.inl (ck_one 0))), 245, ([], [], []))])
set_option maxRecDepth 100000 in
theorem p2_s1091_e : ck_ok p2_O none [] [(254, [p2_s196]), (286, [p2_s1090])] 309 [] 92 p2_s1091 = true := by decide +kernel
theorem p2_s1091_s {X : Int → Int} {LX : Nat} : ck_Ok p2_O X LX 309 p2_s1091 := ck_ok_s ⟨p2_nmu, ck_E1 (ck_S1 p2_s196_s ck_S0) (ck_E1 (ck_S1 p2_s1090_s ck_S0) ck_E0)⟩ ck_X0 ck_l0 p2_s1091_e
set_option maxRecDepth 100000 in
/-- GlacierMailModel.ofLetter -/
def p2_s1092 : ck_Sum := ((0, 0, 0), 245, [.inr (.inr (.inl 226)), .inl (ck_one 12), .inl (ck_one 0)], ([], [], []), ([], []), [(.inr (some (.inl (ck_one (-1)))), 245, ([], [], [(227, 203, 203, ck_one (-1))])), (.inr (some (.inl (0, 7, []))), 245, ([], [], [(227, 203, 203, (0, 7, []))]))])
set_option maxRecDepth 100000 in
theorem p2_s1092_e : ck_ok p2_O none [] [] 301 [] 92 p2_s1092 = true := by decide +kernel
theorem p2_s1092_s {X : Int → Int} {LX : Nat} : ck_Ok p2_O X LX 301 p2_s1092 := ck_ok_s ⟨p2_nmu, ck_E0⟩ ck_X0 ck_l0 p2_s1092_e
set_option maxRecDepth 100000 in
/-- GlacierMailModel.isRock -/
def p2_s1093 : ck_Sum := ((1, 0, 0), 245, [.inr (.inr (.inl 226)), .inl (ck_one 12)], ([], [], []), ([], []), [(.inr (some (.inl (ck_one 1))), 245, ([], [], [(227, 203, 203, ck_one (-1))])), (.inr (some (.inl (ck_one 0))), 245, ([], [], [(227, 203, 203, (0, 7, []))]))])
set_option maxRecDepth 100000 in
theorem p2_s1093_e : ck_ok p2_O none [] [(301, [p2_s1092])] 303 [] 86 p2_s1093 = true := by decide +kernel
theorem p2_s1093_s {X : Int → Int} {LX : Nat} : ck_Ok p2_O X LX 303 p2_s1093 := ck_ok_s ⟨p2_nmu, ck_E1 (ck_S1 p2_s1092_s ck_S0) ck_E0⟩ ck_X0 ck_l0 p2_s1093_e
set_option maxRecDepth 100000 in
/-- GlacierMailModel.ofLetter -/
def p2_s1094 : ck_Sum := ((0, 0, 0), 245, [.inr (.inr (.inl 226)), .inl (ck_one 12), .inl (ck_one 5)], ([], [], []), ([], []), [(.inr (some (.inl (ck_one (-1)))), 245, ([], [], [(227, 208, 208, ck_one (-1))])), (.inr (some (.inl (0, 7, []))), 245, ([], [], [(227, 208, 208, (0, 7, []))]))])
set_option maxRecDepth 100000 in
theorem p2_s1094_e : ck_ok p2_O none [] [] 301 [] 92 p2_s1094 = true := by decide +kernel
theorem p2_s1094_s {X : Int → Int} {LX : Nat} : ck_Ok p2_O X LX 301 p2_s1094 := ck_ok_s ⟨p2_nmu, ck_E0⟩ ck_X0 ck_l0 p2_s1094_e
set_option maxRecDepth 100000 in
/-- GlacierMailModel.ofLetter -/
def p2_s1096 : ck_Sum := ((0, 0, 0), 245, [.inr (.inr (.inl 226)), .inl (ck_one 12), .inl (ck_one 1)], ([], [], []), ([], []), [(.inr (some (.inl (ck_one (-1)))), 245, ([], [], [(227, 204, 204, ck_one (-1))])), (.inr (some (.inl (0, 7, []))), 245, ([], [], [(227, 204, 204, (0, 7, []))]))])
set_option maxRecDepth 100000 in
theorem p2_s1096_e : ck_ok p2_O none [] [] 301 [] 92 p2_s1096 = true := by decide +kernel
theorem p2_s1096_s {X : Int → Int} {LX : Nat} : ck_Ok p2_O X LX 301 p2_s1096 := ck_ok_s ⟨p2_nmu, ck_E0⟩ ck_X0 ck_l0 p2_s1096_e
set_option maxRecDepth 100000 in
/-- GlacierMailModel.ofLetter -/
def p2_s1099 : ck_Sum := ((0, 0, 0), 245, [.inr (.inr (.inl 226)), .inl (ck_one 12), .inl (ck_one 3)], ([], [], []), ([], []), [(.inr (some (.inl (0, 299, []))), 245, ([], [], []))])
set_option maxRecDepth 100000 in
theorem p2_s1099_e : ck_ok p2_O none [] [] 301 [] 92 p2_s1099 = true := by decide +kernel
theorem p2_s1099_s {X : Int → Int} {LX : Nat} : ck_Ok p2_O X LX 301 p2_s1099 := ck_ok_s ⟨p2_nmu, ck_E0⟩ ck_X0 ck_l0 p2_s1099_e
set_option maxRecDepth 100000 in
/-- GlacierMailModel.in -/
def p2_s1101 : ck_Sum := ((0, 0, 0), 245, [.inl (ck_one 13), .inl (ck_one 0), .inl ((-1), 23, [])], ([], [], []), ([], []), [(.inr (some (.inl (ck_one 0))), 245, ([], [], [])), (.inr (some (.inl (ck_one 1))), 245, ([], [], []))])
set_option maxRecDepth 100000 in
theorem p2_s1101_e : ck_ok p2_O none [] [] 286 [] 88 p2_s1101 = true := by decide +kernel
theorem p2_s1101_s {X : Int → Int} {LX : Nat} : ck_Ok p2_O X LX 286 p2_s1101 := ck_ok_s ⟨p2_nmu, ck_E0⟩ ck_X0 ck_l0 p2_s1101_e
set_option maxRecDepth 100000 in
/-- GlacierMailModel.noLetter -/
def p2_s1102 : ck_Sum := ((1, 0, 0), 245, [.inr (.inr (.inl 226)), .inl (ck_one 13)], ([], [], [(227, 4, 4, (0, 24, [(22, 0)]))]), ([], []), [(.inr (some (.inl (ck_one 1))), 245, ([], [], [])), (.inr (some (.inl (ck_one 0))), 245, ([], [], []))])
set_option maxRecDepth 100000 in
theorem p2_s1102_e : ck_ok p2_O none [] [(254, [p2_s196]), (286, [p2_s1101])] 309 [] 92 p2_s1102 = true := by decide +kernel
theorem p2_s1102_s {X : Int → Int} {LX : Nat} : ck_Ok p2_O X LX 309 p2_s1102 := ck_ok_s ⟨p2_nmu, ck_E1 (ck_S1 p2_s196_s ck_S0) (ck_E1 (ck_S1 p2_s1101_s ck_S0) ck_E0)⟩ ck_X0 ck_l0 p2_s1102_e
set_option maxRecDepth 100000 in
/-- GlacierMailModel.ofLetter -/
def p2_s1103 : ck_Sum := ((0, 0, 0), 245, [.inr (.inr (.inl 226)), .inl (ck_one 13), .inl (ck_one 0)], ([], [], []), ([], []), [(.inr (some (.inl (ck_one (-1)))), 245, ([], [], [(227, 210, 210, ck_one (-1))])), (.inr (some (.inl (0, 7, []))), 245, ([], [], [(227, 210, 210, (0, 7, []))]))])
set_option maxRecDepth 100000 in
theorem p2_s1103_e : ck_ok p2_O none [] [] 301 [] 92 p2_s1103 = true := by decide +kernel
theorem p2_s1103_s {X : Int → Int} {LX : Nat} : ck_Ok p2_O X LX 301 p2_s1103 := ck_ok_s ⟨p2_nmu, ck_E0⟩ ck_X0 ck_l0 p2_s1103_e
set_option maxRecDepth 100000 in
/-- GlacierMailModel.isRock -/
def p2_s1104 : ck_Sum := ((1, 0, 0), 245, [.inr (.inr (.inl 226)), .inl (ck_one 13)], ([], [], []), ([], []), [(.inr (some (.inl (ck_one 1))), 245, ([], [], [(227, 210, 210, ck_one (-1))])), (.inr (some (.inl (ck_one 0))), 245, ([], [], [(227, 210, 210, (0, 7, []))]))])
set_option maxRecDepth 100000 in
theorem p2_s1104_e : ck_ok p2_O none [] [(301, [p2_s1103])] 303 [] 86 p2_s1104 = true := by decide +kernel
theorem p2_s1104_s {X : Int → Int} {LX : Nat} : ck_Ok p2_O X LX 303 p2_s1104 := ck_ok_s ⟨p2_nmu, ck_E1 (ck_S1 p2_s1103_s ck_S0) ck_E0⟩ ck_X0 ck_l0 p2_s1104_e
set_option maxRecDepth 100000 in
/-- GlacierMailModel.ofLetter -/
def p2_s1105 : ck_Sum := ((0, 0, 0), 245, [.inr (.inr (.inl 226)), .inl (ck_one 13), .inl (ck_one 5)], ([], [], []), ([], []), [(.inr (some (.inl (ck_one (-1)))), 245, ([], [], [(227, 215, 215, ck_one (-1))])), (.inr (some (.inl (0, 7, []))), 245, ([], [], [(227, 215, 215, (0, 7, []))]))])
set_option maxRecDepth 100000 in
theorem p2_s1105_e : ck_ok p2_O none [] [] 301 [] 92 p2_s1105 = true := by decide +kernel
theorem p2_s1105_s {X : Int → Int} {LX : Nat} : ck_Ok p2_O X LX 301 p2_s1105 := ck_ok_s ⟨p2_nmu, ck_E0⟩ ck_X0 ck_l0 p2_s1105_e
set_option maxRecDepth 100000 in
/-- GlacierMailModel.ofLetter -/
def p2_s1107 : ck_Sum := ((0, 0, 0), 245, [.inr (.inr (.inl 226)), .inl (ck_one 13), .inl (ck_one 1)], ([], [], []), ([], []), [(.inr (some (.inl (ck_one (-1)))), 245, ([], [], [(227, 211, 211, ck_one (-1))])), (.inr (some (.inl (0, 7, []))), 245, ([], [], [(227, 211, 211, (0, 7, []))]))])
set_option maxRecDepth 100000 in
theorem p2_s1107_e : ck_ok p2_O none [] [] 301 [] 92 p2_s1107 = true := by decide +kernel
theorem p2_s1107_s {X : Int → Int} {LX : Nat} : ck_Ok p2_O X LX 301 p2_s1107 := ck_ok_s ⟨p2_nmu, ck_E0⟩ ck_X0 ck_l0 p2_s1107_e
set_option maxRecDepth 100000 in
/-- GlacierMailModel.ofLetter -/
def p2_s1110 : ck_Sum := ((0, 0, 0), 245, [.inr (.inr (.inl 226)), .inl (ck_one 13), .inl (ck_one 3)], ([], [], []), ([], []), [(.inr (some (.inl (0, 299, []))), 245, ([], [], []))])
set_option maxRecDepth 100000 in
theorem p2_s1110_e : ck_ok p2_O none [] [] 301 [] 92 p2_s1110 = true := by decide +kernel
theorem p2_s1110_s {X : Int → Int} {LX : Nat} : ck_Ok p2_O X LX 301 p2_s1110 := ck_ok_s ⟨p2_nmu, ck_E0⟩ ck_X0 ck_l0 p2_s1110_e
set_option maxRecDepth 100000 in
/-- GlacierMailModel.in -/
def p2_s1112 : ck_Sum := ((0, 0, 0), 245, [.inl (ck_one 14), .inl (ck_one 0), .inl ((-1), 23, [])], ([], [], []), ([], []), [(.inr (some (.inl (ck_one 0))), 245, ([], [], [])), (.inr (some (.inl (ck_one 1))), 245, ([], [], []))])
set_option maxRecDepth 100000 in
theorem p2_s1112_e : ck_ok p2_O none [] [] 286 [] 88 p2_s1112 = true := by decide +kernel
theorem p2_s1112_s {X : Int → Int} {LX : Nat} : ck_Ok p2_O X LX 286 p2_s1112 := ck_ok_s ⟨p2_nmu, ck_E0⟩ ck_X0 ck_l0 p2_s1112_e
set_option maxRecDepth 100000 in
/-- GlacierMailModel.noLetter -/
def p2_s1113 : ck_Sum := ((1, 0, 0), 245, [.inr (.inr (.inl 226)), .inl (ck_one 14)], ([], [], [(227, 4, 4, (0, 24, [(22, 0)]))]), ([], []), [(.inr (some (.inl (ck_one 1))), 245, ([], [], [])), (.inr (some (.inl (ck_one 0))), 245, ([], [], []))])
set_option maxRecDepth 100000 in
theorem p2_s1113_e : ck_ok p2_O none [] [(254, [p2_s196]), (286, [p2_s1112])] 309 [] 92 p2_s1113 = true := by decide +kernel
theorem p2_s1113_s {X : Int → Int} {LX : Nat} : ck_Ok p2_O X LX 309 p2_s1113 := ck_ok_s ⟨p2_nmu, ck_E1 (ck_S1 p2_s196_s ck_S0) (ck_E1 (ck_S1 p2_s1112_s ck_S0) ck_E0)⟩ ck_X0 ck_l0 p2_s1113_e
set_option maxRecDepth 100000 in
/-- GlacierMailModel.ofLetter -/
def p2_s1114 : ck_Sum := ((0, 0, 0), 245, [.inr (.inr (.inl 226)), .inl (ck_one 14), .inl (ck_one 0)], ([], [], []), ([], []), [(.inr (some (.inl (ck_one (-1)))), 245, ([], [], [(227, 217, 217, ck_one (-1))])), (.inr (some (.inl (0, 7, []))), 245, ([], [], [(227, 217, 217, (0, 7, []))]))])
set_option maxRecDepth 100000 in
theorem p2_s1114_e : ck_ok p2_O none [] [] 301 [] 92 p2_s1114 = true := by decide +kernel
theorem p2_s1114_s {X : Int → Int} {LX : Nat} : ck_Ok p2_O X LX 301 p2_s1114 := ck_ok_s ⟨p2_nmu, ck_E0⟩ ck_X0 ck_l0 p2_s1114_e
set_option maxRecDepth 100000 in
/-- GlacierMailModel.isRock -/
def p2_s1115 : ck_Sum := ((1, 0, 0), 245, [.inr (.inr (.inl 226)), .inl (ck_one 14)], ([], [], []), ([], []), [(.inr (some (.inl (ck_one 1))), 245, ([], [], [(227, 217, 217, ck_one (-1))])), (.inr (some (.inl (ck_one 0))), 245, ([], [], [(227, 217, 217, (0, 7, []))]))])
set_option maxRecDepth 100000 in
theorem p2_s1115_e : ck_ok p2_O none [] [(301, [p2_s1114])] 303 [] 86 p2_s1115 = true := by decide +kernel
theorem p2_s1115_s {X : Int → Int} {LX : Nat} : ck_Ok p2_O X LX 303 p2_s1115 := ck_ok_s ⟨p2_nmu, ck_E1 (ck_S1 p2_s1114_s ck_S0) ck_E0⟩ ck_X0 ck_l0 p2_s1115_e
set_option maxRecDepth 100000 in
/-- GlacierMailModel.ofLetter -/
def p2_s1116 : ck_Sum := ((0, 0, 0), 245, [.inr (.inr (.inl 226)), .inl (ck_one 14), .inl (ck_one 5)], ([], [], []), ([], []), [(.inr (some (.inl (ck_one (-1)))), 245, ([], [], [(227, 222, 222, ck_one (-1))])), (.inr (some (.inl (0, 7, []))), 245, ([], [], [(227, 222, 222, (0, 7, []))]))])
set_option maxRecDepth 100000 in
theorem p2_s1116_e : ck_ok p2_O none [] [] 301 [] 92 p2_s1116 = true := by decide +kernel
theorem p2_s1116_s {X : Int → Int} {LX : Nat} : ck_Ok p2_O X LX 301 p2_s1116 := ck_ok_s ⟨p2_nmu, ck_E0⟩ ck_X0 ck_l0 p2_s1116_e
set_option maxRecDepth 100000 in
/-- GlacierMailModel.ofLetter -/
def p2_s1118 : ck_Sum := ((0, 0, 0), 245, [.inr (.inr (.inl 226)), .inl (ck_one 14), .inl (ck_one 1)], ([], [], []), ([], []), [(.inr (some (.inl (ck_one (-1)))), 245, ([], [], [(227, 218, 218, ck_one (-1))])), (.inr (some (.inl (0, 7, []))), 245, ([], [], [(227, 218, 218, (0, 7, []))]))])
set_option maxRecDepth 100000 in
theorem p2_s1118_e : ck_ok p2_O none [] [] 301 [] 92 p2_s1118 = true := by decide +kernel
theorem p2_s1118_s {X : Int → Int} {LX : Nat} : ck_Ok p2_O X LX 301 p2_s1118 := ck_ok_s ⟨p2_nmu, ck_E0⟩ ck_X0 ck_l0 p2_s1118_e
set_option maxRecDepth 100000 in
/-- GlacierMailModel.ofLetter -/
def p2_s1121 : ck_Sum := ((0, 0, 0), 245, [.inr (.inr (.inl 226)), .inl (ck_one 14), .inl (ck_one 3)], ([], [], []), ([], []), [(.inr (some (.inl (0, 299, []))), 245, ([], [], []))])
set_option maxRecDepth 100000 in
theorem p2_s1121_e : ck_ok p2_O none [] [] 301 [] 92 p2_s1121 = true := by decide +kernel
theorem p2_s1121_s {X : Int → Int} {LX : Nat} : ck_Ok p2_O X LX 301 p2_s1121 := ck_ok_s ⟨p2_nmu, ck_E0⟩ ck_X0 ck_l0 p2_s1121_e
set_option maxRecDepth 100000 in
/-- GlacierMailModel.in -/
def p2_s1123 : ck_Sum := ((0, 0, 0), 245, [.inl (ck_one 15), .inl (ck_one 0), .inl ((-1), 23, [])], ([], [], []), ([], []), [(.inr (some (.inl (ck_one 0))), 245, ([], [], [])), (.inr (some (.inl (ck_one 1))), 245, ([], [], []))])
set_option maxRecDepth 100000 in
theorem p2_s1123_e : ck_ok p2_O none [] [] 286 [] 88 p2_s1123 = true := by decide +kernel
theorem p2_s1123_s {X : Int → Int} {LX : Nat} : ck_Ok p2_O X LX 286 p2_s1123 := ck_ok_s ⟨p2_nmu, ck_E0⟩ ck_X0 ck_l0 p2_s1123_e
set_option maxRecDepth 100000 in
/-- GlacierMailModel.noLetter -/
def p2_s1124 : ck_Sum := ((1, 0, 0), 245, [.inr (.inr (.inl 226)), .inl (ck_one 15)], ([], [], [(227, 4, 4, (0, 24, [(22, 0)]))]), ([], []), [(.inr (some (.inl (ck_one 1))), 245, ([], [], [])), (.inr (some (.inl (ck_one 0))), 245, ([], [], []))])
set_option maxRecDepth 100000 in
theorem p2_s1124_e : ck_ok p2_O none [] [(254, [p2_s196]), (286, [p2_s1123])] 309 [] 92 p2_s1124 = true := by decide +kernel
theorem p2_s1124_s {X : Int → Int} {LX : Nat} : ck_Ok p2_O X LX 309 p2_s1124 := ck_ok_s ⟨p2_nmu, ck_E1 (ck_S1 p2_s196_s ck_S0) (ck_E1 (ck_S1 p2_s1123_s ck_S0) ck_E0)⟩ ck_X0 ck_l0 p2_s1124_e
set_option maxRecDepth 100000 in
/-- GlacierMailModel.ofLetter -/
def p2_s1125 : ck_Sum := ((0, 0, 0), 245, [.inr (.inr (.inl 226)), .inl (ck_one 15), .inl (ck_one 0)], ([], [], []), ([], []), [(.inr (some (.inl (ck_one (-1)))), 245, ([], [], [(227, 224, 224, ck_one (-1))])), (.inr (some (.inl (0, 7, []))), 245, ([], [], [(227, 224, 224, (0, 7, []))]))])
set_option maxRecDepth 100000 in
theorem p2_s1125_e : ck_ok p2_O none [] [] 301 [] 92 p2_s1125 = true := by decide +kernel
theorem p2_s1125_s {X : Int → Int} {LX : Nat} : ck_Ok p2_O X LX 301 p2_s1125 := ck_ok_s ⟨p2_nmu, ck_E0⟩ ck_X0 ck_l0 p2_s1125_e
set_option maxRecDepth 100000 in
/-- GlacierMailModel.isRock -/
def p2_s1126 : ck_Sum := ((1, 0, 0), 245, [.inr (.inr (.inl 226)), .inl (ck_one 15)], ([], [], []), ([], []), [(.inr (some (.inl (ck_one 1))), 245, ([], [], [(227, 224, 224, ck_one (-1))])), (.inr (some (.inl (ck_one 0))), 245, ([], [], [(227, 224, 224, (0, 7, []))]))])
set_option maxRecDepth 100000 in
theorem p2_s1126_e : ck_ok p2_O none [] [(301, [p2_s1125])] 303 [] 86 p2_s1126 = true := by decide +kernel
theorem p2_s1126_s {X : Int → Int} {LX : Nat} : ck_Ok p2_O X LX 303 p2_s1126 := ck_ok_s ⟨p2_nmu, ck_E1 (ck_S1 p2_s1125_s ck_S0) ck_E0⟩ ck_X0 ck_l0 p2_s1126_e
set_option maxRecDepth 100000 in
/-- GlacierMailModel.ofLetter -/
def p2_s1127 : ck_Sum := ((0, 0, 0), 245, [.inr (.inr (.inl 226)), .inl (ck_one 15), .inl (ck_one 5)], ([], [], []), ([], []), [(.inr (some (.inl (ck_one (-1)))), 245, ([], [], [(227, 229, 229, ck_one (-1))])), (.inr (some (.inl (0, 7, []))), 245, ([], [], [(227, 229, 229, (0, 7, []))]))])
set_option maxRecDepth 100000 in
theorem p2_s1127_e : ck_ok p2_O none [] [] 301 [] 92 p2_s1127 = true := by decide +kernel
theorem p2_s1127_s {X : Int → Int} {LX : Nat} : ck_Ok p2_O X LX 301 p2_s1127 := ck_ok_s ⟨p2_nmu, ck_E0⟩ ck_X0 ck_l0 p2_s1127_e
set_option maxRecDepth 100000 in
/-- GlacierMailModel.ofLetter -/
def p2_s1129 : ck_Sum := ((0, 0, 0), 245, [.inr (.inr (.inl 226)), .inl (ck_one 15), .inl (ck_one 1)], ([], [], []), ([], []), [(.inr (some (.inl (ck_one (-1)))), 245, ([], [], [(227, 225, 225, ck_one (-1))])), (.inr (some (.inl (0, 7, []))), 245, ([], [], [(227, 225, 225, (0, 7, []))]))])
set_option maxRecDepth 100000 in
theorem p2_s1129_e : ck_ok p2_O none [] [] 301 [] 92 p2_s1129 = true := by decide +kernel
theorem p2_s1129_s {X : Int → Int} {LX : Nat} : ck_Ok p2_O X LX 301 p2_s1129 := ck_ok_s ⟨p2_nmu, ck_E0⟩ ck_X0 ck_l0 p2_s1129_e
set_option maxRecDepth 100000 in
/-- GlacierMailModel.ofLetter -/
def p2_s1132 : ck_Sum := ((0, 0, 0), 245, [.inr (.inr (.inl 226)), .inl (ck_one 15), .inl (ck_one 3)], ([], [], []), ([], []), [(.inr (some (.inl (0, 299, []))), 245, ([], [], []))])
set_option maxRecDepth 100000 in
theorem p2_s1132_e : ck_ok p2_O none [] [] 301 [] 92 p2_s1132 = true := by decide +kernel
theorem p2_s1132_s {X : Int → Int} {LX : Nat} : ck_Ok p2_O X LX 301 p2_s1132 := ck_ok_s ⟨p2_nmu, ck_E0⟩ ck_X0 ck_l0 p2_s1132_e
