/-! EVERY CALL ENDS, whatever was done before (laid by wip/am/p2g.py). -/
set_option maxRecDepth 100000 in
/-- GlacierMail$Rows.copyFrom -/
def p2_s2077 : ck_Sum := ((1, 0, 0), 245, [.inr (.inr (.inl 6)), .inr (.inr (.inl 47))], ([], [], []), ([(6, 3, 3), (7, 0, 23)], []), [(.inr none, 245, ([], [], []))])
set_option maxRecDepth 100000 in
theorem p2_s2077_e : ck_ok p2_O none [] [] 58 [] 114 p2_s2077 = true := by decide +kernel
theorem p2_s2077_s {X : Int → Int} {LX : Nat} : ck_Ok p2_O X LX 58 p2_s2077 := ck_ok_s ⟨p2_nmu, ck_E0⟩ ck_X0 ck_l0 p2_s2077_e
set_option maxRecDepth 100000 in
/-- GlacierMail$Rows.copyFrom -/
def p2_s2078 : ck_Sum := ((1, 0, 0), 245, [.inr (.inr (.inl 8)), .inr (.inr (.inl 49))], ([], [], []), ([(8, 3, 3), (9, 0, 23)], []), [(.inr none, 245, ([], [], []))])
set_option maxRecDepth 100000 in
theorem p2_s2078_e : ck_ok p2_O none [] [] 58 [] 114 p2_s2078 = true := by decide +kernel
theorem p2_s2078_s {X : Int → Int} {LX : Nat} : ck_Ok p2_O X LX 58 p2_s2078 := ck_ok_s ⟨p2_nmu, ck_E0⟩ ck_X0 ck_l0 p2_s2078_e
set_option maxRecDepth 100000 in
/-- GlacierMail$Rows.copyFrom -/
def p2_s2079 : ck_Sum := ((1, 0, 0), 245, [.inr (.inr (.inl 10)), .inr (.inr (.inl 51))], ([], [], []), ([(10, 3, 3), (11, 0, 167)], []), [(.inr none, 245, ([], [], []))])
set_option maxRecDepth 100000 in
theorem p2_s2079_e : ck_ok p2_O none [] [] 58 [] 114 p2_s2079 = true := by decide +kernel
theorem p2_s2079_s {X : Int → Int} {LX : Nat} : ck_Ok p2_O X LX 58 p2_s2079 := ck_ok_s ⟨p2_nmu, ck_E0⟩ ck_X0 ck_l0 p2_s2079_e
set_option maxRecDepth 100000 in
/-- GlacierMail$Rows.copyFrom -/
def p2_s2080 : ck_Sum := ((1, 0, 0), 245, [.inr (.inr (.inl 12)), .inr (.inr (.inl 53))], ([], [], []), ([(12, 3, 3), (13, 0, 35)], []), [(.inr none, 245, ([], [], []))])
set_option maxRecDepth 100000 in
theorem p2_s2080_e : ck_ok p2_O none [] [] 58 [] 114 p2_s2080 = true := by decide +kernel
theorem p2_s2080_s {X : Int → Int} {LX : Nat} : ck_Ok p2_O X LX 58 p2_s2080 := ck_ok_s ⟨p2_nmu, ck_E0⟩ ck_X0 ck_l0 p2_s2080_e
set_option maxRecDepth 100000 in
/-- GlacierMail$Rows.copyFrom -/
def p2_s2081 : ck_Sum := ((1, 0, 0), 245, [.inr (.inr (.inl 14)), .inr (.inr (.inl 55))], ([], [], []), ([(14, 3, 3), (15, 0, 71)], []), [(.inr none, 245, ([], [], []))])
set_option maxRecDepth 100000 in
theorem p2_s2081_e : ck_ok p2_O none [] [] 58 [] 114 p2_s2081 = true := by decide +kernel
theorem p2_s2081_s {X : Int → Int} {LX : Nat} : ck_Ok p2_O X LX 58 p2_s2081 := ck_ok_s ⟨p2_nmu, ck_E0⟩ ck_X0 ck_l0 p2_s2081_e
set_option maxRecDepth 100000 in
/-- GlacierMail$State.copyFrom -/
def p2_s2082 : ck_Sum := ((2, 0, 0), 245, [.inr (.inr (.inl 3)), .inr (.inr (.inl 44))], ([], [(3, 8, 0), (44, 8, 100044)], []), ([(3, 0, 7), (4, 3, 3), (5, 0, 55), (6, 3, 3), (7, 0, 23), (8, 3, 3), (9, 0, 23), (10, 3, 3), (11, 0, 167), (12, 3, 3), (13, 0, 35), (14, 3, 3), (15, 0, 71)], [(3, 8)]), [(.inr none, 245, ([], [(3, 8, 100044)], []))])
set_option maxRecDepth 100000 in
theorem p2_s2082_e : ck_ok p2_O none [] [(58, [p2_s2076, p2_s2077, p2_s2078, p2_s2079, p2_s2080, p2_s2081])] 57 [] 204 p2_s2082 = true := by decide +kernel
theorem p2_s2082_s {X : Int → Int} {LX : Nat} : ck_Ok p2_O X LX 57 p2_s2082 := ck_ok_s ⟨p2_nmu, ck_E1 (ck_S1 p2_s2076_s (ck_S1 p2_s2077_s (ck_S1 p2_s2078_s (ck_S1 p2_s2079_s (ck_S1 p2_s2080_s (ck_S1 p2_s2081_s ck_S0)))))) ck_E0⟩ ck_X0 ck_l0 p2_s2082_e
set_option maxRecDepth 100000 in
/-- GlacierMail$Rows.copyFrom -/
def p2_s2083 : ck_Sum := ((1, 0, 0), 245, [.inr (.inr (.inl 4)), .inr (.inr (.inl 58))], ([], [], []), ([(4, 3, 3), (5, 0, 55)], []), [(.inr none, 245, ([], [], []))])
set_option maxRecDepth 100000 in
theorem p2_s2083_e : ck_ok p2_O none [] [] 58 [] 114 p2_s2083 = true := by decide +kernel
theorem p2_s2083_s {X : Int → Int} {LX : Nat} : ck_Ok p2_O X LX 58 p2_s2083 := ck_ok_s ⟨p2_nmu, ck_E0⟩ ck_X0 ck_l0 p2_s2083_e
set_option maxRecDepth 100000 in
/-- GlacierMail$Rows.copyFrom -/
def p2_s2084 : ck_Sum := ((1, 0, 0), 245, [.inr (.inr (.inl 6)), .inr (.inr (.inl 60))], ([], [], []), ([(6, 3, 3), (7, 0, 23)], []), [(.inr none, 245, ([], [], []))])
set_option maxRecDepth 100000 in
theorem p2_s2084_e : ck_ok p2_O none [] [] 58 [] 114 p2_s2084 = true := by decide +kernel
theorem p2_s2084_s {X : Int → Int} {LX : Nat} : ck_Ok p2_O X LX 58 p2_s2084 := ck_ok_s ⟨p2_nmu, ck_E0⟩ ck_X0 ck_l0 p2_s2084_e
set_option maxRecDepth 100000 in
/-- GlacierMail$Rows.copyFrom -/
def p2_s2085 : ck_Sum := ((1, 0, 0), 245, [.inr (.inr (.inl 8)), .inr (.inr (.inl 62))], ([], [], []), ([(8, 3, 3), (9, 0, 23)], []), [(.inr none, 245, ([], [], []))])
set_option maxRecDepth 100000 in
theorem p2_s2085_e : ck_ok p2_O none [] [] 58 [] 114 p2_s2085 = true := by decide +kernel
theorem p2_s2085_s {X : Int → Int} {LX : Nat} : ck_Ok p2_O X LX 58 p2_s2085 := ck_ok_s ⟨p2_nmu, ck_E0⟩ ck_X0 ck_l0 p2_s2085_e
set_option maxRecDepth 100000 in
/-- GlacierMail$Rows.copyFrom -/
def p2_s2086 : ck_Sum := ((1, 0, 0), 245, [.inr (.inr (.inl 10)), .inr (.inr (.inl 64))], ([], [], []), ([(10, 3, 3), (11, 0, 167)], []), [(.inr none, 245, ([], [], []))])
set_option maxRecDepth 100000 in
theorem p2_s2086_e : ck_ok p2_O none [] [] 58 [] 114 p2_s2086 = true := by decide +kernel
theorem p2_s2086_s {X : Int → Int} {LX : Nat} : ck_Ok p2_O X LX 58 p2_s2086 := ck_ok_s ⟨p2_nmu, ck_E0⟩ ck_X0 ck_l0 p2_s2086_e
set_option maxRecDepth 100000 in
/-- GlacierMail$Rows.copyFrom -/
def p2_s2087 : ck_Sum := ((1, 0, 0), 245, [.inr (.inr (.inl 12)), .inr (.inr (.inl 66))], ([], [], []), ([(12, 3, 3), (13, 0, 35)], []), [(.inr none, 245, ([], [], []))])
set_option maxRecDepth 100000 in
theorem p2_s2087_e : ck_ok p2_O none [] [] 58 [] 114 p2_s2087 = true := by decide +kernel
theorem p2_s2087_s {X : Int → Int} {LX : Nat} : ck_Ok p2_O X LX 58 p2_s2087 := ck_ok_s ⟨p2_nmu, ck_E0⟩ ck_X0 ck_l0 p2_s2087_e
set_option maxRecDepth 100000 in
/-- GlacierMail$Rows.copyFrom -/
def p2_s2088 : ck_Sum := ((1, 0, 0), 245, [.inr (.inr (.inl 14)), .inr (.inr (.inl 68))], ([], [], []), ([(14, 3, 3), (15, 0, 71)], []), [(.inr none, 245, ([], [], []))])
set_option maxRecDepth 100000 in
theorem p2_s2088_e : ck_ok p2_O none [] [] 58 [] 114 p2_s2088 = true := by decide +kernel
theorem p2_s2088_s {X : Int → Int} {LX : Nat} : ck_Ok p2_O X LX 58 p2_s2088 := ck_ok_s ⟨p2_nmu, ck_E0⟩ ck_X0 ck_l0 p2_s2088_e
set_option maxRecDepth 100000 in
/-- GlacierMail$State.copyFrom -/
def p2_s2089 : ck_Sum := ((2, 0, 0), 245, [.inr (.inr (.inl 3)), .inr (.inr (.inl 57))], ([], [(3, 8, 0), (57, 8, 100057)], []), ([(3, 0, 7), (4, 3, 3), (5, 0, 55), (6, 3, 3), (7, 0, 23), (8, 3, 3), (9, 0, 23), (10, 3, 3), (11, 0, 167), (12, 3, 3), (13, 0, 35), (14, 3, 3), (15, 0, 71)], [(3, 8)]), [(.inr none, 245, ([], [(3, 8, 100057)], []))])
set_option maxRecDepth 100000 in
theorem p2_s2089_e : ck_ok p2_O none [] [(58, [p2_s2083, p2_s2084, p2_s2085, p2_s2086, p2_s2087, p2_s2088])] 57 [] 204 p2_s2089 = true := by decide +kernel
theorem p2_s2089_s {X : Int → Int} {LX : Nat} : ck_Ok p2_O X LX 57 p2_s2089 := ck_ok_s ⟨p2_nmu, ck_E1 (ck_S1 p2_s2083_s (ck_S1 p2_s2084_s (ck_S1 p2_s2085_s (ck_S1 p2_s2086_s (ck_S1 p2_s2087_s (ck_S1 p2_s2088_s ck_S0)))))) ck_E0⟩ ck_X0 ck_l0 p2_s2089_e
set_option maxRecDepth 100000 in
/-- GlacierMail$Rows.copyFrom -/
def p2_s2090 : ck_Sum := ((1, 0, 0), 245, [.inr (.inr (.inl 4)), .inr (.inr (.inl 71))], ([], [], []), ([(4, 3, 3), (5, 0, 55)], []), [(.inr none, 245, ([], [], []))])
set_option maxRecDepth 100000 in
theorem p2_s2090_e : ck_ok p2_O none [] [] 58 [] 114 p2_s2090 = true := by decide +kernel
theorem p2_s2090_s {X : Int → Int} {LX : Nat} : ck_Ok p2_O X LX 58 p2_s2090 := ck_ok_s ⟨p2_nmu, ck_E0⟩ ck_X0 ck_l0 p2_s2090_e
set_option maxRecDepth 100000 in
/-- GlacierMail$Rows.copyFrom -/
def p2_s2091 : ck_Sum := ((1, 0, 0), 245, [.inr (.inr (.inl 6)), .inr (.inr (.inl 73))], ([], [], []), ([(6, 3, 3), (7, 0, 23)], []), [(.inr none, 245, ([], [], []))])
set_option maxRecDepth 100000 in
theorem p2_s2091_e : ck_ok p2_O none [] [] 58 [] 114 p2_s2091 = true := by decide +kernel
theorem p2_s2091_s {X : Int → Int} {LX : Nat} : ck_Ok p2_O X LX 58 p2_s2091 := ck_ok_s ⟨p2_nmu, ck_E0⟩ ck_X0 ck_l0 p2_s2091_e
set_option maxRecDepth 100000 in
/-- GlacierMail$Rows.copyFrom -/
def p2_s2092 : ck_Sum := ((1, 0, 0), 245, [.inr (.inr (.inl 8)), .inr (.inr (.inl 75))], ([], [], []), ([(8, 3, 3), (9, 0, 23)], []), [(.inr none, 245, ([], [], []))])
set_option maxRecDepth 100000 in
theorem p2_s2092_e : ck_ok p2_O none [] [] 58 [] 114 p2_s2092 = true := by decide +kernel
theorem p2_s2092_s {X : Int → Int} {LX : Nat} : ck_Ok p2_O X LX 58 p2_s2092 := ck_ok_s ⟨p2_nmu, ck_E0⟩ ck_X0 ck_l0 p2_s2092_e
set_option maxRecDepth 100000 in
/-- GlacierMail$Rows.copyFrom -/
def p2_s2093 : ck_Sum := ((1, 0, 0), 245, [.inr (.inr (.inl 10)), .inr (.inr (.inl 77))], ([], [], []), ([(10, 3, 3), (11, 0, 167)], []), [(.inr none, 245, ([], [], []))])
set_option maxRecDepth 100000 in
theorem p2_s2093_e : ck_ok p2_O none [] [] 58 [] 114 p2_s2093 = true := by decide +kernel
theorem p2_s2093_s {X : Int → Int} {LX : Nat} : ck_Ok p2_O X LX 58 p2_s2093 := ck_ok_s ⟨p2_nmu, ck_E0⟩ ck_X0 ck_l0 p2_s2093_e
set_option maxRecDepth 100000 in
/-- GlacierMail$Rows.copyFrom -/
def p2_s2094 : ck_Sum := ((1, 0, 0), 245, [.inr (.inr (.inl 12)), .inr (.inr (.inl 79))], ([], [], []), ([(12, 3, 3), (13, 0, 35)], []), [(.inr none, 245, ([], [], []))])
set_option maxRecDepth 100000 in
theorem p2_s2094_e : ck_ok p2_O none [] [] 58 [] 114 p2_s2094 = true := by decide +kernel
theorem p2_s2094_s {X : Int → Int} {LX : Nat} : ck_Ok p2_O X LX 58 p2_s2094 := ck_ok_s ⟨p2_nmu, ck_E0⟩ ck_X0 ck_l0 p2_s2094_e
set_option maxRecDepth 100000 in
/-- GlacierMail$Rows.copyFrom -/
def p2_s2095 : ck_Sum := ((1, 0, 0), 245, [.inr (.inr (.inl 14)), .inr (.inr (.inl 81))], ([], [], []), ([(14, 3, 3), (15, 0, 71)], []), [(.inr none, 245, ([], [], []))])
set_option maxRecDepth 100000 in
theorem p2_s2095_e : ck_ok p2_O none [] [] 58 [] 114 p2_s2095 = true := by decide +kernel
theorem p2_s2095_s {X : Int → Int} {LX : Nat} : ck_Ok p2_O X LX 58 p2_s2095 := ck_ok_s ⟨p2_nmu, ck_E0⟩ ck_X0 ck_l0 p2_s2095_e
set_option maxRecDepth 100000 in
/-- GlacierMail$State.copyFrom -/
def p2_s2096 : ck_Sum := ((2, 0, 0), 245, [.inr (.inr (.inl 3)), .inr (.inr (.inl 70))], ([], [(3, 8, 0), (70, 8, 100070)], []), ([(3, 0, 7), (4, 3, 3), (5, 0, 55), (6, 3, 3), (7, 0, 23), (8, 3, 3), (9, 0, 23), (10, 3, 3), (11, 0, 167), (12, 3, 3), (13, 0, 35), (14, 3, 3), (15, 0, 71)], [(3, 8)]), [(.inr none, 245, ([], [(3, 8, 100070)], []))])
set_option maxRecDepth 100000 in
theorem p2_s2096_e : ck_ok p2_O none [] [(58, [p2_s2090, p2_s2091, p2_s2092, p2_s2093, p2_s2094, p2_s2095])] 57 [] 204 p2_s2096 = true := by decide +kernel
theorem p2_s2096_s {X : Int → Int} {LX : Nat} : ck_Ok p2_O X LX 57 p2_s2096 := ck_ok_s ⟨p2_nmu, ck_E1 (ck_S1 p2_s2090_s (ck_S1 p2_s2091_s (ck_S1 p2_s2092_s (ck_S1 p2_s2093_s (ck_S1 p2_s2094_s (ck_S1 p2_s2095_s ck_S0)))))) ck_E0⟩ ck_X0 ck_l0 p2_s2096_e
set_option maxRecDepth 100000 in
/-- GlacierMail$Rows.copyFrom -/
def p2_s2097 : ck_Sum := ((1, 0, 0), 245, [.inr (.inr (.inl 4)), .inr (.inr (.inl 84))], ([], [], []), ([(4, 3, 3), (5, 0, 55)], []), [(.inr none, 245, ([], [], []))])
set_option maxRecDepth 100000 in
theorem p2_s2097_e : ck_ok p2_O none [] [] 58 [] 114 p2_s2097 = true := by decide +kernel
theorem p2_s2097_s {X : Int → Int} {LX : Nat} : ck_Ok p2_O X LX 58 p2_s2097 := ck_ok_s ⟨p2_nmu, ck_E0⟩ ck_X0 ck_l0 p2_s2097_e
set_option maxRecDepth 100000 in
/-- GlacierMail$Rows.copyFrom -/
def p2_s2098 : ck_Sum := ((1, 0, 0), 245, [.inr (.inr (.inl 6)), .inr (.inr (.inl 86))], ([], [], []), ([(6, 3, 3), (7, 0, 23)], []), [(.inr none, 245, ([], [], []))])
set_option maxRecDepth 100000 in
theorem p2_s2098_e : ck_ok p2_O none [] [] 58 [] 114 p2_s2098 = true := by decide +kernel
theorem p2_s2098_s {X : Int → Int} {LX : Nat} : ck_Ok p2_O X LX 58 p2_s2098 := ck_ok_s ⟨p2_nmu, ck_E0⟩ ck_X0 ck_l0 p2_s2098_e
set_option maxRecDepth 100000 in
/-- GlacierMail$Rows.copyFrom -/
def p2_s2099 : ck_Sum := ((1, 0, 0), 245, [.inr (.inr (.inl 8)), .inr (.inr (.inl 88))], ([], [], []), ([(8, 3, 3), (9, 0, 23)], []), [(.inr none, 245, ([], [], []))])
set_option maxRecDepth 100000 in
theorem p2_s2099_e : ck_ok p2_O none [] [] 58 [] 114 p2_s2099 = true := by decide +kernel
theorem p2_s2099_s {X : Int → Int} {LX : Nat} : ck_Ok p2_O X LX 58 p2_s2099 := ck_ok_s ⟨p2_nmu, ck_E0⟩ ck_X0 ck_l0 p2_s2099_e
set_option maxRecDepth 100000 in
/-- GlacierMail$Rows.copyFrom -/
def p2_s2100 : ck_Sum := ((1, 0, 0), 245, [.inr (.inr (.inl 10)), .inr (.inr (.inl 90))], ([], [], []), ([(10, 3, 3), (11, 0, 167)], []), [(.inr none, 245, ([], [], []))])
set_option maxRecDepth 100000 in
theorem p2_s2100_e : ck_ok p2_O none [] [] 58 [] 114 p2_s2100 = true := by decide +kernel
theorem p2_s2100_s {X : Int → Int} {LX : Nat} : ck_Ok p2_O X LX 58 p2_s2100 := ck_ok_s ⟨p2_nmu, ck_E0⟩ ck_X0 ck_l0 p2_s2100_e
set_option maxRecDepth 100000 in
/-- GlacierMail$Rows.copyFrom -/
def p2_s2101 : ck_Sum := ((1, 0, 0), 245, [.inr (.inr (.inl 12)), .inr (.inr (.inl 92))], ([], [], []), ([(12, 3, 3), (13, 0, 35)], []), [(.inr none, 245, ([], [], []))])
set_option maxRecDepth 100000 in
theorem p2_s2101_e : ck_ok p2_O none [] [] 58 [] 114 p2_s2101 = true := by decide +kernel
theorem p2_s2101_s {X : Int → Int} {LX : Nat} : ck_Ok p2_O X LX 58 p2_s2101 := ck_ok_s ⟨p2_nmu, ck_E0⟩ ck_X0 ck_l0 p2_s2101_e
set_option maxRecDepth 100000 in
/-- GlacierMail$Rows.copyFrom -/
def p2_s2102 : ck_Sum := ((1, 0, 0), 245, [.inr (.inr (.inl 14)), .inr (.inr (.inl 94))], ([], [], []), ([(14, 3, 3), (15, 0, 71)], []), [(.inr none, 245, ([], [], []))])
set_option maxRecDepth 100000 in
theorem p2_s2102_e : ck_ok p2_O none [] [] 58 [] 114 p2_s2102 = true := by decide +kernel
theorem p2_s2102_s {X : Int → Int} {LX : Nat} : ck_Ok p2_O X LX 58 p2_s2102 := ck_ok_s ⟨p2_nmu, ck_E0⟩ ck_X0 ck_l0 p2_s2102_e
set_option maxRecDepth 100000 in
/-- GlacierMail$State.copyFrom -/
def p2_s2103 : ck_Sum := ((2, 0, 0), 245, [.inr (.inr (.inl 3)), .inr (.inr (.inl 83))], ([], [(3, 8, 0), (83, 8, 100083)], []), ([(3, 0, 7), (4, 3, 3), (5, 0, 55), (6, 3, 3), (7, 0, 23), (8, 3, 3), (9, 0, 23), (10, 3, 3), (11, 0, 167), (12, 3, 3), (13, 0, 35), (14, 3, 3), (15, 0, 71)], [(3, 8)]), [(.inr none, 245, ([], [(3, 8, 100083)], []))])
set_option maxRecDepth 100000 in
theorem p2_s2103_e : ck_ok p2_O none [] [(58, [p2_s2097, p2_s2098, p2_s2099, p2_s2100, p2_s2101, p2_s2102])] 57 [] 204 p2_s2103 = true := by decide +kernel
theorem p2_s2103_s {X : Int → Int} {LX : Nat} : ck_Ok p2_O X LX 57 p2_s2103 := ck_ok_s ⟨p2_nmu, ck_E1 (ck_S1 p2_s2097_s (ck_S1 p2_s2098_s (ck_S1 p2_s2099_s (ck_S1 p2_s2100_s (ck_S1 p2_s2101_s (ck_S1 p2_s2102_s ck_S0)))))) ck_E0⟩ ck_X0 ck_l0 p2_s2103_e
set_option maxRecDepth 100000 in
/-- GlacierMail$Rows.copyFrom -/
def p2_s2104 : ck_Sum := ((1, 0, 0), 245, [.inr (.inr (.inl 4)), .inr (.inr (.inl 97))], ([], [], []), ([(4, 3, 3), (5, 0, 55)], []), [(.inr none, 245, ([], [], []))])
set_option maxRecDepth 100000 in
theorem p2_s2104_e : ck_ok p2_O none [] [] 58 [] 114 p2_s2104 = true := by decide +kernel
theorem p2_s2104_s {X : Int → Int} {LX : Nat} : ck_Ok p2_O X LX 58 p2_s2104 := ck_ok_s ⟨p2_nmu, ck_E0⟩ ck_X0 ck_l0 p2_s2104_e
set_option maxRecDepth 100000 in
/-- GlacierMail$Rows.copyFrom -/
def p2_s2105 : ck_Sum := ((1, 0, 0), 245, [.inr (.inr (.inl 6)), .inr (.inr (.inl 99))], ([], [], []), ([(6, 3, 3), (7, 0, 23)], []), [(.inr none, 245, ([], [], []))])
set_option maxRecDepth 100000 in
theorem p2_s2105_e : ck_ok p2_O none [] [] 58 [] 114 p2_s2105 = true := by decide +kernel
theorem p2_s2105_s {X : Int → Int} {LX : Nat} : ck_Ok p2_O X LX 58 p2_s2105 := ck_ok_s ⟨p2_nmu, ck_E0⟩ ck_X0 ck_l0 p2_s2105_e
set_option maxRecDepth 100000 in
/-- GlacierMail$Rows.copyFrom -/
def p2_s2106 : ck_Sum := ((1, 0, 0), 245, [.inr (.inr (.inl 8)), .inr (.inr (.inl 101))], ([], [], []), ([(8, 3, 3), (9, 0, 23)], []), [(.inr none, 245, ([], [], []))])
set_option maxRecDepth 100000 in
theorem p2_s2106_e : ck_ok p2_O none [] [] 58 [] 114 p2_s2106 = true := by decide +kernel
theorem p2_s2106_s {X : Int → Int} {LX : Nat} : ck_Ok p2_O X LX 58 p2_s2106 := ck_ok_s ⟨p2_nmu, ck_E0⟩ ck_X0 ck_l0 p2_s2106_e
set_option maxRecDepth 100000 in
/-- GlacierMail$Rows.copyFrom -/
def p2_s2107 : ck_Sum := ((1, 0, 0), 245, [.inr (.inr (.inl 10)), .inr (.inr (.inl 103))], ([], [], []), ([(10, 3, 3), (11, 0, 167)], []), [(.inr none, 245, ([], [], []))])
set_option maxRecDepth 100000 in
theorem p2_s2107_e : ck_ok p2_O none [] [] 58 [] 114 p2_s2107 = true := by decide +kernel
theorem p2_s2107_s {X : Int → Int} {LX : Nat} : ck_Ok p2_O X LX 58 p2_s2107 := ck_ok_s ⟨p2_nmu, ck_E0⟩ ck_X0 ck_l0 p2_s2107_e
set_option maxRecDepth 100000 in
/-- GlacierMail$Rows.copyFrom -/
def p2_s2108 : ck_Sum := ((1, 0, 0), 245, [.inr (.inr (.inl 12)), .inr (.inr (.inl 105))], ([], [], []), ([(12, 3, 3), (13, 0, 35)], []), [(.inr none, 245, ([], [], []))])
set_option maxRecDepth 100000 in
theorem p2_s2108_e : ck_ok p2_O none [] [] 58 [] 114 p2_s2108 = true := by decide +kernel
theorem p2_s2108_s {X : Int → Int} {LX : Nat} : ck_Ok p2_O X LX 58 p2_s2108 := ck_ok_s ⟨p2_nmu, ck_E0⟩ ck_X0 ck_l0 p2_s2108_e
set_option maxRecDepth 100000 in
/-- GlacierMail$Rows.copyFrom -/
def p2_s2109 : ck_Sum := ((1, 0, 0), 245, [.inr (.inr (.inl 14)), .inr (.inr (.inl 107))], ([], [], []), ([(14, 3, 3), (15, 0, 71)], []), [(.inr none, 245, ([], [], []))])
set_option maxRecDepth 100000 in
theorem p2_s2109_e : ck_ok p2_O none [] [] 58 [] 114 p2_s2109 = true := by decide +kernel
theorem p2_s2109_s {X : Int → Int} {LX : Nat} : ck_Ok p2_O X LX 58 p2_s2109 := ck_ok_s ⟨p2_nmu, ck_E0⟩ ck_X0 ck_l0 p2_s2109_e
set_option maxRecDepth 100000 in
/-- GlacierMail$State.copyFrom -/
def p2_s2110 : ck_Sum := ((2, 0, 0), 245, [.inr (.inr (.inl 3)), .inr (.inr (.inl 96))], ([], [(3, 8, 0), (96, 8, 100096)], []), ([(3, 0, 7), (4, 3, 3), (5, 0, 55), (6, 3, 3), (7, 0, 23), (8, 3, 3), (9, 0, 23), (10, 3, 3), (11, 0, 167), (12, 3, 3), (13, 0, 35), (14, 3, 3), (15, 0, 71)], [(3, 8)]), [(.inr none, 245, ([], [(3, 8, 100096)], []))])
set_option maxRecDepth 100000 in
theorem p2_s2110_e : ck_ok p2_O none [] [(58, [p2_s2104, p2_s2105, p2_s2106, p2_s2107, p2_s2108, p2_s2109])] 57 [] 204 p2_s2110 = true := by decide +kernel
theorem p2_s2110_s {X : Int → Int} {LX : Nat} : ck_Ok p2_O X LX 57 p2_s2110 := ck_ok_s ⟨p2_nmu, ck_E1 (ck_S1 p2_s2104_s (ck_S1 p2_s2105_s (ck_S1 p2_s2106_s (ck_S1 p2_s2107_s (ck_S1 p2_s2108_s (ck_S1 p2_s2109_s ck_S0)))))) ck_E0⟩ ck_X0 ck_l0 p2_s2110_e
set_option maxRecDepth 100000 in
/-- GlacierMail$Rows.copyFrom -/
def p2_s2111 : ck_Sum := ((1, 0, 0), 245, [.inr (.inr (.inl 4)), .inr (.inr (.inl 110))], ([], [], []), ([(4, 3, 3), (5, 0, 55)], []), [(.inr none, 245, ([], [], []))])
set_option maxRecDepth 100000 in
theorem p2_s2111_e : ck_ok p2_O none [] [] 58 [] 114 p2_s2111 = true := by decide +kernel
theorem p2_s2111_s {X : Int → Int} {LX : Nat} : ck_Ok p2_O X LX 58 p2_s2111 := ck_ok_s ⟨p2_nmu, ck_E0⟩ ck_X0 ck_l0 p2_s2111_e
set_option maxRecDepth 100000 in
/-- GlacierMail$Rows.copyFrom -/
def p2_s2112 : ck_Sum := ((1, 0, 0), 245, [.inr (.inr (.inl 6)), .inr (.inr (.inl 112))], ([], [], []), ([(6, 3, 3), (7, 0, 23)], []), [(.inr none, 245, ([], [], []))])
set_option maxRecDepth 100000 in
theorem p2_s2112_e : ck_ok p2_O none [] [] 58 [] 114 p2_s2112 = true := by decide +kernel
theorem p2_s2112_s {X : Int → Int} {LX : Nat} : ck_Ok p2_O X LX 58 p2_s2112 := ck_ok_s ⟨p2_nmu, ck_E0⟩ ck_X0 ck_l0 p2_s2112_e
set_option maxRecDepth 100000 in
/-- GlacierMail$Rows.copyFrom -/
def p2_s2113 : ck_Sum := ((1, 0, 0), 245, [.inr (.inr (.inl 8)), .inr (.inr (.inl 114))], ([], [], []), ([(8, 3, 3), (9, 0, 23)], []), [(.inr none, 245, ([], [], []))])
set_option maxRecDepth 100000 in
theorem p2_s2113_e : ck_ok p2_O none [] [] 58 [] 114 p2_s2113 = true := by decide +kernel
theorem p2_s2113_s {X : Int → Int} {LX : Nat} : ck_Ok p2_O X LX 58 p2_s2113 := ck_ok_s ⟨p2_nmu, ck_E0⟩ ck_X0 ck_l0 p2_s2113_e
set_option maxRecDepth 100000 in
/-- GlacierMail$Rows.copyFrom -/
def p2_s2114 : ck_Sum := ((1, 0, 0), 245, [.inr (.inr (.inl 10)), .inr (.inr (.inl 116))], ([], [], []), ([(10, 3, 3), (11, 0, 167)], []), [(.inr none, 245, ([], [], []))])
set_option maxRecDepth 100000 in
theorem p2_s2114_e : ck_ok p2_O none [] [] 58 [] 114 p2_s2114 = true := by decide +kernel
theorem p2_s2114_s {X : Int → Int} {LX : Nat} : ck_Ok p2_O X LX 58 p2_s2114 := ck_ok_s ⟨p2_nmu, ck_E0⟩ ck_X0 ck_l0 p2_s2114_e
set_option maxRecDepth 100000 in
/-- GlacierMail$Rows.copyFrom -/
def p2_s2115 : ck_Sum := ((1, 0, 0), 245, [.inr (.inr (.inl 12)), .inr (.inr (.inl 118))], ([], [], []), ([(12, 3, 3), (13, 0, 35)], []), [(.inr none, 245, ([], [], []))])
set_option maxRecDepth 100000 in
theorem p2_s2115_e : ck_ok p2_O none [] [] 58 [] 114 p2_s2115 = true := by decide +kernel
theorem p2_s2115_s {X : Int → Int} {LX : Nat} : ck_Ok p2_O X LX 58 p2_s2115 := ck_ok_s ⟨p2_nmu, ck_E0⟩ ck_X0 ck_l0 p2_s2115_e
set_option maxRecDepth 100000 in
/-- GlacierMail$Rows.copyFrom -/
def p2_s2116 : ck_Sum := ((1, 0, 0), 245, [.inr (.inr (.inl 14)), .inr (.inr (.inl 120))], ([], [], []), ([(14, 3, 3), (15, 0, 71)], []), [(.inr none, 245, ([], [], []))])
set_option maxRecDepth 100000 in
theorem p2_s2116_e : ck_ok p2_O none [] [] 58 [] 114 p2_s2116 = true := by decide +kernel
theorem p2_s2116_s {X : Int → Int} {LX : Nat} : ck_Ok p2_O X LX 58 p2_s2116 := ck_ok_s ⟨p2_nmu, ck_E0⟩ ck_X0 ck_l0 p2_s2116_e
set_option maxRecDepth 100000 in
/-- GlacierMail$State.copyFrom -/
def p2_s2117 : ck_Sum := ((2, 0, 0), 245, [.inr (.inr (.inl 3)), .inr (.inr (.inl 109))], ([], [(3, 8, 0), (109, 8, 100109)], []), ([(3, 0, 7), (4, 3, 3), (5, 0, 55), (6, 3, 3), (7, 0, 23), (8, 3, 3), (9, 0, 23), (10, 3, 3), (11, 0, 167), (12, 3, 3), (13, 0, 35), (14, 3, 3), (15, 0, 71)], [(3, 8)]), [(.inr none, 245, ([], [(3, 8, 100109)], []))])
set_option maxRecDepth 100000 in
theorem p2_s2117_e : ck_ok p2_O none [] [(58, [p2_s2111, p2_s2112, p2_s2113, p2_s2114, p2_s2115, p2_s2116])] 57 [] 204 p2_s2117 = true := by decide +kernel
theorem p2_s2117_s {X : Int → Int} {LX : Nat} : ck_Ok p2_O X LX 57 p2_s2117 := ck_ok_s ⟨p2_nmu, ck_E1 (ck_S1 p2_s2111_s (ck_S1 p2_s2112_s (ck_S1 p2_s2113_s (ck_S1 p2_s2114_s (ck_S1 p2_s2115_s (ck_S1 p2_s2116_s ck_S0)))))) ck_E0⟩ ck_X0 ck_l0 p2_s2117_e
set_option maxRecDepth 100000 in
/-- GlacierMail$Rows.copyFrom -/
def p2_s2118 : ck_Sum := ((1, 0, 0), 245, [.inr (.inr (.inl 4)), .inr (.inr (.inl 123))], ([], [], []), ([(4, 3, 3), (5, 0, 55)], []), [(.inr none, 245, ([], [], []))])
set_option maxRecDepth 100000 in
theorem p2_s2118_e : ck_ok p2_O none [] [] 58 [] 114 p2_s2118 = true := by decide +kernel
theorem p2_s2118_s {X : Int → Int} {LX : Nat} : ck_Ok p2_O X LX 58 p2_s2118 := ck_ok_s ⟨p2_nmu, ck_E0⟩ ck_X0 ck_l0 p2_s2118_e
set_option maxRecDepth 100000 in
/-- GlacierMail$Rows.copyFrom -/
def p2_s2119 : ck_Sum := ((1, 0, 0), 245, [.inr (.inr (.inl 6)), .inr (.inr (.inl 125))], ([], [], []), ([(6, 3, 3), (7, 0, 23)], []), [(.inr none, 245, ([], [], []))])
set_option maxRecDepth 100000 in
theorem p2_s2119_e : ck_ok p2_O none [] [] 58 [] 114 p2_s2119 = true := by decide +kernel
theorem p2_s2119_s {X : Int → Int} {LX : Nat} : ck_Ok p2_O X LX 58 p2_s2119 := ck_ok_s ⟨p2_nmu, ck_E0⟩ ck_X0 ck_l0 p2_s2119_e
set_option maxRecDepth 100000 in
/-- GlacierMail$Rows.copyFrom -/
def p2_s2120 : ck_Sum := ((1, 0, 0), 245, [.inr (.inr (.inl 8)), .inr (.inr (.inl 127))], ([], [], []), ([(8, 3, 3), (9, 0, 23)], []), [(.inr none, 245, ([], [], []))])
set_option maxRecDepth 100000 in
theorem p2_s2120_e : ck_ok p2_O none [] [] 58 [] 114 p2_s2120 = true := by decide +kernel
theorem p2_s2120_s {X : Int → Int} {LX : Nat} : ck_Ok p2_O X LX 58 p2_s2120 := ck_ok_s ⟨p2_nmu, ck_E0⟩ ck_X0 ck_l0 p2_s2120_e
set_option maxRecDepth 100000 in
/-- GlacierMail$Rows.copyFrom -/
def p2_s2121 : ck_Sum := ((1, 0, 0), 245, [.inr (.inr (.inl 10)), .inr (.inr (.inl 129))], ([], [], []), ([(10, 3, 3), (11, 0, 167)], []), [(.inr none, 245, ([], [], []))])
set_option maxRecDepth 100000 in
theorem p2_s2121_e : ck_ok p2_O none [] [] 58 [] 114 p2_s2121 = true := by decide +kernel
theorem p2_s2121_s {X : Int → Int} {LX : Nat} : ck_Ok p2_O X LX 58 p2_s2121 := ck_ok_s ⟨p2_nmu, ck_E0⟩ ck_X0 ck_l0 p2_s2121_e
set_option maxRecDepth 100000 in
/-- GlacierMail$Rows.copyFrom -/
def p2_s2122 : ck_Sum := ((1, 0, 0), 245, [.inr (.inr (.inl 12)), .inr (.inr (.inl 131))], ([], [], []), ([(12, 3, 3), (13, 0, 35)], []), [(.inr none, 245, ([], [], []))])
set_option maxRecDepth 100000 in
theorem p2_s2122_e : ck_ok p2_O none [] [] 58 [] 114 p2_s2122 = true := by decide +kernel
theorem p2_s2122_s {X : Int → Int} {LX : Nat} : ck_Ok p2_O X LX 58 p2_s2122 := ck_ok_s ⟨p2_nmu, ck_E0⟩ ck_X0 ck_l0 p2_s2122_e
set_option maxRecDepth 100000 in
/-- GlacierMail$Rows.copyFrom -/
def p2_s2123 : ck_Sum := ((1, 0, 0), 245, [.inr (.inr (.inl 14)), .inr (.inr (.inl 133))], ([], [], []), ([(14, 3, 3), (15, 0, 71)], []), [(.inr none, 245, ([], [], []))])
set_option maxRecDepth 100000 in
theorem p2_s2123_e : ck_ok p2_O none [] [] 58 [] 114 p2_s2123 = true := by decide +kernel
theorem p2_s2123_s {X : Int → Int} {LX : Nat} : ck_Ok p2_O X LX 58 p2_s2123 := ck_ok_s ⟨p2_nmu, ck_E0⟩ ck_X0 ck_l0 p2_s2123_e
set_option maxRecDepth 100000 in
/-- GlacierMail$State.copyFrom -/
def p2_s2124 : ck_Sum := ((2, 0, 0), 245, [.inr (.inr (.inl 3)), .inr (.inr (.inl 122))], ([], [(3, 8, 0), (122, 8, 100122)], []), ([(3, 0, 7), (4, 3, 3), (5, 0, 55), (6, 3, 3), (7, 0, 23), (8, 3, 3), (9, 0, 23), (10, 3, 3), (11, 0, 167), (12, 3, 3), (13, 0, 35), (14, 3, 3), (15, 0, 71)], [(3, 8)]), [(.inr none, 245, ([], [(3, 8, 100122)], []))])
set_option maxRecDepth 100000 in
theorem p2_s2124_e : ck_ok p2_O none [] [(58, [p2_s2118, p2_s2119, p2_s2120, p2_s2121, p2_s2122, p2_s2123])] 57 [] 204 p2_s2124 = true := by decide +kernel
theorem p2_s2124_s {X : Int → Int} {LX : Nat} : ck_Ok p2_O X LX 57 p2_s2124 := ck_ok_s ⟨p2_nmu, ck_E1 (ck_S1 p2_s2118_s (ck_S1 p2_s2119_s (ck_S1 p2_s2120_s (ck_S1 p2_s2121_s (ck_S1 p2_s2122_s (ck_S1 p2_s2123_s ck_S0)))))) ck_E0⟩ ck_X0 ck_l0 p2_s2124_e
set_option maxRecDepth 100000 in
/-- GlacierMail$Rows.copyFrom -/
def p2_s2125 : ck_Sum := ((1, 0, 0), 245, [.inr (.inr (.inl 4)), .inr (.inr (.inl 136))], ([], [], []), ([(4, 3, 3), (5, 0, 55)], []), [(.inr none, 245, ([], [], []))])
set_option maxRecDepth 100000 in
theorem p2_s2125_e : ck_ok p2_O none [] [] 58 [] 114 p2_s2125 = true := by decide +kernel
theorem p2_s2125_s {X : Int → Int} {LX : Nat} : ck_Ok p2_O X LX 58 p2_s2125 := ck_ok_s ⟨p2_nmu, ck_E0⟩ ck_X0 ck_l0 p2_s2125_e
set_option maxRecDepth 100000 in
/-- GlacierMail$Rows.copyFrom -/
def p2_s2126 : ck_Sum := ((1, 0, 0), 245, [.inr (.inr (.inl 6)), .inr (.inr (.inl 138))], ([], [], []), ([(6, 3, 3), (7, 0, 23)], []), [(.inr none, 245, ([], [], []))])
set_option maxRecDepth 100000 in
theorem p2_s2126_e : ck_ok p2_O none [] [] 58 [] 114 p2_s2126 = true := by decide +kernel
theorem p2_s2126_s {X : Int → Int} {LX : Nat} : ck_Ok p2_O X LX 58 p2_s2126 := ck_ok_s ⟨p2_nmu, ck_E0⟩ ck_X0 ck_l0 p2_s2126_e
set_option maxRecDepth 100000 in
/-- GlacierMail$Rows.copyFrom -/
def p2_s2127 : ck_Sum := ((1, 0, 0), 245, [.inr (.inr (.inl 8)), .inr (.inr (.inl 140))], ([], [], []), ([(8, 3, 3), (9, 0, 23)], []), [(.inr none, 245, ([], [], []))])
set_option maxRecDepth 100000 in
theorem p2_s2127_e : ck_ok p2_O none [] [] 58 [] 114 p2_s2127 = true := by decide +kernel
theorem p2_s2127_s {X : Int → Int} {LX : Nat} : ck_Ok p2_O X LX 58 p2_s2127 := ck_ok_s ⟨p2_nmu, ck_E0⟩ ck_X0 ck_l0 p2_s2127_e
set_option maxRecDepth 100000 in
/-- GlacierMail$Rows.copyFrom -/
def p2_s2128 : ck_Sum := ((1, 0, 0), 245, [.inr (.inr (.inl 10)), .inr (.inr (.inl 142))], ([], [], []), ([(10, 3, 3), (11, 0, 167)], []), [(.inr none, 245, ([], [], []))])
set_option maxRecDepth 100000 in
theorem p2_s2128_e : ck_ok p2_O none [] [] 58 [] 114 p2_s2128 = true := by decide +kernel
theorem p2_s2128_s {X : Int → Int} {LX : Nat} : ck_Ok p2_O X LX 58 p2_s2128 := ck_ok_s ⟨p2_nmu, ck_E0⟩ ck_X0 ck_l0 p2_s2128_e
set_option maxRecDepth 100000 in
/-- GlacierMail$Rows.copyFrom -/
def p2_s2129 : ck_Sum := ((1, 0, 0), 245, [.inr (.inr (.inl 12)), .inr (.inr (.inl 144))], ([], [], []), ([(12, 3, 3), (13, 0, 35)], []), [(.inr none, 245, ([], [], []))])
set_option maxRecDepth 100000 in
theorem p2_s2129_e : ck_ok p2_O none [] [] 58 [] 114 p2_s2129 = true := by decide +kernel
theorem p2_s2129_s {X : Int → Int} {LX : Nat} : ck_Ok p2_O X LX 58 p2_s2129 := ck_ok_s ⟨p2_nmu, ck_E0⟩ ck_X0 ck_l0 p2_s2129_e
set_option maxRecDepth 100000 in
/-- GlacierMail$Rows.copyFrom -/
def p2_s2130 : ck_Sum := ((1, 0, 0), 245, [.inr (.inr (.inl 14)), .inr (.inr (.inl 146))], ([], [], []), ([(14, 3, 3), (15, 0, 71)], []), [(.inr none, 245, ([], [], []))])
set_option maxRecDepth 100000 in
theorem p2_s2130_e : ck_ok p2_O none [] [] 58 [] 114 p2_s2130 = true := by decide +kernel
theorem p2_s2130_s {X : Int → Int} {LX : Nat} : ck_Ok p2_O X LX 58 p2_s2130 := ck_ok_s ⟨p2_nmu, ck_E0⟩ ck_X0 ck_l0 p2_s2130_e
set_option maxRecDepth 100000 in
/-- GlacierMail$State.copyFrom -/
def p2_s2131 : ck_Sum := ((2, 0, 0), 245, [.inr (.inr (.inl 3)), .inr (.inr (.inl 135))], ([], [(3, 8, 0), (135, 8, 100135)], []), ([(3, 0, 7), (4, 3, 3), (5, 0, 55), (6, 3, 3), (7, 0, 23), (8, 3, 3), (9, 0, 23), (10, 3, 3), (11, 0, 167), (12, 3, 3), (13, 0, 35), (14, 3, 3), (15, 0, 71)], [(3, 8)]), [(.inr none, 245, ([], [(3, 8, 100135)], []))])
set_option maxRecDepth 100000 in
theorem p2_s2131_e : ck_ok p2_O none [] [(58, [p2_s2125, p2_s2126, p2_s2127, p2_s2128, p2_s2129, p2_s2130])] 57 [] 204 p2_s2131 = true := by decide +kernel
theorem p2_s2131_s {X : Int → Int} {LX : Nat} : ck_Ok p2_O X LX 57 p2_s2131 := ck_ok_s ⟨p2_nmu, ck_E1 (ck_S1 p2_s2125_s (ck_S1 p2_s2126_s (ck_S1 p2_s2127_s (ck_S1 p2_s2128_s (ck_S1 p2_s2129_s (ck_S1 p2_s2130_s ck_S0)))))) ck_E0⟩ ck_X0 ck_l0 p2_s2131_e
set_option maxRecDepth 100000 in
/-- GlacierMail$Rows.copyFrom -/
def p2_s2132 : ck_Sum := ((1, 0, 0), 245, [.inr (.inr (.inl 4)), .inr (.inr (.inl 149))], ([], [], []), ([(4, 3, 3), (5, 0, 55)], []), [(.inr none, 245, ([], [], []))])
set_option maxRecDepth 100000 in
theorem p2_s2132_e : ck_ok p2_O none [] [] 58 [] 114 p2_s2132 = true := by decide +kernel
theorem p2_s2132_s {X : Int → Int} {LX : Nat} : ck_Ok p2_O X LX 58 p2_s2132 := ck_ok_s ⟨p2_nmu, ck_E0⟩ ck_X0 ck_l0 p2_s2132_e
set_option maxRecDepth 100000 in
/-- GlacierMail$Rows.copyFrom -/
def p2_s2133 : ck_Sum := ((1, 0, 0), 245, [.inr (.inr (.inl 6)), .inr (.inr (.inl 151))], ([], [], []), ([(6, 3, 3), (7, 0, 23)], []), [(.inr none, 245, ([], [], []))])
set_option maxRecDepth 100000 in
theorem p2_s2133_e : ck_ok p2_O none [] [] 58 [] 114 p2_s2133 = true := by decide +kernel
theorem p2_s2133_s {X : Int → Int} {LX : Nat} : ck_Ok p2_O X LX 58 p2_s2133 := ck_ok_s ⟨p2_nmu, ck_E0⟩ ck_X0 ck_l0 p2_s2133_e
set_option maxRecDepth 100000 in
/-- GlacierMail$Rows.copyFrom -/
def p2_s2134 : ck_Sum := ((1, 0, 0), 245, [.inr (.inr (.inl 8)), .inr (.inr (.inl 153))], ([], [], []), ([(8, 3, 3), (9, 0, 23)], []), [(.inr none, 245, ([], [], []))])
set_option maxRecDepth 100000 in
theorem p2_s2134_e : ck_ok p2_O none [] [] 58 [] 114 p2_s2134 = true := by decide +kernel
theorem p2_s2134_s {X : Int → Int} {LX : Nat} : ck_Ok p2_O X LX 58 p2_s2134 := ck_ok_s ⟨p2_nmu, ck_E0⟩ ck_X0 ck_l0 p2_s2134_e
set_option maxRecDepth 100000 in
/-- GlacierMail$Rows.copyFrom -/
def p2_s2135 : ck_Sum := ((1, 0, 0), 245, [.inr (.inr (.inl 10)), .inr (.inr (.inl 155))], ([], [], []), ([(10, 3, 3), (11, 0, 167)], []), [(.inr none, 245, ([], [], []))])
set_option maxRecDepth 100000 in
theorem p2_s2135_e : ck_ok p2_O none [] [] 58 [] 114 p2_s2135 = true := by decide +kernel
theorem p2_s2135_s {X : Int → Int} {LX : Nat} : ck_Ok p2_O X LX 58 p2_s2135 := ck_ok_s ⟨p2_nmu, ck_E0⟩ ck_X0 ck_l0 p2_s2135_e
set_option maxRecDepth 100000 in
/-- GlacierMail$Rows.copyFrom -/
def p2_s2136 : ck_Sum := ((1, 0, 0), 245, [.inr (.inr (.inl 12)), .inr (.inr (.inl 157))], ([], [], []), ([(12, 3, 3), (13, 0, 35)], []), [(.inr none, 245, ([], [], []))])
set_option maxRecDepth 100000 in
theorem p2_s2136_e : ck_ok p2_O none [] [] 58 [] 114 p2_s2136 = true := by decide +kernel
theorem p2_s2136_s {X : Int → Int} {LX : Nat} : ck_Ok p2_O X LX 58 p2_s2136 := ck_ok_s ⟨p2_nmu, ck_E0⟩ ck_X0 ck_l0 p2_s2136_e
set_option maxRecDepth 100000 in
/-- GlacierMail$Rows.copyFrom -/
def p2_s2137 : ck_Sum := ((1, 0, 0), 245, [.inr (.inr (.inl 14)), .inr (.inr (.inl 159))], ([], [], []), ([(14, 3, 3), (15, 0, 71)], []), [(.inr none, 245, ([], [], []))])
set_option maxRecDepth 100000 in
theorem p2_s2137_e : ck_ok p2_O none [] [] 58 [] 114 p2_s2137 = true := by decide +kernel
theorem p2_s2137_s {X : Int → Int} {LX : Nat} : ck_Ok p2_O X LX 58 p2_s2137 := ck_ok_s ⟨p2_nmu, ck_E0⟩ ck_X0 ck_l0 p2_s2137_e
set_option maxRecDepth 100000 in
/-- GlacierMail$State.copyFrom -/
def p2_s2138 : ck_Sum := ((2, 0, 0), 245, [.inr (.inr (.inl 3)), .inr (.inr (.inl 148))], ([], [(3, 8, 0), (148, 8, 100148)], []), ([(3, 0, 7), (4, 3, 3), (5, 0, 55), (6, 3, 3), (7, 0, 23), (8, 3, 3), (9, 0, 23), (10, 3, 3), (11, 0, 167), (12, 3, 3), (13, 0, 35), (14, 3, 3), (15, 0, 71)], [(3, 8)]), [(.inr none, 245, ([], [(3, 8, 100148)], []))])
set_option maxRecDepth 100000 in
theorem p2_s2138_e : ck_ok p2_O none [] [(58, [p2_s2132, p2_s2133, p2_s2134, p2_s2135, p2_s2136, p2_s2137])] 57 [] 204 p2_s2138 = true := by decide +kernel
theorem p2_s2138_s {X : Int → Int} {LX : Nat} : ck_Ok p2_O X LX 57 p2_s2138 := ck_ok_s ⟨p2_nmu, ck_E1 (ck_S1 p2_s2132_s (ck_S1 p2_s2133_s (ck_S1 p2_s2134_s (ck_S1 p2_s2135_s (ck_S1 p2_s2136_s (ck_S1 p2_s2137_s ck_S0)))))) ck_E0⟩ ck_X0 ck_l0 p2_s2138_e
set_option maxRecDepth 100000 in
/-- GlacierMail$Rows.copyFrom -/
def p2_s2139 : ck_Sum := ((1, 0, 0), 245, [.inr (.inr (.inl 4)), .inr (.inr (.inl 162))], ([], [], []), ([(4, 3, 3), (5, 0, 55)], []), [(.inr none, 245, ([], [], []))])
set_option maxRecDepth 100000 in
theorem p2_s2139_e : ck_ok p2_O none [] [] 58 [] 114 p2_s2139 = true := by decide +kernel
theorem p2_s2139_s {X : Int → Int} {LX : Nat} : ck_Ok p2_O X LX 58 p2_s2139 := ck_ok_s ⟨p2_nmu, ck_E0⟩ ck_X0 ck_l0 p2_s2139_e
set_option maxRecDepth 100000 in
/-- GlacierMail$Rows.copyFrom -/
def p2_s2140 : ck_Sum := ((1, 0, 0), 245, [.inr (.inr (.inl 6)), .inr (.inr (.inl 164))], ([], [], []), ([(6, 3, 3), (7, 0, 23)], []), [(.inr none, 245, ([], [], []))])
set_option maxRecDepth 100000 in
theorem p2_s2140_e : ck_ok p2_O none [] [] 58 [] 114 p2_s2140 = true := by decide +kernel
theorem p2_s2140_s {X : Int → Int} {LX : Nat} : ck_Ok p2_O X LX 58 p2_s2140 := ck_ok_s ⟨p2_nmu, ck_E0⟩ ck_X0 ck_l0 p2_s2140_e
set_option maxRecDepth 100000 in
/-- GlacierMail$Rows.copyFrom -/
def p2_s2141 : ck_Sum := ((1, 0, 0), 245, [.inr (.inr (.inl 8)), .inr (.inr (.inl 166))], ([], [], []), ([(8, 3, 3), (9, 0, 23)], []), [(.inr none, 245, ([], [], []))])
set_option maxRecDepth 100000 in
theorem p2_s2141_e : ck_ok p2_O none [] [] 58 [] 114 p2_s2141 = true := by decide +kernel
theorem p2_s2141_s {X : Int → Int} {LX : Nat} : ck_Ok p2_O X LX 58 p2_s2141 := ck_ok_s ⟨p2_nmu, ck_E0⟩ ck_X0 ck_l0 p2_s2141_e
set_option maxRecDepth 100000 in
/-- GlacierMail$Rows.copyFrom -/
def p2_s2142 : ck_Sum := ((1, 0, 0), 245, [.inr (.inr (.inl 10)), .inr (.inr (.inl 168))], ([], [], []), ([(10, 3, 3), (11, 0, 167)], []), [(.inr none, 245, ([], [], []))])
set_option maxRecDepth 100000 in
theorem p2_s2142_e : ck_ok p2_O none [] [] 58 [] 114 p2_s2142 = true := by decide +kernel
theorem p2_s2142_s {X : Int → Int} {LX : Nat} : ck_Ok p2_O X LX 58 p2_s2142 := ck_ok_s ⟨p2_nmu, ck_E0⟩ ck_X0 ck_l0 p2_s2142_e
set_option maxRecDepth 100000 in
/-- GlacierMail$Rows.copyFrom -/
def p2_s2143 : ck_Sum := ((1, 0, 0), 245, [.inr (.inr (.inl 12)), .inr (.inr (.inl 170))], ([], [], []), ([(12, 3, 3), (13, 0, 35)], []), [(.inr none, 245, ([], [], []))])
set_option maxRecDepth 100000 in
theorem p2_s2143_e : ck_ok p2_O none [] [] 58 [] 114 p2_s2143 = true := by decide +kernel
theorem p2_s2143_s {X : Int → Int} {LX : Nat} : ck_Ok p2_O X LX 58 p2_s2143 := ck_ok_s ⟨p2_nmu, ck_E0⟩ ck_X0 ck_l0 p2_s2143_e
set_option maxRecDepth 100000 in
/-- GlacierMail$Rows.copyFrom -/
def p2_s2144 : ck_Sum := ((1, 0, 0), 245, [.inr (.inr (.inl 14)), .inr (.inr (.inl 172))], ([], [], []), ([(14, 3, 3), (15, 0, 71)], []), [(.inr none, 245, ([], [], []))])
set_option maxRecDepth 100000 in
theorem p2_s2144_e : ck_ok p2_O none [] [] 58 [] 114 p2_s2144 = true := by decide +kernel
theorem p2_s2144_s {X : Int → Int} {LX : Nat} : ck_Ok p2_O X LX 58 p2_s2144 := ck_ok_s ⟨p2_nmu, ck_E0⟩ ck_X0 ck_l0 p2_s2144_e
set_option maxRecDepth 100000 in
/-- GlacierMail$State.copyFrom -/
def p2_s2145 : ck_Sum := ((2, 0, 0), 245, [.inr (.inr (.inl 3)), .inr (.inr (.inl 161))], ([], [(3, 8, 0), (161, 8, 100161)], []), ([(3, 0, 7), (4, 3, 3), (5, 0, 55), (6, 3, 3), (7, 0, 23), (8, 3, 3), (9, 0, 23), (10, 3, 3), (11, 0, 167), (12, 3, 3), (13, 0, 35), (14, 3, 3), (15, 0, 71)], [(3, 8)]), [(.inr none, 245, ([], [(3, 8, 100161)], []))])
set_option maxRecDepth 100000 in
theorem p2_s2145_e : ck_ok p2_O none [] [(58, [p2_s2139, p2_s2140, p2_s2141, p2_s2142, p2_s2143, p2_s2144])] 57 [] 204 p2_s2145 = true := by decide +kernel
theorem p2_s2145_s {X : Int → Int} {LX : Nat} : ck_Ok p2_O X LX 57 p2_s2145 := ck_ok_s ⟨p2_nmu, ck_E1 (ck_S1 p2_s2139_s (ck_S1 p2_s2140_s (ck_S1 p2_s2141_s (ck_S1 p2_s2142_s (ck_S1 p2_s2143_s (ck_S1 p2_s2144_s ck_S0)))))) ck_E0⟩ ck_X0 ck_l0 p2_s2145_e
set_option maxRecDepth 100000 in
/-- GlacierMail$Rows.copyFrom -/
def p2_s2146 : ck_Sum := ((1, 0, 0), 245, [.inr (.inr (.inl 4)), .inr (.inr (.inl 175))], ([], [], []), ([(4, 3, 3), (5, 0, 55)], []), [(.inr none, 245, ([], [], []))])
set_option maxRecDepth 100000 in
theorem p2_s2146_e : ck_ok p2_O none [] [] 58 [] 114 p2_s2146 = true := by decide +kernel
theorem p2_s2146_s {X : Int → Int} {LX : Nat} : ck_Ok p2_O X LX 58 p2_s2146 := ck_ok_s ⟨p2_nmu, ck_E0⟩ ck_X0 ck_l0 p2_s2146_e
set_option maxRecDepth 100000 in
/-- GlacierMail$Rows.copyFrom -/
def p2_s2147 : ck_Sum := ((1, 0, 0), 245, [.inr (.inr (.inl 6)), .inr (.inr (.inl 177))], ([], [], []), ([(6, 3, 3), (7, 0, 23)], []), [(.inr none, 245, ([], [], []))])
set_option maxRecDepth 100000 in
theorem p2_s2147_e : ck_ok p2_O none [] [] 58 [] 114 p2_s2147 = true := by decide +kernel
theorem p2_s2147_s {X : Int → Int} {LX : Nat} : ck_Ok p2_O X LX 58 p2_s2147 := ck_ok_s ⟨p2_nmu, ck_E0⟩ ck_X0 ck_l0 p2_s2147_e
set_option maxRecDepth 100000 in
/-- GlacierMail$Rows.copyFrom -/
def p2_s2148 : ck_Sum := ((1, 0, 0), 245, [.inr (.inr (.inl 8)), .inr (.inr (.inl 179))], ([], [], []), ([(8, 3, 3), (9, 0, 23)], []), [(.inr none, 245, ([], [], []))])
set_option maxRecDepth 100000 in
theorem p2_s2148_e : ck_ok p2_O none [] [] 58 [] 114 p2_s2148 = true := by decide +kernel
theorem p2_s2148_s {X : Int → Int} {LX : Nat} : ck_Ok p2_O X LX 58 p2_s2148 := ck_ok_s ⟨p2_nmu, ck_E0⟩ ck_X0 ck_l0 p2_s2148_e
set_option maxRecDepth 100000 in
/-- GlacierMail$Rows.copyFrom -/
def p2_s2149 : ck_Sum := ((1, 0, 0), 245, [.inr (.inr (.inl 10)), .inr (.inr (.inl 181))], ([], [], []), ([(10, 3, 3), (11, 0, 167)], []), [(.inr none, 245, ([], [], []))])
set_option maxRecDepth 100000 in
theorem p2_s2149_e : ck_ok p2_O none [] [] 58 [] 114 p2_s2149 = true := by decide +kernel
theorem p2_s2149_s {X : Int → Int} {LX : Nat} : ck_Ok p2_O X LX 58 p2_s2149 := ck_ok_s ⟨p2_nmu, ck_E0⟩ ck_X0 ck_l0 p2_s2149_e
set_option maxRecDepth 100000 in
/-- GlacierMail$Rows.copyFrom -/
def p2_s2150 : ck_Sum := ((1, 0, 0), 245, [.inr (.inr (.inl 12)), .inr (.inr (.inl 183))], ([], [], []), ([(12, 3, 3), (13, 0, 35)], []), [(.inr none, 245, ([], [], []))])
set_option maxRecDepth 100000 in
theorem p2_s2150_e : ck_ok p2_O none [] [] 58 [] 114 p2_s2150 = true := by decide +kernel
theorem p2_s2150_s {X : Int → Int} {LX : Nat} : ck_Ok p2_O X LX 58 p2_s2150 := ck_ok_s ⟨p2_nmu, ck_E0⟩ ck_X0 ck_l0 p2_s2150_e
set_option maxRecDepth 100000 in
/-- GlacierMail$Rows.copyFrom -/
def p2_s2151 : ck_Sum := ((1, 0, 0), 245, [.inr (.inr (.inl 14)), .inr (.inr (.inl 185))], ([], [], []), ([(14, 3, 3), (15, 0, 71)], []), [(.inr none, 245, ([], [], []))])
set_option maxRecDepth 100000 in
theorem p2_s2151_e : ck_ok p2_O none [] [] 58 [] 114 p2_s2151 = true := by decide +kernel
theorem p2_s2151_s {X : Int → Int} {LX : Nat} : ck_Ok p2_O X LX 58 p2_s2151 := ck_ok_s ⟨p2_nmu, ck_E0⟩ ck_X0 ck_l0 p2_s2151_e
set_option maxRecDepth 100000 in
/-- GlacierMail$State.copyFrom -/
def p2_s2152 : ck_Sum := ((2, 0, 0), 245, [.inr (.inr (.inl 3)), .inr (.inr (.inl 174))], ([], [(3, 8, 0), (174, 8, 100174)], []), ([(3, 0, 7), (4, 3, 3), (5, 0, 55), (6, 3, 3), (7, 0, 23), (8, 3, 3), (9, 0, 23), (10, 3, 3), (11, 0, 167), (12, 3, 3), (13, 0, 35), (14, 3, 3), (15, 0, 71)], [(3, 8)]), [(.inr none, 245, ([], [(3, 8, 100174)], []))])
set_option maxRecDepth 100000 in
theorem p2_s2152_e : ck_ok p2_O none [] [(58, [p2_s2146, p2_s2147, p2_s2148, p2_s2149, p2_s2150, p2_s2151])] 57 [] 204 p2_s2152 = true := by decide +kernel
theorem p2_s2152_s {X : Int → Int} {LX : Nat} : ck_Ok p2_O X LX 57 p2_s2152 := ck_ok_s ⟨p2_nmu, ck_E1 (ck_S1 p2_s2146_s (ck_S1 p2_s2147_s (ck_S1 p2_s2148_s (ck_S1 p2_s2149_s (ck_S1 p2_s2150_s (ck_S1 p2_s2151_s ck_S0)))))) ck_E0⟩ ck_X0 ck_l0 p2_s2152_e
set_option maxRecDepth 100000 in
/-- GlacierMail$Rows.copyFrom -/
def p2_s2153 : ck_Sum := ((1, 0, 0), 245, [.inr (.inr (.inl 4)), .inr (.inr (.inl 188))], ([], [], []), ([(4, 3, 3), (5, 0, 55)], []), [(.inr none, 245, ([], [], []))])
set_option maxRecDepth 100000 in
theorem p2_s2153_e : ck_ok p2_O none [] [] 58 [] 114 p2_s2153 = true := by decide +kernel
theorem p2_s2153_s {X : Int → Int} {LX : Nat} : ck_Ok p2_O X LX 58 p2_s2153 := ck_ok_s ⟨p2_nmu, ck_E0⟩ ck_X0 ck_l0 p2_s2153_e
set_option maxRecDepth 100000 in
/-- GlacierMail$Rows.copyFrom -/
def p2_s2154 : ck_Sum := ((1, 0, 0), 245, [.inr (.inr (.inl 6)), .inr (.inr (.inl 190))], ([], [], []), ([(6, 3, 3), (7, 0, 23)], []), [(.inr none, 245, ([], [], []))])
set_option maxRecDepth 100000 in
theorem p2_s2154_e : ck_ok p2_O none [] [] 58 [] 114 p2_s2154 = true := by decide +kernel
theorem p2_s2154_s {X : Int → Int} {LX : Nat} : ck_Ok p2_O X LX 58 p2_s2154 := ck_ok_s ⟨p2_nmu, ck_E0⟩ ck_X0 ck_l0 p2_s2154_e
set_option maxRecDepth 100000 in
/-- GlacierMail$Rows.copyFrom -/
def p2_s2155 : ck_Sum := ((1, 0, 0), 245, [.inr (.inr (.inl 8)), .inr (.inr (.inl 192))], ([], [], []), ([(8, 3, 3), (9, 0, 23)], []), [(.inr none, 245, ([], [], []))])
set_option maxRecDepth 100000 in
theorem p2_s2155_e : ck_ok p2_O none [] [] 58 [] 114 p2_s2155 = true := by decide +kernel
theorem p2_s2155_s {X : Int → Int} {LX : Nat} : ck_Ok p2_O X LX 58 p2_s2155 := ck_ok_s ⟨p2_nmu, ck_E0⟩ ck_X0 ck_l0 p2_s2155_e
set_option maxRecDepth 100000 in
/-- GlacierMail$Rows.copyFrom -/
def p2_s2156 : ck_Sum := ((1, 0, 0), 245, [.inr (.inr (.inl 10)), .inr (.inr (.inl 194))], ([], [], []), ([(10, 3, 3), (11, 0, 167)], []), [(.inr none, 245, ([], [], []))])
set_option maxRecDepth 100000 in
theorem p2_s2156_e : ck_ok p2_O none [] [] 58 [] 114 p2_s2156 = true := by decide +kernel
theorem p2_s2156_s {X : Int → Int} {LX : Nat} : ck_Ok p2_O X LX 58 p2_s2156 := ck_ok_s ⟨p2_nmu, ck_E0⟩ ck_X0 ck_l0 p2_s2156_e
set_option maxRecDepth 100000 in
/-- GlacierMail$Rows.copyFrom -/
def p2_s2157 : ck_Sum := ((1, 0, 0), 245, [.inr (.inr (.inl 12)), .inr (.inr (.inl 196))], ([], [], []), ([(12, 3, 3), (13, 0, 35)], []), [(.inr none, 245, ([], [], []))])
set_option maxRecDepth 100000 in
theorem p2_s2157_e : ck_ok p2_O none [] [] 58 [] 114 p2_s2157 = true := by decide +kernel
theorem p2_s2157_s {X : Int → Int} {LX : Nat} : ck_Ok p2_O X LX 58 p2_s2157 := ck_ok_s ⟨p2_nmu, ck_E0⟩ ck_X0 ck_l0 p2_s2157_e
set_option maxRecDepth 100000 in
/-- GlacierMail$Rows.copyFrom -/
def p2_s2158 : ck_Sum := ((1, 0, 0), 245, [.inr (.inr (.inl 14)), .inr (.inr (.inl 198))], ([], [], []), ([(14, 3, 3), (15, 0, 71)], []), [(.inr none, 245, ([], [], []))])
set_option maxRecDepth 100000 in
theorem p2_s2158_e : ck_ok p2_O none [] [] 58 [] 114 p2_s2158 = true := by decide +kernel
theorem p2_s2158_s {X : Int → Int} {LX : Nat} : ck_Ok p2_O X LX 58 p2_s2158 := ck_ok_s ⟨p2_nmu, ck_E0⟩ ck_X0 ck_l0 p2_s2158_e
set_option maxRecDepth 100000 in
/-- GlacierMail$State.copyFrom -/
def p2_s2159 : ck_Sum := ((2, 0, 0), 245, [.inr (.inr (.inl 3)), .inr (.inr (.inl 187))], ([], [(3, 8, 0), (187, 8, 100187)], []), ([(3, 0, 7), (4, 3, 3), (5, 0, 55), (6, 3, 3), (7, 0, 23), (8, 3, 3), (9, 0, 23), (10, 3, 3), (11, 0, 167), (12, 3, 3), (13, 0, 35), (14, 3, 3), (15, 0, 71)], [(3, 8)]), [(.inr none, 245, ([], [(3, 8, 100187)], []))])
set_option maxRecDepth 100000 in
theorem p2_s2159_e : ck_ok p2_O none [] [(58, [p2_s2153, p2_s2154, p2_s2155, p2_s2156, p2_s2157, p2_s2158])] 57 [] 204 p2_s2159 = true := by decide +kernel
theorem p2_s2159_s {X : Int → Int} {LX : Nat} : ck_Ok p2_O X LX 57 p2_s2159 := ck_ok_s ⟨p2_nmu, ck_E1 (ck_S1 p2_s2153_s (ck_S1 p2_s2154_s (ck_S1 p2_s2155_s (ck_S1 p2_s2156_s (ck_S1 p2_s2157_s (ck_S1 p2_s2158_s ck_S0)))))) ck_E0⟩ ck_X0 ck_l0 p2_s2159_e
set_option maxRecDepth 100000 in
/-- GlacierMail$History.takeBack -/
def p2_s2160 : ck_Sum := ((3, 0, 0), 245, [.inr (.inr (.inl 42)), .inr (.inr (.inl 3))], ([], [(3, 8, 0), (44, 8, 100044), (57, 8, 100057), (70, 8, 100070), (83, 8, 100083), (96, 8, 100096), (109, 8, 100109), (122, 8, 100122), (135, 8, 100135), (148, 8, 100148), (161, 8, 100161), (174, 8, 100174), (187, 8, 100187)], []), ([(3, 0, 7), (4, 3, 3), (5, 0, 55), (6, 3, 3), (7, 0, 23), (8, 3, 3), (9, 0, 23), (10, 3, 3), (11, 0, 167), (12, 3, 3), (13, 0, 35), (14, 3, 3), (15, 0, 71), (42, 1, 2)], [(3, 8)]), [(.inr (some (.inl (ck_one 1))), 245, ([], [(3, 8, 100044)], [(42, 2, 2, (0, 11, [])), (42, 1, 1, (0, 11, []))])), (.inr (some (.inl (ck_one 1))), 245, ([], [(3, 8, 100057)], [(42, 2, 2, (0, 11, [])), (42, 1, 1, (0, 11, []))])), (.inr (some (.inl (ck_one 1))), 245, ([], [(3, 8, 100070)], [(42, 2, 2, (0, 11, [])), (42, 1, 1, (0, 11, []))])), (.inr (some (.inl (ck_one 1))), 245, ([], [(3, 8, 100083)], [(42, 2, 2, (0, 11, [])), (42, 1, 1, (0, 11, []))])), (.inr (some (.inl (ck_one 1))), 245, ([], [(3, 8, 100096)], [(42, 2, 2, (0, 11, [])), (42, 1, 1, (0, 11, []))])), (.inr (some (.inl (ck_one 1))), 245, ([], [(3, 8, 100109)], [(42, 2, 2, (0, 11, [])), (42, 1, 1, (0, 11, []))])), (.inr (some (.inl (ck_one 1))), 245, ([], [(3, 8, 100122)], [(42, 2, 2, (0, 11, [])), (42, 1, 1, (0, 11, []))])), (.inr (some (.inl (ck_one 1))), 245, ([], [(3, 8, 100135)], [(42, 2, 2, (0, 11, [])), (42, 1, 1, (0, 11, []))])), (.inr (some (.inl (ck_one 1))), 245, ([], [(3, 8, 100148)], [(42, 2, 2, (0, 11, [])), (42, 1, 1, (0, 11, []))])), (.inr (some (.inl (ck_one 1))), 245, ([], [(3, 8, 100161)], [(42, 2, 2, (0, 11, [])), (42, 1, 1, (0, 11, []))])), (.inr (some (.inl (ck_one 1))), 245, ([], [(3, 8, 100174)], [(42, 2, 2, (0, 11, [])), (42, 1, 1, (0, 11, []))])), (.inr (some (.inl (ck_one 1))), 245, ([], [(3, 8, 100187)], [(42, 2, 2, (0, 11, [])), (42, 1, 1, (0, 11, []))])), (.inr (some (.inl (ck_one 0))), 245, ([], [(3, 8, 0)], [(42, 2, 2, ck_one 0)]))])
set_option maxRecDepth 100000 in
theorem p2_s2160_e : ck_ok p2_O none [] [(56, [p2_s2075]), (57, [p2_s2082, p2_s2089, p2_s2096, p2_s2103, p2_s2110, p2_s2117, p2_s2124, p2_s2131, p2_s2138, p2_s2145, p2_s2152, p2_s2159])] 55 [] 132 p2_s2160 = true := by decide +kernel
theorem p2_s2160_s {X : Int → Int} {LX : Nat} : ck_Ok p2_O X LX 55 p2_s2160 := ck_ok_s ⟨p2_nmu, ck_E1 (ck_S1 p2_s2075_s ck_S0) (ck_E1 (ck_S1 p2_s2082_s (ck_S1 p2_s2089_s (ck_S1 p2_s2096_s (ck_S1 p2_s2103_s (ck_S1 p2_s2110_s (ck_S1 p2_s2117_s (ck_S1 p2_s2124_s (ck_S1 p2_s2131_s (ck_S1 p2_s2138_s (ck_S1 p2_s2145_s (ck_S1 p2_s2152_s (ck_S1 p2_s2159_s ck_S0)))))))))))) ck_E0)⟩ ck_X0 ck_l0 p2_s2160_e
set_option maxRecDepth 100000 in
/-- GlacierMail.undo -/
def p2_s2161 : ck_Sum := ((4, 0, 0), 245, [.inr (.inr (.inl 1))], ([], [(3, 8, 0), (44, 8, 100044), (57, 8, 100057), (70, 8, 100070), (83, 8, 100083), (96, 8, 100096), (109, 8, 100109), (122, 8, 100122), (135, 8, 100135), (148, 8, 100148), (161, 8, 100161), (174, 8, 100174), (187, 8, 100187)], []), ([(1, 15, 15), (3, 0, 7), (4, 3, 3), (5, 0, 55), (6, 3, 3), (7, 0, 23), (8, 3, 3), (9, 0, 23), (10, 3, 3), (11, 0, 167), (12, 3, 3), (13, 0, 35), (14, 3, 3), (15, 0, 71), (42, 1, 2)], [(3, 8)]), [(.inr (some (.inl (ck_one 1))), 245, ([], [(3, 8, 100044)], [(42, 2, 2, (0, 11, [])), (42, 1, 1, (0, 11, [])), (1, 15, 15, ck_one 0)])), (.inr (some (.inl (ck_one 0))), 245, ([], [(3, 8, 0)], [(42, 2, 2, ck_one 0), (1, 15, 15, ck_one 0)])), (.inr (some (.inl (ck_one 1))), 245, ([], [(3, 8, 100187)], [(42, 2, 2, (0, 11, [])), (42, 1, 1, (0, 11, [])), (1, 15, 15, ck_one 0)])), (.inr (some (.inl (ck_one 1))), 245, ([], [(3, 8, 100174)], [(42, 2, 2, (0, 11, [])), (42, 1, 1, (0, 11, [])), (1, 15, 15, ck_one 0)])), (.inr (some (.inl (ck_one 1))), 245, ([], [(3, 8, 100161)], [(42, 2, 2, (0, 11, [])), (42, 1, 1, (0, 11, [])), (1, 15, 15, ck_one 0)])), (.inr (some (.inl (ck_one 1))), 245, ([], [(3, 8, 100148)], [(42, 2, 2, (0, 11, [])), (42, 1, 1, (0, 11, [])), (1, 15, 15, ck_one 0)])), (.inr (some (.inl (ck_one 1))), 245, ([], [(3, 8, 100135)], [(42, 2, 2, (0, 11, [])), (42, 1, 1, (0, 11, [])), (1, 15, 15, ck_one 0)])), (.inr (some (.inl (ck_one 1))), 245, ([], [(3, 8, 100122)], [(42, 2, 2, (0, 11, [])), (42, 1, 1, (0, 11, [])), (1, 15, 15, ck_one 0)])), (.inr (some (.inl (ck_one 1))), 245, ([], [(3, 8, 100109)], [(42, 2, 2, (0, 11, [])), (42, 1, 1, (0, 11, [])), (1, 15, 15, ck_one 0)])), (.inr (some (.inl (ck_one 1))), 245, ([], [(3, 8, 100096)], [(42, 2, 2, (0, 11, [])), (42, 1, 1, (0, 11, [])), (1, 15, 15, ck_one 0)])), (.inr (some (.inl (ck_one 1))), 245, ([], [(3, 8, 100083)], [(42, 2, 2, (0, 11, [])), (42, 1, 1, (0, 11, [])), (1, 15, 15, ck_one 0)])), (.inr (some (.inl (ck_one 1))), 245, ([], [(3, 8, 100070)], [(42, 2, 2, (0, 11, [])), (42, 1, 1, (0, 11, [])), (1, 15, 15, ck_one 0)])), (.inr (some (.inl (ck_one 1))), 245, ([], [(3, 8, 100057)], [(42, 2, 2, (0, 11, [])), (42, 1, 1, (0, 11, [])), (1, 15, 15, ck_one 0)]))])
set_option maxRecDepth 100000 in
theorem p2_s2161_e : ck_ok p2_O none [] [(55, [p2_s2160])] 54 [] 88 p2_s2161 = true := by decide +kernel
theorem p2_s2161_s {X : Int → Int} {LX : Nat} : ck_Ok p2_O X LX 54 p2_s2161 := ck_ok_s ⟨p2_nmu, ck_E1 (ck_S1 p2_s2160_s ck_S0) ck_E0⟩ ck_X0 ck_l0 p2_s2161_e
set_option maxRecDepth 100000 in
/-- GlacierMail$Rows.copyFrom -/
def p2_s2163 : ck_Sum := ((1, 0, 0), 245, [.inr (.inr (.inl 30)), .inr (.inr (.inl 4))], ([], [], []), ([(30, 3, 3), (31, 0, 55)], []), [(.inr none, 245, ([], [], []))])
set_option maxRecDepth 100000 in
theorem p2_s2163_e : ck_ok p2_O none [] [] 58 [] 114 p2_s2163 = true := by decide +kernel
theorem p2_s2163_s {X : Int → Int} {LX : Nat} : ck_Ok p2_O X LX 58 p2_s2163 := ck_ok_s ⟨p2_nmu, ck_E0⟩ ck_X0 ck_l0 p2_s2163_e
set_option maxRecDepth 100000 in
/-- GlacierMail$Rows.copyFrom -/
def p2_s2164 : ck_Sum := ((1, 0, 0), 245, [.inr (.inr (.inl 32)), .inr (.inr (.inl 6))], ([], [], []), ([(32, 3, 3), (33, 0, 23)], []), [(.inr none, 245, ([], [], []))])
set_option maxRecDepth 100000 in
theorem p2_s2164_e : ck_ok p2_O none [] [] 58 [] 114 p2_s2164 = true := by decide +kernel
theorem p2_s2164_s {X : Int → Int} {LX : Nat} : ck_Ok p2_O X LX 58 p2_s2164 := ck_ok_s ⟨p2_nmu, ck_E0⟩ ck_X0 ck_l0 p2_s2164_e
set_option maxRecDepth 100000 in
/-- GlacierMail$Rows.copyFrom -/
def p2_s2165 : ck_Sum := ((1, 0, 0), 245, [.inr (.inr (.inl 34)), .inr (.inr (.inl 8))], ([], [], []), ([(34, 3, 3), (35, 0, 23)], []), [(.inr none, 245, ([], [], []))])
set_option maxRecDepth 100000 in
theorem p2_s2165_e : ck_ok p2_O none [] [] 58 [] 114 p2_s2165 = true := by decide +kernel
theorem p2_s2165_s {X : Int → Int} {LX : Nat} : ck_Ok p2_O X LX 58 p2_s2165 := ck_ok_s ⟨p2_nmu, ck_E0⟩ ck_X0 ck_l0 p2_s2165_e
set_option maxRecDepth 100000 in
/-- GlacierMail$Rows.copyFrom -/
def p2_s2166 : ck_Sum := ((1, 0, 0), 245, [.inr (.inr (.inl 36)), .inr (.inr (.inl 10))], ([], [], []), ([(36, 3, 3), (37, 0, 167)], []), [(.inr none, 245, ([], [], []))])
set_option maxRecDepth 100000 in
theorem p2_s2166_e : ck_ok p2_O none [] [] 58 [] 114 p2_s2166 = true := by decide +kernel
theorem p2_s2166_s {X : Int → Int} {LX : Nat} : ck_Ok p2_O X LX 58 p2_s2166 := ck_ok_s ⟨p2_nmu, ck_E0⟩ ck_X0 ck_l0 p2_s2166_e
set_option maxRecDepth 100000 in
/-- GlacierMail$Rows.copyFrom -/
def p2_s2167 : ck_Sum := ((1, 0, 0), 245, [.inr (.inr (.inl 38)), .inr (.inr (.inl 12))], ([], [], []), ([(38, 3, 3), (39, 0, 35)], []), [(.inr none, 245, ([], [], []))])
set_option maxRecDepth 100000 in
theorem p2_s2167_e : ck_ok p2_O none [] [] 58 [] 114 p2_s2167 = true := by decide +kernel
theorem p2_s2167_s {X : Int → Int} {LX : Nat} : ck_Ok p2_O X LX 58 p2_s2167 := ck_ok_s ⟨p2_nmu, ck_E0⟩ ck_X0 ck_l0 p2_s2167_e
set_option maxRecDepth 100000 in
/-- GlacierMail$Rows.copyFrom -/
def p2_s2168 : ck_Sum := ((1, 0, 0), 245, [.inr (.inr (.inl 40)), .inr (.inr (.inl 14))], ([], [], []), ([(40, 3, 3), (41, 0, 71)], []), [(.inr none, 245, ([], [], []))])
set_option maxRecDepth 100000 in
theorem p2_s2168_e : ck_ok p2_O none [] [] 58 [] 114 p2_s2168 = true := by decide +kernel
theorem p2_s2168_s {X : Int → Int} {LX : Nat} : ck_Ok p2_O X LX 58 p2_s2168 := ck_ok_s ⟨p2_nmu, ck_E0⟩ ck_X0 ck_l0 p2_s2168_e
set_option maxRecDepth 100000 in
/-- GlacierMail$State.copyFrom -/
def p2_s2169 : ck_Sum := ((2, 0, 0), 245, [.inr (.inr (.inl 29)), .inr (.inr (.inl 3))], ([], [(3, 8, 0), (29, 8, 100029)], [(3, 6, 6, (0, 299, [(10, 0)]))]), ([(29, 0, 7), (30, 3, 3), (31, 0, 55), (32, 3, 3), (33, 0, 23), (34, 3, 3), (35, 0, 23), (36, 3, 3), (37, 0, 167), (38, 3, 3), (39, 0, 35), (40, 3, 3), (41, 0, 71)], [(29, 8)]), [(.inr none, 245, ([], [(29, 8, 0)], [(29, 6, 6, (0, 299, [(10, 0)]))]))])
set_option maxRecDepth 100000 in
theorem p2_s2169_e : ck_ok p2_O none [] [(58, [p2_s2163, p2_s2164, p2_s2165, p2_s2166, p2_s2167, p2_s2168])] 57 [] 204 p2_s2169 = true := by decide +kernel
theorem p2_s2169_s {X : Int → Int} {LX : Nat} : ck_Ok p2_O X LX 57 p2_s2169 := ck_ok_s ⟨p2_nmu, ck_E1 (ck_S1 p2_s2163_s (ck_S1 p2_s2164_s (ck_S1 p2_s2165_s (ck_S1 p2_s2166_s (ck_S1 p2_s2167_s (ck_S1 p2_s2168_s ck_S0)))))) ck_E0⟩ ck_X0 ck_l0 p2_s2169_e
set_option maxRecDepth 100000 in
/-- GlacierMail.image -/
def p2_s2170 : ck_Sum := ((3, 0, 0), 245, [.inr (.inr (.inl 1))], ([], [(3, 8, 0), (29, 8, 100029)], [(3, 6, 6, (0, 299, [(10, 0)]))]), ([(1, 6, 6), (29, 0, 7), (30, 3, 3), (31, 0, 55), (32, 3, 3), (33, 0, 23), (34, 3, 3), (35, 0, 23), (36, 3, 3), (37, 0, 167), (38, 3, 3), (39, 0, 35), (40, 3, 3), (41, 0, 71)], [(29, 8)]), [(.inr none, 245, ([], [(29, 8, 0)], [(1, 6, 6, ck_one 1), (29, 6, 6, (0, 299, [(10, 0)]))]))])
set_option maxRecDepth 100000 in
theorem p2_s2170_e : ck_ok p2_O none [] [(57, [p2_s2169])] 59 [] 88 p2_s2170 = true := by decide +kernel
theorem p2_s2170_s {X : Int → Int} {LX : Nat} : ck_Ok p2_O X LX 59 p2_s2170 := ck_ok_s ⟨p2_nmu, ck_E1 (ck_S1 p2_s2169_s ck_S0) ck_E0⟩ ck_X0 ck_l0 p2_s2170_e
set_option maxRecDepth 100000 in
/-- GlacierMail$Rows.copyFrom -/
def p2_s2172 : ck_Sum := ((1, 0, 0), 245, [.inr (.inr (.inl 4)), .inr (.inr (.inl 30))], ([], [], []), ([(4, 3, 3), (5, 0, 55)], []), [(.inr none, 245, ([], [], []))])
set_option maxRecDepth 100000 in
theorem p2_s2172_e : ck_ok p2_O none [] [] 58 [] 114 p2_s2172 = true := by decide +kernel
theorem p2_s2172_s {X : Int → Int} {LX : Nat} : ck_Ok p2_O X LX 58 p2_s2172 := ck_ok_s ⟨p2_nmu, ck_E0⟩ ck_X0 ck_l0 p2_s2172_e
set_option maxRecDepth 100000 in
/-- GlacierMail$Rows.copyFrom -/
def p2_s2173 : ck_Sum := ((1, 0, 0), 245, [.inr (.inr (.inl 6)), .inr (.inr (.inl 32))], ([], [], []), ([(6, 3, 3), (7, 0, 23)], []), [(.inr none, 245, ([], [], []))])
set_option maxRecDepth 100000 in
theorem p2_s2173_e : ck_ok p2_O none [] [] 58 [] 114 p2_s2173 = true := by decide +kernel
theorem p2_s2173_s {X : Int → Int} {LX : Nat} : ck_Ok p2_O X LX 58 p2_s2173 := ck_ok_s ⟨p2_nmu, ck_E0⟩ ck_X0 ck_l0 p2_s2173_e
set_option maxRecDepth 100000 in
/-- GlacierMail$Rows.copyFrom -/
def p2_s2174 : ck_Sum := ((1, 0, 0), 245, [.inr (.inr (.inl 8)), .inr (.inr (.inl 34))], ([], [], []), ([(8, 3, 3), (9, 0, 23)], []), [(.inr none, 245, ([], [], []))])
set_option maxRecDepth 100000 in
theorem p2_s2174_e : ck_ok p2_O none [] [] 58 [] 114 p2_s2174 = true := by decide +kernel
theorem p2_s2174_s {X : Int → Int} {LX : Nat} : ck_Ok p2_O X LX 58 p2_s2174 := ck_ok_s ⟨p2_nmu, ck_E0⟩ ck_X0 ck_l0 p2_s2174_e
set_option maxRecDepth 100000 in
/-- GlacierMail$Rows.copyFrom -/
def p2_s2175 : ck_Sum := ((1, 0, 0), 245, [.inr (.inr (.inl 10)), .inr (.inr (.inl 36))], ([], [], []), ([(10, 3, 3), (11, 0, 167)], []), [(.inr none, 245, ([], [], []))])
set_option maxRecDepth 100000 in
theorem p2_s2175_e : ck_ok p2_O none [] [] 58 [] 114 p2_s2175 = true := by decide +kernel
theorem p2_s2175_s {X : Int → Int} {LX : Nat} : ck_Ok p2_O X LX 58 p2_s2175 := ck_ok_s ⟨p2_nmu, ck_E0⟩ ck_X0 ck_l0 p2_s2175_e
set_option maxRecDepth 100000 in
/-- GlacierMail$Rows.copyFrom -/
def p2_s2176 : ck_Sum := ((1, 0, 0), 245, [.inr (.inr (.inl 12)), .inr (.inr (.inl 38))], ([], [], []), ([(12, 3, 3), (13, 0, 35)], []), [(.inr none, 245, ([], [], []))])
set_option maxRecDepth 100000 in
theorem p2_s2176_e : ck_ok p2_O none [] [] 58 [] 114 p2_s2176 = true := by decide +kernel
theorem p2_s2176_s {X : Int → Int} {LX : Nat} : ck_Ok p2_O X LX 58 p2_s2176 := ck_ok_s ⟨p2_nmu, ck_E0⟩ ck_X0 ck_l0 p2_s2176_e
set_option maxRecDepth 100000 in
/-- GlacierMail$Rows.copyFrom -/
def p2_s2177 : ck_Sum := ((1, 0, 0), 245, [.inr (.inr (.inl 14)), .inr (.inr (.inl 40))], ([], [], []), ([(14, 3, 3), (15, 0, 71)], []), [(.inr none, 245, ([], [], []))])
set_option maxRecDepth 100000 in
theorem p2_s2177_e : ck_ok p2_O none [] [] 58 [] 114 p2_s2177 = true := by decide +kernel
theorem p2_s2177_s {X : Int → Int} {LX : Nat} : ck_Ok p2_O X LX 58 p2_s2177 := ck_ok_s ⟨p2_nmu, ck_E0⟩ ck_X0 ck_l0 p2_s2177_e
set_option maxRecDepth 100000 in
/-- GlacierMail$State.copyFrom -/
def p2_s2178 : ck_Sum := ((2, 0, 0), 245, [.inr (.inr (.inl 3)), .inr (.inr (.inl 29))], ([], [(3, 8, 0), (29, 8, 100029)], []), ([(3, 0, 7), (4, 3, 3), (5, 0, 55), (6, 3, 3), (7, 0, 23), (8, 3, 3), (9, 0, 23), (10, 3, 3), (11, 0, 167), (12, 3, 3), (13, 0, 35), (14, 3, 3), (15, 0, 71)], [(3, 8)]), [(.inr none, 245, ([], [(3, 8, 100029)], []))])
set_option maxRecDepth 100000 in
theorem p2_s2178_e : ck_ok p2_O none [] [(58, [p2_s2172, p2_s2173, p2_s2174, p2_s2175, p2_s2176, p2_s2177])] 57 [] 204 p2_s2178 = true := by decide +kernel
theorem p2_s2178_s {X : Int → Int} {LX : Nat} : ck_Ok p2_O X LX 57 p2_s2178 := ck_ok_s ⟨p2_nmu, ck_E1 (ck_S1 p2_s2172_s (ck_S1 p2_s2173_s (ck_S1 p2_s2174_s (ck_S1 p2_s2175_s (ck_S1 p2_s2176_s (ck_S1 p2_s2177_s ck_S0)))))) ck_E0⟩ ck_X0 ck_l0 p2_s2178_e
