/-! EVERY CALL ENDS, whatever was done before (laid by wip/am/p2g.py). -/
set_option maxRecDepth 100000 in
/-- GlacierMail$Rows.copyFrom -/
def p2_s2117 : ck_Sum := ((1, 0, 0), 245, [.inr (.inr (.inl 12)), .inr (.inr (.inl 105))], ([], [], []), ([(12, 3, 3), (13, 0, 35)], []), [(.inr none, 245, ([], [], []))])
set_option maxRecDepth 100000 in
theorem p2_s2117_e : ck_ok p2_O none [] [] 58 [] 114 p2_s2117 = true := by decide +kernel
theorem p2_s2117_s {X : Int → Int} {LX : Nat} : ck_Ok p2_O X LX 58 p2_s2117 := ck_ok_s ⟨p2_nmu, ck_E0⟩ ck_X0 ck_l0 p2_s2117_e
set_option maxRecDepth 100000 in
/-- GlacierMail$Rows.copyFrom -/
def p2_s2118 : ck_Sum := ((1, 0, 0), 245, [.inr (.inr (.inl 14)), .inr (.inr (.inl 107))], ([], [], []), ([(14, 3, 3), (15, 0, 71)], []), [(.inr none, 245, ([], [], []))])
set_option maxRecDepth 100000 in
theorem p2_s2118_e : ck_ok p2_O none [] [] 58 [] 114 p2_s2118 = true := by decide +kernel
theorem p2_s2118_s {X : Int → Int} {LX : Nat} : ck_Ok p2_O X LX 58 p2_s2118 := ck_ok_s ⟨p2_nmu, ck_E0⟩ ck_X0 ck_l0 p2_s2118_e
set_option maxRecDepth 100000 in
/-- GlacierMail$State.copyFrom -/
def p2_s2119 : ck_Sum := ((2, 0, 0), 245, [.inr (.inr (.inl 3)), .inr (.inr (.inl 96))], ([], [(3, 8, 0), (96, 8, 100096)], []), ([(3, 0, 7), (4, 3, 3), (5, 0, 55), (6, 3, 3), (7, 0, 23), (8, 3, 3), (9, 0, 23), (10, 3, 3), (11, 0, 167), (12, 3, 3), (13, 0, 35), (14, 3, 3), (15, 0, 71)], [(3, 8)]), [(.inr none, 245, ([], [(3, 8, 100096)], []))])
set_option maxRecDepth 100000 in
theorem p2_s2119_e : ck_ok p2_O none [] [(58, [p2_s2113, p2_s2114, p2_s2115, p2_s2116, p2_s2117, p2_s2118])] 57 [] 204 p2_s2119 = true := by decide +kernel
theorem p2_s2119_s {X : Int → Int} {LX : Nat} : ck_Ok p2_O X LX 57 p2_s2119 := ck_ok_s ⟨p2_nmu, ck_E1 (ck_S1 p2_s2113_s (ck_S1 p2_s2114_s (ck_S1 p2_s2115_s (ck_S1 p2_s2116_s (ck_S1 p2_s2117_s (ck_S1 p2_s2118_s ck_S0)))))) ck_E0⟩ ck_X0 ck_l0 p2_s2119_e
set_option maxRecDepth 100000 in
/-- GlacierMail$Rows.copyFrom -/
def p2_s2120 : ck_Sum := ((1, 0, 0), 245, [.inr (.inr (.inl 4)), .inr (.inr (.inl 110))], ([], [], []), ([(4, 3, 3), (5, 0, 55)], []), [(.inr none, 245, ([], [], []))])
set_option maxRecDepth 100000 in
theorem p2_s2120_e : ck_ok p2_O none [] [] 58 [] 114 p2_s2120 = true := by decide +kernel
theorem p2_s2120_s {X : Int → Int} {LX : Nat} : ck_Ok p2_O X LX 58 p2_s2120 := ck_ok_s ⟨p2_nmu, ck_E0⟩ ck_X0 ck_l0 p2_s2120_e
set_option maxRecDepth 100000 in
/-- GlacierMail$Rows.copyFrom -/
def p2_s2121 : ck_Sum := ((1, 0, 0), 245, [.inr (.inr (.inl 6)), .inr (.inr (.inl 112))], ([], [], []), ([(6, 3, 3), (7, 0, 23)], []), [(.inr none, 245, ([], [], []))])
set_option maxRecDepth 100000 in
theorem p2_s2121_e : ck_ok p2_O none [] [] 58 [] 114 p2_s2121 = true := by decide +kernel
theorem p2_s2121_s {X : Int → Int} {LX : Nat} : ck_Ok p2_O X LX 58 p2_s2121 := ck_ok_s ⟨p2_nmu, ck_E0⟩ ck_X0 ck_l0 p2_s2121_e
set_option maxRecDepth 100000 in
/-- GlacierMail$Rows.copyFrom -/
def p2_s2122 : ck_Sum := ((1, 0, 0), 245, [.inr (.inr (.inl 8)), .inr (.inr (.inl 114))], ([], [], []), ([(8, 3, 3), (9, 0, 23)], []), [(.inr none, 245, ([], [], []))])
set_option maxRecDepth 100000 in
theorem p2_s2122_e : ck_ok p2_O none [] [] 58 [] 114 p2_s2122 = true := by decide +kernel
theorem p2_s2122_s {X : Int → Int} {LX : Nat} : ck_Ok p2_O X LX 58 p2_s2122 := ck_ok_s ⟨p2_nmu, ck_E0⟩ ck_X0 ck_l0 p2_s2122_e
set_option maxRecDepth 100000 in
/-- GlacierMail$Rows.copyFrom -/
def p2_s2123 : ck_Sum := ((1, 0, 0), 245, [.inr (.inr (.inl 10)), .inr (.inr (.inl 116))], ([], [], []), ([(10, 3, 3), (11, 0, 167)], []), [(.inr none, 245, ([], [], []))])
set_option maxRecDepth 100000 in
theorem p2_s2123_e : ck_ok p2_O none [] [] 58 [] 114 p2_s2123 = true := by decide +kernel
theorem p2_s2123_s {X : Int → Int} {LX : Nat} : ck_Ok p2_O X LX 58 p2_s2123 := ck_ok_s ⟨p2_nmu, ck_E0⟩ ck_X0 ck_l0 p2_s2123_e
set_option maxRecDepth 100000 in
/-- GlacierMail$Rows.copyFrom -/
def p2_s2124 : ck_Sum := ((1, 0, 0), 245, [.inr (.inr (.inl 12)), .inr (.inr (.inl 118))], ([], [], []), ([(12, 3, 3), (13, 0, 35)], []), [(.inr none, 245, ([], [], []))])
set_option maxRecDepth 100000 in
theorem p2_s2124_e : ck_ok p2_O none [] [] 58 [] 114 p2_s2124 = true := by decide +kernel
theorem p2_s2124_s {X : Int → Int} {LX : Nat} : ck_Ok p2_O X LX 58 p2_s2124 := ck_ok_s ⟨p2_nmu, ck_E0⟩ ck_X0 ck_l0 p2_s2124_e
set_option maxRecDepth 100000 in
/-- GlacierMail$Rows.copyFrom -/
def p2_s2125 : ck_Sum := ((1, 0, 0), 245, [.inr (.inr (.inl 14)), .inr (.inr (.inl 120))], ([], [], []), ([(14, 3, 3), (15, 0, 71)], []), [(.inr none, 245, ([], [], []))])
set_option maxRecDepth 100000 in
theorem p2_s2125_e : ck_ok p2_O none [] [] 58 [] 114 p2_s2125 = true := by decide +kernel
theorem p2_s2125_s {X : Int → Int} {LX : Nat} : ck_Ok p2_O X LX 58 p2_s2125 := ck_ok_s ⟨p2_nmu, ck_E0⟩ ck_X0 ck_l0 p2_s2125_e
set_option maxRecDepth 100000 in
/-- GlacierMail$State.copyFrom -/
def p2_s2126 : ck_Sum := ((2, 0, 0), 245, [.inr (.inr (.inl 3)), .inr (.inr (.inl 109))], ([], [(3, 8, 0), (109, 8, 100109)], []), ([(3, 0, 7), (4, 3, 3), (5, 0, 55), (6, 3, 3), (7, 0, 23), (8, 3, 3), (9, 0, 23), (10, 3, 3), (11, 0, 167), (12, 3, 3), (13, 0, 35), (14, 3, 3), (15, 0, 71)], [(3, 8)]), [(.inr none, 245, ([], [(3, 8, 100109)], []))])
set_option maxRecDepth 100000 in
theorem p2_s2126_e : ck_ok p2_O none [] [(58, [p2_s2120, p2_s2121, p2_s2122, p2_s2123, p2_s2124, p2_s2125])] 57 [] 204 p2_s2126 = true := by decide +kernel
theorem p2_s2126_s {X : Int → Int} {LX : Nat} : ck_Ok p2_O X LX 57 p2_s2126 := ck_ok_s ⟨p2_nmu, ck_E1 (ck_S1 p2_s2120_s (ck_S1 p2_s2121_s (ck_S1 p2_s2122_s (ck_S1 p2_s2123_s (ck_S1 p2_s2124_s (ck_S1 p2_s2125_s ck_S0)))))) ck_E0⟩ ck_X0 ck_l0 p2_s2126_e
set_option maxRecDepth 100000 in
/-- GlacierMail$Rows.copyFrom -/
def p2_s2127 : ck_Sum := ((1, 0, 0), 245, [.inr (.inr (.inl 4)), .inr (.inr (.inl 123))], ([], [], []), ([(4, 3, 3), (5, 0, 55)], []), [(.inr none, 245, ([], [], []))])
set_option maxRecDepth 100000 in
theorem p2_s2127_e : ck_ok p2_O none [] [] 58 [] 114 p2_s2127 = true := by decide +kernel
theorem p2_s2127_s {X : Int → Int} {LX : Nat} : ck_Ok p2_O X LX 58 p2_s2127 := ck_ok_s ⟨p2_nmu, ck_E0⟩ ck_X0 ck_l0 p2_s2127_e
set_option maxRecDepth 100000 in
/-- GlacierMail$Rows.copyFrom -/
def p2_s2128 : ck_Sum := ((1, 0, 0), 245, [.inr (.inr (.inl 6)), .inr (.inr (.inl 125))], ([], [], []), ([(6, 3, 3), (7, 0, 23)], []), [(.inr none, 245, ([], [], []))])
set_option maxRecDepth 100000 in
theorem p2_s2128_e : ck_ok p2_O none [] [] 58 [] 114 p2_s2128 = true := by decide +kernel
theorem p2_s2128_s {X : Int → Int} {LX : Nat} : ck_Ok p2_O X LX 58 p2_s2128 := ck_ok_s ⟨p2_nmu, ck_E0⟩ ck_X0 ck_l0 p2_s2128_e
set_option maxRecDepth 100000 in
/-- GlacierMail$Rows.copyFrom -/
def p2_s2129 : ck_Sum := ((1, 0, 0), 245, [.inr (.inr (.inl 8)), .inr (.inr (.inl 127))], ([], [], []), ([(8, 3, 3), (9, 0, 23)], []), [(.inr none, 245, ([], [], []))])
set_option maxRecDepth 100000 in
theorem p2_s2129_e : ck_ok p2_O none [] [] 58 [] 114 p2_s2129 = true := by decide +kernel
theorem p2_s2129_s {X : Int → Int} {LX : Nat} : ck_Ok p2_O X LX 58 p2_s2129 := ck_ok_s ⟨p2_nmu, ck_E0⟩ ck_X0 ck_l0 p2_s2129_e
set_option maxRecDepth 100000 in
/-- GlacierMail$Rows.copyFrom -/
def p2_s2130 : ck_Sum := ((1, 0, 0), 245, [.inr (.inr (.inl 10)), .inr (.inr (.inl 129))], ([], [], []), ([(10, 3, 3), (11, 0, 167)], []), [(.inr none, 245, ([], [], []))])
set_option maxRecDepth 100000 in
theorem p2_s2130_e : ck_ok p2_O none [] [] 58 [] 114 p2_s2130 = true := by decide +kernel
theorem p2_s2130_s {X : Int → Int} {LX : Nat} : ck_Ok p2_O X LX 58 p2_s2130 := ck_ok_s ⟨p2_nmu, ck_E0⟩ ck_X0 ck_l0 p2_s2130_e
set_option maxRecDepth 100000 in
/-- GlacierMail$Rows.copyFrom -/
def p2_s2131 : ck_Sum := ((1, 0, 0), 245, [.inr (.inr (.inl 12)), .inr (.inr (.inl 131))], ([], [], []), ([(12, 3, 3), (13, 0, 35)], []), [(.inr none, 245, ([], [], []))])
set_option maxRecDepth 100000 in
theorem p2_s2131_e : ck_ok p2_O none [] [] 58 [] 114 p2_s2131 = true := by decide +kernel
theorem p2_s2131_s {X : Int → Int} {LX : Nat} : ck_Ok p2_O X LX 58 p2_s2131 := ck_ok_s ⟨p2_nmu, ck_E0⟩ ck_X0 ck_l0 p2_s2131_e
set_option maxRecDepth 100000 in
/-- GlacierMail$Rows.copyFrom -/
def p2_s2132 : ck_Sum := ((1, 0, 0), 245, [.inr (.inr (.inl 14)), .inr (.inr (.inl 133))], ([], [], []), ([(14, 3, 3), (15, 0, 71)], []), [(.inr none, 245, ([], [], []))])
set_option maxRecDepth 100000 in
theorem p2_s2132_e : ck_ok p2_O none [] [] 58 [] 114 p2_s2132 = true := by decide +kernel
theorem p2_s2132_s {X : Int → Int} {LX : Nat} : ck_Ok p2_O X LX 58 p2_s2132 := ck_ok_s ⟨p2_nmu, ck_E0⟩ ck_X0 ck_l0 p2_s2132_e
set_option maxRecDepth 100000 in
/-- GlacierMail$State.copyFrom -/
def p2_s2133 : ck_Sum := ((2, 0, 0), 245, [.inr (.inr (.inl 3)), .inr (.inr (.inl 122))], ([], [(3, 8, 0), (122, 8, 100122)], []), ([(3, 0, 7), (4, 3, 3), (5, 0, 55), (6, 3, 3), (7, 0, 23), (8, 3, 3), (9, 0, 23), (10, 3, 3), (11, 0, 167), (12, 3, 3), (13, 0, 35), (14, 3, 3), (15, 0, 71)], [(3, 8)]), [(.inr none, 245, ([], [(3, 8, 100122)], []))])
set_option maxRecDepth 100000 in
theorem p2_s2133_e : ck_ok p2_O none [] [(58, [p2_s2127, p2_s2128, p2_s2129, p2_s2130, p2_s2131, p2_s2132])] 57 [] 204 p2_s2133 = true := by decide +kernel
theorem p2_s2133_s {X : Int → Int} {LX : Nat} : ck_Ok p2_O X LX 57 p2_s2133 := ck_ok_s ⟨p2_nmu, ck_E1 (ck_S1 p2_s2127_s (ck_S1 p2_s2128_s (ck_S1 p2_s2129_s (ck_S1 p2_s2130_s (ck_S1 p2_s2131_s (ck_S1 p2_s2132_s ck_S0)))))) ck_E0⟩ ck_X0 ck_l0 p2_s2133_e
set_option maxRecDepth 100000 in
/-- GlacierMail$Rows.copyFrom -/
def p2_s2134 : ck_Sum := ((1, 0, 0), 245, [.inr (.inr (.inl 4)), .inr (.inr (.inl 136))], ([], [], []), ([(4, 3, 3), (5, 0, 55)], []), [(.inr none, 245, ([], [], []))])
set_option maxRecDepth 100000 in
theorem p2_s2134_e : ck_ok p2_O none [] [] 58 [] 114 p2_s2134 = true := by decide +kernel
theorem p2_s2134_s {X : Int → Int} {LX : Nat} : ck_Ok p2_O X LX 58 p2_s2134 := ck_ok_s ⟨p2_nmu, ck_E0⟩ ck_X0 ck_l0 p2_s2134_e
set_option maxRecDepth 100000 in
/-- GlacierMail$Rows.copyFrom -/
def p2_s2135 : ck_Sum := ((1, 0, 0), 245, [.inr (.inr (.inl 6)), .inr (.inr (.inl 138))], ([], [], []), ([(6, 3, 3), (7, 0, 23)], []), [(.inr none, 245, ([], [], []))])
set_option maxRecDepth 100000 in
theorem p2_s2135_e : ck_ok p2_O none [] [] 58 [] 114 p2_s2135 = true := by decide +kernel
theorem p2_s2135_s {X : Int → Int} {LX : Nat} : ck_Ok p2_O X LX 58 p2_s2135 := ck_ok_s ⟨p2_nmu, ck_E0⟩ ck_X0 ck_l0 p2_s2135_e
set_option maxRecDepth 100000 in
/-- GlacierMail$Rows.copyFrom -/
def p2_s2136 : ck_Sum := ((1, 0, 0), 245, [.inr (.inr (.inl 8)), .inr (.inr (.inl 140))], ([], [], []), ([(8, 3, 3), (9, 0, 23)], []), [(.inr none, 245, ([], [], []))])
set_option maxRecDepth 100000 in
theorem p2_s2136_e : ck_ok p2_O none [] [] 58 [] 114 p2_s2136 = true := by decide +kernel
theorem p2_s2136_s {X : Int → Int} {LX : Nat} : ck_Ok p2_O X LX 58 p2_s2136 := ck_ok_s ⟨p2_nmu, ck_E0⟩ ck_X0 ck_l0 p2_s2136_e
set_option maxRecDepth 100000 in
/-- GlacierMail$Rows.copyFrom -/
def p2_s2137 : ck_Sum := ((1, 0, 0), 245, [.inr (.inr (.inl 10)), .inr (.inr (.inl 142))], ([], [], []), ([(10, 3, 3), (11, 0, 167)], []), [(.inr none, 245, ([], [], []))])
set_option maxRecDepth 100000 in
theorem p2_s2137_e : ck_ok p2_O none [] [] 58 [] 114 p2_s2137 = true := by decide +kernel
theorem p2_s2137_s {X : Int → Int} {LX : Nat} : ck_Ok p2_O X LX 58 p2_s2137 := ck_ok_s ⟨p2_nmu, ck_E0⟩ ck_X0 ck_l0 p2_s2137_e
set_option maxRecDepth 100000 in
/-- GlacierMail$Rows.copyFrom -/
def p2_s2138 : ck_Sum := ((1, 0, 0), 245, [.inr (.inr (.inl 12)), .inr (.inr (.inl 144))], ([], [], []), ([(12, 3, 3), (13, 0, 35)], []), [(.inr none, 245, ([], [], []))])
set_option maxRecDepth 100000 in
theorem p2_s2138_e : ck_ok p2_O none [] [] 58 [] 114 p2_s2138 = true := by decide +kernel
theorem p2_s2138_s {X : Int → Int} {LX : Nat} : ck_Ok p2_O X LX 58 p2_s2138 := ck_ok_s ⟨p2_nmu, ck_E0⟩ ck_X0 ck_l0 p2_s2138_e
set_option maxRecDepth 100000 in
/-- GlacierMail$Rows.copyFrom -/
def p2_s2139 : ck_Sum := ((1, 0, 0), 245, [.inr (.inr (.inl 14)), .inr (.inr (.inl 146))], ([], [], []), ([(14, 3, 3), (15, 0, 71)], []), [(.inr none, 245, ([], [], []))])
set_option maxRecDepth 100000 in
theorem p2_s2139_e : ck_ok p2_O none [] [] 58 [] 114 p2_s2139 = true := by decide +kernel
theorem p2_s2139_s {X : Int → Int} {LX : Nat} : ck_Ok p2_O X LX 58 p2_s2139 := ck_ok_s ⟨p2_nmu, ck_E0⟩ ck_X0 ck_l0 p2_s2139_e
set_option maxRecDepth 100000 in
/-- GlacierMail$State.copyFrom -/
def p2_s2140 : ck_Sum := ((2, 0, 0), 245, [.inr (.inr (.inl 3)), .inr (.inr (.inl 135))], ([], [(3, 8, 0), (135, 8, 100135)], []), ([(3, 0, 7), (4, 3, 3), (5, 0, 55), (6, 3, 3), (7, 0, 23), (8, 3, 3), (9, 0, 23), (10, 3, 3), (11, 0, 167), (12, 3, 3), (13, 0, 35), (14, 3, 3), (15, 0, 71)], [(3, 8)]), [(.inr none, 245, ([], [(3, 8, 100135)], []))])
set_option maxRecDepth 100000 in
theorem p2_s2140_e : ck_ok p2_O none [] [(58, [p2_s2134, p2_s2135, p2_s2136, p2_s2137, p2_s2138, p2_s2139])] 57 [] 204 p2_s2140 = true := by decide +kernel
theorem p2_s2140_s {X : Int → Int} {LX : Nat} : ck_Ok p2_O X LX 57 p2_s2140 := ck_ok_s ⟨p2_nmu, ck_E1 (ck_S1 p2_s2134_s (ck_S1 p2_s2135_s (ck_S1 p2_s2136_s (ck_S1 p2_s2137_s (ck_S1 p2_s2138_s (ck_S1 p2_s2139_s ck_S0)))))) ck_E0⟩ ck_X0 ck_l0 p2_s2140_e
set_option maxRecDepth 100000 in
/-- GlacierMail$Rows.copyFrom -/
def p2_s2141 : ck_Sum := ((1, 0, 0), 245, [.inr (.inr (.inl 4)), .inr (.inr (.inl 149))], ([], [], []), ([(4, 3, 3), (5, 0, 55)], []), [(.inr none, 245, ([], [], []))])
set_option maxRecDepth 100000 in
theorem p2_s2141_e : ck_ok p2_O none [] [] 58 [] 114 p2_s2141 = true := by decide +kernel
theorem p2_s2141_s {X : Int → Int} {LX : Nat} : ck_Ok p2_O X LX 58 p2_s2141 := ck_ok_s ⟨p2_nmu, ck_E0⟩ ck_X0 ck_l0 p2_s2141_e
set_option maxRecDepth 100000 in
/-- GlacierMail$Rows.copyFrom -/
def p2_s2142 : ck_Sum := ((1, 0, 0), 245, [.inr (.inr (.inl 6)), .inr (.inr (.inl 151))], ([], [], []), ([(6, 3, 3), (7, 0, 23)], []), [(.inr none, 245, ([], [], []))])
set_option maxRecDepth 100000 in
theorem p2_s2142_e : ck_ok p2_O none [] [] 58 [] 114 p2_s2142 = true := by decide +kernel
theorem p2_s2142_s {X : Int → Int} {LX : Nat} : ck_Ok p2_O X LX 58 p2_s2142 := ck_ok_s ⟨p2_nmu, ck_E0⟩ ck_X0 ck_l0 p2_s2142_e
set_option maxRecDepth 100000 in
/-- GlacierMail$Rows.copyFrom -/
def p2_s2143 : ck_Sum := ((1, 0, 0), 245, [.inr (.inr (.inl 8)), .inr (.inr (.inl 153))], ([], [], []), ([(8, 3, 3), (9, 0, 23)], []), [(.inr none, 245, ([], [], []))])
set_option maxRecDepth 100000 in
theorem p2_s2143_e : ck_ok p2_O none [] [] 58 [] 114 p2_s2143 = true := by decide +kernel
theorem p2_s2143_s {X : Int → Int} {LX : Nat} : ck_Ok p2_O X LX 58 p2_s2143 := ck_ok_s ⟨p2_nmu, ck_E0⟩ ck_X0 ck_l0 p2_s2143_e
set_option maxRecDepth 100000 in
/-- GlacierMail$Rows.copyFrom -/
def p2_s2144 : ck_Sum := ((1, 0, 0), 245, [.inr (.inr (.inl 10)), .inr (.inr (.inl 155))], ([], [], []), ([(10, 3, 3), (11, 0, 167)], []), [(.inr none, 245, ([], [], []))])
set_option maxRecDepth 100000 in
theorem p2_s2144_e : ck_ok p2_O none [] [] 58 [] 114 p2_s2144 = true := by decide +kernel
theorem p2_s2144_s {X : Int → Int} {LX : Nat} : ck_Ok p2_O X LX 58 p2_s2144 := ck_ok_s ⟨p2_nmu, ck_E0⟩ ck_X0 ck_l0 p2_s2144_e
set_option maxRecDepth 100000 in
/-- GlacierMail$Rows.copyFrom -/
def p2_s2145 : ck_Sum := ((1, 0, 0), 245, [.inr (.inr (.inl 12)), .inr (.inr (.inl 157))], ([], [], []), ([(12, 3, 3), (13, 0, 35)], []), [(.inr none, 245, ([], [], []))])
set_option maxRecDepth 100000 in
theorem p2_s2145_e : ck_ok p2_O none [] [] 58 [] 114 p2_s2145 = true := by decide +kernel
theorem p2_s2145_s {X : Int → Int} {LX : Nat} : ck_Ok p2_O X LX 58 p2_s2145 := ck_ok_s ⟨p2_nmu, ck_E0⟩ ck_X0 ck_l0 p2_s2145_e
set_option maxRecDepth 100000 in
/-- GlacierMail$Rows.copyFrom -/
def p2_s2146 : ck_Sum := ((1, 0, 0), 245, [.inr (.inr (.inl 14)), .inr (.inr (.inl 159))], ([], [], []), ([(14, 3, 3), (15, 0, 71)], []), [(.inr none, 245, ([], [], []))])
set_option maxRecDepth 100000 in
theorem p2_s2146_e : ck_ok p2_O none [] [] 58 [] 114 p2_s2146 = true := by decide +kernel
theorem p2_s2146_s {X : Int → Int} {LX : Nat} : ck_Ok p2_O X LX 58 p2_s2146 := ck_ok_s ⟨p2_nmu, ck_E0⟩ ck_X0 ck_l0 p2_s2146_e
set_option maxRecDepth 100000 in
/-- GlacierMail$State.copyFrom -/
def p2_s2147 : ck_Sum := ((2, 0, 0), 245, [.inr (.inr (.inl 3)), .inr (.inr (.inl 148))], ([], [(3, 8, 0), (148, 8, 100148)], []), ([(3, 0, 7), (4, 3, 3), (5, 0, 55), (6, 3, 3), (7, 0, 23), (8, 3, 3), (9, 0, 23), (10, 3, 3), (11, 0, 167), (12, 3, 3), (13, 0, 35), (14, 3, 3), (15, 0, 71)], [(3, 8)]), [(.inr none, 245, ([], [(3, 8, 100148)], []))])
set_option maxRecDepth 100000 in
theorem p2_s2147_e : ck_ok p2_O none [] [(58, [p2_s2141, p2_s2142, p2_s2143, p2_s2144, p2_s2145, p2_s2146])] 57 [] 204 p2_s2147 = true := by decide +kernel
theorem p2_s2147_s {X : Int → Int} {LX : Nat} : ck_Ok p2_O X LX 57 p2_s2147 := ck_ok_s ⟨p2_nmu, ck_E1 (ck_S1 p2_s2141_s (ck_S1 p2_s2142_s (ck_S1 p2_s2143_s (ck_S1 p2_s2144_s (ck_S1 p2_s2145_s (ck_S1 p2_s2146_s ck_S0)))))) ck_E0⟩ ck_X0 ck_l0 p2_s2147_e
set_option maxRecDepth 100000 in
/-- GlacierMail$Rows.copyFrom -/
def p2_s2148 : ck_Sum := ((1, 0, 0), 245, [.inr (.inr (.inl 4)), .inr (.inr (.inl 162))], ([], [], []), ([(4, 3, 3), (5, 0, 55)], []), [(.inr none, 245, ([], [], []))])
set_option maxRecDepth 100000 in
theorem p2_s2148_e : ck_ok p2_O none [] [] 58 [] 114 p2_s2148 = true := by decide +kernel
theorem p2_s2148_s {X : Int → Int} {LX : Nat} : ck_Ok p2_O X LX 58 p2_s2148 := ck_ok_s ⟨p2_nmu, ck_E0⟩ ck_X0 ck_l0 p2_s2148_e
set_option maxRecDepth 100000 in
/-- GlacierMail$Rows.copyFrom -/
def p2_s2149 : ck_Sum := ((1, 0, 0), 245, [.inr (.inr (.inl 6)), .inr (.inr (.inl 164))], ([], [], []), ([(6, 3, 3), (7, 0, 23)], []), [(.inr none, 245, ([], [], []))])
set_option maxRecDepth 100000 in
theorem p2_s2149_e : ck_ok p2_O none [] [] 58 [] 114 p2_s2149 = true := by decide +kernel
theorem p2_s2149_s {X : Int → Int} {LX : Nat} : ck_Ok p2_O X LX 58 p2_s2149 := ck_ok_s ⟨p2_nmu, ck_E0⟩ ck_X0 ck_l0 p2_s2149_e
set_option maxRecDepth 100000 in
/-- GlacierMail$Rows.copyFrom -/
def p2_s2150 : ck_Sum := ((1, 0, 0), 245, [.inr (.inr (.inl 8)), .inr (.inr (.inl 166))], ([], [], []), ([(8, 3, 3), (9, 0, 23)], []), [(.inr none, 245, ([], [], []))])
set_option maxRecDepth 100000 in
theorem p2_s2150_e : ck_ok p2_O none [] [] 58 [] 114 p2_s2150 = true := by decide +kernel
theorem p2_s2150_s {X : Int → Int} {LX : Nat} : ck_Ok p2_O X LX 58 p2_s2150 := ck_ok_s ⟨p2_nmu, ck_E0⟩ ck_X0 ck_l0 p2_s2150_e
set_option maxRecDepth 100000 in
/-- GlacierMail$Rows.copyFrom -/
def p2_s2151 : ck_Sum := ((1, 0, 0), 245, [.inr (.inr (.inl 10)), .inr (.inr (.inl 168))], ([], [], []), ([(10, 3, 3), (11, 0, 167)], []), [(.inr none, 245, ([], [], []))])
set_option maxRecDepth 100000 in
theorem p2_s2151_e : ck_ok p2_O none [] [] 58 [] 114 p2_s2151 = true := by decide +kernel
theorem p2_s2151_s {X : Int → Int} {LX : Nat} : ck_Ok p2_O X LX 58 p2_s2151 := ck_ok_s ⟨p2_nmu, ck_E0⟩ ck_X0 ck_l0 p2_s2151_e
set_option maxRecDepth 100000 in
/-- GlacierMail$Rows.copyFrom -/
def p2_s2152 : ck_Sum := ((1, 0, 0), 245, [.inr (.inr (.inl 12)), .inr (.inr (.inl 170))], ([], [], []), ([(12, 3, 3), (13, 0, 35)], []), [(.inr none, 245, ([], [], []))])
set_option maxRecDepth 100000 in
theorem p2_s2152_e : ck_ok p2_O none [] [] 58 [] 114 p2_s2152 = true := by decide +kernel
theorem p2_s2152_s {X : Int → Int} {LX : Nat} : ck_Ok p2_O X LX 58 p2_s2152 := ck_ok_s ⟨p2_nmu, ck_E0⟩ ck_X0 ck_l0 p2_s2152_e
set_option maxRecDepth 100000 in
/-- GlacierMail$Rows.copyFrom -/
def p2_s2153 : ck_Sum := ((1, 0, 0), 245, [.inr (.inr (.inl 14)), .inr (.inr (.inl 172))], ([], [], []), ([(14, 3, 3), (15, 0, 71)], []), [(.inr none, 245, ([], [], []))])
set_option maxRecDepth 100000 in
theorem p2_s2153_e : ck_ok p2_O none [] [] 58 [] 114 p2_s2153 = true := by decide +kernel
theorem p2_s2153_s {X : Int → Int} {LX : Nat} : ck_Ok p2_O X LX 58 p2_s2153 := ck_ok_s ⟨p2_nmu, ck_E0⟩ ck_X0 ck_l0 p2_s2153_e
set_option maxRecDepth 100000 in
/-- GlacierMail$State.copyFrom -/
def p2_s2154 : ck_Sum := ((2, 0, 0), 245, [.inr (.inr (.inl 3)), .inr (.inr (.inl 161))], ([], [(3, 8, 0), (161, 8, 100161)], []), ([(3, 0, 7), (4, 3, 3), (5, 0, 55), (6, 3, 3), (7, 0, 23), (8, 3, 3), (9, 0, 23), (10, 3, 3), (11, 0, 167), (12, 3, 3), (13, 0, 35), (14, 3, 3), (15, 0, 71)], [(3, 8)]), [(.inr none, 245, ([], [(3, 8, 100161)], []))])
set_option maxRecDepth 100000 in
theorem p2_s2154_e : ck_ok p2_O none [] [(58, [p2_s2148, p2_s2149, p2_s2150, p2_s2151, p2_s2152, p2_s2153])] 57 [] 204 p2_s2154 = true := by decide +kernel
theorem p2_s2154_s {X : Int → Int} {LX : Nat} : ck_Ok p2_O X LX 57 p2_s2154 := ck_ok_s ⟨p2_nmu, ck_E1 (ck_S1 p2_s2148_s (ck_S1 p2_s2149_s (ck_S1 p2_s2150_s (ck_S1 p2_s2151_s (ck_S1 p2_s2152_s (ck_S1 p2_s2153_s ck_S0)))))) ck_E0⟩ ck_X0 ck_l0 p2_s2154_e
set_option maxRecDepth 100000 in
/-- GlacierMail$Rows.copyFrom -/
def p2_s2155 : ck_Sum := ((1, 0, 0), 245, [.inr (.inr (.inl 4)), .inr (.inr (.inl 175))], ([], [], []), ([(4, 3, 3), (5, 0, 55)], []), [(.inr none, 245, ([], [], []))])
set_option maxRecDepth 100000 in
theorem p2_s2155_e : ck_ok p2_O none [] [] 58 [] 114 p2_s2155 = true := by decide +kernel
theorem p2_s2155_s {X : Int → Int} {LX : Nat} : ck_Ok p2_O X LX 58 p2_s2155 := ck_ok_s ⟨p2_nmu, ck_E0⟩ ck_X0 ck_l0 p2_s2155_e
set_option maxRecDepth 100000 in
/-- GlacierMail$Rows.copyFrom -/
def p2_s2156 : ck_Sum := ((1, 0, 0), 245, [.inr (.inr (.inl 6)), .inr (.inr (.inl 177))], ([], [], []), ([(6, 3, 3), (7, 0, 23)], []), [(.inr none, 245, ([], [], []))])
set_option maxRecDepth 100000 in
theorem p2_s2156_e : ck_ok p2_O none [] [] 58 [] 114 p2_s2156 = true := by decide +kernel
theorem p2_s2156_s {X : Int → Int} {LX : Nat} : ck_Ok p2_O X LX 58 p2_s2156 := ck_ok_s ⟨p2_nmu, ck_E0⟩ ck_X0 ck_l0 p2_s2156_e
set_option maxRecDepth 100000 in
/-- GlacierMail$Rows.copyFrom -/
def p2_s2157 : ck_Sum := ((1, 0, 0), 245, [.inr (.inr (.inl 8)), .inr (.inr (.inl 179))], ([], [], []), ([(8, 3, 3), (9, 0, 23)], []), [(.inr none, 245, ([], [], []))])
set_option maxRecDepth 100000 in
theorem p2_s2157_e : ck_ok p2_O none [] [] 58 [] 114 p2_s2157 = true := by decide +kernel
theorem p2_s2157_s {X : Int → Int} {LX : Nat} : ck_Ok p2_O X LX 58 p2_s2157 := ck_ok_s ⟨p2_nmu, ck_E0⟩ ck_X0 ck_l0 p2_s2157_e
set_option maxRecDepth 100000 in
/-- GlacierMail$Rows.copyFrom -/
def p2_s2158 : ck_Sum := ((1, 0, 0), 245, [.inr (.inr (.inl 10)), .inr (.inr (.inl 181))], ([], [], []), ([(10, 3, 3), (11, 0, 167)], []), [(.inr none, 245, ([], [], []))])
set_option maxRecDepth 100000 in
theorem p2_s2158_e : ck_ok p2_O none [] [] 58 [] 114 p2_s2158 = true := by decide +kernel
theorem p2_s2158_s {X : Int → Int} {LX : Nat} : ck_Ok p2_O X LX 58 p2_s2158 := ck_ok_s ⟨p2_nmu, ck_E0⟩ ck_X0 ck_l0 p2_s2158_e
set_option maxRecDepth 100000 in
/-- GlacierMail$Rows.copyFrom -/
def p2_s2159 : ck_Sum := ((1, 0, 0), 245, [.inr (.inr (.inl 12)), .inr (.inr (.inl 183))], ([], [], []), ([(12, 3, 3), (13, 0, 35)], []), [(.inr none, 245, ([], [], []))])
set_option maxRecDepth 100000 in
theorem p2_s2159_e : ck_ok p2_O none [] [] 58 [] 114 p2_s2159 = true := by decide +kernel
theorem p2_s2159_s {X : Int → Int} {LX : Nat} : ck_Ok p2_O X LX 58 p2_s2159 := ck_ok_s ⟨p2_nmu, ck_E0⟩ ck_X0 ck_l0 p2_s2159_e
set_option maxRecDepth 100000 in
/-- GlacierMail$Rows.copyFrom -/
def p2_s2160 : ck_Sum := ((1, 0, 0), 245, [.inr (.inr (.inl 14)), .inr (.inr (.inl 185))], ([], [], []), ([(14, 3, 3), (15, 0, 71)], []), [(.inr none, 245, ([], [], []))])
set_option maxRecDepth 100000 in
theorem p2_s2160_e : ck_ok p2_O none [] [] 58 [] 114 p2_s2160 = true := by decide +kernel
theorem p2_s2160_s {X : Int → Int} {LX : Nat} : ck_Ok p2_O X LX 58 p2_s2160 := ck_ok_s ⟨p2_nmu, ck_E0⟩ ck_X0 ck_l0 p2_s2160_e
set_option maxRecDepth 100000 in
/-- GlacierMail$State.copyFrom -/
def p2_s2161 : ck_Sum := ((2, 0, 0), 245, [.inr (.inr (.inl 3)), .inr (.inr (.inl 174))], ([], [(3, 8, 0), (174, 8, 100174)], []), ([(3, 0, 7), (4, 3, 3), (5, 0, 55), (6, 3, 3), (7, 0, 23), (8, 3, 3), (9, 0, 23), (10, 3, 3), (11, 0, 167), (12, 3, 3), (13, 0, 35), (14, 3, 3), (15, 0, 71)], [(3, 8)]), [(.inr none, 245, ([], [(3, 8, 100174)], []))])
set_option maxRecDepth 100000 in
theorem p2_s2161_e : ck_ok p2_O none [] [(58, [p2_s2155, p2_s2156, p2_s2157, p2_s2158, p2_s2159, p2_s2160])] 57 [] 204 p2_s2161 = true := by decide +kernel
theorem p2_s2161_s {X : Int → Int} {LX : Nat} : ck_Ok p2_O X LX 57 p2_s2161 := ck_ok_s ⟨p2_nmu, ck_E1 (ck_S1 p2_s2155_s (ck_S1 p2_s2156_s (ck_S1 p2_s2157_s (ck_S1 p2_s2158_s (ck_S1 p2_s2159_s (ck_S1 p2_s2160_s ck_S0)))))) ck_E0⟩ ck_X0 ck_l0 p2_s2161_e
set_option maxRecDepth 100000 in
/-- GlacierMail$Rows.copyFrom -/
def p2_s2162 : ck_Sum := ((1, 0, 0), 245, [.inr (.inr (.inl 4)), .inr (.inr (.inl 188))], ([], [], []), ([(4, 3, 3), (5, 0, 55)], []), [(.inr none, 245, ([], [], []))])
set_option maxRecDepth 100000 in
theorem p2_s2162_e : ck_ok p2_O none [] [] 58 [] 114 p2_s2162 = true := by decide +kernel
theorem p2_s2162_s {X : Int → Int} {LX : Nat} : ck_Ok p2_O X LX 58 p2_s2162 := ck_ok_s ⟨p2_nmu, ck_E0⟩ ck_X0 ck_l0 p2_s2162_e
set_option maxRecDepth 100000 in
/-- GlacierMail$Rows.copyFrom -/
def p2_s2163 : ck_Sum := ((1, 0, 0), 245, [.inr (.inr (.inl 6)), .inr (.inr (.inl 190))], ([], [], []), ([(6, 3, 3), (7, 0, 23)], []), [(.inr none, 245, ([], [], []))])
set_option maxRecDepth 100000 in
theorem p2_s2163_e : ck_ok p2_O none [] [] 58 [] 114 p2_s2163 = true := by decide +kernel
theorem p2_s2163_s {X : Int → Int} {LX : Nat} : ck_Ok p2_O X LX 58 p2_s2163 := ck_ok_s ⟨p2_nmu, ck_E0⟩ ck_X0 ck_l0 p2_s2163_e
set_option maxRecDepth 100000 in
/-- GlacierMail$Rows.copyFrom -/
def p2_s2164 : ck_Sum := ((1, 0, 0), 245, [.inr (.inr (.inl 8)), .inr (.inr (.inl 192))], ([], [], []), ([(8, 3, 3), (9, 0, 23)], []), [(.inr none, 245, ([], [], []))])
set_option maxRecDepth 100000 in
theorem p2_s2164_e : ck_ok p2_O none [] [] 58 [] 114 p2_s2164 = true := by decide +kernel
theorem p2_s2164_s {X : Int → Int} {LX : Nat} : ck_Ok p2_O X LX 58 p2_s2164 := ck_ok_s ⟨p2_nmu, ck_E0⟩ ck_X0 ck_l0 p2_s2164_e
set_option maxRecDepth 100000 in
/-- GlacierMail$Rows.copyFrom -/
def p2_s2165 : ck_Sum := ((1, 0, 0), 245, [.inr (.inr (.inl 10)), .inr (.inr (.inl 194))], ([], [], []), ([(10, 3, 3), (11, 0, 167)], []), [(.inr none, 245, ([], [], []))])
set_option maxRecDepth 100000 in
theorem p2_s2165_e : ck_ok p2_O none [] [] 58 [] 114 p2_s2165 = true := by decide +kernel
theorem p2_s2165_s {X : Int → Int} {LX : Nat} : ck_Ok p2_O X LX 58 p2_s2165 := ck_ok_s ⟨p2_nmu, ck_E0⟩ ck_X0 ck_l0 p2_s2165_e
set_option maxRecDepth 100000 in
/-- GlacierMail$Rows.copyFrom -/
def p2_s2166 : ck_Sum := ((1, 0, 0), 245, [.inr (.inr (.inl 12)), .inr (.inr (.inl 196))], ([], [], []), ([(12, 3, 3), (13, 0, 35)], []), [(.inr none, 245, ([], [], []))])
set_option maxRecDepth 100000 in
theorem p2_s2166_e : ck_ok p2_O none [] [] 58 [] 114 p2_s2166 = true := by decide +kernel
theorem p2_s2166_s {X : Int → Int} {LX : Nat} : ck_Ok p2_O X LX 58 p2_s2166 := ck_ok_s ⟨p2_nmu, ck_E0⟩ ck_X0 ck_l0 p2_s2166_e
set_option maxRecDepth 100000 in
/-- GlacierMail$Rows.copyFrom -/
def p2_s2167 : ck_Sum := ((1, 0, 0), 245, [.inr (.inr (.inl 14)), .inr (.inr (.inl 198))], ([], [], []), ([(14, 3, 3), (15, 0, 71)], []), [(.inr none, 245, ([], [], []))])
set_option maxRecDepth 100000 in
theorem p2_s2167_e : ck_ok p2_O none [] [] 58 [] 114 p2_s2167 = true := by decide +kernel
theorem p2_s2167_s {X : Int → Int} {LX : Nat} : ck_Ok p2_O X LX 58 p2_s2167 := ck_ok_s ⟨p2_nmu, ck_E0⟩ ck_X0 ck_l0 p2_s2167_e
set_option maxRecDepth 100000 in
/-- GlacierMail$State.copyFrom -/
def p2_s2168 : ck_Sum := ((2, 0, 0), 245, [.inr (.inr (.inl 3)), .inr (.inr (.inl 187))], ([], [(3, 8, 0), (187, 8, 100187)], []), ([(3, 0, 7), (4, 3, 3), (5, 0, 55), (6, 3, 3), (7, 0, 23), (8, 3, 3), (9, 0, 23), (10, 3, 3), (11, 0, 167), (12, 3, 3), (13, 0, 35), (14, 3, 3), (15, 0, 71)], [(3, 8)]), [(.inr none, 245, ([], [(3, 8, 100187)], []))])
set_option maxRecDepth 100000 in
theorem p2_s2168_e : ck_ok p2_O none [] [(58, [p2_s2162, p2_s2163, p2_s2164, p2_s2165, p2_s2166, p2_s2167])] 57 [] 204 p2_s2168 = true := by decide +kernel
theorem p2_s2168_s {X : Int → Int} {LX : Nat} : ck_Ok p2_O X LX 57 p2_s2168 := ck_ok_s ⟨p2_nmu, ck_E1 (ck_S1 p2_s2162_s (ck_S1 p2_s2163_s (ck_S1 p2_s2164_s (ck_S1 p2_s2165_s (ck_S1 p2_s2166_s (ck_S1 p2_s2167_s ck_S0)))))) ck_E0⟩ ck_X0 ck_l0 p2_s2168_e
set_option maxRecDepth 100000 in
/-- GlacierMail$History.takeBack -/
def p2_s2169 : ck_Sum := ((3, 0, 0), 245, [.inr (.inr (.inl 42)), .inr (.inr (.inl 3))], ([], [(3, 8, 0), (44, 8, 100044), (57, 8, 100057), (70, 8, 100070), (83, 8, 100083), (96, 8, 100096), (109, 8, 100109), (122, 8, 100122), (135, 8, 100135), (148, 8, 100148), (161, 8, 100161), (174, 8, 100174), (187, 8, 100187)], []), ([(3, 0, 7), (4, 3, 3), (5, 0, 55), (6, 3, 3), (7, 0, 23), (8, 3, 3), (9, 0, 23), (10, 3, 3), (11, 0, 167), (12, 3, 3), (13, 0, 35), (14, 3, 3), (15, 0, 71), (42, 1, 2)], [(3, 8)]), [(.inr (some (.inl (ck_one 1))), 245, ([], [(3, 8, 100044)], [(42, 2, 2, (0, 11, [])), (42, 1, 1, (0, 11, []))])), (.inr (some (.inl (ck_one 1))), 245, ([], [(3, 8, 100057)], [(42, 2, 2, (0, 11, [])), (42, 1, 1, (0, 11, []))])), (.inr (some (.inl (ck_one 1))), 245, ([], [(3, 8, 100070)], [(42, 2, 2, (0, 11, [])), (42, 1, 1, (0, 11, []))])), (.inr (some (.inl (ck_one 1))), 245, ([], [(3, 8, 100083)], [(42, 2, 2, (0, 11, [])), (42, 1, 1, (0, 11, []))])), (.inr (some (.inl (ck_one 1))), 245, ([], [(3, 8, 100096)], [(42, 2, 2, (0, 11, [])), (42, 1, 1, (0, 11, []))])), (.inr (some (.inl (ck_one 1))), 245, ([], [(3, 8, 100109)], [(42, 2, 2, (0, 11, [])), (42, 1, 1, (0, 11, []))])), (.inr (some (.inl (ck_one 1))), 245, ([], [(3, 8, 100122)], [(42, 2, 2, (0, 11, [])), (42, 1, 1, (0, 11, []))])), (.inr (some (.inl (ck_one 1))), 245, ([], [(3, 8, 100135)], [(42, 2, 2, (0, 11, [])), (42, 1, 1, (0, 11, []))])), (.inr (some (.inl (ck_one 1))), 245, ([], [(3, 8, 100148)], [(42, 2, 2, (0, 11, [])), (42, 1, 1, (0, 11, []))])), (.inr (some (.inl (ck_one 1))), 245, ([], [(3, 8, 100161)], [(42, 2, 2, (0, 11, [])), (42, 1, 1, (0, 11, []))])), (.inr (some (.inl (ck_one 1))), 245, ([], [(3, 8, 100174)], [(42, 2, 2, (0, 11, [])), (42, 1, 1, (0, 11, []))])), (.inr (some (.inl (ck_one 1))), 245, ([], [(3, 8, 100187)], [(42, 2, 2, (0, 11, [])), (42, 1, 1, (0, 11, []))])), (.inr (some (.inl (ck_one 0))), 245, ([], [(3, 8, 0)], [(42, 2, 2, ck_one 0)]))])
set_option maxRecDepth 100000 in
theorem p2_s2169_e : ck_ok p2_O none [] [(56, [p2_s2084]), (57, [p2_s2091, p2_s2098, p2_s2105, p2_s2112, p2_s2119, p2_s2126, p2_s2133, p2_s2140, p2_s2147, p2_s2154, p2_s2161, p2_s2168])] 55 [] 132 p2_s2169 = true := by decide +kernel
theorem p2_s2169_s {X : Int → Int} {LX : Nat} : ck_Ok p2_O X LX 55 p2_s2169 := ck_ok_s ⟨p2_nmu, ck_E1 (ck_S1 p2_s2084_s ck_S0) (ck_E1 (ck_S1 p2_s2091_s (ck_S1 p2_s2098_s (ck_S1 p2_s2105_s (ck_S1 p2_s2112_s (ck_S1 p2_s2119_s (ck_S1 p2_s2126_s (ck_S1 p2_s2133_s (ck_S1 p2_s2140_s (ck_S1 p2_s2147_s (ck_S1 p2_s2154_s (ck_S1 p2_s2161_s (ck_S1 p2_s2168_s ck_S0)))))))))))) ck_E0)⟩ ck_X0 ck_l0 p2_s2169_e
set_option maxRecDepth 100000 in
/-- GlacierMail.undo -/
def p2_s2170 : ck_Sum := ((4, 0, 0), 245, [.inr (.inr (.inl 1))], ([], [(3, 8, 0), (44, 8, 100044), (57, 8, 100057), (70, 8, 100070), (83, 8, 100083), (96, 8, 100096), (109, 8, 100109), (122, 8, 100122), (135, 8, 100135), (148, 8, 100148), (161, 8, 100161), (174, 8, 100174), (187, 8, 100187)], []), ([(1, 15, 15), (3, 0, 7), (4, 3, 3), (5, 0, 55), (6, 3, 3), (7, 0, 23), (8, 3, 3), (9, 0, 23), (10, 3, 3), (11, 0, 167), (12, 3, 3), (13, 0, 35), (14, 3, 3), (15, 0, 71), (42, 1, 2)], [(3, 8)]), [(.inr (some (.inl (ck_one 1))), 245, ([], [(3, 8, 100044)], [(42, 2, 2, (0, 11, [])), (42, 1, 1, (0, 11, [])), (1, 15, 15, ck_one 0)])), (.inr (some (.inl (ck_one 0))), 245, ([], [(3, 8, 0)], [(42, 2, 2, ck_one 0), (1, 15, 15, ck_one 0)])), (.inr (some (.inl (ck_one 1))), 245, ([], [(3, 8, 100187)], [(42, 2, 2, (0, 11, [])), (42, 1, 1, (0, 11, [])), (1, 15, 15, ck_one 0)])), (.inr (some (.inl (ck_one 1))), 245, ([], [(3, 8, 100174)], [(42, 2, 2, (0, 11, [])), (42, 1, 1, (0, 11, [])), (1, 15, 15, ck_one 0)])), (.inr (some (.inl (ck_one 1))), 245, ([], [(3, 8, 100161)], [(42, 2, 2, (0, 11, [])), (42, 1, 1, (0, 11, [])), (1, 15, 15, ck_one 0)])), (.inr (some (.inl (ck_one 1))), 245, ([], [(3, 8, 100148)], [(42, 2, 2, (0, 11, [])), (42, 1, 1, (0, 11, [])), (1, 15, 15, ck_one 0)])), (.inr (some (.inl (ck_one 1))), 245, ([], [(3, 8, 100135)], [(42, 2, 2, (0, 11, [])), (42, 1, 1, (0, 11, [])), (1, 15, 15, ck_one 0)])), (.inr (some (.inl (ck_one 1))), 245, ([], [(3, 8, 100122)], [(42, 2, 2, (0, 11, [])), (42, 1, 1, (0, 11, [])), (1, 15, 15, ck_one 0)])), (.inr (some (.inl (ck_one 1))), 245, ([], [(3, 8, 100109)], [(42, 2, 2, (0, 11, [])), (42, 1, 1, (0, 11, [])), (1, 15, 15, ck_one 0)])), (.inr (some (.inl (ck_one 1))), 245, ([], [(3, 8, 100096)], [(42, 2, 2, (0, 11, [])), (42, 1, 1, (0, 11, [])), (1, 15, 15, ck_one 0)])), (.inr (some (.inl (ck_one 1))), 245, ([], [(3, 8, 100083)], [(42, 2, 2, (0, 11, [])), (42, 1, 1, (0, 11, [])), (1, 15, 15, ck_one 0)])), (.inr (some (.inl (ck_one 1))), 245, ([], [(3, 8, 100070)], [(42, 2, 2, (0, 11, [])), (42, 1, 1, (0, 11, [])), (1, 15, 15, ck_one 0)])), (.inr (some (.inl (ck_one 1))), 245, ([], [(3, 8, 100057)], [(42, 2, 2, (0, 11, [])), (42, 1, 1, (0, 11, [])), (1, 15, 15, ck_one 0)]))])
set_option maxRecDepth 100000 in
theorem p2_s2170_e : ck_ok p2_O none [] [(55, [p2_s2169])] 54 [] 88 p2_s2170 = true := by decide +kernel
theorem p2_s2170_s {X : Int → Int} {LX : Nat} : ck_Ok p2_O X LX 54 p2_s2170 := ck_ok_s ⟨p2_nmu, ck_E1 (ck_S1 p2_s2169_s ck_S0) ck_E0⟩ ck_X0 ck_l0 p2_s2170_e
set_option maxRecDepth 100000 in
/-- GlacierMail$Rows.copyFrom -/
def p2_s2172 : ck_Sum := ((1, 0, 0), 245, [.inr (.inr (.inl 30)), .inr (.inr (.inl 4))], ([], [], []), ([(30, 3, 3), (31, 0, 55)], []), [(.inr none, 245, ([], [], []))])
set_option maxRecDepth 100000 in
theorem p2_s2172_e : ck_ok p2_O none [] [] 58 [] 114 p2_s2172 = true := by decide +kernel
theorem p2_s2172_s {X : Int → Int} {LX : Nat} : ck_Ok p2_O X LX 58 p2_s2172 := ck_ok_s ⟨p2_nmu, ck_E0⟩ ck_X0 ck_l0 p2_s2172_e
set_option maxRecDepth 100000 in
/-- GlacierMail$Rows.copyFrom -/
def p2_s2173 : ck_Sum := ((1, 0, 0), 245, [.inr (.inr (.inl 32)), .inr (.inr (.inl 6))], ([], [], []), ([(32, 3, 3), (33, 0, 23)], []), [(.inr none, 245, ([], [], []))])
set_option maxRecDepth 100000 in
theorem p2_s2173_e : ck_ok p2_O none [] [] 58 [] 114 p2_s2173 = true := by decide +kernel
theorem p2_s2173_s {X : Int → Int} {LX : Nat} : ck_Ok p2_O X LX 58 p2_s2173 := ck_ok_s ⟨p2_nmu, ck_E0⟩ ck_X0 ck_l0 p2_s2173_e
set_option maxRecDepth 100000 in
/-- GlacierMail$Rows.copyFrom -/
def p2_s2174 : ck_Sum := ((1, 0, 0), 245, [.inr (.inr (.inl 34)), .inr (.inr (.inl 8))], ([], [], []), ([(34, 3, 3), (35, 0, 23)], []), [(.inr none, 245, ([], [], []))])
set_option maxRecDepth 100000 in
theorem p2_s2174_e : ck_ok p2_O none [] [] 58 [] 114 p2_s2174 = true := by decide +kernel
theorem p2_s2174_s {X : Int → Int} {LX : Nat} : ck_Ok p2_O X LX 58 p2_s2174 := ck_ok_s ⟨p2_nmu, ck_E0⟩ ck_X0 ck_l0 p2_s2174_e
set_option maxRecDepth 100000 in
/-- GlacierMail$Rows.copyFrom -/
def p2_s2175 : ck_Sum := ((1, 0, 0), 245, [.inr (.inr (.inl 36)), .inr (.inr (.inl 10))], ([], [], []), ([(36, 3, 3), (37, 0, 167)], []), [(.inr none, 245, ([], [], []))])
set_option maxRecDepth 100000 in
theorem p2_s2175_e : ck_ok p2_O none [] [] 58 [] 114 p2_s2175 = true := by decide +kernel
theorem p2_s2175_s {X : Int → Int} {LX : Nat} : ck_Ok p2_O X LX 58 p2_s2175 := ck_ok_s ⟨p2_nmu, ck_E0⟩ ck_X0 ck_l0 p2_s2175_e
set_option maxRecDepth 100000 in
/-- GlacierMail$Rows.copyFrom -/
def p2_s2176 : ck_Sum := ((1, 0, 0), 245, [.inr (.inr (.inl 38)), .inr (.inr (.inl 12))], ([], [], []), ([(38, 3, 3), (39, 0, 35)], []), [(.inr none, 245, ([], [], []))])
set_option maxRecDepth 100000 in
theorem p2_s2176_e : ck_ok p2_O none [] [] 58 [] 114 p2_s2176 = true := by decide +kernel
theorem p2_s2176_s {X : Int → Int} {LX : Nat} : ck_Ok p2_O X LX 58 p2_s2176 := ck_ok_s ⟨p2_nmu, ck_E0⟩ ck_X0 ck_l0 p2_s2176_e
set_option maxRecDepth 100000 in
/-- GlacierMail$Rows.copyFrom -/
def p2_s2177 : ck_Sum := ((1, 0, 0), 245, [.inr (.inr (.inl 40)), .inr (.inr (.inl 14))], ([], [], []), ([(40, 3, 3), (41, 0, 71)], []), [(.inr none, 245, ([], [], []))])
set_option maxRecDepth 100000 in
theorem p2_s2177_e : ck_ok p2_O none [] [] 58 [] 114 p2_s2177 = true := by decide +kernel
theorem p2_s2177_s {X : Int → Int} {LX : Nat} : ck_Ok p2_O X LX 58 p2_s2177 := ck_ok_s ⟨p2_nmu, ck_E0⟩ ck_X0 ck_l0 p2_s2177_e
set_option maxRecDepth 100000 in
/-- GlacierMail$State.copyFrom -/
def p2_s2178 : ck_Sum := ((2, 0, 0), 245, [.inr (.inr (.inl 29)), .inr (.inr (.inl 3))], ([], [(3, 8, 0), (29, 8, 100029)], [(3, 6, 6, (0, 299, [(10, 0)]))]), ([(29, 0, 7), (30, 3, 3), (31, 0, 55), (32, 3, 3), (33, 0, 23), (34, 3, 3), (35, 0, 23), (36, 3, 3), (37, 0, 167), (38, 3, 3), (39, 0, 35), (40, 3, 3), (41, 0, 71)], [(29, 8)]), [(.inr none, 245, ([], [(29, 8, 0)], [(29, 6, 6, (0, 299, [(10, 0)]))]))])
set_option maxRecDepth 100000 in
theorem p2_s2178_e : ck_ok p2_O none [] [(58, [p2_s2172, p2_s2173, p2_s2174, p2_s2175, p2_s2176, p2_s2177])] 57 [] 204 p2_s2178 = true := by decide +kernel
theorem p2_s2178_s {X : Int → Int} {LX : Nat} : ck_Ok p2_O X LX 57 p2_s2178 := ck_ok_s ⟨p2_nmu, ck_E1 (ck_S1 p2_s2172_s (ck_S1 p2_s2173_s (ck_S1 p2_s2174_s (ck_S1 p2_s2175_s (ck_S1 p2_s2176_s (ck_S1 p2_s2177_s ck_S0)))))) ck_E0⟩ ck_X0 ck_l0 p2_s2178_e
set_option maxRecDepth 100000 in
/-- GlacierMail.image -/
def p2_s2179 : ck_Sum := ((3, 0, 0), 245, [.inr (.inr (.inl 1))], ([], [(3, 8, 0), (29, 8, 100029)], [(3, 6, 6, (0, 299, [(10, 0)]))]), ([(1, 6, 6), (29, 0, 7), (30, 3, 3), (31, 0, 55), (32, 3, 3), (33, 0, 23), (34, 3, 3), (35, 0, 23), (36, 3, 3), (37, 0, 167), (38, 3, 3), (39, 0, 35), (40, 3, 3), (41, 0, 71)], [(29, 8)]), [(.inr none, 245, ([], [(29, 8, 0)], [(1, 6, 6, ck_one 1), (29, 6, 6, (0, 299, [(10, 0)]))]))])
set_option maxRecDepth 100000 in
theorem p2_s2179_e : ck_ok p2_O none [] [(57, [p2_s2178])] 59 [] 88 p2_s2179 = true := by decide +kernel
theorem p2_s2179_s {X : Int → Int} {LX : Nat} : ck_Ok p2_O X LX 59 p2_s2179 := ck_ok_s ⟨p2_nmu, ck_E1 (ck_S1 p2_s2178_s ck_S0) ck_E0⟩ ck_X0 ck_l0 p2_s2179_e
set_option maxRecDepth 100000 in
/-- GlacierMail$Rows.copyFrom -/
def p2_s2181 : ck_Sum := ((1, 0, 0), 245, [.inr (.inr (.inl 4)), .inr (.inr (.inl 30))], ([], [], []), ([(4, 3, 3), (5, 0, 55)], []), [(.inr none, 245, ([], [], []))])
set_option maxRecDepth 100000 in
theorem p2_s2181_e : ck_ok p2_O none [] [] 58 [] 114 p2_s2181 = true := by decide +kernel
theorem p2_s2181_s {X : Int → Int} {LX : Nat} : ck_Ok p2_O X LX 58 p2_s2181 := ck_ok_s ⟨p2_nmu, ck_E0⟩ ck_X0 ck_l0 p2_s2181_e
set_option maxRecDepth 100000 in
/-- GlacierMail$Rows.copyFrom -/
def p2_s2182 : ck_Sum := ((1, 0, 0), 245, [.inr (.inr (.inl 6)), .inr (.inr (.inl 32))], ([], [], []), ([(6, 3, 3), (7, 0, 23)], []), [(.inr none, 245, ([], [], []))])
set_option maxRecDepth 100000 in
theorem p2_s2182_e : ck_ok p2_O none [] [] 58 [] 114 p2_s2182 = true := by decide +kernel
theorem p2_s2182_s {X : Int → Int} {LX : Nat} : ck_Ok p2_O X LX 58 p2_s2182 := ck_ok_s ⟨p2_nmu, ck_E0⟩ ck_X0 ck_l0 p2_s2182_e
set_option maxRecDepth 100000 in
/-- GlacierMail$Rows.copyFrom -/
def p2_s2183 : ck_Sum := ((1, 0, 0), 245, [.inr (.inr (.inl 8)), .inr (.inr (.inl 34))], ([], [], []), ([(8, 3, 3), (9, 0, 23)], []), [(.inr none, 245, ([], [], []))])
set_option maxRecDepth 100000 in
theorem p2_s2183_e : ck_ok p2_O none [] [] 58 [] 114 p2_s2183 = true := by decide +kernel
theorem p2_s2183_s {X : Int → Int} {LX : Nat} : ck_Ok p2_O X LX 58 p2_s2183 := ck_ok_s ⟨p2_nmu, ck_E0⟩ ck_X0 ck_l0 p2_s2183_e
set_option maxRecDepth 100000 in
/-- GlacierMail$Rows.copyFrom -/
def p2_s2184 : ck_Sum := ((1, 0, 0), 245, [.inr (.inr (.inl 10)), .inr (.inr (.inl 36))], ([], [], []), ([(10, 3, 3), (11, 0, 167)], []), [(.inr none, 245, ([], [], []))])
set_option maxRecDepth 100000 in
theorem p2_s2184_e : ck_ok p2_O none [] [] 58 [] 114 p2_s2184 = true := by decide +kernel
theorem p2_s2184_s {X : Int → Int} {LX : Nat} : ck_Ok p2_O X LX 58 p2_s2184 := ck_ok_s ⟨p2_nmu, ck_E0⟩ ck_X0 ck_l0 p2_s2184_e
set_option maxRecDepth 100000 in
/-- GlacierMail$Rows.copyFrom -/
def p2_s2185 : ck_Sum := ((1, 0, 0), 245, [.inr (.inr (.inl 12)), .inr (.inr (.inl 38))], ([], [], []), ([(12, 3, 3), (13, 0, 35)], []), [(.inr none, 245, ([], [], []))])
set_option maxRecDepth 100000 in
theorem p2_s2185_e : ck_ok p2_O none [] [] 58 [] 114 p2_s2185 = true := by decide +kernel
theorem p2_s2185_s {X : Int → Int} {LX : Nat} : ck_Ok p2_O X LX 58 p2_s2185 := ck_ok_s ⟨p2_nmu, ck_E0⟩ ck_X0 ck_l0 p2_s2185_e
set_option maxRecDepth 100000 in
/-- GlacierMail$Rows.copyFrom -/
def p2_s2186 : ck_Sum := ((1, 0, 0), 245, [.inr (.inr (.inl 14)), .inr (.inr (.inl 40))], ([], [], []), ([(14, 3, 3), (15, 0, 71)], []), [(.inr none, 245, ([], [], []))])
set_option maxRecDepth 100000 in
theorem p2_s2186_e : ck_ok p2_O none [] [] 58 [] 114 p2_s2186 = true := by decide +kernel
theorem p2_s2186_s {X : Int → Int} {LX : Nat} : ck_Ok p2_O X LX 58 p2_s2186 := ck_ok_s ⟨p2_nmu, ck_E0⟩ ck_X0 ck_l0 p2_s2186_e
set_option maxRecDepth 100000 in
/-- GlacierMail$State.copyFrom -/
def p2_s2187 : ck_Sum := ((2, 0, 0), 245, [.inr (.inr (.inl 3)), .inr (.inr (.inl 29))], ([], [(3, 8, 0), (29, 8, 100029)], []), ([(3, 0, 7), (4, 3, 3), (5, 0, 55), (6, 3, 3), (7, 0, 23), (8, 3, 3), (9, 0, 23), (10, 3, 3), (11, 0, 167), (12, 3, 3), (13, 0, 35), (14, 3, 3), (15, 0, 71)], [(3, 8)]), [(.inr none, 245, ([], [(3, 8, 100029)], []))])
set_option maxRecDepth 100000 in
theorem p2_s2187_e : ck_ok p2_O none [] [(58, [p2_s2181, p2_s2182, p2_s2183, p2_s2184, p2_s2185, p2_s2186])] 57 [] 204 p2_s2187 = true := by decide +kernel
theorem p2_s2187_s {X : Int → Int} {LX : Nat} : ck_Ok p2_O X LX 57 p2_s2187 := ck_ok_s ⟨p2_nmu, ck_E1 (ck_S1 p2_s2181_s (ck_S1 p2_s2182_s (ck_S1 p2_s2183_s (ck_S1 p2_s2184_s (ck_S1 p2_s2185_s (ck_S1 p2_s2186_s ck_S0)))))) ck_E0⟩ ck_X0 ck_l0 p2_s2187_e
set_option maxRecDepth 100000 in
/-- GlacierMail.back -/
def p2_s2188 : ck_Sum := ((4, 0, 0), 245, [.inr (.inr (.inl 1))], ([], [(3, 8, 0), (29, 8, 100029)], [(1, 6, 6, (0, 1, [(9, 0)]))]), ([(1, 15, 15), (3, 0, 7), (4, 3, 3), (5, 0, 55), (6, 3, 3), (7, 0, 23), (8, 3, 3), (9, 0, 23), (10, 3, 3), (11, 0, 167), (12, 3, 3), (13, 0, 35), (14, 3, 3), (15, 0, 71), (42, 2, 2), (200, 6, 6), (201, 0, 299), (202, 0, 593), (203, 0, 299)], [(3, 8)]), [(.inr (some (.inl (ck_one 1))), 245, ([], [(3, 8, 100029)], [(1, 15, 15, ck_one 0), (42, 2, 2, ck_one 0), (1, 6, 6, (1, 1, [(9, 0)]))])), (.inr (some (.inl (ck_one 0))), 245, ([], [(3, 8, 0)], [(1, 6, 6, (0, 0, [(9, 0)]))]))])
set_option maxRecDepth 100000 in
theorem p2_s2188_e : ck_ok p2_O none [] [(57, [p2_s2187]), (61, [p2_s164])] 60 [] 94 p2_s2188 = true := by decide +kernel
theorem p2_s2188_s {X : Int → Int} {LX : Nat} : ck_Ok p2_O X LX 60 p2_s2188 := ck_ok_s ⟨p2_nmu, ck_E1 (ck_S1 p2_s2187_s ck_S0) (ck_E1 (ck_S1 p2_s164_s ck_S0) ck_E0)⟩ ck_X0 ck_l0 p2_s2188_e
set_option maxRecDepth 100000 in
/-- GlacierMail.count -/
def p2_s2190 : ck_Sum := ((0, 0, 0), 245, [.inr (.inr (.inl 1)), .inl ((-2147483648), (-1), [])], ([], [], []), ([], []), [(.inr (some (.inl (ck_one (-1)))), 245, ([], [], []))])
set_option maxRecDepth 100000 in
theorem p2_s2190_e : ck_ok p2_O none [] [] 63 [] 78 p2_s2190 = true := by decide +kernel
theorem p2_s2190_s {X : Int → Int} {LX : Nat} : ck_Ok p2_O X LX 63 p2_s2190 := ck_ok_s ⟨p2_nmu, ck_E0⟩ ck_X0 ck_l0 p2_s2190_e
set_option maxRecDepth 100000 in
/-- GlacierMail$History.size -/
def p2_s2191 : ck_Sum := ((0, 0, 0), 245, [.inr (.inr (.inl 42))], ([], [], []), ([], []), [(.inr (some (.inl (0, 12, []))), 245, ([], [], []))])
set_option maxRecDepth 100000 in
theorem p2_s2191_e : ck_ok p2_O none [] [] 69 [] 76 p2_s2191 = true := by decide +kernel
theorem p2_s2191_s {X : Int → Int} {LX : Nat} : ck_Ok p2_O X LX 69 p2_s2191 := ck_ok_s ⟨p2_nmu, ck_E0⟩ ck_X0 ck_l0 p2_s2191_e
set_option maxRecDepth 100000 in
/-- GlacierMail.inIceNow -/
def p2_s2192 : ck_Sum := ((5, 0, 0), 245, [.inr (.inr (.inl 1))], ([], [(3, 8, 0)], [(3, 6, 6, (0, 299, [(10, 0)]))]), ([(1, 15, 15), (206, 2, 8), (220, 3, 3), (221, 0, 47)], []), [(.inr (some (.inl ((-2147483648), 2147483647, []))), 245, ([], [], [(1, 15, 15, ck_one 1)]))])
set_option maxRecDepth 100000 in
theorem p2_s2192_e : ck_ok p2_O none [] [(24, [p2_s417]), (9, [p2_s371]), (10, [p2_s419]), (67, [p2_s420])] 68 [(8, [some (.inr (.inr (.inl 1))), some (.inl ((-2147483648), 2147483647, [])), some (.inl (0, 24, []))], ([], [(3, 8, 0)], [(1, 15, 15, ck_one 1), (3, 6, 6, (0, 299, [(10, 0)]))]), 100, .inl 2, true)] 174 p2_s2192 = true := by decide +kernel
theorem p2_s2192_s {X : Int → Int} {LX : Nat} : ck_Ok p2_O X LX 68 p2_s2192 := ck_ok_s ⟨p2_nmu, ck_E1 (ck_S1 p2_s417_s ck_S0) (ck_E1 (ck_S1 p2_s371_s ck_S0) (ck_E1 (ck_S1 p2_s419_s ck_S0) (ck_E1 (ck_S1 p2_s420_s ck_S0) ck_E0)))⟩ ck_X0 ck_l0 p2_s2192_e
set_option maxRecDepth 100000 in
/-- GlacierMail.waiting -/
def p2_s2193 : ck_Sum := ((5, 0, 0), 245, [.inr (.inr (.inl 1)), .inl (ck_one (-1))], ([], [(3, 8, 0)], [(3, 6, 6, (0, 299, [(10, 0)]))]), ([(1, 15, 15), (206, 2, 8), (220, 3, 3), (221, 0, 47)], []), [(.inr (some (.inl ((-2147483648), 2147483647, []))), 245, ([], [], [(1, 15, 15, ck_one 1)]))])
set_option maxRecDepth 100000 in
theorem p2_s2193_e : ck_ok p2_O none [] [(24, [p2_s417]), (9, [p2_s371]), (66, [p2_s446])] 65 [(8, [some (.inr (.inr (.inl 1))), some (.inl (ck_one (-1))), some (.inl ((-2147483648), 2147483647, [])), some (.inl (0, 24, [])), none], ([], [(3, 8, 0)], [(1, 15, 15, ck_one 1), (3, 6, 6, (0, 299, [(10, 0)]))]), 100, .inl 3, true)] 178 p2_s2193 = true := by decide +kernel
theorem p2_s2193_s {X : Int → Int} {LX : Nat} : ck_Ok p2_O X LX 65 p2_s2193 := ck_ok_s ⟨p2_nmu, ck_E1 (ck_S1 p2_s417_s ck_S0) (ck_E1 (ck_S1 p2_s371_s ck_S0) (ck_E1 (ck_S1 p2_s446_s ck_S0) ck_E0))⟩ ck_X0 ck_l0 p2_s2193_e
set_option maxRecDepth 100000 in
/-- GlacierMail$Rows.size -/
def p2_s2194 : ck_Sum := ((0, 0, 0), 245, [.inr (.inr (.inl 14))], ([], [], []), ([], []), [(.inr (some (.inl (0, 24, []))), 245, ([], [], []))])
set_option maxRecDepth 100000 in
theorem p2_s2194_e : ck_ok p2_O none [] [] 9 [] 76 p2_s2194 = true := by decide +kernel
theorem p2_s2194_s {X : Int → Int} {LX : Nat} : ck_Ok p2_O X LX 9 p2_s2194 := ck_ok_s ⟨p2_nmu, ck_E0⟩ ck_X0 ck_l0 p2_s2194_e
set_option maxRecDepth 100000 in
/-- GlacierMail.count -/
def p2_s2195 : ck_Sum := ((6, 0, 0), 245, [.inr (.inr (.inl 1)), .inl (10, 2147483647, [])], ([], [(3, 8, 0)], [(3, 6, 6, (0, 299, [(10, 0)]))]), ([(1, 15, 15), (206, 2, 8), (220, 3, 3), (221, 0, 47)], []), [(.inr (some (.inl ((-2147483648), 2147483647, []))), 245, ([], [], [])), (.inr (some (.inl (0, 9999, []))), 245, ([], [], []))])
set_option maxRecDepth 100000 in
theorem p2_s2195_e : ck_ok p2_O none [] [(69, [p2_s2191]), (68, [p2_s2192]), (65, [p2_s2193]), (9, [p2_s2194])] 63 [] 84 p2_s2195 = true := by decide +kernel
theorem p2_s2195_s {X : Int → Int} {LX : Nat} : ck_Ok p2_O X LX 63 p2_s2195 := ck_ok_s ⟨p2_nmu, ck_E1 (ck_S1 p2_s2191_s ck_S0) (ck_E1 (ck_S1 p2_s2192_s ck_S0) (ck_E1 (ck_S1 p2_s2193_s ck_S0) (ck_E1 (ck_S1 p2_s2194_s ck_S0) ck_E0)))⟩ ck_X0 ck_l0 p2_s2195_e
set_option maxRecDepth 100000 in
/-- GlacierMail.lawLines -/
def p2_s2196 : ck_Sum := ((0, 0, 0), 245, [.inr (.inr (.inl 1))], ([], [(3, 8, 0)], []), ([], []), [(.inr (some (.inl (ck_one (-1)))), 245, ([], [], []))])
set_option maxRecDepth 100000 in
theorem p2_s2196_e : ck_ok p2_O none [] [] 64 [] 84 p2_s2196 = true := by decide +kernel
theorem p2_s2196_s {X : Int → Int} {LX : Nat} : ck_Ok p2_O X LX 64 p2_s2196 := ck_ok_s ⟨p2_nmu, ck_E0⟩ ck_X0 ck_l0 p2_s2196_e
set_option maxRecDepth 100000 in
/-- GlacierMail.count -/
def p2_s2197 : ck_Sum := ((1, 0, 0), 245, [.inr (.inr (.inl 1)), .inl (0, 9, [])], ([], [(3, 8, 0)], [(3, 6, 6, (0, 299, [(10, 0)]))]), ([], []), [(.inr (some (.inl (0, 2147483647, []))), 245, ([], [], [])), (.inr (some (.inl ((-2147483648), (-1), []))), 245, ([], [], []))])
set_option maxRecDepth 100000 in
theorem p2_s2197_e : ck_ok p2_O none [] [(64, [p2_s2196]), (9, [p2_s1756, p2_s159, p2_s371, p2_s360, p2_s155])] 63 [] 84 p2_s2197 = true := by decide +kernel
theorem p2_s2197_s {X : Int → Int} {LX : Nat} : ck_Ok p2_O X LX 63 p2_s2197 := ck_ok_s ⟨p2_nmu, ck_E1 (ck_S1 p2_s2196_s ck_S0) (ck_E1 (ck_S1 p2_s1756_s (ck_S1 p2_s159_s (ck_S1 p2_s371_s (ck_S1 p2_s360_s (ck_S1 p2_s155_s ck_S0))))) ck_E0)⟩ ck_X0 ck_l0 p2_s2197_e
set_option maxRecDepth 100000 in
/-- GlacierMailModel.in -/
def p2_s2198 : ck_Sum := ((0, 0, 0), 245, [.inl ((-2147483648), (-1), []), .inl (ck_one 0), .inl (ck_one 13)], ([], [], []), ([], []), [(.inr (some (.inl (ck_one 0))), 245, ([], [], []))])
set_option maxRecDepth 100000 in
theorem p2_s2198_e : ck_ok p2_O none [] [] 286 [] 80 p2_s2198 = true := by decide +kernel
theorem p2_s2198_s {X : Int → Int} {LX : Nat} : ck_Ok p2_O X LX 286 p2_s2198 := ck_ok_s ⟨p2_nmu, ck_E0⟩ ck_X0 ck_l0 p2_s2198_e
set_option maxRecDepth 100000 in
/-- GlacierMailModel.count -/
def p2_s2199 : ck_Sum := ((1, 0, 0), 245, [.inr (.inr (.inl 226)), .inl ((-2147483648), (-1), [])], ([], [], []), ([(226, 0, 0)], []), [(.inr (some (.inl (ck_one (-1)))), 245, ([], [], [(226, 0, 0, ck_one 0)]))])
set_option maxRecDepth 100000 in
theorem p2_s2199_e : ck_ok p2_O none [] [(286, [p2_s2198])] 368 [] 98 p2_s2199 = true := by decide +kernel
theorem p2_s2199_s {X : Int → Int} {LX : Nat} : ck_Ok p2_O X LX 368 p2_s2199 := ck_ok_s ⟨p2_nmu, ck_E1 (ck_S1 p2_s2198_s ck_S0) ck_E0⟩ ck_X0 ck_l0 p2_s2199_e
set_option maxRecDepth 100000 in
/-- GlacierMailModel.in -/
def p2_s2200 : ck_Sum := ((0, 0, 0), 245, [.inl (18, 2147483647, []), .inl (ck_one 0), .inl (ck_one 13)], ([], [], []), ([], []), [(.inr (some (.inl (ck_one 0))), 245, ([], [], []))])
set_option maxRecDepth 100000 in
theorem p2_s2200_e : ck_ok p2_O none [] [] 286 [] 86 p2_s2200 = true := by decide +kernel
theorem p2_s2200_s {X : Int → Int} {LX : Nat} : ck_Ok p2_O X LX 286 p2_s2200 := ck_ok_s ⟨p2_nmu, ck_E0⟩ ck_X0 ck_l0 p2_s2200_e
set_option maxRecDepth 100000 in
/-- GlacierMailModel.in -/
def p2_s2201 : ck_Sum := ((0, 0, 0), 245, [.inl (ck_one 13), .inl (ck_one 0), .inl (ck_one 13)], ([], [], []), ([], []), [(.inr (some (.inl (ck_one 1))), 245, ([], [], []))])
set_option maxRecDepth 100000 in
theorem p2_s2201_e : ck_ok p2_O none [] [] 286 [] 88 p2_s2201 = true := by decide +kernel
theorem p2_s2201_s {X : Int → Int} {LX : Nat} : ck_Ok p2_O X LX 286 p2_s2201 := ck_ok_s ⟨p2_nmu, ck_E0⟩ ck_X0 ck_l0 p2_s2201_e
set_option maxRecDepth 100000 in
/-- GlacierMailModel.in -/
def p2_s2202 : ck_Sum := ((0, 0, 0), 245, [.inl (ck_one 12), .inl (ck_one 0), .inl (ck_one 13)], ([], [], []), ([], []), [(.inr (some (.inl (ck_one 1))), 245, ([], [], []))])
set_option maxRecDepth 100000 in
theorem p2_s2202_e : ck_ok p2_O none [] [] 286 [] 88 p2_s2202 = true := by decide +kernel
theorem p2_s2202_s {X : Int → Int} {LX : Nat} : ck_Ok p2_O X LX 286 p2_s2202 := ck_ok_s ⟨p2_nmu, ck_E0⟩ ck_X0 ck_l0 p2_s2202_e
set_option maxRecDepth 100000 in
/-- GlacierMailModel.in -/
def p2_s2203 : ck_Sum := ((0, 0, 0), 245, [.inl (ck_one 11), .inl (ck_one 0), .inl (ck_one 13)], ([], [], []), ([], []), [(.inr (some (.inl (ck_one 1))), 245, ([], [], []))])
set_option maxRecDepth 100000 in
theorem p2_s2203_e : ck_ok p2_O none [] [] 286 [] 88 p2_s2203 = true := by decide +kernel
theorem p2_s2203_s {X : Int → Int} {LX : Nat} : ck_Ok p2_O X LX 286 p2_s2203 := ck_ok_s ⟨p2_nmu, ck_E0⟩ ck_X0 ck_l0 p2_s2203_e
set_option maxRecDepth 100000 in
/-- GlacierMailModel.in -/
def p2_s2204 : ck_Sum := ((0, 0, 0), 245, [.inl (ck_one 10), .inl (ck_one 0), .inl (ck_one 13)], ([], [], []), ([], []), [(.inr (some (.inl (ck_one 1))), 245, ([], [], []))])
set_option maxRecDepth 100000 in
theorem p2_s2204_e : ck_ok p2_O none [] [] 286 [] 88 p2_s2204 = true := by decide +kernel
theorem p2_s2204_s {X : Int → Int} {LX : Nat} : ck_Ok p2_O X LX 286 p2_s2204 := ck_ok_s ⟨p2_nmu, ck_E0⟩ ck_X0 ck_l0 p2_s2204_e
set_option maxRecDepth 100000 in
/-- GlacierMailModel.in -/
def p2_s2206 : ck_Sum := ((0, 0, 0), 245, [.inl (0, 7, []), .inl (ck_one 0), .inl (ck_one 13)], ([], [], []), ([], []), [(.inr (some (.inl (ck_one 1))), 245, ([], [], []))])
set_option maxRecDepth 100000 in
theorem p2_s2206_e : ck_ok p2_O none [] [] 286 [] 88 p2_s2206 = true := by decide +kernel
theorem p2_s2206_s {X : Int → Int} {LX : Nat} : ck_Ok p2_O X LX 286 p2_s2206 := ck_ok_s ⟨p2_nmu, ck_E0⟩ ck_X0 ck_l0 p2_s2206_e
set_option maxRecDepth 100000 in
/-- GlacierMailModel.in -/
def p2_s2207 : ck_Sum := ((0, 0, 0), 245, [.inl (ck_one 9), .inl (ck_one 0), .inl (ck_one 13)], ([], [], []), ([], []), [(.inr (some (.inl (ck_one 1))), 245, ([], [], []))])
set_option maxRecDepth 100000 in
theorem p2_s2207_e : ck_ok p2_O none [] [] 286 [] 88 p2_s2207 = true := by decide +kernel
theorem p2_s2207_s {X : Int → Int} {LX : Nat} : ck_Ok p2_O X LX 286 p2_s2207 := ck_ok_s ⟨p2_nmu, ck_E0⟩ ck_X0 ck_l0 p2_s2207_e
set_option maxRecDepth 100000 in
/-- GlacierMailModel.count -/
def p2_s2208 : ck_Sum := ((1, 0, 0), 245, [.inr (.inr (.inl 226)), .inl (0, 9, [])], ([], [], [(227, 9, 9, (0, 299, [(11, 0)]))]), ([(226, 0, 0)], []), [(.inr (some (.inl (0, 299, []))), 245, ([], [], [(226, 0, 0, ck_one 0)])), (.inr (some (.inl (ck_one (-1)))), 245, ([], [], [(227, 8, 8, ck_one 0), (226, 0, 0, ck_one 0)]))])
set_option maxRecDepth 100000 in
theorem p2_s2208_e : ck_ok p2_O none [] [(286, [p2_s2206, p2_s2207])] 368 [] 108 p2_s2208 = true := by decide +kernel
theorem p2_s2208_s {X : Int → Int} {LX : Nat} : ck_Ok p2_O X LX 368 p2_s2208 := ck_ok_s ⟨p2_nmu, ck_E1 (ck_S1 p2_s2206_s (ck_S1 p2_s2207_s ck_S0)) ck_E0⟩ ck_X0 ck_l0 p2_s2208_e
set_option maxRecDepth 100000 in
/-- GlacierMailModel.isWord -/
def p2_s2209 : ck_Sum := ((6, 0, 0), 245, [.inr (.inr (.inl 226)), .inr (.inr (.inr 59))], ([], [], [(226, 9, 9, (0, 400, [(1, 0)]))]), ([], []), [(.inr (some (.inl (ck_one 0))), 245, ([], [], [])), (.inr (some (.inl (ck_one 1))), 245, ([], [], [(226, 9, 9, (4, 400, [(1, 0)])), (226, 11, 11, (0, 396, []))]))])
set_option maxRecDepth 100000 in
theorem p2_s2209_e : ck_ok p2_O none [] [] 250 [] 288 p2_s2209 = true := by decide +kernel
theorem p2_s2209_s {X : Int → Int} {LX : Nat} : ck_Ok p2_O X LX 250 p2_s2209 := ck_ok_s ⟨p2_nmu, ck_E0⟩ ck_X0 ck_l0 p2_s2209_e
set_option maxRecDepth 100000 in
/-- GlacierMailModel.isWord -/
def p2_s2210 : ck_Sum := ((6, 0, 0), 245, [.inr (.inr (.inl 226)), .inr (.inr (.inr 60))], ([], [], [(226, 9, 9, (0, 400, [(1, 0)]))]), ([], []), [(.inr (some (.inl (ck_one 0))), 245, ([], [], [])), (.inr (some (.inl (ck_one 1))), 245, ([], [], [(226, 9, 9, (4, 400, [(1, 0)])), (226, 11, 11, (0, 396, []))]))])
set_option maxRecDepth 100000 in
theorem p2_s2210_e : ck_ok p2_O none [] [] 250 [] 288 p2_s2210 = true := by decide +kernel
theorem p2_s2210_s {X : Int → Int} {LX : Nat} : ck_Ok p2_O X LX 250 p2_s2210 := ck_ok_s ⟨p2_nmu, ck_E0⟩ ck_X0 ck_l0 p2_s2210_e
set_option maxRecDepth 100000 in
/-- GlacierMailModel.isWord -/
def p2_s2211 : ck_Sum := ((6, 0, 0), 245, [.inr (.inr (.inl 226)), .inr (.inr (.inr 61))], ([], [], [(226, 9, 9, (0, 400, [(1, 0)]))]), ([], []), [(.inr (some (.inl (ck_one 0))), 245, ([], [], [])), (.inr (some (.inl (ck_one 1))), 245, ([], [], [(226, 9, 9, (4, 400, [(1, 0)])), (226, 11, 11, (0, 396, []))]))])
set_option maxRecDepth 100000 in
theorem p2_s2211_e : ck_ok p2_O none [] [] 250 [] 288 p2_s2211 = true := by decide +kernel
theorem p2_s2211_s {X : Int → Int} {LX : Nat} : ck_Ok p2_O X LX 250 p2_s2211 := ck_ok_s ⟨p2_nmu, ck_E0⟩ ck_X0 ck_l0 p2_s2211_e
set_option maxRecDepth 100000 in
/-- GlacierMailModel.isWord -/
def p2_s2212 : ck_Sum := ((6, 0, 0), 245, [.inr (.inr (.inl 226)), .inr (.inr (.inr 62))], ([], [], [(226, 9, 9, (0, 400, [(1, 0)]))]), ([], []), [(.inr (some (.inl (ck_one 0))), 245, ([], [], [])), (.inr (some (.inl (ck_one 1))), 245, ([], [], [(226, 9, 9, (2, 400, [(1, 0)])), (226, 11, 11, (0, 398, []))]))])
set_option maxRecDepth 100000 in
theorem p2_s2212_e : ck_ok p2_O none [] [] 250 [] 200 p2_s2212 = true := by decide +kernel
theorem p2_s2212_s {X : Int → Int} {LX : Nat} : ck_Ok p2_O X LX 250 p2_s2212 := ck_ok_s ⟨p2_nmu, ck_E0⟩ ck_X0 ck_l0 p2_s2212_e
set_option maxRecDepth 100000 in
/-- GlacierMailModel.isNext -/
def p2_s2213 : ck_Sum := ((7, 0, 0), 245, [.inr (.inr (.inl 226)), .inr (.inr (.inr 62))], ([], [], [(226, 9, 9, (0, 400, [(1, 0)]))]), ([(226, 9, 9), (226, 11, 11)], []), [(.inr (some (.inl (ck_one 0))), 245, ([], [], [(226, 9, 9, (0, 400, [(1000001, 0)])), (226, 11, 11, (0, 400, [(1000001, 0)]))])), (.inr (some (.inl (ck_one 1))), 245, ([], [], [(226, 9, 9, (2, 400, [(1000001, 0)])), (226, 11, 11, (0, 398, []))]))])
set_option maxRecDepth 100000 in
theorem p2_s2213_e : ck_ok p2_O none [] [(248, [p2_s170]), (250, [p2_s2212])] 269 [] 94 p2_s2213 = true := by decide +kernel
theorem p2_s2213_s {X : Int → Int} {LX : Nat} : ck_Ok p2_O X LX 269 p2_s2213 := ck_ok_s ⟨p2_nmu, ck_E1 (ck_S1 p2_s170_s ck_S0) (ck_E1 (ck_S1 p2_s2212_s ck_S0) ck_E0)⟩ ck_X0 ck_l0 p2_s2213_e
set_option maxRecDepth 100000 in
/-- GlacierMailModel.isAt -/
def p2_s2214 : ck_Sum := ((0, 0, 0), 245, [.inr (.inr (.inl 226)), .inl (ck_one 40), .inl (ck_one 40)], ([], [], [(226, 9, 9, (0, 400, [(1, 0)]))]), ([], []), [(.inr (some (.inl (ck_one 0))), 245, ([], [], [])), (.inr (some (.inl (ck_one 1))), 245, ([], [], [(226, 10, 10, (1, 400, [])), (226, 9, 9, (0, 399, [(1, 0)]))]))])
set_option maxRecDepth 100000 in
theorem p2_s2214_e : ck_ok p2_O none [] [] 246 [] 114 p2_s2214 = true := by decide +kernel
theorem p2_s2214_s {X : Int → Int} {LX : Nat} : ck_Ok p2_O X LX 246 p2_s2214 := ck_ok_s ⟨p2_nmu, ck_E0⟩ ck_X0 ck_l0 p2_s2214_e
set_option maxRecDepth 100000 in
/-- GlacierMailModel.sign -/
def p2_s2215 : ck_Sum := ((2, 0, 0), 245, [.inr (.inr (.inl 226)), .inl (ck_one 40)], ([], [], [(226, 9, 9, (0, 400, [(1, 0)]))]), ([(226, 9, 9), (226, 11, 11)], []), [(.inr (some (.inl (ck_one 0))), 245, ([], [], [(226, 11, 11, (0, 400, [(1000001, 0)])), (226, 9, 9, (0, 400, [(1000001, 0)]))])), (.inr (some (.inl (ck_one 1))), 245, ([], [], [(226, 9, 9, (1, 400, [(1000001, 1)])), (226, 10, 10, (1, 400, [])), (226, 11, 11, (0, 400, [(1000001, 0)]))]))])
set_option maxRecDepth 100000 in
theorem p2_s2215_e : ck_ok p2_O none [] [(245, [p2_s168]), (246, [p2_s2214])] 278 [] 100 p2_s2215 = true := by decide +kernel
theorem p2_s2215_s {X : Int → Int} {LX : Nat} : ck_Ok p2_O X LX 278 p2_s2215 := ck_ok_s ⟨p2_nmu, ck_E1 (ck_S1 p2_s168_s ck_S0) (ck_E1 (ck_S1 p2_s2214_s ck_S0) ck_E0)⟩ ck_X0 ck_l0 p2_s2215_e
set_option maxRecDepth 100000 in
/-- GlacierMailModel.isAt -/
def p2_s2246 : ck_Sum := ((0, 0, 0), 245, [.inr (.inr (.inl 226)), .inl (ck_one 60), .inl (ck_one 60)], ([], [], [(226, 9, 9, (0, 400, [(1, 0)]))]), ([], []), [(.inr (some (.inl (ck_one 0))), 245, ([], [], [])), (.inr (some (.inl (ck_one 1))), 245, ([], [], [(226, 10, 10, (1, 400, [])), (226, 9, 9, (0, 399, [(1, 0)]))]))])
set_option maxRecDepth 100000 in
theorem p2_s2246_e : ck_ok p2_O none [] [] 246 [] 114 p2_s2246 = true := by decide +kernel
theorem p2_s2246_s {X : Int → Int} {LX : Nat} : ck_Ok p2_O X LX 246 p2_s2246 := ck_ok_s ⟨p2_nmu, ck_E0⟩ ck_X0 ck_l0 p2_s2246_e
set_option maxRecDepth 100000 in
/-- GlacierMailModel.sign -/
def p2_s2247 : ck_Sum := ((2, 0, 0), 245, [.inr (.inr (.inl 226)), .inl (ck_one 60)], ([], [], [(226, 9, 9, (0, 400, [(1, 0)]))]), ([(226, 9, 9), (226, 11, 11)], []), [(.inr (some (.inl (ck_one 0))), 245, ([], [], [(226, 11, 11, (0, 400, [(1000001, 0)])), (226, 9, 9, (0, 400, [(1000001, 0)]))])), (.inr (some (.inl (ck_one 1))), 245, ([], [], [(226, 9, 9, (1, 400, [(1000001, 1)])), (226, 10, 10, (1, 400, [])), (226, 11, 11, (0, 400, [(1000001, 0)]))]))])
set_option maxRecDepth 100000 in
theorem p2_s2247_e : ck_ok p2_O none [] [(245, [p2_s168]), (246, [p2_s2246])] 278 [] 100 p2_s2247 = true := by decide +kernel
theorem p2_s2247_s {X : Int → Int} {LX : Nat} : ck_Ok p2_O X LX 278 p2_s2247 := ck_ok_s ⟨p2_nmu, ck_E1 (ck_S1 p2_s168_s ck_S0) (ck_E1 (ck_S1 p2_s2246_s ck_S0) ck_E0)⟩ ck_X0 ck_l0 p2_s2247_e
set_option maxRecDepth 100000 in
/-- GlacierMailModel.isAt -/
def p2_s2248 : ck_Sum := ((0, 0, 0), 245, [.inr (.inr (.inl 226)), .inl (ck_one 62), .inl (ck_one 62)], ([], [], [(226, 9, 9, (0, 400, [(1, 0)]))]), ([], []), [(.inr (some (.inl (ck_one 0))), 245, ([], [], [])), (.inr (some (.inl (ck_one 1))), 245, ([], [], [(226, 10, 10, (1, 400, [])), (226, 9, 9, (0, 399, [(1, 0)]))]))])
set_option maxRecDepth 100000 in
theorem p2_s2248_e : ck_ok p2_O none [] [] 246 [] 114 p2_s2248 = true := by decide +kernel
theorem p2_s2248_s {X : Int → Int} {LX : Nat} : ck_Ok p2_O X LX 246 p2_s2248 := ck_ok_s ⟨p2_nmu, ck_E0⟩ ck_X0 ck_l0 p2_s2248_e
set_option maxRecDepth 100000 in
/-- GlacierMailModel.sign -/
def p2_s2249 : ck_Sum := ((2, 0, 0), 245, [.inr (.inr (.inl 226)), .inl (ck_one 62)], ([], [], [(226, 9, 9, (0, 400, [(1, 0)]))]), ([(226, 9, 9), (226, 11, 11)], []), [(.inr (some (.inl (ck_one 0))), 245, ([], [], [(226, 11, 11, (0, 400, [(1000001, 0)])), (226, 9, 9, (0, 400, [(1000001, 0)]))])), (.inr (some (.inl (ck_one 1))), 245, ([], [], [(226, 9, 9, (1, 400, [(1000001, 1)])), (226, 10, 10, (1, 400, [])), (226, 11, 11, (0, 400, [(1000001, 0)]))]))])
set_option maxRecDepth 100000 in
theorem p2_s2249_e : ck_ok p2_O none [] [(245, [p2_s168]), (246, [p2_s2248])] 278 [] 100 p2_s2249 = true := by decide +kernel
theorem p2_s2249_s {X : Int → Int} {LX : Nat} : ck_Ok p2_O X LX 278 p2_s2249 := ck_ok_s ⟨p2_nmu, ck_E1 (ck_S1 p2_s168_s ck_S0) (ck_E1 (ck_S1 p2_s2248_s ck_S0) ck_E0)⟩ ck_X0 ck_l0 p2_s2249_e
set_option maxRecDepth 100000 in
/-- GlacierMailModel.isAt -/
def p2_s2264 : ck_Sum := ((0, 0, 0), 245, [.inr (.inr (.inl 226)), .inl (ck_one 41), .inl (ck_one 41)], ([], [], [(226, 9, 9, (0, 400, [(1, 0)]))]), ([], []), [(.inr (some (.inl (ck_one 0))), 245, ([], [], [])), (.inr (some (.inl (ck_one 1))), 245, ([], [], [(226, 10, 10, (1, 400, [])), (226, 9, 9, (0, 399, [(1, 0)]))]))])
set_option maxRecDepth 100000 in
theorem p2_s2264_e : ck_ok p2_O none [] [] 246 [] 114 p2_s2264 = true := by decide +kernel
theorem p2_s2264_s {X : Int → Int} {LX : Nat} : ck_Ok p2_O X LX 246 p2_s2264 := ck_ok_s ⟨p2_nmu, ck_E0⟩ ck_X0 ck_l0 p2_s2264_e
