/-! EVERY CALL ENDS, whatever was done before (laid by wip/am/p2g.py). -/
set_option maxRecDepth 100000 in
/-- GlacierMailModel.ofLetter -/
def p2_s1117 : ck_Sum := ((0, 0, 0), 245, [.inr (.inr (.inl 226)), .inl (ck_one 15), .inl (ck_one 1)], ([], [], []), ([], []), [(.inr (some (.inl (ck_one (-1)))), 245, ([], [], [(227, 225, 225, ck_one (-1))])), (.inr (some (.inl (0, 7, []))), 245, ([], [], [(227, 225, 225, (0, 7, []))]))])
set_option maxRecDepth 100000 in
theorem p2_s1117_e : ck_ok p2_O none [] [] 301 [] 92 p2_s1117 = true := by decide +kernel
theorem p2_s1117_s {X : Int → Int} {LX : Nat} : ck_Ok p2_O X LX 301 p2_s1117 := ck_ok_s ⟨p2_nmu, ck_E0⟩ ck_X0 ck_l0 p2_s1117_e
set_option maxRecDepth 100000 in
/-- GlacierMailModel.ofLetter -/
def p2_s1120 : ck_Sum := ((0, 0, 0), 245, [.inr (.inr (.inl 226)), .inl (ck_one 15), .inl (ck_one 3)], ([], [], []), ([], []), [(.inr (some (.inl (0, 299, []))), 245, ([], [], []))])
set_option maxRecDepth 100000 in
theorem p2_s1120_e : ck_ok p2_O none [] [] 301 [] 92 p2_s1120 = true := by decide +kernel
theorem p2_s1120_s {X : Int → Int} {LX : Nat} : ck_Ok p2_O X LX 301 p2_s1120 := ck_ok_s ⟨p2_nmu, ck_E0⟩ ck_X0 ck_l0 p2_s1120_e
set_option maxRecDepth 100000 in
/-- GlacierMailModel.in -/
def p2_s1122 : ck_Sum := ((0, 0, 0), 245, [.inl (ck_one 16), .inl (ck_one 0), .inl ((-1), 23, [])], ([], [], []), ([], []), [(.inr (some (.inl (ck_one 0))), 245, ([], [], [])), (.inr (some (.inl (ck_one 1))), 245, ([], [], []))])
set_option maxRecDepth 100000 in
theorem p2_s1122_e : ck_ok p2_O none [] [] 286 [] 88 p2_s1122 = true := by decide +kernel
theorem p2_s1122_s {X : Int → Int} {LX : Nat} : ck_Ok p2_O X LX 286 p2_s1122 := ck_ok_s ⟨p2_nmu, ck_E0⟩ ck_X0 ck_l0 p2_s1122_e
set_option maxRecDepth 100000 in
/-- GlacierMailModel.noLetter -/
def p2_s1123 : ck_Sum := ((1, 0, 0), 245, [.inr (.inr (.inl 226)), .inl (ck_one 16)], ([], [], [(227, 4, 4, (0, 24, [(22, 0)]))]), ([], []), [(.inr (some (.inl (ck_one 1))), 245, ([], [], [])), (.inr (some (.inl (ck_one 0))), 245, ([], [], []))])
set_option maxRecDepth 100000 in
theorem p2_s1123_e : ck_ok p2_O none [] [(254, [p2_s196]), (286, [p2_s1122])] 309 [] 92 p2_s1123 = true := by decide +kernel
theorem p2_s1123_s {X : Int → Int} {LX : Nat} : ck_Ok p2_O X LX 309 p2_s1123 := ck_ok_s ⟨p2_nmu, ck_E1 (ck_S1 p2_s196_s ck_S0) (ck_E1 (ck_S1 p2_s1122_s ck_S0) ck_E0)⟩ ck_X0 ck_l0 p2_s1123_e
set_option maxRecDepth 100000 in
/-- GlacierMailModel.ofLetter -/
def p2_s1124 : ck_Sum := ((0, 0, 0), 245, [.inr (.inr (.inl 226)), .inl (ck_one 16), .inl (ck_one 0)], ([], [], []), ([], []), [(.inr (some (.inl (ck_one (-1)))), 245, ([], [], [(227, 231, 231, ck_one (-1))])), (.inr (some (.inl (0, 7, []))), 245, ([], [], [(227, 231, 231, (0, 7, []))]))])
set_option maxRecDepth 100000 in
theorem p2_s1124_e : ck_ok p2_O none [] [] 301 [] 92 p2_s1124 = true := by decide +kernel
theorem p2_s1124_s {X : Int → Int} {LX : Nat} : ck_Ok p2_O X LX 301 p2_s1124 := ck_ok_s ⟨p2_nmu, ck_E0⟩ ck_X0 ck_l0 p2_s1124_e
set_option maxRecDepth 100000 in
/-- GlacierMailModel.isRock -/
def p2_s1125 : ck_Sum := ((1, 0, 0), 245, [.inr (.inr (.inl 226)), .inl (ck_one 16)], ([], [], []), ([], []), [(.inr (some (.inl (ck_one 1))), 245, ([], [], [(227, 231, 231, ck_one (-1))])), (.inr (some (.inl (ck_one 0))), 245, ([], [], [(227, 231, 231, (0, 7, []))]))])
set_option maxRecDepth 100000 in
theorem p2_s1125_e : ck_ok p2_O none [] [(301, [p2_s1124])] 303 [] 86 p2_s1125 = true := by decide +kernel
theorem p2_s1125_s {X : Int → Int} {LX : Nat} : ck_Ok p2_O X LX 303 p2_s1125 := ck_ok_s ⟨p2_nmu, ck_E1 (ck_S1 p2_s1124_s ck_S0) ck_E0⟩ ck_X0 ck_l0 p2_s1125_e
set_option maxRecDepth 100000 in
/-- GlacierMailModel.ofLetter -/
def p2_s1126 : ck_Sum := ((0, 0, 0), 245, [.inr (.inr (.inl 226)), .inl (ck_one 16), .inl (ck_one 5)], ([], [], []), ([], []), [(.inr (some (.inl (ck_one (-1)))), 245, ([], [], [(227, 236, 236, ck_one (-1))])), (.inr (some (.inl (0, 7, []))), 245, ([], [], [(227, 236, 236, (0, 7, []))]))])
set_option maxRecDepth 100000 in
theorem p2_s1126_e : ck_ok p2_O none [] [] 301 [] 92 p2_s1126 = true := by decide +kernel
theorem p2_s1126_s {X : Int → Int} {LX : Nat} : ck_Ok p2_O X LX 301 p2_s1126 := ck_ok_s ⟨p2_nmu, ck_E0⟩ ck_X0 ck_l0 p2_s1126_e
set_option maxRecDepth 100000 in
/-- GlacierMailModel.ofLetter -/
def p2_s1128 : ck_Sum := ((0, 0, 0), 245, [.inr (.inr (.inl 226)), .inl (ck_one 16), .inl (ck_one 1)], ([], [], []), ([], []), [(.inr (some (.inl (ck_one (-1)))), 245, ([], [], [(227, 232, 232, ck_one (-1))])), (.inr (some (.inl (0, 7, []))), 245, ([], [], [(227, 232, 232, (0, 7, []))]))])
set_option maxRecDepth 100000 in
theorem p2_s1128_e : ck_ok p2_O none [] [] 301 [] 92 p2_s1128 = true := by decide +kernel
theorem p2_s1128_s {X : Int → Int} {LX : Nat} : ck_Ok p2_O X LX 301 p2_s1128 := ck_ok_s ⟨p2_nmu, ck_E0⟩ ck_X0 ck_l0 p2_s1128_e
set_option maxRecDepth 100000 in
/-- GlacierMailModel.ofLetter -/
def p2_s1131 : ck_Sum := ((0, 0, 0), 245, [.inr (.inr (.inl 226)), .inl (ck_one 16), .inl (ck_one 3)], ([], [], []), ([], []), [(.inr (some (.inl (0, 299, []))), 245, ([], [], []))])
set_option maxRecDepth 100000 in
theorem p2_s1131_e : ck_ok p2_O none [] [] 301 [] 92 p2_s1131 = true := by decide +kernel
theorem p2_s1131_s {X : Int → Int} {LX : Nat} : ck_Ok p2_O X LX 301 p2_s1131 := ck_ok_s ⟨p2_nmu, ck_E0⟩ ck_X0 ck_l0 p2_s1131_e
set_option maxRecDepth 100000 in
/-- GlacierMailModel.in -/
def p2_s1133 : ck_Sum := ((0, 0, 0), 245, [.inl (ck_one 17), .inl (ck_one 0), .inl ((-1), 23, [])], ([], [], []), ([], []), [(.inr (some (.inl (ck_one 0))), 245, ([], [], [])), (.inr (some (.inl (ck_one 1))), 245, ([], [], []))])
set_option maxRecDepth 100000 in
theorem p2_s1133_e : ck_ok p2_O none [] [] 286 [] 88 p2_s1133 = true := by decide +kernel
theorem p2_s1133_s {X : Int → Int} {LX : Nat} : ck_Ok p2_O X LX 286 p2_s1133 := ck_ok_s ⟨p2_nmu, ck_E0⟩ ck_X0 ck_l0 p2_s1133_e
set_option maxRecDepth 100000 in
/-- GlacierMailModel.noLetter -/
def p2_s1134 : ck_Sum := ((1, 0, 0), 245, [.inr (.inr (.inl 226)), .inl (ck_one 17)], ([], [], [(227, 4, 4, (0, 24, [(22, 0)]))]), ([], []), [(.inr (some (.inl (ck_one 1))), 245, ([], [], [])), (.inr (some (.inl (ck_one 0))), 245, ([], [], []))])
set_option maxRecDepth 100000 in
theorem p2_s1134_e : ck_ok p2_O none [] [(254, [p2_s196]), (286, [p2_s1133])] 309 [] 92 p2_s1134 = true := by decide +kernel
theorem p2_s1134_s {X : Int → Int} {LX : Nat} : ck_Ok p2_O X LX 309 p2_s1134 := ck_ok_s ⟨p2_nmu, ck_E1 (ck_S1 p2_s196_s ck_S0) (ck_E1 (ck_S1 p2_s1133_s ck_S0) ck_E0)⟩ ck_X0 ck_l0 p2_s1134_e
set_option maxRecDepth 100000 in
/-- GlacierMailModel.ofLetter -/
def p2_s1135 : ck_Sum := ((0, 0, 0), 245, [.inr (.inr (.inl 226)), .inl (ck_one 17), .inl (ck_one 0)], ([], [], []), ([], []), [(.inr (some (.inl (ck_one (-1)))), 245, ([], [], [(227, 238, 238, ck_one (-1))])), (.inr (some (.inl (0, 7, []))), 245, ([], [], [(227, 238, 238, (0, 7, []))]))])
set_option maxRecDepth 100000 in
theorem p2_s1135_e : ck_ok p2_O none [] [] 301 [] 92 p2_s1135 = true := by decide +kernel
theorem p2_s1135_s {X : Int → Int} {LX : Nat} : ck_Ok p2_O X LX 301 p2_s1135 := ck_ok_s ⟨p2_nmu, ck_E0⟩ ck_X0 ck_l0 p2_s1135_e
set_option maxRecDepth 100000 in
/-- GlacierMailModel.isRock -/
def p2_s1136 : ck_Sum := ((1, 0, 0), 245, [.inr (.inr (.inl 226)), .inl (ck_one 17)], ([], [], []), ([], []), [(.inr (some (.inl (ck_one 1))), 245, ([], [], [(227, 238, 238, ck_one (-1))])), (.inr (some (.inl (ck_one 0))), 245, ([], [], [(227, 238, 238, (0, 7, []))]))])
set_option maxRecDepth 100000 in
theorem p2_s1136_e : ck_ok p2_O none [] [(301, [p2_s1135])] 303 [] 86 p2_s1136 = true := by decide +kernel
theorem p2_s1136_s {X : Int → Int} {LX : Nat} : ck_Ok p2_O X LX 303 p2_s1136 := ck_ok_s ⟨p2_nmu, ck_E1 (ck_S1 p2_s1135_s ck_S0) ck_E0⟩ ck_X0 ck_l0 p2_s1136_e
set_option maxRecDepth 100000 in
/-- GlacierMailModel.ofLetter -/
def p2_s1137 : ck_Sum := ((0, 0, 0), 245, [.inr (.inr (.inl 226)), .inl (ck_one 17), .inl (ck_one 5)], ([], [], []), ([], []), [(.inr (some (.inl (ck_one (-1)))), 245, ([], [], [(227, 243, 243, ck_one (-1))])), (.inr (some (.inl (0, 7, []))), 245, ([], [], [(227, 243, 243, (0, 7, []))]))])
set_option maxRecDepth 100000 in
theorem p2_s1137_e : ck_ok p2_O none [] [] 301 [] 92 p2_s1137 = true := by decide +kernel
theorem p2_s1137_s {X : Int → Int} {LX : Nat} : ck_Ok p2_O X LX 301 p2_s1137 := ck_ok_s ⟨p2_nmu, ck_E0⟩ ck_X0 ck_l0 p2_s1137_e
set_option maxRecDepth 100000 in
/-- GlacierMailModel.ofLetter -/
def p2_s1139 : ck_Sum := ((0, 0, 0), 245, [.inr (.inr (.inl 226)), .inl (ck_one 17), .inl (ck_one 1)], ([], [], []), ([], []), [(.inr (some (.inl (ck_one (-1)))), 245, ([], [], [(227, 239, 239, ck_one (-1))])), (.inr (some (.inl (0, 7, []))), 245, ([], [], [(227, 239, 239, (0, 7, []))]))])
set_option maxRecDepth 100000 in
theorem p2_s1139_e : ck_ok p2_O none [] [] 301 [] 92 p2_s1139 = true := by decide +kernel
theorem p2_s1139_s {X : Int → Int} {LX : Nat} : ck_Ok p2_O X LX 301 p2_s1139 := ck_ok_s ⟨p2_nmu, ck_E0⟩ ck_X0 ck_l0 p2_s1139_e
set_option maxRecDepth 100000 in
/-- GlacierMailModel.ofLetter -/
def p2_s1142 : ck_Sum := ((0, 0, 0), 245, [.inr (.inr (.inl 226)), .inl (ck_one 17), .inl (ck_one 3)], ([], [], []), ([], []), [(.inr (some (.inl (0, 299, []))), 245, ([], [], []))])
set_option maxRecDepth 100000 in
theorem p2_s1142_e : ck_ok p2_O none [] [] 301 [] 92 p2_s1142 = true := by decide +kernel
theorem p2_s1142_s {X : Int → Int} {LX : Nat} : ck_Ok p2_O X LX 301 p2_s1142 := ck_ok_s ⟨p2_nmu, ck_E0⟩ ck_X0 ck_l0 p2_s1142_e
set_option maxRecDepth 100000 in
/-- GlacierMailModel.in -/
def p2_s1144 : ck_Sum := ((0, 0, 0), 245, [.inl (ck_one 18), .inl (ck_one 0), .inl ((-1), 23, [])], ([], [], []), ([], []), [(.inr (some (.inl (ck_one 0))), 245, ([], [], [])), (.inr (some (.inl (ck_one 1))), 245, ([], [], []))])
set_option maxRecDepth 100000 in
theorem p2_s1144_e : ck_ok p2_O none [] [] 286 [] 88 p2_s1144 = true := by decide +kernel
theorem p2_s1144_s {X : Int → Int} {LX : Nat} : ck_Ok p2_O X LX 286 p2_s1144 := ck_ok_s ⟨p2_nmu, ck_E0⟩ ck_X0 ck_l0 p2_s1144_e
set_option maxRecDepth 100000 in
/-- GlacierMailModel.noLetter -/
def p2_s1145 : ck_Sum := ((1, 0, 0), 245, [.inr (.inr (.inl 226)), .inl (ck_one 18)], ([], [], [(227, 4, 4, (0, 24, [(22, 0)]))]), ([], []), [(.inr (some (.inl (ck_one 1))), 245, ([], [], [])), (.inr (some (.inl (ck_one 0))), 245, ([], [], []))])
set_option maxRecDepth 100000 in
theorem p2_s1145_e : ck_ok p2_O none [] [(254, [p2_s196]), (286, [p2_s1144])] 309 [] 92 p2_s1145 = true := by decide +kernel
theorem p2_s1145_s {X : Int → Int} {LX : Nat} : ck_Ok p2_O X LX 309 p2_s1145 := ck_ok_s ⟨p2_nmu, ck_E1 (ck_S1 p2_s196_s ck_S0) (ck_E1 (ck_S1 p2_s1144_s ck_S0) ck_E0)⟩ ck_X0 ck_l0 p2_s1145_e
set_option maxRecDepth 100000 in
/-- GlacierMailModel.ofLetter -/
def p2_s1146 : ck_Sum := ((0, 0, 0), 245, [.inr (.inr (.inl 226)), .inl (ck_one 18), .inl (ck_one 0)], ([], [], []), ([], []), [(.inr (some (.inl (ck_one (-1)))), 245, ([], [], [(227, 245, 245, ck_one (-1))])), (.inr (some (.inl (0, 7, []))), 245, ([], [], [(227, 245, 245, (0, 7, []))]))])
set_option maxRecDepth 100000 in
theorem p2_s1146_e : ck_ok p2_O none [] [] 301 [] 92 p2_s1146 = true := by decide +kernel
theorem p2_s1146_s {X : Int → Int} {LX : Nat} : ck_Ok p2_O X LX 301 p2_s1146 := ck_ok_s ⟨p2_nmu, ck_E0⟩ ck_X0 ck_l0 p2_s1146_e
set_option maxRecDepth 100000 in
/-- GlacierMailModel.isRock -/
def p2_s1147 : ck_Sum := ((1, 0, 0), 245, [.inr (.inr (.inl 226)), .inl (ck_one 18)], ([], [], []), ([], []), [(.inr (some (.inl (ck_one 1))), 245, ([], [], [(227, 245, 245, ck_one (-1))])), (.inr (some (.inl (ck_one 0))), 245, ([], [], [(227, 245, 245, (0, 7, []))]))])
set_option maxRecDepth 100000 in
theorem p2_s1147_e : ck_ok p2_O none [] [(301, [p2_s1146])] 303 [] 86 p2_s1147 = true := by decide +kernel
theorem p2_s1147_s {X : Int → Int} {LX : Nat} : ck_Ok p2_O X LX 303 p2_s1147 := ck_ok_s ⟨p2_nmu, ck_E1 (ck_S1 p2_s1146_s ck_S0) ck_E0⟩ ck_X0 ck_l0 p2_s1147_e
set_option maxRecDepth 100000 in
/-- GlacierMailModel.ofLetter -/
def p2_s1148 : ck_Sum := ((0, 0, 0), 245, [.inr (.inr (.inl 226)), .inl (ck_one 18), .inl (ck_one 5)], ([], [], []), ([], []), [(.inr (some (.inl (ck_one (-1)))), 245, ([], [], [(227, 250, 250, ck_one (-1))])), (.inr (some (.inl (0, 7, []))), 245, ([], [], [(227, 250, 250, (0, 7, []))]))])
set_option maxRecDepth 100000 in
theorem p2_s1148_e : ck_ok p2_O none [] [] 301 [] 92 p2_s1148 = true := by decide +kernel
theorem p2_s1148_s {X : Int → Int} {LX : Nat} : ck_Ok p2_O X LX 301 p2_s1148 := ck_ok_s ⟨p2_nmu, ck_E0⟩ ck_X0 ck_l0 p2_s1148_e
set_option maxRecDepth 100000 in
/-- GlacierMailModel.ofLetter -/
def p2_s1150 : ck_Sum := ((0, 0, 0), 245, [.inr (.inr (.inl 226)), .inl (ck_one 18), .inl (ck_one 1)], ([], [], []), ([], []), [(.inr (some (.inl (ck_one (-1)))), 245, ([], [], [(227, 246, 246, ck_one (-1))])), (.inr (some (.inl (0, 7, []))), 245, ([], [], [(227, 246, 246, (0, 7, []))]))])
set_option maxRecDepth 100000 in
theorem p2_s1150_e : ck_ok p2_O none [] [] 301 [] 92 p2_s1150 = true := by decide +kernel
theorem p2_s1150_s {X : Int → Int} {LX : Nat} : ck_Ok p2_O X LX 301 p2_s1150 := ck_ok_s ⟨p2_nmu, ck_E0⟩ ck_X0 ck_l0 p2_s1150_e
set_option maxRecDepth 100000 in
/-- GlacierMailModel.ofLetter -/
def p2_s1153 : ck_Sum := ((0, 0, 0), 245, [.inr (.inr (.inl 226)), .inl (ck_one 18), .inl (ck_one 3)], ([], [], []), ([], []), [(.inr (some (.inl (0, 299, []))), 245, ([], [], []))])
set_option maxRecDepth 100000 in
theorem p2_s1153_e : ck_ok p2_O none [] [] 301 [] 92 p2_s1153 = true := by decide +kernel
theorem p2_s1153_s {X : Int → Int} {LX : Nat} : ck_Ok p2_O X LX 301 p2_s1153 := ck_ok_s ⟨p2_nmu, ck_E0⟩ ck_X0 ck_l0 p2_s1153_e
set_option maxRecDepth 100000 in
/-- GlacierMailModel.in -/
def p2_s1155 : ck_Sum := ((0, 0, 0), 245, [.inl (ck_one 19), .inl (ck_one 0), .inl ((-1), 23, [])], ([], [], []), ([], []), [(.inr (some (.inl (ck_one 0))), 245, ([], [], [])), (.inr (some (.inl (ck_one 1))), 245, ([], [], []))])
set_option maxRecDepth 100000 in
theorem p2_s1155_e : ck_ok p2_O none [] [] 286 [] 88 p2_s1155 = true := by decide +kernel
theorem p2_s1155_s {X : Int → Int} {LX : Nat} : ck_Ok p2_O X LX 286 p2_s1155 := ck_ok_s ⟨p2_nmu, ck_E0⟩ ck_X0 ck_l0 p2_s1155_e
set_option maxRecDepth 100000 in
/-- GlacierMailModel.noLetter -/
def p2_s1156 : ck_Sum := ((1, 0, 0), 245, [.inr (.inr (.inl 226)), .inl (ck_one 19)], ([], [], [(227, 4, 4, (0, 24, [(22, 0)]))]), ([], []), [(.inr (some (.inl (ck_one 1))), 245, ([], [], [])), (.inr (some (.inl (ck_one 0))), 245, ([], [], []))])
set_option maxRecDepth 100000 in
theorem p2_s1156_e : ck_ok p2_O none [] [(254, [p2_s196]), (286, [p2_s1155])] 309 [] 92 p2_s1156 = true := by decide +kernel
theorem p2_s1156_s {X : Int → Int} {LX : Nat} : ck_Ok p2_O X LX 309 p2_s1156 := ck_ok_s ⟨p2_nmu, ck_E1 (ck_S1 p2_s196_s ck_S0) (ck_E1 (ck_S1 p2_s1155_s ck_S0) ck_E0)⟩ ck_X0 ck_l0 p2_s1156_e
set_option maxRecDepth 100000 in
/-- GlacierMailModel.ofLetter -/
def p2_s1157 : ck_Sum := ((0, 0, 0), 245, [.inr (.inr (.inl 226)), .inl (ck_one 19), .inl (ck_one 0)], ([], [], []), ([], []), [(.inr (some (.inl (ck_one (-1)))), 245, ([], [], [(227, 252, 252, ck_one (-1))])), (.inr (some (.inl (0, 7, []))), 245, ([], [], [(227, 252, 252, (0, 7, []))]))])
set_option maxRecDepth 100000 in
theorem p2_s1157_e : ck_ok p2_O none [] [] 301 [] 92 p2_s1157 = true := by decide +kernel
theorem p2_s1157_s {X : Int → Int} {LX : Nat} : ck_Ok p2_O X LX 301 p2_s1157 := ck_ok_s ⟨p2_nmu, ck_E0⟩ ck_X0 ck_l0 p2_s1157_e
set_option maxRecDepth 100000 in
/-- GlacierMailModel.isRock -/
def p2_s1158 : ck_Sum := ((1, 0, 0), 245, [.inr (.inr (.inl 226)), .inl (ck_one 19)], ([], [], []), ([], []), [(.inr (some (.inl (ck_one 1))), 245, ([], [], [(227, 252, 252, ck_one (-1))])), (.inr (some (.inl (ck_one 0))), 245, ([], [], [(227, 252, 252, (0, 7, []))]))])
set_option maxRecDepth 100000 in
theorem p2_s1158_e : ck_ok p2_O none [] [(301, [p2_s1157])] 303 [] 86 p2_s1158 = true := by decide +kernel
theorem p2_s1158_s {X : Int → Int} {LX : Nat} : ck_Ok p2_O X LX 303 p2_s1158 := ck_ok_s ⟨p2_nmu, ck_E1 (ck_S1 p2_s1157_s ck_S0) ck_E0⟩ ck_X0 ck_l0 p2_s1158_e
set_option maxRecDepth 100000 in
/-- GlacierMailModel.ofLetter -/
def p2_s1159 : ck_Sum := ((0, 0, 0), 245, [.inr (.inr (.inl 226)), .inl (ck_one 19), .inl (ck_one 5)], ([], [], []), ([], []), [(.inr (some (.inl (ck_one (-1)))), 245, ([], [], [(227, 257, 257, ck_one (-1))])), (.inr (some (.inl (0, 7, []))), 245, ([], [], [(227, 257, 257, (0, 7, []))]))])
set_option maxRecDepth 100000 in
theorem p2_s1159_e : ck_ok p2_O none [] [] 301 [] 92 p2_s1159 = true := by decide +kernel
theorem p2_s1159_s {X : Int → Int} {LX : Nat} : ck_Ok p2_O X LX 301 p2_s1159 := ck_ok_s ⟨p2_nmu, ck_E0⟩ ck_X0 ck_l0 p2_s1159_e
set_option maxRecDepth 100000 in
/-- GlacierMailModel.ofLetter -/
def p2_s1161 : ck_Sum := ((0, 0, 0), 245, [.inr (.inr (.inl 226)), .inl (ck_one 19), .inl (ck_one 1)], ([], [], []), ([], []), [(.inr (some (.inl (ck_one (-1)))), 245, ([], [], [(227, 253, 253, ck_one (-1))])), (.inr (some (.inl (0, 7, []))), 245, ([], [], [(227, 253, 253, (0, 7, []))]))])
set_option maxRecDepth 100000 in
theorem p2_s1161_e : ck_ok p2_O none [] [] 301 [] 92 p2_s1161 = true := by decide +kernel
theorem p2_s1161_s {X : Int → Int} {LX : Nat} : ck_Ok p2_O X LX 301 p2_s1161 := ck_ok_s ⟨p2_nmu, ck_E0⟩ ck_X0 ck_l0 p2_s1161_e
set_option maxRecDepth 100000 in
/-- GlacierMailModel.ofLetter -/
def p2_s1164 : ck_Sum := ((0, 0, 0), 245, [.inr (.inr (.inl 226)), .inl (ck_one 19), .inl (ck_one 3)], ([], [], []), ([], []), [(.inr (some (.inl (0, 299, []))), 245, ([], [], []))])
set_option maxRecDepth 100000 in
theorem p2_s1164_e : ck_ok p2_O none [] [] 301 [] 92 p2_s1164 = true := by decide +kernel
theorem p2_s1164_s {X : Int → Int} {LX : Nat} : ck_Ok p2_O X LX 301 p2_s1164 := ck_ok_s ⟨p2_nmu, ck_E0⟩ ck_X0 ck_l0 p2_s1164_e
set_option maxRecDepth 100000 in
/-- GlacierMailModel.in -/
def p2_s1166 : ck_Sum := ((0, 0, 0), 245, [.inl (ck_one 20), .inl (ck_one 0), .inl ((-1), 23, [])], ([], [], []), ([], []), [(.inr (some (.inl (ck_one 0))), 245, ([], [], [])), (.inr (some (.inl (ck_one 1))), 245, ([], [], []))])
set_option maxRecDepth 100000 in
theorem p2_s1166_e : ck_ok p2_O none [] [] 286 [] 88 p2_s1166 = true := by decide +kernel
theorem p2_s1166_s {X : Int → Int} {LX : Nat} : ck_Ok p2_O X LX 286 p2_s1166 := ck_ok_s ⟨p2_nmu, ck_E0⟩ ck_X0 ck_l0 p2_s1166_e
set_option maxRecDepth 100000 in
/-- GlacierMailModel.noLetter -/
def p2_s1167 : ck_Sum := ((1, 0, 0), 245, [.inr (.inr (.inl 226)), .inl (ck_one 20)], ([], [], [(227, 4, 4, (0, 24, [(22, 0)]))]), ([], []), [(.inr (some (.inl (ck_one 1))), 245, ([], [], [])), (.inr (some (.inl (ck_one 0))), 245, ([], [], []))])
set_option maxRecDepth 100000 in
theorem p2_s1167_e : ck_ok p2_O none [] [(254, [p2_s196]), (286, [p2_s1166])] 309 [] 92 p2_s1167 = true := by decide +kernel
theorem p2_s1167_s {X : Int → Int} {LX : Nat} : ck_Ok p2_O X LX 309 p2_s1167 := ck_ok_s ⟨p2_nmu, ck_E1 (ck_S1 p2_s196_s ck_S0) (ck_E1 (ck_S1 p2_s1166_s ck_S0) ck_E0)⟩ ck_X0 ck_l0 p2_s1167_e
set_option maxRecDepth 100000 in
/-- GlacierMailModel.ofLetter -/
def p2_s1168 : ck_Sum := ((0, 0, 0), 245, [.inr (.inr (.inl 226)), .inl (ck_one 20), .inl (ck_one 0)], ([], [], []), ([], []), [(.inr (some (.inl (ck_one (-1)))), 245, ([], [], [(227, 259, 259, ck_one (-1))])), (.inr (some (.inl (0, 7, []))), 245, ([], [], [(227, 259, 259, (0, 7, []))]))])
set_option maxRecDepth 100000 in
theorem p2_s1168_e : ck_ok p2_O none [] [] 301 [] 92 p2_s1168 = true := by decide +kernel
theorem p2_s1168_s {X : Int → Int} {LX : Nat} : ck_Ok p2_O X LX 301 p2_s1168 := ck_ok_s ⟨p2_nmu, ck_E0⟩ ck_X0 ck_l0 p2_s1168_e
set_option maxRecDepth 100000 in
/-- GlacierMailModel.isRock -/
def p2_s1169 : ck_Sum := ((1, 0, 0), 245, [.inr (.inr (.inl 226)), .inl (ck_one 20)], ([], [], []), ([], []), [(.inr (some (.inl (ck_one 1))), 245, ([], [], [(227, 259, 259, ck_one (-1))])), (.inr (some (.inl (ck_one 0))), 245, ([], [], [(227, 259, 259, (0, 7, []))]))])
set_option maxRecDepth 100000 in
theorem p2_s1169_e : ck_ok p2_O none [] [(301, [p2_s1168])] 303 [] 86 p2_s1169 = true := by decide +kernel
theorem p2_s1169_s {X : Int → Int} {LX : Nat} : ck_Ok p2_O X LX 303 p2_s1169 := ck_ok_s ⟨p2_nmu, ck_E1 (ck_S1 p2_s1168_s ck_S0) ck_E0⟩ ck_X0 ck_l0 p2_s1169_e
set_option maxRecDepth 100000 in
/-- GlacierMailModel.ofLetter -/
def p2_s1170 : ck_Sum := ((0, 0, 0), 245, [.inr (.inr (.inl 226)), .inl (ck_one 20), .inl (ck_one 5)], ([], [], []), ([], []), [(.inr (some (.inl (ck_one (-1)))), 245, ([], [], [(227, 264, 264, ck_one (-1))])), (.inr (some (.inl (0, 7, []))), 245, ([], [], [(227, 264, 264, (0, 7, []))]))])
set_option maxRecDepth 100000 in
theorem p2_s1170_e : ck_ok p2_O none [] [] 301 [] 92 p2_s1170 = true := by decide +kernel
theorem p2_s1170_s {X : Int → Int} {LX : Nat} : ck_Ok p2_O X LX 301 p2_s1170 := ck_ok_s ⟨p2_nmu, ck_E0⟩ ck_X0 ck_l0 p2_s1170_e
set_option maxRecDepth 100000 in
/-- GlacierMailModel.ofLetter -/
def p2_s1172 : ck_Sum := ((0, 0, 0), 245, [.inr (.inr (.inl 226)), .inl (ck_one 20), .inl (ck_one 1)], ([], [], []), ([], []), [(.inr (some (.inl (ck_one (-1)))), 245, ([], [], [(227, 260, 260, ck_one (-1))])), (.inr (some (.inl (0, 7, []))), 245, ([], [], [(227, 260, 260, (0, 7, []))]))])
set_option maxRecDepth 100000 in
theorem p2_s1172_e : ck_ok p2_O none [] [] 301 [] 92 p2_s1172 = true := by decide +kernel
theorem p2_s1172_s {X : Int → Int} {LX : Nat} : ck_Ok p2_O X LX 301 p2_s1172 := ck_ok_s ⟨p2_nmu, ck_E0⟩ ck_X0 ck_l0 p2_s1172_e
set_option maxRecDepth 100000 in
/-- GlacierMailModel.ofLetter -/
def p2_s1175 : ck_Sum := ((0, 0, 0), 245, [.inr (.inr (.inl 226)), .inl (ck_one 20), .inl (ck_one 3)], ([], [], []), ([], []), [(.inr (some (.inl (0, 299, []))), 245, ([], [], []))])
set_option maxRecDepth 100000 in
theorem p2_s1175_e : ck_ok p2_O none [] [] 301 [] 92 p2_s1175 = true := by decide +kernel
theorem p2_s1175_s {X : Int → Int} {LX : Nat} : ck_Ok p2_O X LX 301 p2_s1175 := ck_ok_s ⟨p2_nmu, ck_E0⟩ ck_X0 ck_l0 p2_s1175_e
set_option maxRecDepth 100000 in
/-- GlacierMailModel.in -/
def p2_s1177 : ck_Sum := ((0, 0, 0), 245, [.inl (ck_one 21), .inl (ck_one 0), .inl ((-1), 23, [])], ([], [], []), ([], []), [(.inr (some (.inl (ck_one 0))), 245, ([], [], [])), (.inr (some (.inl (ck_one 1))), 245, ([], [], []))])
set_option maxRecDepth 100000 in
theorem p2_s1177_e : ck_ok p2_O none [] [] 286 [] 88 p2_s1177 = true := by decide +kernel
theorem p2_s1177_s {X : Int → Int} {LX : Nat} : ck_Ok p2_O X LX 286 p2_s1177 := ck_ok_s ⟨p2_nmu, ck_E0⟩ ck_X0 ck_l0 p2_s1177_e
set_option maxRecDepth 100000 in
/-- GlacierMailModel.noLetter -/
def p2_s1178 : ck_Sum := ((1, 0, 0), 245, [.inr (.inr (.inl 226)), .inl (ck_one 21)], ([], [], [(227, 4, 4, (0, 24, [(22, 0)]))]), ([], []), [(.inr (some (.inl (ck_one 1))), 245, ([], [], [])), (.inr (some (.inl (ck_one 0))), 245, ([], [], []))])
set_option maxRecDepth 100000 in
theorem p2_s1178_e : ck_ok p2_O none [] [(254, [p2_s196]), (286, [p2_s1177])] 309 [] 92 p2_s1178 = true := by decide +kernel
theorem p2_s1178_s {X : Int → Int} {LX : Nat} : ck_Ok p2_O X LX 309 p2_s1178 := ck_ok_s ⟨p2_nmu, ck_E1 (ck_S1 p2_s196_s ck_S0) (ck_E1 (ck_S1 p2_s1177_s ck_S0) ck_E0)⟩ ck_X0 ck_l0 p2_s1178_e
set_option maxRecDepth 100000 in
/-- GlacierMailModel.ofLetter -/
def p2_s1179 : ck_Sum := ((0, 0, 0), 245, [.inr (.inr (.inl 226)), .inl (ck_one 21), .inl (ck_one 0)], ([], [], []), ([], []), [(.inr (some (.inl (ck_one (-1)))), 245, ([], [], [(227, 266, 266, ck_one (-1))])), (.inr (some (.inl (0, 7, []))), 245, ([], [], [(227, 266, 266, (0, 7, []))]))])
set_option maxRecDepth 100000 in
theorem p2_s1179_e : ck_ok p2_O none [] [] 301 [] 92 p2_s1179 = true := by decide +kernel
theorem p2_s1179_s {X : Int → Int} {LX : Nat} : ck_Ok p2_O X LX 301 p2_s1179 := ck_ok_s ⟨p2_nmu, ck_E0⟩ ck_X0 ck_l0 p2_s1179_e
set_option maxRecDepth 100000 in
/-- GlacierMailModel.isRock -/
def p2_s1180 : ck_Sum := ((1, 0, 0), 245, [.inr (.inr (.inl 226)), .inl (ck_one 21)], ([], [], []), ([], []), [(.inr (some (.inl (ck_one 1))), 245, ([], [], [(227, 266, 266, ck_one (-1))])), (.inr (some (.inl (ck_one 0))), 245, ([], [], [(227, 266, 266, (0, 7, []))]))])
set_option maxRecDepth 100000 in
theorem p2_s1180_e : ck_ok p2_O none [] [(301, [p2_s1179])] 303 [] 86 p2_s1180 = true := by decide +kernel
theorem p2_s1180_s {X : Int → Int} {LX : Nat} : ck_Ok p2_O X LX 303 p2_s1180 := ck_ok_s ⟨p2_nmu, ck_E1 (ck_S1 p2_s1179_s ck_S0) ck_E0⟩ ck_X0 ck_l0 p2_s1180_e
set_option maxRecDepth 100000 in
/-- GlacierMailModel.ofLetter -/
def p2_s1181 : ck_Sum := ((0, 0, 0), 245, [.inr (.inr (.inl 226)), .inl (ck_one 21), .inl (ck_one 5)], ([], [], []), ([], []), [(.inr (some (.inl (ck_one (-1)))), 245, ([], [], [(227, 271, 271, ck_one (-1))])), (.inr (some (.inl (0, 7, []))), 245, ([], [], [(227, 271, 271, (0, 7, []))]))])
set_option maxRecDepth 100000 in
theorem p2_s1181_e : ck_ok p2_O none [] [] 301 [] 92 p2_s1181 = true := by decide +kernel
theorem p2_s1181_s {X : Int → Int} {LX : Nat} : ck_Ok p2_O X LX 301 p2_s1181 := ck_ok_s ⟨p2_nmu, ck_E0⟩ ck_X0 ck_l0 p2_s1181_e
set_option maxRecDepth 100000 in
/-- GlacierMailModel.ofLetter -/
def p2_s1183 : ck_Sum := ((0, 0, 0), 245, [.inr (.inr (.inl 226)), .inl (ck_one 21), .inl (ck_one 1)], ([], [], []), ([], []), [(.inr (some (.inl (ck_one (-1)))), 245, ([], [], [(227, 267, 267, ck_one (-1))])), (.inr (some (.inl (0, 7, []))), 245, ([], [], [(227, 267, 267, (0, 7, []))]))])
set_option maxRecDepth 100000 in
theorem p2_s1183_e : ck_ok p2_O none [] [] 301 [] 92 p2_s1183 = true := by decide +kernel
theorem p2_s1183_s {X : Int → Int} {LX : Nat} : ck_Ok p2_O X LX 301 p2_s1183 := ck_ok_s ⟨p2_nmu, ck_E0⟩ ck_X0 ck_l0 p2_s1183_e
set_option maxRecDepth 100000 in
/-- GlacierMailModel.ofLetter -/
def p2_s1186 : ck_Sum := ((0, 0, 0), 245, [.inr (.inr (.inl 226)), .inl (ck_one 21), .inl (ck_one 3)], ([], [], []), ([], []), [(.inr (some (.inl (0, 299, []))), 245, ([], [], []))])
set_option maxRecDepth 100000 in
theorem p2_s1186_e : ck_ok p2_O none [] [] 301 [] 92 p2_s1186 = true := by decide +kernel
theorem p2_s1186_s {X : Int → Int} {LX : Nat} : ck_Ok p2_O X LX 301 p2_s1186 := ck_ok_s ⟨p2_nmu, ck_E0⟩ ck_X0 ck_l0 p2_s1186_e
set_option maxRecDepth 100000 in
/-- GlacierMailModel.in -/
def p2_s1188 : ck_Sum := ((0, 0, 0), 245, [.inl (ck_one 22), .inl (ck_one 0), .inl ((-1), 23, [])], ([], [], []), ([], []), [(.inr (some (.inl (ck_one 0))), 245, ([], [], [])), (.inr (some (.inl (ck_one 1))), 245, ([], [], []))])
set_option maxRecDepth 100000 in
theorem p2_s1188_e : ck_ok p2_O none [] [] 286 [] 88 p2_s1188 = true := by decide +kernel
theorem p2_s1188_s {X : Int → Int} {LX : Nat} : ck_Ok p2_O X LX 286 p2_s1188 := ck_ok_s ⟨p2_nmu, ck_E0⟩ ck_X0 ck_l0 p2_s1188_e
set_option maxRecDepth 100000 in
/-- GlacierMailModel.noLetter -/
def p2_s1189 : ck_Sum := ((1, 0, 0), 245, [.inr (.inr (.inl 226)), .inl (ck_one 22)], ([], [], [(227, 4, 4, (0, 24, [(22, 0)]))]), ([], []), [(.inr (some (.inl (ck_one 1))), 245, ([], [], [])), (.inr (some (.inl (ck_one 0))), 245, ([], [], []))])
set_option maxRecDepth 100000 in
theorem p2_s1189_e : ck_ok p2_O none [] [(254, [p2_s196]), (286, [p2_s1188])] 309 [] 92 p2_s1189 = true := by decide +kernel
theorem p2_s1189_s {X : Int → Int} {LX : Nat} : ck_Ok p2_O X LX 309 p2_s1189 := ck_ok_s ⟨p2_nmu, ck_E1 (ck_S1 p2_s196_s ck_S0) (ck_E1 (ck_S1 p2_s1188_s ck_S0) ck_E0)⟩ ck_X0 ck_l0 p2_s1189_e
set_option maxRecDepth 100000 in
/-- GlacierMailModel.ofLetter -/
def p2_s1190 : ck_Sum := ((0, 0, 0), 245, [.inr (.inr (.inl 226)), .inl (ck_one 22), .inl (ck_one 0)], ([], [], []), ([], []), [(.inr (some (.inl (ck_one (-1)))), 245, ([], [], [(227, 273, 273, ck_one (-1))])), (.inr (some (.inl (0, 7, []))), 245, ([], [], [(227, 273, 273, (0, 7, []))]))])
set_option maxRecDepth 100000 in
theorem p2_s1190_e : ck_ok p2_O none [] [] 301 [] 92 p2_s1190 = true := by decide +kernel
theorem p2_s1190_s {X : Int → Int} {LX : Nat} : ck_Ok p2_O X LX 301 p2_s1190 := ck_ok_s ⟨p2_nmu, ck_E0⟩ ck_X0 ck_l0 p2_s1190_e
set_option maxRecDepth 100000 in
/-- GlacierMailModel.isRock -/
def p2_s1191 : ck_Sum := ((1, 0, 0), 245, [.inr (.inr (.inl 226)), .inl (ck_one 22)], ([], [], []), ([], []), [(.inr (some (.inl (ck_one 1))), 245, ([], [], [(227, 273, 273, ck_one (-1))])), (.inr (some (.inl (ck_one 0))), 245, ([], [], [(227, 273, 273, (0, 7, []))]))])
set_option maxRecDepth 100000 in
theorem p2_s1191_e : ck_ok p2_O none [] [(301, [p2_s1190])] 303 [] 86 p2_s1191 = true := by decide +kernel
theorem p2_s1191_s {X : Int → Int} {LX : Nat} : ck_Ok p2_O X LX 303 p2_s1191 := ck_ok_s ⟨p2_nmu, ck_E1 (ck_S1 p2_s1190_s ck_S0) ck_E0⟩ ck_X0 ck_l0 p2_s1191_e
set_option maxRecDepth 100000 in
/-- GlacierMailModel.ofLetter -/
def p2_s1192 : ck_Sum := ((0, 0, 0), 245, [.inr (.inr (.inl 226)), .inl (ck_one 22), .inl (ck_one 5)], ([], [], []), ([], []), [(.inr (some (.inl (ck_one (-1)))), 245, ([], [], [(227, 278, 278, ck_one (-1))])), (.inr (some (.inl (0, 7, []))), 245, ([], [], [(227, 278, 278, (0, 7, []))]))])
set_option maxRecDepth 100000 in
theorem p2_s1192_e : ck_ok p2_O none [] [] 301 [] 92 p2_s1192 = true := by decide +kernel
theorem p2_s1192_s {X : Int → Int} {LX : Nat} : ck_Ok p2_O X LX 301 p2_s1192 := ck_ok_s ⟨p2_nmu, ck_E0⟩ ck_X0 ck_l0 p2_s1192_e
set_option maxRecDepth 100000 in
/-- GlacierMailModel.ofLetter -/
def p2_s1194 : ck_Sum := ((0, 0, 0), 245, [.inr (.inr (.inl 226)), .inl (ck_one 22), .inl (ck_one 1)], ([], [], []), ([], []), [(.inr (some (.inl (ck_one (-1)))), 245, ([], [], [(227, 274, 274, ck_one (-1))])), (.inr (some (.inl (0, 7, []))), 245, ([], [], [(227, 274, 274, (0, 7, []))]))])
set_option maxRecDepth 100000 in
theorem p2_s1194_e : ck_ok p2_O none [] [] 301 [] 92 p2_s1194 = true := by decide +kernel
theorem p2_s1194_s {X : Int → Int} {LX : Nat} : ck_Ok p2_O X LX 301 p2_s1194 := ck_ok_s ⟨p2_nmu, ck_E0⟩ ck_X0 ck_l0 p2_s1194_e
set_option maxRecDepth 100000 in
/-- GlacierMailModel.ofLetter -/
def p2_s1197 : ck_Sum := ((0, 0, 0), 245, [.inr (.inr (.inl 226)), .inl (ck_one 22), .inl (ck_one 3)], ([], [], []), ([], []), [(.inr (some (.inl (0, 299, []))), 245, ([], [], []))])
set_option maxRecDepth 100000 in
theorem p2_s1197_e : ck_ok p2_O none [] [] 301 [] 92 p2_s1197 = true := by decide +kernel
theorem p2_s1197_s {X : Int → Int} {LX : Nat} : ck_Ok p2_O X LX 301 p2_s1197 := ck_ok_s ⟨p2_nmu, ck_E0⟩ ck_X0 ck_l0 p2_s1197_e
set_option maxRecDepth 100000 in
/-- GlacierMailModel.in -/
def p2_s1199 : ck_Sum := ((0, 0, 0), 245, [.inl (ck_one 23), .inl (ck_one 0), .inl ((-1), 23, [])], ([], [], []), ([], []), [(.inr (some (.inl (ck_one 0))), 245, ([], [], [])), (.inr (some (.inl (ck_one 1))), 245, ([], [], []))])
set_option maxRecDepth 100000 in
theorem p2_s1199_e : ck_ok p2_O none [] [] 286 [] 88 p2_s1199 = true := by decide +kernel
theorem p2_s1199_s {X : Int → Int} {LX : Nat} : ck_Ok p2_O X LX 286 p2_s1199 := ck_ok_s ⟨p2_nmu, ck_E0⟩ ck_X0 ck_l0 p2_s1199_e
set_option maxRecDepth 100000 in
/-- GlacierMailModel.noLetter -/
def p2_s1200 : ck_Sum := ((1, 0, 0), 245, [.inr (.inr (.inl 226)), .inl (ck_one 23)], ([], [], [(227, 4, 4, (0, 24, [(22, 0)]))]), ([], []), [(.inr (some (.inl (ck_one 1))), 245, ([], [], [])), (.inr (some (.inl (ck_one 0))), 245, ([], [], []))])
set_option maxRecDepth 100000 in
theorem p2_s1200_e : ck_ok p2_O none [] [(254, [p2_s196]), (286, [p2_s1199])] 309 [] 92 p2_s1200 = true := by decide +kernel
theorem p2_s1200_s {X : Int → Int} {LX : Nat} : ck_Ok p2_O X LX 309 p2_s1200 := ck_ok_s ⟨p2_nmu, ck_E1 (ck_S1 p2_s196_s ck_S0) (ck_E1 (ck_S1 p2_s1199_s ck_S0) ck_E0)⟩ ck_X0 ck_l0 p2_s1200_e
set_option maxRecDepth 100000 in
/-- GlacierMailModel.ofLetter -/
def p2_s1201 : ck_Sum := ((0, 0, 0), 245, [.inr (.inr (.inl 226)), .inl (ck_one 23), .inl (ck_one 0)], ([], [], []), ([], []), [(.inr (some (.inl (ck_one (-1)))), 245, ([], [], [(227, 280, 280, ck_one (-1))])), (.inr (some (.inl (0, 7, []))), 245, ([], [], [(227, 280, 280, (0, 7, []))]))])
set_option maxRecDepth 100000 in
theorem p2_s1201_e : ck_ok p2_O none [] [] 301 [] 92 p2_s1201 = true := by decide +kernel
theorem p2_s1201_s {X : Int → Int} {LX : Nat} : ck_Ok p2_O X LX 301 p2_s1201 := ck_ok_s ⟨p2_nmu, ck_E0⟩ ck_X0 ck_l0 p2_s1201_e
set_option maxRecDepth 100000 in
/-- GlacierMailModel.isRock -/
def p2_s1202 : ck_Sum := ((1, 0, 0), 245, [.inr (.inr (.inl 226)), .inl (ck_one 23)], ([], [], []), ([], []), [(.inr (some (.inl (ck_one 1))), 245, ([], [], [(227, 280, 280, ck_one (-1))])), (.inr (some (.inl (ck_one 0))), 245, ([], [], [(227, 280, 280, (0, 7, []))]))])
set_option maxRecDepth 100000 in
theorem p2_s1202_e : ck_ok p2_O none [] [(301, [p2_s1201])] 303 [] 86 p2_s1202 = true := by decide +kernel
theorem p2_s1202_s {X : Int → Int} {LX : Nat} : ck_Ok p2_O X LX 303 p2_s1202 := ck_ok_s ⟨p2_nmu, ck_E1 (ck_S1 p2_s1201_s ck_S0) ck_E0⟩ ck_X0 ck_l0 p2_s1202_e
set_option maxRecDepth 100000 in
/-- GlacierMailModel.ofLetter -/
def p2_s1203 : ck_Sum := ((0, 0, 0), 245, [.inr (.inr (.inl 226)), .inl (ck_one 23), .inl (ck_one 5)], ([], [], []), ([], []), [(.inr (some (.inl (ck_one (-1)))), 245, ([], [], [(227, 285, 285, ck_one (-1))])), (.inr (some (.inl (0, 7, []))), 245, ([], [], [(227, 285, 285, (0, 7, []))]))])
set_option maxRecDepth 100000 in
theorem p2_s1203_e : ck_ok p2_O none [] [] 301 [] 92 p2_s1203 = true := by decide +kernel
theorem p2_s1203_s {X : Int → Int} {LX : Nat} : ck_Ok p2_O X LX 301 p2_s1203 := ck_ok_s ⟨p2_nmu, ck_E0⟩ ck_X0 ck_l0 p2_s1203_e
set_option maxRecDepth 100000 in
/-- GlacierMailModel.ofLetter -/
def p2_s1205 : ck_Sum := ((0, 0, 0), 245, [.inr (.inr (.inl 226)), .inl (ck_one 23), .inl (ck_one 1)], ([], [], []), ([], []), [(.inr (some (.inl (ck_one (-1)))), 245, ([], [], [(227, 281, 281, ck_one (-1))])), (.inr (some (.inl (0, 7, []))), 245, ([], [], [(227, 281, 281, (0, 7, []))]))])
set_option maxRecDepth 100000 in
theorem p2_s1205_e : ck_ok p2_O none [] [] 301 [] 92 p2_s1205 = true := by decide +kernel
theorem p2_s1205_s {X : Int → Int} {LX : Nat} : ck_Ok p2_O X LX 301 p2_s1205 := ck_ok_s ⟨p2_nmu, ck_E0⟩ ck_X0 ck_l0 p2_s1205_e
set_option maxRecDepth 100000 in
/-- GlacierMailModel.ofLetter -/
def p2_s1208 : ck_Sum := ((0, 0, 0), 245, [.inr (.inr (.inl 226)), .inl (ck_one 23), .inl (ck_one 3)], ([], [], []), ([], []), [(.inr (some (.inl (0, 299, []))), 245, ([], [], []))])
set_option maxRecDepth 100000 in
theorem p2_s1208_e : ck_ok p2_O none [] [] 301 [] 92 p2_s1208 = true := by decide +kernel
theorem p2_s1208_s {X : Int → Int} {LX : Nat} : ck_Ok p2_O X LX 301 p2_s1208 := ck_ok_s ⟨p2_nmu, ck_E0⟩ ck_X0 ck_l0 p2_s1208_e
set_option maxRecDepth 100000 in
/-- GlacierMail$Ice.mayOpen -/
def p2_s1219 : ck_Sum := ((0, 0, 0), 245, [.inr (.inr (.inl 200)), .inl (0, 7, []), .inl ((-1), 98, []), .inl ((-299), 300, []), .inl ((-2147483648), 299, [])], ([], [(3, 8, 0)], []), ([], []), [(.inr (some (.inl (ck_one 0))), 245, ([], [], []))])
set_option maxRecDepth 100000 in
theorem p2_s1219_e : ck_ok p2_O none [] [] 164 [] 82 p2_s1219 = true := by decide +kernel
theorem p2_s1219_s {X : Int → Int} {LX : Nat} : ck_Ok p2_O X LX 164 p2_s1219 := ck_ok_s ⟨p2_nmu, ck_E0⟩ ck_X0 ck_l0 p2_s1219_e
set_option maxRecDepth 100000 in
/-- GlacierMail.openerOf -/
def p2_s1297 : ck_Sum := ((1, 0, 0), 245, [.inr (.inr (.inl 1)), .inl (0, 23, [])], ([], [(3, 8, 0)], [(3, 6, 6, (0, 299, [(10, 0)]))]), ([], []), [(.inr (some (.inl ((-1), 299, []))), 245, ([], [], []))])
set_option maxRecDepth 100000 in
theorem p2_s1297_e : ck_ok p2_O none [] [(10, [p2_s363, p2_s438, p2_s407]), (9, [p2_s348]), (164, [p2_s1219])] 163 [(69, [some (.inr (.inr (.inl 1))), some (.inl (0, 23, [])), some (.inl ((-1), 299, [])), some (.inl ((-1), 299, [])), some (.inl ((-299), 300, [])), some (.inl (0, 9, []))], ([], [(3, 8, 0)], [(3, 6, 6, (0, 299, [(10, 0)]))]), 100, .inl 5, true)] 234 p2_s1297 = true := by decide +kernel
theorem p2_s1297_s {X : Int → Int} {LX : Nat} : ck_Ok p2_O X LX 163 p2_s1297 := ck_ok_s ⟨p2_nmu, ck_E1 (ck_S1 p2_s363_s (ck_S1 p2_s438_s (ck_S1 p2_s407_s ck_S0))) (ck_E1 (ck_S1 p2_s348_s ck_S0) (ck_E1 (ck_S1 p2_s1219_s ck_S0) ck_E0))⟩ ck_X0 ck_l0 p2_s1297_e
set_option maxRecDepth 100000 in
/-- GlacierMail$Rows.put -/
def p2_s1298 : ck_Sum := ((0, 0, 0), 245, [.inr (.inr (.inl 10)), .inl (0, 23, []), .inl (ck_one 5), .inl (0, 299, [])], ([], [], []), ([(11, 5, 5), (11, 12, 12), (11, 19, 19), (11, 26, 26), (11, 33, 33), (11, 40, 40), (11, 47, 47), (11, 54, 54), (11, 61, 61), (11, 68, 68), (11, 75, 75), (11, 82, 82), (11, 89, 89), (11, 96, 96), (11, 103, 103), (11, 110, 110), (11, 117, 117), (11, 124, 124), (11, 131, 131), (11, 138, 138), (11, 145, 145), (11, 152, 152), (11, 159, 159), (11, 166, 166)], []), [(.inr none, 245, ([], [], []))])
set_option maxRecDepth 100000 in
theorem p2_s1298_e : ck_ok p2_O none [] [] 45 [] 116 p2_s1298 = true := by decide +kernel
theorem p2_s1298_s {X : Int → Int} {LX : Nat} : ck_Ok p2_O X LX 45 p2_s1298 := ck_ok_s ⟨p2_nmu, ck_E0⟩ ck_X0 ck_l0 p2_s1298_e
set_option maxRecDepth 100000 in
/-- GlacierMail$Rows.put -/
def p2_s1299 : ck_Sum := ((0, 0, 0), 245, [.inr (.inr (.inl 10)), .inl (0, 23, []), .inl (ck_one 6), .inl (0, 299, [])], ([], [], []), ([(11, 6, 6), (11, 13, 13), (11, 20, 20), (11, 27, 27), (11, 34, 34), (11, 41, 41), (11, 48, 48), (11, 55, 55), (11, 62, 62), (11, 69, 69), (11, 76, 76), (11, 83, 83), (11, 90, 90), (11, 97, 97), (11, 104, 104), (11, 111, 111), (11, 118, 118), (11, 125, 125), (11, 132, 132), (11, 139, 139), (11, 146, 146), (11, 153, 153), (11, 160, 160), (11, 167, 167)], []), [(.inr none, 245, ([], [], []))])
set_option maxRecDepth 100000 in
theorem p2_s1299_e : ck_ok p2_O none [] [] 45 [] 116 p2_s1299 = true := by decide +kernel
theorem p2_s1299_s {X : Int → Int} {LX : Nat} : ck_Ok p2_O X LX 45 p2_s1299 := ck_ok_s ⟨p2_nmu, ck_E0⟩ ck_X0 ck_l0 p2_s1299_e
set_option maxRecDepth 100000 in
/-- GlacierMail$Rows.put -/
def p2_s1300 : ck_Sum := ((0, 0, 0), 245, [.inr (.inr (.inl 14)), .inl (0, 23, []), .inl (ck_one 1), .inl (0, 23, [])], ([], [], []), ([(15, 1, 1), (15, 4, 4), (15, 7, 7), (15, 10, 10), (15, 13, 13), (15, 16, 16), (15, 19, 19), (15, 22, 22), (15, 25, 25), (15, 28, 28), (15, 31, 31), (15, 34, 34), (15, 37, 37), (15, 40, 40), (15, 43, 43), (15, 46, 46), (15, 49, 49), (15, 52, 52), (15, 55, 55), (15, 58, 58), (15, 61, 61), (15, 64, 64), (15, 67, 67), (15, 70, 70)], []), [(.inr none, 245, ([], [], []))])
set_option maxRecDepth 100000 in
theorem p2_s1300_e : ck_ok p2_O none [] [] 45 [] 116 p2_s1300 = true := by decide +kernel
theorem p2_s1300_s {X : Int → Int} {LX : Nat} : ck_Ok p2_O X LX 45 p2_s1300 := ck_ok_s ⟨p2_nmu, ck_E0⟩ ck_X0 ck_l0 p2_s1300_e
set_option maxRecDepth 100000 in
/-- GlacierMail$Rows.put -/
def p2_s1222 : ck_Sum := ((0, 0, 0), 245, [.inr (.inr (.inl 14)), .inl (0, 23, []), .inl (ck_one 2), .inl (0, 299, [])], ([], [], []), ([(15, 2, 2), (15, 5, 5), (15, 8, 8), (15, 11, 11), (15, 14, 14), (15, 17, 17), (15, 20, 20), (15, 23, 23), (15, 26, 26), (15, 29, 29), (15, 32, 32), (15, 35, 35), (15, 38, 38), (15, 41, 41), (15, 44, 44), (15, 47, 47), (15, 50, 50), (15, 53, 53), (15, 56, 56), (15, 59, 59), (15, 62, 62), (15, 65, 65), (15, 68, 68), (15, 71, 71)], []), [(.inr none, 245, ([], [], []))])
set_option maxRecDepth 100000 in
theorem p2_s1222_e : ck_ok p2_O none [] [] 45 [] 116 p2_s1222 = true := by decide +kernel
theorem p2_s1222_s {X : Int → Int} {LX : Nat} : ck_Ok p2_O X LX 45 p2_s1222 := ck_ok_s ⟨p2_nmu, ck_E0⟩ ck_X0 ck_l0 p2_s1222_e
set_option maxRecDepth 100000 in
/-- GlacierMail$Rows.put -/
def p2_s1301 : ck_Sum := ((0, 0, 0), 245, [.inr (.inr (.inl 14)), .inl (ck_one (-1)), .inl (ck_one 1), .inl (0, 23, [])], ([], [], []), ([], []), [(.inr none, 245, ([], [], []))])
set_option maxRecDepth 100000 in
theorem p2_s1301_e : ck_ok p2_O none [] [] 45 [] 76 p2_s1301 = true := by decide +kernel
theorem p2_s1301_s {X : Int → Int} {LX : Nat} : ck_Ok p2_O X LX 45 p2_s1301 := ck_ok_s ⟨p2_nmu, ck_E0⟩ ck_X0 ck_l0 p2_s1301_e
set_option maxRecDepth 100000 in
/-- GlacierMail$Rows.put -/
def p2_s1223 : ck_Sum := ((0, 0, 0), 245, [.inr (.inr (.inl 14)), .inl (ck_one (-1)), .inl (ck_one 2), .inl (0, 299, [])], ([], [], []), ([], []), [(.inr none, 245, ([], [], []))])
set_option maxRecDepth 100000 in
theorem p2_s1223_e : ck_ok p2_O none [] [] 45 [] 76 p2_s1223 = true := by decide +kernel
theorem p2_s1223_s {X : Int → Int} {LX : Nat} : ck_Ok p2_O X LX 45 p2_s1223 := ck_ok_s ⟨p2_nmu, ck_E0⟩ ck_X0 ck_l0 p2_s1223_e
set_option maxRecDepth 100000 in
/-- GlacierMail$State.openLetter -/
def p2_s1302 : ck_Sum := ((1, 0, 0), 245, [.inr (.inr (.inl 3)), .inl (0, 23, []), .inl (0, 299, [])], ([], [], [(3, 6, 6, (0, 299, [(10, 0)]))]), ([(11, 5, 6), (11, 12, 13), (11, 19, 20), (11, 26, 27), (11, 33, 34), (11, 40, 41), (11, 47, 48), (11, 54, 55), (11, 61, 62), (11, 68, 69), (11, 75, 76), (11, 82, 83), (11, 89, 90), (11, 96, 97), (11, 103, 104), (11, 110, 111), (11, 117, 118), (11, 124, 125), (11, 131, 132), (11, 138, 139), (11, 145, 146), (11, 152, 153), (11, 159, 160), (11, 166, 167), (14, 3, 3), (15, 0, 71)], []), [(.inr none, 245, ([], [], [(14, 3, 3, (1, 24, []))]))])
set_option maxRecDepth 100000 in
theorem p2_s1302_e : ck_ok p2_O none [] [(45, [p2_s1298, p2_s1299, p2_s711, p2_s1300, p2_s1222, p2_s714, p2_s1301, p2_s1223]), (102, [p2_s710])] 159 [] 144 p2_s1302 = true := by decide +kernel
theorem p2_s1302_s {X : Int → Int} {LX : Nat} : ck_Ok p2_O X LX 159 p2_s1302 := ck_ok_s ⟨p2_nmu, ck_E1 (ck_S1 p2_s1298_s (ck_S1 p2_s1299_s (ck_S1 p2_s711_s (ck_S1 p2_s1300_s (ck_S1 p2_s1222_s (ck_S1 p2_s714_s (ck_S1 p2_s1301_s (ck_S1 p2_s1223_s ck_S0)))))))) (ck_E1 (ck_S1 p2_s710_s ck_S0) ck_E0)⟩ ck_X0 ck_l0 p2_s1302_e
set_option maxRecDepth 100000 in
/-- GlacierMail.oneYearMore -/
def p2_s1303 : ck_Sum := ((3, 0, 0), 245, [.inr (.inr (.inl 1))], ([], [(3, 8, 0)], [(3, 6, 6, (0, 298, [(10, 0)]))]), ([(3, 6, 6), (11, 5, 6), (11, 12, 13), (11, 19, 20), (11, 26, 27), (11, 33, 34), (11, 40, 41), (11, 47, 48), (11, 54, 55), (11, 61, 62), (11, 68, 69), (11, 75, 76), (11, 82, 83), (11, 89, 90), (11, 96, 97), (11, 103, 104), (11, 110, 111), (11, 117, 118), (11, 124, 125), (11, 131, 132), (11, 138, 139), (11, 145, 146), (11, 152, 153), (11, 159, 160), (11, 166, 167), (14, 3, 3), (15, 0, 71)], []), [(.inr (some (.inl ((-2147483648), 2147483647, []))), 245, ([], [], [(3, 6, 6, (1, 299, [(10, 1)]))]))])
set_option maxRecDepth 100000 in
theorem p2_s1303_e : ck_ok p2_O none [] [(9, [p2_s359]), (66, [p2_s434]), (163, [p2_s1297]), (159, [p2_s1302])] 162 [(17, [some (.inr (.inr (.inl 1))), some (.inl ((-2147483648), 2147483647, [])), some (.inl (0, 24, [])), none], ([], [(3, 8, 0)], [(3, 6, 6, (1, 299, [(10, 1)]))]), 100, .inl 2, true)] 194 p2_s1303 = true := by decide +kernel
theorem p2_s1303_s {X : Int → Int} {LX : Nat} : ck_Ok p2_O X LX 162 p2_s1303 := ck_ok_s ⟨p2_nmu, ck_E1 (ck_S1 p2_s359_s ck_S0) (ck_E1 (ck_S1 p2_s434_s ck_S0) (ck_E1 (ck_S1 p2_s1297_s ck_S0) (ck_E1 (ck_S1 p2_s1302_s ck_S0) ck_E0)))⟩ ck_X0 ck_l0 p2_s1303_e
set_option maxRecDepth 100000 in
/-- GlacierMailModel.in -/
def p2_s1354 : ck_Sum := ((0, 0, 0), 245, [.inl ((-2147483648), 0, []), .inl (ck_one 1), .inl (ck_one 50)], ([], [], []), ([], []), [(.inr (some (.inl (ck_one 0))), 245, ([], [], []))])
set_option maxRecDepth 100000 in
theorem p2_s1354_e : ck_ok p2_O none [] [] 286 [] 80 p2_s1354 = true := by decide +kernel
theorem p2_s1354_s {X : Int → Int} {LX : Nat} : ck_Ok p2_O X LX 286 p2_s1354 := ck_ok_s ⟨p2_nmu, ck_E0⟩ ck_X0 ck_l0 p2_s1354_e
set_option maxRecDepth 100000 in
/-- GlacierMailModel.years -/
def p2_s1355 : ck_Sum := ((1, 0, 0), 245, [.inr (.inr (.inl 226)), .inl ((-2147483648), 0, [])], ([], [], []), ([(226, 0, 0)], []), [(.inr (some (.inl (ck_one 0))), 245, ([], [], [(226, 0, 0, ck_one 1)]))])
set_option maxRecDepth 100000 in
theorem p2_s1355_e : ck_ok p2_O none [] [(286, [p2_s1354]), (282, [p2_s268])] 320 [] 102 p2_s1355 = true := by decide +kernel
theorem p2_s1355_s {X : Int → Int} {LX : Nat} : ck_Ok p2_O X LX 320 p2_s1355 := ck_ok_s ⟨p2_nmu, ck_E1 (ck_S1 p2_s1354_s ck_S0) (ck_E1 (ck_S1 p2_s268_s ck_S0) ck_E0)⟩ ck_X0 ck_l0 p2_s1355_e
set_option maxRecDepth 100000 in
/-- GlacierMailModel.in -/
def p2_s1356 : ck_Sum := ((0, 0, 0), 245, [.inl (51, 2147483647, []), .inl (ck_one 1), .inl (ck_one 50)], ([], [], []), ([], []), [(.inr (some (.inl (ck_one 0))), 245, ([], [], []))])
set_option maxRecDepth 100000 in
theorem p2_s1356_e : ck_ok p2_O none [] [] 286 [] 86 p2_s1356 = true := by decide +kernel
theorem p2_s1356_s {X : Int → Int} {LX : Nat} : ck_Ok p2_O X LX 286 p2_s1356 := ck_ok_s ⟨p2_nmu, ck_E0⟩ ck_X0 ck_l0 p2_s1356_e
set_option maxRecDepth 100000 in
/-- GlacierMailModel.years -/
def p2_s1357 : ck_Sum := ((1, 0, 0), 245, [.inr (.inr (.inl 226)), .inl (51, 2147483647, [])], ([], [], []), ([(226, 0, 0)], []), [(.inr (some (.inl (ck_one 0))), 245, ([], [], [(226, 0, 0, ck_one 1)]))])
set_option maxRecDepth 100000 in
theorem p2_s1357_e : ck_ok p2_O none [] [(286, [p2_s1356]), (282, [p2_s268])] 320 [] 102 p2_s1357 = true := by decide +kernel
theorem p2_s1357_s {X : Int → Int} {LX : Nat} : ck_Ok p2_O X LX 320 p2_s1357 := ck_ok_s ⟨p2_nmu, ck_E1 (ck_S1 p2_s1356_s ck_S0) (ck_E1 (ck_S1 p2_s268_s ck_S0) ck_E0)⟩ ck_X0 ck_l0 p2_s1357_e
set_option maxRecDepth 100000 in
/-- GlacierMailModel.in -/
def p2_s1358 : ck_Sum := ((0, 0, 0), 245, [.inl (ck_one 1), .inl (ck_one 1), .inl (ck_one 50)], ([], [], []), ([], []), [(.inr (some (.inl (ck_one 1))), 245, ([], [], []))])
set_option maxRecDepth 100000 in
theorem p2_s1358_e : ck_ok p2_O none [] [] 286 [] 88 p2_s1358 = true := by decide +kernel
theorem p2_s1358_s {X : Int → Int} {LX : Nat} : ck_Ok p2_O X LX 286 p2_s1358 := ck_ok_s ⟨p2_nmu, ck_E0⟩ ck_X0 ck_l0 p2_s1358_e
set_option maxRecDepth 100000 in
/-- GlacierMailModel.ofLetter -/
def p2_s1359 : ck_Sum := ((0, 0, 0), 245, [.inr (.inr (.inl 226)), .inl (ck_one 0), .inl (ck_one 2)], ([], [], []), ([], []), [(.inr (some (.inl (0, 6, []))), 245, ([], [], []))])
set_option maxRecDepth 100000 in
theorem p2_s1359_e : ck_ok p2_O none [] [] 301 [] 92 p2_s1359 = true := by decide +kernel
theorem p2_s1359_s {X : Int → Int} {LX : Nat} : ck_Ok p2_O X LX 301 p2_s1359 := ck_ok_s ⟨p2_nmu, ck_E0⟩ ck_X0 ck_l0 p2_s1359_e
set_option maxRecDepth 100000 in
/-- GlacierMailModel.of -/
def p2_s1360 : ck_Sum := ((0, 0, 0), 245, [.inr (.inr (.inl 226)), .inl (ck_one (-1)), .inl (ck_one 2)], ([], [], []), ([], []), [(.inr (some (.inl (0, 20, []))), 245, ([], [], []))])
set_option maxRecDepth 100000 in
theorem p2_s1360_e : ck_ok p2_O none [] [] 299 [] 92 p2_s1360 = true := by decide +kernel
theorem p2_s1360_s {X : Int → Int} {LX : Nat} : ck_Ok p2_O X LX 299 p2_s1360 := ck_ok_s ⟨p2_nmu, ck_E0⟩ ck_X0 ck_l0 p2_s1360_e
set_option maxRecDepth 100000 in
/-- GlacierMailModel.sumOf -/
def p2_s1361 : ck_Sum := ((0, 0, 0), 245, [.inr (.inr (.inl 226)), .inl (ck_one 2)], ([], [], []), ([], []), [(.inr (some (.inl (ck_one 0))), 245, ([], [], []))])
set_option maxRecDepth 100000 in
theorem p2_s1361_e : ck_ok p2_O none [] [] 294 [(4, [some (.inr (.inr (.inl 226))), some (.inl (ck_one 2)), some (.inl (ck_one 0)), some (.inl (ck_one 0))], ([], [], []), 100, .inl 2, true)] 146 p2_s1361 = true := by decide +kernel
theorem p2_s1361_s {X : Int → Int} {LX : Nat} : ck_Ok p2_O X LX 294 p2_s1361 := ck_ok_s ⟨p2_nmu, ck_E0⟩ ck_X0 ck_l0 p2_s1361_e
set_option maxRecDepth 100000 in
/-- GlacierMailModel.mayOpen -/
def p2_s1362 : ck_Sum := ((1, 0, 0), 245, [.inr (.inr (.inl 226)), .inl (0, 7, []), .inl (0, 23, [])], ([], [], [(226, 29, 29, (0, 299, [])), (227, 9, 9, (0, 299, [(11, 0)]))]), ([(226, 17, 23)], []), [(.inr (some (.inl (ck_one 0))), 245, ([], [], [(226, 22, 22, ((-299), 299, [])), (226, 20, 20, ck_one 0), (226, 19, 19, (0, 299, [(11, 0)])), (226, 18, 18, (10, 99, []))]))])
set_option maxRecDepth 100000 in
theorem p2_s1362_e : ck_ok p2_O none [] [(301, [p2_s457, p2_s459]), (259, [p2_s200]), (266, [p2_s207]), (294, [p2_s1361])] 323 [] 154 p2_s1362 = true := by decide +kernel
theorem p2_s1362_s {X : Int → Int} {LX : Nat} : ck_Ok p2_O X LX 323 p2_s1362 := ck_ok_s ⟨p2_nmu, ck_E1 (ck_S1 p2_s457_s (ck_S1 p2_s459_s ck_S0)) (ck_E1 (ck_S1 p2_s200_s ck_S0) (ck_E1 (ck_S1 p2_s207_s ck_S0) (ck_E1 (ck_S1 p2_s1361_s ck_S0) ck_E0)))⟩ ck_X0 ck_l0 p2_s1362_e
set_option maxRecDepth 100000 in
/-- GlacierMailModel.opener -/
def p2_s1363 : ck_Sum := ((2, 0, 0), 245, [.inr (.inr (.inl 226)), .inl (ck_one 0)], ([], [], [(226, 29, 29, (0, 299, [])), (227, 9, 9, (1, 299, [(11, 0)])), (227, 3, 3, (0, 8, [(21, 0)]))]), ([(226, 17, 23)], []), [(.inr (some (.inl (ck_one (-1)))), 245, ([], [], [])), (.inr (some (.inl (0, 7, []))), 245, ([], [], [(227, 120, 120, (0, 7, []))]))])
set_option maxRecDepth 100000 in
theorem p2_s1363_e : ck_ok p2_O none [] [(301, [p2_s1359, p2_s453]), (299, [p2_s1360, p2_s698]), (253, [p2_s214]), (323, [p2_s1362])] 322 [(31, [some (.inr (.inr (.inl 226))), some (.inl (ck_one 0)), some (.inl (0, 6, [])), some (.inl (0, 8, []))], ([], [], [(227, 120, 120, ((-1), 7, [])), (226, 29, 29, (0, 299, [])), (227, 9, 9, (1, 299, [(11, 0)])), (227, 3, 3, (0, 8, [(21, 0)]))]), 100, .inl 3, true)] 166 p2_s1363 = true := by decide +kernel
theorem p2_s1363_s {X : Int → Int} {LX : Nat} : ck_Ok p2_O X LX 322 p2_s1363 := ck_ok_s ⟨p2_nmu, ck_E1 (ck_S1 p2_s1359_s (ck_S1 p2_s453_s ck_S0)) (ck_E1 (ck_S1 p2_s1360_s (ck_S1 p2_s698_s ck_S0)) (ck_E1 (ck_S1 p2_s214_s ck_S0) (ck_E1 (ck_S1 p2_s1362_s ck_S0) ck_E0)))⟩ ck_X0 ck_l0 p2_s1363_e
set_option maxRecDepth 100000 in
/-- GlacierMailModel.ofLetter -/
def p2_s1364 : ck_Sum := ((0, 0, 0), 245, [.inr (.inr (.inl 226)), .inl (ck_one 1), .inl (ck_one 2)], ([], [], []), ([], []), [(.inr (some (.inl (0, 6, []))), 245, ([], [], []))])
set_option maxRecDepth 100000 in
theorem p2_s1364_e : ck_ok p2_O none [] [] 301 [] 92 p2_s1364 = true := by decide +kernel
theorem p2_s1364_s {X : Int → Int} {LX : Nat} : ck_Ok p2_O X LX 301 p2_s1364 := ck_ok_s ⟨p2_nmu, ck_E0⟩ ck_X0 ck_l0 p2_s1364_e
set_option maxRecDepth 100000 in
/-- GlacierMailModel.opener -/
def p2_s1365 : ck_Sum := ((2, 0, 0), 245, [.inr (.inr (.inl 226)), .inl (ck_one 1)], ([], [], [(226, 29, 29, (0, 299, [])), (227, 9, 9, (1, 299, [(11, 0)])), (227, 3, 3, (0, 8, [(21, 0)]))]), ([(226, 17, 23)], []), [(.inr (some (.inl (ck_one (-1)))), 245, ([], [], [])), (.inr (some (.inl (0, 7, []))), 245, ([], [], [(227, 127, 127, (0, 7, []))]))])
set_option maxRecDepth 100000 in
theorem p2_s1365_e : ck_ok p2_O none [] [(301, [p2_s1364, p2_s963]), (299, [p2_s1360, p2_s698]), (253, [p2_s214]), (323, [p2_s1362])] 322 [(31, [some (.inr (.inr (.inl 226))), some (.inl (ck_one 1)), some (.inl (0, 6, [])), some (.inl (0, 8, []))], ([], [], [(227, 127, 127, ((-1), 7, [])), (226, 29, 29, (0, 299, [])), (227, 9, 9, (1, 299, [(11, 0)])), (227, 3, 3, (0, 8, [(21, 0)]))]), 100, .inl 3, true)] 166 p2_s1365 = true := by decide +kernel
theorem p2_s1365_s {X : Int → Int} {LX : Nat} : ck_Ok p2_O X LX 322 p2_s1365 := ck_ok_s ⟨p2_nmu, ck_E1 (ck_S1 p2_s1364_s (ck_S1 p2_s963_s ck_S0)) (ck_E1 (ck_S1 p2_s1360_s (ck_S1 p2_s698_s ck_S0)) (ck_E1 (ck_S1 p2_s214_s ck_S0) (ck_E1 (ck_S1 p2_s1362_s ck_S0) ck_E0)))⟩ ck_X0 ck_l0 p2_s1365_e
set_option maxRecDepth 100000 in
/-- GlacierMailModel.ofLetter -/
def p2_s1366 : ck_Sum := ((0, 0, 0), 245, [.inr (.inr (.inl 226)), .inl (ck_one 2), .inl (ck_one 2)], ([], [], []), ([], []), [(.inr (some (.inl (0, 6, []))), 245, ([], [], []))])
set_option maxRecDepth 100000 in
theorem p2_s1366_e : ck_ok p2_O none [] [] 301 [] 92 p2_s1366 = true := by decide +kernel
theorem p2_s1366_s {X : Int → Int} {LX : Nat} : ck_Ok p2_O X LX 301 p2_s1366 := ck_ok_s ⟨p2_nmu, ck_E0⟩ ck_X0 ck_l0 p2_s1366_e
set_option maxRecDepth 100000 in
/-- GlacierMailModel.opener -/
def p2_s1367 : ck_Sum := ((2, 0, 0), 245, [.inr (.inr (.inl 226)), .inl (ck_one 2)], ([], [], [(226, 29, 29, (0, 299, [])), (227, 9, 9, (1, 299, [(11, 0)])), (227, 3, 3, (0, 8, [(21, 0)]))]), ([(226, 17, 23)], []), [(.inr (some (.inl (ck_one (-1)))), 245, ([], [], [])), (.inr (some (.inl (0, 7, []))), 245, ([], [], [(227, 134, 134, (0, 7, []))]))])
set_option maxRecDepth 100000 in
theorem p2_s1367_e : ck_ok p2_O none [] [(301, [p2_s1366, p2_s974]), (299, [p2_s1360, p2_s698]), (253, [p2_s214]), (323, [p2_s1362])] 322 [(31, [some (.inr (.inr (.inl 226))), some (.inl (ck_one 2)), some (.inl (0, 6, [])), some (.inl (0, 8, []))], ([], [], [(227, 134, 134, ((-1), 7, [])), (226, 29, 29, (0, 299, [])), (227, 9, 9, (1, 299, [(11, 0)])), (227, 3, 3, (0, 8, [(21, 0)]))]), 100, .inl 3, true)] 166 p2_s1367 = true := by decide +kernel
theorem p2_s1367_s {X : Int → Int} {LX : Nat} : ck_Ok p2_O X LX 322 p2_s1367 := ck_ok_s ⟨p2_nmu, ck_E1 (ck_S1 p2_s1366_s (ck_S1 p2_s974_s ck_S0)) (ck_E1 (ck_S1 p2_s1360_s (ck_S1 p2_s698_s ck_S0)) (ck_E1 (ck_S1 p2_s214_s ck_S0) (ck_E1 (ck_S1 p2_s1362_s ck_S0) ck_E0)))⟩ ck_X0 ck_l0 p2_s1367_e
set_option maxRecDepth 100000 in
/-- GlacierMailModel.ofLetter -/
def p2_s1368 : ck_Sum := ((0, 0, 0), 245, [.inr (.inr (.inl 226)), .inl (ck_one 3), .inl (ck_one 2)], ([], [], []), ([], []), [(.inr (some (.inl (0, 6, []))), 245, ([], [], []))])
set_option maxRecDepth 100000 in
theorem p2_s1368_e : ck_ok p2_O none [] [] 301 [] 92 p2_s1368 = true := by decide +kernel
theorem p2_s1368_s {X : Int → Int} {LX : Nat} : ck_Ok p2_O X LX 301 p2_s1368 := ck_ok_s ⟨p2_nmu, ck_E0⟩ ck_X0 ck_l0 p2_s1368_e
set_option maxRecDepth 100000 in
/-- GlacierMailModel.opener -/
def p2_s1369 : ck_Sum := ((2, 0, 0), 245, [.inr (.inr (.inl 226)), .inl (ck_one 3)], ([], [], [(226, 29, 29, (0, 299, [])), (227, 9, 9, (1, 299, [(11, 0)])), (227, 3, 3, (0, 8, [(21, 0)]))]), ([(226, 17, 23)], []), [(.inr (some (.inl (ck_one (-1)))), 245, ([], [], [])), (.inr (some (.inl (0, 7, []))), 245, ([], [], [(227, 141, 141, (0, 7, []))]))])
set_option maxRecDepth 100000 in
theorem p2_s1369_e : ck_ok p2_O none [] [(301, [p2_s1368, p2_s985]), (299, [p2_s1360, p2_s698]), (253, [p2_s214]), (323, [p2_s1362])] 322 [(31, [some (.inr (.inr (.inl 226))), some (.inl (ck_one 3)), some (.inl (0, 6, [])), some (.inl (0, 8, []))], ([], [], [(227, 141, 141, ((-1), 7, [])), (226, 29, 29, (0, 299, [])), (227, 9, 9, (1, 299, [(11, 0)])), (227, 3, 3, (0, 8, [(21, 0)]))]), 100, .inl 3, true)] 166 p2_s1369 = true := by decide +kernel
theorem p2_s1369_s {X : Int → Int} {LX : Nat} : ck_Ok p2_O X LX 322 p2_s1369 := ck_ok_s ⟨p2_nmu, ck_E1 (ck_S1 p2_s1368_s (ck_S1 p2_s985_s ck_S0)) (ck_E1 (ck_S1 p2_s1360_s (ck_S1 p2_s698_s ck_S0)) (ck_E1 (ck_S1 p2_s214_s ck_S0) (ck_E1 (ck_S1 p2_s1362_s ck_S0) ck_E0)))⟩ ck_X0 ck_l0 p2_s1369_e
set_option maxRecDepth 100000 in
/-- GlacierMailModel.ofLetter -/
def p2_s1370 : ck_Sum := ((0, 0, 0), 245, [.inr (.inr (.inl 226)), .inl (ck_one 4), .inl (ck_one 2)], ([], [], []), ([], []), [(.inr (some (.inl (0, 6, []))), 245, ([], [], []))])
set_option maxRecDepth 100000 in
theorem p2_s1370_e : ck_ok p2_O none [] [] 301 [] 92 p2_s1370 = true := by decide +kernel
theorem p2_s1370_s {X : Int → Int} {LX : Nat} : ck_Ok p2_O X LX 301 p2_s1370 := ck_ok_s ⟨p2_nmu, ck_E0⟩ ck_X0 ck_l0 p2_s1370_e
set_option maxRecDepth 100000 in
/-- GlacierMailModel.opener -/
def p2_s1371 : ck_Sum := ((2, 0, 0), 245, [.inr (.inr (.inl 226)), .inl (ck_one 4)], ([], [], [(226, 29, 29, (0, 299, [])), (227, 9, 9, (1, 299, [(11, 0)])), (227, 3, 3, (0, 8, [(21, 0)]))]), ([(226, 17, 23)], []), [(.inr (some (.inl (ck_one (-1)))), 245, ([], [], [])), (.inr (some (.inl (0, 7, []))), 245, ([], [], [(227, 148, 148, (0, 7, []))]))])
set_option maxRecDepth 100000 in
theorem p2_s1371_e : ck_ok p2_O none [] [(301, [p2_s1370, p2_s996]), (299, [p2_s1360, p2_s698]), (253, [p2_s214]), (323, [p2_s1362])] 322 [(31, [some (.inr (.inr (.inl 226))), some (.inl (ck_one 4)), some (.inl (0, 6, [])), some (.inl (0, 8, []))], ([], [], [(227, 148, 148, ((-1), 7, [])), (226, 29, 29, (0, 299, [])), (227, 9, 9, (1, 299, [(11, 0)])), (227, 3, 3, (0, 8, [(21, 0)]))]), 100, .inl 3, true)] 166 p2_s1371 = true := by decide +kernel
theorem p2_s1371_s {X : Int → Int} {LX : Nat} : ck_Ok p2_O X LX 322 p2_s1371 := ck_ok_s ⟨p2_nmu, ck_E1 (ck_S1 p2_s1370_s (ck_S1 p2_s996_s ck_S0)) (ck_E1 (ck_S1 p2_s1360_s (ck_S1 p2_s698_s ck_S0)) (ck_E1 (ck_S1 p2_s214_s ck_S0) (ck_E1 (ck_S1 p2_s1362_s ck_S0) ck_E0)))⟩ ck_X0 ck_l0 p2_s1371_e
set_option maxRecDepth 100000 in
/-- GlacierMailModel.ofLetter -/
def p2_s1372 : ck_Sum := ((0, 0, 0), 245, [.inr (.inr (.inl 226)), .inl (ck_one 5), .inl (ck_one 2)], ([], [], []), ([], []), [(.inr (some (.inl (0, 6, []))), 245, ([], [], []))])
set_option maxRecDepth 100000 in
theorem p2_s1372_e : ck_ok p2_O none [] [] 301 [] 92 p2_s1372 = true := by decide +kernel
theorem p2_s1372_s {X : Int → Int} {LX : Nat} : ck_Ok p2_O X LX 301 p2_s1372 := ck_ok_s ⟨p2_nmu, ck_E0⟩ ck_X0 ck_l0 p2_s1372_e
set_option maxRecDepth 100000 in
/-- GlacierMailModel.opener -/
def p2_s1373 : ck_Sum := ((2, 0, 0), 245, [.inr (.inr (.inl 226)), .inl (ck_one 5)], ([], [], [(226, 29, 29, (0, 299, [])), (227, 9, 9, (1, 299, [(11, 0)])), (227, 3, 3, (0, 8, [(21, 0)]))]), ([(226, 17, 23)], []), [(.inr (some (.inl (ck_one (-1)))), 245, ([], [], [])), (.inr (some (.inl (0, 7, []))), 245, ([], [], [(227, 155, 155, (0, 7, []))]))])
set_option maxRecDepth 100000 in
theorem p2_s1373_e : ck_ok p2_O none [] [(301, [p2_s1372, p2_s1007]), (299, [p2_s1360, p2_s698]), (253, [p2_s214]), (323, [p2_s1362])] 322 [(31, [some (.inr (.inr (.inl 226))), some (.inl (ck_one 5)), some (.inl (0, 6, [])), some (.inl (0, 8, []))], ([], [], [(227, 155, 155, ((-1), 7, [])), (226, 29, 29, (0, 299, [])), (227, 9, 9, (1, 299, [(11, 0)])), (227, 3, 3, (0, 8, [(21, 0)]))]), 100, .inl 3, true)] 166 p2_s1373 = true := by decide +kernel
theorem p2_s1373_s {X : Int → Int} {LX : Nat} : ck_Ok p2_O X LX 322 p2_s1373 := ck_ok_s ⟨p2_nmu, ck_E1 (ck_S1 p2_s1372_s (ck_S1 p2_s1007_s ck_S0)) (ck_E1 (ck_S1 p2_s1360_s (ck_S1 p2_s698_s ck_S0)) (ck_E1 (ck_S1 p2_s214_s ck_S0) (ck_E1 (ck_S1 p2_s1362_s ck_S0) ck_E0)))⟩ ck_X0 ck_l0 p2_s1373_e
set_option maxRecDepth 100000 in
/-- GlacierMailModel.ofLetter -/
def p2_s1374 : ck_Sum := ((0, 0, 0), 245, [.inr (.inr (.inl 226)), .inl (ck_one 6), .inl (ck_one 2)], ([], [], []), ([], []), [(.inr (some (.inl (0, 6, []))), 245, ([], [], []))])
set_option maxRecDepth 100000 in
theorem p2_s1374_e : ck_ok p2_O none [] [] 301 [] 92 p2_s1374 = true := by decide +kernel
theorem p2_s1374_s {X : Int → Int} {LX : Nat} : ck_Ok p2_O X LX 301 p2_s1374 := ck_ok_s ⟨p2_nmu, ck_E0⟩ ck_X0 ck_l0 p2_s1374_e
set_option maxRecDepth 100000 in
/-- GlacierMailModel.opener -/
def p2_s1375 : ck_Sum := ((2, 0, 0), 245, [.inr (.inr (.inl 226)), .inl (ck_one 6)], ([], [], [(226, 29, 29, (0, 299, [])), (227, 9, 9, (1, 299, [(11, 0)])), (227, 3, 3, (0, 8, [(21, 0)]))]), ([(226, 17, 23)], []), [(.inr (some (.inl (ck_one (-1)))), 245, ([], [], [])), (.inr (some (.inl (0, 7, []))), 245, ([], [], [(227, 162, 162, (0, 7, []))]))])
set_option maxRecDepth 100000 in
theorem p2_s1375_e : ck_ok p2_O none [] [(301, [p2_s1374, p2_s1018]), (299, [p2_s1360, p2_s698]), (253, [p2_s214]), (323, [p2_s1362])] 322 [(31, [some (.inr (.inr (.inl 226))), some (.inl (ck_one 6)), some (.inl (0, 6, [])), some (.inl (0, 8, []))], ([], [], [(227, 162, 162, ((-1), 7, [])), (226, 29, 29, (0, 299, [])), (227, 9, 9, (1, 299, [(11, 0)])), (227, 3, 3, (0, 8, [(21, 0)]))]), 100, .inl 3, true)] 166 p2_s1375 = true := by decide +kernel
theorem p2_s1375_s {X : Int → Int} {LX : Nat} : ck_Ok p2_O X LX 322 p2_s1375 := ck_ok_s ⟨p2_nmu, ck_E1 (ck_S1 p2_s1374_s (ck_S1 p2_s1018_s ck_S0)) (ck_E1 (ck_S1 p2_s1360_s (ck_S1 p2_s698_s ck_S0)) (ck_E1 (ck_S1 p2_s214_s ck_S0) (ck_E1 (ck_S1 p2_s1362_s ck_S0) ck_E0)))⟩ ck_X0 ck_l0 p2_s1375_e
set_option maxRecDepth 100000 in
/-- GlacierMailModel.ofLetter -/
def p2_s1376 : ck_Sum := ((0, 0, 0), 245, [.inr (.inr (.inl 226)), .inl (ck_one 7), .inl (ck_one 2)], ([], [], []), ([], []), [(.inr (some (.inl (0, 6, []))), 245, ([], [], []))])
set_option maxRecDepth 100000 in
theorem p2_s1376_e : ck_ok p2_O none [] [] 301 [] 92 p2_s1376 = true := by decide +kernel
theorem p2_s1376_s {X : Int → Int} {LX : Nat} : ck_Ok p2_O X LX 301 p2_s1376 := ck_ok_s ⟨p2_nmu, ck_E0⟩ ck_X0 ck_l0 p2_s1376_e
set_option maxRecDepth 100000 in
/-- GlacierMailModel.opener -/
def p2_s1377 : ck_Sum := ((2, 0, 0), 245, [.inr (.inr (.inl 226)), .inl (ck_one 7)], ([], [], [(226, 29, 29, (0, 299, [])), (227, 9, 9, (1, 299, [(11, 0)])), (227, 3, 3, (0, 8, [(21, 0)]))]), ([(226, 17, 23)], []), [(.inr (some (.inl (ck_one (-1)))), 245, ([], [], [])), (.inr (some (.inl (0, 7, []))), 245, ([], [], [(227, 169, 169, (0, 7, []))]))])
set_option maxRecDepth 100000 in
theorem p2_s1377_e : ck_ok p2_O none [] [(301, [p2_s1376, p2_s1029]), (299, [p2_s1360, p2_s698]), (253, [p2_s214]), (323, [p2_s1362])] 322 [(31, [some (.inr (.inr (.inl 226))), some (.inl (ck_one 7)), some (.inl (0, 6, [])), some (.inl (0, 8, []))], ([], [], [(227, 169, 169, ((-1), 7, [])), (226, 29, 29, (0, 299, [])), (227, 9, 9, (1, 299, [(11, 0)])), (227, 3, 3, (0, 8, [(21, 0)]))]), 100, .inl 3, true)] 166 p2_s1377 = true := by decide +kernel
theorem p2_s1377_s {X : Int → Int} {LX : Nat} : ck_Ok p2_O X LX 322 p2_s1377 := ck_ok_s ⟨p2_nmu, ck_E1 (ck_S1 p2_s1376_s (ck_S1 p2_s1029_s ck_S0)) (ck_E1 (ck_S1 p2_s1360_s (ck_S1 p2_s698_s ck_S0)) (ck_E1 (ck_S1 p2_s214_s ck_S0) (ck_E1 (ck_S1 p2_s1362_s ck_S0) ck_E0)))⟩ ck_X0 ck_l0 p2_s1377_e
set_option maxRecDepth 100000 in
/-- GlacierMailModel.ofLetter -/
def p2_s1378 : ck_Sum := ((0, 0, 0), 245, [.inr (.inr (.inl 226)), .inl (ck_one 8), .inl (ck_one 2)], ([], [], []), ([], []), [(.inr (some (.inl (0, 6, []))), 245, ([], [], []))])
set_option maxRecDepth 100000 in
theorem p2_s1378_e : ck_ok p2_O none [] [] 301 [] 92 p2_s1378 = true := by decide +kernel
theorem p2_s1378_s {X : Int → Int} {LX : Nat} : ck_Ok p2_O X LX 301 p2_s1378 := ck_ok_s ⟨p2_nmu, ck_E0⟩ ck_X0 ck_l0 p2_s1378_e
set_option maxRecDepth 100000 in
/-- GlacierMailModel.opener -/
def p2_s1379 : ck_Sum := ((2, 0, 0), 245, [.inr (.inr (.inl 226)), .inl (ck_one 8)], ([], [], [(226, 29, 29, (0, 299, [])), (227, 9, 9, (1, 299, [(11, 0)])), (227, 3, 3, (0, 8, [(21, 0)]))]), ([(226, 17, 23)], []), [(.inr (some (.inl (ck_one (-1)))), 245, ([], [], [])), (.inr (some (.inl (0, 7, []))), 245, ([], [], [(227, 176, 176, (0, 7, []))]))])
set_option maxRecDepth 100000 in
theorem p2_s1379_e : ck_ok p2_O none [] [(301, [p2_s1378, p2_s1040]), (299, [p2_s1360, p2_s698]), (253, [p2_s214]), (323, [p2_s1362])] 322 [(31, [some (.inr (.inr (.inl 226))), some (.inl (ck_one 8)), some (.inl (0, 6, [])), some (.inl (0, 8, []))], ([], [], [(227, 176, 176, ((-1), 7, [])), (226, 29, 29, (0, 299, [])), (227, 9, 9, (1, 299, [(11, 0)])), (227, 3, 3, (0, 8, [(21, 0)]))]), 100, .inl 3, true)] 166 p2_s1379 = true := by decide +kernel
theorem p2_s1379_s {X : Int → Int} {LX : Nat} : ck_Ok p2_O X LX 322 p2_s1379 := ck_ok_s ⟨p2_nmu, ck_E1 (ck_S1 p2_s1378_s (ck_S1 p2_s1040_s ck_S0)) (ck_E1 (ck_S1 p2_s1360_s (ck_S1 p2_s698_s ck_S0)) (ck_E1 (ck_S1 p2_s214_s ck_S0) (ck_E1 (ck_S1 p2_s1362_s ck_S0) ck_E0)))⟩ ck_X0 ck_l0 p2_s1379_e
set_option maxRecDepth 100000 in
/-- GlacierMailModel.ofLetter -/
def p2_s1380 : ck_Sum := ((0, 0, 0), 245, [.inr (.inr (.inl 226)), .inl (ck_one 9), .inl (ck_one 2)], ([], [], []), ([], []), [(.inr (some (.inl (0, 6, []))), 245, ([], [], []))])
set_option maxRecDepth 100000 in
theorem p2_s1380_e : ck_ok p2_O none [] [] 301 [] 92 p2_s1380 = true := by decide +kernel
theorem p2_s1380_s {X : Int → Int} {LX : Nat} : ck_Ok p2_O X LX 301 p2_s1380 := ck_ok_s ⟨p2_nmu, ck_E0⟩ ck_X0 ck_l0 p2_s1380_e
set_option maxRecDepth 100000 in
/-- GlacierMailModel.opener -/
def p2_s1381 : ck_Sum := ((2, 0, 0), 245, [.inr (.inr (.inl 226)), .inl (ck_one 9)], ([], [], [(226, 29, 29, (0, 299, [])), (227, 9, 9, (1, 299, [(11, 0)])), (227, 3, 3, (0, 8, [(21, 0)]))]), ([(226, 17, 23)], []), [(.inr (some (.inl (ck_one (-1)))), 245, ([], [], [])), (.inr (some (.inl (0, 7, []))), 245, ([], [], [(227, 183, 183, (0, 7, []))]))])
set_option maxRecDepth 100000 in
theorem p2_s1381_e : ck_ok p2_O none [] [(301, [p2_s1380, p2_s1051]), (299, [p2_s1360, p2_s698]), (253, [p2_s214]), (323, [p2_s1362])] 322 [(31, [some (.inr (.inr (.inl 226))), some (.inl (ck_one 9)), some (.inl (0, 6, [])), some (.inl (0, 8, []))], ([], [], [(227, 183, 183, ((-1), 7, [])), (226, 29, 29, (0, 299, [])), (227, 9, 9, (1, 299, [(11, 0)])), (227, 3, 3, (0, 8, [(21, 0)]))]), 100, .inl 3, true)] 166 p2_s1381 = true := by decide +kernel
theorem p2_s1381_s {X : Int → Int} {LX : Nat} : ck_Ok p2_O X LX 322 p2_s1381 := ck_ok_s ⟨p2_nmu, ck_E1 (ck_S1 p2_s1380_s (ck_S1 p2_s1051_s ck_S0)) (ck_E1 (ck_S1 p2_s1360_s (ck_S1 p2_s698_s ck_S0)) (ck_E1 (ck_S1 p2_s214_s ck_S0) (ck_E1 (ck_S1 p2_s1362_s ck_S0) ck_E0)))⟩ ck_X0 ck_l0 p2_s1381_e
set_option maxRecDepth 100000 in
/-- GlacierMailModel.ofLetter -/
def p2_s1382 : ck_Sum := ((0, 0, 0), 245, [.inr (.inr (.inl 226)), .inl (ck_one 10), .inl (ck_one 2)], ([], [], []), ([], []), [(.inr (some (.inl (0, 6, []))), 245, ([], [], []))])
set_option maxRecDepth 100000 in
theorem p2_s1382_e : ck_ok p2_O none [] [] 301 [] 92 p2_s1382 = true := by decide +kernel
theorem p2_s1382_s {X : Int → Int} {LX : Nat} : ck_Ok p2_O X LX 301 p2_s1382 := ck_ok_s ⟨p2_nmu, ck_E0⟩ ck_X0 ck_l0 p2_s1382_e
set_option maxRecDepth 100000 in
/-- GlacierMailModel.opener -/
def p2_s1383 : ck_Sum := ((2, 0, 0), 245, [.inr (.inr (.inl 226)), .inl (ck_one 10)], ([], [], [(226, 29, 29, (0, 299, [])), (227, 9, 9, (1, 299, [(11, 0)])), (227, 3, 3, (0, 8, [(21, 0)]))]), ([(226, 17, 23)], []), [(.inr (some (.inl (ck_one (-1)))), 245, ([], [], [])), (.inr (some (.inl (0, 7, []))), 245, ([], [], [(227, 190, 190, (0, 7, []))]))])
set_option maxRecDepth 100000 in
theorem p2_s1383_e : ck_ok p2_O none [] [(301, [p2_s1382, p2_s1062]), (299, [p2_s1360, p2_s698]), (253, [p2_s214]), (323, [p2_s1362])] 322 [(31, [some (.inr (.inr (.inl 226))), some (.inl (ck_one 10)), some (.inl (0, 6, [])), some (.inl (0, 8, []))], ([], [], [(227, 190, 190, ((-1), 7, [])), (226, 29, 29, (0, 299, [])), (227, 9, 9, (1, 299, [(11, 0)])), (227, 3, 3, (0, 8, [(21, 0)]))]), 100, .inl 3, true)] 166 p2_s1383 = true := by decide +kernel
theorem p2_s1383_s {X : Int → Int} {LX : Nat} : ck_Ok p2_O X LX 322 p2_s1383 := ck_ok_s ⟨p2_nmu, ck_E1 (ck_S1 p2_s1382_s (ck_S1 p2_s1062_s ck_S0)) (ck_E1 (ck_S1 p2_s1360_s (ck_S1 p2_s698_s ck_S0)) (ck_E1 (ck_S1 p2_s214_s ck_S0) (ck_E1 (ck_S1 p2_s1362_s ck_S0) ck_E0)))⟩ ck_X0 ck_l0 p2_s1383_e
set_option maxRecDepth 100000 in
/-- GlacierMailModel.ofLetter -/
def p2_s1384 : ck_Sum := ((0, 0, 0), 245, [.inr (.inr (.inl 226)), .inl (ck_one 11), .inl (ck_one 2)], ([], [], []), ([], []), [(.inr (some (.inl (0, 6, []))), 245, ([], [], []))])
set_option maxRecDepth 100000 in
theorem p2_s1384_e : ck_ok p2_O none [] [] 301 [] 92 p2_s1384 = true := by decide +kernel
theorem p2_s1384_s {X : Int → Int} {LX : Nat} : ck_Ok p2_O X LX 301 p2_s1384 := ck_ok_s ⟨p2_nmu, ck_E0⟩ ck_X0 ck_l0 p2_s1384_e
set_option maxRecDepth 100000 in
/-- GlacierMailModel.opener -/
def p2_s1385 : ck_Sum := ((2, 0, 0), 245, [.inr (.inr (.inl 226)), .inl (ck_one 11)], ([], [], [(226, 29, 29, (0, 299, [])), (227, 9, 9, (1, 299, [(11, 0)])), (227, 3, 3, (0, 8, [(21, 0)]))]), ([(226, 17, 23)], []), [(.inr (some (.inl (ck_one (-1)))), 245, ([], [], [])), (.inr (some (.inl (0, 7, []))), 245, ([], [], [(227, 197, 197, (0, 7, []))]))])
set_option maxRecDepth 100000 in
theorem p2_s1385_e : ck_ok p2_O none [] [(301, [p2_s1384, p2_s1073]), (299, [p2_s1360, p2_s698]), (253, [p2_s214]), (323, [p2_s1362])] 322 [(31, [some (.inr (.inr (.inl 226))), some (.inl (ck_one 11)), some (.inl (0, 6, [])), some (.inl (0, 8, []))], ([], [], [(227, 197, 197, ((-1), 7, [])), (226, 29, 29, (0, 299, [])), (227, 9, 9, (1, 299, [(11, 0)])), (227, 3, 3, (0, 8, [(21, 0)]))]), 100, .inl 3, true)] 166 p2_s1385 = true := by decide +kernel
theorem p2_s1385_s {X : Int → Int} {LX : Nat} : ck_Ok p2_O X LX 322 p2_s1385 := ck_ok_s ⟨p2_nmu, ck_E1 (ck_S1 p2_s1384_s (ck_S1 p2_s1073_s ck_S0)) (ck_E1 (ck_S1 p2_s1360_s (ck_S1 p2_s698_s ck_S0)) (ck_E1 (ck_S1 p2_s214_s ck_S0) (ck_E1 (ck_S1 p2_s1362_s ck_S0) ck_E0)))⟩ ck_X0 ck_l0 p2_s1385_e
