/-! EVERY CALL ENDS, whatever was done before (laid by wip/am/p2g.py). -/
set_option maxRecDepth 100000 in
/-- GlacierMailModel.in -/
def p2_s1134 : ck_Sum := ((0, 0, 0), 245, [.inl (ck_one 16), .inl (ck_one 0), .inl ((-1), 23, [])], ([], [], []), ([], []), [(.inr (some (.inl (ck_one 0))), 245, ([], [], [])), (.inr (some (.inl (ck_one 1))), 245, ([], [], []))])
set_option maxRecDepth 100000 in
theorem p2_s1134_e : ck_ok p2_O none [] [] 286 [] 88 p2_s1134 = true := by decide +kernel
theorem p2_s1134_s {X : Int → Int} {LX : Nat} : ck_Ok p2_O X LX 286 p2_s1134 := ck_ok_s ⟨p2_nmu, ck_E0⟩ ck_X0 ck_l0 p2_s1134_e
set_option maxRecDepth 100000 in
/-- GlacierMailModel.noLetter -/
def p2_s1135 : ck_Sum := ((1, 0, 0), 245, [.inr (.inr (.inl 226)), .inl (ck_one 16)], ([], [], [(227, 4, 4, (0, 24, [(22, 0)]))]), ([], []), [(.inr (some (.inl (ck_one 1))), 245, ([], [], [])), (.inr (some (.inl (ck_one 0))), 245, ([], [], []))])
set_option maxRecDepth 100000 in
theorem p2_s1135_e : ck_ok p2_O none [] [(254, [p2_s196]), (286, [p2_s1134])] 309 [] 92 p2_s1135 = true := by decide +kernel
theorem p2_s1135_s {X : Int → Int} {LX : Nat} : ck_Ok p2_O X LX 309 p2_s1135 := ck_ok_s ⟨p2_nmu, ck_E1 (ck_S1 p2_s196_s ck_S0) (ck_E1 (ck_S1 p2_s1134_s ck_S0) ck_E0)⟩ ck_X0 ck_l0 p2_s1135_e
set_option maxRecDepth 100000 in
/-- GlacierMailModel.ofLetter -/
def p2_s1136 : ck_Sum := ((0, 0, 0), 245, [.inr (.inr (.inl 226)), .inl (ck_one 16), .inl (ck_one 0)], ([], [], []), ([], []), [(.inr (some (.inl (ck_one (-1)))), 245, ([], [], [(227, 231, 231, ck_one (-1))])), (.inr (some (.inl (0, 7, []))), 245, ([], [], [(227, 231, 231, (0, 7, []))]))])
set_option maxRecDepth 100000 in
theorem p2_s1136_e : ck_ok p2_O none [] [] 301 [] 92 p2_s1136 = true := by decide +kernel
theorem p2_s1136_s {X : Int → Int} {LX : Nat} : ck_Ok p2_O X LX 301 p2_s1136 := ck_ok_s ⟨p2_nmu, ck_E0⟩ ck_X0 ck_l0 p2_s1136_e
set_option maxRecDepth 100000 in
/-- GlacierMailModel.isRock -/
def p2_s1137 : ck_Sum := ((1, 0, 0), 245, [.inr (.inr (.inl 226)), .inl (ck_one 16)], ([], [], []), ([], []), [(.inr (some (.inl (ck_one 1))), 245, ([], [], [(227, 231, 231, ck_one (-1))])), (.inr (some (.inl (ck_one 0))), 245, ([], [], [(227, 231, 231, (0, 7, []))]))])
set_option maxRecDepth 100000 in
theorem p2_s1137_e : ck_ok p2_O none [] [(301, [p2_s1136])] 303 [] 86 p2_s1137 = true := by decide +kernel
theorem p2_s1137_s {X : Int → Int} {LX : Nat} : ck_Ok p2_O X LX 303 p2_s1137 := ck_ok_s ⟨p2_nmu, ck_E1 (ck_S1 p2_s1136_s ck_S0) ck_E0⟩ ck_X0 ck_l0 p2_s1137_e
set_option maxRecDepth 100000 in
/-- GlacierMailModel.ofLetter -/
def p2_s1138 : ck_Sum := ((0, 0, 0), 245, [.inr (.inr (.inl 226)), .inl (ck_one 16), .inl (ck_one 5)], ([], [], []), ([], []), [(.inr (some (.inl (ck_one (-1)))), 245, ([], [], [(227, 236, 236, ck_one (-1))])), (.inr (some (.inl (0, 7, []))), 245, ([], [], [(227, 236, 236, (0, 7, []))]))])
set_option maxRecDepth 100000 in
theorem p2_s1138_e : ck_ok p2_O none [] [] 301 [] 92 p2_s1138 = true := by decide +kernel
theorem p2_s1138_s {X : Int → Int} {LX : Nat} : ck_Ok p2_O X LX 301 p2_s1138 := ck_ok_s ⟨p2_nmu, ck_E0⟩ ck_X0 ck_l0 p2_s1138_e
set_option maxRecDepth 100000 in
/-- GlacierMailModel.ofLetter -/
def p2_s1140 : ck_Sum := ((0, 0, 0), 245, [.inr (.inr (.inl 226)), .inl (ck_one 16), .inl (ck_one 1)], ([], [], []), ([], []), [(.inr (some (.inl (ck_one (-1)))), 245, ([], [], [(227, 232, 232, ck_one (-1))])), (.inr (some (.inl (0, 7, []))), 245, ([], [], [(227, 232, 232, (0, 7, []))]))])
set_option maxRecDepth 100000 in
theorem p2_s1140_e : ck_ok p2_O none [] [] 301 [] 92 p2_s1140 = true := by decide +kernel
theorem p2_s1140_s {X : Int → Int} {LX : Nat} : ck_Ok p2_O X LX 301 p2_s1140 := ck_ok_s ⟨p2_nmu, ck_E0⟩ ck_X0 ck_l0 p2_s1140_e
set_option maxRecDepth 100000 in
/-- GlacierMailModel.ofLetter -/
def p2_s1143 : ck_Sum := ((0, 0, 0), 245, [.inr (.inr (.inl 226)), .inl (ck_one 16), .inl (ck_one 3)], ([], [], []), ([], []), [(.inr (some (.inl (0, 299, []))), 245, ([], [], []))])
set_option maxRecDepth 100000 in
theorem p2_s1143_e : ck_ok p2_O none [] [] 301 [] 92 p2_s1143 = true := by decide +kernel
theorem p2_s1143_s {X : Int → Int} {LX : Nat} : ck_Ok p2_O X LX 301 p2_s1143 := ck_ok_s ⟨p2_nmu, ck_E0⟩ ck_X0 ck_l0 p2_s1143_e
set_option maxRecDepth 100000 in
/-- GlacierMailModel.in -/
def p2_s1145 : ck_Sum := ((0, 0, 0), 245, [.inl (ck_one 17), .inl (ck_one 0), .inl ((-1), 23, [])], ([], [], []), ([], []), [(.inr (some (.inl (ck_one 0))), 245, ([], [], [])), (.inr (some (.inl (ck_one 1))), 245, ([], [], []))])
set_option maxRecDepth 100000 in
theorem p2_s1145_e : ck_ok p2_O none [] [] 286 [] 88 p2_s1145 = true := by decide +kernel
theorem p2_s1145_s {X : Int → Int} {LX : Nat} : ck_Ok p2_O X LX 286 p2_s1145 := ck_ok_s ⟨p2_nmu, ck_E0⟩ ck_X0 ck_l0 p2_s1145_e
set_option maxRecDepth 100000 in
/-- GlacierMailModel.noLetter -/
def p2_s1146 : ck_Sum := ((1, 0, 0), 245, [.inr (.inr (.inl 226)), .inl (ck_one 17)], ([], [], [(227, 4, 4, (0, 24, [(22, 0)]))]), ([], []), [(.inr (some (.inl (ck_one 1))), 245, ([], [], [])), (.inr (some (.inl (ck_one 0))), 245, ([], [], []))])
set_option maxRecDepth 100000 in
theorem p2_s1146_e : ck_ok p2_O none [] [(254, [p2_s196]), (286, [p2_s1145])] 309 [] 92 p2_s1146 = true := by decide +kernel
theorem p2_s1146_s {X : Int → Int} {LX : Nat} : ck_Ok p2_O X LX 309 p2_s1146 := ck_ok_s ⟨p2_nmu, ck_E1 (ck_S1 p2_s196_s ck_S0) (ck_E1 (ck_S1 p2_s1145_s ck_S0) ck_E0)⟩ ck_X0 ck_l0 p2_s1146_e
set_option maxRecDepth 100000 in
/-- GlacierMailModel.ofLetter -/
def p2_s1147 : ck_Sum := ((0, 0, 0), 245, [.inr (.inr (.inl 226)), .inl (ck_one 17), .inl (ck_one 0)], ([], [], []), ([], []), [(.inr (some (.inl (ck_one (-1)))), 245, ([], [], [(227, 238, 238, ck_one (-1))])), (.inr (some (.inl (0, 7, []))), 245, ([], [], [(227, 238, 238, (0, 7, []))]))])
set_option maxRecDepth 100000 in
theorem p2_s1147_e : ck_ok p2_O none [] [] 301 [] 92 p2_s1147 = true := by decide +kernel
theorem p2_s1147_s {X : Int → Int} {LX : Nat} : ck_Ok p2_O X LX 301 p2_s1147 := ck_ok_s ⟨p2_nmu, ck_E0⟩ ck_X0 ck_l0 p2_s1147_e
set_option maxRecDepth 100000 in
/-- GlacierMailModel.isRock -/
def p2_s1148 : ck_Sum := ((1, 0, 0), 245, [.inr (.inr (.inl 226)), .inl (ck_one 17)], ([], [], []), ([], []), [(.inr (some (.inl (ck_one 1))), 245, ([], [], [(227, 238, 238, ck_one (-1))])), (.inr (some (.inl (ck_one 0))), 245, ([], [], [(227, 238, 238, (0, 7, []))]))])
set_option maxRecDepth 100000 in
theorem p2_s1148_e : ck_ok p2_O none [] [(301, [p2_s1147])] 303 [] 86 p2_s1148 = true := by decide +kernel
theorem p2_s1148_s {X : Int → Int} {LX : Nat} : ck_Ok p2_O X LX 303 p2_s1148 := ck_ok_s ⟨p2_nmu, ck_E1 (ck_S1 p2_s1147_s ck_S0) ck_E0⟩ ck_X0 ck_l0 p2_s1148_e
set_option maxRecDepth 100000 in
/-- GlacierMailModel.ofLetter -/
def p2_s1149 : ck_Sum := ((0, 0, 0), 245, [.inr (.inr (.inl 226)), .inl (ck_one 17), .inl (ck_one 5)], ([], [], []), ([], []), [(.inr (some (.inl (ck_one (-1)))), 245, ([], [], [(227, 243, 243, ck_one (-1))])), (.inr (some (.inl (0, 7, []))), 245, ([], [], [(227, 243, 243, (0, 7, []))]))])
set_option maxRecDepth 100000 in
theorem p2_s1149_e : ck_ok p2_O none [] [] 301 [] 92 p2_s1149 = true := by decide +kernel
theorem p2_s1149_s {X : Int → Int} {LX : Nat} : ck_Ok p2_O X LX 301 p2_s1149 := ck_ok_s ⟨p2_nmu, ck_E0⟩ ck_X0 ck_l0 p2_s1149_e
set_option maxRecDepth 100000 in
/-- GlacierMailModel.ofLetter -/
def p2_s1151 : ck_Sum := ((0, 0, 0), 245, [.inr (.inr (.inl 226)), .inl (ck_one 17), .inl (ck_one 1)], ([], [], []), ([], []), [(.inr (some (.inl (ck_one (-1)))), 245, ([], [], [(227, 239, 239, ck_one (-1))])), (.inr (some (.inl (0, 7, []))), 245, ([], [], [(227, 239, 239, (0, 7, []))]))])
set_option maxRecDepth 100000 in
theorem p2_s1151_e : ck_ok p2_O none [] [] 301 [] 92 p2_s1151 = true := by decide +kernel
theorem p2_s1151_s {X : Int → Int} {LX : Nat} : ck_Ok p2_O X LX 301 p2_s1151 := ck_ok_s ⟨p2_nmu, ck_E0⟩ ck_X0 ck_l0 p2_s1151_e
set_option maxRecDepth 100000 in
/-- GlacierMailModel.ofLetter -/
def p2_s1154 : ck_Sum := ((0, 0, 0), 245, [.inr (.inr (.inl 226)), .inl (ck_one 17), .inl (ck_one 3)], ([], [], []), ([], []), [(.inr (some (.inl (0, 299, []))), 245, ([], [], []))])
set_option maxRecDepth 100000 in
theorem p2_s1154_e : ck_ok p2_O none [] [] 301 [] 92 p2_s1154 = true := by decide +kernel
theorem p2_s1154_s {X : Int → Int} {LX : Nat} : ck_Ok p2_O X LX 301 p2_s1154 := ck_ok_s ⟨p2_nmu, ck_E0⟩ ck_X0 ck_l0 p2_s1154_e
set_option maxRecDepth 100000 in
/-- GlacierMailModel.in -/
def p2_s1156 : ck_Sum := ((0, 0, 0), 245, [.inl (ck_one 18), .inl (ck_one 0), .inl ((-1), 23, [])], ([], [], []), ([], []), [(.inr (some (.inl (ck_one 0))), 245, ([], [], [])), (.inr (some (.inl (ck_one 1))), 245, ([], [], []))])
set_option maxRecDepth 100000 in
theorem p2_s1156_e : ck_ok p2_O none [] [] 286 [] 88 p2_s1156 = true := by decide +kernel
theorem p2_s1156_s {X : Int → Int} {LX : Nat} : ck_Ok p2_O X LX 286 p2_s1156 := ck_ok_s ⟨p2_nmu, ck_E0⟩ ck_X0 ck_l0 p2_s1156_e
set_option maxRecDepth 100000 in
/-- GlacierMailModel.noLetter -/
def p2_s1157 : ck_Sum := ((1, 0, 0), 245, [.inr (.inr (.inl 226)), .inl (ck_one 18)], ([], [], [(227, 4, 4, (0, 24, [(22, 0)]))]), ([], []), [(.inr (some (.inl (ck_one 1))), 245, ([], [], [])), (.inr (some (.inl (ck_one 0))), 245, ([], [], []))])
set_option maxRecDepth 100000 in
theorem p2_s1157_e : ck_ok p2_O none [] [(254, [p2_s196]), (286, [p2_s1156])] 309 [] 92 p2_s1157 = true := by decide +kernel
theorem p2_s1157_s {X : Int → Int} {LX : Nat} : ck_Ok p2_O X LX 309 p2_s1157 := ck_ok_s ⟨p2_nmu, ck_E1 (ck_S1 p2_s196_s ck_S0) (ck_E1 (ck_S1 p2_s1156_s ck_S0) ck_E0)⟩ ck_X0 ck_l0 p2_s1157_e
set_option maxRecDepth 100000 in
/-- GlacierMailModel.ofLetter -/
def p2_s1158 : ck_Sum := ((0, 0, 0), 245, [.inr (.inr (.inl 226)), .inl (ck_one 18), .inl (ck_one 0)], ([], [], []), ([], []), [(.inr (some (.inl (ck_one (-1)))), 245, ([], [], [(227, 245, 245, ck_one (-1))])), (.inr (some (.inl (0, 7, []))), 245, ([], [], [(227, 245, 245, (0, 7, []))]))])
set_option maxRecDepth 100000 in
theorem p2_s1158_e : ck_ok p2_O none [] [] 301 [] 92 p2_s1158 = true := by decide +kernel
theorem p2_s1158_s {X : Int → Int} {LX : Nat} : ck_Ok p2_O X LX 301 p2_s1158 := ck_ok_s ⟨p2_nmu, ck_E0⟩ ck_X0 ck_l0 p2_s1158_e
set_option maxRecDepth 100000 in
/-- GlacierMailModel.isRock -/
def p2_s1159 : ck_Sum := ((1, 0, 0), 245, [.inr (.inr (.inl 226)), .inl (ck_one 18)], ([], [], []), ([], []), [(.inr (some (.inl (ck_one 1))), 245, ([], [], [(227, 245, 245, ck_one (-1))])), (.inr (some (.inl (ck_one 0))), 245, ([], [], [(227, 245, 245, (0, 7, []))]))])
set_option maxRecDepth 100000 in
theorem p2_s1159_e : ck_ok p2_O none [] [(301, [p2_s1158])] 303 [] 86 p2_s1159 = true := by decide +kernel
theorem p2_s1159_s {X : Int → Int} {LX : Nat} : ck_Ok p2_O X LX 303 p2_s1159 := ck_ok_s ⟨p2_nmu, ck_E1 (ck_S1 p2_s1158_s ck_S0) ck_E0⟩ ck_X0 ck_l0 p2_s1159_e
set_option maxRecDepth 100000 in
/-- GlacierMailModel.ofLetter -/
def p2_s1160 : ck_Sum := ((0, 0, 0), 245, [.inr (.inr (.inl 226)), .inl (ck_one 18), .inl (ck_one 5)], ([], [], []), ([], []), [(.inr (some (.inl (ck_one (-1)))), 245, ([], [], [(227, 250, 250, ck_one (-1))])), (.inr (some (.inl (0, 7, []))), 245, ([], [], [(227, 250, 250, (0, 7, []))]))])
set_option maxRecDepth 100000 in
theorem p2_s1160_e : ck_ok p2_O none [] [] 301 [] 92 p2_s1160 = true := by decide +kernel
theorem p2_s1160_s {X : Int → Int} {LX : Nat} : ck_Ok p2_O X LX 301 p2_s1160 := ck_ok_s ⟨p2_nmu, ck_E0⟩ ck_X0 ck_l0 p2_s1160_e
set_option maxRecDepth 100000 in
/-- GlacierMailModel.ofLetter -/
def p2_s1162 : ck_Sum := ((0, 0, 0), 245, [.inr (.inr (.inl 226)), .inl (ck_one 18), .inl (ck_one 1)], ([], [], []), ([], []), [(.inr (some (.inl (ck_one (-1)))), 245, ([], [], [(227, 246, 246, ck_one (-1))])), (.inr (some (.inl (0, 7, []))), 245, ([], [], [(227, 246, 246, (0, 7, []))]))])
set_option maxRecDepth 100000 in
theorem p2_s1162_e : ck_ok p2_O none [] [] 301 [] 92 p2_s1162 = true := by decide +kernel
theorem p2_s1162_s {X : Int → Int} {LX : Nat} : ck_Ok p2_O X LX 301 p2_s1162 := ck_ok_s ⟨p2_nmu, ck_E0⟩ ck_X0 ck_l0 p2_s1162_e
set_option maxRecDepth 100000 in
/-- GlacierMailModel.ofLetter -/
def p2_s1165 : ck_Sum := ((0, 0, 0), 245, [.inr (.inr (.inl 226)), .inl (ck_one 18), .inl (ck_one 3)], ([], [], []), ([], []), [(.inr (some (.inl (0, 299, []))), 245, ([], [], []))])
set_option maxRecDepth 100000 in
theorem p2_s1165_e : ck_ok p2_O none [] [] 301 [] 92 p2_s1165 = true := by decide +kernel
theorem p2_s1165_s {X : Int → Int} {LX : Nat} : ck_Ok p2_O X LX 301 p2_s1165 := ck_ok_s ⟨p2_nmu, ck_E0⟩ ck_X0 ck_l0 p2_s1165_e
set_option maxRecDepth 100000 in
/-- GlacierMailModel.in -/
def p2_s1167 : ck_Sum := ((0, 0, 0), 245, [.inl (ck_one 19), .inl (ck_one 0), .inl ((-1), 23, [])], ([], [], []), ([], []), [(.inr (some (.inl (ck_one 0))), 245, ([], [], [])), (.inr (some (.inl (ck_one 1))), 245, ([], [], []))])
set_option maxRecDepth 100000 in
theorem p2_s1167_e : ck_ok p2_O none [] [] 286 [] 88 p2_s1167 = true := by decide +kernel
theorem p2_s1167_s {X : Int → Int} {LX : Nat} : ck_Ok p2_O X LX 286 p2_s1167 := ck_ok_s ⟨p2_nmu, ck_E0⟩ ck_X0 ck_l0 p2_s1167_e
set_option maxRecDepth 100000 in
/-- GlacierMailModel.noLetter -/
def p2_s1168 : ck_Sum := ((1, 0, 0), 245, [.inr (.inr (.inl 226)), .inl (ck_one 19)], ([], [], [(227, 4, 4, (0, 24, [(22, 0)]))]), ([], []), [(.inr (some (.inl (ck_one 1))), 245, ([], [], [])), (.inr (some (.inl (ck_one 0))), 245, ([], [], []))])
set_option maxRecDepth 100000 in
theorem p2_s1168_e : ck_ok p2_O none [] [(254, [p2_s196]), (286, [p2_s1167])] 309 [] 92 p2_s1168 = true := by decide +kernel
theorem p2_s1168_s {X : Int → Int} {LX : Nat} : ck_Ok p2_O X LX 309 p2_s1168 := ck_ok_s ⟨p2_nmu, ck_E1 (ck_S1 p2_s196_s ck_S0) (ck_E1 (ck_S1 p2_s1167_s ck_S0) ck_E0)⟩ ck_X0 ck_l0 p2_s1168_e
set_option maxRecDepth 100000 in
/-- GlacierMailModel.ofLetter -/
def p2_s1169 : ck_Sum := ((0, 0, 0), 245, [.inr (.inr (.inl 226)), .inl (ck_one 19), .inl (ck_one 0)], ([], [], []), ([], []), [(.inr (some (.inl (ck_one (-1)))), 245, ([], [], [(227, 252, 252, ck_one (-1))])), (.inr (some (.inl (0, 7, []))), 245, ([], [], [(227, 252, 252, (0, 7, []))]))])
set_option maxRecDepth 100000 in
theorem p2_s1169_e : ck_ok p2_O none [] [] 301 [] 92 p2_s1169 = true := by decide +kernel
theorem p2_s1169_s {X : Int → Int} {LX : Nat} : ck_Ok p2_O X LX 301 p2_s1169 := ck_ok_s ⟨p2_nmu, ck_E0⟩ ck_X0 ck_l0 p2_s1169_e
set_option maxRecDepth 100000 in
/-- GlacierMailModel.isRock -/
def p2_s1170 : ck_Sum := ((1, 0, 0), 245, [.inr (.inr (.inl 226)), .inl (ck_one 19)], ([], [], []), ([], []), [(.inr (some (.inl (ck_one 1))), 245, ([], [], [(227, 252, 252, ck_one (-1))])), (.inr (some (.inl (ck_one 0))), 245, ([], [], [(227, 252, 252, (0, 7, []))]))])
set_option maxRecDepth 100000 in
theorem p2_s1170_e : ck_ok p2_O none [] [(301, [p2_s1169])] 303 [] 86 p2_s1170 = true := by decide +kernel
theorem p2_s1170_s {X : Int → Int} {LX : Nat} : ck_Ok p2_O X LX 303 p2_s1170 := ck_ok_s ⟨p2_nmu, ck_E1 (ck_S1 p2_s1169_s ck_S0) ck_E0⟩ ck_X0 ck_l0 p2_s1170_e
set_option maxRecDepth 100000 in
/-- GlacierMailModel.ofLetter -/
def p2_s1171 : ck_Sum := ((0, 0, 0), 245, [.inr (.inr (.inl 226)), .inl (ck_one 19), .inl (ck_one 5)], ([], [], []), ([], []), [(.inr (some (.inl (ck_one (-1)))), 245, ([], [], [(227, 257, 257, ck_one (-1))])), (.inr (some (.inl (0, 7, []))), 245, ([], [], [(227, 257, 257, (0, 7, []))]))])
set_option maxRecDepth 100000 in
theorem p2_s1171_e : ck_ok p2_O none [] [] 301 [] 92 p2_s1171 = true := by decide +kernel
theorem p2_s1171_s {X : Int → Int} {LX : Nat} : ck_Ok p2_O X LX 301 p2_s1171 := ck_ok_s ⟨p2_nmu, ck_E0⟩ ck_X0 ck_l0 p2_s1171_e
set_option maxRecDepth 100000 in
/-- GlacierMailModel.ofLetter -/
def p2_s1173 : ck_Sum := ((0, 0, 0), 245, [.inr (.inr (.inl 226)), .inl (ck_one 19), .inl (ck_one 1)], ([], [], []), ([], []), [(.inr (some (.inl (ck_one (-1)))), 245, ([], [], [(227, 253, 253, ck_one (-1))])), (.inr (some (.inl (0, 7, []))), 245, ([], [], [(227, 253, 253, (0, 7, []))]))])
set_option maxRecDepth 100000 in
theorem p2_s1173_e : ck_ok p2_O none [] [] 301 [] 92 p2_s1173 = true := by decide +kernel
theorem p2_s1173_s {X : Int → Int} {LX : Nat} : ck_Ok p2_O X LX 301 p2_s1173 := ck_ok_s ⟨p2_nmu, ck_E0⟩ ck_X0 ck_l0 p2_s1173_e
set_option maxRecDepth 100000 in
/-- GlacierMailModel.ofLetter -/
def p2_s1176 : ck_Sum := ((0, 0, 0), 245, [.inr (.inr (.inl 226)), .inl (ck_one 19), .inl (ck_one 3)], ([], [], []), ([], []), [(.inr (some (.inl (0, 299, []))), 245, ([], [], []))])
set_option maxRecDepth 100000 in
theorem p2_s1176_e : ck_ok p2_O none [] [] 301 [] 92 p2_s1176 = true := by decide +kernel
theorem p2_s1176_s {X : Int → Int} {LX : Nat} : ck_Ok p2_O X LX 301 p2_s1176 := ck_ok_s ⟨p2_nmu, ck_E0⟩ ck_X0 ck_l0 p2_s1176_e
set_option maxRecDepth 100000 in
/-- GlacierMailModel.in -/
def p2_s1178 : ck_Sum := ((0, 0, 0), 245, [.inl (ck_one 20), .inl (ck_one 0), .inl ((-1), 23, [])], ([], [], []), ([], []), [(.inr (some (.inl (ck_one 0))), 245, ([], [], [])), (.inr (some (.inl (ck_one 1))), 245, ([], [], []))])
set_option maxRecDepth 100000 in
theorem p2_s1178_e : ck_ok p2_O none [] [] 286 [] 88 p2_s1178 = true := by decide +kernel
theorem p2_s1178_s {X : Int → Int} {LX : Nat} : ck_Ok p2_O X LX 286 p2_s1178 := ck_ok_s ⟨p2_nmu, ck_E0⟩ ck_X0 ck_l0 p2_s1178_e
set_option maxRecDepth 100000 in
/-- GlacierMailModel.noLetter -/
def p2_s1179 : ck_Sum := ((1, 0, 0), 245, [.inr (.inr (.inl 226)), .inl (ck_one 20)], ([], [], [(227, 4, 4, (0, 24, [(22, 0)]))]), ([], []), [(.inr (some (.inl (ck_one 1))), 245, ([], [], [])), (.inr (some (.inl (ck_one 0))), 245, ([], [], []))])
set_option maxRecDepth 100000 in
theorem p2_s1179_e : ck_ok p2_O none [] [(254, [p2_s196]), (286, [p2_s1178])] 309 [] 92 p2_s1179 = true := by decide +kernel
theorem p2_s1179_s {X : Int → Int} {LX : Nat} : ck_Ok p2_O X LX 309 p2_s1179 := ck_ok_s ⟨p2_nmu, ck_E1 (ck_S1 p2_s196_s ck_S0) (ck_E1 (ck_S1 p2_s1178_s ck_S0) ck_E0)⟩ ck_X0 ck_l0 p2_s1179_e
set_option maxRecDepth 100000 in
/-- GlacierMailModel.ofLetter -/
def p2_s1180 : ck_Sum := ((0, 0, 0), 245, [.inr (.inr (.inl 226)), .inl (ck_one 20), .inl (ck_one 0)], ([], [], []), ([], []), [(.inr (some (.inl (ck_one (-1)))), 245, ([], [], [(227, 259, 259, ck_one (-1))])), (.inr (some (.inl (0, 7, []))), 245, ([], [], [(227, 259, 259, (0, 7, []))]))])
set_option maxRecDepth 100000 in
theorem p2_s1180_e : ck_ok p2_O none [] [] 301 [] 92 p2_s1180 = true := by decide +kernel
theorem p2_s1180_s {X : Int → Int} {LX : Nat} : ck_Ok p2_O X LX 301 p2_s1180 := ck_ok_s ⟨p2_nmu, ck_E0⟩ ck_X0 ck_l0 p2_s1180_e
set_option maxRecDepth 100000 in
/-- GlacierMailModel.isRock -/
def p2_s1181 : ck_Sum := ((1, 0, 0), 245, [.inr (.inr (.inl 226)), .inl (ck_one 20)], ([], [], []), ([], []), [(.inr (some (.inl (ck_one 1))), 245, ([], [], [(227, 259, 259, ck_one (-1))])), (.inr (some (.inl (ck_one 0))), 245, ([], [], [(227, 259, 259, (0, 7, []))]))])
set_option maxRecDepth 100000 in
theorem p2_s1181_e : ck_ok p2_O none [] [(301, [p2_s1180])] 303 [] 86 p2_s1181 = true := by decide +kernel
theorem p2_s1181_s {X : Int → Int} {LX : Nat} : ck_Ok p2_O X LX 303 p2_s1181 := ck_ok_s ⟨p2_nmu, ck_E1 (ck_S1 p2_s1180_s ck_S0) ck_E0⟩ ck_X0 ck_l0 p2_s1181_e
set_option maxRecDepth 100000 in
/-- GlacierMailModel.ofLetter -/
def p2_s1182 : ck_Sum := ((0, 0, 0), 245, [.inr (.inr (.inl 226)), .inl (ck_one 20), .inl (ck_one 5)], ([], [], []), ([], []), [(.inr (some (.inl (ck_one (-1)))), 245, ([], [], [(227, 264, 264, ck_one (-1))])), (.inr (some (.inl (0, 7, []))), 245, ([], [], [(227, 264, 264, (0, 7, []))]))])
set_option maxRecDepth 100000 in
theorem p2_s1182_e : ck_ok p2_O none [] [] 301 [] 92 p2_s1182 = true := by decide +kernel
theorem p2_s1182_s {X : Int → Int} {LX : Nat} : ck_Ok p2_O X LX 301 p2_s1182 := ck_ok_s ⟨p2_nmu, ck_E0⟩ ck_X0 ck_l0 p2_s1182_e
set_option maxRecDepth 100000 in
/-- GlacierMailModel.ofLetter -/
def p2_s1184 : ck_Sum := ((0, 0, 0), 245, [.inr (.inr (.inl 226)), .inl (ck_one 20), .inl (ck_one 1)], ([], [], []), ([], []), [(.inr (some (.inl (ck_one (-1)))), 245, ([], [], [(227, 260, 260, ck_one (-1))])), (.inr (some (.inl (0, 7, []))), 245, ([], [], [(227, 260, 260, (0, 7, []))]))])
set_option maxRecDepth 100000 in
theorem p2_s1184_e : ck_ok p2_O none [] [] 301 [] 92 p2_s1184 = true := by decide +kernel
theorem p2_s1184_s {X : Int → Int} {LX : Nat} : ck_Ok p2_O X LX 301 p2_s1184 := ck_ok_s ⟨p2_nmu, ck_E0⟩ ck_X0 ck_l0 p2_s1184_e
set_option maxRecDepth 100000 in
/-- GlacierMailModel.ofLetter -/
def p2_s1187 : ck_Sum := ((0, 0, 0), 245, [.inr (.inr (.inl 226)), .inl (ck_one 20), .inl (ck_one 3)], ([], [], []), ([], []), [(.inr (some (.inl (0, 299, []))), 245, ([], [], []))])
set_option maxRecDepth 100000 in
theorem p2_s1187_e : ck_ok p2_O none [] [] 301 [] 92 p2_s1187 = true := by decide +kernel
theorem p2_s1187_s {X : Int → Int} {LX : Nat} : ck_Ok p2_O X LX 301 p2_s1187 := ck_ok_s ⟨p2_nmu, ck_E0⟩ ck_X0 ck_l0 p2_s1187_e
set_option maxRecDepth 100000 in
/-- GlacierMailModel.in -/
def p2_s1189 : ck_Sum := ((0, 0, 0), 245, [.inl (ck_one 21), .inl (ck_one 0), .inl ((-1), 23, [])], ([], [], []), ([], []), [(.inr (some (.inl (ck_one 0))), 245, ([], [], [])), (.inr (some (.inl (ck_one 1))), 245, ([], [], []))])
set_option maxRecDepth 100000 in
theorem p2_s1189_e : ck_ok p2_O none [] [] 286 [] 88 p2_s1189 = true := by decide +kernel
theorem p2_s1189_s {X : Int → Int} {LX : Nat} : ck_Ok p2_O X LX 286 p2_s1189 := ck_ok_s ⟨p2_nmu, ck_E0⟩ ck_X0 ck_l0 p2_s1189_e
set_option maxRecDepth 100000 in
/-- GlacierMailModel.noLetter -/
def p2_s1190 : ck_Sum := ((1, 0, 0), 245, [.inr (.inr (.inl 226)), .inl (ck_one 21)], ([], [], [(227, 4, 4, (0, 24, [(22, 0)]))]), ([], []), [(.inr (some (.inl (ck_one 1))), 245, ([], [], [])), (.inr (some (.inl (ck_one 0))), 245, ([], [], []))])
set_option maxRecDepth 100000 in
theorem p2_s1190_e : ck_ok p2_O none [] [(254, [p2_s196]), (286, [p2_s1189])] 309 [] 92 p2_s1190 = true := by decide +kernel
theorem p2_s1190_s {X : Int → Int} {LX : Nat} : ck_Ok p2_O X LX 309 p2_s1190 := ck_ok_s ⟨p2_nmu, ck_E1 (ck_S1 p2_s196_s ck_S0) (ck_E1 (ck_S1 p2_s1189_s ck_S0) ck_E0)⟩ ck_X0 ck_l0 p2_s1190_e
set_option maxRecDepth 100000 in
/-- GlacierMailModel.ofLetter -/
def p2_s1191 : ck_Sum := ((0, 0, 0), 245, [.inr (.inr (.inl 226)), .inl (ck_one 21), .inl (ck_one 0)], ([], [], []), ([], []), [(.inr (some (.inl (ck_one (-1)))), 245, ([], [], [(227, 266, 266, ck_one (-1))])), (.inr (some (.inl (0, 7, []))), 245, ([], [], [(227, 266, 266, (0, 7, []))]))])
set_option maxRecDepth 100000 in
theorem p2_s1191_e : ck_ok p2_O none [] [] 301 [] 92 p2_s1191 = true := by decide +kernel
theorem p2_s1191_s {X : Int → Int} {LX : Nat} : ck_Ok p2_O X LX 301 p2_s1191 := ck_ok_s ⟨p2_nmu, ck_E0⟩ ck_X0 ck_l0 p2_s1191_e
set_option maxRecDepth 100000 in
/-- GlacierMailModel.isRock -/
def p2_s1192 : ck_Sum := ((1, 0, 0), 245, [.inr (.inr (.inl 226)), .inl (ck_one 21)], ([], [], []), ([], []), [(.inr (some (.inl (ck_one 1))), 245, ([], [], [(227, 266, 266, ck_one (-1))])), (.inr (some (.inl (ck_one 0))), 245, ([], [], [(227, 266, 266, (0, 7, []))]))])
set_option maxRecDepth 100000 in
theorem p2_s1192_e : ck_ok p2_O none [] [(301, [p2_s1191])] 303 [] 86 p2_s1192 = true := by decide +kernel
theorem p2_s1192_s {X : Int → Int} {LX : Nat} : ck_Ok p2_O X LX 303 p2_s1192 := ck_ok_s ⟨p2_nmu, ck_E1 (ck_S1 p2_s1191_s ck_S0) ck_E0⟩ ck_X0 ck_l0 p2_s1192_e
set_option maxRecDepth 100000 in
/-- GlacierMailModel.ofLetter -/
def p2_s1193 : ck_Sum := ((0, 0, 0), 245, [.inr (.inr (.inl 226)), .inl (ck_one 21), .inl (ck_one 5)], ([], [], []), ([], []), [(.inr (some (.inl (ck_one (-1)))), 245, ([], [], [(227, 271, 271, ck_one (-1))])), (.inr (some (.inl (0, 7, []))), 245, ([], [], [(227, 271, 271, (0, 7, []))]))])
set_option maxRecDepth 100000 in
theorem p2_s1193_e : ck_ok p2_O none [] [] 301 [] 92 p2_s1193 = true := by decide +kernel
theorem p2_s1193_s {X : Int → Int} {LX : Nat} : ck_Ok p2_O X LX 301 p2_s1193 := ck_ok_s ⟨p2_nmu, ck_E0⟩ ck_X0 ck_l0 p2_s1193_e
set_option maxRecDepth 100000 in
/-- GlacierMailModel.ofLetter -/
def p2_s1195 : ck_Sum := ((0, 0, 0), 245, [.inr (.inr (.inl 226)), .inl (ck_one 21), .inl (ck_one 1)], ([], [], []), ([], []), [(.inr (some (.inl (ck_one (-1)))), 245, ([], [], [(227, 267, 267, ck_one (-1))])), (.inr (some (.inl (0, 7, []))), 245, ([], [], [(227, 267, 267, (0, 7, []))]))])
set_option maxRecDepth 100000 in
theorem p2_s1195_e : ck_ok p2_O none [] [] 301 [] 92 p2_s1195 = true := by decide +kernel
theorem p2_s1195_s {X : Int → Int} {LX : Nat} : ck_Ok p2_O X LX 301 p2_s1195 := ck_ok_s ⟨p2_nmu, ck_E0⟩ ck_X0 ck_l0 p2_s1195_e
set_option maxRecDepth 100000 in
/-- GlacierMailModel.ofLetter -/
def p2_s1198 : ck_Sum := ((0, 0, 0), 245, [.inr (.inr (.inl 226)), .inl (ck_one 21), .inl (ck_one 3)], ([], [], []), ([], []), [(.inr (some (.inl (0, 299, []))), 245, ([], [], []))])
set_option maxRecDepth 100000 in
theorem p2_s1198_e : ck_ok p2_O none [] [] 301 [] 92 p2_s1198 = true := by decide +kernel
theorem p2_s1198_s {X : Int → Int} {LX : Nat} : ck_Ok p2_O X LX 301 p2_s1198 := ck_ok_s ⟨p2_nmu, ck_E0⟩ ck_X0 ck_l0 p2_s1198_e
set_option maxRecDepth 100000 in
/-- GlacierMailModel.in -/
def p2_s1200 : ck_Sum := ((0, 0, 0), 245, [.inl (ck_one 22), .inl (ck_one 0), .inl ((-1), 23, [])], ([], [], []), ([], []), [(.inr (some (.inl (ck_one 0))), 245, ([], [], [])), (.inr (some (.inl (ck_one 1))), 245, ([], [], []))])
set_option maxRecDepth 100000 in
theorem p2_s1200_e : ck_ok p2_O none [] [] 286 [] 88 p2_s1200 = true := by decide +kernel
theorem p2_s1200_s {X : Int → Int} {LX : Nat} : ck_Ok p2_O X LX 286 p2_s1200 := ck_ok_s ⟨p2_nmu, ck_E0⟩ ck_X0 ck_l0 p2_s1200_e
set_option maxRecDepth 100000 in
/-- GlacierMailModel.noLetter -/
def p2_s1201 : ck_Sum := ((1, 0, 0), 245, [.inr (.inr (.inl 226)), .inl (ck_one 22)], ([], [], [(227, 4, 4, (0, 24, [(22, 0)]))]), ([], []), [(.inr (some (.inl (ck_one 1))), 245, ([], [], [])), (.inr (some (.inl (ck_one 0))), 245, ([], [], []))])
set_option maxRecDepth 100000 in
theorem p2_s1201_e : ck_ok p2_O none [] [(254, [p2_s196]), (286, [p2_s1200])] 309 [] 92 p2_s1201 = true := by decide +kernel
theorem p2_s1201_s {X : Int → Int} {LX : Nat} : ck_Ok p2_O X LX 309 p2_s1201 := ck_ok_s ⟨p2_nmu, ck_E1 (ck_S1 p2_s196_s ck_S0) (ck_E1 (ck_S1 p2_s1200_s ck_S0) ck_E0)⟩ ck_X0 ck_l0 p2_s1201_e
set_option maxRecDepth 100000 in
/-- GlacierMailModel.ofLetter -/
def p2_s1202 : ck_Sum := ((0, 0, 0), 245, [.inr (.inr (.inl 226)), .inl (ck_one 22), .inl (ck_one 0)], ([], [], []), ([], []), [(.inr (some (.inl (ck_one (-1)))), 245, ([], [], [(227, 273, 273, ck_one (-1))])), (.inr (some (.inl (0, 7, []))), 245, ([], [], [(227, 273, 273, (0, 7, []))]))])
set_option maxRecDepth 100000 in
theorem p2_s1202_e : ck_ok p2_O none [] [] 301 [] 92 p2_s1202 = true := by decide +kernel
theorem p2_s1202_s {X : Int → Int} {LX : Nat} : ck_Ok p2_O X LX 301 p2_s1202 := ck_ok_s ⟨p2_nmu, ck_E0⟩ ck_X0 ck_l0 p2_s1202_e
set_option maxRecDepth 100000 in
/-- GlacierMailModel.isRock -/
def p2_s1203 : ck_Sum := ((1, 0, 0), 245, [.inr (.inr (.inl 226)), .inl (ck_one 22)], ([], [], []), ([], []), [(.inr (some (.inl (ck_one 1))), 245, ([], [], [(227, 273, 273, ck_one (-1))])), (.inr (some (.inl (ck_one 0))), 245, ([], [], [(227, 273, 273, (0, 7, []))]))])
set_option maxRecDepth 100000 in
theorem p2_s1203_e : ck_ok p2_O none [] [(301, [p2_s1202])] 303 [] 86 p2_s1203 = true := by decide +kernel
theorem p2_s1203_s {X : Int → Int} {LX : Nat} : ck_Ok p2_O X LX 303 p2_s1203 := ck_ok_s ⟨p2_nmu, ck_E1 (ck_S1 p2_s1202_s ck_S0) ck_E0⟩ ck_X0 ck_l0 p2_s1203_e
set_option maxRecDepth 100000 in
/-- GlacierMailModel.ofLetter -/
def p2_s1204 : ck_Sum := ((0, 0, 0), 245, [.inr (.inr (.inl 226)), .inl (ck_one 22), .inl (ck_one 5)], ([], [], []), ([], []), [(.inr (some (.inl (ck_one (-1)))), 245, ([], [], [(227, 278, 278, ck_one (-1))])), (.inr (some (.inl (0, 7, []))), 245, ([], [], [(227, 278, 278, (0, 7, []))]))])
set_option maxRecDepth 100000 in
theorem p2_s1204_e : ck_ok p2_O none [] [] 301 [] 92 p2_s1204 = true := by decide +kernel
theorem p2_s1204_s {X : Int → Int} {LX : Nat} : ck_Ok p2_O X LX 301 p2_s1204 := ck_ok_s ⟨p2_nmu, ck_E0⟩ ck_X0 ck_l0 p2_s1204_e
set_option maxRecDepth 100000 in
/-- GlacierMailModel.ofLetter -/
def p2_s1206 : ck_Sum := ((0, 0, 0), 245, [.inr (.inr (.inl 226)), .inl (ck_one 22), .inl (ck_one 1)], ([], [], []), ([], []), [(.inr (some (.inl (ck_one (-1)))), 245, ([], [], [(227, 274, 274, ck_one (-1))])), (.inr (some (.inl (0, 7, []))), 245, ([], [], [(227, 274, 274, (0, 7, []))]))])
set_option maxRecDepth 100000 in
theorem p2_s1206_e : ck_ok p2_O none [] [] 301 [] 92 p2_s1206 = true := by decide +kernel
theorem p2_s1206_s {X : Int → Int} {LX : Nat} : ck_Ok p2_O X LX 301 p2_s1206 := ck_ok_s ⟨p2_nmu, ck_E0⟩ ck_X0 ck_l0 p2_s1206_e
set_option maxRecDepth 100000 in
/-- GlacierMailModel.ofLetter -/
def p2_s1209 : ck_Sum := ((0, 0, 0), 245, [.inr (.inr (.inl 226)), .inl (ck_one 22), .inl (ck_one 3)], ([], [], []), ([], []), [(.inr (some (.inl (0, 299, []))), 245, ([], [], []))])
set_option maxRecDepth 100000 in
theorem p2_s1209_e : ck_ok p2_O none [] [] 301 [] 92 p2_s1209 = true := by decide +kernel
theorem p2_s1209_s {X : Int → Int} {LX : Nat} : ck_Ok p2_O X LX 301 p2_s1209 := ck_ok_s ⟨p2_nmu, ck_E0⟩ ck_X0 ck_l0 p2_s1209_e
set_option maxRecDepth 100000 in
/-- GlacierMailModel.in -/
def p2_s1211 : ck_Sum := ((0, 0, 0), 245, [.inl (ck_one 23), .inl (ck_one 0), .inl ((-1), 23, [])], ([], [], []), ([], []), [(.inr (some (.inl (ck_one 0))), 245, ([], [], [])), (.inr (some (.inl (ck_one 1))), 245, ([], [], []))])
set_option maxRecDepth 100000 in
theorem p2_s1211_e : ck_ok p2_O none [] [] 286 [] 88 p2_s1211 = true := by decide +kernel
theorem p2_s1211_s {X : Int → Int} {LX : Nat} : ck_Ok p2_O X LX 286 p2_s1211 := ck_ok_s ⟨p2_nmu, ck_E0⟩ ck_X0 ck_l0 p2_s1211_e
set_option maxRecDepth 100000 in
/-- GlacierMailModel.noLetter -/
def p2_s1212 : ck_Sum := ((1, 0, 0), 245, [.inr (.inr (.inl 226)), .inl (ck_one 23)], ([], [], [(227, 4, 4, (0, 24, [(22, 0)]))]), ([], []), [(.inr (some (.inl (ck_one 1))), 245, ([], [], [])), (.inr (some (.inl (ck_one 0))), 245, ([], [], []))])
set_option maxRecDepth 100000 in
theorem p2_s1212_e : ck_ok p2_O none [] [(254, [p2_s196]), (286, [p2_s1211])] 309 [] 92 p2_s1212 = true := by decide +kernel
theorem p2_s1212_s {X : Int → Int} {LX : Nat} : ck_Ok p2_O X LX 309 p2_s1212 := ck_ok_s ⟨p2_nmu, ck_E1 (ck_S1 p2_s196_s ck_S0) (ck_E1 (ck_S1 p2_s1211_s ck_S0) ck_E0)⟩ ck_X0 ck_l0 p2_s1212_e
set_option maxRecDepth 100000 in
/-- GlacierMailModel.ofLetter -/
def p2_s1213 : ck_Sum := ((0, 0, 0), 245, [.inr (.inr (.inl 226)), .inl (ck_one 23), .inl (ck_one 0)], ([], [], []), ([], []), [(.inr (some (.inl (ck_one (-1)))), 245, ([], [], [(227, 280, 280, ck_one (-1))])), (.inr (some (.inl (0, 7, []))), 245, ([], [], [(227, 280, 280, (0, 7, []))]))])
set_option maxRecDepth 100000 in
theorem p2_s1213_e : ck_ok p2_O none [] [] 301 [] 92 p2_s1213 = true := by decide +kernel
theorem p2_s1213_s {X : Int → Int} {LX : Nat} : ck_Ok p2_O X LX 301 p2_s1213 := ck_ok_s ⟨p2_nmu, ck_E0⟩ ck_X0 ck_l0 p2_s1213_e
set_option maxRecDepth 100000 in
/-- GlacierMailModel.isRock -/
def p2_s1214 : ck_Sum := ((1, 0, 0), 245, [.inr (.inr (.inl 226)), .inl (ck_one 23)], ([], [], []), ([], []), [(.inr (some (.inl (ck_one 1))), 245, ([], [], [(227, 280, 280, ck_one (-1))])), (.inr (some (.inl (ck_one 0))), 245, ([], [], [(227, 280, 280, (0, 7, []))]))])
set_option maxRecDepth 100000 in
theorem p2_s1214_e : ck_ok p2_O none [] [(301, [p2_s1213])] 303 [] 86 p2_s1214 = true := by decide +kernel
theorem p2_s1214_s {X : Int → Int} {LX : Nat} : ck_Ok p2_O X LX 303 p2_s1214 := ck_ok_s ⟨p2_nmu, ck_E1 (ck_S1 p2_s1213_s ck_S0) ck_E0⟩ ck_X0 ck_l0 p2_s1214_e
set_option maxRecDepth 100000 in
/-- GlacierMailModel.ofLetter -/
def p2_s1215 : ck_Sum := ((0, 0, 0), 245, [.inr (.inr (.inl 226)), .inl (ck_one 23), .inl (ck_one 5)], ([], [], []), ([], []), [(.inr (some (.inl (ck_one (-1)))), 245, ([], [], [(227, 285, 285, ck_one (-1))])), (.inr (some (.inl (0, 7, []))), 245, ([], [], [(227, 285, 285, (0, 7, []))]))])
set_option maxRecDepth 100000 in
theorem p2_s1215_e : ck_ok p2_O none [] [] 301 [] 92 p2_s1215 = true := by decide +kernel
theorem p2_s1215_s {X : Int → Int} {LX : Nat} : ck_Ok p2_O X LX 301 p2_s1215 := ck_ok_s ⟨p2_nmu, ck_E0⟩ ck_X0 ck_l0 p2_s1215_e
set_option maxRecDepth 100000 in
/-- GlacierMailModel.ofLetter -/
def p2_s1217 : ck_Sum := ((0, 0, 0), 245, [.inr (.inr (.inl 226)), .inl (ck_one 23), .inl (ck_one 1)], ([], [], []), ([], []), [(.inr (some (.inl (ck_one (-1)))), 245, ([], [], [(227, 281, 281, ck_one (-1))])), (.inr (some (.inl (0, 7, []))), 245, ([], [], [(227, 281, 281, (0, 7, []))]))])
set_option maxRecDepth 100000 in
theorem p2_s1217_e : ck_ok p2_O none [] [] 301 [] 92 p2_s1217 = true := by decide +kernel
theorem p2_s1217_s {X : Int → Int} {LX : Nat} : ck_Ok p2_O X LX 301 p2_s1217 := ck_ok_s ⟨p2_nmu, ck_E0⟩ ck_X0 ck_l0 p2_s1217_e
set_option maxRecDepth 100000 in
/-- GlacierMailModel.ofLetter -/
def p2_s1220 : ck_Sum := ((0, 0, 0), 245, [.inr (.inr (.inl 226)), .inl (ck_one 23), .inl (ck_one 3)], ([], [], []), ([], []), [(.inr (some (.inl (0, 299, []))), 245, ([], [], []))])
set_option maxRecDepth 100000 in
theorem p2_s1220_e : ck_ok p2_O none [] [] 301 [] 92 p2_s1220 = true := by decide +kernel
theorem p2_s1220_s {X : Int → Int} {LX : Nat} : ck_Ok p2_O X LX 301 p2_s1220 := ck_ok_s ⟨p2_nmu, ck_E0⟩ ck_X0 ck_l0 p2_s1220_e
set_option maxRecDepth 100000 in
/-- GlacierMail$Ice.mayOpen -/
def p2_s1231 : ck_Sum := ((0, 0, 0), 245, [.inr (.inr (.inl 200)), .inl (0, 7, []), .inl ((-1), 98, []), .inl ((-299), 300, []), .inl ((-2147483648), 299, [])], ([], [(3, 8, 0)], []), ([], []), [(.inr (some (.inl (ck_one 0))), 245, ([], [], []))])
set_option maxRecDepth 100000 in
theorem p2_s1231_e : ck_ok p2_O none [] [] 164 [] 82 p2_s1231 = true := by decide +kernel
theorem p2_s1231_s {X : Int → Int} {LX : Nat} : ck_Ok p2_O X LX 164 p2_s1231 := ck_ok_s ⟨p2_nmu, ck_E0⟩ ck_X0 ck_l0 p2_s1231_e
set_option maxRecDepth 100000 in
/-- GlacierMail.openerOf -/
def p2_s1309 : ck_Sum := ((1, 0, 0), 245, [.inr (.inr (.inl 1)), .inl (0, 23, [])], ([], [(3, 8, 0)], [(3, 6, 6, (0, 299, [(10, 0)]))]), ([], []), [(.inr (some (.inl ((-1), 299, []))), 245, ([], [], []))])
set_option maxRecDepth 100000 in
theorem p2_s1309_e : ck_ok p2_O none [] [(10, [p2_s375, p2_s450, p2_s419]), (9, [p2_s360]), (164, [p2_s1231])] 163 [(69, [some (.inr (.inr (.inl 1))), some (.inl (0, 23, [])), some (.inl ((-1), 299, [])), some (.inl ((-1), 299, [])), some (.inl ((-299), 300, [])), some (.inl (0, 9, []))], ([], [(3, 8, 0)], [(3, 6, 6, (0, 299, [(10, 0)]))]), 100, .inl 5, true)] 234 p2_s1309 = true := by decide +kernel
theorem p2_s1309_s {X : Int → Int} {LX : Nat} : ck_Ok p2_O X LX 163 p2_s1309 := ck_ok_s ⟨p2_nmu, ck_E1 (ck_S1 p2_s375_s (ck_S1 p2_s450_s (ck_S1 p2_s419_s ck_S0))) (ck_E1 (ck_S1 p2_s360_s ck_S0) (ck_E1 (ck_S1 p2_s1231_s ck_S0) ck_E0))⟩ ck_X0 ck_l0 p2_s1309_e
set_option maxRecDepth 100000 in
/-- GlacierMail$Rows.put -/
def p2_s1310 : ck_Sum := ((0, 0, 0), 245, [.inr (.inr (.inl 10)), .inl (0, 23, []), .inl (ck_one 5), .inl (0, 299, [])], ([], [], []), ([(11, 5, 5), (11, 12, 12), (11, 19, 19), (11, 26, 26), (11, 33, 33), (11, 40, 40), (11, 47, 47), (11, 54, 54), (11, 61, 61), (11, 68, 68), (11, 75, 75), (11, 82, 82), (11, 89, 89), (11, 96, 96), (11, 103, 103), (11, 110, 110), (11, 117, 117), (11, 124, 124), (11, 131, 131), (11, 138, 138), (11, 145, 145), (11, 152, 152), (11, 159, 159), (11, 166, 166)], []), [(.inr none, 245, ([], [], []))])
set_option maxRecDepth 100000 in
theorem p2_s1310_e : ck_ok p2_O none [] [] 45 [] 116 p2_s1310 = true := by decide +kernel
theorem p2_s1310_s {X : Int → Int} {LX : Nat} : ck_Ok p2_O X LX 45 p2_s1310 := ck_ok_s ⟨p2_nmu, ck_E0⟩ ck_X0 ck_l0 p2_s1310_e
set_option maxRecDepth 100000 in
/-- GlacierMail$Rows.put -/
def p2_s1311 : ck_Sum := ((0, 0, 0), 245, [.inr (.inr (.inl 10)), .inl (0, 23, []), .inl (ck_one 6), .inl (0, 299, [])], ([], [], []), ([(11, 6, 6), (11, 13, 13), (11, 20, 20), (11, 27, 27), (11, 34, 34), (11, 41, 41), (11, 48, 48), (11, 55, 55), (11, 62, 62), (11, 69, 69), (11, 76, 76), (11, 83, 83), (11, 90, 90), (11, 97, 97), (11, 104, 104), (11, 111, 111), (11, 118, 118), (11, 125, 125), (11, 132, 132), (11, 139, 139), (11, 146, 146), (11, 153, 153), (11, 160, 160), (11, 167, 167)], []), [(.inr none, 245, ([], [], []))])
set_option maxRecDepth 100000 in
theorem p2_s1311_e : ck_ok p2_O none [] [] 45 [] 116 p2_s1311 = true := by decide +kernel
theorem p2_s1311_s {X : Int → Int} {LX : Nat} : ck_Ok p2_O X LX 45 p2_s1311 := ck_ok_s ⟨p2_nmu, ck_E0⟩ ck_X0 ck_l0 p2_s1311_e
set_option maxRecDepth 100000 in
/-- GlacierMail$Rows.put -/
def p2_s1312 : ck_Sum := ((0, 0, 0), 245, [.inr (.inr (.inl 14)), .inl (0, 23, []), .inl (ck_one 1), .inl (0, 23, [])], ([], [], []), ([(15, 1, 1), (15, 4, 4), (15, 7, 7), (15, 10, 10), (15, 13, 13), (15, 16, 16), (15, 19, 19), (15, 22, 22), (15, 25, 25), (15, 28, 28), (15, 31, 31), (15, 34, 34), (15, 37, 37), (15, 40, 40), (15, 43, 43), (15, 46, 46), (15, 49, 49), (15, 52, 52), (15, 55, 55), (15, 58, 58), (15, 61, 61), (15, 64, 64), (15, 67, 67), (15, 70, 70)], []), [(.inr none, 245, ([], [], []))])
set_option maxRecDepth 100000 in
theorem p2_s1312_e : ck_ok p2_O none [] [] 45 [] 116 p2_s1312 = true := by decide +kernel
theorem p2_s1312_s {X : Int → Int} {LX : Nat} : ck_Ok p2_O X LX 45 p2_s1312 := ck_ok_s ⟨p2_nmu, ck_E0⟩ ck_X0 ck_l0 p2_s1312_e
set_option maxRecDepth 100000 in
/-- GlacierMail$Rows.put -/
def p2_s1234 : ck_Sum := ((0, 0, 0), 245, [.inr (.inr (.inl 14)), .inl (0, 23, []), .inl (ck_one 2), .inl (0, 299, [])], ([], [], []), ([(15, 2, 2), (15, 5, 5), (15, 8, 8), (15, 11, 11), (15, 14, 14), (15, 17, 17), (15, 20, 20), (15, 23, 23), (15, 26, 26), (15, 29, 29), (15, 32, 32), (15, 35, 35), (15, 38, 38), (15, 41, 41), (15, 44, 44), (15, 47, 47), (15, 50, 50), (15, 53, 53), (15, 56, 56), (15, 59, 59), (15, 62, 62), (15, 65, 65), (15, 68, 68), (15, 71, 71)], []), [(.inr none, 245, ([], [], []))])
set_option maxRecDepth 100000 in
theorem p2_s1234_e : ck_ok p2_O none [] [] 45 [] 116 p2_s1234 = true := by decide +kernel
theorem p2_s1234_s {X : Int → Int} {LX : Nat} : ck_Ok p2_O X LX 45 p2_s1234 := ck_ok_s ⟨p2_nmu, ck_E0⟩ ck_X0 ck_l0 p2_s1234_e
set_option maxRecDepth 100000 in
/-- GlacierMail$Rows.put -/
def p2_s1313 : ck_Sum := ((0, 0, 0), 245, [.inr (.inr (.inl 14)), .inl (ck_one (-1)), .inl (ck_one 1), .inl (0, 23, [])], ([], [], []), ([], []), [(.inr none, 245, ([], [], []))])
set_option maxRecDepth 100000 in
theorem p2_s1313_e : ck_ok p2_O none [] [] 45 [] 76 p2_s1313 = true := by decide +kernel
theorem p2_s1313_s {X : Int → Int} {LX : Nat} : ck_Ok p2_O X LX 45 p2_s1313 := ck_ok_s ⟨p2_nmu, ck_E0⟩ ck_X0 ck_l0 p2_s1313_e
set_option maxRecDepth 100000 in
/-- GlacierMail$Rows.put -/
def p2_s1235 : ck_Sum := ((0, 0, 0), 245, [.inr (.inr (.inl 14)), .inl (ck_one (-1)), .inl (ck_one 2), .inl (0, 299, [])], ([], [], []), ([], []), [(.inr none, 245, ([], [], []))])
set_option maxRecDepth 100000 in
theorem p2_s1235_e : ck_ok p2_O none [] [] 45 [] 76 p2_s1235 = true := by decide +kernel
theorem p2_s1235_s {X : Int → Int} {LX : Nat} : ck_Ok p2_O X LX 45 p2_s1235 := ck_ok_s ⟨p2_nmu, ck_E0⟩ ck_X0 ck_l0 p2_s1235_e
set_option maxRecDepth 100000 in
/-- GlacierMail$State.openLetter -/
def p2_s1314 : ck_Sum := ((1, 0, 0), 245, [.inr (.inr (.inl 3)), .inl (0, 23, []), .inl (0, 299, [])], ([], [], [(3, 6, 6, (0, 299, [(10, 0)]))]), ([(11, 5, 6), (11, 12, 13), (11, 19, 20), (11, 26, 27), (11, 33, 34), (11, 40, 41), (11, 47, 48), (11, 54, 55), (11, 61, 62), (11, 68, 69), (11, 75, 76), (11, 82, 83), (11, 89, 90), (11, 96, 97), (11, 103, 104), (11, 110, 111), (11, 117, 118), (11, 124, 125), (11, 131, 132), (11, 138, 139), (11, 145, 146), (11, 152, 153), (11, 159, 160), (11, 166, 167), (14, 3, 3), (15, 0, 71)], []), [(.inr none, 245, ([], [], [(14, 3, 3, (1, 24, []))]))])
set_option maxRecDepth 100000 in
theorem p2_s1314_e : ck_ok p2_O none [] [(45, [p2_s1310, p2_s1311, p2_s723, p2_s1312, p2_s1234, p2_s726, p2_s1313, p2_s1235]), (102, [p2_s722])] 159 [] 144 p2_s1314 = true := by decide +kernel
theorem p2_s1314_s {X : Int → Int} {LX : Nat} : ck_Ok p2_O X LX 159 p2_s1314 := ck_ok_s ⟨p2_nmu, ck_E1 (ck_S1 p2_s1310_s (ck_S1 p2_s1311_s (ck_S1 p2_s723_s (ck_S1 p2_s1312_s (ck_S1 p2_s1234_s (ck_S1 p2_s726_s (ck_S1 p2_s1313_s (ck_S1 p2_s1235_s ck_S0)))))))) (ck_E1 (ck_S1 p2_s722_s ck_S0) ck_E0)⟩ ck_X0 ck_l0 p2_s1314_e
set_option maxRecDepth 100000 in
/-- GlacierMail.oneYearMore -/
def p2_s1315 : ck_Sum := ((3, 0, 0), 245, [.inr (.inr (.inl 1))], ([], [(3, 8, 0)], [(3, 6, 6, (0, 298, [(10, 0)]))]), ([(3, 6, 6), (11, 5, 6), (11, 12, 13), (11, 19, 20), (11, 26, 27), (11, 33, 34), (11, 40, 41), (11, 47, 48), (11, 54, 55), (11, 61, 62), (11, 68, 69), (11, 75, 76), (11, 82, 83), (11, 89, 90), (11, 96, 97), (11, 103, 104), (11, 110, 111), (11, 117, 118), (11, 124, 125), (11, 131, 132), (11, 138, 139), (11, 145, 146), (11, 152, 153), (11, 159, 160), (11, 166, 167), (14, 3, 3), (15, 0, 71)], []), [(.inr (some (.inl ((-2147483648), 2147483647, []))), 245, ([], [], [(3, 6, 6, (1, 299, [(10, 1)]))]))])
set_option maxRecDepth 100000 in
theorem p2_s1315_e : ck_ok p2_O none [] [(9, [p2_s371]), (66, [p2_s446]), (163, [p2_s1309]), (159, [p2_s1314])] 162 [(17, [some (.inr (.inr (.inl 1))), some (.inl ((-2147483648), 2147483647, [])), some (.inl (0, 24, [])), none], ([], [(3, 8, 0)], [(3, 6, 6, (1, 299, [(10, 1)]))]), 100, .inl 2, true)] 194 p2_s1315 = true := by decide +kernel
theorem p2_s1315_s {X : Int → Int} {LX : Nat} : ck_Ok p2_O X LX 162 p2_s1315 := ck_ok_s ⟨p2_nmu, ck_E1 (ck_S1 p2_s371_s ck_S0) (ck_E1 (ck_S1 p2_s446_s ck_S0) (ck_E1 (ck_S1 p2_s1309_s ck_S0) (ck_E1 (ck_S1 p2_s1314_s ck_S0) ck_E0)))⟩ ck_X0 ck_l0 p2_s1315_e
set_option maxRecDepth 100000 in
/-- GlacierMailModel.in -/
def p2_s1366 : ck_Sum := ((0, 0, 0), 245, [.inl ((-2147483648), 0, []), .inl (ck_one 1), .inl (ck_one 50)], ([], [], []), ([], []), [(.inr (some (.inl (ck_one 0))), 245, ([], [], []))])
set_option maxRecDepth 100000 in
theorem p2_s1366_e : ck_ok p2_O none [] [] 286 [] 80 p2_s1366 = true := by decide +kernel
theorem p2_s1366_s {X : Int → Int} {LX : Nat} : ck_Ok p2_O X LX 286 p2_s1366 := ck_ok_s ⟨p2_nmu, ck_E0⟩ ck_X0 ck_l0 p2_s1366_e
set_option maxRecDepth 100000 in
/-- GlacierMailModel.years -/
def p2_s1367 : ck_Sum := ((1, 0, 0), 245, [.inr (.inr (.inl 226)), .inl ((-2147483648), 0, [])], ([], [], []), ([(226, 0, 0)], []), [(.inr (some (.inl (ck_one 0))), 245, ([], [], [(226, 0, 0, ck_one 1)]))])
set_option maxRecDepth 100000 in
theorem p2_s1367_e : ck_ok p2_O none [] [(286, [p2_s1366]), (282, [p2_s268])] 320 [] 102 p2_s1367 = true := by decide +kernel
theorem p2_s1367_s {X : Int → Int} {LX : Nat} : ck_Ok p2_O X LX 320 p2_s1367 := ck_ok_s ⟨p2_nmu, ck_E1 (ck_S1 p2_s1366_s ck_S0) (ck_E1 (ck_S1 p2_s268_s ck_S0) ck_E0)⟩ ck_X0 ck_l0 p2_s1367_e
set_option maxRecDepth 100000 in
/-- GlacierMailModel.in -/
def p2_s1368 : ck_Sum := ((0, 0, 0), 245, [.inl (51, 2147483647, []), .inl (ck_one 1), .inl (ck_one 50)], ([], [], []), ([], []), [(.inr (some (.inl (ck_one 0))), 245, ([], [], []))])
set_option maxRecDepth 100000 in
theorem p2_s1368_e : ck_ok p2_O none [] [] 286 [] 86 p2_s1368 = true := by decide +kernel
theorem p2_s1368_s {X : Int → Int} {LX : Nat} : ck_Ok p2_O X LX 286 p2_s1368 := ck_ok_s ⟨p2_nmu, ck_E0⟩ ck_X0 ck_l0 p2_s1368_e
set_option maxRecDepth 100000 in
/-- GlacierMailModel.years -/
def p2_s1369 : ck_Sum := ((1, 0, 0), 245, [.inr (.inr (.inl 226)), .inl (51, 2147483647, [])], ([], [], []), ([(226, 0, 0)], []), [(.inr (some (.inl (ck_one 0))), 245, ([], [], [(226, 0, 0, ck_one 1)]))])
set_option maxRecDepth 100000 in
theorem p2_s1369_e : ck_ok p2_O none [] [(286, [p2_s1368]), (282, [p2_s268])] 320 [] 102 p2_s1369 = true := by decide +kernel
theorem p2_s1369_s {X : Int → Int} {LX : Nat} : ck_Ok p2_O X LX 320 p2_s1369 := ck_ok_s ⟨p2_nmu, ck_E1 (ck_S1 p2_s1368_s ck_S0) (ck_E1 (ck_S1 p2_s268_s ck_S0) ck_E0)⟩ ck_X0 ck_l0 p2_s1369_e
set_option maxRecDepth 100000 in
/-- GlacierMailModel.in -/
def p2_s1370 : ck_Sum := ((0, 0, 0), 245, [.inl (ck_one 1), .inl (ck_one 1), .inl (ck_one 50)], ([], [], []), ([], []), [(.inr (some (.inl (ck_one 1))), 245, ([], [], []))])
set_option maxRecDepth 100000 in
theorem p2_s1370_e : ck_ok p2_O none [] [] 286 [] 88 p2_s1370 = true := by decide +kernel
theorem p2_s1370_s {X : Int → Int} {LX : Nat} : ck_Ok p2_O X LX 286 p2_s1370 := ck_ok_s ⟨p2_nmu, ck_E0⟩ ck_X0 ck_l0 p2_s1370_e
set_option maxRecDepth 100000 in
/-- GlacierMailModel.ofLetter -/
def p2_s1371 : ck_Sum := ((0, 0, 0), 245, [.inr (.inr (.inl 226)), .inl (ck_one 0), .inl (ck_one 2)], ([], [], []), ([], []), [(.inr (some (.inl (0, 6, []))), 245, ([], [], []))])
set_option maxRecDepth 100000 in
theorem p2_s1371_e : ck_ok p2_O none [] [] 301 [] 92 p2_s1371 = true := by decide +kernel
theorem p2_s1371_s {X : Int → Int} {LX : Nat} : ck_Ok p2_O X LX 301 p2_s1371 := ck_ok_s ⟨p2_nmu, ck_E0⟩ ck_X0 ck_l0 p2_s1371_e
set_option maxRecDepth 100000 in
/-- GlacierMailModel.of -/
def p2_s1372 : ck_Sum := ((0, 0, 0), 245, [.inr (.inr (.inl 226)), .inl (ck_one (-1)), .inl (ck_one 2)], ([], [], []), ([], []), [(.inr (some (.inl (0, 20, []))), 245, ([], [], []))])
set_option maxRecDepth 100000 in
theorem p2_s1372_e : ck_ok p2_O none [] [] 299 [] 92 p2_s1372 = true := by decide +kernel
theorem p2_s1372_s {X : Int → Int} {LX : Nat} : ck_Ok p2_O X LX 299 p2_s1372 := ck_ok_s ⟨p2_nmu, ck_E0⟩ ck_X0 ck_l0 p2_s1372_e
set_option maxRecDepth 100000 in
/-- GlacierMailModel.ofLetter -/
def p2_s1376 : ck_Sum := ((0, 0, 0), 245, [.inr (.inr (.inl 226)), .inl (ck_one 1), .inl (ck_one 2)], ([], [], []), ([], []), [(.inr (some (.inl (0, 6, []))), 245, ([], [], []))])
set_option maxRecDepth 100000 in
theorem p2_s1376_e : ck_ok p2_O none [] [] 301 [] 92 p2_s1376 = true := by decide +kernel
theorem p2_s1376_s {X : Int → Int} {LX : Nat} : ck_Ok p2_O X LX 301 p2_s1376 := ck_ok_s ⟨p2_nmu, ck_E0⟩ ck_X0 ck_l0 p2_s1376_e
set_option maxRecDepth 100000 in
/-- GlacierMailModel.ofLetter -/
def p2_s1378 : ck_Sum := ((0, 0, 0), 245, [.inr (.inr (.inl 226)), .inl (ck_one 2), .inl (ck_one 2)], ([], [], []), ([], []), [(.inr (some (.inl (0, 6, []))), 245, ([], [], []))])
set_option maxRecDepth 100000 in
theorem p2_s1378_e : ck_ok p2_O none [] [] 301 [] 92 p2_s1378 = true := by decide +kernel
theorem p2_s1378_s {X : Int → Int} {LX : Nat} : ck_Ok p2_O X LX 301 p2_s1378 := ck_ok_s ⟨p2_nmu, ck_E0⟩ ck_X0 ck_l0 p2_s1378_e
set_option maxRecDepth 100000 in
/-- GlacierMailModel.ofLetter -/
def p2_s1380 : ck_Sum := ((0, 0, 0), 245, [.inr (.inr (.inl 226)), .inl (ck_one 3), .inl (ck_one 2)], ([], [], []), ([], []), [(.inr (some (.inl (0, 6, []))), 245, ([], [], []))])
set_option maxRecDepth 100000 in
theorem p2_s1380_e : ck_ok p2_O none [] [] 301 [] 92 p2_s1380 = true := by decide +kernel
theorem p2_s1380_s {X : Int → Int} {LX : Nat} : ck_Ok p2_O X LX 301 p2_s1380 := ck_ok_s ⟨p2_nmu, ck_E0⟩ ck_X0 ck_l0 p2_s1380_e
set_option maxRecDepth 100000 in
/-- GlacierMailModel.ofLetter -/
def p2_s1382 : ck_Sum := ((0, 0, 0), 245, [.inr (.inr (.inl 226)), .inl (ck_one 4), .inl (ck_one 2)], ([], [], []), ([], []), [(.inr (some (.inl (0, 6, []))), 245, ([], [], []))])
set_option maxRecDepth 100000 in
theorem p2_s1382_e : ck_ok p2_O none [] [] 301 [] 92 p2_s1382 = true := by decide +kernel
theorem p2_s1382_s {X : Int → Int} {LX : Nat} : ck_Ok p2_O X LX 301 p2_s1382 := ck_ok_s ⟨p2_nmu, ck_E0⟩ ck_X0 ck_l0 p2_s1382_e
set_option maxRecDepth 100000 in
/-- GlacierMailModel.ofLetter -/
def p2_s1384 : ck_Sum := ((0, 0, 0), 245, [.inr (.inr (.inl 226)), .inl (ck_one 5), .inl (ck_one 2)], ([], [], []), ([], []), [(.inr (some (.inl (0, 6, []))), 245, ([], [], []))])
set_option maxRecDepth 100000 in
theorem p2_s1384_e : ck_ok p2_O none [] [] 301 [] 92 p2_s1384 = true := by decide +kernel
theorem p2_s1384_s {X : Int → Int} {LX : Nat} : ck_Ok p2_O X LX 301 p2_s1384 := ck_ok_s ⟨p2_nmu, ck_E0⟩ ck_X0 ck_l0 p2_s1384_e
set_option maxRecDepth 100000 in
/-- GlacierMailModel.ofLetter -/
def p2_s1386 : ck_Sum := ((0, 0, 0), 245, [.inr (.inr (.inl 226)), .inl (ck_one 6), .inl (ck_one 2)], ([], [], []), ([], []), [(.inr (some (.inl (0, 6, []))), 245, ([], [], []))])
set_option maxRecDepth 100000 in
theorem p2_s1386_e : ck_ok p2_O none [] [] 301 [] 92 p2_s1386 = true := by decide +kernel
theorem p2_s1386_s {X : Int → Int} {LX : Nat} : ck_Ok p2_O X LX 301 p2_s1386 := ck_ok_s ⟨p2_nmu, ck_E0⟩ ck_X0 ck_l0 p2_s1386_e
set_option maxRecDepth 100000 in
/-- GlacierMailModel.ofLetter -/
def p2_s1388 : ck_Sum := ((0, 0, 0), 245, [.inr (.inr (.inl 226)), .inl (ck_one 7), .inl (ck_one 2)], ([], [], []), ([], []), [(.inr (some (.inl (0, 6, []))), 245, ([], [], []))])
set_option maxRecDepth 100000 in
theorem p2_s1388_e : ck_ok p2_O none [] [] 301 [] 92 p2_s1388 = true := by decide +kernel
theorem p2_s1388_s {X : Int → Int} {LX : Nat} : ck_Ok p2_O X LX 301 p2_s1388 := ck_ok_s ⟨p2_nmu, ck_E0⟩ ck_X0 ck_l0 p2_s1388_e
set_option maxRecDepth 100000 in
/-- GlacierMailModel.ofLetter -/
def p2_s1390 : ck_Sum := ((0, 0, 0), 245, [.inr (.inr (.inl 226)), .inl (ck_one 8), .inl (ck_one 2)], ([], [], []), ([], []), [(.inr (some (.inl (0, 6, []))), 245, ([], [], []))])
set_option maxRecDepth 100000 in
theorem p2_s1390_e : ck_ok p2_O none [] [] 301 [] 92 p2_s1390 = true := by decide +kernel
theorem p2_s1390_s {X : Int → Int} {LX : Nat} : ck_Ok p2_O X LX 301 p2_s1390 := ck_ok_s ⟨p2_nmu, ck_E0⟩ ck_X0 ck_l0 p2_s1390_e
set_option maxRecDepth 100000 in
/-- GlacierMailModel.ofLetter -/
def p2_s1392 : ck_Sum := ((0, 0, 0), 245, [.inr (.inr (.inl 226)), .inl (ck_one 9), .inl (ck_one 2)], ([], [], []), ([], []), [(.inr (some (.inl (0, 6, []))), 245, ([], [], []))])
set_option maxRecDepth 100000 in
theorem p2_s1392_e : ck_ok p2_O none [] [] 301 [] 92 p2_s1392 = true := by decide +kernel
theorem p2_s1392_s {X : Int → Int} {LX : Nat} : ck_Ok p2_O X LX 301 p2_s1392 := ck_ok_s ⟨p2_nmu, ck_E0⟩ ck_X0 ck_l0 p2_s1392_e
set_option maxRecDepth 100000 in
/-- GlacierMailModel.ofLetter -/
def p2_s1394 : ck_Sum := ((0, 0, 0), 245, [.inr (.inr (.inl 226)), .inl (ck_one 10), .inl (ck_one 2)], ([], [], []), ([], []), [(.inr (some (.inl (0, 6, []))), 245, ([], [], []))])
set_option maxRecDepth 100000 in
theorem p2_s1394_e : ck_ok p2_O none [] [] 301 [] 92 p2_s1394 = true := by decide +kernel
theorem p2_s1394_s {X : Int → Int} {LX : Nat} : ck_Ok p2_O X LX 301 p2_s1394 := ck_ok_s ⟨p2_nmu, ck_E0⟩ ck_X0 ck_l0 p2_s1394_e
set_option maxRecDepth 100000 in
/-- GlacierMailModel.ofLetter -/
def p2_s1396 : ck_Sum := ((0, 0, 0), 245, [.inr (.inr (.inl 226)), .inl (ck_one 11), .inl (ck_one 2)], ([], [], []), ([], []), [(.inr (some (.inl (0, 6, []))), 245, ([], [], []))])
set_option maxRecDepth 100000 in
theorem p2_s1396_e : ck_ok p2_O none [] [] 301 [] 92 p2_s1396 = true := by decide +kernel
theorem p2_s1396_s {X : Int → Int} {LX : Nat} : ck_Ok p2_O X LX 301 p2_s1396 := ck_ok_s ⟨p2_nmu, ck_E0⟩ ck_X0 ck_l0 p2_s1396_e
set_option maxRecDepth 100000 in
/-- GlacierMailModel.ofLetter -/
def p2_s1398 : ck_Sum := ((0, 0, 0), 245, [.inr (.inr (.inl 226)), .inl (ck_one 12), .inl (ck_one 2)], ([], [], []), ([], []), [(.inr (some (.inl (0, 6, []))), 245, ([], [], []))])
set_option maxRecDepth 100000 in
theorem p2_s1398_e : ck_ok p2_O none [] [] 301 [] 92 p2_s1398 = true := by decide +kernel
theorem p2_s1398_s {X : Int → Int} {LX : Nat} : ck_Ok p2_O X LX 301 p2_s1398 := ck_ok_s ⟨p2_nmu, ck_E0⟩ ck_X0 ck_l0 p2_s1398_e
set_option maxRecDepth 100000 in
/-- GlacierMailModel.ofLetter -/
def p2_s1400 : ck_Sum := ((0, 0, 0), 245, [.inr (.inr (.inl 226)), .inl (ck_one 13), .inl (ck_one 2)], ([], [], []), ([], []), [(.inr (some (.inl (0, 6, []))), 245, ([], [], []))])
set_option maxRecDepth 100000 in
theorem p2_s1400_e : ck_ok p2_O none [] [] 301 [] 92 p2_s1400 = true := by decide +kernel
theorem p2_s1400_s {X : Int → Int} {LX : Nat} : ck_Ok p2_O X LX 301 p2_s1400 := ck_ok_s ⟨p2_nmu, ck_E0⟩ ck_X0 ck_l0 p2_s1400_e
set_option maxRecDepth 100000 in
/-- GlacierMailModel.ofLetter -/
def p2_s1402 : ck_Sum := ((0, 0, 0), 245, [.inr (.inr (.inl 226)), .inl (ck_one 14), .inl (ck_one 2)], ([], [], []), ([], []), [(.inr (some (.inl (0, 6, []))), 245, ([], [], []))])
set_option maxRecDepth 100000 in
theorem p2_s1402_e : ck_ok p2_O none [] [] 301 [] 92 p2_s1402 = true := by decide +kernel
theorem p2_s1402_s {X : Int → Int} {LX : Nat} : ck_Ok p2_O X LX 301 p2_s1402 := ck_ok_s ⟨p2_nmu, ck_E0⟩ ck_X0 ck_l0 p2_s1402_e
set_option maxRecDepth 100000 in
/-- GlacierMailModel.ofLetter -/
def p2_s1404 : ck_Sum := ((0, 0, 0), 245, [.inr (.inr (.inl 226)), .inl (ck_one 15), .inl (ck_one 2)], ([], [], []), ([], []), [(.inr (some (.inl (0, 6, []))), 245, ([], [], []))])
set_option maxRecDepth 100000 in
theorem p2_s1404_e : ck_ok p2_O none [] [] 301 [] 92 p2_s1404 = true := by decide +kernel
theorem p2_s1404_s {X : Int → Int} {LX : Nat} : ck_Ok p2_O X LX 301 p2_s1404 := ck_ok_s ⟨p2_nmu, ck_E0⟩ ck_X0 ck_l0 p2_s1404_e
set_option maxRecDepth 100000 in
/-- GlacierMailModel.ofLetter -/
def p2_s1406 : ck_Sum := ((0, 0, 0), 245, [.inr (.inr (.inl 226)), .inl (ck_one 16), .inl (ck_one 2)], ([], [], []), ([], []), [(.inr (some (.inl (0, 6, []))), 245, ([], [], []))])
set_option maxRecDepth 100000 in
theorem p2_s1406_e : ck_ok p2_O none [] [] 301 [] 92 p2_s1406 = true := by decide +kernel
theorem p2_s1406_s {X : Int → Int} {LX : Nat} : ck_Ok p2_O X LX 301 p2_s1406 := ck_ok_s ⟨p2_nmu, ck_E0⟩ ck_X0 ck_l0 p2_s1406_e
set_option maxRecDepth 100000 in
/-- GlacierMailModel.ofLetter -/
def p2_s1408 : ck_Sum := ((0, 0, 0), 245, [.inr (.inr (.inl 226)), .inl (ck_one 17), .inl (ck_one 2)], ([], [], []), ([], []), [(.inr (some (.inl (0, 6, []))), 245, ([], [], []))])
set_option maxRecDepth 100000 in
theorem p2_s1408_e : ck_ok p2_O none [] [] 301 [] 92 p2_s1408 = true := by decide +kernel
theorem p2_s1408_s {X : Int → Int} {LX : Nat} : ck_Ok p2_O X LX 301 p2_s1408 := ck_ok_s ⟨p2_nmu, ck_E0⟩ ck_X0 ck_l0 p2_s1408_e
set_option maxRecDepth 100000 in
/-- GlacierMailModel.ofLetter -/
def p2_s1410 : ck_Sum := ((0, 0, 0), 245, [.inr (.inr (.inl 226)), .inl (ck_one 18), .inl (ck_one 2)], ([], [], []), ([], []), [(.inr (some (.inl (0, 6, []))), 245, ([], [], []))])
set_option maxRecDepth 100000 in
theorem p2_s1410_e : ck_ok p2_O none [] [] 301 [] 92 p2_s1410 = true := by decide +kernel
theorem p2_s1410_s {X : Int → Int} {LX : Nat} : ck_Ok p2_O X LX 301 p2_s1410 := ck_ok_s ⟨p2_nmu, ck_E0⟩ ck_X0 ck_l0 p2_s1410_e
set_option maxRecDepth 100000 in
/-- GlacierMailModel.ofLetter -/
def p2_s1412 : ck_Sum := ((0, 0, 0), 245, [.inr (.inr (.inl 226)), .inl (ck_one 19), .inl (ck_one 2)], ([], [], []), ([], []), [(.inr (some (.inl (0, 6, []))), 245, ([], [], []))])
set_option maxRecDepth 100000 in
theorem p2_s1412_e : ck_ok p2_O none [] [] 301 [] 92 p2_s1412 = true := by decide +kernel
theorem p2_s1412_s {X : Int → Int} {LX : Nat} : ck_Ok p2_O X LX 301 p2_s1412 := ck_ok_s ⟨p2_nmu, ck_E0⟩ ck_X0 ck_l0 p2_s1412_e
set_option maxRecDepth 100000 in
/-- GlacierMailModel.ofLetter -/
def p2_s1414 : ck_Sum := ((0, 0, 0), 245, [.inr (.inr (.inl 226)), .inl (ck_one 20), .inl (ck_one 2)], ([], [], []), ([], []), [(.inr (some (.inl (0, 6, []))), 245, ([], [], []))])
set_option maxRecDepth 100000 in
theorem p2_s1414_e : ck_ok p2_O none [] [] 301 [] 92 p2_s1414 = true := by decide +kernel
theorem p2_s1414_s {X : Int → Int} {LX : Nat} : ck_Ok p2_O X LX 301 p2_s1414 := ck_ok_s ⟨p2_nmu, ck_E0⟩ ck_X0 ck_l0 p2_s1414_e
set_option maxRecDepth 100000 in
/-- GlacierMailModel.ofLetter -/
def p2_s1416 : ck_Sum := ((0, 0, 0), 245, [.inr (.inr (.inl 226)), .inl (ck_one 21), .inl (ck_one 2)], ([], [], []), ([], []), [(.inr (some (.inl (0, 6, []))), 245, ([], [], []))])
set_option maxRecDepth 100000 in
theorem p2_s1416_e : ck_ok p2_O none [] [] 301 [] 92 p2_s1416 = true := by decide +kernel
theorem p2_s1416_s {X : Int → Int} {LX : Nat} : ck_Ok p2_O X LX 301 p2_s1416 := ck_ok_s ⟨p2_nmu, ck_E0⟩ ck_X0 ck_l0 p2_s1416_e
set_option maxRecDepth 100000 in
/-- GlacierMailModel.ofLetter -/
def p2_s1418 : ck_Sum := ((0, 0, 0), 245, [.inr (.inr (.inl 226)), .inl (ck_one 22), .inl (ck_one 2)], ([], [], []), ([], []), [(.inr (some (.inl (0, 6, []))), 245, ([], [], []))])
set_option maxRecDepth 100000 in
theorem p2_s1418_e : ck_ok p2_O none [] [] 301 [] 92 p2_s1418 = true := by decide +kernel
theorem p2_s1418_s {X : Int → Int} {LX : Nat} : ck_Ok p2_O X LX 301 p2_s1418 := ck_ok_s ⟨p2_nmu, ck_E0⟩ ck_X0 ck_l0 p2_s1418_e
set_option maxRecDepth 100000 in
/-- GlacierMailModel.ofLetter -/
def p2_s1420 : ck_Sum := ((0, 0, 0), 245, [.inr (.inr (.inl 226)), .inl (ck_one 23), .inl (ck_one 2)], ([], [], []), ([], []), [(.inr (some (.inl (0, 6, []))), 245, ([], [], []))])
set_option maxRecDepth 100000 in
theorem p2_s1420_e : ck_ok p2_O none [] [] 301 [] 92 p2_s1420 = true := by decide +kernel
theorem p2_s1420_s {X : Int → Int} {LX : Nat} : ck_Ok p2_O X LX 301 p2_s1420 := ck_ok_s ⟨p2_nmu, ck_E0⟩ ck_X0 ck_l0 p2_s1420_e
set_option maxRecDepth 100000 in
/-- GlacierMailModel.in -/
def p2_s1424 : ck_Sum := ((0, 0, 0), 245, [.inl (ck_one 2), .inl (ck_one 1), .inl (ck_one 50)], ([], [], []), ([], []), [(.inr (some (.inl (ck_one 1))), 245, ([], [], []))])
set_option maxRecDepth 100000 in
theorem p2_s1424_e : ck_ok p2_O none [] [] 286 [] 88 p2_s1424 = true := by decide +kernel
theorem p2_s1424_s {X : Int → Int} {LX : Nat} : ck_Ok p2_O X LX 286 p2_s1424 := ck_ok_s ⟨p2_nmu, ck_E0⟩ ck_X0 ck_l0 p2_s1424_e
set_option maxRecDepth 100000 in
/-- GlacierMailModel.in -/
def p2_s1426 : ck_Sum := ((0, 0, 0), 245, [.inl (ck_one 3), .inl (ck_one 1), .inl (ck_one 50)], ([], [], []), ([], []), [(.inr (some (.inl (ck_one 1))), 245, ([], [], []))])
set_option maxRecDepth 100000 in
theorem p2_s1426_e : ck_ok p2_O none [] [] 286 [] 88 p2_s1426 = true := by decide +kernel
theorem p2_s1426_s {X : Int → Int} {LX : Nat} : ck_Ok p2_O X LX 286 p2_s1426 := ck_ok_s ⟨p2_nmu, ck_E0⟩ ck_X0 ck_l0 p2_s1426_e
set_option maxRecDepth 100000 in
/-- GlacierMailModel.in -/
def p2_s1428 : ck_Sum := ((0, 0, 0), 245, [.inl (ck_one 4), .inl (ck_one 1), .inl (ck_one 50)], ([], [], []), ([], []), [(.inr (some (.inl (ck_one 1))), 245, ([], [], []))])
set_option maxRecDepth 100000 in
theorem p2_s1428_e : ck_ok p2_O none [] [] 286 [] 88 p2_s1428 = true := by decide +kernel
theorem p2_s1428_s {X : Int → Int} {LX : Nat} : ck_Ok p2_O X LX 286 p2_s1428 := ck_ok_s ⟨p2_nmu, ck_E0⟩ ck_X0 ck_l0 p2_s1428_e
set_option maxRecDepth 100000 in
/-- GlacierMailModel.in -/
def p2_s1430 : ck_Sum := ((0, 0, 0), 245, [.inl (ck_one 5), .inl (ck_one 1), .inl (ck_one 50)], ([], [], []), ([], []), [(.inr (some (.inl (ck_one 1))), 245, ([], [], []))])
set_option maxRecDepth 100000 in
theorem p2_s1430_e : ck_ok p2_O none [] [] 286 [] 88 p2_s1430 = true := by decide +kernel
theorem p2_s1430_s {X : Int → Int} {LX : Nat} : ck_Ok p2_O X LX 286 p2_s1430 := ck_ok_s ⟨p2_nmu, ck_E0⟩ ck_X0 ck_l0 p2_s1430_e
