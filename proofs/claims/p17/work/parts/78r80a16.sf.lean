/-! EVERY CALL ENDS, whatever was done before (laid by wip/am/p2k.py). -/
set_option maxRecDepth 100000 in
/-- GlacierMailModel.years -/
def p2_s1226 : ck_Sum := ((10, 0, 0), 245, [.inr (.inr (.inl 226)), .inl (ck_one 11)], ([], [], zl181), (zl182, []), [(.inr (some (.inl (0, 264, []))), 245, ([], [], [(227, 9, 9, (11, 299, [(1000011, 0)])), (226, 6, 6, (0, 12, [(1000027, 0)])), (226, 0, 0, (0, 1, []))]))])
set_option maxRecDepth 100000 in
theorem p2_s1226_e : ck_ok p2_O none [] [(286, [p2_s1225]), (266, [p2_s190]), (282, [p2_s242, p2_s241]), (316, [p2_s553]), (321, [p2_s1205])] 320 [] 350 p2_s1226 = true := by decide +kernel
theorem p2_s1226_s {X : Int → Int} {LX : Nat} : ck_Ok p2_O X LX 320 p2_s1226 := ck_ok_s ⟨p2_nmu, ck_E1 (ck_S1 p2_s1225_s ck_S0) (ck_E1 (ck_S1 p2_s190_s ck_S0) (ck_E1 (ck_S1 p2_s242_s (ck_S1 p2_s241_s ck_S0)) (ck_E1 (ck_S1 p2_s553_s ck_S0) (ck_E1 (ck_S1 p2_s1205_s ck_S0) ck_E0))))⟩ ck_X0 ck_l0 p2_s1226_e
set_option maxRecDepth 100000 in
/-- GlacierMailModel.in -/
def p2_s1227 : ck_Sum := ((0, 0, 0), 245, [.inl (ck_one 12), .inl (ck_one 1), .inl (ck_one 50)], ([], [], []), ([], []), [(.inr (some (.inl (ck_one 1))), 245, ([], [], []))])
set_option maxRecDepth 100000 in
theorem p2_s1227_e : ck_ok p2_O none [] [] 286 [] 88 p2_s1227 = true := by decide +kernel
theorem p2_s1227_s {X : Int → Int} {LX : Nat} : ck_Ok p2_O X LX 286 p2_s1227 := ck_ok_s ⟨p2_nmu, ck_E0⟩ ck_X0 ck_l0 p2_s1227_e
set_option maxRecDepth 100000 in
/-- GlacierMailModel.years -/
def p2_s1228 : ck_Sum := ((10, 0, 0), 245, [.inr (.inr (.inl 226)), .inl (ck_one 12)], ([], [], zl181), (zl182, []), [(.inr (some (.inl (0, 288, []))), 245, ([], [], [(227, 9, 9, (12, 299, [(1000011, 0)])), (226, 6, 6, (0, 12, [(1000027, 0)])), (226, 0, 0, (0, 1, []))]))])
set_option maxRecDepth 100000 in
theorem p2_s1228_e : ck_ok p2_O none [] [(286, [p2_s1227]), (266, [p2_s190]), (282, [p2_s242, p2_s241]), (316, [p2_s553]), (321, [p2_s1205])] 320 [] 370 p2_s1228 = true := by decide +kernel
theorem p2_s1228_s {X : Int → Int} {LX : Nat} : ck_Ok p2_O X LX 320 p2_s1228 := ck_ok_s ⟨p2_nmu, ck_E1 (ck_S1 p2_s1227_s ck_S0) (ck_E1 (ck_S1 p2_s190_s ck_S0) (ck_E1 (ck_S1 p2_s242_s (ck_S1 p2_s241_s ck_S0)) (ck_E1 (ck_S1 p2_s553_s ck_S0) (ck_E1 (ck_S1 p2_s1205_s ck_S0) ck_E0))))⟩ ck_X0 ck_l0 p2_s1228_e
set_option maxRecDepth 100000 in
/-- GlacierMailModel.in -/
def p2_s1229 : ck_Sum := ((0, 0, 0), 245, [.inl (ck_one 13), .inl (ck_one 1), .inl (ck_one 50)], ([], [], []), ([], []), [(.inr (some (.inl (ck_one 1))), 245, ([], [], []))])
set_option maxRecDepth 100000 in
theorem p2_s1229_e : ck_ok p2_O none [] [] 286 [] 88 p2_s1229 = true := by decide +kernel
theorem p2_s1229_s {X : Int → Int} {LX : Nat} : ck_Ok p2_O X LX 286 p2_s1229 := ck_ok_s ⟨p2_nmu, ck_E0⟩ ck_X0 ck_l0 p2_s1229_e
set_option maxRecDepth 100000 in
/-- GlacierMailModel.years -/
def p2_s1230 : ck_Sum := ((10, 0, 0), 245, [.inr (.inr (.inl 226)), .inl (ck_one 13)], ([], [], zl181), (zl182, []), [(.inr (some (.inl (0, 312, []))), 245, ([], [], [(227, 9, 9, (13, 299, [(1000011, 0)])), (226, 6, 6, (0, 12, [(1000027, 0)])), (226, 0, 0, (0, 1, []))]))])
set_option maxRecDepth 100000 in
theorem p2_s1230_e : ck_ok p2_O none [] [(286, [p2_s1229]), (266, [p2_s190]), (282, [p2_s242, p2_s241]), (316, [p2_s553]), (321, [p2_s1205])] 320 [] 390 p2_s1230 = true := by decide +kernel
theorem p2_s1230_s {X : Int → Int} {LX : Nat} : ck_Ok p2_O X LX 320 p2_s1230 := ck_ok_s ⟨p2_nmu, ck_E1 (ck_S1 p2_s1229_s ck_S0) (ck_E1 (ck_S1 p2_s190_s ck_S0) (ck_E1 (ck_S1 p2_s242_s (ck_S1 p2_s241_s ck_S0)) (ck_E1 (ck_S1 p2_s553_s ck_S0) (ck_E1 (ck_S1 p2_s1205_s ck_S0) ck_E0))))⟩ ck_X0 ck_l0 p2_s1230_e
set_option maxRecDepth 100000 in
/-- GlacierMailModel.in -/
def p2_s1231 : ck_Sum := ((0, 0, 0), 245, [.inl (ck_one 14), .inl (ck_one 1), .inl (ck_one 50)], ([], [], []), ([], []), [(.inr (some (.inl (ck_one 1))), 245, ([], [], []))])
set_option maxRecDepth 100000 in
theorem p2_s1231_e : ck_ok p2_O none [] [] 286 [] 88 p2_s1231 = true := by decide +kernel
theorem p2_s1231_s {X : Int → Int} {LX : Nat} : ck_Ok p2_O X LX 286 p2_s1231 := ck_ok_s ⟨p2_nmu, ck_E0⟩ ck_X0 ck_l0 p2_s1231_e
set_option maxRecDepth 100000 in
/-- GlacierMailModel.years -/
def p2_s1232 : ck_Sum := ((10, 0, 0), 245, [.inr (.inr (.inl 226)), .inl (ck_one 14)], ([], [], zl181), (zl182, []), [(.inr (some (.inl (0, 336, []))), 245, ([], [], [(227, 9, 9, (14, 299, [(1000011, 0)])), (226, 6, 6, (0, 12, [(1000027, 0)])), (226, 0, 0, (0, 1, []))]))])
set_option maxRecDepth 100000 in
theorem p2_s1232_e : ck_ok p2_O none [] [(286, [p2_s1231]), (266, [p2_s190]), (282, [p2_s242, p2_s241]), (316, [p2_s553]), (321, [p2_s1205])] 320 [] 410 p2_s1232 = true := by decide +kernel
theorem p2_s1232_s {X : Int → Int} {LX : Nat} : ck_Ok p2_O X LX 320 p2_s1232 := ck_ok_s ⟨p2_nmu, ck_E1 (ck_S1 p2_s1231_s ck_S0) (ck_E1 (ck_S1 p2_s190_s ck_S0) (ck_E1 (ck_S1 p2_s242_s (ck_S1 p2_s241_s ck_S0)) (ck_E1 (ck_S1 p2_s553_s ck_S0) (ck_E1 (ck_S1 p2_s1205_s ck_S0) ck_E0))))⟩ ck_X0 ck_l0 p2_s1232_e
set_option maxRecDepth 100000 in
/-- GlacierMailModel.in -/
def p2_s1233 : ck_Sum := ((0, 0, 0), 245, [.inl (ck_one 15), .inl (ck_one 1), .inl (ck_one 50)], ([], [], []), ([], []), [(.inr (some (.inl (ck_one 1))), 245, ([], [], []))])
set_option maxRecDepth 100000 in
theorem p2_s1233_e : ck_ok p2_O none [] [] 286 [] 88 p2_s1233 = true := by decide +kernel
theorem p2_s1233_s {X : Int → Int} {LX : Nat} : ck_Ok p2_O X LX 286 p2_s1233 := ck_ok_s ⟨p2_nmu, ck_E0⟩ ck_X0 ck_l0 p2_s1233_e
set_option maxRecDepth 100000 in
/-- GlacierMailModel.years -/
def p2_s1234 : ck_Sum := ((10, 0, 0), 245, [.inr (.inr (.inl 226)), .inl (ck_one 15)], ([], [], zl181), (zl182, []), [(.inr (some (.inl (0, 360, []))), 245, ([], [], [(227, 9, 9, (15, 299, [(1000011, 0)])), (226, 6, 6, (0, 12, [(1000027, 0)])), (226, 0, 0, (0, 1, []))]))])
set_option maxRecDepth 100000 in
theorem p2_s1234_e : ck_ok p2_O none [] [(286, [p2_s1233]), (266, [p2_s190]), (282, [p2_s242, p2_s241]), (316, [p2_s553]), (321, [p2_s1205])] 320 [] 430 p2_s1234 = true := by decide +kernel
theorem p2_s1234_s {X : Int → Int} {LX : Nat} : ck_Ok p2_O X LX 320 p2_s1234 := ck_ok_s ⟨p2_nmu, ck_E1 (ck_S1 p2_s1233_s ck_S0) (ck_E1 (ck_S1 p2_s190_s ck_S0) (ck_E1 (ck_S1 p2_s242_s (ck_S1 p2_s241_s ck_S0)) (ck_E1 (ck_S1 p2_s553_s ck_S0) (ck_E1 (ck_S1 p2_s1205_s ck_S0) ck_E0))))⟩ ck_X0 ck_l0 p2_s1234_e
set_option maxRecDepth 100000 in
/-- GlacierMailModel.in -/
def p2_s1235 : ck_Sum := ((0, 0, 0), 245, [.inl (ck_one 16), .inl (ck_one 1), .inl (ck_one 50)], ([], [], []), ([], []), [(.inr (some (.inl (ck_one 1))), 245, ([], [], []))])
set_option maxRecDepth 100000 in
theorem p2_s1235_e : ck_ok p2_O none [] [] 286 [] 88 p2_s1235 = true := by decide +kernel
theorem p2_s1235_s {X : Int → Int} {LX : Nat} : ck_Ok p2_O X LX 286 p2_s1235 := ck_ok_s ⟨p2_nmu, ck_E0⟩ ck_X0 ck_l0 p2_s1235_e
set_option maxRecDepth 100000 in
/-- GlacierMailModel.years -/
def p2_s1236 : ck_Sum := ((10, 0, 0), 245, [.inr (.inr (.inl 226)), .inl (ck_one 16)], ([], [], zl181), (zl182, []), [(.inr (some (.inl (0, 384, []))), 245, ([], [], [(227, 9, 9, (16, 299, [(1000011, 0)])), (226, 6, 6, (0, 12, [(1000027, 0)])), (226, 0, 0, (0, 1, []))]))])
set_option maxRecDepth 100000 in
theorem p2_s1236_e : ck_ok p2_O none [] [(286, [p2_s1235]), (266, [p2_s190]), (282, [p2_s242, p2_s241]), (316, [p2_s553]), (321, [p2_s1205])] 320 [] 450 p2_s1236 = true := by decide +kernel
theorem p2_s1236_s {X : Int → Int} {LX : Nat} : ck_Ok p2_O X LX 320 p2_s1236 := ck_ok_s ⟨p2_nmu, ck_E1 (ck_S1 p2_s1235_s ck_S0) (ck_E1 (ck_S1 p2_s190_s ck_S0) (ck_E1 (ck_S1 p2_s242_s (ck_S1 p2_s241_s ck_S0)) (ck_E1 (ck_S1 p2_s553_s ck_S0) (ck_E1 (ck_S1 p2_s1205_s ck_S0) ck_E0))))⟩ ck_X0 ck_l0 p2_s1236_e
set_option maxRecDepth 100000 in
/-- GlacierMailModel.in -/
def p2_s1237 : ck_Sum := ((0, 0, 0), 245, [.inl (ck_one 17), .inl (ck_one 1), .inl (ck_one 50)], ([], [], []), ([], []), [(.inr (some (.inl (ck_one 1))), 245, ([], [], []))])
set_option maxRecDepth 100000 in
theorem p2_s1237_e : ck_ok p2_O none [] [] 286 [] 88 p2_s1237 = true := by decide +kernel
theorem p2_s1237_s {X : Int → Int} {LX : Nat} : ck_Ok p2_O X LX 286 p2_s1237 := ck_ok_s ⟨p2_nmu, ck_E0⟩ ck_X0 ck_l0 p2_s1237_e
set_option maxRecDepth 100000 in
/-- GlacierMailModel.years -/
def p2_s1238 : ck_Sum := ((10, 0, 0), 245, [.inr (.inr (.inl 226)), .inl (ck_one 17)], ([], [], zl181), (zl182, []), [(.inr (some (.inl (0, 408, []))), 245, ([], [], [(227, 9, 9, (17, 299, [(1000011, 0)])), (226, 6, 6, (0, 12, [(1000027, 0)])), (226, 0, 0, (0, 1, []))]))])
set_option maxRecDepth 100000 in
theorem p2_s1238_e : ck_ok p2_O none [] [(286, [p2_s1237]), (266, [p2_s190]), (282, [p2_s242, p2_s241]), (316, [p2_s553]), (321, [p2_s1205])] 320 [] 470 p2_s1238 = true := by decide +kernel
theorem p2_s1238_s {X : Int → Int} {LX : Nat} : ck_Ok p2_O X LX 320 p2_s1238 := ck_ok_s ⟨p2_nmu, ck_E1 (ck_S1 p2_s1237_s ck_S0) (ck_E1 (ck_S1 p2_s190_s ck_S0) (ck_E1 (ck_S1 p2_s242_s (ck_S1 p2_s241_s ck_S0)) (ck_E1 (ck_S1 p2_s553_s ck_S0) (ck_E1 (ck_S1 p2_s1205_s ck_S0) ck_E0))))⟩ ck_X0 ck_l0 p2_s1238_e
set_option maxRecDepth 100000 in
/-- GlacierMailModel.in -/
def p2_s1239 : ck_Sum := ((0, 0, 0), 245, [.inl (ck_one 18), .inl (ck_one 1), .inl (ck_one 50)], ([], [], []), ([], []), [(.inr (some (.inl (ck_one 1))), 245, ([], [], []))])
set_option maxRecDepth 100000 in
theorem p2_s1239_e : ck_ok p2_O none [] [] 286 [] 88 p2_s1239 = true := by decide +kernel
theorem p2_s1239_s {X : Int → Int} {LX : Nat} : ck_Ok p2_O X LX 286 p2_s1239 := ck_ok_s ⟨p2_nmu, ck_E0⟩ ck_X0 ck_l0 p2_s1239_e
set_option maxRecDepth 100000 in
/-- GlacierMailModel.years -/
def p2_s1240 : ck_Sum := ((10, 0, 0), 245, [.inr (.inr (.inl 226)), .inl (ck_one 18)], ([], [], zl181), (zl182, []), [(.inr (some (.inl (0, 432, []))), 245, ([], [], [(227, 9, 9, (18, 299, [(1000011, 0)])), (226, 6, 6, (0, 12, [(1000027, 0)])), (226, 0, 0, (0, 1, []))]))])
set_option maxRecDepth 100000 in
theorem p2_s1240_e : ck_ok p2_O none [] [(286, [p2_s1239]), (266, [p2_s190]), (282, [p2_s242, p2_s241]), (316, [p2_s553]), (321, [p2_s1205])] 320 [] 490 p2_s1240 = true := by decide +kernel
theorem p2_s1240_s {X : Int → Int} {LX : Nat} : ck_Ok p2_O X LX 320 p2_s1240 := ck_ok_s ⟨p2_nmu, ck_E1 (ck_S1 p2_s1239_s ck_S0) (ck_E1 (ck_S1 p2_s190_s ck_S0) (ck_E1 (ck_S1 p2_s242_s (ck_S1 p2_s241_s ck_S0)) (ck_E1 (ck_S1 p2_s553_s ck_S0) (ck_E1 (ck_S1 p2_s1205_s ck_S0) ck_E0))))⟩ ck_X0 ck_l0 p2_s1240_e
set_option maxRecDepth 100000 in
/-- GlacierMailModel.in -/
def p2_s1241 : ck_Sum := ((0, 0, 0), 245, [.inl (ck_one 19), .inl (ck_one 1), .inl (ck_one 50)], ([], [], []), ([], []), [(.inr (some (.inl (ck_one 1))), 245, ([], [], []))])
set_option maxRecDepth 100000 in
theorem p2_s1241_e : ck_ok p2_O none [] [] 286 [] 88 p2_s1241 = true := by decide +kernel
theorem p2_s1241_s {X : Int → Int} {LX : Nat} : ck_Ok p2_O X LX 286 p2_s1241 := ck_ok_s ⟨p2_nmu, ck_E0⟩ ck_X0 ck_l0 p2_s1241_e
set_option maxRecDepth 100000 in
/-- GlacierMailModel.years -/
def p2_s1242 : ck_Sum := ((10, 0, 0), 245, [.inr (.inr (.inl 226)), .inl (ck_one 19)], ([], [], zl181), (zl182, []), [(.inr (some (.inl (0, 456, []))), 245, ([], [], [(227, 9, 9, (19, 299, [(1000011, 0)])), (226, 6, 6, (0, 12, [(1000027, 0)])), (226, 0, 0, (0, 1, []))]))])
set_option maxRecDepth 100000 in
theorem p2_s1242_e : ck_ok p2_O none [] [(286, [p2_s1241]), (266, [p2_s190]), (282, [p2_s242, p2_s241]), (316, [p2_s553]), (321, [p2_s1205])] 320 [] 510 p2_s1242 = true := by decide +kernel
theorem p2_s1242_s {X : Int → Int} {LX : Nat} : ck_Ok p2_O X LX 320 p2_s1242 := ck_ok_s ⟨p2_nmu, ck_E1 (ck_S1 p2_s1241_s ck_S0) (ck_E1 (ck_S1 p2_s190_s ck_S0) (ck_E1 (ck_S1 p2_s242_s (ck_S1 p2_s241_s ck_S0)) (ck_E1 (ck_S1 p2_s553_s ck_S0) (ck_E1 (ck_S1 p2_s1205_s ck_S0) ck_E0))))⟩ ck_X0 ck_l0 p2_s1242_e
set_option maxRecDepth 100000 in
/-- GlacierMailModel.in -/
def p2_s1243 : ck_Sum := ((0, 0, 0), 245, [.inl (ck_one 20), .inl (ck_one 1), .inl (ck_one 50)], ([], [], []), ([], []), [(.inr (some (.inl (ck_one 1))), 245, ([], [], []))])
set_option maxRecDepth 100000 in
theorem p2_s1243_e : ck_ok p2_O none [] [] 286 [] 88 p2_s1243 = true := by decide +kernel
theorem p2_s1243_s {X : Int → Int} {LX : Nat} : ck_Ok p2_O X LX 286 p2_s1243 := ck_ok_s ⟨p2_nmu, ck_E0⟩ ck_X0 ck_l0 p2_s1243_e
set_option maxRecDepth 100000 in
/-- GlacierMailModel.years -/
def p2_s1244 : ck_Sum := ((10, 0, 0), 245, [.inr (.inr (.inl 226)), .inl (ck_one 20)], ([], [], zl181), (zl182, []), [(.inr (some (.inl (0, 480, []))), 245, ([], [], [(227, 9, 9, (20, 299, [(1000011, 0)])), (226, 6, 6, (0, 12, [(1000027, 0)])), (226, 0, 0, (0, 1, []))]))])
set_option maxRecDepth 100000 in
theorem p2_s1244_e : ck_ok p2_O none [] [(286, [p2_s1243]), (266, [p2_s190]), (282, [p2_s242, p2_s241]), (316, [p2_s553]), (321, [p2_s1205])] 320 [] 530 p2_s1244 = true := by decide +kernel
theorem p2_s1244_s {X : Int → Int} {LX : Nat} : ck_Ok p2_O X LX 320 p2_s1244 := ck_ok_s ⟨p2_nmu, ck_E1 (ck_S1 p2_s1243_s ck_S0) (ck_E1 (ck_S1 p2_s190_s ck_S0) (ck_E1 (ck_S1 p2_s242_s (ck_S1 p2_s241_s ck_S0)) (ck_E1 (ck_S1 p2_s553_s ck_S0) (ck_E1 (ck_S1 p2_s1205_s ck_S0) ck_E0))))⟩ ck_X0 ck_l0 p2_s1244_e
set_option maxRecDepth 100000 in
/-- GlacierMailModel.in -/
def p2_s1245 : ck_Sum := ((0, 0, 0), 245, [.inl (ck_one 21), .inl (ck_one 1), .inl (ck_one 50)], ([], [], []), ([], []), [(.inr (some (.inl (ck_one 1))), 245, ([], [], []))])
set_option maxRecDepth 100000 in
theorem p2_s1245_e : ck_ok p2_O none [] [] 286 [] 88 p2_s1245 = true := by decide +kernel
theorem p2_s1245_s {X : Int → Int} {LX : Nat} : ck_Ok p2_O X LX 286 p2_s1245 := ck_ok_s ⟨p2_nmu, ck_E0⟩ ck_X0 ck_l0 p2_s1245_e
set_option maxRecDepth 100000 in
/-- GlacierMailModel.years -/
def p2_s1246 : ck_Sum := ((10, 0, 0), 245, [.inr (.inr (.inl 226)), .inl (ck_one 21)], ([], [], zl181), (zl182, []), [(.inr (some (.inl (0, 504, []))), 245, ([], [], [(227, 9, 9, (21, 299, [(1000011, 0)])), (226, 6, 6, (0, 12, [(1000027, 0)])), (226, 0, 0, (0, 1, []))]))])
set_option maxRecDepth 100000 in
theorem p2_s1246_e : ck_ok p2_O none [] [(286, [p2_s1245]), (266, [p2_s190]), (282, [p2_s242, p2_s241]), (316, [p2_s553]), (321, [p2_s1205])] 320 [] 550 p2_s1246 = true := by decide +kernel
theorem p2_s1246_s {X : Int → Int} {LX : Nat} : ck_Ok p2_O X LX 320 p2_s1246 := ck_ok_s ⟨p2_nmu, ck_E1 (ck_S1 p2_s1245_s ck_S0) (ck_E1 (ck_S1 p2_s190_s ck_S0) (ck_E1 (ck_S1 p2_s242_s (ck_S1 p2_s241_s ck_S0)) (ck_E1 (ck_S1 p2_s553_s ck_S0) (ck_E1 (ck_S1 p2_s1205_s ck_S0) ck_E0))))⟩ ck_X0 ck_l0 p2_s1246_e
set_option maxRecDepth 100000 in
/-- GlacierMailModel.in -/
def p2_s1247 : ck_Sum := ((0, 0, 0), 245, [.inl (ck_one 22), .inl (ck_one 1), .inl (ck_one 50)], ([], [], []), ([], []), [(.inr (some (.inl (ck_one 1))), 245, ([], [], []))])
set_option maxRecDepth 100000 in
theorem p2_s1247_e : ck_ok p2_O none [] [] 286 [] 88 p2_s1247 = true := by decide +kernel
theorem p2_s1247_s {X : Int → Int} {LX : Nat} : ck_Ok p2_O X LX 286 p2_s1247 := ck_ok_s ⟨p2_nmu, ck_E0⟩ ck_X0 ck_l0 p2_s1247_e
set_option maxRecDepth 100000 in
/-- GlacierMailModel.years -/
def p2_s1248 : ck_Sum := ((10, 0, 0), 245, [.inr (.inr (.inl 226)), .inl (ck_one 22)], ([], [], zl181), (zl182, []), [(.inr (some (.inl (0, 528, []))), 245, ([], [], [(227, 9, 9, (22, 299, [(1000011, 0)])), (226, 6, 6, (0, 12, [(1000027, 0)])), (226, 0, 0, (0, 1, []))]))])
set_option maxRecDepth 100000 in
theorem p2_s1248_e : ck_ok p2_O none [] [(286, [p2_s1247]), (266, [p2_s190]), (282, [p2_s242, p2_s241]), (316, [p2_s553]), (321, [p2_s1205])] 320 [] 570 p2_s1248 = true := by decide +kernel
theorem p2_s1248_s {X : Int → Int} {LX : Nat} : ck_Ok p2_O X LX 320 p2_s1248 := ck_ok_s ⟨p2_nmu, ck_E1 (ck_S1 p2_s1247_s ck_S0) (ck_E1 (ck_S1 p2_s190_s ck_S0) (ck_E1 (ck_S1 p2_s242_s (ck_S1 p2_s241_s ck_S0)) (ck_E1 (ck_S1 p2_s553_s ck_S0) (ck_E1 (ck_S1 p2_s1205_s ck_S0) ck_E0))))⟩ ck_X0 ck_l0 p2_s1248_e
set_option maxRecDepth 100000 in
/-- GlacierMailModel.in -/
def p2_s1249 : ck_Sum := ((0, 0, 0), 245, [.inl (ck_one 23), .inl (ck_one 1), .inl (ck_one 50)], ([], [], []), ([], []), [(.inr (some (.inl (ck_one 1))), 245, ([], [], []))])
set_option maxRecDepth 100000 in
theorem p2_s1249_e : ck_ok p2_O none [] [] 286 [] 88 p2_s1249 = true := by decide +kernel
theorem p2_s1249_s {X : Int → Int} {LX : Nat} : ck_Ok p2_O X LX 286 p2_s1249 := ck_ok_s ⟨p2_nmu, ck_E0⟩ ck_X0 ck_l0 p2_s1249_e
set_option maxRecDepth 100000 in
/-- GlacierMailModel.years -/
def p2_s1250 : ck_Sum := ((10, 0, 0), 245, [.inr (.inr (.inl 226)), .inl (ck_one 23)], ([], [], zl181), (zl182, []), [(.inr (some (.inl (0, 552, []))), 245, ([], [], [(227, 9, 9, (23, 299, [(1000011, 0)])), (226, 6, 6, (0, 12, [(1000027, 0)])), (226, 0, 0, (0, 1, []))]))])
set_option maxRecDepth 100000 in
theorem p2_s1250_e : ck_ok p2_O none [] [(286, [p2_s1249]), (266, [p2_s190]), (282, [p2_s242, p2_s241]), (316, [p2_s553]), (321, [p2_s1205])] 320 [] 590 p2_s1250 = true := by decide +kernel
theorem p2_s1250_s {X : Int → Int} {LX : Nat} : ck_Ok p2_O X LX 320 p2_s1250 := ck_ok_s ⟨p2_nmu, ck_E1 (ck_S1 p2_s1249_s ck_S0) (ck_E1 (ck_S1 p2_s190_s ck_S0) (ck_E1 (ck_S1 p2_s242_s (ck_S1 p2_s241_s ck_S0)) (ck_E1 (ck_S1 p2_s553_s ck_S0) (ck_E1 (ck_S1 p2_s1205_s ck_S0) ck_E0))))⟩ ck_X0 ck_l0 p2_s1250_e
set_option maxRecDepth 100000 in
/-- GlacierMailModel.in -/
def p2_s1251 : ck_Sum := ((0, 0, 0), 245, [.inl (ck_one 24), .inl (ck_one 1), .inl (ck_one 50)], ([], [], []), ([], []), [(.inr (some (.inl (ck_one 1))), 245, ([], [], []))])
set_option maxRecDepth 100000 in
theorem p2_s1251_e : ck_ok p2_O none [] [] 286 [] 88 p2_s1251 = true := by decide +kernel
theorem p2_s1251_s {X : Int → Int} {LX : Nat} : ck_Ok p2_O X LX 286 p2_s1251 := ck_ok_s ⟨p2_nmu, ck_E0⟩ ck_X0 ck_l0 p2_s1251_e
set_option maxRecDepth 100000 in
/-- GlacierMailModel.years -/
def p2_s1252 : ck_Sum := ((10, 0, 0), 245, [.inr (.inr (.inl 226)), .inl (ck_one 24)], ([], [], zl181), (zl182, []), [(.inr (some (.inl (0, 576, []))), 245, ([], [], [(227, 9, 9, (24, 299, [(1000011, 0)])), (226, 6, 6, (0, 12, [(1000027, 0)])), (226, 0, 0, (0, 1, []))]))])
set_option maxRecDepth 100000 in
theorem p2_s1252_e : ck_ok p2_O none [] [(286, [p2_s1251]), (266, [p2_s190]), (282, [p2_s242, p2_s241]), (316, [p2_s553]), (321, [p2_s1205])] 320 [] 610 p2_s1252 = true := by decide +kernel
theorem p2_s1252_s {X : Int → Int} {LX : Nat} : ck_Ok p2_O X LX 320 p2_s1252 := ck_ok_s ⟨p2_nmu, ck_E1 (ck_S1 p2_s1251_s ck_S0) (ck_E1 (ck_S1 p2_s190_s ck_S0) (ck_E1 (ck_S1 p2_s242_s (ck_S1 p2_s241_s ck_S0)) (ck_E1 (ck_S1 p2_s553_s ck_S0) (ck_E1 (ck_S1 p2_s1205_s ck_S0) ck_E0))))⟩ ck_X0 ck_l0 p2_s1252_e
set_option maxRecDepth 100000 in
/-- GlacierMailModel.in -/
def p2_s1253 : ck_Sum := ((0, 0, 0), 245, [.inl (ck_one 25), .inl (ck_one 1), .inl (ck_one 50)], ([], [], []), ([], []), [(.inr (some (.inl (ck_one 1))), 245, ([], [], []))])
set_option maxRecDepth 100000 in
theorem p2_s1253_e : ck_ok p2_O none [] [] 286 [] 88 p2_s1253 = true := by decide +kernel
theorem p2_s1253_s {X : Int → Int} {LX : Nat} : ck_Ok p2_O X LX 286 p2_s1253 := ck_ok_s ⟨p2_nmu, ck_E0⟩ ck_X0 ck_l0 p2_s1253_e
set_option maxRecDepth 100000 in
/-- GlacierMailModel.years -/
def p2_s1254 : ck_Sum := ((10, 0, 0), 245, [.inr (.inr (.inl 226)), .inl (ck_one 25)], ([], [], zl181), (zl182, []), [(.inr (some (.inl (0, 600, []))), 245, ([], [], [(227, 9, 9, (25, 299, [(1000011, 0)])), (226, 6, 6, (0, 12, [(1000027, 0)])), (226, 0, 0, (0, 1, []))]))])
set_option maxRecDepth 100000 in
theorem p2_s1254_e : ck_ok p2_O none [] [(286, [p2_s1253]), (266, [p2_s190]), (282, [p2_s242, p2_s241]), (316, [p2_s553]), (321, [p2_s1205])] 320 [] 630 p2_s1254 = true := by decide +kernel
theorem p2_s1254_s {X : Int → Int} {LX : Nat} : ck_Ok p2_O X LX 320 p2_s1254 := ck_ok_s ⟨p2_nmu, ck_E1 (ck_S1 p2_s1253_s ck_S0) (ck_E1 (ck_S1 p2_s190_s ck_S0) (ck_E1 (ck_S1 p2_s242_s (ck_S1 p2_s241_s ck_S0)) (ck_E1 (ck_S1 p2_s553_s ck_S0) (ck_E1 (ck_S1 p2_s1205_s ck_S0) ck_E0))))⟩ ck_X0 ck_l0 p2_s1254_e
set_option maxRecDepth 100000 in
/-- GlacierMailModel.in -/
def p2_s1255 : ck_Sum := ((0, 0, 0), 245, [.inl (ck_one 26), .inl (ck_one 1), .inl (ck_one 50)], ([], [], []), ([], []), [(.inr (some (.inl (ck_one 1))), 245, ([], [], []))])
set_option maxRecDepth 100000 in
theorem p2_s1255_e : ck_ok p2_O none [] [] 286 [] 88 p2_s1255 = true := by decide +kernel
theorem p2_s1255_s {X : Int → Int} {LX : Nat} : ck_Ok p2_O X LX 286 p2_s1255 := ck_ok_s ⟨p2_nmu, ck_E0⟩ ck_X0 ck_l0 p2_s1255_e
set_option maxRecDepth 100000 in
/-- GlacierMailModel.years -/
def p2_s1256 : ck_Sum := ((10, 0, 0), 245, [.inr (.inr (.inl 226)), .inl (ck_one 26)], ([], [], zl181), (zl182, []), [(.inr (some (.inl (0, 624, []))), 245, ([], [], [(227, 9, 9, (26, 299, [(1000011, 0)])), (226, 6, 6, (0, 12, [(1000027, 0)])), (226, 0, 0, (0, 1, []))]))])
set_option maxRecDepth 100000 in
theorem p2_s1256_e : ck_ok p2_O none [] [(286, [p2_s1255]), (266, [p2_s190]), (282, [p2_s242, p2_s241]), (316, [p2_s553]), (321, [p2_s1205])] 320 [] 650 p2_s1256 = true := by decide +kernel
theorem p2_s1256_s {X : Int → Int} {LX : Nat} : ck_Ok p2_O X LX 320 p2_s1256 := ck_ok_s ⟨p2_nmu, ck_E1 (ck_S1 p2_s1255_s ck_S0) (ck_E1 (ck_S1 p2_s190_s ck_S0) (ck_E1 (ck_S1 p2_s242_s (ck_S1 p2_s241_s ck_S0)) (ck_E1 (ck_S1 p2_s553_s ck_S0) (ck_E1 (ck_S1 p2_s1205_s ck_S0) ck_E0))))⟩ ck_X0 ck_l0 p2_s1256_e
set_option maxRecDepth 100000 in
/-- GlacierMailModel.in -/
def p2_s1257 : ck_Sum := ((0, 0, 0), 245, [.inl (ck_one 27), .inl (ck_one 1), .inl (ck_one 50)], ([], [], []), ([], []), [(.inr (some (.inl (ck_one 1))), 245, ([], [], []))])
set_option maxRecDepth 100000 in
theorem p2_s1257_e : ck_ok p2_O none [] [] 286 [] 88 p2_s1257 = true := by decide +kernel
theorem p2_s1257_s {X : Int → Int} {LX : Nat} : ck_Ok p2_O X LX 286 p2_s1257 := ck_ok_s ⟨p2_nmu, ck_E0⟩ ck_X0 ck_l0 p2_s1257_e
set_option maxRecDepth 100000 in
/-- GlacierMailModel.years -/
def p2_s1258 : ck_Sum := ((10, 0, 0), 245, [.inr (.inr (.inl 226)), .inl (ck_one 27)], ([], [], zl181), (zl182, []), [(.inr (some (.inl (0, 648, []))), 245, ([], [], [(227, 9, 9, (27, 299, [(1000011, 0)])), (226, 6, 6, (0, 12, [(1000027, 0)])), (226, 0, 0, (0, 1, []))]))])
set_option maxRecDepth 100000 in
theorem p2_s1258_e : ck_ok p2_O none [] [(286, [p2_s1257]), (266, [p2_s190]), (282, [p2_s242, p2_s241]), (316, [p2_s553]), (321, [p2_s1205])] 320 [] 670 p2_s1258 = true := by decide +kernel
theorem p2_s1258_s {X : Int → Int} {LX : Nat} : ck_Ok p2_O X LX 320 p2_s1258 := ck_ok_s ⟨p2_nmu, ck_E1 (ck_S1 p2_s1257_s ck_S0) (ck_E1 (ck_S1 p2_s190_s ck_S0) (ck_E1 (ck_S1 p2_s242_s (ck_S1 p2_s241_s ck_S0)) (ck_E1 (ck_S1 p2_s553_s ck_S0) (ck_E1 (ck_S1 p2_s1205_s ck_S0) ck_E0))))⟩ ck_X0 ck_l0 p2_s1258_e
set_option maxRecDepth 100000 in
/-- GlacierMailModel.in -/
def p2_s1259 : ck_Sum := ((0, 0, 0), 245, [.inl (ck_one 28), .inl (ck_one 1), .inl (ck_one 50)], ([], [], []), ([], []), [(.inr (some (.inl (ck_one 1))), 245, ([], [], []))])
set_option maxRecDepth 100000 in
theorem p2_s1259_e : ck_ok p2_O none [] [] 286 [] 88 p2_s1259 = true := by decide +kernel
theorem p2_s1259_s {X : Int → Int} {LX : Nat} : ck_Ok p2_O X LX 286 p2_s1259 := ck_ok_s ⟨p2_nmu, ck_E0⟩ ck_X0 ck_l0 p2_s1259_e
set_option maxRecDepth 100000 in
/-- GlacierMailModel.years -/
def p2_s1260 : ck_Sum := ((10, 0, 0), 245, [.inr (.inr (.inl 226)), .inl (ck_one 28)], ([], [], zl181), (zl182, []), [(.inr (some (.inl (0, 672, []))), 245, ([], [], [(227, 9, 9, (28, 299, [(1000011, 0)])), (226, 6, 6, (0, 12, [(1000027, 0)])), (226, 0, 0, (0, 1, []))]))])
set_option maxRecDepth 100000 in
theorem p2_s1260_e : ck_ok p2_O none [] [(286, [p2_s1259]), (266, [p2_s190]), (282, [p2_s242, p2_s241]), (316, [p2_s553]), (321, [p2_s1205])] 320 [] 690 p2_s1260 = true := by decide +kernel
theorem p2_s1260_s {X : Int → Int} {LX : Nat} : ck_Ok p2_O X LX 320 p2_s1260 := ck_ok_s ⟨p2_nmu, ck_E1 (ck_S1 p2_s1259_s ck_S0) (ck_E1 (ck_S1 p2_s190_s ck_S0) (ck_E1 (ck_S1 p2_s242_s (ck_S1 p2_s241_s ck_S0)) (ck_E1 (ck_S1 p2_s553_s ck_S0) (ck_E1 (ck_S1 p2_s1205_s ck_S0) ck_E0))))⟩ ck_X0 ck_l0 p2_s1260_e
set_option maxRecDepth 100000 in
/-- GlacierMailModel.in -/
def p2_s1261 : ck_Sum := ((0, 0, 0), 245, [.inl (ck_one 29), .inl (ck_one 1), .inl (ck_one 50)], ([], [], []), ([], []), [(.inr (some (.inl (ck_one 1))), 245, ([], [], []))])
set_option maxRecDepth 100000 in
theorem p2_s1261_e : ck_ok p2_O none [] [] 286 [] 88 p2_s1261 = true := by decide +kernel
theorem p2_s1261_s {X : Int → Int} {LX : Nat} : ck_Ok p2_O X LX 286 p2_s1261 := ck_ok_s ⟨p2_nmu, ck_E0⟩ ck_X0 ck_l0 p2_s1261_e
set_option maxRecDepth 100000 in
/-- GlacierMailModel.years -/
def p2_s1262 : ck_Sum := ((10, 0, 0), 245, [.inr (.inr (.inl 226)), .inl (ck_one 29)], ([], [], zl181), (zl182, []), [(.inr (some (.inl (0, 696, []))), 245, ([], [], [(227, 9, 9, (29, 299, [(1000011, 0)])), (226, 6, 6, (0, 12, [(1000027, 0)])), (226, 0, 0, (0, 1, []))]))])
set_option maxRecDepth 100000 in
theorem p2_s1262_e : ck_ok p2_O none [] [(286, [p2_s1261]), (266, [p2_s190]), (282, [p2_s242, p2_s241]), (316, [p2_s553]), (321, [p2_s1205])] 320 [] 710 p2_s1262 = true := by decide +kernel
theorem p2_s1262_s {X : Int → Int} {LX : Nat} : ck_Ok p2_O X LX 320 p2_s1262 := ck_ok_s ⟨p2_nmu, ck_E1 (ck_S1 p2_s1261_s ck_S0) (ck_E1 (ck_S1 p2_s190_s ck_S0) (ck_E1 (ck_S1 p2_s242_s (ck_S1 p2_s241_s ck_S0)) (ck_E1 (ck_S1 p2_s553_s ck_S0) (ck_E1 (ck_S1 p2_s1205_s ck_S0) ck_E0))))⟩ ck_X0 ck_l0 p2_s1262_e
set_option maxRecDepth 100000 in
/-- GlacierMailModel.in -/
def p2_s1263 : ck_Sum := ((0, 0, 0), 245, [.inl (ck_one 30), .inl (ck_one 1), .inl (ck_one 50)], ([], [], []), ([], []), [(.inr (some (.inl (ck_one 1))), 245, ([], [], []))])
set_option maxRecDepth 100000 in
theorem p2_s1263_e : ck_ok p2_O none [] [] 286 [] 88 p2_s1263 = true := by decide +kernel
theorem p2_s1263_s {X : Int → Int} {LX : Nat} : ck_Ok p2_O X LX 286 p2_s1263 := ck_ok_s ⟨p2_nmu, ck_E0⟩ ck_X0 ck_l0 p2_s1263_e
set_option maxRecDepth 100000 in
/-- GlacierMailModel.years -/
def p2_s1264 : ck_Sum := ((10, 0, 0), 245, [.inr (.inr (.inl 226)), .inl (ck_one 30)], ([], [], zl181), (zl182, []), [(.inr (some (.inl (0, 720, []))), 245, ([], [], [(227, 9, 9, (30, 299, [(1000011, 0)])), (226, 6, 6, (0, 12, [(1000027, 0)])), (226, 0, 0, (0, 1, []))]))])
set_option maxRecDepth 100000 in
theorem p2_s1264_e : ck_ok p2_O none [] [(286, [p2_s1263]), (266, [p2_s190]), (282, [p2_s242, p2_s241]), (316, [p2_s553]), (321, [p2_s1205])] 320 [] 730 p2_s1264 = true := by decide +kernel
theorem p2_s1264_s {X : Int → Int} {LX : Nat} : ck_Ok p2_O X LX 320 p2_s1264 := ck_ok_s ⟨p2_nmu, ck_E1 (ck_S1 p2_s1263_s ck_S0) (ck_E1 (ck_S1 p2_s190_s ck_S0) (ck_E1 (ck_S1 p2_s242_s (ck_S1 p2_s241_s ck_S0)) (ck_E1 (ck_S1 p2_s553_s ck_S0) (ck_E1 (ck_S1 p2_s1205_s ck_S0) ck_E0))))⟩ ck_X0 ck_l0 p2_s1264_e
set_option maxRecDepth 100000 in
/-- GlacierMailModel.in -/
def p2_s1265 : ck_Sum := ((0, 0, 0), 245, [.inl (ck_one 31), .inl (ck_one 1), .inl (ck_one 50)], ([], [], []), ([], []), [(.inr (some (.inl (ck_one 1))), 245, ([], [], []))])
set_option maxRecDepth 100000 in
theorem p2_s1265_e : ck_ok p2_O none [] [] 286 [] 88 p2_s1265 = true := by decide +kernel
theorem p2_s1265_s {X : Int → Int} {LX : Nat} : ck_Ok p2_O X LX 286 p2_s1265 := ck_ok_s ⟨p2_nmu, ck_E0⟩ ck_X0 ck_l0 p2_s1265_e
set_option maxRecDepth 100000 in
/-- GlacierMailModel.years -/
def p2_s1266 : ck_Sum := ((10, 0, 0), 245, [.inr (.inr (.inl 226)), .inl (ck_one 31)], ([], [], zl181), (zl182, []), [(.inr (some (.inl (0, 744, []))), 245, ([], [], [(227, 9, 9, (31, 299, [(1000011, 0)])), (226, 6, 6, (0, 12, [(1000027, 0)])), (226, 0, 0, (0, 1, []))]))])
set_option maxRecDepth 100000 in
theorem p2_s1266_e : ck_ok p2_O none [] [(286, [p2_s1265]), (266, [p2_s190]), (282, [p2_s242, p2_s241]), (316, [p2_s553]), (321, [p2_s1205])] 320 [] 750 p2_s1266 = true := by decide +kernel
theorem p2_s1266_s {X : Int → Int} {LX : Nat} : ck_Ok p2_O X LX 320 p2_s1266 := ck_ok_s ⟨p2_nmu, ck_E1 (ck_S1 p2_s1265_s ck_S0) (ck_E1 (ck_S1 p2_s190_s ck_S0) (ck_E1 (ck_S1 p2_s242_s (ck_S1 p2_s241_s ck_S0)) (ck_E1 (ck_S1 p2_s553_s ck_S0) (ck_E1 (ck_S1 p2_s1205_s ck_S0) ck_E0))))⟩ ck_X0 ck_l0 p2_s1266_e
set_option maxRecDepth 100000 in
/-- GlacierMailModel.in -/
def p2_s1267 : ck_Sum := ((0, 0, 0), 245, [.inl (ck_one 32), .inl (ck_one 1), .inl (ck_one 50)], ([], [], []), ([], []), [(.inr (some (.inl (ck_one 1))), 245, ([], [], []))])
set_option maxRecDepth 100000 in
theorem p2_s1267_e : ck_ok p2_O none [] [] 286 [] 88 p2_s1267 = true := by decide +kernel
theorem p2_s1267_s {X : Int → Int} {LX : Nat} : ck_Ok p2_O X LX 286 p2_s1267 := ck_ok_s ⟨p2_nmu, ck_E0⟩ ck_X0 ck_l0 p2_s1267_e
set_option maxRecDepth 100000 in
/-- GlacierMailModel.years -/
def p2_s1268 : ck_Sum := ((10, 0, 0), 245, [.inr (.inr (.inl 226)), .inl (ck_one 32)], ([], [], zl181), (zl182, []), [(.inr (some (.inl (0, 768, []))), 245, ([], [], [(227, 9, 9, (32, 299, [(1000011, 0)])), (226, 6, 6, (0, 12, [(1000027, 0)])), (226, 0, 0, (0, 1, []))]))])
set_option maxRecDepth 100000 in
theorem p2_s1268_e : ck_ok p2_O none [] [(286, [p2_s1267]), (266, [p2_s190]), (282, [p2_s242, p2_s241]), (316, [p2_s553]), (321, [p2_s1205])] 320 [] 770 p2_s1268 = true := by decide +kernel
theorem p2_s1268_s {X : Int → Int} {LX : Nat} : ck_Ok p2_O X LX 320 p2_s1268 := ck_ok_s ⟨p2_nmu, ck_E1 (ck_S1 p2_s1267_s ck_S0) (ck_E1 (ck_S1 p2_s190_s ck_S0) (ck_E1 (ck_S1 p2_s242_s (ck_S1 p2_s241_s ck_S0)) (ck_E1 (ck_S1 p2_s553_s ck_S0) (ck_E1 (ck_S1 p2_s1205_s ck_S0) ck_E0))))⟩ ck_X0 ck_l0 p2_s1268_e
set_option maxRecDepth 100000 in
/-- GlacierMailModel.in -/
def p2_s1269 : ck_Sum := ((0, 0, 0), 245, [.inl (ck_one 33), .inl (ck_one 1), .inl (ck_one 50)], ([], [], []), ([], []), [(.inr (some (.inl (ck_one 1))), 245, ([], [], []))])
set_option maxRecDepth 100000 in
theorem p2_s1269_e : ck_ok p2_O none [] [] 286 [] 88 p2_s1269 = true := by decide +kernel
theorem p2_s1269_s {X : Int → Int} {LX : Nat} : ck_Ok p2_O X LX 286 p2_s1269 := ck_ok_s ⟨p2_nmu, ck_E0⟩ ck_X0 ck_l0 p2_s1269_e
set_option maxRecDepth 100000 in
/-- GlacierMailModel.years -/
def p2_s1270 : ck_Sum := ((10, 0, 0), 245, [.inr (.inr (.inl 226)), .inl (ck_one 33)], ([], [], zl181), (zl182, []), [(.inr (some (.inl (0, 792, []))), 245, ([], [], [(227, 9, 9, (33, 299, [(1000011, 0)])), (226, 6, 6, (0, 12, [(1000027, 0)])), (226, 0, 0, (0, 1, []))]))])
set_option maxRecDepth 100000 in
theorem p2_s1270_e : ck_ok p2_O none [] [(286, [p2_s1269]), (266, [p2_s190]), (282, [p2_s242, p2_s241]), (316, [p2_s553]), (321, [p2_s1205])] 320 [] 790 p2_s1270 = true := by decide +kernel
theorem p2_s1270_s {X : Int → Int} {LX : Nat} : ck_Ok p2_O X LX 320 p2_s1270 := ck_ok_s ⟨p2_nmu, ck_E1 (ck_S1 p2_s1269_s ck_S0) (ck_E1 (ck_S1 p2_s190_s ck_S0) (ck_E1 (ck_S1 p2_s242_s (ck_S1 p2_s241_s ck_S0)) (ck_E1 (ck_S1 p2_s553_s ck_S0) (ck_E1 (ck_S1 p2_s1205_s ck_S0) ck_E0))))⟩ ck_X0 ck_l0 p2_s1270_e
set_option maxRecDepth 100000 in
/-- GlacierMailModel.in -/
def p2_s1271 : ck_Sum := ((0, 0, 0), 245, [.inl (ck_one 34), .inl (ck_one 1), .inl (ck_one 50)], ([], [], []), ([], []), [(.inr (some (.inl (ck_one 1))), 245, ([], [], []))])
set_option maxRecDepth 100000 in
theorem p2_s1271_e : ck_ok p2_O none [] [] 286 [] 88 p2_s1271 = true := by decide +kernel
theorem p2_s1271_s {X : Int → Int} {LX : Nat} : ck_Ok p2_O X LX 286 p2_s1271 := ck_ok_s ⟨p2_nmu, ck_E0⟩ ck_X0 ck_l0 p2_s1271_e
set_option maxRecDepth 100000 in
/-- GlacierMailModel.years -/
def p2_s1272 : ck_Sum := ((10, 0, 0), 245, [.inr (.inr (.inl 226)), .inl (ck_one 34)], ([], [], zl181), (zl182, []), [(.inr (some (.inl (0, 816, []))), 245, ([], [], [(227, 9, 9, (34, 299, [(1000011, 0)])), (226, 6, 6, (0, 12, [(1000027, 0)])), (226, 0, 0, (0, 1, []))]))])
set_option maxRecDepth 100000 in
theorem p2_s1272_e : ck_ok p2_O none [] [(286, [p2_s1271]), (266, [p2_s190]), (282, [p2_s242, p2_s241]), (316, [p2_s553]), (321, [p2_s1205])] 320 [] 810 p2_s1272 = true := by decide +kernel
theorem p2_s1272_s {X : Int → Int} {LX : Nat} : ck_Ok p2_O X LX 320 p2_s1272 := ck_ok_s ⟨p2_nmu, ck_E1 (ck_S1 p2_s1271_s ck_S0) (ck_E1 (ck_S1 p2_s190_s ck_S0) (ck_E1 (ck_S1 p2_s242_s (ck_S1 p2_s241_s ck_S0)) (ck_E1 (ck_S1 p2_s553_s ck_S0) (ck_E1 (ck_S1 p2_s1205_s ck_S0) ck_E0))))⟩ ck_X0 ck_l0 p2_s1272_e
set_option maxRecDepth 100000 in
/-- GlacierMailModel.in -/
def p2_s1273 : ck_Sum := ((0, 0, 0), 245, [.inl (ck_one 35), .inl (ck_one 1), .inl (ck_one 50)], ([], [], []), ([], []), [(.inr (some (.inl (ck_one 1))), 245, ([], [], []))])
set_option maxRecDepth 100000 in
theorem p2_s1273_e : ck_ok p2_O none [] [] 286 [] 88 p2_s1273 = true := by decide +kernel
theorem p2_s1273_s {X : Int → Int} {LX : Nat} : ck_Ok p2_O X LX 286 p2_s1273 := ck_ok_s ⟨p2_nmu, ck_E0⟩ ck_X0 ck_l0 p2_s1273_e
set_option maxRecDepth 100000 in
/-- GlacierMailModel.years -/
def p2_s1274 : ck_Sum := ((10, 0, 0), 245, [.inr (.inr (.inl 226)), .inl (ck_one 35)], ([], [], zl181), (zl182, []), [(.inr (some (.inl (0, 840, []))), 245, ([], [], [(227, 9, 9, (35, 299, [(1000011, 0)])), (226, 6, 6, (0, 12, [(1000027, 0)])), (226, 0, 0, (0, 1, []))]))])
set_option maxRecDepth 100000 in
theorem p2_s1274_e : ck_ok p2_O none [] [(286, [p2_s1273]), (266, [p2_s190]), (282, [p2_s242, p2_s241]), (316, [p2_s553]), (321, [p2_s1205])] 320 [] 830 p2_s1274 = true := by decide +kernel
theorem p2_s1274_s {X : Int → Int} {LX : Nat} : ck_Ok p2_O X LX 320 p2_s1274 := ck_ok_s ⟨p2_nmu, ck_E1 (ck_S1 p2_s1273_s ck_S0) (ck_E1 (ck_S1 p2_s190_s ck_S0) (ck_E1 (ck_S1 p2_s242_s (ck_S1 p2_s241_s ck_S0)) (ck_E1 (ck_S1 p2_s553_s ck_S0) (ck_E1 (ck_S1 p2_s1205_s ck_S0) ck_E0))))⟩ ck_X0 ck_l0 p2_s1274_e
set_option maxRecDepth 100000 in
/-- GlacierMailModel.in -/
def p2_s1275 : ck_Sum := ((0, 0, 0), 245, [.inl (ck_one 36), .inl (ck_one 1), .inl (ck_one 50)], ([], [], []), ([], []), [(.inr (some (.inl (ck_one 1))), 245, ([], [], []))])
set_option maxRecDepth 100000 in
theorem p2_s1275_e : ck_ok p2_O none [] [] 286 [] 88 p2_s1275 = true := by decide +kernel
theorem p2_s1275_s {X : Int → Int} {LX : Nat} : ck_Ok p2_O X LX 286 p2_s1275 := ck_ok_s ⟨p2_nmu, ck_E0⟩ ck_X0 ck_l0 p2_s1275_e
set_option maxRecDepth 100000 in
/-- GlacierMailModel.years -/
def p2_s1276 : ck_Sum := ((10, 0, 0), 245, [.inr (.inr (.inl 226)), .inl (ck_one 36)], ([], [], zl181), (zl182, []), [(.inr (some (.inl (0, 864, []))), 245, ([], [], [(227, 9, 9, (36, 299, [(1000011, 0)])), (226, 6, 6, (0, 12, [(1000027, 0)])), (226, 0, 0, (0, 1, []))]))])
set_option maxRecDepth 100000 in
theorem p2_s1276_e : ck_ok p2_O none [] [(286, [p2_s1275]), (266, [p2_s190]), (282, [p2_s242, p2_s241]), (316, [p2_s553]), (321, [p2_s1205])] 320 [] 850 p2_s1276 = true := by decide +kernel
theorem p2_s1276_s {X : Int → Int} {LX : Nat} : ck_Ok p2_O X LX 320 p2_s1276 := ck_ok_s ⟨p2_nmu, ck_E1 (ck_S1 p2_s1275_s ck_S0) (ck_E1 (ck_S1 p2_s190_s ck_S0) (ck_E1 (ck_S1 p2_s242_s (ck_S1 p2_s241_s ck_S0)) (ck_E1 (ck_S1 p2_s553_s ck_S0) (ck_E1 (ck_S1 p2_s1205_s ck_S0) ck_E0))))⟩ ck_X0 ck_l0 p2_s1276_e
set_option maxRecDepth 100000 in
/-- GlacierMailModel.in -/
def p2_s1277 : ck_Sum := ((0, 0, 0), 245, [.inl (ck_one 37), .inl (ck_one 1), .inl (ck_one 50)], ([], [], []), ([], []), [(.inr (some (.inl (ck_one 1))), 245, ([], [], []))])
set_option maxRecDepth 100000 in
theorem p2_s1277_e : ck_ok p2_O none [] [] 286 [] 88 p2_s1277 = true := by decide +kernel
theorem p2_s1277_s {X : Int → Int} {LX : Nat} : ck_Ok p2_O X LX 286 p2_s1277 := ck_ok_s ⟨p2_nmu, ck_E0⟩ ck_X0 ck_l0 p2_s1277_e
set_option maxRecDepth 100000 in
/-- GlacierMailModel.years -/
def p2_s1278 : ck_Sum := ((10, 0, 0), 245, [.inr (.inr (.inl 226)), .inl (ck_one 37)], ([], [], zl181), (zl182, []), [(.inr (some (.inl (0, 888, []))), 245, ([], [], [(227, 9, 9, (37, 299, [(1000011, 0)])), (226, 6, 6, (0, 12, [(1000027, 0)])), (226, 0, 0, (0, 1, []))]))])
set_option maxRecDepth 100000 in
theorem p2_s1278_e : ck_ok p2_O none [] [(286, [p2_s1277]), (266, [p2_s190]), (282, [p2_s242, p2_s241]), (316, [p2_s553]), (321, [p2_s1205])] 320 [] 870 p2_s1278 = true := by decide +kernel
theorem p2_s1278_s {X : Int → Int} {LX : Nat} : ck_Ok p2_O X LX 320 p2_s1278 := ck_ok_s ⟨p2_nmu, ck_E1 (ck_S1 p2_s1277_s ck_S0) (ck_E1 (ck_S1 p2_s190_s ck_S0) (ck_E1 (ck_S1 p2_s242_s (ck_S1 p2_s241_s ck_S0)) (ck_E1 (ck_S1 p2_s553_s ck_S0) (ck_E1 (ck_S1 p2_s1205_s ck_S0) ck_E0))))⟩ ck_X0 ck_l0 p2_s1278_e
set_option maxRecDepth 100000 in
/-- GlacierMailModel.in -/
def p2_s1279 : ck_Sum := ((0, 0, 0), 245, [.inl (ck_one 38), .inl (ck_one 1), .inl (ck_one 50)], ([], [], []), ([], []), [(.inr (some (.inl (ck_one 1))), 245, ([], [], []))])
set_option maxRecDepth 100000 in
theorem p2_s1279_e : ck_ok p2_O none [] [] 286 [] 88 p2_s1279 = true := by decide +kernel
theorem p2_s1279_s {X : Int → Int} {LX : Nat} : ck_Ok p2_O X LX 286 p2_s1279 := ck_ok_s ⟨p2_nmu, ck_E0⟩ ck_X0 ck_l0 p2_s1279_e
set_option maxRecDepth 100000 in
/-- GlacierMailModel.years -/
def p2_s1280 : ck_Sum := ((10, 0, 0), 245, [.inr (.inr (.inl 226)), .inl (ck_one 38)], ([], [], zl181), (zl182, []), [(.inr (some (.inl (0, 912, []))), 245, ([], [], [(227, 9, 9, (38, 299, [(1000011, 0)])), (226, 6, 6, (0, 12, [(1000027, 0)])), (226, 0, 0, (0, 1, []))]))])
set_option maxRecDepth 100000 in
theorem p2_s1280_e : ck_ok p2_O none [] [(286, [p2_s1279]), (266, [p2_s190]), (282, [p2_s242, p2_s241]), (316, [p2_s553]), (321, [p2_s1205])] 320 [] 890 p2_s1280 = true := by decide +kernel
theorem p2_s1280_s {X : Int → Int} {LX : Nat} : ck_Ok p2_O X LX 320 p2_s1280 := ck_ok_s ⟨p2_nmu, ck_E1 (ck_S1 p2_s1279_s ck_S0) (ck_E1 (ck_S1 p2_s190_s ck_S0) (ck_E1 (ck_S1 p2_s242_s (ck_S1 p2_s241_s ck_S0)) (ck_E1 (ck_S1 p2_s553_s ck_S0) (ck_E1 (ck_S1 p2_s1205_s ck_S0) ck_E0))))⟩ ck_X0 ck_l0 p2_s1280_e
set_option maxRecDepth 100000 in
/-- GlacierMailModel.in -/
def p2_s1281 : ck_Sum := ((0, 0, 0), 245, [.inl (ck_one 39), .inl (ck_one 1), .inl (ck_one 50)], ([], [], []), ([], []), [(.inr (some (.inl (ck_one 1))), 245, ([], [], []))])
set_option maxRecDepth 100000 in
theorem p2_s1281_e : ck_ok p2_O none [] [] 286 [] 88 p2_s1281 = true := by decide +kernel
theorem p2_s1281_s {X : Int → Int} {LX : Nat} : ck_Ok p2_O X LX 286 p2_s1281 := ck_ok_s ⟨p2_nmu, ck_E0⟩ ck_X0 ck_l0 p2_s1281_e
set_option maxRecDepth 100000 in
/-- GlacierMailModel.years -/
def p2_s1282 : ck_Sum := ((10, 0, 0), 245, [.inr (.inr (.inl 226)), .inl (ck_one 39)], ([], [], zl181), (zl182, []), [(.inr (some (.inl (0, 936, []))), 245, ([], [], [(227, 9, 9, (39, 299, [(1000011, 0)])), (226, 6, 6, (0, 12, [(1000027, 0)])), (226, 0, 0, (0, 1, []))]))])
set_option maxRecDepth 100000 in
theorem p2_s1282_e : ck_ok p2_O none [] [(286, [p2_s1281]), (266, [p2_s190]), (282, [p2_s242, p2_s241]), (316, [p2_s553]), (321, [p2_s1205])] 320 [] 910 p2_s1282 = true := by decide +kernel
theorem p2_s1282_s {X : Int → Int} {LX : Nat} : ck_Ok p2_O X LX 320 p2_s1282 := ck_ok_s ⟨p2_nmu, ck_E1 (ck_S1 p2_s1281_s ck_S0) (ck_E1 (ck_S1 p2_s190_s ck_S0) (ck_E1 (ck_S1 p2_s242_s (ck_S1 p2_s241_s ck_S0)) (ck_E1 (ck_S1 p2_s553_s ck_S0) (ck_E1 (ck_S1 p2_s1205_s ck_S0) ck_E0))))⟩ ck_X0 ck_l0 p2_s1282_e
set_option maxRecDepth 100000 in
/-- GlacierMailModel.in -/
def p2_s1283 : ck_Sum := ((0, 0, 0), 245, [.inl (ck_one 40), .inl (ck_one 1), .inl (ck_one 50)], ([], [], []), ([], []), [(.inr (some (.inl (ck_one 1))), 245, ([], [], []))])
set_option maxRecDepth 100000 in
theorem p2_s1283_e : ck_ok p2_O none [] [] 286 [] 88 p2_s1283 = true := by decide +kernel
theorem p2_s1283_s {X : Int → Int} {LX : Nat} : ck_Ok p2_O X LX 286 p2_s1283 := ck_ok_s ⟨p2_nmu, ck_E0⟩ ck_X0 ck_l0 p2_s1283_e
set_option maxRecDepth 100000 in
/-- GlacierMailModel.years -/
def p2_s1284 : ck_Sum := ((10, 0, 0), 245, [.inr (.inr (.inl 226)), .inl (ck_one 40)], ([], [], zl181), (zl182, []), [(.inr (some (.inl (0, 960, []))), 245, ([], [], [(227, 9, 9, (40, 299, [(1000011, 0)])), (226, 6, 6, (0, 12, [(1000027, 0)])), (226, 0, 0, (0, 1, []))]))])
set_option maxRecDepth 100000 in
theorem p2_s1284_e : ck_ok p2_O none [] [(286, [p2_s1283]), (266, [p2_s190]), (282, [p2_s242, p2_s241]), (316, [p2_s553]), (321, [p2_s1205])] 320 [] 930 p2_s1284 = true := by decide +kernel
theorem p2_s1284_s {X : Int → Int} {LX : Nat} : ck_Ok p2_O X LX 320 p2_s1284 := ck_ok_s ⟨p2_nmu, ck_E1 (ck_S1 p2_s1283_s ck_S0) (ck_E1 (ck_S1 p2_s190_s ck_S0) (ck_E1 (ck_S1 p2_s242_s (ck_S1 p2_s241_s ck_S0)) (ck_E1 (ck_S1 p2_s553_s ck_S0) (ck_E1 (ck_S1 p2_s1205_s ck_S0) ck_E0))))⟩ ck_X0 ck_l0 p2_s1284_e
set_option maxRecDepth 100000 in
/-- GlacierMailModel.in -/
def p2_s1285 : ck_Sum := ((0, 0, 0), 245, [.inl (ck_one 41), .inl (ck_one 1), .inl (ck_one 50)], ([], [], []), ([], []), [(.inr (some (.inl (ck_one 1))), 245, ([], [], []))])
set_option maxRecDepth 100000 in
theorem p2_s1285_e : ck_ok p2_O none [] [] 286 [] 88 p2_s1285 = true := by decide +kernel
theorem p2_s1285_s {X : Int → Int} {LX : Nat} : ck_Ok p2_O X LX 286 p2_s1285 := ck_ok_s ⟨p2_nmu, ck_E0⟩ ck_X0 ck_l0 p2_s1285_e
set_option maxRecDepth 100000 in
/-- GlacierMailModel.years -/
def p2_s1286 : ck_Sum := ((10, 0, 0), 245, [.inr (.inr (.inl 226)), .inl (ck_one 41)], ([], [], zl181), (zl182, []), [(.inr (some (.inl (0, 984, []))), 245, ([], [], [(227, 9, 9, (41, 299, [(1000011, 0)])), (226, 6, 6, (0, 12, [(1000027, 0)])), (226, 0, 0, (0, 1, []))]))])
set_option maxRecDepth 100000 in
theorem p2_s1286_e : ck_ok p2_O none [] [(286, [p2_s1285]), (266, [p2_s190]), (282, [p2_s242, p2_s241]), (316, [p2_s553]), (321, [p2_s1205])] 320 [] 950 p2_s1286 = true := by decide +kernel
theorem p2_s1286_s {X : Int → Int} {LX : Nat} : ck_Ok p2_O X LX 320 p2_s1286 := ck_ok_s ⟨p2_nmu, ck_E1 (ck_S1 p2_s1285_s ck_S0) (ck_E1 (ck_S1 p2_s190_s ck_S0) (ck_E1 (ck_S1 p2_s242_s (ck_S1 p2_s241_s ck_S0)) (ck_E1 (ck_S1 p2_s553_s ck_S0) (ck_E1 (ck_S1 p2_s1205_s ck_S0) ck_E0))))⟩ ck_X0 ck_l0 p2_s1286_e
set_option maxRecDepth 100000 in
/-- GlacierMailModel.in -/
def p2_s1287 : ck_Sum := ((0, 0, 0), 245, [.inl (ck_one 42), .inl (ck_one 1), .inl (ck_one 50)], ([], [], []), ([], []), [(.inr (some (.inl (ck_one 1))), 245, ([], [], []))])
set_option maxRecDepth 100000 in
theorem p2_s1287_e : ck_ok p2_O none [] [] 286 [] 88 p2_s1287 = true := by decide +kernel
theorem p2_s1287_s {X : Int → Int} {LX : Nat} : ck_Ok p2_O X LX 286 p2_s1287 := ck_ok_s ⟨p2_nmu, ck_E0⟩ ck_X0 ck_l0 p2_s1287_e
set_option maxRecDepth 100000 in
/-- GlacierMailModel.years -/
def p2_s1288 : ck_Sum := ((10, 0, 0), 245, [.inr (.inr (.inl 226)), .inl (ck_one 42)], ([], [], zl181), (zl182, []), [(.inr (some (.inl (0, 1008, []))), 245, ([], [], [(227, 9, 9, (42, 299, [(1000011, 0)])), (226, 6, 6, (0, 12, [(1000027, 0)])), (226, 0, 0, (0, 1, []))]))])
set_option maxRecDepth 100000 in
theorem p2_s1288_e : ck_ok p2_O none [] [(286, [p2_s1287]), (266, [p2_s190]), (282, [p2_s242, p2_s241]), (316, [p2_s553]), (321, [p2_s1205])] 320 [] 970 p2_s1288 = true := by decide +kernel
theorem p2_s1288_s {X : Int → Int} {LX : Nat} : ck_Ok p2_O X LX 320 p2_s1288 := ck_ok_s ⟨p2_nmu, ck_E1 (ck_S1 p2_s1287_s ck_S0) (ck_E1 (ck_S1 p2_s190_s ck_S0) (ck_E1 (ck_S1 p2_s242_s (ck_S1 p2_s241_s ck_S0)) (ck_E1 (ck_S1 p2_s553_s ck_S0) (ck_E1 (ck_S1 p2_s1205_s ck_S0) ck_E0))))⟩ ck_X0 ck_l0 p2_s1288_e
set_option maxRecDepth 100000 in
/-- GlacierMailModel.in -/
def p2_s1289 : ck_Sum := ((0, 0, 0), 245, [.inl (ck_one 43), .inl (ck_one 1), .inl (ck_one 50)], ([], [], []), ([], []), [(.inr (some (.inl (ck_one 1))), 245, ([], [], []))])
set_option maxRecDepth 100000 in
theorem p2_s1289_e : ck_ok p2_O none [] [] 286 [] 88 p2_s1289 = true := by decide +kernel
theorem p2_s1289_s {X : Int → Int} {LX : Nat} : ck_Ok p2_O X LX 286 p2_s1289 := ck_ok_s ⟨p2_nmu, ck_E0⟩ ck_X0 ck_l0 p2_s1289_e
set_option maxRecDepth 100000 in
/-- GlacierMailModel.years -/
def p2_s1290 : ck_Sum := ((10, 0, 0), 245, [.inr (.inr (.inl 226)), .inl (ck_one 43)], ([], [], zl181), (zl182, []), [(.inr (some (.inl (0, 1032, []))), 245, ([], [], [(227, 9, 9, (43, 299, [(1000011, 0)])), (226, 6, 6, (0, 12, [(1000027, 0)])), (226, 0, 0, (0, 1, []))]))])
set_option maxRecDepth 100000 in
theorem p2_s1290_e : ck_ok p2_O none [] [(286, [p2_s1289]), (266, [p2_s190]), (282, [p2_s242, p2_s241]), (316, [p2_s553]), (321, [p2_s1205])] 320 [] 990 p2_s1290 = true := by decide +kernel
theorem p2_s1290_s {X : Int → Int} {LX : Nat} : ck_Ok p2_O X LX 320 p2_s1290 := ck_ok_s ⟨p2_nmu, ck_E1 (ck_S1 p2_s1289_s ck_S0) (ck_E1 (ck_S1 p2_s190_s ck_S0) (ck_E1 (ck_S1 p2_s242_s (ck_S1 p2_s241_s ck_S0)) (ck_E1 (ck_S1 p2_s553_s ck_S0) (ck_E1 (ck_S1 p2_s1205_s ck_S0) ck_E0))))⟩ ck_X0 ck_l0 p2_s1290_e
set_option maxRecDepth 100000 in
/-- GlacierMailModel.in -/
def p2_s1291 : ck_Sum := ((0, 0, 0), 245, [.inl (ck_one 44), .inl (ck_one 1), .inl (ck_one 50)], ([], [], []), ([], []), [(.inr (some (.inl (ck_one 1))), 245, ([], [], []))])
set_option maxRecDepth 100000 in
theorem p2_s1291_e : ck_ok p2_O none [] [] 286 [] 88 p2_s1291 = true := by decide +kernel
theorem p2_s1291_s {X : Int → Int} {LX : Nat} : ck_Ok p2_O X LX 286 p2_s1291 := ck_ok_s ⟨p2_nmu, ck_E0⟩ ck_X0 ck_l0 p2_s1291_e
set_option maxRecDepth 100000 in
/-- GlacierMailModel.years -/
def p2_s1292 : ck_Sum := ((10, 0, 0), 245, [.inr (.inr (.inl 226)), .inl (ck_one 44)], ([], [], zl181), (zl182, []), [(.inr (some (.inl (0, 1056, []))), 245, ([], [], [(227, 9, 9, (44, 299, [(1000011, 0)])), (226, 6, 6, (0, 12, [(1000027, 0)])), (226, 0, 0, (0, 1, []))]))])
set_option maxRecDepth 100000 in
theorem p2_s1292_e : ck_ok p2_O none [] [(286, [p2_s1291]), (266, [p2_s190]), (282, [p2_s242, p2_s241]), (316, [p2_s553]), (321, [p2_s1205])] 320 [] 1010 p2_s1292 = true := by decide +kernel
theorem p2_s1292_s {X : Int → Int} {LX : Nat} : ck_Ok p2_O X LX 320 p2_s1292 := ck_ok_s ⟨p2_nmu, ck_E1 (ck_S1 p2_s1291_s ck_S0) (ck_E1 (ck_S1 p2_s190_s ck_S0) (ck_E1 (ck_S1 p2_s242_s (ck_S1 p2_s241_s ck_S0)) (ck_E1 (ck_S1 p2_s553_s ck_S0) (ck_E1 (ck_S1 p2_s1205_s ck_S0) ck_E0))))⟩ ck_X0 ck_l0 p2_s1292_e
set_option maxRecDepth 100000 in
/-- GlacierMailModel.in -/
def p2_s1293 : ck_Sum := ((0, 0, 0), 245, [.inl (ck_one 45), .inl (ck_one 1), .inl (ck_one 50)], ([], [], []), ([], []), [(.inr (some (.inl (ck_one 1))), 245, ([], [], []))])
set_option maxRecDepth 100000 in
theorem p2_s1293_e : ck_ok p2_O none [] [] 286 [] 88 p2_s1293 = true := by decide +kernel
theorem p2_s1293_s {X : Int → Int} {LX : Nat} : ck_Ok p2_O X LX 286 p2_s1293 := ck_ok_s ⟨p2_nmu, ck_E0⟩ ck_X0 ck_l0 p2_s1293_e
set_option maxRecDepth 100000 in
/-- GlacierMailModel.years -/
def p2_s1294 : ck_Sum := ((10, 0, 0), 245, [.inr (.inr (.inl 226)), .inl (ck_one 45)], ([], [], zl181), (zl182, []), [(.inr (some (.inl (0, 1080, []))), 245, ([], [], [(227, 9, 9, (45, 299, [(1000011, 0)])), (226, 6, 6, (0, 12, [(1000027, 0)])), (226, 0, 0, (0, 1, []))]))])
set_option maxRecDepth 100000 in
theorem p2_s1294_e : ck_ok p2_O none [] [(286, [p2_s1293]), (266, [p2_s190]), (282, [p2_s242, p2_s241]), (316, [p2_s553]), (321, [p2_s1205])] 320 [] 1030 p2_s1294 = true := by decide +kernel
theorem p2_s1294_s {X : Int → Int} {LX : Nat} : ck_Ok p2_O X LX 320 p2_s1294 := ck_ok_s ⟨p2_nmu, ck_E1 (ck_S1 p2_s1293_s ck_S0) (ck_E1 (ck_S1 p2_s190_s ck_S0) (ck_E1 (ck_S1 p2_s242_s (ck_S1 p2_s241_s ck_S0)) (ck_E1 (ck_S1 p2_s553_s ck_S0) (ck_E1 (ck_S1 p2_s1205_s ck_S0) ck_E0))))⟩ ck_X0 ck_l0 p2_s1294_e
set_option maxRecDepth 100000 in
/-- GlacierMailModel.in -/
def p2_s1295 : ck_Sum := ((0, 0, 0), 245, [.inl (ck_one 46), .inl (ck_one 1), .inl (ck_one 50)], ([], [], []), ([], []), [(.inr (some (.inl (ck_one 1))), 245, ([], [], []))])
set_option maxRecDepth 100000 in
theorem p2_s1295_e : ck_ok p2_O none [] [] 286 [] 88 p2_s1295 = true := by decide +kernel
theorem p2_s1295_s {X : Int → Int} {LX : Nat} : ck_Ok p2_O X LX 286 p2_s1295 := ck_ok_s ⟨p2_nmu, ck_E0⟩ ck_X0 ck_l0 p2_s1295_e
set_option maxRecDepth 100000 in
/-- GlacierMailModel.years -/
def p2_s1296 : ck_Sum := ((10, 0, 0), 245, [.inr (.inr (.inl 226)), .inl (ck_one 46)], ([], [], zl181), (zl182, []), [(.inr (some (.inl (0, 1104, []))), 245, ([], [], [(227, 9, 9, (46, 299, [(1000011, 0)])), (226, 6, 6, (0, 12, [(1000027, 0)])), (226, 0, 0, (0, 1, []))]))])
set_option maxRecDepth 100000 in
theorem p2_s1296_e : ck_ok p2_O none [] [(286, [p2_s1295]), (266, [p2_s190]), (282, [p2_s242, p2_s241]), (316, [p2_s553]), (321, [p2_s1205])] 320 [] 1050 p2_s1296 = true := by decide +kernel
theorem p2_s1296_s {X : Int → Int} {LX : Nat} : ck_Ok p2_O X LX 320 p2_s1296 := ck_ok_s ⟨p2_nmu, ck_E1 (ck_S1 p2_s1295_s ck_S0) (ck_E1 (ck_S1 p2_s190_s ck_S0) (ck_E1 (ck_S1 p2_s242_s (ck_S1 p2_s241_s ck_S0)) (ck_E1 (ck_S1 p2_s553_s ck_S0) (ck_E1 (ck_S1 p2_s1205_s ck_S0) ck_E0))))⟩ ck_X0 ck_l0 p2_s1296_e
set_option maxRecDepth 100000 in
/-- GlacierMailModel.in -/
def p2_s1297 : ck_Sum := ((0, 0, 0), 245, [.inl (ck_one 47), .inl (ck_one 1), .inl (ck_one 50)], ([], [], []), ([], []), [(.inr (some (.inl (ck_one 1))), 245, ([], [], []))])
set_option maxRecDepth 100000 in
theorem p2_s1297_e : ck_ok p2_O none [] [] 286 [] 88 p2_s1297 = true := by decide +kernel
theorem p2_s1297_s {X : Int → Int} {LX : Nat} : ck_Ok p2_O X LX 286 p2_s1297 := ck_ok_s ⟨p2_nmu, ck_E0⟩ ck_X0 ck_l0 p2_s1297_e
set_option maxRecDepth 100000 in
/-- GlacierMailModel.years -/
def p2_s1298 : ck_Sum := ((10, 0, 0), 245, [.inr (.inr (.inl 226)), .inl (ck_one 47)], ([], [], zl181), (zl182, []), [(.inr (some (.inl (0, 1128, []))), 245, ([], [], [(227, 9, 9, (47, 299, [(1000011, 0)])), (226, 6, 6, (0, 12, [(1000027, 0)])), (226, 0, 0, (0, 1, []))]))])
set_option maxRecDepth 100000 in
theorem p2_s1298_e : ck_ok p2_O none [] [(286, [p2_s1297]), (266, [p2_s190]), (282, [p2_s242, p2_s241]), (316, [p2_s553]), (321, [p2_s1205])] 320 [] 1070 p2_s1298 = true := by decide +kernel
theorem p2_s1298_s {X : Int → Int} {LX : Nat} : ck_Ok p2_O X LX 320 p2_s1298 := ck_ok_s ⟨p2_nmu, ck_E1 (ck_S1 p2_s1297_s ck_S0) (ck_E1 (ck_S1 p2_s190_s ck_S0) (ck_E1 (ck_S1 p2_s242_s (ck_S1 p2_s241_s ck_S0)) (ck_E1 (ck_S1 p2_s553_s ck_S0) (ck_E1 (ck_S1 p2_s1205_s ck_S0) ck_E0))))⟩ ck_X0 ck_l0 p2_s1298_e
set_option maxRecDepth 100000 in
/-- GlacierMailModel.in -/
def p2_s1299 : ck_Sum := ((0, 0, 0), 245, [.inl (ck_one 48), .inl (ck_one 1), .inl (ck_one 50)], ([], [], []), ([], []), [(.inr (some (.inl (ck_one 1))), 245, ([], [], []))])
set_option maxRecDepth 100000 in
theorem p2_s1299_e : ck_ok p2_O none [] [] 286 [] 88 p2_s1299 = true := by decide +kernel
theorem p2_s1299_s {X : Int → Int} {LX : Nat} : ck_Ok p2_O X LX 286 p2_s1299 := ck_ok_s ⟨p2_nmu, ck_E0⟩ ck_X0 ck_l0 p2_s1299_e
set_option maxRecDepth 100000 in
/-- GlacierMailModel.years -/
def p2_s1300 : ck_Sum := ((10, 0, 0), 245, [.inr (.inr (.inl 226)), .inl (ck_one 48)], ([], [], zl181), (zl182, []), [(.inr (some (.inl (0, 1152, []))), 245, ([], [], [(227, 9, 9, (48, 299, [(1000011, 0)])), (226, 6, 6, (0, 12, [(1000027, 0)])), (226, 0, 0, (0, 1, []))]))])
set_option maxRecDepth 100000 in
theorem p2_s1300_e : ck_ok p2_O none [] [(286, [p2_s1299]), (266, [p2_s190]), (282, [p2_s242, p2_s241]), (316, [p2_s553]), (321, [p2_s1205])] 320 [] 1090 p2_s1300 = true := by decide +kernel
theorem p2_s1300_s {X : Int → Int} {LX : Nat} : ck_Ok p2_O X LX 320 p2_s1300 := ck_ok_s ⟨p2_nmu, ck_E1 (ck_S1 p2_s1299_s ck_S0) (ck_E1 (ck_S1 p2_s190_s ck_S0) (ck_E1 (ck_S1 p2_s242_s (ck_S1 p2_s241_s ck_S0)) (ck_E1 (ck_S1 p2_s553_s ck_S0) (ck_E1 (ck_S1 p2_s1205_s ck_S0) ck_E0))))⟩ ck_X0 ck_l0 p2_s1300_e
set_option maxRecDepth 100000 in
/-- GlacierMailModel.in -/
def p2_s1301 : ck_Sum := ((0, 0, 0), 245, [.inl (ck_one 49), .inl (ck_one 1), .inl (ck_one 50)], ([], [], []), ([], []), [(.inr (some (.inl (ck_one 1))), 245, ([], [], []))])
set_option maxRecDepth 100000 in
theorem p2_s1301_e : ck_ok p2_O none [] [] 286 [] 88 p2_s1301 = true := by decide +kernel
theorem p2_s1301_s {X : Int → Int} {LX : Nat} : ck_Ok p2_O X LX 286 p2_s1301 := ck_ok_s ⟨p2_nmu, ck_E0⟩ ck_X0 ck_l0 p2_s1301_e
set_option maxRecDepth 100000 in
/-- GlacierMailModel.years -/
def p2_s1302 : ck_Sum := ((10, 0, 0), 245, [.inr (.inr (.inl 226)), .inl (ck_one 49)], ([], [], zl181), (zl182, []), [(.inr (some (.inl (0, 1176, []))), 245, ([], [], [(227, 9, 9, (49, 299, [(1000011, 0)])), (226, 6, 6, (0, 12, [(1000027, 0)])), (226, 0, 0, (0, 1, []))]))])
set_option maxRecDepth 100000 in
theorem p2_s1302_e : ck_ok p2_O none [] [(286, [p2_s1301]), (266, [p2_s190]), (282, [p2_s242, p2_s241]), (316, [p2_s553]), (321, [p2_s1205])] 320 [] 1110 p2_s1302 = true := by decide +kernel
theorem p2_s1302_s {X : Int → Int} {LX : Nat} : ck_Ok p2_O X LX 320 p2_s1302 := ck_ok_s ⟨p2_nmu, ck_E1 (ck_S1 p2_s1301_s ck_S0) (ck_E1 (ck_S1 p2_s190_s ck_S0) (ck_E1 (ck_S1 p2_s242_s (ck_S1 p2_s241_s ck_S0)) (ck_E1 (ck_S1 p2_s553_s ck_S0) (ck_E1 (ck_S1 p2_s1205_s ck_S0) ck_E0))))⟩ ck_X0 ck_l0 p2_s1302_e
set_option maxRecDepth 100000 in
/-- GlacierMailModel.in -/
def p2_s1303 : ck_Sum := ((0, 0, 0), 245, [.inl (ck_one 50), .inl (ck_one 1), .inl (ck_one 50)], ([], [], []), ([], []), [(.inr (some (.inl (ck_one 1))), 245, ([], [], []))])
set_option maxRecDepth 100000 in
theorem p2_s1303_e : ck_ok p2_O none [] [] 286 [] 88 p2_s1303 = true := by decide +kernel
theorem p2_s1303_s {X : Int → Int} {LX : Nat} : ck_Ok p2_O X LX 286 p2_s1303 := ck_ok_s ⟨p2_nmu, ck_E0⟩ ck_X0 ck_l0 p2_s1303_e
set_option maxRecDepth 100000 in
/-- GlacierMailModel.years -/
def p2_s1304 : ck_Sum := ((10, 0, 0), 245, [.inr (.inr (.inl 226)), .inl (ck_one 50)], ([], [], zl181), (zl182, []), [(.inr (some (.inl (0, 1200, []))), 245, ([], [], [(227, 9, 9, (50, 299, [(1000011, 0)])), (226, 6, 6, (0, 12, [(1000027, 0)])), (226, 0, 0, (0, 1, []))]))])
set_option maxRecDepth 100000 in
theorem p2_s1304_e : ck_ok p2_O none [] [(286, [p2_s1303]), (266, [p2_s190]), (282, [p2_s242, p2_s241]), (316, [p2_s553]), (321, [p2_s1205])] 320 [] 1130 p2_s1304 = true := by decide +kernel
theorem p2_s1304_s {X : Int → Int} {LX : Nat} : ck_Ok p2_O X LX 320 p2_s1304 := ck_ok_s ⟨p2_nmu, ck_E1 (ck_S1 p2_s1303_s ck_S0) (ck_E1 (ck_S1 p2_s190_s ck_S0) (ck_E1 (ck_S1 p2_s242_s (ck_S1 p2_s241_s ck_S0)) (ck_E1 (ck_S1 p2_s553_s ck_S0) (ck_E1 (ck_S1 p2_s1205_s ck_S0) ck_E0))))⟩ ck_X0 ck_l0 p2_s1304_e
set_option maxRecDepth 100000 in
/-- GlacierMail.throwsFor -/
def p2_s1305 : ck_Sum := ((8, 1, 6), 245, [.inr (.inr (.inl 1)), .inl ((-2147483648), (-1), []), .inl ((-2147483648), 2147483647, []), .inl ((-2147483648), 2147483647, []), .inl ((-2147483648), 2147483647, [])], ([], [], []), ([], []), [(.inl 3, 245, ([], [], []))])
set_option maxRecDepth 100000 in
theorem p2_s1305_e : ck_ok p2_O none [] [(132, [p2_s266])] 167 [] 76 p2_s1305 = true := by decide +kernel
theorem p2_s1305_s {X : Int → Int} {LX : Nat} : ck_Ok p2_O X LX 167 p2_s1305 := ck_ok_s ⟨p2_nmu, ck_E1 (ck_S1 p2_s266_s ck_S0) ck_E0⟩ ck_X0 ck_l0 p2_s1305_e
set_option maxRecDepth 100000 in
/-- GlacierMail.throwsFor -/
def p2_s1306 : ck_Sum := ((8, 1, 6), 245, [.inr (.inr (.inl 1)), .inl (6, 2147483647, []), .inl ((-2147483648), 2147483647, []), .inl ((-2147483648), 2147483647, []), .inl ((-2147483648), 2147483647, [])], ([], [], []), ([], []), [(.inl 3, 245, ([], [], []))])
set_option maxRecDepth 100000 in
theorem p2_s1306_e : ck_ok p2_O none [] [(132, [p2_s269])] 167 [] 76 p2_s1306 = true := by decide +kernel
theorem p2_s1306_s {X : Int → Int} {LX : Nat} : ck_Ok p2_O X LX 167 p2_s1306 := ck_ok_s ⟨p2_nmu, ck_E1 (ck_S1 p2_s269_s ck_S0) ck_E0⟩ ck_X0 ck_l0 p2_s1306_e
set_option maxRecDepth 100000 in
/-- GlacierMail.throwsFor -/
def p2_s1307 : ck_Sum := ((8, 2, 12), 245, [.inr (.inr (.inl 1)), .inl (0, 5, []), .inl ((-2147483648), (-1), []), .inl ((-2147483648), 2147483647, []), .inl ((-2147483648), 2147483647, [])], ([], [], []), ([], []), [(.inl 3, 245, ([], [], [])), (.inl 0, 245, ([], [], []))])
set_option maxRecDepth 100000 in
theorem p2_s1307_e : ck_ok p2_O none [] [(132, [p2_s272]), (129, [p2_s249])] 167 [] 82 p2_s1307 = true := by decide +kernel
theorem p2_s1307_s {X : Int → Int} {LX : Nat} : ck_Ok p2_O X LX 167 p2_s1307 := ck_ok_s ⟨p2_nmu, ck_E1 (ck_S1 p2_s272_s ck_S0) (ck_E1 (ck_S1 p2_s249_s ck_S0) ck_E0)⟩ ck_X0 ck_l0 p2_s1307_e
set_option maxRecDepth 100000 in
/-- GlacierMail.throwsFor -/
def p2_s1308 : ck_Sum := ((8, 2, 12), 245, [.inr (.inr (.inl 1)), .inl (0, 5, []), .inl (300, 2147483647, []), .inl ((-2147483648), 2147483647, []), .inl ((-2147483648), 2147483647, [])], ([], [], []), ([], []), [(.inl 3, 245, ([], [], [])), (.inl 0, 245, ([], [], []))])
set_option maxRecDepth 100000 in
theorem p2_s1308_e : ck_ok p2_O none [] [(132, [p2_s272]), (129, [p2_s251])] 167 [] 82 p2_s1308 = true := by decide +kernel
theorem p2_s1308_s {X : Int → Int} {LX : Nat} : ck_Ok p2_O X LX 167 p2_s1308 := ck_ok_s ⟨p2_nmu, ck_E1 (ck_S1 p2_s272_s ck_S0) (ck_E1 (ck_S1 p2_s251_s ck_S0) ck_E0)⟩ ck_X0 ck_l0 p2_s1308_e
set_option maxRecDepth 100000 in
/-- GlacierMail.throwsFor -/
def p2_s1309 : ck_Sum := ((8, 2, 12), 245, [.inr (.inr (.inl 1)), .inl (0, 5, []), .inl (0, 299, []), .inl ((-2147483648), (-1), []), .inl ((-2147483648), 2147483647, [])], ([], [], []), ([], []), [(.inl 3, 245, ([], [], [])), (.inl 0, 245, ([], [], []))])
set_option maxRecDepth 100000 in
theorem p2_s1309_e : ck_ok p2_O none [] [(132, [p2_s272]), (129, [p2_s253, p2_s249])] 167 [] 88 p2_s1309 = true := by decide +kernel
theorem p2_s1309_s {X : Int → Int} {LX : Nat} : ck_Ok p2_O X LX 167 p2_s1309 := ck_ok_s ⟨p2_nmu, ck_E1 (ck_S1 p2_s272_s ck_S0) (ck_E1 (ck_S1 p2_s253_s (ck_S1 p2_s249_s ck_S0)) ck_E0)⟩ ck_X0 ck_l0 p2_s1309_e
set_option maxRecDepth 100000 in
/-- GlacierMail.throwsFor -/
def p2_s1310 : ck_Sum := ((8, 2, 12), 245, [.inr (.inr (.inl 1)), .inl (0, 5, []), .inl (0, 299, []), .inl (300, 2147483647, []), .inl ((-2147483648), 2147483647, [])], ([], [], []), ([], []), [(.inl 3, 245, ([], [], [])), (.inl 0, 245, ([], [], []))])
set_option maxRecDepth 100000 in
theorem p2_s1310_e : ck_ok p2_O none [] [(132, [p2_s272]), (129, [p2_s253, p2_s251])] 167 [] 88 p2_s1310 = true := by decide +kernel
theorem p2_s1310_s {X : Int → Int} {LX : Nat} : ck_Ok p2_O X LX 167 p2_s1310 := ck_ok_s ⟨p2_nmu, ck_E1 (ck_S1 p2_s272_s ck_S0) (ck_E1 (ck_S1 p2_s253_s (ck_S1 p2_s251_s ck_S0)) ck_E0)⟩ ck_X0 ck_l0 p2_s1310_e
set_option maxRecDepth 100000 in
/-- GlacierMail.throwsFor -/
def p2_s1311 : ck_Sum := ((8, 2, 12), 245, [.inr (.inr (.inl 1)), .inl (0, 5, []), .inl (0, 299, []), .inl (0, 299, []), .inl ((-2147483648), (-1), [])], ([], [], [(3, 6, 6, (0, 299, [(10, 0)]))]), ([], []), [(.inl 3, 245, ([], [], [])), (.inl 4, 245, ([], [], [])), (.inl 0, 245, ([], [], [(3, 6, 6, (1, 299, [(10, 0)]))]))])
set_option maxRecDepth 100000 in
theorem p2_s1311_e : ck_ok p2_O none [] [(132, [p2_s272]), (129, [p2_s253])] 167 [] 104 p2_s1311 = true := by decide +kernel
theorem p2_s1311_s {X : Int → Int} {LX : Nat} : ck_Ok p2_O X LX 167 p2_s1311 := ck_ok_s ⟨p2_nmu, ck_E1 (ck_S1 p2_s272_s ck_S0) (ck_E1 (ck_S1 p2_s253_s ck_S0) ck_E0)⟩ ck_X0 ck_l0 p2_s1311_e
set_option maxRecDepth 100000 in
/-- GlacierMail.throwsFor -/
def p2_s1312 : ck_Sum := ((8, 2, 12), 245, [.inr (.inr (.inl 1)), .inl (0, 5, []), .inl (0, 299, []), .inl (0, 299, []), .inl (10, 2147483647, [])], ([], [], [(3, 6, 6, (0, 299, [(10, 0)]))]), ([], []), [(.inl 3, 245, ([], [], [])), (.inl 4, 245, ([], [], [])), (.inl 0, 245, ([], [], [(3, 6, 6, (1, 299, [(10, 0)]))]))])
set_option maxRecDepth 100000 in
theorem p2_s1312_e : ck_ok p2_O none [] [(132, [p2_s272]), (129, [p2_s253])] 167 [] 110 p2_s1312 = true := by decide +kernel
theorem p2_s1312_s {X : Int → Int} {LX : Nat} : ck_Ok p2_O X LX 167 p2_s1312 := ck_ok_s ⟨p2_nmu, ck_E1 (ck_S1 p2_s272_s ck_S0) (ck_E1 (ck_S1 p2_s253_s ck_S0) ck_E0)⟩ ck_X0 ck_l0 p2_s1312_e
set_option maxRecDepth 100000 in
/-- GlacierMail$Way.start -/
def p2_s1313 : ck_Sum := ((0, 0, 0), 245, [.inr (.inr (.inl 206)), .inl ((-2147483648), 2147483647, []), .inl ((-2147483648), 2147483647, []), .inl (0, 299, []), .inl (0, 1, [])], ([], [], []), ([(206, 2, 8)], []), [(.inr none, 245, ([], [], zl183))])
set_option maxRecDepth 100000 in
theorem p2_s1313_e : ck_ok p2_O none [] [] 29 [] 114 p2_s1313 = true := by decide +kernel
theorem p2_s1313_s {X : Int → Int} {LX : Nat} : ck_Ok p2_O X LX 29 p2_s1313 := ck_ok_s ⟨p2_nmu, ck_E0⟩ ck_X0 ck_l0 p2_s1313_e
set_option maxRecDepth 100000 in
/-- GlacierMail.throwsFor -/
def p2_s1314 : ck_Sum := ((8, 2, 12), 245, [.inr (.inr (.inl 1)), .inl (0, 5, []), .inl (0, 299, []), .inl (0, 299, []), .inl (0, 9, [])], ([], [(3, 8, 0)], [(3, 6, 6, (0, 299, [(10, 0)]))]), ([(206, 2, 8)], []), [(.inl 3, 245, ([], [], [])), (.inl 4, 245, ([], [], [])), (.inl 0, 245, ([], [], [(3, 6, 6, (1, 299, [(10, 0)]))])), (.inr (some (.inl ((-2147483648), 2147483647, []))), 245, ([], [], []))])
set_option maxRecDepth 100000 in
theorem p2_s1314_e : ck_ok p2_O none [] [(132, [p2_s272]), (129, [p2_s253]), (29, [p2_s1313]), (30, [p2_s346])] 167 [(71, [some (.inr (.inr (.inl 1))), some (.inl (0, 5, [])), some (.inl (0, 299, [])), some (.inl (0, 299, [])), some (.inl (0, 2, [])), some (.inl ((-2147483648), 2147483647, [])), some (.inl ((-1), 167, [])), some (.inl ((-1), 167, [])), some (.inl (0, 167, []))], ([], [(3, 8, 0)], [(3, 6, 6, (0, 299, [(10, 0)]))]), 100, .inl 8, true)] 210 p2_s1314 = true := by decide +kernel
theorem p2_s1314_s {X : Int → Int} {LX : Nat} : ck_Ok p2_O X LX 167 p2_s1314 := ck_ok_s ⟨p2_nmu, ck_E1 (ck_S1 p2_s272_s ck_S0) (ck_E1 (ck_S1 p2_s253_s ck_S0) (ck_E1 (ck_S1 p2_s1313_s ck_S0) (ck_E1 (ck_S1 p2_s346_s ck_S0) ck_E0)))⟩ ck_X0 ck_l0 p2_s1314_e
set_option maxRecDepth 100000 in
/-- GlacierMailModel.throwsFor -/
def p2_s1315 : ck_Sum := ((2, 0, 0), 245, [.inr (.inr (.inl 226)), .inl ((-2147483648), (-1), []), .inl ((-2147483648), 2147483647, []), .inl ((-2147483648), 2147483647, []), .inl ((-2147483648), 2147483647, [])], ([], [], []), ([(226, 0, 0)], []), [(.inr (some (.inl (ck_one 0))), 245, ([], [], [(226, 0, 0, ck_one 1)]))])
set_option maxRecDepth 100000 in
theorem p2_s1315_e : ck_ok p2_O none [] [(288, [p2_s284]), (282, [p2_s241])] 324 [] 94 p2_s1315 = true := by decide +kernel
theorem p2_s1315_s {X : Int → Int} {LX : Nat} : ck_Ok p2_O X LX 324 p2_s1315 := ck_ok_s ⟨p2_nmu, ck_E1 (ck_S1 p2_s284_s ck_S0) (ck_E1 (ck_S1 p2_s241_s ck_S0) ck_E0)⟩ ck_X0 ck_l0 p2_s1315_e
