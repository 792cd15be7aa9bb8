/-! EVERY CALL ENDS, whatever was done before (laid by wip/am/p2g.py). -/
set_option maxRecDepth 100000 in
/-- GlacierMailModel.ofLetter -/
def p2_s1386 : ck_Sum := ((0, 0, 0), 245, [.inr (.inr (.inl 226)), .inl (ck_one 12), .inl (ck_one 2)], ([], [], []), ([], []), [(.inr (some (.inl (0, 6, []))), 245, ([], [], []))])
set_option maxRecDepth 100000 in
theorem p2_s1386_e : ck_ok p2_O none [] [] 301 [] 92 p2_s1386 = true := by decide +kernel
theorem p2_s1386_s {X : Int → Int} {LX : Nat} : ck_Ok p2_O X LX 301 p2_s1386 := ck_ok_s ⟨p2_nmu, ck_E0⟩ ck_X0 ck_l0 p2_s1386_e
set_option maxRecDepth 100000 in
/-- GlacierMailModel.opener -/
def p2_s1387 : ck_Sum := ((2, 0, 0), 245, [.inr (.inr (.inl 226)), .inl (ck_one 12)], ([], [], [(226, 29, 29, (0, 299, [])), (227, 9, 9, (1, 299, [(11, 0)])), (227, 3, 3, (0, 8, [(21, 0)]))]), ([(226, 17, 23)], []), [(.inr (some (.inl (ck_one (-1)))), 245, ([], [], [])), (.inr (some (.inl (0, 7, []))), 245, ([], [], [(227, 204, 204, (0, 7, []))]))])
set_option maxRecDepth 100000 in
theorem p2_s1387_e : ck_ok p2_O none [] [(301, [p2_s1386, p2_s1084]), (299, [p2_s1360, p2_s698]), (253, [p2_s214]), (323, [p2_s1362])] 322 [(31, [some (.inr (.inr (.inl 226))), some (.inl (ck_one 12)), some (.inl (0, 6, [])), some (.inl (0, 8, []))], ([], [], [(227, 204, 204, ((-1), 7, [])), (226, 29, 29, (0, 299, [])), (227, 9, 9, (1, 299, [(11, 0)])), (227, 3, 3, (0, 8, [(21, 0)]))]), 100, .inl 3, true)] 166 p2_s1387 = true := by decide +kernel
theorem p2_s1387_s {X : Int → Int} {LX : Nat} : ck_Ok p2_O X LX 322 p2_s1387 := ck_ok_s ⟨p2_nmu, ck_E1 (ck_S1 p2_s1386_s (ck_S1 p2_s1084_s ck_S0)) (ck_E1 (ck_S1 p2_s1360_s (ck_S1 p2_s698_s ck_S0)) (ck_E1 (ck_S1 p2_s214_s ck_S0) (ck_E1 (ck_S1 p2_s1362_s ck_S0) ck_E0)))⟩ ck_X0 ck_l0 p2_s1387_e
set_option maxRecDepth 100000 in
/-- GlacierMailModel.ofLetter -/
def p2_s1388 : ck_Sum := ((0, 0, 0), 245, [.inr (.inr (.inl 226)), .inl (ck_one 13), .inl (ck_one 2)], ([], [], []), ([], []), [(.inr (some (.inl (0, 6, []))), 245, ([], [], []))])
set_option maxRecDepth 100000 in
theorem p2_s1388_e : ck_ok p2_O none [] [] 301 [] 92 p2_s1388 = true := by decide +kernel
theorem p2_s1388_s {X : Int → Int} {LX : Nat} : ck_Ok p2_O X LX 301 p2_s1388 := ck_ok_s ⟨p2_nmu, ck_E0⟩ ck_X0 ck_l0 p2_s1388_e
set_option maxRecDepth 100000 in
/-- GlacierMailModel.opener -/
def p2_s1389 : ck_Sum := ((2, 0, 0), 245, [.inr (.inr (.inl 226)), .inl (ck_one 13)], ([], [], [(226, 29, 29, (0, 299, [])), (227, 9, 9, (1, 299, [(11, 0)])), (227, 3, 3, (0, 8, [(21, 0)]))]), ([(226, 17, 23)], []), [(.inr (some (.inl (ck_one (-1)))), 245, ([], [], [])), (.inr (some (.inl (0, 7, []))), 245, ([], [], [(227, 211, 211, (0, 7, []))]))])
set_option maxRecDepth 100000 in
theorem p2_s1389_e : ck_ok p2_O none [] [(301, [p2_s1388, p2_s1095]), (299, [p2_s1360, p2_s698]), (253, [p2_s214]), (323, [p2_s1362])] 322 [(31, [some (.inr (.inr (.inl 226))), some (.inl (ck_one 13)), some (.inl (0, 6, [])), some (.inl (0, 8, []))], ([], [], [(227, 211, 211, ((-1), 7, [])), (226, 29, 29, (0, 299, [])), (227, 9, 9, (1, 299, [(11, 0)])), (227, 3, 3, (0, 8, [(21, 0)]))]), 100, .inl 3, true)] 166 p2_s1389 = true := by decide +kernel
theorem p2_s1389_s {X : Int → Int} {LX : Nat} : ck_Ok p2_O X LX 322 p2_s1389 := ck_ok_s ⟨p2_nmu, ck_E1 (ck_S1 p2_s1388_s (ck_S1 p2_s1095_s ck_S0)) (ck_E1 (ck_S1 p2_s1360_s (ck_S1 p2_s698_s ck_S0)) (ck_E1 (ck_S1 p2_s214_s ck_S0) (ck_E1 (ck_S1 p2_s1362_s ck_S0) ck_E0)))⟩ ck_X0 ck_l0 p2_s1389_e
set_option maxRecDepth 100000 in
/-- GlacierMailModel.ofLetter -/
def p2_s1390 : ck_Sum := ((0, 0, 0), 245, [.inr (.inr (.inl 226)), .inl (ck_one 14), .inl (ck_one 2)], ([], [], []), ([], []), [(.inr (some (.inl (0, 6, []))), 245, ([], [], []))])
set_option maxRecDepth 100000 in
theorem p2_s1390_e : ck_ok p2_O none [] [] 301 [] 92 p2_s1390 = true := by decide +kernel
theorem p2_s1390_s {X : Int → Int} {LX : Nat} : ck_Ok p2_O X LX 301 p2_s1390 := ck_ok_s ⟨p2_nmu, ck_E0⟩ ck_X0 ck_l0 p2_s1390_e
set_option maxRecDepth 100000 in
/-- GlacierMailModel.opener -/
def p2_s1391 : ck_Sum := ((2, 0, 0), 245, [.inr (.inr (.inl 226)), .inl (ck_one 14)], ([], [], [(226, 29, 29, (0, 299, [])), (227, 9, 9, (1, 299, [(11, 0)])), (227, 3, 3, (0, 8, [(21, 0)]))]), ([(226, 17, 23)], []), [(.inr (some (.inl (ck_one (-1)))), 245, ([], [], [])), (.inr (some (.inl (0, 7, []))), 245, ([], [], [(227, 218, 218, (0, 7, []))]))])
set_option maxRecDepth 100000 in
theorem p2_s1391_e : ck_ok p2_O none [] [(301, [p2_s1390, p2_s1106]), (299, [p2_s1360, p2_s698]), (253, [p2_s214]), (323, [p2_s1362])] 322 [(31, [some (.inr (.inr (.inl 226))), some (.inl (ck_one 14)), some (.inl (0, 6, [])), some (.inl (0, 8, []))], ([], [], [(227, 218, 218, ((-1), 7, [])), (226, 29, 29, (0, 299, [])), (227, 9, 9, (1, 299, [(11, 0)])), (227, 3, 3, (0, 8, [(21, 0)]))]), 100, .inl 3, true)] 166 p2_s1391 = true := by decide +kernel
theorem p2_s1391_s {X : Int → Int} {LX : Nat} : ck_Ok p2_O X LX 322 p2_s1391 := ck_ok_s ⟨p2_nmu, ck_E1 (ck_S1 p2_s1390_s (ck_S1 p2_s1106_s ck_S0)) (ck_E1 (ck_S1 p2_s1360_s (ck_S1 p2_s698_s ck_S0)) (ck_E1 (ck_S1 p2_s214_s ck_S0) (ck_E1 (ck_S1 p2_s1362_s ck_S0) ck_E0)))⟩ ck_X0 ck_l0 p2_s1391_e
set_option maxRecDepth 100000 in
/-- GlacierMailModel.ofLetter -/
def p2_s1392 : ck_Sum := ((0, 0, 0), 245, [.inr (.inr (.inl 226)), .inl (ck_one 15), .inl (ck_one 2)], ([], [], []), ([], []), [(.inr (some (.inl (0, 6, []))), 245, ([], [], []))])
set_option maxRecDepth 100000 in
theorem p2_s1392_e : ck_ok p2_O none [] [] 301 [] 92 p2_s1392 = true := by decide +kernel
theorem p2_s1392_s {X : Int → Int} {LX : Nat} : ck_Ok p2_O X LX 301 p2_s1392 := ck_ok_s ⟨p2_nmu, ck_E0⟩ ck_X0 ck_l0 p2_s1392_e
set_option maxRecDepth 100000 in
/-- GlacierMailModel.opener -/
def p2_s1393 : ck_Sum := ((2, 0, 0), 245, [.inr (.inr (.inl 226)), .inl (ck_one 15)], ([], [], [(226, 29, 29, (0, 299, [])), (227, 9, 9, (1, 299, [(11, 0)])), (227, 3, 3, (0, 8, [(21, 0)]))]), ([(226, 17, 23)], []), [(.inr (some (.inl (ck_one (-1)))), 245, ([], [], [])), (.inr (some (.inl (0, 7, []))), 245, ([], [], [(227, 225, 225, (0, 7, []))]))])
set_option maxRecDepth 100000 in
theorem p2_s1393_e : ck_ok p2_O none [] [(301, [p2_s1392, p2_s1117]), (299, [p2_s1360, p2_s698]), (253, [p2_s214]), (323, [p2_s1362])] 322 [(31, [some (.inr (.inr (.inl 226))), some (.inl (ck_one 15)), some (.inl (0, 6, [])), some (.inl (0, 8, []))], ([], [], [(227, 225, 225, ((-1), 7, [])), (226, 29, 29, (0, 299, [])), (227, 9, 9, (1, 299, [(11, 0)])), (227, 3, 3, (0, 8, [(21, 0)]))]), 100, .inl 3, true)] 166 p2_s1393 = true := by decide +kernel
theorem p2_s1393_s {X : Int → Int} {LX : Nat} : ck_Ok p2_O X LX 322 p2_s1393 := ck_ok_s ⟨p2_nmu, ck_E1 (ck_S1 p2_s1392_s (ck_S1 p2_s1117_s ck_S0)) (ck_E1 (ck_S1 p2_s1360_s (ck_S1 p2_s698_s ck_S0)) (ck_E1 (ck_S1 p2_s214_s ck_S0) (ck_E1 (ck_S1 p2_s1362_s ck_S0) ck_E0)))⟩ ck_X0 ck_l0 p2_s1393_e
set_option maxRecDepth 100000 in
/-- GlacierMailModel.ofLetter -/
def p2_s1394 : ck_Sum := ((0, 0, 0), 245, [.inr (.inr (.inl 226)), .inl (ck_one 16), .inl (ck_one 2)], ([], [], []), ([], []), [(.inr (some (.inl (0, 6, []))), 245, ([], [], []))])
set_option maxRecDepth 100000 in
theorem p2_s1394_e : ck_ok p2_O none [] [] 301 [] 92 p2_s1394 = true := by decide +kernel
theorem p2_s1394_s {X : Int → Int} {LX : Nat} : ck_Ok p2_O X LX 301 p2_s1394 := ck_ok_s ⟨p2_nmu, ck_E0⟩ ck_X0 ck_l0 p2_s1394_e
set_option maxRecDepth 100000 in
/-- GlacierMailModel.opener -/
def p2_s1395 : ck_Sum := ((2, 0, 0), 245, [.inr (.inr (.inl 226)), .inl (ck_one 16)], ([], [], [(226, 29, 29, (0, 299, [])), (227, 9, 9, (1, 299, [(11, 0)])), (227, 3, 3, (0, 8, [(21, 0)]))]), ([(226, 17, 23)], []), [(.inr (some (.inl (ck_one (-1)))), 245, ([], [], [])), (.inr (some (.inl (0, 7, []))), 245, ([], [], [(227, 232, 232, (0, 7, []))]))])
set_option maxRecDepth 100000 in
theorem p2_s1395_e : ck_ok p2_O none [] [(301, [p2_s1394, p2_s1128]), (299, [p2_s1360, p2_s698]), (253, [p2_s214]), (323, [p2_s1362])] 322 [(31, [some (.inr (.inr (.inl 226))), some (.inl (ck_one 16)), some (.inl (0, 6, [])), some (.inl (0, 8, []))], ([], [], [(227, 232, 232, ((-1), 7, [])), (226, 29, 29, (0, 299, [])), (227, 9, 9, (1, 299, [(11, 0)])), (227, 3, 3, (0, 8, [(21, 0)]))]), 100, .inl 3, true)] 166 p2_s1395 = true := by decide +kernel
theorem p2_s1395_s {X : Int → Int} {LX : Nat} : ck_Ok p2_O X LX 322 p2_s1395 := ck_ok_s ⟨p2_nmu, ck_E1 (ck_S1 p2_s1394_s (ck_S1 p2_s1128_s ck_S0)) (ck_E1 (ck_S1 p2_s1360_s (ck_S1 p2_s698_s ck_S0)) (ck_E1 (ck_S1 p2_s214_s ck_S0) (ck_E1 (ck_S1 p2_s1362_s ck_S0) ck_E0)))⟩ ck_X0 ck_l0 p2_s1395_e
set_option maxRecDepth 100000 in
/-- GlacierMailModel.ofLetter -/
def p2_s1396 : ck_Sum := ((0, 0, 0), 245, [.inr (.inr (.inl 226)), .inl (ck_one 17), .inl (ck_one 2)], ([], [], []), ([], []), [(.inr (some (.inl (0, 6, []))), 245, ([], [], []))])
set_option maxRecDepth 100000 in
theorem p2_s1396_e : ck_ok p2_O none [] [] 301 [] 92 p2_s1396 = true := by decide +kernel
theorem p2_s1396_s {X : Int → Int} {LX : Nat} : ck_Ok p2_O X LX 301 p2_s1396 := ck_ok_s ⟨p2_nmu, ck_E0⟩ ck_X0 ck_l0 p2_s1396_e
set_option maxRecDepth 100000 in
/-- GlacierMailModel.opener -/
def p2_s1397 : ck_Sum := ((2, 0, 0), 245, [.inr (.inr (.inl 226)), .inl (ck_one 17)], ([], [], [(226, 29, 29, (0, 299, [])), (227, 9, 9, (1, 299, [(11, 0)])), (227, 3, 3, (0, 8, [(21, 0)]))]), ([(226, 17, 23)], []), [(.inr (some (.inl (ck_one (-1)))), 245, ([], [], [])), (.inr (some (.inl (0, 7, []))), 245, ([], [], [(227, 239, 239, (0, 7, []))]))])
set_option maxRecDepth 100000 in
theorem p2_s1397_e : ck_ok p2_O none [] [(301, [p2_s1396, p2_s1139]), (299, [p2_s1360, p2_s698]), (253, [p2_s214]), (323, [p2_s1362])] 322 [(31, [some (.inr (.inr (.inl 226))), some (.inl (ck_one 17)), some (.inl (0, 6, [])), some (.inl (0, 8, []))], ([], [], [(227, 239, 239, ((-1), 7, [])), (226, 29, 29, (0, 299, [])), (227, 9, 9, (1, 299, [(11, 0)])), (227, 3, 3, (0, 8, [(21, 0)]))]), 100, .inl 3, true)] 166 p2_s1397 = true := by decide +kernel
theorem p2_s1397_s {X : Int → Int} {LX : Nat} : ck_Ok p2_O X LX 322 p2_s1397 := ck_ok_s ⟨p2_nmu, ck_E1 (ck_S1 p2_s1396_s (ck_S1 p2_s1139_s ck_S0)) (ck_E1 (ck_S1 p2_s1360_s (ck_S1 p2_s698_s ck_S0)) (ck_E1 (ck_S1 p2_s214_s ck_S0) (ck_E1 (ck_S1 p2_s1362_s ck_S0) ck_E0)))⟩ ck_X0 ck_l0 p2_s1397_e
set_option maxRecDepth 100000 in
/-- GlacierMailModel.ofLetter -/
def p2_s1398 : ck_Sum := ((0, 0, 0), 245, [.inr (.inr (.inl 226)), .inl (ck_one 18), .inl (ck_one 2)], ([], [], []), ([], []), [(.inr (some (.inl (0, 6, []))), 245, ([], [], []))])
set_option maxRecDepth 100000 in
theorem p2_s1398_e : ck_ok p2_O none [] [] 301 [] 92 p2_s1398 = true := by decide +kernel
theorem p2_s1398_s {X : Int → Int} {LX : Nat} : ck_Ok p2_O X LX 301 p2_s1398 := ck_ok_s ⟨p2_nmu, ck_E0⟩ ck_X0 ck_l0 p2_s1398_e
set_option maxRecDepth 100000 in
/-- GlacierMailModel.opener -/
def p2_s1399 : ck_Sum := ((2, 0, 0), 245, [.inr (.inr (.inl 226)), .inl (ck_one 18)], ([], [], [(226, 29, 29, (0, 299, [])), (227, 9, 9, (1, 299, [(11, 0)])), (227, 3, 3, (0, 8, [(21, 0)]))]), ([(226, 17, 23)], []), [(.inr (some (.inl (ck_one (-1)))), 245, ([], [], [])), (.inr (some (.inl (0, 7, []))), 245, ([], [], [(227, 246, 246, (0, 7, []))]))])
set_option maxRecDepth 100000 in
theorem p2_s1399_e : ck_ok p2_O none [] [(301, [p2_s1398, p2_s1150]), (299, [p2_s1360, p2_s698]), (253, [p2_s214]), (323, [p2_s1362])] 322 [(31, [some (.inr (.inr (.inl 226))), some (.inl (ck_one 18)), some (.inl (0, 6, [])), some (.inl (0, 8, []))], ([], [], [(227, 246, 246, ((-1), 7, [])), (226, 29, 29, (0, 299, [])), (227, 9, 9, (1, 299, [(11, 0)])), (227, 3, 3, (0, 8, [(21, 0)]))]), 100, .inl 3, true)] 166 p2_s1399 = true := by decide +kernel
theorem p2_s1399_s {X : Int → Int} {LX : Nat} : ck_Ok p2_O X LX 322 p2_s1399 := ck_ok_s ⟨p2_nmu, ck_E1 (ck_S1 p2_s1398_s (ck_S1 p2_s1150_s ck_S0)) (ck_E1 (ck_S1 p2_s1360_s (ck_S1 p2_s698_s ck_S0)) (ck_E1 (ck_S1 p2_s214_s ck_S0) (ck_E1 (ck_S1 p2_s1362_s ck_S0) ck_E0)))⟩ ck_X0 ck_l0 p2_s1399_e
set_option maxRecDepth 100000 in
/-- GlacierMailModel.ofLetter -/
def p2_s1400 : ck_Sum := ((0, 0, 0), 245, [.inr (.inr (.inl 226)), .inl (ck_one 19), .inl (ck_one 2)], ([], [], []), ([], []), [(.inr (some (.inl (0, 6, []))), 245, ([], [], []))])
set_option maxRecDepth 100000 in
theorem p2_s1400_e : ck_ok p2_O none [] [] 301 [] 92 p2_s1400 = true := by decide +kernel
theorem p2_s1400_s {X : Int → Int} {LX : Nat} : ck_Ok p2_O X LX 301 p2_s1400 := ck_ok_s ⟨p2_nmu, ck_E0⟩ ck_X0 ck_l0 p2_s1400_e
set_option maxRecDepth 100000 in
/-- GlacierMailModel.opener -/
def p2_s1401 : ck_Sum := ((2, 0, 0), 245, [.inr (.inr (.inl 226)), .inl (ck_one 19)], ([], [], [(226, 29, 29, (0, 299, [])), (227, 9, 9, (1, 299, [(11, 0)])), (227, 3, 3, (0, 8, [(21, 0)]))]), ([(226, 17, 23)], []), [(.inr (some (.inl (ck_one (-1)))), 245, ([], [], [])), (.inr (some (.inl (0, 7, []))), 245, ([], [], [(227, 253, 253, (0, 7, []))]))])
set_option maxRecDepth 100000 in
theorem p2_s1401_e : ck_ok p2_O none [] [(301, [p2_s1400, p2_s1161]), (299, [p2_s1360, p2_s698]), (253, [p2_s214]), (323, [p2_s1362])] 322 [(31, [some (.inr (.inr (.inl 226))), some (.inl (ck_one 19)), some (.inl (0, 6, [])), some (.inl (0, 8, []))], ([], [], [(227, 253, 253, ((-1), 7, [])), (226, 29, 29, (0, 299, [])), (227, 9, 9, (1, 299, [(11, 0)])), (227, 3, 3, (0, 8, [(21, 0)]))]), 100, .inl 3, true)] 166 p2_s1401 = true := by decide +kernel
theorem p2_s1401_s {X : Int → Int} {LX : Nat} : ck_Ok p2_O X LX 322 p2_s1401 := ck_ok_s ⟨p2_nmu, ck_E1 (ck_S1 p2_s1400_s (ck_S1 p2_s1161_s ck_S0)) (ck_E1 (ck_S1 p2_s1360_s (ck_S1 p2_s698_s ck_S0)) (ck_E1 (ck_S1 p2_s214_s ck_S0) (ck_E1 (ck_S1 p2_s1362_s ck_S0) ck_E0)))⟩ ck_X0 ck_l0 p2_s1401_e
set_option maxRecDepth 100000 in
/-- GlacierMailModel.ofLetter -/
def p2_s1402 : ck_Sum := ((0, 0, 0), 245, [.inr (.inr (.inl 226)), .inl (ck_one 20), .inl (ck_one 2)], ([], [], []), ([], []), [(.inr (some (.inl (0, 6, []))), 245, ([], [], []))])
set_option maxRecDepth 100000 in
theorem p2_s1402_e : ck_ok p2_O none [] [] 301 [] 92 p2_s1402 = true := by decide +kernel
theorem p2_s1402_s {X : Int → Int} {LX : Nat} : ck_Ok p2_O X LX 301 p2_s1402 := ck_ok_s ⟨p2_nmu, ck_E0⟩ ck_X0 ck_l0 p2_s1402_e
set_option maxRecDepth 100000 in
/-- GlacierMailModel.opener -/
def p2_s1403 : ck_Sum := ((2, 0, 0), 245, [.inr (.inr (.inl 226)), .inl (ck_one 20)], ([], [], [(226, 29, 29, (0, 299, [])), (227, 9, 9, (1, 299, [(11, 0)])), (227, 3, 3, (0, 8, [(21, 0)]))]), ([(226, 17, 23)], []), [(.inr (some (.inl (ck_one (-1)))), 245, ([], [], [])), (.inr (some (.inl (0, 7, []))), 245, ([], [], [(227, 260, 260, (0, 7, []))]))])
set_option maxRecDepth 100000 in
theorem p2_s1403_e : ck_ok p2_O none [] [(301, [p2_s1402, p2_s1172]), (299, [p2_s1360, p2_s698]), (253, [p2_s214]), (323, [p2_s1362])] 322 [(31, [some (.inr (.inr (.inl 226))), some (.inl (ck_one 20)), some (.inl (0, 6, [])), some (.inl (0, 8, []))], ([], [], [(227, 260, 260, ((-1), 7, [])), (226, 29, 29, (0, 299, [])), (227, 9, 9, (1, 299, [(11, 0)])), (227, 3, 3, (0, 8, [(21, 0)]))]), 100, .inl 3, true)] 166 p2_s1403 = true := by decide +kernel
theorem p2_s1403_s {X : Int → Int} {LX : Nat} : ck_Ok p2_O X LX 322 p2_s1403 := ck_ok_s ⟨p2_nmu, ck_E1 (ck_S1 p2_s1402_s (ck_S1 p2_s1172_s ck_S0)) (ck_E1 (ck_S1 p2_s1360_s (ck_S1 p2_s698_s ck_S0)) (ck_E1 (ck_S1 p2_s214_s ck_S0) (ck_E1 (ck_S1 p2_s1362_s ck_S0) ck_E0)))⟩ ck_X0 ck_l0 p2_s1403_e
set_option maxRecDepth 100000 in
/-- GlacierMailModel.ofLetter -/
def p2_s1404 : ck_Sum := ((0, 0, 0), 245, [.inr (.inr (.inl 226)), .inl (ck_one 21), .inl (ck_one 2)], ([], [], []), ([], []), [(.inr (some (.inl (0, 6, []))), 245, ([], [], []))])
set_option maxRecDepth 100000 in
theorem p2_s1404_e : ck_ok p2_O none [] [] 301 [] 92 p2_s1404 = true := by decide +kernel
theorem p2_s1404_s {X : Int → Int} {LX : Nat} : ck_Ok p2_O X LX 301 p2_s1404 := ck_ok_s ⟨p2_nmu, ck_E0⟩ ck_X0 ck_l0 p2_s1404_e
set_option maxRecDepth 100000 in
/-- GlacierMailModel.opener -/
def p2_s1405 : ck_Sum := ((2, 0, 0), 245, [.inr (.inr (.inl 226)), .inl (ck_one 21)], ([], [], [(226, 29, 29, (0, 299, [])), (227, 9, 9, (1, 299, [(11, 0)])), (227, 3, 3, (0, 8, [(21, 0)]))]), ([(226, 17, 23)], []), [(.inr (some (.inl (ck_one (-1)))), 245, ([], [], [])), (.inr (some (.inl (0, 7, []))), 245, ([], [], [(227, 267, 267, (0, 7, []))]))])
set_option maxRecDepth 100000 in
theorem p2_s1405_e : ck_ok p2_O none [] [(301, [p2_s1404, p2_s1183]), (299, [p2_s1360, p2_s698]), (253, [p2_s214]), (323, [p2_s1362])] 322 [(31, [some (.inr (.inr (.inl 226))), some (.inl (ck_one 21)), some (.inl (0, 6, [])), some (.inl (0, 8, []))], ([], [], [(227, 267, 267, ((-1), 7, [])), (226, 29, 29, (0, 299, [])), (227, 9, 9, (1, 299, [(11, 0)])), (227, 3, 3, (0, 8, [(21, 0)]))]), 100, .inl 3, true)] 166 p2_s1405 = true := by decide +kernel
theorem p2_s1405_s {X : Int → Int} {LX : Nat} : ck_Ok p2_O X LX 322 p2_s1405 := ck_ok_s ⟨p2_nmu, ck_E1 (ck_S1 p2_s1404_s (ck_S1 p2_s1183_s ck_S0)) (ck_E1 (ck_S1 p2_s1360_s (ck_S1 p2_s698_s ck_S0)) (ck_E1 (ck_S1 p2_s214_s ck_S0) (ck_E1 (ck_S1 p2_s1362_s ck_S0) ck_E0)))⟩ ck_X0 ck_l0 p2_s1405_e
set_option maxRecDepth 100000 in
/-- GlacierMailModel.ofLetter -/
def p2_s1406 : ck_Sum := ((0, 0, 0), 245, [.inr (.inr (.inl 226)), .inl (ck_one 22), .inl (ck_one 2)], ([], [], []), ([], []), [(.inr (some (.inl (0, 6, []))), 245, ([], [], []))])
set_option maxRecDepth 100000 in
theorem p2_s1406_e : ck_ok p2_O none [] [] 301 [] 92 p2_s1406 = true := by decide +kernel
theorem p2_s1406_s {X : Int → Int} {LX : Nat} : ck_Ok p2_O X LX 301 p2_s1406 := ck_ok_s ⟨p2_nmu, ck_E0⟩ ck_X0 ck_l0 p2_s1406_e
set_option maxRecDepth 100000 in
/-- GlacierMailModel.opener -/
def p2_s1407 : ck_Sum := ((2, 0, 0), 245, [.inr (.inr (.inl 226)), .inl (ck_one 22)], ([], [], [(226, 29, 29, (0, 299, [])), (227, 9, 9, (1, 299, [(11, 0)])), (227, 3, 3, (0, 8, [(21, 0)]))]), ([(226, 17, 23)], []), [(.inr (some (.inl (ck_one (-1)))), 245, ([], [], [])), (.inr (some (.inl (0, 7, []))), 245, ([], [], [(227, 274, 274, (0, 7, []))]))])
set_option maxRecDepth 100000 in
theorem p2_s1407_e : ck_ok p2_O none [] [(301, [p2_s1406, p2_s1194]), (299, [p2_s1360, p2_s698]), (253, [p2_s214]), (323, [p2_s1362])] 322 [(31, [some (.inr (.inr (.inl 226))), some (.inl (ck_one 22)), some (.inl (0, 6, [])), some (.inl (0, 8, []))], ([], [], [(227, 274, 274, ((-1), 7, [])), (226, 29, 29, (0, 299, [])), (227, 9, 9, (1, 299, [(11, 0)])), (227, 3, 3, (0, 8, [(21, 0)]))]), 100, .inl 3, true)] 166 p2_s1407 = true := by decide +kernel
theorem p2_s1407_s {X : Int → Int} {LX : Nat} : ck_Ok p2_O X LX 322 p2_s1407 := ck_ok_s ⟨p2_nmu, ck_E1 (ck_S1 p2_s1406_s (ck_S1 p2_s1194_s ck_S0)) (ck_E1 (ck_S1 p2_s1360_s (ck_S1 p2_s698_s ck_S0)) (ck_E1 (ck_S1 p2_s214_s ck_S0) (ck_E1 (ck_S1 p2_s1362_s ck_S0) ck_E0)))⟩ ck_X0 ck_l0 p2_s1407_e
set_option maxRecDepth 100000 in
/-- GlacierMailModel.ofLetter -/
def p2_s1408 : ck_Sum := ((0, 0, 0), 245, [.inr (.inr (.inl 226)), .inl (ck_one 23), .inl (ck_one 2)], ([], [], []), ([], []), [(.inr (some (.inl (0, 6, []))), 245, ([], [], []))])
set_option maxRecDepth 100000 in
theorem p2_s1408_e : ck_ok p2_O none [] [] 301 [] 92 p2_s1408 = true := by decide +kernel
theorem p2_s1408_s {X : Int → Int} {LX : Nat} : ck_Ok p2_O X LX 301 p2_s1408 := ck_ok_s ⟨p2_nmu, ck_E0⟩ ck_X0 ck_l0 p2_s1408_e
set_option maxRecDepth 100000 in
/-- GlacierMailModel.opener -/
def p2_s1409 : ck_Sum := ((2, 0, 0), 245, [.inr (.inr (.inl 226)), .inl (ck_one 23)], ([], [], [(226, 29, 29, (0, 299, [])), (227, 9, 9, (1, 299, [(11, 0)])), (227, 3, 3, (0, 8, [(21, 0)]))]), ([(226, 17, 23)], []), [(.inr (some (.inl (ck_one (-1)))), 245, ([], [], [])), (.inr (some (.inl (0, 7, []))), 245, ([], [], [(227, 281, 281, (0, 7, []))]))])
set_option maxRecDepth 100000 in
theorem p2_s1409_e : ck_ok p2_O none [] [(301, [p2_s1408, p2_s1205]), (299, [p2_s1360, p2_s698]), (253, [p2_s214]), (323, [p2_s1362])] 322 [(31, [some (.inr (.inr (.inl 226))), some (.inl (ck_one 23)), some (.inl (0, 6, [])), some (.inl (0, 8, []))], ([], [], [(227, 281, 281, ((-1), 7, [])), (226, 29, 29, (0, 299, [])), (227, 9, 9, (1, 299, [(11, 0)])), (227, 3, 3, (0, 8, [(21, 0)]))]), 100, .inl 3, true)] 166 p2_s1409 = true := by decide +kernel
theorem p2_s1409_s {X : Int → Int} {LX : Nat} : ck_Ok p2_O X LX 322 p2_s1409 := ck_ok_s ⟨p2_nmu, ck_E1 (ck_S1 p2_s1408_s (ck_S1 p2_s1205_s ck_S0)) (ck_E1 (ck_S1 p2_s1360_s (ck_S1 p2_s698_s ck_S0)) (ck_E1 (ck_S1 p2_s214_s ck_S0) (ck_E1 (ck_S1 p2_s1362_s ck_S0) ck_E0)))⟩ ck_X0 ck_l0 p2_s1409_e
set_option maxRecDepth 100000 in
/-- GlacierMailModel.in -/
def p2_s1412 : ck_Sum := ((0, 0, 0), 245, [.inl (ck_one 2), .inl (ck_one 1), .inl (ck_one 50)], ([], [], []), ([], []), [(.inr (some (.inl (ck_one 1))), 245, ([], [], []))])
set_option maxRecDepth 100000 in
theorem p2_s1412_e : ck_ok p2_O none [] [] 286 [] 88 p2_s1412 = true := by decide +kernel
theorem p2_s1412_s {X : Int → Int} {LX : Nat} : ck_Ok p2_O X LX 286 p2_s1412 := ck_ok_s ⟨p2_nmu, ck_E0⟩ ck_X0 ck_l0 p2_s1412_e
set_option maxRecDepth 100000 in
/-- GlacierMailModel.in -/
def p2_s1414 : ck_Sum := ((0, 0, 0), 245, [.inl (ck_one 3), .inl (ck_one 1), .inl (ck_one 50)], ([], [], []), ([], []), [(.inr (some (.inl (ck_one 1))), 245, ([], [], []))])
set_option maxRecDepth 100000 in
theorem p2_s1414_e : ck_ok p2_O none [] [] 286 [] 88 p2_s1414 = true := by decide +kernel
theorem p2_s1414_s {X : Int → Int} {LX : Nat} : ck_Ok p2_O X LX 286 p2_s1414 := ck_ok_s ⟨p2_nmu, ck_E0⟩ ck_X0 ck_l0 p2_s1414_e
set_option maxRecDepth 100000 in
/-- GlacierMailModel.in -/
def p2_s1416 : ck_Sum := ((0, 0, 0), 245, [.inl (ck_one 4), .inl (ck_one 1), .inl (ck_one 50)], ([], [], []), ([], []), [(.inr (some (.inl (ck_one 1))), 245, ([], [], []))])
set_option maxRecDepth 100000 in
theorem p2_s1416_e : ck_ok p2_O none [] [] 286 [] 88 p2_s1416 = true := by decide +kernel
theorem p2_s1416_s {X : Int → Int} {LX : Nat} : ck_Ok p2_O X LX 286 p2_s1416 := ck_ok_s ⟨p2_nmu, ck_E0⟩ ck_X0 ck_l0 p2_s1416_e
set_option maxRecDepth 100000 in
/-- GlacierMailModel.in -/
def p2_s1418 : ck_Sum := ((0, 0, 0), 245, [.inl (ck_one 5), .inl (ck_one 1), .inl (ck_one 50)], ([], [], []), ([], []), [(.inr (some (.inl (ck_one 1))), 245, ([], [], []))])
set_option maxRecDepth 100000 in
theorem p2_s1418_e : ck_ok p2_O none [] [] 286 [] 88 p2_s1418 = true := by decide +kernel
theorem p2_s1418_s {X : Int → Int} {LX : Nat} : ck_Ok p2_O X LX 286 p2_s1418 := ck_ok_s ⟨p2_nmu, ck_E0⟩ ck_X0 ck_l0 p2_s1418_e
set_option maxRecDepth 100000 in
/-- GlacierMailModel.in -/
def p2_s1420 : ck_Sum := ((0, 0, 0), 245, [.inl (ck_one 6), .inl (ck_one 1), .inl (ck_one 50)], ([], [], []), ([], []), [(.inr (some (.inl (ck_one 1))), 245, ([], [], []))])
set_option maxRecDepth 100000 in
theorem p2_s1420_e : ck_ok p2_O none [] [] 286 [] 88 p2_s1420 = true := by decide +kernel
theorem p2_s1420_s {X : Int → Int} {LX : Nat} : ck_Ok p2_O X LX 286 p2_s1420 := ck_ok_s ⟨p2_nmu, ck_E0⟩ ck_X0 ck_l0 p2_s1420_e
set_option maxRecDepth 100000 in
/-- GlacierMailModel.in -/
def p2_s1422 : ck_Sum := ((0, 0, 0), 245, [.inl (ck_one 7), .inl (ck_one 1), .inl (ck_one 50)], ([], [], []), ([], []), [(.inr (some (.inl (ck_one 1))), 245, ([], [], []))])
set_option maxRecDepth 100000 in
theorem p2_s1422_e : ck_ok p2_O none [] [] 286 [] 88 p2_s1422 = true := by decide +kernel
theorem p2_s1422_s {X : Int → Int} {LX : Nat} : ck_Ok p2_O X LX 286 p2_s1422 := ck_ok_s ⟨p2_nmu, ck_E0⟩ ck_X0 ck_l0 p2_s1422_e
set_option maxRecDepth 100000 in
/-- GlacierMailModel.in -/
def p2_s1424 : ck_Sum := ((0, 0, 0), 245, [.inl (ck_one 8), .inl (ck_one 1), .inl (ck_one 50)], ([], [], []), ([], []), [(.inr (some (.inl (ck_one 1))), 245, ([], [], []))])
set_option maxRecDepth 100000 in
theorem p2_s1424_e : ck_ok p2_O none [] [] 286 [] 88 p2_s1424 = true := by decide +kernel
theorem p2_s1424_s {X : Int → Int} {LX : Nat} : ck_Ok p2_O X LX 286 p2_s1424 := ck_ok_s ⟨p2_nmu, ck_E0⟩ ck_X0 ck_l0 p2_s1424_e
set_option maxRecDepth 100000 in
/-- GlacierMailModel.in -/
def p2_s1426 : ck_Sum := ((0, 0, 0), 245, [.inl (ck_one 9), .inl (ck_one 1), .inl (ck_one 50)], ([], [], []), ([], []), [(.inr (some (.inl (ck_one 1))), 245, ([], [], []))])
set_option maxRecDepth 100000 in
theorem p2_s1426_e : ck_ok p2_O none [] [] 286 [] 88 p2_s1426 = true := by decide +kernel
theorem p2_s1426_s {X : Int → Int} {LX : Nat} : ck_Ok p2_O X LX 286 p2_s1426 := ck_ok_s ⟨p2_nmu, ck_E0⟩ ck_X0 ck_l0 p2_s1426_e
set_option maxRecDepth 100000 in
/-- GlacierMailModel.in -/
def p2_s1428 : ck_Sum := ((0, 0, 0), 245, [.inl (ck_one 10), .inl (ck_one 1), .inl (ck_one 50)], ([], [], []), ([], []), [(.inr (some (.inl (ck_one 1))), 245, ([], [], []))])
set_option maxRecDepth 100000 in
theorem p2_s1428_e : ck_ok p2_O none [] [] 286 [] 88 p2_s1428 = true := by decide +kernel
theorem p2_s1428_s {X : Int → Int} {LX : Nat} : ck_Ok p2_O X LX 286 p2_s1428 := ck_ok_s ⟨p2_nmu, ck_E0⟩ ck_X0 ck_l0 p2_s1428_e
set_option maxRecDepth 100000 in
/-- GlacierMailModel.in -/
def p2_s1430 : ck_Sum := ((0, 0, 0), 245, [.inl (ck_one 11), .inl (ck_one 1), .inl (ck_one 50)], ([], [], []), ([], []), [(.inr (some (.inl (ck_one 1))), 245, ([], [], []))])
set_option maxRecDepth 100000 in
theorem p2_s1430_e : ck_ok p2_O none [] [] 286 [] 88 p2_s1430 = true := by decide +kernel
theorem p2_s1430_s {X : Int → Int} {LX : Nat} : ck_Ok p2_O X LX 286 p2_s1430 := ck_ok_s ⟨p2_nmu, ck_E0⟩ ck_X0 ck_l0 p2_s1430_e
set_option maxRecDepth 100000 in
/-- GlacierMailModel.in -/
def p2_s1432 : ck_Sum := ((0, 0, 0), 245, [.inl (ck_one 12), .inl (ck_one 1), .inl (ck_one 50)], ([], [], []), ([], []), [(.inr (some (.inl (ck_one 1))), 245, ([], [], []))])
set_option maxRecDepth 100000 in
theorem p2_s1432_e : ck_ok p2_O none [] [] 286 [] 88 p2_s1432 = true := by decide +kernel
theorem p2_s1432_s {X : Int → Int} {LX : Nat} : ck_Ok p2_O X LX 286 p2_s1432 := ck_ok_s ⟨p2_nmu, ck_E0⟩ ck_X0 ck_l0 p2_s1432_e
set_option maxRecDepth 100000 in
/-- GlacierMailModel.in -/
def p2_s1434 : ck_Sum := ((0, 0, 0), 245, [.inl (ck_one 13), .inl (ck_one 1), .inl (ck_one 50)], ([], [], []), ([], []), [(.inr (some (.inl (ck_one 1))), 245, ([], [], []))])
set_option maxRecDepth 100000 in
theorem p2_s1434_e : ck_ok p2_O none [] [] 286 [] 88 p2_s1434 = true := by decide +kernel
theorem p2_s1434_s {X : Int → Int} {LX : Nat} : ck_Ok p2_O X LX 286 p2_s1434 := ck_ok_s ⟨p2_nmu, ck_E0⟩ ck_X0 ck_l0 p2_s1434_e
set_option maxRecDepth 100000 in
/-- GlacierMailModel.in -/
def p2_s1436 : ck_Sum := ((0, 0, 0), 245, [.inl (ck_one 14), .inl (ck_one 1), .inl (ck_one 50)], ([], [], []), ([], []), [(.inr (some (.inl (ck_one 1))), 245, ([], [], []))])
set_option maxRecDepth 100000 in
theorem p2_s1436_e : ck_ok p2_O none [] [] 286 [] 88 p2_s1436 = true := by decide +kernel
theorem p2_s1436_s {X : Int → Int} {LX : Nat} : ck_Ok p2_O X LX 286 p2_s1436 := ck_ok_s ⟨p2_nmu, ck_E0⟩ ck_X0 ck_l0 p2_s1436_e
set_option maxRecDepth 100000 in
/-- GlacierMailModel.in -/
def p2_s1438 : ck_Sum := ((0, 0, 0), 245, [.inl (ck_one 15), .inl (ck_one 1), .inl (ck_one 50)], ([], [], []), ([], []), [(.inr (some (.inl (ck_one 1))), 245, ([], [], []))])
set_option maxRecDepth 100000 in
theorem p2_s1438_e : ck_ok p2_O none [] [] 286 [] 88 p2_s1438 = true := by decide +kernel
theorem p2_s1438_s {X : Int → Int} {LX : Nat} : ck_Ok p2_O X LX 286 p2_s1438 := ck_ok_s ⟨p2_nmu, ck_E0⟩ ck_X0 ck_l0 p2_s1438_e
set_option maxRecDepth 100000 in
/-- GlacierMailModel.in -/
def p2_s1440 : ck_Sum := ((0, 0, 0), 245, [.inl (ck_one 16), .inl (ck_one 1), .inl (ck_one 50)], ([], [], []), ([], []), [(.inr (some (.inl (ck_one 1))), 245, ([], [], []))])
set_option maxRecDepth 100000 in
theorem p2_s1440_e : ck_ok p2_O none [] [] 286 [] 88 p2_s1440 = true := by decide +kernel
theorem p2_s1440_s {X : Int → Int} {LX : Nat} : ck_Ok p2_O X LX 286 p2_s1440 := ck_ok_s ⟨p2_nmu, ck_E0⟩ ck_X0 ck_l0 p2_s1440_e
set_option maxRecDepth 100000 in
/-- GlacierMailModel.in -/
def p2_s1442 : ck_Sum := ((0, 0, 0), 245, [.inl (ck_one 17), .inl (ck_one 1), .inl (ck_one 50)], ([], [], []), ([], []), [(.inr (some (.inl (ck_one 1))), 245, ([], [], []))])
set_option maxRecDepth 100000 in
theorem p2_s1442_e : ck_ok p2_O none [] [] 286 [] 88 p2_s1442 = true := by decide +kernel
theorem p2_s1442_s {X : Int → Int} {LX : Nat} : ck_Ok p2_O X LX 286 p2_s1442 := ck_ok_s ⟨p2_nmu, ck_E0⟩ ck_X0 ck_l0 p2_s1442_e
set_option maxRecDepth 100000 in
/-- GlacierMailModel.in -/
def p2_s1444 : ck_Sum := ((0, 0, 0), 245, [.inl (ck_one 18), .inl (ck_one 1), .inl (ck_one 50)], ([], [], []), ([], []), [(.inr (some (.inl (ck_one 1))), 245, ([], [], []))])
set_option maxRecDepth 100000 in
theorem p2_s1444_e : ck_ok p2_O none [] [] 286 [] 88 p2_s1444 = true := by decide +kernel
theorem p2_s1444_s {X : Int → Int} {LX : Nat} : ck_Ok p2_O X LX 286 p2_s1444 := ck_ok_s ⟨p2_nmu, ck_E0⟩ ck_X0 ck_l0 p2_s1444_e
set_option maxRecDepth 100000 in
/-- GlacierMailModel.in -/
def p2_s1446 : ck_Sum := ((0, 0, 0), 245, [.inl (ck_one 19), .inl (ck_one 1), .inl (ck_one 50)], ([], [], []), ([], []), [(.inr (some (.inl (ck_one 1))), 245, ([], [], []))])
set_option maxRecDepth 100000 in
theorem p2_s1446_e : ck_ok p2_O none [] [] 286 [] 88 p2_s1446 = true := by decide +kernel
theorem p2_s1446_s {X : Int → Int} {LX : Nat} : ck_Ok p2_O X LX 286 p2_s1446 := ck_ok_s ⟨p2_nmu, ck_E0⟩ ck_X0 ck_l0 p2_s1446_e
set_option maxRecDepth 100000 in
/-- GlacierMailModel.in -/
def p2_s1448 : ck_Sum := ((0, 0, 0), 245, [.inl (ck_one 20), .inl (ck_one 1), .inl (ck_one 50)], ([], [], []), ([], []), [(.inr (some (.inl (ck_one 1))), 245, ([], [], []))])
set_option maxRecDepth 100000 in
theorem p2_s1448_e : ck_ok p2_O none [] [] 286 [] 88 p2_s1448 = true := by decide +kernel
theorem p2_s1448_s {X : Int → Int} {LX : Nat} : ck_Ok p2_O X LX 286 p2_s1448 := ck_ok_s ⟨p2_nmu, ck_E0⟩ ck_X0 ck_l0 p2_s1448_e
set_option maxRecDepth 100000 in
/-- GlacierMailModel.in -/
def p2_s1450 : ck_Sum := ((0, 0, 0), 245, [.inl (ck_one 21), .inl (ck_one 1), .inl (ck_one 50)], ([], [], []), ([], []), [(.inr (some (.inl (ck_one 1))), 245, ([], [], []))])
set_option maxRecDepth 100000 in
theorem p2_s1450_e : ck_ok p2_O none [] [] 286 [] 88 p2_s1450 = true := by decide +kernel
theorem p2_s1450_s {X : Int → Int} {LX : Nat} : ck_Ok p2_O X LX 286 p2_s1450 := ck_ok_s ⟨p2_nmu, ck_E0⟩ ck_X0 ck_l0 p2_s1450_e
set_option maxRecDepth 100000 in
/-- GlacierMailModel.in -/
def p2_s1452 : ck_Sum := ((0, 0, 0), 245, [.inl (ck_one 22), .inl (ck_one 1), .inl (ck_one 50)], ([], [], []), ([], []), [(.inr (some (.inl (ck_one 1))), 245, ([], [], []))])
set_option maxRecDepth 100000 in
theorem p2_s1452_e : ck_ok p2_O none [] [] 286 [] 88 p2_s1452 = true := by decide +kernel
theorem p2_s1452_s {X : Int → Int} {LX : Nat} : ck_Ok p2_O X LX 286 p2_s1452 := ck_ok_s ⟨p2_nmu, ck_E0⟩ ck_X0 ck_l0 p2_s1452_e
set_option maxRecDepth 100000 in
/-- GlacierMailModel.in -/
def p2_s1454 : ck_Sum := ((0, 0, 0), 245, [.inl (ck_one 23), .inl (ck_one 1), .inl (ck_one 50)], ([], [], []), ([], []), [(.inr (some (.inl (ck_one 1))), 245, ([], [], []))])
set_option maxRecDepth 100000 in
theorem p2_s1454_e : ck_ok p2_O none [] [] 286 [] 88 p2_s1454 = true := by decide +kernel
theorem p2_s1454_s {X : Int → Int} {LX : Nat} : ck_Ok p2_O X LX 286 p2_s1454 := ck_ok_s ⟨p2_nmu, ck_E0⟩ ck_X0 ck_l0 p2_s1454_e
set_option maxRecDepth 100000 in
/-- GlacierMailModel.in -/
def p2_s1456 : ck_Sum := ((0, 0, 0), 245, [.inl (ck_one 24), .inl (ck_one 1), .inl (ck_one 50)], ([], [], []), ([], []), [(.inr (some (.inl (ck_one 1))), 245, ([], [], []))])
set_option maxRecDepth 100000 in
theorem p2_s1456_e : ck_ok p2_O none [] [] 286 [] 88 p2_s1456 = true := by decide +kernel
theorem p2_s1456_s {X : Int → Int} {LX : Nat} : ck_Ok p2_O X LX 286 p2_s1456 := ck_ok_s ⟨p2_nmu, ck_E0⟩ ck_X0 ck_l0 p2_s1456_e
set_option maxRecDepth 100000 in
/-- GlacierMailModel.in -/
def p2_s1458 : ck_Sum := ((0, 0, 0), 245, [.inl (ck_one 25), .inl (ck_one 1), .inl (ck_one 50)], ([], [], []), ([], []), [(.inr (some (.inl (ck_one 1))), 245, ([], [], []))])
set_option maxRecDepth 100000 in
theorem p2_s1458_e : ck_ok p2_O none [] [] 286 [] 88 p2_s1458 = true := by decide +kernel
theorem p2_s1458_s {X : Int → Int} {LX : Nat} : ck_Ok p2_O X LX 286 p2_s1458 := ck_ok_s ⟨p2_nmu, ck_E0⟩ ck_X0 ck_l0 p2_s1458_e
set_option maxRecDepth 100000 in
/-- GlacierMailModel.in -/
def p2_s1460 : ck_Sum := ((0, 0, 0), 245, [.inl (ck_one 26), .inl (ck_one 1), .inl (ck_one 50)], ([], [], []), ([], []), [(.inr (some (.inl (ck_one 1))), 245, ([], [], []))])
set_option maxRecDepth 100000 in
theorem p2_s1460_e : ck_ok p2_O none [] [] 286 [] 88 p2_s1460 = true := by decide +kernel
theorem p2_s1460_s {X : Int → Int} {LX : Nat} : ck_Ok p2_O X LX 286 p2_s1460 := ck_ok_s ⟨p2_nmu, ck_E0⟩ ck_X0 ck_l0 p2_s1460_e
set_option maxRecDepth 100000 in
/-- GlacierMailModel.in -/
def p2_s1462 : ck_Sum := ((0, 0, 0), 245, [.inl (ck_one 27), .inl (ck_one 1), .inl (ck_one 50)], ([], [], []), ([], []), [(.inr (some (.inl (ck_one 1))), 245, ([], [], []))])
set_option maxRecDepth 100000 in
theorem p2_s1462_e : ck_ok p2_O none [] [] 286 [] 88 p2_s1462 = true := by decide +kernel
theorem p2_s1462_s {X : Int → Int} {LX : Nat} : ck_Ok p2_O X LX 286 p2_s1462 := ck_ok_s ⟨p2_nmu, ck_E0⟩ ck_X0 ck_l0 p2_s1462_e
set_option maxRecDepth 100000 in
/-- GlacierMailModel.in -/
def p2_s1464 : ck_Sum := ((0, 0, 0), 245, [.inl (ck_one 28), .inl (ck_one 1), .inl (ck_one 50)], ([], [], []), ([], []), [(.inr (some (.inl (ck_one 1))), 245, ([], [], []))])
set_option maxRecDepth 100000 in
theorem p2_s1464_e : ck_ok p2_O none [] [] 286 [] 88 p2_s1464 = true := by decide +kernel
theorem p2_s1464_s {X : Int → Int} {LX : Nat} : ck_Ok p2_O X LX 286 p2_s1464 := ck_ok_s ⟨p2_nmu, ck_E0⟩ ck_X0 ck_l0 p2_s1464_e
set_option maxRecDepth 100000 in
/-- GlacierMailModel.in -/
def p2_s1466 : ck_Sum := ((0, 0, 0), 245, [.inl (ck_one 29), .inl (ck_one 1), .inl (ck_one 50)], ([], [], []), ([], []), [(.inr (some (.inl (ck_one 1))), 245, ([], [], []))])
set_option maxRecDepth 100000 in
theorem p2_s1466_e : ck_ok p2_O none [] [] 286 [] 88 p2_s1466 = true := by decide +kernel
theorem p2_s1466_s {X : Int → Int} {LX : Nat} : ck_Ok p2_O X LX 286 p2_s1466 := ck_ok_s ⟨p2_nmu, ck_E0⟩ ck_X0 ck_l0 p2_s1466_e
set_option maxRecDepth 100000 in
/-- GlacierMailModel.in -/
def p2_s1468 : ck_Sum := ((0, 0, 0), 245, [.inl (ck_one 30), .inl (ck_one 1), .inl (ck_one 50)], ([], [], []), ([], []), [(.inr (some (.inl (ck_one 1))), 245, ([], [], []))])
set_option maxRecDepth 100000 in
theorem p2_s1468_e : ck_ok p2_O none [] [] 286 [] 88 p2_s1468 = true := by decide +kernel
theorem p2_s1468_s {X : Int → Int} {LX : Nat} : ck_Ok p2_O X LX 286 p2_s1468 := ck_ok_s ⟨p2_nmu, ck_E0⟩ ck_X0 ck_l0 p2_s1468_e
set_option maxRecDepth 100000 in
/-- GlacierMailModel.in -/
def p2_s1470 : ck_Sum := ((0, 0, 0), 245, [.inl (ck_one 31), .inl (ck_one 1), .inl (ck_one 50)], ([], [], []), ([], []), [(.inr (some (.inl (ck_one 1))), 245, ([], [], []))])
set_option maxRecDepth 100000 in
theorem p2_s1470_e : ck_ok p2_O none [] [] 286 [] 88 p2_s1470 = true := by decide +kernel
theorem p2_s1470_s {X : Int → Int} {LX : Nat} : ck_Ok p2_O X LX 286 p2_s1470 := ck_ok_s ⟨p2_nmu, ck_E0⟩ ck_X0 ck_l0 p2_s1470_e
set_option maxRecDepth 100000 in
/-- GlacierMailModel.in -/
def p2_s1472 : ck_Sum := ((0, 0, 0), 245, [.inl (ck_one 32), .inl (ck_one 1), .inl (ck_one 50)], ([], [], []), ([], []), [(.inr (some (.inl (ck_one 1))), 245, ([], [], []))])
set_option maxRecDepth 100000 in
theorem p2_s1472_e : ck_ok p2_O none [] [] 286 [] 88 p2_s1472 = true := by decide +kernel
theorem p2_s1472_s {X : Int → Int} {LX : Nat} : ck_Ok p2_O X LX 286 p2_s1472 := ck_ok_s ⟨p2_nmu, ck_E0⟩ ck_X0 ck_l0 p2_s1472_e
set_option maxRecDepth 100000 in
/-- GlacierMailModel.in -/
def p2_s1474 : ck_Sum := ((0, 0, 0), 245, [.inl (ck_one 33), .inl (ck_one 1), .inl (ck_one 50)], ([], [], []), ([], []), [(.inr (some (.inl (ck_one 1))), 245, ([], [], []))])
set_option maxRecDepth 100000 in
theorem p2_s1474_e : ck_ok p2_O none [] [] 286 [] 88 p2_s1474 = true := by decide +kernel
theorem p2_s1474_s {X : Int → Int} {LX : Nat} : ck_Ok p2_O X LX 286 p2_s1474 := ck_ok_s ⟨p2_nmu, ck_E0⟩ ck_X0 ck_l0 p2_s1474_e
set_option maxRecDepth 100000 in
/-- GlacierMailModel.in -/
def p2_s1476 : ck_Sum := ((0, 0, 0), 245, [.inl (ck_one 34), .inl (ck_one 1), .inl (ck_one 50)], ([], [], []), ([], []), [(.inr (some (.inl (ck_one 1))), 245, ([], [], []))])
set_option maxRecDepth 100000 in
theorem p2_s1476_e : ck_ok p2_O none [] [] 286 [] 88 p2_s1476 = true := by decide +kernel
theorem p2_s1476_s {X : Int → Int} {LX : Nat} : ck_Ok p2_O X LX 286 p2_s1476 := ck_ok_s ⟨p2_nmu, ck_E0⟩ ck_X0 ck_l0 p2_s1476_e
set_option maxRecDepth 100000 in
/-- GlacierMailModel.in -/
def p2_s1478 : ck_Sum := ((0, 0, 0), 245, [.inl (ck_one 35), .inl (ck_one 1), .inl (ck_one 50)], ([], [], []), ([], []), [(.inr (some (.inl (ck_one 1))), 245, ([], [], []))])
set_option maxRecDepth 100000 in
theorem p2_s1478_e : ck_ok p2_O none [] [] 286 [] 88 p2_s1478 = true := by decide +kernel
theorem p2_s1478_s {X : Int → Int} {LX : Nat} : ck_Ok p2_O X LX 286 p2_s1478 := ck_ok_s ⟨p2_nmu, ck_E0⟩ ck_X0 ck_l0 p2_s1478_e
set_option maxRecDepth 100000 in
/-- GlacierMailModel.in -/
def p2_s1480 : ck_Sum := ((0, 0, 0), 245, [.inl (ck_one 36), .inl (ck_one 1), .inl (ck_one 50)], ([], [], []), ([], []), [(.inr (some (.inl (ck_one 1))), 245, ([], [], []))])
set_option maxRecDepth 100000 in
theorem p2_s1480_e : ck_ok p2_O none [] [] 286 [] 88 p2_s1480 = true := by decide +kernel
theorem p2_s1480_s {X : Int → Int} {LX : Nat} : ck_Ok p2_O X LX 286 p2_s1480 := ck_ok_s ⟨p2_nmu, ck_E0⟩ ck_X0 ck_l0 p2_s1480_e
set_option maxRecDepth 100000 in
/-- GlacierMailModel.in -/
def p2_s1482 : ck_Sum := ((0, 0, 0), 245, [.inl (ck_one 37), .inl (ck_one 1), .inl (ck_one 50)], ([], [], []), ([], []), [(.inr (some (.inl (ck_one 1))), 245, ([], [], []))])
set_option maxRecDepth 100000 in
theorem p2_s1482_e : ck_ok p2_O none [] [] 286 [] 88 p2_s1482 = true := by decide +kernel
theorem p2_s1482_s {X : Int → Int} {LX : Nat} : ck_Ok p2_O X LX 286 p2_s1482 := ck_ok_s ⟨p2_nmu, ck_E0⟩ ck_X0 ck_l0 p2_s1482_e
set_option maxRecDepth 100000 in
/-- GlacierMailModel.in -/
def p2_s1484 : ck_Sum := ((0, 0, 0), 245, [.inl (ck_one 38), .inl (ck_one 1), .inl (ck_one 50)], ([], [], []), ([], []), [(.inr (some (.inl (ck_one 1))), 245, ([], [], []))])
set_option maxRecDepth 100000 in
theorem p2_s1484_e : ck_ok p2_O none [] [] 286 [] 88 p2_s1484 = true := by decide +kernel
theorem p2_s1484_s {X : Int → Int} {LX : Nat} : ck_Ok p2_O X LX 286 p2_s1484 := ck_ok_s ⟨p2_nmu, ck_E0⟩ ck_X0 ck_l0 p2_s1484_e
set_option maxRecDepth 100000 in
/-- GlacierMailModel.in -/
def p2_s1486 : ck_Sum := ((0, 0, 0), 245, [.inl (ck_one 39), .inl (ck_one 1), .inl (ck_one 50)], ([], [], []), ([], []), [(.inr (some (.inl (ck_one 1))), 245, ([], [], []))])
set_option maxRecDepth 100000 in
theorem p2_s1486_e : ck_ok p2_O none [] [] 286 [] 88 p2_s1486 = true := by decide +kernel
theorem p2_s1486_s {X : Int → Int} {LX : Nat} : ck_Ok p2_O X LX 286 p2_s1486 := ck_ok_s ⟨p2_nmu, ck_E0⟩ ck_X0 ck_l0 p2_s1486_e
set_option maxRecDepth 100000 in
/-- GlacierMailModel.in -/
def p2_s1488 : ck_Sum := ((0, 0, 0), 245, [.inl (ck_one 40), .inl (ck_one 1), .inl (ck_one 50)], ([], [], []), ([], []), [(.inr (some (.inl (ck_one 1))), 245, ([], [], []))])
set_option maxRecDepth 100000 in
theorem p2_s1488_e : ck_ok p2_O none [] [] 286 [] 88 p2_s1488 = true := by decide +kernel
theorem p2_s1488_s {X : Int → Int} {LX : Nat} : ck_Ok p2_O X LX 286 p2_s1488 := ck_ok_s ⟨p2_nmu, ck_E0⟩ ck_X0 ck_l0 p2_s1488_e
set_option maxRecDepth 100000 in
/-- GlacierMailModel.in -/
def p2_s1490 : ck_Sum := ((0, 0, 0), 245, [.inl (ck_one 41), .inl (ck_one 1), .inl (ck_one 50)], ([], [], []), ([], []), [(.inr (some (.inl (ck_one 1))), 245, ([], [], []))])
set_option maxRecDepth 100000 in
theorem p2_s1490_e : ck_ok p2_O none [] [] 286 [] 88 p2_s1490 = true := by decide +kernel
theorem p2_s1490_s {X : Int → Int} {LX : Nat} : ck_Ok p2_O X LX 286 p2_s1490 := ck_ok_s ⟨p2_nmu, ck_E0⟩ ck_X0 ck_l0 p2_s1490_e
set_option maxRecDepth 100000 in
/-- GlacierMailModel.in -/
def p2_s1492 : ck_Sum := ((0, 0, 0), 245, [.inl (ck_one 42), .inl (ck_one 1), .inl (ck_one 50)], ([], [], []), ([], []), [(.inr (some (.inl (ck_one 1))), 245, ([], [], []))])
set_option maxRecDepth 100000 in
theorem p2_s1492_e : ck_ok p2_O none [] [] 286 [] 88 p2_s1492 = true := by decide +kernel
theorem p2_s1492_s {X : Int → Int} {LX : Nat} : ck_Ok p2_O X LX 286 p2_s1492 := ck_ok_s ⟨p2_nmu, ck_E0⟩ ck_X0 ck_l0 p2_s1492_e
set_option maxRecDepth 100000 in
/-- GlacierMailModel.in -/
def p2_s1494 : ck_Sum := ((0, 0, 0), 245, [.inl (ck_one 43), .inl (ck_one 1), .inl (ck_one 50)], ([], [], []), ([], []), [(.inr (some (.inl (ck_one 1))), 245, ([], [], []))])
set_option maxRecDepth 100000 in
theorem p2_s1494_e : ck_ok p2_O none [] [] 286 [] 88 p2_s1494 = true := by decide +kernel
theorem p2_s1494_s {X : Int → Int} {LX : Nat} : ck_Ok p2_O X LX 286 p2_s1494 := ck_ok_s ⟨p2_nmu, ck_E0⟩ ck_X0 ck_l0 p2_s1494_e
set_option maxRecDepth 100000 in
/-- GlacierMailModel.in -/
def p2_s1496 : ck_Sum := ((0, 0, 0), 245, [.inl (ck_one 44), .inl (ck_one 1), .inl (ck_one 50)], ([], [], []), ([], []), [(.inr (some (.inl (ck_one 1))), 245, ([], [], []))])
set_option maxRecDepth 100000 in
theorem p2_s1496_e : ck_ok p2_O none [] [] 286 [] 88 p2_s1496 = true := by decide +kernel
theorem p2_s1496_s {X : Int → Int} {LX : Nat} : ck_Ok p2_O X LX 286 p2_s1496 := ck_ok_s ⟨p2_nmu, ck_E0⟩ ck_X0 ck_l0 p2_s1496_e
set_option maxRecDepth 100000 in
/-- GlacierMailModel.in -/
def p2_s1498 : ck_Sum := ((0, 0, 0), 245, [.inl (ck_one 45), .inl (ck_one 1), .inl (ck_one 50)], ([], [], []), ([], []), [(.inr (some (.inl (ck_one 1))), 245, ([], [], []))])
set_option maxRecDepth 100000 in
theorem p2_s1498_e : ck_ok p2_O none [] [] 286 [] 88 p2_s1498 = true := by decide +kernel
theorem p2_s1498_s {X : Int → Int} {LX : Nat} : ck_Ok p2_O X LX 286 p2_s1498 := ck_ok_s ⟨p2_nmu, ck_E0⟩ ck_X0 ck_l0 p2_s1498_e
set_option maxRecDepth 100000 in
/-- GlacierMailModel.in -/
def p2_s1500 : ck_Sum := ((0, 0, 0), 245, [.inl (ck_one 46), .inl (ck_one 1), .inl (ck_one 50)], ([], [], []), ([], []), [(.inr (some (.inl (ck_one 1))), 245, ([], [], []))])
set_option maxRecDepth 100000 in
theorem p2_s1500_e : ck_ok p2_O none [] [] 286 [] 88 p2_s1500 = true := by decide +kernel
theorem p2_s1500_s {X : Int → Int} {LX : Nat} : ck_Ok p2_O X LX 286 p2_s1500 := ck_ok_s ⟨p2_nmu, ck_E0⟩ ck_X0 ck_l0 p2_s1500_e
set_option maxRecDepth 100000 in
/-- GlacierMailModel.in -/
def p2_s1502 : ck_Sum := ((0, 0, 0), 245, [.inl (ck_one 47), .inl (ck_one 1), .inl (ck_one 50)], ([], [], []), ([], []), [(.inr (some (.inl (ck_one 1))), 245, ([], [], []))])
set_option maxRecDepth 100000 in
theorem p2_s1502_e : ck_ok p2_O none [] [] 286 [] 88 p2_s1502 = true := by decide +kernel
theorem p2_s1502_s {X : Int → Int} {LX : Nat} : ck_Ok p2_O X LX 286 p2_s1502 := ck_ok_s ⟨p2_nmu, ck_E0⟩ ck_X0 ck_l0 p2_s1502_e
set_option maxRecDepth 100000 in
/-- GlacierMailModel.in -/
def p2_s1504 : ck_Sum := ((0, 0, 0), 245, [.inl (ck_one 48), .inl (ck_one 1), .inl (ck_one 50)], ([], [], []), ([], []), [(.inr (some (.inl (ck_one 1))), 245, ([], [], []))])
set_option maxRecDepth 100000 in
theorem p2_s1504_e : ck_ok p2_O none [] [] 286 [] 88 p2_s1504 = true := by decide +kernel
theorem p2_s1504_s {X : Int → Int} {LX : Nat} : ck_Ok p2_O X LX 286 p2_s1504 := ck_ok_s ⟨p2_nmu, ck_E0⟩ ck_X0 ck_l0 p2_s1504_e
set_option maxRecDepth 100000 in
/-- GlacierMailModel.in -/
def p2_s1506 : ck_Sum := ((0, 0, 0), 245, [.inl (ck_one 49), .inl (ck_one 1), .inl (ck_one 50)], ([], [], []), ([], []), [(.inr (some (.inl (ck_one 1))), 245, ([], [], []))])
set_option maxRecDepth 100000 in
theorem p2_s1506_e : ck_ok p2_O none [] [] 286 [] 88 p2_s1506 = true := by decide +kernel
theorem p2_s1506_s {X : Int → Int} {LX : Nat} : ck_Ok p2_O X LX 286 p2_s1506 := ck_ok_s ⟨p2_nmu, ck_E0⟩ ck_X0 ck_l0 p2_s1506_e
set_option maxRecDepth 100000 in
/-- GlacierMailModel.in -/
def p2_s1508 : ck_Sum := ((0, 0, 0), 245, [.inl (ck_one 50), .inl (ck_one 1), .inl (ck_one 50)], ([], [], []), ([], []), [(.inr (some (.inl (ck_one 1))), 245, ([], [], []))])
set_option maxRecDepth 100000 in
theorem p2_s1508_e : ck_ok p2_O none [] [] 286 [] 88 p2_s1508 = true := by decide +kernel
theorem p2_s1508_s {X : Int → Int} {LX : Nat} : ck_Ok p2_O X LX 286 p2_s1508 := ck_ok_s ⟨p2_nmu, ck_E0⟩ ck_X0 ck_l0 p2_s1508_e
set_option maxRecDepth 100000 in
/-- GlacierMail.throwsFor -/
def p2_s1510 : ck_Sum := ((8, 1, 6), 245, [.inr (.inr (.inl 1)), .inl ((-2147483648), (-1), []), .inl ((-2147483648), 2147483647, []), .inl ((-2147483648), 2147483647, []), .inl ((-2147483648), 2147483647, [])], ([], [], []), ([], []), [(.inl 3, 245, ([], [], []))])
set_option maxRecDepth 100000 in
theorem p2_s1510_e : ck_ok p2_O none [] [(132, [p2_s293])] 167 [] 76 p2_s1510 = true := by decide +kernel
theorem p2_s1510_s {X : Int → Int} {LX : Nat} : ck_Ok p2_O X LX 167 p2_s1510 := ck_ok_s ⟨p2_nmu, ck_E1 (ck_S1 p2_s293_s ck_S0) ck_E0⟩ ck_X0 ck_l0 p2_s1510_e
set_option maxRecDepth 100000 in
/-- GlacierMail.throwsFor -/
def p2_s1511 : ck_Sum := ((8, 1, 6), 245, [.inr (.inr (.inl 1)), .inl (6, 2147483647, []), .inl ((-2147483648), 2147483647, []), .inl ((-2147483648), 2147483647, []), .inl ((-2147483648), 2147483647, [])], ([], [], []), ([], []), [(.inl 3, 245, ([], [], []))])
set_option maxRecDepth 100000 in
theorem p2_s1511_e : ck_ok p2_O none [] [(132, [p2_s296])] 167 [] 76 p2_s1511 = true := by decide +kernel
theorem p2_s1511_s {X : Int → Int} {LX : Nat} : ck_Ok p2_O X LX 167 p2_s1511 := ck_ok_s ⟨p2_nmu, ck_E1 (ck_S1 p2_s296_s ck_S0) ck_E0⟩ ck_X0 ck_l0 p2_s1511_e
set_option maxRecDepth 100000 in
/-- GlacierMail.throwsFor -/
def p2_s1512 : ck_Sum := ((8, 2, 12), 245, [.inr (.inr (.inl 1)), .inl (0, 5, []), .inl ((-2147483648), (-1), []), .inl ((-2147483648), 2147483647, []), .inl ((-2147483648), 2147483647, [])], ([], [], []), ([], []), [(.inl 3, 245, ([], [], [])), (.inl 0, 245, ([], [], []))])
set_option maxRecDepth 100000 in
theorem p2_s1512_e : ck_ok p2_O none [] [(132, [p2_s299]), (129, [p2_s276])] 167 [] 82 p2_s1512 = true := by decide +kernel
theorem p2_s1512_s {X : Int → Int} {LX : Nat} : ck_Ok p2_O X LX 167 p2_s1512 := ck_ok_s ⟨p2_nmu, ck_E1 (ck_S1 p2_s299_s ck_S0) (ck_E1 (ck_S1 p2_s276_s ck_S0) ck_E0)⟩ ck_X0 ck_l0 p2_s1512_e
set_option maxRecDepth 100000 in
/-- GlacierMail.throwsFor -/
def p2_s1513 : ck_Sum := ((8, 2, 12), 245, [.inr (.inr (.inl 1)), .inl (0, 5, []), .inl (300, 2147483647, []), .inl ((-2147483648), 2147483647, []), .inl ((-2147483648), 2147483647, [])], ([], [], []), ([], []), [(.inl 3, 245, ([], [], [])), (.inl 0, 245, ([], [], []))])
set_option maxRecDepth 100000 in
theorem p2_s1513_e : ck_ok p2_O none [] [(132, [p2_s299]), (129, [p2_s278])] 167 [] 82 p2_s1513 = true := by decide +kernel
theorem p2_s1513_s {X : Int → Int} {LX : Nat} : ck_Ok p2_O X LX 167 p2_s1513 := ck_ok_s ⟨p2_nmu, ck_E1 (ck_S1 p2_s299_s ck_S0) (ck_E1 (ck_S1 p2_s278_s ck_S0) ck_E0)⟩ ck_X0 ck_l0 p2_s1513_e
set_option maxRecDepth 100000 in
/-- GlacierMail.throwsFor -/
def p2_s1514 : ck_Sum := ((8, 2, 12), 245, [.inr (.inr (.inl 1)), .inl (0, 5, []), .inl (0, 299, []), .inl ((-2147483648), (-1), []), .inl ((-2147483648), 2147483647, [])], ([], [], []), ([], []), [(.inl 3, 245, ([], [], [])), (.inl 0, 245, ([], [], []))])
set_option maxRecDepth 100000 in
theorem p2_s1514_e : ck_ok p2_O none [] [(132, [p2_s299]), (129, [p2_s280, p2_s276])] 167 [] 88 p2_s1514 = true := by decide +kernel
theorem p2_s1514_s {X : Int → Int} {LX : Nat} : ck_Ok p2_O X LX 167 p2_s1514 := ck_ok_s ⟨p2_nmu, ck_E1 (ck_S1 p2_s299_s ck_S0) (ck_E1 (ck_S1 p2_s280_s (ck_S1 p2_s276_s ck_S0)) ck_E0)⟩ ck_X0 ck_l0 p2_s1514_e
set_option maxRecDepth 100000 in
/-- GlacierMail.throwsFor -/
def p2_s1515 : ck_Sum := ((8, 2, 12), 245, [.inr (.inr (.inl 1)), .inl (0, 5, []), .inl (0, 299, []), .inl (300, 2147483647, []), .inl ((-2147483648), 2147483647, [])], ([], [], []), ([], []), [(.inl 3, 245, ([], [], [])), (.inl 0, 245, ([], [], []))])
set_option maxRecDepth 100000 in
theorem p2_s1515_e : ck_ok p2_O none [] [(132, [p2_s299]), (129, [p2_s280, p2_s278])] 167 [] 88 p2_s1515 = true := by decide +kernel
theorem p2_s1515_s {X : Int → Int} {LX : Nat} : ck_Ok p2_O X LX 167 p2_s1515 := ck_ok_s ⟨p2_nmu, ck_E1 (ck_S1 p2_s299_s ck_S0) (ck_E1 (ck_S1 p2_s280_s (ck_S1 p2_s278_s ck_S0)) ck_E0)⟩ ck_X0 ck_l0 p2_s1515_e
set_option maxRecDepth 100000 in
/-- GlacierMail.throwsFor -/
def p2_s1516 : ck_Sum := ((8, 2, 12), 245, [.inr (.inr (.inl 1)), .inl (0, 5, []), .inl (0, 299, []), .inl (0, 299, []), .inl ((-2147483648), (-1), [])], ([], [], [(3, 6, 6, (0, 299, [(10, 0)]))]), ([], []), [(.inl 3, 245, ([], [], [])), (.inl 4, 245, ([], [], [])), (.inl 0, 245, ([], [], [(3, 6, 6, (1, 299, [(10, 0)]))]))])
set_option maxRecDepth 100000 in
theorem p2_s1516_e : ck_ok p2_O none [] [(132, [p2_s299]), (129, [p2_s280])] 167 [] 104 p2_s1516 = true := by decide +kernel
theorem p2_s1516_s {X : Int → Int} {LX : Nat} : ck_Ok p2_O X LX 167 p2_s1516 := ck_ok_s ⟨p2_nmu, ck_E1 (ck_S1 p2_s299_s ck_S0) (ck_E1 (ck_S1 p2_s280_s ck_S0) ck_E0)⟩ ck_X0 ck_l0 p2_s1516_e
set_option maxRecDepth 100000 in
/-- GlacierMail.throwsFor -/
def p2_s1517 : ck_Sum := ((8, 2, 12), 245, [.inr (.inr (.inl 1)), .inl (0, 5, []), .inl (0, 299, []), .inl (0, 299, []), .inl (10, 2147483647, [])], ([], [], [(3, 6, 6, (0, 299, [(10, 0)]))]), ([], []), [(.inl 3, 245, ([], [], [])), (.inl 4, 245, ([], [], [])), (.inl 0, 245, ([], [], [(3, 6, 6, (1, 299, [(10, 0)]))]))])
set_option maxRecDepth 100000 in
theorem p2_s1517_e : ck_ok p2_O none [] [(132, [p2_s299]), (129, [p2_s280])] 167 [] 110 p2_s1517 = true := by decide +kernel
theorem p2_s1517_s {X : Int → Int} {LX : Nat} : ck_Ok p2_O X LX 167 p2_s1517 := ck_ok_s ⟨p2_nmu, ck_E1 (ck_S1 p2_s299_s ck_S0) (ck_E1 (ck_S1 p2_s280_s ck_S0) ck_E0)⟩ ck_X0 ck_l0 p2_s1517_e
set_option maxRecDepth 100000 in
/-- GlacierMail$Way.start -/
def p2_s1518 : ck_Sum := ((0, 0, 0), 245, [.inr (.inr (.inl 206)), .inl ((-2147483648), 2147483647, []), .inl ((-2147483648), 2147483647, []), .inl (0, 299, []), .inl (0, 1, [])], ([], [], []), ([(206, 2, 8)], []), [(.inr none, 245, ([], [], [(206, 8, 8, ck_one 0), (206, 6, 6, ck_one 0), (206, 4, 4, ck_one (-1)), (206, 7, 7, (0, 299, []))]))])
set_option maxRecDepth 100000 in
theorem p2_s1518_e : ck_ok p2_O none [] [] 29 [] 114 p2_s1518 = true := by decide +kernel
theorem p2_s1518_s {X : Int → Int} {LX : Nat} : ck_Ok p2_O X LX 29 p2_s1518 := ck_ok_s ⟨p2_nmu, ck_E0⟩ ck_X0 ck_l0 p2_s1518_e
set_option maxRecDepth 100000 in
/-- GlacierMail.throwsFor -/
def p2_s1519 : ck_Sum := ((8, 2, 12), 245, [.inr (.inr (.inl 1)), .inl (0, 5, []), .inl (0, 299, []), .inl (0, 299, []), .inl (0, 9, [])], ([], [(3, 8, 0)], [(3, 6, 6, (0, 299, [(10, 0)]))]), ([(206, 2, 8)], []), [(.inl 3, 245, ([], [], [])), (.inl 4, 245, ([], [], [])), (.inl 0, 245, ([], [], [(3, 6, 6, (1, 299, [(10, 0)]))])), (.inr (some (.inl ((-2147483648), 2147483647, []))), 245, ([], [], []))])
set_option maxRecDepth 100000 in
theorem p2_s1519_e : ck_ok p2_O none [] [(132, [p2_s299]), (129, [p2_s280]), (29, [p2_s1518]), (30, [p2_s374])] 167 [(71, [some (.inr (.inr (.inl 1))), some (.inl (0, 5, [])), some (.inl (0, 299, [])), some (.inl (0, 299, [])), some (.inl (0, 2, [])), some (.inl ((-2147483648), 2147483647, [])), some (.inl ((-1), 167, [])), some (.inl ((-1), 167, [])), some (.inl (0, 167, []))], ([], [(3, 8, 0)], [(3, 6, 6, (0, 299, [(10, 0)]))]), 100, .inl 8, true)] 210 p2_s1519 = true := by decide +kernel
theorem p2_s1519_s {X : Int → Int} {LX : Nat} : ck_Ok p2_O X LX 167 p2_s1519 := ck_ok_s ⟨p2_nmu, ck_E1 (ck_S1 p2_s299_s ck_S0) (ck_E1 (ck_S1 p2_s280_s ck_S0) (ck_E1 (ck_S1 p2_s1518_s ck_S0) (ck_E1 (ck_S1 p2_s374_s ck_S0) ck_E0)))⟩ ck_X0 ck_l0 p2_s1519_e
set_option maxRecDepth 100000 in
/-- GlacierMailModel.throwsFor -/
def p2_s1520 : ck_Sum := ((2, 0, 0), 245, [.inr (.inr (.inl 226)), .inl ((-2147483648), (-1), []), .inl ((-2147483648), 2147483647, []), .inl ((-2147483648), 2147483647, []), .inl ((-2147483648), 2147483647, [])], ([], [], []), ([(226, 0, 0)], []), [(.inr (some (.inl (ck_one 0))), 245, ([], [], [(226, 0, 0, ck_one 1)]))])
set_option maxRecDepth 100000 in
theorem p2_s1520_e : ck_ok p2_O none [] [(288, [p2_s311]), (282, [p2_s268])] 324 [] 94 p2_s1520 = true := by decide +kernel
theorem p2_s1520_s {X : Int → Int} {LX : Nat} : ck_Ok p2_O X LX 324 p2_s1520 := ck_ok_s ⟨p2_nmu, ck_E1 (ck_S1 p2_s311_s ck_S0) (ck_E1 (ck_S1 p2_s268_s ck_S0) ck_E0)⟩ ck_X0 ck_l0 p2_s1520_e
set_option maxRecDepth 100000 in
/-- GlacierMailModel.throwsFor -/
def p2_s1521 : ck_Sum := ((2, 0, 0), 245, [.inr (.inr (.inl 226)), .inl (6, 2147483647, []), .inl ((-2147483648), 2147483647, []), .inl ((-2147483648), 2147483647, []), .inl ((-2147483648), 2147483647, [])], ([], [], []), ([(226, 0, 0)], []), [(.inr (some (.inl (ck_one 0))), 245, ([], [], [(226, 0, 0, ck_one 1)]))])
set_option maxRecDepth 100000 in
theorem p2_s1521_e : ck_ok p2_O none [] [(288, [p2_s314]), (282, [p2_s268])] 324 [] 94 p2_s1521 = true := by decide +kernel
theorem p2_s1521_s {X : Int → Int} {LX : Nat} : ck_Ok p2_O X LX 324 p2_s1521 := ck_ok_s ⟨p2_nmu, ck_E1 (ck_S1 p2_s314_s ck_S0) (ck_E1 (ck_S1 p2_s268_s ck_S0) ck_E0)⟩ ck_X0 ck_l0 p2_s1521_e
set_option maxRecDepth 100000 in
/-- GlacierMailModel.throwsFor -/
def p2_s1522 : ck_Sum := ((2, 0, 0), 245, [.inr (.inr (.inl 226)), .inl (0, 5, []), .inl ((-2147483648), (-1), []), .inl ((-2147483648), 2147483647, []), .inl ((-2147483648), 2147483647, [])], ([], [], []), ([(226, 0, 0)], []), [(.inr (some (.inl (ck_one 0))), 245, ([], [], [(226, 0, 0, (1, 2, []))]))])
set_option maxRecDepth 100000 in
theorem p2_s1522_e : ck_ok p2_O none [] [(288, [p2_s317]), (282, [p2_s268, p2_s269, p2_s272]), (285, [p2_s284])] 324 [] 112 p2_s1522 = true := by decide +kernel
theorem p2_s1522_s {X : Int → Int} {LX : Nat} : ck_Ok p2_O X LX 324 p2_s1522 := ck_ok_s ⟨p2_nmu, ck_E1 (ck_S1 p2_s317_s ck_S0) (ck_E1 (ck_S1 p2_s268_s (ck_S1 p2_s269_s (ck_S1 p2_s272_s ck_S0))) (ck_E1 (ck_S1 p2_s284_s ck_S0) ck_E0))⟩ ck_X0 ck_l0 p2_s1522_e
set_option maxRecDepth 100000 in
/-- GlacierMailModel.throwsFor -/
def p2_s1523 : ck_Sum := ((2, 0, 0), 245, [.inr (.inr (.inl 226)), .inl (0, 5, []), .inl (300, 2147483647, []), .inl ((-2147483648), 2147483647, []), .inl ((-2147483648), 2147483647, [])], ([], [], []), ([(226, 0, 0)], []), [(.inr (some (.inl (ck_one 0))), 245, ([], [], [(226, 0, 0, (1, 2, []))]))])
set_option maxRecDepth 100000 in
theorem p2_s1523_e : ck_ok p2_O none [] [(288, [p2_s317]), (282, [p2_s268, p2_s269, p2_s272]), (285, [p2_s287])] 324 [] 112 p2_s1523 = true := by decide +kernel
theorem p2_s1523_s {X : Int → Int} {LX : Nat} : ck_Ok p2_O X LX 324 p2_s1523 := ck_ok_s ⟨p2_nmu, ck_E1 (ck_S1 p2_s317_s ck_S0) (ck_E1 (ck_S1 p2_s268_s (ck_S1 p2_s269_s (ck_S1 p2_s272_s ck_S0))) (ck_E1 (ck_S1 p2_s287_s ck_S0) ck_E0))⟩ ck_X0 ck_l0 p2_s1523_e
set_option maxRecDepth 100000 in
/-- GlacierMailModel.throwsFor -/
def p2_s1524 : ck_Sum := ((2, 0, 0), 245, [.inr (.inr (.inl 226)), .inl (0, 5, []), .inl (0, 299, []), .inl ((-2147483648), (-1), []), .inl ((-2147483648), 2147483647, [])], ([], [], []), ([(226, 0, 0)], []), [(.inr (some (.inl (ck_one 0))), 245, ([], [], [(226, 0, 0, (1, 2, []))]))])
set_option maxRecDepth 100000 in
theorem p2_s1524_e : ck_ok p2_O none [] [(288, [p2_s317]), (282, [p2_s268, p2_s269, p2_s272]), (285, [p2_s290, p2_s284])] 324 [] 118 p2_s1524 = true := by decide +kernel
theorem p2_s1524_s {X : Int → Int} {LX : Nat} : ck_Ok p2_O X LX 324 p2_s1524 := ck_ok_s ⟨p2_nmu, ck_E1 (ck_S1 p2_s317_s ck_S0) (ck_E1 (ck_S1 p2_s268_s (ck_S1 p2_s269_s (ck_S1 p2_s272_s ck_S0))) (ck_E1 (ck_S1 p2_s290_s (ck_S1 p2_s284_s ck_S0)) ck_E0))⟩ ck_X0 ck_l0 p2_s1524_e
set_option maxRecDepth 100000 in
/-- GlacierMailModel.throwsFor -/
def p2_s1525 : ck_Sum := ((2, 0, 0), 245, [.inr (.inr (.inl 226)), .inl (0, 5, []), .inl (0, 299, []), .inl (300, 2147483647, []), .inl ((-2147483648), 2147483647, [])], ([], [], []), ([(226, 0, 0)], []), [(.inr (some (.inl (ck_one 0))), 245, ([], [], [(226, 0, 0, (1, 2, []))]))])
set_option maxRecDepth 100000 in
theorem p2_s1525_e : ck_ok p2_O none [] [(288, [p2_s317]), (282, [p2_s268, p2_s269, p2_s272]), (285, [p2_s290, p2_s287])] 324 [] 118 p2_s1525 = true := by decide +kernel
theorem p2_s1525_s {X : Int → Int} {LX : Nat} : ck_Ok p2_O X LX 324 p2_s1525 := ck_ok_s ⟨p2_nmu, ck_E1 (ck_S1 p2_s317_s ck_S0) (ck_E1 (ck_S1 p2_s268_s (ck_S1 p2_s269_s (ck_S1 p2_s272_s ck_S0))) (ck_E1 (ck_S1 p2_s290_s (ck_S1 p2_s287_s ck_S0)) ck_E0))⟩ ck_X0 ck_l0 p2_s1525_e
set_option maxRecDepth 100000 in
/-- GlacierMailModel.in -/
def p2_s1526 : ck_Sum := ((0, 0, 0), 245, [.inl ((-2147483648), (-1), []), .inl (ck_one 0), .inl (ck_one 2)], ([], [], []), ([], []), [(.inr (some (.inl (ck_one 0))), 245, ([], [], []))])
set_option maxRecDepth 100000 in
theorem p2_s1526_e : ck_ok p2_O none [] [] 286 [] 80 p2_s1526 = true := by decide +kernel
theorem p2_s1526_s {X : Int → Int} {LX : Nat} : ck_Ok p2_O X LX 286 p2_s1526 := ck_ok_s ⟨p2_nmu, ck_E0⟩ ck_X0 ck_l0 p2_s1526_e
set_option maxRecDepth 100000 in
/-- GlacierMailModel.throwsFor -/
def p2_s1527 : ck_Sum := ((2, 0, 0), 245, [.inr (.inr (.inl 226)), .inl (0, 5, []), .inl (0, 299, []), .inl (0, 299, []), .inl ((-2147483648), (-1), [])], ([], [], [(227, 9, 9, (0, 299, [(11, 0)]))]), ([(226, 0, 0)], []), [(.inr (some (.inl (ck_one 0))), 245, ([], [], [(226, 0, 0, (1, 3, []))]))])
set_option maxRecDepth 100000 in
theorem p2_s1527_e : ck_ok p2_O none [] [(288, [p2_s317]), (282, [p2_s268, p2_s269, p2_s270, p2_s685, p2_s272]), (285, [p2_s290]), (266, [p2_s207]), (286, [p2_s1526])] 324 [] 146 p2_s1527 = true := by decide +kernel
theorem p2_s1527_s {X : Int → Int} {LX : Nat} : ck_Ok p2_O X LX 324 p2_s1527 := ck_ok_s ⟨p2_nmu, ck_E1 (ck_S1 p2_s317_s ck_S0) (ck_E1 (ck_S1 p2_s268_s (ck_S1 p2_s269_s (ck_S1 p2_s270_s (ck_S1 p2_s685_s (ck_S1 p2_s272_s ck_S0))))) (ck_E1 (ck_S1 p2_s290_s ck_S0) (ck_E1 (ck_S1 p2_s207_s ck_S0) (ck_E1 (ck_S1 p2_s1526_s ck_S0) ck_E0))))⟩ ck_X0 ck_l0 p2_s1527_e
set_option maxRecDepth 100000 in
/-- GlacierMailModel.in -/
def p2_s1528 : ck_Sum := ((0, 0, 0), 245, [.inl (10, 2147483647, []), .inl (ck_one 0), .inl (ck_one 2)], ([], [], []), ([], []), [(.inr (some (.inl (ck_one 0))), 245, ([], [], []))])
set_option maxRecDepth 100000 in
theorem p2_s1528_e : ck_ok p2_O none [] [] 286 [] 86 p2_s1528 = true := by decide +kernel
theorem p2_s1528_s {X : Int → Int} {LX : Nat} : ck_Ok p2_O X LX 286 p2_s1528 := ck_ok_s ⟨p2_nmu, ck_E0⟩ ck_X0 ck_l0 p2_s1528_e
set_option maxRecDepth 100000 in
/-- GlacierMailModel.throwsFor -/
def p2_s1529 : ck_Sum := ((2, 0, 0), 245, [.inr (.inr (.inl 226)), .inl (0, 5, []), .inl (0, 299, []), .inl (0, 299, []), .inl (10, 2147483647, [])], ([], [], [(227, 9, 9, (0, 299, [(11, 0)]))]), ([(226, 0, 0)], []), [(.inr (some (.inl (ck_one 0))), 245, ([], [], [(226, 0, 0, (1, 3, []))]))])
set_option maxRecDepth 100000 in
theorem p2_s1529_e : ck_ok p2_O none [] [(288, [p2_s317]), (282, [p2_s268, p2_s269, p2_s270, p2_s685, p2_s272]), (285, [p2_s290]), (266, [p2_s207]), (286, [p2_s1528])] 324 [] 146 p2_s1529 = true := by decide +kernel
theorem p2_s1529_s {X : Int → Int} {LX : Nat} : ck_Ok p2_O X LX 324 p2_s1529 := ck_ok_s ⟨p2_nmu, ck_E1 (ck_S1 p2_s317_s ck_S0) (ck_E1 (ck_S1 p2_s268_s (ck_S1 p2_s269_s (ck_S1 p2_s270_s (ck_S1 p2_s685_s (ck_S1 p2_s272_s ck_S0))))) (ck_E1 (ck_S1 p2_s290_s ck_S0) (ck_E1 (ck_S1 p2_s207_s ck_S0) (ck_E1 (ck_S1 p2_s1528_s ck_S0) ck_E0))))⟩ ck_X0 ck_l0 p2_s1529_e
set_option maxRecDepth 100000 in
/-- GlacierMailModel.in -/
def p2_s1530 : ck_Sum := ((0, 0, 0), 245, [.inl (0, 9, []), .inl (ck_one 0), .inl (ck_one 2)], ([], [], []), ([], []), [(.inr (some (.inl (ck_one 0))), 245, ([], [], [])), (.inr (some (.inl (ck_one 1))), 245, ([], [], []))])
set_option maxRecDepth 100000 in
theorem p2_s1530_e : ck_ok p2_O none [] [] 286 [] 88 p2_s1530 = true := by decide +kernel
theorem p2_s1530_s {X : Int → Int} {LX : Nat} : ck_Ok p2_O X LX 286 p2_s1530 := ck_ok_s ⟨p2_nmu, ck_E0⟩ ck_X0 ck_l0 p2_s1530_e
set_option maxRecDepth 100000 in
/-- GlacierMail.latest -/
def p2_s1533 : ck_Sum := ((8, 1, 6), 245, [.inr (.inr (.inl 1)), .inl ((-2147483648), (-1), []), .inl ((-2147483648), 2147483647, [])], ([], [], []), ([], []), [(.inl 3, 245, ([], [], []))])
set_option maxRecDepth 100000 in
theorem p2_s1533_e : ck_ok p2_O none [] [(139, [p2_s350])] 169 [] 76 p2_s1533 = true := by decide +kernel
theorem p2_s1533_s {X : Int → Int} {LX : Nat} : ck_Ok p2_O X LX 169 p2_s1533 := ck_ok_s ⟨p2_nmu, ck_E1 (ck_S1 p2_s350_s ck_S0) ck_E0⟩ ck_X0 ck_l0 p2_s1533_e
set_option maxRecDepth 100000 in
/-- GlacierMail.latest -/
def p2_s1534 : ck_Sum := ((8, 1, 6), 245, [.inr (.inr (.inl 1)), .inl (8, 2147483647, []), .inl ((-2147483648), 2147483647, [])], ([], [], []), ([], []), [(.inl 3, 245, ([], [], []))])
set_option maxRecDepth 100000 in
theorem p2_s1534_e : ck_ok p2_O none [] [(139, [p2_s353])] 169 [] 76 p2_s1534 = true := by decide +kernel
theorem p2_s1534_s {X : Int → Int} {LX : Nat} : ck_Ok p2_O X LX 169 p2_s1534 := ck_ok_s ⟨p2_nmu, ck_E1 (ck_S1 p2_s353_s ck_S0) ck_E0⟩ ck_X0 ck_l0 p2_s1534_e
set_option maxRecDepth 100000 in
/-- GlacierMail.latest -/
def p2_s1535 : ck_Sum := ((8, 2, 12), 245, [.inr (.inr (.inl 1)), .inl (0, 7, []), .inl ((-2147483648), (-1), [])], ([], [], []), ([], []), [(.inl 3, 245, ([], [], [])), (.inl 0, 245, ([], [], []))])
set_option maxRecDepth 100000 in
theorem p2_s1535_e : ck_ok p2_O none [] [(139, [p2_s356]), (129, [p2_s276])] 169 [] 82 p2_s1535 = true := by decide +kernel
theorem p2_s1535_s {X : Int → Int} {LX : Nat} : ck_Ok p2_O X LX 169 p2_s1535 := ck_ok_s ⟨p2_nmu, ck_E1 (ck_S1 p2_s356_s ck_S0) (ck_E1 (ck_S1 p2_s276_s ck_S0) ck_E0)⟩ ck_X0 ck_l0 p2_s1535_e
set_option maxRecDepth 100000 in
/-- GlacierMail.latest -/
def p2_s1536 : ck_Sum := ((8, 2, 12), 245, [.inr (.inr (.inl 1)), .inl (0, 7, []), .inl (300, 2147483647, [])], ([], [], []), ([], []), [(.inl 3, 245, ([], [], [])), (.inl 0, 245, ([], [], []))])
set_option maxRecDepth 100000 in
theorem p2_s1536_e : ck_ok p2_O none [] [(139, [p2_s356]), (129, [p2_s278])] 169 [] 82 p2_s1536 = true := by decide +kernel
theorem p2_s1536_s {X : Int → Int} {LX : Nat} : ck_Ok p2_O X LX 169 p2_s1536 := ck_ok_s ⟨p2_nmu, ck_E1 (ck_S1 p2_s356_s ck_S0) (ck_E1 (ck_S1 p2_s278_s ck_S0) ck_E0)⟩ ck_X0 ck_l0 p2_s1536_e
set_option maxRecDepth 100000 in
/-- GlacierMail$Way.startHut -/
def p2_s1537 : ck_Sum := ((1, 0, 0), 245, [.inr (.inr (.inl 206)), .inl (0, 7, []), .inl (0, 299, [])], ([], [], []), ([(206, 2, 8)], []), [(.inr none, 245, ([], [], [(206, 8, 8, ck_one 0), (206, 6, 6, ck_one 0), (206, 4, 4, ck_one (-1)), (206, 7, 7, (0, 299, []))]))])
set_option maxRecDepth 100000 in
theorem p2_s1537_e : ck_ok p2_O none [] [(10, [p2_s438]), (29, [p2_s1518])] 170 [] 104 p2_s1537 = true := by decide +kernel
theorem p2_s1537_s {X : Int → Int} {LX : Nat} : ck_Ok p2_O X LX 170 p2_s1537 := ck_ok_s ⟨p2_nmu, ck_E1 (ck_S1 p2_s438_s ck_S0) (ck_E1 (ck_S1 p2_s1518_s ck_S0) ck_E0)⟩ ck_X0 ck_l0 p2_s1537_e
set_option maxRecDepth 100000 in
/-- GlacierMail.latest -/
def p2_s1538 : ck_Sum := ((8, 1, 6), 245, [.inr (.inr (.inl 1)), .inl (0, 7, []), .inl (0, 299, [])], ([], [(3, 8, 0)], [(3, 6, 6, (0, 299, [(10, 0)]))]), ([(206, 2, 8)], []), [(.inl 3, 245, ([], [], [])), (.inr (some (.inl (ck_one (-1)))), 245, ([], [], [])), (.inr (some (.inl (0, 299, []))), 245, ([], [], [(206, 4, 4, ck_one (-1))]))])
set_option maxRecDepth 100000 in
theorem p2_s1538_e : ck_ok p2_O none [] [(139, [p2_s356]), (129, [p2_s280]), (170, [p2_s1537]), (30, [p2_s374])] 169 [(12, [some (.inr (.inr (.inl 1))), some (.inl (0, 7, [])), some (.inl (0, 299, [])), some (.inl ((-1), 299, []))], ([], [(3, 8, 0)], [(3, 6, 6, (0, 299, [(10, 0)]))]), 100, .inl 3, false)] 166 p2_s1538 = true := by decide +kernel
theorem p2_s1538_s {X : Int → Int} {LX : Nat} : ck_Ok p2_O X LX 169 p2_s1538 := ck_ok_s ⟨p2_nmu, ck_E1 (ck_S1 p2_s356_s ck_S0) (ck_E1 (ck_S1 p2_s280_s ck_S0) (ck_E1 (ck_S1 p2_s1537_s ck_S0) (ck_E1 (ck_S1 p2_s374_s ck_S0) ck_E0)))⟩ ck_X0 ck_l0 p2_s1538_e
