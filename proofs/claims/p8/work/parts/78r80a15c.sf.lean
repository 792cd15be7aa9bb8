/-! EVERY CALL ENDS, whatever was done before (laid by wip/am/p2k.py). -/
set_option maxRecDepth 100000 in
/-- GlacierMailModel.years -/
noncomputable def p2_s1206 : ck_Sum := ((10, 0, 0), 245, [.inr (.inr (.inl 226)), .inl (ck_one 1)], ([], [], zl181), (zl182, []), [(.inr (some (.inl (0, 24, []))), 245, ([], [], [(227, 9, 9, (1, 299, [(1000011, 0)])), (226, 6, 6, (0, 12, [(1000027, 0)])), (226, 0, 0, (0, 1, []))]))])
set_option maxRecDepth 100000 in
theorem p2_s1206_s {X : Int → Int} {LX : Nat} : ck_Ok p2_O X LX 320 p2_s1206 := ck_ok_s (O := p2_O) (X := X) (LX := LX) (E := [(286, [p2_s1154]), (266, [p2_s190]), (282, [p2_s242, p2_s241]), (316, [p2_s553]), (321, [p2_s1205])]) (mi := 320) (cuts := []) (f := 150) (S := p2_s1206) (lx := none) (XF := []) ⟨p2_nmu, ck_E1 (ck_S1 p2_s1154_s ck_S0) (ck_E1 (ck_S1 p2_s190_s ck_S0) (ck_E1 (ck_S1 p2_s242_s (ck_S1 p2_s241_s ck_S0)) (ck_E1 (ck_S1 p2_s553_s ck_S0) (ck_E1 (ck_S1 p2_s1205_s ck_S0) ck_E0))))⟩ ck_X0 ck_l0 (by decide +kernel)
set_option maxRecDepth 100000 in
/-- GlacierMailModel.in -/
noncomputable def p2_s1207 : ck_Sum := ((0, 0, 0), 245, [.inl (ck_one 2), .inl (ck_one 1), .inl (ck_one 50)], ([], [], []), ([], []), [(.inr (some (.inl (ck_one 1))), 245, ([], [], []))])
set_option maxRecDepth 100000 in
theorem p2_s1207_s {X : Int → Int} {LX : Nat} : ck_Ok p2_O X LX 286 p2_s1207 := ck_ok_s (O := p2_O) (X := X) (LX := LX) (E := []) (mi := 286) (cuts := []) (f := 88) (S := p2_s1207) (lx := none) (XF := []) ⟨p2_nmu, ck_E0⟩ ck_X0 ck_l0 (by decide +kernel)
set_option maxRecDepth 100000 in
/-- GlacierMailModel.years -/
noncomputable def p2_s1208 : ck_Sum := ((10, 0, 0), 245, [.inr (.inr (.inl 226)), .inl (ck_one 2)], ([], [], zl181), (zl182, []), [(.inr (some (.inl (0, 48, []))), 245, ([], [], [(227, 9, 9, (2, 299, [(1000011, 0)])), (226, 6, 6, (0, 12, [(1000027, 0)])), (226, 0, 0, (0, 1, []))]))])
set_option maxRecDepth 100000 in
theorem p2_s1208_s {X : Int → Int} {LX : Nat} : ck_Ok p2_O X LX 320 p2_s1208 := ck_ok_s (O := p2_O) (X := X) (LX := LX) (E := [(286, [p2_s1207]), (266, [p2_s190]), (282, [p2_s242, p2_s241]), (316, [p2_s553]), (321, [p2_s1205])]) (mi := 320) (cuts := []) (f := 170) (S := p2_s1208) (lx := none) (XF := []) ⟨p2_nmu, ck_E1 (ck_S1 p2_s1207_s ck_S0) (ck_E1 (ck_S1 p2_s190_s ck_S0) (ck_E1 (ck_S1 p2_s242_s (ck_S1 p2_s241_s ck_S0)) (ck_E1 (ck_S1 p2_s553_s ck_S0) (ck_E1 (ck_S1 p2_s1205_s ck_S0) ck_E0))))⟩ ck_X0 ck_l0 (by decide +kernel)
set_option maxRecDepth 100000 in
/-- GlacierMailModel.in -/
noncomputable def p2_s1209 : ck_Sum := ((0, 0, 0), 245, [.inl (ck_one 3), .inl (ck_one 1), .inl (ck_one 50)], ([], [], []), ([], []), [(.inr (some (.inl (ck_one 1))), 245, ([], [], []))])
set_option maxRecDepth 100000 in
theorem p2_s1209_s {X : Int → Int} {LX : Nat} : ck_Ok p2_O X LX 286 p2_s1209 := ck_ok_s (O := p2_O) (X := X) (LX := LX) (E := []) (mi := 286) (cuts := []) (f := 88) (S := p2_s1209) (lx := none) (XF := []) ⟨p2_nmu, ck_E0⟩ ck_X0 ck_l0 (by decide +kernel)
set_option maxRecDepth 100000 in
/-- GlacierMailModel.years -/
noncomputable def p2_s1210 : ck_Sum := ((10, 0, 0), 245, [.inr (.inr (.inl 226)), .inl (ck_one 3)], ([], [], zl181), (zl182, []), [(.inr (some (.inl (0, 72, []))), 245, ([], [], [(227, 9, 9, (3, 299, [(1000011, 0)])), (226, 6, 6, (0, 12, [(1000027, 0)])), (226, 0, 0, (0, 1, []))]))])
set_option maxRecDepth 100000 in
theorem p2_s1210_s {X : Int → Int} {LX : Nat} : ck_Ok p2_O X LX 320 p2_s1210 := ck_ok_s (O := p2_O) (X := X) (LX := LX) (E := [(286, [p2_s1209]), (266, [p2_s190]), (282, [p2_s242, p2_s241]), (316, [p2_s553]), (321, [p2_s1205])]) (mi := 320) (cuts := []) (f := 190) (S := p2_s1210) (lx := none) (XF := []) ⟨p2_nmu, ck_E1 (ck_S1 p2_s1209_s ck_S0) (ck_E1 (ck_S1 p2_s190_s ck_S0) (ck_E1 (ck_S1 p2_s242_s (ck_S1 p2_s241_s ck_S0)) (ck_E1 (ck_S1 p2_s553_s ck_S0) (ck_E1 (ck_S1 p2_s1205_s ck_S0) ck_E0))))⟩ ck_X0 ck_l0 (by decide +kernel)
set_option maxRecDepth 100000 in
/-- GlacierMailModel.in -/
noncomputable def p2_s1211 : ck_Sum := ((0, 0, 0), 245, [.inl (ck_one 4), .inl (ck_one 1), .inl (ck_one 50)], ([], [], []), ([], []), [(.inr (some (.inl (ck_one 1))), 245, ([], [], []))])
set_option maxRecDepth 100000 in
theorem p2_s1211_s {X : Int → Int} {LX : Nat} : ck_Ok p2_O X LX 286 p2_s1211 := ck_ok_s (O := p2_O) (X := X) (LX := LX) (E := []) (mi := 286) (cuts := []) (f := 88) (S := p2_s1211) (lx := none) (XF := []) ⟨p2_nmu, ck_E0⟩ ck_X0 ck_l0 (by decide +kernel)
set_option maxRecDepth 100000 in
/-- GlacierMailModel.years -/
noncomputable def p2_s1212 : ck_Sum := ((10, 0, 0), 245, [.inr (.inr (.inl 226)), .inl (ck_one 4)], ([], [], zl181), (zl182, []), [(.inr (some (.inl (0, 96, []))), 245, ([], [], [(227, 9, 9, (4, 299, [(1000011, 0)])), (226, 6, 6, (0, 12, [(1000027, 0)])), (226, 0, 0, (0, 1, []))]))])
set_option maxRecDepth 100000 in
theorem p2_s1212_s {X : Int → Int} {LX : Nat} : ck_Ok p2_O X LX 320 p2_s1212 := ck_ok_s (O := p2_O) (X := X) (LX := LX) (E := [(286, [p2_s1211]), (266, [p2_s190]), (282, [p2_s242, p2_s241]), (316, [p2_s553]), (321, [p2_s1205])]) (mi := 320) (cuts := []) (f := 210) (S := p2_s1212) (lx := none) (XF := []) ⟨p2_nmu, ck_E1 (ck_S1 p2_s1211_s ck_S0) (ck_E1 (ck_S1 p2_s190_s ck_S0) (ck_E1 (ck_S1 p2_s242_s (ck_S1 p2_s241_s ck_S0)) (ck_E1 (ck_S1 p2_s553_s ck_S0) (ck_E1 (ck_S1 p2_s1205_s ck_S0) ck_E0))))⟩ ck_X0 ck_l0 (by decide +kernel)
set_option maxRecDepth 100000 in
/-- GlacierMailModel.in -/
noncomputable def p2_s1213 : ck_Sum := ((0, 0, 0), 245, [.inl (ck_one 5), .inl (ck_one 1), .inl (ck_one 50)], ([], [], []), ([], []), [(.inr (some (.inl (ck_one 1))), 245, ([], [], []))])
set_option maxRecDepth 100000 in
theorem p2_s1213_s {X : Int → Int} {LX : Nat} : ck_Ok p2_O X LX 286 p2_s1213 := ck_ok_s (O := p2_O) (X := X) (LX := LX) (E := []) (mi := 286) (cuts := []) (f := 88) (S := p2_s1213) (lx := none) (XF := []) ⟨p2_nmu, ck_E0⟩ ck_X0 ck_l0 (by decide +kernel)
set_option maxRecDepth 100000 in
/-- GlacierMailModel.years -/
noncomputable def p2_s1214 : ck_Sum := ((10, 0, 0), 245, [.inr (.inr (.inl 226)), .inl (ck_one 5)], ([], [], zl181), (zl182, []), [(.inr (some (.inl (0, 120, []))), 245, ([], [], [(227, 9, 9, (5, 299, [(1000011, 0)])), (226, 6, 6, (0, 12, [(1000027, 0)])), (226, 0, 0, (0, 1, []))]))])
set_option maxRecDepth 100000 in
theorem p2_s1214_s {X : Int → Int} {LX : Nat} : ck_Ok p2_O X LX 320 p2_s1214 := ck_ok_s (O := p2_O) (X := X) (LX := LX) (E := [(286, [p2_s1213]), (266, [p2_s190]), (282, [p2_s242, p2_s241]), (316, [p2_s553]), (321, [p2_s1205])]) (mi := 320) (cuts := []) (f := 230) (S := p2_s1214) (lx := none) (XF := []) ⟨p2_nmu, ck_E1 (ck_S1 p2_s1213_s ck_S0) (ck_E1 (ck_S1 p2_s190_s ck_S0) (ck_E1 (ck_S1 p2_s242_s (ck_S1 p2_s241_s ck_S0)) (ck_E1 (ck_S1 p2_s553_s ck_S0) (ck_E1 (ck_S1 p2_s1205_s ck_S0) ck_E0))))⟩ ck_X0 ck_l0 (by decide +kernel)
set_option maxRecDepth 100000 in
/-- GlacierMailModel.in -/
noncomputable def p2_s1215 : ck_Sum := ((0, 0, 0), 245, [.inl (ck_one 6), .inl (ck_one 1), .inl (ck_one 50)], ([], [], []), ([], []), [(.inr (some (.inl (ck_one 1))), 245, ([], [], []))])
set_option maxRecDepth 100000 in
theorem p2_s1215_s {X : Int → Int} {LX : Nat} : ck_Ok p2_O X LX 286 p2_s1215 := ck_ok_s (O := p2_O) (X := X) (LX := LX) (E := []) (mi := 286) (cuts := []) (f := 88) (S := p2_s1215) (lx := none) (XF := []) ⟨p2_nmu, ck_E0⟩ ck_X0 ck_l0 (by decide +kernel)
set_option maxRecDepth 100000 in
/-- GlacierMailModel.years -/
noncomputable def p2_s1216 : ck_Sum := ((10, 0, 0), 245, [.inr (.inr (.inl 226)), .inl (ck_one 6)], ([], [], zl181), (zl182, []), [(.inr (some (.inl (0, 144, []))), 245, ([], [], [(227, 9, 9, (6, 299, [(1000011, 0)])), (226, 6, 6, (0, 12, [(1000027, 0)])), (226, 0, 0, (0, 1, []))]))])
set_option maxRecDepth 100000 in
theorem p2_s1216_s {X : Int → Int} {LX : Nat} : ck_Ok p2_O X LX 320 p2_s1216 := ck_ok_s (O := p2_O) (X := X) (LX := LX) (E := [(286, [p2_s1215]), (266, [p2_s190]), (282, [p2_s242, p2_s241]), (316, [p2_s553]), (321, [p2_s1205])]) (mi := 320) (cuts := []) (f := 250) (S := p2_s1216) (lx := none) (XF := []) ⟨p2_nmu, ck_E1 (ck_S1 p2_s1215_s ck_S0) (ck_E1 (ck_S1 p2_s190_s ck_S0) (ck_E1 (ck_S1 p2_s242_s (ck_S1 p2_s241_s ck_S0)) (ck_E1 (ck_S1 p2_s553_s ck_S0) (ck_E1 (ck_S1 p2_s1205_s ck_S0) ck_E0))))⟩ ck_X0 ck_l0 (by decide +kernel)
set_option maxRecDepth 100000 in
/-- GlacierMailModel.in -/
noncomputable def p2_s1217 : ck_Sum := ((0, 0, 0), 245, [.inl (ck_one 7), .inl (ck_one 1), .inl (ck_one 50)], ([], [], []), ([], []), [(.inr (some (.inl (ck_one 1))), 245, ([], [], []))])
set_option maxRecDepth 100000 in
theorem p2_s1217_s {X : Int → Int} {LX : Nat} : ck_Ok p2_O X LX 286 p2_s1217 := ck_ok_s (O := p2_O) (X := X) (LX := LX) (E := []) (mi := 286) (cuts := []) (f := 88) (S := p2_s1217) (lx := none) (XF := []) ⟨p2_nmu, ck_E0⟩ ck_X0 ck_l0 (by decide +kernel)
set_option maxRecDepth 100000 in
/-- GlacierMailModel.years -/
noncomputable def p2_s1218 : ck_Sum := ((10, 0, 0), 245, [.inr (.inr (.inl 226)), .inl (ck_one 7)], ([], [], zl181), (zl182, []), [(.inr (some (.inl (0, 168, []))), 245, ([], [], [(227, 9, 9, (7, 299, [(1000011, 0)])), (226, 6, 6, (0, 12, [(1000027, 0)])), (226, 0, 0, (0, 1, []))]))])
set_option maxRecDepth 100000 in
theorem p2_s1218_s {X : Int → Int} {LX : Nat} : ck_Ok p2_O X LX 320 p2_s1218 := ck_ok_s (O := p2_O) (X := X) (LX := LX) (E := [(286, [p2_s1217]), (266, [p2_s190]), (282, [p2_s242, p2_s241]), (316, [p2_s553]), (321, [p2_s1205])]) (mi := 320) (cuts := []) (f := 270) (S := p2_s1218) (lx := none) (XF := []) ⟨p2_nmu, ck_E1 (ck_S1 p2_s1217_s ck_S0) (ck_E1 (ck_S1 p2_s190_s ck_S0) (ck_E1 (ck_S1 p2_s242_s (ck_S1 p2_s241_s ck_S0)) (ck_E1 (ck_S1 p2_s553_s ck_S0) (ck_E1 (ck_S1 p2_s1205_s ck_S0) ck_E0))))⟩ ck_X0 ck_l0 (by decide +kernel)
set_option maxRecDepth 100000 in
/-- GlacierMailModel.in -/
noncomputable def p2_s1219 : ck_Sum := ((0, 0, 0), 245, [.inl (ck_one 8), .inl (ck_one 1), .inl (ck_one 50)], ([], [], []), ([], []), [(.inr (some (.inl (ck_one 1))), 245, ([], [], []))])
set_option maxRecDepth 100000 in
theorem p2_s1219_s {X : Int → Int} {LX : Nat} : ck_Ok p2_O X LX 286 p2_s1219 := ck_ok_s (O := p2_O) (X := X) (LX := LX) (E := []) (mi := 286) (cuts := []) (f := 88) (S := p2_s1219) (lx := none) (XF := []) ⟨p2_nmu, ck_E0⟩ ck_X0 ck_l0 (by decide +kernel)
set_option maxRecDepth 100000 in
/-- GlacierMailModel.years -/
noncomputable def p2_s1220 : ck_Sum := ((10, 0, 0), 245, [.inr (.inr (.inl 226)), .inl (ck_one 8)], ([], [], zl181), (zl182, []), [(.inr (some (.inl (0, 192, []))), 245, ([], [], [(227, 9, 9, (8, 299, [(1000011, 0)])), (226, 6, 6, (0, 12, [(1000027, 0)])), (226, 0, 0, (0, 1, []))]))])
set_option maxRecDepth 100000 in
theorem p2_s1220_s {X : Int → Int} {LX : Nat} : ck_Ok p2_O X LX 320 p2_s1220 := ck_ok_s (O := p2_O) (X := X) (LX := LX) (E := [(286, [p2_s1219]), (266, [p2_s190]), (282, [p2_s242, p2_s241]), (316, [p2_s553]), (321, [p2_s1205])]) (mi := 320) (cuts := []) (f := 290) (S := p2_s1220) (lx := none) (XF := []) ⟨p2_nmu, ck_E1 (ck_S1 p2_s1219_s ck_S0) (ck_E1 (ck_S1 p2_s190_s ck_S0) (ck_E1 (ck_S1 p2_s242_s (ck_S1 p2_s241_s ck_S0)) (ck_E1 (ck_S1 p2_s553_s ck_S0) (ck_E1 (ck_S1 p2_s1205_s ck_S0) ck_E0))))⟩ ck_X0 ck_l0 (by decide +kernel)
set_option maxRecDepth 100000 in
/-- GlacierMailModel.in -/
noncomputable def p2_s1221 : ck_Sum := ((0, 0, 0), 245, [.inl (ck_one 9), .inl (ck_one 1), .inl (ck_one 50)], ([], [], []), ([], []), [(.inr (some (.inl (ck_one 1))), 245, ([], [], []))])
set_option maxRecDepth 100000 in
theorem p2_s1221_s {X : Int → Int} {LX : Nat} : ck_Ok p2_O X LX 286 p2_s1221 := ck_ok_s (O := p2_O) (X := X) (LX := LX) (E := []) (mi := 286) (cuts := []) (f := 88) (S := p2_s1221) (lx := none) (XF := []) ⟨p2_nmu, ck_E0⟩ ck_X0 ck_l0 (by decide +kernel)
set_option maxRecDepth 100000 in
/-- GlacierMailModel.years -/
noncomputable def p2_s1222 : ck_Sum := ((10, 0, 0), 245, [.inr (.inr (.inl 226)), .inl (ck_one 9)], ([], [], zl181), (zl182, []), [(.inr (some (.inl (0, 216, []))), 245, ([], [], [(227, 9, 9, (9, 299, [(1000011, 0)])), (226, 6, 6, (0, 12, [(1000027, 0)])), (226, 0, 0, (0, 1, []))]))])
set_option maxRecDepth 100000 in
theorem p2_s1222_s {X : Int → Int} {LX : Nat} : ck_Ok p2_O X LX 320 p2_s1222 := ck_ok_s (O := p2_O) (X := X) (LX := LX) (E := [(286, [p2_s1221]), (266, [p2_s190]), (282, [p2_s242, p2_s241]), (316, [p2_s553]), (321, [p2_s1205])]) (mi := 320) (cuts := []) (f := 310) (S := p2_s1222) (lx := none) (XF := []) ⟨p2_nmu, ck_E1 (ck_S1 p2_s1221_s ck_S0) (ck_E1 (ck_S1 p2_s190_s ck_S0) (ck_E1 (ck_S1 p2_s242_s (ck_S1 p2_s241_s ck_S0)) (ck_E1 (ck_S1 p2_s553_s ck_S0) (ck_E1 (ck_S1 p2_s1205_s ck_S0) ck_E0))))⟩ ck_X0 ck_l0 (by decide +kernel)
set_option maxRecDepth 100000 in
/-- GlacierMailModel.in -/
noncomputable def p2_s1223 : ck_Sum := ((0, 0, 0), 245, [.inl (ck_one 10), .inl (ck_one 1), .inl (ck_one 50)], ([], [], []), ([], []), [(.inr (some (.inl (ck_one 1))), 245, ([], [], []))])
set_option maxRecDepth 100000 in
theorem p2_s1223_s {X : Int → Int} {LX : Nat} : ck_Ok p2_O X LX 286 p2_s1223 := ck_ok_s (O := p2_O) (X := X) (LX := LX) (E := []) (mi := 286) (cuts := []) (f := 88) (S := p2_s1223) (lx := none) (XF := []) ⟨p2_nmu, ck_E0⟩ ck_X0 ck_l0 (by decide +kernel)
set_option maxRecDepth 100000 in
/-- GlacierMailModel.years -/
noncomputable def p2_s1224 : ck_Sum := ((10, 0, 0), 245, [.inr (.inr (.inl 226)), .inl (ck_one 10)], ([], [], zl181), (zl182, []), [(.inr (some (.inl (0, 240, []))), 245, ([], [], [(227, 9, 9, (10, 299, [(1000011, 0)])), (226, 6, 6, (0, 12, [(1000027, 0)])), (226, 0, 0, (0, 1, []))]))])
set_option maxRecDepth 100000 in
theorem p2_s1224_s {X : Int → Int} {LX : Nat} : ck_Ok p2_O X LX 320 p2_s1224 := ck_ok_s (O := p2_O) (X := X) (LX := LX) (E := [(286, [p2_s1223]), (266, [p2_s190]), (282, [p2_s242, p2_s241]), (316, [p2_s553]), (321, [p2_s1205])]) (mi := 320) (cuts := []) (f := 330) (S := p2_s1224) (lx := none) (XF := []) ⟨p2_nmu, ck_E1 (ck_S1 p2_s1223_s ck_S0) (ck_E1 (ck_S1 p2_s190_s ck_S0) (ck_E1 (ck_S1 p2_s242_s (ck_S1 p2_s241_s ck_S0)) (ck_E1 (ck_S1 p2_s553_s ck_S0) (ck_E1 (ck_S1 p2_s1205_s ck_S0) ck_E0))))⟩ ck_X0 ck_l0 (by decide +kernel)
set_option maxRecDepth 100000 in
/-- GlacierMailModel.in -/
noncomputable def p2_s1225 : ck_Sum := ((0, 0, 0), 245, [.inl (ck_one 11), .inl (ck_one 1), .inl (ck_one 50)], ([], [], []), ([], []), [(.inr (some (.inl (ck_one 1))), 245, ([], [], []))])
set_option maxRecDepth 100000 in
theorem p2_s1225_s {X : Int → Int} {LX : Nat} : ck_Ok p2_O X LX 286 p2_s1225 := ck_ok_s (O := p2_O) (X := X) (LX := LX) (E := []) (mi := 286) (cuts := []) (f := 88) (S := p2_s1225) (lx := none) (XF := []) ⟨p2_nmu, ck_E0⟩ ck_X0 ck_l0 (by decide +kernel)
