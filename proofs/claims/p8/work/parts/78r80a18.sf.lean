/-! EVERY CALL ENDS, whatever was done before (laid by wip/am/p2k.py). -/
set_option maxRecDepth 100000 in
/-- GlacierMail.writers -/
noncomputable def p2_s1406 : ck_Sum := ((8, 2, 12), 245, [.inr (.inr (.inl 1)), .inl (0, 5, []), .inl (0, 299, []), .inl ((-2147483648), (-1), [])], ([], [], []), ([], []), [(.inl 3, 245, ([], [], [])), (.inl 0, 245, ([], [], []))])
set_option maxRecDepth 100000 in
theorem p2_s1406_s {X : Int → Int} {LX : Nat} : ck_Ok p2_O X LX 186 p2_s1406 := ck_ok_s (O := p2_O) (X := X) (LX := LX) (E := [(132, [p2_s272]), (187, [p2_s1405])]) (mi := 186) (cuts := []) (f := 84) (S := p2_s1406) (lx := none) (XF := []) ⟨p2_nmu, ck_E1 (ck_S1 p2_s272_s ck_S0) (ck_E1 (ck_S1 p2_s1405_s ck_S0) ck_E0)⟩ ck_X0 ck_l0 (by decide +kernel)
set_option maxRecDepth 100000 in
/-- GlacierMail.needFind -/
noncomputable def p2_s1407 : ck_Sum := ((6, 1, 6), 245, [.inr (.inr (.inl 1)), .inl (0, 299, []), .inl (100, 2147483647, [])], ([], [], []), ([], []), [(.inl 0, 245, ([], [], []))])
set_option maxRecDepth 100000 in
theorem p2_s1407_s {X : Int → Int} {LX : Nat} : ck_Ok p2_O X LX 187 p2_s1407 := ck_ok_s (O := p2_O) (X := X) (LX := LX) (E := [(129, [p2_s253])]) (mi := 187) (cuts := []) (f := 88) (S := p2_s1407) (lx := none) (XF := []) ⟨p2_nmu, ck_E1 (ck_S1 p2_s253_s ck_S0) ck_E0⟩ ck_X0 ck_l0 (by decide +kernel)
set_option maxRecDepth 100000 in
/-- GlacierMail.writers -/
noncomputable def p2_s1408 : ck_Sum := ((8, 2, 12), 245, [.inr (.inr (.inl 1)), .inl (0, 5, []), .inl (0, 299, []), .inl (100, 2147483647, [])], ([], [], []), ([], []), [(.inl 3, 245, ([], [], [])), (.inl 0, 245, ([], [], []))])
set_option maxRecDepth 100000 in
theorem p2_s1408_s {X : Int → Int} {LX : Nat} : ck_Ok p2_O X LX 186 p2_s1408 := ck_ok_s (O := p2_O) (X := X) (LX := LX) (E := [(132, [p2_s272]), (187, [p2_s1407])]) (mi := 186) (cuts := []) (f := 84) (S := p2_s1408) (lx := none) (XF := []) ⟨p2_nmu, ck_E1 (ck_S1 p2_s272_s ck_S0) (ck_E1 (ck_S1 p2_s1407_s ck_S0) ck_E0)⟩ ck_X0 ck_l0 (by decide +kernel)
set_option maxRecDepth 100000 in
/-- GlacierMail.needFind -/
noncomputable def p2_s1409 : ck_Sum := ((1, 0, 0), 245, [.inr (.inr (.inl 1)), .inl (0, 299, []), .inl (0, 99, [])], ([], [], []), ([], []), [(.inr none, 245, ([], [], []))])
set_option maxRecDepth 100000 in
theorem p2_s1409_s {X : Int → Int} {LX : Nat} : ck_Ok p2_O X LX 187 p2_s1409 := ck_ok_s (O := p2_O) (X := X) (LX := LX) (E := [(129, [p2_s253])]) (mi := 187) (cuts := []) (f := 88) (S := p2_s1409) (lx := none) (XF := []) ⟨p2_nmu, ck_E1 (ck_S1 p2_s253_s ck_S0) ck_E0⟩ ck_X0 ck_l0 (by decide +kernel)
set_option maxRecDepth 100000 in
/-- GlacierMail.latestWriting -/
noncomputable def p2_s1410 : ck_Sum := ((4, 0, 0), 245, [.inr (.inr (.inl 1)), .inl (0, 7, []), .inl (0, 5, []), .inl (0, 299, []), .inl (0, 99, [])], ([], [(3, 8, 0)], []), ([(206, 2, 8)], []), [(.inr (some (.inl (ck_one (-1)))), 245, ([], [], [])), (.inr (some (.inl (0, 298, []))), 245, ([], [], [(206, 4, 4, ck_one (-1))]))])
set_option maxRecDepth 100000 in
theorem p2_s1410_s {X : Int → Int} {LX : Nat} : ck_Ok p2_O X LX 188 p2_s1410 := ck_ok_s (O := p2_O) (X := X) (LX := LX) (E := [(10, [p2_s356]), (170, [p2_s1332]), (30, [p2_s346])]) (mi := 188) (cuts := [(23, [some (.inr (.inr (.inl 1))), some (.inl (0, 7, [])), some (.inl (0, 5, [])), some (.inl (0, 299, [])), some (.inl (0, 99, [])), some (.inl ((-1), 298, []))], ([], [(3, 8, 0)], []), 100, .inl 5, false)]) (f := 174) (S := p2_s1410) (lx := none) (XF := []) ⟨p2_nmu, ck_E1 (ck_S1 p2_s356_s ck_S0) (ck_E1 (ck_S1 p2_s1332_s ck_S0) (ck_E1 (ck_S1 p2_s346_s ck_S0) ck_E0))⟩ ck_X0 ck_l0 (by decide +kernel)
set_option maxRecDepth 100000 in
/-- GlacierMail.writers -/
noncomputable def p2_s1411 : ck_Sum := ((8, 1, 6), 245, [.inr (.inr (.inl 1)), .inl (0, 5, []), .inl (0, 299, []), .inl (0, 99, [])], ([], [(3, 8, 0)], []), ([(206, 2, 8)], []), [(.inl 3, 245, ([], [], [])), (.inr (some (.inl ((-2147483648), 2147483647, []))), 245, ([], [], []))])
set_option maxRecDepth 100000 in
theorem p2_s1411_s {X : Int → Int} {LX : Nat} : ck_Ok p2_O X LX 186 p2_s1411 := ck_ok_s (O := p2_O) (X := X) (LX := LX) (E := [(132, [p2_s272]), (187, [p2_s1409]), (9, [p2_s320]), (188, [p2_s1410])]) (mi := 186) (cuts := [(17, [some (.inr (.inr (.inl 1))), some (.inl (0, 5, [])), some (.inl (0, 299, [])), some (.inl (0, 99, [])), some (.inl ((-2147483648), 2147483647, [])), some (.inl (0, 9, []))], ([], [(3, 8, 0)], []), 100, .inl 5, true)]) (f := 182) (S := p2_s1411) (lx := none) (XF := []) ⟨p2_nmu, ck_E1 (ck_S1 p2_s272_s ck_S0) (ck_E1 (ck_S1 p2_s1409_s ck_S0) (ck_E1 (ck_S1 p2_s320_s ck_S0) (ck_E1 (ck_S1 p2_s1410_s ck_S0) ck_E0)))⟩ ck_X0 ck_l0 (by decide +kernel)
set_option maxRecDepth 100000 in
/-- GlacierMailModel.writers -/
noncomputable def p2_s1412 : ck_Sum := ((2, 0, 0), 245, [.inr (.inr (.inl 226)), .inl ((-2147483648), (-1), []), .inl ((-2147483648), 2147483647, []), .inl ((-2147483648), 2147483647, [])], ([], [], []), ([(226, 0, 0)], []), [(.inr (some (.inl (ck_one 0))), 245, ([], [], [(226, 0, 0, ck_one 1)]))])
set_option maxRecDepth 100000 in
theorem p2_s1412_s {X : Int → Int} {LX : Nat} : ck_Ok p2_O X LX 338 p2_s1412 := ck_ok_s (O := p2_O) (X := X) (LX := LX) (E := [(288, [p2_s284]), (282, [p2_s241])]) (mi := 338) (cuts := []) (f := 94) (S := p2_s1412) (lx := none) (XF := []) ⟨p2_nmu, ck_E1 (ck_S1 p2_s284_s ck_S0) (ck_E1 (ck_S1 p2_s241_s ck_S0) ck_E0)⟩ ck_X0 ck_l0 (by decide +kernel)
set_option maxRecDepth 100000 in
/-- GlacierMailModel.writers -/
noncomputable def p2_s1413 : ck_Sum := ((2, 0, 0), 245, [.inr (.inr (.inl 226)), .inl (6, 2147483647, []), .inl ((-2147483648), 2147483647, []), .inl ((-2147483648), 2147483647, [])], ([], [], []), ([(226, 0, 0)], []), [(.inr (some (.inl (ck_one 0))), 245, ([], [], [(226, 0, 0, ck_one 1)]))])
set_option maxRecDepth 100000 in
theorem p2_s1413_s {X : Int → Int} {LX : Nat} : ck_Ok p2_O X LX 338 p2_s1413 := ck_ok_s (O := p2_O) (X := X) (LX := LX) (E := [(288, [p2_s287]), (282, [p2_s241])]) (mi := 338) (cuts := []) (f := 94) (S := p2_s1413) (lx := none) (XF := []) ⟨p2_nmu, ck_E1 (ck_S1 p2_s287_s ck_S0) (ck_E1 (ck_S1 p2_s241_s ck_S0) ck_E0)⟩ ck_X0 ck_l0 (by decide +kernel)
set_option maxRecDepth 100000 in
/-- GlacierMailModel.writers -/
noncomputable def p2_s1414 : ck_Sum := ((2, 0, 0), 245, [.inr (.inr (.inl 226)), .inl (0, 5, []), .inl ((-2147483648), (-1), []), .inl ((-2147483648), 2147483647, [])], ([], [], []), ([(226, 0, 0)], []), [(.inr (some (.inl (ck_one 0))), 245, ([], [], [(226, 0, 0, (1, 2, []))]))])
set_option maxRecDepth 100000 in
theorem p2_s1414_s {X : Int → Int} {LX : Nat} : ck_Ok p2_O X LX 338 p2_s1414 := ck_ok_s (O := p2_O) (X := X) (LX := LX) (E := [(288, [p2_s290]), (282, [p2_s241, p2_s242, p2_s244]), (285, [p2_s257])]) (mi := 338) (cuts := []) (f := 112) (S := p2_s1414) (lx := none) (XF := []) ⟨p2_nmu, ck_E1 (ck_S1 p2_s290_s ck_S0) (ck_E1 (ck_S1 p2_s241_s (ck_S1 p2_s242_s (ck_S1 p2_s244_s ck_S0))) (ck_E1 (ck_S1 p2_s257_s ck_S0) ck_E0))⟩ ck_X0 ck_l0 (by decide +kernel)
set_option maxRecDepth 100000 in
/-- GlacierMailModel.writers -/
noncomputable def p2_s1415 : ck_Sum := ((2, 0, 0), 245, [.inr (.inr (.inl 226)), .inl (0, 5, []), .inl (300, 2147483647, []), .inl ((-2147483648), 2147483647, [])], ([], [], []), ([(226, 0, 0)], []), [(.inr (some (.inl (ck_one 0))), 245, ([], [], [(226, 0, 0, (1, 2, []))]))])
set_option maxRecDepth 100000 in
theorem p2_s1415_s {X : Int → Int} {LX : Nat} : ck_Ok p2_O X LX 338 p2_s1415 := ck_ok_s (O := p2_O) (X := X) (LX := LX) (E := [(288, [p2_s290]), (282, [p2_s241, p2_s242, p2_s244]), (285, [p2_s260])]) (mi := 338) (cuts := []) (f := 112) (S := p2_s1415) (lx := none) (XF := []) ⟨p2_nmu, ck_E1 (ck_S1 p2_s290_s ck_S0) (ck_E1 (ck_S1 p2_s241_s (ck_S1 p2_s242_s (ck_S1 p2_s244_s ck_S0))) (ck_E1 (ck_S1 p2_s260_s ck_S0) ck_E0))⟩ ck_X0 ck_l0 (by decide +kernel)
set_option maxRecDepth 100000 in
/-- GlacierMailModel.in -/
noncomputable def p2_s1416 : ck_Sum := ((0, 0, 0), 245, [.inl ((-2147483648), (-1), []), .inl (ck_one 0), .inl (ck_one 99)], ([], [], []), ([], []), [(.inr (some (.inl (ck_one 0))), 245, ([], [], []))])
set_option maxRecDepth 100000 in
theorem p2_s1416_s {X : Int → Int} {LX : Nat} : ck_Ok p2_O X LX 286 p2_s1416 := ck_ok_s (O := p2_O) (X := X) (LX := LX) (E := []) (mi := 286) (cuts := []) (f := 80) (S := p2_s1416) (lx := none) (XF := []) ⟨p2_nmu, ck_E0⟩ ck_X0 ck_l0 (by decide +kernel)
set_option maxRecDepth 100000 in
/-- GlacierMailModel.writers -/
noncomputable def p2_s1417 : ck_Sum := ((2, 0, 0), 245, [.inr (.inr (.inl 226)), .inl (0, 5, []), .inl (0, 299, []), .inl ((-2147483648), (-1), [])], ([], [], []), ([(226, 0, 0)], []), [(.inr (some (.inl (ck_one 0))), 245, ([], [], [(226, 0, 0, (1, 2, []))]))])
set_option maxRecDepth 100000 in
theorem p2_s1417_s {X : Int → Int} {LX : Nat} : ck_Ok p2_O X LX 338 p2_s1417 := ck_ok_s (O := p2_O) (X := X) (LX := LX) (E := [(288, [p2_s290]), (282, [p2_s241, p2_s242, p2_s244]), (285, [p2_s263]), (286, [p2_s1416])]) (mi := 338) (cuts := []) (f := 122) (S := p2_s1417) (lx := none) (XF := []) ⟨p2_nmu, ck_E1 (ck_S1 p2_s290_s ck_S0) (ck_E1 (ck_S1 p2_s241_s (ck_S1 p2_s242_s (ck_S1 p2_s244_s ck_S0))) (ck_E1 (ck_S1 p2_s263_s ck_S0) (ck_E1 (ck_S1 p2_s1416_s ck_S0) ck_E0)))⟩ ck_X0 ck_l0 (by decide +kernel)
set_option maxRecDepth 100000 in
/-- GlacierMailModel.in -/
noncomputable def p2_s1418 : ck_Sum := ((0, 0, 0), 245, [.inl (100, 2147483647, []), .inl (ck_one 0), .inl (ck_one 99)], ([], [], []), ([], []), [(.inr (some (.inl (ck_one 0))), 245, ([], [], []))])
set_option maxRecDepth 100000 in
theorem p2_s1418_s {X : Int → Int} {LX : Nat} : ck_Ok p2_O X LX 286 p2_s1418 := ck_ok_s (O := p2_O) (X := X) (LX := LX) (E := []) (mi := 286) (cuts := []) (f := 86) (S := p2_s1418) (lx := none) (XF := []) ⟨p2_nmu, ck_E0⟩ ck_X0 ck_l0 (by decide +kernel)
set_option maxRecDepth 100000 in
/-- GlacierMailModel.writers -/
noncomputable def p2_s1419 : ck_Sum := ((2, 0, 0), 245, [.inr (.inr (.inl 226)), .inl (0, 5, []), .inl (0, 299, []), .inl (100, 2147483647, [])], ([], [], []), ([(226, 0, 0)], []), [(.inr (some (.inl (ck_one 0))), 245, ([], [], [(226, 0, 0, (1, 2, []))]))])
set_option maxRecDepth 100000 in
theorem p2_s1419_s {X : Int → Int} {LX : Nat} : ck_Ok p2_O X LX 338 p2_s1419 := ck_ok_s (O := p2_O) (X := X) (LX := LX) (E := [(288, [p2_s290]), (282, [p2_s241, p2_s242, p2_s244]), (285, [p2_s263]), (286, [p2_s1418])]) (mi := 338) (cuts := []) (f := 122) (S := p2_s1419) (lx := none) (XF := []) ⟨p2_nmu, ck_E1 (ck_S1 p2_s290_s ck_S0) (ck_E1 (ck_S1 p2_s241_s (ck_S1 p2_s242_s (ck_S1 p2_s244_s ck_S0))) (ck_E1 (ck_S1 p2_s263_s ck_S0) (ck_E1 (ck_S1 p2_s1418_s ck_S0) ck_E0)))⟩ ck_X0 ck_l0 (by decide +kernel)
set_option maxRecDepth 100000 in
/-- GlacierMailModel.in -/
noncomputable def p2_s1420 : ck_Sum := ((0, 0, 0), 245, [.inl (0, 99, []), .inl (ck_one 0), .inl (ck_one 99)], ([], [], []), ([], []), [(.inr (some (.inl (ck_one 1))), 245, ([], [], []))])
set_option maxRecDepth 100000 in
theorem p2_s1420_s {X : Int → Int} {LX : Nat} : ck_Ok p2_O X LX 286 p2_s1420 := ck_ok_s (O := p2_O) (X := X) (LX := LX) (E := []) (mi := 286) (cuts := []) (f := 88) (S := p2_s1420) (lx := none) (XF := []) ⟨p2_nmu, ck_E0⟩ ck_X0 ck_l0 (by decide +kernel)
set_option maxRecDepth 100000 in
/-- GlacierMail.wrote -/
noncomputable def p2_s1423 : ck_Sum := ((8, 1, 6), 245, [.inr (.inr (.inl 1)), .inl ((-2147483648), (-1), []), .inl ((-2147483648), 2147483647, []), .inl ((-2147483648), 2147483647, []), .inl ((-2147483648), 2147483647, [])], ([], [], []), ([], []), [(.inl 3, 245, ([], [], []))])
set_option maxRecDepth 100000 in
theorem p2_s1423_s {X : Int → Int} {LX : Nat} : ck_Ok p2_O X LX 190 p2_s1423 := ck_ok_s (O := p2_O) (X := X) (LX := LX) (E := [(139, [p2_s322])]) (mi := 190) (cuts := []) (f := 76) (S := p2_s1423) (lx := none) (XF := []) ⟨p2_nmu, ck_E1 (ck_S1 p2_s322_s ck_S0) ck_E0⟩ ck_X0 ck_l0 (by decide +kernel)
set_option maxRecDepth 100000 in
/-- GlacierMail.wrote -/
noncomputable def p2_s1424 : ck_Sum := ((8, 1, 6), 245, [.inr (.inr (.inl 1)), .inl (8, 2147483647, []), .inl ((-2147483648), 2147483647, []), .inl ((-2147483648), 2147483647, []), .inl ((-2147483648), 2147483647, [])], ([], [], []), ([], []), [(.inl 3, 245, ([], [], []))])
set_option maxRecDepth 100000 in
theorem p2_s1424_s {X : Int → Int} {LX : Nat} : ck_Ok p2_O X LX 190 p2_s1424 := ck_ok_s (O := p2_O) (X := X) (LX := LX) (E := [(139, [p2_s325])]) (mi := 190) (cuts := []) (f := 76) (S := p2_s1424) (lx := none) (XF := []) ⟨p2_nmu, ck_E1 (ck_S1 p2_s325_s ck_S0) ck_E0⟩ ck_X0 ck_l0 (by decide +kernel)
set_option maxRecDepth 100000 in
/-- GlacierMail.wrote -/
noncomputable def p2_s1425 : ck_Sum := ((8, 2, 12), 245, [.inr (.inr (.inl 1)), .inl (0, 7, []), .inl ((-2147483648), (-1), []), .inl ((-2147483648), 2147483647, []), .inl ((-2147483648), 2147483647, [])], ([], [], []), ([], []), [(.inl 3, 245, ([], [], []))])
set_option maxRecDepth 100000 in
theorem p2_s1425_s {X : Int → Int} {LX : Nat} : ck_Ok p2_O X LX 190 p2_s1425 := ck_ok_s (O := p2_O) (X := X) (LX := LX) (E := [(139, [p2_s328]), (132, [p2_s266])]) (mi := 190) (cuts := []) (f := 82) (S := p2_s1425) (lx := none) (XF := []) ⟨p2_nmu, ck_E1 (ck_S1 p2_s328_s ck_S0) (ck_E1 (ck_S1 p2_s266_s ck_S0) ck_E0)⟩ ck_X0 ck_l0 (by decide +kernel)
set_option maxRecDepth 100000 in
/-- GlacierMail.wrote -/
noncomputable def p2_s1426 : ck_Sum := ((8, 2, 12), 245, [.inr (.inr (.inl 1)), .inl (0, 7, []), .inl (6, 2147483647, []), .inl ((-2147483648), 2147483647, []), .inl ((-2147483648), 2147483647, [])], ([], [], []), ([], []), [(.inl 3, 245, ([], [], []))])
set_option maxRecDepth 100000 in
theorem p2_s1426_s {X : Int → Int} {LX : Nat} : ck_Ok p2_O X LX 190 p2_s1426 := ck_ok_s (O := p2_O) (X := X) (LX := LX) (E := [(139, [p2_s328]), (132, [p2_s269])]) (mi := 190) (cuts := []) (f := 82) (S := p2_s1426) (lx := none) (XF := []) ⟨p2_nmu, ck_E1 (ck_S1 p2_s328_s ck_S0) (ck_E1 (ck_S1 p2_s269_s ck_S0) ck_E0)⟩ ck_X0 ck_l0 (by decide +kernel)
set_option maxRecDepth 100000 in
/-- GlacierMail.wrote -/
noncomputable def p2_s1427 : ck_Sum := ((8, 3, 18), 245, [.inr (.inr (.inl 1)), .inl (0, 7, []), .inl (0, 5, []), .inl ((-2147483648), (-1), []), .inl ((-2147483648), 2147483647, [])], ([], [], []), ([], []), [(.inl 3, 245, ([], [], [])), (.inl 0, 245, ([], [], []))])
set_option maxRecDepth 100000 in
theorem p2_s1427_s {X : Int → Int} {LX : Nat} : ck_Ok p2_O X LX 190 p2_s1427 := ck_ok_s (O := p2_O) (X := X) (LX := LX) (E := [(139, [p2_s328]), (132, [p2_s272]), (187, [p2_s1401])]) (mi := 190) (cuts := []) (f := 90) (S := p2_s1427) (lx := none) (XF := []) ⟨p2_nmu, ck_E1 (ck_S1 p2_s328_s ck_S0) (ck_E1 (ck_S1 p2_s272_s ck_S0) (ck_E1 (ck_S1 p2_s1401_s ck_S0) ck_E0))⟩ ck_X0 ck_l0 (by decide +kernel)
set_option maxRecDepth 100000 in
/-- GlacierMail.wrote -/
noncomputable def p2_s1428 : ck_Sum := ((8, 3, 18), 245, [.inr (.inr (.inl 1)), .inl (0, 7, []), .inl (0, 5, []), .inl (300, 2147483647, []), .inl ((-2147483648), 2147483647, [])], ([], [], []), ([], []), [(.inl 3, 245, ([], [], [])), (.inl 0, 245, ([], [], []))])
set_option maxRecDepth 100000 in
theorem p2_s1428_s {X : Int → Int} {LX : Nat} : ck_Ok p2_O X LX 190 p2_s1428 := ck_ok_s (O := p2_O) (X := X) (LX := LX) (E := [(139, [p2_s328]), (132, [p2_s272]), (187, [p2_s1403])]) (mi := 190) (cuts := []) (f := 90) (S := p2_s1428) (lx := none) (XF := []) ⟨p2_nmu, ck_E1 (ck_S1 p2_s328_s ck_S0) (ck_E1 (ck_S1 p2_s272_s ck_S0) (ck_E1 (ck_S1 p2_s1403_s ck_S0) ck_E0))⟩ ck_X0 ck_l0 (by decide +kernel)
set_option maxRecDepth 100000 in
/-- GlacierMail.wrote -/
noncomputable def p2_s1429 : ck_Sum := ((8, 3, 18), 245, [.inr (.inr (.inl 1)), .inl (0, 7, []), .inl (0, 5, []), .inl (0, 299, []), .inl ((-2147483648), (-1), [])], ([], [], []), ([], []), [(.inl 3, 245, ([], [], [])), (.inl 0, 245, ([], [], []))])
set_option maxRecDepth 100000 in
theorem p2_s1429_s {X : Int → Int} {LX : Nat} : ck_Ok p2_O X LX 190 p2_s1429 := ck_ok_s (O := p2_O) (X := X) (LX := LX) (E := [(139, [p2_s328]), (132, [p2_s272]), (187, [p2_s1405])]) (mi := 190) (cuts := []) (f := 90) (S := p2_s1429) (lx := none) (XF := []) ⟨p2_nmu, ck_E1 (ck_S1 p2_s328_s ck_S0) (ck_E1 (ck_S1 p2_s272_s ck_S0) (ck_E1 (ck_S1 p2_s1405_s ck_S0) ck_E0))⟩ ck_X0 ck_l0 (by decide +kernel)
set_option maxRecDepth 100000 in
/-- GlacierMail.wrote -/
noncomputable def p2_s1430 : ck_Sum := ((8, 3, 18), 245, [.inr (.inr (.inl 1)), .inl (0, 7, []), .inl (0, 5, []), .inl (0, 299, []), .inl (100, 2147483647, [])], ([], [], []), ([], []), [(.inl 3, 245, ([], [], [])), (.inl 0, 245, ([], [], []))])
set_option maxRecDepth 100000 in
theorem p2_s1430_s {X : Int → Int} {LX : Nat} : ck_Ok p2_O X LX 190 p2_s1430 := ck_ok_s (O := p2_O) (X := X) (LX := LX) (E := [(139, [p2_s328]), (132, [p2_s272]), (187, [p2_s1407])]) (mi := 190) (cuts := []) (f := 90) (S := p2_s1430) (lx := none) (XF := []) ⟨p2_nmu, ck_E1 (ck_S1 p2_s328_s ck_S0) (ck_E1 (ck_S1 p2_s272_s ck_S0) (ck_E1 (ck_S1 p2_s1407_s ck_S0) ck_E0))⟩ ck_X0 ck_l0 (by decide +kernel)
set_option maxRecDepth 100000 in
/-- GlacierMail.wrote -/
noncomputable def p2_s1431 : ck_Sum := ((8, 2, 12), 245, [.inr (.inr (.inl 1)), .inl (0, 7, []), .inl (0, 5, []), .inl (0, 299, []), .inl (0, 99, [])], ([], [(3, 8, 0)], []), ([(206, 2, 8)], []), [(.inl 3, 245, ([], [], [])), (.inr (some (.inl (ck_one (-1)))), 245, ([], [], [])), (.inr (some (.inl (0, 298, []))), 245, ([], [], [(206, 4, 4, ck_one (-1))]))])
set_option maxRecDepth 100000 in
theorem p2_s1431_s {X : Int → Int} {LX : Nat} : ck_Ok p2_O X LX 190 p2_s1431 := ck_ok_s (O := p2_O) (X := X) (LX := LX) (E := [(139, [p2_s328]), (132, [p2_s272]), (187, [p2_s1409]), (188, [p2_s1410])]) (mi := 190) (cuts := []) (f := 104) (S := p2_s1431) (lx := none) (XF := []) ⟨p2_nmu, ck_E1 (ck_S1 p2_s328_s ck_S0) (ck_E1 (ck_S1 p2_s272_s ck_S0) (ck_E1 (ck_S1 p2_s1409_s ck_S0) (ck_E1 (ck_S1 p2_s1410_s ck_S0) ck_E0)))⟩ ck_X0 ck_l0 (by decide +kernel)
set_option maxRecDepth 100000 in
/-- GlacierMailModel.wrote -/
noncomputable def p2_s1432 : ck_Sum := ((2, 0, 0), 245, [.inr (.inr (.inl 226)), .inl ((-2147483648), (-1), []), .inl ((-2147483648), 2147483647, []), .inl ((-2147483648), 2147483647, []), .inl ((-2147483648), 2147483647, [])], ([], [], [(227, 3, 3, (0, 8, [(21, 0)]))]), ([(226, 0, 0)], []), [(.inr (some (.inl (ck_one 0))), 245, ([], [], [(226, 0, 0, ck_one 1)]))])
set_option maxRecDepth 100000 in
theorem p2_s1432_s {X : Int → Int} {LX : Nat} : ck_Ok p2_O X LX 340 p2_s1432 := ck_ok_s (O := p2_O) (X := X) (LX := LX) (E := [(298, [p2_s359]), (282, [p2_s241])]) (mi := 340) (cuts := []) (f := 100) (S := p2_s1432) (lx := none) (XF := []) ⟨p2_nmu, ck_E1 (ck_S1 p2_s359_s ck_S0) (ck_E1 (ck_S1 p2_s241_s ck_S0) ck_E0)⟩ ck_X0 ck_l0 (by decide +kernel)
set_option maxRecDepth 100000 in
/-- GlacierMailModel.wrote -/
noncomputable def p2_s1433 : ck_Sum := ((2, 0, 0), 245, [.inr (.inr (.inl 226)), .inl (8, 2147483647, []), .inl ((-2147483648), 2147483647, []), .inl ((-2147483648), 2147483647, []), .inl ((-2147483648), 2147483647, [])], ([], [], [(227, 3, 3, (0, 8, [(21, 0)]))]), ([(226, 0, 0)], []), [(.inr (some (.inl (ck_one 0))), 245, ([], [], [(226, 0, 0, ck_one 1)]))])
set_option maxRecDepth 100000 in
theorem p2_s1433_s {X : Int → Int} {LX : Nat} : ck_Ok p2_O X LX 340 p2_s1433 := ck_ok_s (O := p2_O) (X := X) (LX := LX) (E := [(298, [p2_s362]), (282, [p2_s241])]) (mi := 340) (cuts := []) (f := 100) (S := p2_s1433) (lx := none) (XF := []) ⟨p2_nmu, ck_E1 (ck_S1 p2_s362_s ck_S0) (ck_E1 (ck_S1 p2_s241_s ck_S0) ck_E0)⟩ ck_X0 ck_l0 (by decide +kernel)
set_option maxRecDepth 100000 in
/-- GlacierMailModel.wrote -/
noncomputable def p2_s1434 : ck_Sum := ((2, 0, 0), 245, [.inr (.inr (.inl 226)), .inl (0, 7, []), .inl ((-2147483648), (-1), []), .inl ((-2147483648), 2147483647, []), .inl ((-2147483648), 2147483647, [])], ([], [], [(227, 3, 3, (0, 8, [(21, 0)]))]), ([(226, 0, 0)], []), [(.inr (some (.inl (ck_one 0))), 245, ([], [], [(226, 0, 0, ck_one 1)]))])
set_option maxRecDepth 100000 in
theorem p2_s1434_s {X : Int → Int} {LX : Nat} : ck_Ok p2_O X LX 340 p2_s1434 := ck_ok_s (O := p2_O) (X := X) (LX := LX) (E := [(298, [p2_s365]), (282, [p2_s241]), (288, [p2_s284])]) (mi := 340) (cuts := []) (f := 108) (S := p2_s1434) (lx := none) (XF := []) ⟨p2_nmu, ck_E1 (ck_S1 p2_s365_s ck_S0) (ck_E1 (ck_S1 p2_s241_s ck_S0) (ck_E1 (ck_S1 p2_s284_s ck_S0) ck_E0))⟩ ck_X0 ck_l0 (by decide +kernel)
set_option maxRecDepth 100000 in
/-- GlacierMailModel.wrote -/
noncomputable def p2_s1435 : ck_Sum := ((2, 0, 0), 245, [.inr (.inr (.inl 226)), .inl (0, 7, []), .inl (6, 2147483647, []), .inl ((-2147483648), 2147483647, []), .inl ((-2147483648), 2147483647, [])], ([], [], [(227, 3, 3, (0, 8, [(21, 0)]))]), ([(226, 0, 0)], []), [(.inr (some (.inl (ck_one 0))), 245, ([], [], [(226, 0, 0, ck_one 1)]))])
set_option maxRecDepth 100000 in
theorem p2_s1435_s {X : Int → Int} {LX : Nat} : ck_Ok p2_O X LX 340 p2_s1435 := ck_ok_s (O := p2_O) (X := X) (LX := LX) (E := [(298, [p2_s365]), (282, [p2_s241]), (288, [p2_s287])]) (mi := 340) (cuts := []) (f := 108) (S := p2_s1435) (lx := none) (XF := []) ⟨p2_nmu, ck_E1 (ck_S1 p2_s365_s ck_S0) (ck_E1 (ck_S1 p2_s241_s ck_S0) (ck_E1 (ck_S1 p2_s287_s ck_S0) ck_E0))⟩ ck_X0 ck_l0 (by decide +kernel)
set_option maxRecDepth 100000 in
/-- GlacierMailModel.wrote -/
noncomputable def p2_s1436 : ck_Sum := ((2, 0, 0), 245, [.inr (.inr (.inl 226)), .inl (0, 7, []), .inl (0, 5, []), .inl ((-2147483648), (-1), []), .inl ((-2147483648), 2147483647, [])], ([], [], [(227, 3, 3, (0, 8, [(21, 0)]))]), ([(226, 0, 0)], []), [(.inr (some (.inl (ck_one 0))), 245, ([], [], [(226, 0, 0, (1, 2, []))]))])
set_option maxRecDepth 100000 in
theorem p2_s1436_s {X : Int → Int} {LX : Nat} : ck_Ok p2_O X LX 340 p2_s1436 := ck_ok_s (O := p2_O) (X := X) (LX := LX) (E := [(298, [p2_s365]), (282, [p2_s241, p2_s242, p2_s244]), (288, [p2_s290]), (285, [p2_s257])]) (mi := 340) (cuts := []) (f := 124) (S := p2_s1436) (lx := none) (XF := []) ⟨p2_nmu, ck_E1 (ck_S1 p2_s365_s ck_S0) (ck_E1 (ck_S1 p2_s241_s (ck_S1 p2_s242_s (ck_S1 p2_s244_s ck_S0))) (ck_E1 (ck_S1 p2_s290_s ck_S0) (ck_E1 (ck_S1 p2_s257_s ck_S0) ck_E0)))⟩ ck_X0 ck_l0 (by decide +kernel)
set_option maxRecDepth 100000 in
/-- GlacierMailModel.wrote -/
noncomputable def p2_s1437 : ck_Sum := ((2, 0, 0), 245, [.inr (.inr (.inl 226)), .inl (0, 7, []), .inl (0, 5, []), .inl (300, 2147483647, []), .inl ((-2147483648), 2147483647, [])], ([], [], [(227, 3, 3, (0, 8, [(21, 0)]))]), ([(226, 0, 0)], []), [(.inr (some (.inl (ck_one 0))), 245, ([], [], [(226, 0, 0, (1, 2, []))]))])
set_option maxRecDepth 100000 in
theorem p2_s1437_s {X : Int → Int} {LX : Nat} : ck_Ok p2_O X LX 340 p2_s1437 := ck_ok_s (O := p2_O) (X := X) (LX := LX) (E := [(298, [p2_s365]), (282, [p2_s241, p2_s242, p2_s244]), (288, [p2_s290]), (285, [p2_s260])]) (mi := 340) (cuts := []) (f := 124) (S := p2_s1437) (lx := none) (XF := []) ⟨p2_nmu, ck_E1 (ck_S1 p2_s365_s ck_S0) (ck_E1 (ck_S1 p2_s241_s (ck_S1 p2_s242_s (ck_S1 p2_s244_s ck_S0))) (ck_E1 (ck_S1 p2_s290_s ck_S0) (ck_E1 (ck_S1 p2_s260_s ck_S0) ck_E0)))⟩ ck_X0 ck_l0 (by decide +kernel)
set_option maxRecDepth 100000 in
/-- GlacierMailModel.wrote -/
noncomputable def p2_s1438 : ck_Sum := ((2, 0, 0), 245, [.inr (.inr (.inl 226)), .inl (0, 7, []), .inl (0, 5, []), .inl (0, 299, []), .inl ((-2147483648), (-1), [])], ([], [], [(227, 3, 3, (0, 8, [(21, 0)]))]), ([(226, 0, 0)], []), [(.inr (some (.inl (ck_one 0))), 245, ([], [], [(226, 0, 0, (1, 2, []))]))])
set_option maxRecDepth 100000 in
theorem p2_s1438_s {X : Int → Int} {LX : Nat} : ck_Ok p2_O X LX 340 p2_s1438 := ck_ok_s (O := p2_O) (X := X) (LX := LX) (E := [(298, [p2_s365]), (282, [p2_s241, p2_s242, p2_s244]), (288, [p2_s290]), (285, [p2_s263]), (286, [p2_s1416])]) (mi := 340) (cuts := []) (f := 134) (S := p2_s1438) (lx := none) (XF := []) ⟨p2_nmu, ck_E1 (ck_S1 p2_s365_s ck_S0) (ck_E1 (ck_S1 p2_s241_s (ck_S1 p2_s242_s (ck_S1 p2_s244_s ck_S0))) (ck_E1 (ck_S1 p2_s290_s ck_S0) (ck_E1 (ck_S1 p2_s263_s ck_S0) (ck_E1 (ck_S1 p2_s1416_s ck_S0) ck_E0))))⟩ ck_X0 ck_l0 (by decide +kernel)
set_option maxRecDepth 100000 in
/-- GlacierMailModel.wrote -/
noncomputable def p2_s1439 : ck_Sum := ((2, 0, 0), 245, [.inr (.inr (.inl 226)), .inl (0, 7, []), .inl (0, 5, []), .inl (0, 299, []), .inl (100, 2147483647, [])], ([], [], [(227, 3, 3, (0, 8, [(21, 0)]))]), ([(226, 0, 0)], []), [(.inr (some (.inl (ck_one 0))), 245, ([], [], [(226, 0, 0, (1, 2, []))]))])
set_option maxRecDepth 100000 in
theorem p2_s1439_s {X : Int → Int} {LX : Nat} : ck_Ok p2_O X LX 340 p2_s1439 := ck_ok_s (O := p2_O) (X := X) (LX := LX) (E := [(298, [p2_s365]), (282, [p2_s241, p2_s242, p2_s244]), (288, [p2_s290]), (285, [p2_s263]), (286, [p2_s1418])]) (mi := 340) (cuts := []) (f := 134) (S := p2_s1439) (lx := none) (XF := []) ⟨p2_nmu, ck_E1 (ck_S1 p2_s365_s ck_S0) (ck_E1 (ck_S1 p2_s241_s (ck_S1 p2_s242_s (ck_S1 p2_s244_s ck_S0))) (ck_E1 (ck_S1 p2_s290_s ck_S0) (ck_E1 (ck_S1 p2_s263_s ck_S0) (ck_E1 (ck_S1 p2_s1418_s ck_S0) ck_E0))))⟩ ck_X0 ck_l0 (by decide +kernel)
set_option maxRecDepth 100000 in
/-- GlacierMail$Rows.size -/
noncomputable def p2_s1441 : ck_Sum := ((0, 0, 0), 245, [.inr (.inr (.inl 12))], ([], [], []), ([], []), [(.inr (some (.inl (0, 6, []))), 245, ([], [], []))])
set_option maxRecDepth 100000 in
theorem p2_s1441_s {X : Int → Int} {LX : Nat} : ck_Ok p2_O X LX 9 p2_s1441 := ck_ok_s (O := p2_O) (X := X) (LX := LX) (E := []) (mi := 9) (cuts := []) (f := 76) (S := p2_s1441) (lx := none) (XF := []) ⟨p2_nmu, ck_E0⟩ ck_X0 ck_l0 (by decide +kernel)
set_option maxRecDepth 100000 in
/-- GlacierMail.need -/
noncomputable def p2_s1442 : ck_Sum := ((6, 1, 6), 245, [.inr (.inr (.inl 1)), .inl ((-2147483648), (-1), []), .inl (0, 6, [])], ([], [], []), ([], []), [(.inl 3, 245, ([], [], []))])
set_option maxRecDepth 100000 in
theorem p2_s1442_s {X : Int → Int} {LX : Nat} : ck_Ok p2_O X LX 133 p2_s1442 := ck_ok_s (O := p2_O) (X := X) (LX := LX) (E := []) (mi := 133) (cuts := []) (f := 76) (S := p2_s1442) (lx := none) (XF := []) ⟨p2_nmu, ck_E0⟩ ck_X0 ck_l0 (by decide +kernel)
set_option maxRecDepth 100000 in
/-- GlacierMail.needTable -/
noncomputable def p2_s1443 : ck_Sum := ((7, 1, 6), 245, [.inr (.inr (.inl 1)), .inl ((-2147483648), (-1), [])], ([], [], []), ([], []), [(.inl 3, 245, ([], [], []))])
set_option maxRecDepth 100000 in
theorem p2_s1443_s {X : Int → Int} {LX : Nat} : ck_Ok p2_O X LX 193 p2_s1443 := ck_ok_s (O := p2_O) (X := X) (LX := LX) (E := [(9, [p2_s1441]), (133, [p2_s1442])]) (mi := 193) (cuts := []) (f := 84) (S := p2_s1443) (lx := none) (XF := []) ⟨p2_nmu, ck_E1 (ck_S1 p2_s1441_s ck_S0) (ck_E1 (ck_S1 p2_s1442_s ck_S0) ck_E0)⟩ ck_X0 ck_l0 (by decide +kernel)
set_option maxRecDepth 100000 in
/-- GlacierMail.table -/
noncomputable def p2_s1444 : ck_Sum := ((8, 1, 6), 245, [.inr (.inr (.inl 1)), .inl ((-2147483648), (-1), []), .inl ((-2147483648), 2147483647, [])], ([], [], []), ([], []), [(.inl 3, 245, ([], [], []))])
set_option maxRecDepth 100000 in
theorem p2_s1444_s {X : Int → Int} {LX : Nat} : ck_Ok p2_O X LX 192 p2_s1444 := ck_ok_s (O := p2_O) (X := X) (LX := LX) (E := [(193, [p2_s1443])]) (mi := 192) (cuts := []) (f := 76) (S := p2_s1444) (lx := none) (XF := []) ⟨p2_nmu, ck_E1 (ck_S1 p2_s1443_s ck_S0) ck_E0⟩ ck_X0 ck_l0 (by decide +kernel)
set_option maxRecDepth 100000 in
/-- GlacierMail.need -/
noncomputable def p2_s1445 : ck_Sum := ((6, 1, 6), 245, [.inr (.inr (.inl 1)), .inl (6, 2147483647, []), .inl (0, 6, [])], ([], [], []), ([], []), [(.inl 3, 245, ([], [], []))])
set_option maxRecDepth 100000 in
theorem p2_s1445_s {X : Int → Int} {LX : Nat} : ck_Ok p2_O X LX 133 p2_s1445 := ck_ok_s (O := p2_O) (X := X) (LX := LX) (E := []) (mi := 133) (cuts := []) (f := 82) (S := p2_s1445) (lx := none) (XF := []) ⟨p2_nmu, ck_E0⟩ ck_X0 ck_l0 (by decide +kernel)
set_option maxRecDepth 100000 in
/-- GlacierMail.needTable -/
noncomputable def p2_s1446 : ck_Sum := ((7, 1, 6), 245, [.inr (.inr (.inl 1)), .inl (6, 2147483647, [])], ([], [], []), ([], []), [(.inl 3, 245, ([], [], []))])
set_option maxRecDepth 100000 in
theorem p2_s1446_s {X : Int → Int} {LX : Nat} : ck_Ok p2_O X LX 193 p2_s1446 := ck_ok_s (O := p2_O) (X := X) (LX := LX) (E := [(9, [p2_s1441]), (133, [p2_s1445])]) (mi := 193) (cuts := []) (f := 84) (S := p2_s1446) (lx := none) (XF := []) ⟨p2_nmu, ck_E1 (ck_S1 p2_s1441_s ck_S0) (ck_E1 (ck_S1 p2_s1445_s ck_S0) ck_E0)⟩ ck_X0 ck_l0 (by decide +kernel)
set_option maxRecDepth 100000 in
/-- GlacierMail.table -/
noncomputable def p2_s1447 : ck_Sum := ((8, 1, 6), 245, [.inr (.inr (.inl 1)), .inl (6, 2147483647, []), .inl ((-2147483648), 2147483647, [])], ([], [], []), ([], []), [(.inl 3, 245, ([], [], []))])
set_option maxRecDepth 100000 in
theorem p2_s1447_s {X : Int → Int} {LX : Nat} : ck_Ok p2_O X LX 192 p2_s1447 := ck_ok_s (O := p2_O) (X := X) (LX := LX) (E := [(193, [p2_s1446])]) (mi := 192) (cuts := []) (f := 76) (S := p2_s1447) (lx := none) (XF := []) ⟨p2_nmu, ck_E1 (ck_S1 p2_s1446_s ck_S0) ck_E0⟩ ck_X0 ck_l0 (by decide +kernel)
set_option maxRecDepth 100000 in
/-- GlacierMail.need -/
noncomputable def p2_s1448 : ck_Sum := ((6, 1, 6), 245, [.inr (.inr (.inl 1)), .inl (0, 5, []), .inl (0, 6, [])], ([], [], []), ([], []), [(.inr none, 245, ([], [], [])), (.inl 3, 245, ([], [], []))])
set_option maxRecDepth 100000 in
theorem p2_s1448_s {X : Int → Int} {LX : Nat} : ck_Ok p2_O X LX 133 p2_s1448 := ck_ok_s (O := p2_O) (X := X) (LX := LX) (E := []) (mi := 133) (cuts := []) (f := 82) (S := p2_s1448) (lx := none) (XF := []) ⟨p2_nmu, ck_E0⟩ ck_X0 ck_l0 (by decide +kernel)
set_option maxRecDepth 100000 in
/-- GlacierMail.needTable -/
noncomputable def p2_s1449 : ck_Sum := ((7, 1, 6), 245, [.inr (.inr (.inl 1)), .inl (0, 5, [])], ([], [], []), ([], []), [(.inl 3, 245, ([], [], [])), (.inr none, 245, ([], [], []))])
set_option maxRecDepth 100000 in
theorem p2_s1449_s {X : Int → Int} {LX : Nat} : ck_Ok p2_O X LX 193 p2_s1449 := ck_ok_s (O := p2_O) (X := X) (LX := LX) (E := [(9, [p2_s1441]), (133, [p2_s1448])]) (mi := 193) (cuts := []) (f := 86) (S := p2_s1449) (lx := none) (XF := []) ⟨p2_nmu, ck_E1 (ck_S1 p2_s1441_s ck_S0) (ck_E1 (ck_S1 p2_s1448_s ck_S0) ck_E0)⟩ ck_X0 ck_l0 (by decide +kernel)
set_option maxRecDepth 100000 in
/-- GlacierMail.table -/
noncomputable def p2_s1450 : ck_Sum := ((8, 2, 12), 245, [.inr (.inr (.inl 1)), .inl (0, 5, []), .inl ((-2147483648), (-1), [])], ([], [], []), ([], []), [(.inl 3, 245, ([], [], []))])
set_option maxRecDepth 100000 in
theorem p2_s1450_s {X : Int → Int} {LX : Nat} : ck_Ok p2_O X LX 192 p2_s1450 := ck_ok_s (O := p2_O) (X := X) (LX := LX) (E := [(193, [p2_s1449]), (132, [p2_s266])]) (mi := 192) (cuts := []) (f := 82) (S := p2_s1450) (lx := none) (XF := []) ⟨p2_nmu, ck_E1 (ck_S1 p2_s1449_s ck_S0) (ck_E1 (ck_S1 p2_s266_s ck_S0) ck_E0)⟩ ck_X0 ck_l0 (by decide +kernel)
set_option maxRecDepth 100000 in
/-- GlacierMail.table -/
noncomputable def p2_s1451 : ck_Sum := ((8, 2, 12), 245, [.inr (.inr (.inl 1)), .inl (0, 5, []), .inl (6, 2147483647, [])], ([], [], []), ([], []), [(.inl 3, 245, ([], [], []))])
set_option maxRecDepth 100000 in
theorem p2_s1451_s {X : Int → Int} {LX : Nat} : ck_Ok p2_O X LX 192 p2_s1451 := ck_ok_s (O := p2_O) (X := X) (LX := LX) (E := [(193, [p2_s1449]), (132, [p2_s269])]) (mi := 192) (cuts := []) (f := 82) (S := p2_s1451) (lx := none) (XF := []) ⟨p2_nmu, ck_E1 (ck_S1 p2_s1449_s ck_S0) (ck_E1 (ck_S1 p2_s269_s ck_S0) ck_E0)⟩ ck_X0 ck_l0 (by decide +kernel)
set_option maxRecDepth 100000 in
/-- GlacierMail$Rows.get -/
noncomputable def p2_s1452 : ck_Sum := ((0, 0, 0), 245, [.inr (.inr (.inl 12)), .inl ((-2147483648), 2147483647, []), .inl ((-2147483648), 2147483647, [])], ([], [], []), ([], []), [(.inr (some (.inl (ck_one (-1)))), 245, ([], [], [])), (.inr (some (.inl (0, 20, []))), 245, ([], [], [(12, 3, 3, (1, 6, []))]))])
set_option maxRecDepth 100000 in
theorem p2_s1452_s {X : Int → Int} {LX : Nat} : ck_Ok p2_O X LX 10 p2_s1452 := ck_ok_s (O := p2_O) (X := X) (LX := LX) (E := []) (mi := 10) (cuts := []) (f := 114) (S := p2_s1452) (lx := none) (XF := []) ⟨p2_nmu, ck_E0⟩ ck_X0 ck_l0 (by decide +kernel)
set_option maxRecDepth 100000 in
/-- GlacierMail.table -/
noncomputable def p2_s1453 : ck_Sum := ((8, 2, 12), 245, [.inr (.inr (.inl 1)), .inl (0, 5, []), .inl (0, 5, [])], ([], [], []), ([], []), [(.inl 3, 245, ([], [], [])), (.inr (some (.inl (ck_one (-1)))), 245, ([], [], [])), (.inr (some (.inl (0, 20, []))), 245, ([], [], [(12, 3, 3, (1, 6, []))]))])
set_option maxRecDepth 100000 in
theorem p2_s1453_s {X : Int → Int} {LX : Nat} : ck_Ok p2_O X LX 192 p2_s1453 := ck_ok_s (O := p2_O) (X := X) (LX := LX) (E := [(193, [p2_s1449]), (132, [p2_s272]), (10, [p2_s1452])]) (mi := 192) (cuts := []) (f := 96) (S := p2_s1453) (lx := none) (XF := []) ⟨p2_nmu, ck_E1 (ck_S1 p2_s1449_s ck_S0) (ck_E1 (ck_S1 p2_s272_s ck_S0) (ck_E1 (ck_S1 p2_s1452_s ck_S0) ck_E0))⟩ ck_X0 ck_l0 (by decide +kernel)
set_option maxRecDepth 100000 in
/-- GlacierMailModel.noTable -/
noncomputable def p2_s1454 : ck_Sum := ((1, 0, 0), 245, [.inr (.inr (.inl 226)), .inl ((-2147483648), (-1), [])], ([], [], [(227, 6, 6, (0, 6, [(24, 0)]))]), ([], []), [(.inr (some (.inl (ck_one 1))), 245, ([], [], []))])
set_option maxRecDepth 100000 in
theorem p2_s1454_s {X : Int → Int} {LX : Nat} : ck_Ok p2_O X LX 342 p2_s1454 := ck_ok_s (O := p2_O) (X := X) (LX := LX) (E := [(286, [p2_s283])]) (mi := 342) (cuts := []) (f := 96) (S := p2_s1454) (lx := none) (XF := []) ⟨p2_nmu, ck_E1 (ck_S1 p2_s283_s ck_S0) ck_E0⟩ ck_X0 ck_l0 (by decide +kernel)
set_option maxRecDepth 100000 in
/-- GlacierMailModel.table -/
noncomputable def p2_s1455 : ck_Sum := ((2, 0, 0), 245, [.inr (.inr (.inl 226)), .inl ((-2147483648), (-1), []), .inl ((-2147483648), 2147483647, [])], ([], [], [(227, 6, 6, (0, 6, [(24, 0)]))]), ([(226, 0, 0)], []), [(.inr (some (.inl (ck_one 0))), 245, ([], [], [(226, 0, 0, ck_one 1)]))])
set_option maxRecDepth 100000 in
theorem p2_s1455_s {X : Int → Int} {LX : Nat} : ck_Ok p2_O X LX 341 p2_s1455 := ck_ok_s (O := p2_O) (X := X) (LX := LX) (E := [(342, [p2_s1454]), (282, [p2_s241])]) (mi := 341) (cuts := []) (f := 102) (S := p2_s1455) (lx := none) (XF := []) ⟨p2_nmu, ck_E1 (ck_S1 p2_s1454_s ck_S0) (ck_E1 (ck_S1 p2_s241_s ck_S0) ck_E0)⟩ ck_X0 ck_l0 (by decide +kernel)
set_option maxRecDepth 100000 in
/-- GlacierMailModel.noTable -/
noncomputable def p2_s1456 : ck_Sum := ((1, 0, 0), 245, [.inr (.inr (.inl 226)), .inl (6, 2147483647, [])], ([], [], [(227, 6, 6, (0, 6, [(24, 0)]))]), ([], []), [(.inr (some (.inl (ck_one 1))), 245, ([], [], []))])
set_option maxRecDepth 100000 in
theorem p2_s1456_s {X : Int → Int} {LX : Nat} : ck_Ok p2_O X LX 342 p2_s1456 := ck_ok_s (O := p2_O) (X := X) (LX := LX) (E := [(286, [p2_s286])]) (mi := 342) (cuts := []) (f := 96) (S := p2_s1456) (lx := none) (XF := []) ⟨p2_nmu, ck_E1 (ck_S1 p2_s286_s ck_S0) ck_E0⟩ ck_X0 ck_l0 (by decide +kernel)
set_option maxRecDepth 100000 in
/-- GlacierMailModel.table -/
noncomputable def p2_s1457 : ck_Sum := ((2, 0, 0), 245, [.inr (.inr (.inl 226)), .inl (6, 2147483647, []), .inl ((-2147483648), 2147483647, [])], ([], [], [(227, 6, 6, (0, 6, [(24, 0)]))]), ([(226, 0, 0)], []), [(.inr (some (.inl (ck_one 0))), 245, ([], [], [(226, 0, 0, ck_one 1)]))])
set_option maxRecDepth 100000 in
theorem p2_s1457_s {X : Int → Int} {LX : Nat} : ck_Ok p2_O X LX 341 p2_s1457 := ck_ok_s (O := p2_O) (X := X) (LX := LX) (E := [(342, [p2_s1456]), (282, [p2_s241])]) (mi := 341) (cuts := []) (f := 102) (S := p2_s1457) (lx := none) (XF := []) ⟨p2_nmu, ck_E1 (ck_S1 p2_s1456_s ck_S0) (ck_E1 (ck_S1 p2_s241_s ck_S0) ck_E0)⟩ ck_X0 ck_l0 (by decide +kernel)
set_option maxRecDepth 100000 in
/-- GlacierMailModel.noTable -/
noncomputable def p2_s1458 : ck_Sum := ((1, 0, 0), 245, [.inr (.inr (.inl 226)), .inl (0, 5, [])], ([], [], [(227, 6, 6, (0, 6, [(24, 0)]))]), ([], []), [(.inr (some (.inl (ck_one 1))), 245, ([], [], [])), (.inr (some (.inl (ck_one 0))), 245, ([], [], []))])
set_option maxRecDepth 100000 in
theorem p2_s1458_s {X : Int → Int} {LX : Nat} : ck_Ok p2_O X LX 342 p2_s1458 := ck_ok_s (O := p2_O) (X := X) (LX := LX) (E := [(286, [p2_s289])]) (mi := 342) (cuts := []) (f := 96) (S := p2_s1458) (lx := none) (XF := []) ⟨p2_nmu, ck_E1 (ck_S1 p2_s289_s ck_S0) ck_E0⟩ ck_X0 ck_l0 (by decide +kernel)
set_option maxRecDepth 100000 in
/-- GlacierMailModel.table -/
noncomputable def p2_s1459 : ck_Sum := ((2, 0, 0), 245, [.inr (.inr (.inl 226)), .inl (0, 5, []), .inl ((-2147483648), (-1), [])], ([], [], [(227, 6, 6, (0, 6, [(24, 0)]))]), ([(226, 0, 0)], []), [(.inr (some (.inl (ck_one 0))), 245, ([], [], [(226, 0, 0, ck_one 1)]))])
set_option maxRecDepth 100000 in
theorem p2_s1459_s {X : Int → Int} {LX : Nat} : ck_Ok p2_O X LX 341 p2_s1459 := ck_ok_s (O := p2_O) (X := X) (LX := LX) (E := [(342, [p2_s1458]), (282, [p2_s241]), (288, [p2_s284])]) (mi := 341) (cuts := []) (f := 110) (S := p2_s1459) (lx := none) (XF := []) ⟨p2_nmu, ck_E1 (ck_S1 p2_s1458_s ck_S0) (ck_E1 (ck_S1 p2_s241_s ck_S0) (ck_E1 (ck_S1 p2_s284_s ck_S0) ck_E0))⟩ ck_X0 ck_l0 (by decide +kernel)
set_option maxRecDepth 100000 in
/-- GlacierMailModel.table -/
noncomputable def p2_s1460 : ck_Sum := ((2, 0, 0), 245, [.inr (.inr (.inl 226)), .inl (0, 5, []), .inl (6, 2147483647, [])], ([], [], [(227, 6, 6, (0, 6, [(24, 0)]))]), ([(226, 0, 0)], []), [(.inr (some (.inl (ck_one 0))), 245, ([], [], [(226, 0, 0, ck_one 1)]))])
set_option maxRecDepth 100000 in
theorem p2_s1460_s {X : Int → Int} {LX : Nat} : ck_Ok p2_O X LX 341 p2_s1460 := ck_ok_s (O := p2_O) (X := X) (LX := LX) (E := [(342, [p2_s1458]), (282, [p2_s241]), (288, [p2_s287])]) (mi := 341) (cuts := []) (f := 110) (S := p2_s1460) (lx := none) (XF := []) ⟨p2_nmu, ck_E1 (ck_S1 p2_s1458_s ck_S0) (ck_E1 (ck_S1 p2_s241_s ck_S0) (ck_E1 (ck_S1 p2_s287_s ck_S0) ck_E0))⟩ ck_X0 ck_l0 (by decide +kernel)
set_option maxRecDepth 100000 in
/-- GlacierMailModel.ofTable -/
noncomputable def p2_s1461 : ck_Sum := ((0, 0, 0), 245, [.inr (.inr (.inl 226)), .inl (0, 5, []), .inl (0, 5, [])], ([], [], []), ([], []), [(.inr (some (.inl (0, 20, []))), 245, ([], [], []))])
set_option maxRecDepth 100000 in
theorem p2_s1461_s {X : Int → Int} {LX : Nat} : ck_Ok p2_O X LX 343 p2_s1461 := ck_ok_s (O := p2_O) (X := X) (LX := LX) (E := []) (mi := 343) (cuts := []) (f := 92) (S := p2_s1461) (lx := none) (XF := []) ⟨p2_nmu, ck_E0⟩ ck_X0 ck_l0 (by decide +kernel)
set_option maxRecDepth 100000 in
/-- GlacierMailModel.table -/
noncomputable def p2_s1462 : ck_Sum := ((2, 0, 0), 245, [.inr (.inr (.inl 226)), .inl (0, 5, []), .inl (0, 5, [])], ([], [], [(227, 6, 6, (0, 6, [(24, 0)]))]), ([(226, 0, 0)], []), [(.inr (some (.inl (0, 20, []))), 245, ([], [], [(226, 0, 0, (0, 1, []))]))])
set_option maxRecDepth 100000 in
theorem p2_s1462_s {X : Int → Int} {LX : Nat} : ck_Ok p2_O X LX 341 p2_s1462 := ck_ok_s (O := p2_O) (X := X) (LX := LX) (E := [(342, [p2_s1458]), (282, [p2_s241, p2_s242]), (288, [p2_s290]), (343, [p2_s1461])]) (mi := 341) (cuts := []) (f := 112) (S := p2_s1462) (lx := none) (XF := []) ⟨p2_nmu, ck_E1 (ck_S1 p2_s1458_s ck_S0) (ck_E1 (ck_S1 p2_s241_s (ck_S1 p2_s242_s ck_S0)) (ck_E1 (ck_S1 p2_s290_s ck_S0) (ck_E1 (ck_S1 p2_s1461_s ck_S0) ck_E0)))⟩ ck_X0 ck_l0 (by decide +kernel)
set_option maxRecDepth 100000 in
/-- GlacierMail.apart -/
noncomputable def p2_s1463 : ck_Sum := ((8, 1, 6), 245, [.inr (.inr (.inl 1)), .inl ((-2147483648), (-1), []), .inl ((-2147483648), 2147483647, []), .inl ((-2147483648), 2147483647, [])], ([], [], []), ([], []), [(.inl 3, 245, ([], [], []))])
set_option maxRecDepth 100000 in
theorem p2_s1463_s {X : Int → Int} {LX : Nat} : ck_Ok p2_O X LX 195 p2_s1463 := ck_ok_s (O := p2_O) (X := X) (LX := LX) (E := [(193, [p2_s1443])]) (mi := 195) (cuts := []) (f := 76) (S := p2_s1463) (lx := none) (XF := []) ⟨p2_nmu, ck_E1 (ck_S1 p2_s1443_s ck_S0) ck_E0⟩ ck_X0 ck_l0 (by decide +kernel)
set_option maxRecDepth 100000 in
/-- GlacierMail.apart -/
noncomputable def p2_s1464 : ck_Sum := ((8, 1, 6), 245, [.inr (.inr (.inl 1)), .inl (6, 2147483647, []), .inl ((-2147483648), 2147483647, []), .inl ((-2147483648), 2147483647, [])], ([], [], []), ([], []), [(.inl 3, 245, ([], [], []))])
set_option maxRecDepth 100000 in
theorem p2_s1464_s {X : Int → Int} {LX : Nat} : ck_Ok p2_O X LX 195 p2_s1464 := ck_ok_s (O := p2_O) (X := X) (LX := LX) (E := [(193, [p2_s1446])]) (mi := 195) (cuts := []) (f := 76) (S := p2_s1464) (lx := none) (XF := []) ⟨p2_nmu, ck_E1 (ck_S1 p2_s1446_s ck_S0) ck_E0⟩ ck_X0 ck_l0 (by decide +kernel)
set_option maxRecDepth 100000 in
/-- GlacierMail.apart -/
noncomputable def p2_s1465 : ck_Sum := ((8, 2, 12), 245, [.inr (.inr (.inl 1)), .inl (0, 5, []), .inl ((-2147483648), (-1), []), .inl ((-2147483648), 2147483647, [])], ([], [], []), ([], []), [(.inl 3, 245, ([], [], []))])
set_option maxRecDepth 100000 in
theorem p2_s1465_s {X : Int → Int} {LX : Nat} : ck_Ok p2_O X LX 195 p2_s1465 := ck_ok_s (O := p2_O) (X := X) (LX := LX) (E := [(193, [p2_s1449, p2_s1443])]) (mi := 195) (cuts := []) (f := 82) (S := p2_s1465) (lx := none) (XF := []) ⟨p2_nmu, ck_E1 (ck_S1 p2_s1449_s (ck_S1 p2_s1443_s ck_S0)) ck_E0⟩ ck_X0 ck_l0 (by decide +kernel)
set_option maxRecDepth 100000 in
/-- GlacierMail.apart -/
noncomputable def p2_s1466 : ck_Sum := ((8, 2, 12), 245, [.inr (.inr (.inl 1)), .inl (0, 5, []), .inl (6, 2147483647, []), .inl ((-2147483648), 2147483647, [])], ([], [], []), ([], []), [(.inl 3, 245, ([], [], []))])
set_option maxRecDepth 100000 in
theorem p2_s1466_s {X : Int → Int} {LX : Nat} : ck_Ok p2_O X LX 195 p2_s1466 := ck_ok_s (O := p2_O) (X := X) (LX := LX) (E := [(193, [p2_s1449, p2_s1446])]) (mi := 195) (cuts := []) (f := 82) (S := p2_s1466) (lx := none) (XF := []) ⟨p2_nmu, ck_E1 (ck_S1 p2_s1449_s (ck_S1 p2_s1446_s ck_S0)) ck_E0⟩ ck_X0 ck_l0 (by decide +kernel)
set_option maxRecDepth 100000 in
/-- GlacierMail.toldApart -/
noncomputable def p2_s1467 : ck_Sum := ((1, 0, 0), 245, [.inr (.inr (.inl 1)), .inl (0, 5, []), .inl (0, 5, []), .inl ((-2147483648), 2147483647, [])], ([], [], []), ([], []), [(.inr (some (.inl (ck_one 0))), 245, ([], [], [])), (.inr (some (.inl (ck_one 1))), 245, ([], [], [(12, 3, 3, (1, 6, []))]))])
set_option maxRecDepth 100000 in
theorem p2_s1467_s {X : Int → Int} {LX : Nat} : ck_Ok p2_O X LX 51 p2_s1467 := ck_ok_s (O := p2_O) (X := X) (LX := LX) (E := [(10, [p2_s1452])]) (mi := 51) (cuts := [(3, [some (.inr (.inr (.inl 1))), some (.inl (0, 5, [])), some (.inl (0, 5, [])), some (.inl ((-2147483648), 2147483647, [])), some (.inl (0, 6, []))], ([], [], []), 100, .inl 4, true)]) (f := 202) (S := p2_s1467) (lx := none) (XF := []) ⟨p2_nmu, ck_E1 (ck_S1 p2_s1452_s ck_S0) ck_E0⟩ ck_X0 ck_l0 (by decide +kernel)
set_option maxRecDepth 100000 in
/-- GlacierMail.apart -/
noncomputable def p2_s1468 : ck_Sum := ((8, 2, 12), 245, [.inr (.inr (.inl 1)), .inl (0, 5, []), .inl (0, 5, []), .inl ((-2147483648), 2147483647, [])], ([], [], []), ([], []), [(.inl 3, 245, ([], [], [])), (.inr (some (.inl (ck_one 0))), 245, ([], [], [])), (.inr (some (.inl (ck_one 1))), 245, ([], [], [(12, 3, 3, (1, 6, []))]))])
set_option maxRecDepth 100000 in
theorem p2_s1468_s {X : Int → Int} {LX : Nat} : ck_Ok p2_O X LX 195 p2_s1468 := ck_ok_s (O := p2_O) (X := X) (LX := LX) (E := [(193, [p2_s1449]), (51, [p2_s1467])]) (mi := 195) (cuts := []) (f := 94) (S := p2_s1468) (lx := none) (XF := []) ⟨p2_nmu, ck_E1 (ck_S1 p2_s1449_s ck_S0) (ck_E1 (ck_S1 p2_s1467_s ck_S0) ck_E0)⟩ ck_X0 ck_l0 (by decide +kernel)
set_option maxRecDepth 100000 in
/-- GlacierMailModel.apart -/
noncomputable def p2_s1469 : ck_Sum := ((2, 0, 0), 245, [.inr (.inr (.inl 226)), .inl ((-2147483648), (-1), []), .inl ((-2147483648), 2147483647, []), .inl ((-2147483648), 2147483647, [])], ([], [], [(227, 6, 6, (0, 6, [(24, 0)]))]), ([(226, 0, 0)], []), [(.inr (some (.inl (ck_one 0))), 245, ([], [], [(226, 0, 0, ck_one 1)]))])
set_option maxRecDepth 100000 in
theorem p2_s1469_s {X : Int → Int} {LX : Nat} : ck_Ok p2_O X LX 344 p2_s1469 := ck_ok_s (O := p2_O) (X := X) (LX := LX) (E := [(342, [p2_s1454]), (282, [p2_s241])]) (mi := 344) (cuts := []) (f := 100) (S := p2_s1469) (lx := none) (XF := []) ⟨p2_nmu, ck_E1 (ck_S1 p2_s1454_s ck_S0) (ck_E1 (ck_S1 p2_s241_s ck_S0) ck_E0)⟩ ck_X0 ck_l0 (by decide +kernel)
set_option maxRecDepth 100000 in
/-- GlacierMailModel.apart -/
noncomputable def p2_s1470 : ck_Sum := ((2, 0, 0), 245, [.inr (.inr (.inl 226)), .inl (6, 2147483647, []), .inl ((-2147483648), 2147483647, []), .inl ((-2147483648), 2147483647, [])], ([], [], [(227, 6, 6, (0, 6, [(24, 0)]))]), ([(226, 0, 0)], []), [(.inr (some (.inl (ck_one 0))), 245, ([], [], [(226, 0, 0, ck_one 1)]))])
set_option maxRecDepth 100000 in
theorem p2_s1470_s {X : Int → Int} {LX : Nat} : ck_Ok p2_O X LX 344 p2_s1470 := ck_ok_s (O := p2_O) (X := X) (LX := LX) (E := [(342, [p2_s1456]), (282, [p2_s241])]) (mi := 344) (cuts := []) (f := 100) (S := p2_s1470) (lx := none) (XF := []) ⟨p2_nmu, ck_E1 (ck_S1 p2_s1456_s ck_S0) (ck_E1 (ck_S1 p2_s241_s ck_S0) ck_E0)⟩ ck_X0 ck_l0 (by decide +kernel)
set_option maxRecDepth 100000 in
/-- GlacierMailModel.apart -/
noncomputable def p2_s1471 : ck_Sum := ((2, 0, 0), 245, [.inr (.inr (.inl 226)), .inl (0, 5, []), .inl ((-2147483648), (-1), []), .inl ((-2147483648), 2147483647, [])], ([], [], [(227, 6, 6, (0, 6, [(24, 0)]))]), ([(226, 0, 0)], []), [(.inr (some (.inl (ck_one 0))), 245, ([], [], [(226, 0, 0, ck_one 1)]))])
set_option maxRecDepth 100000 in
theorem p2_s1471_s {X : Int → Int} {LX : Nat} : ck_Ok p2_O X LX 344 p2_s1471 := ck_ok_s (O := p2_O) (X := X) (LX := LX) (E := [(342, [p2_s1458, p2_s1454]), (282, [p2_s241])]) (mi := 344) (cuts := []) (f := 108) (S := p2_s1471) (lx := none) (XF := []) ⟨p2_nmu, ck_E1 (ck_S1 p2_s1458_s (ck_S1 p2_s1454_s ck_S0)) (ck_E1 (ck_S1 p2_s241_s ck_S0) ck_E0)⟩ ck_X0 ck_l0 (by decide +kernel)
set_option maxRecDepth 100000 in
/-- GlacierMailModel.apart -/
noncomputable def p2_s1472 : ck_Sum := ((2, 0, 0), 245, [.inr (.inr (.inl 226)), .inl (0, 5, []), .inl (6, 2147483647, []), .inl ((-2147483648), 2147483647, [])], ([], [], [(227, 6, 6, (0, 6, [(24, 0)]))]), ([(226, 0, 0)], []), [(.inr (some (.inl (ck_one 0))), 245, ([], [], [(226, 0, 0, ck_one 1)]))])
set_option maxRecDepth 100000 in
theorem p2_s1472_s {X : Int → Int} {LX : Nat} : ck_Ok p2_O X LX 344 p2_s1472 := ck_ok_s (O := p2_O) (X := X) (LX := LX) (E := [(342, [p2_s1458, p2_s1456]), (282, [p2_s241])]) (mi := 344) (cuts := []) (f := 108) (S := p2_s1472) (lx := none) (XF := []) ⟨p2_nmu, ck_E1 (ck_S1 p2_s1458_s (ck_S1 p2_s1456_s ck_S0)) (ck_E1 (ck_S1 p2_s241_s ck_S0) ck_E0)⟩ ck_X0 ck_l0 (by decide +kernel)
set_option maxRecDepth 100000 in
/-- GlacierMailModel.has -/
noncomputable def p2_s1473 : ck_Sum := ((0, 0, 0), 245, [.inl ((-2147483648), 2147483647, []), .inl (0, 5, [])], ([], [], []), ([], []), [(.inr (some (.inl (ck_one 0))), 245, ([], [], [])), (.inr (some (.inl (ck_one 1))), 245, ([], [], []))])
set_option maxRecDepth 100000 in
theorem p2_s1473_s {X : Int → Int} {LX : Nat} : ck_Ok p2_O X LX 346 p2_s1473 := ck_ok_s (O := p2_O) (X := X) (LX := LX) (E := []) (mi := 346) (cuts := []) (f := 90) (S := p2_s1473) (lx := none) (XF := []) ⟨p2_nmu, ck_E0⟩ ck_X0 ck_l0 (by decide +kernel)
set_option maxRecDepth 100000 in
/-- GlacierMailModel.areApart -/
noncomputable def p2_s1474 : ck_Sum := ((1, 0, 0), 245, [.inr (.inr (.inl 226)), .inl (0, 5, []), .inl (0, 5, []), .inl ((-2147483648), 2147483647, [])], ([], [], []), ([], []), [(.inr (some (.inl (0, 1, []))), 245, ([], [], []))])
set_option maxRecDepth 100000 in
theorem p2_s1474_s {X : Int → Int} {LX : Nat} : ck_Ok p2_O X LX 345 p2_s1474 := ck_ok_s (O := p2_O) (X := X) (LX := LX) (E := [(261, [p2_s166]), (346, [p2_s1473]), (343, [p2_s1461])]) (mi := 345) (cuts := [(6, [some (.inr (.inr (.inl 226))), some (.inl (0, 5, [])), some (.inl (0, 5, [])), some (.inl ((-2147483648), 2147483647, [])), some (.inl (0, 1, [])), some (.inl (0, 6, []))], ([], [], []), 100, .inl 5, true)]) (f := 190) (S := p2_s1474) (lx := none) (XF := []) ⟨p2_nmu, ck_E1 (ck_S1 p2_s166_s ck_S0) (ck_E1 (ck_S1 p2_s1473_s ck_S0) (ck_E1 (ck_S1 p2_s1461_s ck_S0) ck_E0))⟩ ck_X0 ck_l0 (by decide +kernel)
set_option maxRecDepth 100000 in
/-- GlacierMailModel.apart -/
noncomputable def p2_s1475 : ck_Sum := ((2, 0, 0), 245, [.inr (.inr (.inl 226)), .inl (0, 5, []), .inl (0, 5, []), .inl ((-2147483648), 2147483647, [])], ([], [], [(227, 6, 6, (0, 6, [(24, 0)]))]), ([(226, 0, 0)], []), [(.inr (some (.inl (ck_one 0))), 245, ([], [], [(226, 0, 0, (0, 1, []))])), (.inr (some (.inl (ck_one 1))), 245, ([], [], [(226, 0, 0, ck_one 0)]))])
set_option maxRecDepth 100000 in
theorem p2_s1475_s {X : Int → Int} {LX : Nat} : ck_Ok p2_O X LX 344 p2_s1475 := ck_ok_s (O := p2_O) (X := X) (LX := LX) (E := [(342, [p2_s1458]), (282, [p2_s241, p2_s242]), (345, [p2_s1474])]) (mi := 344) (cuts := []) (f := 120) (S := p2_s1475) (lx := none) (XF := []) ⟨p2_nmu, ck_E1 (ck_S1 p2_s1458_s ck_S0) (ck_E1 (ck_S1 p2_s241_s (ck_S1 p2_s242_s ck_S0)) (ck_E1 (ck_S1 p2_s1474_s ck_S0) ck_E0))⟩ ck_X0 ck_l0 (by decide +kernel)
set_option maxRecDepth 100000 in
/-- GlacierMail.allToldApart -/
noncomputable def p2_s1476 : ck_Sum := ((2, 0, 0), 245, [.inr (.inr (.inl 1)), .inl ((-2147483648), 2147483647, [])], ([], [], []), ([], []), [(.inr (some (.inl (ck_one 1))), 245, ([], [], [])), (.inr (some (.inl (ck_one 0))), 245, ([], [], []))])
set_option maxRecDepth 100000 in
theorem p2_s1476_s {X : Int → Int} {LX : Nat} : ck_Ok p2_O X LX 50 p2_s1476 := ck_ok_s (O := p2_O) (X := X) (LX := LX) (E := [(9, [p2_s1441]), (51, [p2_s1467])]) (mi := 50) (cuts := [(2, [some (.inr (.inr (.inl 1))), some (.inl ((-2147483648), 2147483647, [])), some (.inl (0, 6, [])), none], ([], [], []), 100, .inl 2, true), (20, [some (.inr (.inr (.inl 1))), some (.inl ((-2147483648), 2147483647, [])), some (.inl (0, 5, [(100, 0)])), some (.inl (1, 6, []))], ([], [], []), 300, .inl 3, true)]) (f := 200) (S := p2_s1476) (lx := none) (XF := []) ⟨p2_nmu, ck_E1 (ck_S1 p2_s1441_s ck_S0) (ck_E1 (ck_S1 p2_s1467_s ck_S0) ck_E0)⟩ ck_X0 ck_l0 (by decide +kernel)
set_option maxRecDepth 100000 in
/-- java/lang/Integer.bitCount -/
noncomputable def p2_s1477 : ck_Sum := ((0, 0, 0), 245, [.inl ((-2147483648), 2147483647, [])], ([], [], []), ([], []), [(.inr (some (.inl (0, 63, []))), 245, ([], [], []))])
set_option maxRecDepth 100000 in
theorem p2_s1477_s {X : Int → Int} {LX : Nat} : ck_Ok p2_O X LX 49 p2_s1477 := ck_ok_s (O := p2_O) (X := X) (LX := LX) (E := []) (mi := 49) (cuts := []) (f := 154) (S := p2_s1477) (lx := none) (XF := []) ⟨p2_nmu, ck_E0⟩ ck_X0 ck_l0 (by decide +kernel)
set_option maxRecDepth 100000 in
/-- GlacierMail.poles -/
noncomputable def p2_s1478 : ck_Sum := ((3, 0, 0), 245, [.inr (.inr (.inl 1))], ([], [], []), ([], []), [(.inr (some (.inl ((-1), 2147483646, []))), 245, ([], [], []))])
set_option maxRecDepth 100000 in
theorem p2_s1478_s {X : Int → Int} {LX : Nat} : ck_Ok p2_O X LX 48 p2_s1478 := ck_ok_s (O := p2_O) (X := X) (LX := LX) (E := [(50, [p2_s1476]), (49, [p2_s1477])]) (mi := 48) (cuts := [(4, [some (.inr (.inr (.inl 1))), some (.inl ((-1), 2147483646, [])), some (.inl (0, 2147483647, [])), none], ([], [], []), 100, .inl 2, true)]) (f := 206) (S := p2_s1478) (lx := none) (XF := []) ⟨p2_nmu, ck_E1 (ck_S1 p2_s1476_s ck_S0) (ck_E1 (ck_S1 p2_s1477_s ck_S0) ck_E0)⟩ ck_X0 ck_l0 (by decide +kernel)
set_option maxRecDepth 100000 in
/-- GlacierMailModel.poles -/
noncomputable def p2_s1479 : ck_Sum := ((2, 0, 0), 245, [.inr (.inr (.inl 226))], ([], [], [(227, 6, 6, (0, 6, [(24, 0)]))]), ([(226, 0, 0)], []), [(.inr (some (.inl ((-1), 2147483646, []))), 245, ([], [], [(226, 0, 0, ck_one 0)]))])
set_option maxRecDepth 100000 in
theorem p2_s1479_s {X : Int → Int} {LX : Nat} : ck_Ok p2_O X LX 347 p2_s1479 := ck_ok_s (O := p2_O) (X := X) (LX := LX) (E := [(261, [p2_s166]), (49, [p2_s1477]), (345, [p2_s1474])]) (mi := 347) (cuts := [(9, [some (.inr (.inr (.inl 226))), some (.inl ((-1), 2147483646, [])), some (.inl (0, 2147483647, [])), none, none, none], ([], [], [(226, 0, 0, ck_one 0), (227, 6, 6, (0, 6, [(24, 0)]))]), 100, .inl 2, true), (43, [some (.inr (.inr (.inl 226))), some (.inl ((-1), 2147483646, [])), some (.inl (0, 2147483646, [(100, 0)])), some (.inl (0, 1, [])), some (.inl (0, 6, [])), none], ([], [], [(226, 0, 0, ck_one 0), (227, 6, 6, (0, 6, [(24, 0)]))]), 300, .inl 4, true), (58, [some (.inr (.inr (.inl 226))), some (.inl ((-1), 2147483646, [])), some (.inl (0, 2147483646, [(100, 0)])), some (.inl (0, 1, [])), some (.inl (0, 5, [(300, 0)])), some (.inl (0, 5, []))], ([], [], [(227, 6, 6, (1, 6, [(24, 0)])), (226, 0, 0, ck_one 0)]), 500, .inl 5, true)]) (f := 282) (S := p2_s1479) (lx := none) (XF := []) ⟨p2_nmu, ck_E1 (ck_S1 p2_s166_s ck_S0) (ck_E1 (ck_S1 p2_s1477_s ck_S0) (ck_E1 (ck_S1 p2_s1474_s ck_S0) ck_E0))⟩ ck_X0 ck_l0 (by decide +kernel)
set_option maxRecDepth 100000 in
/-- GlacierMail.areReadings -/
noncomputable def p2_s1480 : ck_Sum := ((0, 0, 0), 245, [.inr (.inr (.inl 1)), .inl (0, 400, [])], ([], [], []), ([], []), [(.inr (some (.inl (ck_one 0))), 245, ([], [], [])), (.inr (some (.inl (ck_one 1))), 245, ([], [], []))])
set_option maxRecDepth 100000 in
theorem p2_s1480_s {X : Int → Int} {LX : Nat} : ck_Ok p2_O X LX 198 p2_s1480 := ck_ok_s (O := p2_O) (X := X) (LX := LX) (E := []) (mi := 198) (cuts := [(10, [some (.inr (.inr (.inl 1))), some (.inl (0, 400, [])), some (.inl (0, 400, [])), none, none], ([], [], []), 100, .inl 2, true)]) (f := 302) (S := p2_s1480) (lx := none) (XF := []) ⟨p2_nmu, ck_E0⟩ ck_X0 ck_l0 (by decide +kernel)
set_option maxRecDepth 100000 in
/-- GlacierMail.fitsReadings -/
noncomputable def p2_s1481 : ck_Sum := ((1, 0, 0), 245, [.inr (.inr (.inl 1)), .inl (0, 5, []), .inl (0, 400, [])], ([], [], []), ([], []), [(.inr (some (.inl (ck_one 1))), 245, ([], [], [])), (.inr (some (.inl (ck_one 0))), 245, ([], [], []))])
set_option maxRecDepth 100000 in
theorem p2_s1481_s {X : Int → Int} {LX : Nat} : ck_Ok p2_O X LX 199 p2_s1481 := ck_ok_s (O := p2_O) (X := X) (LX := LX) (E := [(10, [p2_s1452])]) (mi := 199) (cuts := [(2, [some (.inr (.inr (.inl 1))), some (.inl (0, 5, [])), some (.inl (0, 400, [])), some (.inl (0, 400, []))], ([], [], []), 100, .inl 3, true)]) (f := 214) (S := p2_s1481) (lx := none) (XF := []) ⟨p2_nmu, ck_E1 (ck_S1 p2_s1452_s ck_S0) ck_E0⟩ ck_X0 ck_l0 (by decide +kernel)
set_option maxRecDepth 100000 in
/-- GlacierMail.fit -/
noncomputable def p2_s1482 : ck_Sum := ((6, 1, 6), 245, [.inr (.inr (.inl 1))], ([], [], [(1, 1, 1, (0, 400, [(6, 0)]))]), ([(1, 1, 1)], []), [(.inl 0, 245, ([], [], [(1, 1, 1, ck_one 0)])), (.inr (some (.inl ((-2147483648), 2147483647, []))), 245, ([], [], [(1, 1, 1, ck_one 0)]))])
set_option maxRecDepth 100000 in
theorem p2_s1482_s {X : Int → Int} {LX : Nat} : ck_Ok p2_O X LX 197 p2_s1482 := ck_ok_s (O := p2_O) (X := X) (LX := LX) (E := [(198, [p2_s1480]), (9, [p2_s1441]), (199, [p2_s1481])]) (mi := 197) (cuts := [(33, [some (.inr (.inr (.inl 1))), some (.inl (0, 400, [(6, 0)])), some (.inl ((-2147483648), 2147483647, [])), some (.inl (0, 6, []))], ([], [], [(1, 1, 1, ck_one 0)]), 100, .inl 3, true)]) (f := 170) (S := p2_s1482) (lx := none) (XF := []) ⟨p2_nmu, ck_E1 (ck_S1 p2_s1480_s ck_S0) (ck_E1 (ck_S1 p2_s1441_s ck_S0) (ck_E1 (ck_S1 p2_s1481_s ck_S0) ck_E0))⟩ ck_X0 ck_l0 (by decide +kernel)
set_option maxRecDepth 100000 in
/-- GlacierMailModel.in -/
noncomputable def p2_s1483 : ck_Sum := ((0, 0, 0), 245, [.inl ((-128), 127, []), .inl (ck_one 0), .inl ((-1), 5, [])], ([], [], []), ([], []), [(.inr (some (.inl (ck_one 0))), 245, ([], [], [])), (.inr (some (.inl (ck_one 1))), 245, ([], [], []))])
set_option maxRecDepth 100000 in
theorem p2_s1483_s {X : Int → Int} {LX : Nat} : ck_Ok p2_O X LX 286 p2_s1483 := ck_ok_s (O := p2_O) (X := X) (LX := LX) (E := []) (mi := 286) (cuts := []) (f := 88) (S := p2_s1483) (lx := none) (XF := []) ⟨p2_nmu, ck_E0⟩ ck_X0 ck_l0 (by decide +kernel)
set_option maxRecDepth 100000 in
/-- GlacierMailModel.noLane -/
noncomputable def p2_s1484 : ck_Sum := ((1, 0, 0), 245, [.inr (.inr (.inl 226)), .inl ((-128), 127, [])], ([], [], []), ([], []), [(.inr (some (.inl (ck_one 1))), 245, ([], [], [])), (.inr (some (.inl (ck_one 0))), 245, ([], [], []))])
set_option maxRecDepth 100000 in
theorem p2_s1484_s {X : Int → Int} {LX : Nat} : ck_Ok p2_O X LX 288 p2_s1484 := ck_ok_s (O := p2_O) (X := X) (LX := LX) (E := [(261, [p2_s166]), (286, [p2_s1483])]) (mi := 288) (cuts := []) (f := 92) (S := p2_s1484) (lx := none) (XF := []) ⟨p2_nmu, ck_E1 (ck_S1 p2_s166_s ck_S0) (ck_E1 (ck_S1 p2_s1483_s ck_S0) ck_E0)⟩ ck_X0 ck_l0 (by decide +kernel)
set_option maxRecDepth 100000 in
/-- GlacierMailModel.in -/
noncomputable def p2_s1485 : ck_Sum := ((0, 0, 0), 245, [.inl ((-128), 127, []), .inl (ck_one 0), .inl (ck_one 20)], ([], [], []), ([], []), [(.inr (some (.inl (ck_one 0))), 245, ([], [], [])), (.inr (some (.inl (ck_one 1))), 245, ([], [], []))])
set_option maxRecDepth 100000 in
theorem p2_s1485_s {X : Int → Int} {LX : Nat} : ck_Ok p2_O X LX 286 p2_s1485 := ck_ok_s (O := p2_O) (X := X) (LX := LX) (E := []) (mi := 286) (cuts := []) (f := 88) (S := p2_s1485) (lx := none) (XF := []) ⟨p2_nmu, ck_E0⟩ ck_X0 ck_l0 (by decide +kernel)
set_option maxRecDepth 100000 in
/-- GlacierMailModel.ofTable -/
noncomputable def p2_s1486 : ck_Sum := ((0, 0, 0), 245, [.inr (.inr (.inl 226)), .inl (0, 5, []), .inl ((-128), 127, [])], ([], [], []), ([], []), [(.inr (some (.inl ((-1), 999, []))), 245, ([], [], []))])
set_option maxRecDepth 100000 in
theorem p2_s1486_s {X : Int → Int} {LX : Nat} : ck_Ok p2_O X LX 343 p2_s1486 := ck_ok_s (O := p2_O) (X := X) (LX := LX) (E := []) (mi := 343) (cuts := []) (f := 92) (S := p2_s1486) (lx := none) (XF := []) ⟨p2_nmu, ck_E0⟩ ck_X0 ck_l0 (by decide +kernel)
set_option maxRecDepth 100000 in
/-- GlacierMailModel.fit -/
noncomputable def p2_s1487 : ck_Sum := ((2, 0, 0), 245, [.inr (.inr (.inl 226))], ([], [], [(227, 6, 6, (0, 6, [(24, 0)])), (226, 9, 9, (0, 400, [(1, 0)])), (226, 8, 8, (0, 400, [(7, 0)]))]), ([(226, 0, 0), (226, 8, 10)], []), [(.inr (some (.inl (ck_one 0))), 245, ([], [], [(226, 0, 0, ck_one 1), (226, 9, 9, ck_one 0), (226, 8, 8, ck_one 0), (226, 10, 10, (0, 400, [(7, 0)]))])), (.inr (some (.inl ((-2147483648), 2147483647, []))), 245, ([], [], [(226, 10, 10, (0, 400, [(7, 0)])), (226, 9, 9, ck_one 0), (226, 8, 8, ck_one 0), (226, 0, 0, ck_one 0)]))])
noncomputable def p2_s1487_E : List (Nat × List ck_Sum) := [(244, [p2_s146]), (282, [p2_s242, p2_s241]), (288, [p2_s1484]), (286, [p2_s1485]), (343, [p2_s1486])]
/-! fit's two loops, one within the other, by hand: the outer over the tables, the inner over the stores' pairs. -/
noncomputable def ft_F : ck_F := ([], [], [(226, 10, 10, (0, 400, [(7, 0)])), (226, 9, 9, ck_one 0), (226, 8, 8, ck_one 0), (226, 0, 0, ck_one 0), (227, 6, 6, (0, 6, [(24, 0)]))])
noncomputable def ft_A (t : ck_I) (k : Option ck_A) : ck_AL := [some (.inr (.inr (.inl 226))), some (.inl (ck_one 1)), some (.inl ((-2147483648), 2147483647, [])), some (.inl t), k]
noncomputable def ft_21 : Nat × ck_C := (21, [some (.inr (.inr (.inl 226))), some (.inl (0, 1, [])), some (.inl (0, 400, [])), none, none], ([], [], [(226, 9, 9, ck_one 0), (226, 8, 8, ck_one 0), (226, 10, 10, (0, 400, [(7, 0)])), (226, 0, 0, ck_one 0), (227, 6, 6, (0, 6, [(24, 0)]))]), 100, .inl 2, true)
noncomputable def ft_C0 : ck_C := (ft_A (ck_one 0) none, ft_F, 0, .inl 3, true)
noncomputable def ft_Ck : ck_C := (ft_A (0, 5, [(300, 0)]) (some (.inl (ck_one 0))), ft_F, 0, .inl 4, true)
noncomputable def ft_Cn : ck_C := (ft_A (0, 5, [(300, 0)]) (some (.inl (2, 400, [(301, 2)]))), ft_F, 0, .inl 4, true)
noncomputable def ft_Ct : ck_C := (ft_A (1, 6, [(300, 1)]) none, ft_F, 0, .inl 3, true)
set_option maxRecDepth 100000 in
theorem ft_a : (decide (p2_s1487.2.2.1.length ≤ gm_ml 348) && ck_go p2_O none [] p2_s1487_E 348 p2_s1487.1.1 p2_s1487.2.1 p2_s1487.2.2.2.2.1 p2_s1487.2.2.2.2.2 [ft_21, (110, ft_C0)] 600 false [(110, ft_C0, 0, 0, 245)] p2_s1487.1.2.1 p2_s1487.1.2.2 0 (p2_s1487.2.2.1.map some ++ List.replicate (gm_ml 348 - p2_s1487.2.2.1.length) none) [] p2_s1487.2.1 p2_s1487.2.2.2.1) = true := by decide +kernel
set_option maxRecDepth 100000 in
theorem ft_b : ck_go p2_O none [] p2_s1487_E 348 2 245 p2_s1487.2.2.2.2.1 p2_s1487.2.2.2.2.2 [(124, ft_Ck)] 100 true [(124, ft_Ck, 0, 0, 245)] 0 0 110 (ft_A (0, 6, [(300, 0)]) none) [] 245 ft_F = true := by decide +kernel
set_option maxRecDepth 100000 in
theorem ft_c : ck_go p2_O none [] p2_s1487_E 348 2 245 p2_s1487.2.2.2.2.1 p2_s1487.2.2.2.2.2 [(124, ft_Cn)] 100 true [(124, ft_Cn, 0, 0, 245)] 0 0 133 (ft_A (0, 5, [(300, 0)]) (some (.inl (0, 398, [(301, 0)])))) [] 245 ft_F = true := by decide +kernel
set_option maxRecDepth 100000 in
theorem ft_d : ck_go p2_O none [] p2_s1487_E 348 2 245 p2_s1487.2.2.2.2.1 p2_s1487.2.2.2.2.2 [(110, ft_Ct)] 100 true [(110, ft_Ct, 0, 0, 245)] 0 0 171 (ft_A (0, 5, [(300, 0)]) none) [] 245 ft_F = true := by decide +kernel
/-- the locals -/
noncomputable def ft_P (σ : Nat → Int) (a : ck_I) (L : gm_L) (x : Int) : Prop := L.length = 5 ∧ L[0]? = some (some (gm_vr 226)) ∧ L[1]? = some (some (gm_vi 1)) ∧ (∃ y, L[2]? = some (some (gm_vi y)) ∧ gm_ir y) ∧ L[3]? = some (some (gm_vi x)) ∧ gm_ir x ∧ ck_gi σ a x
theorem ft_mk {σ : Nat → Int} {a : ck_I} {L : gm_L} {x : Int} {k : Option ck_A} (h : ft_P σ a L x) (h4 : ∀ b, k = some b → ∃ u, L[4]? = some (some u) ∧ ck_ga σ b u) : ck_gl σ (ft_A a k) L := by
  obtain ⟨hl, h0, h1, ⟨y, h2, r2⟩, h3, r3, g3⟩ := h
  have r21 : -2147483648 ≤ y := r2.1
  have r22 : y < 2147483648 := r2.2
  refine ⟨by rw [hl]; rfl, fun j b hb => ?_⟩
  rcases j with _ | _ | _ | _ | _ | j
  · have hb : some (some (.inr (.inr (.inl 226)))) = some (some b) := hb
    cases hb
    exact ⟨_, h0, rfl⟩
  · have hb : some (some (.inl (ck_one 1))) = some (some b) := hb
    cases hb
    exact ⟨_, h1, 1, rfl, ⟨by decide, by decide⟩, Int.le_refl _, Int.le_refl _, fun q hq => nomatch hq⟩
  · have hb : some (some (.inl ((-2147483648), 2147483647, []))) = some (some b) := hb
    cases hb
    exact ⟨_, h2, y, rfl, r2, r21, by show y ≤ 2147483647; omega, fun q hq => nomatch hq⟩
  · have hb : some (some (.inl a)) = some (some b) := hb
    cases hb
    exact ⟨_, h3, x, rfl, r3, g3⟩
  · have hb : some k = some (some b) := hb
    injection hb with hb
    exact h4 b hb
  · have hb : none = some (some b) := hb
    cases hb
theorem ft_un {σ : Nat → Int} {a : ck_I} {L : gm_L} {k : Option ck_A} (h : ck_gl σ (ft_A a k) L) : ∃ x, ft_P σ a L x := by
  have hl : 5 = L.length := h.1
  obtain ⟨u0, l0, g0⟩ := h.2 0 (.inr (.inr (.inl 226))) rfl
  cases g0
  obtain ⟨u1, l1, x1, rfl, -, e1, e2, -⟩ := h.2 1 (.inl (ck_one 1)) rfl
  have e1 : 1 ≤ x1 := e1
  have e2 : x1 ≤ 1 := e2
  have e3 : x1 = 1 := by omega
  subst e3
  obtain ⟨u2, l2, x2, rfl, r2, -⟩ := h.2 2 (.inl ((-2147483648), 2147483647, [])) rfl
  obtain ⟨u3, l3, x3, rfl, r3, g3⟩ := h.2 3 (.inl a) rfl
  exact ⟨x3, hl.symm, l0, l1, ⟨x2, l2, r2⟩, l3, r3, g3⟩
theorem ft_gi {σ : Nat → Int} {a b x z : Int} {q : Nat} (ha : a ≤ x) (hb : x ≤ b) (hq : q < 1000000) (hx : x = σ q + z) : ck_gi σ (a, b, [(q, z)]) x := by
  refine ⟨ha, hb, fun p hp => ?_⟩
  rw [List.mem_singleton.mp hp]
  exact ⟨fun _ => hx, fun h => absurd h (by show ¬ 1000000 ≤ q; omega)⟩
theorem ft_u1 {σ : Nat → Int} {s : Nat} {v : Int} : ck_us σ s v s = v := if_pos rfl
theorem ft_u2 {σ : Nat → Int} {s q : Nat} {v : Int} (h : ¬ q = s) : ck_us σ s v q = σ q := if_neg h
section FT
variable {X : Int → Int} {LX : Nat}
theorem p2_s1487_s : ck_Ok p2_O X LX 348 p2_s1487 := by
  have hE : ck_nmu p2_O ∧ ck_OkE p2_O X LX p2_s1487_E := ⟨p2_nmu, ck_E1 (ck_S1 p2_s146_s ck_S0) (ck_E1 (ck_S1 p2_s242_s (ck_S1 p2_s241_s ck_S0)) (ck_E1 (ck_S1 p2_s1484_s ck_S0) (ck_E1 (ck_S1 p2_s1485_s ck_S0) (ck_E1 (ck_S1 p2_s1486_s ck_S0) ck_E0))))⟩
  refine ck_ok_st (cuts := [ft_21, (110, ft_C0)]) (by decide +kernel) hE ft_a (fun h hm => ?_)
  rw [List.mem_singleton.mp hm]
  refine ⟨List.mem_cons_of_mem _ (List.mem_singleton.mpr rfl), fun σ K0 R0 M0 => ?_⟩
  have step : ∀ (t : Int) (L : gm_L) (K : gm_K) (R : gm_R) (M : gm_M), 0 ≤ t → t ≤ 6 → ft_P σ (0, 6, []) L t → gm_Fx p2_O 245 K R M → ck_gf σ ft_F 245 K R M → ck_fr p2_s1487.2.2.2.2.1 245 K0 R0 M0 245 K R M → (t ≤ 5 → ∀ (L : gm_L) (K : gm_K) (R : gm_R) (M : gm_M), ft_P σ (0, 6, []) L (t + 1) → gm_Fx p2_O 245 K R M → ck_gf σ ft_F 245 K R M → ck_fr p2_s1487.2.2.2.2.1 245 K0 R0 M0 245 K R M → gm_Wp X LX 2 0 0 348 110 L [] 245 K R M (ck_Q p2_O σ p2_s1487.2.2.2.2.1 245 K0 R0 M0 p2_s1487.2.2.2.2.2)) → gm_Wp X LX 2 0 0 348 110 L [] 245 K R M (ck_Q p2_O σ p2_s1487.2.2.2.2.1 245 K0 R0 M0 p2_s1487.2.2.2.2.2) := by
    intro t L K R M t0 t6 hP hF hf hfr H
    have s1 : ∀ s, s < 100 → ck_us σ 300 t s = σ s := fun s hs => ft_u2 (by omega)
    have istep : ∀ (k : Int) (L : gm_L) (K : gm_K) (R : gm_R) (M : gm_M), (∃ m : Nat, k = 2 * (m : Int)) → k ≤ 400 → ft_P (ck_us σ 300 t) (0, 5, [(300, 0)]) L t → L[4]? = some (some (gm_vi k)) → gm_Fx p2_O 245 K R M → ck_gf σ ft_F 245 K R M → ck_fr p2_s1487.2.2.2.2.1 245 K0 R0 M0 245 K R M → (k + 2 ≤ 400 → ∀ (L : gm_L) (K : gm_K) (R : gm_R) (M : gm_M), ft_P (ck_us σ 300 t) (0, 5, [(300, 0)]) L t → L[4]? = some (some (gm_vi (k + 2))) → gm_Fx p2_O 245 K R M → ck_gf σ ft_F 245 K R M → ck_fr p2_s1487.2.2.2.2.1 245 K0 R0 M0 245 K R M → gm_Wp X LX 2 0 0 348 124 L [] 245 K R M (ck_Q p2_O σ p2_s1487.2.2.2.2.1 245 K0 R0 M0 p2_s1487.2.2.2.2.2)) → gm_Wp X LX 2 0 0 348 124 L [] 245 K R M (ck_Q p2_O σ p2_s1487.2.2.2.2.1 245 K0 R0 M0 p2_s1487.2.2.2.2.2) := by
      intro k L K R M hm hk hP h4 hF hf hfr HI
      obtain ⟨m, hm⟩ := hm
      have t5 : t ≤ 5 := hP.2.2.2.2.2.2.2.1
      obtain ⟨e1, e2⟩ := (hf.2.2 (226, 10, 10, (0, 400, [(7, 0)])) (List.mem_cons_self ..)).2 10 (Int.le_refl _) (Int.le_refl _)
      have e3 : (0 : Int) ≤ M 226 10 := e2.1
      have e4 : M 226 10 ≤ (400 : Int) := e2.2.1
      refine gm_sz (gm_p_load (pc := 124) (i := .iload 4) (sr := 0) (j := 4) (by decide +kernel) rfl h4 rfl) ?_
      refine gm_sz (gm_p_load (pc := 126) (i := .aload_n 0) (sr := 2) (j := 0) (by decide +kernel) rfl hP.2.1 rfl) ?_
      refine gm_sz (gm_p_get (pc := 127) (ix := 109) (ci := 11) (j := 10) (by decide +kernel) (md_mo hF).1 (md_mo hF).2 (by decide +kernel)) ?_
      rw [if_neg (show ¬ gm_isr 11 10 = true by decide +kernel)]
      have e5 : M 226 ((10 : Nat) : Int) = M 226 10 := rfl
      refine gm_b_ic (cc := .ge) (pc := 130) (off := 41) (by decide +kernel) (by decide) (fun _ => ?_) (fun hp => ?_)
      · refine ck_go_s (σ0 := σ) (cuts := [(110, ft_Ct)]) (by decide +kernel) hE ck_X0 ck_l0 100 true [(110, ft_Ct, 0, 0, 245)] 0 0 171 (ft_A (0, 5, [(300, 0)]) none) [] 245 ft_F (ck_us σ 300 t) L [] K R M s1 (fun h hm => ?_) ⟨hF, ft_mk hP (fun b hb => nomatch hb), rfl, (ck_nF_s (by decide +kernel)).mpr hf, hfr⟩ ft_d
        rw [List.mem_singleton.mp hm]
        refine ⟨List.mem_singleton.mpr rfl, fun v _ bc bs L1 K1 R1 M1 _ _ hS _ => ?_⟩
        refine gm_Wp_wk (Nat.le_refl _) (Nat.zero_le _) (Nat.zero_le _) ?_
        obtain ⟨hF1, hl1, _, hf1, hfr1⟩ := hS
        have hl1 : ck_gl (ck_us σ 300 t) (ft_A (1, 6, [(300, 1)]) none) L1 := hl1
        have hf1 : ck_gf (ck_us σ 300 t) ft_F 245 K1 R1 M1 := hf1
        obtain ⟨x1, p1, p2, p3, p4, p5, p6, p7⟩ := ft_un hl1
        have x1t : x1 = t + 1 := by
          have := (p7.2.2 (300, 1) (List.mem_singleton.mpr rfl)).1 (by decide)
          have : x1 = ck_us σ 300 t 300 + 1 := this
          rw [ft_u1] at this
          exact this
        rw [x1t] at p5 p6
        exact H t5 L1 K1 R1 M1 ⟨p1, p2, p3, p4, p5, p6, by show (0 : Int) ≤ t + 1; omega, by show t + 1 ≤ (6 : Int); omega, fun q hq => nomatch hq⟩ hF1 ((ck_nF_s (by decide +kernel)).mp hf1) hfr1
      · rw [gm_cm_w ⟨by omega, by omega⟩ ⟨by omega, by omega⟩] at hp
        have hp : ¬ M 226 10 ≤ k := hp
        have k8 : k ≤ 398 := by omega
        have u3 : ck_us (ck_us σ 300 t) 301 k 300 = t := by rw [ft_u2 (by decide), ft_u1]
        have s2 : ∀ s, s < 100 → ck_us (ck_us σ 300 t) 301 k s = σ s := fun s hs => by rw [ft_u2 (by omega), ft_u2 (by omega)]
        obtain ⟨p1, p2, p3, p4, p5, p6, p7⟩ := hP
        refine ck_go_s (σ0 := σ) (cuts := [(124, ft_Cn)]) (by decide +kernel) hE ck_X0 ck_l0 100 true [(124, ft_Cn, 0, 0, 245)] 0 0 133 (ft_A (0, 5, [(300, 0)]) (some (.inl (0, 398, [(301, 0)])))) [] 245 ft_F (ck_us (ck_us σ 300 t) 301 k) L [] K R M s2 (fun h hm => ?_) ⟨hF, ft_mk ⟨p1, p2, p3, p4, p5, p6, ft_gi t0 t5 (by decide) (by rw [u3]; omega)⟩ (fun b hb => ?_), rfl, (ck_nF_s (by decide +kernel)).mpr ((ck_nF_s (by decide +kernel)).mpr hf), hfr⟩ ft_c
        · rw [List.mem_singleton.mp hm]
          refine ⟨List.mem_singleton.mpr rfl, fun v _ bc bs L1 K1 R1 M1 _ _ hS _ => ?_⟩
          refine gm_Wp_wk (Nat.le_refl _) (Nat.zero_le _) (Nat.zero_le _) ?_
          obtain ⟨hF1, hl1, _, hf1, hfr1⟩ := hS
          have hl1 : ck_gl (ck_us (ck_us σ 300 t) 301 k) (ft_A (0, 5, [(300, 0)]) (some (.inl (2, 400, [(301, 2)])))) L1 := hl1
          have hf1 : ck_gf (ck_us (ck_us σ 300 t) 301 k) ft_F 245 K1 R1 M1 := hf1
          obtain ⟨x1, p1, p2, p3, p4, p5, p6, p7⟩ := ft_un hl1
          have x1t : x1 = t := by
            have := (p7.2.2 (300, 0) (List.mem_singleton.mpr rfl)).1 (by decide)
            have : x1 = ck_us (ck_us σ 300 t) 301 k 300 + 0 := this
            rw [u3] at this
            omega
          rw [x1t] at p5 p6
          obtain ⟨u4, l4, x4, rfl, -, g4⟩ := hl1.2 4 (.inl (2, 400, [(301, 2)])) rfl
          have x4k : x4 = k + 2 := by
            have := (g4.2.2 (301, 2) (List.mem_singleton.mpr rfl)).1 (by decide)
            have : x4 = ck_us (ck_us σ 300 t) 301 k 301 + 2 := this
            rw [ft_u1] at this
            exact this
          rw [x4k] at l4
          exact HI (by omega) L1 K1 R1 M1 ⟨p1, p2, p3, p4, p5, p6, ft_gi t0 t5 (by decide) (by rw [ft_u1]; omega)⟩ l4 hF1 ((ck_nF_s (by decide +kernel)).mp ((ck_nF_s (by decide +kernel)).mp hf1)) hfr1
        · cases hb
          exact ⟨_, h4, k, rfl, ⟨by omega, by omega⟩, ft_gi (by omega) k8 (by decide) (by rw [ft_u1]; omega)⟩
    have inner : ∀ (i : Nat) (k : Int) (L : gm_L) (K : gm_K) (R : gm_R) (M : gm_M), (∃ m : Nat, k = 2 * (m : Int)) → k ≤ 400 → 400 - k ≤ 2 * (i : Int) → ft_P (ck_us σ 300 t) (0, 5, [(300, 0)]) L t → L[4]? = some (some (gm_vi k)) → gm_Fx p2_O 245 K R M → ck_gf σ ft_F 245 K R M → ck_fr p2_s1487.2.2.2.2.1 245 K0 R0 M0 245 K R M → gm_Wp X LX 2 0 0 348 124 L [] 245 K R M (ck_Q p2_O σ p2_s1487.2.2.2.2.1 245 K0 R0 M0 p2_s1487.2.2.2.2.2) := by
      intro i
      induction i with
      | zero =>
        intro k L K R M hm hk hi hP h4 hF hf hfr
        exact istep k L K R M hm hk hP h4 hF hf hfr (fun h => absurd h (by omega))
      | succ i ih =>
        intro k L K R M hm hk hi hP h4 hF hf hfr
        refine istep k L K R M hm hk hP h4 hF hf hfr (fun h L1 K1 R1 M1 hP1 h41 hF1 hf1 hfr1 => ih (k + 2) L1 K1 R1 M1 ?_ h (by omega) hP1 h41 hF1 hf1 hfr1)
        obtain ⟨m, hm⟩ := hm
        exact ⟨m + 1, by omega⟩
    refine ck_go_s (σ0 := σ) (cuts := [(124, ft_Ck)]) (by decide +kernel) hE ck_X0 ck_l0 100 true [(124, ft_Ck, 0, 0, 245)] 0 0 110 (ft_A (0, 6, [(300, 0)]) none) [] 245 ft_F (ck_us σ 300 t) L [] K R M s1 (fun h hm => ?_) ⟨hF, ft_mk ⟨hP.1, hP.2.1, hP.2.2.1, hP.2.2.2.1, hP.2.2.2.2.1, hP.2.2.2.2.2.1, ft_gi t0 t6 (by decide) (by rw [ft_u1]; omega)⟩ (fun b hb => nomatch hb), rfl, (ck_nF_s (by decide +kernel)).mpr hf, hfr⟩ ft_b
    rw [List.mem_singleton.mp hm]
    refine ⟨List.mem_singleton.mpr rfl, fun v _ bc bs L1 K1 R1 M1 _ _ hS _ => ?_⟩
    refine gm_Wp_wk (Nat.le_refl _) (Nat.zero_le _) (Nat.zero_le _) ?_
    obtain ⟨hF1, hl1, _, hf1, hfr1⟩ := hS
    have hl1 : ck_gl (ck_us σ 300 t) (ft_A (0, 5, [(300, 0)]) (some (.inl (ck_one 0)))) L1 := hl1
    have hf1 : ck_gf (ck_us σ 300 t) ft_F 245 K1 R1 M1 := hf1
    obtain ⟨x1, hP1⟩ := ft_un hl1
    have x1t : x1 = t := by
      have := (hP1.2.2.2.2.2.2.2.2 (300, 0) (List.mem_singleton.mpr rfl)).1 (by decide)
      have : x1 = ck_us σ 300 t 300 + 0 := this
      rw [ft_u1] at this
      omega
    rw [x1t] at hP1
    obtain ⟨u4, l4, x4, rfl, -, e1, e2, -⟩ := hl1.2 4 (.inl (ck_one 0)) rfl
    have e1 : 0 ≤ x4 := e1
    have e2 : x4 ≤ 0 := e2
    have e3 : x4 = 0 := by omega
    rw [e3] at l4
    exact inner 200 0 L1 K1 R1 M1 ⟨0, rfl⟩ (by decide) (by decide) hP1 l4 hF1 ((ck_nF_s (by decide +kernel)).mp hf1) hfr1
  have outer : ∀ (j : Nat) (t : Int) (L : gm_L) (K : gm_K) (R : gm_R) (M : gm_M), 0 ≤ t → t ≤ 6 → 6 - t ≤ (j : Int) → ft_P σ (0, 6, []) L t → gm_Fx p2_O 245 K R M → ck_gf σ ft_F 245 K R M → ck_fr p2_s1487.2.2.2.2.1 245 K0 R0 M0 245 K R M → gm_Wp X LX 2 0 0 348 110 L [] 245 K R M (ck_Q p2_O σ p2_s1487.2.2.2.2.1 245 K0 R0 M0 p2_s1487.2.2.2.2.2) := by
    intro j
    induction j with
    | zero =>
      intro t L K R M t0 t6 tj hP hF hf hfr
      exact step t L K R M t0 t6 hP hF hf hfr (fun h => absurd h (by omega))
    | succ j ih =>
      intro t L K R M t0 t6 tj hP hF hf hfr
      exact step t L K R M t0 t6 hP hF hf hfr (fun h L1 K1 R1 M1 hP1 hF1 hf1 hfr1 => ih (t + 1) L1 K1 R1 M1 (by omega) (by omega) (by omega) hP1 hF1 hf1 hfr1)
  intro v _ bc bs L K R M _ _ hS _
  refine gm_Wp_wk (Nat.le_refl _) (Nat.zero_le _) (Nat.zero_le _) ?_
  obtain ⟨hF, hl, _, hf, hfr⟩ := hS
  have hl : ck_gl σ (ft_A (ck_one 0) none) L := hl
  have hf : ck_gf σ ft_F 245 K R M := hf
  obtain ⟨x, p1, p2, p3, p4, p5, p6, p7, p8, p9⟩ := ft_un hl
  have p7 : 0 ≤ x := p7
  have p8 : x ≤ 0 := p8
  exact outer 6 x L K R M p7 (by omega) (by omega) ⟨p1, p2, p3, p4, p5, p6, p7, by show x ≤ 6; omega, fun q hq => nomatch hq⟩ hF hf hfr
end FT
