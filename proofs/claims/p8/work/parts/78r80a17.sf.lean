/-! EVERY CALL ENDS, whatever was done before (laid by wip/am/p2k.py). -/
set_option maxRecDepth 100000 in
/-- GlacierMailModel.throwsFor -/
noncomputable def p2_s1316 : ck_Sum := ((2, 0, 0), 245, [.inr (.inr (.inl 226)), .inl (6, 2147483647, []), .inl ((-2147483648), 2147483647, []), .inl ((-2147483648), 2147483647, []), .inl ((-2147483648), 2147483647, [])], ([], [], []), ([(226, 0, 0)], []), [(.inr (some (.inl (ck_one 0))), 245, ([], [], [(226, 0, 0, ck_one 1)]))])
set_option maxRecDepth 100000 in
theorem p2_s1316_s {X : Int → Int} {LX : Nat} : ck_Ok p2_O X LX 324 p2_s1316 := ck_ok_s (O := p2_O) (X := X) (LX := LX) (E := [(288, [p2_s287]), (282, [p2_s241])]) (mi := 324) (cuts := []) (f := 94) (S := p2_s1316) (lx := none) (XF := []) ⟨p2_nmu, ck_E1 (ck_S1 p2_s287_s ck_S0) (ck_E1 (ck_S1 p2_s241_s ck_S0) ck_E0)⟩ ck_X0 ck_l0 (by decide +kernel)
set_option maxRecDepth 100000 in
/-- GlacierMailModel.throwsFor -/
noncomputable def p2_s1317 : ck_Sum := ((2, 0, 0), 245, [.inr (.inr (.inl 226)), .inl (0, 5, []), .inl ((-2147483648), (-1), []), .inl ((-2147483648), 2147483647, []), .inl ((-2147483648), 2147483647, [])], ([], [], []), ([(226, 0, 0)], []), [(.inr (some (.inl (ck_one 0))), 245, ([], [], [(226, 0, 0, (1, 2, []))]))])
set_option maxRecDepth 100000 in
theorem p2_s1317_s {X : Int → Int} {LX : Nat} : ck_Ok p2_O X LX 324 p2_s1317 := ck_ok_s (O := p2_O) (X := X) (LX := LX) (E := [(288, [p2_s290]), (282, [p2_s241, p2_s242, p2_s244]), (285, [p2_s257])]) (mi := 324) (cuts := []) (f := 112) (S := p2_s1317) (lx := none) (XF := []) ⟨p2_nmu, ck_E1 (ck_S1 p2_s290_s ck_S0) (ck_E1 (ck_S1 p2_s241_s (ck_S1 p2_s242_s (ck_S1 p2_s244_s ck_S0))) (ck_E1 (ck_S1 p2_s257_s ck_S0) ck_E0))⟩ ck_X0 ck_l0 (by decide +kernel)
set_option maxRecDepth 100000 in
/-- GlacierMailModel.throwsFor -/
noncomputable def p2_s1318 : ck_Sum := ((2, 0, 0), 245, [.inr (.inr (.inl 226)), .inl (0, 5, []), .inl (300, 2147483647, []), .inl ((-2147483648), 2147483647, []), .inl ((-2147483648), 2147483647, [])], ([], [], []), ([(226, 0, 0)], []), [(.inr (some (.inl (ck_one 0))), 245, ([], [], [(226, 0, 0, (1, 2, []))]))])
set_option maxRecDepth 100000 in
theorem p2_s1318_s {X : Int → Int} {LX : Nat} : ck_Ok p2_O X LX 324 p2_s1318 := ck_ok_s (O := p2_O) (X := X) (LX := LX) (E := [(288, [p2_s290]), (282, [p2_s241, p2_s242, p2_s244]), (285, [p2_s260])]) (mi := 324) (cuts := []) (f := 112) (S := p2_s1318) (lx := none) (XF := []) ⟨p2_nmu, ck_E1 (ck_S1 p2_s290_s ck_S0) (ck_E1 (ck_S1 p2_s241_s (ck_S1 p2_s242_s (ck_S1 p2_s244_s ck_S0))) (ck_E1 (ck_S1 p2_s260_s ck_S0) ck_E0))⟩ ck_X0 ck_l0 (by decide +kernel)
set_option maxRecDepth 100000 in
/-- GlacierMailModel.throwsFor -/
noncomputable def p2_s1319 : ck_Sum := ((2, 0, 0), 245, [.inr (.inr (.inl 226)), .inl (0, 5, []), .inl (0, 299, []), .inl ((-2147483648), (-1), []), .inl ((-2147483648), 2147483647, [])], ([], [], []), ([(226, 0, 0)], []), [(.inr (some (.inl (ck_one 0))), 245, ([], [], [(226, 0, 0, (1, 2, []))]))])
set_option maxRecDepth 100000 in
theorem p2_s1319_s {X : Int → Int} {LX : Nat} : ck_Ok p2_O X LX 324 p2_s1319 := ck_ok_s (O := p2_O) (X := X) (LX := LX) (E := [(288, [p2_s290]), (282, [p2_s241, p2_s242, p2_s244]), (285, [p2_s263, p2_s257])]) (mi := 324) (cuts := []) (f := 118) (S := p2_s1319) (lx := none) (XF := []) ⟨p2_nmu, ck_E1 (ck_S1 p2_s290_s ck_S0) (ck_E1 (ck_S1 p2_s241_s (ck_S1 p2_s242_s (ck_S1 p2_s244_s ck_S0))) (ck_E1 (ck_S1 p2_s263_s (ck_S1 p2_s257_s ck_S0)) ck_E0))⟩ ck_X0 ck_l0 (by decide +kernel)
set_option maxRecDepth 100000 in
/-- GlacierMailModel.throwsFor -/
noncomputable def p2_s1320 : ck_Sum := ((2, 0, 0), 245, [.inr (.inr (.inl 226)), .inl (0, 5, []), .inl (0, 299, []), .inl (300, 2147483647, []), .inl ((-2147483648), 2147483647, [])], ([], [], []), ([(226, 0, 0)], []), [(.inr (some (.inl (ck_one 0))), 245, ([], [], [(226, 0, 0, (1, 2, []))]))])
set_option maxRecDepth 100000 in
theorem p2_s1320_s {X : Int → Int} {LX : Nat} : ck_Ok p2_O X LX 324 p2_s1320 := ck_ok_s (O := p2_O) (X := X) (LX := LX) (E := [(288, [p2_s290]), (282, [p2_s241, p2_s242, p2_s244]), (285, [p2_s263, p2_s260])]) (mi := 324) (cuts := []) (f := 118) (S := p2_s1320) (lx := none) (XF := []) ⟨p2_nmu, ck_E1 (ck_S1 p2_s290_s ck_S0) (ck_E1 (ck_S1 p2_s241_s (ck_S1 p2_s242_s (ck_S1 p2_s244_s ck_S0))) (ck_E1 (ck_S1 p2_s263_s (ck_S1 p2_s260_s ck_S0)) ck_E0))⟩ ck_X0 ck_l0 (by decide +kernel)
set_option maxRecDepth 100000 in
/-- GlacierMailModel.in -/
noncomputable def p2_s1321 : ck_Sum := ((0, 0, 0), 245, [.inl ((-2147483648), (-1), []), .inl (ck_one 0), .inl (ck_one 2)], ([], [], []), ([], []), [(.inr (some (.inl (ck_one 0))), 245, ([], [], []))])
set_option maxRecDepth 100000 in
theorem p2_s1321_s {X : Int → Int} {LX : Nat} : ck_Ok p2_O X LX 286 p2_s1321 := ck_ok_s (O := p2_O) (X := X) (LX := LX) (E := []) (mi := 286) (cuts := []) (f := 80) (S := p2_s1321) (lx := none) (XF := []) ⟨p2_nmu, ck_E0⟩ ck_X0 ck_l0 (by decide +kernel)
set_option maxRecDepth 100000 in
/-- GlacierMailModel.throwsFor -/
noncomputable def p2_s1322 : ck_Sum := ((2, 0, 0), 245, [.inr (.inr (.inl 226)), .inl (0, 5, []), .inl (0, 299, []), .inl (0, 299, []), .inl ((-2147483648), (-1), [])], ([], [], [(227, 9, 9, (0, 299, [(11, 0)]))]), ([(226, 0, 0)], []), [(.inr (some (.inl (ck_one 0))), 245, ([], [], [(226, 0, 0, (1, 3, []))]))])
set_option maxRecDepth 100000 in
theorem p2_s1322_s {X : Int → Int} {LX : Nat} : ck_Ok p2_O X LX 324 p2_s1322 := ck_ok_s (O := p2_O) (X := X) (LX := LX) (E := [(288, [p2_s290]), (282, [p2_s241, p2_s242, p2_s243, p2_s552, p2_s244]), (285, [p2_s263]), (266, [p2_s190]), (286, [p2_s1321])]) (mi := 324) (cuts := []) (f := 146) (S := p2_s1322) (lx := none) (XF := []) ⟨p2_nmu, ck_E1 (ck_S1 p2_s290_s ck_S0) (ck_E1 (ck_S1 p2_s241_s (ck_S1 p2_s242_s (ck_S1 p2_s243_s (ck_S1 p2_s552_s (ck_S1 p2_s244_s ck_S0))))) (ck_E1 (ck_S1 p2_s263_s ck_S0) (ck_E1 (ck_S1 p2_s190_s ck_S0) (ck_E1 (ck_S1 p2_s1321_s ck_S0) ck_E0))))⟩ ck_X0 ck_l0 (by decide +kernel)
set_option maxRecDepth 100000 in
/-- GlacierMailModel.in -/
noncomputable def p2_s1323 : ck_Sum := ((0, 0, 0), 245, [.inl (10, 2147483647, []), .inl (ck_one 0), .inl (ck_one 2)], ([], [], []), ([], []), [(.inr (some (.inl (ck_one 0))), 245, ([], [], []))])
set_option maxRecDepth 100000 in
theorem p2_s1323_s {X : Int → Int} {LX : Nat} : ck_Ok p2_O X LX 286 p2_s1323 := ck_ok_s (O := p2_O) (X := X) (LX := LX) (E := []) (mi := 286) (cuts := []) (f := 86) (S := p2_s1323) (lx := none) (XF := []) ⟨p2_nmu, ck_E0⟩ ck_X0 ck_l0 (by decide +kernel)
set_option maxRecDepth 100000 in
/-- GlacierMailModel.throwsFor -/
noncomputable def p2_s1324 : ck_Sum := ((2, 0, 0), 245, [.inr (.inr (.inl 226)), .inl (0, 5, []), .inl (0, 299, []), .inl (0, 299, []), .inl (10, 2147483647, [])], ([], [], [(227, 9, 9, (0, 299, [(11, 0)]))]), ([(226, 0, 0)], []), [(.inr (some (.inl (ck_one 0))), 245, ([], [], [(226, 0, 0, (1, 3, []))]))])
set_option maxRecDepth 100000 in
theorem p2_s1324_s {X : Int → Int} {LX : Nat} : ck_Ok p2_O X LX 324 p2_s1324 := ck_ok_s (O := p2_O) (X := X) (LX := LX) (E := [(288, [p2_s290]), (282, [p2_s241, p2_s242, p2_s243, p2_s552, p2_s244]), (285, [p2_s263]), (266, [p2_s190]), (286, [p2_s1323])]) (mi := 324) (cuts := []) (f := 146) (S := p2_s1324) (lx := none) (XF := []) ⟨p2_nmu, ck_E1 (ck_S1 p2_s290_s ck_S0) (ck_E1 (ck_S1 p2_s241_s (ck_S1 p2_s242_s (ck_S1 p2_s243_s (ck_S1 p2_s552_s (ck_S1 p2_s244_s ck_S0))))) (ck_E1 (ck_S1 p2_s263_s ck_S0) (ck_E1 (ck_S1 p2_s190_s ck_S0) (ck_E1 (ck_S1 p2_s1323_s ck_S0) ck_E0))))⟩ ck_X0 ck_l0 (by decide +kernel)
set_option maxRecDepth 100000 in
/-- GlacierMailModel.in -/
noncomputable def p2_s1325 : ck_Sum := ((0, 0, 0), 245, [.inl (0, 9, []), .inl (ck_one 0), .inl (ck_one 2)], ([], [], []), ([], []), [(.inr (some (.inl (ck_one 0))), 245, ([], [], [])), (.inr (some (.inl (ck_one 1))), 245, ([], [], []))])
set_option maxRecDepth 100000 in
theorem p2_s1325_s {X : Int → Int} {LX : Nat} : ck_Ok p2_O X LX 286 p2_s1325 := ck_ok_s (O := p2_O) (X := X) (LX := LX) (E := []) (mi := 286) (cuts := []) (f := 88) (S := p2_s1325) (lx := none) (XF := []) ⟨p2_nmu, ck_E0⟩ ck_X0 ck_l0 (by decide +kernel)
set_option maxRecDepth 100000 in
/-- GlacierMail.latest -/
noncomputable def p2_s1328 : ck_Sum := ((8, 1, 6), 245, [.inr (.inr (.inl 1)), .inl ((-2147483648), (-1), []), .inl ((-2147483648), 2147483647, [])], ([], [], []), ([], []), [(.inl 3, 245, ([], [], []))])
set_option maxRecDepth 100000 in
theorem p2_s1328_s {X : Int → Int} {LX : Nat} : ck_Ok p2_O X LX 169 p2_s1328 := ck_ok_s (O := p2_O) (X := X) (LX := LX) (E := [(139, [p2_s322])]) (mi := 169) (cuts := []) (f := 76) (S := p2_s1328) (lx := none) (XF := []) ⟨p2_nmu, ck_E1 (ck_S1 p2_s322_s ck_S0) ck_E0⟩ ck_X0 ck_l0 (by decide +kernel)
set_option maxRecDepth 100000 in
/-- GlacierMail.latest -/
noncomputable def p2_s1329 : ck_Sum := ((8, 1, 6), 245, [.inr (.inr (.inl 1)), .inl (8, 2147483647, []), .inl ((-2147483648), 2147483647, [])], ([], [], []), ([], []), [(.inl 3, 245, ([], [], []))])
set_option maxRecDepth 100000 in
theorem p2_s1329_s {X : Int → Int} {LX : Nat} : ck_Ok p2_O X LX 169 p2_s1329 := ck_ok_s (O := p2_O) (X := X) (LX := LX) (E := [(139, [p2_s325])]) (mi := 169) (cuts := []) (f := 76) (S := p2_s1329) (lx := none) (XF := []) ⟨p2_nmu, ck_E1 (ck_S1 p2_s325_s ck_S0) ck_E0⟩ ck_X0 ck_l0 (by decide +kernel)
set_option maxRecDepth 100000 in
/-- GlacierMail.latest -/
noncomputable def p2_s1330 : ck_Sum := ((8, 2, 12), 245, [.inr (.inr (.inl 1)), .inl (0, 7, []), .inl ((-2147483648), (-1), [])], ([], [], []), ([], []), [(.inl 3, 245, ([], [], [])), (.inl 0, 245, ([], [], []))])
set_option maxRecDepth 100000 in
theorem p2_s1330_s {X : Int → Int} {LX : Nat} : ck_Ok p2_O X LX 169 p2_s1330 := ck_ok_s (O := p2_O) (X := X) (LX := LX) (E := [(139, [p2_s328]), (129, [p2_s249])]) (mi := 169) (cuts := []) (f := 82) (S := p2_s1330) (lx := none) (XF := []) ⟨p2_nmu, ck_E1 (ck_S1 p2_s328_s ck_S0) (ck_E1 (ck_S1 p2_s249_s ck_S0) ck_E0)⟩ ck_X0 ck_l0 (by decide +kernel)
set_option maxRecDepth 100000 in
/-- GlacierMail.latest -/
noncomputable def p2_s1331 : ck_Sum := ((8, 2, 12), 245, [.inr (.inr (.inl 1)), .inl (0, 7, []), .inl (300, 2147483647, [])], ([], [], []), ([], []), [(.inl 3, 245, ([], [], [])), (.inl 0, 245, ([], [], []))])
set_option maxRecDepth 100000 in
theorem p2_s1331_s {X : Int → Int} {LX : Nat} : ck_Ok p2_O X LX 169 p2_s1331 := ck_ok_s (O := p2_O) (X := X) (LX := LX) (E := [(139, [p2_s328]), (129, [p2_s251])]) (mi := 169) (cuts := []) (f := 82) (S := p2_s1331) (lx := none) (XF := []) ⟨p2_nmu, ck_E1 (ck_S1 p2_s328_s ck_S0) (ck_E1 (ck_S1 p2_s251_s ck_S0) ck_E0)⟩ ck_X0 ck_l0 (by decide +kernel)
set_option maxRecDepth 100000 in
/-- GlacierMail$Way.startHut -/
noncomputable def p2_s1332 : ck_Sum := ((1, 0, 0), 245, [.inr (.inr (.inl 206)), .inl (0, 7, []), .inl (0, 299, [])], ([], [], []), ([(206, 2, 8)], []), [(.inr none, 245, ([], [], zl183))])
set_option maxRecDepth 100000 in
theorem p2_s1332_s {X : Int → Int} {LX : Nat} : ck_Ok p2_O X LX 170 p2_s1332 := ck_ok_s (O := p2_O) (X := X) (LX := LX) (E := [(10, [p2_s356]), (29, [p2_s1313])]) (mi := 170) (cuts := []) (f := 104) (S := p2_s1332) (lx := none) (XF := []) ⟨p2_nmu, ck_E1 (ck_S1 p2_s356_s ck_S0) (ck_E1 (ck_S1 p2_s1313_s ck_S0) ck_E0)⟩ ck_X0 ck_l0 (by decide +kernel)
set_option maxRecDepth 100000 in
/-- GlacierMail.latest -/
noncomputable def p2_s1333 : ck_Sum := ((8, 1, 6), 245, [.inr (.inr (.inl 1)), .inl (0, 7, []), .inl (0, 299, [])], ([], [(3, 8, 0)], [(3, 6, 6, (0, 299, [(10, 0)]))]), ([(206, 2, 8)], []), [(.inl 3, 245, ([], [], [])), (.inr (some (.inl (ck_one (-1)))), 245, ([], [], [])), (.inr (some (.inl (0, 299, []))), 245, ([], [], [(206, 4, 4, ck_one (-1))]))])
set_option maxRecDepth 100000 in
theorem p2_s1333_s {X : Int → Int} {LX : Nat} : ck_Ok p2_O X LX 169 p2_s1333 := ck_ok_s (O := p2_O) (X := X) (LX := LX) (E := [(139, [p2_s328]), (129, [p2_s253]), (170, [p2_s1332]), (30, [p2_s346])]) (mi := 169) (cuts := [(12, [some (.inr (.inr (.inl 1))), some (.inl (0, 7, [])), some (.inl (0, 299, [])), some (.inl ((-1), 299, []))], ([], [(3, 8, 0)], [(3, 6, 6, (0, 299, [(10, 0)]))]), 100, .inl 3, false)]) (f := 166) (S := p2_s1333) (lx := none) (XF := []) ⟨p2_nmu, ck_E1 (ck_S1 p2_s328_s ck_S0) (ck_E1 (ck_S1 p2_s253_s ck_S0) (ck_E1 (ck_S1 p2_s1332_s ck_S0) (ck_E1 (ck_S1 p2_s346_s ck_S0) ck_E0)))⟩ ck_X0 ck_l0 (by decide +kernel)
set_option maxRecDepth 100000 in
/-- GlacierMailModel.latest -/
noncomputable def p2_s1334 : ck_Sum := ((2, 0, 0), 245, [.inr (.inr (.inl 226)), .inl ((-2147483648), (-1), []), .inl ((-2147483648), 2147483647, [])], ([], [], [(227, 3, 3, (0, 8, [(21, 0)]))]), ([(226, 0, 0)], []), [(.inr (some (.inl (ck_one 0))), 245, ([], [], [(226, 0, 0, ck_one 1)]))])
set_option maxRecDepth 100000 in
theorem p2_s1334_s {X : Int → Int} {LX : Nat} : ck_Ok p2_O X LX 326 p2_s1334 := ck_ok_s (O := p2_O) (X := X) (LX := LX) (E := [(298, [p2_s359]), (282, [p2_s241])]) (mi := 326) (cuts := []) (f := 94) (S := p2_s1334) (lx := none) (XF := []) ⟨p2_nmu, ck_E1 (ck_S1 p2_s359_s ck_S0) (ck_E1 (ck_S1 p2_s241_s ck_S0) ck_E0)⟩ ck_X0 ck_l0 (by decide +kernel)
set_option maxRecDepth 100000 in
/-- GlacierMailModel.latest -/
noncomputable def p2_s1335 : ck_Sum := ((2, 0, 0), 245, [.inr (.inr (.inl 226)), .inl (8, 2147483647, []), .inl ((-2147483648), 2147483647, [])], ([], [], [(227, 3, 3, (0, 8, [(21, 0)]))]), ([(226, 0, 0)], []), [(.inr (some (.inl (ck_one 0))), 245, ([], [], [(226, 0, 0, ck_one 1)]))])
set_option maxRecDepth 100000 in
theorem p2_s1335_s {X : Int → Int} {LX : Nat} : ck_Ok p2_O X LX 326 p2_s1335 := ck_ok_s (O := p2_O) (X := X) (LX := LX) (E := [(298, [p2_s362]), (282, [p2_s241])]) (mi := 326) (cuts := []) (f := 94) (S := p2_s1335) (lx := none) (XF := []) ⟨p2_nmu, ck_E1 (ck_S1 p2_s362_s ck_S0) (ck_E1 (ck_S1 p2_s241_s ck_S0) ck_E0)⟩ ck_X0 ck_l0 (by decide +kernel)
set_option maxRecDepth 100000 in
/-- GlacierMailModel.latest -/
noncomputable def p2_s1336 : ck_Sum := ((2, 0, 0), 245, [.inr (.inr (.inl 226)), .inl (0, 7, []), .inl ((-2147483648), (-1), [])], ([], [], [(227, 3, 3, (0, 8, [(21, 0)]))]), ([(226, 0, 0)], []), [(.inr (some (.inl (ck_one 0))), 245, ([], [], [(226, 0, 0, (1, 2, []))]))])
set_option maxRecDepth 100000 in
theorem p2_s1336_s {X : Int → Int} {LX : Nat} : ck_Ok p2_O X LX 326 p2_s1336 := ck_ok_s (O := p2_O) (X := X) (LX := LX) (E := [(298, [p2_s365]), (282, [p2_s241, p2_s242, p2_s244]), (285, [p2_s257])]) (mi := 326) (cuts := []) (f := 106) (S := p2_s1336) (lx := none) (XF := []) ⟨p2_nmu, ck_E1 (ck_S1 p2_s365_s ck_S0) (ck_E1 (ck_S1 p2_s241_s (ck_S1 p2_s242_s (ck_S1 p2_s244_s ck_S0))) (ck_E1 (ck_S1 p2_s257_s ck_S0) ck_E0))⟩ ck_X0 ck_l0 (by decide +kernel)
set_option maxRecDepth 100000 in
/-- GlacierMailModel.latest -/
noncomputable def p2_s1337 : ck_Sum := ((2, 0, 0), 245, [.inr (.inr (.inl 226)), .inl (0, 7, []), .inl (300, 2147483647, [])], ([], [], [(227, 3, 3, (0, 8, [(21, 0)]))]), ([(226, 0, 0)], []), [(.inr (some (.inl (ck_one 0))), 245, ([], [], [(226, 0, 0, (1, 2, []))]))])
set_option maxRecDepth 100000 in
theorem p2_s1337_s {X : Int → Int} {LX : Nat} : ck_Ok p2_O X LX 326 p2_s1337 := ck_ok_s (O := p2_O) (X := X) (LX := LX) (E := [(298, [p2_s365]), (282, [p2_s241, p2_s242, p2_s244]), (285, [p2_s260])]) (mi := 326) (cuts := []) (f := 106) (S := p2_s1337) (lx := none) (XF := []) ⟨p2_nmu, ck_E1 (ck_S1 p2_s365_s ck_S0) (ck_E1 (ck_S1 p2_s241_s (ck_S1 p2_s242_s (ck_S1 p2_s244_s ck_S0))) (ck_E1 (ck_S1 p2_s260_s ck_S0) ck_E0))⟩ ck_X0 ck_l0 (by decide +kernel)
set_option maxRecDepth 100000 in
/-- GlacierMail.hut -/
noncomputable def p2_s1339 : ck_Sum := ((8, 1, 6), 245, [.inr (.inr (.inl 1)), .inl ((-2147483648), (-1), []), .inl ((-2147483648), 2147483647, [])], ([], [], []), ([], []), [(.inl 3, 245, ([], [], []))])
set_option maxRecDepth 100000 in
theorem p2_s1339_s {X : Int → Int} {LX : Nat} : ck_Ok p2_O X LX 172 p2_s1339 := ck_ok_s (O := p2_O) (X := X) (LX := LX) (E := [(132, [p2_s266])]) (mi := 172) (cuts := []) (f := 76) (S := p2_s1339) (lx := none) (XF := []) ⟨p2_nmu, ck_E1 (ck_S1 p2_s266_s ck_S0) ck_E0⟩ ck_X0 ck_l0 (by decide +kernel)
set_option maxRecDepth 100000 in
/-- GlacierMail.hut -/
noncomputable def p2_s1340 : ck_Sum := ((8, 1, 6), 245, [.inr (.inr (.inl 1)), .inl (6, 2147483647, []), .inl ((-2147483648), 2147483647, [])], ([], [], []), ([], []), [(.inl 3, 245, ([], [], []))])
set_option maxRecDepth 100000 in
theorem p2_s1340_s {X : Int → Int} {LX : Nat} : ck_Ok p2_O X LX 172 p2_s1340 := ck_ok_s (O := p2_O) (X := X) (LX := LX) (E := [(132, [p2_s269])]) (mi := 172) (cuts := []) (f := 76) (S := p2_s1340) (lx := none) (XF := []) ⟨p2_nmu, ck_E1 (ck_S1 p2_s269_s ck_S0) ck_E0⟩ ck_X0 ck_l0 (by decide +kernel)
set_option maxRecDepth 100000 in
/-- GlacierMail.hut -/
noncomputable def p2_s1341 : ck_Sum := ((8, 2, 12), 245, [.inr (.inr (.inl 1)), .inl (0, 5, []), .inl ((-2147483648), (-1), [])], ([], [], []), ([], []), [(.inl 3, 245, ([], [], [])), (.inl 0, 245, ([], [], []))])
set_option maxRecDepth 100000 in
theorem p2_s1341_s {X : Int → Int} {LX : Nat} : ck_Ok p2_O X LX 172 p2_s1341 := ck_ok_s (O := p2_O) (X := X) (LX := LX) (E := [(132, [p2_s272])]) (mi := 172) (cuts := []) (f := 84) (S := p2_s1341) (lx := none) (XF := []) ⟨p2_nmu, ck_E1 (ck_S1 p2_s272_s ck_S0) ck_E0⟩ ck_X0 ck_l0 (by decide +kernel)
set_option maxRecDepth 100000 in
/-- GlacierMail.hut -/
noncomputable def p2_s1342 : ck_Sum := ((8, 2, 12), 245, [.inr (.inr (.inl 1)), .inl (0, 5, []), .inl (300, 2147483647, [])], ([], [], []), ([], []), [(.inl 3, 245, ([], [], [])), (.inl 0, 245, ([], [], []))])
set_option maxRecDepth 100000 in
theorem p2_s1342_s {X : Int → Int} {LX : Nat} : ck_Ok p2_O X LX 172 p2_s1342 := ck_ok_s (O := p2_O) (X := X) (LX := LX) (E := [(132, [p2_s272])]) (mi := 172) (cuts := []) (f := 90) (S := p2_s1342) (lx := none) (XF := []) ⟨p2_nmu, ck_E1 (ck_S1 p2_s272_s ck_S0) ck_E0⟩ ck_X0 ck_l0 (by decide +kernel)
set_option maxRecDepth 100000 in
/-- GlacierMail.hut -/
noncomputable def p2_s1343 : ck_Sum := ((8, 2, 12), 245, [.inr (.inr (.inl 1)), .inl (0, 5, []), .inl (0, 299, [])], ([], [(3, 8, 0)], [(3, 6, 6, (0, 299, [(10, 0)]))]), ([(206, 2, 8)], []), [(.inl 3, 245, ([], [], [])), (.inl 0, 245, ([], [], [])), (.inr (some (.inl (ck_one (-1)))), 245, ([], [], [])), (.inr (some (.inl (0, 98, []))), 245, ([], [], [(206, 4, 4, ck_one (-1))]))])
set_option maxRecDepth 100000 in
theorem p2_s1343_s {X : Int → Int} {LX : Nat} : ck_Ok p2_O X LX 172 p2_s1343 := ck_ok_s (O := p2_O) (X := X) (LX := LX) (E := [(132, [p2_s272]), (29, [p2_s1313]), (30, [p2_s346])]) (mi := 172) (cuts := [(47, [some (.inr (.inr (.inl 1))), some (.inl (0, 5, [])), some (.inl (1, 299, [])), some (.inl (1, 299, [])), some (.inl (0, 167, []))], ([], [(3, 8, 0)], [(3, 6, 6, (0, 299, [(10, 0)]))]), 100, .inl 4, true)]) (f := 182) (S := p2_s1343) (lx := none) (XF := []) ⟨p2_nmu, ck_E1 (ck_S1 p2_s272_s ck_S0) (ck_E1 (ck_S1 p2_s1313_s ck_S0) (ck_E1 (ck_S1 p2_s346_s ck_S0) ck_E0))⟩ ck_X0 ck_l0 (by decide +kernel)
set_option maxRecDepth 100000 in
/-- GlacierMailModel.hut -/
noncomputable def p2_s1344 : ck_Sum := ((2, 0, 0), 245, [.inr (.inr (.inl 226)), .inl ((-2147483648), (-1), []), .inl ((-2147483648), 2147483647, [])], ([], [], []), ([(226, 0, 0)], []), [(.inr (some (.inl (ck_one 0))), 245, ([], [], [(226, 0, 0, ck_one 1)]))])
set_option maxRecDepth 100000 in
theorem p2_s1344_s {X : Int → Int} {LX : Nat} : ck_Ok p2_O X LX 327 p2_s1344 := ck_ok_s (O := p2_O) (X := X) (LX := LX) (E := [(288, [p2_s284]), (282, [p2_s241])]) (mi := 327) (cuts := []) (f := 94) (S := p2_s1344) (lx := none) (XF := []) ⟨p2_nmu, ck_E1 (ck_S1 p2_s284_s ck_S0) (ck_E1 (ck_S1 p2_s241_s ck_S0) ck_E0)⟩ ck_X0 ck_l0 (by decide +kernel)
set_option maxRecDepth 100000 in
/-- GlacierMailModel.hut -/
noncomputable def p2_s1345 : ck_Sum := ((2, 0, 0), 245, [.inr (.inr (.inl 226)), .inl (6, 2147483647, []), .inl ((-2147483648), 2147483647, [])], ([], [], []), ([(226, 0, 0)], []), [(.inr (some (.inl (ck_one 0))), 245, ([], [], [(226, 0, 0, ck_one 1)]))])
set_option maxRecDepth 100000 in
theorem p2_s1345_s {X : Int → Int} {LX : Nat} : ck_Ok p2_O X LX 327 p2_s1345 := ck_ok_s (O := p2_O) (X := X) (LX := LX) (E := [(288, [p2_s287]), (282, [p2_s241])]) (mi := 327) (cuts := []) (f := 94) (S := p2_s1345) (lx := none) (XF := []) ⟨p2_nmu, ck_E1 (ck_S1 p2_s287_s ck_S0) (ck_E1 (ck_S1 p2_s241_s ck_S0) ck_E0)⟩ ck_X0 ck_l0 (by decide +kernel)
set_option maxRecDepth 100000 in
/-- GlacierMailModel.in -/
noncomputable def p2_s1346 : ck_Sum := ((0, 0, 0), 245, [.inl ((-2147483648), (-1), []), .inl (ck_one 1), .inl (ck_one 299)], ([], [], []), ([], []), [(.inr (some (.inl (ck_one 0))), 245, ([], [], []))])
set_option maxRecDepth 100000 in
theorem p2_s1346_s {X : Int → Int} {LX : Nat} : ck_Ok p2_O X LX 286 p2_s1346 := ck_ok_s (O := p2_O) (X := X) (LX := LX) (E := []) (mi := 286) (cuts := []) (f := 80) (S := p2_s1346) (lx := none) (XF := []) ⟨p2_nmu, ck_E0⟩ ck_X0 ck_l0 (by decide +kernel)
set_option maxRecDepth 100000 in
/-- GlacierMailModel.hut -/
noncomputable def p2_s1347 : ck_Sum := ((2, 0, 0), 245, [.inr (.inr (.inl 226)), .inl (0, 5, []), .inl ((-2147483648), (-1), [])], ([], [], []), ([(226, 0, 0)], []), [(.inr (some (.inl (ck_one 0))), 245, ([], [], [(226, 0, 0, (1, 2, []))]))])
set_option maxRecDepth 100000 in
theorem p2_s1347_s {X : Int → Int} {LX : Nat} : ck_Ok p2_O X LX 327 p2_s1347 := ck_ok_s (O := p2_O) (X := X) (LX := LX) (E := [(288, [p2_s290]), (282, [p2_s241, p2_s242, p2_s244]), (286, [p2_s1346])]) (mi := 327) (cuts := []) (f := 116) (S := p2_s1347) (lx := none) (XF := []) ⟨p2_nmu, ck_E1 (ck_S1 p2_s290_s ck_S0) (ck_E1 (ck_S1 p2_s241_s (ck_S1 p2_s242_s (ck_S1 p2_s244_s ck_S0))) (ck_E1 (ck_S1 p2_s1346_s ck_S0) ck_E0))⟩ ck_X0 ck_l0 (by decide +kernel)
set_option maxRecDepth 100000 in
/-- GlacierMailModel.in -/
noncomputable def p2_s1348 : ck_Sum := ((0, 0, 0), 245, [.inl (300, 2147483647, []), .inl (ck_one 1), .inl (ck_one 299)], ([], [], []), ([], []), [(.inr (some (.inl (ck_one 0))), 245, ([], [], []))])
set_option maxRecDepth 100000 in
theorem p2_s1348_s {X : Int → Int} {LX : Nat} : ck_Ok p2_O X LX 286 p2_s1348 := ck_ok_s (O := p2_O) (X := X) (LX := LX) (E := []) (mi := 286) (cuts := []) (f := 86) (S := p2_s1348) (lx := none) (XF := []) ⟨p2_nmu, ck_E0⟩ ck_X0 ck_l0 (by decide +kernel)
set_option maxRecDepth 100000 in
/-- GlacierMailModel.hut -/
noncomputable def p2_s1349 : ck_Sum := ((2, 0, 0), 245, [.inr (.inr (.inl 226)), .inl (0, 5, []), .inl (300, 2147483647, [])], ([], [], []), ([(226, 0, 0)], []), [(.inr (some (.inl (ck_one 0))), 245, ([], [], [(226, 0, 0, (1, 2, []))]))])
set_option maxRecDepth 100000 in
theorem p2_s1349_s {X : Int → Int} {LX : Nat} : ck_Ok p2_O X LX 327 p2_s1349 := ck_ok_s (O := p2_O) (X := X) (LX := LX) (E := [(288, [p2_s290]), (282, [p2_s241, p2_s242, p2_s244]), (286, [p2_s1348])]) (mi := 327) (cuts := []) (f := 116) (S := p2_s1349) (lx := none) (XF := []) ⟨p2_nmu, ck_E1 (ck_S1 p2_s290_s ck_S0) (ck_E1 (ck_S1 p2_s241_s (ck_S1 p2_s242_s (ck_S1 p2_s244_s ck_S0))) (ck_E1 (ck_S1 p2_s1348_s ck_S0) ck_E0))⟩ ck_X0 ck_l0 (by decide +kernel)
set_option maxRecDepth 100000 in
/-- GlacierMailModel.in -/
noncomputable def p2_s1350 : ck_Sum := ((0, 0, 0), 245, [.inl (0, 299, []), .inl (ck_one 1), .inl (ck_one 299)], ([], [], []), ([], []), [(.inr (some (.inl (ck_one 0))), 245, ([], [], [])), (.inr (some (.inl (ck_one 1))), 245, ([], [], []))])
set_option maxRecDepth 100000 in
theorem p2_s1350_s {X : Int → Int} {LX : Nat} : ck_Ok p2_O X LX 286 p2_s1350 := ck_ok_s (O := p2_O) (X := X) (LX := LX) (E := []) (mi := 286) (cuts := []) (f := 88) (S := p2_s1350) (lx := none) (XF := []) ⟨p2_nmu, ck_E0⟩ ck_X0 ck_l0 (by decide +kernel)
set_option maxRecDepth 100000 in
/-- GlacierMail.without -/
noncomputable def p2_s1352 : ck_Sum := ((8, 1, 6), 245, [.inr (.inr (.inl 1)), .inl ((-2147483648), (-1), []), .inl ((-2147483648), 2147483647, [])], ([], [], []), ([], []), [(.inl 3, 245, ([], [], []))])
set_option maxRecDepth 100000 in
theorem p2_s1352_s {X : Int → Int} {LX : Nat} : ck_Ok p2_O X LX 174 p2_s1352 := ck_ok_s (O := p2_O) (X := X) (LX := LX) (E := [(143, [p2_s387])]) (mi := 174) (cuts := []) (f := 76) (S := p2_s1352) (lx := none) (XF := []) ⟨p2_nmu, ck_E1 (ck_S1 p2_s387_s ck_S0) ck_E0⟩ ck_X0 ck_l0 (by decide +kernel)
set_option maxRecDepth 100000 in
/-- GlacierMail.without -/
noncomputable def p2_s1353 : ck_Sum := ((8, 1, 6), 245, [.inr (.inr (.inl 1)), .inl (24, 2147483647, []), .inl ((-2147483648), 2147483647, [])], ([], [], []), ([], []), [(.inl 3, 245, ([], [], []))])
set_option maxRecDepth 100000 in
theorem p2_s1353_s {X : Int → Int} {LX : Nat} : ck_Ok p2_O X LX 174 p2_s1353 := ck_ok_s (O := p2_O) (X := X) (LX := LX) (E := [(143, [p2_s390])]) (mi := 174) (cuts := []) (f := 76) (S := p2_s1353) (lx := none) (XF := []) ⟨p2_nmu, ck_E1 (ck_S1 p2_s390_s ck_S0) ck_E0⟩ ck_X0 ck_l0 (by decide +kernel)
set_option maxRecDepth 100000 in
/-- GlacierMail.without -/
noncomputable def p2_s1354 : ck_Sum := ((8, 2, 12), 245, [.inr (.inr (.inl 1)), .inl (0, 23, []), .inl ((-2147483648), (-1), [])], ([], [], []), ([], []), [(.inl 3, 245, ([], [], []))])
set_option maxRecDepth 100000 in
theorem p2_s1354_s {X : Int → Int} {LX : Nat} : ck_Ok p2_O X LX 174 p2_s1354 := ck_ok_s (O := p2_O) (X := X) (LX := LX) (E := [(143, [p2_s393]), (9, [p2_s139]), (133, [p2_s321])]) (mi := 174) (cuts := []) (f := 90) (S := p2_s1354) (lx := none) (XF := []) ⟨p2_nmu, ck_E1 (ck_S1 p2_s393_s ck_S0) (ck_E1 (ck_S1 p2_s139_s ck_S0) (ck_E1 (ck_S1 p2_s321_s ck_S0) ck_E0))⟩ ck_X0 ck_l0 (by decide +kernel)
set_option maxRecDepth 100000 in
/-- GlacierMail.without -/
noncomputable def p2_s1355 : ck_Sum := ((8, 2, 12), 245, [.inr (.inr (.inl 1)), .inl (0, 23, []), .inl (8, 2147483647, [])], ([], [], []), ([], []), [(.inl 3, 245, ([], [], []))])
set_option maxRecDepth 100000 in
theorem p2_s1355_s {X : Int → Int} {LX : Nat} : ck_Ok p2_O X LX 174 p2_s1355 := ck_ok_s (O := p2_O) (X := X) (LX := LX) (E := [(143, [p2_s393]), (9, [p2_s139]), (133, [p2_s324])]) (mi := 174) (cuts := []) (f := 90) (S := p2_s1355) (lx := none) (XF := []) ⟨p2_nmu, ck_E1 (ck_S1 p2_s393_s ck_S0) (ck_E1 (ck_S1 p2_s139_s ck_S0) (ck_E1 (ck_S1 p2_s324_s ck_S0) ck_E0))⟩ ck_X0 ck_l0 (by decide +kernel)
set_option maxRecDepth 100000 in
/-- GlacierMail$Way.leaveOut -/
noncomputable def p2_s1356 : ck_Sum := ((0, 0, 0), 245, [.inr (.inr (.inl 206)), .inl (0, 7, [])], ([], [], []), ([(206, 4, 4)], []), [(.inr none, 245, ([], [], [(206, 4, 4, (0, 7, []))]))])
set_option maxRecDepth 100000 in
theorem p2_s1356_s {X : Int → Int} {LX : Nat} : ck_Ok p2_O X LX 175 p2_s1356 := ck_ok_s (O := p2_O) (X := X) (LX := LX) (E := []) (mi := 175) (cuts := []) (f := 78) (S := p2_s1356) (lx := none) (XF := []) ⟨p2_nmu, ck_E0⟩ ck_X0 ck_l0 (by decide +kernel)
set_option maxRecDepth 100000 in
/-- GlacierMail.without -/
noncomputable def p2_s1357 : ck_Sum := ((8, 2, 12), 245, [.inr (.inr (.inl 1)), .inl (0, 23, []), .inl (0, 7, [])], ([], [(3, 8, 0)], []), ([(206, 2, 8)], []), [(.inl 3, 245, ([], [], [])), (.inr (some (.inl ((-2147483648), 299, []))), 245, ([], [], zl185))])
set_option maxRecDepth 100000 in
theorem p2_s1357_s {X : Int → Int} {LX : Nat} : ck_Ok p2_O X LX 174 p2_s1357 := ck_ok_s (O := p2_O) (X := X) (LX := LX) (E := [(143, [p2_s393]), (9, [p2_s139]), (133, [p2_s327]), (27, [p2_s339]), (175, [p2_s1356]), (30, [p2_s346])]) (mi := 174) (cuts := []) (f := 116) (S := p2_s1357) (lx := none) (XF := []) ⟨p2_nmu, ck_E1 (ck_S1 p2_s393_s ck_S0) (ck_E1 (ck_S1 p2_s139_s ck_S0) (ck_E1 (ck_S1 p2_s327_s ck_S0) (ck_E1 (ck_S1 p2_s339_s ck_S0) (ck_E1 (ck_S1 p2_s1356_s ck_S0) (ck_E1 (ck_S1 p2_s346_s ck_S0) ck_E0)))))⟩ ck_X0 ck_l0 (by decide +kernel)
set_option maxRecDepth 100000 in
/-- GlacierMailModel.without -/
noncomputable def p2_s1358 : ck_Sum := ((2, 0, 0), 245, [.inr (.inr (.inl 226)), .inl ((-2147483648), (-1), []), .inl ((-2147483648), 2147483647, [])], ([], [], [(227, 4, 4, (0, 24, [(22, 0)]))]), ([(226, 0, 0)], []), [(.inr (some (.inl (ck_one 0))), 245, ([], [], [(226, 0, 0, ck_one 1)]))])
set_option maxRecDepth 100000 in
theorem p2_s1358_s {X : Int → Int} {LX : Nat} : ck_Ok p2_O X LX 328 p2_s1358 := ck_ok_s (O := p2_O) (X := X) (LX := LX) (E := [(309, [p2_s400]), (282, [p2_s241])]) (mi := 328) (cuts := []) (f := 100) (S := p2_s1358) (lx := none) (XF := []) ⟨p2_nmu, ck_E1 (ck_S1 p2_s400_s ck_S0) (ck_E1 (ck_S1 p2_s241_s ck_S0) ck_E0)⟩ ck_X0 ck_l0 (by decide +kernel)
set_option maxRecDepth 100000 in
/-- GlacierMailModel.without -/
noncomputable def p2_s1359 : ck_Sum := ((2, 0, 0), 245, [.inr (.inr (.inl 226)), .inl (24, 2147483647, []), .inl ((-2147483648), 2147483647, [])], ([], [], [(227, 4, 4, (0, 24, [(22, 0)]))]), ([(226, 0, 0)], []), [(.inr (some (.inl (ck_one 0))), 245, ([], [], [(226, 0, 0, ck_one 1)]))])
set_option maxRecDepth 100000 in
theorem p2_s1359_s {X : Int → Int} {LX : Nat} : ck_Ok p2_O X LX 328 p2_s1359 := ck_ok_s (O := p2_O) (X := X) (LX := LX) (E := [(309, [p2_s403]), (282, [p2_s241])]) (mi := 328) (cuts := []) (f := 100) (S := p2_s1359) (lx := none) (XF := []) ⟨p2_nmu, ck_E1 (ck_S1 p2_s403_s ck_S0) (ck_E1 (ck_S1 p2_s241_s ck_S0) ck_E0)⟩ ck_X0 ck_l0 (by decide +kernel)
set_option maxRecDepth 100000 in
/-- GlacierMailModel.without -/
noncomputable def p2_s1360 : ck_Sum := ((2, 0, 0), 245, [.inr (.inr (.inl 226)), .inl (0, 23, []), .inl ((-2147483648), (-1), [])], ([], [], zl186), ([(226, 0, 0)], []), [(.inr (some (.inl (ck_one 0))), 245, ([], [], [(226, 0, 0, ck_one 1)]))])
set_option maxRecDepth 100000 in
theorem p2_s1360_s {X : Int → Int} {LX : Nat} : ck_Ok p2_O X LX 328 p2_s1360 := ck_ok_s (O := p2_O) (X := X) (LX := LX) (E := [(309, [p2_s406]), (282, [p2_s241]), (286, [p2_s358])]) (mi := 328) (cuts := []) (f := 120) (S := p2_s1360) (lx := none) (XF := []) ⟨p2_nmu, ck_E1 (ck_S1 p2_s406_s ck_S0) (ck_E1 (ck_S1 p2_s241_s ck_S0) (ck_E1 (ck_S1 p2_s358_s ck_S0) ck_E0))⟩ ck_X0 ck_l0 (by decide +kernel)
set_option maxRecDepth 100000 in
/-- GlacierMailModel.without -/
noncomputable def p2_s1361 : ck_Sum := ((2, 0, 0), 245, [.inr (.inr (.inl 226)), .inl (0, 23, []), .inl (8, 2147483647, [])], ([], [], zl186), ([(226, 0, 0)], []), [(.inr (some (.inl (ck_one 0))), 245, ([], [], [(226, 0, 0, ck_one 1)]))])
set_option maxRecDepth 100000 in
theorem p2_s1361_s {X : Int → Int} {LX : Nat} : ck_Ok p2_O X LX 328 p2_s1361 := ck_ok_s (O := p2_O) (X := X) (LX := LX) (E := [(309, [p2_s406]), (282, [p2_s241]), (286, [p2_s361])]) (mi := 328) (cuts := []) (f := 120) (S := p2_s1361) (lx := none) (XF := []) ⟨p2_nmu, ck_E1 (ck_S1 p2_s406_s ck_S0) (ck_E1 (ck_S1 p2_s241_s ck_S0) (ck_E1 (ck_S1 p2_s361_s ck_S0) ck_E0))⟩ ck_X0 ck_l0 (by decide +kernel)
set_option maxRecDepth 100000 in
/-- GlacierMail.moved -/
noncomputable def p2_s1363 : ck_Sum := ((8, 1, 6), 245, [.inr (.inr (.inl 1)), .inl ((-2147483648), (-1), [])], ([], [], []), ([], []), [(.inl 3, 245, ([], [], []))])
set_option maxRecDepth 100000 in
theorem p2_s1363_s {X : Int → Int} {LX : Nat} : ck_Ok p2_O X LX 177 p2_s1363 := ck_ok_s (O := p2_O) (X := X) (LX := LX) (E := [(143, [p2_s387])]) (mi := 177) (cuts := []) (f := 76) (S := p2_s1363) (lx := none) (XF := []) ⟨p2_nmu, ck_E1 (ck_S1 p2_s387_s ck_S0) ck_E0⟩ ck_X0 ck_l0 (by decide +kernel)
set_option maxRecDepth 100000 in
/-- GlacierMail.moved -/
noncomputable def p2_s1364 : ck_Sum := ((8, 1, 6), 245, [.inr (.inr (.inl 1)), .inl (24, 2147483647, [])], ([], [], []), ([], []), [(.inl 3, 245, ([], [], []))])
set_option maxRecDepth 100000 in
theorem p2_s1364_s {X : Int → Int} {LX : Nat} : ck_Ok p2_O X LX 177 p2_s1364 := ck_ok_s (O := p2_O) (X := X) (LX := LX) (E := [(143, [p2_s390])]) (mi := 177) (cuts := []) (f := 76) (S := p2_s1364) (lx := none) (XF := []) ⟨p2_nmu, ck_E1 (ck_S1 p2_s390_s ck_S0) ck_E0⟩ ck_X0 ck_l0 (by decide +kernel)
set_option maxRecDepth 100000 in
/-- GlacierMail.moved -/
noncomputable def p2_s1365 : ck_Sum := ((8, 1, 6), 245, [.inr (.inr (.inl 1)), .inl (0, 23, [])], ([], [(3, 8, 0)], []), ([(206, 2, 8)], []), [(.inl 3, 245, ([], [], [])), (.inr (some (.inl ((-2147483648), (-1), []))), 245, ([], [], zl187)), (.inr (some (.inl (0, 2147483647, []))), 245, ([], [], zl188))])
set_option maxRecDepth 100000 in
theorem p2_s1365_s {X : Int → Int} {LX : Nat} : ck_Ok p2_O X LX 177 p2_s1365 := ck_ok_s (O := p2_O) (X := X) (LX := LX) (E := [(143, [p2_s393]), (27, [p2_s339]), (30, [p2_s346])]) (mi := 177) (cuts := []) (f := 102) (S := p2_s1365) (lx := none) (XF := []) ⟨p2_nmu, ck_E1 (ck_S1 p2_s393_s ck_S0) (ck_E1 (ck_S1 p2_s339_s ck_S0) (ck_E1 (ck_S1 p2_s346_s ck_S0) ck_E0))⟩ ck_X0 ck_l0 (by decide +kernel)
set_option maxRecDepth 100000 in
/-- GlacierMailModel.moved -/
noncomputable def p2_s1366 : ck_Sum := ((2, 0, 0), 245, [.inr (.inr (.inl 226)), .inl ((-2147483648), (-1), [])], ([], [], [(227, 4, 4, (0, 24, [(22, 0)]))]), ([(226, 0, 0)], []), [(.inr (some (.inl (ck_one 0))), 245, ([], [], [(226, 0, 0, ck_one 1)]))])
set_option maxRecDepth 100000 in
theorem p2_s1366_s {X : Int → Int} {LX : Nat} : ck_Ok p2_O X LX 329 p2_s1366 := ck_ok_s (O := p2_O) (X := X) (LX := LX) (E := [(309, [p2_s400]), (282, [p2_s241])]) (mi := 329) (cuts := []) (f := 94) (S := p2_s1366) (lx := none) (XF := []) ⟨p2_nmu, ck_E1 (ck_S1 p2_s400_s ck_S0) (ck_E1 (ck_S1 p2_s241_s ck_S0) ck_E0)⟩ ck_X0 ck_l0 (by decide +kernel)
set_option maxRecDepth 100000 in
/-- GlacierMailModel.moved -/
noncomputable def p2_s1367 : ck_Sum := ((2, 0, 0), 245, [.inr (.inr (.inl 226)), .inl (24, 2147483647, [])], ([], [], [(227, 4, 4, (0, 24, [(22, 0)]))]), ([(226, 0, 0)], []), [(.inr (some (.inl (ck_one 0))), 245, ([], [], [(226, 0, 0, ck_one 1)]))])
set_option maxRecDepth 100000 in
theorem p2_s1367_s {X : Int → Int} {LX : Nat} : ck_Ok p2_O X LX 329 p2_s1367 := ck_ok_s (O := p2_O) (X := X) (LX := LX) (E := [(309, [p2_s403]), (282, [p2_s241])]) (mi := 329) (cuts := []) (f := 94) (S := p2_s1367) (lx := none) (XF := []) ⟨p2_nmu, ck_E1 (ck_S1 p2_s403_s ck_S0) (ck_E1 (ck_S1 p2_s241_s ck_S0) ck_E0)⟩ ck_X0 ck_l0 (by decide +kernel)
set_option maxRecDepth 100000 in
/-- GlacierMail.outIn -/
noncomputable def p2_s1371 : ck_Sum := ((2, 0, 0), 245, [.inr (.inr (.inl 1)), .inl ((-2147483648), 299, []), .inl (ck_one 0)], ([], [], []), ([], []), [(.inr (some (.inl ((-2147483648), 2147483647, []))), 245, ([], [], []))])
set_option maxRecDepth 100000 in
theorem p2_s1371_s {X : Int → Int} {LX : Nat} : ck_Ok p2_O X LX 47 p2_s1371 := ck_ok_s (O := p2_O) (X := X) (LX := LX) (E := [(9, [p2_s332]), (10, [p2_s350]), (28, [p2_s336])]) (mi := 47) (cuts := [(5, [some (.inr (.inr (.inl 1))), some (.inl ((-2147483648), 299, [])), some (.inl (ck_one 0)), some (.inl ((-2147483648), 2147483647, [])), some (.inl (0, 24, []))], ([], [], []), 100, .inl 4, true)]) (f := 182) (S := p2_s1371) (lx := none) (XF := []) ⟨p2_nmu, ck_E1 (ck_S1 p2_s332_s ck_S0) (ck_E1 (ck_S1 p2_s350_s ck_S0) (ck_E1 (ck_S1 p2_s336_s ck_S0) ck_E0))⟩ ck_X0 ck_l0 (by decide +kernel)
set_option maxRecDepth 100000 in
/-- GlacierMailModel.outsIn -/
noncomputable def p2_s1374 : ck_Sum := ((2, 0, 0), 245, [.inr (.inr (.inl 226)), .inl (0, 299, []), .inl ((-1), 7, []), .inl (0, 1, [])], ([], [], [(227, 4, 4, (0, 24, [(22, 0)]))]), ([], []), [(.inr (some (.inl ((-2147483648), 2147483647, []))), 245, ([], [], []))])
set_option maxRecDepth 100000 in
theorem p2_s1374_s {X : Int → Int} {LX : Nat} : ck_Ok p2_O X LX 333 p2_s1374 := ck_ok_s (O := p2_O) (X := X) (LX := LX) (E := [(254, [p2_s176]), (303, [p2_s374]), (301, [p2_s375])]) (mi := 333) (cuts := [(6, [some (.inr (.inr (.inl 226))), some (.inl (0, 299, [])), some (.inl ((-1), 7, [])), some (.inl (0, 1, [])), some (.inl ((-2147483648), 2147483647, [])), some (.inl (0, 24, []))], ([], [], [(227, 4, 4, (0, 24, [(22, 0)]))]), 100, .inl 5, true)]) (f := 218) (S := p2_s1374) (lx := none) (XF := []) ⟨p2_nmu, ck_E1 (ck_S1 p2_s176_s ck_S0) (ck_E1 (ck_S1 p2_s374_s ck_S0) (ck_E1 (ck_S1 p2_s375_s ck_S0) ck_E0))⟩ ck_X0 ck_l0 (by decide +kernel)
set_option maxRecDepth 100000 in
/-- GlacierMail.passes -/
noncomputable def p2_s1376 : ck_Sum := ((8, 1, 6), 245, [.inr (.inr (.inl 1)), .inl ((-2147483648), (-1), [])], ([], [], []), ([], []), [(.inl 3, 245, ([], [], []))])
set_option maxRecDepth 100000 in
theorem p2_s1376_s {X : Int → Int} {LX : Nat} : ck_Ok p2_O X LX 179 p2_s1376 := ck_ok_s (O := p2_O) (X := X) (LX := LX) (E := [(143, [p2_s387])]) (mi := 179) (cuts := []) (f := 76) (S := p2_s1376) (lx := none) (XF := []) ⟨p2_nmu, ck_E1 (ck_S1 p2_s387_s ck_S0) ck_E0⟩ ck_X0 ck_l0 (by decide +kernel)
set_option maxRecDepth 100000 in
/-- GlacierMail.passes -/
noncomputable def p2_s1377 : ck_Sum := ((8, 1, 6), 245, [.inr (.inr (.inl 1)), .inl (24, 2147483647, [])], ([], [], []), ([], []), [(.inl 3, 245, ([], [], []))])
set_option maxRecDepth 100000 in
theorem p2_s1377_s {X : Int → Int} {LX : Nat} : ck_Ok p2_O X LX 179 p2_s1377 := ck_ok_s (O := p2_O) (X := X) (LX := LX) (E := [(143, [p2_s390])]) (mi := 179) (cuts := []) (f := 76) (S := p2_s1377) (lx := none) (XF := []) ⟨p2_nmu, ck_E1 (ck_S1 p2_s390_s ck_S0) ck_E0⟩ ck_X0 ck_l0 (by decide +kernel)
set_option maxRecDepth 100000 in
/-- GlacierMail.sameLane -/
noncomputable def p2_s1378 : ck_Sum := ((1, 0, 0), 245, [.inr (.inr (.inl 1)), .inl (0, 23, []), .inl (0, 23, [])], ([], [], []), ([], []), [(.inr (some (.inl (ck_one 0))), 245, ([], [], [])), (.inr (some (.inl (ck_one 1))), 245, ([], [], []))])
set_option maxRecDepth 100000 in
theorem p2_s1378_s {X : Int → Int} {LX : Nat} : ck_Ok p2_O X LX 180 p2_s1378 := ck_ok_s (O := p2_O) (X := X) (LX := LX) (E := [(10, [p2_s335])]) (mi := 180) (cuts := []) (f := 102) (S := p2_s1378) (lx := none) (XF := []) ⟨p2_nmu, ck_E1 (ck_S1 p2_s335_s ck_S0) ck_E0⟩ ck_X0 ck_l0 (by decide +kernel)
set_option maxRecDepth 100000 in
/-- GlacierMail$Way.start -/
noncomputable def p2_s1379 : ck_Sum := ((0, 0, 0), 245, [.inr (.inr (.inl 207)), .inl ((-1), 299, []), .inl ((-1), 299, []), .inl ((-1), 299, []), .inl (ck_one 0)], ([], [], []), ([(207, 2, 8)], []), [(.inr none, 245, ([], [], zl190))])
set_option maxRecDepth 100000 in
theorem p2_s1379_s {X : Int → Int} {LX : Nat} : ck_Ok p2_O X LX 29 p2_s1379 := ck_ok_s (O := p2_O) (X := X) (LX := LX) (E := []) (mi := 29) (cuts := []) (f := 114) (S := p2_s1379) (lx := none) (XF := []) ⟨p2_nmu, ck_E0⟩ ck_X0 ck_l0 (by decide +kernel)
set_option maxRecDepth 100000 in
/-- GlacierMail$Way.start -/
noncomputable def p2_s1380 : ck_Sum := ((0, 0, 0), 245, [.inr (.inr (.inl 207)), .inl ((-1), 299, []), .inl ((-1), 299, []), .inl ((-1), 299, []), .inl (ck_one 1)], ([], [], []), ([(207, 2, 8)], []), [(.inr none, 245, ([], [], zl191))])
set_option maxRecDepth 100000 in
theorem p2_s1380_s {X : Int → Int} {LX : Nat} : ck_Ok p2_O X LX 29 p2_s1380 := ck_ok_s (O := p2_O) (X := X) (LX := LX) (E := []) (mi := 29) (cuts := []) (f := 114) (S := p2_s1380) (lx := none) (XF := []) ⟨p2_nmu, ck_E0⟩ ck_X0 ck_l0 (by decide +kernel)
set_option maxRecDepth 100000 in
/-- GlacierMail$Way.startLetter -/
noncomputable def p2_s1381 : ck_Sum := ((2, 0, 0), 245, [.inr (.inr (.inl 207)), .inl (0, 23, [])], ([], [], []), ([(207, 2, 8)], []), [(.inr none, 245, ([], [], zl192))])
set_option maxRecDepth 100000 in
theorem p2_s1381_s {X : Int → Int} {LX : Nat} : ck_Ok p2_O X LX 27 p2_s1381 := ck_ok_s (O := p2_O) (X := X) (LX := LX) (E := [(10, [p2_s335]), (28, [p2_s336]), (29, [p2_s1379, p2_s1380])]) (mi := 27) (cuts := []) (f := 116) (S := p2_s1381) (lx := none) (XF := []) ⟨p2_nmu, ck_E1 (ck_S1 p2_s335_s ck_S0) (ck_E1 (ck_S1 p2_s336_s ck_S0) (ck_E1 (ck_S1 p2_s1379_s (ck_S1 p2_s1380_s ck_S0)) ck_E0))⟩ ck_X0 ck_l0 (by decide +kernel)
set_option maxRecDepth 100000 in
/-- GlacierMail$Way.isOut -/
noncomputable def p2_s1382 : ck_Sum := ((0, 0, 0), 245, [.inr (.inr (.inl 207))], ([], [], []), ([], []), [(.inr (some (.inl (ck_one 0))), 245, ([], [], [(207, 5, 5, ((-2147483648), 98, []))])), (.inr (some (.inl (ck_one 1))), 245, ([], [], [(207, 5, 5, (10, 2147483647, []))]))])
set_option maxRecDepth 100000 in
theorem p2_s1382_s {X : Int → Int} {LX : Nat} : ck_Ok p2_O X LX 31 p2_s1382 := ck_ok_s (O := p2_O) (X := X) (LX := LX) (E := []) (mi := 31) (cuts := []) (f := 88) (S := p2_s1382) (lx := none) (XF := []) ⟨p2_nmu, ck_E0⟩ ck_X0 ck_l0 (by decide +kernel)
set_option maxRecDepth 100000 in
/-- GlacierMail$Way.deepAfter -/
noncomputable def p2_s1383 : ck_Sum := ((1, 0, 0), 245, [.inr (.inr (.inl 207))], ([], [], []), ([], []), [(.inr (some (.inl (0, 99, []))), 245, ([], [], []))])
set_option maxRecDepth 100000 in
theorem p2_s1383_s {X : Int → Int} {LX : Nat} : ck_Ok p2_O X LX 33 p2_s1383 := ck_ok_s (O := p2_O) (X := X) (LX := LX) (E := [(34, [p2_s341])]) (mi := 33) (cuts := []) (f := 110) (S := p2_s1383) (lx := none) (XF := []) ⟨p2_nmu, ck_E1 (ck_S1 p2_s341_s ck_S0) ck_E0⟩ ck_X0 ck_l0 (by decide +kernel)
set_option maxRecDepth 100000 in
/-- GlacierMail$Way.takeFloods -/
noncomputable def p2_s1384 : ck_Sum := ((1, 0, 0), 245, [.inr (.inr (.inl 207))], ([], [], []), ([(207, 5, 5), (207, 8, 8)], []), [(.inr none, 245, ([], [], []))])
set_option maxRecDepth 100000 in
theorem p2_s1384_s {X : Int → Int} {LX : Nat} : ck_Ok p2_O X LX 43 p2_s1384 := ck_ok_s (O := p2_O) (X := X) (LX := LX) (E := [(44, [p2_s343]), (9, [p2_s139]), (10, [p2_s140])]) (mi := 43) (cuts := [(22, [some (.inr (.inr (.inl 207))), some (.inr (.inr (.inl 6))), some (.inl ((-2147483648), 2147483647, [])), some (.inl (0, 9, [])), none], ([], [], []), 100, .inl 3, true)]) (f := 290) (S := p2_s1384) (lx := none) (XF := []) ⟨p2_nmu, ck_E1 (ck_S1 p2_s343_s ck_S0) (ck_E1 (ck_S1 p2_s139_s ck_S0) (ck_E1 (ck_S1 p2_s140_s ck_S0) ck_E0))⟩ ck_X0 ck_l0 (by decide +kernel)
set_option maxRecDepth 100000 in
/-- GlacierMail$Way.step -/
noncomputable def p2_s1385 : ck_Sum := ((2, 0, 0), 245, [.inr (.inr (.inl 207))], ([], [(3, 8, 0)], []), ([(207, 5, 8)], []), [(.inr none, 245, ([], [], []))])
set_option maxRecDepth 100000 in
theorem p2_s1385_s {X : Int → Int} {LX : Nat} : ck_Ok p2_O X LX 32 p2_s1385 := ck_ok_s (O := p2_O) (X := X) (LX := LX) (E := [(31, [p2_s1382]), (33, [p2_s1383]), (35, [p2_s308]), (43, [p2_s1384])]) (mi := 32) (cuts := []) (f := 134) (S := p2_s1385) (lx := none) (XF := []) ⟨p2_nmu, ck_E1 (ck_S1 p2_s1382_s ck_S0) (ck_E1 (ck_S1 p2_s1383_s ck_S0) (ck_E1 (ck_S1 p2_s308_s ck_S0) (ck_E1 (ck_S1 p2_s1384_s ck_S0) ck_E0)))⟩ ck_X0 ck_l0 (by decide +kernel)
set_option maxRecDepth 100000 in
/-- GlacierMail$Way.goOnTo -/
noncomputable def p2_s1386 : ck_Sum := ((3, 0, 0), 245, [.inr (.inr (.inl 207)), .inl (0, 299, [])], ([], [(3, 8, 0)], []), ([(207, 5, 8)], []), [(.inr none, 245, ([], [], []))])
set_option maxRecDepth 100000 in
theorem p2_s1386_s {X : Int → Int} {LX : Nat} : ck_Ok p2_O X LX 148 p2_s1386 := ck_ok_s (O := p2_O) (X := X) (LX := LX) (E := [(32, [p2_s1385])]) (mi := 148) (cuts := [(5, [some (.inr (.inr (.inl 207))), some (.inl (0, 299, [])), some (.inl ((-2147483648), 2147483647, []))], ([], [(3, 8, 0)], []), 100, .inl 2, true)]) (f := 122) (S := p2_s1386) (lx := none) (XF := []) ⟨p2_nmu, ck_E1 (ck_S1 p2_s1385_s ck_S0) ck_E0⟩ ck_X0 ck_l0 (by decide +kernel)
set_option maxRecDepth 100000 in
/-- GlacierMail.startBoth -/
noncomputable def p2_s1387 : ck_Sum := ((4, 0, 0), 245, [.inr (.inr (.inl 1)), .inl (0, 23, []), .inl (0, 23, []), .inl (ck_one 0)], ([], [(3, 8, 0)], []), ([(206, 2, 8), (207, 2, 8)], []), [(.inr (some (.inl (0, 299, []))), 245, ([], [], zl86))])
set_option maxRecDepth 100000 in
theorem p2_s1387_s {X : Int → Int} {LX : Nat} : ck_Ok p2_O X LX 182 p2_s1387 := ck_ok_s (O := p2_O) (X := X) (LX := LX) (E := [(27, [p2_s339, p2_s1381]), (148, [p2_s421, p2_s1386])]) (mi := 182) (cuts := []) (f := 126) (S := p2_s1387) (lx := none) (XF := []) ⟨p2_nmu, ck_E1 (ck_S1 p2_s339_s (ck_S1 p2_s1381_s ck_S0)) (ck_E1 (ck_S1 p2_s421_s (ck_S1 p2_s1386_s ck_S0)) ck_E0)⟩ ck_X0 ck_l0 (by decide +kernel)
set_option maxRecDepth 100000 in
/-- GlacierMail.bothInIce -/
noncomputable def p2_s1388 : ck_Sum := ((1, 0, 0), 245, [.inr (.inr (.inl 1))], ([], [], []), ([], []), [(.inr (some (.inl (ck_one 1))), 245, ([], [], zl193)), (.inr (some (.inl (ck_one 0))), 245, ([], [], []))])
set_option maxRecDepth 100000 in
theorem p2_s1388_s {X : Int → Int} {LX : Nat} : ck_Ok p2_O X LX 183 p2_s1388 := ck_ok_s (O := p2_O) (X := X) (LX := LX) (E := [(31, [p2_s340, p2_s1382])]) (mi := 183) (cuts := []) (f := 92) (S := p2_s1388) (lx := none) (XF := []) ⟨p2_nmu, ck_E1 (ck_S1 p2_s340_s (ck_S1 p2_s1382_s ck_S0)) ck_E0⟩ ck_X0 ck_l0 (by decide +kernel)
set_option maxRecDepth 100000 in
/-- GlacierMail.stepBoth -/
noncomputable def p2_s1389 : ck_Sum := ((3, 0, 0), 245, [.inr (.inr (.inl 1))], ([], [(3, 8, 0)], []), ([(206, 5, 8), (207, 5, 8)], []), [(.inr none, 245, ([], [], []))])
set_option maxRecDepth 100000 in
theorem p2_s1389_s {X : Int → Int} {LX : Nat} : ck_Ok p2_O X LX 184 p2_s1389 := ck_ok_s (O := p2_O) (X := X) (LX := LX) (E := [(32, [p2_s345, p2_s1385])]) (mi := 184) (cuts := []) (f := 84) (S := p2_s1389) (lx := none) (XF := []) ⟨p2_nmu, ck_E1 (ck_S1 p2_s345_s (ck_S1 p2_s1385_s ck_S0)) ck_E0⟩ ck_X0 ck_l0 (by decide +kernel)
set_option maxRecDepth 100000 in
/-- GlacierMail.passesBy -/
noncomputable def p2_s1390 : ck_Sum := ((5, 0, 0), 245, [.inr (.inr (.inl 1)), .inl (0, 23, []), .inl (0, 23, [])], ([], [(3, 8, 0)], []), ([(206, 2, 8), (207, 2, 8)], []), [(.inr (some (.inl (ck_one 0))), 245, ([], [], zl86)), (.inr (some (.inl (ck_one 1))), 245, ([], [], zl194))])
set_option maxRecDepth 100000 in
theorem p2_s1390_s {X : Int → Int} {LX : Nat} : ck_Ok p2_O X LX 181 p2_s1390 := ck_ok_s (O := p2_O) (X := X) (LX := LX) (E := [(182, [p2_s1387]), (183, [p2_s1388]), (184, [p2_s1389])]) (mi := 181) (cuts := [(39, [some (.inr (.inr (.inl 1))), some (.inl (0, 23, [])), some (.inl (0, 23, [])), some (.inl (0, 299, [])), some (.inl (1, 300, []))], ([], [(3, 8, 0)], [(207, 5, 5, ((-2147483648), 98, [])), (206, 5, 5, ((-2147483648), 98, [])), (206, 4, 4, ck_one (-1)), (206, 2, 2, ((-1), 299, []))]), 100, .inl 4, true)]) (f := 174) (S := p2_s1390) (lx := none) (XF := []) ⟨p2_nmu, ck_E1 (ck_S1 p2_s1387_s ck_S0) (ck_E1 (ck_S1 p2_s1388_s ck_S0) (ck_E1 (ck_S1 p2_s1389_s ck_S0) ck_E0))⟩ ck_X0 ck_l0 (by decide +kernel)
set_option maxRecDepth 100000 in
/-- GlacierMail.passes -/
noncomputable def p2_s1391 : ck_Sum := ((8, 1, 6), 245, [.inr (.inr (.inl 1)), .inl (0, 23, [])], ([], [(3, 8, 0)], []), ([(206, 2, 8), (207, 2, 8)], []), [(.inl 3, 245, ([], [], [])), (.inr (some (.inl ((-2147483648), 2147483647, []))), 245, ([], [], []))])
set_option maxRecDepth 100000 in
theorem p2_s1391_s {X : Int → Int} {LX : Nat} : ck_Ok p2_O X LX 179 p2_s1391 := ck_ok_s (O := p2_O) (X := X) (LX := LX) (E := [(143, [p2_s393]), (9, [p2_s331]), (180, [p2_s1378]), (181, [p2_s1390])]) (mi := 179) (cuts := [(9, [some (.inr (.inr (.inl 1))), some (.inl (0, 23, [])), some (.inl ((-2147483648), 2147483647, [])), some (.inl (0, 24, []))], ([], [(3, 8, 0)], []), 100, .inl 3, true)]) (f := 182) (S := p2_s1391) (lx := none) (XF := []) ⟨p2_nmu, ck_E1 (ck_S1 p2_s393_s ck_S0) (ck_E1 (ck_S1 p2_s331_s ck_S0) (ck_E1 (ck_S1 p2_s1378_s ck_S0) (ck_E1 (ck_S1 p2_s1390_s ck_S0) ck_E0)))⟩ ck_X0 ck_l0 (by decide +kernel)
set_option maxRecDepth 100000 in
/-- GlacierMailModel.passes -/
noncomputable def p2_s1392 : ck_Sum := ((2, 0, 0), 245, [.inr (.inr (.inl 226)), .inl ((-2147483648), (-1), [])], ([], [], [(227, 4, 4, (0, 24, [(22, 0)]))]), ([(226, 0, 0)], []), [(.inr (some (.inl (ck_one 0))), 245, ([], [], [(226, 0, 0, ck_one 1)]))])
set_option maxRecDepth 100000 in
theorem p2_s1392_s {X : Int → Int} {LX : Nat} : ck_Ok p2_O X LX 334 p2_s1392 := ck_ok_s (O := p2_O) (X := X) (LX := LX) (E := [(309, [p2_s400]), (282, [p2_s241])]) (mi := 334) (cuts := []) (f := 94) (S := p2_s1392) (lx := none) (XF := []) ⟨p2_nmu, ck_E1 (ck_S1 p2_s400_s ck_S0) (ck_E1 (ck_S1 p2_s241_s ck_S0) ck_E0)⟩ ck_X0 ck_l0 (by decide +kernel)
set_option maxRecDepth 100000 in
/-- GlacierMailModel.passes -/
noncomputable def p2_s1393 : ck_Sum := ((2, 0, 0), 245, [.inr (.inr (.inl 226)), .inl (24, 2147483647, [])], ([], [], [(227, 4, 4, (0, 24, [(22, 0)]))]), ([(226, 0, 0)], []), [(.inr (some (.inl (ck_one 0))), 245, ([], [], [(226, 0, 0, ck_one 1)]))])
set_option maxRecDepth 100000 in
theorem p2_s1393_s {X : Int → Int} {LX : Nat} : ck_Ok p2_O X LX 334 p2_s1393 := ck_ok_s (O := p2_O) (X := X) (LX := LX) (E := [(309, [p2_s403]), (282, [p2_s241])]) (mi := 334) (cuts := []) (f := 94) (S := p2_s1393) (lx := none) (XF := []) ⟨p2_nmu, ck_E1 (ck_S1 p2_s403_s ck_S0) (ck_E1 (ck_S1 p2_s241_s ck_S0) ck_E0)⟩ ck_X0 ck_l0 (by decide +kernel)
set_option maxRecDepth 100000 in
/-- GlacierMailModel.keepsRows -/
noncomputable def p2_s1394 : ck_Sum := ((0, 0, 0), 245, [.inr (.inr (.inl 226))], ([], [], []), ([(239, 0, 299)], []), [(.inr none, 245, ([], [], []))])
set_option maxRecDepth 100000 in
theorem p2_s1394_s {X : Int → Int} {LX : Nat} : ck_Ok p2_O X LX 335 p2_s1394 := ck_ok_s (O := p2_O) (X := X) (LX := LX) (E := []) (mi := 335) (cuts := [(2, [some (.inr (.inr (.inl 226))), some (.inl (0, 300, []))], ([], [], []), 100, .inl 1, true)]) (f := 146) (S := p2_s1394) (lx := none) (XF := []) ⟨p2_nmu, ck_E0⟩ ck_X0 ck_l0 (by decide +kernel)
set_option maxRecDepth 100000 in
/-- GlacierMailModel.isOtherInIce -/
noncomputable def p2_s1395 : ck_Sum := ((1, 0, 0), 245, [.inr (.inr (.inl 226)), .inl (0, 299, [])], ([], [], []), ([], []), [(.inr (some (.inl (ck_one 0))), 245, ([], [], [])), (.inr (some (.inl (ck_one 1))), 245, ([], [], []))])
set_option maxRecDepth 100000 in
theorem p2_s1395_s {X : Int → Int} {LX : Nat} : ck_Ok p2_O X LX 337 p2_s1395 := ck_ok_s (O := p2_O) (X := X) (LX := LX) (E := [(259, [p2_s180])]) (mi := 337) (cuts := []) (f := 100) (S := p2_s1395) (lx := none) (XF := []) ⟨p2_nmu, ck_E1 (ck_S1 p2_s180_s ck_S0) ck_E0⟩ ck_X0 ck_l0 (by decide +kernel)
set_option maxRecDepth 100000 in
/-- GlacierMailModel.isOtherInIce -/
noncomputable def p2_s1396 : ck_Sum := ((1, 0, 0), 245, [.inr (.inr (.inl 226)), .inl (1, 299, [])], ([], [], []), ([], []), [(.inr (some (.inl (ck_one 0))), 245, ([], [], [])), (.inr (some (.inl (ck_one 1))), 245, ([], [], []))])
set_option maxRecDepth 100000 in
theorem p2_s1396_s {X : Int → Int} {LX : Nat} : ck_Ok p2_O X LX 337 p2_s1396 := ck_ok_s (O := p2_O) (X := X) (LX := LX) (E := [(259, [p2_s180])]) (mi := 337) (cuts := []) (f := 100) (S := p2_s1396) (lx := none) (XF := []) ⟨p2_nmu, ck_E1 (ck_S1 p2_s180_s ck_S0) ck_E0⟩ ck_X0 ck_l0 (by decide +kernel)
set_option maxRecDepth 100000 in
/-- GlacierMailModel.isPassing -/
noncomputable def p2_s1397 : ck_Sum := ((2, 0, 0), 245, [.inr (.inr (.inl 226)), .inl (0, 299, [])], ([], [], []), ([], []), [(.inr (some (.inl (ck_one 0))), 245, ([], [], [])), (.inr (some (.inl (ck_one 1))), 245, ([], [], []))])
set_option maxRecDepth 100000 in
theorem p2_s1397_s {X : Int → Int} {LX : Nat} : ck_Ok p2_O X LX 336 p2_s1397 := ck_ok_s (O := p2_O) (X := X) (LX := LX) (E := [(312, [p2_s412]), (337, [p2_s1395, p2_s1396])]) (mi := 336) (cuts := [(37, [some (.inr (.inr (.inl 226))), some (.inl (0, 299, [])), some (.inl (1, 300, []))], ([], [], []), 100, .inl 2, true)]) (f := 182) (S := p2_s1397) (lx := none) (XF := []) ⟨p2_nmu, ck_E1 (ck_S1 p2_s412_s ck_S0) (ck_E1 (ck_S1 p2_s1395_s (ck_S1 p2_s1396_s ck_S0)) ck_E0)⟩ ck_X0 ck_l0 (by decide +kernel)
set_option maxRecDepth 100000 in
/-- GlacierMail.writers -/
noncomputable def p2_s1399 : ck_Sum := ((8, 1, 6), 245, [.inr (.inr (.inl 1)), .inl ((-2147483648), (-1), []), .inl ((-2147483648), 2147483647, []), .inl ((-2147483648), 2147483647, [])], ([], [], []), ([], []), [(.inl 3, 245, ([], [], []))])
set_option maxRecDepth 100000 in
theorem p2_s1399_s {X : Int → Int} {LX : Nat} : ck_Ok p2_O X LX 186 p2_s1399 := ck_ok_s (O := p2_O) (X := X) (LX := LX) (E := [(132, [p2_s266])]) (mi := 186) (cuts := []) (f := 76) (S := p2_s1399) (lx := none) (XF := []) ⟨p2_nmu, ck_E1 (ck_S1 p2_s266_s ck_S0) ck_E0⟩ ck_X0 ck_l0 (by decide +kernel)
set_option maxRecDepth 100000 in
/-- GlacierMail.writers -/
noncomputable def p2_s1400 : ck_Sum := ((8, 1, 6), 245, [.inr (.inr (.inl 1)), .inl (6, 2147483647, []), .inl ((-2147483648), 2147483647, []), .inl ((-2147483648), 2147483647, [])], ([], [], []), ([], []), [(.inl 3, 245, ([], [], []))])
set_option maxRecDepth 100000 in
theorem p2_s1400_s {X : Int → Int} {LX : Nat} : ck_Ok p2_O X LX 186 p2_s1400 := ck_ok_s (O := p2_O) (X := X) (LX := LX) (E := [(132, [p2_s269])]) (mi := 186) (cuts := []) (f := 76) (S := p2_s1400) (lx := none) (XF := []) ⟨p2_nmu, ck_E1 (ck_S1 p2_s269_s ck_S0) ck_E0⟩ ck_X0 ck_l0 (by decide +kernel)
set_option maxRecDepth 100000 in
/-- GlacierMail.needFind -/
noncomputable def p2_s1401 : ck_Sum := ((7, 1, 6), 245, [.inr (.inr (.inl 1)), .inl ((-2147483648), (-1), []), .inl ((-2147483648), 2147483647, [])], ([], [], []), ([], []), [(.inl 0, 245, ([], [], []))])
set_option maxRecDepth 100000 in
theorem p2_s1401_s {X : Int → Int} {LX : Nat} : ck_Ok p2_O X LX 187 p2_s1401 := ck_ok_s (O := p2_O) (X := X) (LX := LX) (E := [(129, [p2_s249])]) (mi := 187) (cuts := []) (f := 76) (S := p2_s1401) (lx := none) (XF := []) ⟨p2_nmu, ck_E1 (ck_S1 p2_s249_s ck_S0) ck_E0⟩ ck_X0 ck_l0 (by decide +kernel)
set_option maxRecDepth 100000 in
/-- GlacierMail.writers -/
noncomputable def p2_s1402 : ck_Sum := ((8, 2, 12), 245, [.inr (.inr (.inl 1)), .inl (0, 5, []), .inl ((-2147483648), (-1), []), .inl ((-2147483648), 2147483647, [])], ([], [], []), ([], []), [(.inl 3, 245, ([], [], [])), (.inl 0, 245, ([], [], []))])
set_option maxRecDepth 100000 in
theorem p2_s1402_s {X : Int → Int} {LX : Nat} : ck_Ok p2_O X LX 186 p2_s1402 := ck_ok_s (O := p2_O) (X := X) (LX := LX) (E := [(132, [p2_s272]), (187, [p2_s1401])]) (mi := 186) (cuts := []) (f := 84) (S := p2_s1402) (lx := none) (XF := []) ⟨p2_nmu, ck_E1 (ck_S1 p2_s272_s ck_S0) (ck_E1 (ck_S1 p2_s1401_s ck_S0) ck_E0)⟩ ck_X0 ck_l0 (by decide +kernel)
set_option maxRecDepth 100000 in
/-- GlacierMail.needFind -/
noncomputable def p2_s1403 : ck_Sum := ((7, 1, 6), 245, [.inr (.inr (.inl 1)), .inl (300, 2147483647, []), .inl ((-2147483648), 2147483647, [])], ([], [], []), ([], []), [(.inl 0, 245, ([], [], []))])
set_option maxRecDepth 100000 in
theorem p2_s1403_s {X : Int → Int} {LX : Nat} : ck_Ok p2_O X LX 187 p2_s1403 := ck_ok_s (O := p2_O) (X := X) (LX := LX) (E := [(129, [p2_s251])]) (mi := 187) (cuts := []) (f := 76) (S := p2_s1403) (lx := none) (XF := []) ⟨p2_nmu, ck_E1 (ck_S1 p2_s251_s ck_S0) ck_E0⟩ ck_X0 ck_l0 (by decide +kernel)
set_option maxRecDepth 100000 in
/-- GlacierMail.writers -/
noncomputable def p2_s1404 : ck_Sum := ((8, 2, 12), 245, [.inr (.inr (.inl 1)), .inl (0, 5, []), .inl (300, 2147483647, []), .inl ((-2147483648), 2147483647, [])], ([], [], []), ([], []), [(.inl 3, 245, ([], [], [])), (.inl 0, 245, ([], [], []))])
set_option maxRecDepth 100000 in
theorem p2_s1404_s {X : Int → Int} {LX : Nat} : ck_Ok p2_O X LX 186 p2_s1404 := ck_ok_s (O := p2_O) (X := X) (LX := LX) (E := [(132, [p2_s272]), (187, [p2_s1403])]) (mi := 186) (cuts := []) (f := 84) (S := p2_s1404) (lx := none) (XF := []) ⟨p2_nmu, ck_E1 (ck_S1 p2_s272_s ck_S0) (ck_E1 (ck_S1 p2_s1403_s ck_S0) ck_E0)⟩ ck_X0 ck_l0 (by decide +kernel)
set_option maxRecDepth 100000 in
/-- GlacierMail.needFind -/
noncomputable def p2_s1405 : ck_Sum := ((6, 1, 6), 245, [.inr (.inr (.inl 1)), .inl (0, 299, []), .inl ((-2147483648), (-1), [])], ([], [], []), ([], []), [(.inl 0, 245, ([], [], []))])
set_option maxRecDepth 100000 in
theorem p2_s1405_s {X : Int → Int} {LX : Nat} : ck_Ok p2_O X LX 187 p2_s1405 := ck_ok_s (O := p2_O) (X := X) (LX := LX) (E := [(129, [p2_s253])]) (mi := 187) (cuts := []) (f := 82) (S := p2_s1405) (lx := none) (XF := []) ⟨p2_nmu, ck_E1 (ck_S1 p2_s253_s ck_S0) ck_E0⟩ ck_X0 ck_l0 (by decide +kernel)
