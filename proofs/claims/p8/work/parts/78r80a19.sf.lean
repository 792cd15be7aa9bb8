/-! EVERY CALL ENDS, whatever was done before (laid by wip/am/p2k.py). -/
set_option maxRecDepth 100000 in
/-- GlacierMail.soonest -/
noncomputable def p2_s1488 : ck_Sum := ((8, 1, 6), 245, [.inr (.inr (.inl 1)), .inl ((-2147483648), (-1), []), .inl ((-2147483648), 2147483647, []), .inl (0, 1, [])], ([], [], []), ([], []), [(.inl 3, 245, ([], [], []))])
set_option maxRecDepth 100000 in
theorem p2_s1488_s {X : Int → Int} {LX : Nat} : ck_Ok p2_O X LX 201 p2_s1488 := ck_ok_s (O := p2_O) (X := X) (LX := LX) (E := [(139, [p2_s322])]) (mi := 201) (cuts := []) (f := 76) (S := p2_s1488) (lx := none) (XF := []) ⟨p2_nmu, ck_E1 (ck_S1 p2_s322_s ck_S0) ck_E0⟩ ck_X0 ck_l0 (by decide +kernel)
set_option maxRecDepth 100000 in
/-- GlacierMail.soonest -/
noncomputable def p2_s1489 : ck_Sum := ((8, 1, 6), 245, [.inr (.inr (.inl 1)), .inl (8, 2147483647, []), .inl ((-2147483648), 2147483647, []), .inl (0, 1, [])], ([], [], []), ([], []), [(.inl 3, 245, ([], [], []))])
set_option maxRecDepth 100000 in
theorem p2_s1489_s {X : Int → Int} {LX : Nat} : ck_Ok p2_O X LX 201 p2_s1489 := ck_ok_s (O := p2_O) (X := X) (LX := LX) (E := [(139, [p2_s325])]) (mi := 201) (cuts := []) (f := 76) (S := p2_s1489) (lx := none) (XF := []) ⟨p2_nmu, ck_E1 (ck_S1 p2_s325_s ck_S0) ck_E0⟩ ck_X0 ck_l0 (by decide +kernel)
set_option maxRecDepth 100000 in
/-- GlacierMail.soonest -/
noncomputable def p2_s1490 : ck_Sum := ((8, 2, 12), 245, [.inr (.inr (.inl 1)), .inl (0, 7, []), .inl ((-2147483648), (-1), []), .inl (0, 1, [])], ([], [], []), ([], []), [(.inl 3, 245, ([], [], []))])
set_option maxRecDepth 100000 in
theorem p2_s1490_s {X : Int → Int} {LX : Nat} : ck_Ok p2_O X LX 201 p2_s1490 := ck_ok_s (O := p2_O) (X := X) (LX := LX) (E := [(139, [p2_s328, p2_s322])]) (mi := 201) (cuts := []) (f := 82) (S := p2_s1490) (lx := none) (XF := []) ⟨p2_nmu, ck_E1 (ck_S1 p2_s328_s (ck_S1 p2_s322_s ck_S0)) ck_E0⟩ ck_X0 ck_l0 (by decide +kernel)
set_option maxRecDepth 100000 in
/-- GlacierMail.soonest -/
noncomputable def p2_s1491 : ck_Sum := ((8, 2, 12), 245, [.inr (.inr (.inl 1)), .inl (0, 7, []), .inl (8, 2147483647, []), .inl (0, 1, [])], ([], [], []), ([], []), [(.inl 3, 245, ([], [], []))])
set_option maxRecDepth 100000 in
theorem p2_s1491_s {X : Int → Int} {LX : Nat} : ck_Ok p2_O X LX 201 p2_s1491 := ck_ok_s (O := p2_O) (X := X) (LX := LX) (E := [(139, [p2_s328, p2_s325])]) (mi := 201) (cuts := []) (f := 82) (S := p2_s1491) (lx := none) (XF := []) ⟨p2_nmu, ck_E1 (ck_S1 p2_s328_s (ck_S1 p2_s325_s ck_S0)) ck_E0⟩ ck_X0 ck_l0 (by decide +kernel)
set_option maxRecDepth 100000 in
/-- java/util/Arrays.fill -/
noncomputable def p2_s1492 : ck_Sum := ((0, 0, 0), 245, [.inr (.inr (.inl 210)), .inl (ck_one 0)], ([], [], []), ([(210, 0, 2399)], []), [(.inr none, 245, ([], [], []))])
set_option maxRecDepth 100000 in
theorem p2_s1492_s {X : Int → Int} {LX : Nat} : ck_Ok p2_O X LX 8 p2_s1492 := ck_ok_s (O := p2_O) (X := X) (LX := LX) (E := []) (mi := 8) (cuts := [(5, [some (.inr (.inr (.inl 210))), some (.inl (ck_one 0)), some (.inl (0, 2400, [])), some (.inl (ck_one 2400))], ([], [], []), 100, .inl 2, true)]) (f := 130) (S := p2_s1492) (lx := none) (XF := []) ⟨p2_nmu, ck_E0⟩ ck_X0 ck_l0 (by decide +kernel)
set_option maxRecDepth 100000 in
/-- GlacierMail$Rows.reset -/
noncomputable def p2_s1493 : ck_Sum := ((1, 0, 0), 245, [.inr (.inr (.inl 209)), .inl (0, 8, [])], ([], [], []), ([(209, 3, 3), (210, 0, 2399)], []), [(.inr none, 245, ([], [], []))])
set_option maxRecDepth 100000 in
theorem p2_s1493_s {X : Int → Int} {LX : Nat} : ck_Ok p2_O X LX 25 p2_s1493 := ck_ok_s (O := p2_O) (X := X) (LX := LX) (E := [(8, [p2_s1492])]) (mi := 25) (cuts := []) (f := 96) (S := p2_s1493) (lx := none) (XF := []) ⟨p2_nmu, ck_E1 (ck_S1 p2_s1492_s ck_S0) ck_E0⟩ ck_X0 ck_l0 (by decide +kernel)
set_option maxRecDepth 100000 in
/-- java/util/Arrays.fill -/
noncomputable def p2_s1494 : ck_Sum := ((0, 0, 0), 245, [.inr (.inr (.inl 212)), .inl (ck_one 0)], ([], [], []), ([(212, 0, 2399)], []), [(.inr none, 245, ([], [], []))])
set_option maxRecDepth 100000 in
theorem p2_s1494_s {X : Int → Int} {LX : Nat} : ck_Ok p2_O X LX 8 p2_s1494 := ck_ok_s (O := p2_O) (X := X) (LX := LX) (E := []) (mi := 8) (cuts := [(5, [some (.inr (.inr (.inl 212))), some (.inl (ck_one 0)), some (.inl (0, 2400, [])), some (.inl (ck_one 2400))], ([], [], []), 100, .inl 2, true)]) (f := 130) (S := p2_s1494) (lx := none) (XF := []) ⟨p2_nmu, ck_E0⟩ ck_X0 ck_l0 (by decide +kernel)
set_option maxRecDepth 100000 in
/-- GlacierMail$Rows.reset -/
noncomputable def p2_s1495 : ck_Sum := ((1, 0, 0), 245, [.inr (.inr (.inl 211)), .inl (0, 8, [])], ([], [], []), ([(211, 3, 3), (212, 0, 2399)], []), [(.inr none, 245, ([], [], []))])
set_option maxRecDepth 100000 in
theorem p2_s1495_s {X : Int → Int} {LX : Nat} : ck_Ok p2_O X LX 25 p2_s1495 := ck_ok_s (O := p2_O) (X := X) (LX := LX) (E := [(8, [p2_s1494])]) (mi := 25) (cuts := []) (f := 96) (S := p2_s1495) (lx := none) (XF := []) ⟨p2_nmu, ck_E1 (ck_S1 p2_s1494_s ck_S0) ck_E0⟩ ck_X0 ck_l0 (by decide +kernel)
set_option maxRecDepth 100000 in
/-- GlacierMail$Rows.get -/
noncomputable def p2_s1496 : ck_Sum := ((0, 0, 0), 245, [.inr (.inr (.inl 209)), .inl ((-2147483648), 2147483647, []), .inl ((-2147483648), 2147483647, [])], ([], [], []), ([], []), [(.inr (some (.inl ((-2147483648), 2147483647, []))), 245, ([], [], []))])
set_option maxRecDepth 100000 in
theorem p2_s1496_s {X : Int → Int} {LX : Nat} : ck_Ok p2_O X LX 10 p2_s1496 := ck_ok_s (O := p2_O) (X := X) (LX := LX) (E := []) (mi := 10) (cuts := []) (f := 114) (S := p2_s1496) (lx := none) (XF := []) ⟨p2_nmu, ck_E0⟩ ck_X0 ck_l0 (by decide +kernel)
set_option maxRecDepth 100000 in
/-- GlacierMail$Rows.put -/
noncomputable def p2_s1497 : ck_Sum := ((0, 0, 0), 245, [.inr (.inr (.inl 211)), .inl (0, 7, []), .inl (0, 299, []), .inl ((-2147483648), 299, [])], ([], [], []), ([(212, 0, 2399)], []), [(.inr none, 245, ([], [], []))])
set_option maxRecDepth 100000 in
theorem p2_s1497_s {X : Int → Int} {LX : Nat} : ck_Ok p2_O X LX 45 p2_s1497 := ck_ok_s (O := p2_O) (X := X) (LX := LX) (E := []) (mi := 45) (cuts := []) (f := 116) (S := p2_s1497) (lx := none) (XF := []) ⟨p2_nmu, ck_E0⟩ ck_X0 ck_l0 (by decide +kernel)
set_option maxRecDepth 100000 in
/-- GlacierMail$Rows.put -/
noncomputable def p2_s1498 : ck_Sum := ((0, 0, 0), 245, [.inr (.inr (.inl 209)), .inl (0, 7, []), .inl ((-2147483648), 299, []), .inl (ck_one 1)], ([], [], []), ([(210, 0, 2399)], []), [(.inr none, 245, ([], [], []))])
set_option maxRecDepth 100000 in
theorem p2_s1498_s {X : Int → Int} {LX : Nat} : ck_Ok p2_O X LX 45 p2_s1498 := ck_ok_s (O := p2_O) (X := X) (LX := LX) (E := []) (mi := 45) (cuts := []) (f := 116) (S := p2_s1498) (lx := none) (XF := []) ⟨p2_nmu, ck_E0⟩ ck_X0 ck_l0 (by decide +kernel)
set_option maxRecDepth 100000 in
/-- GlacierMail$Answers.throwAgain -/
noncomputable def p2_s1499 : ck_Sum := ((4, 0, 0), 245, [.inr (.inr (.inl 208)), .inl (0, 7, []), .inl (0, 299, []), .inl (ck_one 1), .inl (ck_one 299)], ([], [(3, 8, 0)], []), ([(206, 2, 8), (210, 0, 2399), (212, 0, 2399)], []), [(.inr none, 245, ([], [], [(206, 4, 4, ck_one (-1))]))])
set_option maxRecDepth 100000 in
theorem p2_s1499_s {X : Int → Int} {LX : Nat} : ck_Ok p2_O X LX 203 p2_s1499 := ck_ok_s (O := p2_O) (X := X) (LX := LX) (E := [(10, [p2_s356, p2_s1496]), (170, [p2_s1332]), (30, [p2_s346]), (45, [p2_s1497, p2_s1498]), (9, [p2_s320])]) (mi := 203) (cuts := [(59, [some (.inr (.inr (.inl 208))), some (.inl (0, 7, [])), some (.inl (0, 299, [])), some (.inl (ck_one 1)), some (.inl (ck_one 299)), some (.inr (.inr (.inl 8))), some (.inl ((-1), 98, [])), some (.inl ((-2147483648), 299, [])), some (.inl (0, 8, [])), none], ([], [(3, 8, 0)], [(206, 4, 4, ck_one (-1))]), 100, .inl 8, true)]) (f := 214) (S := p2_s1499) (lx := none) (XF := []) ⟨p2_nmu, ck_E1 (ck_S1 p2_s356_s (ck_S1 p2_s1496_s ck_S0)) (ck_E1 (ck_S1 p2_s1332_s ck_S0) (ck_E1 (ck_S1 p2_s346_s ck_S0) (ck_E1 (ck_S1 p2_s1497_s (ck_S1 p2_s1498_s ck_S0)) (ck_E1 (ck_S1 p2_s320_s ck_S0) ck_E0))))⟩ ck_X0 ck_l0 (by decide +kernel)
set_option maxRecDepth 100000 in
/-- GlacierMail$Rows.put -/
noncomputable def p2_s1500 : ck_Sum := ((0, 0, 0), 245, [.inr (.inr (.inl 211)), .inl (0, 7, []), .inl (2, 299, []), .inl ((-2147483648), 299, [])], ([], [], []), (zl198, []), [(.inr none, 245, ([], [], []))])
set_option maxRecDepth 100000 in
theorem p2_s1500_s {X : Int → Int} {LX : Nat} : ck_Ok p2_O X LX 45 p2_s1500 := ck_ok_s (O := p2_O) (X := X) (LX := LX) (E := []) (mi := 45) (cuts := []) (f := 116) (S := p2_s1500) (lx := none) (XF := []) ⟨p2_nmu, ck_E0⟩ ck_X0 ck_l0 (by decide +kernel)
set_option maxRecDepth 100000 in
/-- GlacierMail$Rows.put -/
noncomputable def p2_s1501 : ck_Sum := ((0, 0, 0), 245, [.inr (.inr (.inl 209)), .inl (0, 7, []), .inl ((-2147483648), 299, []), .inl ((-2147483648), 2147483647, [])], ([], [], []), ([(210, 0, 2399)], []), [(.inr none, 245, ([], [], []))])
set_option maxRecDepth 100000 in
theorem p2_s1501_s {X : Int → Int} {LX : Nat} : ck_Ok p2_O X LX 45 p2_s1501 := ck_ok_s (O := p2_O) (X := X) (LX := LX) (E := []) (mi := 45) (cuts := []) (f := 116) (S := p2_s1501) (lx := none) (XF := []) ⟨p2_nmu, ck_E0⟩ ck_X0 ck_l0 (by decide +kernel)
set_option maxRecDepth 100000 in
/-- GlacierMail$Answers.throwAgain -/
noncomputable def p2_s1502 : ck_Sum := ((4, 0, 0), 245, [.inr (.inr (.inl 208)), .inl (0, 7, []), .inl (2, 299, []), .inl ((-2147483648), 2147483647, []), .inl (ck_one 299)], ([], [(3, 8, 0)], []), (zl199, []), [(.inr none, 245, ([], [], [(206, 4, 4, ck_one (-1))]))])
set_option maxRecDepth 100000 in
theorem p2_s1502_s {X : Int → Int} {LX : Nat} : ck_Ok p2_O X LX 203 p2_s1502 := ck_ok_s (O := p2_O) (X := X) (LX := LX) (E := [(10, [p2_s356, p2_s1496]), (170, [p2_s1332]), (30, [p2_s346]), (45, [p2_s1500, p2_s1501]), (9, [p2_s320])]) (mi := 203) (cuts := [(59, [some (.inr (.inr (.inl 208))), some (.inl (0, 7, [])), some (.inl (2, 299, [])), some (.inl ((-2147483648), 2147483647, [])), some (.inl (ck_one 299)), some (.inr (.inr (.inl 8))), some (.inl ((-1), 98, [])), some (.inl ((-2147483648), 299, [])), some (.inl (0, 8, [])), none], ([], [(3, 8, 0)], [(206, 4, 4, ck_one (-1))]), 100, .inl 8, true)]) (f := 214) (S := p2_s1502) (lx := none) (XF := []) ⟨p2_nmu, ck_E1 (ck_S1 p2_s356_s (ck_S1 p2_s1496_s ck_S0)) (ck_E1 (ck_S1 p2_s1332_s ck_S0) (ck_E1 (ck_S1 p2_s346_s ck_S0) (ck_E1 (ck_S1 p2_s1500_s (ck_S1 p2_s1501_s ck_S0)) (ck_E1 (ck_S1 p2_s320_s ck_S0) ck_E0))))⟩ ck_X0 ck_l0 (by decide +kernel)
set_option maxRecDepth 100000 in
/-- GlacierMail$Answers.spread -/
noncomputable def p2_s1503 : ck_Sum := ((5, 0, 0), 245, [.inr (.inr (.inl 208)), .inl (0, 7, []), .inl (0, 7, []), .inl (ck_one 299)], ([], [(3, 8, 0)], [(3, 6, 6, (0, 299, [(10, 0)]))]), (zl200, []), [(.inr none, 245, ([], [], [(206, 4, 4, ck_one (-1))]))])
set_option maxRecDepth 100000 in
theorem p2_s1503_s {X : Int → Int} {LX : Nat} : ck_Ok p2_O X LX 202 p2_s1503 := ck_ok_s (O := p2_O) (X := X) (LX := LX) (E := [(9, [p2_s320]), (25, [p2_s1493, p2_s1495]), (203, [p2_s1499, p2_s1502]), (10, [p2_s1496])]) (mi := 202) (cuts := [(59, [some (.inr (.inr (.inl 208))), some (.inl (0, 7, [])), some (.inl (0, 7, [])), some (.inl (ck_one 299)), some (.inl (1, 300, [(1000010, 1)])), none, none], ([], [(3, 8, 0)], [(206, 4, 4, ck_one (-1)), (3, 6, 6, (0, 299, [(10, 0)]))]), 100, .inl 4, true), (82, [some (.inr (.inr (.inl 208))), some (.inl (0, 7, [])), some (.inl (0, 7, [])), some (.inl (ck_one 299)), some (.inl (1, 298, [(100, 0), (1000010, 1)])), some (.inl (0, 8, [])), none], ([], [(3, 8, 0)], [(206, 4, 4, ck_one (-1)), (3, 6, 6, (0, 299, [(10, 0)]))]), 300, .inl 5, true)]) (f := 284) (S := p2_s1503) (lx := none) (XF := []) ⟨p2_nmu, ck_E1 (ck_S1 p2_s320_s ck_S0) (ck_E1 (ck_S1 p2_s1493_s (ck_S1 p2_s1495_s ck_S0)) (ck_E1 (ck_S1 p2_s1499_s (ck_S1 p2_s1502_s ck_S0)) (ck_E1 (ck_S1 p2_s1496_s ck_S0) ck_E0)))⟩ ck_X0 ck_l0 (by decide +kernel)
set_option maxRecDepth 100000 in
/-- GlacierMail$Answers.firstYear -/
noncomputable def p2_s1504 : ck_Sum := ((1, 0, 0), 245, [.inr (.inr (.inl 208)), .inl (0, 7, [])], ([], [], []), ([], []), [(.inr (some (.inl (ck_one (-1)))), 245, ([], [], [])), (.inr (some (.inl (0, 299, []))), 245, ([], [], []))])
set_option maxRecDepth 100000 in
theorem p2_s1504_s {X : Int → Int} {LX : Nat} : ck_Ok p2_O X LX 204 p2_s1504 := ck_ok_s (O := p2_O) (X := X) (LX := LX) (E := [(10, [p2_s1496])]) (mi := 204) (cuts := [(2, [some (.inr (.inr (.inl 208))), some (.inl (0, 7, [])), some (.inl (0, 300, []))], ([], [], []), 100, .inl 2, true)]) (f := 138) (S := p2_s1504) (lx := none) (XF := []) ⟨p2_nmu, ck_E1 (ck_S1 p2_s1496_s ck_S0) ck_E0⟩ ck_X0 ck_l0 (by decide +kernel)
set_option maxRecDepth 100000 in
/-- GlacierMail$Answers.fewestThrows -/
noncomputable def p2_s1505 : ck_Sum := ((1, 0, 0), 245, [.inr (.inr (.inl 208)), .inl (0, 7, []), .inl (0, 299, [])], ([], [], []), ([], []), [(.inr (some (.inl ((-2147483648), 2147483647, []))), 245, ([], [], []))])
set_option maxRecDepth 100000 in
theorem p2_s1505_s {X : Int → Int} {LX : Nat} : ck_Ok p2_O X LX 205 p2_s1505 := ck_ok_s (O := p2_O) (X := X) (LX := LX) (E := [(10, [p2_s1496])]) (mi := 205) (cuts := []) (f := 82) (S := p2_s1505) (lx := none) (XF := []) ⟨p2_nmu, ck_E1 (ck_S1 p2_s1496_s ck_S0) ck_E0⟩ ck_X0 ck_l0 (by decide +kernel)
set_option maxRecDepth 100000 in
/-- GlacierMail.soonest -/
noncomputable def p2_s1506 : ck_Sum := ((8, 3, 18), 245, [.inr (.inr (.inl 1)), .inl (0, 7, []), .inl (0, 7, []), .inl (0, 1, [])], ([], [(3, 8, 0)], [(3, 6, 6, (0, 299, [(10, 0)]))]), (zl200, []), [(.inl 3, 245, ([], [], [])), (.inl 0, 245, ([], [], [])), (.inr (some (.inl ((-2147483648), 2147483647, []))), 245, ([], [], [(206, 4, 4, ck_one (-1))])), (.inr (some (.inl (0, 299, []))), 245, ([], [], [(206, 4, 4, ck_one (-1))]))])
set_option maxRecDepth 100000 in
theorem p2_s1506_s {X : Int → Int} {LX : Nat} : ck_Ok p2_O X LX 201 p2_s1506 := ck_ok_s (O := p2_O) (X := X) (LX := LX) (E := [(139, [p2_s328]), (153, [p2_s442]), (202, [p2_s1503]), (204, [p2_s1504]), (205, [p2_s1505])]) (mi := 201) (cuts := []) (f := 136) (S := p2_s1506) (lx := none) (XF := []) ⟨p2_nmu, ck_E1 (ck_S1 p2_s328_s ck_S0) (ck_E1 (ck_S1 p2_s442_s ck_S0) (ck_E1 (ck_S1 p2_s1503_s ck_S0) (ck_E1 (ck_S1 p2_s1504_s ck_S0) (ck_E1 (ck_S1 p2_s1505_s ck_S0) ck_E0))))⟩ ck_X0 ck_l0 (by decide +kernel)
set_option maxRecDepth 100000 in
/-- GlacierMailModel.soonest -/
noncomputable def p2_s1507 : ck_Sum := ((2, 0, 0), 245, [.inr (.inr (.inl 226)), .inl ((-2147483648), (-1), []), .inl ((-2147483648), 2147483647, []), .inl (0, 1, [])], ([], [], [(227, 3, 3, (0, 8, [(21, 0)]))]), ([(226, 0, 0)], []), [(.inr (some (.inl (ck_one 0))), 245, ([], [], [(226, 0, 0, ck_one 1)]))])
set_option maxRecDepth 100000 in
theorem p2_s1507_s {X : Int → Int} {LX : Nat} : ck_Ok p2_O X LX 349 p2_s1507 := ck_ok_s (O := p2_O) (X := X) (LX := LX) (E := [(298, [p2_s359]), (282, [p2_s241])]) (mi := 349) (cuts := []) (f := 100) (S := p2_s1507) (lx := none) (XF := []) ⟨p2_nmu, ck_E1 (ck_S1 p2_s359_s ck_S0) (ck_E1 (ck_S1 p2_s241_s ck_S0) ck_E0)⟩ ck_X0 ck_l0 (by decide +kernel)
set_option maxRecDepth 100000 in
/-- GlacierMailModel.soonest -/
noncomputable def p2_s1508 : ck_Sum := ((2, 0, 0), 245, [.inr (.inr (.inl 226)), .inl (8, 2147483647, []), .inl ((-2147483648), 2147483647, []), .inl (0, 1, [])], ([], [], [(227, 3, 3, (0, 8, [(21, 0)]))]), ([(226, 0, 0)], []), [(.inr (some (.inl (ck_one 0))), 245, ([], [], [(226, 0, 0, ck_one 1)]))])
set_option maxRecDepth 100000 in
theorem p2_s1508_s {X : Int → Int} {LX : Nat} : ck_Ok p2_O X LX 349 p2_s1508 := ck_ok_s (O := p2_O) (X := X) (LX := LX) (E := [(298, [p2_s362]), (282, [p2_s241])]) (mi := 349) (cuts := []) (f := 100) (S := p2_s1508) (lx := none) (XF := []) ⟨p2_nmu, ck_E1 (ck_S1 p2_s362_s ck_S0) (ck_E1 (ck_S1 p2_s241_s ck_S0) ck_E0)⟩ ck_X0 ck_l0 (by decide +kernel)
set_option maxRecDepth 100000 in
/-- GlacierMailModel.soonest -/
noncomputable def p2_s1509 : ck_Sum := ((2, 0, 0), 245, [.inr (.inr (.inl 226)), .inl (0, 7, []), .inl ((-2147483648), (-1), []), .inl (0, 1, [])], ([], [], [(227, 3, 3, (0, 8, [(21, 0)]))]), ([(226, 0, 0)], []), [(.inr (some (.inl (ck_one 0))), 245, ([], [], [(226, 0, 0, ck_one 1)]))])
set_option maxRecDepth 100000 in
theorem p2_s1509_s {X : Int → Int} {LX : Nat} : ck_Ok p2_O X LX 349 p2_s1509 := ck_ok_s (O := p2_O) (X := X) (LX := LX) (E := [(298, [p2_s365, p2_s359]), (282, [p2_s241])]) (mi := 349) (cuts := []) (f := 108) (S := p2_s1509) (lx := none) (XF := []) ⟨p2_nmu, ck_E1 (ck_S1 p2_s365_s (ck_S1 p2_s359_s ck_S0)) (ck_E1 (ck_S1 p2_s241_s ck_S0) ck_E0)⟩ ck_X0 ck_l0 (by decide +kernel)
set_option maxRecDepth 100000 in
/-- GlacierMailModel.soonest -/
noncomputable def p2_s1510 : ck_Sum := ((2, 0, 0), 245, [.inr (.inr (.inl 226)), .inl (0, 7, []), .inl (8, 2147483647, []), .inl (0, 1, [])], ([], [], [(227, 3, 3, (0, 8, [(21, 0)]))]), ([(226, 0, 0)], []), [(.inr (some (.inl (ck_one 0))), 245, ([], [], [(226, 0, 0, ck_one 1)]))])
set_option maxRecDepth 100000 in
theorem p2_s1510_s {X : Int → Int} {LX : Nat} : ck_Ok p2_O X LX 349 p2_s1510 := ck_ok_s (O := p2_O) (X := X) (LX := LX) (E := [(298, [p2_s365, p2_s362]), (282, [p2_s241])]) (mi := 349) (cuts := []) (f := 108) (S := p2_s1510) (lx := none) (XF := []) ⟨p2_nmu, ck_E1 (ck_S1 p2_s365_s (ck_S1 p2_s362_s ck_S0)) (ck_E1 (ck_S1 p2_s241_s ck_S0) ck_E0)⟩ ck_X0 ck_l0 (by decide +kernel)
set_option maxRecDepth 100000 in
/-- GlacierMailModel.at -/
noncomputable def p2_s1511 : ck_Sum := ((0, 0, 0), 245, [.inl (0, 7, []), .inl (0, 300, [])], ([], [], []), ([], []), [(.inr (some (.inl (0, 2407, []))), 245, ([], [], []))])
set_option maxRecDepth 100000 in
theorem p2_s1511_s {X : Int → Int} {LX : Nat} : ck_Ok p2_O X LX 351 p2_s1511 := ck_ok_s (O := p2_O) (X := X) (LX := LX) (E := []) (mi := 351) (cuts := []) (f := 82) (S := p2_s1511) (lx := none) (XF := []) ⟨p2_nmu, ck_E0⟩ ck_X0 ck_l0 (by decide +kernel)
set_option maxRecDepth 100000 in
/-- GlacierMailModel.isWatching -/
noncomputable def p2_s1512 : ck_Sum := ((1, 0, 0), 245, [.inr (.inr (.inl 226)), .inl (0, 7, []), .inl (0, 7, [])], ([], [], []), ([], []), [(.inr (some (.inl (ck_one 0))), 245, ([], [], [])), (.inr (some (.inl (ck_one 1))), 245, ([], [], []))])
set_option maxRecDepth 100000 in
theorem p2_s1512_s {X : Int → Int} {LX : Nat} : ck_Ok p2_O X LX 352 p2_s1512 := ck_ok_s (O := p2_O) (X := X) (LX := LX) (E := [(299, [p2_s569, p2_s554])]) (mi := 352) (cuts := []) (f := 94) (S := p2_s1512) (lx := none) (XF := []) ⟨p2_nmu, ck_E1 (ck_S1 p2_s569_s (ck_S1 p2_s554_s ck_S0)) ck_E0⟩ ck_X0 ck_l0 (by decide +kernel)
set_option maxRecDepth 100000 in
/-- GlacierMailModel.hasIn -/
noncomputable def p2_s1514 : ck_Sum := ((1, 0, 0), 245, [.inr (.inr (.inl 226)), .inl (0, 7, [])], ([], [], []), ([], []), [(.inr (some (.inl (ck_one (-1)))), 245, ([], [], [])), (.inr (some (.inl (0, 299, []))), 245, ([], [], []))])
set_option maxRecDepth 100000 in
theorem p2_s1514_s {X : Int → Int} {LX : Nat} : ck_Ok p2_O X LX 353 p2_s1514 := ck_ok_s (O := p2_O) (X := X) (LX := LX) (E := [(351, [p2_s1511])]) (mi := 353) (cuts := [(2, [some (.inr (.inr (.inl 226))), some (.inl (0, 7, [])), some (.inl (0, 300, []))], ([], [], []), 100, .inl 2, true)]) (f := 146) (S := p2_s1514) (lx := none) (XF := []) ⟨p2_nmu, ck_E1 (ck_S1 p2_s1511_s ck_S0) ck_E0⟩ ck_X0 ck_l0 (by decide +kernel)
set_option maxRecDepth 100000 in
/-- GlacierMail.chain -/
noncomputable def p2_s1516 : ck_Sum := ((8, 1, 6), 245, [.inr (.inr (.inl 1)), .inl ((-2147483648), (-1), []), .inl ((-2147483648), 2147483647, []), .inl ((-2147483648), 2147483647, [])], ([], [], []), ([], []), [(.inl 3, 245, ([], [], []))])
set_option maxRecDepth 100000 in
theorem p2_s1516_s {X : Int → Int} {LX : Nat} : ck_Ok p2_O X LX 207 p2_s1516 := ck_ok_s (O := p2_O) (X := X) (LX := LX) (E := [(139, [p2_s322])]) (mi := 207) (cuts := []) (f := 76) (S := p2_s1516) (lx := none) (XF := []) ⟨p2_nmu, ck_E1 (ck_S1 p2_s322_s ck_S0) ck_E0⟩ ck_X0 ck_l0 (by decide +kernel)
set_option maxRecDepth 100000 in
/-- GlacierMail.chain -/
noncomputable def p2_s1517 : ck_Sum := ((8, 1, 6), 245, [.inr (.inr (.inl 1)), .inl (8, 2147483647, []), .inl ((-2147483648), 2147483647, []), .inl ((-2147483648), 2147483647, [])], ([], [], []), ([], []), [(.inl 3, 245, ([], [], []))])
set_option maxRecDepth 100000 in
theorem p2_s1517_s {X : Int → Int} {LX : Nat} : ck_Ok p2_O X LX 207 p2_s1517 := ck_ok_s (O := p2_O) (X := X) (LX := LX) (E := [(139, [p2_s325])]) (mi := 207) (cuts := []) (f := 76) (S := p2_s1517) (lx := none) (XF := []) ⟨p2_nmu, ck_E1 (ck_S1 p2_s325_s ck_S0) ck_E0⟩ ck_X0 ck_l0 (by decide +kernel)
set_option maxRecDepth 100000 in
/-- GlacierMail.chain -/
noncomputable def p2_s1518 : ck_Sum := ((8, 2, 12), 245, [.inr (.inr (.inl 1)), .inl (0, 7, []), .inl ((-2147483648), (-1), []), .inl ((-2147483648), 2147483647, [])], ([], [], []), ([], []), [(.inl 3, 245, ([], [], []))])
set_option maxRecDepth 100000 in
theorem p2_s1518_s {X : Int → Int} {LX : Nat} : ck_Ok p2_O X LX 207 p2_s1518 := ck_ok_s (O := p2_O) (X := X) (LX := LX) (E := [(139, [p2_s328, p2_s322])]) (mi := 207) (cuts := []) (f := 82) (S := p2_s1518) (lx := none) (XF := []) ⟨p2_nmu, ck_E1 (ck_S1 p2_s328_s (ck_S1 p2_s322_s ck_S0)) ck_E0⟩ ck_X0 ck_l0 (by decide +kernel)
set_option maxRecDepth 100000 in
/-- GlacierMail.chain -/
noncomputable def p2_s1519 : ck_Sum := ((8, 2, 12), 245, [.inr (.inr (.inl 1)), .inl (0, 7, []), .inl (8, 2147483647, []), .inl ((-2147483648), 2147483647, [])], ([], [], []), ([], []), [(.inl 3, 245, ([], [], []))])
set_option maxRecDepth 100000 in
theorem p2_s1519_s {X : Int → Int} {LX : Nat} : ck_Ok p2_O X LX 207 p2_s1519 := ck_ok_s (O := p2_O) (X := X) (LX := LX) (E := [(139, [p2_s328, p2_s325])]) (mi := 207) (cuts := []) (f := 82) (S := p2_s1519) (lx := none) (XF := []) ⟨p2_nmu, ck_E1 (ck_S1 p2_s328_s (ck_S1 p2_s325_s ck_S0)) ck_E0⟩ ck_X0 ck_l0 (by decide +kernel)
set_option maxRecDepth 100000 in
/-- GlacierMail$Rows.get -/
noncomputable def p2_s1520 : ck_Sum := ((0, 0, 0), 245, [.inr (.inr (.inl 211)), .inl ((-2147483648), 2147483647, []), .inl ((-2147483648), 2147483647, [])], ([], [], []), ([], []), [(.inr (some (.inl ((-2147483648), 299, []))), 245, ([], [], []))])
set_option maxRecDepth 100000 in
theorem p2_s1520_s {X : Int → Int} {LX : Nat} : ck_Ok p2_O X LX 10 p2_s1520 := ck_ok_s (O := p2_O) (X := X) (LX := LX) (E := []) (mi := 10) (cuts := []) (f := 114) (S := p2_s1520) (lx := none) (XF := []) ⟨p2_nmu, ck_E0⟩ ck_X0 ck_l0 (by decide +kernel)
set_option maxRecDepth 100000 in
/-- GlacierMail$Answers.throwAhead -/
noncomputable def p2_s1521 : ck_Sum := ((1, 0, 0), 245, [.inr (.inr (.inl 208)), .inl (0, 2398, []), .inl (0, 299, []), .inl (1, 2147483646, [])], ([], [], [(3, 6, 6, (0, 299, [(10, 0)]))]), ([], []), [(.inr (some (.inl (0, 2398, []))), 245, ([], [], []))])
set_option maxRecDepth 100000 in
theorem p2_s1521_s {X : Int → Int} {LX : Nat} : ck_Ok p2_O X LX 209 p2_s1521 := ck_ok_s (O := p2_O) (X := X) (LX := LX) (E := [(10, [p2_s356, p2_s1496, p2_s1520]), (9, [p2_s320])]) (mi := 209) (cuts := [(17, [some (.inr (.inr (.inl 208))), some (.inl (0, 2398, [])), some (.inl (0, 299, [])), some (.inl (1, 2147483646, [])), some (.inl ((-1), 98, [])), some (.inl (0, 9, [])), none], ([], [], [(3, 6, 6, (0, 299, [(10, 0)]))]), 100, .inl 5, true), (59, [some (.inr (.inr (.inl 208))), some (.inl (0, 2398, [])), some (.inl (0, 299, [])), some (.inl (1, 2147483646, [])), some (.inl ((-1), 98, [])), some (.inl (0, 7, [(100, 0)])), some (.inl (0, 299, [(1000010, 0)]))], ([], [], [(3, 6, 6, (0, 299, [(10, 0)]))]), 300, .inl 6, true)]) (f := 260) (S := p2_s1521) (lx := none) (XF := []) ⟨p2_nmu, ck_E1 (ck_S1 p2_s356_s (ck_S1 p2_s1496_s (ck_S1 p2_s1520_s ck_S0))) (ck_E1 (ck_S1 p2_s320_s ck_S0) ck_E0)⟩ ck_X0 ck_l0 (by decide +kernel)
set_option maxRecDepth 100000 in
/-- GlacierMail$Answers.holder -/
noncomputable def p2_s1522 : ck_Sum := ((2, 0, 0), 245, [.inr (.inr (.inl 208)), .inl (0, 7, []), .inl (0, 7, []), .inl (ck_one 0)], ([], [], [(3, 6, 6, (0, 299, [(10, 0)]))]), ([], []), [(.inr (some (.inl (ck_one (-1)))), 245, ([], [], [])), (.inr (some (.inl (0, 7, []))), 245, ([], [], []))])
set_option maxRecDepth 100000 in
theorem p2_s1522_s {X : Int → Int} {LX : Nat} : ck_Ok p2_O X LX 208 p2_s1522 := ck_ok_s (O := p2_O) (X := X) (LX := LX) (E := [(204, [p2_s1504]), (10, [p2_s1496]), (209, [p2_s1521])]) (mi := 208) (cuts := [(44, [some (.inr (.inr (.inl 208))), some (.inl (0, 7, [])), some (.inl (0, 7, [])), some (.inl (ck_one 0)), some (.inl (0, 299, [])), some (.inl (0, 2398, [])), some (.inl (0, 2147483647, [])), some (.inl (0, 2147483647, [])), none], ([], [], [(3, 6, 6, (0, 299, [(10, 0)]))]), 100, .inl 7, false)]) (f := 190) (S := p2_s1522) (lx := none) (XF := []) ⟨p2_nmu, ck_E1 (ck_S1 p2_s1504_s ck_S0) (ck_E1 (ck_S1 p2_s1496_s ck_S0) (ck_E1 (ck_S1 p2_s1521_s ck_S0) ck_E0))⟩ ck_X0 ck_l0 (by decide +kernel)
set_option maxRecDepth 100000 in
/-- GlacierMail.chain -/
noncomputable def p2_s1523 : ck_Sum := ((8, 4, 24), 245, [.inr (.inr (.inl 1)), .inl (0, 7, []), .inl (0, 7, []), .inl ((-2147483648), 0, [])], ([], [(3, 8, 0)], [(3, 6, 6, (0, 299, [(10, 0)]))]), (zl200, []), [(.inl 3, 245, ([], [], [])), (.inl 0, 245, ([], [], [])), (.inr (some (.inl (ck_one (-1)))), 245, ([], [], [(206, 4, 4, ck_one (-1))])), (.inr (some (.inl (0, 7, []))), 245, ([], [], [(206, 4, 4, ck_one (-1))]))])
set_option maxRecDepth 100000 in
theorem p2_s1523_s {X : Int → Int} {LX : Nat} : ck_Ok p2_O X LX 207 p2_s1523 := ck_ok_s (O := p2_O) (X := X) (LX := LX) (E := [(139, [p2_s328]), (153, [p2_s442]), (202, [p2_s1503]), (208, [p2_s1522])]) (mi := 207) (cuts := []) (f := 120) (S := p2_s1523) (lx := none) (XF := []) ⟨p2_nmu, ck_E1 (ck_S1 p2_s328_s ck_S0) (ck_E1 (ck_S1 p2_s442_s ck_S0) (ck_E1 (ck_S1 p2_s1503_s ck_S0) (ck_E1 (ck_S1 p2_s1522_s ck_S0) ck_E0)))⟩ ck_X0 ck_l0 (by decide +kernel)
set_option maxRecDepth 100000 in
/-- GlacierMail$Answers.throwAhead -/
noncomputable def p2_s1524 : ck_Sum := ((1, 0, 0), 245, [.inr (.inr (.inl 208)), .inl (0, 2398, []), .inl (0, 299, []), .inl (51, 2147483646, [])], ([], [], [(3, 6, 6, (0, 299, [(10, 0)]))]), ([], []), [(.inr (some (.inl (0, 2398, []))), 245, ([], [], []))])
set_option maxRecDepth 100000 in
theorem p2_s1524_s {X : Int → Int} {LX : Nat} : ck_Ok p2_O X LX 209 p2_s1524 := ck_ok_s (O := p2_O) (X := X) (LX := LX) (E := [(10, [p2_s356, p2_s1496, p2_s1520]), (9, [p2_s320])]) (mi := 209) (cuts := [(17, [some (.inr (.inr (.inl 208))), some (.inl (0, 2398, [])), some (.inl (0, 299, [])), some (.inl (51, 2147483646, [])), some (.inl ((-1), 98, [])), some (.inl (0, 9, [])), none], ([], [], [(3, 6, 6, (0, 299, [(10, 0)]))]), 100, .inl 5, true), (59, [some (.inr (.inr (.inl 208))), some (.inl (0, 2398, [])), some (.inl (0, 299, [])), some (.inl (51, 2147483646, [])), some (.inl ((-1), 98, [])), some (.inl (0, 7, [(100, 0)])), some (.inl (0, 299, [(1000010, 0)]))], ([], [], [(3, 6, 6, (0, 299, [(10, 0)]))]), 300, .inl 6, true)]) (f := 260) (S := p2_s1524) (lx := none) (XF := []) ⟨p2_nmu, ck_E1 (ck_S1 p2_s356_s (ck_S1 p2_s1496_s (ck_S1 p2_s1520_s ck_S0))) (ck_E1 (ck_S1 p2_s320_s ck_S0) ck_E0)⟩ ck_X0 ck_l0 (by decide +kernel)
set_option maxRecDepth 100000 in
/-- GlacierMail$Answers.holder -/
noncomputable def p2_s1525 : ck_Sum := ((2, 0, 0), 245, [.inr (.inr (.inl 208)), .inl (0, 7, []), .inl (0, 7, []), .inl (51, 2147483647, [])], ([], [], [(3, 6, 6, (0, 299, [(10, 0)]))]), ([], []), [(.inr (some (.inl (ck_one (-1)))), 245, ([], [], [])), (.inr (some (.inl (0, 2398, []))), 245, ([], [], []))])
set_option maxRecDepth 100000 in
theorem p2_s1525_s {X : Int → Int} {LX : Nat} : ck_Ok p2_O X LX 208 p2_s1525 := ck_ok_s (O := p2_O) (X := X) (LX := LX) (E := [(204, [p2_s1504]), (10, [p2_s1496]), (209, [p2_s1524])]) (mi := 208) (cuts := [(44, [some (.inr (.inr (.inl 208))), some (.inl (0, 7, [])), some (.inl (0, 7, [])), some (.inl (51, 2147483647, [])), some (.inl (0, 299, [])), some (.inl (0, 2398, [])), some (.inl (51, 2147483647, [])), some (.inl (51, 2147483647, [])), none], ([], [], [(3, 6, 6, (0, 299, [(10, 0)]))]), 100, .inl 7, false)]) (f := 190) (S := p2_s1525) (lx := none) (XF := []) ⟨p2_nmu, ck_E1 (ck_S1 p2_s1504_s ck_S0) (ck_E1 (ck_S1 p2_s1496_s ck_S0) (ck_E1 (ck_S1 p2_s1524_s ck_S0) ck_E0))⟩ ck_X0 ck_l0 (by decide +kernel)
set_option maxRecDepth 100000 in
/-- GlacierMail.chain -/
noncomputable def p2_s1526 : ck_Sum := ((8, 3, 18), 245, [.inr (.inr (.inl 1)), .inl (0, 7, []), .inl (0, 7, []), .inl (51, 2147483647, [])], ([], [(3, 8, 0)], [(3, 6, 6, (0, 299, [(10, 0)]))]), (zl200, []), zl202)
set_option maxRecDepth 100000 in
theorem p2_s1526_s {X : Int → Int} {LX : Nat} : ck_Ok p2_O X LX 207 p2_s1526 := ck_ok_s (O := p2_O) (X := X) (LX := LX) (E := [(139, [p2_s328]), (153, [p2_s442]), (202, [p2_s1503]), (208, [p2_s1525])]) (mi := 207) (cuts := []) (f := 120) (S := p2_s1526) (lx := none) (XF := []) ⟨p2_nmu, ck_E1 (ck_S1 p2_s328_s ck_S0) (ck_E1 (ck_S1 p2_s442_s ck_S0) (ck_E1 (ck_S1 p2_s1503_s ck_S0) (ck_E1 (ck_S1 p2_s1525_s ck_S0) ck_E0)))⟩ ck_X0 ck_l0 (by decide +kernel)
set_option maxRecDepth 100000 in
/-- GlacierMail$Answers.holder -/
noncomputable def p2_s1527 : ck_Sum := ((2, 0, 0), 245, [.inr (.inr (.inl 208)), .inl (0, 7, []), .inl (0, 7, []), .inl (1, 50, [])], ([], [], [(3, 6, 6, (0, 299, [(10, 0)]))]), ([], []), [(.inr (some (.inl (ck_one (-1)))), 245, ([], [], [])), (.inr (some (.inl (0, 2398, []))), 245, ([], [], []))])
set_option maxRecDepth 100000 in
theorem p2_s1527_s {X : Int → Int} {LX : Nat} : ck_Ok p2_O X LX 208 p2_s1527 := ck_ok_s (O := p2_O) (X := X) (LX := LX) (E := [(204, [p2_s1504]), (10, [p2_s1496]), (209, [p2_s1521])]) (mi := 208) (cuts := [(44, [some (.inr (.inr (.inl 208))), some (.inl (0, 7, [])), some (.inl (0, 7, [])), some (.inl (1, 50, [])), some (.inl (0, 299, [])), some (.inl (0, 2398, [])), some (.inl (1, 2147483647, [])), some (.inl (1, 2147483647, [])), none], ([], [], [(3, 6, 6, (0, 299, [(10, 0)]))]), 100, .inl 7, false)]) (f := 190) (S := p2_s1527) (lx := none) (XF := []) ⟨p2_nmu, ck_E1 (ck_S1 p2_s1504_s ck_S0) (ck_E1 (ck_S1 p2_s1496_s ck_S0) (ck_E1 (ck_S1 p2_s1521_s ck_S0) ck_E0))⟩ ck_X0 ck_l0 (by decide +kernel)
set_option maxRecDepth 100000 in
/-- GlacierMail.chain -/
noncomputable def p2_s1528 : ck_Sum := ((8, 3, 18), 245, [.inr (.inr (.inl 1)), .inl (0, 7, []), .inl (0, 7, []), .inl (1, 50, [])], ([], [(3, 8, 0)], [(3, 6, 6, (0, 299, [(10, 0)]))]), (zl200, []), zl202)
set_option maxRecDepth 100000 in
theorem p2_s1528_s {X : Int → Int} {LX : Nat} : ck_Ok p2_O X LX 207 p2_s1528 := ck_ok_s (O := p2_O) (X := X) (LX := LX) (E := [(139, [p2_s328]), (153, [p2_s442]), (202, [p2_s1503]), (208, [p2_s1527])]) (mi := 207) (cuts := []) (f := 120) (S := p2_s1528) (lx := none) (XF := []) ⟨p2_nmu, ck_E1 (ck_S1 p2_s328_s ck_S0) (ck_E1 (ck_S1 p2_s442_s ck_S0) (ck_E1 (ck_S1 p2_s1503_s ck_S0) (ck_E1 (ck_S1 p2_s1527_s ck_S0) ck_E0)))⟩ ck_X0 ck_l0 (by decide +kernel)
set_option maxRecDepth 100000 in
/-- GlacierMailModel.chain -/
noncomputable def p2_s1529 : ck_Sum := ((2, 0, 0), 245, [.inr (.inr (.inl 226)), .inl ((-2147483648), (-1), []), .inl ((-2147483648), 2147483647, []), .inl ((-2147483648), 2147483647, [])], ([], [], [(227, 3, 3, (0, 8, [(21, 0)]))]), ([(226, 0, 0)], []), [(.inr (some (.inl (ck_one 0))), 245, ([], [], [(226, 0, 0, ck_one 1)]))])
set_option maxRecDepth 100000 in
theorem p2_s1529_s {X : Int → Int} {LX : Nat} : ck_Ok p2_O X LX 354 p2_s1529 := ck_ok_s (O := p2_O) (X := X) (LX := LX) (E := [(298, [p2_s359]), (282, [p2_s241])]) (mi := 354) (cuts := []) (f := 100) (S := p2_s1529) (lx := none) (XF := []) ⟨p2_nmu, ck_E1 (ck_S1 p2_s359_s ck_S0) (ck_E1 (ck_S1 p2_s241_s ck_S0) ck_E0)⟩ ck_X0 ck_l0 (by decide +kernel)
set_option maxRecDepth 100000 in
/-- GlacierMailModel.chain -/
noncomputable def p2_s1530 : ck_Sum := ((2, 0, 0), 245, [.inr (.inr (.inl 226)), .inl (8, 2147483647, []), .inl ((-2147483648), 2147483647, []), .inl ((-2147483648), 2147483647, [])], ([], [], [(227, 3, 3, (0, 8, [(21, 0)]))]), ([(226, 0, 0)], []), [(.inr (some (.inl (ck_one 0))), 245, ([], [], [(226, 0, 0, ck_one 1)]))])
set_option maxRecDepth 100000 in
theorem p2_s1530_s {X : Int → Int} {LX : Nat} : ck_Ok p2_O X LX 354 p2_s1530 := ck_ok_s (O := p2_O) (X := X) (LX := LX) (E := [(298, [p2_s362]), (282, [p2_s241])]) (mi := 354) (cuts := []) (f := 100) (S := p2_s1530) (lx := none) (XF := []) ⟨p2_nmu, ck_E1 (ck_S1 p2_s362_s ck_S0) (ck_E1 (ck_S1 p2_s241_s ck_S0) ck_E0)⟩ ck_X0 ck_l0 (by decide +kernel)
set_option maxRecDepth 100000 in
/-- GlacierMailModel.chain -/
noncomputable def p2_s1531 : ck_Sum := ((2, 0, 0), 245, [.inr (.inr (.inl 226)), .inl (0, 7, []), .inl ((-2147483648), (-1), []), .inl ((-2147483648), 2147483647, [])], ([], [], [(227, 3, 3, (0, 8, [(21, 0)]))]), ([(226, 0, 0)], []), [(.inr (some (.inl (ck_one 0))), 245, ([], [], [(226, 0, 0, ck_one 1)]))])
set_option maxRecDepth 100000 in
theorem p2_s1531_s {X : Int → Int} {LX : Nat} : ck_Ok p2_O X LX 354 p2_s1531 := ck_ok_s (O := p2_O) (X := X) (LX := LX) (E := [(298, [p2_s365, p2_s359]), (282, [p2_s241])]) (mi := 354) (cuts := []) (f := 108) (S := p2_s1531) (lx := none) (XF := []) ⟨p2_nmu, ck_E1 (ck_S1 p2_s365_s (ck_S1 p2_s359_s ck_S0)) (ck_E1 (ck_S1 p2_s241_s ck_S0) ck_E0)⟩ ck_X0 ck_l0 (by decide +kernel)
set_option maxRecDepth 100000 in
/-- GlacierMailModel.chain -/
noncomputable def p2_s1532 : ck_Sum := ((2, 0, 0), 245, [.inr (.inr (.inl 226)), .inl (0, 7, []), .inl (8, 2147483647, []), .inl ((-2147483648), 2147483647, [])], ([], [], [(227, 3, 3, (0, 8, [(21, 0)]))]), ([(226, 0, 0)], []), [(.inr (some (.inl (ck_one 0))), 245, ([], [], [(226, 0, 0, ck_one 1)]))])
set_option maxRecDepth 100000 in
theorem p2_s1532_s {X : Int → Int} {LX : Nat} : ck_Ok p2_O X LX 354 p2_s1532 := ck_ok_s (O := p2_O) (X := X) (LX := LX) (E := [(298, [p2_s365, p2_s362]), (282, [p2_s241])]) (mi := 354) (cuts := []) (f := 108) (S := p2_s1532) (lx := none) (XF := []) ⟨p2_nmu, ck_E1 (ck_S1 p2_s365_s (ck_S1 p2_s362_s ck_S0)) (ck_E1 (ck_S1 p2_s241_s ck_S0) ck_E0)⟩ ck_X0 ck_l0 (by decide +kernel)
set_option maxRecDepth 100000 in
/-- GlacierMailModel.of -/
noncomputable def p2_s1533 : ck_Sum := ((0, 0, 0), 245, [.inr (.inr (.inl 226)), .inl ((-1), 7, []), .inl (ck_one 2)], ([], [], []), ([], []), [(.inr (some (.inl (0, 20, []))), 245, ([], [], [])), (.inr (some (.inl (ck_one (-1)))), 245, ([], [], []))])
set_option maxRecDepth 100000 in
theorem p2_s1533_s {X : Int → Int} {LX : Nat} : ck_Ok p2_O X LX 299 p2_s1533 := ck_ok_s (O := p2_O) (X := X) (LX := LX) (E := []) (mi := 299) (cuts := []) (f := 92) (S := p2_s1533) (lx := none) (XF := []) ⟨p2_nmu, ck_E0⟩ ck_X0 ck_l0 (by decide +kernel)
set_option maxRecDepth 100000 in
/-- GlacierMailModel.isWatching -/
noncomputable def p2_s1534 : ck_Sum := ((1, 0, 0), 245, [.inr (.inr (.inl 226)), .inl ((-1), 7, []), .inl (0, 7, [])], ([], [], []), ([], []), [(.inr (some (.inl (ck_one 0))), 245, ([], [], [])), (.inr (some (.inl (ck_one 1))), 245, ([], [], []))])
set_option maxRecDepth 100000 in
theorem p2_s1534_s {X : Int → Int} {LX : Nat} : ck_Ok p2_O X LX 352 p2_s1534 := ck_ok_s (O := p2_O) (X := X) (LX := LX) (E := [(299, [p2_s1533, p2_s554])]) (mi := 352) (cuts := []) (f := 94) (S := p2_s1534) (lx := none) (XF := []) ⟨p2_nmu, ck_E1 (ck_S1 p2_s1533_s (ck_S1 p2_s554_s ck_S0)) ck_E0⟩ ck_X0 ck_l0 (by decide +kernel)
set_option maxRecDepth 100000 in
/-- GlacierMailModel.thrower -/
noncomputable def p2_s1535 : ck_Sum := ((2, 0, 0), 245, [.inr (.inr (.inl 226)), .inl ((-1), 7, []), .inl ((-1), 299, []), .inl (1, 1000, [])], ([], [], zl203), ([(226, 36, 36)], []), zl204)
set_option maxRecDepth 100000 in
theorem p2_s1535_s {X : Int → Int} {LX : Nat} : ck_Ok p2_O X LX 355 p2_s1535 := ck_ok_s (O := p2_O) (X := X) (LX := LX) (E := [(253, [p2_s186]), (266, [p2_s190]), (352, [p2_s1534]), (351, [p2_s1511])]) (mi := 355) (cuts := [(3, [some (.inr (.inr (.inl 226))), some (.inl ((-1), 7, [])), some (.inl ((-1), 299, [])), some (.inl (1, 1000, [])), some (.inl (0, 8, [])), none], ([], [], [(227, 3, 3, (0, 8, [(21, 0)])), (227, 9, 9, (0, 299, [(11, 0)]))]), 100, .inl 4, true), (18, [some (.inr (.inr (.inl 226))), some (.inl ((-1), 7, [])), some (.inl ((-1), 299, [])), some (.inl (1, 1000, [])), some (.inl (0, 7, [(100, 0)])), some (.inl (0, 299, [(1000011, 0)]))], ([], [], [(227, 3, 3, (1, 8, [(21, 0)])), (227, 9, 9, (0, 299, [(11, 0)]))]), 300, .inl 5, true)]) (f := 284) (S := p2_s1535) (lx := none) (XF := []) ⟨p2_nmu, ck_E1 (ck_S1 p2_s186_s ck_S0) (ck_E1 (ck_S1 p2_s190_s ck_S0) (ck_E1 (ck_S1 p2_s1534_s ck_S0) (ck_E1 (ck_S1 p2_s1511_s ck_S0) ck_E0)))⟩ ck_X0 ck_l0 (by decide +kernel)
set_option maxRecDepth 100000 in
/-- GlacierMailModel.thrower -/
noncomputable def p2_s1537 : ck_Sum := ((2, 0, 0), 245, [.inr (.inr (.inl 226)), .inl ((-1), 7, []), .inl ((-1), 299, []), .inl (52, 1000, [])], ([], [], zl203), ([(226, 36, 36)], []), zl204)
set_option maxRecDepth 100000 in
theorem p2_s1537_s {X : Int → Int} {LX : Nat} : ck_Ok p2_O X LX 355 p2_s1537 := ck_ok_s (O := p2_O) (X := X) (LX := LX) (E := [(253, [p2_s186]), (266, [p2_s190]), (352, [p2_s1534]), (351, [p2_s1511])]) (mi := 355) (cuts := [(3, [some (.inr (.inr (.inl 226))), some (.inl ((-1), 7, [])), some (.inl ((-1), 299, [])), some (.inl (52, 1000, [])), some (.inl (0, 8, [])), none], ([], [], [(227, 3, 3, (0, 8, [(21, 0)])), (227, 9, 9, (0, 299, [(11, 0)]))]), 100, .inl 4, true), (18, [some (.inr (.inr (.inl 226))), some (.inl ((-1), 7, [])), some (.inl ((-1), 299, [])), some (.inl (52, 1000, [])), some (.inl (0, 7, [(100, 0)])), some (.inl (0, 299, [(1000011, 0)]))], ([], [], [(227, 3, 3, (1, 8, [(21, 0)])), (227, 9, 9, (0, 299, [(11, 0)]))]), 300, .inl 5, true)]) (f := 284) (S := p2_s1537) (lx := none) (XF := []) ⟨p2_nmu, ck_E1 (ck_S1 p2_s186_s ck_S0) (ck_E1 (ck_S1 p2_s190_s ck_S0) (ck_E1 (ck_S1 p2_s1534_s ck_S0) (ck_E1 (ck_S1 p2_s1511_s ck_S0) ck_E0)))⟩ ck_X0 ck_l0 (by decide +kernel)
set_option maxRecDepth 100000 in
/-- GlacierMailModel.thrower -/
noncomputable def p2_s1539 : ck_Sum := ((2, 0, 0), 245, [.inr (.inr (.inl 226)), .inl ((-1), 7, []), .inl ((-1), 299, []), .inl (2, 1000, [])], ([], [], zl203), ([(226, 36, 36)], []), zl204)
set_option maxRecDepth 100000 in
theorem p2_s1539_s {X : Int → Int} {LX : Nat} : ck_Ok p2_O X LX 355 p2_s1539 := ck_ok_s (O := p2_O) (X := X) (LX := LX) (E := [(253, [p2_s186]), (266, [p2_s190]), (352, [p2_s1534]), (351, [p2_s1511])]) (mi := 355) (cuts := [(3, [some (.inr (.inr (.inl 226))), some (.inl ((-1), 7, [])), some (.inl ((-1), 299, [])), some (.inl (2, 1000, [])), some (.inl (0, 8, [])), none], ([], [], [(227, 3, 3, (0, 8, [(21, 0)])), (227, 9, 9, (0, 299, [(11, 0)]))]), 100, .inl 4, true), (18, [some (.inr (.inr (.inl 226))), some (.inl ((-1), 7, [])), some (.inl ((-1), 299, [])), some (.inl (2, 1000, [])), some (.inl (0, 7, [(100, 0)])), some (.inl (0, 299, [(1000011, 0)]))], ([], [], [(227, 3, 3, (1, 8, [(21, 0)])), (227, 9, 9, (0, 299, [(11, 0)]))]), 300, .inl 5, true)]) (f := 284) (S := p2_s1539) (lx := none) (XF := []) ⟨p2_nmu, ck_E1 (ck_S1 p2_s186_s ck_S0) (ck_E1 (ck_S1 p2_s190_s ck_S0) (ck_E1 (ck_S1 p2_s1534_s ck_S0) (ck_E1 (ck_S1 p2_s1511_s ck_S0) ck_E0)))⟩ ck_X0 ck_l0 (by decide +kernel)
set_option maxRecDepth 100000 in
/-- GlacierMail.reached -/
noncomputable def p2_s1541 : ck_Sum := ((8, 1, 6), 245, [.inr (.inr (.inl 1)), .inl ((-2147483648), (-1), []), .inl ((-2147483648), 2147483647, [])], ([], [], []), ([], []), [(.inl 3, 245, ([], [], []))])
set_option maxRecDepth 100000 in
theorem p2_s1541_s {X : Int → Int} {LX : Nat} : ck_Ok p2_O X LX 211 p2_s1541 := ck_ok_s (O := p2_O) (X := X) (LX := LX) (E := [(139, [p2_s322])]) (mi := 211) (cuts := []) (f := 76) (S := p2_s1541) (lx := none) (XF := []) ⟨p2_nmu, ck_E1 (ck_S1 p2_s322_s ck_S0) ck_E0⟩ ck_X0 ck_l0 (by decide +kernel)
set_option maxRecDepth 100000 in
/-- GlacierMail.reached -/
noncomputable def p2_s1542 : ck_Sum := ((8, 1, 6), 245, [.inr (.inr (.inl 1)), .inl (8, 2147483647, []), .inl ((-2147483648), 2147483647, [])], ([], [], []), ([], []), [(.inl 3, 245, ([], [], []))])
set_option maxRecDepth 100000 in
theorem p2_s1542_s {X : Int → Int} {LX : Nat} : ck_Ok p2_O X LX 211 p2_s1542 := ck_ok_s (O := p2_O) (X := X) (LX := LX) (E := [(139, [p2_s325])]) (mi := 211) (cuts := []) (f := 76) (S := p2_s1542) (lx := none) (XF := []) ⟨p2_nmu, ck_E1 (ck_S1 p2_s325_s ck_S0) ck_E0⟩ ck_X0 ck_l0 (by decide +kernel)
set_option maxRecDepth 100000 in
/-- GlacierMail.reached -/
noncomputable def p2_s1543 : ck_Sum := ((8, 2, 12), 245, [.inr (.inr (.inl 1)), .inl (0, 7, []), .inl ((-2147483648), (-1), [])], ([], [], []), ([], []), [(.inl 3, 245, ([], [], [])), (.inl 0, 245, ([], [], []))])
set_option maxRecDepth 100000 in
theorem p2_s1543_s {X : Int → Int} {LX : Nat} : ck_Ok p2_O X LX 211 p2_s1543 := ck_ok_s (O := p2_O) (X := X) (LX := LX) (E := [(139, [p2_s328]), (129, [p2_s249])]) (mi := 211) (cuts := []) (f := 82) (S := p2_s1543) (lx := none) (XF := []) ⟨p2_nmu, ck_E1 (ck_S1 p2_s328_s ck_S0) (ck_E1 (ck_S1 p2_s249_s ck_S0) ck_E0)⟩ ck_X0 ck_l0 (by decide +kernel)
set_option maxRecDepth 100000 in
/-- GlacierMail.reached -/
noncomputable def p2_s1544 : ck_Sum := ((8, 2, 12), 245, [.inr (.inr (.inl 1)), .inl (0, 7, []), .inl (300, 2147483647, [])], ([], [], []), ([], []), [(.inl 3, 245, ([], [], [])), (.inl 0, 245, ([], [], []))])
set_option maxRecDepth 100000 in
theorem p2_s1544_s {X : Int → Int} {LX : Nat} : ck_Ok p2_O X LX 211 p2_s1544 := ck_ok_s (O := p2_O) (X := X) (LX := LX) (E := [(139, [p2_s328]), (129, [p2_s251])]) (mi := 211) (cuts := []) (f := 82) (S := p2_s1544) (lx := none) (XF := []) ⟨p2_nmu, ck_E1 (ck_S1 p2_s328_s ck_S0) (ck_E1 (ck_S1 p2_s251_s ck_S0) ck_E0)⟩ ck_X0 ck_l0 (by decide +kernel)
set_option maxRecDepth 100000 in
/-- GlacierMail$Answers.throwAgain -/
noncomputable def p2_s1545 : ck_Sum := ((4, 0, 0), 245, [.inr (.inr (.inl 208)), .inl (0, 7, []), .inl (0, 299, []), .inl (ck_one 1), .inl (0, 299, [])], ([], [(3, 8, 0)], []), ([(206, 2, 8), (210, 0, 2399), (212, 0, 2399)], []), [(.inr none, 245, ([], [], [(206, 4, 4, ck_one (-1))]))])
set_option maxRecDepth 100000 in
theorem p2_s1545_s {X : Int → Int} {LX : Nat} : ck_Ok p2_O X LX 203 p2_s1545 := ck_ok_s (O := p2_O) (X := X) (LX := LX) (E := [(10, [p2_s356, p2_s1496]), (170, [p2_s1332]), (30, [p2_s346]), (45, [p2_s1497, p2_s1498]), (9, [p2_s320])]) (mi := 203) (cuts := [(59, [some (.inr (.inr (.inl 208))), some (.inl (0, 7, [])), some (.inl (0, 299, [])), some (.inl (ck_one 1)), some (.inl (0, 299, [])), some (.inr (.inr (.inl 8))), some (.inl ((-1), 98, [])), some (.inl ((-2147483648), 299, [])), some (.inl (0, 8, [])), none], ([], [(3, 8, 0)], [(206, 4, 4, ck_one (-1))]), 100, .inl 8, true)]) (f := 214) (S := p2_s1545) (lx := none) (XF := []) ⟨p2_nmu, ck_E1 (ck_S1 p2_s356_s (ck_S1 p2_s1496_s ck_S0)) (ck_E1 (ck_S1 p2_s1332_s ck_S0) (ck_E1 (ck_S1 p2_s346_s ck_S0) (ck_E1 (ck_S1 p2_s1497_s (ck_S1 p2_s1498_s ck_S0)) (ck_E1 (ck_S1 p2_s320_s ck_S0) ck_E0))))⟩ ck_X0 ck_l0 (by decide +kernel)
set_option maxRecDepth 100000 in
/-- GlacierMail$Answers.throwAgain -/
noncomputable def p2_s1546 : ck_Sum := ((4, 0, 0), 245, [.inr (.inr (.inl 208)), .inl (0, 7, []), .inl (2, 299, []), .inl ((-2147483648), 2147483647, []), .inl (2, 299, [])], ([], [(3, 8, 0)], []), (zl199, []), [(.inr none, 245, ([], [], [(206, 4, 4, ck_one (-1))]))])
set_option maxRecDepth 100000 in
theorem p2_s1546_s {X : Int → Int} {LX : Nat} : ck_Ok p2_O X LX 203 p2_s1546 := ck_ok_s (O := p2_O) (X := X) (LX := LX) (E := [(10, [p2_s356, p2_s1496]), (170, [p2_s1332]), (30, [p2_s346]), (45, [p2_s1500, p2_s1501]), (9, [p2_s320])]) (mi := 203) (cuts := [(59, [some (.inr (.inr (.inl 208))), some (.inl (0, 7, [])), some (.inl (2, 299, [])), some (.inl ((-2147483648), 2147483647, [])), some (.inl (2, 299, [])), some (.inr (.inr (.inl 8))), some (.inl ((-1), 98, [])), some (.inl ((-2147483648), 299, [])), some (.inl (0, 8, [])), none], ([], [(3, 8, 0)], [(206, 4, 4, ck_one (-1))]), 100, .inl 8, true)]) (f := 214) (S := p2_s1546) (lx := none) (XF := []) ⟨p2_nmu, ck_E1 (ck_S1 p2_s356_s (ck_S1 p2_s1496_s ck_S0)) (ck_E1 (ck_S1 p2_s1332_s ck_S0) (ck_E1 (ck_S1 p2_s346_s ck_S0) (ck_E1 (ck_S1 p2_s1500_s (ck_S1 p2_s1501_s ck_S0)) (ck_E1 (ck_S1 p2_s320_s ck_S0) ck_E0))))⟩ ck_X0 ck_l0 (by decide +kernel)
set_option maxRecDepth 100000 in
/-- GlacierMail$Answers.spread -/
noncomputable def p2_s1547 : ck_Sum := ((5, 0, 0), 245, [.inr (.inr (.inl 208)), .inl (0, 7, []), .inl (ck_one (-1)), .inl (0, 299, [])], ([], [(3, 8, 0)], [(3, 6, 6, (0, 299, [(10, 0)]))]), (zl200, []), [(.inr none, 245, ([], [], [(206, 4, 4, ck_one (-1))]))])
set_option maxRecDepth 100000 in
theorem p2_s1547_s {X : Int → Int} {LX : Nat} : ck_Ok p2_O X LX 202 p2_s1547 := ck_ok_s (O := p2_O) (X := X) (LX := LX) (E := [(9, [p2_s320]), (25, [p2_s1493, p2_s1495]), (203, [p2_s1545, p2_s1546]), (10, [p2_s1496])]) (mi := 202) (cuts := [(59, [some (.inr (.inr (.inl 208))), some (.inl (0, 7, [])), some (.inl (ck_one (-1))), some (.inl (0, 299, [])), some (.inl (1, 300, [(1000010, 1)])), none, none], ([], [(3, 8, 0)], [(206, 4, 4, ck_one (-1)), (3, 6, 6, (0, 299, [(10, 0)]))]), 100, .inl 4, true), (82, [some (.inr (.inr (.inl 208))), some (.inl (0, 7, [])), some (.inl (ck_one (-1))), some (.inl (2, 299, [])), some (.inl (1, 298, [(100, 0), (1000010, 1)])), some (.inl (0, 8, [])), none], ([], [(3, 8, 0)], [(206, 4, 4, ck_one (-1)), (3, 6, 6, (0, 299, [(10, 0)]))]), 300, .inl 5, true)]) (f := 284) (S := p2_s1547) (lx := none) (XF := []) ⟨p2_nmu, ck_E1 (ck_S1 p2_s320_s ck_S0) (ck_E1 (ck_S1 p2_s1493_s (ck_S1 p2_s1495_s ck_S0)) (ck_E1 (ck_S1 p2_s1545_s (ck_S1 p2_s1546_s ck_S0)) (ck_E1 (ck_S1 p2_s1496_s ck_S0) ck_E0)))⟩ ck_X0 ck_l0 (by decide +kernel)
set_option maxRecDepth 100000 in
/-- GlacierMail.reached -/
noncomputable def p2_s1548 : ck_Sum := ((8, 1, 6), 245, [.inr (.inr (.inl 1)), .inl (0, 7, []), .inl (0, 299, [])], ([], [(3, 8, 0)], [(3, 6, 6, (0, 299, [(10, 0)]))]), (zl200, []), [(.inl 3, 245, ([], [], [])), (.inr (some (.inl ((-2147483648), 2147483647, []))), 245, ([], [], [(206, 4, 4, ck_one (-1))]))])
set_option maxRecDepth 100000 in
theorem p2_s1548_s {X : Int → Int} {LX : Nat} : ck_Ok p2_O X LX 211 p2_s1548 := ck_ok_s (O := p2_O) (X := X) (LX := LX) (E := [(139, [p2_s328]), (129, [p2_s253]), (202, [p2_s1547]), (9, [p2_s320]), (204, [p2_s1504])]) (mi := 211) (cuts := [(27, [some (.inr (.inr (.inl 1))), some (.inl (0, 7, [])), some (.inl (0, 299, [])), some (.inl ((-2147483648), 2147483647, [])), some (.inl (0, 8, []))], ([], [(3, 8, 0)], [(206, 4, 4, ck_one (-1)), (3, 6, 6, (0, 299, [(10, 0)]))]), 100, .inl 4, true)]) (f := 174) (S := p2_s1548) (lx := none) (XF := []) ⟨p2_nmu, ck_E1 (ck_S1 p2_s328_s ck_S0) (ck_E1 (ck_S1 p2_s253_s ck_S0) (ck_E1 (ck_S1 p2_s1547_s ck_S0) (ck_E1 (ck_S1 p2_s320_s ck_S0) (ck_E1 (ck_S1 p2_s1504_s ck_S0) ck_E0))))⟩ ck_X0 ck_l0 (by decide +kernel)
set_option maxRecDepth 100000 in
/-- GlacierMailModel.reached -/
noncomputable def p2_s1549 : ck_Sum := ((2, 0, 0), 245, [.inr (.inr (.inl 226)), .inl ((-2147483648), (-1), []), .inl ((-2147483648), 2147483647, [])], ([], [], [(227, 3, 3, (0, 8, [(21, 0)]))]), ([(226, 0, 0)], []), [(.inr (some (.inl (ck_one 0))), 245, ([], [], [(226, 0, 0, ck_one 1)]))])
set_option maxRecDepth 100000 in
theorem p2_s1549_s {X : Int → Int} {LX : Nat} : ck_Ok p2_O X LX 356 p2_s1549 := ck_ok_s (O := p2_O) (X := X) (LX := LX) (E := [(298, [p2_s359]), (282, [p2_s241])]) (mi := 356) (cuts := []) (f := 94) (S := p2_s1549) (lx := none) (XF := []) ⟨p2_nmu, ck_E1 (ck_S1 p2_s359_s ck_S0) (ck_E1 (ck_S1 p2_s241_s ck_S0) ck_E0)⟩ ck_X0 ck_l0 (by decide +kernel)
set_option maxRecDepth 100000 in
/-- GlacierMailModel.reached -/
noncomputable def p2_s1550 : ck_Sum := ((2, 0, 0), 245, [.inr (.inr (.inl 226)), .inl (8, 2147483647, []), .inl ((-2147483648), 2147483647, [])], ([], [], [(227, 3, 3, (0, 8, [(21, 0)]))]), ([(226, 0, 0)], []), [(.inr (some (.inl (ck_one 0))), 245, ([], [], [(226, 0, 0, ck_one 1)]))])
set_option maxRecDepth 100000 in
theorem p2_s1550_s {X : Int → Int} {LX : Nat} : ck_Ok p2_O X LX 356 p2_s1550 := ck_ok_s (O := p2_O) (X := X) (LX := LX) (E := [(298, [p2_s362]), (282, [p2_s241])]) (mi := 356) (cuts := []) (f := 94) (S := p2_s1550) (lx := none) (XF := []) ⟨p2_nmu, ck_E1 (ck_S1 p2_s362_s ck_S0) (ck_E1 (ck_S1 p2_s241_s ck_S0) ck_E0)⟩ ck_X0 ck_l0 (by decide +kernel)
set_option maxRecDepth 100000 in
/-- GlacierMailModel.reached -/
noncomputable def p2_s1551 : ck_Sum := ((2, 0, 0), 245, [.inr (.inr (.inl 226)), .inl (0, 7, []), .inl ((-2147483648), (-1), [])], ([], [], [(227, 3, 3, (0, 8, [(21, 0)]))]), ([(226, 0, 0)], []), [(.inr (some (.inl (ck_one 0))), 245, ([], [], [(226, 0, 0, (1, 2, []))]))])
set_option maxRecDepth 100000 in
theorem p2_s1551_s {X : Int → Int} {LX : Nat} : ck_Ok p2_O X LX 356 p2_s1551 := ck_ok_s (O := p2_O) (X := X) (LX := LX) (E := [(298, [p2_s365]), (282, [p2_s241, p2_s242, p2_s244]), (285, [p2_s257])]) (mi := 356) (cuts := []) (f := 106) (S := p2_s1551) (lx := none) (XF := []) ⟨p2_nmu, ck_E1 (ck_S1 p2_s365_s ck_S0) (ck_E1 (ck_S1 p2_s241_s (ck_S1 p2_s242_s (ck_S1 p2_s244_s ck_S0))) (ck_E1 (ck_S1 p2_s257_s ck_S0) ck_E0))⟩ ck_X0 ck_l0 (by decide +kernel)
set_option maxRecDepth 100000 in
/-- GlacierMailModel.reached -/
noncomputable def p2_s1552 : ck_Sum := ((2, 0, 0), 245, [.inr (.inr (.inl 226)), .inl (0, 7, []), .inl (300, 2147483647, [])], ([], [], [(227, 3, 3, (0, 8, [(21, 0)]))]), ([(226, 0, 0)], []), [(.inr (some (.inl (ck_one 0))), 245, ([], [], [(226, 0, 0, (1, 2, []))]))])
set_option maxRecDepth 100000 in
theorem p2_s1552_s {X : Int → Int} {LX : Nat} : ck_Ok p2_O X LX 356 p2_s1552 := ck_ok_s (O := p2_O) (X := X) (LX := LX) (E := [(298, [p2_s365]), (282, [p2_s241, p2_s242, p2_s244]), (285, [p2_s260])]) (mi := 356) (cuts := []) (f := 106) (S := p2_s1552) (lx := none) (XF := []) ⟨p2_nmu, ck_E1 (ck_S1 p2_s365_s ck_S0) (ck_E1 (ck_S1 p2_s241_s (ck_S1 p2_s242_s (ck_S1 p2_s244_s ck_S0))) (ck_E1 (ck_S1 p2_s260_s ck_S0) ck_E0))⟩ ck_X0 ck_l0 (by decide +kernel)
set_option maxRecDepth 100000 in
/-- GlacierMail.needThiefYears -/
noncomputable def p2_s1554 : ck_Sum := ((6, 1, 6), 245, [.inr (.inr (.inl 1)), .inl ((-2147483648), (-1), [])], ([], [], []), ([], []), [(.inl 0, 245, ([], [], []))])
set_option maxRecDepth 100000 in
theorem p2_s1554_s {X : Int → Int} {LX : Nat} : ck_Ok p2_O X LX 214 p2_s1554 := ck_ok_s (O := p2_O) (X := X) (LX := LX) (E := []) (mi := 214) (cuts := []) (f := 78) (S := p2_s1554) (lx := none) (XF := []) ⟨p2_nmu, ck_E0⟩ ck_X0 ck_l0 (by decide +kernel)
set_option maxRecDepth 100000 in
/-- GlacierMail.thieves -/
noncomputable def p2_s1555 : ck_Sum := ((7, 1, 6), 245, [.inr (.inr (.inl 1)), .inl ((-2147483648), (-1), []), .inl (0, 1, [])], ([], [], []), ([], []), [(.inl 0, 245, ([], [], []))])
set_option maxRecDepth 100000 in
theorem p2_s1555_s {X : Int → Int} {LX : Nat} : ck_Ok p2_O X LX 213 p2_s1555 := ck_ok_s (O := p2_O) (X := X) (LX := LX) (E := [(214, [p2_s1554])]) (mi := 213) (cuts := []) (f := 76) (S := p2_s1555) (lx := none) (XF := []) ⟨p2_nmu, ck_E1 (ck_S1 p2_s1554_s ck_S0) ck_E0⟩ ck_X0 ck_l0 (by decide +kernel)
set_option maxRecDepth 100000 in
/-- GlacierMail.needThiefYears -/
noncomputable def p2_s1556 : ck_Sum := ((6, 1, 6), 245, [.inr (.inr (.inl 1)), .inl (31, 2147483647, [])], ([], [], []), ([], []), [(.inl 0, 245, ([], [], []))])
set_option maxRecDepth 100000 in
theorem p2_s1556_s {X : Int → Int} {LX : Nat} : ck_Ok p2_O X LX 214 p2_s1556 := ck_ok_s (O := p2_O) (X := X) (LX := LX) (E := []) (mi := 214) (cuts := []) (f := 84) (S := p2_s1556) (lx := none) (XF := []) ⟨p2_nmu, ck_E0⟩ ck_X0 ck_l0 (by decide +kernel)
set_option maxRecDepth 100000 in
/-- GlacierMail.thieves -/
noncomputable def p2_s1557 : ck_Sum := ((7, 1, 6), 245, [.inr (.inr (.inl 1)), .inl (31, 2147483647, []), .inl (0, 1, [])], ([], [], []), ([], []), [(.inl 0, 245, ([], [], []))])
set_option maxRecDepth 100000 in
theorem p2_s1557_s {X : Int → Int} {LX : Nat} : ck_Ok p2_O X LX 213 p2_s1557 := ck_ok_s (O := p2_O) (X := X) (LX := LX) (E := [(214, [p2_s1556])]) (mi := 213) (cuts := []) (f := 76) (S := p2_s1557) (lx := none) (XF := []) ⟨p2_nmu, ck_E1 (ck_S1 p2_s1556_s ck_S0) ck_E0⟩ ck_X0 ck_l0 (by decide +kernel)
set_option maxRecDepth 100000 in
/-- GlacierMail.needThiefYears -/
noncomputable def p2_s1558 : ck_Sum := ((6, 1, 6), 245, [.inr (.inr (.inl 1)), .inl (0, 30, [])], ([], [], []), ([], []), [(.inl 0, 245, ([], [], [])), (.inr none, 245, ([], [], []))])
set_option maxRecDepth 100000 in
theorem p2_s1558_s {X : Int → Int} {LX : Nat} : ck_Ok p2_O X LX 214 p2_s1558 := ck_ok_s (O := p2_O) (X := X) (LX := LX) (E := []) (mi := 214) (cuts := []) (f := 84) (S := p2_s1558) (lx := none) (XF := []) ⟨p2_nmu, ck_E0⟩ ck_X0 ck_l0 (by decide +kernel)
set_option maxRecDepth 100000 in
/-- java/util/Arrays.fill -/
noncomputable def p2_s1559 : ck_Sum := ((0, 0, 0), 245, [.inr (.inr (.inl 223)), .inl (ck_one 0)], ([], [], []), ([(223, 0, 179)], []), [(.inr none, 245, ([], [], []))])
set_option maxRecDepth 100000 in
theorem p2_s1559_s {X : Int → Int} {LX : Nat} : ck_Ok p2_O X LX 8 p2_s1559 := ck_ok_s (O := p2_O) (X := X) (LX := LX) (E := []) (mi := 8) (cuts := [(5, [some (.inr (.inr (.inl 223))), some (.inl (ck_one 0)), some (.inl (0, 180, [])), some (.inl (ck_one 180))], ([], [], []), 100, .inl 2, true)]) (f := 130) (S := p2_s1559) (lx := none) (XF := []) ⟨p2_nmu, ck_E0⟩ ck_X0 ck_l0 (by decide +kernel)
set_option maxRecDepth 100000 in
/-- GlacierMail$Rows.reset -/
noncomputable def p2_s1560 : ck_Sum := ((1, 0, 0), 245, [.inr (.inr (.inl 222)), .inl (0, 30, [])], ([], [], []), ([(222, 3, 3), (223, 0, 179)], []), [(.inr none, 245, ([], [], []))])
set_option maxRecDepth 100000 in
theorem p2_s1560_s {X : Int → Int} {LX : Nat} : ck_Ok p2_O X LX 25 p2_s1560 := ck_ok_s (O := p2_O) (X := X) (LX := LX) (E := [(8, [p2_s1559])]) (mi := 25) (cuts := []) (f := 96) (S := p2_s1560) (lx := none) (XF := []) ⟨p2_nmu, ck_E1 (ck_S1 p2_s1559_s ck_S0) ck_E0⟩ ck_X0 ck_l0 (by decide +kernel)
set_option maxRecDepth 100000 in
/-- GlacierMail$Rows.get -/
noncomputable def p2_s1561 : ck_Sum := ((0, 0, 0), 245, [.inr (.inr (.inl 222)), .inl ((-2147483648), 2147483647, []), .inl ((-2147483648), 2147483647, [])], ([], [], []), ([], []), [(.inr (some (.inl ((-2147483648), 2147483647, []))), 245, ([], [], []))])
set_option maxRecDepth 100000 in
theorem p2_s1561_s {X : Int → Int} {LX : Nat} : ck_Ok p2_O X LX 10 p2_s1561 := ck_ok_s (O := p2_O) (X := X) (LX := LX) (E := []) (mi := 10) (cuts := []) (f := 114) (S := p2_s1561) (lx := none) (XF := []) ⟨p2_nmu, ck_E0⟩ ck_X0 ck_l0 (by decide +kernel)
set_option maxRecDepth 100000 in
/-- GlacierMail$Rows.put -/
noncomputable def p2_s1562 : ck_Sum := ((0, 0, 0), 245, [.inr (.inr (.inl 222)), .inl ((-2147483648), 2147483647, []), .inl ((-1), 299, []), .inl ((-2147483648), 2147483647, [])], ([], [], []), ([(223, 0, 179)], []), [(.inr none, 245, ([], [], []))])
set_option maxRecDepth 100000 in
theorem p2_s1562_s {X : Int → Int} {LX : Nat} : ck_Ok p2_O X LX 45 p2_s1562 := ck_ok_s (O := p2_O) (X := X) (LX := LX) (E := []) (mi := 45) (cuts := []) (f := 116) (S := p2_s1562) (lx := none) (XF := []) ⟨p2_nmu, ck_E0⟩ ck_X0 ck_l0 (by decide +kernel)
set_option maxRecDepth 100000 in
/-- GlacierMail.reckonCame -/
noncomputable def p2_s1563 : ck_Sum := ((2, 0, 0), 245, [.inr (.inr (.inl 1)), .inl (0, 30, [])], ([], [], [(3, 6, 6, (0, 299, [(10, 0)]))]), ([(222, 3, 3), (223, 0, 179)], []), [(.inr none, 245, ([], [], []))])
set_option maxRecDepth 100000 in
theorem p2_s1563_s {X : Int → Int} {LX : Nat} : ck_Ok p2_O X LX 215 p2_s1563 := ck_ok_s (O := p2_O) (X := X) (LX := LX) (E := [(25, [p2_s1560]), (9, [p2_s332]), (10, [p2_s350, p2_s335, p2_s1561]), (28, [p2_s336]), (45, [p2_s1562])]) (mi := 215) (cuts := [(10, [some (.inr (.inr (.inl 1))), some (.inl (0, 30, [])), some (.inl (0, 24, [])), none, none], ([], [], [(3, 6, 6, (0, 299, [(10, 0)]))]), 100, .inl 2, true)]) (f := 286) (S := p2_s1563) (lx := none) (XF := []) ⟨p2_nmu, ck_E1 (ck_S1 p2_s1560_s ck_S0) (ck_E1 (ck_S1 p2_s332_s ck_S0) (ck_E1 (ck_S1 p2_s350_s (ck_S1 p2_s335_s (ck_S1 p2_s1561_s ck_S0))) (ck_E1 (ck_S1 p2_s336_s ck_S0) (ck_E1 (ck_S1 p2_s1562_s ck_S0) ck_E0))))⟩ ck_X0 ck_l0 (by decide +kernel)
set_option maxRecDepth 100000 in
/-- java/util/Arrays.fill -/
noncomputable def p2_s1564 : ck_Sum := ((0, 0, 0), 245, [.inr (.inr (.inl 225)), .inl (ck_one 0)], ([], [], []), ([(225, 0, 185)], []), [(.inr none, 245, ([], [], []))])
set_option maxRecDepth 100000 in
theorem p2_s1564_s {X : Int → Int} {LX : Nat} : ck_Ok p2_O X LX 8 p2_s1564 := ck_ok_s (O := p2_O) (X := X) (LX := LX) (E := []) (mi := 8) (cuts := [(5, [some (.inr (.inr (.inl 225))), some (.inl (ck_one 0)), some (.inl (0, 186, [])), some (.inl (ck_one 186))], ([], [], []), 100, .inl 2, true)]) (f := 130) (S := p2_s1564) (lx := none) (XF := []) ⟨p2_nmu, ck_E0⟩ ck_X0 ck_l0 (by decide +kernel)
set_option maxRecDepth 100000 in
/-- GlacierMail$Rows.reset -/
noncomputable def p2_s1565 : ck_Sum := ((1, 0, 0), 245, [.inr (.inr (.inl 224)), .inl (1, 31, [])], ([], [], []), ([(224, 3, 3), (225, 0, 185)], []), [(.inr none, 245, ([], [], [(224, 3, 3, (1, 31, []))]))])
set_option maxRecDepth 100000 in
theorem p2_s1565_s {X : Int → Int} {LX : Nat} : ck_Ok p2_O X LX 25 p2_s1565 := ck_ok_s (O := p2_O) (X := X) (LX := LX) (E := [(8, [p2_s1564])]) (mi := 25) (cuts := []) (f := 96) (S := p2_s1565) (lx := none) (XF := []) ⟨p2_nmu, ck_E1 (ck_S1 p2_s1564_s ck_S0) ck_E0⟩ ck_X0 ck_l0 (by decide +kernel)
set_option maxRecDepth 100000 in
/-- GlacierMail$Rows.get -/
noncomputable def p2_s1566 : ck_Sum := ((0, 0, 0), 245, [.inr (.inr (.inl 224)), .inl ((-2147483648), 2147483647, []), .inl ((-2147483648), 2147483647, [])], ([], [], []), ([], []), [(.inr (some (.inl ((-2147483648), 2147483647, []))), 245, ([], [], []))])
set_option maxRecDepth 100000 in
theorem p2_s1566_s {X : Int → Int} {LX : Nat} : ck_Ok p2_O X LX 10 p2_s1566 := ck_ok_s (O := p2_O) (X := X) (LX := LX) (E := []) (mi := 10) (cuts := []) (f := 114) (S := p2_s1566) (lx := none) (XF := []) ⟨p2_nmu, ck_E0⟩ ck_X0 ck_l0 (by decide +kernel)
set_option maxRecDepth 100000 in
/-- GlacierMail.bestNext -/
noncomputable def p2_s1567 : ck_Sum := ((1, 0, 0), 245, [.inr (.inr (.inl 1)), .inl (1, 30, []), .inl (0, 5, [])], ([], [], []), ([], []), [(.inr (some (.inl ((-2147483648), 2147483647, []))), 245, ([], [], []))])
set_option maxRecDepth 100000 in
theorem p2_s1567_s {X : Int → Int} {LX : Nat} : ck_Ok p2_O X LX 216 p2_s1567 := ck_ok_s (O := p2_O) (X := X) (LX := LX) (E := [(10, [p2_s1566])]) (mi := 216) (cuts := []) (f := 118) (S := p2_s1567) (lx := none) (XF := []) ⟨p2_nmu, ck_E1 (ck_S1 p2_s1566_s ck_S0) ck_E0⟩ ck_X0 ck_l0 (by decide +kernel)
set_option maxRecDepth 100000 in
/-- GlacierMail$Rows.put -/
noncomputable def p2_s1568 : ck_Sum := ((0, 0, 0), 245, [.inr (.inr (.inl 224)), .inl (0, 29, []), .inl (0, 5, []), .inl ((-2147483648), 2147483647, [])], ([], [], []), ([(225, 0, 179)], []), [(.inr none, 245, ([], [], []))])
set_option maxRecDepth 100000 in
theorem p2_s1568_s {X : Int → Int} {LX : Nat} : ck_Ok p2_O X LX 45 p2_s1568 := ck_ok_s (O := p2_O) (X := X) (LX := LX) (E := []) (mi := 45) (cuts := []) (f := 116) (S := p2_s1568) (lx := none) (XF := []) ⟨p2_nmu, ck_E0⟩ ck_X0 ck_l0 (by decide +kernel)
set_option maxRecDepth 100000 in
/-- GlacierMailModel.in -/
noncomputable def p2_s1570 : ck_Sum := ((0, 0, 0), 245, [.inl ((-2147483648), (-1), []), .inl (ck_one 1), .inl (ck_one 30)], ([], [], []), ([], []), [(.inr (some (.inl (ck_one 0))), 245, ([], [], []))])
set_option maxRecDepth 100000 in
theorem p2_s1570_s {X : Int → Int} {LX : Nat} : ck_Ok p2_O X LX 286 p2_s1570 := ck_ok_s (O := p2_O) (X := X) (LX := LX) (E := []) (mi := 286) (cuts := []) (f := 80) (S := p2_s1570) (lx := none) (XF := []) ⟨p2_nmu, ck_E0⟩ ck_X0 ck_l0 (by decide +kernel)
set_option maxRecDepth 100000 in
/-- GlacierMailModel.thieves -/
noncomputable def p2_s1571 : ck_Sum := ((1, 0, 0), 245, [.inr (.inr (.inl 226)), .inl ((-2147483648), (-1), []), .inl (0, 1, [])], ([], [], []), ([(226, 0, 0)], []), [(.inr (some (.inl (ck_one 0))), 245, ([], [], [(226, 0, 0, ck_one 1)]))])
set_option maxRecDepth 100000 in
theorem p2_s1571_s {X : Int → Int} {LX : Nat} : ck_Ok p2_O X LX 357 p2_s1571 := ck_ok_s (O := p2_O) (X := X) (LX := LX) (E := [(286, [p2_s1570]), (282, [p2_s241])]) (mi := 357) (cuts := []) (f := 102) (S := p2_s1571) (lx := none) (XF := []) ⟨p2_nmu, ck_E1 (ck_S1 p2_s1570_s ck_S0) (ck_E1 (ck_S1 p2_s241_s ck_S0) ck_E0)⟩ ck_X0 ck_l0 (by decide +kernel)
set_option maxRecDepth 100000 in
/-- GlacierMailModel.in -/
noncomputable def p2_s1572 : ck_Sum := ((0, 0, 0), 245, [.inl (31, 2147483647, []), .inl (ck_one 1), .inl (ck_one 30)], ([], [], []), ([], []), [(.inr (some (.inl (ck_one 0))), 245, ([], [], []))])
set_option maxRecDepth 100000 in
theorem p2_s1572_s {X : Int → Int} {LX : Nat} : ck_Ok p2_O X LX 286 p2_s1572 := ck_ok_s (O := p2_O) (X := X) (LX := LX) (E := []) (mi := 286) (cuts := []) (f := 86) (S := p2_s1572) (lx := none) (XF := []) ⟨p2_nmu, ck_E0⟩ ck_X0 ck_l0 (by decide +kernel)
set_option maxRecDepth 100000 in
/-- GlacierMailModel.thieves -/
noncomputable def p2_s1573 : ck_Sum := ((1, 0, 0), 245, [.inr (.inr (.inl 226)), .inl (31, 2147483647, []), .inl (0, 1, [])], ([], [], []), ([(226, 0, 0)], []), [(.inr (some (.inl (ck_one 0))), 245, ([], [], [(226, 0, 0, ck_one 1)]))])
set_option maxRecDepth 100000 in
theorem p2_s1573_s {X : Int → Int} {LX : Nat} : ck_Ok p2_O X LX 357 p2_s1573 := ck_ok_s (O := p2_O) (X := X) (LX := LX) (E := [(286, [p2_s1572]), (282, [p2_s241])]) (mi := 357) (cuts := []) (f := 102) (S := p2_s1573) (lx := none) (XF := []) ⟨p2_nmu, ck_E1 (ck_S1 p2_s1572_s ck_S0) (ck_E1 (ck_S1 p2_s241_s ck_S0) ck_E0)⟩ ck_X0 ck_l0 (by decide +kernel)
set_option maxRecDepth 100000 in
/-- GlacierMailModel.in -/
noncomputable def p2_s1574 : ck_Sum := ((0, 0, 0), 245, [.inl (0, 30, []), .inl (ck_one 1), .inl (ck_one 30)], ([], [], []), ([], []), [(.inr (some (.inl (ck_one 0))), 245, ([], [], [])), (.inr (some (.inl (ck_one 1))), 245, ([], [], []))])
set_option maxRecDepth 100000 in
theorem p2_s1574_s {X : Int → Int} {LX : Nat} : ck_Ok p2_O X LX 286 p2_s1574 := ck_ok_s (O := p2_O) (X := X) (LX := LX) (E := []) (mi := 286) (cuts := []) (f := 88) (S := p2_s1574) (lx := none) (XF := []) ⟨p2_nmu, ck_E0⟩ ck_X0 ck_l0 (by decide +kernel)
set_option maxRecDepth 100000 in
/-- GlacierMailModel.outsIn -/
noncomputable def p2_s1575 : ck_Sum := ((2, 0, 0), 245, [.inr (.inr (.inl 226)), .inl (0, 328, []), .inl (0, 5, []), .inl (ck_one 0)], ([], [], [(227, 4, 4, (0, 24, [(22, 0)]))]), ([], []), [(.inr (some (.inl ((-2147483648), 2147483647, []))), 245, ([], [], []))])
set_option maxRecDepth 100000 in
theorem p2_s1575_s {X : Int → Int} {LX : Nat} : ck_Ok p2_O X LX 333 p2_s1575 := ck_ok_s (O := p2_O) (X := X) (LX := LX) (E := [(254, [p2_s176]), (301, [p2_s375]), (303, [p2_s374])]) (mi := 333) (cuts := [(6, [some (.inr (.inr (.inl 226))), some (.inl (0, 328, [])), some (.inl (0, 5, [])), some (.inl (ck_one 0)), some (.inl ((-2147483648), 2147483647, [])), some (.inl (0, 24, []))], ([], [], [(227, 4, 4, (0, 24, [(22, 0)]))]), 100, .inl 5, true)]) (f := 218) (S := p2_s1575) (lx := none) (XF := []) ⟨p2_nmu, ck_E1 (ck_S1 p2_s176_s ck_S0) (ck_E1 (ck_S1 p2_s375_s ck_S0) (ck_E1 (ck_S1 p2_s374_s ck_S0) ck_E0))⟩ ck_X0 ck_l0 (by decide +kernel)
set_option maxRecDepth 100000 in
/-- GlacierMailModel.outsIn -/
noncomputable def p2_s1576 : ck_Sum := ((2, 0, 0), 245, [.inr (.inr (.inl 226)), .inl (0, 327, []), .inl (0, 5, []), .inl (ck_one 0)], ([], [], [(227, 4, 4, (0, 24, [(22, 0)]))]), ([], []), [(.inr (some (.inl ((-2147483648), 2147483647, []))), 245, ([], [], []))])
set_option maxRecDepth 100000 in
theorem p2_s1576_s {X : Int → Int} {LX : Nat} : ck_Ok p2_O X LX 333 p2_s1576 := ck_ok_s (O := p2_O) (X := X) (LX := LX) (E := [(254, [p2_s176]), (301, [p2_s375]), (303, [p2_s374])]) (mi := 333) (cuts := [(6, [some (.inr (.inr (.inl 226))), some (.inl (0, 327, [])), some (.inl (0, 5, [])), some (.inl (ck_one 0)), some (.inl ((-2147483648), 2147483647, [])), some (.inl (0, 24, []))], ([], [], [(227, 4, 4, (0, 24, [(22, 0)]))]), 100, .inl 5, true)]) (f := 218) (S := p2_s1576) (lx := none) (XF := []) ⟨p2_nmu, ck_E1 (ck_S1 p2_s176_s ck_S0) (ck_E1 (ck_S1 p2_s375_s ck_S0) (ck_E1 (ck_S1 p2_s374_s ck_S0) ck_E0))⟩ ck_X0 ck_l0 (by decide +kernel)
set_option maxRecDepth 100000 in
/-- GlacierMailModel.outsIn -/
noncomputable def p2_s1577 : ck_Sum := ((2, 0, 0), 245, [.inr (.inr (.inl 226)), .inl (0, 327, []), .inl (0, 4, []), .inl (ck_one 0)], ([], [], [(227, 4, 4, (0, 24, [(22, 0)]))]), ([], []), [(.inr (some (.inl ((-2147483648), 2147483647, []))), 245, ([], [], []))])
set_option maxRecDepth 100000 in
theorem p2_s1577_s {X : Int → Int} {LX : Nat} : ck_Ok p2_O X LX 333 p2_s1577 := ck_ok_s (O := p2_O) (X := X) (LX := LX) (E := [(254, [p2_s176]), (301, [p2_s375]), (303, [p2_s374])]) (mi := 333) (cuts := [(6, [some (.inr (.inr (.inl 226))), some (.inl (0, 327, [])), some (.inl (0, 4, [])), some (.inl (ck_one 0)), some (.inl ((-2147483648), 2147483647, [])), some (.inl (0, 24, []))], ([], [], [(227, 4, 4, (0, 24, [(22, 0)]))]), 100, .inl 5, true)]) (f := 218) (S := p2_s1577) (lx := none) (XF := []) ⟨p2_nmu, ck_E1 (ck_S1 p2_s176_s ck_S0) (ck_E1 (ck_S1 p2_s375_s ck_S0) (ck_E1 (ck_S1 p2_s374_s ck_S0) ck_E0))⟩ ck_X0 ck_l0 (by decide +kernel)
