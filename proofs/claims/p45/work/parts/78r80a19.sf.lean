/-! 78r80a19.sf -/
section
/-! EVERY CALL ENDS, whatever was done before (laid by wip/am/p2k.py). -/
set_option maxRecDepth 100000 in
/-- GlacierMail.soonest -/
def p2_s1488 : ck_Sum := ((8, 1, 6), 245, [.inr (.inr (.inl 1)), .inl ((-2147483648), (-1), []), .inl ((-2147483648), 2147483647, []), .inl (0, 1, [])], ([], [], []), ([], []), [(.inl 3, 245, ([], [], []))])
set_option maxRecDepth 100000 in
theorem p2_s1488_s {X : Int → Int} {LX : Nat} : ck_Ok p2_O X LX 201 p2_s1488 := ck_ok_s (O := p2_O) (X := X) (LX := LX) (E := [(139, [p2_s322])]) (mi := 201) (cuts := []) (f := 76) (S := p2_s1488) (lx := none) (XF := []) ⟨p2_nmu, ck_E1 (ck_S1 p2_s322_s ck_S0) ck_E0⟩ ck_X0 ck_l0 (by decide +kernel)
set_option maxRecDepth 100000 in
/-- GlacierMail.soonest -/
def p2_s1489 : ck_Sum := ((8, 1, 6), 245, [.inr (.inr (.inl 1)), .inl (8, 2147483647, []), .inl ((-2147483648), 2147483647, []), .inl (0, 1, [])], ([], [], []), ([], []), [(.inl 3, 245, ([], [], []))])
set_option maxRecDepth 100000 in
theorem p2_s1489_s {X : Int → Int} {LX : Nat} : ck_Ok p2_O X LX 201 p2_s1489 := ck_ok_s (O := p2_O) (X := X) (LX := LX) (E := [(139, [p2_s325])]) (mi := 201) (cuts := []) (f := 76) (S := p2_s1489) (lx := none) (XF := []) ⟨p2_nmu, ck_E1 (ck_S1 p2_s325_s ck_S0) ck_E0⟩ ck_X0 ck_l0 (by decide +kernel)
set_option maxRecDepth 100000 in
/-- GlacierMail.soonest -/
def p2_s1490 : ck_Sum := ((8, 2, 12), 245, [.inr (.inr (.inl 1)), .inl (0, 7, []), .inl ((-2147483648), (-1), []), .inl (0, 1, [])], ([], [], []), ([], []), [(.inl 3, 245, ([], [], []))])
set_option maxRecDepth 100000 in
theorem p2_s1490_s {X : Int → Int} {LX : Nat} : ck_Ok p2_O X LX 201 p2_s1490 := ck_ok_s (O := p2_O) (X := X) (LX := LX) (E := [(139, [p2_s328, p2_s322])]) (mi := 201) (cuts := []) (f := 82) (S := p2_s1490) (lx := none) (XF := []) ⟨p2_nmu, ck_E1 (ck_S1 p2_s328_s (ck_S1 p2_s322_s ck_S0)) ck_E0⟩ ck_X0 ck_l0 (by decide +kernel)
set_option maxRecDepth 100000 in
/-- GlacierMail.soonest -/
def p2_s1491 : ck_Sum := ((8, 2, 12), 245, [.inr (.inr (.inl 1)), .inl (0, 7, []), .inl (8, 2147483647, []), .inl (0, 1, [])], ([], [], []), ([], []), [(.inl 3, 245, ([], [], []))])
set_option maxRecDepth 100000 in
theorem p2_s1491_s {X : Int → Int} {LX : Nat} : ck_Ok p2_O X LX 201 p2_s1491 := ck_ok_s (O := p2_O) (X := X) (LX := LX) (E := [(139, [p2_s328, p2_s325])]) (mi := 201) (cuts := []) (f := 82) (S := p2_s1491) (lx := none) (XF := []) ⟨p2_nmu, ck_E1 (ck_S1 p2_s328_s (ck_S1 p2_s325_s ck_S0)) ck_E0⟩ ck_X0 ck_l0 (by decide +kernel)
set_option maxRecDepth 100000 in
/-- java/util/Arrays.fill -/
def p2_s1492 : ck_Sum := ((0, 0, 0), 245, [.inr (.inr (.inl 210)), .inl (ck_one 0)], ([], [], []), ([(210, 0, 2399)], []), [(.inr none, 245, ([], [], []))])
set_option maxRecDepth 100000 in
theorem p2_s1492_s {X : Int → Int} {LX : Nat} : ck_Ok p2_O X LX 8 p2_s1492 := ck_ok_s (O := p2_O) (X := X) (LX := LX) (E := []) (mi := 8) (cuts := [(5, [some (.inr (.inr (.inl 210))), some (.inl (ck_one 0)), some (.inl (0, 2400, [])), some (.inl (ck_one 2400))], ([], [], []), 100, .inl 2, true)]) (f := 130) (S := p2_s1492) (lx := none) (XF := []) ⟨p2_nmu, ck_E0⟩ ck_X0 ck_l0 (by decide +kernel)
set_option maxRecDepth 100000 in
/-- GlacierMail$Rows.reset -/
def p2_s1493 : ck_Sum := ((1, 0, 0), 245, [.inr (.inr (.inl 209)), .inl (0, 8, [])], ([], [], []), ([(209, 3, 3), (210, 0, 2399)], []), [(.inr none, 245, ([], [], []))])
set_option maxRecDepth 100000 in
theorem p2_s1493_s {X : Int → Int} {LX : Nat} : ck_Ok p2_O X LX 25 p2_s1493 := ck_ok_s (O := p2_O) (X := X) (LX := LX) (E := [(8, [p2_s1492])]) (mi := 25) (cuts := []) (f := 96) (S := p2_s1493) (lx := none) (XF := []) ⟨p2_nmu, ck_E1 (ck_S1 p2_s1492_s ck_S0) ck_E0⟩ ck_X0 ck_l0 (by decide +kernel)
set_option maxRecDepth 100000 in
/-- java/util/Arrays.fill -/
def p2_s1494 : ck_Sum := ((0, 0, 0), 245, [.inr (.inr (.inl 212)), .inl (ck_one 0)], ([], [], []), ([(212, 0, 2399)], []), [(.inr none, 245, ([], [], []))])
set_option maxRecDepth 100000 in
theorem p2_s1494_s {X : Int → Int} {LX : Nat} : ck_Ok p2_O X LX 8 p2_s1494 := ck_ok_s (O := p2_O) (X := X) (LX := LX) (E := []) (mi := 8) (cuts := [(5, [some (.inr (.inr (.inl 212))), some (.inl (ck_one 0)), some (.inl (0, 2400, [])), some (.inl (ck_one 2400))], ([], [], []), 100, .inl 2, true)]) (f := 130) (S := p2_s1494) (lx := none) (XF := []) ⟨p2_nmu, ck_E0⟩ ck_X0 ck_l0 (by decide +kernel)
set_option maxRecDepth 100000 in
/-- GlacierMail$Rows.reset -/
def p2_s1495 : ck_Sum := ((1, 0, 0), 245, [.inr (.inr (.inl 211)), .inl (0, 8, [])], ([], [], []), ([(211, 3, 3), (212, 0, 2399)], []), [(.inr none, 245, ([], [], []))])
set_option maxRecDepth 100000 in
theorem p2_s1495_s {X : Int → Int} {LX : Nat} : ck_Ok p2_O X LX 25 p2_s1495 := ck_ok_s (O := p2_O) (X := X) (LX := LX) (E := [(8, [p2_s1494])]) (mi := 25) (cuts := []) (f := 96) (S := p2_s1495) (lx := none) (XF := []) ⟨p2_nmu, ck_E1 (ck_S1 p2_s1494_s ck_S0) ck_E0⟩ ck_X0 ck_l0 (by decide +kernel)
set_option maxRecDepth 100000 in
/-- GlacierMail$Rows.get -/
def p2_s1496 : ck_Sum := ((0, 0, 0), 245, [.inr (.inr (.inl 209)), .inl ((-2147483648), 2147483647, []), .inl ((-2147483648), 2147483647, [])], ([], [], []), ([], []), [(.inr (some (.inl ((-2147483648), 2147483647, []))), 245, ([], [], []))])
set_option maxRecDepth 100000 in
theorem p2_s1496_s {X : Int → Int} {LX : Nat} : ck_Ok p2_O X LX 10 p2_s1496 := ck_ok_s (O := p2_O) (X := X) (LX := LX) (E := []) (mi := 10) (cuts := []) (f := 114) (S := p2_s1496) (lx := none) (XF := []) ⟨p2_nmu, ck_E0⟩ ck_X0 ck_l0 (by decide +kernel)
set_option maxRecDepth 100000 in
/-- GlacierMail$Rows.put -/
def p2_s1497 : ck_Sum := ((0, 0, 0), 245, [.inr (.inr (.inl 211)), .inl (0, 7, []), .inl (0, 299, []), .inl ((-2147483648), 299, [])], ([], [], []), ([(212, 0, 2399)], []), [(.inr none, 245, ([], [], []))])
set_option maxRecDepth 100000 in
theorem p2_s1497_s {X : Int → Int} {LX : Nat} : ck_Ok p2_O X LX 45 p2_s1497 := ck_ok_s (O := p2_O) (X := X) (LX := LX) (E := []) (mi := 45) (cuts := []) (f := 116) (S := p2_s1497) (lx := none) (XF := []) ⟨p2_nmu, ck_E0⟩ ck_X0 ck_l0 (by decide +kernel)
set_option maxRecDepth 100000 in
/-- GlacierMail$Rows.put -/
def p2_s1498 : ck_Sum := ((0, 0, 0), 245, [.inr (.inr (.inl 209)), .inl (0, 7, []), .inl ((-2147483648), 299, []), .inl (ck_one 1)], ([], [], []), ([(210, 0, 2399)], []), [(.inr none, 245, ([], [], []))])
set_option maxRecDepth 100000 in
theorem p2_s1498_s {X : Int → Int} {LX : Nat} : ck_Ok p2_O X LX 45 p2_s1498 := ck_ok_s (O := p2_O) (X := X) (LX := LX) (E := []) (mi := 45) (cuts := []) (f := 116) (S := p2_s1498) (lx := none) (XF := []) ⟨p2_nmu, ck_E0⟩ ck_X0 ck_l0 (by decide +kernel)
set_option maxRecDepth 100000 in
/-- GlacierMail$Answers.throwAgain -/
def p2_s1499 : ck_Sum := ((4, 0, 0), 245, [.inr (.inr (.inl 208)), .inl (0, 7, []), .inl (0, 299, []), .inl (ck_one 1), .inl (ck_one 299)], ([], [(3, 8, 0)], []), ([(206, 2, 8), (210, 0, 2399), (212, 0, 2399)], []), [(.inr none, 245, ([], [], [(206, 4, 4, ck_one (-1))]))])
set_option maxRecDepth 100000 in
theorem p2_s1499_s {X : Int → Int} {LX : Nat} : ck_Ok p2_O X LX 203 p2_s1499 := ck_ok_s (O := p2_O) (X := X) (LX := LX) (E := [(10, [p2_s356, p2_s1496]), (170, [p2_s1332]), (30, [p2_s346]), (45, [p2_s1497, p2_s1498]), (9, [p2_s320])]) (mi := 203) (cuts := [(59, [some (.inr (.inr (.inl 208))), some (.inl (0, 7, [])), some (.inl (0, 299, [])), some (.inl (ck_one 1)), some (.inl (ck_one 299)), some (.inr (.inr (.inl 8))), some (.inl ((-1), 98, [])), some (.inl ((-2147483648), 299, [])), some (.inl (0, 8, [])), none], ([], [(3, 8, 0)], [(206, 4, 4, ck_one (-1))]), 100, .inl 8, true)]) (f := 214) (S := p2_s1499) (lx := none) (XF := []) ⟨p2_nmu, ck_E1 (ck_S1 p2_s356_s (ck_S1 p2_s1496_s ck_S0)) (ck_E1 (ck_S1 p2_s1332_s ck_S0) (ck_E1 (ck_S1 p2_s346_s ck_S0) (ck_E1 (ck_S1 p2_s1497_s (ck_S1 p2_s1498_s ck_S0)) (ck_E1 (ck_S1 p2_s320_s ck_S0) ck_E0))))⟩ ck_X0 ck_l0 (by decide +kernel)
set_option maxRecDepth 100000 in
/-- GlacierMail$Rows.put -/
def p2_s1500 : ck_Sum := ((0, 0, 0), 245, [.inr (.inr (.inl 211)), .inl (0, 7, []), .inl (2, 299, []), .inl ((-2147483648), 299, [])], ([], [], []), (zl198, []), [(.inr none, 245, ([], [], []))])
set_option maxRecDepth 100000 in
theorem p2_s1500_s {X : Int → Int} {LX : Nat} : ck_Ok p2_O X LX 45 p2_s1500 := ck_ok_s (O := p2_O) (X := X) (LX := LX) (E := []) (mi := 45) (cuts := []) (f := 116) (S := p2_s1500) (lx := none) (XF := []) ⟨p2_nmu, ck_E0⟩ ck_X0 ck_l0 (by decide +kernel)
set_option maxRecDepth 100000 in
/-- GlacierMail$Rows.put -/
def p2_s1501 : ck_Sum := ((0, 0, 0), 245, [.inr (.inr (.inl 209)), .inl (0, 7, []), .inl ((-2147483648), 299, []), .inl ((-2147483648), 2147483647, [])], ([], [], []), ([(210, 0, 2399)], []), [(.inr none, 245, ([], [], []))])
set_option maxRecDepth 100000 in
theorem p2_s1501_s {X : Int → Int} {LX : Nat} : ck_Ok p2_O X LX 45 p2_s1501 := ck_ok_s (O := p2_O) (X := X) (LX := LX) (E := []) (mi := 45) (cuts := []) (f := 116) (S := p2_s1501) (lx := none) (XF := []) ⟨p2_nmu, ck_E0⟩ ck_X0 ck_l0 (by decide +kernel)
set_option maxRecDepth 100000 in
/-- GlacierMail$Answers.throwAgain -/
def p2_s1502 : ck_Sum := ((4, 0, 0), 245, [.inr (.inr (.inl 208)), .inl (0, 7, []), .inl (2, 299, []), .inl ((-2147483648), 2147483647, []), .inl (ck_one 299)], ([], [(3, 8, 0)], []), (zl199, []), [(.inr none, 245, ([], [], [(206, 4, 4, ck_one (-1))]))])
set_option maxRecDepth 100000 in
theorem p2_s1502_s {X : Int → Int} {LX : Nat} : ck_Ok p2_O X LX 203 p2_s1502 := ck_ok_s (O := p2_O) (X := X) (LX := LX) (E := [(10, [p2_s356, p2_s1496]), (170, [p2_s1332]), (30, [p2_s346]), (45, [p2_s1500, p2_s1501]), (9, [p2_s320])]) (mi := 203) (cuts := [(59, [some (.inr (.inr (.inl 208))), some (.inl (0, 7, [])), some (.inl (2, 299, [])), some (.inl ((-2147483648), 2147483647, [])), some (.inl (ck_one 299)), some (.inr (.inr (.inl 8))), some (.inl ((-1), 98, [])), some (.inl ((-2147483648), 299, [])), some (.inl (0, 8, [])), none], ([], [(3, 8, 0)], [(206, 4, 4, ck_one (-1))]), 100, .inl 8, true)]) (f := 214) (S := p2_s1502) (lx := none) (XF := []) ⟨p2_nmu, ck_E1 (ck_S1 p2_s356_s (ck_S1 p2_s1496_s ck_S0)) (ck_E1 (ck_S1 p2_s1332_s ck_S0) (ck_E1 (ck_S1 p2_s346_s ck_S0) (ck_E1 (ck_S1 p2_s1500_s (ck_S1 p2_s1501_s ck_S0)) (ck_E1 (ck_S1 p2_s320_s ck_S0) ck_E0))))⟩ ck_X0 ck_l0 (by decide +kernel)
set_option maxRecDepth 100000 in
/-- GlacierMail$Answers.spread -/
def p2_s1503 : ck_Sum := ((5, 0, 0), 245, [.inr (.inr (.inl 208)), .inl (0, 7, []), .inl (0, 7, []), .inl (ck_one 299)], ([], [(3, 8, 0)], [(3, 6, 6, (0, 299, [(10, 0)]))]), (zl200, []), [(.inr none, 245, ([], [], [(206, 4, 4, ck_one (-1))]))])
set_option maxRecDepth 100000 in
theorem p2_s1503_s {X : Int → Int} {LX : Nat} : ck_Ok p2_O X LX 202 p2_s1503 := ck_ok_s (O := p2_O) (X := X) (LX := LX) (E := [(9, [p2_s320]), (25, [p2_s1493, p2_s1495]), (203, [p2_s1499, p2_s1502]), (10, [p2_s1496])]) (mi := 202) (cuts := [(59, [some (.inr (.inr (.inl 208))), some (.inl (0, 7, [])), some (.inl (0, 7, [])), some (.inl (ck_one 299)), some (.inl (1, 300, [(1000010, 1)])), none, none], ([], [(3, 8, 0)], [(206, 4, 4, ck_one (-1)), (3, 6, 6, (0, 299, [(10, 0)]))]), 100, .inl 4, true), (82, [some (.inr (.inr (.inl 208))), some (.inl (0, 7, [])), some (.inl (0, 7, [])), some (.inl (ck_one 299)), some (.inl (1, 298, [(100, 0), (1000010, 1)])), some (.inl (0, 8, [])), none], ([], [(3, 8, 0)], [(206, 4, 4, ck_one (-1)), (3, 6, 6, (0, 299, [(10, 0)]))]), 300, .inl 5, true)]) (f := 284) (S := p2_s1503) (lx := none) (XF := []) ⟨p2_nmu, ck_E1 (ck_S1 p2_s320_s ck_S0) (ck_E1 (ck_S1 p2_s1493_s (ck_S1 p2_s1495_s ck_S0)) (ck_E1 (ck_S1 p2_s1499_s (ck_S1 p2_s1502_s ck_S0)) (ck_E1 (ck_S1 p2_s1496_s ck_S0) ck_E0)))⟩ ck_X0 ck_l0 (by decide +kernel)
set_option maxRecDepth 100000 in
/-- GlacierMail$Answers.firstYear -/
def p2_s1504 : ck_Sum := ((1, 0, 0), 245, [.inr (.inr (.inl 208)), .inl (0, 7, [])], ([], [], []), ([], []), [(.inr (some (.inl (ck_one (-1)))), 245, ([], [], [])), (.inr (some (.inl (0, 299, []))), 245, ([], [], []))])
set_option maxRecDepth 100000 in
theorem p2_s1504_s {X : Int → Int} {LX : Nat} : ck_Ok p2_O X LX 204 p2_s1504 := ck_ok_s (O := p2_O) (X := X) (LX := LX) (E := [(10, [p2_s1496])]) (mi := 204) (cuts := [(2, [some (.inr (.inr (.inl 208))), some (.inl (0, 7, [])), some (.inl (0, 300, []))], ([], [], []), 100, .inl 2, true)]) (f := 138) (S := p2_s1504) (lx := none) (XF := []) ⟨p2_nmu, ck_E1 (ck_S1 p2_s1496_s ck_S0) ck_E0⟩ ck_X0 ck_l0 (by decide +kernel)
set_option maxRecDepth 100000 in
/-- GlacierMail$Answers.fewestThrows -/
def p2_s1505 : ck_Sum := ((1, 0, 0), 245, [.inr (.inr (.inl 208)), .inl (0, 7, []), .inl (0, 299, [])], ([], [], []), ([], []), [(.inr (some (.inl ((-2147483648), 2147483647, []))), 245, ([], [], []))])
set_option maxRecDepth 100000 in
theorem p2_s1505_s {X : Int → Int} {LX : Nat} : ck_Ok p2_O X LX 205 p2_s1505 := ck_ok_s (O := p2_O) (X := X) (LX := LX) (E := [(10, [p2_s1496])]) (mi := 205) (cuts := []) (f := 82) (S := p2_s1505) (lx := none) (XF := []) ⟨p2_nmu, ck_E1 (ck_S1 p2_s1496_s ck_S0) ck_E0⟩ ck_X0 ck_l0 (by decide +kernel)
set_option maxRecDepth 100000 in
/-- GlacierMail.soonest -/
def p2_s1506 : ck_Sum := ((8, 3, 18), 245, [.inr (.inr (.inl 1)), .inl (0, 7, []), .inl (0, 7, []), .inl (0, 1, [])], ([], [(3, 8, 0)], [(3, 6, 6, (0, 299, [(10, 0)]))]), (zl200, []), [(.inl 3, 245, ([], [], [])), (.inl 0, 245, ([], [], [])), (.inr (some (.inl ((-2147483648), 2147483647, []))), 245, ([], [], [(206, 4, 4, ck_one (-1))])), (.inr (some (.inl (0, 299, []))), 245, ([], [], [(206, 4, 4, ck_one (-1))]))])
set_option maxRecDepth 100000 in
theorem p2_s1506_s {X : Int → Int} {LX : Nat} : ck_Ok p2_O X LX 201 p2_s1506 := ck_ok_s (O := p2_O) (X := X) (LX := LX) (E := [(139, [p2_s328]), (153, [p2_s442]), (202, [p2_s1503]), (204, [p2_s1504]), (205, [p2_s1505])]) (mi := 201) (cuts := []) (f := 136) (S := p2_s1506) (lx := none) (XF := []) ⟨p2_nmu, ck_E1 (ck_S1 p2_s328_s ck_S0) (ck_E1 (ck_S1 p2_s442_s ck_S0) (ck_E1 (ck_S1 p2_s1503_s ck_S0) (ck_E1 (ck_S1 p2_s1504_s ck_S0) (ck_E1 (ck_S1 p2_s1505_s ck_S0) ck_E0))))⟩ ck_X0 ck_l0 (by decide +kernel)
set_option maxRecDepth 100000 in
/-- GlacierMailModel.soonest -/
def p2_s1507 : ck_Sum := ((2, 0, 0), 245, [.inr (.inr (.inl 226)), .inl ((-2147483648), (-1), []), .inl ((-2147483648), 2147483647, []), .inl (0, 1, [])], ([], [], [(227, 3, 3, (0, 8, [(21, 0)]))]), ([(226, 0, 0)], []), [(.inr (some (.inl (ck_one 0))), 245, ([], [], [(226, 0, 0, ck_one 1)]))])
set_option maxRecDepth 100000 in
theorem p2_s1507_s {X : Int → Int} {LX : Nat} : ck_Ok p2_O X LX 349 p2_s1507 := ck_ok_s (O := p2_O) (X := X) (LX := LX) (E := [(298, [p2_s359]), (282, [p2_s241])]) (mi := 349) (cuts := []) (f := 100) (S := p2_s1507) (lx := none) (XF := []) ⟨p2_nmu, ck_E1 (ck_S1 p2_s359_s ck_S0) (ck_E1 (ck_S1 p2_s241_s ck_S0) ck_E0)⟩ ck_X0 ck_l0 (by decide +kernel)
set_option maxRecDepth 100000 in
/-- GlacierMailModel.soonest -/
def p2_s1508 : ck_Sum := ((2, 0, 0), 245, [.inr (.inr (.inl 226)), .inl (8, 2147483647, []), .inl ((-2147483648), 2147483647, []), .inl (0, 1, [])], ([], [], [(227, 3, 3, (0, 8, [(21, 0)]))]), ([(226, 0, 0)], []), [(.inr (some (.inl (ck_one 0))), 245, ([], [], [(226, 0, 0, ck_one 1)]))])
set_option maxRecDepth 100000 in
theorem p2_s1508_s {X : Int → Int} {LX : Nat} : ck_Ok p2_O X LX 349 p2_s1508 := ck_ok_s (O := p2_O) (X := X) (LX := LX) (E := [(298, [p2_s362]), (282, [p2_s241])]) (mi := 349) (cuts := []) (f := 100) (S := p2_s1508) (lx := none) (XF := []) ⟨p2_nmu, ck_E1 (ck_S1 p2_s362_s ck_S0) (ck_E1 (ck_S1 p2_s241_s ck_S0) ck_E0)⟩ ck_X0 ck_l0 (by decide +kernel)
set_option maxRecDepth 100000 in
/-- GlacierMailModel.soonest -/
def p2_s1509 : ck_Sum := ((2, 0, 0), 245, [.inr (.inr (.inl 226)), .inl (0, 7, []), .inl ((-2147483648), (-1), []), .inl (0, 1, [])], ([], [], [(227, 3, 3, (0, 8, [(21, 0)]))]), ([(226, 0, 0)], []), [(.inr (some (.inl (ck_one 0))), 245, ([], [], [(226, 0, 0, ck_one 1)]))])
set_option maxRecDepth 100000 in
theorem p2_s1509_s {X : Int → Int} {LX : Nat} : ck_Ok p2_O X LX 349 p2_s1509 := ck_ok_s (O := p2_O) (X := X) (LX := LX) (E := [(298, [p2_s365, p2_s359]), (282, [p2_s241])]) (mi := 349) (cuts := []) (f := 108) (S := p2_s1509) (lx := none) (XF := []) ⟨p2_nmu, ck_E1 (ck_S1 p2_s365_s (ck_S1 p2_s359_s ck_S0)) (ck_E1 (ck_S1 p2_s241_s ck_S0) ck_E0)⟩ ck_X0 ck_l0 (by decide +kernel)
set_option maxRecDepth 100000 in
/-- GlacierMailModel.soonest -/
def p2_s1510 : ck_Sum := ((2, 0, 0), 245, [.inr (.inr (.inl 226)), .inl (0, 7, []), .inl (8, 2147483647, []), .inl (0, 1, [])], ([], [], [(227, 3, 3, (0, 8, [(21, 0)]))]), ([(226, 0, 0)], []), [(.inr (some (.inl (ck_one 0))), 245, ([], [], [(226, 0, 0, ck_one 1)]))])
set_option maxRecDepth 100000 in
theorem p2_s1510_s {X : Int → Int} {LX : Nat} : ck_Ok p2_O X LX 349 p2_s1510 := ck_ok_s (O := p2_O) (X := X) (LX := LX) (E := [(298, [p2_s365, p2_s362]), (282, [p2_s241])]) (mi := 349) (cuts := []) (f := 108) (S := p2_s1510) (lx := none) (XF := []) ⟨p2_nmu, ck_E1 (ck_S1 p2_s365_s (ck_S1 p2_s362_s ck_S0)) (ck_E1 (ck_S1 p2_s241_s ck_S0) ck_E0)⟩ ck_X0 ck_l0 (by decide +kernel)
set_option maxRecDepth 100000 in
/-- GlacierMailModel.at -/
def p2_s1511 : ck_Sum := ((0, 0, 0), 245, [.inl (0, 7, []), .inl (0, 300, [])], ([], [], []), ([], []), [(.inr (some (.inl (0, 2407, []))), 245, ([], [], []))])
set_option maxRecDepth 100000 in
theorem p2_s1511_s {X : Int → Int} {LX : Nat} : ck_Ok p2_O X LX 351 p2_s1511 := ck_ok_s (O := p2_O) (X := X) (LX := LX) (E := []) (mi := 351) (cuts := []) (f := 82) (S := p2_s1511) (lx := none) (XF := []) ⟨p2_nmu, ck_E0⟩ ck_X0 ck_l0 (by decide +kernel)
set_option maxRecDepth 100000 in
/-- GlacierMailModel.isWatching -/
def p2_s1512 : ck_Sum := ((1, 0, 0), 245, [.inr (.inr (.inl 226)), .inl (0, 7, []), .inl (0, 7, [])], ([], [], []), ([], []), [(.inr (some (.inl (ck_one 0))), 245, ([], [], [])), (.inr (some (.inl (ck_one 1))), 245, ([], [], []))])
set_option maxRecDepth 100000 in
theorem p2_s1512_s {X : Int → Int} {LX : Nat} : ck_Ok p2_O X LX 352 p2_s1512 := ck_ok_s (O := p2_O) (X := X) (LX := LX) (E := [(299, [p2_s569, p2_s554])]) (mi := 352) (cuts := []) (f := 94) (S := p2_s1512) (lx := none) (XF := []) ⟨p2_nmu, ck_E1 (ck_S1 p2_s569_s (ck_S1 p2_s554_s ck_S0)) ck_E0⟩ ck_X0 ck_l0 (by decide +kernel)
set_option maxRecDepth 100000 in
/-- GlacierMailModel.answers -/
def p2_s1513 : ck_Sum := ((7, 0, 0), 245, [.inr (.inr (.inl 226)), .inl (0, 7, [])], ([], [], zl184), ([(226, 17, 23), (226, 26, 26), (226, 29, 30), (233, 0, 399), (235, 0, 29699), (236, 0, 299), (237, 0, 299), (240, 0, 2407), (241, 0, 2407), (242, 0, 2407)], []), [(.inr none, 245, ([], [], []))])
set_option maxRecDepth 100000 in
theorem p2_s1513_s {X : Int → Int} {LX : Nat} : ck_Ok p2_O X LX 350 p2_s1513 := ck_ok_s (O := p2_O) (X := X) (LX := LX) (E := [(266, [p2_s190]), (351, [p2_s1511]), (253, [p2_s186]), (299, [p2_s554, p2_s555]), (325, [p2_s1326]), (352, [p2_s1512])]) (mi := 350) (cuts := [(2, [some (.inr (.inr (.inl 226))), some (.inl (0, 7, [])), some (.inl (0, 2408, [])), none, none, none, none], ([], [], [(227, 2, 2, (0, 8, [(20, 0)])), (227, 3, 3, (0, 8, [(21, 0)])), (227, 5, 5, (0, 8, [(23, 0)])), (227, 9, 9, (0, 299, [(11, 0)]))]), 100, .inl 2, true), (61, [some (.inr (.inr (.inl 226))), some (.inl (0, 7, [])), some (.inl (0, 300, [])), none, none, none, none], ([], [], [(227, 2, 2, (0, 8, [(20, 0)])), (227, 3, 3, (0, 8, [(21, 0)])), (227, 5, 5, (0, 8, [(23, 0)])), (227, 9, 9, (0, 299, [(11, 0)]))]), 300, .inl 2, true), (70, [some (.inr (.inr (.inl 226))), some (.inl (0, 7, [])), some (.inl (0, 299, [(300, 0)])), some (.inl (0, 8, [])), none, none, none], ([], [], [(227, 2, 2, (0, 8, [(20, 0)])), (227, 3, 3, (0, 8, [(21, 0)])), (227, 5, 5, (0, 8, [(23, 0)])), (227, 9, 9, (0, 299, [(11, 0)]))]), 500, .inl 3, true), (135, [some (.inr (.inr (.inl 226))), some (.inl (0, 7, [])), some (.inl (0, 299, [(300, 0)])), some (.inl (0, 7, [(500, 0)])), some (.inl (0, 999, [])), some (.inl ((-1), 299, [])), some (.inl (0, 8, []))], ([], [], [(226, 29, 29, ((-1), 299, [])), (227, 2, 2, (0, 8, [(20, 0)])), (227, 3, 3, (1, 8, [(21, 0)])), (227, 5, 5, (0, 8, [(23, 0)])), (227, 9, 9, (0, 299, [(11, 0)]))]), 700, .inl 6, true)]) (f := 630) (S := p2_s1513) (lx := none) (XF := []) ⟨p2_nmu, ck_E1 (ck_S1 p2_s190_s ck_S0) (ck_E1 (ck_S1 p2_s1511_s ck_S0) (ck_E1 (ck_S1 p2_s186_s ck_S0) (ck_E1 (ck_S1 p2_s554_s (ck_S1 p2_s555_s ck_S0)) (ck_E1 (ck_S1 p2_s1326_s ck_S0) (ck_E1 (ck_S1 p2_s1512_s ck_S0) ck_E0)))))⟩ ck_X0 ck_l0 (by decide +kernel)
set_option maxRecDepth 100000 in
/-- GlacierMailModel.hasIn -/
def p2_s1514 : ck_Sum := ((1, 0, 0), 245, [.inr (.inr (.inl 226)), .inl (0, 7, [])], ([], [], []), ([], []), [(.inr (some (.inl (ck_one (-1)))), 245, ([], [], [])), (.inr (some (.inl (0, 299, []))), 245, ([], [], []))])
set_option maxRecDepth 100000 in
theorem p2_s1514_s {X : Int → Int} {LX : Nat} : ck_Ok p2_O X LX 353 p2_s1514 := ck_ok_s (O := p2_O) (X := X) (LX := LX) (E := [(351, [p2_s1511])]) (mi := 353) (cuts := [(2, [some (.inr (.inr (.inl 226))), some (.inl (0, 7, [])), some (.inl (0, 300, []))], ([], [], []), 100, .inl 2, true)]) (f := 146) (S := p2_s1514) (lx := none) (XF := []) ⟨p2_nmu, ck_E1 (ck_S1 p2_s1511_s ck_S0) ck_E0⟩ ck_X0 ck_l0 (by decide +kernel)
set_option maxRecDepth 100000 in
/-- GlacierMailModel.soonest -/
def p2_s1515 : ck_Sum := ((8, 0, 0), 245, [.inr (.inr (.inl 226)), .inl (0, 7, []), .inl (0, 7, []), .inl (0, 1, [])], ([], [], zl184), (zl201, []), [(.inr (some (.inl (0, 1000, []))), 245, ([], [], [(226, 0, 0, (0, 2, []))])), (.inr (some (.inl (ck_one (-1)))), 245, ([], [], [(226, 0, 0, ck_one 0)]))])
set_option maxRecDepth 100000 in
theorem p2_s1515_s {X : Int → Int} {LX : Nat} : ck_Ok p2_O X LX 349 p2_s1515 := ck_ok_s (O := p2_O) (X := X) (LX := LX) (E := [(298, [p2_s365]), (282, [p2_s241, p2_s242, p2_s243, p2_s244]), (350, [p2_s1513]), (353, [p2_s1514]), (351, [p2_s1511])]) (mi := 349) (cuts := []) (f := 154) (S := p2_s1515) (lx := none) (XF := []) ⟨p2_nmu, ck_E1 (ck_S1 p2_s365_s ck_S0) (ck_E1 (ck_S1 p2_s241_s (ck_S1 p2_s242_s (ck_S1 p2_s243_s (ck_S1 p2_s244_s ck_S0)))) (ck_E1 (ck_S1 p2_s1513_s ck_S0) (ck_E1 (ck_S1 p2_s1514_s ck_S0) (ck_E1 (ck_S1 p2_s1511_s ck_S0) ck_E0))))⟩ ck_X0 ck_l0 (by decide +kernel)
set_option maxRecDepth 100000 in
/-- GlacierMail.chain -/
def p2_s1516 : ck_Sum := ((8, 1, 6), 245, [.inr (.inr (.inl 1)), .inl ((-2147483648), (-1), []), .inl ((-2147483648), 2147483647, []), .inl ((-2147483648), 2147483647, [])], ([], [], []), ([], []), [(.inl 3, 245, ([], [], []))])
set_option maxRecDepth 100000 in
theorem p2_s1516_s {X : Int → Int} {LX : Nat} : ck_Ok p2_O X LX 207 p2_s1516 := ck_ok_s (O := p2_O) (X := X) (LX := LX) (E := [(139, [p2_s322])]) (mi := 207) (cuts := []) (f := 76) (S := p2_s1516) (lx := none) (XF := []) ⟨p2_nmu, ck_E1 (ck_S1 p2_s322_s ck_S0) ck_E0⟩ ck_X0 ck_l0 (by decide +kernel)
set_option maxRecDepth 100000 in
/-- GlacierMail.chain -/
def p2_s1517 : ck_Sum := ((8, 1, 6), 245, [.inr (.inr (.inl 1)), .inl (8, 2147483647, []), .inl ((-2147483648), 2147483647, []), .inl ((-2147483648), 2147483647, [])], ([], [], []), ([], []), [(.inl 3, 245, ([], [], []))])
set_option maxRecDepth 100000 in
theorem p2_s1517_s {X : Int → Int} {LX : Nat} : ck_Ok p2_O X LX 207 p2_s1517 := ck_ok_s (O := p2_O) (X := X) (LX := LX) (E := [(139, [p2_s325])]) (mi := 207) (cuts := []) (f := 76) (S := p2_s1517) (lx := none) (XF := []) ⟨p2_nmu, ck_E1 (ck_S1 p2_s325_s ck_S0) ck_E0⟩ ck_X0 ck_l0 (by decide +kernel)
set_option maxRecDepth 100000 in
/-- GlacierMail.chain -/
def p2_s1518 : ck_Sum := ((8, 2, 12), 245, [.inr (.inr (.inl 1)), .inl (0, 7, []), .inl ((-2147483648), (-1), []), .inl ((-2147483648), 2147483647, [])], ([], [], []), ([], []), [(.inl 3, 245, ([], [], []))])
set_option maxRecDepth 100000 in
theorem p2_s1518_s {X : Int → Int} {LX : Nat} : ck_Ok p2_O X LX 207 p2_s1518 := ck_ok_s (O := p2_O) (X := X) (LX := LX) (E := [(139, [p2_s328, p2_s322])]) (mi := 207) (cuts := []) (f := 82) (S := p2_s1518) (lx := none) (XF := []) ⟨p2_nmu, ck_E1 (ck_S1 p2_s328_s (ck_S1 p2_s322_s ck_S0)) ck_E0⟩ ck_X0 ck_l0 (by decide +kernel)
set_option maxRecDepth 100000 in
/-- GlacierMail.chain -/
def p2_s1519 : ck_Sum := ((8, 2, 12), 245, [.inr (.inr (.inl 1)), .inl (0, 7, []), .inl (8, 2147483647, []), .inl ((-2147483648), 2147483647, [])], ([], [], []), ([], []), [(.inl 3, 245, ([], [], []))])
set_option maxRecDepth 100000 in
theorem p2_s1519_s {X : Int → Int} {LX : Nat} : ck_Ok p2_O X LX 207 p2_s1519 := ck_ok_s (O := p2_O) (X := X) (LX := LX) (E := [(139, [p2_s328, p2_s325])]) (mi := 207) (cuts := []) (f := 82) (S := p2_s1519) (lx := none) (XF := []) ⟨p2_nmu, ck_E1 (ck_S1 p2_s328_s (ck_S1 p2_s325_s ck_S0)) ck_E0⟩ ck_X0 ck_l0 (by decide +kernel)
set_option maxRecDepth 100000 in
/-- GlacierMail$Rows.get -/
def p2_s1520 : ck_Sum := ((0, 0, 0), 245, [.inr (.inr (.inl 211)), .inl ((-2147483648), 2147483647, []), .inl ((-2147483648), 2147483647, [])], ([], [], []), ([], []), [(.inr (some (.inl ((-2147483648), 299, []))), 245, ([], [], []))])
set_option maxRecDepth 100000 in
theorem p2_s1520_s {X : Int → Int} {LX : Nat} : ck_Ok p2_O X LX 10 p2_s1520 := ck_ok_s (O := p2_O) (X := X) (LX := LX) (E := []) (mi := 10) (cuts := []) (f := 114) (S := p2_s1520) (lx := none) (XF := []) ⟨p2_nmu, ck_E0⟩ ck_X0 ck_l0 (by decide +kernel)
set_option maxRecDepth 100000 in
/-- GlacierMail$Answers.throwAhead -/
def p2_s1521 : ck_Sum := ((1, 0, 0), 245, [.inr (.inr (.inl 208)), .inl (0, 2398, []), .inl (0, 299, []), .inl (1, 2147483646, [])], ([], [], [(3, 6, 6, (0, 299, [(10, 0)]))]), ([], []), [(.inr (some (.inl (0, 2398, []))), 245, ([], [], []))])
set_option maxRecDepth 100000 in
theorem p2_s1521_s {X : Int → Int} {LX : Nat} : ck_Ok p2_O X LX 209 p2_s1521 := ck_ok_s (O := p2_O) (X := X) (LX := LX) (E := [(10, [p2_s356, p2_s1496, p2_s1520]), (9, [p2_s320])]) (mi := 209) (cuts := [(17, [some (.inr (.inr (.inl 208))), some (.inl (0, 2398, [])), some (.inl (0, 299, [])), some (.inl (1, 2147483646, [])), some (.inl ((-1), 98, [])), some (.inl (0, 9, [])), none], ([], [], [(3, 6, 6, (0, 299, [(10, 0)]))]), 100, .inl 5, true), (59, [some (.inr (.inr (.inl 208))), some (.inl (0, 2398, [])), some (.inl (0, 299, [])), some (.inl (1, 2147483646, [])), some (.inl ((-1), 98, [])), some (.inl (0, 7, [(100, 0)])), some (.inl (0, 299, [(1000010, 0)]))], ([], [], [(3, 6, 6, (0, 299, [(10, 0)]))]), 300, .inl 6, true)]) (f := 260) (S := p2_s1521) (lx := none) (XF := []) ⟨p2_nmu, ck_E1 (ck_S1 p2_s356_s (ck_S1 p2_s1496_s (ck_S1 p2_s1520_s ck_S0))) (ck_E1 (ck_S1 p2_s320_s ck_S0) ck_E0)⟩ ck_X0 ck_l0 (by decide +kernel)
set_option maxRecDepth 100000 in
/-- GlacierMail$Answers.holder -/
def p2_s1522 : ck_Sum := ((2, 0, 0), 245, [.inr (.inr (.inl 208)), .inl (0, 7, []), .inl (0, 7, []), .inl (ck_one 0)], ([], [], [(3, 6, 6, (0, 299, [(10, 0)]))]), ([], []), [(.inr (some (.inl (ck_one (-1)))), 245, ([], [], [])), (.inr (some (.inl (0, 7, []))), 245, ([], [], []))])
set_option maxRecDepth 100000 in
theorem p2_s1522_s {X : Int → Int} {LX : Nat} : ck_Ok p2_O X LX 208 p2_s1522 := ck_ok_s (O := p2_O) (X := X) (LX := LX) (E := [(204, [p2_s1504]), (10, [p2_s1496]), (209, [p2_s1521])]) (mi := 208) (cuts := [(44, [some (.inr (.inr (.inl 208))), some (.inl (0, 7, [])), some (.inl (0, 7, [])), some (.inl (ck_one 0)), some (.inl (0, 299, [])), some (.inl (0, 2398, [])), some (.inl (0, 2147483647, [])), some (.inl (0, 2147483647, [])), none], ([], [], [(3, 6, 6, (0, 299, [(10, 0)]))]), 100, .inl 7, false)]) (f := 190) (S := p2_s1522) (lx := none) (XF := []) ⟨p2_nmu, ck_E1 (ck_S1 p2_s1504_s ck_S0) (ck_E1 (ck_S1 p2_s1496_s ck_S0) (ck_E1 (ck_S1 p2_s1521_s ck_S0) ck_E0))⟩ ck_X0 ck_l0 (by decide +kernel)
set_option maxRecDepth 100000 in
/-- GlacierMail.chain -/
def p2_s1523 : ck_Sum := ((8, 4, 24), 245, [.inr (.inr (.inl 1)), .inl (0, 7, []), .inl (0, 7, []), .inl ((-2147483648), 0, [])], ([], [(3, 8, 0)], [(3, 6, 6, (0, 299, [(10, 0)]))]), (zl200, []), [(.inl 3, 245, ([], [], [])), (.inl 0, 245, ([], [], [])), (.inr (some (.inl (ck_one (-1)))), 245, ([], [], [(206, 4, 4, ck_one (-1))])), (.inr (some (.inl (0, 7, []))), 245, ([], [], [(206, 4, 4, ck_one (-1))]))])
set_option maxRecDepth 100000 in
theorem p2_s1523_s {X : Int → Int} {LX : Nat} : ck_Ok p2_O X LX 207 p2_s1523 := ck_ok_s (O := p2_O) (X := X) (LX := LX) (E := [(139, [p2_s328]), (153, [p2_s442]), (202, [p2_s1503]), (208, [p2_s1522])]) (mi := 207) (cuts := []) (f := 120) (S := p2_s1523) (lx := none) (XF := []) ⟨p2_nmu, ck_E1 (ck_S1 p2_s328_s ck_S0) (ck_E1 (ck_S1 p2_s442_s ck_S0) (ck_E1 (ck_S1 p2_s1503_s ck_S0) (ck_E1 (ck_S1 p2_s1522_s ck_S0) ck_E0)))⟩ ck_X0 ck_l0 (by decide +kernel)
set_option maxRecDepth 100000 in
/-- GlacierMail$Answers.throwAhead -/
def p2_s1524 : ck_Sum := ((1, 0, 0), 245, [.inr (.inr (.inl 208)), .inl (0, 2398, []), .inl (0, 299, []), .inl (51, 2147483646, [])], ([], [], [(3, 6, 6, (0, 299, [(10, 0)]))]), ([], []), [(.inr (some (.inl (0, 2398, []))), 245, ([], [], []))])
set_option maxRecDepth 100000 in
theorem p2_s1524_s {X : Int → Int} {LX : Nat} : ck_Ok p2_O X LX 209 p2_s1524 := ck_ok_s (O := p2_O) (X := X) (LX := LX) (E := [(10, [p2_s356, p2_s1496, p2_s1520]), (9, [p2_s320])]) (mi := 209) (cuts := [(17, [some (.inr (.inr (.inl 208))), some (.inl (0, 2398, [])), some (.inl (0, 299, [])), some (.inl (51, 2147483646, [])), some (.inl ((-1), 98, [])), some (.inl (0, 9, [])), none], ([], [], [(3, 6, 6, (0, 299, [(10, 0)]))]), 100, .inl 5, true), (59, [some (.inr (.inr (.inl 208))), some (.inl (0, 2398, [])), some (.inl (0, 299, [])), some (.inl (51, 2147483646, [])), some (.inl ((-1), 98, [])), some (.inl (0, 7, [(100, 0)])), some (.inl (0, 299, [(1000010, 0)]))], ([], [], [(3, 6, 6, (0, 299, [(10, 0)]))]), 300, .inl 6, true)]) (f := 260) (S := p2_s1524) (lx := none) (XF := []) ⟨p2_nmu, ck_E1 (ck_S1 p2_s356_s (ck_S1 p2_s1496_s (ck_S1 p2_s1520_s ck_S0))) (ck_E1 (ck_S1 p2_s320_s ck_S0) ck_E0)⟩ ck_X0 ck_l0 (by decide +kernel)
set_option maxRecDepth 100000 in
/-- GlacierMail$Answers.holder -/
def p2_s1525 : ck_Sum := ((2, 0, 0), 245, [.inr (.inr (.inl 208)), .inl (0, 7, []), .inl (0, 7, []), .inl (51, 2147483647, [])], ([], [], [(3, 6, 6, (0, 299, [(10, 0)]))]), ([], []), [(.inr (some (.inl (ck_one (-1)))), 245, ([], [], [])), (.inr (some (.inl (0, 2398, []))), 245, ([], [], []))])
set_option maxRecDepth 100000 in
theorem p2_s1525_s {X : Int → Int} {LX : Nat} : ck_Ok p2_O X LX 208 p2_s1525 := ck_ok_s (O := p2_O) (X := X) (LX := LX) (E := [(204, [p2_s1504]), (10, [p2_s1496]), (209, [p2_s1524])]) (mi := 208) (cuts := [(44, [some (.inr (.inr (.inl 208))), some (.inl (0, 7, [])), some (.inl (0, 7, [])), some (.inl (51, 2147483647, [])), some (.inl (0, 299, [])), some (.inl (0, 2398, [])), some (.inl (51, 2147483647, [])), some (.inl (51, 2147483647, [])), none], ([], [], [(3, 6, 6, (0, 299, [(10, 0)]))]), 100, .inl 7, false)]) (f := 190) (S := p2_s1525) (lx := none) (XF := []) ⟨p2_nmu, ck_E1 (ck_S1 p2_s1504_s ck_S0) (ck_E1 (ck_S1 p2_s1496_s ck_S0) (ck_E1 (ck_S1 p2_s1524_s ck_S0) ck_E0))⟩ ck_X0 ck_l0 (by decide +kernel)
set_option maxRecDepth 100000 in
/-- GlacierMail.chain -/
def p2_s1526 : ck_Sum := ((8, 3, 18), 245, [.inr (.inr (.inl 1)), .inl (0, 7, []), .inl (0, 7, []), .inl (51, 2147483647, [])], ([], [(3, 8, 0)], [(3, 6, 6, (0, 299, [(10, 0)]))]), (zl200, []), zl202)
set_option maxRecDepth 100000 in
theorem p2_s1526_s {X : Int → Int} {LX : Nat} : ck_Ok p2_O X LX 207 p2_s1526 := ck_ok_s (O := p2_O) (X := X) (LX := LX) (E := [(139, [p2_s328]), (153, [p2_s442]), (202, [p2_s1503]), (208, [p2_s1525])]) (mi := 207) (cuts := []) (f := 120) (S := p2_s1526) (lx := none) (XF := []) ⟨p2_nmu, ck_E1 (ck_S1 p2_s328_s ck_S0) (ck_E1 (ck_S1 p2_s442_s ck_S0) (ck_E1 (ck_S1 p2_s1503_s ck_S0) (ck_E1 (ck_S1 p2_s1525_s ck_S0) ck_E0)))⟩ ck_X0 ck_l0 (by decide +kernel)
set_option maxRecDepth 100000 in
/-- GlacierMail$Answers.holder -/
def p2_s1527 : ck_Sum := ((2, 0, 0), 245, [.inr (.inr (.inl 208)), .inl (0, 7, []), .inl (0, 7, []), .inl (1, 50, [])], ([], [], [(3, 6, 6, (0, 299, [(10, 0)]))]), ([], []), [(.inr (some (.inl (ck_one (-1)))), 245, ([], [], [])), (.inr (some (.inl (0, 2398, []))), 245, ([], [], []))])
set_option maxRecDepth 100000 in
theorem p2_s1527_s {X : Int → Int} {LX : Nat} : ck_Ok p2_O X LX 208 p2_s1527 := ck_ok_s (O := p2_O) (X := X) (LX := LX) (E := [(204, [p2_s1504]), (10, [p2_s1496]), (209, [p2_s1521])]) (mi := 208) (cuts := [(44, [some (.inr (.inr (.inl 208))), some (.inl (0, 7, [])), some (.inl (0, 7, [])), some (.inl (1, 50, [])), some (.inl (0, 299, [])), some (.inl (0, 2398, [])), some (.inl (1, 2147483647, [])), some (.inl (1, 2147483647, [])), none], ([], [], [(3, 6, 6, (0, 299, [(10, 0)]))]), 100, .inl 7, false)]) (f := 190) (S := p2_s1527) (lx := none) (XF := []) ⟨p2_nmu, ck_E1 (ck_S1 p2_s1504_s ck_S0) (ck_E1 (ck_S1 p2_s1496_s ck_S0) (ck_E1 (ck_S1 p2_s1521_s ck_S0) ck_E0))⟩ ck_X0 ck_l0 (by decide +kernel)
set_option maxRecDepth 100000 in
/-- GlacierMail.chain -/
def p2_s1528 : ck_Sum := ((8, 3, 18), 245, [.inr (.inr (.inl 1)), .inl (0, 7, []), .inl (0, 7, []), .inl (1, 50, [])], ([], [(3, 8, 0)], [(3, 6, 6, (0, 299, [(10, 0)]))]), (zl200, []), zl202)
set_option maxRecDepth 100000 in
theorem p2_s1528_s {X : Int → Int} {LX : Nat} : ck_Ok p2_O X LX 207 p2_s1528 := ck_ok_s (O := p2_O) (X := X) (LX := LX) (E := [(139, [p2_s328]), (153, [p2_s442]), (202, [p2_s1503]), (208, [p2_s1527])]) (mi := 207) (cuts := []) (f := 120) (S := p2_s1528) (lx := none) (XF := []) ⟨p2_nmu, ck_E1 (ck_S1 p2_s328_s ck_S0) (ck_E1 (ck_S1 p2_s442_s ck_S0) (ck_E1 (ck_S1 p2_s1503_s ck_S0) (ck_E1 (ck_S1 p2_s1527_s ck_S0) ck_E0)))⟩ ck_X0 ck_l0 (by decide +kernel)
set_option maxRecDepth 100000 in
/-- GlacierMailModel.chain -/
def p2_s1529 : ck_Sum := ((2, 0, 0), 245, [.inr (.inr (.inl 226)), .inl ((-2147483648), (-1), []), .inl ((-2147483648), 2147483647, []), .inl ((-2147483648), 2147483647, [])], ([], [], [(227, 3, 3, (0, 8, [(21, 0)]))]), ([(226, 0, 0)], []), [(.inr (some (.inl (ck_one 0))), 245, ([], [], [(226, 0, 0, ck_one 1)]))])
set_option maxRecDepth 100000 in
theorem p2_s1529_s {X : Int → Int} {LX : Nat} : ck_Ok p2_O X LX 354 p2_s1529 := ck_ok_s (O := p2_O) (X := X) (LX := LX) (E := [(298, [p2_s359]), (282, [p2_s241])]) (mi := 354) (cuts := []) (f := 100) (S := p2_s1529) (lx := none) (XF := []) ⟨p2_nmu, ck_E1 (ck_S1 p2_s359_s ck_S0) (ck_E1 (ck_S1 p2_s241_s ck_S0) ck_E0)⟩ ck_X0 ck_l0 (by decide +kernel)
set_option maxRecDepth 100000 in
/-- GlacierMailModel.chain -/
def p2_s1530 : ck_Sum := ((2, 0, 0), 245, [.inr (.inr (.inl 226)), .inl (8, 2147483647, []), .inl ((-2147483648), 2147483647, []), .inl ((-2147483648), 2147483647, [])], ([], [], [(227, 3, 3, (0, 8, [(21, 0)]))]), ([(226, 0, 0)], []), [(.inr (some (.inl (ck_one 0))), 245, ([], [], [(226, 0, 0, ck_one 1)]))])
set_option maxRecDepth 100000 in
theorem p2_s1530_s {X : Int → Int} {LX : Nat} : ck_Ok p2_O X LX 354 p2_s1530 := ck_ok_s (O := p2_O) (X := X) (LX := LX) (E := [(298, [p2_s362]), (282, [p2_s241])]) (mi := 354) (cuts := []) (f := 100) (S := p2_s1530) (lx := none) (XF := []) ⟨p2_nmu, ck_E1 (ck_S1 p2_s362_s ck_S0) (ck_E1 (ck_S1 p2_s241_s ck_S0) ck_E0)⟩ ck_X0 ck_l0 (by decide +kernel)
set_option maxRecDepth 100000 in
/-- GlacierMailModel.chain -/
def p2_s1531 : ck_Sum := ((2, 0, 0), 245, [.inr (.inr (.inl 226)), .inl (0, 7, []), .inl ((-2147483648), (-1), []), .inl ((-2147483648), 2147483647, [])], ([], [], [(227, 3, 3, (0, 8, [(21, 0)]))]), ([(226, 0, 0)], []), [(.inr (some (.inl (ck_one 0))), 245, ([], [], [(226, 0, 0, ck_one 1)]))])
set_option maxRecDepth 100000 in
theorem p2_s1531_s {X : Int → Int} {LX : Nat} : ck_Ok p2_O X LX 354 p2_s1531 := ck_ok_s (O := p2_O) (X := X) (LX := LX) (E := [(298, [p2_s365, p2_s359]), (282, [p2_s241])]) (mi := 354) (cuts := []) (f := 108) (S := p2_s1531) (lx := none) (XF := []) ⟨p2_nmu, ck_E1 (ck_S1 p2_s365_s (ck_S1 p2_s359_s ck_S0)) (ck_E1 (ck_S1 p2_s241_s ck_S0) ck_E0)⟩ ck_X0 ck_l0 (by decide +kernel)
set_option maxRecDepth 100000 in
/-- GlacierMailModel.chain -/
def p2_s1532 : ck_Sum := ((2, 0, 0), 245, [.inr (.inr (.inl 226)), .inl (0, 7, []), .inl (8, 2147483647, []), .inl ((-2147483648), 2147483647, [])], ([], [], [(227, 3, 3, (0, 8, [(21, 0)]))]), ([(226, 0, 0)], []), [(.inr (some (.inl (ck_one 0))), 245, ([], [], [(226, 0, 0, ck_one 1)]))])
set_option maxRecDepth 100000 in
theorem p2_s1532_s {X : Int → Int} {LX : Nat} : ck_Ok p2_O X LX 354 p2_s1532 := ck_ok_s (O := p2_O) (X := X) (LX := LX) (E := [(298, [p2_s365, p2_s362]), (282, [p2_s241])]) (mi := 354) (cuts := []) (f := 108) (S := p2_s1532) (lx := none) (XF := []) ⟨p2_nmu, ck_E1 (ck_S1 p2_s365_s (ck_S1 p2_s362_s ck_S0)) (ck_E1 (ck_S1 p2_s241_s ck_S0) ck_E0)⟩ ck_X0 ck_l0 (by decide +kernel)
set_option maxRecDepth 100000 in
/-- GlacierMailModel.of -/
def p2_s1533 : ck_Sum := ((0, 0, 0), 245, [.inr (.inr (.inl 226)), .inl ((-1), 7, []), .inl (ck_one 2)], ([], [], []), ([], []), [(.inr (some (.inl (0, 20, []))), 245, ([], [], [])), (.inr (some (.inl (ck_one (-1)))), 245, ([], [], []))])
set_option maxRecDepth 100000 in
theorem p2_s1533_s {X : Int → Int} {LX : Nat} : ck_Ok p2_O X LX 299 p2_s1533 := ck_ok_s (O := p2_O) (X := X) (LX := LX) (E := []) (mi := 299) (cuts := []) (f := 92) (S := p2_s1533) (lx := none) (XF := []) ⟨p2_nmu, ck_E0⟩ ck_X0 ck_l0 (by decide +kernel)
set_option maxRecDepth 100000 in
/-- GlacierMailModel.isWatching -/
def p2_s1534 : ck_Sum := ((1, 0, 0), 245, [.inr (.inr (.inl 226)), .inl ((-1), 7, []), .inl (0, 7, [])], ([], [], []), ([], []), [(.inr (some (.inl (ck_one 0))), 245, ([], [], [])), (.inr (some (.inl (ck_one 1))), 245, ([], [], []))])
set_option maxRecDepth 100000 in
theorem p2_s1534_s {X : Int → Int} {LX : Nat} : ck_Ok p2_O X LX 352 p2_s1534 := ck_ok_s (O := p2_O) (X := X) (LX := LX) (E := [(299, [p2_s1533, p2_s554])]) (mi := 352) (cuts := []) (f := 94) (S := p2_s1534) (lx := none) (XF := []) ⟨p2_nmu, ck_E1 (ck_S1 p2_s1533_s (ck_S1 p2_s554_s ck_S0)) ck_E0⟩ ck_X0 ck_l0 (by decide +kernel)
set_option maxRecDepth 100000 in
/-- GlacierMailModel.thrower -/
def p2_s1535 : ck_Sum := ((2, 0, 0), 245, [.inr (.inr (.inl 226)), .inl ((-1), 7, []), .inl ((-1), 299, []), .inl (1, 1000, [])], ([], [], zl203), ([(226, 36, 36)], []), zl204)
set_option maxRecDepth 100000 in
theorem p2_s1535_s {X : Int → Int} {LX : Nat} : ck_Ok p2_O X LX 355 p2_s1535 := ck_ok_s (O := p2_O) (X := X) (LX := LX) (E := [(253, [p2_s186]), (266, [p2_s190]), (352, [p2_s1534]), (351, [p2_s1511])]) (mi := 355) (cuts := [(3, [some (.inr (.inr (.inl 226))), some (.inl ((-1), 7, [])), some (.inl ((-1), 299, [])), some (.inl (1, 1000, [])), some (.inl (0, 8, [])), none], ([], [], [(227, 3, 3, (0, 8, [(21, 0)])), (227, 9, 9, (0, 299, [(11, 0)]))]), 100, .inl 4, true), (18, [some (.inr (.inr (.inl 226))), some (.inl ((-1), 7, [])), some (.inl ((-1), 299, [])), some (.inl (1, 1000, [])), some (.inl (0, 7, [(100, 0)])), some (.inl (0, 299, [(1000011, 0)]))], ([], [], [(227, 3, 3, (1, 8, [(21, 0)])), (227, 9, 9, (0, 299, [(11, 0)]))]), 300, .inl 5, true)]) (f := 284) (S := p2_s1535) (lx := none) (XF := []) ⟨p2_nmu, ck_E1 (ck_S1 p2_s186_s ck_S0) (ck_E1 (ck_S1 p2_s190_s ck_S0) (ck_E1 (ck_S1 p2_s1534_s ck_S0) (ck_E1 (ck_S1 p2_s1511_s ck_S0) ck_E0)))⟩ ck_X0 ck_l0 (by decide +kernel)
set_option maxRecDepth 100000 in
/-- GlacierMailModel.chain -/
def p2_s1536 : ck_Sum := ((8, 0, 0), 245, [.inr (.inr (.inl 226)), .inl (0, 7, []), .inl (0, 7, []), .inl ((-2147483648), 0, [])], ([], [], zl184), (zl205, []), zl206)
set_option maxRecDepth 100000 in
theorem p2_s1536_s {X : Int → Int} {LX : Nat} : ck_Ok p2_O X LX 354 p2_s1536 := ck_ok_s (O := p2_O) (X := X) (LX := LX) (E := [(298, [p2_s365]), (282, [p2_s241, p2_s242, p2_s244, p2_s243]), (350, [p2_s1513]), (353, [p2_s1514]), (351, [p2_s1511]), (355, [p2_s1535])]) (mi := 354) (cuts := [(108, [some (.inr (.inr (.inl 226))), some (.inl (0, 7, [])), some (.inl (0, 7, [])), some (.inl (ck_one 0)), some (.inl ((-1), 299, [])), some (.inl ((-1), 7, [])), some (.inl (0, 1000, []))], ([], [], [(226, 0, 0, ck_one 0), (227, 2, 2, (0, 8, [(20, 0)])), (227, 3, 3, (0, 8, [(21, 0)])), (227, 5, 5, (0, 8, [(23, 0)])), (227, 9, 9, (0, 299, [(11, 0)]))]), 100, .inl 6, false)]) (f := 302) (S := p2_s1536) (lx := none) (XF := []) ⟨p2_nmu, ck_E1 (ck_S1 p2_s365_s ck_S0) (ck_E1 (ck_S1 p2_s241_s (ck_S1 p2_s242_s (ck_S1 p2_s244_s (ck_S1 p2_s243_s ck_S0)))) (ck_E1 (ck_S1 p2_s1513_s ck_S0) (ck_E1 (ck_S1 p2_s1514_s ck_S0) (ck_E1 (ck_S1 p2_s1511_s ck_S0) (ck_E1 (ck_S1 p2_s1535_s ck_S0) ck_E0)))))⟩ ck_X0 ck_l0 (by decide +kernel)
set_option maxRecDepth 100000 in
/-- GlacierMailModel.thrower -/
def p2_s1537 : ck_Sum := ((2, 0, 0), 245, [.inr (.inr (.inl 226)), .inl ((-1), 7, []), .inl ((-1), 299, []), .inl (52, 1000, [])], ([], [], zl203), ([(226, 36, 36)], []), zl204)
set_option maxRecDepth 100000 in
theorem p2_s1537_s {X : Int → Int} {LX : Nat} : ck_Ok p2_O X LX 355 p2_s1537 := ck_ok_s (O := p2_O) (X := X) (LX := LX) (E := [(253, [p2_s186]), (266, [p2_s190]), (352, [p2_s1534]), (351, [p2_s1511])]) (mi := 355) (cuts := [(3, [some (.inr (.inr (.inl 226))), some (.inl ((-1), 7, [])), some (.inl ((-1), 299, [])), some (.inl (52, 1000, [])), some (.inl (0, 8, [])), none], ([], [], [(227, 3, 3, (0, 8, [(21, 0)])), (227, 9, 9, (0, 299, [(11, 0)]))]), 100, .inl 4, true), (18, [some (.inr (.inr (.inl 226))), some (.inl ((-1), 7, [])), some (.inl ((-1), 299, [])), some (.inl (52, 1000, [])), some (.inl (0, 7, [(100, 0)])), some (.inl (0, 299, [(1000011, 0)]))], ([], [], [(227, 3, 3, (1, 8, [(21, 0)])), (227, 9, 9, (0, 299, [(11, 0)]))]), 300, .inl 5, true)]) (f := 284) (S := p2_s1537) (lx := none) (XF := []) ⟨p2_nmu, ck_E1 (ck_S1 p2_s186_s ck_S0) (ck_E1 (ck_S1 p2_s190_s ck_S0) (ck_E1 (ck_S1 p2_s1534_s ck_S0) (ck_E1 (ck_S1 p2_s1511_s ck_S0) ck_E0)))⟩ ck_X0 ck_l0 (by decide +kernel)
set_option maxRecDepth 100000 in
/-- GlacierMailModel.chain -/
def p2_s1538 : ck_Sum := ((8, 0, 0), 245, [.inr (.inr (.inl 226)), .inl (0, 7, []), .inl (0, 7, []), .inl (51, 2147483647, [])], ([], [], zl184), (zl205, []), zl206)
set_option maxRecDepth 100000 in
theorem p2_s1538_s {X : Int → Int} {LX : Nat} : ck_Ok p2_O X LX 354 p2_s1538 := ck_ok_s (O := p2_O) (X := X) (LX := LX) (E := [(298, [p2_s365]), (282, [p2_s241, p2_s242, p2_s244, p2_s243]), (350, [p2_s1513]), (353, [p2_s1514]), (351, [p2_s1511]), (355, [p2_s1537])]) (mi := 354) (cuts := [(108, [some (.inr (.inr (.inl 226))), some (.inl (0, 7, [])), some (.inl (0, 7, [])), some (.inl (51, 1000, [])), some (.inl ((-1), 299, [])), some (.inl ((-1), 7, [])), some (.inl (0, 1000, []))], ([], [], [(226, 0, 0, ck_one 0), (227, 2, 2, (0, 8, [(20, 0)])), (227, 3, 3, (0, 8, [(21, 0)])), (227, 5, 5, (0, 8, [(23, 0)])), (227, 9, 9, (0, 299, [(11, 0)]))]), 100, .inl 6, false)]) (f := 302) (S := p2_s1538) (lx := none) (XF := []) ⟨p2_nmu, ck_E1 (ck_S1 p2_s365_s ck_S0) (ck_E1 (ck_S1 p2_s241_s (ck_S1 p2_s242_s (ck_S1 p2_s244_s (ck_S1 p2_s243_s ck_S0)))) (ck_E1 (ck_S1 p2_s1513_s ck_S0) (ck_E1 (ck_S1 p2_s1514_s ck_S0) (ck_E1 (ck_S1 p2_s1511_s ck_S0) (ck_E1 (ck_S1 p2_s1537_s ck_S0) ck_E0)))))⟩ ck_X0 ck_l0 (by decide +kernel)
set_option maxRecDepth 100000 in
/-- GlacierMailModel.thrower -/
def p2_s1539 : ck_Sum := ((2, 0, 0), 245, [.inr (.inr (.inl 226)), .inl ((-1), 7, []), .inl ((-1), 299, []), .inl (2, 1000, [])], ([], [], zl203), ([(226, 36, 36)], []), zl204)
set_option maxRecDepth 100000 in
theorem p2_s1539_s {X : Int → Int} {LX : Nat} : ck_Ok p2_O X LX 355 p2_s1539 := ck_ok_s (O := p2_O) (X := X) (LX := LX) (E := [(253, [p2_s186]), (266, [p2_s190]), (352, [p2_s1534]), (351, [p2_s1511])]) (mi := 355) (cuts := [(3, [some (.inr (.inr (.inl 226))), some (.inl ((-1), 7, [])), some (.inl ((-1), 299, [])), some (.inl (2, 1000, [])), some (.inl (0, 8, [])), none], ([], [], [(227, 3, 3, (0, 8, [(21, 0)])), (227, 9, 9, (0, 299, [(11, 0)]))]), 100, .inl 4, true), (18, [some (.inr (.inr (.inl 226))), some (.inl ((-1), 7, [])), some (.inl ((-1), 299, [])), some (.inl (2, 1000, [])), some (.inl (0, 7, [(100, 0)])), some (.inl (0, 299, [(1000011, 0)]))], ([], [], [(227, 3, 3, (1, 8, [(21, 0)])), (227, 9, 9, (0, 299, [(11, 0)]))]), 300, .inl 5, true)]) (f := 284) (S := p2_s1539) (lx := none) (XF := []) ⟨p2_nmu, ck_E1 (ck_S1 p2_s186_s ck_S0) (ck_E1 (ck_S1 p2_s190_s ck_S0) (ck_E1 (ck_S1 p2_s1534_s ck_S0) (ck_E1 (ck_S1 p2_s1511_s ck_S0) ck_E0)))⟩ ck_X0 ck_l0 (by decide +kernel)
set_option maxRecDepth 100000 in
/-- GlacierMailModel.chain -/
def p2_s1540 : ck_Sum := ((8, 0, 0), 245, [.inr (.inr (.inl 226)), .inl (0, 7, []), .inl (0, 7, []), .inl (1, 50, [])], ([], [], zl184), (zl205, []), zl206)
set_option maxRecDepth 100000 in
theorem p2_s1540_s {X : Int → Int} {LX : Nat} : ck_Ok p2_O X LX 354 p2_s1540 := ck_ok_s (O := p2_O) (X := X) (LX := LX) (E := [(298, [p2_s365]), (282, [p2_s241, p2_s242, p2_s244, p2_s243]), (350, [p2_s1513]), (353, [p2_s1514]), (351, [p2_s1511]), (355, [p2_s1539])]) (mi := 354) (cuts := [(108, [some (.inr (.inr (.inl 226))), some (.inl (0, 7, [])), some (.inl (0, 7, [])), some (.inl (1, 50, [])), some (.inl ((-1), 299, [])), some (.inl ((-1), 7, [])), some (.inl (0, 1000, []))], ([], [], [(226, 0, 0, ck_one 0), (227, 2, 2, (0, 8, [(20, 0)])), (227, 3, 3, (0, 8, [(21, 0)])), (227, 5, 5, (0, 8, [(23, 0)])), (227, 9, 9, (0, 299, [(11, 0)]))]), 100, .inl 6, false)]) (f := 302) (S := p2_s1540) (lx := none) (XF := []) ⟨p2_nmu, ck_E1 (ck_S1 p2_s365_s ck_S0) (ck_E1 (ck_S1 p2_s241_s (ck_S1 p2_s242_s (ck_S1 p2_s244_s (ck_S1 p2_s243_s ck_S0)))) (ck_E1 (ck_S1 p2_s1513_s ck_S0) (ck_E1 (ck_S1 p2_s1514_s ck_S0) (ck_E1 (ck_S1 p2_s1511_s ck_S0) (ck_E1 (ck_S1 p2_s1539_s ck_S0) ck_E0)))))⟩ ck_X0 ck_l0 (by decide +kernel)
set_option maxRecDepth 100000 in
/-- GlacierMail.reached -/
def p2_s1541 : ck_Sum := ((8, 1, 6), 245, [.inr (.inr (.inl 1)), .inl ((-2147483648), (-1), []), .inl ((-2147483648), 2147483647, [])], ([], [], []), ([], []), [(.inl 3, 245, ([], [], []))])
set_option maxRecDepth 100000 in
theorem p2_s1541_s {X : Int → Int} {LX : Nat} : ck_Ok p2_O X LX 211 p2_s1541 := ck_ok_s (O := p2_O) (X := X) (LX := LX) (E := [(139, [p2_s322])]) (mi := 211) (cuts := []) (f := 76) (S := p2_s1541) (lx := none) (XF := []) ⟨p2_nmu, ck_E1 (ck_S1 p2_s322_s ck_S0) ck_E0⟩ ck_X0 ck_l0 (by decide +kernel)
set_option maxRecDepth 100000 in
/-- GlacierMail.reached -/
def p2_s1542 : ck_Sum := ((8, 1, 6), 245, [.inr (.inr (.inl 1)), .inl (8, 2147483647, []), .inl ((-2147483648), 2147483647, [])], ([], [], []), ([], []), [(.inl 3, 245, ([], [], []))])
set_option maxRecDepth 100000 in
theorem p2_s1542_s {X : Int → Int} {LX : Nat} : ck_Ok p2_O X LX 211 p2_s1542 := ck_ok_s (O := p2_O) (X := X) (LX := LX) (E := [(139, [p2_s325])]) (mi := 211) (cuts := []) (f := 76) (S := p2_s1542) (lx := none) (XF := []) ⟨p2_nmu, ck_E1 (ck_S1 p2_s325_s ck_S0) ck_E0⟩ ck_X0 ck_l0 (by decide +kernel)
set_option maxRecDepth 100000 in
/-- GlacierMail.reached -/
def p2_s1543 : ck_Sum := ((8, 2, 12), 245, [.inr (.inr (.inl 1)), .inl (0, 7, []), .inl ((-2147483648), (-1), [])], ([], [], []), ([], []), [(.inl 3, 245, ([], [], [])), (.inl 0, 245, ([], [], []))])
set_option maxRecDepth 100000 in
theorem p2_s1543_s {X : Int → Int} {LX : Nat} : ck_Ok p2_O X LX 211 p2_s1543 := ck_ok_s (O := p2_O) (X := X) (LX := LX) (E := [(139, [p2_s328]), (129, [p2_s249])]) (mi := 211) (cuts := []) (f := 82) (S := p2_s1543) (lx := none) (XF := []) ⟨p2_nmu, ck_E1 (ck_S1 p2_s328_s ck_S0) (ck_E1 (ck_S1 p2_s249_s ck_S0) ck_E0)⟩ ck_X0 ck_l0 (by decide +kernel)
set_option maxRecDepth 100000 in
/-- GlacierMail.reached -/
def p2_s1544 : ck_Sum := ((8, 2, 12), 245, [.inr (.inr (.inl 1)), .inl (0, 7, []), .inl (300, 2147483647, [])], ([], [], []), ([], []), [(.inl 3, 245, ([], [], [])), (.inl 0, 245, ([], [], []))])
set_option maxRecDepth 100000 in
theorem p2_s1544_s {X : Int → Int} {LX : Nat} : ck_Ok p2_O X LX 211 p2_s1544 := ck_ok_s (O := p2_O) (X := X) (LX := LX) (E := [(139, [p2_s328]), (129, [p2_s251])]) (mi := 211) (cuts := []) (f := 82) (S := p2_s1544) (lx := none) (XF := []) ⟨p2_nmu, ck_E1 (ck_S1 p2_s328_s ck_S0) (ck_E1 (ck_S1 p2_s251_s ck_S0) ck_E0)⟩ ck_X0 ck_l0 (by decide +kernel)
set_option maxRecDepth 100000 in
/-- GlacierMail$Answers.throwAgain -/
def p2_s1545 : ck_Sum := ((4, 0, 0), 245, [.inr (.inr (.inl 208)), .inl (0, 7, []), .inl (0, 299, []), .inl (ck_one 1), .inl (0, 299, [])], ([], [(3, 8, 0)], []), ([(206, 2, 8), (210, 0, 2399), (212, 0, 2399)], []), [(.inr none, 245, ([], [], [(206, 4, 4, ck_one (-1))]))])
set_option maxRecDepth 100000 in
theorem p2_s1545_s {X : Int → Int} {LX : Nat} : ck_Ok p2_O X LX 203 p2_s1545 := ck_ok_s (O := p2_O) (X := X) (LX := LX) (E := [(10, [p2_s356, p2_s1496]), (170, [p2_s1332]), (30, [p2_s346]), (45, [p2_s1497, p2_s1498]), (9, [p2_s320])]) (mi := 203) (cuts := [(59, [some (.inr (.inr (.inl 208))), some (.inl (0, 7, [])), some (.inl (0, 299, [])), some (.inl (ck_one 1)), some (.inl (0, 299, [])), some (.inr (.inr (.inl 8))), some (.inl ((-1), 98, [])), some (.inl ((-2147483648), 299, [])), some (.inl (0, 8, [])), none], ([], [(3, 8, 0)], [(206, 4, 4, ck_one (-1))]), 100, .inl 8, true)]) (f := 214) (S := p2_s1545) (lx := none) (XF := []) ⟨p2_nmu, ck_E1 (ck_S1 p2_s356_s (ck_S1 p2_s1496_s ck_S0)) (ck_E1 (ck_S1 p2_s1332_s ck_S0) (ck_E1 (ck_S1 p2_s346_s ck_S0) (ck_E1 (ck_S1 p2_s1497_s (ck_S1 p2_s1498_s ck_S0)) (ck_E1 (ck_S1 p2_s320_s ck_S0) ck_E0))))⟩ ck_X0 ck_l0 (by decide +kernel)
set_option maxRecDepth 100000 in
/-- GlacierMail$Answers.throwAgain -/
def p2_s1546 : ck_Sum := ((4, 0, 0), 245, [.inr (.inr (.inl 208)), .inl (0, 7, []), .inl (2, 299, []), .inl ((-2147483648), 2147483647, []), .inl (2, 299, [])], ([], [(3, 8, 0)], []), (zl199, []), [(.inr none, 245, ([], [], [(206, 4, 4, ck_one (-1))]))])
set_option maxRecDepth 100000 in
theorem p2_s1546_s {X : Int → Int} {LX : Nat} : ck_Ok p2_O X LX 203 p2_s1546 := ck_ok_s (O := p2_O) (X := X) (LX := LX) (E := [(10, [p2_s356, p2_s1496]), (170, [p2_s1332]), (30, [p2_s346]), (45, [p2_s1500, p2_s1501]), (9, [p2_s320])]) (mi := 203) (cuts := [(59, [some (.inr (.inr (.inl 208))), some (.inl (0, 7, [])), some (.inl (2, 299, [])), some (.inl ((-2147483648), 2147483647, [])), some (.inl (2, 299, [])), some (.inr (.inr (.inl 8))), some (.inl ((-1), 98, [])), some (.inl ((-2147483648), 299, [])), some (.inl (0, 8, [])), none], ([], [(3, 8, 0)], [(206, 4, 4, ck_one (-1))]), 100, .inl 8, true)]) (f := 214) (S := p2_s1546) (lx := none) (XF := []) ⟨p2_nmu, ck_E1 (ck_S1 p2_s356_s (ck_S1 p2_s1496_s ck_S0)) (ck_E1 (ck_S1 p2_s1332_s ck_S0) (ck_E1 (ck_S1 p2_s346_s ck_S0) (ck_E1 (ck_S1 p2_s1500_s (ck_S1 p2_s1501_s ck_S0)) (ck_E1 (ck_S1 p2_s320_s ck_S0) ck_E0))))⟩ ck_X0 ck_l0 (by decide +kernel)
set_option maxRecDepth 100000 in
/-- GlacierMail$Answers.spread -/
def p2_s1547 : ck_Sum := ((5, 0, 0), 245, [.inr (.inr (.inl 208)), .inl (0, 7, []), .inl (ck_one (-1)), .inl (0, 299, [])], ([], [(3, 8, 0)], [(3, 6, 6, (0, 299, [(10, 0)]))]), (zl200, []), [(.inr none, 245, ([], [], [(206, 4, 4, ck_one (-1))]))])
set_option maxRecDepth 100000 in
theorem p2_s1547_s {X : Int → Int} {LX : Nat} : ck_Ok p2_O X LX 202 p2_s1547 := ck_ok_s (O := p2_O) (X := X) (LX := LX) (E := [(9, [p2_s320]), (25, [p2_s1493, p2_s1495]), (203, [p2_s1545, p2_s1546]), (10, [p2_s1496])]) (mi := 202) (cuts := [(59, [some (.inr (.inr (.inl 208))), some (.inl (0, 7, [])), some (.inl (ck_one (-1))), some (.inl (0, 299, [])), some (.inl (1, 300, [(1000010, 1)])), none, none], ([], [(3, 8, 0)], [(206, 4, 4, ck_one (-1)), (3, 6, 6, (0, 299, [(10, 0)]))]), 100, .inl 4, true), (82, [some (.inr (.inr (.inl 208))), some (.inl (0, 7, [])), some (.inl (ck_one (-1))), some (.inl (2, 299, [])), some (.inl (1, 298, [(100, 0), (1000010, 1)])), some (.inl (0, 8, [])), none], ([], [(3, 8, 0)], [(206, 4, 4, ck_one (-1)), (3, 6, 6, (0, 299, [(10, 0)]))]), 300, .inl 5, true)]) (f := 284) (S := p2_s1547) (lx := none) (XF := []) ⟨p2_nmu, ck_E1 (ck_S1 p2_s320_s ck_S0) (ck_E1 (ck_S1 p2_s1493_s (ck_S1 p2_s1495_s ck_S0)) (ck_E1 (ck_S1 p2_s1545_s (ck_S1 p2_s1546_s ck_S0)) (ck_E1 (ck_S1 p2_s1496_s ck_S0) ck_E0)))⟩ ck_X0 ck_l0 (by decide +kernel)
set_option maxRecDepth 100000 in
/-- GlacierMail.reached -/
def p2_s1548 : ck_Sum := ((8, 1, 6), 245, [.inr (.inr (.inl 1)), .inl (0, 7, []), .inl (0, 299, [])], ([], [(3, 8, 0)], [(3, 6, 6, (0, 299, [(10, 0)]))]), (zl200, []), [(.inl 3, 245, ([], [], [])), (.inr (some (.inl ((-2147483648), 2147483647, []))), 245, ([], [], [(206, 4, 4, ck_one (-1))]))])
set_option maxRecDepth 100000 in
theorem p2_s1548_s {X : Int → Int} {LX : Nat} : ck_Ok p2_O X LX 211 p2_s1548 := ck_ok_s (O := p2_O) (X := X) (LX := LX) (E := [(139, [p2_s328]), (129, [p2_s253]), (202, [p2_s1547]), (9, [p2_s320]), (204, [p2_s1504])]) (mi := 211) (cuts := [(27, [some (.inr (.inr (.inl 1))), some (.inl (0, 7, [])), some (.inl (0, 299, [])), some (.inl ((-2147483648), 2147483647, [])), some (.inl (0, 8, []))], ([], [(3, 8, 0)], [(206, 4, 4, ck_one (-1)), (3, 6, 6, (0, 299, [(10, 0)]))]), 100, .inl 4, true)]) (f := 174) (S := p2_s1548) (lx := none) (XF := []) ⟨p2_nmu, ck_E1 (ck_S1 p2_s328_s ck_S0) (ck_E1 (ck_S1 p2_s253_s ck_S0) (ck_E1 (ck_S1 p2_s1547_s ck_S0) (ck_E1 (ck_S1 p2_s320_s ck_S0) (ck_E1 (ck_S1 p2_s1504_s ck_S0) ck_E0))))⟩ ck_X0 ck_l0 (by decide +kernel)
set_option maxRecDepth 100000 in
/-- GlacierMailModel.reached -/
def p2_s1549 : ck_Sum := ((2, 0, 0), 245, [.inr (.inr (.inl 226)), .inl ((-2147483648), (-1), []), .inl ((-2147483648), 2147483647, [])], ([], [], [(227, 3, 3, (0, 8, [(21, 0)]))]), ([(226, 0, 0)], []), [(.inr (some (.inl (ck_one 0))), 245, ([], [], [(226, 0, 0, ck_one 1)]))])
set_option maxRecDepth 100000 in
theorem p2_s1549_s {X : Int → Int} {LX : Nat} : ck_Ok p2_O X LX 356 p2_s1549 := ck_ok_s (O := p2_O) (X := X) (LX := LX) (E := [(298, [p2_s359]), (282, [p2_s241])]) (mi := 356) (cuts := []) (f := 94) (S := p2_s1549) (lx := none) (XF := []) ⟨p2_nmu, ck_E1 (ck_S1 p2_s359_s ck_S0) (ck_E1 (ck_S1 p2_s241_s ck_S0) ck_E0)⟩ ck_X0 ck_l0 (by decide +kernel)
set_option maxRecDepth 100000 in
/-- GlacierMailModel.reached -/
def p2_s1550 : ck_Sum := ((2, 0, 0), 245, [.inr (.inr (.inl 226)), .inl (8, 2147483647, []), .inl ((-2147483648), 2147483647, [])], ([], [], [(227, 3, 3, (0, 8, [(21, 0)]))]), ([(226, 0, 0)], []), [(.inr (some (.inl (ck_one 0))), 245, ([], [], [(226, 0, 0, ck_one 1)]))])
set_option maxRecDepth 100000 in
theorem p2_s1550_s {X : Int → Int} {LX : Nat} : ck_Ok p2_O X LX 356 p2_s1550 := ck_ok_s (O := p2_O) (X := X) (LX := LX) (E := [(298, [p2_s362]), (282, [p2_s241])]) (mi := 356) (cuts := []) (f := 94) (S := p2_s1550) (lx := none) (XF := []) ⟨p2_nmu, ck_E1 (ck_S1 p2_s362_s ck_S0) (ck_E1 (ck_S1 p2_s241_s ck_S0) ck_E0)⟩ ck_X0 ck_l0 (by decide +kernel)
set_option maxRecDepth 100000 in
/-- GlacierMailModel.reached -/
def p2_s1551 : ck_Sum := ((2, 0, 0), 245, [.inr (.inr (.inl 226)), .inl (0, 7, []), .inl ((-2147483648), (-1), [])], ([], [], [(227, 3, 3, (0, 8, [(21, 0)]))]), ([(226, 0, 0)], []), [(.inr (some (.inl (ck_one 0))), 245, ([], [], [(226, 0, 0, (1, 2, []))]))])
set_option maxRecDepth 100000 in
theorem p2_s1551_s {X : Int → Int} {LX : Nat} : ck_Ok p2_O X LX 356 p2_s1551 := ck_ok_s (O := p2_O) (X := X) (LX := LX) (E := [(298, [p2_s365]), (282, [p2_s241, p2_s242, p2_s244]), (285, [p2_s257])]) (mi := 356) (cuts := []) (f := 106) (S := p2_s1551) (lx := none) (XF := []) ⟨p2_nmu, ck_E1 (ck_S1 p2_s365_s ck_S0) (ck_E1 (ck_S1 p2_s241_s (ck_S1 p2_s242_s (ck_S1 p2_s244_s ck_S0))) (ck_E1 (ck_S1 p2_s257_s ck_S0) ck_E0))⟩ ck_X0 ck_l0 (by decide +kernel)
set_option maxRecDepth 100000 in
/-- GlacierMailModel.reached -/
def p2_s1552 : ck_Sum := ((2, 0, 0), 245, [.inr (.inr (.inl 226)), .inl (0, 7, []), .inl (300, 2147483647, [])], ([], [], [(227, 3, 3, (0, 8, [(21, 0)]))]), ([(226, 0, 0)], []), [(.inr (some (.inl (ck_one 0))), 245, ([], [], [(226, 0, 0, (1, 2, []))]))])
set_option maxRecDepth 100000 in
theorem p2_s1552_s {X : Int → Int} {LX : Nat} : ck_Ok p2_O X LX 356 p2_s1552 := ck_ok_s (O := p2_O) (X := X) (LX := LX) (E := [(298, [p2_s365]), (282, [p2_s241, p2_s242, p2_s244]), (285, [p2_s260])]) (mi := 356) (cuts := []) (f := 106) (S := p2_s1552) (lx := none) (XF := []) ⟨p2_nmu, ck_E1 (ck_S1 p2_s365_s ck_S0) (ck_E1 (ck_S1 p2_s241_s (ck_S1 p2_s242_s (ck_S1 p2_s244_s ck_S0))) (ck_E1 (ck_S1 p2_s260_s ck_S0) ck_E0))⟩ ck_X0 ck_l0 (by decide +kernel)
set_option maxRecDepth 100000 in
/-- GlacierMailModel.reached -/
def p2_s1553 : ck_Sum := ((8, 0, 0), 245, [.inr (.inr (.inl 226)), .inl (0, 7, []), .inl (0, 299, [])], ([], [], zl184), (zl201, []), zl196)
set_option maxRecDepth 100000 in
theorem p2_s1553_s {X : Int → Int} {LX : Nat} : ck_Ok p2_O X LX 356 p2_s1553 := ck_ok_s (O := p2_O) (X := X) (LX := LX) (E := [(298, [p2_s365]), (282, [p2_s241, p2_s242, p2_s243]), (285, [p2_s263]), (350, [p2_s1513]), (253, [p2_s186]), (353, [p2_s1514])]) (mi := 356) (cuts := [(44, [some (.inr (.inr (.inl 226))), some (.inl (0, 7, [])), some (.inl (0, 299, [])), some (.inl ((-2147483648), 2147483647, [])), some (.inl (0, 8, [])), none], ([], [], [(226, 0, 0, ck_one 0), (227, 2, 2, (0, 8, [(20, 0)])), (227, 3, 3, (0, 8, [(21, 0)])), (227, 5, 5, (0, 8, [(23, 0)])), (227, 9, 9, (0, 299, [(11, 0)]))]), 100, .inl 4, true)]) (f := 194) (S := p2_s1553) (lx := none) (XF := []) ⟨p2_nmu, ck_E1 (ck_S1 p2_s365_s ck_S0) (ck_E1 (ck_S1 p2_s241_s (ck_S1 p2_s242_s (ck_S1 p2_s243_s ck_S0))) (ck_E1 (ck_S1 p2_s263_s ck_S0) (ck_E1 (ck_S1 p2_s1513_s ck_S0) (ck_E1 (ck_S1 p2_s186_s ck_S0) (ck_E1 (ck_S1 p2_s1514_s ck_S0) ck_E0)))))⟩ ck_X0 ck_l0 (by decide +kernel)
set_option maxRecDepth 100000 in
/-- GlacierMail.needThiefYears -/
def p2_s1554 : ck_Sum := ((6, 1, 6), 245, [.inr (.inr (.inl 1)), .inl ((-2147483648), (-1), [])], ([], [], []), ([], []), [(.inl 0, 245, ([], [], []))])
set_option maxRecDepth 100000 in
theorem p2_s1554_s {X : Int → Int} {LX : Nat} : ck_Ok p2_O X LX 214 p2_s1554 := ck_ok_s (O := p2_O) (X := X) (LX := LX) (E := []) (mi := 214) (cuts := []) (f := 78) (S := p2_s1554) (lx := none) (XF := []) ⟨p2_nmu, ck_E0⟩ ck_X0 ck_l0 (by decide +kernel)
set_option maxRecDepth 100000 in
/-- GlacierMail.thieves -/
def p2_s1555 : ck_Sum := ((7, 1, 6), 245, [.inr (.inr (.inl 1)), .inl ((-2147483648), (-1), []), .inl (0, 1, [])], ([], [], []), ([], []), [(.inl 0, 245, ([], [], []))])
set_option maxRecDepth 100000 in
theorem p2_s1555_s {X : Int → Int} {LX : Nat} : ck_Ok p2_O X LX 213 p2_s1555 := ck_ok_s (O := p2_O) (X := X) (LX := LX) (E := [(214, [p2_s1554])]) (mi := 213) (cuts := []) (f := 76) (S := p2_s1555) (lx := none) (XF := []) ⟨p2_nmu, ck_E1 (ck_S1 p2_s1554_s ck_S0) ck_E0⟩ ck_X0 ck_l0 (by decide +kernel)
set_option maxRecDepth 100000 in
/-- GlacierMail.needThiefYears -/
def p2_s1556 : ck_Sum := ((6, 1, 6), 245, [.inr (.inr (.inl 1)), .inl (31, 2147483647, [])], ([], [], []), ([], []), [(.inl 0, 245, ([], [], []))])
set_option maxRecDepth 100000 in
theorem p2_s1556_s {X : Int → Int} {LX : Nat} : ck_Ok p2_O X LX 214 p2_s1556 := ck_ok_s (O := p2_O) (X := X) (LX := LX) (E := []) (mi := 214) (cuts := []) (f := 84) (S := p2_s1556) (lx := none) (XF := []) ⟨p2_nmu, ck_E0⟩ ck_X0 ck_l0 (by decide +kernel)
set_option maxRecDepth 100000 in
/-- GlacierMail.thieves -/
def p2_s1557 : ck_Sum := ((7, 1, 6), 245, [.inr (.inr (.inl 1)), .inl (31, 2147483647, []), .inl (0, 1, [])], ([], [], []), ([], []), [(.inl 0, 245, ([], [], []))])
set_option maxRecDepth 100000 in
theorem p2_s1557_s {X : Int → Int} {LX : Nat} : ck_Ok p2_O X LX 213 p2_s1557 := ck_ok_s (O := p2_O) (X := X) (LX := LX) (E := [(214, [p2_s1556])]) (mi := 213) (cuts := []) (f := 76) (S := p2_s1557) (lx := none) (XF := []) ⟨p2_nmu, ck_E1 (ck_S1 p2_s1556_s ck_S0) ck_E0⟩ ck_X0 ck_l0 (by decide +kernel)
set_option maxRecDepth 100000 in
/-- GlacierMail.needThiefYears -/
def p2_s1558 : ck_Sum := ((6, 1, 6), 245, [.inr (.inr (.inl 1)), .inl (0, 30, [])], ([], [], []), ([], []), [(.inl 0, 245, ([], [], [])), (.inr none, 245, ([], [], []))])
set_option maxRecDepth 100000 in
theorem p2_s1558_s {X : Int → Int} {LX : Nat} : ck_Ok p2_O X LX 214 p2_s1558 := ck_ok_s (O := p2_O) (X := X) (LX := LX) (E := []) (mi := 214) (cuts := []) (f := 84) (S := p2_s1558) (lx := none) (XF := []) ⟨p2_nmu, ck_E0⟩ ck_X0 ck_l0 (by decide +kernel)
set_option maxRecDepth 100000 in
/-- java/util/Arrays.fill -/
def p2_s1559 : ck_Sum := ((0, 0, 0), 245, [.inr (.inr (.inl 223)), .inl (ck_one 0)], ([], [], []), ([(223, 0, 179)], []), [(.inr none, 245, ([], [], []))])
set_option maxRecDepth 100000 in
theorem p2_s1559_s {X : Int → Int} {LX : Nat} : ck_Ok p2_O X LX 8 p2_s1559 := ck_ok_s (O := p2_O) (X := X) (LX := LX) (E := []) (mi := 8) (cuts := [(5, [some (.inr (.inr (.inl 223))), some (.inl (ck_one 0)), some (.inl (0, 180, [])), some (.inl (ck_one 180))], ([], [], []), 100, .inl 2, true)]) (f := 130) (S := p2_s1559) (lx := none) (XF := []) ⟨p2_nmu, ck_E0⟩ ck_X0 ck_l0 (by decide +kernel)
set_option maxRecDepth 100000 in
/-- GlacierMail$Rows.reset -/
def p2_s1560 : ck_Sum := ((1, 0, 0), 245, [.inr (.inr (.inl 222)), .inl (0, 30, [])], ([], [], []), ([(222, 3, 3), (223, 0, 179)], []), [(.inr none, 245, ([], [], []))])
set_option maxRecDepth 100000 in
theorem p2_s1560_s {X : Int → Int} {LX : Nat} : ck_Ok p2_O X LX 25 p2_s1560 := ck_ok_s (O := p2_O) (X := X) (LX := LX) (E := [(8, [p2_s1559])]) (mi := 25) (cuts := []) (f := 96) (S := p2_s1560) (lx := none) (XF := []) ⟨p2_nmu, ck_E1 (ck_S1 p2_s1559_s ck_S0) ck_E0⟩ ck_X0 ck_l0 (by decide +kernel)
set_option maxRecDepth 100000 in
/-- GlacierMail$Rows.get -/
def p2_s1561 : ck_Sum := ((0, 0, 0), 245, [.inr (.inr (.inl 222)), .inl ((-2147483648), 2147483647, []), .inl ((-2147483648), 2147483647, [])], ([], [], []), ([], []), [(.inr (some (.inl ((-2147483648), 2147483647, []))), 245, ([], [], []))])
set_option maxRecDepth 100000 in
theorem p2_s1561_s {X : Int → Int} {LX : Nat} : ck_Ok p2_O X LX 10 p2_s1561 := ck_ok_s (O := p2_O) (X := X) (LX := LX) (E := []) (mi := 10) (cuts := []) (f := 114) (S := p2_s1561) (lx := none) (XF := []) ⟨p2_nmu, ck_E0⟩ ck_X0 ck_l0 (by decide +kernel)
set_option maxRecDepth 100000 in
/-- GlacierMail$Rows.put -/
def p2_s1562 : ck_Sum := ((0, 0, 0), 245, [.inr (.inr (.inl 222)), .inl ((-2147483648), 2147483647, []), .inl ((-1), 299, []), .inl ((-2147483648), 2147483647, [])], ([], [], []), ([(223, 0, 179)], []), [(.inr none, 245, ([], [], []))])
set_option maxRecDepth 100000 in
theorem p2_s1562_s {X : Int → Int} {LX : Nat} : ck_Ok p2_O X LX 45 p2_s1562 := ck_ok_s (O := p2_O) (X := X) (LX := LX) (E := []) (mi := 45) (cuts := []) (f := 116) (S := p2_s1562) (lx := none) (XF := []) ⟨p2_nmu, ck_E0⟩ ck_X0 ck_l0 (by decide +kernel)
set_option maxRecDepth 100000 in
/-- GlacierMail.reckonCame -/
def p2_s1563 : ck_Sum := ((2, 0, 0), 245, [.inr (.inr (.inl 1)), .inl (0, 30, [])], ([], [], [(3, 6, 6, (0, 299, [(10, 0)]))]), ([(222, 3, 3), (223, 0, 179)], []), [(.inr none, 245, ([], [], []))])
set_option maxRecDepth 100000 in
theorem p2_s1563_s {X : Int → Int} {LX : Nat} : ck_Ok p2_O X LX 215 p2_s1563 := ck_ok_s (O := p2_O) (X := X) (LX := LX) (E := [(25, [p2_s1560]), (9, [p2_s332]), (10, [p2_s350, p2_s335, p2_s1561]), (28, [p2_s336]), (45, [p2_s1562])]) (mi := 215) (cuts := [(10, [some (.inr (.inr (.inl 1))), some (.inl (0, 30, [])), some (.inl (0, 24, [])), none, none], ([], [], [(3, 6, 6, (0, 299, [(10, 0)]))]), 100, .inl 2, true)]) (f := 286) (S := p2_s1563) (lx := none) (XF := []) ⟨p2_nmu, ck_E1 (ck_S1 p2_s1560_s ck_S0) (ck_E1 (ck_S1 p2_s332_s ck_S0) (ck_E1 (ck_S1 p2_s350_s (ck_S1 p2_s335_s (ck_S1 p2_s1561_s ck_S0))) (ck_E1 (ck_S1 p2_s336_s ck_S0) (ck_E1 (ck_S1 p2_s1562_s ck_S0) ck_E0))))⟩ ck_X0 ck_l0 (by decide +kernel)
set_option maxRecDepth 100000 in
/-- java/util/Arrays.fill -/
def p2_s1564 : ck_Sum := ((0, 0, 0), 245, [.inr (.inr (.inl 225)), .inl (ck_one 0)], ([], [], []), ([(225, 0, 185)], []), [(.inr none, 245, ([], [], []))])
set_option maxRecDepth 100000 in
theorem p2_s1564_s {X : Int → Int} {LX : Nat} : ck_Ok p2_O X LX 8 p2_s1564 := ck_ok_s (O := p2_O) (X := X) (LX := LX) (E := []) (mi := 8) (cuts := [(5, [some (.inr (.inr (.inl 225))), some (.inl (ck_one 0)), some (.inl (0, 186, [])), some (.inl (ck_one 186))], ([], [], []), 100, .inl 2, true)]) (f := 130) (S := p2_s1564) (lx := none) (XF := []) ⟨p2_nmu, ck_E0⟩ ck_X0 ck_l0 (by decide +kernel)
set_option maxRecDepth 100000 in
/-- GlacierMail$Rows.reset -/
def p2_s1565 : ck_Sum := ((1, 0, 0), 245, [.inr (.inr (.inl 224)), .inl (1, 31, [])], ([], [], []), ([(224, 3, 3), (225, 0, 185)], []), [(.inr none, 245, ([], [], [(224, 3, 3, (1, 31, []))]))])
set_option maxRecDepth 100000 in
theorem p2_s1565_s {X : Int → Int} {LX : Nat} : ck_Ok p2_O X LX 25 p2_s1565 := ck_ok_s (O := p2_O) (X := X) (LX := LX) (E := [(8, [p2_s1564])]) (mi := 25) (cuts := []) (f := 96) (S := p2_s1565) (lx := none) (XF := []) ⟨p2_nmu, ck_E1 (ck_S1 p2_s1564_s ck_S0) ck_E0⟩ ck_X0 ck_l0 (by decide +kernel)
set_option maxRecDepth 100000 in
/-- GlacierMail$Rows.get -/
def p2_s1566 : ck_Sum := ((0, 0, 0), 245, [.inr (.inr (.inl 224)), .inl ((-2147483648), 2147483647, []), .inl ((-2147483648), 2147483647, [])], ([], [], []), ([], []), [(.inr (some (.inl ((-2147483648), 2147483647, []))), 245, ([], [], []))])
set_option maxRecDepth 100000 in
theorem p2_s1566_s {X : Int → Int} {LX : Nat} : ck_Ok p2_O X LX 10 p2_s1566 := ck_ok_s (O := p2_O) (X := X) (LX := LX) (E := []) (mi := 10) (cuts := []) (f := 114) (S := p2_s1566) (lx := none) (XF := []) ⟨p2_nmu, ck_E0⟩ ck_X0 ck_l0 (by decide +kernel)
set_option maxRecDepth 100000 in
/-- GlacierMail.bestNext -/
def p2_s1567 : ck_Sum := ((1, 0, 0), 245, [.inr (.inr (.inl 1)), .inl (1, 30, []), .inl (0, 5, [])], ([], [], []), ([], []), [(.inr (some (.inl ((-2147483648), 2147483647, []))), 245, ([], [], []))])
set_option maxRecDepth 100000 in
theorem p2_s1567_s {X : Int → Int} {LX : Nat} : ck_Ok p2_O X LX 216 p2_s1567 := ck_ok_s (O := p2_O) (X := X) (LX := LX) (E := [(10, [p2_s1566])]) (mi := 216) (cuts := []) (f := 118) (S := p2_s1567) (lx := none) (XF := []) ⟨p2_nmu, ck_E1 (ck_S1 p2_s1566_s ck_S0) ck_E0⟩ ck_X0 ck_l0 (by decide +kernel)
set_option maxRecDepth 100000 in
/-- GlacierMail$Rows.put -/
def p2_s1568 : ck_Sum := ((0, 0, 0), 245, [.inr (.inr (.inl 224)), .inl (0, 29, []), .inl (0, 5, []), .inl ((-2147483648), 2147483647, [])], ([], [], []), ([(225, 0, 179)], []), [(.inr none, 245, ([], [], []))])
set_option maxRecDepth 100000 in
theorem p2_s1568_s {X : Int → Int} {LX : Nat} : ck_Ok p2_O X LX 45 p2_s1568 := ck_ok_s (O := p2_O) (X := X) (LX := LX) (E := []) (mi := 45) (cuts := []) (f := 116) (S := p2_s1568) (lx := none) (XF := []) ⟨p2_nmu, ck_E0⟩ ck_X0 ck_l0 (by decide +kernel)
set_option maxRecDepth 100000 in
/-- GlacierMail.thieves -/
def p2_s1569 : ck_Sum := ((7, 1, 6), 245, [.inr (.inr (.inl 1)), .inl (0, 30, []), .inl (0, 1, [])], ([], [(3, 8, 0)], [(3, 6, 6, (0, 299, [(10, 0)]))]), ([(1, 15, 15), (206, 2, 8), (220, 3, 3), (221, 0, 47), (222, 3, 3), (223, 0, 179), (224, 3, 3), (225, 0, 185)], []), [(.inl 0, 245, ([], [], [])), (.inr (some (.inl ((-2147483648), 2147483647, []))), 245, ([], [], [(224, 3, 3, (1, 31, [])), (1, 15, 15, ck_one 1)])), (.inr (some (.inl (0, 5, []))), 245, ([], [], [(224, 3, 3, (1, 31, [])), (1, 15, 15, ck_one 1)]))])
set_option maxRecDepth 100000 in
theorem p2_s1569_s {X : Int → Int} {LX : Nat} : ck_Ok p2_O X LX 213 p2_s1569 := ck_ok_s (O := p2_O) (X := X) (LX := LX) (E := [(214, [p2_s1558]), (24, [p2_s349]), (215, [p2_s1563]), (25, [p2_s1565]), (10, [p2_s1566, p2_s1561]), (216, [p2_s1567]), (45, [p2_s1568])]) (mi := 213) (cuts := [(28, [some (.inr (.inr (.inl 1))), some (.inl (0, 30, [])), some (.inl (0, 1, [])), some (.inl ((-1), 29, [])), none], ([], [(3, 8, 0)], [(224, 3, 3, (1, 31, [])), (1, 15, 15, ck_one 1), (3, 6, 6, (0, 299, [(10, 0)]))]), 100, .inl 3, false), (94, [some (.inr (.inr (.inl 1))), some (.inl (0, 30, [])), some (.inl (0, 1, [])), some (.inl (0, 5, [])), some (.inl (1, 6, []))], ([], [(3, 8, 0)], [(224, 3, 3, (1, 31, [])), (1, 15, 15, ck_one 1), (3, 6, 6, (0, 299, [(10, 0)]))]), 300, .inl 4, true), (35, [some (.inr (.inr (.inl 1))), some (.inl (0, 30, [])), some (.inl (0, 1, [])), some (.inl (0, 29, [(100, 0)])), some (.inl (0, 6, []))], ([], [(3, 8, 0)], [(224, 3, 3, (1, 31, [])), (1, 15, 15, ck_one 1), (3, 6, 6, (0, 299, [(10, 0)]))]), 500, .inl 4, true)]) (f := 330) (S := p2_s1569) (lx := none) (XF := []) ⟨p2_nmu, ck_E1 (ck_S1 p2_s1558_s ck_S0) (ck_E1 (ck_S1 p2_s349_s ck_S0) (ck_E1 (ck_S1 p2_s1563_s ck_S0) (ck_E1 (ck_S1 p2_s1565_s ck_S0) (ck_E1 (ck_S1 p2_s1566_s (ck_S1 p2_s1561_s ck_S0)) (ck_E1 (ck_S1 p2_s1567_s ck_S0) (ck_E1 (ck_S1 p2_s1568_s ck_S0) ck_E0))))))⟩ ck_X0 ck_l0 (by decide +kernel)
set_option maxRecDepth 100000 in
/-- GlacierMailModel.in -/
def p2_s1570 : ck_Sum := ((0, 0, 0), 245, [.inl ((-2147483648), (-1), []), .inl (ck_one 1), .inl (ck_one 30)], ([], [], []), ([], []), [(.inr (some (.inl (ck_one 0))), 245, ([], [], []))])
set_option maxRecDepth 100000 in
theorem p2_s1570_s {X : Int → Int} {LX : Nat} : ck_Ok p2_O X LX 286 p2_s1570 := ck_ok_s (O := p2_O) (X := X) (LX := LX) (E := []) (mi := 286) (cuts := []) (f := 80) (S := p2_s1570) (lx := none) (XF := []) ⟨p2_nmu, ck_E0⟩ ck_X0 ck_l0 (by decide +kernel)
set_option maxRecDepth 100000 in
/-- GlacierMailModel.thieves -/
def p2_s1571 : ck_Sum := ((1, 0, 0), 245, [.inr (.inr (.inl 226)), .inl ((-2147483648), (-1), []), .inl (0, 1, [])], ([], [], []), ([(226, 0, 0)], []), [(.inr (some (.inl (ck_one 0))), 245, ([], [], [(226, 0, 0, ck_one 1)]))])
set_option maxRecDepth 100000 in
theorem p2_s1571_s {X : Int → Int} {LX : Nat} : ck_Ok p2_O X LX 357 p2_s1571 := ck_ok_s (O := p2_O) (X := X) (LX := LX) (E := [(286, [p2_s1570]), (282, [p2_s241])]) (mi := 357) (cuts := []) (f := 102) (S := p2_s1571) (lx := none) (XF := []) ⟨p2_nmu, ck_E1 (ck_S1 p2_s1570_s ck_S0) (ck_E1 (ck_S1 p2_s241_s ck_S0) ck_E0)⟩ ck_X0 ck_l0 (by decide +kernel)
set_option maxRecDepth 100000 in
/-- GlacierMailModel.in -/
def p2_s1572 : ck_Sum := ((0, 0, 0), 245, [.inl (31, 2147483647, []), .inl (ck_one 1), .inl (ck_one 30)], ([], [], []), ([], []), [(.inr (some (.inl (ck_one 0))), 245, ([], [], []))])
set_option maxRecDepth 100000 in
theorem p2_s1572_s {X : Int → Int} {LX : Nat} : ck_Ok p2_O X LX 286 p2_s1572 := ck_ok_s (O := p2_O) (X := X) (LX := LX) (E := []) (mi := 286) (cuts := []) (f := 86) (S := p2_s1572) (lx := none) (XF := []) ⟨p2_nmu, ck_E0⟩ ck_X0 ck_l0 (by decide +kernel)
set_option maxRecDepth 100000 in
/-- GlacierMailModel.thieves -/
def p2_s1573 : ck_Sum := ((1, 0, 0), 245, [.inr (.inr (.inl 226)), .inl (31, 2147483647, []), .inl (0, 1, [])], ([], [], []), ([(226, 0, 0)], []), [(.inr (some (.inl (ck_one 0))), 245, ([], [], [(226, 0, 0, ck_one 1)]))])
set_option maxRecDepth 100000 in
theorem p2_s1573_s {X : Int → Int} {LX : Nat} : ck_Ok p2_O X LX 357 p2_s1573 := ck_ok_s (O := p2_O) (X := X) (LX := LX) (E := [(286, [p2_s1572]), (282, [p2_s241])]) (mi := 357) (cuts := []) (f := 102) (S := p2_s1573) (lx := none) (XF := []) ⟨p2_nmu, ck_E1 (ck_S1 p2_s1572_s ck_S0) (ck_E1 (ck_S1 p2_s241_s ck_S0) ck_E0)⟩ ck_X0 ck_l0 (by decide +kernel)
set_option maxRecDepth 100000 in
/-- GlacierMailModel.in -/
def p2_s1574 : ck_Sum := ((0, 0, 0), 245, [.inl (0, 30, []), .inl (ck_one 1), .inl (ck_one 30)], ([], [], []), ([], []), [(.inr (some (.inl (ck_one 0))), 245, ([], [], [])), (.inr (some (.inl (ck_one 1))), 245, ([], [], []))])
set_option maxRecDepth 100000 in
theorem p2_s1574_s {X : Int → Int} {LX : Nat} : ck_Ok p2_O X LX 286 p2_s1574 := ck_ok_s (O := p2_O) (X := X) (LX := LX) (E := []) (mi := 286) (cuts := []) (f := 88) (S := p2_s1574) (lx := none) (XF := []) ⟨p2_nmu, ck_E0⟩ ck_X0 ck_l0 (by decide +kernel)
set_option maxRecDepth 100000 in
/-- GlacierMailModel.outsIn -/
def p2_s1575 : ck_Sum := ((2, 0, 0), 245, [.inr (.inr (.inl 226)), .inl (0, 328, []), .inl (0, 5, []), .inl (ck_one 0)], ([], [], [(227, 4, 4, (0, 24, [(22, 0)]))]), ([], []), [(.inr (some (.inl ((-2147483648), 2147483647, []))), 245, ([], [], []))])
set_option maxRecDepth 100000 in
theorem p2_s1575_s {X : Int → Int} {LX : Nat} : ck_Ok p2_O X LX 333 p2_s1575 := ck_ok_s (O := p2_O) (X := X) (LX := LX) (E := [(254, [p2_s176]), (301, [p2_s375]), (303, [p2_s374])]) (mi := 333) (cuts := [(6, [some (.inr (.inr (.inl 226))), some (.inl (0, 328, [])), some (.inl (0, 5, [])), some (.inl (ck_one 0)), some (.inl ((-2147483648), 2147483647, [])), some (.inl (0, 24, []))], ([], [], [(227, 4, 4, (0, 24, [(22, 0)]))]), 100, .inl 5, true)]) (f := 218) (S := p2_s1575) (lx := none) (XF := []) ⟨p2_nmu, ck_E1 (ck_S1 p2_s176_s ck_S0) (ck_E1 (ck_S1 p2_s375_s ck_S0) (ck_E1 (ck_S1 p2_s374_s ck_S0) ck_E0))⟩ ck_X0 ck_l0 (by decide +kernel)
set_option maxRecDepth 100000 in
/-- GlacierMailModel.outsIn -/
def p2_s1576 : ck_Sum := ((2, 0, 0), 245, [.inr (.inr (.inl 226)), .inl (0, 327, []), .inl (0, 5, []), .inl (ck_one 0)], ([], [], [(227, 4, 4, (0, 24, [(22, 0)]))]), ([], []), [(.inr (some (.inl ((-2147483648), 2147483647, []))), 245, ([], [], []))])
set_option maxRecDepth 100000 in
theorem p2_s1576_s {X : Int → Int} {LX : Nat} : ck_Ok p2_O X LX 333 p2_s1576 := ck_ok_s (O := p2_O) (X := X) (LX := LX) (E := [(254, [p2_s176]), (301, [p2_s375]), (303, [p2_s374])]) (mi := 333) (cuts := [(6, [some (.inr (.inr (.inl 226))), some (.inl (0, 327, [])), some (.inl (0, 5, [])), some (.inl (ck_one 0)), some (.inl ((-2147483648), 2147483647, [])), some (.inl (0, 24, []))], ([], [], [(227, 4, 4, (0, 24, [(22, 0)]))]), 100, .inl 5, true)]) (f := 218) (S := p2_s1576) (lx := none) (XF := []) ⟨p2_nmu, ck_E1 (ck_S1 p2_s176_s ck_S0) (ck_E1 (ck_S1 p2_s375_s ck_S0) (ck_E1 (ck_S1 p2_s374_s ck_S0) ck_E0))⟩ ck_X0 ck_l0 (by decide +kernel)
set_option maxRecDepth 100000 in
/-- GlacierMailModel.outsIn -/
def p2_s1577 : ck_Sum := ((2, 0, 0), 245, [.inr (.inr (.inl 226)), .inl (0, 327, []), .inl (0, 4, []), .inl (ck_one 0)], ([], [], [(227, 4, 4, (0, 24, [(22, 0)]))]), ([], []), [(.inr (some (.inl ((-2147483648), 2147483647, []))), 245, ([], [], []))])
set_option maxRecDepth 100000 in
theorem p2_s1577_s {X : Int → Int} {LX : Nat} : ck_Ok p2_O X LX 333 p2_s1577 := ck_ok_s (O := p2_O) (X := X) (LX := LX) (E := [(254, [p2_s176]), (301, [p2_s375]), (303, [p2_s374])]) (mi := 333) (cuts := [(6, [some (.inr (.inr (.inl 226))), some (.inl (0, 327, [])), some (.inl (0, 4, [])), some (.inl (ck_one 0)), some (.inl ((-2147483648), 2147483647, [])), some (.inl (0, 24, []))], ([], [], [(227, 4, 4, (0, 24, [(22, 0)]))]), 100, .inl 5, true)]) (f := 218) (S := p2_s1577) (lx := none) (XF := []) ⟨p2_nmu, ck_E1 (ck_S1 p2_s176_s ck_S0) (ck_E1 (ck_S1 p2_s375_s ck_S0) (ck_E1 (ck_S1 p2_s374_s ck_S0) ck_E0))⟩ ck_X0 ck_l0 (by decide +kernel)
end
/-! 78r80a20.sf -/
section
/-! EVERY CALL ENDS, whatever was done before (laid by wip/am/p2k.py). -/
set_option maxRecDepth 100000 in
/-- GlacierMailModel.outsIn -/
def p2_s1578 : ck_Sum := ((2, 0, 0), 245, [.inr (.inr (.inl 226)), .inl (0, 327, []), .inl (ck_one 0), .inl (ck_one 0)], ([], [], [(227, 4, 4, (0, 24, [(22, 0)]))]), ([], []), [(.inr (some (.inl ((-2147483648), 2147483647, []))), 245, ([], [], []))])
set_option maxRecDepth 100000 in
theorem p2_s1578_s {X : Int → Int} {LX : Nat} : ck_Ok p2_O X LX 333 p2_s1578 := ck_ok_s (O := p2_O) (X := X) (LX := LX) (E := [(254, [p2_s176]), (301, [p2_s375]), (303, [p2_s374])]) (mi := 333) (cuts := [(6, [some (.inr (.inr (.inl 226))), some (.inl (0, 327, [])), some (.inl (ck_one 0)), some (.inl (ck_one 0)), some (.inl ((-2147483648), 2147483647, [])), some (.inl (0, 24, []))], ([], [], [(227, 4, 4, (0, 24, [(22, 0)]))]), 100, .inl 5, true)]) (f := 218) (S := p2_s1578) (lx := none) (XF := []) ⟨p2_nmu, ck_E1 (ck_S1 p2_s176_s ck_S0) (ck_E1 (ck_S1 p2_s375_s ck_S0) (ck_E1 (ck_S1 p2_s374_s ck_S0) ck_E0))⟩ ck_X0 ck_l0 (by decide +kernel)
set_option maxRecDepth 100000 in
/-- GlacierMailModel.outsIn -/
def p2_s1579 : ck_Sum := ((2, 0, 0), 245, [.inr (.inr (.inl 226)), .inl (0, 327, []), .inl (1, 5, []), .inl (ck_one 0)], ([], [], [(227, 4, 4, (0, 24, [(22, 0)]))]), ([], []), [(.inr (some (.inl ((-2147483648), 2147483647, []))), 245, ([], [], []))])
set_option maxRecDepth 100000 in
theorem p2_s1579_s {X : Int → Int} {LX : Nat} : ck_Ok p2_O X LX 333 p2_s1579 := ck_ok_s (O := p2_O) (X := X) (LX := LX) (E := [(254, [p2_s176]), (301, [p2_s375]), (303, [p2_s374])]) (mi := 333) (cuts := [(6, [some (.inr (.inr (.inl 226))), some (.inl (0, 327, [])), some (.inl (1, 5, [])), some (.inl (ck_one 0)), some (.inl ((-2147483648), 2147483647, [])), some (.inl (0, 24, []))], ([], [], [(227, 4, 4, (0, 24, [(22, 0)]))]), 100, .inl 5, true)]) (f := 218) (S := p2_s1579) (lx := none) (XF := []) ⟨p2_nmu, ck_E1 (ck_S1 p2_s176_s ck_S0) (ck_E1 (ck_S1 p2_s375_s ck_S0) (ck_E1 (ck_S1 p2_s374_s ck_S0) ck_E0))⟩ ck_X0 ck_l0 (by decide +kernel)
set_option maxRecDepth 100000 in
/-- GlacierMailModel.outsIn -/
def p2_s1580 : ck_Sum := ((2, 0, 0), 245, [.inr (.inr (.inl 226)), .inl (0, 327, []), .inl (1, 4, []), .inl (ck_one 0)], ([], [], [(227, 4, 4, (0, 24, [(22, 0)]))]), ([], []), [(.inr (some (.inl ((-2147483648), 2147483647, []))), 245, ([], [], []))])
set_option maxRecDepth 100000 in
theorem p2_s1580_s {X : Int → Int} {LX : Nat} : ck_Ok p2_O X LX 333 p2_s1580 := ck_ok_s (O := p2_O) (X := X) (LX := LX) (E := [(254, [p2_s176]), (301, [p2_s375]), (303, [p2_s374])]) (mi := 333) (cuts := [(6, [some (.inr (.inr (.inl 226))), some (.inl (0, 327, [])), some (.inl (1, 4, [])), some (.inl (ck_one 0)), some (.inl ((-2147483648), 2147483647, [])), some (.inl (0, 24, []))], ([], [], [(227, 4, 4, (0, 24, [(22, 0)]))]), 100, .inl 5, true)]) (f := 218) (S := p2_s1580) (lx := none) (XF := []) ⟨p2_nmu, ck_E1 (ck_S1 p2_s176_s ck_S0) (ck_E1 (ck_S1 p2_s375_s ck_S0) (ck_E1 (ck_S1 p2_s374_s ck_S0) ck_E0))⟩ ck_X0 ck_l0 (by decide +kernel)
set_option maxRecDepth 100000 in
/-- GlacierMailModel.steals -/
def p2_s1581 : ck_Sum := ((9, 0, 0), 245, [.inr (.inr (.inl 226)), .inl (0, 30, [])], ([], [], zl84), ([(226, 17, 23), (226, 26, 26), (226, 29, 30), (233, 0, 399), (235, 0, 29699), (236, 0, 299), (237, 0, 299), (238, 0, 23), (243, 0, 5), (244, 0, 5)], []), [(.inr none, 245, ([], [], []))])
set_option maxRecDepth 100000 in
theorem p2_s1581_s {X : Int → Int} {LX : Nat} : ck_Ok p2_O X LX 358 p2_s1581 := ck_ok_s (O := p2_O) (X := X) (LX := LX) (E := [(332, [p2_s1373]), (266, [p2_s190]), (261, [p2_s166]), (333, [p2_s1575, p2_s1576, p2_s1577, p2_s1578, p2_s1579, p2_s1580])]) (mi := 358) (cuts := [(6, [some (.inr (.inr (.inl 226))), some (.inl (0, 30, [])), some (.inl (0, 6, [])), none, none], ([], [], [(227, 2, 2, (0, 8, [(20, 0)])), (227, 4, 4, (0, 24, [(22, 0)])), (227, 5, 5, (0, 8, [(23, 0)])), (227, 9, 9, (0, 299, [(11, 0)]))]), 100, .inl 2, true), (34, [some (.inr (.inr (.inl 226))), some (.inl (0, 30, [])), some (.inl ((-1), 328, [])), none, none], ([], [], [(227, 2, 2, (0, 8, [(20, 0)])), (227, 4, 4, (0, 24, [(22, 0)])), (227, 5, 5, (0, 8, [(23, 0)])), (227, 9, 9, (0, 299, [(11, 0)]))]), 300, .inl 2, false), (44, [some (.inr (.inr (.inl 226))), some (.inl (0, 30, [])), some (.inl (0, 328, [(300, 0)])), some (.inl (0, 6, [])), none], ([], [], [(227, 2, 2, (0, 8, [(20, 0)])), (227, 4, 4, (0, 24, [(22, 0)])), (227, 5, 5, (0, 8, [(23, 0)])), (227, 9, 9, (0, 299, [(11, 0)]))]), 500, .inl 3, true), (152, [some (.inr (.inr (.inl 226))), some (.inl (0, 30, [])), some (.inl (0, 328, [(300, 0)])), some (.inl (0, 6, [])), none], ([], [], [(227, 2, 2, (0, 8, [(20, 0)])), (227, 4, 4, (0, 24, [(22, 0)])), (227, 5, 5, (0, 8, [(23, 0)])), (227, 9, 9, (0, 299, [(11, 0)]))]), 700, .inl 3, true)]) (f := 800) (S := p2_s1581) (lx := none) (XF := []) ⟨p2_nmu, ck_E1 (ck_S1 p2_s1373_s ck_S0) (ck_E1 (ck_S1 p2_s190_s ck_S0) (ck_E1 (ck_S1 p2_s166_s ck_S0) (ck_E1 (ck_S1 p2_s1575_s (ck_S1 p2_s1576_s (ck_S1 p2_s1577_s (ck_S1 p2_s1578_s (ck_S1 p2_s1579_s (ck_S1 p2_s1580_s ck_S0)))))) ck_E0)))⟩ ck_X0 ck_l0 (by decide +kernel)
set_option maxRecDepth 100000 in
/-- GlacierMailModel.thieves -/
def p2_s1582 : ck_Sum := ((10, 0, 0), 245, [.inr (.inr (.inl 226)), .inl (0, 30, []), .inl (0, 1, [])], ([], [], zl84), ([(226, 0, 0), (226, 17, 23), (226, 26, 26), (226, 29, 30), (233, 0, 399), (235, 0, 29699), (236, 0, 299), (237, 0, 299), (238, 0, 23), (243, 0, 5), (244, 0, 5)], []), [(.inr (some (.inl (0, 5, []))), 245, ([], [], [(226, 0, 0, (0, 1, []))])), (.inr (some (.inl ((-2147483648), 2147483647, []))), 245, ([], [], [(226, 0, 0, ck_one 0)]))])
set_option maxRecDepth 100000 in
theorem p2_s1582_s {X : Int → Int} {LX : Nat} : ck_Ok p2_O X LX 357 p2_s1582 := ck_ok_s (O := p2_O) (X := X) (LX := LX) (E := [(286, [p2_s1574]), (282, [p2_s241, p2_s242]), (358, [p2_s1581]), (261, [p2_s166])]) (mi := 357) (cuts := [(40, [some (.inr (.inr (.inl 226))), some (.inl (0, 30, [])), some (.inl (0, 1, [])), some (.inl (0, 5, [])), some (.inl (1, 6, []))], ([], [], [(226, 0, 0, ck_one 0), (227, 2, 2, (0, 8, [(20, 0)])), (227, 4, 4, (0, 24, [(22, 0)])), (227, 5, 5, (0, 8, [(23, 0)])), (227, 9, 9, (0, 299, [(11, 0)]))]), 100, .inl 4, true)]) (f := 174) (S := p2_s1582) (lx := none) (XF := []) ⟨p2_nmu, ck_E1 (ck_S1 p2_s1574_s ck_S0) (ck_E1 (ck_S1 p2_s241_s (ck_S1 p2_s242_s ck_S0)) (ck_E1 (ck_S1 p2_s1581_s ck_S0) (ck_E1 (ck_S1 p2_s166_s ck_S0) ck_E0)))⟩ ck_X0 ck_l0 (by decide +kernel)
set_option maxRecDepth 100000 in
/-- GlacierMail.watchman -/
def p2_s1583 : ck_Sum := ((7, 1, 6), 245, [.inr (.inr (.inl 1)), .inl ((-2147483648), (-1), []), .inl (0, 1, [])], ([], [], []), ([], []), [(.inl 0, 245, ([], [], []))])
set_option maxRecDepth 100000 in
theorem p2_s1583_s {X : Int → Int} {LX : Nat} : ck_Ok p2_O X LX 218 p2_s1583 := ck_ok_s (O := p2_O) (X := X) (LX := LX) (E := [(214, [p2_s1554])]) (mi := 218) (cuts := []) (f := 76) (S := p2_s1583) (lx := none) (XF := []) ⟨p2_nmu, ck_E1 (ck_S1 p2_s1554_s ck_S0) ck_E0⟩ ck_X0 ck_l0 (by decide +kernel)
set_option maxRecDepth 100000 in
/-- GlacierMail.watchman -/
def p2_s1584 : ck_Sum := ((7, 1, 6), 245, [.inr (.inr (.inl 1)), .inl (31, 2147483647, []), .inl (0, 1, [])], ([], [], []), ([], []), [(.inl 0, 245, ([], [], []))])
set_option maxRecDepth 100000 in
theorem p2_s1584_s {X : Int → Int} {LX : Nat} : ck_Ok p2_O X LX 218 p2_s1584 := ck_ok_s (O := p2_O) (X := X) (LX := LX) (E := [(214, [p2_s1556])]) (mi := 218) (cuts := []) (f := 76) (S := p2_s1584) (lx := none) (XF := []) ⟨p2_nmu, ck_E1 (ck_S1 p2_s1556_s ck_S0) ck_E0⟩ ck_X0 ck_l0 (by decide +kernel)
set_option maxRecDepth 100000 in
/-- GlacierMail.mostBeside -/
def p2_s1585 : ck_Sum := ((1, 0, 0), 245, [.inr (.inr (.inl 1)), .inl (0, 5, []), .inl (0, 30, [])], ([], [], []), ([], []), [(.inr (some (.inl (0, 2147483647, []))), 245, ([], [], []))])
set_option maxRecDepth 100000 in
theorem p2_s1585_s {X : Int → Int} {LX : Nat} : ck_Ok p2_O X LX 219 p2_s1585 := ck_ok_s (O := p2_O) (X := X) (LX := LX) (E := [(10, [p2_s1561])]) (mi := 219) (cuts := [(5, [some (.inr (.inr (.inl 1))), some (.inl (0, 5, [])), some (.inl (0, 30, [])), some (.inl (0, 2147483647, [])), some (.inl (0, 6, [])), none, none], ([], [], []), 100, .inl 4, true), (23, [some (.inr (.inr (.inl 1))), some (.inl (0, 5, [])), some (.inl (0, 30, [])), some (.inl (0, 2147483647, [])), some (.inl (0, 5, [(100, 0)])), some (.inl ((-2147483648), 2147483647, [])), some (.inl (0, 30, []))], ([], [], []), 300, .inl 6, true)]) (f := 194) (S := p2_s1585) (lx := none) (XF := []) ⟨p2_nmu, ck_E1 (ck_S1 p2_s1561_s ck_S0) ck_E0⟩ ck_X0 ck_l0 (by decide +kernel)
set_option maxRecDepth 100000 in
/-- GlacierMail.mostBeside -/
def p2_s1586 : ck_Sum := ((1, 0, 0), 245, [.inr (.inr (.inl 1)), .inl (1, 5, []), .inl (0, 30, [])], ([], [], []), ([], []), [(.inr (some (.inl (0, 2147483647, []))), 245, ([], [], []))])
set_option maxRecDepth 100000 in
theorem p2_s1586_s {X : Int → Int} {LX : Nat} : ck_Ok p2_O X LX 219 p2_s1586 := ck_ok_s (O := p2_O) (X := X) (LX := LX) (E := [(10, [p2_s1561])]) (mi := 219) (cuts := [(5, [some (.inr (.inr (.inl 1))), some (.inl (1, 5, [])), some (.inl (0, 30, [])), some (.inl (0, 2147483647, [])), some (.inl (0, 6, [])), none, none], ([], [], []), 100, .inl 4, true), (23, [some (.inr (.inr (.inl 1))), some (.inl (1, 5, [])), some (.inl (0, 30, [])), some (.inl (0, 2147483647, [])), some (.inl (0, 5, [(100, 0)])), some (.inl ((-2147483648), 2147483647, [])), some (.inl (0, 30, []))], ([], [], []), 300, .inl 6, true)]) (f := 194) (S := p2_s1586) (lx := none) (XF := []) ⟨p2_nmu, ck_E1 (ck_S1 p2_s1561_s ck_S0) ck_E0⟩ ck_X0 ck_l0 (by decide +kernel)
set_option maxRecDepth 100000 in
/-- GlacierMail.watchman -/
def p2_s1587 : ck_Sum := ((7, 1, 6), 245, [.inr (.inr (.inl 1)), .inl (0, 30, []), .inl (0, 1, [])], ([], [(3, 8, 0)], [(3, 6, 6, (0, 299, [(10, 0)]))]), ([(1, 15, 15), (206, 2, 8), (220, 3, 3), (221, 0, 47), (222, 3, 3), (223, 0, 179)], []), [(.inl 0, 245, ([], [], [])), (.inr (some (.inl (0, 2147483647, []))), 245, ([], [], [(1, 15, 15, ck_one 1)]))])
set_option maxRecDepth 100000 in
theorem p2_s1587_s {X : Int → Int} {LX : Nat} : ck_Ok p2_O X LX 218 p2_s1587 := ck_ok_s (O := p2_O) (X := X) (LX := LX) (E := [(214, [p2_s1558]), (24, [p2_s349]), (215, [p2_s1563]), (219, [p2_s1585, p2_s1586])]) (mi := 218) (cuts := [(19, [some (.inr (.inr (.inl 1))), some (.inl (0, 30, [])), some (.inl (0, 1, [])), some (.inl (0, 5, [])), some (.inl (1, 6, []))], ([], [(3, 8, 0)], [(1, 15, 15, ck_one 1), (3, 6, 6, (0, 299, [(10, 0)]))]), 100, .inl 4, true)]) (f := 166) (S := p2_s1587) (lx := none) (XF := []) ⟨p2_nmu, ck_E1 (ck_S1 p2_s1558_s ck_S0) (ck_E1 (ck_S1 p2_s349_s ck_S0) (ck_E1 (ck_S1 p2_s1563_s ck_S0) (ck_E1 (ck_S1 p2_s1585_s (ck_S1 p2_s1586_s ck_S0)) ck_E0)))⟩ ck_X0 ck_l0 (by decide +kernel)
set_option maxRecDepth 100000 in
/-- GlacierMailModel.watchman -/
def p2_s1588 : ck_Sum := ((1, 0, 0), 245, [.inr (.inr (.inl 226)), .inl ((-2147483648), (-1), []), .inl (0, 1, [])], ([], [], []), ([(226, 0, 0)], []), [(.inr (some (.inl (ck_one 0))), 245, ([], [], [(226, 0, 0, ck_one 1)]))])
set_option maxRecDepth 100000 in
theorem p2_s1588_s {X : Int → Int} {LX : Nat} : ck_Ok p2_O X LX 359 p2_s1588 := ck_ok_s (O := p2_O) (X := X) (LX := LX) (E := [(286, [p2_s1570]), (282, [p2_s241])]) (mi := 359) (cuts := []) (f := 102) (S := p2_s1588) (lx := none) (XF := []) ⟨p2_nmu, ck_E1 (ck_S1 p2_s1570_s ck_S0) (ck_E1 (ck_S1 p2_s241_s ck_S0) ck_E0)⟩ ck_X0 ck_l0 (by decide +kernel)
set_option maxRecDepth 100000 in
/-- GlacierMailModel.watchman -/
def p2_s1589 : ck_Sum := ((1, 0, 0), 245, [.inr (.inr (.inl 226)), .inl (31, 2147483647, []), .inl (0, 1, [])], ([], [], []), ([(226, 0, 0)], []), [(.inr (some (.inl (ck_one 0))), 245, ([], [], [(226, 0, 0, ck_one 1)]))])
set_option maxRecDepth 100000 in
theorem p2_s1589_s {X : Int → Int} {LX : Nat} : ck_Ok p2_O X LX 359 p2_s1589 := ck_ok_s (O := p2_O) (X := X) (LX := LX) (E := [(286, [p2_s1572]), (282, [p2_s241])]) (mi := 359) (cuts := []) (f := 102) (S := p2_s1589) (lx := none) (XF := []) ⟨p2_nmu, ck_E1 (ck_S1 p2_s1572_s ck_S0) (ck_E1 (ck_S1 p2_s241_s ck_S0) ck_E0)⟩ ck_X0 ck_l0 (by decide +kernel)
set_option maxRecDepth 100000 in
/-- GlacierMailModel.watchman -/
def p2_s1590 : ck_Sum := ((9, 0, 0), 245, [.inr (.inr (.inl 226)), .inl (0, 30, []), .inl (0, 1, [])], ([], [], zl84), ([(226, 0, 0), (226, 17, 23), (226, 26, 26), (226, 29, 30), (233, 0, 399), (235, 0, 29699), (236, 0, 299), (237, 0, 299), (238, 0, 23), (243, 0, 5)], []), [(.inr (some (.inl (0, 2147483647, []))), 245, ([], [], [(226, 0, 0, (0, 1, []))])), (.inr (some (.inl ((-1), 5, []))), 245, ([], [], [(226, 0, 0, ck_one 0)]))])
set_option maxRecDepth 100000 in
theorem p2_s1590_s {X : Int → Int} {LX : Nat} : ck_Ok p2_O X LX 359 p2_s1590 := ck_ok_s (O := p2_O) (X := X) (LX := LX) (E := [(286, [p2_s1574]), (282, [p2_s241, p2_s242]), (332, [p2_s1373]), (261, [p2_s166]), (266, [p2_s190]), (333, [p2_s1575])]) (mi := 359) (cuts := [(36, [some (.inr (.inr (.inl 226))), some (.inl (0, 30, [])), some (.inl (0, 1, [])), some (.inl (0, 6, [])), none, none, none, none], ([], [], [(226, 0, 0, ck_one 0), (227, 2, 2, (0, 8, [(20, 0)])), (227, 4, 4, (0, 24, [(22, 0)])), (227, 5, 5, (0, 8, [(23, 0)])), (227, 9, 9, (0, 299, [(11, 0)]))]), 100, .inl 3, true), (105, [some (.inr (.inr (.inl 226))), some (.inl (0, 30, [])), some (.inl (0, 1, [])), some (.inl ((-1), 5, [])), some (.inl (0, 2147483647, [])), some (.inl (0, 6, [])), none, none], ([], [], [(226, 0, 0, ck_one 0), (227, 2, 2, (0, 8, [(20, 0)])), (227, 4, 4, (0, 24, [(22, 0)])), (227, 5, 5, (0, 8, [(23, 0)])), (227, 9, 9, (0, 299, [(11, 0)]))]), 300, .inl 5, true), (57, [some (.inr (.inr (.inl 226))), some (.inl (0, 30, [])), some (.inl (0, 1, [])), some (.inl (0, 5, [(100, 0)])), some (.inl (0, 399, [(1000011, 0)])), none, none, none], ([], [], [(226, 0, 0, ck_one 0), (227, 2, 2, (0, 8, [(20, 0)])), (227, 4, 4, (0, 24, [(22, 0)])), (227, 5, 5, (0, 8, [(23, 0)])), (227, 9, 9, (0, 299, [(11, 0)]))]), 500, .inl 4, true), (120, [some (.inr (.inr (.inl 226))), some (.inl (0, 30, [])), some (.inl (0, 1, [])), some (.inl ((-1), 5, [])), some (.inl (0, 2147483647, [])), some (.inl (0, 5, [(300, 0)])), some (.inl (0, 2147483647, [])), some (.inl (0, 6, []))], ([], [], [(226, 0, 0, ck_one 0), (227, 2, 2, (0, 8, [(20, 0)])), (227, 4, 4, (0, 24, [(22, 0)])), (227, 5, 5, (0, 8, [(23, 0)])), (227, 9, 9, (0, 299, [(11, 0)]))]), 700, .inl 7, true)]) (f := 360) (S := p2_s1590) (lx := none) (XF := []) ⟨p2_nmu, ck_E1 (ck_S1 p2_s1574_s ck_S0) (ck_E1 (ck_S1 p2_s241_s (ck_S1 p2_s242_s ck_S0)) (ck_E1 (ck_S1 p2_s1373_s ck_S0) (ck_E1 (ck_S1 p2_s166_s ck_S0) (ck_E1 (ck_S1 p2_s190_s ck_S0) (ck_E1 (ck_S1 p2_s1575_s ck_S0) ck_E0)))))⟩ ck_X0 ck_l0 (by decide +kernel)
set_option maxRecDepth 100000 in
/-- GlacierMail.meeting -/
def p2_s1591 : ck_Sum := ((8, 1, 6), 245, [.inr (.inr (.inl 1)), .inl ((-2147483648), (-1), []), .inl ((-2147483648), 2147483647, [])], ([], [], []), ([], []), [(.inl 3, 245, ([], [], []))])
set_option maxRecDepth 100000 in
theorem p2_s1591_s {X : Int → Int} {LX : Nat} : ck_Ok p2_O X LX 221 p2_s1591 := ck_ok_s (O := p2_O) (X := X) (LX := LX) (E := [(143, [p2_s387])]) (mi := 221) (cuts := []) (f := 76) (S := p2_s1591) (lx := none) (XF := []) ⟨p2_nmu, ck_E1 (ck_S1 p2_s387_s ck_S0) ck_E0⟩ ck_X0 ck_l0 (by decide +kernel)
set_option maxRecDepth 100000 in
/-- GlacierMail.meeting -/
def p2_s1592 : ck_Sum := ((8, 1, 6), 245, [.inr (.inr (.inl 1)), .inl (24, 2147483647, []), .inl ((-2147483648), 2147483647, [])], ([], [], []), ([], []), [(.inl 3, 245, ([], [], []))])
set_option maxRecDepth 100000 in
theorem p2_s1592_s {X : Int → Int} {LX : Nat} : ck_Ok p2_O X LX 221 p2_s1592 := ck_ok_s (O := p2_O) (X := X) (LX := LX) (E := [(143, [p2_s390])]) (mi := 221) (cuts := []) (f := 76) (S := p2_s1592) (lx := none) (XF := []) ⟨p2_nmu, ck_E1 (ck_S1 p2_s390_s ck_S0) ck_E0⟩ ck_X0 ck_l0 (by decide +kernel)
set_option maxRecDepth 100000 in
/-- GlacierMail.meeting -/
def p2_s1593 : ck_Sum := ((8, 2, 12), 245, [.inr (.inr (.inl 1)), .inl (0, 23, []), .inl ((-2147483648), (-1), [])], ([], [], []), ([], []), [(.inl 3, 245, ([], [], []))])
set_option maxRecDepth 100000 in
theorem p2_s1593_s {X : Int → Int} {LX : Nat} : ck_Ok p2_O X LX 221 p2_s1593 := ck_ok_s (O := p2_O) (X := X) (LX := LX) (E := [(143, [p2_s393, p2_s387])]) (mi := 221) (cuts := []) (f := 82) (S := p2_s1593) (lx := none) (XF := []) ⟨p2_nmu, ck_E1 (ck_S1 p2_s393_s (ck_S1 p2_s387_s ck_S0)) ck_E0⟩ ck_X0 ck_l0 (by decide +kernel)
set_option maxRecDepth 100000 in
/-- GlacierMail.meeting -/
def p2_s1594 : ck_Sum := ((8, 2, 12), 245, [.inr (.inr (.inl 1)), .inl (0, 23, []), .inl (24, 2147483647, [])], ([], [], []), ([], []), [(.inl 3, 245, ([], [], []))])
set_option maxRecDepth 100000 in
theorem p2_s1594_s {X : Int → Int} {LX : Nat} : ck_Ok p2_O X LX 221 p2_s1594 := ck_ok_s (O := p2_O) (X := X) (LX := LX) (E := [(143, [p2_s393, p2_s390])]) (mi := 221) (cuts := []) (f := 82) (S := p2_s1594) (lx := none) (XF := []) ⟨p2_nmu, ck_E1 (ck_S1 p2_s393_s (ck_S1 p2_s390_s ck_S0)) ck_E0⟩ ck_X0 ck_l0 (by decide +kernel)
set_option maxRecDepth 100000 in
/-- GlacierMail.needUnlike -/
def p2_s1595 : ck_Sum := ((6, 1, 6), 245, [.inr (.inr (.inl 1)), .inl (0, 23, []), .inl (0, 23, [])], ([], [], []), ([], []), [(.inr none, 245, ([], [], [])), (.inl 0, 245, ([], [], []))])
set_option maxRecDepth 100000 in
theorem p2_s1595_s {X : Int → Int} {LX : Nat} : ck_Ok p2_O X LX 153 p2_s1595 := ck_ok_s (O := p2_O) (X := X) (LX := LX) (E := []) (mi := 153) (cuts := []) (f := 78) (S := p2_s1595) (lx := none) (XF := []) ⟨p2_nmu, ck_E0⟩ ck_X0 ck_l0 (by decide +kernel)
set_option maxRecDepth 100000 in
/-- GlacierMail.startBoth -/
def p2_s1596 : ck_Sum := ((4, 0, 0), 245, [.inr (.inr (.inl 1)), .inl (0, 23, []), .inl (0, 23, []), .inl (0, 299, [])], ([], [(3, 8, 0)], []), ([(206, 2, 8), (207, 2, 8)], []), [(.inr (some (.inl (0, 299, []))), 245, ([], [], zl86))])
set_option maxRecDepth 100000 in
theorem p2_s1596_s {X : Int → Int} {LX : Nat} : ck_Ok p2_O X LX 182 p2_s1596 := ck_ok_s (O := p2_O) (X := X) (LX := LX) (E := [(27, [p2_s339, p2_s1381]), (148, [p2_s421, p2_s1386])]) (mi := 182) (cuts := []) (f := 126) (S := p2_s1596) (lx := none) (XF := []) ⟨p2_nmu, ck_E1 (ck_S1 p2_s339_s (ck_S1 p2_s1381_s ck_S0)) (ck_E1 (ck_S1 p2_s421_s (ck_S1 p2_s1386_s ck_S0)) ck_E0)⟩ ck_X0 ck_l0 (by decide +kernel)
set_option maxRecDepth 100000 in
/-- GlacierMail.meeting -/
def p2_s1597 : ck_Sum := ((8, 3, 18), 245, [.inr (.inr (.inl 1)), .inl (0, 23, []), .inl (0, 23, [])], ([], [(3, 8, 0)], [(3, 6, 6, (0, 299, [(10, 0)]))]), ([(206, 2, 8), (207, 2, 8)], []), [(.inl 3, 245, ([], [], [])), (.inl 0, 245, ([], [], [])), (.inr (some (.inl (ck_one (-1)))), 245, ([], [], [])), (.inr (some (.inl (0, 299, []))), 245, ([], [], zl207))])
set_option maxRecDepth 100000 in
theorem p2_s1597_s {X : Int → Int} {LX : Nat} : ck_Ok p2_O X LX 221 p2_s1597 := ck_ok_s (O := p2_O) (X := X) (LX := LX) (E := [(143, [p2_s393]), (153, [p2_s1595]), (180, [p2_s1378]), (182, [p2_s1596]), (183, [p2_s1388]), (184, [p2_s1389])]) (mi := 221) (cuts := [(44, [some (.inr (.inr (.inl 1))), some (.inl (0, 23, [])), some (.inl (0, 23, [])), some (.inl (0, 299, [])), some (.inl (0, 300, []))], ([], [(3, 8, 0)], [(206, 4, 4, ck_one (-1)), (206, 2, 2, ((-1), 299, [])), (3, 6, 6, (0, 299, [(10, 0)]))]), 100, .inl 4, true)]) (f := 194) (S := p2_s1597) (lx := none) (XF := []) ⟨p2_nmu, ck_E1 (ck_S1 p2_s393_s ck_S0) (ck_E1 (ck_S1 p2_s1595_s ck_S0) (ck_E1 (ck_S1 p2_s1378_s ck_S0) (ck_E1 (ck_S1 p2_s1596_s ck_S0) (ck_E1 (ck_S1 p2_s1388_s ck_S0) (ck_E1 (ck_S1 p2_s1389_s ck_S0) ck_E0)))))⟩ ck_X0 ck_l0 (by decide +kernel)
set_option maxRecDepth 100000 in
/-- GlacierMailModel.meeting -/
def p2_s1598 : ck_Sum := ((2, 0, 0), 245, [.inr (.inr (.inl 226)), .inl ((-2147483648), (-1), []), .inl ((-2147483648), 2147483647, [])], ([], [], [(227, 4, 4, (0, 24, [(22, 0)]))]), ([(226, 0, 0)], []), [(.inr (some (.inl (ck_one 0))), 245, ([], [], [(226, 0, 0, ck_one 1)]))])
set_option maxRecDepth 100000 in
theorem p2_s1598_s {X : Int → Int} {LX : Nat} : ck_Ok p2_O X LX 360 p2_s1598 := ck_ok_s (O := p2_O) (X := X) (LX := LX) (E := [(309, [p2_s400]), (282, [p2_s241])]) (mi := 360) (cuts := []) (f := 100) (S := p2_s1598) (lx := none) (XF := []) ⟨p2_nmu, ck_E1 (ck_S1 p2_s400_s ck_S0) (ck_E1 (ck_S1 p2_s241_s ck_S0) ck_E0)⟩ ck_X0 ck_l0 (by decide +kernel)
set_option maxRecDepth 100000 in
/-- GlacierMailModel.meeting -/
def p2_s1599 : ck_Sum := ((2, 0, 0), 245, [.inr (.inr (.inl 226)), .inl (24, 2147483647, []), .inl ((-2147483648), 2147483647, [])], ([], [], [(227, 4, 4, (0, 24, [(22, 0)]))]), ([(226, 0, 0)], []), [(.inr (some (.inl (ck_one 0))), 245, ([], [], [(226, 0, 0, ck_one 1)]))])
set_option maxRecDepth 100000 in
theorem p2_s1599_s {X : Int → Int} {LX : Nat} : ck_Ok p2_O X LX 360 p2_s1599 := ck_ok_s (O := p2_O) (X := X) (LX := LX) (E := [(309, [p2_s403]), (282, [p2_s241])]) (mi := 360) (cuts := []) (f := 100) (S := p2_s1599) (lx := none) (XF := []) ⟨p2_nmu, ck_E1 (ck_S1 p2_s403_s ck_S0) (ck_E1 (ck_S1 p2_s241_s ck_S0) ck_E0)⟩ ck_X0 ck_l0 (by decide +kernel)
set_option maxRecDepth 100000 in
/-- GlacierMailModel.meeting -/
def p2_s1600 : ck_Sum := ((2, 0, 0), 245, [.inr (.inr (.inl 226)), .inl (0, 23, []), .inl ((-2147483648), (-1), [])], ([], [], [(227, 4, 4, (0, 24, [(22, 0)]))]), ([(226, 0, 0)], []), [(.inr (some (.inl (ck_one 0))), 245, ([], [], [(226, 0, 0, ck_one 1)]))])
set_option maxRecDepth 100000 in
theorem p2_s1600_s {X : Int → Int} {LX : Nat} : ck_Ok p2_O X LX 360 p2_s1600 := ck_ok_s (O := p2_O) (X := X) (LX := LX) (E := [(309, [p2_s406, p2_s400]), (282, [p2_s241])]) (mi := 360) (cuts := []) (f := 108) (S := p2_s1600) (lx := none) (XF := []) ⟨p2_nmu, ck_E1 (ck_S1 p2_s406_s (ck_S1 p2_s400_s ck_S0)) (ck_E1 (ck_S1 p2_s241_s ck_S0) ck_E0)⟩ ck_X0 ck_l0 (by decide +kernel)
set_option maxRecDepth 100000 in
/-- GlacierMailModel.meeting -/
def p2_s1601 : ck_Sum := ((2, 0, 0), 245, [.inr (.inr (.inl 226)), .inl (0, 23, []), .inl (24, 2147483647, [])], ([], [], [(227, 4, 4, (0, 24, [(22, 0)]))]), ([(226, 0, 0)], []), [(.inr (some (.inl (ck_one 0))), 245, ([], [], [(226, 0, 0, ck_one 1)]))])
set_option maxRecDepth 100000 in
theorem p2_s1601_s {X : Int → Int} {LX : Nat} : ck_Ok p2_O X LX 360 p2_s1601 := ck_ok_s (O := p2_O) (X := X) (LX := LX) (E := [(309, [p2_s406, p2_s403]), (282, [p2_s241])]) (mi := 360) (cuts := []) (f := 108) (S := p2_s1601) (lx := none) (XF := []) ⟨p2_nmu, ck_E1 (ck_S1 p2_s406_s (ck_S1 p2_s403_s ck_S0)) (ck_E1 (ck_S1 p2_s241_s ck_S0) ck_E0)⟩ ck_X0 ck_l0 (by decide +kernel)
set_option maxRecDepth 100000 in
/-- GlacierMailModel.meeting -/
def p2_s1602 : ck_Sum := ((7, 0, 0), 245, [.inr (.inr (.inl 226)), .inl (0, 23, []), .inl (0, 23, [])], ([], [], zl84), (zl195, []), [(.inr (some (.inl (0, 299, []))), 245, ([], [], [(226, 0, 0, (0, 2, []))])), (.inr (some (.inl (ck_one (-1)))), 245, ([], [], [(226, 0, 0, ck_one 0)]))])
set_option maxRecDepth 100000 in
theorem p2_s1602_s {X : Int → Int} {LX : Nat} : ck_Ok p2_O X LX 360 p2_s1602 := ck_ok_s (O := p2_O) (X := X) (LX := LX) (E := [(309, [p2_s406]), (282, [p2_s241, p2_s242, p2_s243, p2_s244]), (301, [p2_s375]), (305, [p2_s380]), (335, [p2_s1394]), (266, [p2_s190]), (312, [p2_s412]), (337, [p2_s1395])]) (mi := 360) (cuts := [(92, [some (.inr (.inr (.inl 226))), some (.inl (0, 23, [])), some (.inl (0, 23, [])), some (.inl (0, 300, [(1000011, 0)]))], ([], [], [(226, 0, 0, ck_one 0), (227, 2, 2, (0, 8, [(20, 0)])), (227, 4, 4, (0, 24, [(22, 0)])), (227, 5, 5, (0, 8, [(23, 0)])), (227, 9, 9, (0, 299, [(11, 0)]))]), 100, .inl 3, true)]) (f := 278) (S := p2_s1602) (lx := none) (XF := []) ⟨p2_nmu, ck_E1 (ck_S1 p2_s406_s ck_S0) (ck_E1 (ck_S1 p2_s241_s (ck_S1 p2_s242_s (ck_S1 p2_s243_s (ck_S1 p2_s244_s ck_S0)))) (ck_E1 (ck_S1 p2_s375_s ck_S0) (ck_E1 (ck_S1 p2_s380_s ck_S0) (ck_E1 (ck_S1 p2_s1394_s ck_S0) (ck_E1 (ck_S1 p2_s190_s ck_S0) (ck_E1 (ck_S1 p2_s412_s ck_S0) (ck_E1 (ck_S1 p2_s1395_s ck_S0) ck_E0)))))))⟩ ck_X0 ck_l0 (by decide +kernel)
set_option maxRecDepth 100000 in
/-- GlacierMail.outs -/
def p2_s1603 : ck_Sum := ((7, 1, 6), 245, [.inr (.inr (.inl 1)), .inl ((-2147483648), (-1), [])], ([], [], []), ([], []), [(.inl 0, 245, ([], [], []))])
set_option maxRecDepth 100000 in
theorem p2_s1603_s {X : Int → Int} {LX : Nat} : ck_Ok p2_O X LX 223 p2_s1603 := ck_ok_s (O := p2_O) (X := X) (LX := LX) (E := [(129, [p2_s249])]) (mi := 223) (cuts := []) (f := 76) (S := p2_s1603) (lx := none) (XF := []) ⟨p2_nmu, ck_E1 (ck_S1 p2_s249_s ck_S0) ck_E0⟩ ck_X0 ck_l0 (by decide +kernel)
set_option maxRecDepth 100000 in
/-- GlacierMail.outs -/
def p2_s1604 : ck_Sum := ((7, 1, 6), 245, [.inr (.inr (.inl 1)), .inl (300, 2147483647, [])], ([], [], []), ([], []), [(.inl 0, 245, ([], [], []))])
set_option maxRecDepth 100000 in
theorem p2_s1604_s {X : Int → Int} {LX : Nat} : ck_Ok p2_O X LX 223 p2_s1604 := ck_ok_s (O := p2_O) (X := X) (LX := LX) (E := [(129, [p2_s251])]) (mi := 223) (cuts := []) (f := 76) (S := p2_s1604) (lx := none) (XF := []) ⟨p2_nmu, ck_E1 (ck_S1 p2_s251_s ck_S0) ck_E0⟩ ck_X0 ck_l0 (by decide +kernel)
set_option maxRecDepth 100000 in
/-- GlacierMail.outIn -/
def p2_s1605 : ck_Sum := ((1, 0, 0), 245, [.inr (.inr (.inl 1)), .inl (0, 299, []), .inl (ck_one 1)], ([], [], []), ([], []), [(.inr (some (.inl ((-2147483648), 2147483647, []))), 245, ([], [], []))])
set_option maxRecDepth 100000 in
theorem p2_s1605_s {X : Int → Int} {LX : Nat} : ck_Ok p2_O X LX 47 p2_s1605 := ck_ok_s (O := p2_O) (X := X) (LX := LX) (E := [(9, [p2_s332]), (10, [p2_s350])]) (mi := 47) (cuts := [(5, [some (.inr (.inr (.inl 1))), some (.inl (0, 299, [])), some (.inl (ck_one 1)), some (.inl ((-2147483648), 2147483647, [])), some (.inl (0, 24, []))], ([], [], []), 100, .inl 4, true)]) (f := 162) (S := p2_s1605) (lx := none) (XF := []) ⟨p2_nmu, ck_E1 (ck_S1 p2_s332_s ck_S0) (ck_E1 (ck_S1 p2_s350_s ck_S0) ck_E0)⟩ ck_X0 ck_l0 (by decide +kernel)
set_option maxRecDepth 100000 in
/-- GlacierMail.outs -/
def p2_s1606 : ck_Sum := ((5, 0, 0), 245, [.inr (.inr (.inl 1)), .inl (0, 299, [])], ([], [(3, 8, 0)], []), (zl79, []), [(.inr (some (.inl ((-2147483648), 2147483647, []))), 245, ([], [], [(1, 15, 15, ck_one 1)]))])
set_option maxRecDepth 100000 in
theorem p2_s1606_s {X : Int → Int} {LX : Nat} : ck_Ok p2_O X LX 223 p2_s1606 := ck_ok_s (O := p2_O) (X := X) (LX := LX) (E := [(129, [p2_s253]), (24, [p2_s349]), (47, [p2_s1605])]) (mi := 223) (cuts := []) (f := 90) (S := p2_s1606) (lx := none) (XF := []) ⟨p2_nmu, ck_E1 (ck_S1 p2_s253_s ck_S0) (ck_E1 (ck_S1 p2_s349_s ck_S0) (ck_E1 (ck_S1 p2_s1605_s ck_S0) ck_E0))⟩ ck_X0 ck_l0 (by decide +kernel)
set_option maxRecDepth 100000 in
/-- GlacierMailModel.outs -/
def p2_s1607 : ck_Sum := ((2, 0, 0), 245, [.inr (.inr (.inl 226)), .inl ((-2147483648), (-1), [])], ([], [], []), ([(226, 0, 0)], []), [(.inr (some (.inl (ck_one 0))), 245, ([], [], [(226, 0, 0, ck_one 1)]))])
set_option maxRecDepth 100000 in
theorem p2_s1607_s {X : Int → Int} {LX : Nat} : ck_Ok p2_O X LX 361 p2_s1607 := ck_ok_s (O := p2_O) (X := X) (LX := LX) (E := [(285, [p2_s257]), (282, [p2_s241])]) (mi := 361) (cuts := []) (f := 92) (S := p2_s1607) (lx := none) (XF := []) ⟨p2_nmu, ck_E1 (ck_S1 p2_s257_s ck_S0) (ck_E1 (ck_S1 p2_s241_s ck_S0) ck_E0)⟩ ck_X0 ck_l0 (by decide +kernel)
set_option maxRecDepth 100000 in
/-- GlacierMailModel.outs -/
def p2_s1608 : ck_Sum := ((2, 0, 0), 245, [.inr (.inr (.inl 226)), .inl (300, 2147483647, [])], ([], [], []), ([(226, 0, 0)], []), [(.inr (some (.inl (ck_one 0))), 245, ([], [], [(226, 0, 0, ck_one 1)]))])
set_option maxRecDepth 100000 in
theorem p2_s1608_s {X : Int → Int} {LX : Nat} : ck_Ok p2_O X LX 361 p2_s1608 := ck_ok_s (O := p2_O) (X := X) (LX := LX) (E := [(285, [p2_s260]), (282, [p2_s241])]) (mi := 361) (cuts := []) (f := 92) (S := p2_s1608) (lx := none) (XF := []) ⟨p2_nmu, ck_E1 (ck_S1 p2_s260_s ck_S0) (ck_E1 (ck_S1 p2_s241_s ck_S0) ck_E0)⟩ ck_X0 ck_l0 (by decide +kernel)
set_option maxRecDepth 100000 in
/-- GlacierMailModel.outs -/
def p2_s1609 : ck_Sum := ((9, 0, 0), 245, [.inr (.inr (.inl 226)), .inl (0, 299, [])], ([], [], zl88), (zl189, []), [(.inr (some (.inl ((-2147483648), 2147483647, []))), 245, ([], [], [(226, 0, 0, ck_one 0)]))])
set_option maxRecDepth 100000 in
theorem p2_s1609_s {X : Int → Int} {LX : Nat} : ck_Ok p2_O X LX 361 p2_s1609 := ck_ok_s (O := p2_O) (X := X) (LX := LX) (E := [(285, [p2_s263]), (282, [p2_s242]), (332, [p2_s1373]), (333, [p2_s1374])]) (mi := 361) (cuts := []) (f := 104) (S := p2_s1609) (lx := none) (XF := []) ⟨p2_nmu, ck_E1 (ck_S1 p2_s263_s ck_S0) (ck_E1 (ck_S1 p2_s242_s ck_S0) (ck_E1 (ck_S1 p2_s1373_s ck_S0) (ck_E1 (ck_S1 p2_s1374_s ck_S0) ck_E0)))⟩ ck_X0 ck_l0 (by decide +kernel)
set_option maxRecDepth 100000 in
/-- GlacierMail.outAheadOf -/
def p2_s1610 : ck_Sum := ((1, 0, 0), 245, [.inr (.inr (.inl 1)), .inl (0, 23, [])], ([], [], []), ([], []), [(.inr (some (.inl ((-2147483648), 2147483647, []))), 245, ([], [], []))])
set_option maxRecDepth 100000 in
theorem p2_s1610_s {X : Int → Int} {LX : Nat} : ck_Ok p2_O X LX 53 p2_s1610 := ck_ok_s (O := p2_O) (X := X) (LX := LX) (E := [(10, [p2_s350]), (9, [p2_s332])]) (mi := 53) (cuts := [(15, [some (.inr (.inr (.inl 1))), some (.inl (0, 23, [])), some (.inl ((-2147483648), 299, [])), some (.inl ((-2147483648), 2147483647, [])), some (.inl (0, 24, [])), none, none], ([], [], []), 100, .inl 4, true)]) (f := 214) (S := p2_s1610) (lx := none) (XF := []) ⟨p2_nmu, ck_E1 (ck_S1 p2_s350_s ck_S0) (ck_E1 (ck_S1 p2_s332_s ck_S0) ck_E0)⟩ ck_X0 ck_l0 (by decide +kernel)
set_option maxRecDepth 100000 in
/-- GlacierMail.order -/
def p2_s1611 : ck_Sum := ((5, 0, 0), 245, [.inr (.inr (.inl 1)), .inl ((-2147483648), 2147483647, [])], ([], [(3, 8, 0)], []), (zl79, []), [(.inr (some (.inl (ck_one (-1)))), 245, ([], [], [(1, 15, 15, ck_one 1)])), (.inr (some (.inl (0, 23, []))), 245, ([], [], [(1, 15, 15, ck_one 1)]))])
set_option maxRecDepth 100000 in
theorem p2_s1611_s {X : Int → Int} {LX : Nat} : ck_Ok p2_O X LX 52 p2_s1611 := ck_ok_s (O := p2_O) (X := X) (LX := LX) (E := [(24, [p2_s349]), (9, [p2_s332]), (10, [p2_s350]), (53, [p2_s1610])]) (mi := 52) (cuts := [(6, [some (.inr (.inr (.inl 1))), some (.inl ((-2147483648), 2147483647, [])), some (.inl (0, 24, []))], ([], [(3, 8, 0)], [(1, 15, 15, ck_one 1)]), 100, .inl 2, true)]) (f := 170) (S := p2_s1611) (lx := none) (XF := []) ⟨p2_nmu, ck_E1 (ck_S1 p2_s349_s ck_S0) (ck_E1 (ck_S1 p2_s332_s ck_S0) (ck_E1 (ck_S1 p2_s350_s ck_S0) (ck_E1 (ck_S1 p2_s1610_s ck_S0) ck_E0)))⟩ ck_X0 ck_l0 (by decide +kernel)
set_option maxRecDepth 100000 in
/-- GlacierMailModel.order -/
def p2_s1612 : ck_Sum := ((9, 0, 0), 245, [.inr (.inr (.inl 226)), .inl ((-2147483648), 2147483647, [])], ([], [], zl88), (zl189, []), [(.inr (some (.inl (ck_one (-1)))), 245, ([], [], [(226, 0, 0, ck_one 0)])), (.inr (some (.inl (0, 23, []))), 245, ([], [], [(226, 0, 0, ck_one 0), (227, 4, 4, (1, 24, [(22, 0)]))]))])
set_option maxRecDepth 100000 in
theorem p2_s1612_s {X : Int → Int} {LX : Nat} : ck_Ok p2_O X LX 362 p2_s1612 := ck_ok_s (O := p2_O) (X := X) (LX := LX) (E := [(332, [p2_s1373]), (254, [p2_s176])]) (mi := 362) (cuts := [(13, [some (.inr (.inr (.inl 226))), some (.inl ((-2147483648), 2147483647, [])), some (.inl ((-2147483648), 2147483647, [])), some (.inl (0, 300, [])), none], ([], [], [(226, 0, 0, ck_one 0), (227, 2, 2, (0, 8, [(20, 0)])), (227, 4, 4, (0, 24, [(22, 0)])), (227, 5, 5, (0, 8, [(23, 0)]))]), 100, .inl 3, true), (27, [some (.inr (.inr (.inl 226))), some (.inl (0, 2147483647, [])), some (.inl ((-2147483648), 2147483647, [])), some (.inl (0, 299, [(100, 0)])), some (.inl (0, 24, []))], ([], [], [(226, 0, 0, ck_one 0), (227, 2, 2, (0, 8, [(20, 0)])), (227, 4, 4, (0, 24, [(22, 0)])), (227, 5, 5, (0, 8, [(23, 0)]))]), 300, .inl 4, true)]) (f := 206) (S := p2_s1612) (lx := none) (XF := []) ⟨p2_nmu, ck_E1 (ck_S1 p2_s1373_s ck_S0) (ck_E1 (ck_S1 p2_s176_s ck_S0) ck_E0)⟩ ck_X0 ck_l0 (by decide +kernel)
set_option maxRecDepth 100000 in
/-- GlacierMail.streams -/
def p2_s1613 : ck_Sum := ((7, 1, 6), 245, [.inr (.inr (.inl 1)), .inl ((-2147483648), (-1), []), .inl (0, 1, [])], ([], [], []), ([], []), [(.inl 0, 245, ([], [], []))])
set_option maxRecDepth 100000 in
theorem p2_s1613_s {X : Int → Int} {LX : Nat} : ck_Ok p2_O X LX 225 p2_s1613 := ck_ok_s (O := p2_O) (X := X) (LX := LX) (E := [(129, [p2_s249])]) (mi := 225) (cuts := []) (f := 76) (S := p2_s1613) (lx := none) (XF := []) ⟨p2_nmu, ck_E1 (ck_S1 p2_s249_s ck_S0) ck_E0⟩ ck_X0 ck_l0 (by decide +kernel)
set_option maxRecDepth 100000 in
/-- GlacierMail.streams -/
def p2_s1614 : ck_Sum := ((7, 1, 6), 245, [.inr (.inr (.inl 1)), .inl (300, 2147483647, []), .inl (0, 1, [])], ([], [], []), ([], []), [(.inl 0, 245, ([], [], []))])
set_option maxRecDepth 100000 in
theorem p2_s1614_s {X : Int → Int} {LX : Nat} : ck_Ok p2_O X LX 225 p2_s1614 := ck_ok_s (O := p2_O) (X := X) (LX := LX) (E := [(129, [p2_s251])]) (mi := 225) (cuts := []) (f := 76) (S := p2_s1614) (lx := none) (XF := []) ⟨p2_nmu, ck_E1 (ck_S1 p2_s251_s ck_S0) ck_E0⟩ ck_X0 ck_l0 (by decide +kernel)
set_option maxRecDepth 100000 in
/-- GlacierMail.streams -/
def p2_s1615 : ck_Sum := ((5, 0, 0), 245, [.inr (.inr (.inl 1)), .inl (0, 299, []), .inl (0, 1, [])], ([], [(3, 8, 0)], []), (zl79, []), [(.inr (some (.inl ((-2147483648), 2147483647, []))), 245, ([], [], [(1, 15, 15, ck_one 1)]))])
set_option maxRecDepth 100000 in
theorem p2_s1615_s {X : Int → Int} {LX : Nat} : ck_Ok p2_O X LX 225 p2_s1615 := ck_ok_s (O := p2_O) (X := X) (LX := LX) (E := [(129, [p2_s253]), (24, [p2_s349]), (9, [p2_s332]), (10, [p2_s335, p2_s350]), (67, [p2_s351])]) (mi := 225) (cuts := [(14, [some (.inr (.inr (.inl 1))), some (.inl (0, 299, [])), some (.inl (0, 1, [])), some (.inl ((-2147483648), 2147483647, [])), some (.inl (0, 24, [])), none], ([], [(3, 8, 0)], [(1, 15, 15, ck_one 1)]), 100, .inl 4, true)]) (f := 226) (S := p2_s1615) (lx := none) (XF := []) ⟨p2_nmu, ck_E1 (ck_S1 p2_s253_s ck_S0) (ck_E1 (ck_S1 p2_s349_s ck_S0) (ck_E1 (ck_S1 p2_s332_s ck_S0) (ck_E1 (ck_S1 p2_s335_s (ck_S1 p2_s350_s ck_S0)) (ck_E1 (ck_S1 p2_s351_s ck_S0) ck_E0))))⟩ ck_X0 ck_l0 (by decide +kernel)
set_option maxRecDepth 100000 in
/-- GlacierMailModel.streams -/
def p2_s1616 : ck_Sum := ((2, 0, 0), 245, [.inr (.inr (.inl 226)), .inl ((-2147483648), (-1), []), .inl (0, 1, [])], ([], [], []), ([(226, 0, 0)], []), [(.inr (some (.inl (ck_one 0))), 245, ([], [], [(226, 0, 0, ck_one 1)]))])
set_option maxRecDepth 100000 in
theorem p2_s1616_s {X : Int → Int} {LX : Nat} : ck_Ok p2_O X LX 363 p2_s1616 := ck_ok_s (O := p2_O) (X := X) (LX := LX) (E := [(285, [p2_s257]), (282, [p2_s241])]) (mi := 363) (cuts := []) (f := 92) (S := p2_s1616) (lx := none) (XF := []) ⟨p2_nmu, ck_E1 (ck_S1 p2_s257_s ck_S0) (ck_E1 (ck_S1 p2_s241_s ck_S0) ck_E0)⟩ ck_X0 ck_l0 (by decide +kernel)
set_option maxRecDepth 100000 in
/-- GlacierMailModel.streams -/
def p2_s1617 : ck_Sum := ((2, 0, 0), 245, [.inr (.inr (.inl 226)), .inl (300, 2147483647, []), .inl (0, 1, [])], ([], [], []), ([(226, 0, 0)], []), [(.inr (some (.inl (ck_one 0))), 245, ([], [], [(226, 0, 0, ck_one 1)]))])
set_option maxRecDepth 100000 in
theorem p2_s1617_s {X : Int → Int} {LX : Nat} : ck_Ok p2_O X LX 363 p2_s1617 := ck_ok_s (O := p2_O) (X := X) (LX := LX) (E := [(285, [p2_s260]), (282, [p2_s241])]) (mi := 363) (cuts := []) (f := 92) (S := p2_s1617) (lx := none) (XF := []) ⟨p2_nmu, ck_E1 (ck_S1 p2_s260_s ck_S0) (ck_E1 (ck_S1 p2_s241_s ck_S0) ck_E0)⟩ ck_X0 ck_l0 (by decide +kernel)
set_option maxRecDepth 100000 in
/-- GlacierMailModel.streams -/
def p2_s1618 : ck_Sum := ((9, 0, 0), 245, [.inr (.inr (.inl 226)), .inl (0, 299, []), .inl (0, 1, [])], ([], [], zl88), (zl189, []), [(.inr (some (.inl ((-2147483648), 2147483647, []))), 245, ([], [], [(226, 0, 0, ck_one 0)]))])
set_option maxRecDepth 100000 in
theorem p2_s1618_s {X : Int → Int} {LX : Nat} : ck_Ok p2_O X LX 363 p2_s1618 := ck_ok_s (O := p2_O) (X := X) (LX := LX) (E := [(285, [p2_s263]), (282, [p2_s242]), (332, [p2_s1373]), (254, [p2_s176]), (301, [p2_s375])]) (mi := 363) (cuts := [(28, [some (.inr (.inr (.inl 226))), some (.inl (0, 299, [])), some (.inl (0, 1, [])), some (.inl ((-2147483648), 2147483647, [])), some (.inl (0, 24, []))], ([], [], [(226, 0, 0, ck_one 0), (227, 2, 2, (0, 8, [(20, 0)])), (227, 4, 4, (0, 24, [(22, 0)])), (227, 5, 5, (0, 8, [(23, 0)]))]), 100, .inl 4, true)]) (f := 234) (S := p2_s1618) (lx := none) (XF := []) ⟨p2_nmu, ck_E1 (ck_S1 p2_s263_s ck_S0) (ck_E1 (ck_S1 p2_s242_s ck_S0) (ck_E1 (ck_S1 p2_s1373_s ck_S0) (ck_E1 (ck_S1 p2_s176_s ck_S0) (ck_E1 (ck_S1 p2_s375_s ck_S0) ck_E0))))⟩ ck_X0 ck_l0 (by decide +kernel)
set_option maxRecDepth 100000 in
/-- GlacierMail.range -/
def p2_s1619 : ck_Sum := ((8, 1, 6), 245, [.inr (.inr (.inl 1)), .inl ((-2147483648), (-1), []), .inl ((-2147483648), 2147483647, [])], ([], [], []), ([], []), [(.inl 3, 245, ([], [], []))])
set_option maxRecDepth 100000 in
theorem p2_s1619_s {X : Int → Int} {LX : Nat} : ck_Ok p2_O X LX 227 p2_s1619 := ck_ok_s (O := p2_O) (X := X) (LX := LX) (E := [(132, [p2_s266])]) (mi := 227) (cuts := []) (f := 76) (S := p2_s1619) (lx := none) (XF := []) ⟨p2_nmu, ck_E1 (ck_S1 p2_s266_s ck_S0) ck_E0⟩ ck_X0 ck_l0 (by decide +kernel)
set_option maxRecDepth 100000 in
/-- GlacierMail.range -/
def p2_s1620 : ck_Sum := ((8, 1, 6), 245, [.inr (.inr (.inl 1)), .inl (6, 2147483647, []), .inl ((-2147483648), 2147483647, [])], ([], [], []), ([], []), [(.inl 3, 245, ([], [], []))])
set_option maxRecDepth 100000 in
theorem p2_s1620_s {X : Int → Int} {LX : Nat} : ck_Ok p2_O X LX 227 p2_s1620 := ck_ok_s (O := p2_O) (X := X) (LX := LX) (E := [(132, [p2_s269])]) (mi := 227) (cuts := []) (f := 76) (S := p2_s1620) (lx := none) (XF := []) ⟨p2_nmu, ck_E1 (ck_S1 p2_s269_s ck_S0) ck_E0⟩ ck_X0 ck_l0 (by decide +kernel)
set_option maxRecDepth 100000 in
/-- GlacierMail.range -/
def p2_s1621 : ck_Sum := ((8, 2, 12), 245, [.inr (.inr (.inl 1)), .inl (0, 5, []), .inl ((-2147483648), (-1), [])], ([], [], []), ([], []), [(.inl 3, 245, ([], [], [])), (.inl 0, 245, ([], [], []))])
set_option maxRecDepth 100000 in
theorem p2_s1621_s {X : Int → Int} {LX : Nat} : ck_Ok p2_O X LX 227 p2_s1621 := ck_ok_s (O := p2_O) (X := X) (LX := LX) (E := [(132, [p2_s272]), (129, [p2_s249])]) (mi := 227) (cuts := []) (f := 82) (S := p2_s1621) (lx := none) (XF := []) ⟨p2_nmu, ck_E1 (ck_S1 p2_s272_s ck_S0) (ck_E1 (ck_S1 p2_s249_s ck_S0) ck_E0)⟩ ck_X0 ck_l0 (by decide +kernel)
set_option maxRecDepth 100000 in
/-- GlacierMail.range -/
def p2_s1622 : ck_Sum := ((8, 2, 12), 245, [.inr (.inr (.inl 1)), .inl (0, 5, []), .inl (300, 2147483647, [])], ([], [], []), ([], []), [(.inl 3, 245, ([], [], [])), (.inl 0, 245, ([], [], []))])
set_option maxRecDepth 100000 in
theorem p2_s1622_s {X : Int → Int} {LX : Nat} : ck_Ok p2_O X LX 227 p2_s1622 := ck_ok_s (O := p2_O) (X := X) (LX := LX) (E := [(132, [p2_s272]), (129, [p2_s251])]) (mi := 227) (cuts := []) (f := 82) (S := p2_s1622) (lx := none) (XF := []) ⟨p2_nmu, ck_E1 (ck_S1 p2_s272_s ck_S0) (ck_E1 (ck_S1 p2_s251_s ck_S0) ck_E0)⟩ ck_X0 ck_l0 (by decide +kernel)
set_option maxRecDepth 100000 in
/-- GlacierMail.range -/
def p2_s1623 : ck_Sum := ((8, 1, 6), 245, [.inr (.inr (.inl 1)), .inl (0, 5, []), .inl (0, 299, [])], ([], [(3, 8, 0)], []), ([(206, 2, 8)], []), [(.inl 3, 245, ([], [], [])), (.inr (some (.inl ((-2147483648), 2147483647, []))), 245, ([], [], [(206, 4, 4, ck_one (-1))]))])
set_option maxRecDepth 100000 in
theorem p2_s1623_s {X : Int → Int} {LX : Nat} : ck_Ok p2_O X LX 227 p2_s1623 := ck_ok_s (O := p2_O) (X := X) (LX := LX) (E := [(132, [p2_s272]), (129, [p2_s253]), (29, [p2_s1313]), (30, [p2_s346])]) (mi := 227) (cuts := []) (f := 120) (S := p2_s1623) (lx := none) (XF := []) ⟨p2_nmu, ck_E1 (ck_S1 p2_s272_s ck_S0) (ck_E1 (ck_S1 p2_s253_s ck_S0) (ck_E1 (ck_S1 p2_s1313_s ck_S0) (ck_E1 (ck_S1 p2_s346_s ck_S0) ck_E0)))⟩ ck_X0 ck_l0 (by decide +kernel)
set_option maxRecDepth 100000 in
/-- GlacierMailModel.range -/
def p2_s1624 : ck_Sum := ((2, 0, 0), 245, [.inr (.inr (.inl 226)), .inl ((-2147483648), (-1), []), .inl ((-2147483648), 2147483647, [])], ([], [], []), ([(226, 0, 0)], []), [(.inr (some (.inl (ck_one 0))), 245, ([], [], [(226, 0, 0, ck_one 1)]))])
set_option maxRecDepth 100000 in
theorem p2_s1624_s {X : Int → Int} {LX : Nat} : ck_Ok p2_O X LX 364 p2_s1624 := ck_ok_s (O := p2_O) (X := X) (LX := LX) (E := [(288, [p2_s284]), (282, [p2_s241])]) (mi := 364) (cuts := []) (f := 94) (S := p2_s1624) (lx := none) (XF := []) ⟨p2_nmu, ck_E1 (ck_S1 p2_s284_s ck_S0) (ck_E1 (ck_S1 p2_s241_s ck_S0) ck_E0)⟩ ck_X0 ck_l0 (by decide +kernel)
set_option maxRecDepth 100000 in
/-- GlacierMailModel.range -/
def p2_s1625 : ck_Sum := ((2, 0, 0), 245, [.inr (.inr (.inl 226)), .inl (6, 2147483647, []), .inl ((-2147483648), 2147483647, [])], ([], [], []), ([(226, 0, 0)], []), [(.inr (some (.inl (ck_one 0))), 245, ([], [], [(226, 0, 0, ck_one 1)]))])
set_option maxRecDepth 100000 in
theorem p2_s1625_s {X : Int → Int} {LX : Nat} : ck_Ok p2_O X LX 364 p2_s1625 := ck_ok_s (O := p2_O) (X := X) (LX := LX) (E := [(288, [p2_s287]), (282, [p2_s241])]) (mi := 364) (cuts := []) (f := 94) (S := p2_s1625) (lx := none) (XF := []) ⟨p2_nmu, ck_E1 (ck_S1 p2_s287_s ck_S0) (ck_E1 (ck_S1 p2_s241_s ck_S0) ck_E0)⟩ ck_X0 ck_l0 (by decide +kernel)
set_option maxRecDepth 100000 in
/-- GlacierMailModel.range -/
def p2_s1626 : ck_Sum := ((2, 0, 0), 245, [.inr (.inr (.inl 226)), .inl (0, 5, []), .inl ((-2147483648), (-1), [])], ([], [], []), ([(226, 0, 0)], []), [(.inr (some (.inl (ck_one 0))), 245, ([], [], [(226, 0, 0, (1, 2, []))]))])
set_option maxRecDepth 100000 in
theorem p2_s1626_s {X : Int → Int} {LX : Nat} : ck_Ok p2_O X LX 364 p2_s1626 := ck_ok_s (O := p2_O) (X := X) (LX := LX) (E := [(288, [p2_s290]), (282, [p2_s241, p2_s242, p2_s244]), (285, [p2_s257])]) (mi := 364) (cuts := []) (f := 106) (S := p2_s1626) (lx := none) (XF := []) ⟨p2_nmu, ck_E1 (ck_S1 p2_s290_s ck_S0) (ck_E1 (ck_S1 p2_s241_s (ck_S1 p2_s242_s (ck_S1 p2_s244_s ck_S0))) (ck_E1 (ck_S1 p2_s257_s ck_S0) ck_E0))⟩ ck_X0 ck_l0 (by decide +kernel)
set_option maxRecDepth 100000 in
/-- GlacierMailModel.range -/
def p2_s1627 : ck_Sum := ((2, 0, 0), 245, [.inr (.inr (.inl 226)), .inl (0, 5, []), .inl (300, 2147483647, [])], ([], [], []), ([(226, 0, 0)], []), [(.inr (some (.inl (ck_one 0))), 245, ([], [], [(226, 0, 0, (1, 2, []))]))])
set_option maxRecDepth 100000 in
theorem p2_s1627_s {X : Int → Int} {LX : Nat} : ck_Ok p2_O X LX 364 p2_s1627 := ck_ok_s (O := p2_O) (X := X) (LX := LX) (E := [(288, [p2_s290]), (282, [p2_s241, p2_s242, p2_s244]), (285, [p2_s260])]) (mi := 364) (cuts := []) (f := 106) (S := p2_s1627) (lx := none) (XF := []) ⟨p2_nmu, ck_E1 (ck_S1 p2_s290_s ck_S0) (ck_E1 (ck_S1 p2_s241_s (ck_S1 p2_s242_s (ck_S1 p2_s244_s ck_S0))) (ck_E1 (ck_S1 p2_s260_s ck_S0) ck_E0))⟩ ck_X0 ck_l0 (by decide +kernel)
set_option maxRecDepth 100000 in
/-- GlacierMailModel.range -/
def p2_s1628 : ck_Sum := ((7, 0, 0), 245, [.inr (.inr (.inl 226)), .inl (0, 5, []), .inl (0, 299, [])], ([], [], zl80), (zl85, []), [(.inr (some (.inl (ck_one 0))), 245, ([], [], [(226, 0, 0, ck_one 1)])), (.inr (some (.inl ((-299), 299, []))), 245, ([], [], [(226, 0, 0, ck_one 0)]))])
set_option maxRecDepth 100000 in
theorem p2_s1628_s {X : Int → Int} {LX : Nat} : ck_Ok p2_O X LX 364 p2_s1628 := ck_ok_s (O := p2_O) (X := X) (LX := LX) (E := [(288, [p2_s290]), (282, [p2_s241, p2_s242, p2_s243]), (285, [p2_s263]), (325, [p2_s1326])]) (mi := 364) (cuts := []) (f := 126) (S := p2_s1628) (lx := none) (XF := []) ⟨p2_nmu, ck_E1 (ck_S1 p2_s290_s ck_S0) (ck_E1 (ck_S1 p2_s241_s (ck_S1 p2_s242_s (ck_S1 p2_s243_s ck_S0))) (ck_E1 (ck_S1 p2_s263_s ck_S0) (ck_E1 (ck_S1 p2_s1326_s ck_S0) ck_E0)))⟩ ck_X0 ck_l0 (by decide +kernel)
set_option maxRecDepth 100000 in
/-- GlacierMail.swiftest -/
def p2_s1629 : ck_Sum := ((8, 1, 6), 245, [.inr (.inr (.inl 1)), .inl ((-2147483648), (-1), []), .inl ((-2147483648), 2147483647, [])], ([], [], []), ([], []), [(.inl 3, 245, ([], [], []))])
set_option maxRecDepth 100000 in
theorem p2_s1629_s {X : Int → Int} {LX : Nat} : ck_Ok p2_O X LX 229 p2_s1629 := ck_ok_s (O := p2_O) (X := X) (LX := LX) (E := [(134, [p2_s274])]) (mi := 229) (cuts := []) (f := 76) (S := p2_s1629) (lx := none) (XF := []) ⟨p2_nmu, ck_E1 (ck_S1 p2_s274_s ck_S0) ck_E0⟩ ck_X0 ck_l0 (by decide +kernel)
set_option maxRecDepth 100000 in
/-- GlacierMail.swiftest -/
def p2_s1630 : ck_Sum := ((8, 1, 6), 245, [.inr (.inr (.inl 1)), .inl (99, 2147483647, []), .inl ((-2147483648), 2147483647, [])], ([], [], []), ([], []), [(.inl 3, 245, ([], [], []))])
set_option maxRecDepth 100000 in
theorem p2_s1630_s {X : Int → Int} {LX : Nat} : ck_Ok p2_O X LX 229 p2_s1630 := ck_ok_s (O := p2_O) (X := X) (LX := LX) (E := [(134, [p2_s277])]) (mi := 229) (cuts := []) (f := 76) (S := p2_s1630) (lx := none) (XF := []) ⟨p2_nmu, ck_E1 (ck_S1 p2_s277_s ck_S0) ck_E0⟩ ck_X0 ck_l0 (by decide +kernel)
set_option maxRecDepth 100000 in
/-- GlacierMail.swiftest -/
def p2_s1631 : ck_Sum := ((8, 2, 12), 245, [.inr (.inr (.inl 1)), .inl (0, 98, []), .inl ((-2147483648), (-1), [])], ([], [], []), ([], []), [(.inl 3, 245, ([], [], [])), (.inl 0, 245, ([], [], []))])
set_option maxRecDepth 100000 in
theorem p2_s1631_s {X : Int → Int} {LX : Nat} : ck_Ok p2_O X LX 229 p2_s1631 := ck_ok_s (O := p2_O) (X := X) (LX := LX) (E := [(134, [p2_s280]), (129, [p2_s249])]) (mi := 229) (cuts := []) (f := 82) (S := p2_s1631) (lx := none) (XF := []) ⟨p2_nmu, ck_E1 (ck_S1 p2_s280_s ck_S0) (ck_E1 (ck_S1 p2_s249_s ck_S0) ck_E0)⟩ ck_X0 ck_l0 (by decide +kernel)
set_option maxRecDepth 100000 in
/-- GlacierMail.swiftest -/
def p2_s1632 : ck_Sum := ((8, 2, 12), 245, [.inr (.inr (.inl 1)), .inl (0, 98, []), .inl (300, 2147483647, [])], ([], [], []), ([], []), [(.inl 3, 245, ([], [], [])), (.inl 0, 245, ([], [], []))])
set_option maxRecDepth 100000 in
theorem p2_s1632_s {X : Int → Int} {LX : Nat} : ck_Ok p2_O X LX 229 p2_s1632 := ck_ok_s (O := p2_O) (X := X) (LX := LX) (E := [(134, [p2_s280]), (129, [p2_s251])]) (mi := 229) (cuts := []) (f := 82) (S := p2_s1632) (lx := none) (XF := []) ⟨p2_nmu, ck_E1 (ck_S1 p2_s280_s ck_S0) (ck_E1 (ck_S1 p2_s251_s ck_S0) ck_E0)⟩ ck_X0 ck_l0 (by decide +kernel)
set_option maxRecDepth 100000 in
/-- GlacierMail.swiftest -/
def p2_s1633 : ck_Sum := ((8, 1, 6), 245, [.inr (.inr (.inl 1)), .inl (0, 98, []), .inl (0, 299, [])], ([], [(3, 8, 0)], []), ([(206, 2, 8)], []), [(.inl 3, 245, ([], [], [])), (.inr (some (.inl ((-1), 5, []))), 245, ([], [], []))])
set_option maxRecDepth 100000 in
theorem p2_s1633_s {X : Int → Int} {LX : Nat} : ck_Ok p2_O X LX 229 p2_s1633 := ck_ok_s (O := p2_O) (X := X) (LX := LX) (E := [(134, [p2_s280]), (129, [p2_s253]), (29, [p2_s1313]), (30, [p2_s346])]) (mi := 229) (cuts := [(20, [some (.inr (.inr (.inl 1))), some (.inl (0, 98, [])), some (.inl (0, 299, [])), some (.inl ((-1), 5, [])), some (.inl ((-2147483648), 300, [])), some (.inl (0, 6, [])), none], ([], [(3, 8, 0)], []), 100, .inl 5, true)]) (f := 210) (S := p2_s1633) (lx := none) (XF := []) ⟨p2_nmu, ck_E1 (ck_S1 p2_s280_s ck_S0) (ck_E1 (ck_S1 p2_s253_s ck_S0) (ck_E1 (ck_S1 p2_s1313_s ck_S0) (ck_E1 (ck_S1 p2_s346_s ck_S0) ck_E0)))⟩ ck_X0 ck_l0 (by decide +kernel)
set_option maxRecDepth 100000 in
/-- GlacierMailModel.swiftest -/
def p2_s1634 : ck_Sum := ((2, 0, 0), 245, [.inr (.inr (.inl 226)), .inl ((-2147483648), (-1), []), .inl ((-2147483648), 2147483647, [])], ([], [], []), ([(226, 0, 0)], []), [(.inr (some (.inl (ck_one 0))), 245, ([], [], [(226, 0, 0, ck_one 1)]))])
set_option maxRecDepth 100000 in
theorem p2_s1634_s {X : Int → Int} {LX : Nat} : ck_Ok p2_O X LX 365 p2_s1634 := ck_ok_s (O := p2_O) (X := X) (LX := LX) (E := [(289, [p2_s292]), (282, [p2_s241])]) (mi := 365) (cuts := []) (f := 94) (S := p2_s1634) (lx := none) (XF := []) ⟨p2_nmu, ck_E1 (ck_S1 p2_s292_s ck_S0) (ck_E1 (ck_S1 p2_s241_s ck_S0) ck_E0)⟩ ck_X0 ck_l0 (by decide +kernel)
set_option maxRecDepth 100000 in
/-- GlacierMailModel.swiftest -/
def p2_s1635 : ck_Sum := ((2, 0, 0), 245, [.inr (.inr (.inl 226)), .inl (99, 2147483647, []), .inl ((-2147483648), 2147483647, [])], ([], [], []), ([(226, 0, 0)], []), [(.inr (some (.inl (ck_one 0))), 245, ([], [], [(226, 0, 0, ck_one 1)]))])
set_option maxRecDepth 100000 in
theorem p2_s1635_s {X : Int → Int} {LX : Nat} : ck_Ok p2_O X LX 365 p2_s1635 := ck_ok_s (O := p2_O) (X := X) (LX := LX) (E := [(289, [p2_s295]), (282, [p2_s241])]) (mi := 365) (cuts := []) (f := 94) (S := p2_s1635) (lx := none) (XF := []) ⟨p2_nmu, ck_E1 (ck_S1 p2_s295_s ck_S0) (ck_E1 (ck_S1 p2_s241_s ck_S0) ck_E0)⟩ ck_X0 ck_l0 (by decide +kernel)
set_option maxRecDepth 100000 in
/-- GlacierMailModel.swiftest -/
def p2_s1636 : ck_Sum := ((2, 0, 0), 245, [.inr (.inr (.inl 226)), .inl (0, 98, []), .inl ((-2147483648), (-1), [])], ([], [], []), ([(226, 0, 0)], []), [(.inr (some (.inl (ck_one 0))), 245, ([], [], [(226, 0, 0, (1, 2, []))]))])
set_option maxRecDepth 100000 in
theorem p2_s1636_s {X : Int → Int} {LX : Nat} : ck_Ok p2_O X LX 365 p2_s1636 := ck_ok_s (O := p2_O) (X := X) (LX := LX) (E := [(289, [p2_s298]), (282, [p2_s241, p2_s242, p2_s244]), (285, [p2_s257])]) (mi := 365) (cuts := []) (f := 106) (S := p2_s1636) (lx := none) (XF := []) ⟨p2_nmu, ck_E1 (ck_S1 p2_s298_s ck_S0) (ck_E1 (ck_S1 p2_s241_s (ck_S1 p2_s242_s (ck_S1 p2_s244_s ck_S0))) (ck_E1 (ck_S1 p2_s257_s ck_S0) ck_E0))⟩ ck_X0 ck_l0 (by decide +kernel)
set_option maxRecDepth 100000 in
/-- GlacierMailModel.swiftest -/
def p2_s1637 : ck_Sum := ((2, 0, 0), 245, [.inr (.inr (.inl 226)), .inl (0, 98, []), .inl (300, 2147483647, [])], ([], [], []), ([(226, 0, 0)], []), [(.inr (some (.inl (ck_one 0))), 245, ([], [], [(226, 0, 0, (1, 2, []))]))])
set_option maxRecDepth 100000 in
theorem p2_s1637_s {X : Int → Int} {LX : Nat} : ck_Ok p2_O X LX 365 p2_s1637 := ck_ok_s (O := p2_O) (X := X) (LX := LX) (E := [(289, [p2_s298]), (282, [p2_s241, p2_s242, p2_s244]), (285, [p2_s260])]) (mi := 365) (cuts := []) (f := 106) (S := p2_s1637) (lx := none) (XF := []) ⟨p2_nmu, ck_E1 (ck_S1 p2_s298_s ck_S0) (ck_E1 (ck_S1 p2_s241_s (ck_S1 p2_s242_s (ck_S1 p2_s244_s ck_S0))) (ck_E1 (ck_S1 p2_s260_s ck_S0) ck_E0))⟩ ck_X0 ck_l0 (by decide +kernel)
set_option maxRecDepth 100000 in
/-- GlacierMailModel.swiftest -/
def p2_s1638 : ck_Sum := ((7, 0, 0), 245, [.inr (.inr (.inl 226)), .inl (0, 98, []), .inl (0, 299, [])], ([], [], zl80), (zl85, []), [(.inr (some (.inl (ck_one 0))), 245, ([], [], [(226, 0, 0, ck_one 1)])), (.inr (some (.inl ((-1), 5, []))), 245, ([], [], [(226, 0, 0, ck_one 0)]))])
set_option maxRecDepth 100000 in
theorem p2_s1638_s {X : Int → Int} {LX : Nat} : ck_Ok p2_O X LX 365 p2_s1638 := ck_ok_s (O := p2_O) (X := X) (LX := LX) (E := [(289, [p2_s298]), (282, [p2_s241, p2_s242, p2_s243]), (285, [p2_s263]), (261, [p2_s166]), (325, [p2_s1326])]) (mi := 365) (cuts := [(42, [some (.inr (.inr (.inl 226))), some (.inl (0, 98, [])), some (.inl (0, 299, [])), some (.inl ((-1), 5, [])), some (.inl (0, 1000, [])), some (.inl (0, 6, [])), none], ([], [], [(226, 0, 0, ck_one 0), (227, 2, 2, (0, 8, [(20, 0)])), (227, 5, 5, (0, 8, [(23, 0)]))]), 100, .inl 5, true)]) (f := 182) (S := p2_s1638) (lx := none) (XF := []) ⟨p2_nmu, ck_E1 (ck_S1 p2_s298_s ck_S0) (ck_E1 (ck_S1 p2_s241_s (ck_S1 p2_s242_s (ck_S1 p2_s243_s ck_S0))) (ck_E1 (ck_S1 p2_s263_s ck_S0) (ck_E1 (ck_S1 p2_s166_s ck_S0) (ck_E1 (ck_S1 p2_s1326_s ck_S0) ck_E0))))⟩ ck_X0 ck_l0 (by decide +kernel)
set_option maxRecDepth 100000 in
/-- GlacierMail.bare -/
def p2_s1639 : ck_Sum := ((7, 1, 6), 245, [.inr (.inr (.inl 1)), .inl ((-2147483648), (-1), [])], ([], [], []), ([], []), [(.inl 0, 245, ([], [], []))])
set_option maxRecDepth 100000 in
theorem p2_s1639_s {X : Int → Int} {LX : Nat} : ck_Ok p2_O X LX 231 p2_s1639 := ck_ok_s (O := p2_O) (X := X) (LX := LX) (E := [(129, [p2_s249])]) (mi := 231) (cuts := []) (f := 76) (S := p2_s1639) (lx := none) (XF := []) ⟨p2_nmu, ck_E1 (ck_S1 p2_s249_s ck_S0) ck_E0⟩ ck_X0 ck_l0 (by decide +kernel)
set_option maxRecDepth 100000 in
/-- GlacierMail.bare -/
def p2_s1640 : ck_Sum := ((7, 1, 6), 245, [.inr (.inr (.inl 1)), .inl (300, 2147483647, [])], ([], [], []), ([], []), [(.inl 0, 245, ([], [], []))])
set_option maxRecDepth 100000 in
theorem p2_s1640_s {X : Int → Int} {LX : Nat} : ck_Ok p2_O X LX 231 p2_s1640 := ck_ok_s (O := p2_O) (X := X) (LX := LX) (E := [(129, [p2_s251])]) (mi := 231) (cuts := []) (f := 76) (S := p2_s1640) (lx := none) (XF := []) ⟨p2_nmu, ck_E1 (ck_S1 p2_s251_s ck_S0) ck_E0⟩ ck_X0 ck_l0 (by decide +kernel)
set_option maxRecDepth 100000 in
/-- GlacierMail.bare -/
def p2_s1641 : ck_Sum := ((4, 0, 0), 245, [.inr (.inr (.inl 1)), .inl (0, 299, [])], ([], [(3, 8, 0)], []), ([(206, 2, 8)], []), [(.inr (some (.inl ((-2147483648), 2147483647, []))), 245, ([], [], []))])
set_option maxRecDepth 100000 in
theorem p2_s1641_s {X : Int → Int} {LX : Nat} : ck_Ok p2_O X LX 231 p2_s1641 := ck_ok_s (O := p2_O) (X := X) (LX := LX) (E := [(129, [p2_s253]), (9, [p2_s331]), (10, [p2_s335]), (27, [p2_s339]), (148, [p2_s421]), (31, [p2_s340])]) (mi := 231) (cuts := [(9, [some (.inr (.inr (.inl 1))), some (.inl (0, 299, [])), some (.inl ((-2147483648), 2147483647, [])), some (.inl (0, 24, []))], ([], [(3, 8, 0)], []), 100, .inl 3, true)]) (f := 246) (S := p2_s1641) (lx := none) (XF := []) ⟨p2_nmu, ck_E1 (ck_S1 p2_s253_s ck_S0) (ck_E1 (ck_S1 p2_s331_s ck_S0) (ck_E1 (ck_S1 p2_s335_s ck_S0) (ck_E1 (ck_S1 p2_s339_s ck_S0) (ck_E1 (ck_S1 p2_s421_s ck_S0) (ck_E1 (ck_S1 p2_s340_s ck_S0) ck_E0)))))⟩ ck_X0 ck_l0 (by decide +kernel)
set_option maxRecDepth 100000 in
/-- GlacierMailModel.bare -/
def p2_s1642 : ck_Sum := ((2, 0, 0), 245, [.inr (.inr (.inl 226)), .inl ((-2147483648), (-1), [])], ([], [], []), ([(226, 0, 0)], []), [(.inr (some (.inl (ck_one 0))), 245, ([], [], [(226, 0, 0, ck_one 1)]))])
set_option maxRecDepth 100000 in
theorem p2_s1642_s {X : Int → Int} {LX : Nat} : ck_Ok p2_O X LX 366 p2_s1642 := ck_ok_s (O := p2_O) (X := X) (LX := LX) (E := [(285, [p2_s257]), (282, [p2_s241])]) (mi := 366) (cuts := []) (f := 92) (S := p2_s1642) (lx := none) (XF := []) ⟨p2_nmu, ck_E1 (ck_S1 p2_s257_s ck_S0) (ck_E1 (ck_S1 p2_s241_s ck_S0) ck_E0)⟩ ck_X0 ck_l0 (by decide +kernel)
set_option maxRecDepth 100000 in
/-- GlacierMailModel.bare -/
def p2_s1643 : ck_Sum := ((2, 0, 0), 245, [.inr (.inr (.inl 226)), .inl (300, 2147483647, [])], ([], [], []), ([(226, 0, 0)], []), [(.inr (some (.inl (ck_one 0))), 245, ([], [], [(226, 0, 0, ck_one 1)]))])
set_option maxRecDepth 100000 in
theorem p2_s1643_s {X : Int → Int} {LX : Nat} : ck_Ok p2_O X LX 366 p2_s1643 := ck_ok_s (O := p2_O) (X := X) (LX := LX) (E := [(285, [p2_s260]), (282, [p2_s241])]) (mi := 366) (cuts := []) (f := 92) (S := p2_s1643) (lx := none) (XF := []) ⟨p2_nmu, ck_E1 (ck_S1 p2_s260_s ck_S0) (ck_E1 (ck_S1 p2_s241_s ck_S0) ck_E0)⟩ ck_X0 ck_l0 (by decide +kernel)
set_option maxRecDepth 100000 in
/-- GlacierMailModel.bare -/
def p2_s1644 : ck_Sum := ((7, 0, 0), 245, [.inr (.inr (.inl 226)), .inl (0, 299, [])], ([], [], zl88), (zl85, []), [(.inr (some (.inl ((-2147483648), 2147483647, []))), 245, ([], [], [(226, 0, 0, ck_one 0)]))])
set_option maxRecDepth 100000 in
theorem p2_s1644_s {X : Int → Int} {LX : Nat} : ck_Ok p2_O X LX 366 p2_s1644 := ck_ok_s (O := p2_O) (X := X) (LX := LX) (E := [(285, [p2_s263]), (282, [p2_s242]), (254, [p2_s176]), (305, [p2_s380]), (311, [p2_s413])]) (mi := 366) (cuts := [(23, [some (.inr (.inr (.inl 226))), some (.inl (0, 299, [])), some (.inl ((-2147483648), 2147483647, [])), some (.inl (0, 24, []))], ([], [], [(226, 0, 0, ck_one 0), (227, 2, 2, (0, 8, [(20, 0)])), (227, 4, 4, (0, 24, [(22, 0)])), (227, 5, 5, (0, 8, [(23, 0)]))]), 100, .inl 3, true)]) (f := 182) (S := p2_s1644) (lx := none) (XF := []) ⟨p2_nmu, ck_E1 (ck_S1 p2_s263_s ck_S0) (ck_E1 (ck_S1 p2_s242_s ck_S0) (ck_E1 (ck_S1 p2_s176_s ck_S0) (ck_E1 (ck_S1 p2_s380_s ck_S0) (ck_E1 (ck_S1 p2_s413_s ck_S0) ck_E0))))⟩ ck_X0 ck_l0 (by decide +kernel)
set_option maxRecDepth 100000 in
/-- GlacierMail$Rows.get -/
def p2_s1645 : ck_Sum := ((0, 0, 0), 245, [.inr (.inr (.inl 14)), .inl ((-2147483648), 2147483647, []), .inl ((-2147483648), 2147483647, [])], ([], [], []), ([], []), [(.inr (some (.inl ((-1), 299, []))), 245, ([], [], []))])
set_option maxRecDepth 100000 in
theorem p2_s1645_s {X : Int → Int} {LX : Nat} : ck_Ok p2_O X LX 10 p2_s1645 := ck_ok_s (O := p2_O) (X := X) (LX := LX) (E := []) (mi := 10) (cuts := []) (f := 114) (S := p2_s1645) (lx := none) (XF := []) ⟨p2_nmu, ck_E0⟩ ck_X0 ck_l0 (by decide +kernel)
set_option maxRecDepth 100000 in
/-- GlacierMail.log -/
def p2_s1646 : ck_Sum := ((6, 1, 6), 245, [.inr (.inr (.inl 1)), .inl ((-2147483648), (-1), []), .inl ((-2147483648), 2147483647, [])], ([], [], []), ([], []), [(.inl 4, 245, ([], [], [])), (.inr (some (.inl ((-1), 299, []))), 245, ([], [], []))])
set_option maxRecDepth 100000 in
theorem p2_s1646_s {X : Int → Int} {LX : Nat} : ck_Ok p2_O X LX 233 p2_s1646 := ck_ok_s (O := p2_O) (X := X) (LX := LX) (E := [(10, [p2_s1645])]) (mi := 233) (cuts := []) (f := 94) (S := p2_s1646) (lx := none) (XF := []) ⟨p2_nmu, ck_E1 (ck_S1 p2_s1645_s ck_S0) ck_E0⟩ ck_X0 ck_l0 (by decide +kernel)
set_option maxRecDepth 100000 in
/-- GlacierMail.log -/
def p2_s1647 : ck_Sum := ((6, 1, 6), 245, [.inr (.inr (.inl 1)), .inl (24, 2147483647, []), .inl ((-2147483648), 2147483647, [])], ([], [], []), ([], []), [(.inl 4, 245, ([], [], [])), (.inr (some (.inl ((-1), 299, []))), 245, ([], [], []))])
set_option maxRecDepth 100000 in
theorem p2_s1647_s {X : Int → Int} {LX : Nat} : ck_Ok p2_O X LX 233 p2_s1647 := ck_ok_s (O := p2_O) (X := X) (LX := LX) (E := [(10, [p2_s1645])]) (mi := 233) (cuts := []) (f := 94) (S := p2_s1647) (lx := none) (XF := []) ⟨p2_nmu, ck_E1 (ck_S1 p2_s1645_s ck_S0) ck_E0⟩ ck_X0 ck_l0 (by decide +kernel)
set_option maxRecDepth 100000 in
/-- GlacierMail.log -/
def p2_s1648 : ck_Sum := ((6, 1, 6), 245, [.inr (.inr (.inl 1)), .inl (0, 23, []), .inl ((-2147483648), (-1), [])], ([], [], []), ([], []), [(.inl 4, 245, ([], [], []))])
set_option maxRecDepth 100000 in
theorem p2_s1648_s {X : Int → Int} {LX : Nat} : ck_Ok p2_O X LX 233 p2_s1648 := ck_ok_s (O := p2_O) (X := X) (LX := LX) (E := []) (mi := 233) (cuts := []) (f := 76) (S := p2_s1648) (lx := none) (XF := []) ⟨p2_nmu, ck_E0⟩ ck_X0 ck_l0 (by decide +kernel)
set_option maxRecDepth 100000 in
/-- GlacierMail.log -/
def p2_s1649 : ck_Sum := ((6, 1, 6), 245, [.inr (.inr (.inl 1)), .inl (0, 23, []), .inl (10, 2147483647, [])], ([], [], []), ([], []), [(.inl 4, 245, ([], [], []))])
set_option maxRecDepth 100000 in
theorem p2_s1649_s {X : Int → Int} {LX : Nat} : ck_Ok p2_O X LX 233 p2_s1649 := ck_ok_s (O := p2_O) (X := X) (LX := LX) (E := []) (mi := 233) (cuts := []) (f := 82) (S := p2_s1649) (lx := none) (XF := []) ⟨p2_nmu, ck_E0⟩ ck_X0 ck_l0 (by decide +kernel)
set_option maxRecDepth 100000 in
/-- GlacierMail.log -/
def p2_s1650 : ck_Sum := ((6, 1, 6), 245, [.inr (.inr (.inl 1)), .inl (0, 23, []), .inl (0, 9, [])], ([], [], []), ([], []), [(.inr (some (.inl ((-1), 299, []))), 245, ([], [], [])), (.inl 4, 245, ([], [], []))])
set_option maxRecDepth 100000 in
theorem p2_s1650_s {X : Int → Int} {LX : Nat} : ck_Ok p2_O X LX 233 p2_s1650 := ck_ok_s (O := p2_O) (X := X) (LX := LX) (E := [(10, [p2_s1645])]) (mi := 233) (cuts := []) (f := 94) (S := p2_s1650) (lx := none) (XF := []) ⟨p2_nmu, ck_E1 (ck_S1 p2_s1645_s ck_S0) ck_E0⟩ ck_X0 ck_l0 (by decide +kernel)
set_option maxRecDepth 100000 in
/-- GlacierMailModel.in -/
def p2_s1651 : ck_Sum := ((0, 0, 0), 245, [.inl ((-2147483648), 2147483647, []), .inl (ck_one 0), .inl (ck_one 2)], ([], [], []), ([], []), [(.inr (some (.inl (ck_one 0))), 245, ([], [], [])), (.inr (some (.inl (ck_one 1))), 245, ([], [], []))])
set_option maxRecDepth 100000 in
theorem p2_s1651_s {X : Int → Int} {LX : Nat} : ck_Ok p2_O X LX 286 p2_s1651 := ck_ok_s (O := p2_O) (X := X) (LX := LX) (E := []) (mi := 286) (cuts := []) (f := 88) (S := p2_s1651) (lx := none) (XF := []) ⟨p2_nmu, ck_E0⟩ ck_X0 ck_l0 (by decide +kernel)
set_option maxRecDepth 100000 in
/-- GlacierMailModel.log -/
def p2_s1652 : ck_Sum := ((1, 0, 0), 245, [.inr (.inr (.inl 226)), .inl ((-2147483648), (-1), []), .inl ((-2147483648), 2147483647, [])], ([], [], [(227, 14, 14, (0, 24, [(26, 0)]))]), ([(226, 0, 0)], []), [(.inr (some (.inl (ck_one 0))), 245, ([], [], [(226, 0, 0, ck_one 1)])), (.inr (some (.inl (ck_one (-1)))), 245, ([], [], [(226, 0, 0, ck_one 0)]))])
set_option maxRecDepth 100000 in
theorem p2_s1652_s {X : Int → Int} {LX : Nat} : ck_Ok p2_O X LX 367 p2_s1652 := ck_ok_s (O := p2_O) (X := X) (LX := LX) (E := [(286, [p2_s1651, p2_s399]), (282, [p2_s241, p2_s242])]) (mi := 367) (cuts := []) (f := 120) (S := p2_s1652) (lx := none) (XF := []) ⟨p2_nmu, ck_E1 (ck_S1 p2_s1651_s (ck_S1 p2_s399_s ck_S0)) (ck_E1 (ck_S1 p2_s241_s (ck_S1 p2_s242_s ck_S0)) ck_E0)⟩ ck_X0 ck_l0 (by decide +kernel)
set_option maxRecDepth 100000 in
/-- GlacierMailModel.log -/
def p2_s1653 : ck_Sum := ((1, 0, 0), 245, [.inr (.inr (.inl 226)), .inl (24, 2147483647, []), .inl ((-2147483648), 2147483647, [])], ([], [], [(227, 14, 14, (0, 24, [(26, 0)]))]), ([(226, 0, 0)], []), [(.inr (some (.inl (ck_one 0))), 245, ([], [], [(226, 0, 0, ck_one 1)])), (.inr (some (.inl (ck_one (-1)))), 245, ([], [], [(226, 0, 0, ck_one 0)]))])
set_option maxRecDepth 100000 in
theorem p2_s1653_s {X : Int → Int} {LX : Nat} : ck_Ok p2_O X LX 367 p2_s1653 := ck_ok_s (O := p2_O) (X := X) (LX := LX) (E := [(286, [p2_s1651, p2_s402]), (282, [p2_s241, p2_s242])]) (mi := 367) (cuts := []) (f := 120) (S := p2_s1653) (lx := none) (XF := []) ⟨p2_nmu, ck_E1 (ck_S1 p2_s1651_s (ck_S1 p2_s402_s ck_S0)) (ck_E1 (ck_S1 p2_s241_s (ck_S1 p2_s242_s ck_S0)) ck_E0)⟩ ck_X0 ck_l0 (by decide +kernel)
set_option maxRecDepth 100000 in
/-- GlacierMailModel.log -/
def p2_s1654 : ck_Sum := ((1, 0, 0), 245, [.inr (.inr (.inl 226)), .inl (0, 23, []), .inl ((-2147483648), (-1), [])], ([], [], []), ([(226, 0, 0)], []), [(.inr (some (.inl (ck_one 0))), 245, ([], [], [(226, 0, 0, ck_one 1)]))])
set_option maxRecDepth 100000 in
theorem p2_s1654_s {X : Int → Int} {LX : Nat} : ck_Ok p2_O X LX 367 p2_s1654 := ck_ok_s (O := p2_O) (X := X) (LX := LX) (E := [(286, [p2_s1321]), (282, [p2_s241])]) (mi := 367) (cuts := []) (f := 102) (S := p2_s1654) (lx := none) (XF := []) ⟨p2_nmu, ck_E1 (ck_S1 p2_s1321_s ck_S0) (ck_E1 (ck_S1 p2_s241_s ck_S0) ck_E0)⟩ ck_X0 ck_l0 (by decide +kernel)
set_option maxRecDepth 100000 in
/-- GlacierMailModel.log -/
def p2_s1655 : ck_Sum := ((1, 0, 0), 245, [.inr (.inr (.inl 226)), .inl (0, 23, []), .inl (10, 2147483647, [])], ([], [], []), ([(226, 0, 0)], []), [(.inr (some (.inl (ck_one 0))), 245, ([], [], [(226, 0, 0, ck_one 1)]))])
set_option maxRecDepth 100000 in
theorem p2_s1655_s {X : Int → Int} {LX : Nat} : ck_Ok p2_O X LX 367 p2_s1655 := ck_ok_s (O := p2_O) (X := X) (LX := LX) (E := [(286, [p2_s1323]), (282, [p2_s241])]) (mi := 367) (cuts := []) (f := 102) (S := p2_s1655) (lx := none) (XF := []) ⟨p2_nmu, ck_E1 (ck_S1 p2_s1323_s ck_S0) (ck_E1 (ck_S1 p2_s241_s ck_S0) ck_E0)⟩ ck_X0 ck_l0 (by decide +kernel)
set_option maxRecDepth 100000 in
/-- GlacierMailModel.log -/
def p2_s1656 : ck_Sum := ((1, 0, 0), 245, [.inr (.inr (.inl 226)), .inl (0, 23, []), .inl (0, 9, [])], ([], [], [(227, 14, 14, (0, 24, [(26, 0)]))]), ([(226, 0, 0)], []), [(.inr (some (.inl (ck_one 0))), 245, ([], [], [(226, 0, 0, ck_one 1)])), (.inr (some (.inl ((-1), 400, []))), 245, ([], [], [(226, 0, 0, ck_one 0)]))])
set_option maxRecDepth 100000 in
theorem p2_s1656_s {X : Int → Int} {LX : Nat} : ck_Ok p2_O X LX 367 p2_s1656 := ck_ok_s (O := p2_O) (X := X) (LX := LX) (E := [(286, [p2_s1325, p2_s405]), (282, [p2_s241, p2_s242])]) (mi := 367) (cuts := []) (f := 140) (S := p2_s1656) (lx := none) (XF := []) ⟨p2_nmu, ck_E1 (ck_S1 p2_s1325_s (ck_S1 p2_s405_s ck_S0)) (ck_E1 (ck_S1 p2_s241_s (ck_S1 p2_s242_s ck_S0)) ck_E0)⟩ ck_X0 ck_l0 (by decide +kernel)
set_option maxRecDepth 100000 in
/-- GlacierMail$History.at -/
def p2_s1657 : ck_Sum := ((0, 0, 0), 245, [.inr (.inr (.inl 42)), .inl (0, 11, [])], ([], [], []), ([], []), [(.inr (some (.inr (.inr (.inl 44)))), 245, ([], [], [])), (.inr (some (.inr (.inr (.inl 187)))), 245, ([], [], [])), (.inr (some (.inr (.inr (.inl 174)))), 245, ([], [], [])), (.inr (some (.inr (.inr (.inl 161)))), 245, ([], [], [])), (.inr (some (.inr (.inr (.inl 148)))), 245, ([], [], [])), (.inr (some (.inr (.inr (.inl 135)))), 245, ([], [], [])), (.inr (some (.inr (.inr (.inl 122)))), 245, ([], [], [])), (.inr (some (.inr (.inr (.inl 109)))), 245, ([], [], [])), (.inr (some (.inr (.inr (.inl 96)))), 245, ([], [], [])), (.inr (some (.inr (.inr (.inl 83)))), 245, ([], [], [])), (.inr (some (.inr (.inr (.inl 70)))), 245, ([], [], [])), (.inr (some (.inr (.inr (.inl 57)))), 245, ([], [], []))])
set_option maxRecDepth 100000 in
theorem p2_s1657_s {X : Int → Int} {LX : Nat} : ck_Ok p2_O X LX 56 p2_s1657 := ck_ok_s (O := p2_O) (X := X) (LX := LX) (E := []) (mi := 56) (cuts := []) (f := 96) (S := p2_s1657) (lx := none) (XF := []) ⟨p2_nmu, ck_E0⟩ ck_X0 ck_l0 (by decide +kernel)
set_option maxRecDepth 100000 in
/-- GlacierMail$Rows.copyFrom -/
def p2_s1658 : ck_Sum := ((1, 0, 0), 245, [.inr (.inr (.inl 4)), .inr (.inr (.inl 45))], ([], [], []), ([(4, 3, 3), (5, 0, 55)], []), [(.inr none, 245, ([], [], []))])
set_option maxRecDepth 100000 in
theorem p2_s1658_s {X : Int → Int} {LX : Nat} : ck_Ok p2_O X LX 58 p2_s1658 := ck_ok_s (O := p2_O) (X := X) (LX := LX) (E := []) (mi := 58) (cuts := []) (f := 114) (S := p2_s1658) (lx := none) (XF := []) ⟨p2_nmu, ck_E0⟩ ck_X0 ck_l0 (by decide +kernel)
set_option maxRecDepth 100000 in
/-- GlacierMail$Rows.copyFrom -/
def p2_s1659 : ck_Sum := ((1, 0, 0), 245, [.inr (.inr (.inl 6)), .inr (.inr (.inl 47))], ([], [], []), ([(6, 3, 3), (7, 0, 23)], []), [(.inr none, 245, ([], [], []))])
set_option maxRecDepth 100000 in
theorem p2_s1659_s {X : Int → Int} {LX : Nat} : ck_Ok p2_O X LX 58 p2_s1659 := ck_ok_s (O := p2_O) (X := X) (LX := LX) (E := []) (mi := 58) (cuts := []) (f := 114) (S := p2_s1659) (lx := none) (XF := []) ⟨p2_nmu, ck_E0⟩ ck_X0 ck_l0 (by decide +kernel)
set_option maxRecDepth 100000 in
/-- GlacierMail$Rows.copyFrom -/
def p2_s1660 : ck_Sum := ((1, 0, 0), 245, [.inr (.inr (.inl 8)), .inr (.inr (.inl 49))], ([], [], []), ([(8, 3, 3), (9, 0, 23)], []), [(.inr none, 245, ([], [], []))])
set_option maxRecDepth 100000 in
theorem p2_s1660_s {X : Int → Int} {LX : Nat} : ck_Ok p2_O X LX 58 p2_s1660 := ck_ok_s (O := p2_O) (X := X) (LX := LX) (E := []) (mi := 58) (cuts := []) (f := 114) (S := p2_s1660) (lx := none) (XF := []) ⟨p2_nmu, ck_E0⟩ ck_X0 ck_l0 (by decide +kernel)
set_option maxRecDepth 100000 in
/-- GlacierMail$Rows.copyFrom -/
def p2_s1661 : ck_Sum := ((1, 0, 0), 245, [.inr (.inr (.inl 10)), .inr (.inr (.inl 51))], ([], [], []), ([(10, 3, 3), (11, 0, 167)], []), [(.inr none, 245, ([], [], []))])
set_option maxRecDepth 100000 in
theorem p2_s1661_s {X : Int → Int} {LX : Nat} : ck_Ok p2_O X LX 58 p2_s1661 := ck_ok_s (O := p2_O) (X := X) (LX := LX) (E := []) (mi := 58) (cuts := []) (f := 114) (S := p2_s1661) (lx := none) (XF := []) ⟨p2_nmu, ck_E0⟩ ck_X0 ck_l0 (by decide +kernel)
set_option maxRecDepth 100000 in
/-- GlacierMail$Rows.copyFrom -/
def p2_s1662 : ck_Sum := ((1, 0, 0), 245, [.inr (.inr (.inl 12)), .inr (.inr (.inl 53))], ([], [], []), ([(12, 3, 3), (13, 0, 35)], []), [(.inr none, 245, ([], [], []))])
set_option maxRecDepth 100000 in
theorem p2_s1662_s {X : Int → Int} {LX : Nat} : ck_Ok p2_O X LX 58 p2_s1662 := ck_ok_s (O := p2_O) (X := X) (LX := LX) (E := []) (mi := 58) (cuts := []) (f := 114) (S := p2_s1662) (lx := none) (XF := []) ⟨p2_nmu, ck_E0⟩ ck_X0 ck_l0 (by decide +kernel)
set_option maxRecDepth 100000 in
/-- GlacierMail$Rows.copyFrom -/
def p2_s1663 : ck_Sum := ((1, 0, 0), 245, [.inr (.inr (.inl 14)), .inr (.inr (.inl 55))], ([], [], []), ([(14, 3, 3), (15, 0, 71)], []), [(.inr none, 245, ([], [], []))])
set_option maxRecDepth 100000 in
theorem p2_s1663_s {X : Int → Int} {LX : Nat} : ck_Ok p2_O X LX 58 p2_s1663 := ck_ok_s (O := p2_O) (X := X) (LX := LX) (E := []) (mi := 58) (cuts := []) (f := 114) (S := p2_s1663) (lx := none) (XF := []) ⟨p2_nmu, ck_E0⟩ ck_X0 ck_l0 (by decide +kernel)
set_option maxRecDepth 100000 in
/-- GlacierMail$State.copyFrom -/
def p2_s1664 : ck_Sum := ((2, 0, 0), 245, [.inr (.inr (.inl 3)), .inr (.inr (.inl 44))], ([], [(3, 8, 0), (44, 8, 100044)], []), (zl1, [(3, 8)]), [(.inr none, 245, ([], [(3, 8, 100044)], []))])
set_option maxRecDepth 100000 in
theorem p2_s1664_s {X : Int → Int} {LX : Nat} : ck_Ok p2_O X LX 57 p2_s1664 := ck_ok_s (O := p2_O) (X := X) (LX := LX) (E := [(58, [p2_s1658, p2_s1659, p2_s1660, p2_s1661, p2_s1662, p2_s1663])]) (mi := 57) (cuts := []) (f := 204) (S := p2_s1664) (lx := none) (XF := []) ⟨p2_nmu, ck_E1 (ck_S1 p2_s1658_s (ck_S1 p2_s1659_s (ck_S1 p2_s1660_s (ck_S1 p2_s1661_s (ck_S1 p2_s1662_s (ck_S1 p2_s1663_s ck_S0)))))) ck_E0⟩ ck_X0 ck_l0 (by decide +kernel)
set_option maxRecDepth 100000 in
/-- GlacierMail$Rows.copyFrom -/
def p2_s1665 : ck_Sum := ((1, 0, 0), 245, [.inr (.inr (.inl 4)), .inr (.inr (.inl 58))], ([], [], []), ([(4, 3, 3), (5, 0, 55)], []), [(.inr none, 245, ([], [], []))])
set_option maxRecDepth 100000 in
theorem p2_s1665_s {X : Int → Int} {LX : Nat} : ck_Ok p2_O X LX 58 p2_s1665 := ck_ok_s (O := p2_O) (X := X) (LX := LX) (E := []) (mi := 58) (cuts := []) (f := 114) (S := p2_s1665) (lx := none) (XF := []) ⟨p2_nmu, ck_E0⟩ ck_X0 ck_l0 (by decide +kernel)
set_option maxRecDepth 100000 in
/-- GlacierMail$Rows.copyFrom -/
def p2_s1666 : ck_Sum := ((1, 0, 0), 245, [.inr (.inr (.inl 6)), .inr (.inr (.inl 60))], ([], [], []), ([(6, 3, 3), (7, 0, 23)], []), [(.inr none, 245, ([], [], []))])
set_option maxRecDepth 100000 in
theorem p2_s1666_s {X : Int → Int} {LX : Nat} : ck_Ok p2_O X LX 58 p2_s1666 := ck_ok_s (O := p2_O) (X := X) (LX := LX) (E := []) (mi := 58) (cuts := []) (f := 114) (S := p2_s1666) (lx := none) (XF := []) ⟨p2_nmu, ck_E0⟩ ck_X0 ck_l0 (by decide +kernel)
set_option maxRecDepth 100000 in
/-- GlacierMail$Rows.copyFrom -/
def p2_s1667 : ck_Sum := ((1, 0, 0), 245, [.inr (.inr (.inl 8)), .inr (.inr (.inl 62))], ([], [], []), ([(8, 3, 3), (9, 0, 23)], []), [(.inr none, 245, ([], [], []))])
set_option maxRecDepth 100000 in
theorem p2_s1667_s {X : Int → Int} {LX : Nat} : ck_Ok p2_O X LX 58 p2_s1667 := ck_ok_s (O := p2_O) (X := X) (LX := LX) (E := []) (mi := 58) (cuts := []) (f := 114) (S := p2_s1667) (lx := none) (XF := []) ⟨p2_nmu, ck_E0⟩ ck_X0 ck_l0 (by decide +kernel)
end
