/-! EVERY CALL ENDS, whatever was done before (laid by wip/am/p2k.py). -/
set_option maxRecDepth 100000 in
/-- GlacierMailModel.ofLetter -/
noncomputable def p2_s991 : ck_Sum := ((0, 0, 0), 245, [.inr (.inr (.inl 226)), .inl (ck_one 15), .inl (ck_one 0)], ([], [], []), ([], []), [(.inr (some (.inl (ck_one (-1)))), 245, ([], [], [(227, 224, 224, ck_one (-1))])), (.inr (some (.inl (0, 7, []))), 245, ([], [], [(227, 224, 224, (0, 7, []))]))])
set_option maxRecDepth 100000 in
theorem p2_s991_s {X : Int → Int} {LX : Nat} : ck_Ok p2_O X LX 301 p2_s991 := ck_ok_s (O := p2_O) (X := X) (LX := LX) (E := []) (mi := 301) (cuts := []) (f := 92) (S := p2_s991) (lx := none) (XF := []) ⟨p2_nmu, ck_E0⟩ ck_X0 ck_l0 (by decide +kernel)
set_option maxRecDepth 100000 in
/-- GlacierMailModel.isRock -/
noncomputable def p2_s992 : ck_Sum := ((1, 0, 0), 245, [.inr (.inr (.inl 226)), .inl (ck_one 15)], ([], [], []), ([], []), [(.inr (some (.inl (ck_one 1))), 245, ([], [], [(227, 224, 224, ck_one (-1))])), (.inr (some (.inl (ck_one 0))), 245, ([], [], [(227, 224, 224, (0, 7, []))]))])
set_option maxRecDepth 100000 in
theorem p2_s992_s {X : Int → Int} {LX : Nat} : ck_Ok p2_O X LX 303 p2_s992 := ck_ok_s (O := p2_O) (X := X) (LX := LX) (E := [(301, [p2_s991])]) (mi := 303) (cuts := []) (f := 86) (S := p2_s992) (lx := none) (XF := []) ⟨p2_nmu, ck_E1 (ck_S1 p2_s991_s ck_S0) ck_E0⟩ ck_X0 ck_l0 (by decide +kernel)
set_option maxRecDepth 100000 in
/-- GlacierMailModel.ofLetter -/
noncomputable def p2_s993 : ck_Sum := ((0, 0, 0), 245, [.inr (.inr (.inl 226)), .inl (ck_one 15), .inl (ck_one 5)], ([], [], []), ([], []), [(.inr (some (.inl (ck_one (-1)))), 245, ([], [], [(227, 229, 229, ck_one (-1))])), (.inr (some (.inl (0, 7, []))), 245, ([], [], [(227, 229, 229, (0, 7, []))]))])
set_option maxRecDepth 100000 in
theorem p2_s993_s {X : Int → Int} {LX : Nat} : ck_Ok p2_O X LX 301 p2_s993 := ck_ok_s (O := p2_O) (X := X) (LX := LX) (E := []) (mi := 301) (cuts := []) (f := 92) (S := p2_s993) (lx := none) (XF := []) ⟨p2_nmu, ck_E0⟩ ck_X0 ck_l0 (by decide +kernel)
set_option maxRecDepth 100000 in
/-- GlacierMailModel.isWaiting -/
noncomputable def p2_s994 : ck_Sum := ((8, 0, 0), 245, [.inr (.inr (.inl 226)), .inl (ck_one 15)], ([], [], zl83), (zl81, []), [(.inr (some (.inl (ck_one 0))), 245, ([], [], [])), (.inr (some (.inl (ck_one 1))), 245, ([], [], [(226, 29, 29, (0, 299, [])), (227, 229, 229, ck_one (-1)), (227, 224, 224, (0, 7, []))]))])
set_option maxRecDepth 100000 in
theorem p2_s994_s {X : Int → Int} {LX : Nat} : ck_Ok p2_O X LX 302 p2_s994 := ck_ok_s (O := p2_O) (X := X) (LX := LX) (E := [(303, [p2_s992]), (301, [p2_s993]), (304, [p2_s381]), (266, [p2_s190])]) (mi := 302) (cuts := []) (f := 114) (S := p2_s994) (lx := none) (XF := []) ⟨p2_nmu, ck_E1 (ck_S1 p2_s992_s ck_S0) (ck_E1 (ck_S1 p2_s993_s ck_S0) (ck_E1 (ck_S1 p2_s381_s ck_S0) (ck_E1 (ck_S1 p2_s190_s ck_S0) ck_E0)))⟩ ck_X0 ck_l0 (by decide +kernel)
set_option maxRecDepth 100000 in
/-- GlacierMailModel.ofLetter -/
noncomputable def p2_s995 : ck_Sum := ((0, 0, 0), 245, [.inr (.inr (.inl 226)), .inl (ck_one 15), .inl (ck_one 1)], ([], [], []), ([], []), [(.inr (some (.inl (ck_one (-1)))), 245, ([], [], [(227, 225, 225, ck_one (-1))])), (.inr (some (.inl (0, 7, []))), 245, ([], [], [(227, 225, 225, (0, 7, []))]))])
set_option maxRecDepth 100000 in
theorem p2_s995_s {X : Int → Int} {LX : Nat} : ck_Ok p2_O X LX 301 p2_s995 := ck_ok_s (O := p2_O) (X := X) (LX := LX) (E := []) (mi := 301) (cuts := []) (f := 92) (S := p2_s995) (lx := none) (XF := []) ⟨p2_nmu, ck_E0⟩ ck_X0 ck_l0 (by decide +kernel)
set_option maxRecDepth 100000 in
/-- GlacierMailModel.ofLetter -/
noncomputable def p2_s996 : ck_Sum := ((0, 0, 0), 245, [.inr (.inr (.inl 226)), .inl (ck_one 15), .inl (ck_one 3)], ([], [], []), ([], []), [(.inr (some (.inl (0, 299, []))), 245, ([], [], []))])
set_option maxRecDepth 100000 in
theorem p2_s996_s {X : Int → Int} {LX : Nat} : ck_Ok p2_O X LX 301 p2_s996 := ck_ok_s (O := p2_O) (X := X) (LX := LX) (E := []) (mi := 301) (cuts := []) (f := 92) (S := p2_s996) (lx := none) (XF := []) ⟨p2_nmu, ck_E0⟩ ck_X0 ck_l0 (by decide +kernel)
/-- GlacierMailModel.opens -/
noncomputable def p2_s997 : ck_Sum := op_os0 15 (.inl (ck_one (-1))) 0 7 (-1) (-1)
theorem p2_s997_s {X : Int → Int} {LX : Nat} : ck_Ok p2_O X LX 319 p2_s997 := op_none (by decide) (by decide) (by decide)
/-- GlacierMailModel.opens -/
noncomputable def p2_s998 : ck_Sum := op_os 15 0 7
theorem p2_s998_s {X : Int → Int} {LX : Nat} : ck_Ok p2_O X LX 319 p2_s998 := op_open (by decide) (by decide) (by decide +kernel)
set_option maxRecDepth 100000 in
/-- GlacierMailModel.open -/
noncomputable def p2_s999 : ck_Sum := ((9, 0, 0), 245, [.inr (.inr (.inl 226)), .inl (ck_one 15)], ([], [], zl176), ([(226, 0, 0), (226, 6, 6), (226, 17, 23), (226, 26, 26), (226, 29, 30), (227, 14, 14), (227, 229, 230), (227, 323, 394), (230, 0, 4739), (233, 0, 399), (235, 0, 29699), (236, 0, 299), (237, 0, 299)], []), [(.inr (some (.inl (ck_one 0))), 245, ([], [], zl177)), (.inr (some (.inl ((-299), 299, []))), 245, ([], [], [(227, 229, 229, (0, 7, [])), (227, 225, 225, (0, 7, [])), (226, 6, 6, (1, 12, [(1000027, 0)])), (226, 29, 29, (0, 299, [])), (227, 224, 224, (0, 7, [])), (226, 0, 0, ck_one 0)]))])
set_option maxRecDepth 100000 in
theorem p2_s999_s {X : Int → Int} {LX : Nat} : ck_Ok p2_O X LX 318 p2_s999 := ck_ok_s (O := p2_O) (X := X) (LX := LX) (E := [(309, [p2_s990]), (282, [p2_s241, p2_s242, p2_s244, p2_s243]), (302, [p2_s994]), (316, [p2_s553]), (301, [p2_s995, p2_s996]), (319, [p2_s997, p2_s998]), (266, [p2_s190])]) (mi := 318) (cuts := []) (f := 142) (S := p2_s999) (lx := none) (XF := []) ⟨p2_nmu, ck_E1 (ck_S1 p2_s990_s ck_S0) (ck_E1 (ck_S1 p2_s241_s (ck_S1 p2_s242_s (ck_S1 p2_s244_s (ck_S1 p2_s243_s ck_S0)))) (ck_E1 (ck_S1 p2_s994_s ck_S0) (ck_E1 (ck_S1 p2_s553_s ck_S0) (ck_E1 (ck_S1 p2_s995_s (ck_S1 p2_s996_s ck_S0)) (ck_E1 (ck_S1 p2_s997_s (ck_S1 p2_s998_s ck_S0)) (ck_E1 (ck_S1 p2_s190_s ck_S0) ck_E0))))))⟩ ck_X0 ck_l0 (by decide +kernel)
set_option maxRecDepth 100000 in
/-- GlacierMailModel.in -/
noncomputable def p2_s1000 : ck_Sum := ((0, 0, 0), 245, [.inl (ck_one 16), .inl (ck_one 0), .inl ((-1), 23, [])], ([], [], []), ([], []), [(.inr (some (.inl (ck_one 0))), 245, ([], [], [])), (.inr (some (.inl (ck_one 1))), 245, ([], [], []))])
set_option maxRecDepth 100000 in
theorem p2_s1000_s {X : Int → Int} {LX : Nat} : ck_Ok p2_O X LX 286 p2_s1000 := ck_ok_s (O := p2_O) (X := X) (LX := LX) (E := []) (mi := 286) (cuts := []) (f := 88) (S := p2_s1000) (lx := none) (XF := []) ⟨p2_nmu, ck_E0⟩ ck_X0 ck_l0 (by decide +kernel)
set_option maxRecDepth 100000 in
/-- GlacierMailModel.noLetter -/
noncomputable def p2_s1001 : ck_Sum := ((1, 0, 0), 245, [.inr (.inr (.inl 226)), .inl (ck_one 16)], ([], [], [(227, 4, 4, (0, 24, [(22, 0)]))]), ([], []), [(.inr (some (.inl (ck_one 1))), 245, ([], [], [])), (.inr (some (.inl (ck_one 0))), 245, ([], [], []))])
set_option maxRecDepth 100000 in
theorem p2_s1001_s {X : Int → Int} {LX : Nat} : ck_Ok p2_O X LX 309 p2_s1001 := ck_ok_s (O := p2_O) (X := X) (LX := LX) (E := [(254, [p2_s176]), (286, [p2_s1000])]) (mi := 309) (cuts := []) (f := 92) (S := p2_s1001) (lx := none) (XF := []) ⟨p2_nmu, ck_E1 (ck_S1 p2_s176_s ck_S0) (ck_E1 (ck_S1 p2_s1000_s ck_S0) ck_E0)⟩ ck_X0 ck_l0 (by decide +kernel)
set_option maxRecDepth 100000 in
/-- GlacierMailModel.ofLetter -/
noncomputable def p2_s1002 : ck_Sum := ((0, 0, 0), 245, [.inr (.inr (.inl 226)), .inl (ck_one 16), .inl (ck_one 0)], ([], [], []), ([], []), [(.inr (some (.inl (ck_one (-1)))), 245, ([], [], [(227, 231, 231, ck_one (-1))])), (.inr (some (.inl (0, 7, []))), 245, ([], [], [(227, 231, 231, (0, 7, []))]))])
set_option maxRecDepth 100000 in
theorem p2_s1002_s {X : Int → Int} {LX : Nat} : ck_Ok p2_O X LX 301 p2_s1002 := ck_ok_s (O := p2_O) (X := X) (LX := LX) (E := []) (mi := 301) (cuts := []) (f := 92) (S := p2_s1002) (lx := none) (XF := []) ⟨p2_nmu, ck_E0⟩ ck_X0 ck_l0 (by decide +kernel)
set_option maxRecDepth 100000 in
/-- GlacierMailModel.isRock -/
noncomputable def p2_s1003 : ck_Sum := ((1, 0, 0), 245, [.inr (.inr (.inl 226)), .inl (ck_one 16)], ([], [], []), ([], []), [(.inr (some (.inl (ck_one 1))), 245, ([], [], [(227, 231, 231, ck_one (-1))])), (.inr (some (.inl (ck_one 0))), 245, ([], [], [(227, 231, 231, (0, 7, []))]))])
set_option maxRecDepth 100000 in
theorem p2_s1003_s {X : Int → Int} {LX : Nat} : ck_Ok p2_O X LX 303 p2_s1003 := ck_ok_s (O := p2_O) (X := X) (LX := LX) (E := [(301, [p2_s1002])]) (mi := 303) (cuts := []) (f := 86) (S := p2_s1003) (lx := none) (XF := []) ⟨p2_nmu, ck_E1 (ck_S1 p2_s1002_s ck_S0) ck_E0⟩ ck_X0 ck_l0 (by decide +kernel)
set_option maxRecDepth 100000 in
/-- GlacierMailModel.ofLetter -/
noncomputable def p2_s1004 : ck_Sum := ((0, 0, 0), 245, [.inr (.inr (.inl 226)), .inl (ck_one 16), .inl (ck_one 5)], ([], [], []), ([], []), [(.inr (some (.inl (ck_one (-1)))), 245, ([], [], [(227, 236, 236, ck_one (-1))])), (.inr (some (.inl (0, 7, []))), 245, ([], [], [(227, 236, 236, (0, 7, []))]))])
set_option maxRecDepth 100000 in
theorem p2_s1004_s {X : Int → Int} {LX : Nat} : ck_Ok p2_O X LX 301 p2_s1004 := ck_ok_s (O := p2_O) (X := X) (LX := LX) (E := []) (mi := 301) (cuts := []) (f := 92) (S := p2_s1004) (lx := none) (XF := []) ⟨p2_nmu, ck_E0⟩ ck_X0 ck_l0 (by decide +kernel)
set_option maxRecDepth 100000 in
/-- GlacierMailModel.isWaiting -/
noncomputable def p2_s1005 : ck_Sum := ((8, 0, 0), 245, [.inr (.inr (.inl 226)), .inl (ck_one 16)], ([], [], zl83), (zl81, []), [(.inr (some (.inl (ck_one 0))), 245, ([], [], [])), (.inr (some (.inl (ck_one 1))), 245, ([], [], [(226, 29, 29, (0, 299, [])), (227, 236, 236, ck_one (-1)), (227, 231, 231, (0, 7, []))]))])
set_option maxRecDepth 100000 in
theorem p2_s1005_s {X : Int → Int} {LX : Nat} : ck_Ok p2_O X LX 302 p2_s1005 := ck_ok_s (O := p2_O) (X := X) (LX := LX) (E := [(303, [p2_s1003]), (301, [p2_s1004]), (304, [p2_s381]), (266, [p2_s190])]) (mi := 302) (cuts := []) (f := 114) (S := p2_s1005) (lx := none) (XF := []) ⟨p2_nmu, ck_E1 (ck_S1 p2_s1003_s ck_S0) (ck_E1 (ck_S1 p2_s1004_s ck_S0) (ck_E1 (ck_S1 p2_s381_s ck_S0) (ck_E1 (ck_S1 p2_s190_s ck_S0) ck_E0)))⟩ ck_X0 ck_l0 (by decide +kernel)
set_option maxRecDepth 100000 in
/-- GlacierMailModel.ofLetter -/
noncomputable def p2_s1006 : ck_Sum := ((0, 0, 0), 245, [.inr (.inr (.inl 226)), .inl (ck_one 16), .inl (ck_one 1)], ([], [], []), ([], []), [(.inr (some (.inl (ck_one (-1)))), 245, ([], [], [(227, 232, 232, ck_one (-1))])), (.inr (some (.inl (0, 7, []))), 245, ([], [], [(227, 232, 232, (0, 7, []))]))])
set_option maxRecDepth 100000 in
theorem p2_s1006_s {X : Int → Int} {LX : Nat} : ck_Ok p2_O X LX 301 p2_s1006 := ck_ok_s (O := p2_O) (X := X) (LX := LX) (E := []) (mi := 301) (cuts := []) (f := 92) (S := p2_s1006) (lx := none) (XF := []) ⟨p2_nmu, ck_E0⟩ ck_X0 ck_l0 (by decide +kernel)
set_option maxRecDepth 100000 in
/-- GlacierMailModel.ofLetter -/
noncomputable def p2_s1007 : ck_Sum := ((0, 0, 0), 245, [.inr (.inr (.inl 226)), .inl (ck_one 16), .inl (ck_one 3)], ([], [], []), ([], []), [(.inr (some (.inl (0, 299, []))), 245, ([], [], []))])
set_option maxRecDepth 100000 in
theorem p2_s1007_s {X : Int → Int} {LX : Nat} : ck_Ok p2_O X LX 301 p2_s1007 := ck_ok_s (O := p2_O) (X := X) (LX := LX) (E := []) (mi := 301) (cuts := []) (f := 92) (S := p2_s1007) (lx := none) (XF := []) ⟨p2_nmu, ck_E0⟩ ck_X0 ck_l0 (by decide +kernel)
/-- GlacierMailModel.opens -/
noncomputable def p2_s1008 : ck_Sum := op_os0 16 (.inl (ck_one (-1))) 0 7 (-1) (-1)
theorem p2_s1008_s {X : Int → Int} {LX : Nat} : ck_Ok p2_O X LX 319 p2_s1008 := op_none (by decide) (by decide) (by decide)
/-- GlacierMailModel.opens -/
noncomputable def p2_s1009 : ck_Sum := op_os 16 0 7
theorem p2_s1009_s {X : Int → Int} {LX : Nat} : ck_Ok p2_O X LX 319 p2_s1009 := op_open (by decide) (by decide) (by decide +kernel)
set_option maxRecDepth 100000 in
/-- GlacierMailModel.open -/
noncomputable def p2_s1010 : ck_Sum := ((9, 0, 0), 245, [.inr (.inr (.inl 226)), .inl (ck_one 16)], ([], [], zl176), ([(226, 0, 0), (226, 6, 6), (226, 17, 23), (226, 26, 26), (226, 29, 30), (227, 14, 14), (227, 236, 237), (227, 323, 394), (230, 0, 4739), (233, 0, 399), (235, 0, 29699), (236, 0, 299), (237, 0, 299)], []), [(.inr (some (.inl (ck_one 0))), 245, ([], [], zl177)), (.inr (some (.inl ((-299), 299, []))), 245, ([], [], [(227, 236, 236, (0, 7, [])), (227, 232, 232, (0, 7, [])), (226, 6, 6, (1, 12, [(1000027, 0)])), (226, 29, 29, (0, 299, [])), (227, 231, 231, (0, 7, [])), (226, 0, 0, ck_one 0)]))])
set_option maxRecDepth 100000 in
theorem p2_s1010_s {X : Int → Int} {LX : Nat} : ck_Ok p2_O X LX 318 p2_s1010 := ck_ok_s (O := p2_O) (X := X) (LX := LX) (E := [(309, [p2_s1001]), (282, [p2_s241, p2_s242, p2_s244, p2_s243]), (302, [p2_s1005]), (316, [p2_s553]), (301, [p2_s1006, p2_s1007]), (319, [p2_s1008, p2_s1009]), (266, [p2_s190])]) (mi := 318) (cuts := []) (f := 142) (S := p2_s1010) (lx := none) (XF := []) ⟨p2_nmu, ck_E1 (ck_S1 p2_s1001_s ck_S0) (ck_E1 (ck_S1 p2_s241_s (ck_S1 p2_s242_s (ck_S1 p2_s244_s (ck_S1 p2_s243_s ck_S0)))) (ck_E1 (ck_S1 p2_s1005_s ck_S0) (ck_E1 (ck_S1 p2_s553_s ck_S0) (ck_E1 (ck_S1 p2_s1006_s (ck_S1 p2_s1007_s ck_S0)) (ck_E1 (ck_S1 p2_s1008_s (ck_S1 p2_s1009_s ck_S0)) (ck_E1 (ck_S1 p2_s190_s ck_S0) ck_E0))))))⟩ ck_X0 ck_l0 (by decide +kernel)
set_option maxRecDepth 100000 in
/-- GlacierMailModel.in -/
noncomputable def p2_s1011 : ck_Sum := ((0, 0, 0), 245, [.inl (ck_one 17), .inl (ck_one 0), .inl ((-1), 23, [])], ([], [], []), ([], []), [(.inr (some (.inl (ck_one 0))), 245, ([], [], [])), (.inr (some (.inl (ck_one 1))), 245, ([], [], []))])
set_option maxRecDepth 100000 in
theorem p2_s1011_s {X : Int → Int} {LX : Nat} : ck_Ok p2_O X LX 286 p2_s1011 := ck_ok_s (O := p2_O) (X := X) (LX := LX) (E := []) (mi := 286) (cuts := []) (f := 88) (S := p2_s1011) (lx := none) (XF := []) ⟨p2_nmu, ck_E0⟩ ck_X0 ck_l0 (by decide +kernel)
set_option maxRecDepth 100000 in
/-- GlacierMailModel.noLetter -/
noncomputable def p2_s1012 : ck_Sum := ((1, 0, 0), 245, [.inr (.inr (.inl 226)), .inl (ck_one 17)], ([], [], [(227, 4, 4, (0, 24, [(22, 0)]))]), ([], []), [(.inr (some (.inl (ck_one 1))), 245, ([], [], [])), (.inr (some (.inl (ck_one 0))), 245, ([], [], []))])
set_option maxRecDepth 100000 in
theorem p2_s1012_s {X : Int → Int} {LX : Nat} : ck_Ok p2_O X LX 309 p2_s1012 := ck_ok_s (O := p2_O) (X := X) (LX := LX) (E := [(254, [p2_s176]), (286, [p2_s1011])]) (mi := 309) (cuts := []) (f := 92) (S := p2_s1012) (lx := none) (XF := []) ⟨p2_nmu, ck_E1 (ck_S1 p2_s176_s ck_S0) (ck_E1 (ck_S1 p2_s1011_s ck_S0) ck_E0)⟩ ck_X0 ck_l0 (by decide +kernel)
set_option maxRecDepth 100000 in
/-- GlacierMailModel.ofLetter -/
noncomputable def p2_s1013 : ck_Sum := ((0, 0, 0), 245, [.inr (.inr (.inl 226)), .inl (ck_one 17), .inl (ck_one 0)], ([], [], []), ([], []), [(.inr (some (.inl (ck_one (-1)))), 245, ([], [], [(227, 238, 238, ck_one (-1))])), (.inr (some (.inl (0, 7, []))), 245, ([], [], [(227, 238, 238, (0, 7, []))]))])
set_option maxRecDepth 100000 in
theorem p2_s1013_s {X : Int → Int} {LX : Nat} : ck_Ok p2_O X LX 301 p2_s1013 := ck_ok_s (O := p2_O) (X := X) (LX := LX) (E := []) (mi := 301) (cuts := []) (f := 92) (S := p2_s1013) (lx := none) (XF := []) ⟨p2_nmu, ck_E0⟩ ck_X0 ck_l0 (by decide +kernel)
set_option maxRecDepth 100000 in
/-- GlacierMailModel.isRock -/
noncomputable def p2_s1014 : ck_Sum := ((1, 0, 0), 245, [.inr (.inr (.inl 226)), .inl (ck_one 17)], ([], [], []), ([], []), [(.inr (some (.inl (ck_one 1))), 245, ([], [], [(227, 238, 238, ck_one (-1))])), (.inr (some (.inl (ck_one 0))), 245, ([], [], [(227, 238, 238, (0, 7, []))]))])
set_option maxRecDepth 100000 in
theorem p2_s1014_s {X : Int → Int} {LX : Nat} : ck_Ok p2_O X LX 303 p2_s1014 := ck_ok_s (O := p2_O) (X := X) (LX := LX) (E := [(301, [p2_s1013])]) (mi := 303) (cuts := []) (f := 86) (S := p2_s1014) (lx := none) (XF := []) ⟨p2_nmu, ck_E1 (ck_S1 p2_s1013_s ck_S0) ck_E0⟩ ck_X0 ck_l0 (by decide +kernel)
set_option maxRecDepth 100000 in
/-- GlacierMailModel.ofLetter -/
noncomputable def p2_s1015 : ck_Sum := ((0, 0, 0), 245, [.inr (.inr (.inl 226)), .inl (ck_one 17), .inl (ck_one 5)], ([], [], []), ([], []), [(.inr (some (.inl (ck_one (-1)))), 245, ([], [], [(227, 243, 243, ck_one (-1))])), (.inr (some (.inl (0, 7, []))), 245, ([], [], [(227, 243, 243, (0, 7, []))]))])
set_option maxRecDepth 100000 in
theorem p2_s1015_s {X : Int → Int} {LX : Nat} : ck_Ok p2_O X LX 301 p2_s1015 := ck_ok_s (O := p2_O) (X := X) (LX := LX) (E := []) (mi := 301) (cuts := []) (f := 92) (S := p2_s1015) (lx := none) (XF := []) ⟨p2_nmu, ck_E0⟩ ck_X0 ck_l0 (by decide +kernel)
set_option maxRecDepth 100000 in
/-- GlacierMailModel.isWaiting -/
noncomputable def p2_s1016 : ck_Sum := ((8, 0, 0), 245, [.inr (.inr (.inl 226)), .inl (ck_one 17)], ([], [], zl83), (zl81, []), [(.inr (some (.inl (ck_one 0))), 245, ([], [], [])), (.inr (some (.inl (ck_one 1))), 245, ([], [], [(226, 29, 29, (0, 299, [])), (227, 243, 243, ck_one (-1)), (227, 238, 238, (0, 7, []))]))])
set_option maxRecDepth 100000 in
theorem p2_s1016_s {X : Int → Int} {LX : Nat} : ck_Ok p2_O X LX 302 p2_s1016 := ck_ok_s (O := p2_O) (X := X) (LX := LX) (E := [(303, [p2_s1014]), (301, [p2_s1015]), (304, [p2_s381]), (266, [p2_s190])]) (mi := 302) (cuts := []) (f := 114) (S := p2_s1016) (lx := none) (XF := []) ⟨p2_nmu, ck_E1 (ck_S1 p2_s1014_s ck_S0) (ck_E1 (ck_S1 p2_s1015_s ck_S0) (ck_E1 (ck_S1 p2_s381_s ck_S0) (ck_E1 (ck_S1 p2_s190_s ck_S0) ck_E0)))⟩ ck_X0 ck_l0 (by decide +kernel)
set_option maxRecDepth 100000 in
/-- GlacierMailModel.ofLetter -/
noncomputable def p2_s1017 : ck_Sum := ((0, 0, 0), 245, [.inr (.inr (.inl 226)), .inl (ck_one 17), .inl (ck_one 1)], ([], [], []), ([], []), [(.inr (some (.inl (ck_one (-1)))), 245, ([], [], [(227, 239, 239, ck_one (-1))])), (.inr (some (.inl (0, 7, []))), 245, ([], [], [(227, 239, 239, (0, 7, []))]))])
set_option maxRecDepth 100000 in
theorem p2_s1017_s {X : Int → Int} {LX : Nat} : ck_Ok p2_O X LX 301 p2_s1017 := ck_ok_s (O := p2_O) (X := X) (LX := LX) (E := []) (mi := 301) (cuts := []) (f := 92) (S := p2_s1017) (lx := none) (XF := []) ⟨p2_nmu, ck_E0⟩ ck_X0 ck_l0 (by decide +kernel)
set_option maxRecDepth 100000 in
/-- GlacierMailModel.ofLetter -/
noncomputable def p2_s1018 : ck_Sum := ((0, 0, 0), 245, [.inr (.inr (.inl 226)), .inl (ck_one 17), .inl (ck_one 3)], ([], [], []), ([], []), [(.inr (some (.inl (0, 299, []))), 245, ([], [], []))])
set_option maxRecDepth 100000 in
theorem p2_s1018_s {X : Int → Int} {LX : Nat} : ck_Ok p2_O X LX 301 p2_s1018 := ck_ok_s (O := p2_O) (X := X) (LX := LX) (E := []) (mi := 301) (cuts := []) (f := 92) (S := p2_s1018) (lx := none) (XF := []) ⟨p2_nmu, ck_E0⟩ ck_X0 ck_l0 (by decide +kernel)
/-- GlacierMailModel.opens -/
noncomputable def p2_s1019 : ck_Sum := op_os0 17 (.inl (ck_one (-1))) 0 7 (-1) (-1)
theorem p2_s1019_s {X : Int → Int} {LX : Nat} : ck_Ok p2_O X LX 319 p2_s1019 := op_none (by decide) (by decide) (by decide)
/-- GlacierMailModel.opens -/
noncomputable def p2_s1020 : ck_Sum := op_os 17 0 7
theorem p2_s1020_s {X : Int → Int} {LX : Nat} : ck_Ok p2_O X LX 319 p2_s1020 := op_open (by decide) (by decide) (by decide +kernel)
set_option maxRecDepth 100000 in
/-- GlacierMailModel.open -/
noncomputable def p2_s1021 : ck_Sum := ((9, 0, 0), 245, [.inr (.inr (.inl 226)), .inl (ck_one 17)], ([], [], zl176), ([(226, 0, 0), (226, 6, 6), (226, 17, 23), (226, 26, 26), (226, 29, 30), (227, 14, 14), (227, 243, 244), (227, 323, 394), (230, 0, 4739), (233, 0, 399), (235, 0, 29699), (236, 0, 299), (237, 0, 299)], []), [(.inr (some (.inl (ck_one 0))), 245, ([], [], zl177)), (.inr (some (.inl ((-299), 299, []))), 245, ([], [], [(227, 243, 243, (0, 7, [])), (227, 239, 239, (0, 7, [])), (226, 6, 6, (1, 12, [(1000027, 0)])), (226, 29, 29, (0, 299, [])), (227, 238, 238, (0, 7, [])), (226, 0, 0, ck_one 0)]))])
set_option maxRecDepth 100000 in
theorem p2_s1021_s {X : Int → Int} {LX : Nat} : ck_Ok p2_O X LX 318 p2_s1021 := ck_ok_s (O := p2_O) (X := X) (LX := LX) (E := [(309, [p2_s1012]), (282, [p2_s241, p2_s242, p2_s244, p2_s243]), (302, [p2_s1016]), (316, [p2_s553]), (301, [p2_s1017, p2_s1018]), (319, [p2_s1019, p2_s1020]), (266, [p2_s190])]) (mi := 318) (cuts := []) (f := 142) (S := p2_s1021) (lx := none) (XF := []) ⟨p2_nmu, ck_E1 (ck_S1 p2_s1012_s ck_S0) (ck_E1 (ck_S1 p2_s241_s (ck_S1 p2_s242_s (ck_S1 p2_s244_s (ck_S1 p2_s243_s ck_S0)))) (ck_E1 (ck_S1 p2_s1016_s ck_S0) (ck_E1 (ck_S1 p2_s553_s ck_S0) (ck_E1 (ck_S1 p2_s1017_s (ck_S1 p2_s1018_s ck_S0)) (ck_E1 (ck_S1 p2_s1019_s (ck_S1 p2_s1020_s ck_S0)) (ck_E1 (ck_S1 p2_s190_s ck_S0) ck_E0))))))⟩ ck_X0 ck_l0 (by decide +kernel)
set_option maxRecDepth 100000 in
/-- GlacierMailModel.in -/
noncomputable def p2_s1022 : ck_Sum := ((0, 0, 0), 245, [.inl (ck_one 18), .inl (ck_one 0), .inl ((-1), 23, [])], ([], [], []), ([], []), [(.inr (some (.inl (ck_one 0))), 245, ([], [], [])), (.inr (some (.inl (ck_one 1))), 245, ([], [], []))])
set_option maxRecDepth 100000 in
theorem p2_s1022_s {X : Int → Int} {LX : Nat} : ck_Ok p2_O X LX 286 p2_s1022 := ck_ok_s (O := p2_O) (X := X) (LX := LX) (E := []) (mi := 286) (cuts := []) (f := 88) (S := p2_s1022) (lx := none) (XF := []) ⟨p2_nmu, ck_E0⟩ ck_X0 ck_l0 (by decide +kernel)
set_option maxRecDepth 100000 in
/-- GlacierMailModel.noLetter -/
noncomputable def p2_s1023 : ck_Sum := ((1, 0, 0), 245, [.inr (.inr (.inl 226)), .inl (ck_one 18)], ([], [], [(227, 4, 4, (0, 24, [(22, 0)]))]), ([], []), [(.inr (some (.inl (ck_one 1))), 245, ([], [], [])), (.inr (some (.inl (ck_one 0))), 245, ([], [], []))])
set_option maxRecDepth 100000 in
theorem p2_s1023_s {X : Int → Int} {LX : Nat} : ck_Ok p2_O X LX 309 p2_s1023 := ck_ok_s (O := p2_O) (X := X) (LX := LX) (E := [(254, [p2_s176]), (286, [p2_s1022])]) (mi := 309) (cuts := []) (f := 92) (S := p2_s1023) (lx := none) (XF := []) ⟨p2_nmu, ck_E1 (ck_S1 p2_s176_s ck_S0) (ck_E1 (ck_S1 p2_s1022_s ck_S0) ck_E0)⟩ ck_X0 ck_l0 (by decide +kernel)
set_option maxRecDepth 100000 in
/-- GlacierMailModel.ofLetter -/
noncomputable def p2_s1024 : ck_Sum := ((0, 0, 0), 245, [.inr (.inr (.inl 226)), .inl (ck_one 18), .inl (ck_one 0)], ([], [], []), ([], []), [(.inr (some (.inl (ck_one (-1)))), 245, ([], [], [(227, 245, 245, ck_one (-1))])), (.inr (some (.inl (0, 7, []))), 245, ([], [], [(227, 245, 245, (0, 7, []))]))])
set_option maxRecDepth 100000 in
theorem p2_s1024_s {X : Int → Int} {LX : Nat} : ck_Ok p2_O X LX 301 p2_s1024 := ck_ok_s (O := p2_O) (X := X) (LX := LX) (E := []) (mi := 301) (cuts := []) (f := 92) (S := p2_s1024) (lx := none) (XF := []) ⟨p2_nmu, ck_E0⟩ ck_X0 ck_l0 (by decide +kernel)
set_option maxRecDepth 100000 in
/-- GlacierMailModel.isRock -/
noncomputable def p2_s1025 : ck_Sum := ((1, 0, 0), 245, [.inr (.inr (.inl 226)), .inl (ck_one 18)], ([], [], []), ([], []), [(.inr (some (.inl (ck_one 1))), 245, ([], [], [(227, 245, 245, ck_one (-1))])), (.inr (some (.inl (ck_one 0))), 245, ([], [], [(227, 245, 245, (0, 7, []))]))])
set_option maxRecDepth 100000 in
theorem p2_s1025_s {X : Int → Int} {LX : Nat} : ck_Ok p2_O X LX 303 p2_s1025 := ck_ok_s (O := p2_O) (X := X) (LX := LX) (E := [(301, [p2_s1024])]) (mi := 303) (cuts := []) (f := 86) (S := p2_s1025) (lx := none) (XF := []) ⟨p2_nmu, ck_E1 (ck_S1 p2_s1024_s ck_S0) ck_E0⟩ ck_X0 ck_l0 (by decide +kernel)
set_option maxRecDepth 100000 in
/-- GlacierMailModel.ofLetter -/
noncomputable def p2_s1026 : ck_Sum := ((0, 0, 0), 245, [.inr (.inr (.inl 226)), .inl (ck_one 18), .inl (ck_one 5)], ([], [], []), ([], []), [(.inr (some (.inl (ck_one (-1)))), 245, ([], [], [(227, 250, 250, ck_one (-1))])), (.inr (some (.inl (0, 7, []))), 245, ([], [], [(227, 250, 250, (0, 7, []))]))])
set_option maxRecDepth 100000 in
theorem p2_s1026_s {X : Int → Int} {LX : Nat} : ck_Ok p2_O X LX 301 p2_s1026 := ck_ok_s (O := p2_O) (X := X) (LX := LX) (E := []) (mi := 301) (cuts := []) (f := 92) (S := p2_s1026) (lx := none) (XF := []) ⟨p2_nmu, ck_E0⟩ ck_X0 ck_l0 (by decide +kernel)
set_option maxRecDepth 100000 in
/-- GlacierMailModel.isWaiting -/
noncomputable def p2_s1027 : ck_Sum := ((8, 0, 0), 245, [.inr (.inr (.inl 226)), .inl (ck_one 18)], ([], [], zl83), (zl81, []), [(.inr (some (.inl (ck_one 0))), 245, ([], [], [])), (.inr (some (.inl (ck_one 1))), 245, ([], [], [(226, 29, 29, (0, 299, [])), (227, 250, 250, ck_one (-1)), (227, 245, 245, (0, 7, []))]))])
set_option maxRecDepth 100000 in
theorem p2_s1027_s {X : Int → Int} {LX : Nat} : ck_Ok p2_O X LX 302 p2_s1027 := ck_ok_s (O := p2_O) (X := X) (LX := LX) (E := [(303, [p2_s1025]), (301, [p2_s1026]), (304, [p2_s381]), (266, [p2_s190])]) (mi := 302) (cuts := []) (f := 114) (S := p2_s1027) (lx := none) (XF := []) ⟨p2_nmu, ck_E1 (ck_S1 p2_s1025_s ck_S0) (ck_E1 (ck_S1 p2_s1026_s ck_S0) (ck_E1 (ck_S1 p2_s381_s ck_S0) (ck_E1 (ck_S1 p2_s190_s ck_S0) ck_E0)))⟩ ck_X0 ck_l0 (by decide +kernel)
set_option maxRecDepth 100000 in
/-- GlacierMailModel.ofLetter -/
noncomputable def p2_s1028 : ck_Sum := ((0, 0, 0), 245, [.inr (.inr (.inl 226)), .inl (ck_one 18), .inl (ck_one 1)], ([], [], []), ([], []), [(.inr (some (.inl (ck_one (-1)))), 245, ([], [], [(227, 246, 246, ck_one (-1))])), (.inr (some (.inl (0, 7, []))), 245, ([], [], [(227, 246, 246, (0, 7, []))]))])
set_option maxRecDepth 100000 in
theorem p2_s1028_s {X : Int → Int} {LX : Nat} : ck_Ok p2_O X LX 301 p2_s1028 := ck_ok_s (O := p2_O) (X := X) (LX := LX) (E := []) (mi := 301) (cuts := []) (f := 92) (S := p2_s1028) (lx := none) (XF := []) ⟨p2_nmu, ck_E0⟩ ck_X0 ck_l0 (by decide +kernel)
set_option maxRecDepth 100000 in
/-- GlacierMailModel.ofLetter -/
noncomputable def p2_s1029 : ck_Sum := ((0, 0, 0), 245, [.inr (.inr (.inl 226)), .inl (ck_one 18), .inl (ck_one 3)], ([], [], []), ([], []), [(.inr (some (.inl (0, 299, []))), 245, ([], [], []))])
set_option maxRecDepth 100000 in
theorem p2_s1029_s {X : Int → Int} {LX : Nat} : ck_Ok p2_O X LX 301 p2_s1029 := ck_ok_s (O := p2_O) (X := X) (LX := LX) (E := []) (mi := 301) (cuts := []) (f := 92) (S := p2_s1029) (lx := none) (XF := []) ⟨p2_nmu, ck_E0⟩ ck_X0 ck_l0 (by decide +kernel)
/-- GlacierMailModel.opens -/
noncomputable def p2_s1030 : ck_Sum := op_os0 18 (.inl (ck_one (-1))) 0 7 (-1) (-1)
theorem p2_s1030_s {X : Int → Int} {LX : Nat} : ck_Ok p2_O X LX 319 p2_s1030 := op_none (by decide) (by decide) (by decide)
/-- GlacierMailModel.opens -/
noncomputable def p2_s1031 : ck_Sum := op_os 18 0 7
theorem p2_s1031_s {X : Int → Int} {LX : Nat} : ck_Ok p2_O X LX 319 p2_s1031 := op_open (by decide) (by decide) (by decide +kernel)
set_option maxRecDepth 100000 in
/-- GlacierMailModel.open -/
noncomputable def p2_s1032 : ck_Sum := ((9, 0, 0), 245, [.inr (.inr (.inl 226)), .inl (ck_one 18)], ([], [], zl176), ([(226, 0, 0), (226, 6, 6), (226, 17, 23), (226, 26, 26), (226, 29, 30), (227, 14, 14), (227, 250, 251), (227, 323, 394), (230, 0, 4739), (233, 0, 399), (235, 0, 29699), (236, 0, 299), (237, 0, 299)], []), [(.inr (some (.inl (ck_one 0))), 245, ([], [], zl177)), (.inr (some (.inl ((-299), 299, []))), 245, ([], [], [(227, 250, 250, (0, 7, [])), (227, 246, 246, (0, 7, [])), (226, 6, 6, (1, 12, [(1000027, 0)])), (226, 29, 29, (0, 299, [])), (227, 245, 245, (0, 7, [])), (226, 0, 0, ck_one 0)]))])
set_option maxRecDepth 100000 in
theorem p2_s1032_s {X : Int → Int} {LX : Nat} : ck_Ok p2_O X LX 318 p2_s1032 := ck_ok_s (O := p2_O) (X := X) (LX := LX) (E := [(309, [p2_s1023]), (282, [p2_s241, p2_s242, p2_s244, p2_s243]), (302, [p2_s1027]), (316, [p2_s553]), (301, [p2_s1028, p2_s1029]), (319, [p2_s1030, p2_s1031]), (266, [p2_s190])]) (mi := 318) (cuts := []) (f := 142) (S := p2_s1032) (lx := none) (XF := []) ⟨p2_nmu, ck_E1 (ck_S1 p2_s1023_s ck_S0) (ck_E1 (ck_S1 p2_s241_s (ck_S1 p2_s242_s (ck_S1 p2_s244_s (ck_S1 p2_s243_s ck_S0)))) (ck_E1 (ck_S1 p2_s1027_s ck_S0) (ck_E1 (ck_S1 p2_s553_s ck_S0) (ck_E1 (ck_S1 p2_s1028_s (ck_S1 p2_s1029_s ck_S0)) (ck_E1 (ck_S1 p2_s1030_s (ck_S1 p2_s1031_s ck_S0)) (ck_E1 (ck_S1 p2_s190_s ck_S0) ck_E0))))))⟩ ck_X0 ck_l0 (by decide +kernel)
set_option maxRecDepth 100000 in
/-- GlacierMailModel.in -/
noncomputable def p2_s1033 : ck_Sum := ((0, 0, 0), 245, [.inl (ck_one 19), .inl (ck_one 0), .inl ((-1), 23, [])], ([], [], []), ([], []), [(.inr (some (.inl (ck_one 0))), 245, ([], [], [])), (.inr (some (.inl (ck_one 1))), 245, ([], [], []))])
set_option maxRecDepth 100000 in
theorem p2_s1033_s {X : Int → Int} {LX : Nat} : ck_Ok p2_O X LX 286 p2_s1033 := ck_ok_s (O := p2_O) (X := X) (LX := LX) (E := []) (mi := 286) (cuts := []) (f := 88) (S := p2_s1033) (lx := none) (XF := []) ⟨p2_nmu, ck_E0⟩ ck_X0 ck_l0 (by decide +kernel)
set_option maxRecDepth 100000 in
/-- GlacierMailModel.noLetter -/
noncomputable def p2_s1034 : ck_Sum := ((1, 0, 0), 245, [.inr (.inr (.inl 226)), .inl (ck_one 19)], ([], [], [(227, 4, 4, (0, 24, [(22, 0)]))]), ([], []), [(.inr (some (.inl (ck_one 1))), 245, ([], [], [])), (.inr (some (.inl (ck_one 0))), 245, ([], [], []))])
set_option maxRecDepth 100000 in
theorem p2_s1034_s {X : Int → Int} {LX : Nat} : ck_Ok p2_O X LX 309 p2_s1034 := ck_ok_s (O := p2_O) (X := X) (LX := LX) (E := [(254, [p2_s176]), (286, [p2_s1033])]) (mi := 309) (cuts := []) (f := 92) (S := p2_s1034) (lx := none) (XF := []) ⟨p2_nmu, ck_E1 (ck_S1 p2_s176_s ck_S0) (ck_E1 (ck_S1 p2_s1033_s ck_S0) ck_E0)⟩ ck_X0 ck_l0 (by decide +kernel)
set_option maxRecDepth 100000 in
/-- GlacierMailModel.ofLetter -/
noncomputable def p2_s1035 : ck_Sum := ((0, 0, 0), 245, [.inr (.inr (.inl 226)), .inl (ck_one 19), .inl (ck_one 0)], ([], [], []), ([], []), [(.inr (some (.inl (ck_one (-1)))), 245, ([], [], [(227, 252, 252, ck_one (-1))])), (.inr (some (.inl (0, 7, []))), 245, ([], [], [(227, 252, 252, (0, 7, []))]))])
set_option maxRecDepth 100000 in
theorem p2_s1035_s {X : Int → Int} {LX : Nat} : ck_Ok p2_O X LX 301 p2_s1035 := ck_ok_s (O := p2_O) (X := X) (LX := LX) (E := []) (mi := 301) (cuts := []) (f := 92) (S := p2_s1035) (lx := none) (XF := []) ⟨p2_nmu, ck_E0⟩ ck_X0 ck_l0 (by decide +kernel)
set_option maxRecDepth 100000 in
/-- GlacierMailModel.isRock -/
noncomputable def p2_s1036 : ck_Sum := ((1, 0, 0), 245, [.inr (.inr (.inl 226)), .inl (ck_one 19)], ([], [], []), ([], []), [(.inr (some (.inl (ck_one 1))), 245, ([], [], [(227, 252, 252, ck_one (-1))])), (.inr (some (.inl (ck_one 0))), 245, ([], [], [(227, 252, 252, (0, 7, []))]))])
set_option maxRecDepth 100000 in
theorem p2_s1036_s {X : Int → Int} {LX : Nat} : ck_Ok p2_O X LX 303 p2_s1036 := ck_ok_s (O := p2_O) (X := X) (LX := LX) (E := [(301, [p2_s1035])]) (mi := 303) (cuts := []) (f := 86) (S := p2_s1036) (lx := none) (XF := []) ⟨p2_nmu, ck_E1 (ck_S1 p2_s1035_s ck_S0) ck_E0⟩ ck_X0 ck_l0 (by decide +kernel)
set_option maxRecDepth 100000 in
/-- GlacierMailModel.ofLetter -/
noncomputable def p2_s1037 : ck_Sum := ((0, 0, 0), 245, [.inr (.inr (.inl 226)), .inl (ck_one 19), .inl (ck_one 5)], ([], [], []), ([], []), [(.inr (some (.inl (ck_one (-1)))), 245, ([], [], [(227, 257, 257, ck_one (-1))])), (.inr (some (.inl (0, 7, []))), 245, ([], [], [(227, 257, 257, (0, 7, []))]))])
set_option maxRecDepth 100000 in
theorem p2_s1037_s {X : Int → Int} {LX : Nat} : ck_Ok p2_O X LX 301 p2_s1037 := ck_ok_s (O := p2_O) (X := X) (LX := LX) (E := []) (mi := 301) (cuts := []) (f := 92) (S := p2_s1037) (lx := none) (XF := []) ⟨p2_nmu, ck_E0⟩ ck_X0 ck_l0 (by decide +kernel)
set_option maxRecDepth 100000 in
/-- GlacierMailModel.isWaiting -/
noncomputable def p2_s1038 : ck_Sum := ((8, 0, 0), 245, [.inr (.inr (.inl 226)), .inl (ck_one 19)], ([], [], zl83), (zl81, []), [(.inr (some (.inl (ck_one 0))), 245, ([], [], [])), (.inr (some (.inl (ck_one 1))), 245, ([], [], [(226, 29, 29, (0, 299, [])), (227, 257, 257, ck_one (-1)), (227, 252, 252, (0, 7, []))]))])
set_option maxRecDepth 100000 in
theorem p2_s1038_s {X : Int → Int} {LX : Nat} : ck_Ok p2_O X LX 302 p2_s1038 := ck_ok_s (O := p2_O) (X := X) (LX := LX) (E := [(303, [p2_s1036]), (301, [p2_s1037]), (304, [p2_s381]), (266, [p2_s190])]) (mi := 302) (cuts := []) (f := 114) (S := p2_s1038) (lx := none) (XF := []) ⟨p2_nmu, ck_E1 (ck_S1 p2_s1036_s ck_S0) (ck_E1 (ck_S1 p2_s1037_s ck_S0) (ck_E1 (ck_S1 p2_s381_s ck_S0) (ck_E1 (ck_S1 p2_s190_s ck_S0) ck_E0)))⟩ ck_X0 ck_l0 (by decide +kernel)
set_option maxRecDepth 100000 in
/-- GlacierMailModel.ofLetter -/
noncomputable def p2_s1039 : ck_Sum := ((0, 0, 0), 245, [.inr (.inr (.inl 226)), .inl (ck_one 19), .inl (ck_one 1)], ([], [], []), ([], []), [(.inr (some (.inl (ck_one (-1)))), 245, ([], [], [(227, 253, 253, ck_one (-1))])), (.inr (some (.inl (0, 7, []))), 245, ([], [], [(227, 253, 253, (0, 7, []))]))])
set_option maxRecDepth 100000 in
theorem p2_s1039_s {X : Int → Int} {LX : Nat} : ck_Ok p2_O X LX 301 p2_s1039 := ck_ok_s (O := p2_O) (X := X) (LX := LX) (E := []) (mi := 301) (cuts := []) (f := 92) (S := p2_s1039) (lx := none) (XF := []) ⟨p2_nmu, ck_E0⟩ ck_X0 ck_l0 (by decide +kernel)
set_option maxRecDepth 100000 in
/-- GlacierMailModel.ofLetter -/
noncomputable def p2_s1040 : ck_Sum := ((0, 0, 0), 245, [.inr (.inr (.inl 226)), .inl (ck_one 19), .inl (ck_one 3)], ([], [], []), ([], []), [(.inr (some (.inl (0, 299, []))), 245, ([], [], []))])
set_option maxRecDepth 100000 in
theorem p2_s1040_s {X : Int → Int} {LX : Nat} : ck_Ok p2_O X LX 301 p2_s1040 := ck_ok_s (O := p2_O) (X := X) (LX := LX) (E := []) (mi := 301) (cuts := []) (f := 92) (S := p2_s1040) (lx := none) (XF := []) ⟨p2_nmu, ck_E0⟩ ck_X0 ck_l0 (by decide +kernel)
/-- GlacierMailModel.opens -/
noncomputable def p2_s1041 : ck_Sum := op_os0 19 (.inl (ck_one (-1))) 0 7 (-1) (-1)
theorem p2_s1041_s {X : Int → Int} {LX : Nat} : ck_Ok p2_O X LX 319 p2_s1041 := op_none (by decide) (by decide) (by decide)
/-- GlacierMailModel.opens -/
noncomputable def p2_s1042 : ck_Sum := op_os 19 0 7
theorem p2_s1042_s {X : Int → Int} {LX : Nat} : ck_Ok p2_O X LX 319 p2_s1042 := op_open (by decide) (by decide) (by decide +kernel)
set_option maxRecDepth 100000 in
/-- GlacierMailModel.open -/
noncomputable def p2_s1043 : ck_Sum := ((9, 0, 0), 245, [.inr (.inr (.inl 226)), .inl (ck_one 19)], ([], [], zl176), ([(226, 0, 0), (226, 6, 6), (226, 17, 23), (226, 26, 26), (226, 29, 30), (227, 14, 14), (227, 257, 258), (227, 323, 394), (230, 0, 4739), (233, 0, 399), (235, 0, 29699), (236, 0, 299), (237, 0, 299)], []), [(.inr (some (.inl (ck_one 0))), 245, ([], [], zl177)), (.inr (some (.inl ((-299), 299, []))), 245, ([], [], [(227, 257, 257, (0, 7, [])), (227, 253, 253, (0, 7, [])), (226, 6, 6, (1, 12, [(1000027, 0)])), (226, 29, 29, (0, 299, [])), (227, 252, 252, (0, 7, [])), (226, 0, 0, ck_one 0)]))])
set_option maxRecDepth 100000 in
theorem p2_s1043_s {X : Int → Int} {LX : Nat} : ck_Ok p2_O X LX 318 p2_s1043 := ck_ok_s (O := p2_O) (X := X) (LX := LX) (E := [(309, [p2_s1034]), (282, [p2_s241, p2_s242, p2_s244, p2_s243]), (302, [p2_s1038]), (316, [p2_s553]), (301, [p2_s1039, p2_s1040]), (319, [p2_s1041, p2_s1042]), (266, [p2_s190])]) (mi := 318) (cuts := []) (f := 142) (S := p2_s1043) (lx := none) (XF := []) ⟨p2_nmu, ck_E1 (ck_S1 p2_s1034_s ck_S0) (ck_E1 (ck_S1 p2_s241_s (ck_S1 p2_s242_s (ck_S1 p2_s244_s (ck_S1 p2_s243_s ck_S0)))) (ck_E1 (ck_S1 p2_s1038_s ck_S0) (ck_E1 (ck_S1 p2_s553_s ck_S0) (ck_E1 (ck_S1 p2_s1039_s (ck_S1 p2_s1040_s ck_S0)) (ck_E1 (ck_S1 p2_s1041_s (ck_S1 p2_s1042_s ck_S0)) (ck_E1 (ck_S1 p2_s190_s ck_S0) ck_E0))))))⟩ ck_X0 ck_l0 (by decide +kernel)
set_option maxRecDepth 100000 in
/-- GlacierMailModel.in -/
noncomputable def p2_s1044 : ck_Sum := ((0, 0, 0), 245, [.inl (ck_one 20), .inl (ck_one 0), .inl ((-1), 23, [])], ([], [], []), ([], []), [(.inr (some (.inl (ck_one 0))), 245, ([], [], [])), (.inr (some (.inl (ck_one 1))), 245, ([], [], []))])
set_option maxRecDepth 100000 in
theorem p2_s1044_s {X : Int → Int} {LX : Nat} : ck_Ok p2_O X LX 286 p2_s1044 := ck_ok_s (O := p2_O) (X := X) (LX := LX) (E := []) (mi := 286) (cuts := []) (f := 88) (S := p2_s1044) (lx := none) (XF := []) ⟨p2_nmu, ck_E0⟩ ck_X0 ck_l0 (by decide +kernel)
set_option maxRecDepth 100000 in
/-- GlacierMailModel.noLetter -/
noncomputable def p2_s1045 : ck_Sum := ((1, 0, 0), 245, [.inr (.inr (.inl 226)), .inl (ck_one 20)], ([], [], [(227, 4, 4, (0, 24, [(22, 0)]))]), ([], []), [(.inr (some (.inl (ck_one 1))), 245, ([], [], [])), (.inr (some (.inl (ck_one 0))), 245, ([], [], []))])
set_option maxRecDepth 100000 in
theorem p2_s1045_s {X : Int → Int} {LX : Nat} : ck_Ok p2_O X LX 309 p2_s1045 := ck_ok_s (O := p2_O) (X := X) (LX := LX) (E := [(254, [p2_s176]), (286, [p2_s1044])]) (mi := 309) (cuts := []) (f := 92) (S := p2_s1045) (lx := none) (XF := []) ⟨p2_nmu, ck_E1 (ck_S1 p2_s176_s ck_S0) (ck_E1 (ck_S1 p2_s1044_s ck_S0) ck_E0)⟩ ck_X0 ck_l0 (by decide +kernel)
set_option maxRecDepth 100000 in
/-- GlacierMailModel.ofLetter -/
noncomputable def p2_s1046 : ck_Sum := ((0, 0, 0), 245, [.inr (.inr (.inl 226)), .inl (ck_one 20), .inl (ck_one 0)], ([], [], []), ([], []), [(.inr (some (.inl (ck_one (-1)))), 245, ([], [], [(227, 259, 259, ck_one (-1))])), (.inr (some (.inl (0, 7, []))), 245, ([], [], [(227, 259, 259, (0, 7, []))]))])
set_option maxRecDepth 100000 in
theorem p2_s1046_s {X : Int → Int} {LX : Nat} : ck_Ok p2_O X LX 301 p2_s1046 := ck_ok_s (O := p2_O) (X := X) (LX := LX) (E := []) (mi := 301) (cuts := []) (f := 92) (S := p2_s1046) (lx := none) (XF := []) ⟨p2_nmu, ck_E0⟩ ck_X0 ck_l0 (by decide +kernel)
set_option maxRecDepth 100000 in
/-- GlacierMailModel.isRock -/
noncomputable def p2_s1047 : ck_Sum := ((1, 0, 0), 245, [.inr (.inr (.inl 226)), .inl (ck_one 20)], ([], [], []), ([], []), [(.inr (some (.inl (ck_one 1))), 245, ([], [], [(227, 259, 259, ck_one (-1))])), (.inr (some (.inl (ck_one 0))), 245, ([], [], [(227, 259, 259, (0, 7, []))]))])
set_option maxRecDepth 100000 in
theorem p2_s1047_s {X : Int → Int} {LX : Nat} : ck_Ok p2_O X LX 303 p2_s1047 := ck_ok_s (O := p2_O) (X := X) (LX := LX) (E := [(301, [p2_s1046])]) (mi := 303) (cuts := []) (f := 86) (S := p2_s1047) (lx := none) (XF := []) ⟨p2_nmu, ck_E1 (ck_S1 p2_s1046_s ck_S0) ck_E0⟩ ck_X0 ck_l0 (by decide +kernel)
set_option maxRecDepth 100000 in
/-- GlacierMailModel.ofLetter -/
noncomputable def p2_s1048 : ck_Sum := ((0, 0, 0), 245, [.inr (.inr (.inl 226)), .inl (ck_one 20), .inl (ck_one 5)], ([], [], []), ([], []), [(.inr (some (.inl (ck_one (-1)))), 245, ([], [], [(227, 264, 264, ck_one (-1))])), (.inr (some (.inl (0, 7, []))), 245, ([], [], [(227, 264, 264, (0, 7, []))]))])
set_option maxRecDepth 100000 in
theorem p2_s1048_s {X : Int → Int} {LX : Nat} : ck_Ok p2_O X LX 301 p2_s1048 := ck_ok_s (O := p2_O) (X := X) (LX := LX) (E := []) (mi := 301) (cuts := []) (f := 92) (S := p2_s1048) (lx := none) (XF := []) ⟨p2_nmu, ck_E0⟩ ck_X0 ck_l0 (by decide +kernel)
set_option maxRecDepth 100000 in
/-- GlacierMailModel.isWaiting -/
noncomputable def p2_s1049 : ck_Sum := ((8, 0, 0), 245, [.inr (.inr (.inl 226)), .inl (ck_one 20)], ([], [], zl83), (zl81, []), [(.inr (some (.inl (ck_one 0))), 245, ([], [], [])), (.inr (some (.inl (ck_one 1))), 245, ([], [], [(226, 29, 29, (0, 299, [])), (227, 264, 264, ck_one (-1)), (227, 259, 259, (0, 7, []))]))])
set_option maxRecDepth 100000 in
theorem p2_s1049_s {X : Int → Int} {LX : Nat} : ck_Ok p2_O X LX 302 p2_s1049 := ck_ok_s (O := p2_O) (X := X) (LX := LX) (E := [(303, [p2_s1047]), (301, [p2_s1048]), (304, [p2_s381]), (266, [p2_s190])]) (mi := 302) (cuts := []) (f := 114) (S := p2_s1049) (lx := none) (XF := []) ⟨p2_nmu, ck_E1 (ck_S1 p2_s1047_s ck_S0) (ck_E1 (ck_S1 p2_s1048_s ck_S0) (ck_E1 (ck_S1 p2_s381_s ck_S0) (ck_E1 (ck_S1 p2_s190_s ck_S0) ck_E0)))⟩ ck_X0 ck_l0 (by decide +kernel)
set_option maxRecDepth 100000 in
/-- GlacierMailModel.ofLetter -/
noncomputable def p2_s1050 : ck_Sum := ((0, 0, 0), 245, [.inr (.inr (.inl 226)), .inl (ck_one 20), .inl (ck_one 1)], ([], [], []), ([], []), [(.inr (some (.inl (ck_one (-1)))), 245, ([], [], [(227, 260, 260, ck_one (-1))])), (.inr (some (.inl (0, 7, []))), 245, ([], [], [(227, 260, 260, (0, 7, []))]))])
set_option maxRecDepth 100000 in
theorem p2_s1050_s {X : Int → Int} {LX : Nat} : ck_Ok p2_O X LX 301 p2_s1050 := ck_ok_s (O := p2_O) (X := X) (LX := LX) (E := []) (mi := 301) (cuts := []) (f := 92) (S := p2_s1050) (lx := none) (XF := []) ⟨p2_nmu, ck_E0⟩ ck_X0 ck_l0 (by decide +kernel)
set_option maxRecDepth 100000 in
/-- GlacierMailModel.ofLetter -/
noncomputable def p2_s1051 : ck_Sum := ((0, 0, 0), 245, [.inr (.inr (.inl 226)), .inl (ck_one 20), .inl (ck_one 3)], ([], [], []), ([], []), [(.inr (some (.inl (0, 299, []))), 245, ([], [], []))])
set_option maxRecDepth 100000 in
theorem p2_s1051_s {X : Int → Int} {LX : Nat} : ck_Ok p2_O X LX 301 p2_s1051 := ck_ok_s (O := p2_O) (X := X) (LX := LX) (E := []) (mi := 301) (cuts := []) (f := 92) (S := p2_s1051) (lx := none) (XF := []) ⟨p2_nmu, ck_E0⟩ ck_X0 ck_l0 (by decide +kernel)
/-- GlacierMailModel.opens -/
noncomputable def p2_s1052 : ck_Sum := op_os0 20 (.inl (ck_one (-1))) 0 7 (-1) (-1)
theorem p2_s1052_s {X : Int → Int} {LX : Nat} : ck_Ok p2_O X LX 319 p2_s1052 := op_none (by decide) (by decide) (by decide)
/-- GlacierMailModel.opens -/
noncomputable def p2_s1053 : ck_Sum := op_os 20 0 7
theorem p2_s1053_s {X : Int → Int} {LX : Nat} : ck_Ok p2_O X LX 319 p2_s1053 := op_open (by decide) (by decide) (by decide +kernel)
set_option maxRecDepth 100000 in
/-- GlacierMailModel.open -/
noncomputable def p2_s1054 : ck_Sum := ((9, 0, 0), 245, [.inr (.inr (.inl 226)), .inl (ck_one 20)], ([], [], zl176), ([(226, 0, 0), (226, 6, 6), (226, 17, 23), (226, 26, 26), (226, 29, 30), (227, 14, 14), (227, 264, 265), (227, 323, 394), (230, 0, 4739), (233, 0, 399), (235, 0, 29699), (236, 0, 299), (237, 0, 299)], []), [(.inr (some (.inl (ck_one 0))), 245, ([], [], zl177)), (.inr (some (.inl ((-299), 299, []))), 245, ([], [], [(227, 264, 264, (0, 7, [])), (227, 260, 260, (0, 7, [])), (226, 6, 6, (1, 12, [(1000027, 0)])), (226, 29, 29, (0, 299, [])), (227, 259, 259, (0, 7, [])), (226, 0, 0, ck_one 0)]))])
set_option maxRecDepth 100000 in
theorem p2_s1054_s {X : Int → Int} {LX : Nat} : ck_Ok p2_O X LX 318 p2_s1054 := ck_ok_s (O := p2_O) (X := X) (LX := LX) (E := [(309, [p2_s1045]), (282, [p2_s241, p2_s242, p2_s244, p2_s243]), (302, [p2_s1049]), (316, [p2_s553]), (301, [p2_s1050, p2_s1051]), (319, [p2_s1052, p2_s1053]), (266, [p2_s190])]) (mi := 318) (cuts := []) (f := 142) (S := p2_s1054) (lx := none) (XF := []) ⟨p2_nmu, ck_E1 (ck_S1 p2_s1045_s ck_S0) (ck_E1 (ck_S1 p2_s241_s (ck_S1 p2_s242_s (ck_S1 p2_s244_s (ck_S1 p2_s243_s ck_S0)))) (ck_E1 (ck_S1 p2_s1049_s ck_S0) (ck_E1 (ck_S1 p2_s553_s ck_S0) (ck_E1 (ck_S1 p2_s1050_s (ck_S1 p2_s1051_s ck_S0)) (ck_E1 (ck_S1 p2_s1052_s (ck_S1 p2_s1053_s ck_S0)) (ck_E1 (ck_S1 p2_s190_s ck_S0) ck_E0))))))⟩ ck_X0 ck_l0 (by decide +kernel)
set_option maxRecDepth 100000 in
/-- GlacierMailModel.in -/
noncomputable def p2_s1055 : ck_Sum := ((0, 0, 0), 245, [.inl (ck_one 21), .inl (ck_one 0), .inl ((-1), 23, [])], ([], [], []), ([], []), [(.inr (some (.inl (ck_one 0))), 245, ([], [], [])), (.inr (some (.inl (ck_one 1))), 245, ([], [], []))])
set_option maxRecDepth 100000 in
theorem p2_s1055_s {X : Int → Int} {LX : Nat} : ck_Ok p2_O X LX 286 p2_s1055 := ck_ok_s (O := p2_O) (X := X) (LX := LX) (E := []) (mi := 286) (cuts := []) (f := 88) (S := p2_s1055) (lx := none) (XF := []) ⟨p2_nmu, ck_E0⟩ ck_X0 ck_l0 (by decide +kernel)
set_option maxRecDepth 100000 in
/-- GlacierMailModel.noLetter -/
noncomputable def p2_s1056 : ck_Sum := ((1, 0, 0), 245, [.inr (.inr (.inl 226)), .inl (ck_one 21)], ([], [], [(227, 4, 4, (0, 24, [(22, 0)]))]), ([], []), [(.inr (some (.inl (ck_one 1))), 245, ([], [], [])), (.inr (some (.inl (ck_one 0))), 245, ([], [], []))])
set_option maxRecDepth 100000 in
theorem p2_s1056_s {X : Int → Int} {LX : Nat} : ck_Ok p2_O X LX 309 p2_s1056 := ck_ok_s (O := p2_O) (X := X) (LX := LX) (E := [(254, [p2_s176]), (286, [p2_s1055])]) (mi := 309) (cuts := []) (f := 92) (S := p2_s1056) (lx := none) (XF := []) ⟨p2_nmu, ck_E1 (ck_S1 p2_s176_s ck_S0) (ck_E1 (ck_S1 p2_s1055_s ck_S0) ck_E0)⟩ ck_X0 ck_l0 (by decide +kernel)
set_option maxRecDepth 100000 in
/-- GlacierMailModel.ofLetter -/
noncomputable def p2_s1057 : ck_Sum := ((0, 0, 0), 245, [.inr (.inr (.inl 226)), .inl (ck_one 21), .inl (ck_one 0)], ([], [], []), ([], []), [(.inr (some (.inl (ck_one (-1)))), 245, ([], [], [(227, 266, 266, ck_one (-1))])), (.inr (some (.inl (0, 7, []))), 245, ([], [], [(227, 266, 266, (0, 7, []))]))])
set_option maxRecDepth 100000 in
theorem p2_s1057_s {X : Int → Int} {LX : Nat} : ck_Ok p2_O X LX 301 p2_s1057 := ck_ok_s (O := p2_O) (X := X) (LX := LX) (E := []) (mi := 301) (cuts := []) (f := 92) (S := p2_s1057) (lx := none) (XF := []) ⟨p2_nmu, ck_E0⟩ ck_X0 ck_l0 (by decide +kernel)
set_option maxRecDepth 100000 in
/-- GlacierMailModel.isRock -/
noncomputable def p2_s1058 : ck_Sum := ((1, 0, 0), 245, [.inr (.inr (.inl 226)), .inl (ck_one 21)], ([], [], []), ([], []), [(.inr (some (.inl (ck_one 1))), 245, ([], [], [(227, 266, 266, ck_one (-1))])), (.inr (some (.inl (ck_one 0))), 245, ([], [], [(227, 266, 266, (0, 7, []))]))])
set_option maxRecDepth 100000 in
theorem p2_s1058_s {X : Int → Int} {LX : Nat} : ck_Ok p2_O X LX 303 p2_s1058 := ck_ok_s (O := p2_O) (X := X) (LX := LX) (E := [(301, [p2_s1057])]) (mi := 303) (cuts := []) (f := 86) (S := p2_s1058) (lx := none) (XF := []) ⟨p2_nmu, ck_E1 (ck_S1 p2_s1057_s ck_S0) ck_E0⟩ ck_X0 ck_l0 (by decide +kernel)
set_option maxRecDepth 100000 in
/-- GlacierMailModel.ofLetter -/
noncomputable def p2_s1059 : ck_Sum := ((0, 0, 0), 245, [.inr (.inr (.inl 226)), .inl (ck_one 21), .inl (ck_one 5)], ([], [], []), ([], []), [(.inr (some (.inl (ck_one (-1)))), 245, ([], [], [(227, 271, 271, ck_one (-1))])), (.inr (some (.inl (0, 7, []))), 245, ([], [], [(227, 271, 271, (0, 7, []))]))])
set_option maxRecDepth 100000 in
theorem p2_s1059_s {X : Int → Int} {LX : Nat} : ck_Ok p2_O X LX 301 p2_s1059 := ck_ok_s (O := p2_O) (X := X) (LX := LX) (E := []) (mi := 301) (cuts := []) (f := 92) (S := p2_s1059) (lx := none) (XF := []) ⟨p2_nmu, ck_E0⟩ ck_X0 ck_l0 (by decide +kernel)
set_option maxRecDepth 100000 in
/-- GlacierMailModel.isWaiting -/
noncomputable def p2_s1060 : ck_Sum := ((8, 0, 0), 245, [.inr (.inr (.inl 226)), .inl (ck_one 21)], ([], [], zl83), (zl81, []), [(.inr (some (.inl (ck_one 0))), 245, ([], [], [])), (.inr (some (.inl (ck_one 1))), 245, ([], [], [(226, 29, 29, (0, 299, [])), (227, 271, 271, ck_one (-1)), (227, 266, 266, (0, 7, []))]))])
set_option maxRecDepth 100000 in
theorem p2_s1060_s {X : Int → Int} {LX : Nat} : ck_Ok p2_O X LX 302 p2_s1060 := ck_ok_s (O := p2_O) (X := X) (LX := LX) (E := [(303, [p2_s1058]), (301, [p2_s1059]), (304, [p2_s381]), (266, [p2_s190])]) (mi := 302) (cuts := []) (f := 114) (S := p2_s1060) (lx := none) (XF := []) ⟨p2_nmu, ck_E1 (ck_S1 p2_s1058_s ck_S0) (ck_E1 (ck_S1 p2_s1059_s ck_S0) (ck_E1 (ck_S1 p2_s381_s ck_S0) (ck_E1 (ck_S1 p2_s190_s ck_S0) ck_E0)))⟩ ck_X0 ck_l0 (by decide +kernel)
set_option maxRecDepth 100000 in
/-- GlacierMailModel.ofLetter -/
noncomputable def p2_s1061 : ck_Sum := ((0, 0, 0), 245, [.inr (.inr (.inl 226)), .inl (ck_one 21), .inl (ck_one 1)], ([], [], []), ([], []), [(.inr (some (.inl (ck_one (-1)))), 245, ([], [], [(227, 267, 267, ck_one (-1))])), (.inr (some (.inl (0, 7, []))), 245, ([], [], [(227, 267, 267, (0, 7, []))]))])
set_option maxRecDepth 100000 in
theorem p2_s1061_s {X : Int → Int} {LX : Nat} : ck_Ok p2_O X LX 301 p2_s1061 := ck_ok_s (O := p2_O) (X := X) (LX := LX) (E := []) (mi := 301) (cuts := []) (f := 92) (S := p2_s1061) (lx := none) (XF := []) ⟨p2_nmu, ck_E0⟩ ck_X0 ck_l0 (by decide +kernel)
set_option maxRecDepth 100000 in
/-- GlacierMailModel.ofLetter -/
noncomputable def p2_s1062 : ck_Sum := ((0, 0, 0), 245, [.inr (.inr (.inl 226)), .inl (ck_one 21), .inl (ck_one 3)], ([], [], []), ([], []), [(.inr (some (.inl (0, 299, []))), 245, ([], [], []))])
set_option maxRecDepth 100000 in
theorem p2_s1062_s {X : Int → Int} {LX : Nat} : ck_Ok p2_O X LX 301 p2_s1062 := ck_ok_s (O := p2_O) (X := X) (LX := LX) (E := []) (mi := 301) (cuts := []) (f := 92) (S := p2_s1062) (lx := none) (XF := []) ⟨p2_nmu, ck_E0⟩ ck_X0 ck_l0 (by decide +kernel)
/-- GlacierMailModel.opens -/
noncomputable def p2_s1063 : ck_Sum := op_os0 21 (.inl (ck_one (-1))) 0 7 (-1) (-1)
theorem p2_s1063_s {X : Int → Int} {LX : Nat} : ck_Ok p2_O X LX 319 p2_s1063 := op_none (by decide) (by decide) (by decide)
/-- GlacierMailModel.opens -/
noncomputable def p2_s1064 : ck_Sum := op_os 21 0 7
theorem p2_s1064_s {X : Int → Int} {LX : Nat} : ck_Ok p2_O X LX 319 p2_s1064 := op_open (by decide) (by decide) (by decide +kernel)
set_option maxRecDepth 100000 in
/-- GlacierMailModel.open -/
noncomputable def p2_s1065 : ck_Sum := ((9, 0, 0), 245, [.inr (.inr (.inl 226)), .inl (ck_one 21)], ([], [], zl176), ([(226, 0, 0), (226, 6, 6), (226, 17, 23), (226, 26, 26), (226, 29, 30), (227, 14, 14), (227, 271, 272), (227, 323, 394), (230, 0, 4739), (233, 0, 399), (235, 0, 29699), (236, 0, 299), (237, 0, 299)], []), [(.inr (some (.inl (ck_one 0))), 245, ([], [], zl177)), (.inr (some (.inl ((-299), 299, []))), 245, ([], [], [(227, 271, 271, (0, 7, [])), (227, 267, 267, (0, 7, [])), (226, 6, 6, (1, 12, [(1000027, 0)])), (226, 29, 29, (0, 299, [])), (227, 266, 266, (0, 7, [])), (226, 0, 0, ck_one 0)]))])
set_option maxRecDepth 100000 in
theorem p2_s1065_s {X : Int → Int} {LX : Nat} : ck_Ok p2_O X LX 318 p2_s1065 := ck_ok_s (O := p2_O) (X := X) (LX := LX) (E := [(309, [p2_s1056]), (282, [p2_s241, p2_s242, p2_s244, p2_s243]), (302, [p2_s1060]), (316, [p2_s553]), (301, [p2_s1061, p2_s1062]), (319, [p2_s1063, p2_s1064]), (266, [p2_s190])]) (mi := 318) (cuts := []) (f := 142) (S := p2_s1065) (lx := none) (XF := []) ⟨p2_nmu, ck_E1 (ck_S1 p2_s1056_s ck_S0) (ck_E1 (ck_S1 p2_s241_s (ck_S1 p2_s242_s (ck_S1 p2_s244_s (ck_S1 p2_s243_s ck_S0)))) (ck_E1 (ck_S1 p2_s1060_s ck_S0) (ck_E1 (ck_S1 p2_s553_s ck_S0) (ck_E1 (ck_S1 p2_s1061_s (ck_S1 p2_s1062_s ck_S0)) (ck_E1 (ck_S1 p2_s1063_s (ck_S1 p2_s1064_s ck_S0)) (ck_E1 (ck_S1 p2_s190_s ck_S0) ck_E0))))))⟩ ck_X0 ck_l0 (by decide +kernel)
set_option maxRecDepth 100000 in
/-- GlacierMailModel.in -/
noncomputable def p2_s1066 : ck_Sum := ((0, 0, 0), 245, [.inl (ck_one 22), .inl (ck_one 0), .inl ((-1), 23, [])], ([], [], []), ([], []), [(.inr (some (.inl (ck_one 0))), 245, ([], [], [])), (.inr (some (.inl (ck_one 1))), 245, ([], [], []))])
set_option maxRecDepth 100000 in
theorem p2_s1066_s {X : Int → Int} {LX : Nat} : ck_Ok p2_O X LX 286 p2_s1066 := ck_ok_s (O := p2_O) (X := X) (LX := LX) (E := []) (mi := 286) (cuts := []) (f := 88) (S := p2_s1066) (lx := none) (XF := []) ⟨p2_nmu, ck_E0⟩ ck_X0 ck_l0 (by decide +kernel)
set_option maxRecDepth 100000 in
/-- GlacierMailModel.noLetter -/
noncomputable def p2_s1067 : ck_Sum := ((1, 0, 0), 245, [.inr (.inr (.inl 226)), .inl (ck_one 22)], ([], [], [(227, 4, 4, (0, 24, [(22, 0)]))]), ([], []), [(.inr (some (.inl (ck_one 1))), 245, ([], [], [])), (.inr (some (.inl (ck_one 0))), 245, ([], [], []))])
set_option maxRecDepth 100000 in
theorem p2_s1067_s {X : Int → Int} {LX : Nat} : ck_Ok p2_O X LX 309 p2_s1067 := ck_ok_s (O := p2_O) (X := X) (LX := LX) (E := [(254, [p2_s176]), (286, [p2_s1066])]) (mi := 309) (cuts := []) (f := 92) (S := p2_s1067) (lx := none) (XF := []) ⟨p2_nmu, ck_E1 (ck_S1 p2_s176_s ck_S0) (ck_E1 (ck_S1 p2_s1066_s ck_S0) ck_E0)⟩ ck_X0 ck_l0 (by decide +kernel)
set_option maxRecDepth 100000 in
/-- GlacierMailModel.ofLetter -/
noncomputable def p2_s1068 : ck_Sum := ((0, 0, 0), 245, [.inr (.inr (.inl 226)), .inl (ck_one 22), .inl (ck_one 0)], ([], [], []), ([], []), [(.inr (some (.inl (ck_one (-1)))), 245, ([], [], [(227, 273, 273, ck_one (-1))])), (.inr (some (.inl (0, 7, []))), 245, ([], [], [(227, 273, 273, (0, 7, []))]))])
set_option maxRecDepth 100000 in
theorem p2_s1068_s {X : Int → Int} {LX : Nat} : ck_Ok p2_O X LX 301 p2_s1068 := ck_ok_s (O := p2_O) (X := X) (LX := LX) (E := []) (mi := 301) (cuts := []) (f := 92) (S := p2_s1068) (lx := none) (XF := []) ⟨p2_nmu, ck_E0⟩ ck_X0 ck_l0 (by decide +kernel)
set_option maxRecDepth 100000 in
/-- GlacierMailModel.isRock -/
noncomputable def p2_s1069 : ck_Sum := ((1, 0, 0), 245, [.inr (.inr (.inl 226)), .inl (ck_one 22)], ([], [], []), ([], []), [(.inr (some (.inl (ck_one 1))), 245, ([], [], [(227, 273, 273, ck_one (-1))])), (.inr (some (.inl (ck_one 0))), 245, ([], [], [(227, 273, 273, (0, 7, []))]))])
set_option maxRecDepth 100000 in
theorem p2_s1069_s {X : Int → Int} {LX : Nat} : ck_Ok p2_O X LX 303 p2_s1069 := ck_ok_s (O := p2_O) (X := X) (LX := LX) (E := [(301, [p2_s1068])]) (mi := 303) (cuts := []) (f := 86) (S := p2_s1069) (lx := none) (XF := []) ⟨p2_nmu, ck_E1 (ck_S1 p2_s1068_s ck_S0) ck_E0⟩ ck_X0 ck_l0 (by decide +kernel)
set_option maxRecDepth 100000 in
/-- GlacierMailModel.ofLetter -/
noncomputable def p2_s1070 : ck_Sum := ((0, 0, 0), 245, [.inr (.inr (.inl 226)), .inl (ck_one 22), .inl (ck_one 5)], ([], [], []), ([], []), [(.inr (some (.inl (ck_one (-1)))), 245, ([], [], [(227, 278, 278, ck_one (-1))])), (.inr (some (.inl (0, 7, []))), 245, ([], [], [(227, 278, 278, (0, 7, []))]))])
set_option maxRecDepth 100000 in
theorem p2_s1070_s {X : Int → Int} {LX : Nat} : ck_Ok p2_O X LX 301 p2_s1070 := ck_ok_s (O := p2_O) (X := X) (LX := LX) (E := []) (mi := 301) (cuts := []) (f := 92) (S := p2_s1070) (lx := none) (XF := []) ⟨p2_nmu, ck_E0⟩ ck_X0 ck_l0 (by decide +kernel)
set_option maxRecDepth 100000 in
/-- GlacierMailModel.isWaiting -/
noncomputable def p2_s1071 : ck_Sum := ((8, 0, 0), 245, [.inr (.inr (.inl 226)), .inl (ck_one 22)], ([], [], zl83), (zl81, []), [(.inr (some (.inl (ck_one 0))), 245, ([], [], [])), (.inr (some (.inl (ck_one 1))), 245, ([], [], [(226, 29, 29, (0, 299, [])), (227, 278, 278, ck_one (-1)), (227, 273, 273, (0, 7, []))]))])
set_option maxRecDepth 100000 in
theorem p2_s1071_s {X : Int → Int} {LX : Nat} : ck_Ok p2_O X LX 302 p2_s1071 := ck_ok_s (O := p2_O) (X := X) (LX := LX) (E := [(303, [p2_s1069]), (301, [p2_s1070]), (304, [p2_s381]), (266, [p2_s190])]) (mi := 302) (cuts := []) (f := 114) (S := p2_s1071) (lx := none) (XF := []) ⟨p2_nmu, ck_E1 (ck_S1 p2_s1069_s ck_S0) (ck_E1 (ck_S1 p2_s1070_s ck_S0) (ck_E1 (ck_S1 p2_s381_s ck_S0) (ck_E1 (ck_S1 p2_s190_s ck_S0) ck_E0)))⟩ ck_X0 ck_l0 (by decide +kernel)
set_option maxRecDepth 100000 in
/-- GlacierMailModel.ofLetter -/
noncomputable def p2_s1072 : ck_Sum := ((0, 0, 0), 245, [.inr (.inr (.inl 226)), .inl (ck_one 22), .inl (ck_one 1)], ([], [], []), ([], []), [(.inr (some (.inl (ck_one (-1)))), 245, ([], [], [(227, 274, 274, ck_one (-1))])), (.inr (some (.inl (0, 7, []))), 245, ([], [], [(227, 274, 274, (0, 7, []))]))])
set_option maxRecDepth 100000 in
theorem p2_s1072_s {X : Int → Int} {LX : Nat} : ck_Ok p2_O X LX 301 p2_s1072 := ck_ok_s (O := p2_O) (X := X) (LX := LX) (E := []) (mi := 301) (cuts := []) (f := 92) (S := p2_s1072) (lx := none) (XF := []) ⟨p2_nmu, ck_E0⟩ ck_X0 ck_l0 (by decide +kernel)
set_option maxRecDepth 100000 in
/-- GlacierMailModel.ofLetter -/
noncomputable def p2_s1073 : ck_Sum := ((0, 0, 0), 245, [.inr (.inr (.inl 226)), .inl (ck_one 22), .inl (ck_one 3)], ([], [], []), ([], []), [(.inr (some (.inl (0, 299, []))), 245, ([], [], []))])
set_option maxRecDepth 100000 in
theorem p2_s1073_s {X : Int → Int} {LX : Nat} : ck_Ok p2_O X LX 301 p2_s1073 := ck_ok_s (O := p2_O) (X := X) (LX := LX) (E := []) (mi := 301) (cuts := []) (f := 92) (S := p2_s1073) (lx := none) (XF := []) ⟨p2_nmu, ck_E0⟩ ck_X0 ck_l0 (by decide +kernel)
/-- GlacierMailModel.opens -/
noncomputable def p2_s1074 : ck_Sum := op_os0 22 (.inl (ck_one (-1))) 0 7 (-1) (-1)
theorem p2_s1074_s {X : Int → Int} {LX : Nat} : ck_Ok p2_O X LX 319 p2_s1074 := op_none (by decide) (by decide) (by decide)
/-- GlacierMailModel.opens -/
noncomputable def p2_s1075 : ck_Sum := op_os 22 0 7
theorem p2_s1075_s {X : Int → Int} {LX : Nat} : ck_Ok p2_O X LX 319 p2_s1075 := op_open (by decide) (by decide) (by decide +kernel)
set_option maxRecDepth 100000 in
/-- GlacierMailModel.open -/
noncomputable def p2_s1076 : ck_Sum := ((9, 0, 0), 245, [.inr (.inr (.inl 226)), .inl (ck_one 22)], ([], [], zl176), ([(226, 0, 0), (226, 6, 6), (226, 17, 23), (226, 26, 26), (226, 29, 30), (227, 14, 14), (227, 278, 279), (227, 323, 394), (230, 0, 4739), (233, 0, 399), (235, 0, 29699), (236, 0, 299), (237, 0, 299)], []), [(.inr (some (.inl (ck_one 0))), 245, ([], [], zl177)), (.inr (some (.inl ((-299), 299, []))), 245, ([], [], [(227, 278, 278, (0, 7, [])), (227, 274, 274, (0, 7, [])), (226, 6, 6, (1, 12, [(1000027, 0)])), (226, 29, 29, (0, 299, [])), (227, 273, 273, (0, 7, [])), (226, 0, 0, ck_one 0)]))])
set_option maxRecDepth 100000 in
theorem p2_s1076_s {X : Int → Int} {LX : Nat} : ck_Ok p2_O X LX 318 p2_s1076 := ck_ok_s (O := p2_O) (X := X) (LX := LX) (E := [(309, [p2_s1067]), (282, [p2_s241, p2_s242, p2_s244, p2_s243]), (302, [p2_s1071]), (316, [p2_s553]), (301, [p2_s1072, p2_s1073]), (319, [p2_s1074, p2_s1075]), (266, [p2_s190])]) (mi := 318) (cuts := []) (f := 142) (S := p2_s1076) (lx := none) (XF := []) ⟨p2_nmu, ck_E1 (ck_S1 p2_s1067_s ck_S0) (ck_E1 (ck_S1 p2_s241_s (ck_S1 p2_s242_s (ck_S1 p2_s244_s (ck_S1 p2_s243_s ck_S0)))) (ck_E1 (ck_S1 p2_s1071_s ck_S0) (ck_E1 (ck_S1 p2_s553_s ck_S0) (ck_E1 (ck_S1 p2_s1072_s (ck_S1 p2_s1073_s ck_S0)) (ck_E1 (ck_S1 p2_s1074_s (ck_S1 p2_s1075_s ck_S0)) (ck_E1 (ck_S1 p2_s190_s ck_S0) ck_E0))))))⟩ ck_X0 ck_l0 (by decide +kernel)
set_option maxRecDepth 100000 in
/-- GlacierMailModel.in -/
noncomputable def p2_s1077 : ck_Sum := ((0, 0, 0), 245, [.inl (ck_one 23), .inl (ck_one 0), .inl ((-1), 23, [])], ([], [], []), ([], []), [(.inr (some (.inl (ck_one 0))), 245, ([], [], [])), (.inr (some (.inl (ck_one 1))), 245, ([], [], []))])
set_option maxRecDepth 100000 in
theorem p2_s1077_s {X : Int → Int} {LX : Nat} : ck_Ok p2_O X LX 286 p2_s1077 := ck_ok_s (O := p2_O) (X := X) (LX := LX) (E := []) (mi := 286) (cuts := []) (f := 88) (S := p2_s1077) (lx := none) (XF := []) ⟨p2_nmu, ck_E0⟩ ck_X0 ck_l0 (by decide +kernel)
set_option maxRecDepth 100000 in
/-- GlacierMailModel.noLetter -/
noncomputable def p2_s1078 : ck_Sum := ((1, 0, 0), 245, [.inr (.inr (.inl 226)), .inl (ck_one 23)], ([], [], [(227, 4, 4, (0, 24, [(22, 0)]))]), ([], []), [(.inr (some (.inl (ck_one 1))), 245, ([], [], [])), (.inr (some (.inl (ck_one 0))), 245, ([], [], []))])
set_option maxRecDepth 100000 in
theorem p2_s1078_s {X : Int → Int} {LX : Nat} : ck_Ok p2_O X LX 309 p2_s1078 := ck_ok_s (O := p2_O) (X := X) (LX := LX) (E := [(254, [p2_s176]), (286, [p2_s1077])]) (mi := 309) (cuts := []) (f := 92) (S := p2_s1078) (lx := none) (XF := []) ⟨p2_nmu, ck_E1 (ck_S1 p2_s176_s ck_S0) (ck_E1 (ck_S1 p2_s1077_s ck_S0) ck_E0)⟩ ck_X0 ck_l0 (by decide +kernel)
set_option maxRecDepth 100000 in
/-- GlacierMailModel.ofLetter -/
noncomputable def p2_s1079 : ck_Sum := ((0, 0, 0), 245, [.inr (.inr (.inl 226)), .inl (ck_one 23), .inl (ck_one 0)], ([], [], []), ([], []), [(.inr (some (.inl (ck_one (-1)))), 245, ([], [], [(227, 280, 280, ck_one (-1))])), (.inr (some (.inl (0, 7, []))), 245, ([], [], [(227, 280, 280, (0, 7, []))]))])
set_option maxRecDepth 100000 in
theorem p2_s1079_s {X : Int → Int} {LX : Nat} : ck_Ok p2_O X LX 301 p2_s1079 := ck_ok_s (O := p2_O) (X := X) (LX := LX) (E := []) (mi := 301) (cuts := []) (f := 92) (S := p2_s1079) (lx := none) (XF := []) ⟨p2_nmu, ck_E0⟩ ck_X0 ck_l0 (by decide +kernel)
set_option maxRecDepth 100000 in
/-- GlacierMailModel.isRock -/
noncomputable def p2_s1080 : ck_Sum := ((1, 0, 0), 245, [.inr (.inr (.inl 226)), .inl (ck_one 23)], ([], [], []), ([], []), [(.inr (some (.inl (ck_one 1))), 245, ([], [], [(227, 280, 280, ck_one (-1))])), (.inr (some (.inl (ck_one 0))), 245, ([], [], [(227, 280, 280, (0, 7, []))]))])
set_option maxRecDepth 100000 in
theorem p2_s1080_s {X : Int → Int} {LX : Nat} : ck_Ok p2_O X LX 303 p2_s1080 := ck_ok_s (O := p2_O) (X := X) (LX := LX) (E := [(301, [p2_s1079])]) (mi := 303) (cuts := []) (f := 86) (S := p2_s1080) (lx := none) (XF := []) ⟨p2_nmu, ck_E1 (ck_S1 p2_s1079_s ck_S0) ck_E0⟩ ck_X0 ck_l0 (by decide +kernel)
