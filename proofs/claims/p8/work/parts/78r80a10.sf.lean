/-! EVERY CALL ENDS, whatever was done before (laid by wip/am/p2k.py). -/
set_option maxRecDepth 100000 in
/-- GlacierMailModel.in -/
noncomputable def p2_s901 : ck_Sum := ((0, 0, 0), 245, [.inl (ck_one 7), .inl (ck_one 0), .inl ((-1), 23, [])], ([], [], []), ([], []), [(.inr (some (.inl (ck_one 0))), 245, ([], [], [])), (.inr (some (.inl (ck_one 1))), 245, ([], [], []))])
set_option maxRecDepth 100000 in
theorem p2_s901_s {X : Int → Int} {LX : Nat} : ck_Ok p2_O X LX 286 p2_s901 := ck_ok_s (O := p2_O) (X := X) (LX := LX) (E := []) (mi := 286) (cuts := []) (f := 88) (S := p2_s901) (lx := none) (XF := []) ⟨p2_nmu, ck_E0⟩ ck_X0 ck_l0 (by decide +kernel)
set_option maxRecDepth 100000 in
/-- GlacierMailModel.noLetter -/
noncomputable def p2_s902 : ck_Sum := ((1, 0, 0), 245, [.inr (.inr (.inl 226)), .inl (ck_one 7)], ([], [], [(227, 4, 4, (0, 24, [(22, 0)]))]), ([], []), [(.inr (some (.inl (ck_one 1))), 245, ([], [], [])), (.inr (some (.inl (ck_one 0))), 245, ([], [], []))])
set_option maxRecDepth 100000 in
theorem p2_s902_s {X : Int → Int} {LX : Nat} : ck_Ok p2_O X LX 309 p2_s902 := ck_ok_s (O := p2_O) (X := X) (LX := LX) (E := [(254, [p2_s176]), (286, [p2_s901])]) (mi := 309) (cuts := []) (f := 92) (S := p2_s902) (lx := none) (XF := []) ⟨p2_nmu, ck_E1 (ck_S1 p2_s176_s ck_S0) (ck_E1 (ck_S1 p2_s901_s ck_S0) ck_E0)⟩ ck_X0 ck_l0 (by decide +kernel)
set_option maxRecDepth 100000 in
/-- GlacierMailModel.ofLetter -/
noncomputable def p2_s903 : ck_Sum := ((0, 0, 0), 245, [.inr (.inr (.inl 226)), .inl (ck_one 7), .inl (ck_one 0)], ([], [], []), ([], []), [(.inr (some (.inl (ck_one (-1)))), 245, ([], [], [(227, 168, 168, ck_one (-1))])), (.inr (some (.inl (0, 7, []))), 245, ([], [], [(227, 168, 168, (0, 7, []))]))])
set_option maxRecDepth 100000 in
theorem p2_s903_s {X : Int → Int} {LX : Nat} : ck_Ok p2_O X LX 301 p2_s903 := ck_ok_s (O := p2_O) (X := X) (LX := LX) (E := []) (mi := 301) (cuts := []) (f := 92) (S := p2_s903) (lx := none) (XF := []) ⟨p2_nmu, ck_E0⟩ ck_X0 ck_l0 (by decide +kernel)
set_option maxRecDepth 100000 in
/-- GlacierMailModel.isRock -/
noncomputable def p2_s904 : ck_Sum := ((1, 0, 0), 245, [.inr (.inr (.inl 226)), .inl (ck_one 7)], ([], [], []), ([], []), [(.inr (some (.inl (ck_one 1))), 245, ([], [], [(227, 168, 168, ck_one (-1))])), (.inr (some (.inl (ck_one 0))), 245, ([], [], [(227, 168, 168, (0, 7, []))]))])
set_option maxRecDepth 100000 in
theorem p2_s904_s {X : Int → Int} {LX : Nat} : ck_Ok p2_O X LX 303 p2_s904 := ck_ok_s (O := p2_O) (X := X) (LX := LX) (E := [(301, [p2_s903])]) (mi := 303) (cuts := []) (f := 86) (S := p2_s904) (lx := none) (XF := []) ⟨p2_nmu, ck_E1 (ck_S1 p2_s903_s ck_S0) ck_E0⟩ ck_X0 ck_l0 (by decide +kernel)
set_option maxRecDepth 100000 in
/-- GlacierMailModel.ofLetter -/
noncomputable def p2_s905 : ck_Sum := ((0, 0, 0), 245, [.inr (.inr (.inl 226)), .inl (ck_one 7), .inl (ck_one 5)], ([], [], []), ([], []), [(.inr (some (.inl (ck_one (-1)))), 245, ([], [], [(227, 173, 173, ck_one (-1))])), (.inr (some (.inl (0, 7, []))), 245, ([], [], [(227, 173, 173, (0, 7, []))]))])
set_option maxRecDepth 100000 in
theorem p2_s905_s {X : Int → Int} {LX : Nat} : ck_Ok p2_O X LX 301 p2_s905 := ck_ok_s (O := p2_O) (X := X) (LX := LX) (E := []) (mi := 301) (cuts := []) (f := 92) (S := p2_s905) (lx := none) (XF := []) ⟨p2_nmu, ck_E0⟩ ck_X0 ck_l0 (by decide +kernel)
set_option maxRecDepth 100000 in
/-- GlacierMailModel.isWaiting -/
noncomputable def p2_s906 : ck_Sum := ((8, 0, 0), 245, [.inr (.inr (.inl 226)), .inl (ck_one 7)], ([], [], zl83), (zl81, []), [(.inr (some (.inl (ck_one 0))), 245, ([], [], [])), (.inr (some (.inl (ck_one 1))), 245, ([], [], [(226, 29, 29, (0, 299, [])), (227, 173, 173, ck_one (-1)), (227, 168, 168, (0, 7, []))]))])
set_option maxRecDepth 100000 in
theorem p2_s906_s {X : Int → Int} {LX : Nat} : ck_Ok p2_O X LX 302 p2_s906 := ck_ok_s (O := p2_O) (X := X) (LX := LX) (E := [(303, [p2_s904]), (301, [p2_s905]), (304, [p2_s381]), (266, [p2_s190])]) (mi := 302) (cuts := []) (f := 114) (S := p2_s906) (lx := none) (XF := []) ⟨p2_nmu, ck_E1 (ck_S1 p2_s904_s ck_S0) (ck_E1 (ck_S1 p2_s905_s ck_S0) (ck_E1 (ck_S1 p2_s381_s ck_S0) (ck_E1 (ck_S1 p2_s190_s ck_S0) ck_E0)))⟩ ck_X0 ck_l0 (by decide +kernel)
set_option maxRecDepth 100000 in
/-- GlacierMailModel.ofLetter -/
noncomputable def p2_s907 : ck_Sum := ((0, 0, 0), 245, [.inr (.inr (.inl 226)), .inl (ck_one 7), .inl (ck_one 1)], ([], [], []), ([], []), [(.inr (some (.inl (ck_one (-1)))), 245, ([], [], [(227, 169, 169, ck_one (-1))])), (.inr (some (.inl (0, 7, []))), 245, ([], [], [(227, 169, 169, (0, 7, []))]))])
set_option maxRecDepth 100000 in
theorem p2_s907_s {X : Int → Int} {LX : Nat} : ck_Ok p2_O X LX 301 p2_s907 := ck_ok_s (O := p2_O) (X := X) (LX := LX) (E := []) (mi := 301) (cuts := []) (f := 92) (S := p2_s907) (lx := none) (XF := []) ⟨p2_nmu, ck_E0⟩ ck_X0 ck_l0 (by decide +kernel)
set_option maxRecDepth 100000 in
/-- GlacierMailModel.ofLetter -/
noncomputable def p2_s908 : ck_Sum := ((0, 0, 0), 245, [.inr (.inr (.inl 226)), .inl (ck_one 7), .inl (ck_one 3)], ([], [], []), ([], []), [(.inr (some (.inl (0, 299, []))), 245, ([], [], []))])
set_option maxRecDepth 100000 in
theorem p2_s908_s {X : Int → Int} {LX : Nat} : ck_Ok p2_O X LX 301 p2_s908 := ck_ok_s (O := p2_O) (X := X) (LX := LX) (E := []) (mi := 301) (cuts := []) (f := 92) (S := p2_s908) (lx := none) (XF := []) ⟨p2_nmu, ck_E0⟩ ck_X0 ck_l0 (by decide +kernel)
/-- GlacierMailModel.opens -/
noncomputable def p2_s909 : ck_Sum := op_os0 7 (.inl (ck_one (-1))) 0 7 (-1) (-1)
theorem p2_s909_s {X : Int → Int} {LX : Nat} : ck_Ok p2_O X LX 319 p2_s909 := op_none (by decide) (by decide) (by decide)
/-- GlacierMailModel.opens -/
noncomputable def p2_s910 : ck_Sum := op_os 7 0 7
theorem p2_s910_s {X : Int → Int} {LX : Nat} : ck_Ok p2_O X LX 319 p2_s910 := op_open (by decide) (by decide) (by decide +kernel)
set_option maxRecDepth 100000 in
/-- GlacierMailModel.open -/
noncomputable def p2_s911 : ck_Sum := ((9, 0, 0), 245, [.inr (.inr (.inl 226)), .inl (ck_one 7)], ([], [], zl176), ([(226, 0, 0), (226, 6, 6), (226, 17, 23), (226, 26, 26), (226, 29, 30), (227, 14, 14), (227, 173, 174), (227, 323, 394), (230, 0, 4739), (233, 0, 399), (235, 0, 29699), (236, 0, 299), (237, 0, 299)], []), [(.inr (some (.inl (ck_one 0))), 245, ([], [], zl177)), (.inr (some (.inl ((-299), 299, []))), 245, ([], [], [(227, 173, 173, (0, 7, [])), (227, 169, 169, (0, 7, [])), (226, 6, 6, (1, 12, [(1000027, 0)])), (226, 29, 29, (0, 299, [])), (227, 168, 168, (0, 7, [])), (226, 0, 0, ck_one 0)]))])
set_option maxRecDepth 100000 in
theorem p2_s911_s {X : Int → Int} {LX : Nat} : ck_Ok p2_O X LX 318 p2_s911 := ck_ok_s (O := p2_O) (X := X) (LX := LX) (E := [(309, [p2_s902]), (282, [p2_s241, p2_s242, p2_s244, p2_s243]), (302, [p2_s906]), (316, [p2_s553]), (301, [p2_s907, p2_s908]), (319, [p2_s909, p2_s910]), (266, [p2_s190])]) (mi := 318) (cuts := []) (f := 142) (S := p2_s911) (lx := none) (XF := []) ⟨p2_nmu, ck_E1 (ck_S1 p2_s902_s ck_S0) (ck_E1 (ck_S1 p2_s241_s (ck_S1 p2_s242_s (ck_S1 p2_s244_s (ck_S1 p2_s243_s ck_S0)))) (ck_E1 (ck_S1 p2_s906_s ck_S0) (ck_E1 (ck_S1 p2_s553_s ck_S0) (ck_E1 (ck_S1 p2_s907_s (ck_S1 p2_s908_s ck_S0)) (ck_E1 (ck_S1 p2_s909_s (ck_S1 p2_s910_s ck_S0)) (ck_E1 (ck_S1 p2_s190_s ck_S0) ck_E0))))))⟩ ck_X0 ck_l0 (by decide +kernel)
set_option maxRecDepth 100000 in
/-- GlacierMailModel.in -/
noncomputable def p2_s912 : ck_Sum := ((0, 0, 0), 245, [.inl (ck_one 8), .inl (ck_one 0), .inl ((-1), 23, [])], ([], [], []), ([], []), [(.inr (some (.inl (ck_one 0))), 245, ([], [], [])), (.inr (some (.inl (ck_one 1))), 245, ([], [], []))])
set_option maxRecDepth 100000 in
theorem p2_s912_s {X : Int → Int} {LX : Nat} : ck_Ok p2_O X LX 286 p2_s912 := ck_ok_s (O := p2_O) (X := X) (LX := LX) (E := []) (mi := 286) (cuts := []) (f := 88) (S := p2_s912) (lx := none) (XF := []) ⟨p2_nmu, ck_E0⟩ ck_X0 ck_l0 (by decide +kernel)
set_option maxRecDepth 100000 in
/-- GlacierMailModel.noLetter -/
noncomputable def p2_s913 : ck_Sum := ((1, 0, 0), 245, [.inr (.inr (.inl 226)), .inl (ck_one 8)], ([], [], [(227, 4, 4, (0, 24, [(22, 0)]))]), ([], []), [(.inr (some (.inl (ck_one 1))), 245, ([], [], [])), (.inr (some (.inl (ck_one 0))), 245, ([], [], []))])
set_option maxRecDepth 100000 in
theorem p2_s913_s {X : Int → Int} {LX : Nat} : ck_Ok p2_O X LX 309 p2_s913 := ck_ok_s (O := p2_O) (X := X) (LX := LX) (E := [(254, [p2_s176]), (286, [p2_s912])]) (mi := 309) (cuts := []) (f := 92) (S := p2_s913) (lx := none) (XF := []) ⟨p2_nmu, ck_E1 (ck_S1 p2_s176_s ck_S0) (ck_E1 (ck_S1 p2_s912_s ck_S0) ck_E0)⟩ ck_X0 ck_l0 (by decide +kernel)
set_option maxRecDepth 100000 in
/-- GlacierMailModel.ofLetter -/
noncomputable def p2_s914 : ck_Sum := ((0, 0, 0), 245, [.inr (.inr (.inl 226)), .inl (ck_one 8), .inl (ck_one 0)], ([], [], []), ([], []), [(.inr (some (.inl (ck_one (-1)))), 245, ([], [], [(227, 175, 175, ck_one (-1))])), (.inr (some (.inl (0, 7, []))), 245, ([], [], [(227, 175, 175, (0, 7, []))]))])
set_option maxRecDepth 100000 in
theorem p2_s914_s {X : Int → Int} {LX : Nat} : ck_Ok p2_O X LX 301 p2_s914 := ck_ok_s (O := p2_O) (X := X) (LX := LX) (E := []) (mi := 301) (cuts := []) (f := 92) (S := p2_s914) (lx := none) (XF := []) ⟨p2_nmu, ck_E0⟩ ck_X0 ck_l0 (by decide +kernel)
set_option maxRecDepth 100000 in
/-- GlacierMailModel.isRock -/
noncomputable def p2_s915 : ck_Sum := ((1, 0, 0), 245, [.inr (.inr (.inl 226)), .inl (ck_one 8)], ([], [], []), ([], []), [(.inr (some (.inl (ck_one 1))), 245, ([], [], [(227, 175, 175, ck_one (-1))])), (.inr (some (.inl (ck_one 0))), 245, ([], [], [(227, 175, 175, (0, 7, []))]))])
set_option maxRecDepth 100000 in
theorem p2_s915_s {X : Int → Int} {LX : Nat} : ck_Ok p2_O X LX 303 p2_s915 := ck_ok_s (O := p2_O) (X := X) (LX := LX) (E := [(301, [p2_s914])]) (mi := 303) (cuts := []) (f := 86) (S := p2_s915) (lx := none) (XF := []) ⟨p2_nmu, ck_E1 (ck_S1 p2_s914_s ck_S0) ck_E0⟩ ck_X0 ck_l0 (by decide +kernel)
set_option maxRecDepth 100000 in
/-- GlacierMailModel.ofLetter -/
noncomputable def p2_s916 : ck_Sum := ((0, 0, 0), 245, [.inr (.inr (.inl 226)), .inl (ck_one 8), .inl (ck_one 5)], ([], [], []), ([], []), [(.inr (some (.inl (ck_one (-1)))), 245, ([], [], [(227, 180, 180, ck_one (-1))])), (.inr (some (.inl (0, 7, []))), 245, ([], [], [(227, 180, 180, (0, 7, []))]))])
set_option maxRecDepth 100000 in
theorem p2_s916_s {X : Int → Int} {LX : Nat} : ck_Ok p2_O X LX 301 p2_s916 := ck_ok_s (O := p2_O) (X := X) (LX := LX) (E := []) (mi := 301) (cuts := []) (f := 92) (S := p2_s916) (lx := none) (XF := []) ⟨p2_nmu, ck_E0⟩ ck_X0 ck_l0 (by decide +kernel)
set_option maxRecDepth 100000 in
/-- GlacierMailModel.isWaiting -/
noncomputable def p2_s917 : ck_Sum := ((8, 0, 0), 245, [.inr (.inr (.inl 226)), .inl (ck_one 8)], ([], [], zl83), (zl81, []), [(.inr (some (.inl (ck_one 0))), 245, ([], [], [])), (.inr (some (.inl (ck_one 1))), 245, ([], [], [(226, 29, 29, (0, 299, [])), (227, 180, 180, ck_one (-1)), (227, 175, 175, (0, 7, []))]))])
set_option maxRecDepth 100000 in
theorem p2_s917_s {X : Int → Int} {LX : Nat} : ck_Ok p2_O X LX 302 p2_s917 := ck_ok_s (O := p2_O) (X := X) (LX := LX) (E := [(303, [p2_s915]), (301, [p2_s916]), (304, [p2_s381]), (266, [p2_s190])]) (mi := 302) (cuts := []) (f := 114) (S := p2_s917) (lx := none) (XF := []) ⟨p2_nmu, ck_E1 (ck_S1 p2_s915_s ck_S0) (ck_E1 (ck_S1 p2_s916_s ck_S0) (ck_E1 (ck_S1 p2_s381_s ck_S0) (ck_E1 (ck_S1 p2_s190_s ck_S0) ck_E0)))⟩ ck_X0 ck_l0 (by decide +kernel)
set_option maxRecDepth 100000 in
/-- GlacierMailModel.ofLetter -/
noncomputable def p2_s918 : ck_Sum := ((0, 0, 0), 245, [.inr (.inr (.inl 226)), .inl (ck_one 8), .inl (ck_one 1)], ([], [], []), ([], []), [(.inr (some (.inl (ck_one (-1)))), 245, ([], [], [(227, 176, 176, ck_one (-1))])), (.inr (some (.inl (0, 7, []))), 245, ([], [], [(227, 176, 176, (0, 7, []))]))])
set_option maxRecDepth 100000 in
theorem p2_s918_s {X : Int → Int} {LX : Nat} : ck_Ok p2_O X LX 301 p2_s918 := ck_ok_s (O := p2_O) (X := X) (LX := LX) (E := []) (mi := 301) (cuts := []) (f := 92) (S := p2_s918) (lx := none) (XF := []) ⟨p2_nmu, ck_E0⟩ ck_X0 ck_l0 (by decide +kernel)
set_option maxRecDepth 100000 in
/-- GlacierMailModel.ofLetter -/
noncomputable def p2_s919 : ck_Sum := ((0, 0, 0), 245, [.inr (.inr (.inl 226)), .inl (ck_one 8), .inl (ck_one 3)], ([], [], []), ([], []), [(.inr (some (.inl (0, 299, []))), 245, ([], [], []))])
set_option maxRecDepth 100000 in
theorem p2_s919_s {X : Int → Int} {LX : Nat} : ck_Ok p2_O X LX 301 p2_s919 := ck_ok_s (O := p2_O) (X := X) (LX := LX) (E := []) (mi := 301) (cuts := []) (f := 92) (S := p2_s919) (lx := none) (XF := []) ⟨p2_nmu, ck_E0⟩ ck_X0 ck_l0 (by decide +kernel)
/-- GlacierMailModel.opens -/
noncomputable def p2_s920 : ck_Sum := op_os0 8 (.inl (ck_one (-1))) 0 7 (-1) (-1)
theorem p2_s920_s {X : Int → Int} {LX : Nat} : ck_Ok p2_O X LX 319 p2_s920 := op_none (by decide) (by decide) (by decide)
/-- GlacierMailModel.opens -/
noncomputable def p2_s921 : ck_Sum := op_os 8 0 7
theorem p2_s921_s {X : Int → Int} {LX : Nat} : ck_Ok p2_O X LX 319 p2_s921 := op_open (by decide) (by decide) (by decide +kernel)
set_option maxRecDepth 100000 in
/-- GlacierMailModel.open -/
noncomputable def p2_s922 : ck_Sum := ((9, 0, 0), 245, [.inr (.inr (.inl 226)), .inl (ck_one 8)], ([], [], zl176), ([(226, 0, 0), (226, 6, 6), (226, 17, 23), (226, 26, 26), (226, 29, 30), (227, 14, 14), (227, 180, 181), (227, 323, 394), (230, 0, 4739), (233, 0, 399), (235, 0, 29699), (236, 0, 299), (237, 0, 299)], []), [(.inr (some (.inl (ck_one 0))), 245, ([], [], zl177)), (.inr (some (.inl ((-299), 299, []))), 245, ([], [], [(227, 180, 180, (0, 7, [])), (227, 176, 176, (0, 7, [])), (226, 6, 6, (1, 12, [(1000027, 0)])), (226, 29, 29, (0, 299, [])), (227, 175, 175, (0, 7, [])), (226, 0, 0, ck_one 0)]))])
set_option maxRecDepth 100000 in
theorem p2_s922_s {X : Int → Int} {LX : Nat} : ck_Ok p2_O X LX 318 p2_s922 := ck_ok_s (O := p2_O) (X := X) (LX := LX) (E := [(309, [p2_s913]), (282, [p2_s241, p2_s242, p2_s244, p2_s243]), (302, [p2_s917]), (316, [p2_s553]), (301, [p2_s918, p2_s919]), (319, [p2_s920, p2_s921]), (266, [p2_s190])]) (mi := 318) (cuts := []) (f := 142) (S := p2_s922) (lx := none) (XF := []) ⟨p2_nmu, ck_E1 (ck_S1 p2_s913_s ck_S0) (ck_E1 (ck_S1 p2_s241_s (ck_S1 p2_s242_s (ck_S1 p2_s244_s (ck_S1 p2_s243_s ck_S0)))) (ck_E1 (ck_S1 p2_s917_s ck_S0) (ck_E1 (ck_S1 p2_s553_s ck_S0) (ck_E1 (ck_S1 p2_s918_s (ck_S1 p2_s919_s ck_S0)) (ck_E1 (ck_S1 p2_s920_s (ck_S1 p2_s921_s ck_S0)) (ck_E1 (ck_S1 p2_s190_s ck_S0) ck_E0))))))⟩ ck_X0 ck_l0 (by decide +kernel)
set_option maxRecDepth 100000 in
/-- GlacierMailModel.in -/
noncomputable def p2_s923 : ck_Sum := ((0, 0, 0), 245, [.inl (ck_one 9), .inl (ck_one 0), .inl ((-1), 23, [])], ([], [], []), ([], []), [(.inr (some (.inl (ck_one 0))), 245, ([], [], [])), (.inr (some (.inl (ck_one 1))), 245, ([], [], []))])
set_option maxRecDepth 100000 in
theorem p2_s923_s {X : Int → Int} {LX : Nat} : ck_Ok p2_O X LX 286 p2_s923 := ck_ok_s (O := p2_O) (X := X) (LX := LX) (E := []) (mi := 286) (cuts := []) (f := 88) (S := p2_s923) (lx := none) (XF := []) ⟨p2_nmu, ck_E0⟩ ck_X0 ck_l0 (by decide +kernel)
set_option maxRecDepth 100000 in
/-- GlacierMailModel.noLetter -/
noncomputable def p2_s924 : ck_Sum := ((1, 0, 0), 245, [.inr (.inr (.inl 226)), .inl (ck_one 9)], ([], [], [(227, 4, 4, (0, 24, [(22, 0)]))]), ([], []), [(.inr (some (.inl (ck_one 1))), 245, ([], [], [])), (.inr (some (.inl (ck_one 0))), 245, ([], [], []))])
set_option maxRecDepth 100000 in
theorem p2_s924_s {X : Int → Int} {LX : Nat} : ck_Ok p2_O X LX 309 p2_s924 := ck_ok_s (O := p2_O) (X := X) (LX := LX) (E := [(254, [p2_s176]), (286, [p2_s923])]) (mi := 309) (cuts := []) (f := 92) (S := p2_s924) (lx := none) (XF := []) ⟨p2_nmu, ck_E1 (ck_S1 p2_s176_s ck_S0) (ck_E1 (ck_S1 p2_s923_s ck_S0) ck_E0)⟩ ck_X0 ck_l0 (by decide +kernel)
set_option maxRecDepth 100000 in
/-- GlacierMailModel.ofLetter -/
noncomputable def p2_s925 : ck_Sum := ((0, 0, 0), 245, [.inr (.inr (.inl 226)), .inl (ck_one 9), .inl (ck_one 0)], ([], [], []), ([], []), [(.inr (some (.inl (ck_one (-1)))), 245, ([], [], [(227, 182, 182, ck_one (-1))])), (.inr (some (.inl (0, 7, []))), 245, ([], [], [(227, 182, 182, (0, 7, []))]))])
set_option maxRecDepth 100000 in
theorem p2_s925_s {X : Int → Int} {LX : Nat} : ck_Ok p2_O X LX 301 p2_s925 := ck_ok_s (O := p2_O) (X := X) (LX := LX) (E := []) (mi := 301) (cuts := []) (f := 92) (S := p2_s925) (lx := none) (XF := []) ⟨p2_nmu, ck_E0⟩ ck_X0 ck_l0 (by decide +kernel)
set_option maxRecDepth 100000 in
/-- GlacierMailModel.isRock -/
noncomputable def p2_s926 : ck_Sum := ((1, 0, 0), 245, [.inr (.inr (.inl 226)), .inl (ck_one 9)], ([], [], []), ([], []), [(.inr (some (.inl (ck_one 1))), 245, ([], [], [(227, 182, 182, ck_one (-1))])), (.inr (some (.inl (ck_one 0))), 245, ([], [], [(227, 182, 182, (0, 7, []))]))])
set_option maxRecDepth 100000 in
theorem p2_s926_s {X : Int → Int} {LX : Nat} : ck_Ok p2_O X LX 303 p2_s926 := ck_ok_s (O := p2_O) (X := X) (LX := LX) (E := [(301, [p2_s925])]) (mi := 303) (cuts := []) (f := 86) (S := p2_s926) (lx := none) (XF := []) ⟨p2_nmu, ck_E1 (ck_S1 p2_s925_s ck_S0) ck_E0⟩ ck_X0 ck_l0 (by decide +kernel)
set_option maxRecDepth 100000 in
/-- GlacierMailModel.ofLetter -/
noncomputable def p2_s927 : ck_Sum := ((0, 0, 0), 245, [.inr (.inr (.inl 226)), .inl (ck_one 9), .inl (ck_one 5)], ([], [], []), ([], []), [(.inr (some (.inl (ck_one (-1)))), 245, ([], [], [(227, 187, 187, ck_one (-1))])), (.inr (some (.inl (0, 7, []))), 245, ([], [], [(227, 187, 187, (0, 7, []))]))])
set_option maxRecDepth 100000 in
theorem p2_s927_s {X : Int → Int} {LX : Nat} : ck_Ok p2_O X LX 301 p2_s927 := ck_ok_s (O := p2_O) (X := X) (LX := LX) (E := []) (mi := 301) (cuts := []) (f := 92) (S := p2_s927) (lx := none) (XF := []) ⟨p2_nmu, ck_E0⟩ ck_X0 ck_l0 (by decide +kernel)
set_option maxRecDepth 100000 in
/-- GlacierMailModel.isWaiting -/
noncomputable def p2_s928 : ck_Sum := ((8, 0, 0), 245, [.inr (.inr (.inl 226)), .inl (ck_one 9)], ([], [], zl83), (zl81, []), [(.inr (some (.inl (ck_one 0))), 245, ([], [], [])), (.inr (some (.inl (ck_one 1))), 245, ([], [], [(226, 29, 29, (0, 299, [])), (227, 187, 187, ck_one (-1)), (227, 182, 182, (0, 7, []))]))])
set_option maxRecDepth 100000 in
theorem p2_s928_s {X : Int → Int} {LX : Nat} : ck_Ok p2_O X LX 302 p2_s928 := ck_ok_s (O := p2_O) (X := X) (LX := LX) (E := [(303, [p2_s926]), (301, [p2_s927]), (304, [p2_s381]), (266, [p2_s190])]) (mi := 302) (cuts := []) (f := 114) (S := p2_s928) (lx := none) (XF := []) ⟨p2_nmu, ck_E1 (ck_S1 p2_s926_s ck_S0) (ck_E1 (ck_S1 p2_s927_s ck_S0) (ck_E1 (ck_S1 p2_s381_s ck_S0) (ck_E1 (ck_S1 p2_s190_s ck_S0) ck_E0)))⟩ ck_X0 ck_l0 (by decide +kernel)
set_option maxRecDepth 100000 in
/-- GlacierMailModel.ofLetter -/
noncomputable def p2_s929 : ck_Sum := ((0, 0, 0), 245, [.inr (.inr (.inl 226)), .inl (ck_one 9), .inl (ck_one 1)], ([], [], []), ([], []), [(.inr (some (.inl (ck_one (-1)))), 245, ([], [], [(227, 183, 183, ck_one (-1))])), (.inr (some (.inl (0, 7, []))), 245, ([], [], [(227, 183, 183, (0, 7, []))]))])
set_option maxRecDepth 100000 in
theorem p2_s929_s {X : Int → Int} {LX : Nat} : ck_Ok p2_O X LX 301 p2_s929 := ck_ok_s (O := p2_O) (X := X) (LX := LX) (E := []) (mi := 301) (cuts := []) (f := 92) (S := p2_s929) (lx := none) (XF := []) ⟨p2_nmu, ck_E0⟩ ck_X0 ck_l0 (by decide +kernel)
set_option maxRecDepth 100000 in
/-- GlacierMailModel.ofLetter -/
noncomputable def p2_s930 : ck_Sum := ((0, 0, 0), 245, [.inr (.inr (.inl 226)), .inl (ck_one 9), .inl (ck_one 3)], ([], [], []), ([], []), [(.inr (some (.inl (0, 299, []))), 245, ([], [], []))])
set_option maxRecDepth 100000 in
theorem p2_s930_s {X : Int → Int} {LX : Nat} : ck_Ok p2_O X LX 301 p2_s930 := ck_ok_s (O := p2_O) (X := X) (LX := LX) (E := []) (mi := 301) (cuts := []) (f := 92) (S := p2_s930) (lx := none) (XF := []) ⟨p2_nmu, ck_E0⟩ ck_X0 ck_l0 (by decide +kernel)
/-- GlacierMailModel.opens -/
noncomputable def p2_s931 : ck_Sum := op_os0 9 (.inl (ck_one (-1))) 0 7 (-1) (-1)
theorem p2_s931_s {X : Int → Int} {LX : Nat} : ck_Ok p2_O X LX 319 p2_s931 := op_none (by decide) (by decide) (by decide)
/-- GlacierMailModel.opens -/
noncomputable def p2_s932 : ck_Sum := op_os 9 0 7
theorem p2_s932_s {X : Int → Int} {LX : Nat} : ck_Ok p2_O X LX 319 p2_s932 := op_open (by decide) (by decide) (by decide +kernel)
set_option maxRecDepth 100000 in
/-- GlacierMailModel.open -/
noncomputable def p2_s933 : ck_Sum := ((9, 0, 0), 245, [.inr (.inr (.inl 226)), .inl (ck_one 9)], ([], [], zl176), ([(226, 0, 0), (226, 6, 6), (226, 17, 23), (226, 26, 26), (226, 29, 30), (227, 14, 14), (227, 187, 188), (227, 323, 394), (230, 0, 4739), (233, 0, 399), (235, 0, 29699), (236, 0, 299), (237, 0, 299)], []), [(.inr (some (.inl (ck_one 0))), 245, ([], [], zl177)), (.inr (some (.inl ((-299), 299, []))), 245, ([], [], [(227, 187, 187, (0, 7, [])), (227, 183, 183, (0, 7, [])), (226, 6, 6, (1, 12, [(1000027, 0)])), (226, 29, 29, (0, 299, [])), (227, 182, 182, (0, 7, [])), (226, 0, 0, ck_one 0)]))])
set_option maxRecDepth 100000 in
theorem p2_s933_s {X : Int → Int} {LX : Nat} : ck_Ok p2_O X LX 318 p2_s933 := ck_ok_s (O := p2_O) (X := X) (LX := LX) (E := [(309, [p2_s924]), (282, [p2_s241, p2_s242, p2_s244, p2_s243]), (302, [p2_s928]), (316, [p2_s553]), (301, [p2_s929, p2_s930]), (319, [p2_s931, p2_s932]), (266, [p2_s190])]) (mi := 318) (cuts := []) (f := 142) (S := p2_s933) (lx := none) (XF := []) ⟨p2_nmu, ck_E1 (ck_S1 p2_s924_s ck_S0) (ck_E1 (ck_S1 p2_s241_s (ck_S1 p2_s242_s (ck_S1 p2_s244_s (ck_S1 p2_s243_s ck_S0)))) (ck_E1 (ck_S1 p2_s928_s ck_S0) (ck_E1 (ck_S1 p2_s553_s ck_S0) (ck_E1 (ck_S1 p2_s929_s (ck_S1 p2_s930_s ck_S0)) (ck_E1 (ck_S1 p2_s931_s (ck_S1 p2_s932_s ck_S0)) (ck_E1 (ck_S1 p2_s190_s ck_S0) ck_E0))))))⟩ ck_X0 ck_l0 (by decide +kernel)
set_option maxRecDepth 100000 in
/-- GlacierMailModel.in -/
noncomputable def p2_s934 : ck_Sum := ((0, 0, 0), 245, [.inl (ck_one 10), .inl (ck_one 0), .inl ((-1), 23, [])], ([], [], []), ([], []), [(.inr (some (.inl (ck_one 0))), 245, ([], [], [])), (.inr (some (.inl (ck_one 1))), 245, ([], [], []))])
set_option maxRecDepth 100000 in
theorem p2_s934_s {X : Int → Int} {LX : Nat} : ck_Ok p2_O X LX 286 p2_s934 := ck_ok_s (O := p2_O) (X := X) (LX := LX) (E := []) (mi := 286) (cuts := []) (f := 88) (S := p2_s934) (lx := none) (XF := []) ⟨p2_nmu, ck_E0⟩ ck_X0 ck_l0 (by decide +kernel)
set_option maxRecDepth 100000 in
/-- GlacierMailModel.noLetter -/
noncomputable def p2_s935 : ck_Sum := ((1, 0, 0), 245, [.inr (.inr (.inl 226)), .inl (ck_one 10)], ([], [], [(227, 4, 4, (0, 24, [(22, 0)]))]), ([], []), [(.inr (some (.inl (ck_one 1))), 245, ([], [], [])), (.inr (some (.inl (ck_one 0))), 245, ([], [], []))])
set_option maxRecDepth 100000 in
theorem p2_s935_s {X : Int → Int} {LX : Nat} : ck_Ok p2_O X LX 309 p2_s935 := ck_ok_s (O := p2_O) (X := X) (LX := LX) (E := [(254, [p2_s176]), (286, [p2_s934])]) (mi := 309) (cuts := []) (f := 92) (S := p2_s935) (lx := none) (XF := []) ⟨p2_nmu, ck_E1 (ck_S1 p2_s176_s ck_S0) (ck_E1 (ck_S1 p2_s934_s ck_S0) ck_E0)⟩ ck_X0 ck_l0 (by decide +kernel)
set_option maxRecDepth 100000 in
/-- GlacierMailModel.ofLetter -/
noncomputable def p2_s936 : ck_Sum := ((0, 0, 0), 245, [.inr (.inr (.inl 226)), .inl (ck_one 10), .inl (ck_one 0)], ([], [], []), ([], []), [(.inr (some (.inl (ck_one (-1)))), 245, ([], [], [(227, 189, 189, ck_one (-1))])), (.inr (some (.inl (0, 7, []))), 245, ([], [], [(227, 189, 189, (0, 7, []))]))])
set_option maxRecDepth 100000 in
theorem p2_s936_s {X : Int → Int} {LX : Nat} : ck_Ok p2_O X LX 301 p2_s936 := ck_ok_s (O := p2_O) (X := X) (LX := LX) (E := []) (mi := 301) (cuts := []) (f := 92) (S := p2_s936) (lx := none) (XF := []) ⟨p2_nmu, ck_E0⟩ ck_X0 ck_l0 (by decide +kernel)
set_option maxRecDepth 100000 in
/-- GlacierMailModel.isRock -/
noncomputable def p2_s937 : ck_Sum := ((1, 0, 0), 245, [.inr (.inr (.inl 226)), .inl (ck_one 10)], ([], [], []), ([], []), [(.inr (some (.inl (ck_one 1))), 245, ([], [], [(227, 189, 189, ck_one (-1))])), (.inr (some (.inl (ck_one 0))), 245, ([], [], [(227, 189, 189, (0, 7, []))]))])
set_option maxRecDepth 100000 in
theorem p2_s937_s {X : Int → Int} {LX : Nat} : ck_Ok p2_O X LX 303 p2_s937 := ck_ok_s (O := p2_O) (X := X) (LX := LX) (E := [(301, [p2_s936])]) (mi := 303) (cuts := []) (f := 86) (S := p2_s937) (lx := none) (XF := []) ⟨p2_nmu, ck_E1 (ck_S1 p2_s936_s ck_S0) ck_E0⟩ ck_X0 ck_l0 (by decide +kernel)
set_option maxRecDepth 100000 in
/-- GlacierMailModel.ofLetter -/
noncomputable def p2_s938 : ck_Sum := ((0, 0, 0), 245, [.inr (.inr (.inl 226)), .inl (ck_one 10), .inl (ck_one 5)], ([], [], []), ([], []), [(.inr (some (.inl (ck_one (-1)))), 245, ([], [], [(227, 194, 194, ck_one (-1))])), (.inr (some (.inl (0, 7, []))), 245, ([], [], [(227, 194, 194, (0, 7, []))]))])
set_option maxRecDepth 100000 in
theorem p2_s938_s {X : Int → Int} {LX : Nat} : ck_Ok p2_O X LX 301 p2_s938 := ck_ok_s (O := p2_O) (X := X) (LX := LX) (E := []) (mi := 301) (cuts := []) (f := 92) (S := p2_s938) (lx := none) (XF := []) ⟨p2_nmu, ck_E0⟩ ck_X0 ck_l0 (by decide +kernel)
set_option maxRecDepth 100000 in
/-- GlacierMailModel.isWaiting -/
noncomputable def p2_s939 : ck_Sum := ((8, 0, 0), 245, [.inr (.inr (.inl 226)), .inl (ck_one 10)], ([], [], zl83), (zl81, []), [(.inr (some (.inl (ck_one 0))), 245, ([], [], [])), (.inr (some (.inl (ck_one 1))), 245, ([], [], [(226, 29, 29, (0, 299, [])), (227, 194, 194, ck_one (-1)), (227, 189, 189, (0, 7, []))]))])
set_option maxRecDepth 100000 in
theorem p2_s939_s {X : Int → Int} {LX : Nat} : ck_Ok p2_O X LX 302 p2_s939 := ck_ok_s (O := p2_O) (X := X) (LX := LX) (E := [(303, [p2_s937]), (301, [p2_s938]), (304, [p2_s381]), (266, [p2_s190])]) (mi := 302) (cuts := []) (f := 114) (S := p2_s939) (lx := none) (XF := []) ⟨p2_nmu, ck_E1 (ck_S1 p2_s937_s ck_S0) (ck_E1 (ck_S1 p2_s938_s ck_S0) (ck_E1 (ck_S1 p2_s381_s ck_S0) (ck_E1 (ck_S1 p2_s190_s ck_S0) ck_E0)))⟩ ck_X0 ck_l0 (by decide +kernel)
set_option maxRecDepth 100000 in
/-- GlacierMailModel.ofLetter -/
noncomputable def p2_s940 : ck_Sum := ((0, 0, 0), 245, [.inr (.inr (.inl 226)), .inl (ck_one 10), .inl (ck_one 1)], ([], [], []), ([], []), [(.inr (some (.inl (ck_one (-1)))), 245, ([], [], [(227, 190, 190, ck_one (-1))])), (.inr (some (.inl (0, 7, []))), 245, ([], [], [(227, 190, 190, (0, 7, []))]))])
set_option maxRecDepth 100000 in
theorem p2_s940_s {X : Int → Int} {LX : Nat} : ck_Ok p2_O X LX 301 p2_s940 := ck_ok_s (O := p2_O) (X := X) (LX := LX) (E := []) (mi := 301) (cuts := []) (f := 92) (S := p2_s940) (lx := none) (XF := []) ⟨p2_nmu, ck_E0⟩ ck_X0 ck_l0 (by decide +kernel)
set_option maxRecDepth 100000 in
/-- GlacierMailModel.ofLetter -/
noncomputable def p2_s941 : ck_Sum := ((0, 0, 0), 245, [.inr (.inr (.inl 226)), .inl (ck_one 10), .inl (ck_one 3)], ([], [], []), ([], []), [(.inr (some (.inl (0, 299, []))), 245, ([], [], []))])
set_option maxRecDepth 100000 in
theorem p2_s941_s {X : Int → Int} {LX : Nat} : ck_Ok p2_O X LX 301 p2_s941 := ck_ok_s (O := p2_O) (X := X) (LX := LX) (E := []) (mi := 301) (cuts := []) (f := 92) (S := p2_s941) (lx := none) (XF := []) ⟨p2_nmu, ck_E0⟩ ck_X0 ck_l0 (by decide +kernel)
/-- GlacierMailModel.opens -/
noncomputable def p2_s942 : ck_Sum := op_os0 10 (.inl (ck_one (-1))) 0 7 (-1) (-1)
theorem p2_s942_s {X : Int → Int} {LX : Nat} : ck_Ok p2_O X LX 319 p2_s942 := op_none (by decide) (by decide) (by decide)
/-- GlacierMailModel.opens -/
noncomputable def p2_s943 : ck_Sum := op_os 10 0 7
theorem p2_s943_s {X : Int → Int} {LX : Nat} : ck_Ok p2_O X LX 319 p2_s943 := op_open (by decide) (by decide) (by decide +kernel)
set_option maxRecDepth 100000 in
/-- GlacierMailModel.open -/
noncomputable def p2_s944 : ck_Sum := ((9, 0, 0), 245, [.inr (.inr (.inl 226)), .inl (ck_one 10)], ([], [], zl176), ([(226, 0, 0), (226, 6, 6), (226, 17, 23), (226, 26, 26), (226, 29, 30), (227, 14, 14), (227, 194, 195), (227, 323, 394), (230, 0, 4739), (233, 0, 399), (235, 0, 29699), (236, 0, 299), (237, 0, 299)], []), [(.inr (some (.inl (ck_one 0))), 245, ([], [], zl177)), (.inr (some (.inl ((-299), 299, []))), 245, ([], [], [(227, 194, 194, (0, 7, [])), (227, 190, 190, (0, 7, [])), (226, 6, 6, (1, 12, [(1000027, 0)])), (226, 29, 29, (0, 299, [])), (227, 189, 189, (0, 7, [])), (226, 0, 0, ck_one 0)]))])
set_option maxRecDepth 100000 in
theorem p2_s944_s {X : Int → Int} {LX : Nat} : ck_Ok p2_O X LX 318 p2_s944 := ck_ok_s (O := p2_O) (X := X) (LX := LX) (E := [(309, [p2_s935]), (282, [p2_s241, p2_s242, p2_s244, p2_s243]), (302, [p2_s939]), (316, [p2_s553]), (301, [p2_s940, p2_s941]), (319, [p2_s942, p2_s943]), (266, [p2_s190])]) (mi := 318) (cuts := []) (f := 142) (S := p2_s944) (lx := none) (XF := []) ⟨p2_nmu, ck_E1 (ck_S1 p2_s935_s ck_S0) (ck_E1 (ck_S1 p2_s241_s (ck_S1 p2_s242_s (ck_S1 p2_s244_s (ck_S1 p2_s243_s ck_S0)))) (ck_E1 (ck_S1 p2_s939_s ck_S0) (ck_E1 (ck_S1 p2_s553_s ck_S0) (ck_E1 (ck_S1 p2_s940_s (ck_S1 p2_s941_s ck_S0)) (ck_E1 (ck_S1 p2_s942_s (ck_S1 p2_s943_s ck_S0)) (ck_E1 (ck_S1 p2_s190_s ck_S0) ck_E0))))))⟩ ck_X0 ck_l0 (by decide +kernel)
set_option maxRecDepth 100000 in
/-- GlacierMailModel.in -/
noncomputable def p2_s945 : ck_Sum := ((0, 0, 0), 245, [.inl (ck_one 11), .inl (ck_one 0), .inl ((-1), 23, [])], ([], [], []), ([], []), [(.inr (some (.inl (ck_one 0))), 245, ([], [], [])), (.inr (some (.inl (ck_one 1))), 245, ([], [], []))])
set_option maxRecDepth 100000 in
theorem p2_s945_s {X : Int → Int} {LX : Nat} : ck_Ok p2_O X LX 286 p2_s945 := ck_ok_s (O := p2_O) (X := X) (LX := LX) (E := []) (mi := 286) (cuts := []) (f := 88) (S := p2_s945) (lx := none) (XF := []) ⟨p2_nmu, ck_E0⟩ ck_X0 ck_l0 (by decide +kernel)
set_option maxRecDepth 100000 in
/-- GlacierMailModel.noLetter -/
noncomputable def p2_s946 : ck_Sum := ((1, 0, 0), 245, [.inr (.inr (.inl 226)), .inl (ck_one 11)], ([], [], [(227, 4, 4, (0, 24, [(22, 0)]))]), ([], []), [(.inr (some (.inl (ck_one 1))), 245, ([], [], [])), (.inr (some (.inl (ck_one 0))), 245, ([], [], []))])
set_option maxRecDepth 100000 in
theorem p2_s946_s {X : Int → Int} {LX : Nat} : ck_Ok p2_O X LX 309 p2_s946 := ck_ok_s (O := p2_O) (X := X) (LX := LX) (E := [(254, [p2_s176]), (286, [p2_s945])]) (mi := 309) (cuts := []) (f := 92) (S := p2_s946) (lx := none) (XF := []) ⟨p2_nmu, ck_E1 (ck_S1 p2_s176_s ck_S0) (ck_E1 (ck_S1 p2_s945_s ck_S0) ck_E0)⟩ ck_X0 ck_l0 (by decide +kernel)
set_option maxRecDepth 100000 in
/-- GlacierMailModel.ofLetter -/
noncomputable def p2_s947 : ck_Sum := ((0, 0, 0), 245, [.inr (.inr (.inl 226)), .inl (ck_one 11), .inl (ck_one 0)], ([], [], []), ([], []), [(.inr (some (.inl (ck_one (-1)))), 245, ([], [], [(227, 196, 196, ck_one (-1))])), (.inr (some (.inl (0, 7, []))), 245, ([], [], [(227, 196, 196, (0, 7, []))]))])
set_option maxRecDepth 100000 in
theorem p2_s947_s {X : Int → Int} {LX : Nat} : ck_Ok p2_O X LX 301 p2_s947 := ck_ok_s (O := p2_O) (X := X) (LX := LX) (E := []) (mi := 301) (cuts := []) (f := 92) (S := p2_s947) (lx := none) (XF := []) ⟨p2_nmu, ck_E0⟩ ck_X0 ck_l0 (by decide +kernel)
set_option maxRecDepth 100000 in
/-- GlacierMailModel.isRock -/
noncomputable def p2_s948 : ck_Sum := ((1, 0, 0), 245, [.inr (.inr (.inl 226)), .inl (ck_one 11)], ([], [], []), ([], []), [(.inr (some (.inl (ck_one 1))), 245, ([], [], [(227, 196, 196, ck_one (-1))])), (.inr (some (.inl (ck_one 0))), 245, ([], [], [(227, 196, 196, (0, 7, []))]))])
set_option maxRecDepth 100000 in
theorem p2_s948_s {X : Int → Int} {LX : Nat} : ck_Ok p2_O X LX 303 p2_s948 := ck_ok_s (O := p2_O) (X := X) (LX := LX) (E := [(301, [p2_s947])]) (mi := 303) (cuts := []) (f := 86) (S := p2_s948) (lx := none) (XF := []) ⟨p2_nmu, ck_E1 (ck_S1 p2_s947_s ck_S0) ck_E0⟩ ck_X0 ck_l0 (by decide +kernel)
set_option maxRecDepth 100000 in
/-- GlacierMailModel.ofLetter -/
noncomputable def p2_s949 : ck_Sum := ((0, 0, 0), 245, [.inr (.inr (.inl 226)), .inl (ck_one 11), .inl (ck_one 5)], ([], [], []), ([], []), [(.inr (some (.inl (ck_one (-1)))), 245, ([], [], [(227, 201, 201, ck_one (-1))])), (.inr (some (.inl (0, 7, []))), 245, ([], [], [(227, 201, 201, (0, 7, []))]))])
set_option maxRecDepth 100000 in
theorem p2_s949_s {X : Int → Int} {LX : Nat} : ck_Ok p2_O X LX 301 p2_s949 := ck_ok_s (O := p2_O) (X := X) (LX := LX) (E := []) (mi := 301) (cuts := []) (f := 92) (S := p2_s949) (lx := none) (XF := []) ⟨p2_nmu, ck_E0⟩ ck_X0 ck_l0 (by decide +kernel)
set_option maxRecDepth 100000 in
/-- GlacierMailModel.isWaiting -/
noncomputable def p2_s950 : ck_Sum := ((8, 0, 0), 245, [.inr (.inr (.inl 226)), .inl (ck_one 11)], ([], [], zl83), (zl81, []), [(.inr (some (.inl (ck_one 0))), 245, ([], [], [])), (.inr (some (.inl (ck_one 1))), 245, ([], [], [(226, 29, 29, (0, 299, [])), (227, 201, 201, ck_one (-1)), (227, 196, 196, (0, 7, []))]))])
set_option maxRecDepth 100000 in
theorem p2_s950_s {X : Int → Int} {LX : Nat} : ck_Ok p2_O X LX 302 p2_s950 := ck_ok_s (O := p2_O) (X := X) (LX := LX) (E := [(303, [p2_s948]), (301, [p2_s949]), (304, [p2_s381]), (266, [p2_s190])]) (mi := 302) (cuts := []) (f := 114) (S := p2_s950) (lx := none) (XF := []) ⟨p2_nmu, ck_E1 (ck_S1 p2_s948_s ck_S0) (ck_E1 (ck_S1 p2_s949_s ck_S0) (ck_E1 (ck_S1 p2_s381_s ck_S0) (ck_E1 (ck_S1 p2_s190_s ck_S0) ck_E0)))⟩ ck_X0 ck_l0 (by decide +kernel)
set_option maxRecDepth 100000 in
/-- GlacierMailModel.ofLetter -/
noncomputable def p2_s951 : ck_Sum := ((0, 0, 0), 245, [.inr (.inr (.inl 226)), .inl (ck_one 11), .inl (ck_one 1)], ([], [], []), ([], []), [(.inr (some (.inl (ck_one (-1)))), 245, ([], [], [(227, 197, 197, ck_one (-1))])), (.inr (some (.inl (0, 7, []))), 245, ([], [], [(227, 197, 197, (0, 7, []))]))])
set_option maxRecDepth 100000 in
theorem p2_s951_s {X : Int → Int} {LX : Nat} : ck_Ok p2_O X LX 301 p2_s951 := ck_ok_s (O := p2_O) (X := X) (LX := LX) (E := []) (mi := 301) (cuts := []) (f := 92) (S := p2_s951) (lx := none) (XF := []) ⟨p2_nmu, ck_E0⟩ ck_X0 ck_l0 (by decide +kernel)
set_option maxRecDepth 100000 in
/-- GlacierMailModel.ofLetter -/
noncomputable def p2_s952 : ck_Sum := ((0, 0, 0), 245, [.inr (.inr (.inl 226)), .inl (ck_one 11), .inl (ck_one 3)], ([], [], []), ([], []), [(.inr (some (.inl (0, 299, []))), 245, ([], [], []))])
set_option maxRecDepth 100000 in
theorem p2_s952_s {X : Int → Int} {LX : Nat} : ck_Ok p2_O X LX 301 p2_s952 := ck_ok_s (O := p2_O) (X := X) (LX := LX) (E := []) (mi := 301) (cuts := []) (f := 92) (S := p2_s952) (lx := none) (XF := []) ⟨p2_nmu, ck_E0⟩ ck_X0 ck_l0 (by decide +kernel)
/-- GlacierMailModel.opens -/
noncomputable def p2_s953 : ck_Sum := op_os0 11 (.inl (ck_one (-1))) 0 7 (-1) (-1)
theorem p2_s953_s {X : Int → Int} {LX : Nat} : ck_Ok p2_O X LX 319 p2_s953 := op_none (by decide) (by decide) (by decide)
/-- GlacierMailModel.opens -/
noncomputable def p2_s954 : ck_Sum := op_os 11 0 7
theorem p2_s954_s {X : Int → Int} {LX : Nat} : ck_Ok p2_O X LX 319 p2_s954 := op_open (by decide) (by decide) (by decide +kernel)
set_option maxRecDepth 100000 in
/-- GlacierMailModel.open -/
noncomputable def p2_s955 : ck_Sum := ((9, 0, 0), 245, [.inr (.inr (.inl 226)), .inl (ck_one 11)], ([], [], zl176), ([(226, 0, 0), (226, 6, 6), (226, 17, 23), (226, 26, 26), (226, 29, 30), (227, 14, 14), (227, 201, 202), (227, 323, 394), (230, 0, 4739), (233, 0, 399), (235, 0, 29699), (236, 0, 299), (237, 0, 299)], []), [(.inr (some (.inl (ck_one 0))), 245, ([], [], zl177)), (.inr (some (.inl ((-299), 299, []))), 245, ([], [], [(227, 201, 201, (0, 7, [])), (227, 197, 197, (0, 7, [])), (226, 6, 6, (1, 12, [(1000027, 0)])), (226, 29, 29, (0, 299, [])), (227, 196, 196, (0, 7, [])), (226, 0, 0, ck_one 0)]))])
set_option maxRecDepth 100000 in
theorem p2_s955_s {X : Int → Int} {LX : Nat} : ck_Ok p2_O X LX 318 p2_s955 := ck_ok_s (O := p2_O) (X := X) (LX := LX) (E := [(309, [p2_s946]), (282, [p2_s241, p2_s242, p2_s244, p2_s243]), (302, [p2_s950]), (316, [p2_s553]), (301, [p2_s951, p2_s952]), (319, [p2_s953, p2_s954]), (266, [p2_s190])]) (mi := 318) (cuts := []) (f := 142) (S := p2_s955) (lx := none) (XF := []) ⟨p2_nmu, ck_E1 (ck_S1 p2_s946_s ck_S0) (ck_E1 (ck_S1 p2_s241_s (ck_S1 p2_s242_s (ck_S1 p2_s244_s (ck_S1 p2_s243_s ck_S0)))) (ck_E1 (ck_S1 p2_s950_s ck_S0) (ck_E1 (ck_S1 p2_s553_s ck_S0) (ck_E1 (ck_S1 p2_s951_s (ck_S1 p2_s952_s ck_S0)) (ck_E1 (ck_S1 p2_s953_s (ck_S1 p2_s954_s ck_S0)) (ck_E1 (ck_S1 p2_s190_s ck_S0) ck_E0))))))⟩ ck_X0 ck_l0 (by decide +kernel)
set_option maxRecDepth 100000 in
/-- GlacierMailModel.in -/
noncomputable def p2_s956 : ck_Sum := ((0, 0, 0), 245, [.inl (ck_one 12), .inl (ck_one 0), .inl ((-1), 23, [])], ([], [], []), ([], []), [(.inr (some (.inl (ck_one 0))), 245, ([], [], [])), (.inr (some (.inl (ck_one 1))), 245, ([], [], []))])
set_option maxRecDepth 100000 in
theorem p2_s956_s {X : Int → Int} {LX : Nat} : ck_Ok p2_O X LX 286 p2_s956 := ck_ok_s (O := p2_O) (X := X) (LX := LX) (E := []) (mi := 286) (cuts := []) (f := 88) (S := p2_s956) (lx := none) (XF := []) ⟨p2_nmu, ck_E0⟩ ck_X0 ck_l0 (by decide +kernel)
set_option maxRecDepth 100000 in
/-- GlacierMailModel.noLetter -/
noncomputable def p2_s957 : ck_Sum := ((1, 0, 0), 245, [.inr (.inr (.inl 226)), .inl (ck_one 12)], ([], [], [(227, 4, 4, (0, 24, [(22, 0)]))]), ([], []), [(.inr (some (.inl (ck_one 1))), 245, ([], [], [])), (.inr (some (.inl (ck_one 0))), 245, ([], [], []))])
set_option maxRecDepth 100000 in
theorem p2_s957_s {X : Int → Int} {LX : Nat} : ck_Ok p2_O X LX 309 p2_s957 := ck_ok_s (O := p2_O) (X := X) (LX := LX) (E := [(254, [p2_s176]), (286, [p2_s956])]) (mi := 309) (cuts := []) (f := 92) (S := p2_s957) (lx := none) (XF := []) ⟨p2_nmu, ck_E1 (ck_S1 p2_s176_s ck_S0) (ck_E1 (ck_S1 p2_s956_s ck_S0) ck_E0)⟩ ck_X0 ck_l0 (by decide +kernel)
set_option maxRecDepth 100000 in
/-- GlacierMailModel.ofLetter -/
noncomputable def p2_s958 : ck_Sum := ((0, 0, 0), 245, [.inr (.inr (.inl 226)), .inl (ck_one 12), .inl (ck_one 0)], ([], [], []), ([], []), [(.inr (some (.inl (ck_one (-1)))), 245, ([], [], [(227, 203, 203, ck_one (-1))])), (.inr (some (.inl (0, 7, []))), 245, ([], [], [(227, 203, 203, (0, 7, []))]))])
set_option maxRecDepth 100000 in
theorem p2_s958_s {X : Int → Int} {LX : Nat} : ck_Ok p2_O X LX 301 p2_s958 := ck_ok_s (O := p2_O) (X := X) (LX := LX) (E := []) (mi := 301) (cuts := []) (f := 92) (S := p2_s958) (lx := none) (XF := []) ⟨p2_nmu, ck_E0⟩ ck_X0 ck_l0 (by decide +kernel)
set_option maxRecDepth 100000 in
/-- GlacierMailModel.isRock -/
noncomputable def p2_s959 : ck_Sum := ((1, 0, 0), 245, [.inr (.inr (.inl 226)), .inl (ck_one 12)], ([], [], []), ([], []), [(.inr (some (.inl (ck_one 1))), 245, ([], [], [(227, 203, 203, ck_one (-1))])), (.inr (some (.inl (ck_one 0))), 245, ([], [], [(227, 203, 203, (0, 7, []))]))])
set_option maxRecDepth 100000 in
theorem p2_s959_s {X : Int → Int} {LX : Nat} : ck_Ok p2_O X LX 303 p2_s959 := ck_ok_s (O := p2_O) (X := X) (LX := LX) (E := [(301, [p2_s958])]) (mi := 303) (cuts := []) (f := 86) (S := p2_s959) (lx := none) (XF := []) ⟨p2_nmu, ck_E1 (ck_S1 p2_s958_s ck_S0) ck_E0⟩ ck_X0 ck_l0 (by decide +kernel)
set_option maxRecDepth 100000 in
/-- GlacierMailModel.ofLetter -/
noncomputable def p2_s960 : ck_Sum := ((0, 0, 0), 245, [.inr (.inr (.inl 226)), .inl (ck_one 12), .inl (ck_one 5)], ([], [], []), ([], []), [(.inr (some (.inl (ck_one (-1)))), 245, ([], [], [(227, 208, 208, ck_one (-1))])), (.inr (some (.inl (0, 7, []))), 245, ([], [], [(227, 208, 208, (0, 7, []))]))])
set_option maxRecDepth 100000 in
theorem p2_s960_s {X : Int → Int} {LX : Nat} : ck_Ok p2_O X LX 301 p2_s960 := ck_ok_s (O := p2_O) (X := X) (LX := LX) (E := []) (mi := 301) (cuts := []) (f := 92) (S := p2_s960) (lx := none) (XF := []) ⟨p2_nmu, ck_E0⟩ ck_X0 ck_l0 (by decide +kernel)
set_option maxRecDepth 100000 in
/-- GlacierMailModel.isWaiting -/
noncomputable def p2_s961 : ck_Sum := ((8, 0, 0), 245, [.inr (.inr (.inl 226)), .inl (ck_one 12)], ([], [], zl83), (zl81, []), [(.inr (some (.inl (ck_one 0))), 245, ([], [], [])), (.inr (some (.inl (ck_one 1))), 245, ([], [], [(226, 29, 29, (0, 299, [])), (227, 208, 208, ck_one (-1)), (227, 203, 203, (0, 7, []))]))])
set_option maxRecDepth 100000 in
theorem p2_s961_s {X : Int → Int} {LX : Nat} : ck_Ok p2_O X LX 302 p2_s961 := ck_ok_s (O := p2_O) (X := X) (LX := LX) (E := [(303, [p2_s959]), (301, [p2_s960]), (304, [p2_s381]), (266, [p2_s190])]) (mi := 302) (cuts := []) (f := 114) (S := p2_s961) (lx := none) (XF := []) ⟨p2_nmu, ck_E1 (ck_S1 p2_s959_s ck_S0) (ck_E1 (ck_S1 p2_s960_s ck_S0) (ck_E1 (ck_S1 p2_s381_s ck_S0) (ck_E1 (ck_S1 p2_s190_s ck_S0) ck_E0)))⟩ ck_X0 ck_l0 (by decide +kernel)
set_option maxRecDepth 100000 in
/-- GlacierMailModel.ofLetter -/
noncomputable def p2_s962 : ck_Sum := ((0, 0, 0), 245, [.inr (.inr (.inl 226)), .inl (ck_one 12), .inl (ck_one 1)], ([], [], []), ([], []), [(.inr (some (.inl (ck_one (-1)))), 245, ([], [], [(227, 204, 204, ck_one (-1))])), (.inr (some (.inl (0, 7, []))), 245, ([], [], [(227, 204, 204, (0, 7, []))]))])
set_option maxRecDepth 100000 in
theorem p2_s962_s {X : Int → Int} {LX : Nat} : ck_Ok p2_O X LX 301 p2_s962 := ck_ok_s (O := p2_O) (X := X) (LX := LX) (E := []) (mi := 301) (cuts := []) (f := 92) (S := p2_s962) (lx := none) (XF := []) ⟨p2_nmu, ck_E0⟩ ck_X0 ck_l0 (by decide +kernel)
set_option maxRecDepth 100000 in
/-- GlacierMailModel.ofLetter -/
noncomputable def p2_s963 : ck_Sum := ((0, 0, 0), 245, [.inr (.inr (.inl 226)), .inl (ck_one 12), .inl (ck_one 3)], ([], [], []), ([], []), [(.inr (some (.inl (0, 299, []))), 245, ([], [], []))])
set_option maxRecDepth 100000 in
theorem p2_s963_s {X : Int → Int} {LX : Nat} : ck_Ok p2_O X LX 301 p2_s963 := ck_ok_s (O := p2_O) (X := X) (LX := LX) (E := []) (mi := 301) (cuts := []) (f := 92) (S := p2_s963) (lx := none) (XF := []) ⟨p2_nmu, ck_E0⟩ ck_X0 ck_l0 (by decide +kernel)
/-- GlacierMailModel.opens -/
noncomputable def p2_s964 : ck_Sum := op_os0 12 (.inl (ck_one (-1))) 0 7 (-1) (-1)
theorem p2_s964_s {X : Int → Int} {LX : Nat} : ck_Ok p2_O X LX 319 p2_s964 := op_none (by decide) (by decide) (by decide)
/-- GlacierMailModel.opens -/
noncomputable def p2_s965 : ck_Sum := op_os 12 0 7
theorem p2_s965_s {X : Int → Int} {LX : Nat} : ck_Ok p2_O X LX 319 p2_s965 := op_open (by decide) (by decide) (by decide +kernel)
set_option maxRecDepth 100000 in
/-- GlacierMailModel.open -/
noncomputable def p2_s966 : ck_Sum := ((9, 0, 0), 245, [.inr (.inr (.inl 226)), .inl (ck_one 12)], ([], [], zl176), ([(226, 0, 0), (226, 6, 6), (226, 17, 23), (226, 26, 26), (226, 29, 30), (227, 14, 14), (227, 208, 209), (227, 323, 394), (230, 0, 4739), (233, 0, 399), (235, 0, 29699), (236, 0, 299), (237, 0, 299)], []), [(.inr (some (.inl (ck_one 0))), 245, ([], [], zl177)), (.inr (some (.inl ((-299), 299, []))), 245, ([], [], [(227, 208, 208, (0, 7, [])), (227, 204, 204, (0, 7, [])), (226, 6, 6, (1, 12, [(1000027, 0)])), (226, 29, 29, (0, 299, [])), (227, 203, 203, (0, 7, [])), (226, 0, 0, ck_one 0)]))])
set_option maxRecDepth 100000 in
theorem p2_s966_s {X : Int → Int} {LX : Nat} : ck_Ok p2_O X LX 318 p2_s966 := ck_ok_s (O := p2_O) (X := X) (LX := LX) (E := [(309, [p2_s957]), (282, [p2_s241, p2_s242, p2_s244, p2_s243]), (302, [p2_s961]), (316, [p2_s553]), (301, [p2_s962, p2_s963]), (319, [p2_s964, p2_s965]), (266, [p2_s190])]) (mi := 318) (cuts := []) (f := 142) (S := p2_s966) (lx := none) (XF := []) ⟨p2_nmu, ck_E1 (ck_S1 p2_s957_s ck_S0) (ck_E1 (ck_S1 p2_s241_s (ck_S1 p2_s242_s (ck_S1 p2_s244_s (ck_S1 p2_s243_s ck_S0)))) (ck_E1 (ck_S1 p2_s961_s ck_S0) (ck_E1 (ck_S1 p2_s553_s ck_S0) (ck_E1 (ck_S1 p2_s962_s (ck_S1 p2_s963_s ck_S0)) (ck_E1 (ck_S1 p2_s964_s (ck_S1 p2_s965_s ck_S0)) (ck_E1 (ck_S1 p2_s190_s ck_S0) ck_E0))))))⟩ ck_X0 ck_l0 (by decide +kernel)
set_option maxRecDepth 100000 in
/-- GlacierMailModel.in -/
noncomputable def p2_s967 : ck_Sum := ((0, 0, 0), 245, [.inl (ck_one 13), .inl (ck_one 0), .inl ((-1), 23, [])], ([], [], []), ([], []), [(.inr (some (.inl (ck_one 0))), 245, ([], [], [])), (.inr (some (.inl (ck_one 1))), 245, ([], [], []))])
set_option maxRecDepth 100000 in
theorem p2_s967_s {X : Int → Int} {LX : Nat} : ck_Ok p2_O X LX 286 p2_s967 := ck_ok_s (O := p2_O) (X := X) (LX := LX) (E := []) (mi := 286) (cuts := []) (f := 88) (S := p2_s967) (lx := none) (XF := []) ⟨p2_nmu, ck_E0⟩ ck_X0 ck_l0 (by decide +kernel)
set_option maxRecDepth 100000 in
/-- GlacierMailModel.noLetter -/
noncomputable def p2_s968 : ck_Sum := ((1, 0, 0), 245, [.inr (.inr (.inl 226)), .inl (ck_one 13)], ([], [], [(227, 4, 4, (0, 24, [(22, 0)]))]), ([], []), [(.inr (some (.inl (ck_one 1))), 245, ([], [], [])), (.inr (some (.inl (ck_one 0))), 245, ([], [], []))])
set_option maxRecDepth 100000 in
theorem p2_s968_s {X : Int → Int} {LX : Nat} : ck_Ok p2_O X LX 309 p2_s968 := ck_ok_s (O := p2_O) (X := X) (LX := LX) (E := [(254, [p2_s176]), (286, [p2_s967])]) (mi := 309) (cuts := []) (f := 92) (S := p2_s968) (lx := none) (XF := []) ⟨p2_nmu, ck_E1 (ck_S1 p2_s176_s ck_S0) (ck_E1 (ck_S1 p2_s967_s ck_S0) ck_E0)⟩ ck_X0 ck_l0 (by decide +kernel)
set_option maxRecDepth 100000 in
/-- GlacierMailModel.ofLetter -/
noncomputable def p2_s969 : ck_Sum := ((0, 0, 0), 245, [.inr (.inr (.inl 226)), .inl (ck_one 13), .inl (ck_one 0)], ([], [], []), ([], []), [(.inr (some (.inl (ck_one (-1)))), 245, ([], [], [(227, 210, 210, ck_one (-1))])), (.inr (some (.inl (0, 7, []))), 245, ([], [], [(227, 210, 210, (0, 7, []))]))])
set_option maxRecDepth 100000 in
theorem p2_s969_s {X : Int → Int} {LX : Nat} : ck_Ok p2_O X LX 301 p2_s969 := ck_ok_s (O := p2_O) (X := X) (LX := LX) (E := []) (mi := 301) (cuts := []) (f := 92) (S := p2_s969) (lx := none) (XF := []) ⟨p2_nmu, ck_E0⟩ ck_X0 ck_l0 (by decide +kernel)
set_option maxRecDepth 100000 in
/-- GlacierMailModel.isRock -/
noncomputable def p2_s970 : ck_Sum := ((1, 0, 0), 245, [.inr (.inr (.inl 226)), .inl (ck_one 13)], ([], [], []), ([], []), [(.inr (some (.inl (ck_one 1))), 245, ([], [], [(227, 210, 210, ck_one (-1))])), (.inr (some (.inl (ck_one 0))), 245, ([], [], [(227, 210, 210, (0, 7, []))]))])
set_option maxRecDepth 100000 in
theorem p2_s970_s {X : Int → Int} {LX : Nat} : ck_Ok p2_O X LX 303 p2_s970 := ck_ok_s (O := p2_O) (X := X) (LX := LX) (E := [(301, [p2_s969])]) (mi := 303) (cuts := []) (f := 86) (S := p2_s970) (lx := none) (XF := []) ⟨p2_nmu, ck_E1 (ck_S1 p2_s969_s ck_S0) ck_E0⟩ ck_X0 ck_l0 (by decide +kernel)
set_option maxRecDepth 100000 in
/-- GlacierMailModel.ofLetter -/
noncomputable def p2_s971 : ck_Sum := ((0, 0, 0), 245, [.inr (.inr (.inl 226)), .inl (ck_one 13), .inl (ck_one 5)], ([], [], []), ([], []), [(.inr (some (.inl (ck_one (-1)))), 245, ([], [], [(227, 215, 215, ck_one (-1))])), (.inr (some (.inl (0, 7, []))), 245, ([], [], [(227, 215, 215, (0, 7, []))]))])
set_option maxRecDepth 100000 in
theorem p2_s971_s {X : Int → Int} {LX : Nat} : ck_Ok p2_O X LX 301 p2_s971 := ck_ok_s (O := p2_O) (X := X) (LX := LX) (E := []) (mi := 301) (cuts := []) (f := 92) (S := p2_s971) (lx := none) (XF := []) ⟨p2_nmu, ck_E0⟩ ck_X0 ck_l0 (by decide +kernel)
set_option maxRecDepth 100000 in
/-- GlacierMailModel.isWaiting -/
noncomputable def p2_s972 : ck_Sum := ((8, 0, 0), 245, [.inr (.inr (.inl 226)), .inl (ck_one 13)], ([], [], zl83), (zl81, []), [(.inr (some (.inl (ck_one 0))), 245, ([], [], [])), (.inr (some (.inl (ck_one 1))), 245, ([], [], [(226, 29, 29, (0, 299, [])), (227, 215, 215, ck_one (-1)), (227, 210, 210, (0, 7, []))]))])
set_option maxRecDepth 100000 in
theorem p2_s972_s {X : Int → Int} {LX : Nat} : ck_Ok p2_O X LX 302 p2_s972 := ck_ok_s (O := p2_O) (X := X) (LX := LX) (E := [(303, [p2_s970]), (301, [p2_s971]), (304, [p2_s381]), (266, [p2_s190])]) (mi := 302) (cuts := []) (f := 114) (S := p2_s972) (lx := none) (XF := []) ⟨p2_nmu, ck_E1 (ck_S1 p2_s970_s ck_S0) (ck_E1 (ck_S1 p2_s971_s ck_S0) (ck_E1 (ck_S1 p2_s381_s ck_S0) (ck_E1 (ck_S1 p2_s190_s ck_S0) ck_E0)))⟩ ck_X0 ck_l0 (by decide +kernel)
set_option maxRecDepth 100000 in
/-- GlacierMailModel.ofLetter -/
noncomputable def p2_s973 : ck_Sum := ((0, 0, 0), 245, [.inr (.inr (.inl 226)), .inl (ck_one 13), .inl (ck_one 1)], ([], [], []), ([], []), [(.inr (some (.inl (ck_one (-1)))), 245, ([], [], [(227, 211, 211, ck_one (-1))])), (.inr (some (.inl (0, 7, []))), 245, ([], [], [(227, 211, 211, (0, 7, []))]))])
set_option maxRecDepth 100000 in
theorem p2_s973_s {X : Int → Int} {LX : Nat} : ck_Ok p2_O X LX 301 p2_s973 := ck_ok_s (O := p2_O) (X := X) (LX := LX) (E := []) (mi := 301) (cuts := []) (f := 92) (S := p2_s973) (lx := none) (XF := []) ⟨p2_nmu, ck_E0⟩ ck_X0 ck_l0 (by decide +kernel)
set_option maxRecDepth 100000 in
/-- GlacierMailModel.ofLetter -/
noncomputable def p2_s974 : ck_Sum := ((0, 0, 0), 245, [.inr (.inr (.inl 226)), .inl (ck_one 13), .inl (ck_one 3)], ([], [], []), ([], []), [(.inr (some (.inl (0, 299, []))), 245, ([], [], []))])
set_option maxRecDepth 100000 in
theorem p2_s974_s {X : Int → Int} {LX : Nat} : ck_Ok p2_O X LX 301 p2_s974 := ck_ok_s (O := p2_O) (X := X) (LX := LX) (E := []) (mi := 301) (cuts := []) (f := 92) (S := p2_s974) (lx := none) (XF := []) ⟨p2_nmu, ck_E0⟩ ck_X0 ck_l0 (by decide +kernel)
/-- GlacierMailModel.opens -/
noncomputable def p2_s975 : ck_Sum := op_os0 13 (.inl (ck_one (-1))) 0 7 (-1) (-1)
theorem p2_s975_s {X : Int → Int} {LX : Nat} : ck_Ok p2_O X LX 319 p2_s975 := op_none (by decide) (by decide) (by decide)
/-- GlacierMailModel.opens -/
noncomputable def p2_s976 : ck_Sum := op_os 13 0 7
theorem p2_s976_s {X : Int → Int} {LX : Nat} : ck_Ok p2_O X LX 319 p2_s976 := op_open (by decide) (by decide) (by decide +kernel)
set_option maxRecDepth 100000 in
/-- GlacierMailModel.open -/
noncomputable def p2_s977 : ck_Sum := ((9, 0, 0), 245, [.inr (.inr (.inl 226)), .inl (ck_one 13)], ([], [], zl176), ([(226, 0, 0), (226, 6, 6), (226, 17, 23), (226, 26, 26), (226, 29, 30), (227, 14, 14), (227, 215, 216), (227, 323, 394), (230, 0, 4739), (233, 0, 399), (235, 0, 29699), (236, 0, 299), (237, 0, 299)], []), [(.inr (some (.inl (ck_one 0))), 245, ([], [], zl177)), (.inr (some (.inl ((-299), 299, []))), 245, ([], [], [(227, 215, 215, (0, 7, [])), (227, 211, 211, (0, 7, [])), (226, 6, 6, (1, 12, [(1000027, 0)])), (226, 29, 29, (0, 299, [])), (227, 210, 210, (0, 7, [])), (226, 0, 0, ck_one 0)]))])
set_option maxRecDepth 100000 in
theorem p2_s977_s {X : Int → Int} {LX : Nat} : ck_Ok p2_O X LX 318 p2_s977 := ck_ok_s (O := p2_O) (X := X) (LX := LX) (E := [(309, [p2_s968]), (282, [p2_s241, p2_s242, p2_s244, p2_s243]), (302, [p2_s972]), (316, [p2_s553]), (301, [p2_s973, p2_s974]), (319, [p2_s975, p2_s976]), (266, [p2_s190])]) (mi := 318) (cuts := []) (f := 142) (S := p2_s977) (lx := none) (XF := []) ⟨p2_nmu, ck_E1 (ck_S1 p2_s968_s ck_S0) (ck_E1 (ck_S1 p2_s241_s (ck_S1 p2_s242_s (ck_S1 p2_s244_s (ck_S1 p2_s243_s ck_S0)))) (ck_E1 (ck_S1 p2_s972_s ck_S0) (ck_E1 (ck_S1 p2_s553_s ck_S0) (ck_E1 (ck_S1 p2_s973_s (ck_S1 p2_s974_s ck_S0)) (ck_E1 (ck_S1 p2_s975_s (ck_S1 p2_s976_s ck_S0)) (ck_E1 (ck_S1 p2_s190_s ck_S0) ck_E0))))))⟩ ck_X0 ck_l0 (by decide +kernel)
set_option maxRecDepth 100000 in
/-- GlacierMailModel.in -/
noncomputable def p2_s978 : ck_Sum := ((0, 0, 0), 245, [.inl (ck_one 14), .inl (ck_one 0), .inl ((-1), 23, [])], ([], [], []), ([], []), [(.inr (some (.inl (ck_one 0))), 245, ([], [], [])), (.inr (some (.inl (ck_one 1))), 245, ([], [], []))])
set_option maxRecDepth 100000 in
theorem p2_s978_s {X : Int → Int} {LX : Nat} : ck_Ok p2_O X LX 286 p2_s978 := ck_ok_s (O := p2_O) (X := X) (LX := LX) (E := []) (mi := 286) (cuts := []) (f := 88) (S := p2_s978) (lx := none) (XF := []) ⟨p2_nmu, ck_E0⟩ ck_X0 ck_l0 (by decide +kernel)
set_option maxRecDepth 100000 in
/-- GlacierMailModel.noLetter -/
noncomputable def p2_s979 : ck_Sum := ((1, 0, 0), 245, [.inr (.inr (.inl 226)), .inl (ck_one 14)], ([], [], [(227, 4, 4, (0, 24, [(22, 0)]))]), ([], []), [(.inr (some (.inl (ck_one 1))), 245, ([], [], [])), (.inr (some (.inl (ck_one 0))), 245, ([], [], []))])
set_option maxRecDepth 100000 in
theorem p2_s979_s {X : Int → Int} {LX : Nat} : ck_Ok p2_O X LX 309 p2_s979 := ck_ok_s (O := p2_O) (X := X) (LX := LX) (E := [(254, [p2_s176]), (286, [p2_s978])]) (mi := 309) (cuts := []) (f := 92) (S := p2_s979) (lx := none) (XF := []) ⟨p2_nmu, ck_E1 (ck_S1 p2_s176_s ck_S0) (ck_E1 (ck_S1 p2_s978_s ck_S0) ck_E0)⟩ ck_X0 ck_l0 (by decide +kernel)
set_option maxRecDepth 100000 in
/-- GlacierMailModel.ofLetter -/
noncomputable def p2_s980 : ck_Sum := ((0, 0, 0), 245, [.inr (.inr (.inl 226)), .inl (ck_one 14), .inl (ck_one 0)], ([], [], []), ([], []), [(.inr (some (.inl (ck_one (-1)))), 245, ([], [], [(227, 217, 217, ck_one (-1))])), (.inr (some (.inl (0, 7, []))), 245, ([], [], [(227, 217, 217, (0, 7, []))]))])
set_option maxRecDepth 100000 in
theorem p2_s980_s {X : Int → Int} {LX : Nat} : ck_Ok p2_O X LX 301 p2_s980 := ck_ok_s (O := p2_O) (X := X) (LX := LX) (E := []) (mi := 301) (cuts := []) (f := 92) (S := p2_s980) (lx := none) (XF := []) ⟨p2_nmu, ck_E0⟩ ck_X0 ck_l0 (by decide +kernel)
set_option maxRecDepth 100000 in
/-- GlacierMailModel.isRock -/
noncomputable def p2_s981 : ck_Sum := ((1, 0, 0), 245, [.inr (.inr (.inl 226)), .inl (ck_one 14)], ([], [], []), ([], []), [(.inr (some (.inl (ck_one 1))), 245, ([], [], [(227, 217, 217, ck_one (-1))])), (.inr (some (.inl (ck_one 0))), 245, ([], [], [(227, 217, 217, (0, 7, []))]))])
set_option maxRecDepth 100000 in
theorem p2_s981_s {X : Int → Int} {LX : Nat} : ck_Ok p2_O X LX 303 p2_s981 := ck_ok_s (O := p2_O) (X := X) (LX := LX) (E := [(301, [p2_s980])]) (mi := 303) (cuts := []) (f := 86) (S := p2_s981) (lx := none) (XF := []) ⟨p2_nmu, ck_E1 (ck_S1 p2_s980_s ck_S0) ck_E0⟩ ck_X0 ck_l0 (by decide +kernel)
set_option maxRecDepth 100000 in
/-- GlacierMailModel.ofLetter -/
noncomputable def p2_s982 : ck_Sum := ((0, 0, 0), 245, [.inr (.inr (.inl 226)), .inl (ck_one 14), .inl (ck_one 5)], ([], [], []), ([], []), [(.inr (some (.inl (ck_one (-1)))), 245, ([], [], [(227, 222, 222, ck_one (-1))])), (.inr (some (.inl (0, 7, []))), 245, ([], [], [(227, 222, 222, (0, 7, []))]))])
set_option maxRecDepth 100000 in
theorem p2_s982_s {X : Int → Int} {LX : Nat} : ck_Ok p2_O X LX 301 p2_s982 := ck_ok_s (O := p2_O) (X := X) (LX := LX) (E := []) (mi := 301) (cuts := []) (f := 92) (S := p2_s982) (lx := none) (XF := []) ⟨p2_nmu, ck_E0⟩ ck_X0 ck_l0 (by decide +kernel)
set_option maxRecDepth 100000 in
/-- GlacierMailModel.isWaiting -/
noncomputable def p2_s983 : ck_Sum := ((8, 0, 0), 245, [.inr (.inr (.inl 226)), .inl (ck_one 14)], ([], [], zl83), (zl81, []), [(.inr (some (.inl (ck_one 0))), 245, ([], [], [])), (.inr (some (.inl (ck_one 1))), 245, ([], [], [(226, 29, 29, (0, 299, [])), (227, 222, 222, ck_one (-1)), (227, 217, 217, (0, 7, []))]))])
set_option maxRecDepth 100000 in
theorem p2_s983_s {X : Int → Int} {LX : Nat} : ck_Ok p2_O X LX 302 p2_s983 := ck_ok_s (O := p2_O) (X := X) (LX := LX) (E := [(303, [p2_s981]), (301, [p2_s982]), (304, [p2_s381]), (266, [p2_s190])]) (mi := 302) (cuts := []) (f := 114) (S := p2_s983) (lx := none) (XF := []) ⟨p2_nmu, ck_E1 (ck_S1 p2_s981_s ck_S0) (ck_E1 (ck_S1 p2_s982_s ck_S0) (ck_E1 (ck_S1 p2_s381_s ck_S0) (ck_E1 (ck_S1 p2_s190_s ck_S0) ck_E0)))⟩ ck_X0 ck_l0 (by decide +kernel)
set_option maxRecDepth 100000 in
/-- GlacierMailModel.ofLetter -/
noncomputable def p2_s984 : ck_Sum := ((0, 0, 0), 245, [.inr (.inr (.inl 226)), .inl (ck_one 14), .inl (ck_one 1)], ([], [], []), ([], []), [(.inr (some (.inl (ck_one (-1)))), 245, ([], [], [(227, 218, 218, ck_one (-1))])), (.inr (some (.inl (0, 7, []))), 245, ([], [], [(227, 218, 218, (0, 7, []))]))])
set_option maxRecDepth 100000 in
theorem p2_s984_s {X : Int → Int} {LX : Nat} : ck_Ok p2_O X LX 301 p2_s984 := ck_ok_s (O := p2_O) (X := X) (LX := LX) (E := []) (mi := 301) (cuts := []) (f := 92) (S := p2_s984) (lx := none) (XF := []) ⟨p2_nmu, ck_E0⟩ ck_X0 ck_l0 (by decide +kernel)
set_option maxRecDepth 100000 in
/-- GlacierMailModel.ofLetter -/
noncomputable def p2_s985 : ck_Sum := ((0, 0, 0), 245, [.inr (.inr (.inl 226)), .inl (ck_one 14), .inl (ck_one 3)], ([], [], []), ([], []), [(.inr (some (.inl (0, 299, []))), 245, ([], [], []))])
set_option maxRecDepth 100000 in
theorem p2_s985_s {X : Int → Int} {LX : Nat} : ck_Ok p2_O X LX 301 p2_s985 := ck_ok_s (O := p2_O) (X := X) (LX := LX) (E := []) (mi := 301) (cuts := []) (f := 92) (S := p2_s985) (lx := none) (XF := []) ⟨p2_nmu, ck_E0⟩ ck_X0 ck_l0 (by decide +kernel)
/-- GlacierMailModel.opens -/
noncomputable def p2_s986 : ck_Sum := op_os0 14 (.inl (ck_one (-1))) 0 7 (-1) (-1)
theorem p2_s986_s {X : Int → Int} {LX : Nat} : ck_Ok p2_O X LX 319 p2_s986 := op_none (by decide) (by decide) (by decide)
/-- GlacierMailModel.opens -/
noncomputable def p2_s987 : ck_Sum := op_os 14 0 7
theorem p2_s987_s {X : Int → Int} {LX : Nat} : ck_Ok p2_O X LX 319 p2_s987 := op_open (by decide) (by decide) (by decide +kernel)
set_option maxRecDepth 100000 in
/-- GlacierMailModel.open -/
noncomputable def p2_s988 : ck_Sum := ((9, 0, 0), 245, [.inr (.inr (.inl 226)), .inl (ck_one 14)], ([], [], zl176), ([(226, 0, 0), (226, 6, 6), (226, 17, 23), (226, 26, 26), (226, 29, 30), (227, 14, 14), (227, 222, 223), (227, 323, 394), (230, 0, 4739), (233, 0, 399), (235, 0, 29699), (236, 0, 299), (237, 0, 299)], []), [(.inr (some (.inl (ck_one 0))), 245, ([], [], zl177)), (.inr (some (.inl ((-299), 299, []))), 245, ([], [], [(227, 222, 222, (0, 7, [])), (227, 218, 218, (0, 7, [])), (226, 6, 6, (1, 12, [(1000027, 0)])), (226, 29, 29, (0, 299, [])), (227, 217, 217, (0, 7, [])), (226, 0, 0, ck_one 0)]))])
set_option maxRecDepth 100000 in
theorem p2_s988_s {X : Int → Int} {LX : Nat} : ck_Ok p2_O X LX 318 p2_s988 := ck_ok_s (O := p2_O) (X := X) (LX := LX) (E := [(309, [p2_s979]), (282, [p2_s241, p2_s242, p2_s244, p2_s243]), (302, [p2_s983]), (316, [p2_s553]), (301, [p2_s984, p2_s985]), (319, [p2_s986, p2_s987]), (266, [p2_s190])]) (mi := 318) (cuts := []) (f := 142) (S := p2_s988) (lx := none) (XF := []) ⟨p2_nmu, ck_E1 (ck_S1 p2_s979_s ck_S0) (ck_E1 (ck_S1 p2_s241_s (ck_S1 p2_s242_s (ck_S1 p2_s244_s (ck_S1 p2_s243_s ck_S0)))) (ck_E1 (ck_S1 p2_s983_s ck_S0) (ck_E1 (ck_S1 p2_s553_s ck_S0) (ck_E1 (ck_S1 p2_s984_s (ck_S1 p2_s985_s ck_S0)) (ck_E1 (ck_S1 p2_s986_s (ck_S1 p2_s987_s ck_S0)) (ck_E1 (ck_S1 p2_s190_s ck_S0) ck_E0))))))⟩ ck_X0 ck_l0 (by decide +kernel)
set_option maxRecDepth 100000 in
/-- GlacierMailModel.in -/
noncomputable def p2_s989 : ck_Sum := ((0, 0, 0), 245, [.inl (ck_one 15), .inl (ck_one 0), .inl ((-1), 23, [])], ([], [], []), ([], []), [(.inr (some (.inl (ck_one 0))), 245, ([], [], [])), (.inr (some (.inl (ck_one 1))), 245, ([], [], []))])
set_option maxRecDepth 100000 in
theorem p2_s989_s {X : Int → Int} {LX : Nat} : ck_Ok p2_O X LX 286 p2_s989 := ck_ok_s (O := p2_O) (X := X) (LX := LX) (E := []) (mi := 286) (cuts := []) (f := 88) (S := p2_s989) (lx := none) (XF := []) ⟨p2_nmu, ck_E0⟩ ck_X0 ck_l0 (by decide +kernel)
set_option maxRecDepth 100000 in
/-- GlacierMailModel.noLetter -/
noncomputable def p2_s990 : ck_Sum := ((1, 0, 0), 245, [.inr (.inr (.inl 226)), .inl (ck_one 15)], ([], [], [(227, 4, 4, (0, 24, [(22, 0)]))]), ([], []), [(.inr (some (.inl (ck_one 1))), 245, ([], [], [])), (.inr (some (.inl (ck_one 0))), 245, ([], [], []))])
set_option maxRecDepth 100000 in
theorem p2_s990_s {X : Int → Int} {LX : Nat} : ck_Ok p2_O X LX 309 p2_s990 := ck_ok_s (O := p2_O) (X := X) (LX := LX) (E := [(254, [p2_s176]), (286, [p2_s989])]) (mi := 309) (cuts := []) (f := 92) (S := p2_s990) (lx := none) (XF := []) ⟨p2_nmu, ck_E1 (ck_S1 p2_s176_s ck_S0) (ck_E1 (ck_S1 p2_s989_s ck_S0) ck_E0)⟩ ck_X0 ck_l0 (by decide +kernel)
