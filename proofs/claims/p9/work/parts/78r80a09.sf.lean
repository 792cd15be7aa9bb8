/-! 78r80a09.sf -/
section
/-! EVERY CALL ENDS, whatever was done before (laid by wip/am/p2k.py). -/
set_option maxRecDepth 100000 in
/-- GlacierMail.open -/
noncomputable def p2_s811 : ck_Sum := ((8, 2, 12), 245, [.inr (.inr (.inl 1)), .inl (ck_one 22)], ([], zl102, [(3, 6, 6, (0, 299, [(10, 0)]))]), ([(1, 15, 15), (11, 159, 160), (14, 3, 3), (15, 0, 71), (42, 1, 2), (44, 0, 7), (45, 3, 3), (46, 0, 55), (47, 3, 3), (48, 0, 23), (49, 3, 3), (50, 0, 23), (51, 3, 3), (52, 0, 167), (53, 3, 3), (54, 0, 35), (55, 3, 3), (56, 0, 71), (57, 0, 7), (58, 3, 3), (59, 0, 55), (60, 3, 3), (61, 0, 23), (62, 3, 3), (63, 0, 23), (64, 3, 3), (65, 0, 167), (66, 3, 3), (67, 0, 35), (68, 3, 3), (69, 0, 71), (70, 0, 7), (71, 3, 3), (72, 0, 55), (73, 3, 3), (74, 0, 23), (75, 3, 3), (76, 0, 23), (77, 3, 3), (78, 0, 167), (79, 3, 3), (80, 0, 35), (81, 3, 3), (82, 0, 71), (83, 0, 7), (84, 3, 3), (85, 0, 55), (86, 3, 3), (87, 0, 23), (88, 3, 3), (89, 0, 23), (90, 3, 3), (91, 0, 167), (92, 3, 3), (93, 0, 35), (94, 3, 3), (95, 0, 71), (96, 0, 7), (97, 3, 3), (98, 0, 55), (99, 3, 3), (100, 0, 23), (101, 3, 3), (102, 0, 23), (103, 3, 3), (104, 0, 167), (105, 3, 3), (106, 0, 35), (107, 3, 3), (108, 0, 71), (109, 0, 7), (110, 3, 3), (111, 0, 55), (112, 3, 3), (113, 0, 23), (114, 3, 3), (115, 0, 23), (116, 3, 3), (117, 0, 167), (118, 3, 3), (119, 0, 35), (120, 3, 3), (121, 0, 71), (122, 0, 7), (123, 3, 3), (124, 0, 55), (125, 3, 3), (126, 0, 23), (127, 3, 3), (128, 0, 23), (129, 3, 3), (130, 0, 167), (131, 3, 3), (132, 0, 35), (133, 3, 3), (134, 0, 71), (135, 0, 7), (136, 3, 3), (137, 0, 55), (138, 3, 3), (139, 0, 23), (140, 3, 3), (141, 0, 23), (142, 3, 3), (143, 0, 167), (144, 3, 3), (145, 0, 35), (146, 3, 3), (147, 0, 71), (148, 0, 7), (149, 3, 3), (150, 0, 55), (151, 3, 3), (152, 0, 23), (153, 3, 3), (154, 0, 23), (155, 3, 3), (156, 0, 167), (157, 3, 3), (158, 0, 35), (159, 3, 3), (160, 0, 71), (161, 0, 7), (162, 3, 3), (163, 0, 55), (164, 3, 3), (165, 0, 23), (166, 3, 3), (167, 0, 23), (168, 3, 3), (169, 0, 167), (170, 3, 3), (171, 0, 35), (172, 3, 3), (173, 0, 71), (174, 0, 7), (175, 3, 3), (176, 0, 55), (177, 3, 3), (178, 0, 23), (179, 3, 3), (180, 0, 23), (181, 3, 3), (182, 0, 167), (183, 3, 3), (184, 0, 35), (185, 3, 3), (186, 0, 71), (187, 0, 7), (188, 3, 3), (189, 0, 55), (190, 3, 3), (191, 0, 23), (192, 3, 3), (193, 0, 23), (194, 3, 3), (195, 0, 167), (196, 3, 3), (197, 0, 35), (198, 3, 3), (199, 0, 71), (206, 2, 8), (220, 3, 3), (221, 0, 47)], zl104), zl175)
set_option maxRecDepth 100000 in
theorem p2_s811_s {X : Int → Int} {LX : Nat} : ck_Ok p2_O X LX 158 p2_s811 := ck_ok_s (O := p2_O) (X := X) (LX := LX) (E := [(143, [p2_s803]), (24, [p2_s349]), (66, [p2_s805]), (154, [p2_s529]), (10, [p2_s335]), (159, [p2_s810])]) (mi := 158) (cuts := []) (f := 140) (S := p2_s811) (lx := none) (XF := []) ⟨p2_nmu, ck_E1 (ck_S1 p2_s803_s ck_S0) (ck_E1 (ck_S1 p2_s349_s ck_S0) (ck_E1 (ck_S1 p2_s805_s ck_S0) (ck_E1 (ck_S1 p2_s529_s ck_S0) (ck_E1 (ck_S1 p2_s335_s ck_S0) (ck_E1 (ck_S1 p2_s810_s ck_S0) ck_E0)))))⟩ ck_X0 ck_l0 (by decide +kernel)
set_option maxRecDepth 100000 in
/-- GlacierMail.need -/
noncomputable def p2_s812 : ck_Sum := ((6, 1, 6), 245, [.inr (.inr (.inl 1)), .inl (ck_one 23), .inl (0, 24, [])], ([], [], []), ([], []), [(.inr none, 245, ([], [], [])), (.inl 3, 245, ([], [], []))])
set_option maxRecDepth 100000 in
theorem p2_s812_s {X : Int → Int} {LX : Nat} : ck_Ok p2_O X LX 133 p2_s812 := ck_ok_s (O := p2_O) (X := X) (LX := LX) (E := []) (mi := 133) (cuts := []) (f := 82) (S := p2_s812) (lx := none) (XF := []) ⟨p2_nmu, ck_E0⟩ ck_X0 ck_l0 (by decide +kernel)
set_option maxRecDepth 100000 in
/-- GlacierMail.needLetter -/
noncomputable def p2_s813 : ck_Sum := ((7, 1, 6), 245, [.inr (.inr (.inl 1)), .inl (ck_one 23)], ([], [], []), ([], []), [(.inl 3, 245, ([], [], [])), (.inr none, 245, ([], [], []))])
set_option maxRecDepth 100000 in
theorem p2_s813_s {X : Int → Int} {LX : Nat} : ck_Ok p2_O X LX 143 p2_s813 := ck_ok_s (O := p2_O) (X := X) (LX := LX) (E := [(9, [p2_s331]), (133, [p2_s812])]) (mi := 143) (cuts := []) (f := 86) (S := p2_s813) (lx := none) (XF := []) ⟨p2_nmu, ck_E1 (ck_S1 p2_s331_s ck_S0) (ck_E1 (ck_S1 p2_s812_s ck_S0) ck_E0)⟩ ck_X0 ck_l0 (by decide +kernel)
set_option maxRecDepth 100000 in
/-- GlacierMail$State.isRock -/
noncomputable def p2_s814 : ck_Sum := ((1, 0, 0), 245, [.inr (.inr (.inl 3)), .inl (ck_one 23)], ([], [], []), ([], []), [(.inr (some (.inl (ck_one 0))), 245, ([], [], [])), (.inr (some (.inl (ck_one 1))), 245, ([], [], []))])
set_option maxRecDepth 100000 in
theorem p2_s814_s {X : Int → Int} {LX : Nat} : ck_Ok p2_O X LX 28 p2_s814 := ck_ok_s (O := p2_O) (X := X) (LX := LX) (E := [(10, [p2_s335])]) (mi := 28) (cuts := []) (f := 90) (S := p2_s814) (lx := none) (XF := []) ⟨p2_nmu, ck_E1 (ck_S1 p2_s335_s ck_S0) ck_E0⟩ ck_X0 ck_l0 (by decide +kernel)
set_option maxRecDepth 100000 in
/-- GlacierMail.waits -/
noncomputable def p2_s815 : ck_Sum := ((2, 0, 0), 245, [.inr (.inr (.inl 1)), .inl (ck_one 23)], ([], [], [(3, 6, 6, (0, 299, [(10, 0)]))]), ([], []), [(.inr (some (.inl (ck_one 0))), 245, ([], [], [])), (.inr (some (.inl (ck_one 1))), 245, ([], [], []))])
set_option maxRecDepth 100000 in
theorem p2_s815_s {X : Int → Int} {LX : Nat} : ck_Ok p2_O X LX 66 p2_s815 := ck_ok_s (O := p2_O) (X := X) (LX := LX) (E := [(28, [p2_s814]), (10, [p2_s335, p2_s350]), (67, [p2_s351])]) (mi := 66) (cuts := []) (f := 134) (S := p2_s815) (lx := none) (XF := []) ⟨p2_nmu, ck_E1 (ck_S1 p2_s814_s ck_S0) (ck_E1 (ck_S1 p2_s335_s (ck_S1 p2_s350_s ck_S0)) (ck_E1 (ck_S1 p2_s351_s ck_S0) ck_E0))⟩ ck_X0 ck_l0 (by decide +kernel)
set_option maxRecDepth 100000 in
/-- GlacierMail$Rows.put -/
noncomputable def p2_s816 : ck_Sum := ((0, 0, 0), 245, [.inr (.inr (.inl 10)), .inl (ck_one 23), .inl (ck_one 5), .inl ((-1), 299, [])], ([], [], []), ([(11, 166, 166)], []), [(.inr none, 245, ([], [], []))])
set_option maxRecDepth 100000 in
theorem p2_s816_s {X : Int → Int} {LX : Nat} : ck_Ok p2_O X LX 45 p2_s816 := ck_ok_s (O := p2_O) (X := X) (LX := LX) (E := []) (mi := 45) (cuts := []) (f := 116) (S := p2_s816) (lx := none) (XF := []) ⟨p2_nmu, ck_E0⟩ ck_X0 ck_l0 (by decide +kernel)
set_option maxRecDepth 100000 in
/-- GlacierMail$Rows.put -/
noncomputable def p2_s817 : ck_Sum := ((0, 0, 0), 245, [.inr (.inr (.inl 10)), .inl (ck_one 23), .inl (ck_one 6), .inl (0, 299, [])], ([], [], []), ([(11, 167, 167)], []), [(.inr none, 245, ([], [], []))])
set_option maxRecDepth 100000 in
theorem p2_s817_s {X : Int → Int} {LX : Nat} : ck_Ok p2_O X LX 45 p2_s817 := ck_ok_s (O := p2_O) (X := X) (LX := LX) (E := []) (mi := 45) (cuts := []) (f := 116) (S := p2_s817) (lx := none) (XF := []) ⟨p2_nmu, ck_E0⟩ ck_X0 ck_l0 (by decide +kernel)
set_option maxRecDepth 100000 in
/-- GlacierMail$Rows.put -/
noncomputable def p2_s818 : ck_Sum := ((0, 0, 0), 245, [.inr (.inr (.inl 14)), .inl (0, 23, []), .inl (ck_one 1), .inl (ck_one 23)], ([], [], []), (zl173, []), [(.inr none, 245, ([], [], []))])
set_option maxRecDepth 100000 in
theorem p2_s818_s {X : Int → Int} {LX : Nat} : ck_Ok p2_O X LX 45 p2_s818 := ck_ok_s (O := p2_O) (X := X) (LX := LX) (E := []) (mi := 45) (cuts := []) (f := 116) (S := p2_s818) (lx := none) (XF := []) ⟨p2_nmu, ck_E0⟩ ck_X0 ck_l0 (by decide +kernel)
set_option maxRecDepth 100000 in
/-- GlacierMail$Rows.put -/
noncomputable def p2_s819 : ck_Sum := ((0, 0, 0), 245, [.inr (.inr (.inl 14)), .inl (ck_one (-1)), .inl (ck_one 1), .inl (ck_one 23)], ([], [], []), ([], []), [(.inr none, 245, ([], [], []))])
set_option maxRecDepth 100000 in
theorem p2_s819_s {X : Int → Int} {LX : Nat} : ck_Ok p2_O X LX 45 p2_s819 := ck_ok_s (O := p2_O) (X := X) (LX := LX) (E := []) (mi := 45) (cuts := []) (f := 76) (S := p2_s819) (lx := none) (XF := []) ⟨p2_nmu, ck_E0⟩ ck_X0 ck_l0 (by decide +kernel)
set_option maxRecDepth 100000 in
/-- GlacierMail$State.openLetter -/
noncomputable def p2_s820 : ck_Sum := ((1, 0, 0), 245, [.inr (.inr (.inl 3)), .inl (ck_one 23), .inl ((-1), 299, [])], ([], [], [(3, 6, 6, (0, 299, [(10, 0)]))]), ([(11, 166, 167), (14, 3, 3), (15, 0, 71)], []), [(.inr none, 245, ([], [], [(14, 3, 3, (1, 24, []))]))])
set_option maxRecDepth 100000 in
theorem p2_s820_s {X : Int → Int} {LX : Nat} : ck_Ok p2_O X LX 159 p2_s820 := ck_ok_s (O := p2_O) (X := X) (LX := LX) (E := [(45, [p2_s816, p2_s817, p2_s583, p2_s818, p2_s585, p2_s586, p2_s819, p2_s588]), (102, [p2_s589])]) (mi := 159) (cuts := []) (f := 144) (S := p2_s820) (lx := none) (XF := []) ⟨p2_nmu, ck_E1 (ck_S1 p2_s816_s (ck_S1 p2_s817_s (ck_S1 p2_s583_s (ck_S1 p2_s818_s (ck_S1 p2_s585_s (ck_S1 p2_s586_s (ck_S1 p2_s819_s (ck_S1 p2_s588_s ck_S0)))))))) (ck_E1 (ck_S1 p2_s589_s ck_S0) ck_E0)⟩ ck_X0 ck_l0 (by decide +kernel)
set_option maxRecDepth 100000 in
/-- GlacierMail.open -/
noncomputable def p2_s821 : ck_Sum := ((8, 2, 12), 245, [.inr (.inr (.inl 1)), .inl (ck_one 23)], ([], zl102, [(3, 6, 6, (0, 299, [(10, 0)]))]), ([(1, 15, 15), (11, 166, 167), (14, 3, 3), (15, 0, 71), (42, 1, 2), (44, 0, 7), (45, 3, 3), (46, 0, 55), (47, 3, 3), (48, 0, 23), (49, 3, 3), (50, 0, 23), (51, 3, 3), (52, 0, 167), (53, 3, 3), (54, 0, 35), (55, 3, 3), (56, 0, 71), (57, 0, 7), (58, 3, 3), (59, 0, 55), (60, 3, 3), (61, 0, 23), (62, 3, 3), (63, 0, 23), (64, 3, 3), (65, 0, 167), (66, 3, 3), (67, 0, 35), (68, 3, 3), (69, 0, 71), (70, 0, 7), (71, 3, 3), (72, 0, 55), (73, 3, 3), (74, 0, 23), (75, 3, 3), (76, 0, 23), (77, 3, 3), (78, 0, 167), (79, 3, 3), (80, 0, 35), (81, 3, 3), (82, 0, 71), (83, 0, 7), (84, 3, 3), (85, 0, 55), (86, 3, 3), (87, 0, 23), (88, 3, 3), (89, 0, 23), (90, 3, 3), (91, 0, 167), (92, 3, 3), (93, 0, 35), (94, 3, 3), (95, 0, 71), (96, 0, 7), (97, 3, 3), (98, 0, 55), (99, 3, 3), (100, 0, 23), (101, 3, 3), (102, 0, 23), (103, 3, 3), (104, 0, 167), (105, 3, 3), (106, 0, 35), (107, 3, 3), (108, 0, 71), (109, 0, 7), (110, 3, 3), (111, 0, 55), (112, 3, 3), (113, 0, 23), (114, 3, 3), (115, 0, 23), (116, 3, 3), (117, 0, 167), (118, 3, 3), (119, 0, 35), (120, 3, 3), (121, 0, 71), (122, 0, 7), (123, 3, 3), (124, 0, 55), (125, 3, 3), (126, 0, 23), (127, 3, 3), (128, 0, 23), (129, 3, 3), (130, 0, 167), (131, 3, 3), (132, 0, 35), (133, 3, 3), (134, 0, 71), (135, 0, 7), (136, 3, 3), (137, 0, 55), (138, 3, 3), (139, 0, 23), (140, 3, 3), (141, 0, 23), (142, 3, 3), (143, 0, 167), (144, 3, 3), (145, 0, 35), (146, 3, 3), (147, 0, 71), (148, 0, 7), (149, 3, 3), (150, 0, 55), (151, 3, 3), (152, 0, 23), (153, 3, 3), (154, 0, 23), (155, 3, 3), (156, 0, 167), (157, 3, 3), (158, 0, 35), (159, 3, 3), (160, 0, 71), (161, 0, 7), (162, 3, 3), (163, 0, 55), (164, 3, 3), (165, 0, 23), (166, 3, 3), (167, 0, 23), (168, 3, 3), (169, 0, 167), (170, 3, 3), (171, 0, 35), (172, 3, 3), (173, 0, 71), (174, 0, 7), (175, 3, 3), (176, 0, 55), (177, 3, 3), (178, 0, 23), (179, 3, 3), (180, 0, 23), (181, 3, 3), (182, 0, 167), (183, 3, 3), (184, 0, 35), (185, 3, 3), (186, 0, 71), (187, 0, 7), (188, 3, 3), (189, 0, 55), (190, 3, 3), (191, 0, 23), (192, 3, 3), (193, 0, 23), (194, 3, 3), (195, 0, 167), (196, 3, 3), (197, 0, 35), (198, 3, 3), (199, 0, 71), (206, 2, 8), (220, 3, 3), (221, 0, 47)], zl104), zl175)
set_option maxRecDepth 100000 in
theorem p2_s821_s {X : Int → Int} {LX : Nat} : ck_Ok p2_O X LX 158 p2_s821 := ck_ok_s (O := p2_O) (X := X) (LX := LX) (E := [(143, [p2_s813]), (24, [p2_s349]), (66, [p2_s815]), (154, [p2_s529]), (10, [p2_s335]), (159, [p2_s820])]) (mi := 158) (cuts := []) (f := 140) (S := p2_s821) (lx := none) (XF := []) ⟨p2_nmu, ck_E1 (ck_S1 p2_s813_s ck_S0) (ck_E1 (ck_S1 p2_s349_s ck_S0) (ck_E1 (ck_S1 p2_s815_s ck_S0) (ck_E1 (ck_S1 p2_s529_s ck_S0) (ck_E1 (ck_S1 p2_s335_s ck_S0) (ck_E1 (ck_S1 p2_s820_s ck_S0) ck_E0)))))⟩ ck_X0 ck_l0 (by decide +kernel)
set_option maxRecDepth 100000 in
/-- GlacierMailModel.open -/
noncomputable def p2_s822 : ck_Sum := ((2, 0, 0), 245, [.inr (.inr (.inl 226)), .inl ((-2147483648), (-1), [])], ([], [], [(227, 4, 4, (0, 24, [(22, 0)]))]), ([(226, 0, 0)], []), [(.inr (some (.inl (ck_one 0))), 245, ([], [], [(226, 0, 0, ck_one 1)]))])
set_option maxRecDepth 100000 in
theorem p2_s822_s {X : Int → Int} {LX : Nat} : ck_Ok p2_O X LX 318 p2_s822 := ck_ok_s (O := p2_O) (X := X) (LX := LX) (E := [(309, [p2_s400]), (282, [p2_s241])]) (mi := 318) (cuts := []) (f := 94) (S := p2_s822) (lx := none) (XF := []) ⟨p2_nmu, ck_E1 (ck_S1 p2_s400_s ck_S0) (ck_E1 (ck_S1 p2_s241_s ck_S0) ck_E0)⟩ ck_X0 ck_l0 (by decide +kernel)
set_option maxRecDepth 100000 in
/-- GlacierMailModel.open -/
noncomputable def p2_s823 : ck_Sum := ((2, 0, 0), 245, [.inr (.inr (.inl 226)), .inl (24, 2147483647, [])], ([], [], [(227, 4, 4, (0, 24, [(22, 0)]))]), ([(226, 0, 0)], []), [(.inr (some (.inl (ck_one 0))), 245, ([], [], [(226, 0, 0, ck_one 1)]))])
set_option maxRecDepth 100000 in
theorem p2_s823_s {X : Int → Int} {LX : Nat} : ck_Ok p2_O X LX 318 p2_s823 := ck_ok_s (O := p2_O) (X := X) (LX := LX) (E := [(309, [p2_s403]), (282, [p2_s241])]) (mi := 318) (cuts := []) (f := 94) (S := p2_s823) (lx := none) (XF := []) ⟨p2_nmu, ck_E1 (ck_S1 p2_s403_s ck_S0) (ck_E1 (ck_S1 p2_s241_s ck_S0) ck_E0)⟩ ck_X0 ck_l0 (by decide +kernel)
set_option maxRecDepth 100000 in
/-- GlacierMailModel.in -/
noncomputable def p2_s824 : ck_Sum := ((0, 0, 0), 245, [.inl (ck_one 0), .inl (ck_one 0), .inl ((-1), 23, [])], ([], [], []), ([], []), [(.inr (some (.inl (ck_one 0))), 245, ([], [], [])), (.inr (some (.inl (ck_one 1))), 245, ([], [], []))])
set_option maxRecDepth 100000 in
theorem p2_s824_s {X : Int → Int} {LX : Nat} : ck_Ok p2_O X LX 286 p2_s824 := ck_ok_s (O := p2_O) (X := X) (LX := LX) (E := []) (mi := 286) (cuts := []) (f := 88) (S := p2_s824) (lx := none) (XF := []) ⟨p2_nmu, ck_E0⟩ ck_X0 ck_l0 (by decide +kernel)
set_option maxRecDepth 100000 in
/-- GlacierMailModel.noLetter -/
noncomputable def p2_s825 : ck_Sum := ((1, 0, 0), 245, [.inr (.inr (.inl 226)), .inl (ck_one 0)], ([], [], [(227, 4, 4, (0, 24, [(22, 0)]))]), ([], []), [(.inr (some (.inl (ck_one 1))), 245, ([], [], [])), (.inr (some (.inl (ck_one 0))), 245, ([], [], []))])
set_option maxRecDepth 100000 in
theorem p2_s825_s {X : Int → Int} {LX : Nat} : ck_Ok p2_O X LX 309 p2_s825 := ck_ok_s (O := p2_O) (X := X) (LX := LX) (E := [(254, [p2_s176]), (286, [p2_s824])]) (mi := 309) (cuts := []) (f := 92) (S := p2_s825) (lx := none) (XF := []) ⟨p2_nmu, ck_E1 (ck_S1 p2_s176_s ck_S0) (ck_E1 (ck_S1 p2_s824_s ck_S0) ck_E0)⟩ ck_X0 ck_l0 (by decide +kernel)
set_option maxRecDepth 100000 in
/-- GlacierMailModel.ofLetter -/
noncomputable def p2_s826 : ck_Sum := ((0, 0, 0), 245, [.inr (.inr (.inl 226)), .inl (ck_one 0), .inl (ck_one 0)], ([], [], []), ([], []), [(.inr (some (.inl (ck_one (-1)))), 245, ([], [], [(227, 119, 119, ck_one (-1))])), (.inr (some (.inl (0, 7, []))), 245, ([], [], [(227, 119, 119, (0, 7, []))]))])
set_option maxRecDepth 100000 in
theorem p2_s826_s {X : Int → Int} {LX : Nat} : ck_Ok p2_O X LX 301 p2_s826 := ck_ok_s (O := p2_O) (X := X) (LX := LX) (E := []) (mi := 301) (cuts := []) (f := 92) (S := p2_s826) (lx := none) (XF := []) ⟨p2_nmu, ck_E0⟩ ck_X0 ck_l0 (by decide +kernel)
set_option maxRecDepth 100000 in
/-- GlacierMailModel.isRock -/
noncomputable def p2_s827 : ck_Sum := ((1, 0, 0), 245, [.inr (.inr (.inl 226)), .inl (ck_one 0)], ([], [], []), ([], []), [(.inr (some (.inl (ck_one 1))), 245, ([], [], [(227, 119, 119, ck_one (-1))])), (.inr (some (.inl (ck_one 0))), 245, ([], [], [(227, 119, 119, (0, 7, []))]))])
set_option maxRecDepth 100000 in
theorem p2_s827_s {X : Int → Int} {LX : Nat} : ck_Ok p2_O X LX 303 p2_s827 := ck_ok_s (O := p2_O) (X := X) (LX := LX) (E := [(301, [p2_s826])]) (mi := 303) (cuts := []) (f := 86) (S := p2_s827) (lx := none) (XF := []) ⟨p2_nmu, ck_E1 (ck_S1 p2_s826_s ck_S0) ck_E0⟩ ck_X0 ck_l0 (by decide +kernel)
set_option maxRecDepth 100000 in
/-- GlacierMailModel.ofLetter -/
noncomputable def p2_s828 : ck_Sum := ((0, 0, 0), 245, [.inr (.inr (.inl 226)), .inl (ck_one 0), .inl (ck_one 5)], ([], [], []), ([], []), [(.inr (some (.inl (ck_one (-1)))), 245, ([], [], [(227, 124, 124, ck_one (-1))])), (.inr (some (.inl (0, 7, []))), 245, ([], [], [(227, 124, 124, (0, 7, []))]))])
set_option maxRecDepth 100000 in
theorem p2_s828_s {X : Int → Int} {LX : Nat} : ck_Ok p2_O X LX 301 p2_s828 := ck_ok_s (O := p2_O) (X := X) (LX := LX) (E := []) (mi := 301) (cuts := []) (f := 92) (S := p2_s828) (lx := none) (XF := []) ⟨p2_nmu, ck_E0⟩ ck_X0 ck_l0 (by decide +kernel)
set_option maxRecDepth 100000 in
/-- GlacierMailModel.isWaiting -/
noncomputable def p2_s829 : ck_Sum := ((8, 0, 0), 245, [.inr (.inr (.inl 226)), .inl (ck_one 0)], ([], [], zl83), (zl81, []), [(.inr (some (.inl (ck_one 0))), 245, ([], [], [])), (.inr (some (.inl (ck_one 1))), 245, ([], [], [(226, 29, 29, (0, 299, [])), (227, 124, 124, ck_one (-1)), (227, 119, 119, (0, 7, []))]))])
set_option maxRecDepth 100000 in
theorem p2_s829_s {X : Int → Int} {LX : Nat} : ck_Ok p2_O X LX 302 p2_s829 := ck_ok_s (O := p2_O) (X := X) (LX := LX) (E := [(303, [p2_s827]), (301, [p2_s828]), (304, [p2_s381]), (266, [p2_s190])]) (mi := 302) (cuts := []) (f := 114) (S := p2_s829) (lx := none) (XF := []) ⟨p2_nmu, ck_E1 (ck_S1 p2_s827_s ck_S0) (ck_E1 (ck_S1 p2_s828_s ck_S0) (ck_E1 (ck_S1 p2_s381_s ck_S0) (ck_E1 (ck_S1 p2_s190_s ck_S0) ck_E0)))⟩ ck_X0 ck_l0 (by decide +kernel)
set_option maxRecDepth 100000 in
/-- GlacierMailModel.ofLetter -/
noncomputable def p2_s830 : ck_Sum := ((0, 0, 0), 245, [.inr (.inr (.inl 226)), .inl (ck_one 0), .inl (ck_one 1)], ([], [], []), ([], []), [(.inr (some (.inl (ck_one (-1)))), 245, ([], [], [(227, 120, 120, ck_one (-1))])), (.inr (some (.inl (0, 7, []))), 245, ([], [], [(227, 120, 120, (0, 7, []))]))])
set_option maxRecDepth 100000 in
theorem p2_s830_s {X : Int → Int} {LX : Nat} : ck_Ok p2_O X LX 301 p2_s830 := ck_ok_s (O := p2_O) (X := X) (LX := LX) (E := []) (mi := 301) (cuts := []) (f := 92) (S := p2_s830) (lx := none) (XF := []) ⟨p2_nmu, ck_E0⟩ ck_X0 ck_l0 (by decide +kernel)
set_option maxRecDepth 100000 in
/-- GlacierMailModel.ofLetter -/
noncomputable def p2_s831 : ck_Sum := ((0, 0, 0), 245, [.inr (.inr (.inl 226)), .inl (ck_one 0), .inl (ck_one 3)], ([], [], []), ([], []), [(.inr (some (.inl (0, 299, []))), 245, ([], [], []))])
set_option maxRecDepth 100000 in
theorem p2_s831_s {X : Int → Int} {LX : Nat} : ck_Ok p2_O X LX 301 p2_s831 := ck_ok_s (O := p2_O) (X := X) (LX := LX) (E := []) (mi := 301) (cuts := []) (f := 92) (S := p2_s831) (lx := none) (XF := []) ⟨p2_nmu, ck_E0⟩ ck_X0 ck_l0 (by decide +kernel)
/-- GlacierMailModel.opens -/
noncomputable def p2_s832 : ck_Sum := op_os0 0 (.inl (ck_one (-1))) 0 7 (-1) (-1)
theorem p2_s832_s {X : Int → Int} {LX : Nat} : ck_Ok p2_O X LX 319 p2_s832 := op_none (by decide) (by decide) (by decide)
/-- GlacierMailModel.opens -/
noncomputable def p2_s833 : ck_Sum := op_os 0 0 7
theorem p2_s833_s {X : Int → Int} {LX : Nat} : ck_Ok p2_O X LX 319 p2_s833 := op_open (by decide) (by decide) (by decide +kernel)
set_option maxRecDepth 100000 in
/-- GlacierMailModel.open -/
noncomputable def p2_s834 : ck_Sum := ((9, 0, 0), 245, [.inr (.inr (.inl 226)), .inl (ck_one 0)], ([], [], zl176), ([(226, 0, 0), (226, 6, 6), (226, 17, 23), (226, 26, 26), (226, 29, 30), (227, 14, 14), (227, 124, 125), (227, 323, 394), (230, 0, 4739), (233, 0, 399), (235, 0, 29699), (236, 0, 299), (237, 0, 299)], []), [(.inr (some (.inl (ck_one 0))), 245, ([], [], zl177)), (.inr (some (.inl ((-299), 299, []))), 245, ([], [], [(227, 124, 124, (0, 7, [])), (227, 120, 120, (0, 7, [])), (226, 6, 6, (1, 12, [(1000027, 0)])), (226, 29, 29, (0, 299, [])), (227, 119, 119, (0, 7, [])), (226, 0, 0, ck_one 0)]))])
set_option maxRecDepth 100000 in
theorem p2_s834_s {X : Int → Int} {LX : Nat} : ck_Ok p2_O X LX 318 p2_s834 := ck_ok_s (O := p2_O) (X := X) (LX := LX) (E := [(309, [p2_s825]), (282, [p2_s241, p2_s242, p2_s244, p2_s243]), (302, [p2_s829]), (316, [p2_s553]), (301, [p2_s830, p2_s831]), (319, [p2_s832, p2_s833]), (266, [p2_s190])]) (mi := 318) (cuts := []) (f := 142) (S := p2_s834) (lx := none) (XF := []) ⟨p2_nmu, ck_E1 (ck_S1 p2_s825_s ck_S0) (ck_E1 (ck_S1 p2_s241_s (ck_S1 p2_s242_s (ck_S1 p2_s244_s (ck_S1 p2_s243_s ck_S0)))) (ck_E1 (ck_S1 p2_s829_s ck_S0) (ck_E1 (ck_S1 p2_s553_s ck_S0) (ck_E1 (ck_S1 p2_s830_s (ck_S1 p2_s831_s ck_S0)) (ck_E1 (ck_S1 p2_s832_s (ck_S1 p2_s833_s ck_S0)) (ck_E1 (ck_S1 p2_s190_s ck_S0) ck_E0))))))⟩ ck_X0 ck_l0 (by decide +kernel)
set_option maxRecDepth 100000 in
/-- GlacierMailModel.in -/
noncomputable def p2_s835 : ck_Sum := ((0, 0, 0), 245, [.inl (ck_one 1), .inl (ck_one 0), .inl ((-1), 23, [])], ([], [], []), ([], []), [(.inr (some (.inl (ck_one 0))), 245, ([], [], [])), (.inr (some (.inl (ck_one 1))), 245, ([], [], []))])
set_option maxRecDepth 100000 in
theorem p2_s835_s {X : Int → Int} {LX : Nat} : ck_Ok p2_O X LX 286 p2_s835 := ck_ok_s (O := p2_O) (X := X) (LX := LX) (E := []) (mi := 286) (cuts := []) (f := 88) (S := p2_s835) (lx := none) (XF := []) ⟨p2_nmu, ck_E0⟩ ck_X0 ck_l0 (by decide +kernel)
set_option maxRecDepth 100000 in
/-- GlacierMailModel.noLetter -/
noncomputable def p2_s836 : ck_Sum := ((1, 0, 0), 245, [.inr (.inr (.inl 226)), .inl (ck_one 1)], ([], [], [(227, 4, 4, (0, 24, [(22, 0)]))]), ([], []), [(.inr (some (.inl (ck_one 1))), 245, ([], [], [])), (.inr (some (.inl (ck_one 0))), 245, ([], [], []))])
set_option maxRecDepth 100000 in
theorem p2_s836_s {X : Int → Int} {LX : Nat} : ck_Ok p2_O X LX 309 p2_s836 := ck_ok_s (O := p2_O) (X := X) (LX := LX) (E := [(254, [p2_s176]), (286, [p2_s835])]) (mi := 309) (cuts := []) (f := 92) (S := p2_s836) (lx := none) (XF := []) ⟨p2_nmu, ck_E1 (ck_S1 p2_s176_s ck_S0) (ck_E1 (ck_S1 p2_s835_s ck_S0) ck_E0)⟩ ck_X0 ck_l0 (by decide +kernel)
set_option maxRecDepth 100000 in
/-- GlacierMailModel.ofLetter -/
noncomputable def p2_s837 : ck_Sum := ((0, 0, 0), 245, [.inr (.inr (.inl 226)), .inl (ck_one 1), .inl (ck_one 0)], ([], [], []), ([], []), [(.inr (some (.inl (ck_one (-1)))), 245, ([], [], [(227, 126, 126, ck_one (-1))])), (.inr (some (.inl (0, 7, []))), 245, ([], [], [(227, 126, 126, (0, 7, []))]))])
set_option maxRecDepth 100000 in
theorem p2_s837_s {X : Int → Int} {LX : Nat} : ck_Ok p2_O X LX 301 p2_s837 := ck_ok_s (O := p2_O) (X := X) (LX := LX) (E := []) (mi := 301) (cuts := []) (f := 92) (S := p2_s837) (lx := none) (XF := []) ⟨p2_nmu, ck_E0⟩ ck_X0 ck_l0 (by decide +kernel)
set_option maxRecDepth 100000 in
/-- GlacierMailModel.isRock -/
noncomputable def p2_s838 : ck_Sum := ((1, 0, 0), 245, [.inr (.inr (.inl 226)), .inl (ck_one 1)], ([], [], []), ([], []), [(.inr (some (.inl (ck_one 1))), 245, ([], [], [(227, 126, 126, ck_one (-1))])), (.inr (some (.inl (ck_one 0))), 245, ([], [], [(227, 126, 126, (0, 7, []))]))])
set_option maxRecDepth 100000 in
theorem p2_s838_s {X : Int → Int} {LX : Nat} : ck_Ok p2_O X LX 303 p2_s838 := ck_ok_s (O := p2_O) (X := X) (LX := LX) (E := [(301, [p2_s837])]) (mi := 303) (cuts := []) (f := 86) (S := p2_s838) (lx := none) (XF := []) ⟨p2_nmu, ck_E1 (ck_S1 p2_s837_s ck_S0) ck_E0⟩ ck_X0 ck_l0 (by decide +kernel)
set_option maxRecDepth 100000 in
/-- GlacierMailModel.ofLetter -/
noncomputable def p2_s839 : ck_Sum := ((0, 0, 0), 245, [.inr (.inr (.inl 226)), .inl (ck_one 1), .inl (ck_one 5)], ([], [], []), ([], []), [(.inr (some (.inl (ck_one (-1)))), 245, ([], [], [(227, 131, 131, ck_one (-1))])), (.inr (some (.inl (0, 7, []))), 245, ([], [], [(227, 131, 131, (0, 7, []))]))])
set_option maxRecDepth 100000 in
theorem p2_s839_s {X : Int → Int} {LX : Nat} : ck_Ok p2_O X LX 301 p2_s839 := ck_ok_s (O := p2_O) (X := X) (LX := LX) (E := []) (mi := 301) (cuts := []) (f := 92) (S := p2_s839) (lx := none) (XF := []) ⟨p2_nmu, ck_E0⟩ ck_X0 ck_l0 (by decide +kernel)
set_option maxRecDepth 100000 in
/-- GlacierMailModel.isWaiting -/
noncomputable def p2_s840 : ck_Sum := ((8, 0, 0), 245, [.inr (.inr (.inl 226)), .inl (ck_one 1)], ([], [], zl83), (zl81, []), [(.inr (some (.inl (ck_one 0))), 245, ([], [], [])), (.inr (some (.inl (ck_one 1))), 245, ([], [], [(226, 29, 29, (0, 299, [])), (227, 131, 131, ck_one (-1)), (227, 126, 126, (0, 7, []))]))])
set_option maxRecDepth 100000 in
theorem p2_s840_s {X : Int → Int} {LX : Nat} : ck_Ok p2_O X LX 302 p2_s840 := ck_ok_s (O := p2_O) (X := X) (LX := LX) (E := [(303, [p2_s838]), (301, [p2_s839]), (304, [p2_s381]), (266, [p2_s190])]) (mi := 302) (cuts := []) (f := 114) (S := p2_s840) (lx := none) (XF := []) ⟨p2_nmu, ck_E1 (ck_S1 p2_s838_s ck_S0) (ck_E1 (ck_S1 p2_s839_s ck_S0) (ck_E1 (ck_S1 p2_s381_s ck_S0) (ck_E1 (ck_S1 p2_s190_s ck_S0) ck_E0)))⟩ ck_X0 ck_l0 (by decide +kernel)
set_option maxRecDepth 100000 in
/-- GlacierMailModel.ofLetter -/
noncomputable def p2_s841 : ck_Sum := ((0, 0, 0), 245, [.inr (.inr (.inl 226)), .inl (ck_one 1), .inl (ck_one 1)], ([], [], []), ([], []), [(.inr (some (.inl (ck_one (-1)))), 245, ([], [], [(227, 127, 127, ck_one (-1))])), (.inr (some (.inl (0, 7, []))), 245, ([], [], [(227, 127, 127, (0, 7, []))]))])
set_option maxRecDepth 100000 in
theorem p2_s841_s {X : Int → Int} {LX : Nat} : ck_Ok p2_O X LX 301 p2_s841 := ck_ok_s (O := p2_O) (X := X) (LX := LX) (E := []) (mi := 301) (cuts := []) (f := 92) (S := p2_s841) (lx := none) (XF := []) ⟨p2_nmu, ck_E0⟩ ck_X0 ck_l0 (by decide +kernel)
set_option maxRecDepth 100000 in
/-- GlacierMailModel.ofLetter -/
noncomputable def p2_s842 : ck_Sum := ((0, 0, 0), 245, [.inr (.inr (.inl 226)), .inl (ck_one 1), .inl (ck_one 3)], ([], [], []), ([], []), [(.inr (some (.inl (0, 299, []))), 245, ([], [], []))])
set_option maxRecDepth 100000 in
theorem p2_s842_s {X : Int → Int} {LX : Nat} : ck_Ok p2_O X LX 301 p2_s842 := ck_ok_s (O := p2_O) (X := X) (LX := LX) (E := []) (mi := 301) (cuts := []) (f := 92) (S := p2_s842) (lx := none) (XF := []) ⟨p2_nmu, ck_E0⟩ ck_X0 ck_l0 (by decide +kernel)
/-- GlacierMailModel.opens -/
noncomputable def p2_s843 : ck_Sum := op_os0 1 (.inl (ck_one (-1))) 0 7 (-1) (-1)
theorem p2_s843_s {X : Int → Int} {LX : Nat} : ck_Ok p2_O X LX 319 p2_s843 := op_none (by decide) (by decide) (by decide)
/-- GlacierMailModel.opens -/
noncomputable def p2_s844 : ck_Sum := op_os 1 0 7
theorem p2_s844_s {X : Int → Int} {LX : Nat} : ck_Ok p2_O X LX 319 p2_s844 := op_open (by decide) (by decide) (by decide +kernel)
set_option maxRecDepth 100000 in
/-- GlacierMailModel.open -/
noncomputable def p2_s845 : ck_Sum := ((9, 0, 0), 245, [.inr (.inr (.inl 226)), .inl (ck_one 1)], ([], [], zl176), ([(226, 0, 0), (226, 6, 6), (226, 17, 23), (226, 26, 26), (226, 29, 30), (227, 14, 14), (227, 131, 132), (227, 323, 394), (230, 0, 4739), (233, 0, 399), (235, 0, 29699), (236, 0, 299), (237, 0, 299)], []), [(.inr (some (.inl (ck_one 0))), 245, ([], [], zl177)), (.inr (some (.inl ((-299), 299, []))), 245, ([], [], [(227, 131, 131, (0, 7, [])), (227, 127, 127, (0, 7, [])), (226, 6, 6, (1, 12, [(1000027, 0)])), (226, 29, 29, (0, 299, [])), (227, 126, 126, (0, 7, [])), (226, 0, 0, ck_one 0)]))])
set_option maxRecDepth 100000 in
theorem p2_s845_s {X : Int → Int} {LX : Nat} : ck_Ok p2_O X LX 318 p2_s845 := ck_ok_s (O := p2_O) (X := X) (LX := LX) (E := [(309, [p2_s836]), (282, [p2_s241, p2_s242, p2_s244, p2_s243]), (302, [p2_s840]), (316, [p2_s553]), (301, [p2_s841, p2_s842]), (319, [p2_s843, p2_s844]), (266, [p2_s190])]) (mi := 318) (cuts := []) (f := 142) (S := p2_s845) (lx := none) (XF := []) ⟨p2_nmu, ck_E1 (ck_S1 p2_s836_s ck_S0) (ck_E1 (ck_S1 p2_s241_s (ck_S1 p2_s242_s (ck_S1 p2_s244_s (ck_S1 p2_s243_s ck_S0)))) (ck_E1 (ck_S1 p2_s840_s ck_S0) (ck_E1 (ck_S1 p2_s553_s ck_S0) (ck_E1 (ck_S1 p2_s841_s (ck_S1 p2_s842_s ck_S0)) (ck_E1 (ck_S1 p2_s843_s (ck_S1 p2_s844_s ck_S0)) (ck_E1 (ck_S1 p2_s190_s ck_S0) ck_E0))))))⟩ ck_X0 ck_l0 (by decide +kernel)
set_option maxRecDepth 100000 in
/-- GlacierMailModel.in -/
noncomputable def p2_s846 : ck_Sum := ((0, 0, 0), 245, [.inl (ck_one 2), .inl (ck_one 0), .inl ((-1), 23, [])], ([], [], []), ([], []), [(.inr (some (.inl (ck_one 0))), 245, ([], [], [])), (.inr (some (.inl (ck_one 1))), 245, ([], [], []))])
set_option maxRecDepth 100000 in
theorem p2_s846_s {X : Int → Int} {LX : Nat} : ck_Ok p2_O X LX 286 p2_s846 := ck_ok_s (O := p2_O) (X := X) (LX := LX) (E := []) (mi := 286) (cuts := []) (f := 88) (S := p2_s846) (lx := none) (XF := []) ⟨p2_nmu, ck_E0⟩ ck_X0 ck_l0 (by decide +kernel)
set_option maxRecDepth 100000 in
/-- GlacierMailModel.noLetter -/
noncomputable def p2_s847 : ck_Sum := ((1, 0, 0), 245, [.inr (.inr (.inl 226)), .inl (ck_one 2)], ([], [], [(227, 4, 4, (0, 24, [(22, 0)]))]), ([], []), [(.inr (some (.inl (ck_one 1))), 245, ([], [], [])), (.inr (some (.inl (ck_one 0))), 245, ([], [], []))])
set_option maxRecDepth 100000 in
theorem p2_s847_s {X : Int → Int} {LX : Nat} : ck_Ok p2_O X LX 309 p2_s847 := ck_ok_s (O := p2_O) (X := X) (LX := LX) (E := [(254, [p2_s176]), (286, [p2_s846])]) (mi := 309) (cuts := []) (f := 92) (S := p2_s847) (lx := none) (XF := []) ⟨p2_nmu, ck_E1 (ck_S1 p2_s176_s ck_S0) (ck_E1 (ck_S1 p2_s846_s ck_S0) ck_E0)⟩ ck_X0 ck_l0 (by decide +kernel)
set_option maxRecDepth 100000 in
/-- GlacierMailModel.ofLetter -/
noncomputable def p2_s848 : ck_Sum := ((0, 0, 0), 245, [.inr (.inr (.inl 226)), .inl (ck_one 2), .inl (ck_one 0)], ([], [], []), ([], []), [(.inr (some (.inl (ck_one (-1)))), 245, ([], [], [(227, 133, 133, ck_one (-1))])), (.inr (some (.inl (0, 7, []))), 245, ([], [], [(227, 133, 133, (0, 7, []))]))])
set_option maxRecDepth 100000 in
theorem p2_s848_s {X : Int → Int} {LX : Nat} : ck_Ok p2_O X LX 301 p2_s848 := ck_ok_s (O := p2_O) (X := X) (LX := LX) (E := []) (mi := 301) (cuts := []) (f := 92) (S := p2_s848) (lx := none) (XF := []) ⟨p2_nmu, ck_E0⟩ ck_X0 ck_l0 (by decide +kernel)
set_option maxRecDepth 100000 in
/-- GlacierMailModel.isRock -/
noncomputable def p2_s849 : ck_Sum := ((1, 0, 0), 245, [.inr (.inr (.inl 226)), .inl (ck_one 2)], ([], [], []), ([], []), [(.inr (some (.inl (ck_one 1))), 245, ([], [], [(227, 133, 133, ck_one (-1))])), (.inr (some (.inl (ck_one 0))), 245, ([], [], [(227, 133, 133, (0, 7, []))]))])
set_option maxRecDepth 100000 in
theorem p2_s849_s {X : Int → Int} {LX : Nat} : ck_Ok p2_O X LX 303 p2_s849 := ck_ok_s (O := p2_O) (X := X) (LX := LX) (E := [(301, [p2_s848])]) (mi := 303) (cuts := []) (f := 86) (S := p2_s849) (lx := none) (XF := []) ⟨p2_nmu, ck_E1 (ck_S1 p2_s848_s ck_S0) ck_E0⟩ ck_X0 ck_l0 (by decide +kernel)
set_option maxRecDepth 100000 in
/-- GlacierMailModel.ofLetter -/
noncomputable def p2_s850 : ck_Sum := ((0, 0, 0), 245, [.inr (.inr (.inl 226)), .inl (ck_one 2), .inl (ck_one 5)], ([], [], []), ([], []), [(.inr (some (.inl (ck_one (-1)))), 245, ([], [], [(227, 138, 138, ck_one (-1))])), (.inr (some (.inl (0, 7, []))), 245, ([], [], [(227, 138, 138, (0, 7, []))]))])
set_option maxRecDepth 100000 in
theorem p2_s850_s {X : Int → Int} {LX : Nat} : ck_Ok p2_O X LX 301 p2_s850 := ck_ok_s (O := p2_O) (X := X) (LX := LX) (E := []) (mi := 301) (cuts := []) (f := 92) (S := p2_s850) (lx := none) (XF := []) ⟨p2_nmu, ck_E0⟩ ck_X0 ck_l0 (by decide +kernel)
set_option maxRecDepth 100000 in
/-- GlacierMailModel.isWaiting -/
noncomputable def p2_s851 : ck_Sum := ((8, 0, 0), 245, [.inr (.inr (.inl 226)), .inl (ck_one 2)], ([], [], zl83), (zl81, []), [(.inr (some (.inl (ck_one 0))), 245, ([], [], [])), (.inr (some (.inl (ck_one 1))), 245, ([], [], [(226, 29, 29, (0, 299, [])), (227, 138, 138, ck_one (-1)), (227, 133, 133, (0, 7, []))]))])
set_option maxRecDepth 100000 in
theorem p2_s851_s {X : Int → Int} {LX : Nat} : ck_Ok p2_O X LX 302 p2_s851 := ck_ok_s (O := p2_O) (X := X) (LX := LX) (E := [(303, [p2_s849]), (301, [p2_s850]), (304, [p2_s381]), (266, [p2_s190])]) (mi := 302) (cuts := []) (f := 114) (S := p2_s851) (lx := none) (XF := []) ⟨p2_nmu, ck_E1 (ck_S1 p2_s849_s ck_S0) (ck_E1 (ck_S1 p2_s850_s ck_S0) (ck_E1 (ck_S1 p2_s381_s ck_S0) (ck_E1 (ck_S1 p2_s190_s ck_S0) ck_E0)))⟩ ck_X0 ck_l0 (by decide +kernel)
set_option maxRecDepth 100000 in
/-- GlacierMailModel.ofLetter -/
noncomputable def p2_s852 : ck_Sum := ((0, 0, 0), 245, [.inr (.inr (.inl 226)), .inl (ck_one 2), .inl (ck_one 1)], ([], [], []), ([], []), [(.inr (some (.inl (ck_one (-1)))), 245, ([], [], [(227, 134, 134, ck_one (-1))])), (.inr (some (.inl (0, 7, []))), 245, ([], [], [(227, 134, 134, (0, 7, []))]))])
set_option maxRecDepth 100000 in
theorem p2_s852_s {X : Int → Int} {LX : Nat} : ck_Ok p2_O X LX 301 p2_s852 := ck_ok_s (O := p2_O) (X := X) (LX := LX) (E := []) (mi := 301) (cuts := []) (f := 92) (S := p2_s852) (lx := none) (XF := []) ⟨p2_nmu, ck_E0⟩ ck_X0 ck_l0 (by decide +kernel)
set_option maxRecDepth 100000 in
/-- GlacierMailModel.ofLetter -/
noncomputable def p2_s853 : ck_Sum := ((0, 0, 0), 245, [.inr (.inr (.inl 226)), .inl (ck_one 2), .inl (ck_one 3)], ([], [], []), ([], []), [(.inr (some (.inl (0, 299, []))), 245, ([], [], []))])
set_option maxRecDepth 100000 in
theorem p2_s853_s {X : Int → Int} {LX : Nat} : ck_Ok p2_O X LX 301 p2_s853 := ck_ok_s (O := p2_O) (X := X) (LX := LX) (E := []) (mi := 301) (cuts := []) (f := 92) (S := p2_s853) (lx := none) (XF := []) ⟨p2_nmu, ck_E0⟩ ck_X0 ck_l0 (by decide +kernel)
/-- GlacierMailModel.opens -/
noncomputable def p2_s854 : ck_Sum := op_os0 2 (.inl (ck_one (-1))) 0 7 (-1) (-1)
theorem p2_s854_s {X : Int → Int} {LX : Nat} : ck_Ok p2_O X LX 319 p2_s854 := op_none (by decide) (by decide) (by decide)
/-- GlacierMailModel.opens -/
noncomputable def p2_s855 : ck_Sum := op_os 2 0 7
theorem p2_s855_s {X : Int → Int} {LX : Nat} : ck_Ok p2_O X LX 319 p2_s855 := op_open (by decide) (by decide) (by decide +kernel)
set_option maxRecDepth 100000 in
/-- GlacierMailModel.open -/
noncomputable def p2_s856 : ck_Sum := ((9, 0, 0), 245, [.inr (.inr (.inl 226)), .inl (ck_one 2)], ([], [], zl176), ([(226, 0, 0), (226, 6, 6), (226, 17, 23), (226, 26, 26), (226, 29, 30), (227, 14, 14), (227, 138, 139), (227, 323, 394), (230, 0, 4739), (233, 0, 399), (235, 0, 29699), (236, 0, 299), (237, 0, 299)], []), [(.inr (some (.inl (ck_one 0))), 245, ([], [], zl177)), (.inr (some (.inl ((-299), 299, []))), 245, ([], [], [(227, 138, 138, (0, 7, [])), (227, 134, 134, (0, 7, [])), (226, 6, 6, (1, 12, [(1000027, 0)])), (226, 29, 29, (0, 299, [])), (227, 133, 133, (0, 7, [])), (226, 0, 0, ck_one 0)]))])
set_option maxRecDepth 100000 in
theorem p2_s856_s {X : Int → Int} {LX : Nat} : ck_Ok p2_O X LX 318 p2_s856 := ck_ok_s (O := p2_O) (X := X) (LX := LX) (E := [(309, [p2_s847]), (282, [p2_s241, p2_s242, p2_s244, p2_s243]), (302, [p2_s851]), (316, [p2_s553]), (301, [p2_s852, p2_s853]), (319, [p2_s854, p2_s855]), (266, [p2_s190])]) (mi := 318) (cuts := []) (f := 142) (S := p2_s856) (lx := none) (XF := []) ⟨p2_nmu, ck_E1 (ck_S1 p2_s847_s ck_S0) (ck_E1 (ck_S1 p2_s241_s (ck_S1 p2_s242_s (ck_S1 p2_s244_s (ck_S1 p2_s243_s ck_S0)))) (ck_E1 (ck_S1 p2_s851_s ck_S0) (ck_E1 (ck_S1 p2_s553_s ck_S0) (ck_E1 (ck_S1 p2_s852_s (ck_S1 p2_s853_s ck_S0)) (ck_E1 (ck_S1 p2_s854_s (ck_S1 p2_s855_s ck_S0)) (ck_E1 (ck_S1 p2_s190_s ck_S0) ck_E0))))))⟩ ck_X0 ck_l0 (by decide +kernel)
set_option maxRecDepth 100000 in
/-- GlacierMailModel.in -/
noncomputable def p2_s857 : ck_Sum := ((0, 0, 0), 245, [.inl (ck_one 3), .inl (ck_one 0), .inl ((-1), 23, [])], ([], [], []), ([], []), [(.inr (some (.inl (ck_one 0))), 245, ([], [], [])), (.inr (some (.inl (ck_one 1))), 245, ([], [], []))])
set_option maxRecDepth 100000 in
theorem p2_s857_s {X : Int → Int} {LX : Nat} : ck_Ok p2_O X LX 286 p2_s857 := ck_ok_s (O := p2_O) (X := X) (LX := LX) (E := []) (mi := 286) (cuts := []) (f := 88) (S := p2_s857) (lx := none) (XF := []) ⟨p2_nmu, ck_E0⟩ ck_X0 ck_l0 (by decide +kernel)
set_option maxRecDepth 100000 in
/-- GlacierMailModel.noLetter -/
noncomputable def p2_s858 : ck_Sum := ((1, 0, 0), 245, [.inr (.inr (.inl 226)), .inl (ck_one 3)], ([], [], [(227, 4, 4, (0, 24, [(22, 0)]))]), ([], []), [(.inr (some (.inl (ck_one 1))), 245, ([], [], [])), (.inr (some (.inl (ck_one 0))), 245, ([], [], []))])
set_option maxRecDepth 100000 in
theorem p2_s858_s {X : Int → Int} {LX : Nat} : ck_Ok p2_O X LX 309 p2_s858 := ck_ok_s (O := p2_O) (X := X) (LX := LX) (E := [(254, [p2_s176]), (286, [p2_s857])]) (mi := 309) (cuts := []) (f := 92) (S := p2_s858) (lx := none) (XF := []) ⟨p2_nmu, ck_E1 (ck_S1 p2_s176_s ck_S0) (ck_E1 (ck_S1 p2_s857_s ck_S0) ck_E0)⟩ ck_X0 ck_l0 (by decide +kernel)
set_option maxRecDepth 100000 in
/-- GlacierMailModel.ofLetter -/
noncomputable def p2_s859 : ck_Sum := ((0, 0, 0), 245, [.inr (.inr (.inl 226)), .inl (ck_one 3), .inl (ck_one 0)], ([], [], []), ([], []), [(.inr (some (.inl (ck_one (-1)))), 245, ([], [], [(227, 140, 140, ck_one (-1))])), (.inr (some (.inl (0, 7, []))), 245, ([], [], [(227, 140, 140, (0, 7, []))]))])
set_option maxRecDepth 100000 in
theorem p2_s859_s {X : Int → Int} {LX : Nat} : ck_Ok p2_O X LX 301 p2_s859 := ck_ok_s (O := p2_O) (X := X) (LX := LX) (E := []) (mi := 301) (cuts := []) (f := 92) (S := p2_s859) (lx := none) (XF := []) ⟨p2_nmu, ck_E0⟩ ck_X0 ck_l0 (by decide +kernel)
set_option maxRecDepth 100000 in
/-- GlacierMailModel.isRock -/
noncomputable def p2_s860 : ck_Sum := ((1, 0, 0), 245, [.inr (.inr (.inl 226)), .inl (ck_one 3)], ([], [], []), ([], []), [(.inr (some (.inl (ck_one 1))), 245, ([], [], [(227, 140, 140, ck_one (-1))])), (.inr (some (.inl (ck_one 0))), 245, ([], [], [(227, 140, 140, (0, 7, []))]))])
set_option maxRecDepth 100000 in
theorem p2_s860_s {X : Int → Int} {LX : Nat} : ck_Ok p2_O X LX 303 p2_s860 := ck_ok_s (O := p2_O) (X := X) (LX := LX) (E := [(301, [p2_s859])]) (mi := 303) (cuts := []) (f := 86) (S := p2_s860) (lx := none) (XF := []) ⟨p2_nmu, ck_E1 (ck_S1 p2_s859_s ck_S0) ck_E0⟩ ck_X0 ck_l0 (by decide +kernel)
set_option maxRecDepth 100000 in
/-- GlacierMailModel.ofLetter -/
noncomputable def p2_s861 : ck_Sum := ((0, 0, 0), 245, [.inr (.inr (.inl 226)), .inl (ck_one 3), .inl (ck_one 5)], ([], [], []), ([], []), [(.inr (some (.inl (ck_one (-1)))), 245, ([], [], [(227, 145, 145, ck_one (-1))])), (.inr (some (.inl (0, 7, []))), 245, ([], [], [(227, 145, 145, (0, 7, []))]))])
set_option maxRecDepth 100000 in
theorem p2_s861_s {X : Int → Int} {LX : Nat} : ck_Ok p2_O X LX 301 p2_s861 := ck_ok_s (O := p2_O) (X := X) (LX := LX) (E := []) (mi := 301) (cuts := []) (f := 92) (S := p2_s861) (lx := none) (XF := []) ⟨p2_nmu, ck_E0⟩ ck_X0 ck_l0 (by decide +kernel)
set_option maxRecDepth 100000 in
/-- GlacierMailModel.isWaiting -/
noncomputable def p2_s862 : ck_Sum := ((8, 0, 0), 245, [.inr (.inr (.inl 226)), .inl (ck_one 3)], ([], [], zl83), (zl81, []), [(.inr (some (.inl (ck_one 0))), 245, ([], [], [])), (.inr (some (.inl (ck_one 1))), 245, ([], [], [(226, 29, 29, (0, 299, [])), (227, 145, 145, ck_one (-1)), (227, 140, 140, (0, 7, []))]))])
set_option maxRecDepth 100000 in
theorem p2_s862_s {X : Int → Int} {LX : Nat} : ck_Ok p2_O X LX 302 p2_s862 := ck_ok_s (O := p2_O) (X := X) (LX := LX) (E := [(303, [p2_s860]), (301, [p2_s861]), (304, [p2_s381]), (266, [p2_s190])]) (mi := 302) (cuts := []) (f := 114) (S := p2_s862) (lx := none) (XF := []) ⟨p2_nmu, ck_E1 (ck_S1 p2_s860_s ck_S0) (ck_E1 (ck_S1 p2_s861_s ck_S0) (ck_E1 (ck_S1 p2_s381_s ck_S0) (ck_E1 (ck_S1 p2_s190_s ck_S0) ck_E0)))⟩ ck_X0 ck_l0 (by decide +kernel)
set_option maxRecDepth 100000 in
/-- GlacierMailModel.ofLetter -/
noncomputable def p2_s863 : ck_Sum := ((0, 0, 0), 245, [.inr (.inr (.inl 226)), .inl (ck_one 3), .inl (ck_one 1)], ([], [], []), ([], []), [(.inr (some (.inl (ck_one (-1)))), 245, ([], [], [(227, 141, 141, ck_one (-1))])), (.inr (some (.inl (0, 7, []))), 245, ([], [], [(227, 141, 141, (0, 7, []))]))])
set_option maxRecDepth 100000 in
theorem p2_s863_s {X : Int → Int} {LX : Nat} : ck_Ok p2_O X LX 301 p2_s863 := ck_ok_s (O := p2_O) (X := X) (LX := LX) (E := []) (mi := 301) (cuts := []) (f := 92) (S := p2_s863) (lx := none) (XF := []) ⟨p2_nmu, ck_E0⟩ ck_X0 ck_l0 (by decide +kernel)
set_option maxRecDepth 100000 in
/-- GlacierMailModel.ofLetter -/
noncomputable def p2_s864 : ck_Sum := ((0, 0, 0), 245, [.inr (.inr (.inl 226)), .inl (ck_one 3), .inl (ck_one 3)], ([], [], []), ([], []), [(.inr (some (.inl (0, 299, []))), 245, ([], [], []))])
set_option maxRecDepth 100000 in
theorem p2_s864_s {X : Int → Int} {LX : Nat} : ck_Ok p2_O X LX 301 p2_s864 := ck_ok_s (O := p2_O) (X := X) (LX := LX) (E := []) (mi := 301) (cuts := []) (f := 92) (S := p2_s864) (lx := none) (XF := []) ⟨p2_nmu, ck_E0⟩ ck_X0 ck_l0 (by decide +kernel)
/-- GlacierMailModel.opens -/
noncomputable def p2_s865 : ck_Sum := op_os0 3 (.inl (ck_one (-1))) 0 7 (-1) (-1)
theorem p2_s865_s {X : Int → Int} {LX : Nat} : ck_Ok p2_O X LX 319 p2_s865 := op_none (by decide) (by decide) (by decide)
/-- GlacierMailModel.opens -/
noncomputable def p2_s866 : ck_Sum := op_os 3 0 7
theorem p2_s866_s {X : Int → Int} {LX : Nat} : ck_Ok p2_O X LX 319 p2_s866 := op_open (by decide) (by decide) (by decide +kernel)
set_option maxRecDepth 100000 in
/-- GlacierMailModel.open -/
noncomputable def p2_s867 : ck_Sum := ((9, 0, 0), 245, [.inr (.inr (.inl 226)), .inl (ck_one 3)], ([], [], zl176), ([(226, 0, 0), (226, 6, 6), (226, 17, 23), (226, 26, 26), (226, 29, 30), (227, 14, 14), (227, 145, 146), (227, 323, 394), (230, 0, 4739), (233, 0, 399), (235, 0, 29699), (236, 0, 299), (237, 0, 299)], []), [(.inr (some (.inl (ck_one 0))), 245, ([], [], zl177)), (.inr (some (.inl ((-299), 299, []))), 245, ([], [], [(227, 145, 145, (0, 7, [])), (227, 141, 141, (0, 7, [])), (226, 6, 6, (1, 12, [(1000027, 0)])), (226, 29, 29, (0, 299, [])), (227, 140, 140, (0, 7, [])), (226, 0, 0, ck_one 0)]))])
set_option maxRecDepth 100000 in
theorem p2_s867_s {X : Int → Int} {LX : Nat} : ck_Ok p2_O X LX 318 p2_s867 := ck_ok_s (O := p2_O) (X := X) (LX := LX) (E := [(309, [p2_s858]), (282, [p2_s241, p2_s242, p2_s244, p2_s243]), (302, [p2_s862]), (316, [p2_s553]), (301, [p2_s863, p2_s864]), (319, [p2_s865, p2_s866]), (266, [p2_s190])]) (mi := 318) (cuts := []) (f := 142) (S := p2_s867) (lx := none) (XF := []) ⟨p2_nmu, ck_E1 (ck_S1 p2_s858_s ck_S0) (ck_E1 (ck_S1 p2_s241_s (ck_S1 p2_s242_s (ck_S1 p2_s244_s (ck_S1 p2_s243_s ck_S0)))) (ck_E1 (ck_S1 p2_s862_s ck_S0) (ck_E1 (ck_S1 p2_s553_s ck_S0) (ck_E1 (ck_S1 p2_s863_s (ck_S1 p2_s864_s ck_S0)) (ck_E1 (ck_S1 p2_s865_s (ck_S1 p2_s866_s ck_S0)) (ck_E1 (ck_S1 p2_s190_s ck_S0) ck_E0))))))⟩ ck_X0 ck_l0 (by decide +kernel)
set_option maxRecDepth 100000 in
/-- GlacierMailModel.in -/
noncomputable def p2_s868 : ck_Sum := ((0, 0, 0), 245, [.inl (ck_one 4), .inl (ck_one 0), .inl ((-1), 23, [])], ([], [], []), ([], []), [(.inr (some (.inl (ck_one 0))), 245, ([], [], [])), (.inr (some (.inl (ck_one 1))), 245, ([], [], []))])
set_option maxRecDepth 100000 in
theorem p2_s868_s {X : Int → Int} {LX : Nat} : ck_Ok p2_O X LX 286 p2_s868 := ck_ok_s (O := p2_O) (X := X) (LX := LX) (E := []) (mi := 286) (cuts := []) (f := 88) (S := p2_s868) (lx := none) (XF := []) ⟨p2_nmu, ck_E0⟩ ck_X0 ck_l0 (by decide +kernel)
set_option maxRecDepth 100000 in
/-- GlacierMailModel.noLetter -/
noncomputable def p2_s869 : ck_Sum := ((1, 0, 0), 245, [.inr (.inr (.inl 226)), .inl (ck_one 4)], ([], [], [(227, 4, 4, (0, 24, [(22, 0)]))]), ([], []), [(.inr (some (.inl (ck_one 1))), 245, ([], [], [])), (.inr (some (.inl (ck_one 0))), 245, ([], [], []))])
set_option maxRecDepth 100000 in
theorem p2_s869_s {X : Int → Int} {LX : Nat} : ck_Ok p2_O X LX 309 p2_s869 := ck_ok_s (O := p2_O) (X := X) (LX := LX) (E := [(254, [p2_s176]), (286, [p2_s868])]) (mi := 309) (cuts := []) (f := 92) (S := p2_s869) (lx := none) (XF := []) ⟨p2_nmu, ck_E1 (ck_S1 p2_s176_s ck_S0) (ck_E1 (ck_S1 p2_s868_s ck_S0) ck_E0)⟩ ck_X0 ck_l0 (by decide +kernel)
set_option maxRecDepth 100000 in
/-- GlacierMailModel.ofLetter -/
noncomputable def p2_s870 : ck_Sum := ((0, 0, 0), 245, [.inr (.inr (.inl 226)), .inl (ck_one 4), .inl (ck_one 0)], ([], [], []), ([], []), [(.inr (some (.inl (ck_one (-1)))), 245, ([], [], [(227, 147, 147, ck_one (-1))])), (.inr (some (.inl (0, 7, []))), 245, ([], [], [(227, 147, 147, (0, 7, []))]))])
set_option maxRecDepth 100000 in
theorem p2_s870_s {X : Int → Int} {LX : Nat} : ck_Ok p2_O X LX 301 p2_s870 := ck_ok_s (O := p2_O) (X := X) (LX := LX) (E := []) (mi := 301) (cuts := []) (f := 92) (S := p2_s870) (lx := none) (XF := []) ⟨p2_nmu, ck_E0⟩ ck_X0 ck_l0 (by decide +kernel)
set_option maxRecDepth 100000 in
/-- GlacierMailModel.isRock -/
noncomputable def p2_s871 : ck_Sum := ((1, 0, 0), 245, [.inr (.inr (.inl 226)), .inl (ck_one 4)], ([], [], []), ([], []), [(.inr (some (.inl (ck_one 1))), 245, ([], [], [(227, 147, 147, ck_one (-1))])), (.inr (some (.inl (ck_one 0))), 245, ([], [], [(227, 147, 147, (0, 7, []))]))])
set_option maxRecDepth 100000 in
theorem p2_s871_s {X : Int → Int} {LX : Nat} : ck_Ok p2_O X LX 303 p2_s871 := ck_ok_s (O := p2_O) (X := X) (LX := LX) (E := [(301, [p2_s870])]) (mi := 303) (cuts := []) (f := 86) (S := p2_s871) (lx := none) (XF := []) ⟨p2_nmu, ck_E1 (ck_S1 p2_s870_s ck_S0) ck_E0⟩ ck_X0 ck_l0 (by decide +kernel)
set_option maxRecDepth 100000 in
/-- GlacierMailModel.ofLetter -/
noncomputable def p2_s872 : ck_Sum := ((0, 0, 0), 245, [.inr (.inr (.inl 226)), .inl (ck_one 4), .inl (ck_one 5)], ([], [], []), ([], []), [(.inr (some (.inl (ck_one (-1)))), 245, ([], [], [(227, 152, 152, ck_one (-1))])), (.inr (some (.inl (0, 7, []))), 245, ([], [], [(227, 152, 152, (0, 7, []))]))])
set_option maxRecDepth 100000 in
theorem p2_s872_s {X : Int → Int} {LX : Nat} : ck_Ok p2_O X LX 301 p2_s872 := ck_ok_s (O := p2_O) (X := X) (LX := LX) (E := []) (mi := 301) (cuts := []) (f := 92) (S := p2_s872) (lx := none) (XF := []) ⟨p2_nmu, ck_E0⟩ ck_X0 ck_l0 (by decide +kernel)
set_option maxRecDepth 100000 in
/-- GlacierMailModel.isWaiting -/
noncomputable def p2_s873 : ck_Sum := ((8, 0, 0), 245, [.inr (.inr (.inl 226)), .inl (ck_one 4)], ([], [], zl83), (zl81, []), [(.inr (some (.inl (ck_one 0))), 245, ([], [], [])), (.inr (some (.inl (ck_one 1))), 245, ([], [], [(226, 29, 29, (0, 299, [])), (227, 152, 152, ck_one (-1)), (227, 147, 147, (0, 7, []))]))])
set_option maxRecDepth 100000 in
theorem p2_s873_s {X : Int → Int} {LX : Nat} : ck_Ok p2_O X LX 302 p2_s873 := ck_ok_s (O := p2_O) (X := X) (LX := LX) (E := [(303, [p2_s871]), (301, [p2_s872]), (304, [p2_s381]), (266, [p2_s190])]) (mi := 302) (cuts := []) (f := 114) (S := p2_s873) (lx := none) (XF := []) ⟨p2_nmu, ck_E1 (ck_S1 p2_s871_s ck_S0) (ck_E1 (ck_S1 p2_s872_s ck_S0) (ck_E1 (ck_S1 p2_s381_s ck_S0) (ck_E1 (ck_S1 p2_s190_s ck_S0) ck_E0)))⟩ ck_X0 ck_l0 (by decide +kernel)
set_option maxRecDepth 100000 in
/-- GlacierMailModel.ofLetter -/
noncomputable def p2_s874 : ck_Sum := ((0, 0, 0), 245, [.inr (.inr (.inl 226)), .inl (ck_one 4), .inl (ck_one 1)], ([], [], []), ([], []), [(.inr (some (.inl (ck_one (-1)))), 245, ([], [], [(227, 148, 148, ck_one (-1))])), (.inr (some (.inl (0, 7, []))), 245, ([], [], [(227, 148, 148, (0, 7, []))]))])
set_option maxRecDepth 100000 in
theorem p2_s874_s {X : Int → Int} {LX : Nat} : ck_Ok p2_O X LX 301 p2_s874 := ck_ok_s (O := p2_O) (X := X) (LX := LX) (E := []) (mi := 301) (cuts := []) (f := 92) (S := p2_s874) (lx := none) (XF := []) ⟨p2_nmu, ck_E0⟩ ck_X0 ck_l0 (by decide +kernel)
set_option maxRecDepth 100000 in
/-- GlacierMailModel.ofLetter -/
noncomputable def p2_s875 : ck_Sum := ((0, 0, 0), 245, [.inr (.inr (.inl 226)), .inl (ck_one 4), .inl (ck_one 3)], ([], [], []), ([], []), [(.inr (some (.inl (0, 299, []))), 245, ([], [], []))])
set_option maxRecDepth 100000 in
theorem p2_s875_s {X : Int → Int} {LX : Nat} : ck_Ok p2_O X LX 301 p2_s875 := ck_ok_s (O := p2_O) (X := X) (LX := LX) (E := []) (mi := 301) (cuts := []) (f := 92) (S := p2_s875) (lx := none) (XF := []) ⟨p2_nmu, ck_E0⟩ ck_X0 ck_l0 (by decide +kernel)
/-- GlacierMailModel.opens -/
noncomputable def p2_s876 : ck_Sum := op_os0 4 (.inl (ck_one (-1))) 0 7 (-1) (-1)
theorem p2_s876_s {X : Int → Int} {LX : Nat} : ck_Ok p2_O X LX 319 p2_s876 := op_none (by decide) (by decide) (by decide)
/-- GlacierMailModel.opens -/
noncomputable def p2_s877 : ck_Sum := op_os 4 0 7
theorem p2_s877_s {X : Int → Int} {LX : Nat} : ck_Ok p2_O X LX 319 p2_s877 := op_open (by decide) (by decide) (by decide +kernel)
set_option maxRecDepth 100000 in
/-- GlacierMailModel.open -/
noncomputable def p2_s878 : ck_Sum := ((9, 0, 0), 245, [.inr (.inr (.inl 226)), .inl (ck_one 4)], ([], [], zl176), ([(226, 0, 0), (226, 6, 6), (226, 17, 23), (226, 26, 26), (226, 29, 30), (227, 14, 14), (227, 152, 153), (227, 323, 394), (230, 0, 4739), (233, 0, 399), (235, 0, 29699), (236, 0, 299), (237, 0, 299)], []), [(.inr (some (.inl (ck_one 0))), 245, ([], [], zl177)), (.inr (some (.inl ((-299), 299, []))), 245, ([], [], [(227, 152, 152, (0, 7, [])), (227, 148, 148, (0, 7, [])), (226, 6, 6, (1, 12, [(1000027, 0)])), (226, 29, 29, (0, 299, [])), (227, 147, 147, (0, 7, [])), (226, 0, 0, ck_one 0)]))])
set_option maxRecDepth 100000 in
theorem p2_s878_s {X : Int → Int} {LX : Nat} : ck_Ok p2_O X LX 318 p2_s878 := ck_ok_s (O := p2_O) (X := X) (LX := LX) (E := [(309, [p2_s869]), (282, [p2_s241, p2_s242, p2_s244, p2_s243]), (302, [p2_s873]), (316, [p2_s553]), (301, [p2_s874, p2_s875]), (319, [p2_s876, p2_s877]), (266, [p2_s190])]) (mi := 318) (cuts := []) (f := 142) (S := p2_s878) (lx := none) (XF := []) ⟨p2_nmu, ck_E1 (ck_S1 p2_s869_s ck_S0) (ck_E1 (ck_S1 p2_s241_s (ck_S1 p2_s242_s (ck_S1 p2_s244_s (ck_S1 p2_s243_s ck_S0)))) (ck_E1 (ck_S1 p2_s873_s ck_S0) (ck_E1 (ck_S1 p2_s553_s ck_S0) (ck_E1 (ck_S1 p2_s874_s (ck_S1 p2_s875_s ck_S0)) (ck_E1 (ck_S1 p2_s876_s (ck_S1 p2_s877_s ck_S0)) (ck_E1 (ck_S1 p2_s190_s ck_S0) ck_E0))))))⟩ ck_X0 ck_l0 (by decide +kernel)
set_option maxRecDepth 100000 in
/-- GlacierMailModel.in -/
noncomputable def p2_s879 : ck_Sum := ((0, 0, 0), 245, [.inl (ck_one 5), .inl (ck_one 0), .inl ((-1), 23, [])], ([], [], []), ([], []), [(.inr (some (.inl (ck_one 0))), 245, ([], [], [])), (.inr (some (.inl (ck_one 1))), 245, ([], [], []))])
set_option maxRecDepth 100000 in
theorem p2_s879_s {X : Int → Int} {LX : Nat} : ck_Ok p2_O X LX 286 p2_s879 := ck_ok_s (O := p2_O) (X := X) (LX := LX) (E := []) (mi := 286) (cuts := []) (f := 88) (S := p2_s879) (lx := none) (XF := []) ⟨p2_nmu, ck_E0⟩ ck_X0 ck_l0 (by decide +kernel)
set_option maxRecDepth 100000 in
/-- GlacierMailModel.noLetter -/
noncomputable def p2_s880 : ck_Sum := ((1, 0, 0), 245, [.inr (.inr (.inl 226)), .inl (ck_one 5)], ([], [], [(227, 4, 4, (0, 24, [(22, 0)]))]), ([], []), [(.inr (some (.inl (ck_one 1))), 245, ([], [], [])), (.inr (some (.inl (ck_one 0))), 245, ([], [], []))])
set_option maxRecDepth 100000 in
theorem p2_s880_s {X : Int → Int} {LX : Nat} : ck_Ok p2_O X LX 309 p2_s880 := ck_ok_s (O := p2_O) (X := X) (LX := LX) (E := [(254, [p2_s176]), (286, [p2_s879])]) (mi := 309) (cuts := []) (f := 92) (S := p2_s880) (lx := none) (XF := []) ⟨p2_nmu, ck_E1 (ck_S1 p2_s176_s ck_S0) (ck_E1 (ck_S1 p2_s879_s ck_S0) ck_E0)⟩ ck_X0 ck_l0 (by decide +kernel)
set_option maxRecDepth 100000 in
/-- GlacierMailModel.ofLetter -/
noncomputable def p2_s881 : ck_Sum := ((0, 0, 0), 245, [.inr (.inr (.inl 226)), .inl (ck_one 5), .inl (ck_one 0)], ([], [], []), ([], []), [(.inr (some (.inl (ck_one (-1)))), 245, ([], [], [(227, 154, 154, ck_one (-1))])), (.inr (some (.inl (0, 7, []))), 245, ([], [], [(227, 154, 154, (0, 7, []))]))])
set_option maxRecDepth 100000 in
theorem p2_s881_s {X : Int → Int} {LX : Nat} : ck_Ok p2_O X LX 301 p2_s881 := ck_ok_s (O := p2_O) (X := X) (LX := LX) (E := []) (mi := 301) (cuts := []) (f := 92) (S := p2_s881) (lx := none) (XF := []) ⟨p2_nmu, ck_E0⟩ ck_X0 ck_l0 (by decide +kernel)
set_option maxRecDepth 100000 in
/-- GlacierMailModel.isRock -/
noncomputable def p2_s882 : ck_Sum := ((1, 0, 0), 245, [.inr (.inr (.inl 226)), .inl (ck_one 5)], ([], [], []), ([], []), [(.inr (some (.inl (ck_one 1))), 245, ([], [], [(227, 154, 154, ck_one (-1))])), (.inr (some (.inl (ck_one 0))), 245, ([], [], [(227, 154, 154, (0, 7, []))]))])
set_option maxRecDepth 100000 in
theorem p2_s882_s {X : Int → Int} {LX : Nat} : ck_Ok p2_O X LX 303 p2_s882 := ck_ok_s (O := p2_O) (X := X) (LX := LX) (E := [(301, [p2_s881])]) (mi := 303) (cuts := []) (f := 86) (S := p2_s882) (lx := none) (XF := []) ⟨p2_nmu, ck_E1 (ck_S1 p2_s881_s ck_S0) ck_E0⟩ ck_X0 ck_l0 (by decide +kernel)
set_option maxRecDepth 100000 in
/-- GlacierMailModel.ofLetter -/
noncomputable def p2_s883 : ck_Sum := ((0, 0, 0), 245, [.inr (.inr (.inl 226)), .inl (ck_one 5), .inl (ck_one 5)], ([], [], []), ([], []), [(.inr (some (.inl (ck_one (-1)))), 245, ([], [], [(227, 159, 159, ck_one (-1))])), (.inr (some (.inl (0, 7, []))), 245, ([], [], [(227, 159, 159, (0, 7, []))]))])
set_option maxRecDepth 100000 in
theorem p2_s883_s {X : Int → Int} {LX : Nat} : ck_Ok p2_O X LX 301 p2_s883 := ck_ok_s (O := p2_O) (X := X) (LX := LX) (E := []) (mi := 301) (cuts := []) (f := 92) (S := p2_s883) (lx := none) (XF := []) ⟨p2_nmu, ck_E0⟩ ck_X0 ck_l0 (by decide +kernel)
set_option maxRecDepth 100000 in
/-- GlacierMailModel.isWaiting -/
noncomputable def p2_s884 : ck_Sum := ((8, 0, 0), 245, [.inr (.inr (.inl 226)), .inl (ck_one 5)], ([], [], zl83), (zl81, []), [(.inr (some (.inl (ck_one 0))), 245, ([], [], [])), (.inr (some (.inl (ck_one 1))), 245, ([], [], [(226, 29, 29, (0, 299, [])), (227, 159, 159, ck_one (-1)), (227, 154, 154, (0, 7, []))]))])
set_option maxRecDepth 100000 in
theorem p2_s884_s {X : Int → Int} {LX : Nat} : ck_Ok p2_O X LX 302 p2_s884 := ck_ok_s (O := p2_O) (X := X) (LX := LX) (E := [(303, [p2_s882]), (301, [p2_s883]), (304, [p2_s381]), (266, [p2_s190])]) (mi := 302) (cuts := []) (f := 114) (S := p2_s884) (lx := none) (XF := []) ⟨p2_nmu, ck_E1 (ck_S1 p2_s882_s ck_S0) (ck_E1 (ck_S1 p2_s883_s ck_S0) (ck_E1 (ck_S1 p2_s381_s ck_S0) (ck_E1 (ck_S1 p2_s190_s ck_S0) ck_E0)))⟩ ck_X0 ck_l0 (by decide +kernel)
set_option maxRecDepth 100000 in
/-- GlacierMailModel.ofLetter -/
noncomputable def p2_s885 : ck_Sum := ((0, 0, 0), 245, [.inr (.inr (.inl 226)), .inl (ck_one 5), .inl (ck_one 1)], ([], [], []), ([], []), [(.inr (some (.inl (ck_one (-1)))), 245, ([], [], [(227, 155, 155, ck_one (-1))])), (.inr (some (.inl (0, 7, []))), 245, ([], [], [(227, 155, 155, (0, 7, []))]))])
set_option maxRecDepth 100000 in
theorem p2_s885_s {X : Int → Int} {LX : Nat} : ck_Ok p2_O X LX 301 p2_s885 := ck_ok_s (O := p2_O) (X := X) (LX := LX) (E := []) (mi := 301) (cuts := []) (f := 92) (S := p2_s885) (lx := none) (XF := []) ⟨p2_nmu, ck_E0⟩ ck_X0 ck_l0 (by decide +kernel)
set_option maxRecDepth 100000 in
/-- GlacierMailModel.ofLetter -/
noncomputable def p2_s886 : ck_Sum := ((0, 0, 0), 245, [.inr (.inr (.inl 226)), .inl (ck_one 5), .inl (ck_one 3)], ([], [], []), ([], []), [(.inr (some (.inl (0, 299, []))), 245, ([], [], []))])
set_option maxRecDepth 100000 in
theorem p2_s886_s {X : Int → Int} {LX : Nat} : ck_Ok p2_O X LX 301 p2_s886 := ck_ok_s (O := p2_O) (X := X) (LX := LX) (E := []) (mi := 301) (cuts := []) (f := 92) (S := p2_s886) (lx := none) (XF := []) ⟨p2_nmu, ck_E0⟩ ck_X0 ck_l0 (by decide +kernel)
/-- GlacierMailModel.opens -/
noncomputable def p2_s887 : ck_Sum := op_os0 5 (.inl (ck_one (-1))) 0 7 (-1) (-1)
theorem p2_s887_s {X : Int → Int} {LX : Nat} : ck_Ok p2_O X LX 319 p2_s887 := op_none (by decide) (by decide) (by decide)
/-- GlacierMailModel.opens -/
noncomputable def p2_s888 : ck_Sum := op_os 5 0 7
theorem p2_s888_s {X : Int → Int} {LX : Nat} : ck_Ok p2_O X LX 319 p2_s888 := op_open (by decide) (by decide) (by decide +kernel)
set_option maxRecDepth 100000 in
/-- GlacierMailModel.open -/
noncomputable def p2_s889 : ck_Sum := ((9, 0, 0), 245, [.inr (.inr (.inl 226)), .inl (ck_one 5)], ([], [], zl176), ([(226, 0, 0), (226, 6, 6), (226, 17, 23), (226, 26, 26), (226, 29, 30), (227, 14, 14), (227, 159, 160), (227, 323, 394), (230, 0, 4739), (233, 0, 399), (235, 0, 29699), (236, 0, 299), (237, 0, 299)], []), [(.inr (some (.inl (ck_one 0))), 245, ([], [], zl177)), (.inr (some (.inl ((-299), 299, []))), 245, ([], [], [(227, 159, 159, (0, 7, [])), (227, 155, 155, (0, 7, [])), (226, 6, 6, (1, 12, [(1000027, 0)])), (226, 29, 29, (0, 299, [])), (227, 154, 154, (0, 7, [])), (226, 0, 0, ck_one 0)]))])
set_option maxRecDepth 100000 in
theorem p2_s889_s {X : Int → Int} {LX : Nat} : ck_Ok p2_O X LX 318 p2_s889 := ck_ok_s (O := p2_O) (X := X) (LX := LX) (E := [(309, [p2_s880]), (282, [p2_s241, p2_s242, p2_s244, p2_s243]), (302, [p2_s884]), (316, [p2_s553]), (301, [p2_s885, p2_s886]), (319, [p2_s887, p2_s888]), (266, [p2_s190])]) (mi := 318) (cuts := []) (f := 142) (S := p2_s889) (lx := none) (XF := []) ⟨p2_nmu, ck_E1 (ck_S1 p2_s880_s ck_S0) (ck_E1 (ck_S1 p2_s241_s (ck_S1 p2_s242_s (ck_S1 p2_s244_s (ck_S1 p2_s243_s ck_S0)))) (ck_E1 (ck_S1 p2_s884_s ck_S0) (ck_E1 (ck_S1 p2_s553_s ck_S0) (ck_E1 (ck_S1 p2_s885_s (ck_S1 p2_s886_s ck_S0)) (ck_E1 (ck_S1 p2_s887_s (ck_S1 p2_s888_s ck_S0)) (ck_E1 (ck_S1 p2_s190_s ck_S0) ck_E0))))))⟩ ck_X0 ck_l0 (by decide +kernel)
set_option maxRecDepth 100000 in
/-- GlacierMailModel.in -/
noncomputable def p2_s890 : ck_Sum := ((0, 0, 0), 245, [.inl (ck_one 6), .inl (ck_one 0), .inl ((-1), 23, [])], ([], [], []), ([], []), [(.inr (some (.inl (ck_one 0))), 245, ([], [], [])), (.inr (some (.inl (ck_one 1))), 245, ([], [], []))])
set_option maxRecDepth 100000 in
theorem p2_s890_s {X : Int → Int} {LX : Nat} : ck_Ok p2_O X LX 286 p2_s890 := ck_ok_s (O := p2_O) (X := X) (LX := LX) (E := []) (mi := 286) (cuts := []) (f := 88) (S := p2_s890) (lx := none) (XF := []) ⟨p2_nmu, ck_E0⟩ ck_X0 ck_l0 (by decide +kernel)
set_option maxRecDepth 100000 in
/-- GlacierMailModel.noLetter -/
noncomputable def p2_s891 : ck_Sum := ((1, 0, 0), 245, [.inr (.inr (.inl 226)), .inl (ck_one 6)], ([], [], [(227, 4, 4, (0, 24, [(22, 0)]))]), ([], []), [(.inr (some (.inl (ck_one 1))), 245, ([], [], [])), (.inr (some (.inl (ck_one 0))), 245, ([], [], []))])
set_option maxRecDepth 100000 in
theorem p2_s891_s {X : Int → Int} {LX : Nat} : ck_Ok p2_O X LX 309 p2_s891 := ck_ok_s (O := p2_O) (X := X) (LX := LX) (E := [(254, [p2_s176]), (286, [p2_s890])]) (mi := 309) (cuts := []) (f := 92) (S := p2_s891) (lx := none) (XF := []) ⟨p2_nmu, ck_E1 (ck_S1 p2_s176_s ck_S0) (ck_E1 (ck_S1 p2_s890_s ck_S0) ck_E0)⟩ ck_X0 ck_l0 (by decide +kernel)
set_option maxRecDepth 100000 in
/-- GlacierMailModel.ofLetter -/
noncomputable def p2_s892 : ck_Sum := ((0, 0, 0), 245, [.inr (.inr (.inl 226)), .inl (ck_one 6), .inl (ck_one 0)], ([], [], []), ([], []), [(.inr (some (.inl (ck_one (-1)))), 245, ([], [], [(227, 161, 161, ck_one (-1))])), (.inr (some (.inl (0, 7, []))), 245, ([], [], [(227, 161, 161, (0, 7, []))]))])
set_option maxRecDepth 100000 in
theorem p2_s892_s {X : Int → Int} {LX : Nat} : ck_Ok p2_O X LX 301 p2_s892 := ck_ok_s (O := p2_O) (X := X) (LX := LX) (E := []) (mi := 301) (cuts := []) (f := 92) (S := p2_s892) (lx := none) (XF := []) ⟨p2_nmu, ck_E0⟩ ck_X0 ck_l0 (by decide +kernel)
set_option maxRecDepth 100000 in
/-- GlacierMailModel.isRock -/
noncomputable def p2_s893 : ck_Sum := ((1, 0, 0), 245, [.inr (.inr (.inl 226)), .inl (ck_one 6)], ([], [], []), ([], []), [(.inr (some (.inl (ck_one 1))), 245, ([], [], [(227, 161, 161, ck_one (-1))])), (.inr (some (.inl (ck_one 0))), 245, ([], [], [(227, 161, 161, (0, 7, []))]))])
set_option maxRecDepth 100000 in
theorem p2_s893_s {X : Int → Int} {LX : Nat} : ck_Ok p2_O X LX 303 p2_s893 := ck_ok_s (O := p2_O) (X := X) (LX := LX) (E := [(301, [p2_s892])]) (mi := 303) (cuts := []) (f := 86) (S := p2_s893) (lx := none) (XF := []) ⟨p2_nmu, ck_E1 (ck_S1 p2_s892_s ck_S0) ck_E0⟩ ck_X0 ck_l0 (by decide +kernel)
set_option maxRecDepth 100000 in
/-- GlacierMailModel.ofLetter -/
noncomputable def p2_s894 : ck_Sum := ((0, 0, 0), 245, [.inr (.inr (.inl 226)), .inl (ck_one 6), .inl (ck_one 5)], ([], [], []), ([], []), [(.inr (some (.inl (ck_one (-1)))), 245, ([], [], [(227, 166, 166, ck_one (-1))])), (.inr (some (.inl (0, 7, []))), 245, ([], [], [(227, 166, 166, (0, 7, []))]))])
set_option maxRecDepth 100000 in
theorem p2_s894_s {X : Int → Int} {LX : Nat} : ck_Ok p2_O X LX 301 p2_s894 := ck_ok_s (O := p2_O) (X := X) (LX := LX) (E := []) (mi := 301) (cuts := []) (f := 92) (S := p2_s894) (lx := none) (XF := []) ⟨p2_nmu, ck_E0⟩ ck_X0 ck_l0 (by decide +kernel)
set_option maxRecDepth 100000 in
/-- GlacierMailModel.isWaiting -/
noncomputable def p2_s895 : ck_Sum := ((8, 0, 0), 245, [.inr (.inr (.inl 226)), .inl (ck_one 6)], ([], [], zl83), (zl81, []), [(.inr (some (.inl (ck_one 0))), 245, ([], [], [])), (.inr (some (.inl (ck_one 1))), 245, ([], [], [(226, 29, 29, (0, 299, [])), (227, 166, 166, ck_one (-1)), (227, 161, 161, (0, 7, []))]))])
set_option maxRecDepth 100000 in
theorem p2_s895_s {X : Int → Int} {LX : Nat} : ck_Ok p2_O X LX 302 p2_s895 := ck_ok_s (O := p2_O) (X := X) (LX := LX) (E := [(303, [p2_s893]), (301, [p2_s894]), (304, [p2_s381]), (266, [p2_s190])]) (mi := 302) (cuts := []) (f := 114) (S := p2_s895) (lx := none) (XF := []) ⟨p2_nmu, ck_E1 (ck_S1 p2_s893_s ck_S0) (ck_E1 (ck_S1 p2_s894_s ck_S0) (ck_E1 (ck_S1 p2_s381_s ck_S0) (ck_E1 (ck_S1 p2_s190_s ck_S0) ck_E0)))⟩ ck_X0 ck_l0 (by decide +kernel)
set_option maxRecDepth 100000 in
/-- GlacierMailModel.ofLetter -/
noncomputable def p2_s896 : ck_Sum := ((0, 0, 0), 245, [.inr (.inr (.inl 226)), .inl (ck_one 6), .inl (ck_one 1)], ([], [], []), ([], []), [(.inr (some (.inl (ck_one (-1)))), 245, ([], [], [(227, 162, 162, ck_one (-1))])), (.inr (some (.inl (0, 7, []))), 245, ([], [], [(227, 162, 162, (0, 7, []))]))])
set_option maxRecDepth 100000 in
theorem p2_s896_s {X : Int → Int} {LX : Nat} : ck_Ok p2_O X LX 301 p2_s896 := ck_ok_s (O := p2_O) (X := X) (LX := LX) (E := []) (mi := 301) (cuts := []) (f := 92) (S := p2_s896) (lx := none) (XF := []) ⟨p2_nmu, ck_E0⟩ ck_X0 ck_l0 (by decide +kernel)
set_option maxRecDepth 100000 in
/-- GlacierMailModel.ofLetter -/
noncomputable def p2_s897 : ck_Sum := ((0, 0, 0), 245, [.inr (.inr (.inl 226)), .inl (ck_one 6), .inl (ck_one 3)], ([], [], []), ([], []), [(.inr (some (.inl (0, 299, []))), 245, ([], [], []))])
set_option maxRecDepth 100000 in
theorem p2_s897_s {X : Int → Int} {LX : Nat} : ck_Ok p2_O X LX 301 p2_s897 := ck_ok_s (O := p2_O) (X := X) (LX := LX) (E := []) (mi := 301) (cuts := []) (f := 92) (S := p2_s897) (lx := none) (XF := []) ⟨p2_nmu, ck_E0⟩ ck_X0 ck_l0 (by decide +kernel)
/-- GlacierMailModel.opens -/
noncomputable def p2_s898 : ck_Sum := op_os0 6 (.inl (ck_one (-1))) 0 7 (-1) (-1)
theorem p2_s898_s {X : Int → Int} {LX : Nat} : ck_Ok p2_O X LX 319 p2_s898 := op_none (by decide) (by decide) (by decide)
/-- GlacierMailModel.opens -/
noncomputable def p2_s899 : ck_Sum := op_os 6 0 7
theorem p2_s899_s {X : Int → Int} {LX : Nat} : ck_Ok p2_O X LX 319 p2_s899 := op_open (by decide) (by decide) (by decide +kernel)
set_option maxRecDepth 100000 in
/-- GlacierMailModel.open -/
noncomputable def p2_s900 : ck_Sum := ((9, 0, 0), 245, [.inr (.inr (.inl 226)), .inl (ck_one 6)], ([], [], zl176), ([(226, 0, 0), (226, 6, 6), (226, 17, 23), (226, 26, 26), (226, 29, 30), (227, 14, 14), (227, 166, 167), (227, 323, 394), (230, 0, 4739), (233, 0, 399), (235, 0, 29699), (236, 0, 299), (237, 0, 299)], []), [(.inr (some (.inl (ck_one 0))), 245, ([], [], zl177)), (.inr (some (.inl ((-299), 299, []))), 245, ([], [], [(227, 166, 166, (0, 7, [])), (227, 162, 162, (0, 7, [])), (226, 6, 6, (1, 12, [(1000027, 0)])), (226, 29, 29, (0, 299, [])), (227, 161, 161, (0, 7, [])), (226, 0, 0, ck_one 0)]))])
set_option maxRecDepth 100000 in
theorem p2_s900_s {X : Int → Int} {LX : Nat} : ck_Ok p2_O X LX 318 p2_s900 := ck_ok_s (O := p2_O) (X := X) (LX := LX) (E := [(309, [p2_s891]), (282, [p2_s241, p2_s242, p2_s244, p2_s243]), (302, [p2_s895]), (316, [p2_s553]), (301, [p2_s896, p2_s897]), (319, [p2_s898, p2_s899]), (266, [p2_s190])]) (mi := 318) (cuts := []) (f := 142) (S := p2_s900) (lx := none) (XF := []) ⟨p2_nmu, ck_E1 (ck_S1 p2_s891_s ck_S0) (ck_E1 (ck_S1 p2_s241_s (ck_S1 p2_s242_s (ck_S1 p2_s244_s (ck_S1 p2_s243_s ck_S0)))) (ck_E1 (ck_S1 p2_s895_s ck_S0) (ck_E1 (ck_S1 p2_s553_s ck_S0) (ck_E1 (ck_S1 p2_s896_s (ck_S1 p2_s897_s ck_S0)) (ck_E1 (ck_S1 p2_s898_s (ck_S1 p2_s899_s ck_S0)) (ck_E1 (ck_S1 p2_s190_s ck_S0) ck_E0))))))⟩ ck_X0 ck_l0 (by decide +kernel)
end
/-! 78r80a10.sf -/
section
/-! EVERY CALL ENDS, whatever was done before (laid by wip/am/p2k.py). -/
set_option maxRecDepth 100000 in
/-- GlacierMailModel.in -/
noncomputable def p2_s901 : ck_Sum := ((0, 0, 0), 245, [.inl (ck_one 7), .inl (ck_one 0), .inl ((-1), 23, [])], ([], [], []), ([], []), [(.inr (some (.inl (ck_one 0))), 245, ([], [], [])), (.inr (some (.inl (ck_one 1))), 245, ([], [], []))])
set_option maxRecDepth 100000 in
theorem p2_s901_s {X : Int → Int} {LX : Nat} : ck_Ok p2_O X LX 286 p2_s901 := ck_ok_s (O := p2_O) (X := X) (LX := LX) (E := []) (mi := 286) (cuts := []) (f := 88) (S := p2_s901) (lx := none) (XF := []) ⟨p2_nmu, ck_E0⟩ ck_X0 ck_l0 (by decide +kernel)
set_option maxRecDepth 100000 in
/-- GlacierMailModel.noLetter -/
noncomputable def p2_s902 : ck_Sum := ((1, 0, 0), 245, [.inr (.inr (.inl 226)), .inl (ck_one 7)], ([], [], [(227, 4, 4, (0, 24, [(22, 0)]))]), ([], []), [(.inr (some (.inl (ck_one 1))), 245, ([], [], [])), (.inr (some (.inl (ck_one 0))), 245, ([], [], []))])
set_option maxRecDepth 100000 in
theorem p2_s902_s {X : Int → Int} {LX : Nat} : ck_Ok p2_O X LX 309 p2_s902 := ck_ok_s (O := p2_O) (X := X) (LX := LX) (E := [(254, [p2_s176]), (286, [p2_s901])]) (mi := 309) (cuts := []) (f := 92) (S := p2_s902) (lx := none) (XF := []) ⟨p2_nmu, ck_E1 (ck_S1 p2_s176_s ck_S0) (ck_E1 (ck_S1 p2_s901_s ck_S0) ck_E0)⟩ ck_X0 ck_l0 (by decide +kernel)
set_option maxRecDepth 100000 in
/-- GlacierMailModel.ofLetter -/
noncomputable def p2_s903 : ck_Sum := ((0, 0, 0), 245, [.inr (.inr (.inl 226)), .inl (ck_one 7), .inl (ck_one 0)], ([], [], []), ([], []), [(.inr (some (.inl (ck_one (-1)))), 245, ([], [], [(227, 168, 168, ck_one (-1))])), (.inr (some (.inl (0, 7, []))), 245, ([], [], [(227, 168, 168, (0, 7, []))]))])
set_option maxRecDepth 100000 in
theorem p2_s903_s {X : Int → Int} {LX : Nat} : ck_Ok p2_O X LX 301 p2_s903 := ck_ok_s (O := p2_O) (X := X) (LX := LX) (E := []) (mi := 301) (cuts := []) (f := 92) (S := p2_s903) (lx := none) (XF := []) ⟨p2_nmu, ck_E0⟩ ck_X0 ck_l0 (by decide +kernel)
set_option maxRecDepth 100000 in
/-- GlacierMailModel.isRock -/
noncomputable def p2_s904 : ck_Sum := ((1, 0, 0), 245, [.inr (.inr (.inl 226)), .inl (ck_one 7)], ([], [], []), ([], []), [(.inr (some (.inl (ck_one 1))), 245, ([], [], [(227, 168, 168, ck_one (-1))])), (.inr (some (.inl (ck_one 0))), 245, ([], [], [(227, 168, 168, (0, 7, []))]))])
set_option maxRecDepth 100000 in
theorem p2_s904_s {X : Int → Int} {LX : Nat} : ck_Ok p2_O X LX 303 p2_s904 := ck_ok_s (O := p2_O) (X := X) (LX := LX) (E := [(301, [p2_s903])]) (mi := 303) (cuts := []) (f := 86) (S := p2_s904) (lx := none) (XF := []) ⟨p2_nmu, ck_E1 (ck_S1 p2_s903_s ck_S0) ck_E0⟩ ck_X0 ck_l0 (by decide +kernel)
set_option maxRecDepth 100000 in
/-- GlacierMailModel.ofLetter -/
noncomputable def p2_s905 : ck_Sum := ((0, 0, 0), 245, [.inr (.inr (.inl 226)), .inl (ck_one 7), .inl (ck_one 5)], ([], [], []), ([], []), [(.inr (some (.inl (ck_one (-1)))), 245, ([], [], [(227, 173, 173, ck_one (-1))])), (.inr (some (.inl (0, 7, []))), 245, ([], [], [(227, 173, 173, (0, 7, []))]))])
set_option maxRecDepth 100000 in
theorem p2_s905_s {X : Int → Int} {LX : Nat} : ck_Ok p2_O X LX 301 p2_s905 := ck_ok_s (O := p2_O) (X := X) (LX := LX) (E := []) (mi := 301) (cuts := []) (f := 92) (S := p2_s905) (lx := none) (XF := []) ⟨p2_nmu, ck_E0⟩ ck_X0 ck_l0 (by decide +kernel)
set_option maxRecDepth 100000 in
/-- GlacierMailModel.isWaiting -/
noncomputable def p2_s906 : ck_Sum := ((8, 0, 0), 245, [.inr (.inr (.inl 226)), .inl (ck_one 7)], ([], [], zl83), (zl81, []), [(.inr (some (.inl (ck_one 0))), 245, ([], [], [])), (.inr (some (.inl (ck_one 1))), 245, ([], [], [(226, 29, 29, (0, 299, [])), (227, 173, 173, ck_one (-1)), (227, 168, 168, (0, 7, []))]))])
set_option maxRecDepth 100000 in
theorem p2_s906_s {X : Int → Int} {LX : Nat} : ck_Ok p2_O X LX 302 p2_s906 := ck_ok_s (O := p2_O) (X := X) (LX := LX) (E := [(303, [p2_s904]), (301, [p2_s905]), (304, [p2_s381]), (266, [p2_s190])]) (mi := 302) (cuts := []) (f := 114) (S := p2_s906) (lx := none) (XF := []) ⟨p2_nmu, ck_E1 (ck_S1 p2_s904_s ck_S0) (ck_E1 (ck_S1 p2_s905_s ck_S0) (ck_E1 (ck_S1 p2_s381_s ck_S0) (ck_E1 (ck_S1 p2_s190_s ck_S0) ck_E0)))⟩ ck_X0 ck_l0 (by decide +kernel)
set_option maxRecDepth 100000 in
/-- GlacierMailModel.ofLetter -/
noncomputable def p2_s907 : ck_Sum := ((0, 0, 0), 245, [.inr (.inr (.inl 226)), .inl (ck_one 7), .inl (ck_one 1)], ([], [], []), ([], []), [(.inr (some (.inl (ck_one (-1)))), 245, ([], [], [(227, 169, 169, ck_one (-1))])), (.inr (some (.inl (0, 7, []))), 245, ([], [], [(227, 169, 169, (0, 7, []))]))])
set_option maxRecDepth 100000 in
theorem p2_s907_s {X : Int → Int} {LX : Nat} : ck_Ok p2_O X LX 301 p2_s907 := ck_ok_s (O := p2_O) (X := X) (LX := LX) (E := []) (mi := 301) (cuts := []) (f := 92) (S := p2_s907) (lx := none) (XF := []) ⟨p2_nmu, ck_E0⟩ ck_X0 ck_l0 (by decide +kernel)
set_option maxRecDepth 100000 in
/-- GlacierMailModel.ofLetter -/
noncomputable def p2_s908 : ck_Sum := ((0, 0, 0), 245, [.inr (.inr (.inl 226)), .inl (ck_one 7), .inl (ck_one 3)], ([], [], []), ([], []), [(.inr (some (.inl (0, 299, []))), 245, ([], [], []))])
set_option maxRecDepth 100000 in
theorem p2_s908_s {X : Int → Int} {LX : Nat} : ck_Ok p2_O X LX 301 p2_s908 := ck_ok_s (O := p2_O) (X := X) (LX := LX) (E := []) (mi := 301) (cuts := []) (f := 92) (S := p2_s908) (lx := none) (XF := []) ⟨p2_nmu, ck_E0⟩ ck_X0 ck_l0 (by decide +kernel)
/-- GlacierMailModel.opens -/
noncomputable def p2_s909 : ck_Sum := op_os0 7 (.inl (ck_one (-1))) 0 7 (-1) (-1)
theorem p2_s909_s {X : Int → Int} {LX : Nat} : ck_Ok p2_O X LX 319 p2_s909 := op_none (by decide) (by decide) (by decide)
/-- GlacierMailModel.opens -/
noncomputable def p2_s910 : ck_Sum := op_os 7 0 7
theorem p2_s910_s {X : Int → Int} {LX : Nat} : ck_Ok p2_O X LX 319 p2_s910 := op_open (by decide) (by decide) (by decide +kernel)
set_option maxRecDepth 100000 in
/-- GlacierMailModel.open -/
noncomputable def p2_s911 : ck_Sum := ((9, 0, 0), 245, [.inr (.inr (.inl 226)), .inl (ck_one 7)], ([], [], zl176), ([(226, 0, 0), (226, 6, 6), (226, 17, 23), (226, 26, 26), (226, 29, 30), (227, 14, 14), (227, 173, 174), (227, 323, 394), (230, 0, 4739), (233, 0, 399), (235, 0, 29699), (236, 0, 299), (237, 0, 299)], []), [(.inr (some (.inl (ck_one 0))), 245, ([], [], zl177)), (.inr (some (.inl ((-299), 299, []))), 245, ([], [], [(227, 173, 173, (0, 7, [])), (227, 169, 169, (0, 7, [])), (226, 6, 6, (1, 12, [(1000027, 0)])), (226, 29, 29, (0, 299, [])), (227, 168, 168, (0, 7, [])), (226, 0, 0, ck_one 0)]))])
set_option maxRecDepth 100000 in
theorem p2_s911_s {X : Int → Int} {LX : Nat} : ck_Ok p2_O X LX 318 p2_s911 := ck_ok_s (O := p2_O) (X := X) (LX := LX) (E := [(309, [p2_s902]), (282, [p2_s241, p2_s242, p2_s244, p2_s243]), (302, [p2_s906]), (316, [p2_s553]), (301, [p2_s907, p2_s908]), (319, [p2_s909, p2_s910]), (266, [p2_s190])]) (mi := 318) (cuts := []) (f := 142) (S := p2_s911) (lx := none) (XF := []) ⟨p2_nmu, ck_E1 (ck_S1 p2_s902_s ck_S0) (ck_E1 (ck_S1 p2_s241_s (ck_S1 p2_s242_s (ck_S1 p2_s244_s (ck_S1 p2_s243_s ck_S0)))) (ck_E1 (ck_S1 p2_s906_s ck_S0) (ck_E1 (ck_S1 p2_s553_s ck_S0) (ck_E1 (ck_S1 p2_s907_s (ck_S1 p2_s908_s ck_S0)) (ck_E1 (ck_S1 p2_s909_s (ck_S1 p2_s910_s ck_S0)) (ck_E1 (ck_S1 p2_s190_s ck_S0) ck_E0))))))⟩ ck_X0 ck_l0 (by decide +kernel)
set_option maxRecDepth 100000 in
/-- GlacierMailModel.in -/
noncomputable def p2_s912 : ck_Sum := ((0, 0, 0), 245, [.inl (ck_one 8), .inl (ck_one 0), .inl ((-1), 23, [])], ([], [], []), ([], []), [(.inr (some (.inl (ck_one 0))), 245, ([], [], [])), (.inr (some (.inl (ck_one 1))), 245, ([], [], []))])
set_option maxRecDepth 100000 in
theorem p2_s912_s {X : Int → Int} {LX : Nat} : ck_Ok p2_O X LX 286 p2_s912 := ck_ok_s (O := p2_O) (X := X) (LX := LX) (E := []) (mi := 286) (cuts := []) (f := 88) (S := p2_s912) (lx := none) (XF := []) ⟨p2_nmu, ck_E0⟩ ck_X0 ck_l0 (by decide +kernel)
set_option maxRecDepth 100000 in
/-- GlacierMailModel.noLetter -/
noncomputable def p2_s913 : ck_Sum := ((1, 0, 0), 245, [.inr (.inr (.inl 226)), .inl (ck_one 8)], ([], [], [(227, 4, 4, (0, 24, [(22, 0)]))]), ([], []), [(.inr (some (.inl (ck_one 1))), 245, ([], [], [])), (.inr (some (.inl (ck_one 0))), 245, ([], [], []))])
set_option maxRecDepth 100000 in
theorem p2_s913_s {X : Int → Int} {LX : Nat} : ck_Ok p2_O X LX 309 p2_s913 := ck_ok_s (O := p2_O) (X := X) (LX := LX) (E := [(254, [p2_s176]), (286, [p2_s912])]) (mi := 309) (cuts := []) (f := 92) (S := p2_s913) (lx := none) (XF := []) ⟨p2_nmu, ck_E1 (ck_S1 p2_s176_s ck_S0) (ck_E1 (ck_S1 p2_s912_s ck_S0) ck_E0)⟩ ck_X0 ck_l0 (by decide +kernel)
set_option maxRecDepth 100000 in
/-- GlacierMailModel.ofLetter -/
noncomputable def p2_s914 : ck_Sum := ((0, 0, 0), 245, [.inr (.inr (.inl 226)), .inl (ck_one 8), .inl (ck_one 0)], ([], [], []), ([], []), [(.inr (some (.inl (ck_one (-1)))), 245, ([], [], [(227, 175, 175, ck_one (-1))])), (.inr (some (.inl (0, 7, []))), 245, ([], [], [(227, 175, 175, (0, 7, []))]))])
set_option maxRecDepth 100000 in
theorem p2_s914_s {X : Int → Int} {LX : Nat} : ck_Ok p2_O X LX 301 p2_s914 := ck_ok_s (O := p2_O) (X := X) (LX := LX) (E := []) (mi := 301) (cuts := []) (f := 92) (S := p2_s914) (lx := none) (XF := []) ⟨p2_nmu, ck_E0⟩ ck_X0 ck_l0 (by decide +kernel)
set_option maxRecDepth 100000 in
/-- GlacierMailModel.isRock -/
noncomputable def p2_s915 : ck_Sum := ((1, 0, 0), 245, [.inr (.inr (.inl 226)), .inl (ck_one 8)], ([], [], []), ([], []), [(.inr (some (.inl (ck_one 1))), 245, ([], [], [(227, 175, 175, ck_one (-1))])), (.inr (some (.inl (ck_one 0))), 245, ([], [], [(227, 175, 175, (0, 7, []))]))])
set_option maxRecDepth 100000 in
theorem p2_s915_s {X : Int → Int} {LX : Nat} : ck_Ok p2_O X LX 303 p2_s915 := ck_ok_s (O := p2_O) (X := X) (LX := LX) (E := [(301, [p2_s914])]) (mi := 303) (cuts := []) (f := 86) (S := p2_s915) (lx := none) (XF := []) ⟨p2_nmu, ck_E1 (ck_S1 p2_s914_s ck_S0) ck_E0⟩ ck_X0 ck_l0 (by decide +kernel)
set_option maxRecDepth 100000 in
/-- GlacierMailModel.ofLetter -/
noncomputable def p2_s916 : ck_Sum := ((0, 0, 0), 245, [.inr (.inr (.inl 226)), .inl (ck_one 8), .inl (ck_one 5)], ([], [], []), ([], []), [(.inr (some (.inl (ck_one (-1)))), 245, ([], [], [(227, 180, 180, ck_one (-1))])), (.inr (some (.inl (0, 7, []))), 245, ([], [], [(227, 180, 180, (0, 7, []))]))])
set_option maxRecDepth 100000 in
theorem p2_s916_s {X : Int → Int} {LX : Nat} : ck_Ok p2_O X LX 301 p2_s916 := ck_ok_s (O := p2_O) (X := X) (LX := LX) (E := []) (mi := 301) (cuts := []) (f := 92) (S := p2_s916) (lx := none) (XF := []) ⟨p2_nmu, ck_E0⟩ ck_X0 ck_l0 (by decide +kernel)
set_option maxRecDepth 100000 in
/-- GlacierMailModel.isWaiting -/
noncomputable def p2_s917 : ck_Sum := ((8, 0, 0), 245, [.inr (.inr (.inl 226)), .inl (ck_one 8)], ([], [], zl83), (zl81, []), [(.inr (some (.inl (ck_one 0))), 245, ([], [], [])), (.inr (some (.inl (ck_one 1))), 245, ([], [], [(226, 29, 29, (0, 299, [])), (227, 180, 180, ck_one (-1)), (227, 175, 175, (0, 7, []))]))])
set_option maxRecDepth 100000 in
theorem p2_s917_s {X : Int → Int} {LX : Nat} : ck_Ok p2_O X LX 302 p2_s917 := ck_ok_s (O := p2_O) (X := X) (LX := LX) (E := [(303, [p2_s915]), (301, [p2_s916]), (304, [p2_s381]), (266, [p2_s190])]) (mi := 302) (cuts := []) (f := 114) (S := p2_s917) (lx := none) (XF := []) ⟨p2_nmu, ck_E1 (ck_S1 p2_s915_s ck_S0) (ck_E1 (ck_S1 p2_s916_s ck_S0) (ck_E1 (ck_S1 p2_s381_s ck_S0) (ck_E1 (ck_S1 p2_s190_s ck_S0) ck_E0)))⟩ ck_X0 ck_l0 (by decide +kernel)
set_option maxRecDepth 100000 in
/-- GlacierMailModel.ofLetter -/
noncomputable def p2_s918 : ck_Sum := ((0, 0, 0), 245, [.inr (.inr (.inl 226)), .inl (ck_one 8), .inl (ck_one 1)], ([], [], []), ([], []), [(.inr (some (.inl (ck_one (-1)))), 245, ([], [], [(227, 176, 176, ck_one (-1))])), (.inr (some (.inl (0, 7, []))), 245, ([], [], [(227, 176, 176, (0, 7, []))]))])
set_option maxRecDepth 100000 in
theorem p2_s918_s {X : Int → Int} {LX : Nat} : ck_Ok p2_O X LX 301 p2_s918 := ck_ok_s (O := p2_O) (X := X) (LX := LX) (E := []) (mi := 301) (cuts := []) (f := 92) (S := p2_s918) (lx := none) (XF := []) ⟨p2_nmu, ck_E0⟩ ck_X0 ck_l0 (by decide +kernel)
set_option maxRecDepth 100000 in
/-- GlacierMailModel.ofLetter -/
noncomputable def p2_s919 : ck_Sum := ((0, 0, 0), 245, [.inr (.inr (.inl 226)), .inl (ck_one 8), .inl (ck_one 3)], ([], [], []), ([], []), [(.inr (some (.inl (0, 299, []))), 245, ([], [], []))])
set_option maxRecDepth 100000 in
theorem p2_s919_s {X : Int → Int} {LX : Nat} : ck_Ok p2_O X LX 301 p2_s919 := ck_ok_s (O := p2_O) (X := X) (LX := LX) (E := []) (mi := 301) (cuts := []) (f := 92) (S := p2_s919) (lx := none) (XF := []) ⟨p2_nmu, ck_E0⟩ ck_X0 ck_l0 (by decide +kernel)
/-- GlacierMailModel.opens -/
noncomputable def p2_s920 : ck_Sum := op_os0 8 (.inl (ck_one (-1))) 0 7 (-1) (-1)
theorem p2_s920_s {X : Int → Int} {LX : Nat} : ck_Ok p2_O X LX 319 p2_s920 := op_none (by decide) (by decide) (by decide)
/-- GlacierMailModel.opens -/
noncomputable def p2_s921 : ck_Sum := op_os 8 0 7
theorem p2_s921_s {X : Int → Int} {LX : Nat} : ck_Ok p2_O X LX 319 p2_s921 := op_open (by decide) (by decide) (by decide +kernel)
set_option maxRecDepth 100000 in
/-- GlacierMailModel.open -/
noncomputable def p2_s922 : ck_Sum := ((9, 0, 0), 245, [.inr (.inr (.inl 226)), .inl (ck_one 8)], ([], [], zl176), ([(226, 0, 0), (226, 6, 6), (226, 17, 23), (226, 26, 26), (226, 29, 30), (227, 14, 14), (227, 180, 181), (227, 323, 394), (230, 0, 4739), (233, 0, 399), (235, 0, 29699), (236, 0, 299), (237, 0, 299)], []), [(.inr (some (.inl (ck_one 0))), 245, ([], [], zl177)), (.inr (some (.inl ((-299), 299, []))), 245, ([], [], [(227, 180, 180, (0, 7, [])), (227, 176, 176, (0, 7, [])), (226, 6, 6, (1, 12, [(1000027, 0)])), (226, 29, 29, (0, 299, [])), (227, 175, 175, (0, 7, [])), (226, 0, 0, ck_one 0)]))])
set_option maxRecDepth 100000 in
theorem p2_s922_s {X : Int → Int} {LX : Nat} : ck_Ok p2_O X LX 318 p2_s922 := ck_ok_s (O := p2_O) (X := X) (LX := LX) (E := [(309, [p2_s913]), (282, [p2_s241, p2_s242, p2_s244, p2_s243]), (302, [p2_s917]), (316, [p2_s553]), (301, [p2_s918, p2_s919]), (319, [p2_s920, p2_s921]), (266, [p2_s190])]) (mi := 318) (cuts := []) (f := 142) (S := p2_s922) (lx := none) (XF := []) ⟨p2_nmu, ck_E1 (ck_S1 p2_s913_s ck_S0) (ck_E1 (ck_S1 p2_s241_s (ck_S1 p2_s242_s (ck_S1 p2_s244_s (ck_S1 p2_s243_s ck_S0)))) (ck_E1 (ck_S1 p2_s917_s ck_S0) (ck_E1 (ck_S1 p2_s553_s ck_S0) (ck_E1 (ck_S1 p2_s918_s (ck_S1 p2_s919_s ck_S0)) (ck_E1 (ck_S1 p2_s920_s (ck_S1 p2_s921_s ck_S0)) (ck_E1 (ck_S1 p2_s190_s ck_S0) ck_E0))))))⟩ ck_X0 ck_l0 (by decide +kernel)
set_option maxRecDepth 100000 in
/-- GlacierMailModel.in -/
noncomputable def p2_s923 : ck_Sum := ((0, 0, 0), 245, [.inl (ck_one 9), .inl (ck_one 0), .inl ((-1), 23, [])], ([], [], []), ([], []), [(.inr (some (.inl (ck_one 0))), 245, ([], [], [])), (.inr (some (.inl (ck_one 1))), 245, ([], [], []))])
set_option maxRecDepth 100000 in
theorem p2_s923_s {X : Int → Int} {LX : Nat} : ck_Ok p2_O X LX 286 p2_s923 := ck_ok_s (O := p2_O) (X := X) (LX := LX) (E := []) (mi := 286) (cuts := []) (f := 88) (S := p2_s923) (lx := none) (XF := []) ⟨p2_nmu, ck_E0⟩ ck_X0 ck_l0 (by decide +kernel)
set_option maxRecDepth 100000 in
/-- GlacierMailModel.noLetter -/
noncomputable def p2_s924 : ck_Sum := ((1, 0, 0), 245, [.inr (.inr (.inl 226)), .inl (ck_one 9)], ([], [], [(227, 4, 4, (0, 24, [(22, 0)]))]), ([], []), [(.inr (some (.inl (ck_one 1))), 245, ([], [], [])), (.inr (some (.inl (ck_one 0))), 245, ([], [], []))])
set_option maxRecDepth 100000 in
theorem p2_s924_s {X : Int → Int} {LX : Nat} : ck_Ok p2_O X LX 309 p2_s924 := ck_ok_s (O := p2_O) (X := X) (LX := LX) (E := [(254, [p2_s176]), (286, [p2_s923])]) (mi := 309) (cuts := []) (f := 92) (S := p2_s924) (lx := none) (XF := []) ⟨p2_nmu, ck_E1 (ck_S1 p2_s176_s ck_S0) (ck_E1 (ck_S1 p2_s923_s ck_S0) ck_E0)⟩ ck_X0 ck_l0 (by decide +kernel)
set_option maxRecDepth 100000 in
/-- GlacierMailModel.ofLetter -/
noncomputable def p2_s925 : ck_Sum := ((0, 0, 0), 245, [.inr (.inr (.inl 226)), .inl (ck_one 9), .inl (ck_one 0)], ([], [], []), ([], []), [(.inr (some (.inl (ck_one (-1)))), 245, ([], [], [(227, 182, 182, ck_one (-1))])), (.inr (some (.inl (0, 7, []))), 245, ([], [], [(227, 182, 182, (0, 7, []))]))])
set_option maxRecDepth 100000 in
theorem p2_s925_s {X : Int → Int} {LX : Nat} : ck_Ok p2_O X LX 301 p2_s925 := ck_ok_s (O := p2_O) (X := X) (LX := LX) (E := []) (mi := 301) (cuts := []) (f := 92) (S := p2_s925) (lx := none) (XF := []) ⟨p2_nmu, ck_E0⟩ ck_X0 ck_l0 (by decide +kernel)
set_option maxRecDepth 100000 in
/-- GlacierMailModel.isRock -/
noncomputable def p2_s926 : ck_Sum := ((1, 0, 0), 245, [.inr (.inr (.inl 226)), .inl (ck_one 9)], ([], [], []), ([], []), [(.inr (some (.inl (ck_one 1))), 245, ([], [], [(227, 182, 182, ck_one (-1))])), (.inr (some (.inl (ck_one 0))), 245, ([], [], [(227, 182, 182, (0, 7, []))]))])
set_option maxRecDepth 100000 in
theorem p2_s926_s {X : Int → Int} {LX : Nat} : ck_Ok p2_O X LX 303 p2_s926 := ck_ok_s (O := p2_O) (X := X) (LX := LX) (E := [(301, [p2_s925])]) (mi := 303) (cuts := []) (f := 86) (S := p2_s926) (lx := none) (XF := []) ⟨p2_nmu, ck_E1 (ck_S1 p2_s925_s ck_S0) ck_E0⟩ ck_X0 ck_l0 (by decide +kernel)
set_option maxRecDepth 100000 in
/-- GlacierMailModel.ofLetter -/
noncomputable def p2_s927 : ck_Sum := ((0, 0, 0), 245, [.inr (.inr (.inl 226)), .inl (ck_one 9), .inl (ck_one 5)], ([], [], []), ([], []), [(.inr (some (.inl (ck_one (-1)))), 245, ([], [], [(227, 187, 187, ck_one (-1))])), (.inr (some (.inl (0, 7, []))), 245, ([], [], [(227, 187, 187, (0, 7, []))]))])
set_option maxRecDepth 100000 in
theorem p2_s927_s {X : Int → Int} {LX : Nat} : ck_Ok p2_O X LX 301 p2_s927 := ck_ok_s (O := p2_O) (X := X) (LX := LX) (E := []) (mi := 301) (cuts := []) (f := 92) (S := p2_s927) (lx := none) (XF := []) ⟨p2_nmu, ck_E0⟩ ck_X0 ck_l0 (by decide +kernel)
set_option maxRecDepth 100000 in
/-- GlacierMailModel.isWaiting -/
noncomputable def p2_s928 : ck_Sum := ((8, 0, 0), 245, [.inr (.inr (.inl 226)), .inl (ck_one 9)], ([], [], zl83), (zl81, []), [(.inr (some (.inl (ck_one 0))), 245, ([], [], [])), (.inr (some (.inl (ck_one 1))), 245, ([], [], [(226, 29, 29, (0, 299, [])), (227, 187, 187, ck_one (-1)), (227, 182, 182, (0, 7, []))]))])
set_option maxRecDepth 100000 in
theorem p2_s928_s {X : Int → Int} {LX : Nat} : ck_Ok p2_O X LX 302 p2_s928 := ck_ok_s (O := p2_O) (X := X) (LX := LX) (E := [(303, [p2_s926]), (301, [p2_s927]), (304, [p2_s381]), (266, [p2_s190])]) (mi := 302) (cuts := []) (f := 114) (S := p2_s928) (lx := none) (XF := []) ⟨p2_nmu, ck_E1 (ck_S1 p2_s926_s ck_S0) (ck_E1 (ck_S1 p2_s927_s ck_S0) (ck_E1 (ck_S1 p2_s381_s ck_S0) (ck_E1 (ck_S1 p2_s190_s ck_S0) ck_E0)))⟩ ck_X0 ck_l0 (by decide +kernel)
set_option maxRecDepth 100000 in
/-- GlacierMailModel.ofLetter -/
noncomputable def p2_s929 : ck_Sum := ((0, 0, 0), 245, [.inr (.inr (.inl 226)), .inl (ck_one 9), .inl (ck_one 1)], ([], [], []), ([], []), [(.inr (some (.inl (ck_one (-1)))), 245, ([], [], [(227, 183, 183, ck_one (-1))])), (.inr (some (.inl (0, 7, []))), 245, ([], [], [(227, 183, 183, (0, 7, []))]))])
set_option maxRecDepth 100000 in
theorem p2_s929_s {X : Int → Int} {LX : Nat} : ck_Ok p2_O X LX 301 p2_s929 := ck_ok_s (O := p2_O) (X := X) (LX := LX) (E := []) (mi := 301) (cuts := []) (f := 92) (S := p2_s929) (lx := none) (XF := []) ⟨p2_nmu, ck_E0⟩ ck_X0 ck_l0 (by decide +kernel)
set_option maxRecDepth 100000 in
/-- GlacierMailModel.ofLetter -/
noncomputable def p2_s930 : ck_Sum := ((0, 0, 0), 245, [.inr (.inr (.inl 226)), .inl (ck_one 9), .inl (ck_one 3)], ([], [], []), ([], []), [(.inr (some (.inl (0, 299, []))), 245, ([], [], []))])
set_option maxRecDepth 100000 in
theorem p2_s930_s {X : Int → Int} {LX : Nat} : ck_Ok p2_O X LX 301 p2_s930 := ck_ok_s (O := p2_O) (X := X) (LX := LX) (E := []) (mi := 301) (cuts := []) (f := 92) (S := p2_s930) (lx := none) (XF := []) ⟨p2_nmu, ck_E0⟩ ck_X0 ck_l0 (by decide +kernel)
/-- GlacierMailModel.opens -/
noncomputable def p2_s931 : ck_Sum := op_os0 9 (.inl (ck_one (-1))) 0 7 (-1) (-1)
theorem p2_s931_s {X : Int → Int} {LX : Nat} : ck_Ok p2_O X LX 319 p2_s931 := op_none (by decide) (by decide) (by decide)
/-- GlacierMailModel.opens -/
noncomputable def p2_s932 : ck_Sum := op_os 9 0 7
theorem p2_s932_s {X : Int → Int} {LX : Nat} : ck_Ok p2_O X LX 319 p2_s932 := op_open (by decide) (by decide) (by decide +kernel)
set_option maxRecDepth 100000 in
/-- GlacierMailModel.open -/
noncomputable def p2_s933 : ck_Sum := ((9, 0, 0), 245, [.inr (.inr (.inl 226)), .inl (ck_one 9)], ([], [], zl176), ([(226, 0, 0), (226, 6, 6), (226, 17, 23), (226, 26, 26), (226, 29, 30), (227, 14, 14), (227, 187, 188), (227, 323, 394), (230, 0, 4739), (233, 0, 399), (235, 0, 29699), (236, 0, 299), (237, 0, 299)], []), [(.inr (some (.inl (ck_one 0))), 245, ([], [], zl177)), (.inr (some (.inl ((-299), 299, []))), 245, ([], [], [(227, 187, 187, (0, 7, [])), (227, 183, 183, (0, 7, [])), (226, 6, 6, (1, 12, [(1000027, 0)])), (226, 29, 29, (0, 299, [])), (227, 182, 182, (0, 7, [])), (226, 0, 0, ck_one 0)]))])
set_option maxRecDepth 100000 in
theorem p2_s933_s {X : Int → Int} {LX : Nat} : ck_Ok p2_O X LX 318 p2_s933 := ck_ok_s (O := p2_O) (X := X) (LX := LX) (E := [(309, [p2_s924]), (282, [p2_s241, p2_s242, p2_s244, p2_s243]), (302, [p2_s928]), (316, [p2_s553]), (301, [p2_s929, p2_s930]), (319, [p2_s931, p2_s932]), (266, [p2_s190])]) (mi := 318) (cuts := []) (f := 142) (S := p2_s933) (lx := none) (XF := []) ⟨p2_nmu, ck_E1 (ck_S1 p2_s924_s ck_S0) (ck_E1 (ck_S1 p2_s241_s (ck_S1 p2_s242_s (ck_S1 p2_s244_s (ck_S1 p2_s243_s ck_S0)))) (ck_E1 (ck_S1 p2_s928_s ck_S0) (ck_E1 (ck_S1 p2_s553_s ck_S0) (ck_E1 (ck_S1 p2_s929_s (ck_S1 p2_s930_s ck_S0)) (ck_E1 (ck_S1 p2_s931_s (ck_S1 p2_s932_s ck_S0)) (ck_E1 (ck_S1 p2_s190_s ck_S0) ck_E0))))))⟩ ck_X0 ck_l0 (by decide +kernel)
set_option maxRecDepth 100000 in
/-- GlacierMailModel.in -/
noncomputable def p2_s934 : ck_Sum := ((0, 0, 0), 245, [.inl (ck_one 10), .inl (ck_one 0), .inl ((-1), 23, [])], ([], [], []), ([], []), [(.inr (some (.inl (ck_one 0))), 245, ([], [], [])), (.inr (some (.inl (ck_one 1))), 245, ([], [], []))])
set_option maxRecDepth 100000 in
theorem p2_s934_s {X : Int → Int} {LX : Nat} : ck_Ok p2_O X LX 286 p2_s934 := ck_ok_s (O := p2_O) (X := X) (LX := LX) (E := []) (mi := 286) (cuts := []) (f := 88) (S := p2_s934) (lx := none) (XF := []) ⟨p2_nmu, ck_E0⟩ ck_X0 ck_l0 (by decide +kernel)
set_option maxRecDepth 100000 in
/-- GlacierMailModel.noLetter -/
noncomputable def p2_s935 : ck_Sum := ((1, 0, 0), 245, [.inr (.inr (.inl 226)), .inl (ck_one 10)], ([], [], [(227, 4, 4, (0, 24, [(22, 0)]))]), ([], []), [(.inr (some (.inl (ck_one 1))), 245, ([], [], [])), (.inr (some (.inl (ck_one 0))), 245, ([], [], []))])
set_option maxRecDepth 100000 in
theorem p2_s935_s {X : Int → Int} {LX : Nat} : ck_Ok p2_O X LX 309 p2_s935 := ck_ok_s (O := p2_O) (X := X) (LX := LX) (E := [(254, [p2_s176]), (286, [p2_s934])]) (mi := 309) (cuts := []) (f := 92) (S := p2_s935) (lx := none) (XF := []) ⟨p2_nmu, ck_E1 (ck_S1 p2_s176_s ck_S0) (ck_E1 (ck_S1 p2_s934_s ck_S0) ck_E0)⟩ ck_X0 ck_l0 (by decide +kernel)
set_option maxRecDepth 100000 in
/-- GlacierMailModel.ofLetter -/
noncomputable def p2_s936 : ck_Sum := ((0, 0, 0), 245, [.inr (.inr (.inl 226)), .inl (ck_one 10), .inl (ck_one 0)], ([], [], []), ([], []), [(.inr (some (.inl (ck_one (-1)))), 245, ([], [], [(227, 189, 189, ck_one (-1))])), (.inr (some (.inl (0, 7, []))), 245, ([], [], [(227, 189, 189, (0, 7, []))]))])
set_option maxRecDepth 100000 in
theorem p2_s936_s {X : Int → Int} {LX : Nat} : ck_Ok p2_O X LX 301 p2_s936 := ck_ok_s (O := p2_O) (X := X) (LX := LX) (E := []) (mi := 301) (cuts := []) (f := 92) (S := p2_s936) (lx := none) (XF := []) ⟨p2_nmu, ck_E0⟩ ck_X0 ck_l0 (by decide +kernel)
set_option maxRecDepth 100000 in
/-- GlacierMailModel.isRock -/
noncomputable def p2_s937 : ck_Sum := ((1, 0, 0), 245, [.inr (.inr (.inl 226)), .inl (ck_one 10)], ([], [], []), ([], []), [(.inr (some (.inl (ck_one 1))), 245, ([], [], [(227, 189, 189, ck_one (-1))])), (.inr (some (.inl (ck_one 0))), 245, ([], [], [(227, 189, 189, (0, 7, []))]))])
set_option maxRecDepth 100000 in
theorem p2_s937_s {X : Int → Int} {LX : Nat} : ck_Ok p2_O X LX 303 p2_s937 := ck_ok_s (O := p2_O) (X := X) (LX := LX) (E := [(301, [p2_s936])]) (mi := 303) (cuts := []) (f := 86) (S := p2_s937) (lx := none) (XF := []) ⟨p2_nmu, ck_E1 (ck_S1 p2_s936_s ck_S0) ck_E0⟩ ck_X0 ck_l0 (by decide +kernel)
set_option maxRecDepth 100000 in
/-- GlacierMailModel.ofLetter -/
noncomputable def p2_s938 : ck_Sum := ((0, 0, 0), 245, [.inr (.inr (.inl 226)), .inl (ck_one 10), .inl (ck_one 5)], ([], [], []), ([], []), [(.inr (some (.inl (ck_one (-1)))), 245, ([], [], [(227, 194, 194, ck_one (-1))])), (.inr (some (.inl (0, 7, []))), 245, ([], [], [(227, 194, 194, (0, 7, []))]))])
set_option maxRecDepth 100000 in
theorem p2_s938_s {X : Int → Int} {LX : Nat} : ck_Ok p2_O X LX 301 p2_s938 := ck_ok_s (O := p2_O) (X := X) (LX := LX) (E := []) (mi := 301) (cuts := []) (f := 92) (S := p2_s938) (lx := none) (XF := []) ⟨p2_nmu, ck_E0⟩ ck_X0 ck_l0 (by decide +kernel)
set_option maxRecDepth 100000 in
/-- GlacierMailModel.isWaiting -/
noncomputable def p2_s939 : ck_Sum := ((8, 0, 0), 245, [.inr (.inr (.inl 226)), .inl (ck_one 10)], ([], [], zl83), (zl81, []), [(.inr (some (.inl (ck_one 0))), 245, ([], [], [])), (.inr (some (.inl (ck_one 1))), 245, ([], [], [(226, 29, 29, (0, 299, [])), (227, 194, 194, ck_one (-1)), (227, 189, 189, (0, 7, []))]))])
set_option maxRecDepth 100000 in
theorem p2_s939_s {X : Int → Int} {LX : Nat} : ck_Ok p2_O X LX 302 p2_s939 := ck_ok_s (O := p2_O) (X := X) (LX := LX) (E := [(303, [p2_s937]), (301, [p2_s938]), (304, [p2_s381]), (266, [p2_s190])]) (mi := 302) (cuts := []) (f := 114) (S := p2_s939) (lx := none) (XF := []) ⟨p2_nmu, ck_E1 (ck_S1 p2_s937_s ck_S0) (ck_E1 (ck_S1 p2_s938_s ck_S0) (ck_E1 (ck_S1 p2_s381_s ck_S0) (ck_E1 (ck_S1 p2_s190_s ck_S0) ck_E0)))⟩ ck_X0 ck_l0 (by decide +kernel)
set_option maxRecDepth 100000 in
/-- GlacierMailModel.ofLetter -/
noncomputable def p2_s940 : ck_Sum := ((0, 0, 0), 245, [.inr (.inr (.inl 226)), .inl (ck_one 10), .inl (ck_one 1)], ([], [], []), ([], []), [(.inr (some (.inl (ck_one (-1)))), 245, ([], [], [(227, 190, 190, ck_one (-1))])), (.inr (some (.inl (0, 7, []))), 245, ([], [], [(227, 190, 190, (0, 7, []))]))])
set_option maxRecDepth 100000 in
theorem p2_s940_s {X : Int → Int} {LX : Nat} : ck_Ok p2_O X LX 301 p2_s940 := ck_ok_s (O := p2_O) (X := X) (LX := LX) (E := []) (mi := 301) (cuts := []) (f := 92) (S := p2_s940) (lx := none) (XF := []) ⟨p2_nmu, ck_E0⟩ ck_X0 ck_l0 (by decide +kernel)
set_option maxRecDepth 100000 in
/-- GlacierMailModel.ofLetter -/
noncomputable def p2_s941 : ck_Sum := ((0, 0, 0), 245, [.inr (.inr (.inl 226)), .inl (ck_one 10), .inl (ck_one 3)], ([], [], []), ([], []), [(.inr (some (.inl (0, 299, []))), 245, ([], [], []))])
set_option maxRecDepth 100000 in
theorem p2_s941_s {X : Int → Int} {LX : Nat} : ck_Ok p2_O X LX 301 p2_s941 := ck_ok_s (O := p2_O) (X := X) (LX := LX) (E := []) (mi := 301) (cuts := []) (f := 92) (S := p2_s941) (lx := none) (XF := []) ⟨p2_nmu, ck_E0⟩ ck_X0 ck_l0 (by decide +kernel)
/-- GlacierMailModel.opens -/
noncomputable def p2_s942 : ck_Sum := op_os0 10 (.inl (ck_one (-1))) 0 7 (-1) (-1)
theorem p2_s942_s {X : Int → Int} {LX : Nat} : ck_Ok p2_O X LX 319 p2_s942 := op_none (by decide) (by decide) (by decide)
/-- GlacierMailModel.opens -/
noncomputable def p2_s943 : ck_Sum := op_os 10 0 7
theorem p2_s943_s {X : Int → Int} {LX : Nat} : ck_Ok p2_O X LX 319 p2_s943 := op_open (by decide) (by decide) (by decide +kernel)
set_option maxRecDepth 100000 in
/-- GlacierMailModel.open -/
noncomputable def p2_s944 : ck_Sum := ((9, 0, 0), 245, [.inr (.inr (.inl 226)), .inl (ck_one 10)], ([], [], zl176), ([(226, 0, 0), (226, 6, 6), (226, 17, 23), (226, 26, 26), (226, 29, 30), (227, 14, 14), (227, 194, 195), (227, 323, 394), (230, 0, 4739), (233, 0, 399), (235, 0, 29699), (236, 0, 299), (237, 0, 299)], []), [(.inr (some (.inl (ck_one 0))), 245, ([], [], zl177)), (.inr (some (.inl ((-299), 299, []))), 245, ([], [], [(227, 194, 194, (0, 7, [])), (227, 190, 190, (0, 7, [])), (226, 6, 6, (1, 12, [(1000027, 0)])), (226, 29, 29, (0, 299, [])), (227, 189, 189, (0, 7, [])), (226, 0, 0, ck_one 0)]))])
set_option maxRecDepth 100000 in
theorem p2_s944_s {X : Int → Int} {LX : Nat} : ck_Ok p2_O X LX 318 p2_s944 := ck_ok_s (O := p2_O) (X := X) (LX := LX) (E := [(309, [p2_s935]), (282, [p2_s241, p2_s242, p2_s244, p2_s243]), (302, [p2_s939]), (316, [p2_s553]), (301, [p2_s940, p2_s941]), (319, [p2_s942, p2_s943]), (266, [p2_s190])]) (mi := 318) (cuts := []) (f := 142) (S := p2_s944) (lx := none) (XF := []) ⟨p2_nmu, ck_E1 (ck_S1 p2_s935_s ck_S0) (ck_E1 (ck_S1 p2_s241_s (ck_S1 p2_s242_s (ck_S1 p2_s244_s (ck_S1 p2_s243_s ck_S0)))) (ck_E1 (ck_S1 p2_s939_s ck_S0) (ck_E1 (ck_S1 p2_s553_s ck_S0) (ck_E1 (ck_S1 p2_s940_s (ck_S1 p2_s941_s ck_S0)) (ck_E1 (ck_S1 p2_s942_s (ck_S1 p2_s943_s ck_S0)) (ck_E1 (ck_S1 p2_s190_s ck_S0) ck_E0))))))⟩ ck_X0 ck_l0 (by decide +kernel)
set_option maxRecDepth 100000 in
/-- GlacierMailModel.in -/
noncomputable def p2_s945 : ck_Sum := ((0, 0, 0), 245, [.inl (ck_one 11), .inl (ck_one 0), .inl ((-1), 23, [])], ([], [], []), ([], []), [(.inr (some (.inl (ck_one 0))), 245, ([], [], [])), (.inr (some (.inl (ck_one 1))), 245, ([], [], []))])
set_option maxRecDepth 100000 in
theorem p2_s945_s {X : Int → Int} {LX : Nat} : ck_Ok p2_O X LX 286 p2_s945 := ck_ok_s (O := p2_O) (X := X) (LX := LX) (E := []) (mi := 286) (cuts := []) (f := 88) (S := p2_s945) (lx := none) (XF := []) ⟨p2_nmu, ck_E0⟩ ck_X0 ck_l0 (by decide +kernel)
set_option maxRecDepth 100000 in
/-- GlacierMailModel.noLetter -/
noncomputable def p2_s946 : ck_Sum := ((1, 0, 0), 245, [.inr (.inr (.inl 226)), .inl (ck_one 11)], ([], [], [(227, 4, 4, (0, 24, [(22, 0)]))]), ([], []), [(.inr (some (.inl (ck_one 1))), 245, ([], [], [])), (.inr (some (.inl (ck_one 0))), 245, ([], [], []))])
set_option maxRecDepth 100000 in
theorem p2_s946_s {X : Int → Int} {LX : Nat} : ck_Ok p2_O X LX 309 p2_s946 := ck_ok_s (O := p2_O) (X := X) (LX := LX) (E := [(254, [p2_s176]), (286, [p2_s945])]) (mi := 309) (cuts := []) (f := 92) (S := p2_s946) (lx := none) (XF := []) ⟨p2_nmu, ck_E1 (ck_S1 p2_s176_s ck_S0) (ck_E1 (ck_S1 p2_s945_s ck_S0) ck_E0)⟩ ck_X0 ck_l0 (by decide +kernel)
set_option maxRecDepth 100000 in
/-- GlacierMailModel.ofLetter -/
noncomputable def p2_s947 : ck_Sum := ((0, 0, 0), 245, [.inr (.inr (.inl 226)), .inl (ck_one 11), .inl (ck_one 0)], ([], [], []), ([], []), [(.inr (some (.inl (ck_one (-1)))), 245, ([], [], [(227, 196, 196, ck_one (-1))])), (.inr (some (.inl (0, 7, []))), 245, ([], [], [(227, 196, 196, (0, 7, []))]))])
set_option maxRecDepth 100000 in
theorem p2_s947_s {X : Int → Int} {LX : Nat} : ck_Ok p2_O X LX 301 p2_s947 := ck_ok_s (O := p2_O) (X := X) (LX := LX) (E := []) (mi := 301) (cuts := []) (f := 92) (S := p2_s947) (lx := none) (XF := []) ⟨p2_nmu, ck_E0⟩ ck_X0 ck_l0 (by decide +kernel)
set_option maxRecDepth 100000 in
/-- GlacierMailModel.isRock -/
noncomputable def p2_s948 : ck_Sum := ((1, 0, 0), 245, [.inr (.inr (.inl 226)), .inl (ck_one 11)], ([], [], []), ([], []), [(.inr (some (.inl (ck_one 1))), 245, ([], [], [(227, 196, 196, ck_one (-1))])), (.inr (some (.inl (ck_one 0))), 245, ([], [], [(227, 196, 196, (0, 7, []))]))])
set_option maxRecDepth 100000 in
theorem p2_s948_s {X : Int → Int} {LX : Nat} : ck_Ok p2_O X LX 303 p2_s948 := ck_ok_s (O := p2_O) (X := X) (LX := LX) (E := [(301, [p2_s947])]) (mi := 303) (cuts := []) (f := 86) (S := p2_s948) (lx := none) (XF := []) ⟨p2_nmu, ck_E1 (ck_S1 p2_s947_s ck_S0) ck_E0⟩ ck_X0 ck_l0 (by decide +kernel)
set_option maxRecDepth 100000 in
/-- GlacierMailModel.ofLetter -/
noncomputable def p2_s949 : ck_Sum := ((0, 0, 0), 245, [.inr (.inr (.inl 226)), .inl (ck_one 11), .inl (ck_one 5)], ([], [], []), ([], []), [(.inr (some (.inl (ck_one (-1)))), 245, ([], [], [(227, 201, 201, ck_one (-1))])), (.inr (some (.inl (0, 7, []))), 245, ([], [], [(227, 201, 201, (0, 7, []))]))])
set_option maxRecDepth 100000 in
theorem p2_s949_s {X : Int → Int} {LX : Nat} : ck_Ok p2_O X LX 301 p2_s949 := ck_ok_s (O := p2_O) (X := X) (LX := LX) (E := []) (mi := 301) (cuts := []) (f := 92) (S := p2_s949) (lx := none) (XF := []) ⟨p2_nmu, ck_E0⟩ ck_X0 ck_l0 (by decide +kernel)
set_option maxRecDepth 100000 in
/-- GlacierMailModel.isWaiting -/
noncomputable def p2_s950 : ck_Sum := ((8, 0, 0), 245, [.inr (.inr (.inl 226)), .inl (ck_one 11)], ([], [], zl83), (zl81, []), [(.inr (some (.inl (ck_one 0))), 245, ([], [], [])), (.inr (some (.inl (ck_one 1))), 245, ([], [], [(226, 29, 29, (0, 299, [])), (227, 201, 201, ck_one (-1)), (227, 196, 196, (0, 7, []))]))])
set_option maxRecDepth 100000 in
theorem p2_s950_s {X : Int → Int} {LX : Nat} : ck_Ok p2_O X LX 302 p2_s950 := ck_ok_s (O := p2_O) (X := X) (LX := LX) (E := [(303, [p2_s948]), (301, [p2_s949]), (304, [p2_s381]), (266, [p2_s190])]) (mi := 302) (cuts := []) (f := 114) (S := p2_s950) (lx := none) (XF := []) ⟨p2_nmu, ck_E1 (ck_S1 p2_s948_s ck_S0) (ck_E1 (ck_S1 p2_s949_s ck_S0) (ck_E1 (ck_S1 p2_s381_s ck_S0) (ck_E1 (ck_S1 p2_s190_s ck_S0) ck_E0)))⟩ ck_X0 ck_l0 (by decide +kernel)
set_option maxRecDepth 100000 in
/-- GlacierMailModel.ofLetter -/
noncomputable def p2_s951 : ck_Sum := ((0, 0, 0), 245, [.inr (.inr (.inl 226)), .inl (ck_one 11), .inl (ck_one 1)], ([], [], []), ([], []), [(.inr (some (.inl (ck_one (-1)))), 245, ([], [], [(227, 197, 197, ck_one (-1))])), (.inr (some (.inl (0, 7, []))), 245, ([], [], [(227, 197, 197, (0, 7, []))]))])
set_option maxRecDepth 100000 in
theorem p2_s951_s {X : Int → Int} {LX : Nat} : ck_Ok p2_O X LX 301 p2_s951 := ck_ok_s (O := p2_O) (X := X) (LX := LX) (E := []) (mi := 301) (cuts := []) (f := 92) (S := p2_s951) (lx := none) (XF := []) ⟨p2_nmu, ck_E0⟩ ck_X0 ck_l0 (by decide +kernel)
set_option maxRecDepth 100000 in
/-- GlacierMailModel.ofLetter -/
noncomputable def p2_s952 : ck_Sum := ((0, 0, 0), 245, [.inr (.inr (.inl 226)), .inl (ck_one 11), .inl (ck_one 3)], ([], [], []), ([], []), [(.inr (some (.inl (0, 299, []))), 245, ([], [], []))])
set_option maxRecDepth 100000 in
theorem p2_s952_s {X : Int → Int} {LX : Nat} : ck_Ok p2_O X LX 301 p2_s952 := ck_ok_s (O := p2_O) (X := X) (LX := LX) (E := []) (mi := 301) (cuts := []) (f := 92) (S := p2_s952) (lx := none) (XF := []) ⟨p2_nmu, ck_E0⟩ ck_X0 ck_l0 (by decide +kernel)
/-- GlacierMailModel.opens -/
noncomputable def p2_s953 : ck_Sum := op_os0 11 (.inl (ck_one (-1))) 0 7 (-1) (-1)
theorem p2_s953_s {X : Int → Int} {LX : Nat} : ck_Ok p2_O X LX 319 p2_s953 := op_none (by decide) (by decide) (by decide)
/-- GlacierMailModel.opens -/
noncomputable def p2_s954 : ck_Sum := op_os 11 0 7
theorem p2_s954_s {X : Int → Int} {LX : Nat} : ck_Ok p2_O X LX 319 p2_s954 := op_open (by decide) (by decide) (by decide +kernel)
set_option maxRecDepth 100000 in
/-- GlacierMailModel.open -/
noncomputable def p2_s955 : ck_Sum := ((9, 0, 0), 245, [.inr (.inr (.inl 226)), .inl (ck_one 11)], ([], [], zl176), ([(226, 0, 0), (226, 6, 6), (226, 17, 23), (226, 26, 26), (226, 29, 30), (227, 14, 14), (227, 201, 202), (227, 323, 394), (230, 0, 4739), (233, 0, 399), (235, 0, 29699), (236, 0, 299), (237, 0, 299)], []), [(.inr (some (.inl (ck_one 0))), 245, ([], [], zl177)), (.inr (some (.inl ((-299), 299, []))), 245, ([], [], [(227, 201, 201, (0, 7, [])), (227, 197, 197, (0, 7, [])), (226, 6, 6, (1, 12, [(1000027, 0)])), (226, 29, 29, (0, 299, [])), (227, 196, 196, (0, 7, [])), (226, 0, 0, ck_one 0)]))])
set_option maxRecDepth 100000 in
theorem p2_s955_s {X : Int → Int} {LX : Nat} : ck_Ok p2_O X LX 318 p2_s955 := ck_ok_s (O := p2_O) (X := X) (LX := LX) (E := [(309, [p2_s946]), (282, [p2_s241, p2_s242, p2_s244, p2_s243]), (302, [p2_s950]), (316, [p2_s553]), (301, [p2_s951, p2_s952]), (319, [p2_s953, p2_s954]), (266, [p2_s190])]) (mi := 318) (cuts := []) (f := 142) (S := p2_s955) (lx := none) (XF := []) ⟨p2_nmu, ck_E1 (ck_S1 p2_s946_s ck_S0) (ck_E1 (ck_S1 p2_s241_s (ck_S1 p2_s242_s (ck_S1 p2_s244_s (ck_S1 p2_s243_s ck_S0)))) (ck_E1 (ck_S1 p2_s950_s ck_S0) (ck_E1 (ck_S1 p2_s553_s ck_S0) (ck_E1 (ck_S1 p2_s951_s (ck_S1 p2_s952_s ck_S0)) (ck_E1 (ck_S1 p2_s953_s (ck_S1 p2_s954_s ck_S0)) (ck_E1 (ck_S1 p2_s190_s ck_S0) ck_E0))))))⟩ ck_X0 ck_l0 (by decide +kernel)
set_option maxRecDepth 100000 in
/-- GlacierMailModel.in -/
noncomputable def p2_s956 : ck_Sum := ((0, 0, 0), 245, [.inl (ck_one 12), .inl (ck_one 0), .inl ((-1), 23, [])], ([], [], []), ([], []), [(.inr (some (.inl (ck_one 0))), 245, ([], [], [])), (.inr (some (.inl (ck_one 1))), 245, ([], [], []))])
set_option maxRecDepth 100000 in
theorem p2_s956_s {X : Int → Int} {LX : Nat} : ck_Ok p2_O X LX 286 p2_s956 := ck_ok_s (O := p2_O) (X := X) (LX := LX) (E := []) (mi := 286) (cuts := []) (f := 88) (S := p2_s956) (lx := none) (XF := []) ⟨p2_nmu, ck_E0⟩ ck_X0 ck_l0 (by decide +kernel)
set_option maxRecDepth 100000 in
/-- GlacierMailModel.noLetter -/
noncomputable def p2_s957 : ck_Sum := ((1, 0, 0), 245, [.inr (.inr (.inl 226)), .inl (ck_one 12)], ([], [], [(227, 4, 4, (0, 24, [(22, 0)]))]), ([], []), [(.inr (some (.inl (ck_one 1))), 245, ([], [], [])), (.inr (some (.inl (ck_one 0))), 245, ([], [], []))])
set_option maxRecDepth 100000 in
theorem p2_s957_s {X : Int → Int} {LX : Nat} : ck_Ok p2_O X LX 309 p2_s957 := ck_ok_s (O := p2_O) (X := X) (LX := LX) (E := [(254, [p2_s176]), (286, [p2_s956])]) (mi := 309) (cuts := []) (f := 92) (S := p2_s957) (lx := none) (XF := []) ⟨p2_nmu, ck_E1 (ck_S1 p2_s176_s ck_S0) (ck_E1 (ck_S1 p2_s956_s ck_S0) ck_E0)⟩ ck_X0 ck_l0 (by decide +kernel)
set_option maxRecDepth 100000 in
/-- GlacierMailModel.ofLetter -/
noncomputable def p2_s958 : ck_Sum := ((0, 0, 0), 245, [.inr (.inr (.inl 226)), .inl (ck_one 12), .inl (ck_one 0)], ([], [], []), ([], []), [(.inr (some (.inl (ck_one (-1)))), 245, ([], [], [(227, 203, 203, ck_one (-1))])), (.inr (some (.inl (0, 7, []))), 245, ([], [], [(227, 203, 203, (0, 7, []))]))])
set_option maxRecDepth 100000 in
theorem p2_s958_s {X : Int → Int} {LX : Nat} : ck_Ok p2_O X LX 301 p2_s958 := ck_ok_s (O := p2_O) (X := X) (LX := LX) (E := []) (mi := 301) (cuts := []) (f := 92) (S := p2_s958) (lx := none) (XF := []) ⟨p2_nmu, ck_E0⟩ ck_X0 ck_l0 (by decide +kernel)
set_option maxRecDepth 100000 in
/-- GlacierMailModel.isRock -/
noncomputable def p2_s959 : ck_Sum := ((1, 0, 0), 245, [.inr (.inr (.inl 226)), .inl (ck_one 12)], ([], [], []), ([], []), [(.inr (some (.inl (ck_one 1))), 245, ([], [], [(227, 203, 203, ck_one (-1))])), (.inr (some (.inl (ck_one 0))), 245, ([], [], [(227, 203, 203, (0, 7, []))]))])
set_option maxRecDepth 100000 in
theorem p2_s959_s {X : Int → Int} {LX : Nat} : ck_Ok p2_O X LX 303 p2_s959 := ck_ok_s (O := p2_O) (X := X) (LX := LX) (E := [(301, [p2_s958])]) (mi := 303) (cuts := []) (f := 86) (S := p2_s959) (lx := none) (XF := []) ⟨p2_nmu, ck_E1 (ck_S1 p2_s958_s ck_S0) ck_E0⟩ ck_X0 ck_l0 (by decide +kernel)
set_option maxRecDepth 100000 in
/-- GlacierMailModel.ofLetter -/
noncomputable def p2_s960 : ck_Sum := ((0, 0, 0), 245, [.inr (.inr (.inl 226)), .inl (ck_one 12), .inl (ck_one 5)], ([], [], []), ([], []), [(.inr (some (.inl (ck_one (-1)))), 245, ([], [], [(227, 208, 208, ck_one (-1))])), (.inr (some (.inl (0, 7, []))), 245, ([], [], [(227, 208, 208, (0, 7, []))]))])
set_option maxRecDepth 100000 in
theorem p2_s960_s {X : Int → Int} {LX : Nat} : ck_Ok p2_O X LX 301 p2_s960 := ck_ok_s (O := p2_O) (X := X) (LX := LX) (E := []) (mi := 301) (cuts := []) (f := 92) (S := p2_s960) (lx := none) (XF := []) ⟨p2_nmu, ck_E0⟩ ck_X0 ck_l0 (by decide +kernel)
set_option maxRecDepth 100000 in
/-- GlacierMailModel.isWaiting -/
noncomputable def p2_s961 : ck_Sum := ((8, 0, 0), 245, [.inr (.inr (.inl 226)), .inl (ck_one 12)], ([], [], zl83), (zl81, []), [(.inr (some (.inl (ck_one 0))), 245, ([], [], [])), (.inr (some (.inl (ck_one 1))), 245, ([], [], [(226, 29, 29, (0, 299, [])), (227, 208, 208, ck_one (-1)), (227, 203, 203, (0, 7, []))]))])
set_option maxRecDepth 100000 in
theorem p2_s961_s {X : Int → Int} {LX : Nat} : ck_Ok p2_O X LX 302 p2_s961 := ck_ok_s (O := p2_O) (X := X) (LX := LX) (E := [(303, [p2_s959]), (301, [p2_s960]), (304, [p2_s381]), (266, [p2_s190])]) (mi := 302) (cuts := []) (f := 114) (S := p2_s961) (lx := none) (XF := []) ⟨p2_nmu, ck_E1 (ck_S1 p2_s959_s ck_S0) (ck_E1 (ck_S1 p2_s960_s ck_S0) (ck_E1 (ck_S1 p2_s381_s ck_S0) (ck_E1 (ck_S1 p2_s190_s ck_S0) ck_E0)))⟩ ck_X0 ck_l0 (by decide +kernel)
set_option maxRecDepth 100000 in
/-- GlacierMailModel.ofLetter -/
noncomputable def p2_s962 : ck_Sum := ((0, 0, 0), 245, [.inr (.inr (.inl 226)), .inl (ck_one 12), .inl (ck_one 1)], ([], [], []), ([], []), [(.inr (some (.inl (ck_one (-1)))), 245, ([], [], [(227, 204, 204, ck_one (-1))])), (.inr (some (.inl (0, 7, []))), 245, ([], [], [(227, 204, 204, (0, 7, []))]))])
set_option maxRecDepth 100000 in
theorem p2_s962_s {X : Int → Int} {LX : Nat} : ck_Ok p2_O X LX 301 p2_s962 := ck_ok_s (O := p2_O) (X := X) (LX := LX) (E := []) (mi := 301) (cuts := []) (f := 92) (S := p2_s962) (lx := none) (XF := []) ⟨p2_nmu, ck_E0⟩ ck_X0 ck_l0 (by decide +kernel)
set_option maxRecDepth 100000 in
/-- GlacierMailModel.ofLetter -/
noncomputable def p2_s963 : ck_Sum := ((0, 0, 0), 245, [.inr (.inr (.inl 226)), .inl (ck_one 12), .inl (ck_one 3)], ([], [], []), ([], []), [(.inr (some (.inl (0, 299, []))), 245, ([], [], []))])
set_option maxRecDepth 100000 in
theorem p2_s963_s {X : Int → Int} {LX : Nat} : ck_Ok p2_O X LX 301 p2_s963 := ck_ok_s (O := p2_O) (X := X) (LX := LX) (E := []) (mi := 301) (cuts := []) (f := 92) (S := p2_s963) (lx := none) (XF := []) ⟨p2_nmu, ck_E0⟩ ck_X0 ck_l0 (by decide +kernel)
/-- GlacierMailModel.opens -/
noncomputable def p2_s964 : ck_Sum := op_os0 12 (.inl (ck_one (-1))) 0 7 (-1) (-1)
theorem p2_s964_s {X : Int → Int} {LX : Nat} : ck_Ok p2_O X LX 319 p2_s964 := op_none (by decide) (by decide) (by decide)
/-- GlacierMailModel.opens -/
noncomputable def p2_s965 : ck_Sum := op_os 12 0 7
theorem p2_s965_s {X : Int → Int} {LX : Nat} : ck_Ok p2_O X LX 319 p2_s965 := op_open (by decide) (by decide) (by decide +kernel)
set_option maxRecDepth 100000 in
/-- GlacierMailModel.open -/
noncomputable def p2_s966 : ck_Sum := ((9, 0, 0), 245, [.inr (.inr (.inl 226)), .inl (ck_one 12)], ([], [], zl176), ([(226, 0, 0), (226, 6, 6), (226, 17, 23), (226, 26, 26), (226, 29, 30), (227, 14, 14), (227, 208, 209), (227, 323, 394), (230, 0, 4739), (233, 0, 399), (235, 0, 29699), (236, 0, 299), (237, 0, 299)], []), [(.inr (some (.inl (ck_one 0))), 245, ([], [], zl177)), (.inr (some (.inl ((-299), 299, []))), 245, ([], [], [(227, 208, 208, (0, 7, [])), (227, 204, 204, (0, 7, [])), (226, 6, 6, (1, 12, [(1000027, 0)])), (226, 29, 29, (0, 299, [])), (227, 203, 203, (0, 7, [])), (226, 0, 0, ck_one 0)]))])
set_option maxRecDepth 100000 in
theorem p2_s966_s {X : Int → Int} {LX : Nat} : ck_Ok p2_O X LX 318 p2_s966 := ck_ok_s (O := p2_O) (X := X) (LX := LX) (E := [(309, [p2_s957]), (282, [p2_s241, p2_s242, p2_s244, p2_s243]), (302, [p2_s961]), (316, [p2_s553]), (301, [p2_s962, p2_s963]), (319, [p2_s964, p2_s965]), (266, [p2_s190])]) (mi := 318) (cuts := []) (f := 142) (S := p2_s966) (lx := none) (XF := []) ⟨p2_nmu, ck_E1 (ck_S1 p2_s957_s ck_S0) (ck_E1 (ck_S1 p2_s241_s (ck_S1 p2_s242_s (ck_S1 p2_s244_s (ck_S1 p2_s243_s ck_S0)))) (ck_E1 (ck_S1 p2_s961_s ck_S0) (ck_E1 (ck_S1 p2_s553_s ck_S0) (ck_E1 (ck_S1 p2_s962_s (ck_S1 p2_s963_s ck_S0)) (ck_E1 (ck_S1 p2_s964_s (ck_S1 p2_s965_s ck_S0)) (ck_E1 (ck_S1 p2_s190_s ck_S0) ck_E0))))))⟩ ck_X0 ck_l0 (by decide +kernel)
set_option maxRecDepth 100000 in
/-- GlacierMailModel.in -/
noncomputable def p2_s967 : ck_Sum := ((0, 0, 0), 245, [.inl (ck_one 13), .inl (ck_one 0), .inl ((-1), 23, [])], ([], [], []), ([], []), [(.inr (some (.inl (ck_one 0))), 245, ([], [], [])), (.inr (some (.inl (ck_one 1))), 245, ([], [], []))])
set_option maxRecDepth 100000 in
theorem p2_s967_s {X : Int → Int} {LX : Nat} : ck_Ok p2_O X LX 286 p2_s967 := ck_ok_s (O := p2_O) (X := X) (LX := LX) (E := []) (mi := 286) (cuts := []) (f := 88) (S := p2_s967) (lx := none) (XF := []) ⟨p2_nmu, ck_E0⟩ ck_X0 ck_l0 (by decide +kernel)
set_option maxRecDepth 100000 in
/-- GlacierMailModel.noLetter -/
noncomputable def p2_s968 : ck_Sum := ((1, 0, 0), 245, [.inr (.inr (.inl 226)), .inl (ck_one 13)], ([], [], [(227, 4, 4, (0, 24, [(22, 0)]))]), ([], []), [(.inr (some (.inl (ck_one 1))), 245, ([], [], [])), (.inr (some (.inl (ck_one 0))), 245, ([], [], []))])
set_option maxRecDepth 100000 in
theorem p2_s968_s {X : Int → Int} {LX : Nat} : ck_Ok p2_O X LX 309 p2_s968 := ck_ok_s (O := p2_O) (X := X) (LX := LX) (E := [(254, [p2_s176]), (286, [p2_s967])]) (mi := 309) (cuts := []) (f := 92) (S := p2_s968) (lx := none) (XF := []) ⟨p2_nmu, ck_E1 (ck_S1 p2_s176_s ck_S0) (ck_E1 (ck_S1 p2_s967_s ck_S0) ck_E0)⟩ ck_X0 ck_l0 (by decide +kernel)
set_option maxRecDepth 100000 in
/-- GlacierMailModel.ofLetter -/
noncomputable def p2_s969 : ck_Sum := ((0, 0, 0), 245, [.inr (.inr (.inl 226)), .inl (ck_one 13), .inl (ck_one 0)], ([], [], []), ([], []), [(.inr (some (.inl (ck_one (-1)))), 245, ([], [], [(227, 210, 210, ck_one (-1))])), (.inr (some (.inl (0, 7, []))), 245, ([], [], [(227, 210, 210, (0, 7, []))]))])
set_option maxRecDepth 100000 in
theorem p2_s969_s {X : Int → Int} {LX : Nat} : ck_Ok p2_O X LX 301 p2_s969 := ck_ok_s (O := p2_O) (X := X) (LX := LX) (E := []) (mi := 301) (cuts := []) (f := 92) (S := p2_s969) (lx := none) (XF := []) ⟨p2_nmu, ck_E0⟩ ck_X0 ck_l0 (by decide +kernel)
set_option maxRecDepth 100000 in
/-- GlacierMailModel.isRock -/
noncomputable def p2_s970 : ck_Sum := ((1, 0, 0), 245, [.inr (.inr (.inl 226)), .inl (ck_one 13)], ([], [], []), ([], []), [(.inr (some (.inl (ck_one 1))), 245, ([], [], [(227, 210, 210, ck_one (-1))])), (.inr (some (.inl (ck_one 0))), 245, ([], [], [(227, 210, 210, (0, 7, []))]))])
set_option maxRecDepth 100000 in
theorem p2_s970_s {X : Int → Int} {LX : Nat} : ck_Ok p2_O X LX 303 p2_s970 := ck_ok_s (O := p2_O) (X := X) (LX := LX) (E := [(301, [p2_s969])]) (mi := 303) (cuts := []) (f := 86) (S := p2_s970) (lx := none) (XF := []) ⟨p2_nmu, ck_E1 (ck_S1 p2_s969_s ck_S0) ck_E0⟩ ck_X0 ck_l0 (by decide +kernel)
set_option maxRecDepth 100000 in
/-- GlacierMailModel.ofLetter -/
noncomputable def p2_s971 : ck_Sum := ((0, 0, 0), 245, [.inr (.inr (.inl 226)), .inl (ck_one 13), .inl (ck_one 5)], ([], [], []), ([], []), [(.inr (some (.inl (ck_one (-1)))), 245, ([], [], [(227, 215, 215, ck_one (-1))])), (.inr (some (.inl (0, 7, []))), 245, ([], [], [(227, 215, 215, (0, 7, []))]))])
set_option maxRecDepth 100000 in
theorem p2_s971_s {X : Int → Int} {LX : Nat} : ck_Ok p2_O X LX 301 p2_s971 := ck_ok_s (O := p2_O) (X := X) (LX := LX) (E := []) (mi := 301) (cuts := []) (f := 92) (S := p2_s971) (lx := none) (XF := []) ⟨p2_nmu, ck_E0⟩ ck_X0 ck_l0 (by decide +kernel)
set_option maxRecDepth 100000 in
/-- GlacierMailModel.isWaiting -/
noncomputable def p2_s972 : ck_Sum := ((8, 0, 0), 245, [.inr (.inr (.inl 226)), .inl (ck_one 13)], ([], [], zl83), (zl81, []), [(.inr (some (.inl (ck_one 0))), 245, ([], [], [])), (.inr (some (.inl (ck_one 1))), 245, ([], [], [(226, 29, 29, (0, 299, [])), (227, 215, 215, ck_one (-1)), (227, 210, 210, (0, 7, []))]))])
set_option maxRecDepth 100000 in
theorem p2_s972_s {X : Int → Int} {LX : Nat} : ck_Ok p2_O X LX 302 p2_s972 := ck_ok_s (O := p2_O) (X := X) (LX := LX) (E := [(303, [p2_s970]), (301, [p2_s971]), (304, [p2_s381]), (266, [p2_s190])]) (mi := 302) (cuts := []) (f := 114) (S := p2_s972) (lx := none) (XF := []) ⟨p2_nmu, ck_E1 (ck_S1 p2_s970_s ck_S0) (ck_E1 (ck_S1 p2_s971_s ck_S0) (ck_E1 (ck_S1 p2_s381_s ck_S0) (ck_E1 (ck_S1 p2_s190_s ck_S0) ck_E0)))⟩ ck_X0 ck_l0 (by decide +kernel)
set_option maxRecDepth 100000 in
/-- GlacierMailModel.ofLetter -/
noncomputable def p2_s973 : ck_Sum := ((0, 0, 0), 245, [.inr (.inr (.inl 226)), .inl (ck_one 13), .inl (ck_one 1)], ([], [], []), ([], []), [(.inr (some (.inl (ck_one (-1)))), 245, ([], [], [(227, 211, 211, ck_one (-1))])), (.inr (some (.inl (0, 7, []))), 245, ([], [], [(227, 211, 211, (0, 7, []))]))])
set_option maxRecDepth 100000 in
theorem p2_s973_s {X : Int → Int} {LX : Nat} : ck_Ok p2_O X LX 301 p2_s973 := ck_ok_s (O := p2_O) (X := X) (LX := LX) (E := []) (mi := 301) (cuts := []) (f := 92) (S := p2_s973) (lx := none) (XF := []) ⟨p2_nmu, ck_E0⟩ ck_X0 ck_l0 (by decide +kernel)
set_option maxRecDepth 100000 in
/-- GlacierMailModel.ofLetter -/
noncomputable def p2_s974 : ck_Sum := ((0, 0, 0), 245, [.inr (.inr (.inl 226)), .inl (ck_one 13), .inl (ck_one 3)], ([], [], []), ([], []), [(.inr (some (.inl (0, 299, []))), 245, ([], [], []))])
set_option maxRecDepth 100000 in
theorem p2_s974_s {X : Int → Int} {LX : Nat} : ck_Ok p2_O X LX 301 p2_s974 := ck_ok_s (O := p2_O) (X := X) (LX := LX) (E := []) (mi := 301) (cuts := []) (f := 92) (S := p2_s974) (lx := none) (XF := []) ⟨p2_nmu, ck_E0⟩ ck_X0 ck_l0 (by decide +kernel)
/-- GlacierMailModel.opens -/
noncomputable def p2_s975 : ck_Sum := op_os0 13 (.inl (ck_one (-1))) 0 7 (-1) (-1)
theorem p2_s975_s {X : Int → Int} {LX : Nat} : ck_Ok p2_O X LX 319 p2_s975 := op_none (by decide) (by decide) (by decide)
/-- GlacierMailModel.opens -/
noncomputable def p2_s976 : ck_Sum := op_os 13 0 7
theorem p2_s976_s {X : Int → Int} {LX : Nat} : ck_Ok p2_O X LX 319 p2_s976 := op_open (by decide) (by decide) (by decide +kernel)
set_option maxRecDepth 100000 in
/-- GlacierMailModel.open -/
noncomputable def p2_s977 : ck_Sum := ((9, 0, 0), 245, [.inr (.inr (.inl 226)), .inl (ck_one 13)], ([], [], zl176), ([(226, 0, 0), (226, 6, 6), (226, 17, 23), (226, 26, 26), (226, 29, 30), (227, 14, 14), (227, 215, 216), (227, 323, 394), (230, 0, 4739), (233, 0, 399), (235, 0, 29699), (236, 0, 299), (237, 0, 299)], []), [(.inr (some (.inl (ck_one 0))), 245, ([], [], zl177)), (.inr (some (.inl ((-299), 299, []))), 245, ([], [], [(227, 215, 215, (0, 7, [])), (227, 211, 211, (0, 7, [])), (226, 6, 6, (1, 12, [(1000027, 0)])), (226, 29, 29, (0, 299, [])), (227, 210, 210, (0, 7, [])), (226, 0, 0, ck_one 0)]))])
set_option maxRecDepth 100000 in
theorem p2_s977_s {X : Int → Int} {LX : Nat} : ck_Ok p2_O X LX 318 p2_s977 := ck_ok_s (O := p2_O) (X := X) (LX := LX) (E := [(309, [p2_s968]), (282, [p2_s241, p2_s242, p2_s244, p2_s243]), (302, [p2_s972]), (316, [p2_s553]), (301, [p2_s973, p2_s974]), (319, [p2_s975, p2_s976]), (266, [p2_s190])]) (mi := 318) (cuts := []) (f := 142) (S := p2_s977) (lx := none) (XF := []) ⟨p2_nmu, ck_E1 (ck_S1 p2_s968_s ck_S0) (ck_E1 (ck_S1 p2_s241_s (ck_S1 p2_s242_s (ck_S1 p2_s244_s (ck_S1 p2_s243_s ck_S0)))) (ck_E1 (ck_S1 p2_s972_s ck_S0) (ck_E1 (ck_S1 p2_s553_s ck_S0) (ck_E1 (ck_S1 p2_s973_s (ck_S1 p2_s974_s ck_S0)) (ck_E1 (ck_S1 p2_s975_s (ck_S1 p2_s976_s ck_S0)) (ck_E1 (ck_S1 p2_s190_s ck_S0) ck_E0))))))⟩ ck_X0 ck_l0 (by decide +kernel)
set_option maxRecDepth 100000 in
/-- GlacierMailModel.in -/
noncomputable def p2_s978 : ck_Sum := ((0, 0, 0), 245, [.inl (ck_one 14), .inl (ck_one 0), .inl ((-1), 23, [])], ([], [], []), ([], []), [(.inr (some (.inl (ck_one 0))), 245, ([], [], [])), (.inr (some (.inl (ck_one 1))), 245, ([], [], []))])
set_option maxRecDepth 100000 in
theorem p2_s978_s {X : Int → Int} {LX : Nat} : ck_Ok p2_O X LX 286 p2_s978 := ck_ok_s (O := p2_O) (X := X) (LX := LX) (E := []) (mi := 286) (cuts := []) (f := 88) (S := p2_s978) (lx := none) (XF := []) ⟨p2_nmu, ck_E0⟩ ck_X0 ck_l0 (by decide +kernel)
set_option maxRecDepth 100000 in
/-- GlacierMailModel.noLetter -/
noncomputable def p2_s979 : ck_Sum := ((1, 0, 0), 245, [.inr (.inr (.inl 226)), .inl (ck_one 14)], ([], [], [(227, 4, 4, (0, 24, [(22, 0)]))]), ([], []), [(.inr (some (.inl (ck_one 1))), 245, ([], [], [])), (.inr (some (.inl (ck_one 0))), 245, ([], [], []))])
set_option maxRecDepth 100000 in
theorem p2_s979_s {X : Int → Int} {LX : Nat} : ck_Ok p2_O X LX 309 p2_s979 := ck_ok_s (O := p2_O) (X := X) (LX := LX) (E := [(254, [p2_s176]), (286, [p2_s978])]) (mi := 309) (cuts := []) (f := 92) (S := p2_s979) (lx := none) (XF := []) ⟨p2_nmu, ck_E1 (ck_S1 p2_s176_s ck_S0) (ck_E1 (ck_S1 p2_s978_s ck_S0) ck_E0)⟩ ck_X0 ck_l0 (by decide +kernel)
set_option maxRecDepth 100000 in
/-- GlacierMailModel.ofLetter -/
noncomputable def p2_s980 : ck_Sum := ((0, 0, 0), 245, [.inr (.inr (.inl 226)), .inl (ck_one 14), .inl (ck_one 0)], ([], [], []), ([], []), [(.inr (some (.inl (ck_one (-1)))), 245, ([], [], [(227, 217, 217, ck_one (-1))])), (.inr (some (.inl (0, 7, []))), 245, ([], [], [(227, 217, 217, (0, 7, []))]))])
set_option maxRecDepth 100000 in
theorem p2_s980_s {X : Int → Int} {LX : Nat} : ck_Ok p2_O X LX 301 p2_s980 := ck_ok_s (O := p2_O) (X := X) (LX := LX) (E := []) (mi := 301) (cuts := []) (f := 92) (S := p2_s980) (lx := none) (XF := []) ⟨p2_nmu, ck_E0⟩ ck_X0 ck_l0 (by decide +kernel)
set_option maxRecDepth 100000 in
/-- GlacierMailModel.isRock -/
noncomputable def p2_s981 : ck_Sum := ((1, 0, 0), 245, [.inr (.inr (.inl 226)), .inl (ck_one 14)], ([], [], []), ([], []), [(.inr (some (.inl (ck_one 1))), 245, ([], [], [(227, 217, 217, ck_one (-1))])), (.inr (some (.inl (ck_one 0))), 245, ([], [], [(227, 217, 217, (0, 7, []))]))])
set_option maxRecDepth 100000 in
theorem p2_s981_s {X : Int → Int} {LX : Nat} : ck_Ok p2_O X LX 303 p2_s981 := ck_ok_s (O := p2_O) (X := X) (LX := LX) (E := [(301, [p2_s980])]) (mi := 303) (cuts := []) (f := 86) (S := p2_s981) (lx := none) (XF := []) ⟨p2_nmu, ck_E1 (ck_S1 p2_s980_s ck_S0) ck_E0⟩ ck_X0 ck_l0 (by decide +kernel)
set_option maxRecDepth 100000 in
/-- GlacierMailModel.ofLetter -/
noncomputable def p2_s982 : ck_Sum := ((0, 0, 0), 245, [.inr (.inr (.inl 226)), .inl (ck_one 14), .inl (ck_one 5)], ([], [], []), ([], []), [(.inr (some (.inl (ck_one (-1)))), 245, ([], [], [(227, 222, 222, ck_one (-1))])), (.inr (some (.inl (0, 7, []))), 245, ([], [], [(227, 222, 222, (0, 7, []))]))])
set_option maxRecDepth 100000 in
theorem p2_s982_s {X : Int → Int} {LX : Nat} : ck_Ok p2_O X LX 301 p2_s982 := ck_ok_s (O := p2_O) (X := X) (LX := LX) (E := []) (mi := 301) (cuts := []) (f := 92) (S := p2_s982) (lx := none) (XF := []) ⟨p2_nmu, ck_E0⟩ ck_X0 ck_l0 (by decide +kernel)
set_option maxRecDepth 100000 in
/-- GlacierMailModel.isWaiting -/
noncomputable def p2_s983 : ck_Sum := ((8, 0, 0), 245, [.inr (.inr (.inl 226)), .inl (ck_one 14)], ([], [], zl83), (zl81, []), [(.inr (some (.inl (ck_one 0))), 245, ([], [], [])), (.inr (some (.inl (ck_one 1))), 245, ([], [], [(226, 29, 29, (0, 299, [])), (227, 222, 222, ck_one (-1)), (227, 217, 217, (0, 7, []))]))])
set_option maxRecDepth 100000 in
theorem p2_s983_s {X : Int → Int} {LX : Nat} : ck_Ok p2_O X LX 302 p2_s983 := ck_ok_s (O := p2_O) (X := X) (LX := LX) (E := [(303, [p2_s981]), (301, [p2_s982]), (304, [p2_s381]), (266, [p2_s190])]) (mi := 302) (cuts := []) (f := 114) (S := p2_s983) (lx := none) (XF := []) ⟨p2_nmu, ck_E1 (ck_S1 p2_s981_s ck_S0) (ck_E1 (ck_S1 p2_s982_s ck_S0) (ck_E1 (ck_S1 p2_s381_s ck_S0) (ck_E1 (ck_S1 p2_s190_s ck_S0) ck_E0)))⟩ ck_X0 ck_l0 (by decide +kernel)
set_option maxRecDepth 100000 in
/-- GlacierMailModel.ofLetter -/
noncomputable def p2_s984 : ck_Sum := ((0, 0, 0), 245, [.inr (.inr (.inl 226)), .inl (ck_one 14), .inl (ck_one 1)], ([], [], []), ([], []), [(.inr (some (.inl (ck_one (-1)))), 245, ([], [], [(227, 218, 218, ck_one (-1))])), (.inr (some (.inl (0, 7, []))), 245, ([], [], [(227, 218, 218, (0, 7, []))]))])
set_option maxRecDepth 100000 in
theorem p2_s984_s {X : Int → Int} {LX : Nat} : ck_Ok p2_O X LX 301 p2_s984 := ck_ok_s (O := p2_O) (X := X) (LX := LX) (E := []) (mi := 301) (cuts := []) (f := 92) (S := p2_s984) (lx := none) (XF := []) ⟨p2_nmu, ck_E0⟩ ck_X0 ck_l0 (by decide +kernel)
set_option maxRecDepth 100000 in
/-- GlacierMailModel.ofLetter -/
noncomputable def p2_s985 : ck_Sum := ((0, 0, 0), 245, [.inr (.inr (.inl 226)), .inl (ck_one 14), .inl (ck_one 3)], ([], [], []), ([], []), [(.inr (some (.inl (0, 299, []))), 245, ([], [], []))])
set_option maxRecDepth 100000 in
theorem p2_s985_s {X : Int → Int} {LX : Nat} : ck_Ok p2_O X LX 301 p2_s985 := ck_ok_s (O := p2_O) (X := X) (LX := LX) (E := []) (mi := 301) (cuts := []) (f := 92) (S := p2_s985) (lx := none) (XF := []) ⟨p2_nmu, ck_E0⟩ ck_X0 ck_l0 (by decide +kernel)
/-- GlacierMailModel.opens -/
noncomputable def p2_s986 : ck_Sum := op_os0 14 (.inl (ck_one (-1))) 0 7 (-1) (-1)
theorem p2_s986_s {X : Int → Int} {LX : Nat} : ck_Ok p2_O X LX 319 p2_s986 := op_none (by decide) (by decide) (by decide)
/-- GlacierMailModel.opens -/
noncomputable def p2_s987 : ck_Sum := op_os 14 0 7
theorem p2_s987_s {X : Int → Int} {LX : Nat} : ck_Ok p2_O X LX 319 p2_s987 := op_open (by decide) (by decide) (by decide +kernel)
set_option maxRecDepth 100000 in
/-- GlacierMailModel.open -/
noncomputable def p2_s988 : ck_Sum := ((9, 0, 0), 245, [.inr (.inr (.inl 226)), .inl (ck_one 14)], ([], [], zl176), ([(226, 0, 0), (226, 6, 6), (226, 17, 23), (226, 26, 26), (226, 29, 30), (227, 14, 14), (227, 222, 223), (227, 323, 394), (230, 0, 4739), (233, 0, 399), (235, 0, 29699), (236, 0, 299), (237, 0, 299)], []), [(.inr (some (.inl (ck_one 0))), 245, ([], [], zl177)), (.inr (some (.inl ((-299), 299, []))), 245, ([], [], [(227, 222, 222, (0, 7, [])), (227, 218, 218, (0, 7, [])), (226, 6, 6, (1, 12, [(1000027, 0)])), (226, 29, 29, (0, 299, [])), (227, 217, 217, (0, 7, [])), (226, 0, 0, ck_one 0)]))])
set_option maxRecDepth 100000 in
theorem p2_s988_s {X : Int → Int} {LX : Nat} : ck_Ok p2_O X LX 318 p2_s988 := ck_ok_s (O := p2_O) (X := X) (LX := LX) (E := [(309, [p2_s979]), (282, [p2_s241, p2_s242, p2_s244, p2_s243]), (302, [p2_s983]), (316, [p2_s553]), (301, [p2_s984, p2_s985]), (319, [p2_s986, p2_s987]), (266, [p2_s190])]) (mi := 318) (cuts := []) (f := 142) (S := p2_s988) (lx := none) (XF := []) ⟨p2_nmu, ck_E1 (ck_S1 p2_s979_s ck_S0) (ck_E1 (ck_S1 p2_s241_s (ck_S1 p2_s242_s (ck_S1 p2_s244_s (ck_S1 p2_s243_s ck_S0)))) (ck_E1 (ck_S1 p2_s983_s ck_S0) (ck_E1 (ck_S1 p2_s553_s ck_S0) (ck_E1 (ck_S1 p2_s984_s (ck_S1 p2_s985_s ck_S0)) (ck_E1 (ck_S1 p2_s986_s (ck_S1 p2_s987_s ck_S0)) (ck_E1 (ck_S1 p2_s190_s ck_S0) ck_E0))))))⟩ ck_X0 ck_l0 (by decide +kernel)
set_option maxRecDepth 100000 in
/-- GlacierMailModel.in -/
noncomputable def p2_s989 : ck_Sum := ((0, 0, 0), 245, [.inl (ck_one 15), .inl (ck_one 0), .inl ((-1), 23, [])], ([], [], []), ([], []), [(.inr (some (.inl (ck_one 0))), 245, ([], [], [])), (.inr (some (.inl (ck_one 1))), 245, ([], [], []))])
set_option maxRecDepth 100000 in
theorem p2_s989_s {X : Int → Int} {LX : Nat} : ck_Ok p2_O X LX 286 p2_s989 := ck_ok_s (O := p2_O) (X := X) (LX := LX) (E := []) (mi := 286) (cuts := []) (f := 88) (S := p2_s989) (lx := none) (XF := []) ⟨p2_nmu, ck_E0⟩ ck_X0 ck_l0 (by decide +kernel)
set_option maxRecDepth 100000 in
/-- GlacierMailModel.noLetter -/
noncomputable def p2_s990 : ck_Sum := ((1, 0, 0), 245, [.inr (.inr (.inl 226)), .inl (ck_one 15)], ([], [], [(227, 4, 4, (0, 24, [(22, 0)]))]), ([], []), [(.inr (some (.inl (ck_one 1))), 245, ([], [], [])), (.inr (some (.inl (ck_one 0))), 245, ([], [], []))])
set_option maxRecDepth 100000 in
theorem p2_s990_s {X : Int → Int} {LX : Nat} : ck_Ok p2_O X LX 309 p2_s990 := ck_ok_s (O := p2_O) (X := X) (LX := LX) (E := [(254, [p2_s176]), (286, [p2_s989])]) (mi := 309) (cuts := []) (f := 92) (S := p2_s990) (lx := none) (XF := []) ⟨p2_nmu, ck_E1 (ck_S1 p2_s176_s ck_S0) (ck_E1 (ck_S1 p2_s989_s ck_S0) ck_E0)⟩ ck_X0 ck_l0 (by decide +kernel)
end
/-! 78r80a11.sf -/
section
/-! EVERY CALL ENDS, whatever was done before (laid by wip/am/p2k.py). -/
set_option maxRecDepth 100000 in
/-- GlacierMailModel.ofLetter -/
noncomputable def p2_s991 : ck_Sum := ((0, 0, 0), 245, [.inr (.inr (.inl 226)), .inl (ck_one 15), .inl (ck_one 0)], ([], [], []), ([], []), [(.inr (some (.inl (ck_one (-1)))), 245, ([], [], [(227, 224, 224, ck_one (-1))])), (.inr (some (.inl (0, 7, []))), 245, ([], [], [(227, 224, 224, (0, 7, []))]))])
set_option maxRecDepth 100000 in
theorem p2_s991_s {X : Int → Int} {LX : Nat} : ck_Ok p2_O X LX 301 p2_s991 := ck_ok_s (O := p2_O) (X := X) (LX := LX) (E := []) (mi := 301) (cuts := []) (f := 92) (S := p2_s991) (lx := none) (XF := []) ⟨p2_nmu, ck_E0⟩ ck_X0 ck_l0 (by decide +kernel)
set_option maxRecDepth 100000 in
/-- GlacierMailModel.isRock -/
noncomputable def p2_s992 : ck_Sum := ((1, 0, 0), 245, [.inr (.inr (.inl 226)), .inl (ck_one 15)], ([], [], []), ([], []), [(.inr (some (.inl (ck_one 1))), 245, ([], [], [(227, 224, 224, ck_one (-1))])), (.inr (some (.inl (ck_one 0))), 245, ([], [], [(227, 224, 224, (0, 7, []))]))])
set_option maxRecDepth 100000 in
theorem p2_s992_s {X : Int → Int} {LX : Nat} : ck_Ok p2_O X LX 303 p2_s992 := ck_ok_s (O := p2_O) (X := X) (LX := LX) (E := [(301, [p2_s991])]) (mi := 303) (cuts := []) (f := 86) (S := p2_s992) (lx := none) (XF := []) ⟨p2_nmu, ck_E1 (ck_S1 p2_s991_s ck_S0) ck_E0⟩ ck_X0 ck_l0 (by decide +kernel)
set_option maxRecDepth 100000 in
/-- GlacierMailModel.ofLetter -/
noncomputable def p2_s993 : ck_Sum := ((0, 0, 0), 245, [.inr (.inr (.inl 226)), .inl (ck_one 15), .inl (ck_one 5)], ([], [], []), ([], []), [(.inr (some (.inl (ck_one (-1)))), 245, ([], [], [(227, 229, 229, ck_one (-1))])), (.inr (some (.inl (0, 7, []))), 245, ([], [], [(227, 229, 229, (0, 7, []))]))])
set_option maxRecDepth 100000 in
theorem p2_s993_s {X : Int → Int} {LX : Nat} : ck_Ok p2_O X LX 301 p2_s993 := ck_ok_s (O := p2_O) (X := X) (LX := LX) (E := []) (mi := 301) (cuts := []) (f := 92) (S := p2_s993) (lx := none) (XF := []) ⟨p2_nmu, ck_E0⟩ ck_X0 ck_l0 (by decide +kernel)
set_option maxRecDepth 100000 in
/-- GlacierMailModel.isWaiting -/
noncomputable def p2_s994 : ck_Sum := ((8, 0, 0), 245, [.inr (.inr (.inl 226)), .inl (ck_one 15)], ([], [], zl83), (zl81, []), [(.inr (some (.inl (ck_one 0))), 245, ([], [], [])), (.inr (some (.inl (ck_one 1))), 245, ([], [], [(226, 29, 29, (0, 299, [])), (227, 229, 229, ck_one (-1)), (227, 224, 224, (0, 7, []))]))])
set_option maxRecDepth 100000 in
theorem p2_s994_s {X : Int → Int} {LX : Nat} : ck_Ok p2_O X LX 302 p2_s994 := ck_ok_s (O := p2_O) (X := X) (LX := LX) (E := [(303, [p2_s992]), (301, [p2_s993]), (304, [p2_s381]), (266, [p2_s190])]) (mi := 302) (cuts := []) (f := 114) (S := p2_s994) (lx := none) (XF := []) ⟨p2_nmu, ck_E1 (ck_S1 p2_s992_s ck_S0) (ck_E1 (ck_S1 p2_s993_s ck_S0) (ck_E1 (ck_S1 p2_s381_s ck_S0) (ck_E1 (ck_S1 p2_s190_s ck_S0) ck_E0)))⟩ ck_X0 ck_l0 (by decide +kernel)
set_option maxRecDepth 100000 in
/-- GlacierMailModel.ofLetter -/
noncomputable def p2_s995 : ck_Sum := ((0, 0, 0), 245, [.inr (.inr (.inl 226)), .inl (ck_one 15), .inl (ck_one 1)], ([], [], []), ([], []), [(.inr (some (.inl (ck_one (-1)))), 245, ([], [], [(227, 225, 225, ck_one (-1))])), (.inr (some (.inl (0, 7, []))), 245, ([], [], [(227, 225, 225, (0, 7, []))]))])
set_option maxRecDepth 100000 in
theorem p2_s995_s {X : Int → Int} {LX : Nat} : ck_Ok p2_O X LX 301 p2_s995 := ck_ok_s (O := p2_O) (X := X) (LX := LX) (E := []) (mi := 301) (cuts := []) (f := 92) (S := p2_s995) (lx := none) (XF := []) ⟨p2_nmu, ck_E0⟩ ck_X0 ck_l0 (by decide +kernel)
set_option maxRecDepth 100000 in
/-- GlacierMailModel.ofLetter -/
noncomputable def p2_s996 : ck_Sum := ((0, 0, 0), 245, [.inr (.inr (.inl 226)), .inl (ck_one 15), .inl (ck_one 3)], ([], [], []), ([], []), [(.inr (some (.inl (0, 299, []))), 245, ([], [], []))])
set_option maxRecDepth 100000 in
theorem p2_s996_s {X : Int → Int} {LX : Nat} : ck_Ok p2_O X LX 301 p2_s996 := ck_ok_s (O := p2_O) (X := X) (LX := LX) (E := []) (mi := 301) (cuts := []) (f := 92) (S := p2_s996) (lx := none) (XF := []) ⟨p2_nmu, ck_E0⟩ ck_X0 ck_l0 (by decide +kernel)
/-- GlacierMailModel.opens -/
noncomputable def p2_s997 : ck_Sum := op_os0 15 (.inl (ck_one (-1))) 0 7 (-1) (-1)
theorem p2_s997_s {X : Int → Int} {LX : Nat} : ck_Ok p2_O X LX 319 p2_s997 := op_none (by decide) (by decide) (by decide)
/-- GlacierMailModel.opens -/
noncomputable def p2_s998 : ck_Sum := op_os 15 0 7
theorem p2_s998_s {X : Int → Int} {LX : Nat} : ck_Ok p2_O X LX 319 p2_s998 := op_open (by decide) (by decide) (by decide +kernel)
set_option maxRecDepth 100000 in
/-- GlacierMailModel.open -/
noncomputable def p2_s999 : ck_Sum := ((9, 0, 0), 245, [.inr (.inr (.inl 226)), .inl (ck_one 15)], ([], [], zl176), ([(226, 0, 0), (226, 6, 6), (226, 17, 23), (226, 26, 26), (226, 29, 30), (227, 14, 14), (227, 229, 230), (227, 323, 394), (230, 0, 4739), (233, 0, 399), (235, 0, 29699), (236, 0, 299), (237, 0, 299)], []), [(.inr (some (.inl (ck_one 0))), 245, ([], [], zl177)), (.inr (some (.inl ((-299), 299, []))), 245, ([], [], [(227, 229, 229, (0, 7, [])), (227, 225, 225, (0, 7, [])), (226, 6, 6, (1, 12, [(1000027, 0)])), (226, 29, 29, (0, 299, [])), (227, 224, 224, (0, 7, [])), (226, 0, 0, ck_one 0)]))])
set_option maxRecDepth 100000 in
theorem p2_s999_s {X : Int → Int} {LX : Nat} : ck_Ok p2_O X LX 318 p2_s999 := ck_ok_s (O := p2_O) (X := X) (LX := LX) (E := [(309, [p2_s990]), (282, [p2_s241, p2_s242, p2_s244, p2_s243]), (302, [p2_s994]), (316, [p2_s553]), (301, [p2_s995, p2_s996]), (319, [p2_s997, p2_s998]), (266, [p2_s190])]) (mi := 318) (cuts := []) (f := 142) (S := p2_s999) (lx := none) (XF := []) ⟨p2_nmu, ck_E1 (ck_S1 p2_s990_s ck_S0) (ck_E1 (ck_S1 p2_s241_s (ck_S1 p2_s242_s (ck_S1 p2_s244_s (ck_S1 p2_s243_s ck_S0)))) (ck_E1 (ck_S1 p2_s994_s ck_S0) (ck_E1 (ck_S1 p2_s553_s ck_S0) (ck_E1 (ck_S1 p2_s995_s (ck_S1 p2_s996_s ck_S0)) (ck_E1 (ck_S1 p2_s997_s (ck_S1 p2_s998_s ck_S0)) (ck_E1 (ck_S1 p2_s190_s ck_S0) ck_E0))))))⟩ ck_X0 ck_l0 (by decide +kernel)
set_option maxRecDepth 100000 in
/-- GlacierMailModel.in -/
noncomputable def p2_s1000 : ck_Sum := ((0, 0, 0), 245, [.inl (ck_one 16), .inl (ck_one 0), .inl ((-1), 23, [])], ([], [], []), ([], []), [(.inr (some (.inl (ck_one 0))), 245, ([], [], [])), (.inr (some (.inl (ck_one 1))), 245, ([], [], []))])
set_option maxRecDepth 100000 in
theorem p2_s1000_s {X : Int → Int} {LX : Nat} : ck_Ok p2_O X LX 286 p2_s1000 := ck_ok_s (O := p2_O) (X := X) (LX := LX) (E := []) (mi := 286) (cuts := []) (f := 88) (S := p2_s1000) (lx := none) (XF := []) ⟨p2_nmu, ck_E0⟩ ck_X0 ck_l0 (by decide +kernel)
set_option maxRecDepth 100000 in
/-- GlacierMailModel.noLetter -/
noncomputable def p2_s1001 : ck_Sum := ((1, 0, 0), 245, [.inr (.inr (.inl 226)), .inl (ck_one 16)], ([], [], [(227, 4, 4, (0, 24, [(22, 0)]))]), ([], []), [(.inr (some (.inl (ck_one 1))), 245, ([], [], [])), (.inr (some (.inl (ck_one 0))), 245, ([], [], []))])
set_option maxRecDepth 100000 in
theorem p2_s1001_s {X : Int → Int} {LX : Nat} : ck_Ok p2_O X LX 309 p2_s1001 := ck_ok_s (O := p2_O) (X := X) (LX := LX) (E := [(254, [p2_s176]), (286, [p2_s1000])]) (mi := 309) (cuts := []) (f := 92) (S := p2_s1001) (lx := none) (XF := []) ⟨p2_nmu, ck_E1 (ck_S1 p2_s176_s ck_S0) (ck_E1 (ck_S1 p2_s1000_s ck_S0) ck_E0)⟩ ck_X0 ck_l0 (by decide +kernel)
set_option maxRecDepth 100000 in
/-- GlacierMailModel.ofLetter -/
noncomputable def p2_s1002 : ck_Sum := ((0, 0, 0), 245, [.inr (.inr (.inl 226)), .inl (ck_one 16), .inl (ck_one 0)], ([], [], []), ([], []), [(.inr (some (.inl (ck_one (-1)))), 245, ([], [], [(227, 231, 231, ck_one (-1))])), (.inr (some (.inl (0, 7, []))), 245, ([], [], [(227, 231, 231, (0, 7, []))]))])
set_option maxRecDepth 100000 in
theorem p2_s1002_s {X : Int → Int} {LX : Nat} : ck_Ok p2_O X LX 301 p2_s1002 := ck_ok_s (O := p2_O) (X := X) (LX := LX) (E := []) (mi := 301) (cuts := []) (f := 92) (S := p2_s1002) (lx := none) (XF := []) ⟨p2_nmu, ck_E0⟩ ck_X0 ck_l0 (by decide +kernel)
set_option maxRecDepth 100000 in
/-- GlacierMailModel.isRock -/
noncomputable def p2_s1003 : ck_Sum := ((1, 0, 0), 245, [.inr (.inr (.inl 226)), .inl (ck_one 16)], ([], [], []), ([], []), [(.inr (some (.inl (ck_one 1))), 245, ([], [], [(227, 231, 231, ck_one (-1))])), (.inr (some (.inl (ck_one 0))), 245, ([], [], [(227, 231, 231, (0, 7, []))]))])
set_option maxRecDepth 100000 in
theorem p2_s1003_s {X : Int → Int} {LX : Nat} : ck_Ok p2_O X LX 303 p2_s1003 := ck_ok_s (O := p2_O) (X := X) (LX := LX) (E := [(301, [p2_s1002])]) (mi := 303) (cuts := []) (f := 86) (S := p2_s1003) (lx := none) (XF := []) ⟨p2_nmu, ck_E1 (ck_S1 p2_s1002_s ck_S0) ck_E0⟩ ck_X0 ck_l0 (by decide +kernel)
set_option maxRecDepth 100000 in
/-- GlacierMailModel.ofLetter -/
noncomputable def p2_s1004 : ck_Sum := ((0, 0, 0), 245, [.inr (.inr (.inl 226)), .inl (ck_one 16), .inl (ck_one 5)], ([], [], []), ([], []), [(.inr (some (.inl (ck_one (-1)))), 245, ([], [], [(227, 236, 236, ck_one (-1))])), (.inr (some (.inl (0, 7, []))), 245, ([], [], [(227, 236, 236, (0, 7, []))]))])
set_option maxRecDepth 100000 in
theorem p2_s1004_s {X : Int → Int} {LX : Nat} : ck_Ok p2_O X LX 301 p2_s1004 := ck_ok_s (O := p2_O) (X := X) (LX := LX) (E := []) (mi := 301) (cuts := []) (f := 92) (S := p2_s1004) (lx := none) (XF := []) ⟨p2_nmu, ck_E0⟩ ck_X0 ck_l0 (by decide +kernel)
set_option maxRecDepth 100000 in
/-- GlacierMailModel.isWaiting -/
noncomputable def p2_s1005 : ck_Sum := ((8, 0, 0), 245, [.inr (.inr (.inl 226)), .inl (ck_one 16)], ([], [], zl83), (zl81, []), [(.inr (some (.inl (ck_one 0))), 245, ([], [], [])), (.inr (some (.inl (ck_one 1))), 245, ([], [], [(226, 29, 29, (0, 299, [])), (227, 236, 236, ck_one (-1)), (227, 231, 231, (0, 7, []))]))])
set_option maxRecDepth 100000 in
theorem p2_s1005_s {X : Int → Int} {LX : Nat} : ck_Ok p2_O X LX 302 p2_s1005 := ck_ok_s (O := p2_O) (X := X) (LX := LX) (E := [(303, [p2_s1003]), (301, [p2_s1004]), (304, [p2_s381]), (266, [p2_s190])]) (mi := 302) (cuts := []) (f := 114) (S := p2_s1005) (lx := none) (XF := []) ⟨p2_nmu, ck_E1 (ck_S1 p2_s1003_s ck_S0) (ck_E1 (ck_S1 p2_s1004_s ck_S0) (ck_E1 (ck_S1 p2_s381_s ck_S0) (ck_E1 (ck_S1 p2_s190_s ck_S0) ck_E0)))⟩ ck_X0 ck_l0 (by decide +kernel)
set_option maxRecDepth 100000 in
/-- GlacierMailModel.ofLetter -/
noncomputable def p2_s1006 : ck_Sum := ((0, 0, 0), 245, [.inr (.inr (.inl 226)), .inl (ck_one 16), .inl (ck_one 1)], ([], [], []), ([], []), [(.inr (some (.inl (ck_one (-1)))), 245, ([], [], [(227, 232, 232, ck_one (-1))])), (.inr (some (.inl (0, 7, []))), 245, ([], [], [(227, 232, 232, (0, 7, []))]))])
set_option maxRecDepth 100000 in
theorem p2_s1006_s {X : Int → Int} {LX : Nat} : ck_Ok p2_O X LX 301 p2_s1006 := ck_ok_s (O := p2_O) (X := X) (LX := LX) (E := []) (mi := 301) (cuts := []) (f := 92) (S := p2_s1006) (lx := none) (XF := []) ⟨p2_nmu, ck_E0⟩ ck_X0 ck_l0 (by decide +kernel)
set_option maxRecDepth 100000 in
/-- GlacierMailModel.ofLetter -/
noncomputable def p2_s1007 : ck_Sum := ((0, 0, 0), 245, [.inr (.inr (.inl 226)), .inl (ck_one 16), .inl (ck_one 3)], ([], [], []), ([], []), [(.inr (some (.inl (0, 299, []))), 245, ([], [], []))])
set_option maxRecDepth 100000 in
theorem p2_s1007_s {X : Int → Int} {LX : Nat} : ck_Ok p2_O X LX 301 p2_s1007 := ck_ok_s (O := p2_O) (X := X) (LX := LX) (E := []) (mi := 301) (cuts := []) (f := 92) (S := p2_s1007) (lx := none) (XF := []) ⟨p2_nmu, ck_E0⟩ ck_X0 ck_l0 (by decide +kernel)
/-- GlacierMailModel.opens -/
noncomputable def p2_s1008 : ck_Sum := op_os0 16 (.inl (ck_one (-1))) 0 7 (-1) (-1)
theorem p2_s1008_s {X : Int → Int} {LX : Nat} : ck_Ok p2_O X LX 319 p2_s1008 := op_none (by decide) (by decide) (by decide)
/-- GlacierMailModel.opens -/
noncomputable def p2_s1009 : ck_Sum := op_os 16 0 7
theorem p2_s1009_s {X : Int → Int} {LX : Nat} : ck_Ok p2_O X LX 319 p2_s1009 := op_open (by decide) (by decide) (by decide +kernel)
set_option maxRecDepth 100000 in
/-- GlacierMailModel.open -/
noncomputable def p2_s1010 : ck_Sum := ((9, 0, 0), 245, [.inr (.inr (.inl 226)), .inl (ck_one 16)], ([], [], zl176), ([(226, 0, 0), (226, 6, 6), (226, 17, 23), (226, 26, 26), (226, 29, 30), (227, 14, 14), (227, 236, 237), (227, 323, 394), (230, 0, 4739), (233, 0, 399), (235, 0, 29699), (236, 0, 299), (237, 0, 299)], []), [(.inr (some (.inl (ck_one 0))), 245, ([], [], zl177)), (.inr (some (.inl ((-299), 299, []))), 245, ([], [], [(227, 236, 236, (0, 7, [])), (227, 232, 232, (0, 7, [])), (226, 6, 6, (1, 12, [(1000027, 0)])), (226, 29, 29, (0, 299, [])), (227, 231, 231, (0, 7, [])), (226, 0, 0, ck_one 0)]))])
set_option maxRecDepth 100000 in
theorem p2_s1010_s {X : Int → Int} {LX : Nat} : ck_Ok p2_O X LX 318 p2_s1010 := ck_ok_s (O := p2_O) (X := X) (LX := LX) (E := [(309, [p2_s1001]), (282, [p2_s241, p2_s242, p2_s244, p2_s243]), (302, [p2_s1005]), (316, [p2_s553]), (301, [p2_s1006, p2_s1007]), (319, [p2_s1008, p2_s1009]), (266, [p2_s190])]) (mi := 318) (cuts := []) (f := 142) (S := p2_s1010) (lx := none) (XF := []) ⟨p2_nmu, ck_E1 (ck_S1 p2_s1001_s ck_S0) (ck_E1 (ck_S1 p2_s241_s (ck_S1 p2_s242_s (ck_S1 p2_s244_s (ck_S1 p2_s243_s ck_S0)))) (ck_E1 (ck_S1 p2_s1005_s ck_S0) (ck_E1 (ck_S1 p2_s553_s ck_S0) (ck_E1 (ck_S1 p2_s1006_s (ck_S1 p2_s1007_s ck_S0)) (ck_E1 (ck_S1 p2_s1008_s (ck_S1 p2_s1009_s ck_S0)) (ck_E1 (ck_S1 p2_s190_s ck_S0) ck_E0))))))⟩ ck_X0 ck_l0 (by decide +kernel)
set_option maxRecDepth 100000 in
/-- GlacierMailModel.in -/
noncomputable def p2_s1011 : ck_Sum := ((0, 0, 0), 245, [.inl (ck_one 17), .inl (ck_one 0), .inl ((-1), 23, [])], ([], [], []), ([], []), [(.inr (some (.inl (ck_one 0))), 245, ([], [], [])), (.inr (some (.inl (ck_one 1))), 245, ([], [], []))])
set_option maxRecDepth 100000 in
theorem p2_s1011_s {X : Int → Int} {LX : Nat} : ck_Ok p2_O X LX 286 p2_s1011 := ck_ok_s (O := p2_O) (X := X) (LX := LX) (E := []) (mi := 286) (cuts := []) (f := 88) (S := p2_s1011) (lx := none) (XF := []) ⟨p2_nmu, ck_E0⟩ ck_X0 ck_l0 (by decide +kernel)
set_option maxRecDepth 100000 in
/-- GlacierMailModel.noLetter -/
noncomputable def p2_s1012 : ck_Sum := ((1, 0, 0), 245, [.inr (.inr (.inl 226)), .inl (ck_one 17)], ([], [], [(227, 4, 4, (0, 24, [(22, 0)]))]), ([], []), [(.inr (some (.inl (ck_one 1))), 245, ([], [], [])), (.inr (some (.inl (ck_one 0))), 245, ([], [], []))])
set_option maxRecDepth 100000 in
theorem p2_s1012_s {X : Int → Int} {LX : Nat} : ck_Ok p2_O X LX 309 p2_s1012 := ck_ok_s (O := p2_O) (X := X) (LX := LX) (E := [(254, [p2_s176]), (286, [p2_s1011])]) (mi := 309) (cuts := []) (f := 92) (S := p2_s1012) (lx := none) (XF := []) ⟨p2_nmu, ck_E1 (ck_S1 p2_s176_s ck_S0) (ck_E1 (ck_S1 p2_s1011_s ck_S0) ck_E0)⟩ ck_X0 ck_l0 (by decide +kernel)
set_option maxRecDepth 100000 in
/-- GlacierMailModel.ofLetter -/
noncomputable def p2_s1013 : ck_Sum := ((0, 0, 0), 245, [.inr (.inr (.inl 226)), .inl (ck_one 17), .inl (ck_one 0)], ([], [], []), ([], []), [(.inr (some (.inl (ck_one (-1)))), 245, ([], [], [(227, 238, 238, ck_one (-1))])), (.inr (some (.inl (0, 7, []))), 245, ([], [], [(227, 238, 238, (0, 7, []))]))])
set_option maxRecDepth 100000 in
theorem p2_s1013_s {X : Int → Int} {LX : Nat} : ck_Ok p2_O X LX 301 p2_s1013 := ck_ok_s (O := p2_O) (X := X) (LX := LX) (E := []) (mi := 301) (cuts := []) (f := 92) (S := p2_s1013) (lx := none) (XF := []) ⟨p2_nmu, ck_E0⟩ ck_X0 ck_l0 (by decide +kernel)
set_option maxRecDepth 100000 in
/-- GlacierMailModel.isRock -/
noncomputable def p2_s1014 : ck_Sum := ((1, 0, 0), 245, [.inr (.inr (.inl 226)), .inl (ck_one 17)], ([], [], []), ([], []), [(.inr (some (.inl (ck_one 1))), 245, ([], [], [(227, 238, 238, ck_one (-1))])), (.inr (some (.inl (ck_one 0))), 245, ([], [], [(227, 238, 238, (0, 7, []))]))])
set_option maxRecDepth 100000 in
theorem p2_s1014_s {X : Int → Int} {LX : Nat} : ck_Ok p2_O X LX 303 p2_s1014 := ck_ok_s (O := p2_O) (X := X) (LX := LX) (E := [(301, [p2_s1013])]) (mi := 303) (cuts := []) (f := 86) (S := p2_s1014) (lx := none) (XF := []) ⟨p2_nmu, ck_E1 (ck_S1 p2_s1013_s ck_S0) ck_E0⟩ ck_X0 ck_l0 (by decide +kernel)
set_option maxRecDepth 100000 in
/-- GlacierMailModel.ofLetter -/
noncomputable def p2_s1015 : ck_Sum := ((0, 0, 0), 245, [.inr (.inr (.inl 226)), .inl (ck_one 17), .inl (ck_one 5)], ([], [], []), ([], []), [(.inr (some (.inl (ck_one (-1)))), 245, ([], [], [(227, 243, 243, ck_one (-1))])), (.inr (some (.inl (0, 7, []))), 245, ([], [], [(227, 243, 243, (0, 7, []))]))])
set_option maxRecDepth 100000 in
theorem p2_s1015_s {X : Int → Int} {LX : Nat} : ck_Ok p2_O X LX 301 p2_s1015 := ck_ok_s (O := p2_O) (X := X) (LX := LX) (E := []) (mi := 301) (cuts := []) (f := 92) (S := p2_s1015) (lx := none) (XF := []) ⟨p2_nmu, ck_E0⟩ ck_X0 ck_l0 (by decide +kernel)
set_option maxRecDepth 100000 in
/-- GlacierMailModel.isWaiting -/
noncomputable def p2_s1016 : ck_Sum := ((8, 0, 0), 245, [.inr (.inr (.inl 226)), .inl (ck_one 17)], ([], [], zl83), (zl81, []), [(.inr (some (.inl (ck_one 0))), 245, ([], [], [])), (.inr (some (.inl (ck_one 1))), 245, ([], [], [(226, 29, 29, (0, 299, [])), (227, 243, 243, ck_one (-1)), (227, 238, 238, (0, 7, []))]))])
set_option maxRecDepth 100000 in
theorem p2_s1016_s {X : Int → Int} {LX : Nat} : ck_Ok p2_O X LX 302 p2_s1016 := ck_ok_s (O := p2_O) (X := X) (LX := LX) (E := [(303, [p2_s1014]), (301, [p2_s1015]), (304, [p2_s381]), (266, [p2_s190])]) (mi := 302) (cuts := []) (f := 114) (S := p2_s1016) (lx := none) (XF := []) ⟨p2_nmu, ck_E1 (ck_S1 p2_s1014_s ck_S0) (ck_E1 (ck_S1 p2_s1015_s ck_S0) (ck_E1 (ck_S1 p2_s381_s ck_S0) (ck_E1 (ck_S1 p2_s190_s ck_S0) ck_E0)))⟩ ck_X0 ck_l0 (by decide +kernel)
set_option maxRecDepth 100000 in
/-- GlacierMailModel.ofLetter -/
noncomputable def p2_s1017 : ck_Sum := ((0, 0, 0), 245, [.inr (.inr (.inl 226)), .inl (ck_one 17), .inl (ck_one 1)], ([], [], []), ([], []), [(.inr (some (.inl (ck_one (-1)))), 245, ([], [], [(227, 239, 239, ck_one (-1))])), (.inr (some (.inl (0, 7, []))), 245, ([], [], [(227, 239, 239, (0, 7, []))]))])
set_option maxRecDepth 100000 in
theorem p2_s1017_s {X : Int → Int} {LX : Nat} : ck_Ok p2_O X LX 301 p2_s1017 := ck_ok_s (O := p2_O) (X := X) (LX := LX) (E := []) (mi := 301) (cuts := []) (f := 92) (S := p2_s1017) (lx := none) (XF := []) ⟨p2_nmu, ck_E0⟩ ck_X0 ck_l0 (by decide +kernel)
set_option maxRecDepth 100000 in
/-- GlacierMailModel.ofLetter -/
noncomputable def p2_s1018 : ck_Sum := ((0, 0, 0), 245, [.inr (.inr (.inl 226)), .inl (ck_one 17), .inl (ck_one 3)], ([], [], []), ([], []), [(.inr (some (.inl (0, 299, []))), 245, ([], [], []))])
set_option maxRecDepth 100000 in
theorem p2_s1018_s {X : Int → Int} {LX : Nat} : ck_Ok p2_O X LX 301 p2_s1018 := ck_ok_s (O := p2_O) (X := X) (LX := LX) (E := []) (mi := 301) (cuts := []) (f := 92) (S := p2_s1018) (lx := none) (XF := []) ⟨p2_nmu, ck_E0⟩ ck_X0 ck_l0 (by decide +kernel)
/-- GlacierMailModel.opens -/
noncomputable def p2_s1019 : ck_Sum := op_os0 17 (.inl (ck_one (-1))) 0 7 (-1) (-1)
theorem p2_s1019_s {X : Int → Int} {LX : Nat} : ck_Ok p2_O X LX 319 p2_s1019 := op_none (by decide) (by decide) (by decide)
/-- GlacierMailModel.opens -/
noncomputable def p2_s1020 : ck_Sum := op_os 17 0 7
theorem p2_s1020_s {X : Int → Int} {LX : Nat} : ck_Ok p2_O X LX 319 p2_s1020 := op_open (by decide) (by decide) (by decide +kernel)
set_option maxRecDepth 100000 in
/-- GlacierMailModel.open -/
noncomputable def p2_s1021 : ck_Sum := ((9, 0, 0), 245, [.inr (.inr (.inl 226)), .inl (ck_one 17)], ([], [], zl176), ([(226, 0, 0), (226, 6, 6), (226, 17, 23), (226, 26, 26), (226, 29, 30), (227, 14, 14), (227, 243, 244), (227, 323, 394), (230, 0, 4739), (233, 0, 399), (235, 0, 29699), (236, 0, 299), (237, 0, 299)], []), [(.inr (some (.inl (ck_one 0))), 245, ([], [], zl177)), (.inr (some (.inl ((-299), 299, []))), 245, ([], [], [(227, 243, 243, (0, 7, [])), (227, 239, 239, (0, 7, [])), (226, 6, 6, (1, 12, [(1000027, 0)])), (226, 29, 29, (0, 299, [])), (227, 238, 238, (0, 7, [])), (226, 0, 0, ck_one 0)]))])
set_option maxRecDepth 100000 in
theorem p2_s1021_s {X : Int → Int} {LX : Nat} : ck_Ok p2_O X LX 318 p2_s1021 := ck_ok_s (O := p2_O) (X := X) (LX := LX) (E := [(309, [p2_s1012]), (282, [p2_s241, p2_s242, p2_s244, p2_s243]), (302, [p2_s1016]), (316, [p2_s553]), (301, [p2_s1017, p2_s1018]), (319, [p2_s1019, p2_s1020]), (266, [p2_s190])]) (mi := 318) (cuts := []) (f := 142) (S := p2_s1021) (lx := none) (XF := []) ⟨p2_nmu, ck_E1 (ck_S1 p2_s1012_s ck_S0) (ck_E1 (ck_S1 p2_s241_s (ck_S1 p2_s242_s (ck_S1 p2_s244_s (ck_S1 p2_s243_s ck_S0)))) (ck_E1 (ck_S1 p2_s1016_s ck_S0) (ck_E1 (ck_S1 p2_s553_s ck_S0) (ck_E1 (ck_S1 p2_s1017_s (ck_S1 p2_s1018_s ck_S0)) (ck_E1 (ck_S1 p2_s1019_s (ck_S1 p2_s1020_s ck_S0)) (ck_E1 (ck_S1 p2_s190_s ck_S0) ck_E0))))))⟩ ck_X0 ck_l0 (by decide +kernel)
set_option maxRecDepth 100000 in
/-- GlacierMailModel.in -/
noncomputable def p2_s1022 : ck_Sum := ((0, 0, 0), 245, [.inl (ck_one 18), .inl (ck_one 0), .inl ((-1), 23, [])], ([], [], []), ([], []), [(.inr (some (.inl (ck_one 0))), 245, ([], [], [])), (.inr (some (.inl (ck_one 1))), 245, ([], [], []))])
set_option maxRecDepth 100000 in
theorem p2_s1022_s {X : Int → Int} {LX : Nat} : ck_Ok p2_O X LX 286 p2_s1022 := ck_ok_s (O := p2_O) (X := X) (LX := LX) (E := []) (mi := 286) (cuts := []) (f := 88) (S := p2_s1022) (lx := none) (XF := []) ⟨p2_nmu, ck_E0⟩ ck_X0 ck_l0 (by decide +kernel)
set_option maxRecDepth 100000 in
/-- GlacierMailModel.noLetter -/
noncomputable def p2_s1023 : ck_Sum := ((1, 0, 0), 245, [.inr (.inr (.inl 226)), .inl (ck_one 18)], ([], [], [(227, 4, 4, (0, 24, [(22, 0)]))]), ([], []), [(.inr (some (.inl (ck_one 1))), 245, ([], [], [])), (.inr (some (.inl (ck_one 0))), 245, ([], [], []))])
set_option maxRecDepth 100000 in
theorem p2_s1023_s {X : Int → Int} {LX : Nat} : ck_Ok p2_O X LX 309 p2_s1023 := ck_ok_s (O := p2_O) (X := X) (LX := LX) (E := [(254, [p2_s176]), (286, [p2_s1022])]) (mi := 309) (cuts := []) (f := 92) (S := p2_s1023) (lx := none) (XF := []) ⟨p2_nmu, ck_E1 (ck_S1 p2_s176_s ck_S0) (ck_E1 (ck_S1 p2_s1022_s ck_S0) ck_E0)⟩ ck_X0 ck_l0 (by decide +kernel)
set_option maxRecDepth 100000 in
/-- GlacierMailModel.ofLetter -/
noncomputable def p2_s1024 : ck_Sum := ((0, 0, 0), 245, [.inr (.inr (.inl 226)), .inl (ck_one 18), .inl (ck_one 0)], ([], [], []), ([], []), [(.inr (some (.inl (ck_one (-1)))), 245, ([], [], [(227, 245, 245, ck_one (-1))])), (.inr (some (.inl (0, 7, []))), 245, ([], [], [(227, 245, 245, (0, 7, []))]))])
set_option maxRecDepth 100000 in
theorem p2_s1024_s {X : Int → Int} {LX : Nat} : ck_Ok p2_O X LX 301 p2_s1024 := ck_ok_s (O := p2_O) (X := X) (LX := LX) (E := []) (mi := 301) (cuts := []) (f := 92) (S := p2_s1024) (lx := none) (XF := []) ⟨p2_nmu, ck_E0⟩ ck_X0 ck_l0 (by decide +kernel)
set_option maxRecDepth 100000 in
/-- GlacierMailModel.isRock -/
noncomputable def p2_s1025 : ck_Sum := ((1, 0, 0), 245, [.inr (.inr (.inl 226)), .inl (ck_one 18)], ([], [], []), ([], []), [(.inr (some (.inl (ck_one 1))), 245, ([], [], [(227, 245, 245, ck_one (-1))])), (.inr (some (.inl (ck_one 0))), 245, ([], [], [(227, 245, 245, (0, 7, []))]))])
set_option maxRecDepth 100000 in
theorem p2_s1025_s {X : Int → Int} {LX : Nat} : ck_Ok p2_O X LX 303 p2_s1025 := ck_ok_s (O := p2_O) (X := X) (LX := LX) (E := [(301, [p2_s1024])]) (mi := 303) (cuts := []) (f := 86) (S := p2_s1025) (lx := none) (XF := []) ⟨p2_nmu, ck_E1 (ck_S1 p2_s1024_s ck_S0) ck_E0⟩ ck_X0 ck_l0 (by decide +kernel)
set_option maxRecDepth 100000 in
/-- GlacierMailModel.ofLetter -/
noncomputable def p2_s1026 : ck_Sum := ((0, 0, 0), 245, [.inr (.inr (.inl 226)), .inl (ck_one 18), .inl (ck_one 5)], ([], [], []), ([], []), [(.inr (some (.inl (ck_one (-1)))), 245, ([], [], [(227, 250, 250, ck_one (-1))])), (.inr (some (.inl (0, 7, []))), 245, ([], [], [(227, 250, 250, (0, 7, []))]))])
set_option maxRecDepth 100000 in
theorem p2_s1026_s {X : Int → Int} {LX : Nat} : ck_Ok p2_O X LX 301 p2_s1026 := ck_ok_s (O := p2_O) (X := X) (LX := LX) (E := []) (mi := 301) (cuts := []) (f := 92) (S := p2_s1026) (lx := none) (XF := []) ⟨p2_nmu, ck_E0⟩ ck_X0 ck_l0 (by decide +kernel)
set_option maxRecDepth 100000 in
/-- GlacierMailModel.isWaiting -/
noncomputable def p2_s1027 : ck_Sum := ((8, 0, 0), 245, [.inr (.inr (.inl 226)), .inl (ck_one 18)], ([], [], zl83), (zl81, []), [(.inr (some (.inl (ck_one 0))), 245, ([], [], [])), (.inr (some (.inl (ck_one 1))), 245, ([], [], [(226, 29, 29, (0, 299, [])), (227, 250, 250, ck_one (-1)), (227, 245, 245, (0, 7, []))]))])
set_option maxRecDepth 100000 in
theorem p2_s1027_s {X : Int → Int} {LX : Nat} : ck_Ok p2_O X LX 302 p2_s1027 := ck_ok_s (O := p2_O) (X := X) (LX := LX) (E := [(303, [p2_s1025]), (301, [p2_s1026]), (304, [p2_s381]), (266, [p2_s190])]) (mi := 302) (cuts := []) (f := 114) (S := p2_s1027) (lx := none) (XF := []) ⟨p2_nmu, ck_E1 (ck_S1 p2_s1025_s ck_S0) (ck_E1 (ck_S1 p2_s1026_s ck_S0) (ck_E1 (ck_S1 p2_s381_s ck_S0) (ck_E1 (ck_S1 p2_s190_s ck_S0) ck_E0)))⟩ ck_X0 ck_l0 (by decide +kernel)
set_option maxRecDepth 100000 in
/-- GlacierMailModel.ofLetter -/
noncomputable def p2_s1028 : ck_Sum := ((0, 0, 0), 245, [.inr (.inr (.inl 226)), .inl (ck_one 18), .inl (ck_one 1)], ([], [], []), ([], []), [(.inr (some (.inl (ck_one (-1)))), 245, ([], [], [(227, 246, 246, ck_one (-1))])), (.inr (some (.inl (0, 7, []))), 245, ([], [], [(227, 246, 246, (0, 7, []))]))])
set_option maxRecDepth 100000 in
theorem p2_s1028_s {X : Int → Int} {LX : Nat} : ck_Ok p2_O X LX 301 p2_s1028 := ck_ok_s (O := p2_O) (X := X) (LX := LX) (E := []) (mi := 301) (cuts := []) (f := 92) (S := p2_s1028) (lx := none) (XF := []) ⟨p2_nmu, ck_E0⟩ ck_X0 ck_l0 (by decide +kernel)
set_option maxRecDepth 100000 in
/-- GlacierMailModel.ofLetter -/
noncomputable def p2_s1029 : ck_Sum := ((0, 0, 0), 245, [.inr (.inr (.inl 226)), .inl (ck_one 18), .inl (ck_one 3)], ([], [], []), ([], []), [(.inr (some (.inl (0, 299, []))), 245, ([], [], []))])
set_option maxRecDepth 100000 in
theorem p2_s1029_s {X : Int → Int} {LX : Nat} : ck_Ok p2_O X LX 301 p2_s1029 := ck_ok_s (O := p2_O) (X := X) (LX := LX) (E := []) (mi := 301) (cuts := []) (f := 92) (S := p2_s1029) (lx := none) (XF := []) ⟨p2_nmu, ck_E0⟩ ck_X0 ck_l0 (by decide +kernel)
/-- GlacierMailModel.opens -/
noncomputable def p2_s1030 : ck_Sum := op_os0 18 (.inl (ck_one (-1))) 0 7 (-1) (-1)
theorem p2_s1030_s {X : Int → Int} {LX : Nat} : ck_Ok p2_O X LX 319 p2_s1030 := op_none (by decide) (by decide) (by decide)
/-- GlacierMailModel.opens -/
noncomputable def p2_s1031 : ck_Sum := op_os 18 0 7
theorem p2_s1031_s {X : Int → Int} {LX : Nat} : ck_Ok p2_O X LX 319 p2_s1031 := op_open (by decide) (by decide) (by decide +kernel)
set_option maxRecDepth 100000 in
/-- GlacierMailModel.open -/
noncomputable def p2_s1032 : ck_Sum := ((9, 0, 0), 245, [.inr (.inr (.inl 226)), .inl (ck_one 18)], ([], [], zl176), ([(226, 0, 0), (226, 6, 6), (226, 17, 23), (226, 26, 26), (226, 29, 30), (227, 14, 14), (227, 250, 251), (227, 323, 394), (230, 0, 4739), (233, 0, 399), (235, 0, 29699), (236, 0, 299), (237, 0, 299)], []), [(.inr (some (.inl (ck_one 0))), 245, ([], [], zl177)), (.inr (some (.inl ((-299), 299, []))), 245, ([], [], [(227, 250, 250, (0, 7, [])), (227, 246, 246, (0, 7, [])), (226, 6, 6, (1, 12, [(1000027, 0)])), (226, 29, 29, (0, 299, [])), (227, 245, 245, (0, 7, [])), (226, 0, 0, ck_one 0)]))])
set_option maxRecDepth 100000 in
theorem p2_s1032_s {X : Int → Int} {LX : Nat} : ck_Ok p2_O X LX 318 p2_s1032 := ck_ok_s (O := p2_O) (X := X) (LX := LX) (E := [(309, [p2_s1023]), (282, [p2_s241, p2_s242, p2_s244, p2_s243]), (302, [p2_s1027]), (316, [p2_s553]), (301, [p2_s1028, p2_s1029]), (319, [p2_s1030, p2_s1031]), (266, [p2_s190])]) (mi := 318) (cuts := []) (f := 142) (S := p2_s1032) (lx := none) (XF := []) ⟨p2_nmu, ck_E1 (ck_S1 p2_s1023_s ck_S0) (ck_E1 (ck_S1 p2_s241_s (ck_S1 p2_s242_s (ck_S1 p2_s244_s (ck_S1 p2_s243_s ck_S0)))) (ck_E1 (ck_S1 p2_s1027_s ck_S0) (ck_E1 (ck_S1 p2_s553_s ck_S0) (ck_E1 (ck_S1 p2_s1028_s (ck_S1 p2_s1029_s ck_S0)) (ck_E1 (ck_S1 p2_s1030_s (ck_S1 p2_s1031_s ck_S0)) (ck_E1 (ck_S1 p2_s190_s ck_S0) ck_E0))))))⟩ ck_X0 ck_l0 (by decide +kernel)
set_option maxRecDepth 100000 in
/-- GlacierMailModel.in -/
noncomputable def p2_s1033 : ck_Sum := ((0, 0, 0), 245, [.inl (ck_one 19), .inl (ck_one 0), .inl ((-1), 23, [])], ([], [], []), ([], []), [(.inr (some (.inl (ck_one 0))), 245, ([], [], [])), (.inr (some (.inl (ck_one 1))), 245, ([], [], []))])
set_option maxRecDepth 100000 in
theorem p2_s1033_s {X : Int → Int} {LX : Nat} : ck_Ok p2_O X LX 286 p2_s1033 := ck_ok_s (O := p2_O) (X := X) (LX := LX) (E := []) (mi := 286) (cuts := []) (f := 88) (S := p2_s1033) (lx := none) (XF := []) ⟨p2_nmu, ck_E0⟩ ck_X0 ck_l0 (by decide +kernel)
set_option maxRecDepth 100000 in
/-- GlacierMailModel.noLetter -/
noncomputable def p2_s1034 : ck_Sum := ((1, 0, 0), 245, [.inr (.inr (.inl 226)), .inl (ck_one 19)], ([], [], [(227, 4, 4, (0, 24, [(22, 0)]))]), ([], []), [(.inr (some (.inl (ck_one 1))), 245, ([], [], [])), (.inr (some (.inl (ck_one 0))), 245, ([], [], []))])
set_option maxRecDepth 100000 in
theorem p2_s1034_s {X : Int → Int} {LX : Nat} : ck_Ok p2_O X LX 309 p2_s1034 := ck_ok_s (O := p2_O) (X := X) (LX := LX) (E := [(254, [p2_s176]), (286, [p2_s1033])]) (mi := 309) (cuts := []) (f := 92) (S := p2_s1034) (lx := none) (XF := []) ⟨p2_nmu, ck_E1 (ck_S1 p2_s176_s ck_S0) (ck_E1 (ck_S1 p2_s1033_s ck_S0) ck_E0)⟩ ck_X0 ck_l0 (by decide +kernel)
set_option maxRecDepth 100000 in
/-- GlacierMailModel.ofLetter -/
noncomputable def p2_s1035 : ck_Sum := ((0, 0, 0), 245, [.inr (.inr (.inl 226)), .inl (ck_one 19), .inl (ck_one 0)], ([], [], []), ([], []), [(.inr (some (.inl (ck_one (-1)))), 245, ([], [], [(227, 252, 252, ck_one (-1))])), (.inr (some (.inl (0, 7, []))), 245, ([], [], [(227, 252, 252, (0, 7, []))]))])
set_option maxRecDepth 100000 in
theorem p2_s1035_s {X : Int → Int} {LX : Nat} : ck_Ok p2_O X LX 301 p2_s1035 := ck_ok_s (O := p2_O) (X := X) (LX := LX) (E := []) (mi := 301) (cuts := []) (f := 92) (S := p2_s1035) (lx := none) (XF := []) ⟨p2_nmu, ck_E0⟩ ck_X0 ck_l0 (by decide +kernel)
set_option maxRecDepth 100000 in
/-- GlacierMailModel.isRock -/
noncomputable def p2_s1036 : ck_Sum := ((1, 0, 0), 245, [.inr (.inr (.inl 226)), .inl (ck_one 19)], ([], [], []), ([], []), [(.inr (some (.inl (ck_one 1))), 245, ([], [], [(227, 252, 252, ck_one (-1))])), (.inr (some (.inl (ck_one 0))), 245, ([], [], [(227, 252, 252, (0, 7, []))]))])
set_option maxRecDepth 100000 in
theorem p2_s1036_s {X : Int → Int} {LX : Nat} : ck_Ok p2_O X LX 303 p2_s1036 := ck_ok_s (O := p2_O) (X := X) (LX := LX) (E := [(301, [p2_s1035])]) (mi := 303) (cuts := []) (f := 86) (S := p2_s1036) (lx := none) (XF := []) ⟨p2_nmu, ck_E1 (ck_S1 p2_s1035_s ck_S0) ck_E0⟩ ck_X0 ck_l0 (by decide +kernel)
set_option maxRecDepth 100000 in
/-- GlacierMailModel.ofLetter -/
noncomputable def p2_s1037 : ck_Sum := ((0, 0, 0), 245, [.inr (.inr (.inl 226)), .inl (ck_one 19), .inl (ck_one 5)], ([], [], []), ([], []), [(.inr (some (.inl (ck_one (-1)))), 245, ([], [], [(227, 257, 257, ck_one (-1))])), (.inr (some (.inl (0, 7, []))), 245, ([], [], [(227, 257, 257, (0, 7, []))]))])
set_option maxRecDepth 100000 in
theorem p2_s1037_s {X : Int → Int} {LX : Nat} : ck_Ok p2_O X LX 301 p2_s1037 := ck_ok_s (O := p2_O) (X := X) (LX := LX) (E := []) (mi := 301) (cuts := []) (f := 92) (S := p2_s1037) (lx := none) (XF := []) ⟨p2_nmu, ck_E0⟩ ck_X0 ck_l0 (by decide +kernel)
set_option maxRecDepth 100000 in
/-- GlacierMailModel.isWaiting -/
noncomputable def p2_s1038 : ck_Sum := ((8, 0, 0), 245, [.inr (.inr (.inl 226)), .inl (ck_one 19)], ([], [], zl83), (zl81, []), [(.inr (some (.inl (ck_one 0))), 245, ([], [], [])), (.inr (some (.inl (ck_one 1))), 245, ([], [], [(226, 29, 29, (0, 299, [])), (227, 257, 257, ck_one (-1)), (227, 252, 252, (0, 7, []))]))])
set_option maxRecDepth 100000 in
theorem p2_s1038_s {X : Int → Int} {LX : Nat} : ck_Ok p2_O X LX 302 p2_s1038 := ck_ok_s (O := p2_O) (X := X) (LX := LX) (E := [(303, [p2_s1036]), (301, [p2_s1037]), (304, [p2_s381]), (266, [p2_s190])]) (mi := 302) (cuts := []) (f := 114) (S := p2_s1038) (lx := none) (XF := []) ⟨p2_nmu, ck_E1 (ck_S1 p2_s1036_s ck_S0) (ck_E1 (ck_S1 p2_s1037_s ck_S0) (ck_E1 (ck_S1 p2_s381_s ck_S0) (ck_E1 (ck_S1 p2_s190_s ck_S0) ck_E0)))⟩ ck_X0 ck_l0 (by decide +kernel)
set_option maxRecDepth 100000 in
/-- GlacierMailModel.ofLetter -/
noncomputable def p2_s1039 : ck_Sum := ((0, 0, 0), 245, [.inr (.inr (.inl 226)), .inl (ck_one 19), .inl (ck_one 1)], ([], [], []), ([], []), [(.inr (some (.inl (ck_one (-1)))), 245, ([], [], [(227, 253, 253, ck_one (-1))])), (.inr (some (.inl (0, 7, []))), 245, ([], [], [(227, 253, 253, (0, 7, []))]))])
set_option maxRecDepth 100000 in
theorem p2_s1039_s {X : Int → Int} {LX : Nat} : ck_Ok p2_O X LX 301 p2_s1039 := ck_ok_s (O := p2_O) (X := X) (LX := LX) (E := []) (mi := 301) (cuts := []) (f := 92) (S := p2_s1039) (lx := none) (XF := []) ⟨p2_nmu, ck_E0⟩ ck_X0 ck_l0 (by decide +kernel)
set_option maxRecDepth 100000 in
/-- GlacierMailModel.ofLetter -/
noncomputable def p2_s1040 : ck_Sum := ((0, 0, 0), 245, [.inr (.inr (.inl 226)), .inl (ck_one 19), .inl (ck_one 3)], ([], [], []), ([], []), [(.inr (some (.inl (0, 299, []))), 245, ([], [], []))])
set_option maxRecDepth 100000 in
theorem p2_s1040_s {X : Int → Int} {LX : Nat} : ck_Ok p2_O X LX 301 p2_s1040 := ck_ok_s (O := p2_O) (X := X) (LX := LX) (E := []) (mi := 301) (cuts := []) (f := 92) (S := p2_s1040) (lx := none) (XF := []) ⟨p2_nmu, ck_E0⟩ ck_X0 ck_l0 (by decide +kernel)
/-- GlacierMailModel.opens -/
noncomputable def p2_s1041 : ck_Sum := op_os0 19 (.inl (ck_one (-1))) 0 7 (-1) (-1)
theorem p2_s1041_s {X : Int → Int} {LX : Nat} : ck_Ok p2_O X LX 319 p2_s1041 := op_none (by decide) (by decide) (by decide)
/-- GlacierMailModel.opens -/
noncomputable def p2_s1042 : ck_Sum := op_os 19 0 7
theorem p2_s1042_s {X : Int → Int} {LX : Nat} : ck_Ok p2_O X LX 319 p2_s1042 := op_open (by decide) (by decide) (by decide +kernel)
set_option maxRecDepth 100000 in
/-- GlacierMailModel.open -/
noncomputable def p2_s1043 : ck_Sum := ((9, 0, 0), 245, [.inr (.inr (.inl 226)), .inl (ck_one 19)], ([], [], zl176), ([(226, 0, 0), (226, 6, 6), (226, 17, 23), (226, 26, 26), (226, 29, 30), (227, 14, 14), (227, 257, 258), (227, 323, 394), (230, 0, 4739), (233, 0, 399), (235, 0, 29699), (236, 0, 299), (237, 0, 299)], []), [(.inr (some (.inl (ck_one 0))), 245, ([], [], zl177)), (.inr (some (.inl ((-299), 299, []))), 245, ([], [], [(227, 257, 257, (0, 7, [])), (227, 253, 253, (0, 7, [])), (226, 6, 6, (1, 12, [(1000027, 0)])), (226, 29, 29, (0, 299, [])), (227, 252, 252, (0, 7, [])), (226, 0, 0, ck_one 0)]))])
set_option maxRecDepth 100000 in
theorem p2_s1043_s {X : Int → Int} {LX : Nat} : ck_Ok p2_O X LX 318 p2_s1043 := ck_ok_s (O := p2_O) (X := X) (LX := LX) (E := [(309, [p2_s1034]), (282, [p2_s241, p2_s242, p2_s244, p2_s243]), (302, [p2_s1038]), (316, [p2_s553]), (301, [p2_s1039, p2_s1040]), (319, [p2_s1041, p2_s1042]), (266, [p2_s190])]) (mi := 318) (cuts := []) (f := 142) (S := p2_s1043) (lx := none) (XF := []) ⟨p2_nmu, ck_E1 (ck_S1 p2_s1034_s ck_S0) (ck_E1 (ck_S1 p2_s241_s (ck_S1 p2_s242_s (ck_S1 p2_s244_s (ck_S1 p2_s243_s ck_S0)))) (ck_E1 (ck_S1 p2_s1038_s ck_S0) (ck_E1 (ck_S1 p2_s553_s ck_S0) (ck_E1 (ck_S1 p2_s1039_s (ck_S1 p2_s1040_s ck_S0)) (ck_E1 (ck_S1 p2_s1041_s (ck_S1 p2_s1042_s ck_S0)) (ck_E1 (ck_S1 p2_s190_s ck_S0) ck_E0))))))⟩ ck_X0 ck_l0 (by decide +kernel)
set_option maxRecDepth 100000 in
/-- GlacierMailModel.in -/
noncomputable def p2_s1044 : ck_Sum := ((0, 0, 0), 245, [.inl (ck_one 20), .inl (ck_one 0), .inl ((-1), 23, [])], ([], [], []), ([], []), [(.inr (some (.inl (ck_one 0))), 245, ([], [], [])), (.inr (some (.inl (ck_one 1))), 245, ([], [], []))])
set_option maxRecDepth 100000 in
theorem p2_s1044_s {X : Int → Int} {LX : Nat} : ck_Ok p2_O X LX 286 p2_s1044 := ck_ok_s (O := p2_O) (X := X) (LX := LX) (E := []) (mi := 286) (cuts := []) (f := 88) (S := p2_s1044) (lx := none) (XF := []) ⟨p2_nmu, ck_E0⟩ ck_X0 ck_l0 (by decide +kernel)
set_option maxRecDepth 100000 in
/-- GlacierMailModel.noLetter -/
noncomputable def p2_s1045 : ck_Sum := ((1, 0, 0), 245, [.inr (.inr (.inl 226)), .inl (ck_one 20)], ([], [], [(227, 4, 4, (0, 24, [(22, 0)]))]), ([], []), [(.inr (some (.inl (ck_one 1))), 245, ([], [], [])), (.inr (some (.inl (ck_one 0))), 245, ([], [], []))])
set_option maxRecDepth 100000 in
theorem p2_s1045_s {X : Int → Int} {LX : Nat} : ck_Ok p2_O X LX 309 p2_s1045 := ck_ok_s (O := p2_O) (X := X) (LX := LX) (E := [(254, [p2_s176]), (286, [p2_s1044])]) (mi := 309) (cuts := []) (f := 92) (S := p2_s1045) (lx := none) (XF := []) ⟨p2_nmu, ck_E1 (ck_S1 p2_s176_s ck_S0) (ck_E1 (ck_S1 p2_s1044_s ck_S0) ck_E0)⟩ ck_X0 ck_l0 (by decide +kernel)
set_option maxRecDepth 100000 in
/-- GlacierMailModel.ofLetter -/
noncomputable def p2_s1046 : ck_Sum := ((0, 0, 0), 245, [.inr (.inr (.inl 226)), .inl (ck_one 20), .inl (ck_one 0)], ([], [], []), ([], []), [(.inr (some (.inl (ck_one (-1)))), 245, ([], [], [(227, 259, 259, ck_one (-1))])), (.inr (some (.inl (0, 7, []))), 245, ([], [], [(227, 259, 259, (0, 7, []))]))])
set_option maxRecDepth 100000 in
theorem p2_s1046_s {X : Int → Int} {LX : Nat} : ck_Ok p2_O X LX 301 p2_s1046 := ck_ok_s (O := p2_O) (X := X) (LX := LX) (E := []) (mi := 301) (cuts := []) (f := 92) (S := p2_s1046) (lx := none) (XF := []) ⟨p2_nmu, ck_E0⟩ ck_X0 ck_l0 (by decide +kernel)
set_option maxRecDepth 100000 in
/-- GlacierMailModel.isRock -/
noncomputable def p2_s1047 : ck_Sum := ((1, 0, 0), 245, [.inr (.inr (.inl 226)), .inl (ck_one 20)], ([], [], []), ([], []), [(.inr (some (.inl (ck_one 1))), 245, ([], [], [(227, 259, 259, ck_one (-1))])), (.inr (some (.inl (ck_one 0))), 245, ([], [], [(227, 259, 259, (0, 7, []))]))])
set_option maxRecDepth 100000 in
theorem p2_s1047_s {X : Int → Int} {LX : Nat} : ck_Ok p2_O X LX 303 p2_s1047 := ck_ok_s (O := p2_O) (X := X) (LX := LX) (E := [(301, [p2_s1046])]) (mi := 303) (cuts := []) (f := 86) (S := p2_s1047) (lx := none) (XF := []) ⟨p2_nmu, ck_E1 (ck_S1 p2_s1046_s ck_S0) ck_E0⟩ ck_X0 ck_l0 (by decide +kernel)
set_option maxRecDepth 100000 in
/-- GlacierMailModel.ofLetter -/
noncomputable def p2_s1048 : ck_Sum := ((0, 0, 0), 245, [.inr (.inr (.inl 226)), .inl (ck_one 20), .inl (ck_one 5)], ([], [], []), ([], []), [(.inr (some (.inl (ck_one (-1)))), 245, ([], [], [(227, 264, 264, ck_one (-1))])), (.inr (some (.inl (0, 7, []))), 245, ([], [], [(227, 264, 264, (0, 7, []))]))])
set_option maxRecDepth 100000 in
theorem p2_s1048_s {X : Int → Int} {LX : Nat} : ck_Ok p2_O X LX 301 p2_s1048 := ck_ok_s (O := p2_O) (X := X) (LX := LX) (E := []) (mi := 301) (cuts := []) (f := 92) (S := p2_s1048) (lx := none) (XF := []) ⟨p2_nmu, ck_E0⟩ ck_X0 ck_l0 (by decide +kernel)
set_option maxRecDepth 100000 in
/-- GlacierMailModel.isWaiting -/
noncomputable def p2_s1049 : ck_Sum := ((8, 0, 0), 245, [.inr (.inr (.inl 226)), .inl (ck_one 20)], ([], [], zl83), (zl81, []), [(.inr (some (.inl (ck_one 0))), 245, ([], [], [])), (.inr (some (.inl (ck_one 1))), 245, ([], [], [(226, 29, 29, (0, 299, [])), (227, 264, 264, ck_one (-1)), (227, 259, 259, (0, 7, []))]))])
set_option maxRecDepth 100000 in
theorem p2_s1049_s {X : Int → Int} {LX : Nat} : ck_Ok p2_O X LX 302 p2_s1049 := ck_ok_s (O := p2_O) (X := X) (LX := LX) (E := [(303, [p2_s1047]), (301, [p2_s1048]), (304, [p2_s381]), (266, [p2_s190])]) (mi := 302) (cuts := []) (f := 114) (S := p2_s1049) (lx := none) (XF := []) ⟨p2_nmu, ck_E1 (ck_S1 p2_s1047_s ck_S0) (ck_E1 (ck_S1 p2_s1048_s ck_S0) (ck_E1 (ck_S1 p2_s381_s ck_S0) (ck_E1 (ck_S1 p2_s190_s ck_S0) ck_E0)))⟩ ck_X0 ck_l0 (by decide +kernel)
set_option maxRecDepth 100000 in
/-- GlacierMailModel.ofLetter -/
noncomputable def p2_s1050 : ck_Sum := ((0, 0, 0), 245, [.inr (.inr (.inl 226)), .inl (ck_one 20), .inl (ck_one 1)], ([], [], []), ([], []), [(.inr (some (.inl (ck_one (-1)))), 245, ([], [], [(227, 260, 260, ck_one (-1))])), (.inr (some (.inl (0, 7, []))), 245, ([], [], [(227, 260, 260, (0, 7, []))]))])
set_option maxRecDepth 100000 in
theorem p2_s1050_s {X : Int → Int} {LX : Nat} : ck_Ok p2_O X LX 301 p2_s1050 := ck_ok_s (O := p2_O) (X := X) (LX := LX) (E := []) (mi := 301) (cuts := []) (f := 92) (S := p2_s1050) (lx := none) (XF := []) ⟨p2_nmu, ck_E0⟩ ck_X0 ck_l0 (by decide +kernel)
set_option maxRecDepth 100000 in
/-- GlacierMailModel.ofLetter -/
noncomputable def p2_s1051 : ck_Sum := ((0, 0, 0), 245, [.inr (.inr (.inl 226)), .inl (ck_one 20), .inl (ck_one 3)], ([], [], []), ([], []), [(.inr (some (.inl (0, 299, []))), 245, ([], [], []))])
set_option maxRecDepth 100000 in
theorem p2_s1051_s {X : Int → Int} {LX : Nat} : ck_Ok p2_O X LX 301 p2_s1051 := ck_ok_s (O := p2_O) (X := X) (LX := LX) (E := []) (mi := 301) (cuts := []) (f := 92) (S := p2_s1051) (lx := none) (XF := []) ⟨p2_nmu, ck_E0⟩ ck_X0 ck_l0 (by decide +kernel)
/-- GlacierMailModel.opens -/
noncomputable def p2_s1052 : ck_Sum := op_os0 20 (.inl (ck_one (-1))) 0 7 (-1) (-1)
theorem p2_s1052_s {X : Int → Int} {LX : Nat} : ck_Ok p2_O X LX 319 p2_s1052 := op_none (by decide) (by decide) (by decide)
/-- GlacierMailModel.opens -/
noncomputable def p2_s1053 : ck_Sum := op_os 20 0 7
theorem p2_s1053_s {X : Int → Int} {LX : Nat} : ck_Ok p2_O X LX 319 p2_s1053 := op_open (by decide) (by decide) (by decide +kernel)
set_option maxRecDepth 100000 in
/-- GlacierMailModel.open -/
noncomputable def p2_s1054 : ck_Sum := ((9, 0, 0), 245, [.inr (.inr (.inl 226)), .inl (ck_one 20)], ([], [], zl176), ([(226, 0, 0), (226, 6, 6), (226, 17, 23), (226, 26, 26), (226, 29, 30), (227, 14, 14), (227, 264, 265), (227, 323, 394), (230, 0, 4739), (233, 0, 399), (235, 0, 29699), (236, 0, 299), (237, 0, 299)], []), [(.inr (some (.inl (ck_one 0))), 245, ([], [], zl177)), (.inr (some (.inl ((-299), 299, []))), 245, ([], [], [(227, 264, 264, (0, 7, [])), (227, 260, 260, (0, 7, [])), (226, 6, 6, (1, 12, [(1000027, 0)])), (226, 29, 29, (0, 299, [])), (227, 259, 259, (0, 7, [])), (226, 0, 0, ck_one 0)]))])
set_option maxRecDepth 100000 in
theorem p2_s1054_s {X : Int → Int} {LX : Nat} : ck_Ok p2_O X LX 318 p2_s1054 := ck_ok_s (O := p2_O) (X := X) (LX := LX) (E := [(309, [p2_s1045]), (282, [p2_s241, p2_s242, p2_s244, p2_s243]), (302, [p2_s1049]), (316, [p2_s553]), (301, [p2_s1050, p2_s1051]), (319, [p2_s1052, p2_s1053]), (266, [p2_s190])]) (mi := 318) (cuts := []) (f := 142) (S := p2_s1054) (lx := none) (XF := []) ⟨p2_nmu, ck_E1 (ck_S1 p2_s1045_s ck_S0) (ck_E1 (ck_S1 p2_s241_s (ck_S1 p2_s242_s (ck_S1 p2_s244_s (ck_S1 p2_s243_s ck_S0)))) (ck_E1 (ck_S1 p2_s1049_s ck_S0) (ck_E1 (ck_S1 p2_s553_s ck_S0) (ck_E1 (ck_S1 p2_s1050_s (ck_S1 p2_s1051_s ck_S0)) (ck_E1 (ck_S1 p2_s1052_s (ck_S1 p2_s1053_s ck_S0)) (ck_E1 (ck_S1 p2_s190_s ck_S0) ck_E0))))))⟩ ck_X0 ck_l0 (by decide +kernel)
set_option maxRecDepth 100000 in
/-- GlacierMailModel.in -/
noncomputable def p2_s1055 : ck_Sum := ((0, 0, 0), 245, [.inl (ck_one 21), .inl (ck_one 0), .inl ((-1), 23, [])], ([], [], []), ([], []), [(.inr (some (.inl (ck_one 0))), 245, ([], [], [])), (.inr (some (.inl (ck_one 1))), 245, ([], [], []))])
set_option maxRecDepth 100000 in
theorem p2_s1055_s {X : Int → Int} {LX : Nat} : ck_Ok p2_O X LX 286 p2_s1055 := ck_ok_s (O := p2_O) (X := X) (LX := LX) (E := []) (mi := 286) (cuts := []) (f := 88) (S := p2_s1055) (lx := none) (XF := []) ⟨p2_nmu, ck_E0⟩ ck_X0 ck_l0 (by decide +kernel)
set_option maxRecDepth 100000 in
/-- GlacierMailModel.noLetter -/
noncomputable def p2_s1056 : ck_Sum := ((1, 0, 0), 245, [.inr (.inr (.inl 226)), .inl (ck_one 21)], ([], [], [(227, 4, 4, (0, 24, [(22, 0)]))]), ([], []), [(.inr (some (.inl (ck_one 1))), 245, ([], [], [])), (.inr (some (.inl (ck_one 0))), 245, ([], [], []))])
set_option maxRecDepth 100000 in
theorem p2_s1056_s {X : Int → Int} {LX : Nat} : ck_Ok p2_O X LX 309 p2_s1056 := ck_ok_s (O := p2_O) (X := X) (LX := LX) (E := [(254, [p2_s176]), (286, [p2_s1055])]) (mi := 309) (cuts := []) (f := 92) (S := p2_s1056) (lx := none) (XF := []) ⟨p2_nmu, ck_E1 (ck_S1 p2_s176_s ck_S0) (ck_E1 (ck_S1 p2_s1055_s ck_S0) ck_E0)⟩ ck_X0 ck_l0 (by decide +kernel)
set_option maxRecDepth 100000 in
/-- GlacierMailModel.ofLetter -/
noncomputable def p2_s1057 : ck_Sum := ((0, 0, 0), 245, [.inr (.inr (.inl 226)), .inl (ck_one 21), .inl (ck_one 0)], ([], [], []), ([], []), [(.inr (some (.inl (ck_one (-1)))), 245, ([], [], [(227, 266, 266, ck_one (-1))])), (.inr (some (.inl (0, 7, []))), 245, ([], [], [(227, 266, 266, (0, 7, []))]))])
set_option maxRecDepth 100000 in
theorem p2_s1057_s {X : Int → Int} {LX : Nat} : ck_Ok p2_O X LX 301 p2_s1057 := ck_ok_s (O := p2_O) (X := X) (LX := LX) (E := []) (mi := 301) (cuts := []) (f := 92) (S := p2_s1057) (lx := none) (XF := []) ⟨p2_nmu, ck_E0⟩ ck_X0 ck_l0 (by decide +kernel)
set_option maxRecDepth 100000 in
/-- GlacierMailModel.isRock -/
noncomputable def p2_s1058 : ck_Sum := ((1, 0, 0), 245, [.inr (.inr (.inl 226)), .inl (ck_one 21)], ([], [], []), ([], []), [(.inr (some (.inl (ck_one 1))), 245, ([], [], [(227, 266, 266, ck_one (-1))])), (.inr (some (.inl (ck_one 0))), 245, ([], [], [(227, 266, 266, (0, 7, []))]))])
set_option maxRecDepth 100000 in
theorem p2_s1058_s {X : Int → Int} {LX : Nat} : ck_Ok p2_O X LX 303 p2_s1058 := ck_ok_s (O := p2_O) (X := X) (LX := LX) (E := [(301, [p2_s1057])]) (mi := 303) (cuts := []) (f := 86) (S := p2_s1058) (lx := none) (XF := []) ⟨p2_nmu, ck_E1 (ck_S1 p2_s1057_s ck_S0) ck_E0⟩ ck_X0 ck_l0 (by decide +kernel)
set_option maxRecDepth 100000 in
/-- GlacierMailModel.ofLetter -/
noncomputable def p2_s1059 : ck_Sum := ((0, 0, 0), 245, [.inr (.inr (.inl 226)), .inl (ck_one 21), .inl (ck_one 5)], ([], [], []), ([], []), [(.inr (some (.inl (ck_one (-1)))), 245, ([], [], [(227, 271, 271, ck_one (-1))])), (.inr (some (.inl (0, 7, []))), 245, ([], [], [(227, 271, 271, (0, 7, []))]))])
set_option maxRecDepth 100000 in
theorem p2_s1059_s {X : Int → Int} {LX : Nat} : ck_Ok p2_O X LX 301 p2_s1059 := ck_ok_s (O := p2_O) (X := X) (LX := LX) (E := []) (mi := 301) (cuts := []) (f := 92) (S := p2_s1059) (lx := none) (XF := []) ⟨p2_nmu, ck_E0⟩ ck_X0 ck_l0 (by decide +kernel)
set_option maxRecDepth 100000 in
/-- GlacierMailModel.isWaiting -/
noncomputable def p2_s1060 : ck_Sum := ((8, 0, 0), 245, [.inr (.inr (.inl 226)), .inl (ck_one 21)], ([], [], zl83), (zl81, []), [(.inr (some (.inl (ck_one 0))), 245, ([], [], [])), (.inr (some (.inl (ck_one 1))), 245, ([], [], [(226, 29, 29, (0, 299, [])), (227, 271, 271, ck_one (-1)), (227, 266, 266, (0, 7, []))]))])
set_option maxRecDepth 100000 in
theorem p2_s1060_s {X : Int → Int} {LX : Nat} : ck_Ok p2_O X LX 302 p2_s1060 := ck_ok_s (O := p2_O) (X := X) (LX := LX) (E := [(303, [p2_s1058]), (301, [p2_s1059]), (304, [p2_s381]), (266, [p2_s190])]) (mi := 302) (cuts := []) (f := 114) (S := p2_s1060) (lx := none) (XF := []) ⟨p2_nmu, ck_E1 (ck_S1 p2_s1058_s ck_S0) (ck_E1 (ck_S1 p2_s1059_s ck_S0) (ck_E1 (ck_S1 p2_s381_s ck_S0) (ck_E1 (ck_S1 p2_s190_s ck_S0) ck_E0)))⟩ ck_X0 ck_l0 (by decide +kernel)
set_option maxRecDepth 100000 in
/-- GlacierMailModel.ofLetter -/
noncomputable def p2_s1061 : ck_Sum := ((0, 0, 0), 245, [.inr (.inr (.inl 226)), .inl (ck_one 21), .inl (ck_one 1)], ([], [], []), ([], []), [(.inr (some (.inl (ck_one (-1)))), 245, ([], [], [(227, 267, 267, ck_one (-1))])), (.inr (some (.inl (0, 7, []))), 245, ([], [], [(227, 267, 267, (0, 7, []))]))])
set_option maxRecDepth 100000 in
theorem p2_s1061_s {X : Int → Int} {LX : Nat} : ck_Ok p2_O X LX 301 p2_s1061 := ck_ok_s (O := p2_O) (X := X) (LX := LX) (E := []) (mi := 301) (cuts := []) (f := 92) (S := p2_s1061) (lx := none) (XF := []) ⟨p2_nmu, ck_E0⟩ ck_X0 ck_l0 (by decide +kernel)
set_option maxRecDepth 100000 in
/-- GlacierMailModel.ofLetter -/
noncomputable def p2_s1062 : ck_Sum := ((0, 0, 0), 245, [.inr (.inr (.inl 226)), .inl (ck_one 21), .inl (ck_one 3)], ([], [], []), ([], []), [(.inr (some (.inl (0, 299, []))), 245, ([], [], []))])
set_option maxRecDepth 100000 in
theorem p2_s1062_s {X : Int → Int} {LX : Nat} : ck_Ok p2_O X LX 301 p2_s1062 := ck_ok_s (O := p2_O) (X := X) (LX := LX) (E := []) (mi := 301) (cuts := []) (f := 92) (S := p2_s1062) (lx := none) (XF := []) ⟨p2_nmu, ck_E0⟩ ck_X0 ck_l0 (by decide +kernel)
/-- GlacierMailModel.opens -/
noncomputable def p2_s1063 : ck_Sum := op_os0 21 (.inl (ck_one (-1))) 0 7 (-1) (-1)
theorem p2_s1063_s {X : Int → Int} {LX : Nat} : ck_Ok p2_O X LX 319 p2_s1063 := op_none (by decide) (by decide) (by decide)
/-- GlacierMailModel.opens -/
noncomputable def p2_s1064 : ck_Sum := op_os 21 0 7
theorem p2_s1064_s {X : Int → Int} {LX : Nat} : ck_Ok p2_O X LX 319 p2_s1064 := op_open (by decide) (by decide) (by decide +kernel)
set_option maxRecDepth 100000 in
/-- GlacierMailModel.open -/
noncomputable def p2_s1065 : ck_Sum := ((9, 0, 0), 245, [.inr (.inr (.inl 226)), .inl (ck_one 21)], ([], [], zl176), ([(226, 0, 0), (226, 6, 6), (226, 17, 23), (226, 26, 26), (226, 29, 30), (227, 14, 14), (227, 271, 272), (227, 323, 394), (230, 0, 4739), (233, 0, 399), (235, 0, 29699), (236, 0, 299), (237, 0, 299)], []), [(.inr (some (.inl (ck_one 0))), 245, ([], [], zl177)), (.inr (some (.inl ((-299), 299, []))), 245, ([], [], [(227, 271, 271, (0, 7, [])), (227, 267, 267, (0, 7, [])), (226, 6, 6, (1, 12, [(1000027, 0)])), (226, 29, 29, (0, 299, [])), (227, 266, 266, (0, 7, [])), (226, 0, 0, ck_one 0)]))])
set_option maxRecDepth 100000 in
theorem p2_s1065_s {X : Int → Int} {LX : Nat} : ck_Ok p2_O X LX 318 p2_s1065 := ck_ok_s (O := p2_O) (X := X) (LX := LX) (E := [(309, [p2_s1056]), (282, [p2_s241, p2_s242, p2_s244, p2_s243]), (302, [p2_s1060]), (316, [p2_s553]), (301, [p2_s1061, p2_s1062]), (319, [p2_s1063, p2_s1064]), (266, [p2_s190])]) (mi := 318) (cuts := []) (f := 142) (S := p2_s1065) (lx := none) (XF := []) ⟨p2_nmu, ck_E1 (ck_S1 p2_s1056_s ck_S0) (ck_E1 (ck_S1 p2_s241_s (ck_S1 p2_s242_s (ck_S1 p2_s244_s (ck_S1 p2_s243_s ck_S0)))) (ck_E1 (ck_S1 p2_s1060_s ck_S0) (ck_E1 (ck_S1 p2_s553_s ck_S0) (ck_E1 (ck_S1 p2_s1061_s (ck_S1 p2_s1062_s ck_S0)) (ck_E1 (ck_S1 p2_s1063_s (ck_S1 p2_s1064_s ck_S0)) (ck_E1 (ck_S1 p2_s190_s ck_S0) ck_E0))))))⟩ ck_X0 ck_l0 (by decide +kernel)
set_option maxRecDepth 100000 in
/-- GlacierMailModel.in -/
noncomputable def p2_s1066 : ck_Sum := ((0, 0, 0), 245, [.inl (ck_one 22), .inl (ck_one 0), .inl ((-1), 23, [])], ([], [], []), ([], []), [(.inr (some (.inl (ck_one 0))), 245, ([], [], [])), (.inr (some (.inl (ck_one 1))), 245, ([], [], []))])
set_option maxRecDepth 100000 in
theorem p2_s1066_s {X : Int → Int} {LX : Nat} : ck_Ok p2_O X LX 286 p2_s1066 := ck_ok_s (O := p2_O) (X := X) (LX := LX) (E := []) (mi := 286) (cuts := []) (f := 88) (S := p2_s1066) (lx := none) (XF := []) ⟨p2_nmu, ck_E0⟩ ck_X0 ck_l0 (by decide +kernel)
set_option maxRecDepth 100000 in
/-- GlacierMailModel.noLetter -/
noncomputable def p2_s1067 : ck_Sum := ((1, 0, 0), 245, [.inr (.inr (.inl 226)), .inl (ck_one 22)], ([], [], [(227, 4, 4, (0, 24, [(22, 0)]))]), ([], []), [(.inr (some (.inl (ck_one 1))), 245, ([], [], [])), (.inr (some (.inl (ck_one 0))), 245, ([], [], []))])
set_option maxRecDepth 100000 in
theorem p2_s1067_s {X : Int → Int} {LX : Nat} : ck_Ok p2_O X LX 309 p2_s1067 := ck_ok_s (O := p2_O) (X := X) (LX := LX) (E := [(254, [p2_s176]), (286, [p2_s1066])]) (mi := 309) (cuts := []) (f := 92) (S := p2_s1067) (lx := none) (XF := []) ⟨p2_nmu, ck_E1 (ck_S1 p2_s176_s ck_S0) (ck_E1 (ck_S1 p2_s1066_s ck_S0) ck_E0)⟩ ck_X0 ck_l0 (by decide +kernel)
set_option maxRecDepth 100000 in
/-- GlacierMailModel.ofLetter -/
noncomputable def p2_s1068 : ck_Sum := ((0, 0, 0), 245, [.inr (.inr (.inl 226)), .inl (ck_one 22), .inl (ck_one 0)], ([], [], []), ([], []), [(.inr (some (.inl (ck_one (-1)))), 245, ([], [], [(227, 273, 273, ck_one (-1))])), (.inr (some (.inl (0, 7, []))), 245, ([], [], [(227, 273, 273, (0, 7, []))]))])
set_option maxRecDepth 100000 in
theorem p2_s1068_s {X : Int → Int} {LX : Nat} : ck_Ok p2_O X LX 301 p2_s1068 := ck_ok_s (O := p2_O) (X := X) (LX := LX) (E := []) (mi := 301) (cuts := []) (f := 92) (S := p2_s1068) (lx := none) (XF := []) ⟨p2_nmu, ck_E0⟩ ck_X0 ck_l0 (by decide +kernel)
set_option maxRecDepth 100000 in
/-- GlacierMailModel.isRock -/
noncomputable def p2_s1069 : ck_Sum := ((1, 0, 0), 245, [.inr (.inr (.inl 226)), .inl (ck_one 22)], ([], [], []), ([], []), [(.inr (some (.inl (ck_one 1))), 245, ([], [], [(227, 273, 273, ck_one (-1))])), (.inr (some (.inl (ck_one 0))), 245, ([], [], [(227, 273, 273, (0, 7, []))]))])
set_option maxRecDepth 100000 in
theorem p2_s1069_s {X : Int → Int} {LX : Nat} : ck_Ok p2_O X LX 303 p2_s1069 := ck_ok_s (O := p2_O) (X := X) (LX := LX) (E := [(301, [p2_s1068])]) (mi := 303) (cuts := []) (f := 86) (S := p2_s1069) (lx := none) (XF := []) ⟨p2_nmu, ck_E1 (ck_S1 p2_s1068_s ck_S0) ck_E0⟩ ck_X0 ck_l0 (by decide +kernel)
set_option maxRecDepth 100000 in
/-- GlacierMailModel.ofLetter -/
noncomputable def p2_s1070 : ck_Sum := ((0, 0, 0), 245, [.inr (.inr (.inl 226)), .inl (ck_one 22), .inl (ck_one 5)], ([], [], []), ([], []), [(.inr (some (.inl (ck_one (-1)))), 245, ([], [], [(227, 278, 278, ck_one (-1))])), (.inr (some (.inl (0, 7, []))), 245, ([], [], [(227, 278, 278, (0, 7, []))]))])
set_option maxRecDepth 100000 in
theorem p2_s1070_s {X : Int → Int} {LX : Nat} : ck_Ok p2_O X LX 301 p2_s1070 := ck_ok_s (O := p2_O) (X := X) (LX := LX) (E := []) (mi := 301) (cuts := []) (f := 92) (S := p2_s1070) (lx := none) (XF := []) ⟨p2_nmu, ck_E0⟩ ck_X0 ck_l0 (by decide +kernel)
set_option maxRecDepth 100000 in
/-- GlacierMailModel.isWaiting -/
noncomputable def p2_s1071 : ck_Sum := ((8, 0, 0), 245, [.inr (.inr (.inl 226)), .inl (ck_one 22)], ([], [], zl83), (zl81, []), [(.inr (some (.inl (ck_one 0))), 245, ([], [], [])), (.inr (some (.inl (ck_one 1))), 245, ([], [], [(226, 29, 29, (0, 299, [])), (227, 278, 278, ck_one (-1)), (227, 273, 273, (0, 7, []))]))])
set_option maxRecDepth 100000 in
theorem p2_s1071_s {X : Int → Int} {LX : Nat} : ck_Ok p2_O X LX 302 p2_s1071 := ck_ok_s (O := p2_O) (X := X) (LX := LX) (E := [(303, [p2_s1069]), (301, [p2_s1070]), (304, [p2_s381]), (266, [p2_s190])]) (mi := 302) (cuts := []) (f := 114) (S := p2_s1071) (lx := none) (XF := []) ⟨p2_nmu, ck_E1 (ck_S1 p2_s1069_s ck_S0) (ck_E1 (ck_S1 p2_s1070_s ck_S0) (ck_E1 (ck_S1 p2_s381_s ck_S0) (ck_E1 (ck_S1 p2_s190_s ck_S0) ck_E0)))⟩ ck_X0 ck_l0 (by decide +kernel)
set_option maxRecDepth 100000 in
/-- GlacierMailModel.ofLetter -/
noncomputable def p2_s1072 : ck_Sum := ((0, 0, 0), 245, [.inr (.inr (.inl 226)), .inl (ck_one 22), .inl (ck_one 1)], ([], [], []), ([], []), [(.inr (some (.inl (ck_one (-1)))), 245, ([], [], [(227, 274, 274, ck_one (-1))])), (.inr (some (.inl (0, 7, []))), 245, ([], [], [(227, 274, 274, (0, 7, []))]))])
set_option maxRecDepth 100000 in
theorem p2_s1072_s {X : Int → Int} {LX : Nat} : ck_Ok p2_O X LX 301 p2_s1072 := ck_ok_s (O := p2_O) (X := X) (LX := LX) (E := []) (mi := 301) (cuts := []) (f := 92) (S := p2_s1072) (lx := none) (XF := []) ⟨p2_nmu, ck_E0⟩ ck_X0 ck_l0 (by decide +kernel)
set_option maxRecDepth 100000 in
/-- GlacierMailModel.ofLetter -/
noncomputable def p2_s1073 : ck_Sum := ((0, 0, 0), 245, [.inr (.inr (.inl 226)), .inl (ck_one 22), .inl (ck_one 3)], ([], [], []), ([], []), [(.inr (some (.inl (0, 299, []))), 245, ([], [], []))])
set_option maxRecDepth 100000 in
theorem p2_s1073_s {X : Int → Int} {LX : Nat} : ck_Ok p2_O X LX 301 p2_s1073 := ck_ok_s (O := p2_O) (X := X) (LX := LX) (E := []) (mi := 301) (cuts := []) (f := 92) (S := p2_s1073) (lx := none) (XF := []) ⟨p2_nmu, ck_E0⟩ ck_X0 ck_l0 (by decide +kernel)
/-- GlacierMailModel.opens -/
noncomputable def p2_s1074 : ck_Sum := op_os0 22 (.inl (ck_one (-1))) 0 7 (-1) (-1)
theorem p2_s1074_s {X : Int → Int} {LX : Nat} : ck_Ok p2_O X LX 319 p2_s1074 := op_none (by decide) (by decide) (by decide)
/-- GlacierMailModel.opens -/
noncomputable def p2_s1075 : ck_Sum := op_os 22 0 7
theorem p2_s1075_s {X : Int → Int} {LX : Nat} : ck_Ok p2_O X LX 319 p2_s1075 := op_open (by decide) (by decide) (by decide +kernel)
set_option maxRecDepth 100000 in
/-- GlacierMailModel.open -/
noncomputable def p2_s1076 : ck_Sum := ((9, 0, 0), 245, [.inr (.inr (.inl 226)), .inl (ck_one 22)], ([], [], zl176), ([(226, 0, 0), (226, 6, 6), (226, 17, 23), (226, 26, 26), (226, 29, 30), (227, 14, 14), (227, 278, 279), (227, 323, 394), (230, 0, 4739), (233, 0, 399), (235, 0, 29699), (236, 0, 299), (237, 0, 299)], []), [(.inr (some (.inl (ck_one 0))), 245, ([], [], zl177)), (.inr (some (.inl ((-299), 299, []))), 245, ([], [], [(227, 278, 278, (0, 7, [])), (227, 274, 274, (0, 7, [])), (226, 6, 6, (1, 12, [(1000027, 0)])), (226, 29, 29, (0, 299, [])), (227, 273, 273, (0, 7, [])), (226, 0, 0, ck_one 0)]))])
set_option maxRecDepth 100000 in
theorem p2_s1076_s {X : Int → Int} {LX : Nat} : ck_Ok p2_O X LX 318 p2_s1076 := ck_ok_s (O := p2_O) (X := X) (LX := LX) (E := [(309, [p2_s1067]), (282, [p2_s241, p2_s242, p2_s244, p2_s243]), (302, [p2_s1071]), (316, [p2_s553]), (301, [p2_s1072, p2_s1073]), (319, [p2_s1074, p2_s1075]), (266, [p2_s190])]) (mi := 318) (cuts := []) (f := 142) (S := p2_s1076) (lx := none) (XF := []) ⟨p2_nmu, ck_E1 (ck_S1 p2_s1067_s ck_S0) (ck_E1 (ck_S1 p2_s241_s (ck_S1 p2_s242_s (ck_S1 p2_s244_s (ck_S1 p2_s243_s ck_S0)))) (ck_E1 (ck_S1 p2_s1071_s ck_S0) (ck_E1 (ck_S1 p2_s553_s ck_S0) (ck_E1 (ck_S1 p2_s1072_s (ck_S1 p2_s1073_s ck_S0)) (ck_E1 (ck_S1 p2_s1074_s (ck_S1 p2_s1075_s ck_S0)) (ck_E1 (ck_S1 p2_s190_s ck_S0) ck_E0))))))⟩ ck_X0 ck_l0 (by decide +kernel)
set_option maxRecDepth 100000 in
/-- GlacierMailModel.in -/
noncomputable def p2_s1077 : ck_Sum := ((0, 0, 0), 245, [.inl (ck_one 23), .inl (ck_one 0), .inl ((-1), 23, [])], ([], [], []), ([], []), [(.inr (some (.inl (ck_one 0))), 245, ([], [], [])), (.inr (some (.inl (ck_one 1))), 245, ([], [], []))])
set_option maxRecDepth 100000 in
theorem p2_s1077_s {X : Int → Int} {LX : Nat} : ck_Ok p2_O X LX 286 p2_s1077 := ck_ok_s (O := p2_O) (X := X) (LX := LX) (E := []) (mi := 286) (cuts := []) (f := 88) (S := p2_s1077) (lx := none) (XF := []) ⟨p2_nmu, ck_E0⟩ ck_X0 ck_l0 (by decide +kernel)
set_option maxRecDepth 100000 in
/-- GlacierMailModel.noLetter -/
noncomputable def p2_s1078 : ck_Sum := ((1, 0, 0), 245, [.inr (.inr (.inl 226)), .inl (ck_one 23)], ([], [], [(227, 4, 4, (0, 24, [(22, 0)]))]), ([], []), [(.inr (some (.inl (ck_one 1))), 245, ([], [], [])), (.inr (some (.inl (ck_one 0))), 245, ([], [], []))])
set_option maxRecDepth 100000 in
theorem p2_s1078_s {X : Int → Int} {LX : Nat} : ck_Ok p2_O X LX 309 p2_s1078 := ck_ok_s (O := p2_O) (X := X) (LX := LX) (E := [(254, [p2_s176]), (286, [p2_s1077])]) (mi := 309) (cuts := []) (f := 92) (S := p2_s1078) (lx := none) (XF := []) ⟨p2_nmu, ck_E1 (ck_S1 p2_s176_s ck_S0) (ck_E1 (ck_S1 p2_s1077_s ck_S0) ck_E0)⟩ ck_X0 ck_l0 (by decide +kernel)
set_option maxRecDepth 100000 in
/-- GlacierMailModel.ofLetter -/
noncomputable def p2_s1079 : ck_Sum := ((0, 0, 0), 245, [.inr (.inr (.inl 226)), .inl (ck_one 23), .inl (ck_one 0)], ([], [], []), ([], []), [(.inr (some (.inl (ck_one (-1)))), 245, ([], [], [(227, 280, 280, ck_one (-1))])), (.inr (some (.inl (0, 7, []))), 245, ([], [], [(227, 280, 280, (0, 7, []))]))])
set_option maxRecDepth 100000 in
theorem p2_s1079_s {X : Int → Int} {LX : Nat} : ck_Ok p2_O X LX 301 p2_s1079 := ck_ok_s (O := p2_O) (X := X) (LX := LX) (E := []) (mi := 301) (cuts := []) (f := 92) (S := p2_s1079) (lx := none) (XF := []) ⟨p2_nmu, ck_E0⟩ ck_X0 ck_l0 (by decide +kernel)
set_option maxRecDepth 100000 in
/-- GlacierMailModel.isRock -/
noncomputable def p2_s1080 : ck_Sum := ((1, 0, 0), 245, [.inr (.inr (.inl 226)), .inl (ck_one 23)], ([], [], []), ([], []), [(.inr (some (.inl (ck_one 1))), 245, ([], [], [(227, 280, 280, ck_one (-1))])), (.inr (some (.inl (ck_one 0))), 245, ([], [], [(227, 280, 280, (0, 7, []))]))])
set_option maxRecDepth 100000 in
theorem p2_s1080_s {X : Int → Int} {LX : Nat} : ck_Ok p2_O X LX 303 p2_s1080 := ck_ok_s (O := p2_O) (X := X) (LX := LX) (E := [(301, [p2_s1079])]) (mi := 303) (cuts := []) (f := 86) (S := p2_s1080) (lx := none) (XF := []) ⟨p2_nmu, ck_E1 (ck_S1 p2_s1079_s ck_S0) ck_E0⟩ ck_X0 ck_l0 (by decide +kernel)
end
/-! 78r80a12.sf -/
section
/-! EVERY CALL ENDS, whatever was done before (laid by wip/am/p2k.py). -/
set_option maxRecDepth 100000 in
/-- GlacierMailModel.ofLetter -/
noncomputable def p2_s1081 : ck_Sum := ((0, 0, 0), 245, [.inr (.inr (.inl 226)), .inl (ck_one 23), .inl (ck_one 5)], ([], [], []), ([], []), [(.inr (some (.inl (ck_one (-1)))), 245, ([], [], [(227, 285, 285, ck_one (-1))])), (.inr (some (.inl (0, 7, []))), 245, ([], [], [(227, 285, 285, (0, 7, []))]))])
set_option maxRecDepth 100000 in
theorem p2_s1081_s {X : Int → Int} {LX : Nat} : ck_Ok p2_O X LX 301 p2_s1081 := ck_ok_s (O := p2_O) (X := X) (LX := LX) (E := []) (mi := 301) (cuts := []) (f := 92) (S := p2_s1081) (lx := none) (XF := []) ⟨p2_nmu, ck_E0⟩ ck_X0 ck_l0 (by decide +kernel)
set_option maxRecDepth 100000 in
/-- GlacierMailModel.isWaiting -/
noncomputable def p2_s1082 : ck_Sum := ((8, 0, 0), 245, [.inr (.inr (.inl 226)), .inl (ck_one 23)], ([], [], zl83), (zl81, []), [(.inr (some (.inl (ck_one 0))), 245, ([], [], [])), (.inr (some (.inl (ck_one 1))), 245, ([], [], [(226, 29, 29, (0, 299, [])), (227, 285, 285, ck_one (-1)), (227, 280, 280, (0, 7, []))]))])
set_option maxRecDepth 100000 in
theorem p2_s1082_s {X : Int → Int} {LX : Nat} : ck_Ok p2_O X LX 302 p2_s1082 := ck_ok_s (O := p2_O) (X := X) (LX := LX) (E := [(303, [p2_s1080]), (301, [p2_s1081]), (304, [p2_s381]), (266, [p2_s190])]) (mi := 302) (cuts := []) (f := 114) (S := p2_s1082) (lx := none) (XF := []) ⟨p2_nmu, ck_E1 (ck_S1 p2_s1080_s ck_S0) (ck_E1 (ck_S1 p2_s1081_s ck_S0) (ck_E1 (ck_S1 p2_s381_s ck_S0) (ck_E1 (ck_S1 p2_s190_s ck_S0) ck_E0)))⟩ ck_X0 ck_l0 (by decide +kernel)
set_option maxRecDepth 100000 in
/-- GlacierMailModel.ofLetter -/
noncomputable def p2_s1083 : ck_Sum := ((0, 0, 0), 245, [.inr (.inr (.inl 226)), .inl (ck_one 23), .inl (ck_one 1)], ([], [], []), ([], []), [(.inr (some (.inl (ck_one (-1)))), 245, ([], [], [(227, 281, 281, ck_one (-1))])), (.inr (some (.inl (0, 7, []))), 245, ([], [], [(227, 281, 281, (0, 7, []))]))])
set_option maxRecDepth 100000 in
theorem p2_s1083_s {X : Int → Int} {LX : Nat} : ck_Ok p2_O X LX 301 p2_s1083 := ck_ok_s (O := p2_O) (X := X) (LX := LX) (E := []) (mi := 301) (cuts := []) (f := 92) (S := p2_s1083) (lx := none) (XF := []) ⟨p2_nmu, ck_E0⟩ ck_X0 ck_l0 (by decide +kernel)
set_option maxRecDepth 100000 in
/-- GlacierMailModel.ofLetter -/
noncomputable def p2_s1084 : ck_Sum := ((0, 0, 0), 245, [.inr (.inr (.inl 226)), .inl (ck_one 23), .inl (ck_one 3)], ([], [], []), ([], []), [(.inr (some (.inl (0, 299, []))), 245, ([], [], []))])
set_option maxRecDepth 100000 in
theorem p2_s1084_s {X : Int → Int} {LX : Nat} : ck_Ok p2_O X LX 301 p2_s1084 := ck_ok_s (O := p2_O) (X := X) (LX := LX) (E := []) (mi := 301) (cuts := []) (f := 92) (S := p2_s1084) (lx := none) (XF := []) ⟨p2_nmu, ck_E0⟩ ck_X0 ck_l0 (by decide +kernel)
/-- GlacierMailModel.opens -/
noncomputable def p2_s1085 : ck_Sum := op_os0 23 (.inl (ck_one (-1))) 0 7 (-1) (-1)
theorem p2_s1085_s {X : Int → Int} {LX : Nat} : ck_Ok p2_O X LX 319 p2_s1085 := op_none (by decide) (by decide) (by decide)
/-- GlacierMailModel.opens -/
noncomputable def p2_s1086 : ck_Sum := op_os 23 0 7
theorem p2_s1086_s {X : Int → Int} {LX : Nat} : ck_Ok p2_O X LX 319 p2_s1086 := op_open (by decide) (by decide) (by decide +kernel)
set_option maxRecDepth 100000 in
/-- GlacierMailModel.open -/
noncomputable def p2_s1087 : ck_Sum := ((9, 0, 0), 245, [.inr (.inr (.inl 226)), .inl (ck_one 23)], ([], [], zl176), ([(226, 0, 0), (226, 6, 6), (226, 17, 23), (226, 26, 26), (226, 29, 30), (227, 14, 14), (227, 285, 286), (227, 323, 394), (230, 0, 4739), (233, 0, 399), (235, 0, 29699), (236, 0, 299), (237, 0, 299)], []), [(.inr (some (.inl (ck_one 0))), 245, ([], [], zl177)), (.inr (some (.inl ((-299), 299, []))), 245, ([], [], [(227, 285, 285, (0, 7, [])), (227, 281, 281, (0, 7, [])), (226, 6, 6, (1, 12, [(1000027, 0)])), (226, 29, 29, (0, 299, [])), (227, 280, 280, (0, 7, [])), (226, 0, 0, ck_one 0)]))])
set_option maxRecDepth 100000 in
theorem p2_s1087_s {X : Int → Int} {LX : Nat} : ck_Ok p2_O X LX 318 p2_s1087 := ck_ok_s (O := p2_O) (X := X) (LX := LX) (E := [(309, [p2_s1078]), (282, [p2_s241, p2_s242, p2_s244, p2_s243]), (302, [p2_s1082]), (316, [p2_s553]), (301, [p2_s1083, p2_s1084]), (319, [p2_s1085, p2_s1086]), (266, [p2_s190])]) (mi := 318) (cuts := []) (f := 142) (S := p2_s1087) (lx := none) (XF := []) ⟨p2_nmu, ck_E1 (ck_S1 p2_s1078_s ck_S0) (ck_E1 (ck_S1 p2_s241_s (ck_S1 p2_s242_s (ck_S1 p2_s244_s (ck_S1 p2_s243_s ck_S0)))) (ck_E1 (ck_S1 p2_s1082_s ck_S0) (ck_E1 (ck_S1 p2_s553_s ck_S0) (ck_E1 (ck_S1 p2_s1083_s (ck_S1 p2_s1084_s ck_S0)) (ck_E1 (ck_S1 p2_s1085_s (ck_S1 p2_s1086_s ck_S0)) (ck_E1 (ck_S1 p2_s190_s ck_S0) ck_E0))))))⟩ ck_X0 ck_l0 (by decide +kernel)
set_option maxRecDepth 100000 in
/-- GlacierMail.years -/
noncomputable def p2_s1088 : ck_Sum := ((6, 1, 6), 245, [.inr (.inr (.inl 1)), .inl ((-2147483648), 0, [])], ([], [], []), ([], []), [(.inl 0, 245, ([], [], []))])
set_option maxRecDepth 100000 in
theorem p2_s1088_s {X : Int → Int} {LX : Nat} : ck_Ok p2_O X LX 161 p2_s1088 := ck_ok_s (O := p2_O) (X := X) (LX := LX) (E := []) (mi := 161) (cuts := []) (f := 78) (S := p2_s1088) (lx := none) (XF := []) ⟨p2_nmu, ck_E0⟩ ck_X0 ck_l0 (by decide +kernel)
set_option maxRecDepth 100000 in
/-- GlacierMail.years -/
noncomputable def p2_s1089 : ck_Sum := ((6, 1, 6), 245, [.inr (.inr (.inl 1)), .inl (51, 2147483647, [])], ([], [], []), ([], []), [(.inl 0, 245, ([], [], []))])
set_option maxRecDepth 100000 in
theorem p2_s1089_s {X : Int → Int} {LX : Nat} : ck_Ok p2_O X LX 161 p2_s1089 := ck_ok_s (O := p2_O) (X := X) (LX := LX) (E := []) (mi := 161) (cuts := []) (f := 84) (S := p2_s1089) (lx := none) (XF := []) ⟨p2_nmu, ck_E0⟩ ck_X0 ck_l0 (by decide +kernel)
set_option maxRecDepth 100000 in
/-- GlacierMail$Ice.mayOpen -/
noncomputable def p2_s1090 : ck_Sum := ((0, 0, 0), 245, [.inr (.inr (.inl 200)), .inl (0, 7, []), .inl ((-1), 98, []), .inl ((-299), 300, []), .inl ((-2147483648), 299, [])], ([], [(3, 8, 0)], []), ([], []), [(.inr (some (.inl (ck_one 0))), 245, ([], [], []))])
set_option maxRecDepth 100000 in
theorem p2_s1090_s {X : Int → Int} {LX : Nat} : ck_Ok p2_O X LX 164 p2_s1090 := ck_ok_s (O := p2_O) (X := X) (LX := LX) (E := []) (mi := 164) (cuts := []) (f := 82) (S := p2_s1090) (lx := none) (XF := []) ⟨p2_nmu, ck_E0⟩ ck_X0 ck_l0 (by decide +kernel)
set_option maxRecDepth 100000 in
/-- GlacierMail.openerOf -/
noncomputable def p2_s1091 : ck_Sum := ((1, 0, 0), 245, [.inr (.inr (.inl 1)), .inl (0, 23, [])], ([], [(3, 8, 0)], [(3, 6, 6, (0, 299, [(10, 0)]))]), ([], []), [(.inr (some (.inl ((-1), 299, []))), 245, ([], [], []))])
set_option maxRecDepth 100000 in
theorem p2_s1091_s {X : Int → Int} {LX : Nat} : ck_Ok p2_O X LX 163 p2_s1091 := ck_ok_s (O := p2_O) (X := X) (LX := LX) (E := [(10, [p2_s335, p2_s356, p2_s350]), (9, [p2_s320]), (164, [p2_s1090])]) (mi := 163) (cuts := [(69, [some (.inr (.inr (.inl 1))), some (.inl (0, 23, [])), some (.inl ((-1), 299, [])), some (.inl ((-1), 299, [])), some (.inl ((-299), 300, [])), some (.inl (0, 9, []))], ([], [(3, 8, 0)], [(3, 6, 6, (0, 299, [(10, 0)]))]), 100, .inl 5, true)]) (f := 234) (S := p2_s1091) (lx := none) (XF := []) ⟨p2_nmu, ck_E1 (ck_S1 p2_s335_s (ck_S1 p2_s356_s (ck_S1 p2_s350_s ck_S0))) (ck_E1 (ck_S1 p2_s320_s ck_S0) (ck_E1 (ck_S1 p2_s1090_s ck_S0) ck_E0))⟩ ck_X0 ck_l0 (by decide +kernel)
set_option maxRecDepth 100000 in
/-- GlacierMail$Rows.put -/
noncomputable def p2_s1092 : ck_Sum := ((0, 0, 0), 245, [.inr (.inr (.inl 10)), .inl (0, 23, []), .inl (ck_one 5), .inl (0, 299, [])], ([], [], []), (zl137, []), [(.inr none, 245, ([], [], []))])
set_option maxRecDepth 100000 in
theorem p2_s1092_s {X : Int → Int} {LX : Nat} : ck_Ok p2_O X LX 45 p2_s1092 := ck_ok_s (O := p2_O) (X := X) (LX := LX) (E := []) (mi := 45) (cuts := []) (f := 116) (S := p2_s1092) (lx := none) (XF := []) ⟨p2_nmu, ck_E0⟩ ck_X0 ck_l0 (by decide +kernel)
set_option maxRecDepth 100000 in
/-- GlacierMail$Rows.put -/
noncomputable def p2_s1093 : ck_Sum := ((0, 0, 0), 245, [.inr (.inr (.inl 10)), .inl (0, 23, []), .inl (ck_one 6), .inl (0, 299, [])], ([], [], []), (zl138, []), [(.inr none, 245, ([], [], []))])
set_option maxRecDepth 100000 in
theorem p2_s1093_s {X : Int → Int} {LX : Nat} : ck_Ok p2_O X LX 45 p2_s1093 := ck_ok_s (O := p2_O) (X := X) (LX := LX) (E := []) (mi := 45) (cuts := []) (f := 116) (S := p2_s1093) (lx := none) (XF := []) ⟨p2_nmu, ck_E0⟩ ck_X0 ck_l0 (by decide +kernel)
set_option maxRecDepth 100000 in
/-- GlacierMail$Rows.put -/
noncomputable def p2_s1094 : ck_Sum := ((0, 0, 0), 245, [.inr (.inr (.inl 14)), .inl (0, 23, []), .inl (ck_one 1), .inl (0, 23, [])], ([], [], []), (zl173, []), [(.inr none, 245, ([], [], []))])
set_option maxRecDepth 100000 in
theorem p2_s1094_s {X : Int → Int} {LX : Nat} : ck_Ok p2_O X LX 45 p2_s1094 := ck_ok_s (O := p2_O) (X := X) (LX := LX) (E := []) (mi := 45) (cuts := []) (f := 116) (S := p2_s1094) (lx := none) (XF := []) ⟨p2_nmu, ck_E0⟩ ck_X0 ck_l0 (by decide +kernel)
set_option maxRecDepth 100000 in
/-- GlacierMail$Rows.put -/
noncomputable def p2_s1095 : ck_Sum := ((0, 0, 0), 245, [.inr (.inr (.inl 14)), .inl (0, 23, []), .inl (ck_one 2), .inl (0, 299, [])], ([], [], []), (zl174, []), [(.inr none, 245, ([], [], []))])
set_option maxRecDepth 100000 in
theorem p2_s1095_s {X : Int → Int} {LX : Nat} : ck_Ok p2_O X LX 45 p2_s1095 := ck_ok_s (O := p2_O) (X := X) (LX := LX) (E := []) (mi := 45) (cuts := []) (f := 116) (S := p2_s1095) (lx := none) (XF := []) ⟨p2_nmu, ck_E0⟩ ck_X0 ck_l0 (by decide +kernel)
set_option maxRecDepth 100000 in
/-- GlacierMail$Rows.put -/
noncomputable def p2_s1096 : ck_Sum := ((0, 0, 0), 245, [.inr (.inr (.inl 14)), .inl (ck_one (-1)), .inl (ck_one 1), .inl (0, 23, [])], ([], [], []), ([], []), [(.inr none, 245, ([], [], []))])
set_option maxRecDepth 100000 in
theorem p2_s1096_s {X : Int → Int} {LX : Nat} : ck_Ok p2_O X LX 45 p2_s1096 := ck_ok_s (O := p2_O) (X := X) (LX := LX) (E := []) (mi := 45) (cuts := []) (f := 76) (S := p2_s1096) (lx := none) (XF := []) ⟨p2_nmu, ck_E0⟩ ck_X0 ck_l0 (by decide +kernel)
set_option maxRecDepth 100000 in
/-- GlacierMail$Rows.put -/
noncomputable def p2_s1097 : ck_Sum := ((0, 0, 0), 245, [.inr (.inr (.inl 14)), .inl (ck_one (-1)), .inl (ck_one 2), .inl (0, 299, [])], ([], [], []), ([], []), [(.inr none, 245, ([], [], []))])
set_option maxRecDepth 100000 in
theorem p2_s1097_s {X : Int → Int} {LX : Nat} : ck_Ok p2_O X LX 45 p2_s1097 := ck_ok_s (O := p2_O) (X := X) (LX := LX) (E := []) (mi := 45) (cuts := []) (f := 76) (S := p2_s1097) (lx := none) (XF := []) ⟨p2_nmu, ck_E0⟩ ck_X0 ck_l0 (by decide +kernel)
set_option maxRecDepth 100000 in
/-- GlacierMail$State.openLetter -/
noncomputable def p2_s1098 : ck_Sum := ((1, 0, 0), 245, [.inr (.inr (.inl 3)), .inl (0, 23, []), .inl (0, 299, [])], ([], [], [(3, 6, 6, (0, 299, [(10, 0)]))]), (zl178, []), [(.inr none, 245, ([], [], [(14, 3, 3, (1, 24, []))]))])
set_option maxRecDepth 100000 in
theorem p2_s1098_s {X : Int → Int} {LX : Nat} : ck_Ok p2_O X LX 159 p2_s1098 := ck_ok_s (O := p2_O) (X := X) (LX := LX) (E := [(45, [p2_s1092, p2_s1093, p2_s583, p2_s1094, p2_s1095, p2_s586, p2_s1096, p2_s1097]), (102, [p2_s589])]) (mi := 159) (cuts := []) (f := 144) (S := p2_s1098) (lx := none) (XF := []) ⟨p2_nmu, ck_E1 (ck_S1 p2_s1092_s (ck_S1 p2_s1093_s (ck_S1 p2_s583_s (ck_S1 p2_s1094_s (ck_S1 p2_s1095_s (ck_S1 p2_s586_s (ck_S1 p2_s1096_s (ck_S1 p2_s1097_s ck_S0)))))))) (ck_E1 (ck_S1 p2_s589_s ck_S0) ck_E0)⟩ ck_X0 ck_l0 (by decide +kernel)
set_option maxRecDepth 100000 in
/-- GlacierMail.oneYearMore -/
noncomputable def p2_s1099 : ck_Sum := ((3, 0, 0), 245, [.inr (.inr (.inl 1))], ([], [(3, 8, 0)], [(3, 6, 6, (0, 298, [(10, 0)]))]), ([(3, 6, 6), (11, 5, 6), (11, 12, 13), (11, 19, 20), (11, 26, 27), (11, 33, 34), (11, 40, 41), (11, 47, 48), (11, 54, 55), (11, 61, 62), (11, 68, 69), (11, 75, 76), (11, 82, 83), (11, 89, 90), (11, 96, 97), (11, 103, 104), (11, 110, 111), (11, 117, 118), (11, 124, 125), (11, 131, 132), (11, 138, 139), (11, 145, 146), (11, 152, 153), (11, 159, 160), (11, 166, 167), (14, 3, 3), (15, 0, 71)], []), [(.inr (some (.inl ((-2147483648), 2147483647, []))), 245, ([], [], [(3, 6, 6, (1, 299, [(10, 1)]))]))])
set_option maxRecDepth 100000 in
theorem p2_s1099_s {X : Int → Int} {LX : Nat} : ck_Ok p2_O X LX 162 p2_s1099 := ck_ok_s (O := p2_O) (X := X) (LX := LX) (E := [(9, [p2_s331]), (66, [p2_s352]), (163, [p2_s1091]), (159, [p2_s1098])]) (mi := 162) (cuts := [(17, [some (.inr (.inr (.inl 1))), some (.inl ((-2147483648), 2147483647, [])), some (.inl (0, 24, [])), none], ([], [(3, 8, 0)], [(3, 6, 6, (1, 299, [(10, 1)]))]), 100, .inl 2, true)]) (f := 194) (S := p2_s1099) (lx := none) (XF := []) ⟨p2_nmu, ck_E1 (ck_S1 p2_s331_s ck_S0) (ck_E1 (ck_S1 p2_s352_s ck_S0) (ck_E1 (ck_S1 p2_s1091_s ck_S0) (ck_E1 (ck_S1 p2_s1098_s ck_S0) ck_E0)))⟩ ck_X0 ck_l0 (by decide +kernel)
set_option maxRecDepth 100000 in
/-- GlacierMail.years, any number -/
noncomputable def p2_yy : ck_Sum := ((6, 1, 6), 245, [.inr (.inr (.inl 1)), .inl (1, 50, [])], ([], zl102, [(3, 6, 6, (0, 299, [(10, 0)]))]), ([(1, 15, 15), (3, 6, 6), (11, 5, 6), (11, 12, 13), (11, 19, 20), (11, 26, 27), (11, 33, 34), (11, 40, 41), (11, 47, 48), (11, 54, 55), (11, 61, 62), (11, 68, 69), (11, 75, 76), (11, 82, 83), (11, 89, 90), (11, 96, 97), (11, 103, 104), (11, 110, 111), (11, 117, 118), (11, 124, 125), (11, 131, 132), (11, 138, 139), (11, 145, 146), (11, 152, 153), (11, 159, 160), (11, 166, 167), (14, 3, 3), (15, 0, 71), (42, 1, 2), (44, 0, 7), (45, 3, 3), (46, 0, 55), (47, 3, 3), (48, 0, 23), (49, 3, 3), (50, 0, 23), (51, 3, 3), (52, 0, 167), (53, 3, 3), (54, 0, 35), (55, 3, 3), (56, 0, 71), (57, 0, 7), (58, 3, 3), (59, 0, 55), (60, 3, 3), (61, 0, 23), (62, 3, 3), (63, 0, 23), (64, 3, 3), (65, 0, 167), (66, 3, 3), (67, 0, 35), (68, 3, 3), (69, 0, 71), (70, 0, 7), (71, 3, 3), (72, 0, 55), (73, 3, 3), (74, 0, 23), (75, 3, 3), (76, 0, 23), (77, 3, 3), (78, 0, 167), (79, 3, 3), (80, 0, 35), (81, 3, 3), (82, 0, 71), (83, 0, 7), (84, 3, 3), (85, 0, 55), (86, 3, 3), (87, 0, 23), (88, 3, 3), (89, 0, 23), (90, 3, 3), (91, 0, 167), (92, 3, 3), (93, 0, 35), (94, 3, 3), (95, 0, 71), (96, 0, 7), (97, 3, 3), (98, 0, 55), (99, 3, 3), (100, 0, 23), (101, 3, 3), (102, 0, 23), (103, 3, 3), (104, 0, 167), (105, 3, 3), (106, 0, 35), (107, 3, 3), (108, 0, 71), (109, 0, 7), (110, 3, 3), (111, 0, 55), (112, 3, 3), (113, 0, 23), (114, 3, 3), (115, 0, 23), (116, 3, 3), (117, 0, 167), (118, 3, 3), (119, 0, 35), (120, 3, 3), (121, 0, 71), (122, 0, 7), (123, 3, 3), (124, 0, 55), (125, 3, 3), (126, 0, 23), (127, 3, 3), (128, 0, 23), (129, 3, 3), (130, 0, 167), (131, 3, 3), (132, 0, 35), (133, 3, 3), (134, 0, 71), (135, 0, 7), (136, 3, 3), (137, 0, 55), (138, 3, 3), (139, 0, 23), (140, 3, 3), (141, 0, 23), (142, 3, 3), (143, 0, 167), (144, 3, 3), (145, 0, 35), (146, 3, 3), (147, 0, 71), (148, 0, 7), (149, 3, 3), (150, 0, 55), (151, 3, 3), (152, 0, 23), (153, 3, 3), (154, 0, 23), (155, 3, 3), (156, 0, 167), (157, 3, 3), (158, 0, 35), (159, 3, 3), (160, 0, 71), (161, 0, 7), (162, 3, 3), (163, 0, 55), (164, 3, 3), (165, 0, 23), (166, 3, 3), (167, 0, 23), (168, 3, 3), (169, 0, 167), (170, 3, 3), (171, 0, 35), (172, 3, 3), (173, 0, 71), (174, 0, 7), (175, 3, 3), (176, 0, 55), (177, 3, 3), (178, 0, 23), (179, 3, 3), (180, 0, 23), (181, 3, 3), (182, 0, 167), (183, 3, 3), (184, 0, 35), (185, 3, 3), (186, 0, 71), (187, 0, 7), (188, 3, 3), (189, 0, 55), (190, 3, 3), (191, 0, 23), (192, 3, 3), (193, 0, 23), (194, 3, 3), (195, 0, 167), (196, 3, 3), (197, 0, 35), (198, 3, 3), (199, 0, 71), (206, 2, 8), (220, 3, 3), (221, 0, 47)], zl104), [(.inr (some (.inl ((-2147483648), 2147483647, []))), 245, ([], zl105, [])), (.inr (some (.inl ((-2147483648), 2147483647, []))), 245, ([], zl129, [])), (.inr (some (.inl ((-2147483648), 2147483647, []))), 245, ([], zl127, [])), (.inr (some (.inl ((-2147483648), 2147483647, []))), 245, ([], zl125, [])), (.inr (some (.inl ((-2147483648), 2147483647, []))), 245, ([], zl123, [])), (.inr (some (.inl ((-2147483648), 2147483647, []))), 245, ([], zl121, [])), (.inr (some (.inl ((-2147483648), 2147483647, []))), 245, ([], zl119, [])), (.inr (some (.inl ((-2147483648), 2147483647, []))), 245, ([], zl117, [])), (.inr (some (.inl ((-2147483648), 2147483647, []))), 245, ([], zl115, [])), (.inr (some (.inl ((-2147483648), 2147483647, []))), 245, ([], zl113, [])), (.inr (some (.inl ((-2147483648), 2147483647, []))), 245, ([], zl111, [])), (.inr (some (.inl ((-2147483648), 2147483647, []))), 245, ([], zl109, [])), (.inr (some (.inl ((-2147483648), 2147483647, []))), 245, ([], zl107, [])), (.inl 0, 245, ([], zl105, []))])
noncomputable def p2_yy_E : List (Nat × List ck_Sum) := [(154, [p2_s529]), (24, [p2_s349]), (162, [p2_s1099])]
noncomputable def p2_yy_RF : List (Nat × Int × Nat) := [(3, 8, 0), (44, 8, 100044), (57, 8, 100057), (70, 8, 100070), (83, 8, 100083), (96, 8, 100096), (109, 8, 100109), (122, 8, 100122), (135, 8, 100135), (148, 8, 100148), (161, 8, 100161), (174, 8, 100174), (187, 8, 100187)]
set_option maxRecDepth 100000 in
noncomputable def p2_yy_RS : List (Nat × List (Nat × Int × Nat)) := [(0, [(3, 8, 0), (44, 8, 100044), (57, 8, 100057), (70, 8, 100070), (83, 8, 100083), (96, 8, 100096), (109, 8, 100109), (122, 8, 100122), (135, 8, 100135), (148, 8, 100148), (161, 8, 100161), (174, 8, 100174), (187, 8, 100187)]), (2000000, [(3, 8, 0), (44, 8, 0), (57, 8, 100057), (70, 8, 100070), (83, 8, 100083), (96, 8, 100096), (109, 8, 100109), (122, 8, 100122), (135, 8, 100135), (148, 8, 100148), (161, 8, 100161), (174, 8, 100174), (187, 8, 100187)]), (2000001, [(3, 8, 0), (44, 8, 100044), (57, 8, 100057), (70, 8, 100070), (83, 8, 100083), (96, 8, 100096), (109, 8, 100109), (122, 8, 100122), (135, 8, 100135), (148, 8, 100148), (161, 8, 100161), (174, 8, 100174), (187, 8, 0)]), (2000002, [(3, 8, 0), (44, 8, 100044), (57, 8, 100057), (70, 8, 100070), (83, 8, 100083), (96, 8, 100096), (109, 8, 100109), (122, 8, 100122), (135, 8, 100135), (148, 8, 100148), (161, 8, 100161), (174, 8, 0), (187, 8, 100187)]), (2000003, [(3, 8, 0), (44, 8, 100044), (57, 8, 100057), (70, 8, 100070), (83, 8, 100083), (96, 8, 100096), (109, 8, 100109), (122, 8, 100122), (135, 8, 100135), (148, 8, 100148), (161, 8, 0), (174, 8, 100174), (187, 8, 100187)]), (2000004, [(3, 8, 0), (44, 8, 100044), (57, 8, 100057), (70, 8, 100070), (83, 8, 100083), (96, 8, 100096), (109, 8, 100109), (122, 8, 100122), (135, 8, 100135), (148, 8, 0), (161, 8, 100161), (174, 8, 100174), (187, 8, 100187)]), (2000005, [(3, 8, 0), (44, 8, 100044), (57, 8, 100057), (70, 8, 100070), (83, 8, 100083), (96, 8, 100096), (109, 8, 100109), (122, 8, 100122), (135, 8, 0), (148, 8, 100148), (161, 8, 100161), (174, 8, 100174), (187, 8, 100187)]), (2000006, [(3, 8, 0), (44, 8, 100044), (57, 8, 100057), (70, 8, 100070), (83, 8, 100083), (96, 8, 100096), (109, 8, 100109), (122, 8, 0), (135, 8, 100135), (148, 8, 100148), (161, 8, 100161), (174, 8, 100174), (187, 8, 100187)]), (2000007, [(3, 8, 0), (44, 8, 100044), (57, 8, 100057), (70, 8, 100070), (83, 8, 100083), (96, 8, 100096), (109, 8, 0), (122, 8, 100122), (135, 8, 100135), (148, 8, 100148), (161, 8, 100161), (174, 8, 100174), (187, 8, 100187)]), (2000008, [(3, 8, 0), (44, 8, 100044), (57, 8, 100057), (70, 8, 100070), (83, 8, 100083), (96, 8, 0), (109, 8, 100109), (122, 8, 100122), (135, 8, 100135), (148, 8, 100148), (161, 8, 100161), (174, 8, 100174), (187, 8, 100187)]), (2000009, [(3, 8, 0), (44, 8, 100044), (57, 8, 100057), (70, 8, 100070), (83, 8, 0), (96, 8, 100096), (109, 8, 100109), (122, 8, 100122), (135, 8, 100135), (148, 8, 100148), (161, 8, 100161), (174, 8, 100174), (187, 8, 100187)]), (2000010, [(3, 8, 0), (44, 8, 100044), (57, 8, 100057), (70, 8, 0), (83, 8, 100083), (96, 8, 100096), (109, 8, 100109), (122, 8, 100122), (135, 8, 100135), (148, 8, 100148), (161, 8, 100161), (174, 8, 100174), (187, 8, 100187)]), (2000011, [(3, 8, 0), (44, 8, 100044), (57, 8, 0), (70, 8, 100070), (83, 8, 100083), (96, 8, 100096), (109, 8, 100109), (122, 8, 100122), (135, 8, 100135), (148, 8, 100148), (161, 8, 100161), (174, 8, 100174), (187, 8, 100187)])]
set_option maxRecDepth 100000 in
theorem p2_yy_a : (decide (p2_yy.2.2.1.length ≤ gm_ml 161) && ck_go p2_O none [] p2_yy_E 161 p2_yy.1.1 p2_yy.2.1 p2_yy.2.2.2.2.1 p2_yy.2.2.2.2.2 [(11, yy_C0 p2_yy_RF)] 170 false [(11, yy_C0 p2_yy_RF, 1, 6, p2_yy.2.1)] p2_yy.1.2.1 p2_yy.1.2.2 0 (p2_yy.2.2.1.map some ++ List.replicate (gm_ml 161 - p2_yy.2.2.1.length) none) [] p2_yy.2.1 p2_yy.2.2.2.1) = true := by decide +kernel
set_option maxRecDepth 100000 in
theorem p2_yy_b : ck_go p2_O none [] p2_yy_E 161 p2_yy.1.1 p2_yy.2.1 p2_yy.2.2.2.2.1 p2_yy.2.2.2.2.2 [] 170 true [] 1 6 26 (yy_A (1, 50, []) none none) [] p2_yy.2.1 (yy_F p2_yy_RF (0, 299, [(10, 0)])) = true := by decide +kernel
set_option maxRecDepth 100000 in
theorem p2_yy_cu : ck_cu (p2_yy_RS.map fun p => (56, yy_C1 p.2 p.1)) = true := by decide +kernel
set_option maxRecDepth 100000 in
theorem p2_yy_c : ck_go p2_O none [] p2_yy_E 161 p2_yy.1.1 p2_yy.2.1 p2_yy.2.2.2.2.1 p2_yy.2.2.2.2.2 (p2_yy_RS.map fun p => (56, yy_C1 p.2 p.1)) 170 true (p2_yy_RS.map fun p => (56, yy_C1 p.2 p.1, 0, 0, p2_yy.2.1)) 1 6 37 (yy_A (1, 50, [(302, 0)]) none none) [] p2_yy.2.1 (yy_F p2_yy_RF (0, 298, [(10, 0), (303, 0)])) = true := by decide +kernel
set_option maxRecDepth 100000 in
theorem p2_yy_d : (p2_yy_RS.all fun p => ck_go p2_O none [] p2_yy_E 161 p2_yy.1.1 p2_yy.2.1 p2_yy.2.2.2.2.1 p2_yy.2.2.2.2.2 [(56, yy_C2 p.2)] 170 true [(56, yy_C2 p.2, 0, 0, p2_yy.2.1)] 0 0 61 (yy_A (1, 50, [(302, 0)]) (some (.inl ck_top)) (some (.inl (0, 49, [(304, 0)])))) [] p2_yy.2.1 (yy_F p.2 (0, 298, [(303, 0)])) && ck_go p2_O none [] p2_yy_E 161 p2_yy.1.1 p2_yy.2.1 p2_yy.2.2.2.2.1 p2_yy.2.2.2.2.2 [] 170 true [] 0 0 74 (yy_A (1, 50, []) (some (.inl ck_top)) none) [] p2_yy.2.1 ([], p.2, [])) = true := by decide +kernel
theorem p2_yy_s {X : Int → Int} {LX : Nat} : ck_Ok p2_O X LX 161 p2_yy := yy_s ⟨p2_nmu, ck_E1 (ck_S1 p2_s529_s ck_S0) (ck_E1 (ck_S1 p2_s349_s ck_S0) (ck_E1 (ck_S1 p2_s1099_s ck_S0) ck_E0))⟩ (by decide +kernel) (by decide +kernel) (by decide +kernel) (by decide) (by decide) (by decide) p2_yy_a p2_yy_b p2_yy_cu p2_yy_c p2_yy_d
end
/-! 78r80a15.sf -/
section
/-! EVERY CALL ENDS, whatever was done before (laid by wip/am/p2k.py). -/
set_option maxRecDepth 100000 in
/-- GlacierMailModel.in -/
noncomputable def p2_s1150 : ck_Sum := ((0, 0, 0), 245, [.inl ((-2147483648), 0, []), .inl (ck_one 1), .inl (ck_one 50)], ([], [], []), ([], []), [(.inr (some (.inl (ck_one 0))), 245, ([], [], []))])
set_option maxRecDepth 100000 in
theorem p2_s1150_s {X : Int → Int} {LX : Nat} : ck_Ok p2_O X LX 286 p2_s1150 := ck_ok_s (O := p2_O) (X := X) (LX := LX) (E := []) (mi := 286) (cuts := []) (f := 80) (S := p2_s1150) (lx := none) (XF := []) ⟨p2_nmu, ck_E0⟩ ck_X0 ck_l0 (by decide +kernel)
set_option maxRecDepth 100000 in
/-- GlacierMailModel.years -/
noncomputable def p2_s1151 : ck_Sum := ((1, 0, 0), 245, [.inr (.inr (.inl 226)), .inl ((-2147483648), 0, [])], ([], [], []), ([(226, 0, 0)], []), [(.inr (some (.inl (ck_one 0))), 245, ([], [], [(226, 0, 0, ck_one 1)]))])
set_option maxRecDepth 100000 in
theorem p2_s1151_s {X : Int → Int} {LX : Nat} : ck_Ok p2_O X LX 320 p2_s1151 := ck_ok_s (O := p2_O) (X := X) (LX := LX) (E := [(286, [p2_s1150]), (282, [p2_s241])]) (mi := 320) (cuts := []) (f := 102) (S := p2_s1151) (lx := none) (XF := []) ⟨p2_nmu, ck_E1 (ck_S1 p2_s1150_s ck_S0) (ck_E1 (ck_S1 p2_s241_s ck_S0) ck_E0)⟩ ck_X0 ck_l0 (by decide +kernel)
set_option maxRecDepth 100000 in
/-- GlacierMailModel.in -/
noncomputable def p2_s1152 : ck_Sum := ((0, 0, 0), 245, [.inl (51, 2147483647, []), .inl (ck_one 1), .inl (ck_one 50)], ([], [], []), ([], []), [(.inr (some (.inl (ck_one 0))), 245, ([], [], []))])
set_option maxRecDepth 100000 in
theorem p2_s1152_s {X : Int → Int} {LX : Nat} : ck_Ok p2_O X LX 286 p2_s1152 := ck_ok_s (O := p2_O) (X := X) (LX := LX) (E := []) (mi := 286) (cuts := []) (f := 86) (S := p2_s1152) (lx := none) (XF := []) ⟨p2_nmu, ck_E0⟩ ck_X0 ck_l0 (by decide +kernel)
set_option maxRecDepth 100000 in
/-- GlacierMailModel.years -/
noncomputable def p2_s1153 : ck_Sum := ((1, 0, 0), 245, [.inr (.inr (.inl 226)), .inl (51, 2147483647, [])], ([], [], []), ([(226, 0, 0)], []), [(.inr (some (.inl (ck_one 0))), 245, ([], [], [(226, 0, 0, ck_one 1)]))])
set_option maxRecDepth 100000 in
theorem p2_s1153_s {X : Int → Int} {LX : Nat} : ck_Ok p2_O X LX 320 p2_s1153 := ck_ok_s (O := p2_O) (X := X) (LX := LX) (E := [(286, [p2_s1152]), (282, [p2_s241])]) (mi := 320) (cuts := []) (f := 102) (S := p2_s1153) (lx := none) (XF := []) ⟨p2_nmu, ck_E1 (ck_S1 p2_s1152_s ck_S0) (ck_E1 (ck_S1 p2_s241_s ck_S0) ck_E0)⟩ ck_X0 ck_l0 (by decide +kernel)
set_option maxRecDepth 100000 in
/-- GlacierMailModel.in -/
noncomputable def p2_s1154 : ck_Sum := ((0, 0, 0), 245, [.inl (ck_one 1), .inl (ck_one 1), .inl (ck_one 50)], ([], [], []), ([], []), [(.inr (some (.inl (ck_one 1))), 245, ([], [], []))])
set_option maxRecDepth 100000 in
theorem p2_s1154_s {X : Int → Int} {LX : Nat} : ck_Ok p2_O X LX 286 p2_s1154 := ck_ok_s (O := p2_O) (X := X) (LX := LX) (E := []) (mi := 286) (cuts := []) (f := 88) (S := p2_s1154) (lx := none) (XF := []) ⟨p2_nmu, ck_E0⟩ ck_X0 ck_l0 (by decide +kernel)
set_option maxRecDepth 100000 in
/-- GlacierMailModel.ofLetter -/
noncomputable def p2_s1155 : ck_Sum := ((0, 0, 0), 245, [.inr (.inr (.inl 226)), .inl (ck_one 0), .inl (ck_one 2)], ([], [], []), ([], []), [(.inr (some (.inl (0, 6, []))), 245, ([], [], []))])
set_option maxRecDepth 100000 in
theorem p2_s1155_s {X : Int → Int} {LX : Nat} : ck_Ok p2_O X LX 301 p2_s1155 := ck_ok_s (O := p2_O) (X := X) (LX := LX) (E := []) (mi := 301) (cuts := []) (f := 92) (S := p2_s1155) (lx := none) (XF := []) ⟨p2_nmu, ck_E0⟩ ck_X0 ck_l0 (by decide +kernel)
set_option maxRecDepth 100000 in
/-- GlacierMailModel.of -/
noncomputable def p2_s1156 : ck_Sum := ((0, 0, 0), 245, [.inr (.inr (.inl 226)), .inl (ck_one (-1)), .inl (ck_one 2)], ([], [], []), ([], []), [(.inr (some (.inl (0, 20, []))), 245, ([], [], []))])
set_option maxRecDepth 100000 in
theorem p2_s1156_s {X : Int → Int} {LX : Nat} : ck_Ok p2_O X LX 299 p2_s1156 := ck_ok_s (O := p2_O) (X := X) (LX := LX) (E := []) (mi := 299) (cuts := []) (f := 92) (S := p2_s1156) (lx := none) (XF := []) ⟨p2_nmu, ck_E0⟩ ck_X0 ck_l0 (by decide +kernel)
set_option maxRecDepth 100000 in
/-- GlacierMailModel.mayOpen -/
noncomputable def p2_s1157 : ck_Sum := ((4, 0, 0), 245, [.inr (.inr (.inl 226)), .inl (0, 7, []), .inl (0, 23, [])], ([], [], [(226, 29, 29, (0, 299, [])), (227, 9, 9, (0, 299, [(11, 0)]))]), ([(226, 17, 23), (233, 0, 399)], []), [(.inr (some (.inl (ck_one 0))), 245, ([], [], zl179)), (.inr (some (.inl (ck_one 1))), 245, ([], [], zl179))])
set_option maxRecDepth 100000 in
theorem p2_s1157_s {X : Int → Int} {LX : Nat} : ck_Ok p2_O X LX 323 p2_s1157 := ck_ok_s (O := p2_O) (X := X) (LX := LX) (E := [(301, [p2_s375, p2_s377]), (259, [p2_s180]), (266, [p2_s190]), (294, [sl_S])]) (mi := 323) (cuts := []) (f := 156) (S := p2_s1157) (lx := none) (XF := []) ⟨p2_nmu, ck_E1 (ck_S1 p2_s375_s (ck_S1 p2_s377_s ck_S0)) (ck_E1 (ck_S1 p2_s180_s ck_S0) (ck_E1 (ck_S1 p2_s190_s ck_S0) (ck_E1 (ck_S1 sl_S_s ck_S0) ck_E0)))⟩ ck_X0 ck_l0 (by decide +kernel)
set_option maxRecDepth 100000 in
/-- GlacierMailModel.opener -/
noncomputable def p2_s1158 : ck_Sum := ((5, 0, 0), 245, [.inr (.inr (.inl 226)), .inl (ck_one 0)], ([], [], zl180), ([(226, 17, 23), (233, 0, 399)], []), [(.inr (some (.inl (ck_one (-1)))), 245, ([], [], [])), (.inr (some (.inl (0, 7, []))), 245, ([], [], []))])
set_option maxRecDepth 100000 in
theorem p2_s1158_s {X : Int → Int} {LX : Nat} : ck_Ok p2_O X LX 322 p2_s1158 := ck_ok_s (O := p2_O) (X := X) (LX := LX) (E := [(301, [p2_s1155, p2_s830]), (299, [p2_s1156, p2_s569]), (253, [p2_s186]), (323, [p2_s1157])]) (mi := 322) (cuts := [(31, [some (.inr (.inr (.inl 226))), some (.inl (ck_one 0)), some (.inl (0, 6, [])), some (.inl (0, 8, []))], ([], [], [(227, 120, 120, ((-1), 7, [])), (226, 29, 29, (0, 299, [])), (227, 9, 9, (1, 299, [(11, 0)])), (227, 3, 3, (0, 8, [(21, 0)]))]), 100, .inl 3, true)]) (f := 166) (S := p2_s1158) (lx := none) (XF := []) ⟨p2_nmu, ck_E1 (ck_S1 p2_s1155_s (ck_S1 p2_s830_s ck_S0)) (ck_E1 (ck_S1 p2_s1156_s (ck_S1 p2_s569_s ck_S0)) (ck_E1 (ck_S1 p2_s186_s ck_S0) (ck_E1 (ck_S1 p2_s1157_s ck_S0) ck_E0)))⟩ ck_X0 ck_l0 (by decide +kernel)
set_option maxRecDepth 100000 in
/-- GlacierMailModel.ofLetter -/
noncomputable def p2_s1159 : ck_Sum := ((0, 0, 0), 245, [.inr (.inr (.inl 226)), .inl (ck_one 1), .inl (ck_one 2)], ([], [], []), ([], []), [(.inr (some (.inl (0, 6, []))), 245, ([], [], []))])
set_option maxRecDepth 100000 in
theorem p2_s1159_s {X : Int → Int} {LX : Nat} : ck_Ok p2_O X LX 301 p2_s1159 := ck_ok_s (O := p2_O) (X := X) (LX := LX) (E := []) (mi := 301) (cuts := []) (f := 92) (S := p2_s1159) (lx := none) (XF := []) ⟨p2_nmu, ck_E0⟩ ck_X0 ck_l0 (by decide +kernel)
set_option maxRecDepth 100000 in
/-- GlacierMailModel.opener -/
noncomputable def p2_s1160 : ck_Sum := ((5, 0, 0), 245, [.inr (.inr (.inl 226)), .inl (ck_one 1)], ([], [], zl180), ([(226, 17, 23), (233, 0, 399)], []), [(.inr (some (.inl (ck_one (-1)))), 245, ([], [], [])), (.inr (some (.inl (0, 7, []))), 245, ([], [], []))])
set_option maxRecDepth 100000 in
theorem p2_s1160_s {X : Int → Int} {LX : Nat} : ck_Ok p2_O X LX 322 p2_s1160 := ck_ok_s (O := p2_O) (X := X) (LX := LX) (E := [(301, [p2_s1159, p2_s841]), (299, [p2_s1156, p2_s569]), (253, [p2_s186]), (323, [p2_s1157])]) (mi := 322) (cuts := [(31, [some (.inr (.inr (.inl 226))), some (.inl (ck_one 1)), some (.inl (0, 6, [])), some (.inl (0, 8, []))], ([], [], [(227, 127, 127, ((-1), 7, [])), (226, 29, 29, (0, 299, [])), (227, 9, 9, (1, 299, [(11, 0)])), (227, 3, 3, (0, 8, [(21, 0)]))]), 100, .inl 3, true)]) (f := 166) (S := p2_s1160) (lx := none) (XF := []) ⟨p2_nmu, ck_E1 (ck_S1 p2_s1159_s (ck_S1 p2_s841_s ck_S0)) (ck_E1 (ck_S1 p2_s1156_s (ck_S1 p2_s569_s ck_S0)) (ck_E1 (ck_S1 p2_s186_s ck_S0) (ck_E1 (ck_S1 p2_s1157_s ck_S0) ck_E0)))⟩ ck_X0 ck_l0 (by decide +kernel)
set_option maxRecDepth 100000 in
/-- GlacierMailModel.ofLetter -/
noncomputable def p2_s1161 : ck_Sum := ((0, 0, 0), 245, [.inr (.inr (.inl 226)), .inl (ck_one 2), .inl (ck_one 2)], ([], [], []), ([], []), [(.inr (some (.inl (0, 6, []))), 245, ([], [], []))])
set_option maxRecDepth 100000 in
theorem p2_s1161_s {X : Int → Int} {LX : Nat} : ck_Ok p2_O X LX 301 p2_s1161 := ck_ok_s (O := p2_O) (X := X) (LX := LX) (E := []) (mi := 301) (cuts := []) (f := 92) (S := p2_s1161) (lx := none) (XF := []) ⟨p2_nmu, ck_E0⟩ ck_X0 ck_l0 (by decide +kernel)
set_option maxRecDepth 100000 in
/-- GlacierMailModel.opener -/
noncomputable def p2_s1162 : ck_Sum := ((5, 0, 0), 245, [.inr (.inr (.inl 226)), .inl (ck_one 2)], ([], [], zl180), ([(226, 17, 23), (233, 0, 399)], []), [(.inr (some (.inl (ck_one (-1)))), 245, ([], [], [])), (.inr (some (.inl (0, 7, []))), 245, ([], [], []))])
set_option maxRecDepth 100000 in
theorem p2_s1162_s {X : Int → Int} {LX : Nat} : ck_Ok p2_O X LX 322 p2_s1162 := ck_ok_s (O := p2_O) (X := X) (LX := LX) (E := [(301, [p2_s1161, p2_s852]), (299, [p2_s1156, p2_s569]), (253, [p2_s186]), (323, [p2_s1157])]) (mi := 322) (cuts := [(31, [some (.inr (.inr (.inl 226))), some (.inl (ck_one 2)), some (.inl (0, 6, [])), some (.inl (0, 8, []))], ([], [], [(227, 134, 134, ((-1), 7, [])), (226, 29, 29, (0, 299, [])), (227, 9, 9, (1, 299, [(11, 0)])), (227, 3, 3, (0, 8, [(21, 0)]))]), 100, .inl 3, true)]) (f := 166) (S := p2_s1162) (lx := none) (XF := []) ⟨p2_nmu, ck_E1 (ck_S1 p2_s1161_s (ck_S1 p2_s852_s ck_S0)) (ck_E1 (ck_S1 p2_s1156_s (ck_S1 p2_s569_s ck_S0)) (ck_E1 (ck_S1 p2_s186_s ck_S0) (ck_E1 (ck_S1 p2_s1157_s ck_S0) ck_E0)))⟩ ck_X0 ck_l0 (by decide +kernel)
set_option maxRecDepth 100000 in
/-- GlacierMailModel.ofLetter -/
noncomputable def p2_s1163 : ck_Sum := ((0, 0, 0), 245, [.inr (.inr (.inl 226)), .inl (ck_one 3), .inl (ck_one 2)], ([], [], []), ([], []), [(.inr (some (.inl (0, 6, []))), 245, ([], [], []))])
set_option maxRecDepth 100000 in
theorem p2_s1163_s {X : Int → Int} {LX : Nat} : ck_Ok p2_O X LX 301 p2_s1163 := ck_ok_s (O := p2_O) (X := X) (LX := LX) (E := []) (mi := 301) (cuts := []) (f := 92) (S := p2_s1163) (lx := none) (XF := []) ⟨p2_nmu, ck_E0⟩ ck_X0 ck_l0 (by decide +kernel)
set_option maxRecDepth 100000 in
/-- GlacierMailModel.opener -/
noncomputable def p2_s1164 : ck_Sum := ((5, 0, 0), 245, [.inr (.inr (.inl 226)), .inl (ck_one 3)], ([], [], zl180), ([(226, 17, 23), (233, 0, 399)], []), [(.inr (some (.inl (ck_one (-1)))), 245, ([], [], [])), (.inr (some (.inl (0, 7, []))), 245, ([], [], []))])
set_option maxRecDepth 100000 in
theorem p2_s1164_s {X : Int → Int} {LX : Nat} : ck_Ok p2_O X LX 322 p2_s1164 := ck_ok_s (O := p2_O) (X := X) (LX := LX) (E := [(301, [p2_s1163, p2_s863]), (299, [p2_s1156, p2_s569]), (253, [p2_s186]), (323, [p2_s1157])]) (mi := 322) (cuts := [(31, [some (.inr (.inr (.inl 226))), some (.inl (ck_one 3)), some (.inl (0, 6, [])), some (.inl (0, 8, []))], ([], [], [(227, 141, 141, ((-1), 7, [])), (226, 29, 29, (0, 299, [])), (227, 9, 9, (1, 299, [(11, 0)])), (227, 3, 3, (0, 8, [(21, 0)]))]), 100, .inl 3, true)]) (f := 166) (S := p2_s1164) (lx := none) (XF := []) ⟨p2_nmu, ck_E1 (ck_S1 p2_s1163_s (ck_S1 p2_s863_s ck_S0)) (ck_E1 (ck_S1 p2_s1156_s (ck_S1 p2_s569_s ck_S0)) (ck_E1 (ck_S1 p2_s186_s ck_S0) (ck_E1 (ck_S1 p2_s1157_s ck_S0) ck_E0)))⟩ ck_X0 ck_l0 (by decide +kernel)
set_option maxRecDepth 100000 in
/-- GlacierMailModel.ofLetter -/
noncomputable def p2_s1165 : ck_Sum := ((0, 0, 0), 245, [.inr (.inr (.inl 226)), .inl (ck_one 4), .inl (ck_one 2)], ([], [], []), ([], []), [(.inr (some (.inl (0, 6, []))), 245, ([], [], []))])
set_option maxRecDepth 100000 in
theorem p2_s1165_s {X : Int → Int} {LX : Nat} : ck_Ok p2_O X LX 301 p2_s1165 := ck_ok_s (O := p2_O) (X := X) (LX := LX) (E := []) (mi := 301) (cuts := []) (f := 92) (S := p2_s1165) (lx := none) (XF := []) ⟨p2_nmu, ck_E0⟩ ck_X0 ck_l0 (by decide +kernel)
set_option maxRecDepth 100000 in
/-- GlacierMailModel.opener -/
noncomputable def p2_s1166 : ck_Sum := ((5, 0, 0), 245, [.inr (.inr (.inl 226)), .inl (ck_one 4)], ([], [], zl180), ([(226, 17, 23), (233, 0, 399)], []), [(.inr (some (.inl (ck_one (-1)))), 245, ([], [], [])), (.inr (some (.inl (0, 7, []))), 245, ([], [], []))])
set_option maxRecDepth 100000 in
theorem p2_s1166_s {X : Int → Int} {LX : Nat} : ck_Ok p2_O X LX 322 p2_s1166 := ck_ok_s (O := p2_O) (X := X) (LX := LX) (E := [(301, [p2_s1165, p2_s874]), (299, [p2_s1156, p2_s569]), (253, [p2_s186]), (323, [p2_s1157])]) (mi := 322) (cuts := [(31, [some (.inr (.inr (.inl 226))), some (.inl (ck_one 4)), some (.inl (0, 6, [])), some (.inl (0, 8, []))], ([], [], [(227, 148, 148, ((-1), 7, [])), (226, 29, 29, (0, 299, [])), (227, 9, 9, (1, 299, [(11, 0)])), (227, 3, 3, (0, 8, [(21, 0)]))]), 100, .inl 3, true)]) (f := 166) (S := p2_s1166) (lx := none) (XF := []) ⟨p2_nmu, ck_E1 (ck_S1 p2_s1165_s (ck_S1 p2_s874_s ck_S0)) (ck_E1 (ck_S1 p2_s1156_s (ck_S1 p2_s569_s ck_S0)) (ck_E1 (ck_S1 p2_s186_s ck_S0) (ck_E1 (ck_S1 p2_s1157_s ck_S0) ck_E0)))⟩ ck_X0 ck_l0 (by decide +kernel)
set_option maxRecDepth 100000 in
/-- GlacierMailModel.ofLetter -/
noncomputable def p2_s1167 : ck_Sum := ((0, 0, 0), 245, [.inr (.inr (.inl 226)), .inl (ck_one 5), .inl (ck_one 2)], ([], [], []), ([], []), [(.inr (some (.inl (0, 6, []))), 245, ([], [], []))])
set_option maxRecDepth 100000 in
theorem p2_s1167_s {X : Int → Int} {LX : Nat} : ck_Ok p2_O X LX 301 p2_s1167 := ck_ok_s (O := p2_O) (X := X) (LX := LX) (E := []) (mi := 301) (cuts := []) (f := 92) (S := p2_s1167) (lx := none) (XF := []) ⟨p2_nmu, ck_E0⟩ ck_X0 ck_l0 (by decide +kernel)
set_option maxRecDepth 100000 in
/-- GlacierMailModel.opener -/
noncomputable def p2_s1168 : ck_Sum := ((5, 0, 0), 245, [.inr (.inr (.inl 226)), .inl (ck_one 5)], ([], [], zl180), ([(226, 17, 23), (233, 0, 399)], []), [(.inr (some (.inl (ck_one (-1)))), 245, ([], [], [])), (.inr (some (.inl (0, 7, []))), 245, ([], [], []))])
set_option maxRecDepth 100000 in
theorem p2_s1168_s {X : Int → Int} {LX : Nat} : ck_Ok p2_O X LX 322 p2_s1168 := ck_ok_s (O := p2_O) (X := X) (LX := LX) (E := [(301, [p2_s1167, p2_s885]), (299, [p2_s1156, p2_s569]), (253, [p2_s186]), (323, [p2_s1157])]) (mi := 322) (cuts := [(31, [some (.inr (.inr (.inl 226))), some (.inl (ck_one 5)), some (.inl (0, 6, [])), some (.inl (0, 8, []))], ([], [], [(227, 155, 155, ((-1), 7, [])), (226, 29, 29, (0, 299, [])), (227, 9, 9, (1, 299, [(11, 0)])), (227, 3, 3, (0, 8, [(21, 0)]))]), 100, .inl 3, true)]) (f := 166) (S := p2_s1168) (lx := none) (XF := []) ⟨p2_nmu, ck_E1 (ck_S1 p2_s1167_s (ck_S1 p2_s885_s ck_S0)) (ck_E1 (ck_S1 p2_s1156_s (ck_S1 p2_s569_s ck_S0)) (ck_E1 (ck_S1 p2_s186_s ck_S0) (ck_E1 (ck_S1 p2_s1157_s ck_S0) ck_E0)))⟩ ck_X0 ck_l0 (by decide +kernel)
set_option maxRecDepth 100000 in
/-- GlacierMailModel.ofLetter -/
noncomputable def p2_s1169 : ck_Sum := ((0, 0, 0), 245, [.inr (.inr (.inl 226)), .inl (ck_one 6), .inl (ck_one 2)], ([], [], []), ([], []), [(.inr (some (.inl (0, 6, []))), 245, ([], [], []))])
set_option maxRecDepth 100000 in
theorem p2_s1169_s {X : Int → Int} {LX : Nat} : ck_Ok p2_O X LX 301 p2_s1169 := ck_ok_s (O := p2_O) (X := X) (LX := LX) (E := []) (mi := 301) (cuts := []) (f := 92) (S := p2_s1169) (lx := none) (XF := []) ⟨p2_nmu, ck_E0⟩ ck_X0 ck_l0 (by decide +kernel)
set_option maxRecDepth 100000 in
/-- GlacierMailModel.opener -/
noncomputable def p2_s1170 : ck_Sum := ((5, 0, 0), 245, [.inr (.inr (.inl 226)), .inl (ck_one 6)], ([], [], zl180), ([(226, 17, 23), (233, 0, 399)], []), [(.inr (some (.inl (ck_one (-1)))), 245, ([], [], [])), (.inr (some (.inl (0, 7, []))), 245, ([], [], []))])
set_option maxRecDepth 100000 in
theorem p2_s1170_s {X : Int → Int} {LX : Nat} : ck_Ok p2_O X LX 322 p2_s1170 := ck_ok_s (O := p2_O) (X := X) (LX := LX) (E := [(301, [p2_s1169, p2_s896]), (299, [p2_s1156, p2_s569]), (253, [p2_s186]), (323, [p2_s1157])]) (mi := 322) (cuts := [(31, [some (.inr (.inr (.inl 226))), some (.inl (ck_one 6)), some (.inl (0, 6, [])), some (.inl (0, 8, []))], ([], [], [(227, 162, 162, ((-1), 7, [])), (226, 29, 29, (0, 299, [])), (227, 9, 9, (1, 299, [(11, 0)])), (227, 3, 3, (0, 8, [(21, 0)]))]), 100, .inl 3, true)]) (f := 166) (S := p2_s1170) (lx := none) (XF := []) ⟨p2_nmu, ck_E1 (ck_S1 p2_s1169_s (ck_S1 p2_s896_s ck_S0)) (ck_E1 (ck_S1 p2_s1156_s (ck_S1 p2_s569_s ck_S0)) (ck_E1 (ck_S1 p2_s186_s ck_S0) (ck_E1 (ck_S1 p2_s1157_s ck_S0) ck_E0)))⟩ ck_X0 ck_l0 (by decide +kernel)
set_option maxRecDepth 100000 in
/-- GlacierMailModel.ofLetter -/
noncomputable def p2_s1171 : ck_Sum := ((0, 0, 0), 245, [.inr (.inr (.inl 226)), .inl (ck_one 7), .inl (ck_one 2)], ([], [], []), ([], []), [(.inr (some (.inl (0, 6, []))), 245, ([], [], []))])
set_option maxRecDepth 100000 in
theorem p2_s1171_s {X : Int → Int} {LX : Nat} : ck_Ok p2_O X LX 301 p2_s1171 := ck_ok_s (O := p2_O) (X := X) (LX := LX) (E := []) (mi := 301) (cuts := []) (f := 92) (S := p2_s1171) (lx := none) (XF := []) ⟨p2_nmu, ck_E0⟩ ck_X0 ck_l0 (by decide +kernel)
set_option maxRecDepth 100000 in
/-- GlacierMailModel.opener -/
noncomputable def p2_s1172 : ck_Sum := ((5, 0, 0), 245, [.inr (.inr (.inl 226)), .inl (ck_one 7)], ([], [], zl180), ([(226, 17, 23), (233, 0, 399)], []), [(.inr (some (.inl (ck_one (-1)))), 245, ([], [], [])), (.inr (some (.inl (0, 7, []))), 245, ([], [], []))])
set_option maxRecDepth 100000 in
theorem p2_s1172_s {X : Int → Int} {LX : Nat} : ck_Ok p2_O X LX 322 p2_s1172 := ck_ok_s (O := p2_O) (X := X) (LX := LX) (E := [(301, [p2_s1171, p2_s907]), (299, [p2_s1156, p2_s569]), (253, [p2_s186]), (323, [p2_s1157])]) (mi := 322) (cuts := [(31, [some (.inr (.inr (.inl 226))), some (.inl (ck_one 7)), some (.inl (0, 6, [])), some (.inl (0, 8, []))], ([], [], [(227, 169, 169, ((-1), 7, [])), (226, 29, 29, (0, 299, [])), (227, 9, 9, (1, 299, [(11, 0)])), (227, 3, 3, (0, 8, [(21, 0)]))]), 100, .inl 3, true)]) (f := 166) (S := p2_s1172) (lx := none) (XF := []) ⟨p2_nmu, ck_E1 (ck_S1 p2_s1171_s (ck_S1 p2_s907_s ck_S0)) (ck_E1 (ck_S1 p2_s1156_s (ck_S1 p2_s569_s ck_S0)) (ck_E1 (ck_S1 p2_s186_s ck_S0) (ck_E1 (ck_S1 p2_s1157_s ck_S0) ck_E0)))⟩ ck_X0 ck_l0 (by decide +kernel)
set_option maxRecDepth 100000 in
/-- GlacierMailModel.ofLetter -/
noncomputable def p2_s1173 : ck_Sum := ((0, 0, 0), 245, [.inr (.inr (.inl 226)), .inl (ck_one 8), .inl (ck_one 2)], ([], [], []), ([], []), [(.inr (some (.inl (0, 6, []))), 245, ([], [], []))])
set_option maxRecDepth 100000 in
theorem p2_s1173_s {X : Int → Int} {LX : Nat} : ck_Ok p2_O X LX 301 p2_s1173 := ck_ok_s (O := p2_O) (X := X) (LX := LX) (E := []) (mi := 301) (cuts := []) (f := 92) (S := p2_s1173) (lx := none) (XF := []) ⟨p2_nmu, ck_E0⟩ ck_X0 ck_l0 (by decide +kernel)
set_option maxRecDepth 100000 in
/-- GlacierMailModel.opener -/
noncomputable def p2_s1174 : ck_Sum := ((5, 0, 0), 245, [.inr (.inr (.inl 226)), .inl (ck_one 8)], ([], [], zl180), ([(226, 17, 23), (233, 0, 399)], []), [(.inr (some (.inl (ck_one (-1)))), 245, ([], [], [])), (.inr (some (.inl (0, 7, []))), 245, ([], [], []))])
set_option maxRecDepth 100000 in
theorem p2_s1174_s {X : Int → Int} {LX : Nat} : ck_Ok p2_O X LX 322 p2_s1174 := ck_ok_s (O := p2_O) (X := X) (LX := LX) (E := [(301, [p2_s1173, p2_s918]), (299, [p2_s1156, p2_s569]), (253, [p2_s186]), (323, [p2_s1157])]) (mi := 322) (cuts := [(31, [some (.inr (.inr (.inl 226))), some (.inl (ck_one 8)), some (.inl (0, 6, [])), some (.inl (0, 8, []))], ([], [], [(227, 176, 176, ((-1), 7, [])), (226, 29, 29, (0, 299, [])), (227, 9, 9, (1, 299, [(11, 0)])), (227, 3, 3, (0, 8, [(21, 0)]))]), 100, .inl 3, true)]) (f := 166) (S := p2_s1174) (lx := none) (XF := []) ⟨p2_nmu, ck_E1 (ck_S1 p2_s1173_s (ck_S1 p2_s918_s ck_S0)) (ck_E1 (ck_S1 p2_s1156_s (ck_S1 p2_s569_s ck_S0)) (ck_E1 (ck_S1 p2_s186_s ck_S0) (ck_E1 (ck_S1 p2_s1157_s ck_S0) ck_E0)))⟩ ck_X0 ck_l0 (by decide +kernel)
set_option maxRecDepth 100000 in
/-- GlacierMailModel.ofLetter -/
noncomputable def p2_s1175 : ck_Sum := ((0, 0, 0), 245, [.inr (.inr (.inl 226)), .inl (ck_one 9), .inl (ck_one 2)], ([], [], []), ([], []), [(.inr (some (.inl (0, 6, []))), 245, ([], [], []))])
set_option maxRecDepth 100000 in
theorem p2_s1175_s {X : Int → Int} {LX : Nat} : ck_Ok p2_O X LX 301 p2_s1175 := ck_ok_s (O := p2_O) (X := X) (LX := LX) (E := []) (mi := 301) (cuts := []) (f := 92) (S := p2_s1175) (lx := none) (XF := []) ⟨p2_nmu, ck_E0⟩ ck_X0 ck_l0 (by decide +kernel)
set_option maxRecDepth 100000 in
/-- GlacierMailModel.opener -/
noncomputable def p2_s1176 : ck_Sum := ((5, 0, 0), 245, [.inr (.inr (.inl 226)), .inl (ck_one 9)], ([], [], zl180), ([(226, 17, 23), (233, 0, 399)], []), [(.inr (some (.inl (ck_one (-1)))), 245, ([], [], [])), (.inr (some (.inl (0, 7, []))), 245, ([], [], []))])
set_option maxRecDepth 100000 in
theorem p2_s1176_s {X : Int → Int} {LX : Nat} : ck_Ok p2_O X LX 322 p2_s1176 := ck_ok_s (O := p2_O) (X := X) (LX := LX) (E := [(301, [p2_s1175, p2_s929]), (299, [p2_s1156, p2_s569]), (253, [p2_s186]), (323, [p2_s1157])]) (mi := 322) (cuts := [(31, [some (.inr (.inr (.inl 226))), some (.inl (ck_one 9)), some (.inl (0, 6, [])), some (.inl (0, 8, []))], ([], [], [(227, 183, 183, ((-1), 7, [])), (226, 29, 29, (0, 299, [])), (227, 9, 9, (1, 299, [(11, 0)])), (227, 3, 3, (0, 8, [(21, 0)]))]), 100, .inl 3, true)]) (f := 166) (S := p2_s1176) (lx := none) (XF := []) ⟨p2_nmu, ck_E1 (ck_S1 p2_s1175_s (ck_S1 p2_s929_s ck_S0)) (ck_E1 (ck_S1 p2_s1156_s (ck_S1 p2_s569_s ck_S0)) (ck_E1 (ck_S1 p2_s186_s ck_S0) (ck_E1 (ck_S1 p2_s1157_s ck_S0) ck_E0)))⟩ ck_X0 ck_l0 (by decide +kernel)
set_option maxRecDepth 100000 in
/-- GlacierMailModel.ofLetter -/
noncomputable def p2_s1177 : ck_Sum := ((0, 0, 0), 245, [.inr (.inr (.inl 226)), .inl (ck_one 10), .inl (ck_one 2)], ([], [], []), ([], []), [(.inr (some (.inl (0, 6, []))), 245, ([], [], []))])
set_option maxRecDepth 100000 in
theorem p2_s1177_s {X : Int → Int} {LX : Nat} : ck_Ok p2_O X LX 301 p2_s1177 := ck_ok_s (O := p2_O) (X := X) (LX := LX) (E := []) (mi := 301) (cuts := []) (f := 92) (S := p2_s1177) (lx := none) (XF := []) ⟨p2_nmu, ck_E0⟩ ck_X0 ck_l0 (by decide +kernel)
set_option maxRecDepth 100000 in
/-- GlacierMailModel.opener -/
noncomputable def p2_s1178 : ck_Sum := ((5, 0, 0), 245, [.inr (.inr (.inl 226)), .inl (ck_one 10)], ([], [], zl180), ([(226, 17, 23), (233, 0, 399)], []), [(.inr (some (.inl (ck_one (-1)))), 245, ([], [], [])), (.inr (some (.inl (0, 7, []))), 245, ([], [], []))])
set_option maxRecDepth 100000 in
theorem p2_s1178_s {X : Int → Int} {LX : Nat} : ck_Ok p2_O X LX 322 p2_s1178 := ck_ok_s (O := p2_O) (X := X) (LX := LX) (E := [(301, [p2_s1177, p2_s940]), (299, [p2_s1156, p2_s569]), (253, [p2_s186]), (323, [p2_s1157])]) (mi := 322) (cuts := [(31, [some (.inr (.inr (.inl 226))), some (.inl (ck_one 10)), some (.inl (0, 6, [])), some (.inl (0, 8, []))], ([], [], [(227, 190, 190, ((-1), 7, [])), (226, 29, 29, (0, 299, [])), (227, 9, 9, (1, 299, [(11, 0)])), (227, 3, 3, (0, 8, [(21, 0)]))]), 100, .inl 3, true)]) (f := 166) (S := p2_s1178) (lx := none) (XF := []) ⟨p2_nmu, ck_E1 (ck_S1 p2_s1177_s (ck_S1 p2_s940_s ck_S0)) (ck_E1 (ck_S1 p2_s1156_s (ck_S1 p2_s569_s ck_S0)) (ck_E1 (ck_S1 p2_s186_s ck_S0) (ck_E1 (ck_S1 p2_s1157_s ck_S0) ck_E0)))⟩ ck_X0 ck_l0 (by decide +kernel)
set_option maxRecDepth 100000 in
/-- GlacierMailModel.ofLetter -/
noncomputable def p2_s1179 : ck_Sum := ((0, 0, 0), 245, [.inr (.inr (.inl 226)), .inl (ck_one 11), .inl (ck_one 2)], ([], [], []), ([], []), [(.inr (some (.inl (0, 6, []))), 245, ([], [], []))])
set_option maxRecDepth 100000 in
theorem p2_s1179_s {X : Int → Int} {LX : Nat} : ck_Ok p2_O X LX 301 p2_s1179 := ck_ok_s (O := p2_O) (X := X) (LX := LX) (E := []) (mi := 301) (cuts := []) (f := 92) (S := p2_s1179) (lx := none) (XF := []) ⟨p2_nmu, ck_E0⟩ ck_X0 ck_l0 (by decide +kernel)
set_option maxRecDepth 100000 in
/-- GlacierMailModel.opener -/
noncomputable def p2_s1180 : ck_Sum := ((5, 0, 0), 245, [.inr (.inr (.inl 226)), .inl (ck_one 11)], ([], [], zl180), ([(226, 17, 23), (233, 0, 399)], []), [(.inr (some (.inl (ck_one (-1)))), 245, ([], [], [])), (.inr (some (.inl (0, 7, []))), 245, ([], [], []))])
set_option maxRecDepth 100000 in
theorem p2_s1180_s {X : Int → Int} {LX : Nat} : ck_Ok p2_O X LX 322 p2_s1180 := ck_ok_s (O := p2_O) (X := X) (LX := LX) (E := [(301, [p2_s1179, p2_s951]), (299, [p2_s1156, p2_s569]), (253, [p2_s186]), (323, [p2_s1157])]) (mi := 322) (cuts := [(31, [some (.inr (.inr (.inl 226))), some (.inl (ck_one 11)), some (.inl (0, 6, [])), some (.inl (0, 8, []))], ([], [], [(227, 197, 197, ((-1), 7, [])), (226, 29, 29, (0, 299, [])), (227, 9, 9, (1, 299, [(11, 0)])), (227, 3, 3, (0, 8, [(21, 0)]))]), 100, .inl 3, true)]) (f := 166) (S := p2_s1180) (lx := none) (XF := []) ⟨p2_nmu, ck_E1 (ck_S1 p2_s1179_s (ck_S1 p2_s951_s ck_S0)) (ck_E1 (ck_S1 p2_s1156_s (ck_S1 p2_s569_s ck_S0)) (ck_E1 (ck_S1 p2_s186_s ck_S0) (ck_E1 (ck_S1 p2_s1157_s ck_S0) ck_E0)))⟩ ck_X0 ck_l0 (by decide +kernel)
set_option maxRecDepth 100000 in
/-- GlacierMailModel.ofLetter -/
noncomputable def p2_s1181 : ck_Sum := ((0, 0, 0), 245, [.inr (.inr (.inl 226)), .inl (ck_one 12), .inl (ck_one 2)], ([], [], []), ([], []), [(.inr (some (.inl (0, 6, []))), 245, ([], [], []))])
set_option maxRecDepth 100000 in
theorem p2_s1181_s {X : Int → Int} {LX : Nat} : ck_Ok p2_O X LX 301 p2_s1181 := ck_ok_s (O := p2_O) (X := X) (LX := LX) (E := []) (mi := 301) (cuts := []) (f := 92) (S := p2_s1181) (lx := none) (XF := []) ⟨p2_nmu, ck_E0⟩ ck_X0 ck_l0 (by decide +kernel)
set_option maxRecDepth 100000 in
/-- GlacierMailModel.opener -/
noncomputable def p2_s1182 : ck_Sum := ((5, 0, 0), 245, [.inr (.inr (.inl 226)), .inl (ck_one 12)], ([], [], zl180), ([(226, 17, 23), (233, 0, 399)], []), [(.inr (some (.inl (ck_one (-1)))), 245, ([], [], [])), (.inr (some (.inl (0, 7, []))), 245, ([], [], []))])
set_option maxRecDepth 100000 in
theorem p2_s1182_s {X : Int → Int} {LX : Nat} : ck_Ok p2_O X LX 322 p2_s1182 := ck_ok_s (O := p2_O) (X := X) (LX := LX) (E := [(301, [p2_s1181, p2_s962]), (299, [p2_s1156, p2_s569]), (253, [p2_s186]), (323, [p2_s1157])]) (mi := 322) (cuts := [(31, [some (.inr (.inr (.inl 226))), some (.inl (ck_one 12)), some (.inl (0, 6, [])), some (.inl (0, 8, []))], ([], [], [(227, 204, 204, ((-1), 7, [])), (226, 29, 29, (0, 299, [])), (227, 9, 9, (1, 299, [(11, 0)])), (227, 3, 3, (0, 8, [(21, 0)]))]), 100, .inl 3, true)]) (f := 166) (S := p2_s1182) (lx := none) (XF := []) ⟨p2_nmu, ck_E1 (ck_S1 p2_s1181_s (ck_S1 p2_s962_s ck_S0)) (ck_E1 (ck_S1 p2_s1156_s (ck_S1 p2_s569_s ck_S0)) (ck_E1 (ck_S1 p2_s186_s ck_S0) (ck_E1 (ck_S1 p2_s1157_s ck_S0) ck_E0)))⟩ ck_X0 ck_l0 (by decide +kernel)
set_option maxRecDepth 100000 in
/-- GlacierMailModel.ofLetter -/
noncomputable def p2_s1183 : ck_Sum := ((0, 0, 0), 245, [.inr (.inr (.inl 226)), .inl (ck_one 13), .inl (ck_one 2)], ([], [], []), ([], []), [(.inr (some (.inl (0, 6, []))), 245, ([], [], []))])
set_option maxRecDepth 100000 in
theorem p2_s1183_s {X : Int → Int} {LX : Nat} : ck_Ok p2_O X LX 301 p2_s1183 := ck_ok_s (O := p2_O) (X := X) (LX := LX) (E := []) (mi := 301) (cuts := []) (f := 92) (S := p2_s1183) (lx := none) (XF := []) ⟨p2_nmu, ck_E0⟩ ck_X0 ck_l0 (by decide +kernel)
set_option maxRecDepth 100000 in
/-- GlacierMailModel.opener -/
noncomputable def p2_s1184 : ck_Sum := ((5, 0, 0), 245, [.inr (.inr (.inl 226)), .inl (ck_one 13)], ([], [], zl180), ([(226, 17, 23), (233, 0, 399)], []), [(.inr (some (.inl (ck_one (-1)))), 245, ([], [], [])), (.inr (some (.inl (0, 7, []))), 245, ([], [], []))])
set_option maxRecDepth 100000 in
theorem p2_s1184_s {X : Int → Int} {LX : Nat} : ck_Ok p2_O X LX 322 p2_s1184 := ck_ok_s (O := p2_O) (X := X) (LX := LX) (E := [(301, [p2_s1183, p2_s973]), (299, [p2_s1156, p2_s569]), (253, [p2_s186]), (323, [p2_s1157])]) (mi := 322) (cuts := [(31, [some (.inr (.inr (.inl 226))), some (.inl (ck_one 13)), some (.inl (0, 6, [])), some (.inl (0, 8, []))], ([], [], [(227, 211, 211, ((-1), 7, [])), (226, 29, 29, (0, 299, [])), (227, 9, 9, (1, 299, [(11, 0)])), (227, 3, 3, (0, 8, [(21, 0)]))]), 100, .inl 3, true)]) (f := 166) (S := p2_s1184) (lx := none) (XF := []) ⟨p2_nmu, ck_E1 (ck_S1 p2_s1183_s (ck_S1 p2_s973_s ck_S0)) (ck_E1 (ck_S1 p2_s1156_s (ck_S1 p2_s569_s ck_S0)) (ck_E1 (ck_S1 p2_s186_s ck_S0) (ck_E1 (ck_S1 p2_s1157_s ck_S0) ck_E0)))⟩ ck_X0 ck_l0 (by decide +kernel)
set_option maxRecDepth 100000 in
/-- GlacierMailModel.ofLetter -/
noncomputable def p2_s1185 : ck_Sum := ((0, 0, 0), 245, [.inr (.inr (.inl 226)), .inl (ck_one 14), .inl (ck_one 2)], ([], [], []), ([], []), [(.inr (some (.inl (0, 6, []))), 245, ([], [], []))])
set_option maxRecDepth 100000 in
theorem p2_s1185_s {X : Int → Int} {LX : Nat} : ck_Ok p2_O X LX 301 p2_s1185 := ck_ok_s (O := p2_O) (X := X) (LX := LX) (E := []) (mi := 301) (cuts := []) (f := 92) (S := p2_s1185) (lx := none) (XF := []) ⟨p2_nmu, ck_E0⟩ ck_X0 ck_l0 (by decide +kernel)
set_option maxRecDepth 100000 in
/-- GlacierMailModel.opener -/
noncomputable def p2_s1186 : ck_Sum := ((5, 0, 0), 245, [.inr (.inr (.inl 226)), .inl (ck_one 14)], ([], [], zl180), ([(226, 17, 23), (233, 0, 399)], []), [(.inr (some (.inl (ck_one (-1)))), 245, ([], [], [])), (.inr (some (.inl (0, 7, []))), 245, ([], [], []))])
set_option maxRecDepth 100000 in
theorem p2_s1186_s {X : Int → Int} {LX : Nat} : ck_Ok p2_O X LX 322 p2_s1186 := ck_ok_s (O := p2_O) (X := X) (LX := LX) (E := [(301, [p2_s1185, p2_s984]), (299, [p2_s1156, p2_s569]), (253, [p2_s186]), (323, [p2_s1157])]) (mi := 322) (cuts := [(31, [some (.inr (.inr (.inl 226))), some (.inl (ck_one 14)), some (.inl (0, 6, [])), some (.inl (0, 8, []))], ([], [], [(227, 218, 218, ((-1), 7, [])), (226, 29, 29, (0, 299, [])), (227, 9, 9, (1, 299, [(11, 0)])), (227, 3, 3, (0, 8, [(21, 0)]))]), 100, .inl 3, true)]) (f := 166) (S := p2_s1186) (lx := none) (XF := []) ⟨p2_nmu, ck_E1 (ck_S1 p2_s1185_s (ck_S1 p2_s984_s ck_S0)) (ck_E1 (ck_S1 p2_s1156_s (ck_S1 p2_s569_s ck_S0)) (ck_E1 (ck_S1 p2_s186_s ck_S0) (ck_E1 (ck_S1 p2_s1157_s ck_S0) ck_E0)))⟩ ck_X0 ck_l0 (by decide +kernel)
set_option maxRecDepth 100000 in
/-- GlacierMailModel.ofLetter -/
noncomputable def p2_s1187 : ck_Sum := ((0, 0, 0), 245, [.inr (.inr (.inl 226)), .inl (ck_one 15), .inl (ck_one 2)], ([], [], []), ([], []), [(.inr (some (.inl (0, 6, []))), 245, ([], [], []))])
set_option maxRecDepth 100000 in
theorem p2_s1187_s {X : Int → Int} {LX : Nat} : ck_Ok p2_O X LX 301 p2_s1187 := ck_ok_s (O := p2_O) (X := X) (LX := LX) (E := []) (mi := 301) (cuts := []) (f := 92) (S := p2_s1187) (lx := none) (XF := []) ⟨p2_nmu, ck_E0⟩ ck_X0 ck_l0 (by decide +kernel)
set_option maxRecDepth 100000 in
/-- GlacierMailModel.opener -/
noncomputable def p2_s1188 : ck_Sum := ((5, 0, 0), 245, [.inr (.inr (.inl 226)), .inl (ck_one 15)], ([], [], zl180), ([(226, 17, 23), (233, 0, 399)], []), [(.inr (some (.inl (ck_one (-1)))), 245, ([], [], [])), (.inr (some (.inl (0, 7, []))), 245, ([], [], []))])
set_option maxRecDepth 100000 in
theorem p2_s1188_s {X : Int → Int} {LX : Nat} : ck_Ok p2_O X LX 322 p2_s1188 := ck_ok_s (O := p2_O) (X := X) (LX := LX) (E := [(301, [p2_s1187, p2_s995]), (299, [p2_s1156, p2_s569]), (253, [p2_s186]), (323, [p2_s1157])]) (mi := 322) (cuts := [(31, [some (.inr (.inr (.inl 226))), some (.inl (ck_one 15)), some (.inl (0, 6, [])), some (.inl (0, 8, []))], ([], [], [(227, 225, 225, ((-1), 7, [])), (226, 29, 29, (0, 299, [])), (227, 9, 9, (1, 299, [(11, 0)])), (227, 3, 3, (0, 8, [(21, 0)]))]), 100, .inl 3, true)]) (f := 166) (S := p2_s1188) (lx := none) (XF := []) ⟨p2_nmu, ck_E1 (ck_S1 p2_s1187_s (ck_S1 p2_s995_s ck_S0)) (ck_E1 (ck_S1 p2_s1156_s (ck_S1 p2_s569_s ck_S0)) (ck_E1 (ck_S1 p2_s186_s ck_S0) (ck_E1 (ck_S1 p2_s1157_s ck_S0) ck_E0)))⟩ ck_X0 ck_l0 (by decide +kernel)
set_option maxRecDepth 100000 in
/-- GlacierMailModel.ofLetter -/
noncomputable def p2_s1189 : ck_Sum := ((0, 0, 0), 245, [.inr (.inr (.inl 226)), .inl (ck_one 16), .inl (ck_one 2)], ([], [], []), ([], []), [(.inr (some (.inl (0, 6, []))), 245, ([], [], []))])
set_option maxRecDepth 100000 in
theorem p2_s1189_s {X : Int → Int} {LX : Nat} : ck_Ok p2_O X LX 301 p2_s1189 := ck_ok_s (O := p2_O) (X := X) (LX := LX) (E := []) (mi := 301) (cuts := []) (f := 92) (S := p2_s1189) (lx := none) (XF := []) ⟨p2_nmu, ck_E0⟩ ck_X0 ck_l0 (by decide +kernel)
set_option maxRecDepth 100000 in
/-- GlacierMailModel.opener -/
noncomputable def p2_s1190 : ck_Sum := ((5, 0, 0), 245, [.inr (.inr (.inl 226)), .inl (ck_one 16)], ([], [], zl180), ([(226, 17, 23), (233, 0, 399)], []), [(.inr (some (.inl (ck_one (-1)))), 245, ([], [], [])), (.inr (some (.inl (0, 7, []))), 245, ([], [], []))])
set_option maxRecDepth 100000 in
theorem p2_s1190_s {X : Int → Int} {LX : Nat} : ck_Ok p2_O X LX 322 p2_s1190 := ck_ok_s (O := p2_O) (X := X) (LX := LX) (E := [(301, [p2_s1189, p2_s1006]), (299, [p2_s1156, p2_s569]), (253, [p2_s186]), (323, [p2_s1157])]) (mi := 322) (cuts := [(31, [some (.inr (.inr (.inl 226))), some (.inl (ck_one 16)), some (.inl (0, 6, [])), some (.inl (0, 8, []))], ([], [], [(227, 232, 232, ((-1), 7, [])), (226, 29, 29, (0, 299, [])), (227, 9, 9, (1, 299, [(11, 0)])), (227, 3, 3, (0, 8, [(21, 0)]))]), 100, .inl 3, true)]) (f := 166) (S := p2_s1190) (lx := none) (XF := []) ⟨p2_nmu, ck_E1 (ck_S1 p2_s1189_s (ck_S1 p2_s1006_s ck_S0)) (ck_E1 (ck_S1 p2_s1156_s (ck_S1 p2_s569_s ck_S0)) (ck_E1 (ck_S1 p2_s186_s ck_S0) (ck_E1 (ck_S1 p2_s1157_s ck_S0) ck_E0)))⟩ ck_X0 ck_l0 (by decide +kernel)
set_option maxRecDepth 100000 in
/-- GlacierMailModel.ofLetter -/
noncomputable def p2_s1191 : ck_Sum := ((0, 0, 0), 245, [.inr (.inr (.inl 226)), .inl (ck_one 17), .inl (ck_one 2)], ([], [], []), ([], []), [(.inr (some (.inl (0, 6, []))), 245, ([], [], []))])
set_option maxRecDepth 100000 in
theorem p2_s1191_s {X : Int → Int} {LX : Nat} : ck_Ok p2_O X LX 301 p2_s1191 := ck_ok_s (O := p2_O) (X := X) (LX := LX) (E := []) (mi := 301) (cuts := []) (f := 92) (S := p2_s1191) (lx := none) (XF := []) ⟨p2_nmu, ck_E0⟩ ck_X0 ck_l0 (by decide +kernel)
set_option maxRecDepth 100000 in
/-- GlacierMailModel.opener -/
noncomputable def p2_s1192 : ck_Sum := ((5, 0, 0), 245, [.inr (.inr (.inl 226)), .inl (ck_one 17)], ([], [], zl180), ([(226, 17, 23), (233, 0, 399)], []), [(.inr (some (.inl (ck_one (-1)))), 245, ([], [], [])), (.inr (some (.inl (0, 7, []))), 245, ([], [], []))])
set_option maxRecDepth 100000 in
theorem p2_s1192_s {X : Int → Int} {LX : Nat} : ck_Ok p2_O X LX 322 p2_s1192 := ck_ok_s (O := p2_O) (X := X) (LX := LX) (E := [(301, [p2_s1191, p2_s1017]), (299, [p2_s1156, p2_s569]), (253, [p2_s186]), (323, [p2_s1157])]) (mi := 322) (cuts := [(31, [some (.inr (.inr (.inl 226))), some (.inl (ck_one 17)), some (.inl (0, 6, [])), some (.inl (0, 8, []))], ([], [], [(227, 239, 239, ((-1), 7, [])), (226, 29, 29, (0, 299, [])), (227, 9, 9, (1, 299, [(11, 0)])), (227, 3, 3, (0, 8, [(21, 0)]))]), 100, .inl 3, true)]) (f := 166) (S := p2_s1192) (lx := none) (XF := []) ⟨p2_nmu, ck_E1 (ck_S1 p2_s1191_s (ck_S1 p2_s1017_s ck_S0)) (ck_E1 (ck_S1 p2_s1156_s (ck_S1 p2_s569_s ck_S0)) (ck_E1 (ck_S1 p2_s186_s ck_S0) (ck_E1 (ck_S1 p2_s1157_s ck_S0) ck_E0)))⟩ ck_X0 ck_l0 (by decide +kernel)
set_option maxRecDepth 100000 in
/-- GlacierMailModel.ofLetter -/
noncomputable def p2_s1193 : ck_Sum := ((0, 0, 0), 245, [.inr (.inr (.inl 226)), .inl (ck_one 18), .inl (ck_one 2)], ([], [], []), ([], []), [(.inr (some (.inl (0, 6, []))), 245, ([], [], []))])
set_option maxRecDepth 100000 in
theorem p2_s1193_s {X : Int → Int} {LX : Nat} : ck_Ok p2_O X LX 301 p2_s1193 := ck_ok_s (O := p2_O) (X := X) (LX := LX) (E := []) (mi := 301) (cuts := []) (f := 92) (S := p2_s1193) (lx := none) (XF := []) ⟨p2_nmu, ck_E0⟩ ck_X0 ck_l0 (by decide +kernel)
set_option maxRecDepth 100000 in
/-- GlacierMailModel.opener -/
noncomputable def p2_s1194 : ck_Sum := ((5, 0, 0), 245, [.inr (.inr (.inl 226)), .inl (ck_one 18)], ([], [], zl180), ([(226, 17, 23), (233, 0, 399)], []), [(.inr (some (.inl (ck_one (-1)))), 245, ([], [], [])), (.inr (some (.inl (0, 7, []))), 245, ([], [], []))])
set_option maxRecDepth 100000 in
theorem p2_s1194_s {X : Int → Int} {LX : Nat} : ck_Ok p2_O X LX 322 p2_s1194 := ck_ok_s (O := p2_O) (X := X) (LX := LX) (E := [(301, [p2_s1193, p2_s1028]), (299, [p2_s1156, p2_s569]), (253, [p2_s186]), (323, [p2_s1157])]) (mi := 322) (cuts := [(31, [some (.inr (.inr (.inl 226))), some (.inl (ck_one 18)), some (.inl (0, 6, [])), some (.inl (0, 8, []))], ([], [], [(227, 246, 246, ((-1), 7, [])), (226, 29, 29, (0, 299, [])), (227, 9, 9, (1, 299, [(11, 0)])), (227, 3, 3, (0, 8, [(21, 0)]))]), 100, .inl 3, true)]) (f := 166) (S := p2_s1194) (lx := none) (XF := []) ⟨p2_nmu, ck_E1 (ck_S1 p2_s1193_s (ck_S1 p2_s1028_s ck_S0)) (ck_E1 (ck_S1 p2_s1156_s (ck_S1 p2_s569_s ck_S0)) (ck_E1 (ck_S1 p2_s186_s ck_S0) (ck_E1 (ck_S1 p2_s1157_s ck_S0) ck_E0)))⟩ ck_X0 ck_l0 (by decide +kernel)
set_option maxRecDepth 100000 in
/-- GlacierMailModel.ofLetter -/
noncomputable def p2_s1195 : ck_Sum := ((0, 0, 0), 245, [.inr (.inr (.inl 226)), .inl (ck_one 19), .inl (ck_one 2)], ([], [], []), ([], []), [(.inr (some (.inl (0, 6, []))), 245, ([], [], []))])
set_option maxRecDepth 100000 in
theorem p2_s1195_s {X : Int → Int} {LX : Nat} : ck_Ok p2_O X LX 301 p2_s1195 := ck_ok_s (O := p2_O) (X := X) (LX := LX) (E := []) (mi := 301) (cuts := []) (f := 92) (S := p2_s1195) (lx := none) (XF := []) ⟨p2_nmu, ck_E0⟩ ck_X0 ck_l0 (by decide +kernel)
set_option maxRecDepth 100000 in
/-- GlacierMailModel.opener -/
noncomputable def p2_s1196 : ck_Sum := ((5, 0, 0), 245, [.inr (.inr (.inl 226)), .inl (ck_one 19)], ([], [], zl180), ([(226, 17, 23), (233, 0, 399)], []), [(.inr (some (.inl (ck_one (-1)))), 245, ([], [], [])), (.inr (some (.inl (0, 7, []))), 245, ([], [], []))])
set_option maxRecDepth 100000 in
theorem p2_s1196_s {X : Int → Int} {LX : Nat} : ck_Ok p2_O X LX 322 p2_s1196 := ck_ok_s (O := p2_O) (X := X) (LX := LX) (E := [(301, [p2_s1195, p2_s1039]), (299, [p2_s1156, p2_s569]), (253, [p2_s186]), (323, [p2_s1157])]) (mi := 322) (cuts := [(31, [some (.inr (.inr (.inl 226))), some (.inl (ck_one 19)), some (.inl (0, 6, [])), some (.inl (0, 8, []))], ([], [], [(227, 253, 253, ((-1), 7, [])), (226, 29, 29, (0, 299, [])), (227, 9, 9, (1, 299, [(11, 0)])), (227, 3, 3, (0, 8, [(21, 0)]))]), 100, .inl 3, true)]) (f := 166) (S := p2_s1196) (lx := none) (XF := []) ⟨p2_nmu, ck_E1 (ck_S1 p2_s1195_s (ck_S1 p2_s1039_s ck_S0)) (ck_E1 (ck_S1 p2_s1156_s (ck_S1 p2_s569_s ck_S0)) (ck_E1 (ck_S1 p2_s186_s ck_S0) (ck_E1 (ck_S1 p2_s1157_s ck_S0) ck_E0)))⟩ ck_X0 ck_l0 (by decide +kernel)
set_option maxRecDepth 100000 in
/-- GlacierMailModel.ofLetter -/
noncomputable def p2_s1197 : ck_Sum := ((0, 0, 0), 245, [.inr (.inr (.inl 226)), .inl (ck_one 20), .inl (ck_one 2)], ([], [], []), ([], []), [(.inr (some (.inl (0, 6, []))), 245, ([], [], []))])
set_option maxRecDepth 100000 in
theorem p2_s1197_s {X : Int → Int} {LX : Nat} : ck_Ok p2_O X LX 301 p2_s1197 := ck_ok_s (O := p2_O) (X := X) (LX := LX) (E := []) (mi := 301) (cuts := []) (f := 92) (S := p2_s1197) (lx := none) (XF := []) ⟨p2_nmu, ck_E0⟩ ck_X0 ck_l0 (by decide +kernel)
set_option maxRecDepth 100000 in
/-- GlacierMailModel.opener -/
noncomputable def p2_s1198 : ck_Sum := ((5, 0, 0), 245, [.inr (.inr (.inl 226)), .inl (ck_one 20)], ([], [], zl180), ([(226, 17, 23), (233, 0, 399)], []), [(.inr (some (.inl (ck_one (-1)))), 245, ([], [], [])), (.inr (some (.inl (0, 7, []))), 245, ([], [], []))])
set_option maxRecDepth 100000 in
theorem p2_s1198_s {X : Int → Int} {LX : Nat} : ck_Ok p2_O X LX 322 p2_s1198 := ck_ok_s (O := p2_O) (X := X) (LX := LX) (E := [(301, [p2_s1197, p2_s1050]), (299, [p2_s1156, p2_s569]), (253, [p2_s186]), (323, [p2_s1157])]) (mi := 322) (cuts := [(31, [some (.inr (.inr (.inl 226))), some (.inl (ck_one 20)), some (.inl (0, 6, [])), some (.inl (0, 8, []))], ([], [], [(227, 260, 260, ((-1), 7, [])), (226, 29, 29, (0, 299, [])), (227, 9, 9, (1, 299, [(11, 0)])), (227, 3, 3, (0, 8, [(21, 0)]))]), 100, .inl 3, true)]) (f := 166) (S := p2_s1198) (lx := none) (XF := []) ⟨p2_nmu, ck_E1 (ck_S1 p2_s1197_s (ck_S1 p2_s1050_s ck_S0)) (ck_E1 (ck_S1 p2_s1156_s (ck_S1 p2_s569_s ck_S0)) (ck_E1 (ck_S1 p2_s186_s ck_S0) (ck_E1 (ck_S1 p2_s1157_s ck_S0) ck_E0)))⟩ ck_X0 ck_l0 (by decide +kernel)
set_option maxRecDepth 100000 in
/-- GlacierMailModel.ofLetter -/
noncomputable def p2_s1199 : ck_Sum := ((0, 0, 0), 245, [.inr (.inr (.inl 226)), .inl (ck_one 21), .inl (ck_one 2)], ([], [], []), ([], []), [(.inr (some (.inl (0, 6, []))), 245, ([], [], []))])
set_option maxRecDepth 100000 in
theorem p2_s1199_s {X : Int → Int} {LX : Nat} : ck_Ok p2_O X LX 301 p2_s1199 := ck_ok_s (O := p2_O) (X := X) (LX := LX) (E := []) (mi := 301) (cuts := []) (f := 92) (S := p2_s1199) (lx := none) (XF := []) ⟨p2_nmu, ck_E0⟩ ck_X0 ck_l0 (by decide +kernel)
set_option maxRecDepth 100000 in
/-- GlacierMailModel.opener -/
noncomputable def p2_s1200 : ck_Sum := ((5, 0, 0), 245, [.inr (.inr (.inl 226)), .inl (ck_one 21)], ([], [], zl180), ([(226, 17, 23), (233, 0, 399)], []), [(.inr (some (.inl (ck_one (-1)))), 245, ([], [], [])), (.inr (some (.inl (0, 7, []))), 245, ([], [], []))])
set_option maxRecDepth 100000 in
theorem p2_s1200_s {X : Int → Int} {LX : Nat} : ck_Ok p2_O X LX 322 p2_s1200 := ck_ok_s (O := p2_O) (X := X) (LX := LX) (E := [(301, [p2_s1199, p2_s1061]), (299, [p2_s1156, p2_s569]), (253, [p2_s186]), (323, [p2_s1157])]) (mi := 322) (cuts := [(31, [some (.inr (.inr (.inl 226))), some (.inl (ck_one 21)), some (.inl (0, 6, [])), some (.inl (0, 8, []))], ([], [], [(227, 267, 267, ((-1), 7, [])), (226, 29, 29, (0, 299, [])), (227, 9, 9, (1, 299, [(11, 0)])), (227, 3, 3, (0, 8, [(21, 0)]))]), 100, .inl 3, true)]) (f := 166) (S := p2_s1200) (lx := none) (XF := []) ⟨p2_nmu, ck_E1 (ck_S1 p2_s1199_s (ck_S1 p2_s1061_s ck_S0)) (ck_E1 (ck_S1 p2_s1156_s (ck_S1 p2_s569_s ck_S0)) (ck_E1 (ck_S1 p2_s186_s ck_S0) (ck_E1 (ck_S1 p2_s1157_s ck_S0) ck_E0)))⟩ ck_X0 ck_l0 (by decide +kernel)
set_option maxRecDepth 100000 in
/-- GlacierMailModel.ofLetter -/
noncomputable def p2_s1201 : ck_Sum := ((0, 0, 0), 245, [.inr (.inr (.inl 226)), .inl (ck_one 22), .inl (ck_one 2)], ([], [], []), ([], []), [(.inr (some (.inl (0, 6, []))), 245, ([], [], []))])
set_option maxRecDepth 100000 in
theorem p2_s1201_s {X : Int → Int} {LX : Nat} : ck_Ok p2_O X LX 301 p2_s1201 := ck_ok_s (O := p2_O) (X := X) (LX := LX) (E := []) (mi := 301) (cuts := []) (f := 92) (S := p2_s1201) (lx := none) (XF := []) ⟨p2_nmu, ck_E0⟩ ck_X0 ck_l0 (by decide +kernel)
set_option maxRecDepth 100000 in
/-- GlacierMailModel.opener -/
noncomputable def p2_s1202 : ck_Sum := ((5, 0, 0), 245, [.inr (.inr (.inl 226)), .inl (ck_one 22)], ([], [], zl180), ([(226, 17, 23), (233, 0, 399)], []), [(.inr (some (.inl (ck_one (-1)))), 245, ([], [], [])), (.inr (some (.inl (0, 7, []))), 245, ([], [], []))])
set_option maxRecDepth 100000 in
theorem p2_s1202_s {X : Int → Int} {LX : Nat} : ck_Ok p2_O X LX 322 p2_s1202 := ck_ok_s (O := p2_O) (X := X) (LX := LX) (E := [(301, [p2_s1201, p2_s1072]), (299, [p2_s1156, p2_s569]), (253, [p2_s186]), (323, [p2_s1157])]) (mi := 322) (cuts := [(31, [some (.inr (.inr (.inl 226))), some (.inl (ck_one 22)), some (.inl (0, 6, [])), some (.inl (0, 8, []))], ([], [], [(227, 274, 274, ((-1), 7, [])), (226, 29, 29, (0, 299, [])), (227, 9, 9, (1, 299, [(11, 0)])), (227, 3, 3, (0, 8, [(21, 0)]))]), 100, .inl 3, true)]) (f := 166) (S := p2_s1202) (lx := none) (XF := []) ⟨p2_nmu, ck_E1 (ck_S1 p2_s1201_s (ck_S1 p2_s1072_s ck_S0)) (ck_E1 (ck_S1 p2_s1156_s (ck_S1 p2_s569_s ck_S0)) (ck_E1 (ck_S1 p2_s186_s ck_S0) (ck_E1 (ck_S1 p2_s1157_s ck_S0) ck_E0)))⟩ ck_X0 ck_l0 (by decide +kernel)
set_option maxRecDepth 100000 in
/-- GlacierMailModel.ofLetter -/
noncomputable def p2_s1203 : ck_Sum := ((0, 0, 0), 245, [.inr (.inr (.inl 226)), .inl (ck_one 23), .inl (ck_one 2)], ([], [], []), ([], []), [(.inr (some (.inl (0, 6, []))), 245, ([], [], []))])
set_option maxRecDepth 100000 in
theorem p2_s1203_s {X : Int → Int} {LX : Nat} : ck_Ok p2_O X LX 301 p2_s1203 := ck_ok_s (O := p2_O) (X := X) (LX := LX) (E := []) (mi := 301) (cuts := []) (f := 92) (S := p2_s1203) (lx := none) (XF := []) ⟨p2_nmu, ck_E0⟩ ck_X0 ck_l0 (by decide +kernel)
set_option maxRecDepth 100000 in
/-- GlacierMailModel.opener -/
noncomputable def p2_s1204 : ck_Sum := ((5, 0, 0), 245, [.inr (.inr (.inl 226)), .inl (ck_one 23)], ([], [], zl180), ([(226, 17, 23), (233, 0, 399)], []), [(.inr (some (.inl (ck_one (-1)))), 245, ([], [], [])), (.inr (some (.inl (0, 7, []))), 245, ([], [], []))])
set_option maxRecDepth 100000 in
theorem p2_s1204_s {X : Int → Int} {LX : Nat} : ck_Ok p2_O X LX 322 p2_s1204 := ck_ok_s (O := p2_O) (X := X) (LX := LX) (E := [(301, [p2_s1203, p2_s1083]), (299, [p2_s1156, p2_s569]), (253, [p2_s186]), (323, [p2_s1157])]) (mi := 322) (cuts := [(31, [some (.inr (.inr (.inl 226))), some (.inl (ck_one 23)), some (.inl (0, 6, [])), some (.inl (0, 8, []))], ([], [], [(227, 281, 281, ((-1), 7, [])), (226, 29, 29, (0, 299, [])), (227, 9, 9, (1, 299, [(11, 0)])), (227, 3, 3, (0, 8, [(21, 0)]))]), 100, .inl 3, true)]) (f := 166) (S := p2_s1204) (lx := none) (XF := []) ⟨p2_nmu, ck_E1 (ck_S1 p2_s1203_s (ck_S1 p2_s1083_s ck_S0)) (ck_E1 (ck_S1 p2_s1156_s (ck_S1 p2_s569_s ck_S0)) (ck_E1 (ck_S1 p2_s186_s ck_S0) (ck_E1 (ck_S1 p2_s1157_s ck_S0) ck_E0)))⟩ ck_X0 ck_l0 (by decide +kernel)
end
/-! 78r80a15b.sf -/
section
/-! THE REFERENCE'S year. -/
set_option maxRecDepth 100000 in
/-- GlacierMailModel.year -/
noncomputable def p2_s1205 : ck_Sum := ((9, 0, 0), 245, [.inr (.inr (.inl 226))], ([], [], [(227, 9, 9, (0, 298, [(11, 0)])), (227, 2, 2, (0, 8, [(20, 0)])), (227, 3, 3, (0, 8, [(21, 0)])), (227, 4, 4, (0, 24, [(22, 0)])), (227, 5, 5, (0, 8, [(23, 0)])), (227, 14, 14, (0, 24, [(26, 0)]))]), ([(226, 17, 23), (226, 26, 26), (226, 29, 30), (227, 9, 9), (227, 14, 14), (227, 124, 125), (227, 131, 132), (227, 138, 139), (227, 145, 146), (227, 152, 153), (227, 159, 160), (227, 166, 167), (227, 173, 174), (227, 180, 181), (227, 187, 188), (227, 194, 195), (227, 201, 202), (227, 208, 209), (227, 215, 216), (227, 222, 223), (227, 229, 230), (227, 236, 237), (227, 243, 244), (227, 250, 251), (227, 257, 258), (227, 264, 265), (227, 271, 272), (227, 278, 279), (227, 285, 286), (227, 323, 394), (233, 0, 399), (235, 0, 29699), (236, 0, 299), (237, 0, 299)], []), [(.inr (some (.inl (0, 24, []))), 245, ([], [], [(227, 9, 9, (1, 299, [(11, 1)]))]))])
noncomputable def p2_s1205_E : List (Nat × List ck_Sum) := [(254, [p2_s176]), (302, [p2_s829, p2_s840, p2_s851, p2_s862, p2_s873, p2_s884, p2_s895, p2_s906, p2_s917, p2_s928, p2_s939, p2_s950, p2_s961, p2_s972, p2_s983, p2_s994, p2_s1005, p2_s1016, p2_s1027, p2_s1038, p2_s1049, p2_s1060, p2_s1071, p2_s1082]), (322, [p2_s1158, p2_s1160, p2_s1162, p2_s1164, p2_s1166, p2_s1168, p2_s1170, p2_s1172, p2_s1174, p2_s1176, p2_s1178, p2_s1180, p2_s1182, p2_s1184, p2_s1186, p2_s1188, p2_s1190, p2_s1192, p2_s1194, p2_s1196, p2_s1198, p2_s1200, p2_s1202, p2_s1204]), (319, [p2_s833, p2_s844, p2_s855, p2_s866, p2_s877, p2_s888, p2_s899, p2_s910, p2_s921, p2_s932, p2_s943, p2_s954, p2_s965, p2_s976, p2_s987, p2_s998, p2_s1009, p2_s1020, p2_s1031, p2_s1042, p2_s1053, p2_s1064, p2_s1075, p2_s1086])]
noncomputable def p2_s1205_i : List (Nat × ck_C) := []
set_option maxRecDepth 100000 in
noncomputable def p2_s1205_l : List ck_H := [(15, ([some (.inr (.inr (.inl 226))), some (.inl (0, 24, [])), some (.inl (ck_one 24)), some (.inl ((-1), 7, []))], ([], [], [(227, 9, 9, (1, 299, [(11, 1)])), (227, 2, 2, (0, 8, [(20, 0)])), (227, 3, 3, (0, 8, [(21, 0)])), (227, 4, 4, (24, 24, [(22, 0)])), (227, 5, 5, (0, 8, [(23, 0)]))]), 2000000, .inl 1, true), 0, 0, 245), (15, ([some (.inr (.inr (.inl 226))), some (.inl (0, 23, [])), some (.inl (ck_one 23)), some (.inl ((-1), 7, []))], ([], [], [(227, 9, 9, (1, 299, [(11, 1)])), (227, 2, 2, (0, 8, [(20, 0)])), (227, 3, 3, (0, 8, [(21, 0)])), (227, 4, 4, (23, 24, [(22, 0)])), (227, 5, 5, (0, 8, [(23, 0)]))]), 2000001, .inl 1, true), 0, 0, 245), (15, ([some (.inr (.inr (.inl 226))), some (.inl (0, 22, [])), some (.inl (ck_one 22)), some (.inl ((-1), 7, []))], ([], [], [(227, 9, 9, (1, 299, [(11, 1)])), (227, 2, 2, (0, 8, [(20, 0)])), (227, 3, 3, (0, 8, [(21, 0)])), (227, 4, 4, (22, 24, [(22, 0)])), (227, 5, 5, (0, 8, [(23, 0)]))]), 2000002, .inl 1, true), 0, 0, 245), (15, ([some (.inr (.inr (.inl 226))), some (.inl (0, 21, [])), some (.inl (ck_one 21)), some (.inl ((-1), 7, []))], ([], [], [(227, 9, 9, (1, 299, [(11, 1)])), (227, 2, 2, (0, 8, [(20, 0)])), (227, 3, 3, (0, 8, [(21, 0)])), (227, 4, 4, (21, 24, [(22, 0)])), (227, 5, 5, (0, 8, [(23, 0)]))]), 2000003, .inl 1, true), 0, 0, 245), (15, ([some (.inr (.inr (.inl 226))), some (.inl (0, 20, [])), some (.inl (ck_one 20)), some (.inl ((-1), 7, []))], ([], [], [(227, 9, 9, (1, 299, [(11, 1)])), (227, 2, 2, (0, 8, [(20, 0)])), (227, 3, 3, (0, 8, [(21, 0)])), (227, 4, 4, (20, 24, [(22, 0)])), (227, 5, 5, (0, 8, [(23, 0)]))]), 2000004, .inl 1, true), 0, 0, 245), (15, ([some (.inr (.inr (.inl 226))), some (.inl (0, 19, [])), some (.inl (ck_one 19)), some (.inl ((-1), 7, []))], ([], [], [(227, 9, 9, (1, 299, [(11, 1)])), (227, 2, 2, (0, 8, [(20, 0)])), (227, 3, 3, (0, 8, [(21, 0)])), (227, 4, 4, (19, 24, [(22, 0)])), (227, 5, 5, (0, 8, [(23, 0)]))]), 2000005, .inl 1, true), 0, 0, 245), (15, ([some (.inr (.inr (.inl 226))), some (.inl (0, 18, [])), some (.inl (ck_one 18)), some (.inl ((-1), 7, []))], ([], [], [(227, 9, 9, (1, 299, [(11, 1)])), (227, 2, 2, (0, 8, [(20, 0)])), (227, 3, 3, (0, 8, [(21, 0)])), (227, 4, 4, (18, 24, [(22, 0)])), (227, 5, 5, (0, 8, [(23, 0)]))]), 2000006, .inl 1, true), 0, 0, 245), (15, ([some (.inr (.inr (.inl 226))), some (.inl (0, 17, [])), some (.inl (ck_one 17)), some (.inl ((-1), 7, []))], ([], [], [(227, 9, 9, (1, 299, [(11, 1)])), (227, 2, 2, (0, 8, [(20, 0)])), (227, 3, 3, (0, 8, [(21, 0)])), (227, 4, 4, (17, 24, [(22, 0)])), (227, 5, 5, (0, 8, [(23, 0)]))]), 2000007, .inl 1, true), 0, 0, 245), (15, ([some (.inr (.inr (.inl 226))), some (.inl (0, 16, [])), some (.inl (ck_one 16)), some (.inl ((-1), 7, []))], ([], [], [(227, 9, 9, (1, 299, [(11, 1)])), (227, 2, 2, (0, 8, [(20, 0)])), (227, 3, 3, (0, 8, [(21, 0)])), (227, 4, 4, (16, 24, [(22, 0)])), (227, 5, 5, (0, 8, [(23, 0)]))]), 2000008, .inl 1, true), 0, 0, 245), (15, ([some (.inr (.inr (.inl 226))), some (.inl (0, 15, [])), some (.inl (ck_one 15)), some (.inl ((-1), 7, []))], ([], [], [(227, 9, 9, (1, 299, [(11, 1)])), (227, 2, 2, (0, 8, [(20, 0)])), (227, 3, 3, (0, 8, [(21, 0)])), (227, 4, 4, (15, 24, [(22, 0)])), (227, 5, 5, (0, 8, [(23, 0)]))]), 2000009, .inl 1, true), 0, 0, 245), (15, ([some (.inr (.inr (.inl 226))), some (.inl (0, 14, [])), some (.inl (ck_one 14)), some (.inl ((-1), 7, []))], ([], [], [(227, 9, 9, (1, 299, [(11, 1)])), (227, 2, 2, (0, 8, [(20, 0)])), (227, 3, 3, (0, 8, [(21, 0)])), (227, 4, 4, (14, 24, [(22, 0)])), (227, 5, 5, (0, 8, [(23, 0)]))]), 2000010, .inl 1, true), 0, 0, 245), (15, ([some (.inr (.inr (.inl 226))), some (.inl (0, 13, [])), some (.inl (ck_one 13)), some (.inl ((-1), 7, []))], ([], [], [(227, 9, 9, (1, 299, [(11, 1)])), (227, 2, 2, (0, 8, [(20, 0)])), (227, 3, 3, (0, 8, [(21, 0)])), (227, 4, 4, (13, 24, [(22, 0)])), (227, 5, 5, (0, 8, [(23, 0)]))]), 2000011, .inl 1, true), 0, 0, 245), (15, ([some (.inr (.inr (.inl 226))), some (.inl (0, 12, [])), some (.inl (ck_one 12)), some (.inl ((-1), 7, []))], ([], [], [(227, 9, 9, (1, 299, [(11, 1)])), (227, 2, 2, (0, 8, [(20, 0)])), (227, 3, 3, (0, 8, [(21, 0)])), (227, 4, 4, (12, 24, [(22, 0)])), (227, 5, 5, (0, 8, [(23, 0)]))]), 2000012, .inl 1, true), 0, 0, 245), (15, ([some (.inr (.inr (.inl 226))), some (.inl (0, 11, [])), some (.inl (ck_one 11)), some (.inl ((-1), 7, []))], ([], [], [(227, 9, 9, (1, 299, [(11, 1)])), (227, 2, 2, (0, 8, [(20, 0)])), (227, 3, 3, (0, 8, [(21, 0)])), (227, 4, 4, (11, 24, [(22, 0)])), (227, 5, 5, (0, 8, [(23, 0)]))]), 2000013, .inl 1, true), 0, 0, 245), (15, ([some (.inr (.inr (.inl 226))), some (.inl (0, 10, [])), some (.inl (ck_one 10)), some (.inl ((-1), 7, []))], ([], [], [(227, 9, 9, (1, 299, [(11, 1)])), (227, 2, 2, (0, 8, [(20, 0)])), (227, 3, 3, (0, 8, [(21, 0)])), (227, 4, 4, (10, 24, [(22, 0)])), (227, 5, 5, (0, 8, [(23, 0)]))]), 2000014, .inl 1, true), 0, 0, 245), (15, ([some (.inr (.inr (.inl 226))), some (.inl (0, 9, [])), some (.inl (ck_one 9)), some (.inl ((-1), 7, []))], ([], [], [(227, 9, 9, (1, 299, [(11, 1)])), (227, 2, 2, (0, 8, [(20, 0)])), (227, 3, 3, (0, 8, [(21, 0)])), (227, 4, 4, (9, 24, [(22, 0)])), (227, 5, 5, (0, 8, [(23, 0)]))]), 2000015, .inl 1, true), 0, 0, 245), (15, ([some (.inr (.inr (.inl 226))), some (.inl (0, 8, [])), some (.inl (ck_one 8)), some (.inl ((-1), 7, []))], ([], [], [(227, 9, 9, (1, 299, [(11, 1)])), (227, 2, 2, (0, 8, [(20, 0)])), (227, 3, 3, (0, 8, [(21, 0)])), (227, 4, 4, (8, 24, [(22, 0)])), (227, 5, 5, (0, 8, [(23, 0)]))]), 2000016, .inl 1, true), 0, 0, 245), (15, ([some (.inr (.inr (.inl 226))), some (.inl (0, 7, [])), some (.inl (ck_one 7)), some (.inl ((-1), 7, []))], ([], [], [(227, 9, 9, (1, 299, [(11, 1)])), (227, 2, 2, (0, 8, [(20, 0)])), (227, 3, 3, (0, 8, [(21, 0)])), (227, 4, 4, (7, 24, [(22, 0)])), (227, 5, 5, (0, 8, [(23, 0)]))]), 2000017, .inl 1, true), 0, 0, 245), (15, ([some (.inr (.inr (.inl 226))), some (.inl (0, 6, [])), some (.inl (ck_one 6)), some (.inl ((-1), 7, []))], ([], [], [(227, 9, 9, (1, 299, [(11, 1)])), (227, 2, 2, (0, 8, [(20, 0)])), (227, 3, 3, (0, 8, [(21, 0)])), (227, 4, 4, (6, 24, [(22, 0)])), (227, 5, 5, (0, 8, [(23, 0)]))]), 2000018, .inl 1, true), 0, 0, 245), (15, ([some (.inr (.inr (.inl 226))), some (.inl (0, 5, [])), some (.inl (ck_one 5)), some (.inl ((-1), 7, []))], ([], [], [(227, 9, 9, (1, 299, [(11, 1)])), (227, 2, 2, (0, 8, [(20, 0)])), (227, 3, 3, (0, 8, [(21, 0)])), (227, 4, 4, (5, 24, [(22, 0)])), (227, 5, 5, (0, 8, [(23, 0)]))]), 2000019, .inl 1, true), 0, 0, 245), (15, ([some (.inr (.inr (.inl 226))), some (.inl (0, 4, [])), some (.inl (ck_one 4)), some (.inl ((-1), 7, []))], ([], [], [(227, 9, 9, (1, 299, [(11, 1)])), (227, 2, 2, (0, 8, [(20, 0)])), (227, 3, 3, (0, 8, [(21, 0)])), (227, 4, 4, (4, 24, [(22, 0)])), (227, 5, 5, (0, 8, [(23, 0)]))]), 2000020, .inl 1, true), 0, 0, 245), (15, ([some (.inr (.inr (.inl 226))), some (.inl (0, 3, [])), some (.inl (ck_one 3)), some (.inl ((-1), 7, []))], ([], [], [(227, 9, 9, (1, 299, [(11, 1)])), (227, 2, 2, (0, 8, [(20, 0)])), (227, 3, 3, (0, 8, [(21, 0)])), (227, 4, 4, (3, 24, [(22, 0)])), (227, 5, 5, (0, 8, [(23, 0)]))]), 2000021, .inl 1, true), 0, 0, 245), (15, ([some (.inr (.inr (.inl 226))), some (.inl (0, 2, [])), some (.inl (ck_one 2)), some (.inl ((-1), 7, []))], ([], [], [(227, 9, 9, (1, 299, [(11, 1)])), (227, 2, 2, (0, 8, [(20, 0)])), (227, 3, 3, (0, 8, [(21, 0)])), (227, 4, 4, (2, 24, [(22, 0)])), (227, 5, 5, (0, 8, [(23, 0)]))]), 2000022, .inl 1, true), 0, 0, 245), (15, ([some (.inr (.inr (.inl 226))), some (.inl (0, 1, [])), some (.inl (ck_one 1)), some (.inl ((-1), 7, []))], ([], [], [(227, 9, 9, (1, 299, [(11, 1)])), (227, 2, 2, (0, 8, [(20, 0)])), (227, 3, 3, (0, 8, [(21, 0)])), (227, 4, 4, (1, 24, [(22, 0)])), (227, 5, 5, (0, 8, [(23, 0)]))]), 2000023, .inl 1, true), 0, 0, 245), (15, ([some (.inr (.inr (.inl 226))), some (.inl (ck_one 0)), some (.inl (ck_one 0)), none], ([], [], [(227, 9, 9, (1, 299, [(11, 1)])), (227, 2, 2, (0, 8, [(20, 0)])), (227, 3, 3, (0, 8, [(21, 0)])), (227, 4, 4, (0, 24, [(22, 0)])), (227, 5, 5, (0, 8, [(23, 0)])), (227, 14, 14, (0, 24, [(26, 0)]))]), 2000024, .inl 1, true), 0, 0, 245)]
set_option maxRecDepth 100000 in
theorem p2_s1205_a : (decide (p2_s1205.2.2.1.length ≤ gm_ml 321) && ck_cu (p2_s1205_l.map (fun h => (h.1, h.2.1)) ++ p2_s1205_i)) = true := by decide +kernel
set_option maxRecDepth 100000 in
theorem p2_s1205_e0 : ck_stpi p2_O p2_s1205_E 321 p2_s1205.1.1 p2_s1205.2.1 p2_s1205.2.2.2.2.1 p2_s1205.2.2.2.2.2 (p2_s1205_l.map (fun h => (h.1, h.2.1)) ++ p2_s1205_i) 1766 p2_s1205_l 0 = true := by decide +kernel
set_option maxRecDepth 100000 in
theorem p2_s1205_e1 : ck_stpi p2_O p2_s1205_E 321 p2_s1205.1.1 p2_s1205.2.1 p2_s1205.2.2.2.2.1 p2_s1205.2.2.2.2.2 (p2_s1205_l.map (fun h => (h.1, h.2.1)) ++ p2_s1205_i) 1766 p2_s1205_l 1 = true := by decide +kernel
set_option maxRecDepth 100000 in
theorem p2_s1205_e2 : ck_stpi p2_O p2_s1205_E 321 p2_s1205.1.1 p2_s1205.2.1 p2_s1205.2.2.2.2.1 p2_s1205.2.2.2.2.2 (p2_s1205_l.map (fun h => (h.1, h.2.1)) ++ p2_s1205_i) 1766 p2_s1205_l 2 = true := by decide +kernel
set_option maxRecDepth 100000 in
theorem p2_s1205_e3 : ck_stpi p2_O p2_s1205_E 321 p2_s1205.1.1 p2_s1205.2.1 p2_s1205.2.2.2.2.1 p2_s1205.2.2.2.2.2 (p2_s1205_l.map (fun h => (h.1, h.2.1)) ++ p2_s1205_i) 1766 p2_s1205_l 3 = true := by decide +kernel
set_option maxRecDepth 100000 in
theorem p2_s1205_e4 : ck_stpi p2_O p2_s1205_E 321 p2_s1205.1.1 p2_s1205.2.1 p2_s1205.2.2.2.2.1 p2_s1205.2.2.2.2.2 (p2_s1205_l.map (fun h => (h.1, h.2.1)) ++ p2_s1205_i) 1766 p2_s1205_l 4 = true := by decide +kernel
set_option maxRecDepth 100000 in
theorem p2_s1205_e5 : ck_stpi p2_O p2_s1205_E 321 p2_s1205.1.1 p2_s1205.2.1 p2_s1205.2.2.2.2.1 p2_s1205.2.2.2.2.2 (p2_s1205_l.map (fun h => (h.1, h.2.1)) ++ p2_s1205_i) 1766 p2_s1205_l 5 = true := by decide +kernel
set_option maxRecDepth 100000 in
theorem p2_s1205_e6 : ck_stpi p2_O p2_s1205_E 321 p2_s1205.1.1 p2_s1205.2.1 p2_s1205.2.2.2.2.1 p2_s1205.2.2.2.2.2 (p2_s1205_l.map (fun h => (h.1, h.2.1)) ++ p2_s1205_i) 1766 p2_s1205_l 6 = true := by decide +kernel
set_option maxRecDepth 100000 in
theorem p2_s1205_e7 : ck_stpi p2_O p2_s1205_E 321 p2_s1205.1.1 p2_s1205.2.1 p2_s1205.2.2.2.2.1 p2_s1205.2.2.2.2.2 (p2_s1205_l.map (fun h => (h.1, h.2.1)) ++ p2_s1205_i) 1766 p2_s1205_l 7 = true := by decide +kernel
set_option maxRecDepth 100000 in
theorem p2_s1205_e8 : ck_stpi p2_O p2_s1205_E 321 p2_s1205.1.1 p2_s1205.2.1 p2_s1205.2.2.2.2.1 p2_s1205.2.2.2.2.2 (p2_s1205_l.map (fun h => (h.1, h.2.1)) ++ p2_s1205_i) 1766 p2_s1205_l 8 = true := by decide +kernel
set_option maxRecDepth 100000 in
theorem p2_s1205_e9 : ck_stpi p2_O p2_s1205_E 321 p2_s1205.1.1 p2_s1205.2.1 p2_s1205.2.2.2.2.1 p2_s1205.2.2.2.2.2 (p2_s1205_l.map (fun h => (h.1, h.2.1)) ++ p2_s1205_i) 1766 p2_s1205_l 9 = true := by decide +kernel
set_option maxRecDepth 100000 in
theorem p2_s1205_e10 : ck_stpi p2_O p2_s1205_E 321 p2_s1205.1.1 p2_s1205.2.1 p2_s1205.2.2.2.2.1 p2_s1205.2.2.2.2.2 (p2_s1205_l.map (fun h => (h.1, h.2.1)) ++ p2_s1205_i) 1766 p2_s1205_l 10 = true := by decide +kernel
set_option maxRecDepth 100000 in
theorem p2_s1205_e11 : ck_stpi p2_O p2_s1205_E 321 p2_s1205.1.1 p2_s1205.2.1 p2_s1205.2.2.2.2.1 p2_s1205.2.2.2.2.2 (p2_s1205_l.map (fun h => (h.1, h.2.1)) ++ p2_s1205_i) 1766 p2_s1205_l 11 = true := by decide +kernel
set_option maxRecDepth 100000 in
theorem p2_s1205_e12 : ck_stpi p2_O p2_s1205_E 321 p2_s1205.1.1 p2_s1205.2.1 p2_s1205.2.2.2.2.1 p2_s1205.2.2.2.2.2 (p2_s1205_l.map (fun h => (h.1, h.2.1)) ++ p2_s1205_i) 1766 p2_s1205_l 12 = true := by decide +kernel
set_option maxRecDepth 100000 in
theorem p2_s1205_e13 : ck_stpi p2_O p2_s1205_E 321 p2_s1205.1.1 p2_s1205.2.1 p2_s1205.2.2.2.2.1 p2_s1205.2.2.2.2.2 (p2_s1205_l.map (fun h => (h.1, h.2.1)) ++ p2_s1205_i) 1766 p2_s1205_l 13 = true := by decide +kernel
set_option maxRecDepth 100000 in
theorem p2_s1205_e14 : ck_stpi p2_O p2_s1205_E 321 p2_s1205.1.1 p2_s1205.2.1 p2_s1205.2.2.2.2.1 p2_s1205.2.2.2.2.2 (p2_s1205_l.map (fun h => (h.1, h.2.1)) ++ p2_s1205_i) 1766 p2_s1205_l 14 = true := by decide +kernel
set_option maxRecDepth 100000 in
theorem p2_s1205_e15 : ck_stpi p2_O p2_s1205_E 321 p2_s1205.1.1 p2_s1205.2.1 p2_s1205.2.2.2.2.1 p2_s1205.2.2.2.2.2 (p2_s1205_l.map (fun h => (h.1, h.2.1)) ++ p2_s1205_i) 1766 p2_s1205_l 15 = true := by decide +kernel
set_option maxRecDepth 100000 in
theorem p2_s1205_e16 : ck_stpi p2_O p2_s1205_E 321 p2_s1205.1.1 p2_s1205.2.1 p2_s1205.2.2.2.2.1 p2_s1205.2.2.2.2.2 (p2_s1205_l.map (fun h => (h.1, h.2.1)) ++ p2_s1205_i) 1766 p2_s1205_l 16 = true := by decide +kernel
set_option maxRecDepth 100000 in
theorem p2_s1205_e17 : ck_stpi p2_O p2_s1205_E 321 p2_s1205.1.1 p2_s1205.2.1 p2_s1205.2.2.2.2.1 p2_s1205.2.2.2.2.2 (p2_s1205_l.map (fun h => (h.1, h.2.1)) ++ p2_s1205_i) 1766 p2_s1205_l 17 = true := by decide +kernel
set_option maxRecDepth 100000 in
theorem p2_s1205_e18 : ck_stpi p2_O p2_s1205_E 321 p2_s1205.1.1 p2_s1205.2.1 p2_s1205.2.2.2.2.1 p2_s1205.2.2.2.2.2 (p2_s1205_l.map (fun h => (h.1, h.2.1)) ++ p2_s1205_i) 1766 p2_s1205_l 18 = true := by decide +kernel
set_option maxRecDepth 100000 in
theorem p2_s1205_e19 : ck_stpi p2_O p2_s1205_E 321 p2_s1205.1.1 p2_s1205.2.1 p2_s1205.2.2.2.2.1 p2_s1205.2.2.2.2.2 (p2_s1205_l.map (fun h => (h.1, h.2.1)) ++ p2_s1205_i) 1766 p2_s1205_l 19 = true := by decide +kernel
set_option maxRecDepth 100000 in
theorem p2_s1205_e20 : ck_stpi p2_O p2_s1205_E 321 p2_s1205.1.1 p2_s1205.2.1 p2_s1205.2.2.2.2.1 p2_s1205.2.2.2.2.2 (p2_s1205_l.map (fun h => (h.1, h.2.1)) ++ p2_s1205_i) 1766 p2_s1205_l 20 = true := by decide +kernel
set_option maxRecDepth 100000 in
theorem p2_s1205_e21 : ck_stpi p2_O p2_s1205_E 321 p2_s1205.1.1 p2_s1205.2.1 p2_s1205.2.2.2.2.1 p2_s1205.2.2.2.2.2 (p2_s1205_l.map (fun h => (h.1, h.2.1)) ++ p2_s1205_i) 1766 p2_s1205_l 21 = true := by decide +kernel
set_option maxRecDepth 100000 in
theorem p2_s1205_e22 : ck_stpi p2_O p2_s1205_E 321 p2_s1205.1.1 p2_s1205.2.1 p2_s1205.2.2.2.2.1 p2_s1205.2.2.2.2.2 (p2_s1205_l.map (fun h => (h.1, h.2.1)) ++ p2_s1205_i) 1766 p2_s1205_l 22 = true := by decide +kernel
set_option maxRecDepth 100000 in
theorem p2_s1205_e23 : ck_stpi p2_O p2_s1205_E 321 p2_s1205.1.1 p2_s1205.2.1 p2_s1205.2.2.2.2.1 p2_s1205.2.2.2.2.2 (p2_s1205_l.map (fun h => (h.1, h.2.1)) ++ p2_s1205_i) 1766 p2_s1205_l 23 = true := by decide +kernel
set_option maxRecDepth 100000 in
theorem p2_s1205_e24 : ck_stpi p2_O p2_s1205_E 321 p2_s1205.1.1 p2_s1205.2.1 p2_s1205.2.2.2.2.1 p2_s1205.2.2.2.2.2 (p2_s1205_l.map (fun h => (h.1, h.2.1)) ++ p2_s1205_i) 1766 p2_s1205_l 24 = true := by decide +kernel
set_option maxRecDepth 100000 in
theorem p2_s1205_z : ck_go p2_O none [] p2_s1205_E 321 p2_s1205.1.1 p2_s1205.2.1 p2_s1205.2.2.2.2.1 p2_s1205.2.2.2.2.2 (p2_s1205_l.map (fun h => (h.1, h.2.1)) ++ p2_s1205_i) 1766 false p2_s1205_l p2_s1205.1.2.1 p2_s1205.1.2.2 0 (p2_s1205.2.2.1.map some ++ List.replicate (gm_ml 321 - p2_s1205.2.2.1.length) none) [] p2_s1205.2.1 p2_s1205.2.2.2.1 = true := by decide +kernel
theorem p2_s1205_s {X : Int → Int} {LX : Nat} : ck_Ok p2_O X LX 321 p2_s1205 := by
  refine ck_okp_i (cuts := p2_s1205_i) (l := p2_s1205_l) (f := 1766) ⟨p2_nmu, ck_E1 (ck_S1 p2_s176_s ck_S0) (ck_E1 (ck_S1 p2_s829_s (ck_S1 p2_s840_s (ck_S1 p2_s851_s (ck_S1 p2_s862_s (ck_S1 p2_s873_s (ck_S1 p2_s884_s (ck_S1 p2_s895_s (ck_S1 p2_s906_s (ck_S1 p2_s917_s (ck_S1 p2_s928_s (ck_S1 p2_s939_s (ck_S1 p2_s950_s (ck_S1 p2_s961_s (ck_S1 p2_s972_s (ck_S1 p2_s983_s (ck_S1 p2_s994_s (ck_S1 p2_s1005_s (ck_S1 p2_s1016_s (ck_S1 p2_s1027_s (ck_S1 p2_s1038_s (ck_S1 p2_s1049_s (ck_S1 p2_s1060_s (ck_S1 p2_s1071_s (ck_S1 p2_s1082_s ck_S0)))))))))))))))))))))))) (ck_E1 (ck_S1 p2_s1158_s (ck_S1 p2_s1160_s (ck_S1 p2_s1162_s (ck_S1 p2_s1164_s (ck_S1 p2_s1166_s (ck_S1 p2_s1168_s (ck_S1 p2_s1170_s (ck_S1 p2_s1172_s (ck_S1 p2_s1174_s (ck_S1 p2_s1176_s (ck_S1 p2_s1178_s (ck_S1 p2_s1180_s (ck_S1 p2_s1182_s (ck_S1 p2_s1184_s (ck_S1 p2_s1186_s (ck_S1 p2_s1188_s (ck_S1 p2_s1190_s (ck_S1 p2_s1192_s (ck_S1 p2_s1194_s (ck_S1 p2_s1196_s (ck_S1 p2_s1198_s (ck_S1 p2_s1200_s (ck_S1 p2_s1202_s (ck_S1 p2_s1204_s ck_S0)))))))))))))))))))))))) (ck_E1 (ck_S1 p2_s833_s (ck_S1 p2_s844_s (ck_S1 p2_s855_s (ck_S1 p2_s866_s (ck_S1 p2_s877_s (ck_S1 p2_s888_s (ck_S1 p2_s899_s (ck_S1 p2_s910_s (ck_S1 p2_s921_s (ck_S1 p2_s932_s (ck_S1 p2_s943_s (ck_S1 p2_s954_s (ck_S1 p2_s965_s (ck_S1 p2_s976_s (ck_S1 p2_s987_s (ck_S1 p2_s998_s (ck_S1 p2_s1009_s (ck_S1 p2_s1020_s (ck_S1 p2_s1031_s (ck_S1 p2_s1042_s (ck_S1 p2_s1053_s (ck_S1 p2_s1064_s (ck_S1 p2_s1075_s (ck_S1 p2_s1086_s ck_S0)))))))))))))))))))))))) ck_E0)))⟩ p2_s1205_a (fun i hi => ?_) p2_s1205_z
  have hi : i < 25 := hi
  have : i = 0 ∨ i = 1 ∨ i = 2 ∨ i = 3 ∨ i = 4 ∨ i = 5 ∨ i = 6 ∨ i = 7 ∨ i = 8 ∨ i = 9 ∨ i = 10 ∨ i = 11 ∨ i = 12 ∨ i = 13 ∨ i = 14 ∨ i = 15 ∨ i = 16 ∨ i = 17 ∨ i = 18 ∨ i = 19 ∨ i = 20 ∨ i = 21 ∨ i = 22 ∨ i = 23 ∨ i = 24 := by omega
  rcases this with rfl | rfl | rfl | rfl | rfl | rfl | rfl | rfl | rfl | rfl | rfl | rfl | rfl | rfl | rfl | rfl | rfl | rfl | rfl | rfl | rfl | rfl | rfl | rfl | rfl
  · exact p2_s1205_e0
  · exact p2_s1205_e1
  · exact p2_s1205_e2
  · exact p2_s1205_e3
  · exact p2_s1205_e4
  · exact p2_s1205_e5
  · exact p2_s1205_e6
  · exact p2_s1205_e7
  · exact p2_s1205_e8
  · exact p2_s1205_e9
  · exact p2_s1205_e10
  · exact p2_s1205_e11
  · exact p2_s1205_e12
  · exact p2_s1205_e13
  · exact p2_s1205_e14
  · exact p2_s1205_e15
  · exact p2_s1205_e16
  · exact p2_s1205_e17
  · exact p2_s1205_e18
  · exact p2_s1205_e19
  · exact p2_s1205_e20
  · exact p2_s1205_e21
  · exact p2_s1205_e22
  · exact p2_s1205_e23
  · exact p2_s1205_e24
end
/-! 78r80a15c.sf -/
section
/-! EVERY CALL ENDS, whatever was done before (laid by wip/am/p2k.py). -/
set_option maxRecDepth 100000 in
/-- GlacierMailModel.years -/
noncomputable def p2_s1206 : ck_Sum := ((10, 0, 0), 245, [.inr (.inr (.inl 226)), .inl (ck_one 1)], ([], [], zl181), (zl182, []), [(.inr (some (.inl (0, 24, []))), 245, ([], [], [(227, 9, 9, (1, 299, [(1000011, 0)])), (226, 6, 6, (0, 12, [(1000027, 0)])), (226, 0, 0, (0, 1, []))]))])
set_option maxRecDepth 100000 in
theorem p2_s1206_s {X : Int → Int} {LX : Nat} : ck_Ok p2_O X LX 320 p2_s1206 := ck_ok_s (O := p2_O) (X := X) (LX := LX) (E := [(286, [p2_s1154]), (266, [p2_s190]), (282, [p2_s242, p2_s241]), (316, [p2_s553]), (321, [p2_s1205])]) (mi := 320) (cuts := []) (f := 150) (S := p2_s1206) (lx := none) (XF := []) ⟨p2_nmu, ck_E1 (ck_S1 p2_s1154_s ck_S0) (ck_E1 (ck_S1 p2_s190_s ck_S0) (ck_E1 (ck_S1 p2_s242_s (ck_S1 p2_s241_s ck_S0)) (ck_E1 (ck_S1 p2_s553_s ck_S0) (ck_E1 (ck_S1 p2_s1205_s ck_S0) ck_E0))))⟩ ck_X0 ck_l0 (by decide +kernel)
set_option maxRecDepth 100000 in
/-- GlacierMailModel.in -/
noncomputable def p2_s1207 : ck_Sum := ((0, 0, 0), 245, [.inl (ck_one 2), .inl (ck_one 1), .inl (ck_one 50)], ([], [], []), ([], []), [(.inr (some (.inl (ck_one 1))), 245, ([], [], []))])
set_option maxRecDepth 100000 in
theorem p2_s1207_s {X : Int → Int} {LX : Nat} : ck_Ok p2_O X LX 286 p2_s1207 := ck_ok_s (O := p2_O) (X := X) (LX := LX) (E := []) (mi := 286) (cuts := []) (f := 88) (S := p2_s1207) (lx := none) (XF := []) ⟨p2_nmu, ck_E0⟩ ck_X0 ck_l0 (by decide +kernel)
set_option maxRecDepth 100000 in
/-- GlacierMailModel.years -/
noncomputable def p2_s1208 : ck_Sum := ((10, 0, 0), 245, [.inr (.inr (.inl 226)), .inl (ck_one 2)], ([], [], zl181), (zl182, []), [(.inr (some (.inl (0, 48, []))), 245, ([], [], [(227, 9, 9, (2, 299, [(1000011, 0)])), (226, 6, 6, (0, 12, [(1000027, 0)])), (226, 0, 0, (0, 1, []))]))])
set_option maxRecDepth 100000 in
theorem p2_s1208_s {X : Int → Int} {LX : Nat} : ck_Ok p2_O X LX 320 p2_s1208 := ck_ok_s (O := p2_O) (X := X) (LX := LX) (E := [(286, [p2_s1207]), (266, [p2_s190]), (282, [p2_s242, p2_s241]), (316, [p2_s553]), (321, [p2_s1205])]) (mi := 320) (cuts := []) (f := 170) (S := p2_s1208) (lx := none) (XF := []) ⟨p2_nmu, ck_E1 (ck_S1 p2_s1207_s ck_S0) (ck_E1 (ck_S1 p2_s190_s ck_S0) (ck_E1 (ck_S1 p2_s242_s (ck_S1 p2_s241_s ck_S0)) (ck_E1 (ck_S1 p2_s553_s ck_S0) (ck_E1 (ck_S1 p2_s1205_s ck_S0) ck_E0))))⟩ ck_X0 ck_l0 (by decide +kernel)
set_option maxRecDepth 100000 in
/-- GlacierMailModel.in -/
noncomputable def p2_s1209 : ck_Sum := ((0, 0, 0), 245, [.inl (ck_one 3), .inl (ck_one 1), .inl (ck_one 50)], ([], [], []), ([], []), [(.inr (some (.inl (ck_one 1))), 245, ([], [], []))])
set_option maxRecDepth 100000 in
theorem p2_s1209_s {X : Int → Int} {LX : Nat} : ck_Ok p2_O X LX 286 p2_s1209 := ck_ok_s (O := p2_O) (X := X) (LX := LX) (E := []) (mi := 286) (cuts := []) (f := 88) (S := p2_s1209) (lx := none) (XF := []) ⟨p2_nmu, ck_E0⟩ ck_X0 ck_l0 (by decide +kernel)
set_option maxRecDepth 100000 in
/-- GlacierMailModel.years -/
noncomputable def p2_s1210 : ck_Sum := ((10, 0, 0), 245, [.inr (.inr (.inl 226)), .inl (ck_one 3)], ([], [], zl181), (zl182, []), [(.inr (some (.inl (0, 72, []))), 245, ([], [], [(227, 9, 9, (3, 299, [(1000011, 0)])), (226, 6, 6, (0, 12, [(1000027, 0)])), (226, 0, 0, (0, 1, []))]))])
set_option maxRecDepth 100000 in
theorem p2_s1210_s {X : Int → Int} {LX : Nat} : ck_Ok p2_O X LX 320 p2_s1210 := ck_ok_s (O := p2_O) (X := X) (LX := LX) (E := [(286, [p2_s1209]), (266, [p2_s190]), (282, [p2_s242, p2_s241]), (316, [p2_s553]), (321, [p2_s1205])]) (mi := 320) (cuts := []) (f := 190) (S := p2_s1210) (lx := none) (XF := []) ⟨p2_nmu, ck_E1 (ck_S1 p2_s1209_s ck_S0) (ck_E1 (ck_S1 p2_s190_s ck_S0) (ck_E1 (ck_S1 p2_s242_s (ck_S1 p2_s241_s ck_S0)) (ck_E1 (ck_S1 p2_s553_s ck_S0) (ck_E1 (ck_S1 p2_s1205_s ck_S0) ck_E0))))⟩ ck_X0 ck_l0 (by decide +kernel)
set_option maxRecDepth 100000 in
/-- GlacierMailModel.in -/
noncomputable def p2_s1211 : ck_Sum := ((0, 0, 0), 245, [.inl (ck_one 4), .inl (ck_one 1), .inl (ck_one 50)], ([], [], []), ([], []), [(.inr (some (.inl (ck_one 1))), 245, ([], [], []))])
set_option maxRecDepth 100000 in
theorem p2_s1211_s {X : Int → Int} {LX : Nat} : ck_Ok p2_O X LX 286 p2_s1211 := ck_ok_s (O := p2_O) (X := X) (LX := LX) (E := []) (mi := 286) (cuts := []) (f := 88) (S := p2_s1211) (lx := none) (XF := []) ⟨p2_nmu, ck_E0⟩ ck_X0 ck_l0 (by decide +kernel)
set_option maxRecDepth 100000 in
/-- GlacierMailModel.years -/
noncomputable def p2_s1212 : ck_Sum := ((10, 0, 0), 245, [.inr (.inr (.inl 226)), .inl (ck_one 4)], ([], [], zl181), (zl182, []), [(.inr (some (.inl (0, 96, []))), 245, ([], [], [(227, 9, 9, (4, 299, [(1000011, 0)])), (226, 6, 6, (0, 12, [(1000027, 0)])), (226, 0, 0, (0, 1, []))]))])
set_option maxRecDepth 100000 in
theorem p2_s1212_s {X : Int → Int} {LX : Nat} : ck_Ok p2_O X LX 320 p2_s1212 := ck_ok_s (O := p2_O) (X := X) (LX := LX) (E := [(286, [p2_s1211]), (266, [p2_s190]), (282, [p2_s242, p2_s241]), (316, [p2_s553]), (321, [p2_s1205])]) (mi := 320) (cuts := []) (f := 210) (S := p2_s1212) (lx := none) (XF := []) ⟨p2_nmu, ck_E1 (ck_S1 p2_s1211_s ck_S0) (ck_E1 (ck_S1 p2_s190_s ck_S0) (ck_E1 (ck_S1 p2_s242_s (ck_S1 p2_s241_s ck_S0)) (ck_E1 (ck_S1 p2_s553_s ck_S0) (ck_E1 (ck_S1 p2_s1205_s ck_S0) ck_E0))))⟩ ck_X0 ck_l0 (by decide +kernel)
set_option maxRecDepth 100000 in
/-- GlacierMailModel.in -/
noncomputable def p2_s1213 : ck_Sum := ((0, 0, 0), 245, [.inl (ck_one 5), .inl (ck_one 1), .inl (ck_one 50)], ([], [], []), ([], []), [(.inr (some (.inl (ck_one 1))), 245, ([], [], []))])
set_option maxRecDepth 100000 in
theorem p2_s1213_s {X : Int → Int} {LX : Nat} : ck_Ok p2_O X LX 286 p2_s1213 := ck_ok_s (O := p2_O) (X := X) (LX := LX) (E := []) (mi := 286) (cuts := []) (f := 88) (S := p2_s1213) (lx := none) (XF := []) ⟨p2_nmu, ck_E0⟩ ck_X0 ck_l0 (by decide +kernel)
set_option maxRecDepth 100000 in
/-- GlacierMailModel.years -/
noncomputable def p2_s1214 : ck_Sum := ((10, 0, 0), 245, [.inr (.inr (.inl 226)), .inl (ck_one 5)], ([], [], zl181), (zl182, []), [(.inr (some (.inl (0, 120, []))), 245, ([], [], [(227, 9, 9, (5, 299, [(1000011, 0)])), (226, 6, 6, (0, 12, [(1000027, 0)])), (226, 0, 0, (0, 1, []))]))])
set_option maxRecDepth 100000 in
theorem p2_s1214_s {X : Int → Int} {LX : Nat} : ck_Ok p2_O X LX 320 p2_s1214 := ck_ok_s (O := p2_O) (X := X) (LX := LX) (E := [(286, [p2_s1213]), (266, [p2_s190]), (282, [p2_s242, p2_s241]), (316, [p2_s553]), (321, [p2_s1205])]) (mi := 320) (cuts := []) (f := 230) (S := p2_s1214) (lx := none) (XF := []) ⟨p2_nmu, ck_E1 (ck_S1 p2_s1213_s ck_S0) (ck_E1 (ck_S1 p2_s190_s ck_S0) (ck_E1 (ck_S1 p2_s242_s (ck_S1 p2_s241_s ck_S0)) (ck_E1 (ck_S1 p2_s553_s ck_S0) (ck_E1 (ck_S1 p2_s1205_s ck_S0) ck_E0))))⟩ ck_X0 ck_l0 (by decide +kernel)
set_option maxRecDepth 100000 in
/-- GlacierMailModel.in -/
noncomputable def p2_s1215 : ck_Sum := ((0, 0, 0), 245, [.inl (ck_one 6), .inl (ck_one 1), .inl (ck_one 50)], ([], [], []), ([], []), [(.inr (some (.inl (ck_one 1))), 245, ([], [], []))])
set_option maxRecDepth 100000 in
theorem p2_s1215_s {X : Int → Int} {LX : Nat} : ck_Ok p2_O X LX 286 p2_s1215 := ck_ok_s (O := p2_O) (X := X) (LX := LX) (E := []) (mi := 286) (cuts := []) (f := 88) (S := p2_s1215) (lx := none) (XF := []) ⟨p2_nmu, ck_E0⟩ ck_X0 ck_l0 (by decide +kernel)
set_option maxRecDepth 100000 in
/-- GlacierMailModel.years -/
noncomputable def p2_s1216 : ck_Sum := ((10, 0, 0), 245, [.inr (.inr (.inl 226)), .inl (ck_one 6)], ([], [], zl181), (zl182, []), [(.inr (some (.inl (0, 144, []))), 245, ([], [], [(227, 9, 9, (6, 299, [(1000011, 0)])), (226, 6, 6, (0, 12, [(1000027, 0)])), (226, 0, 0, (0, 1, []))]))])
set_option maxRecDepth 100000 in
theorem p2_s1216_s {X : Int → Int} {LX : Nat} : ck_Ok p2_O X LX 320 p2_s1216 := ck_ok_s (O := p2_O) (X := X) (LX := LX) (E := [(286, [p2_s1215]), (266, [p2_s190]), (282, [p2_s242, p2_s241]), (316, [p2_s553]), (321, [p2_s1205])]) (mi := 320) (cuts := []) (f := 250) (S := p2_s1216) (lx := none) (XF := []) ⟨p2_nmu, ck_E1 (ck_S1 p2_s1215_s ck_S0) (ck_E1 (ck_S1 p2_s190_s ck_S0) (ck_E1 (ck_S1 p2_s242_s (ck_S1 p2_s241_s ck_S0)) (ck_E1 (ck_S1 p2_s553_s ck_S0) (ck_E1 (ck_S1 p2_s1205_s ck_S0) ck_E0))))⟩ ck_X0 ck_l0 (by decide +kernel)
set_option maxRecDepth 100000 in
/-- GlacierMailModel.in -/
noncomputable def p2_s1217 : ck_Sum := ((0, 0, 0), 245, [.inl (ck_one 7), .inl (ck_one 1), .inl (ck_one 50)], ([], [], []), ([], []), [(.inr (some (.inl (ck_one 1))), 245, ([], [], []))])
set_option maxRecDepth 100000 in
theorem p2_s1217_s {X : Int → Int} {LX : Nat} : ck_Ok p2_O X LX 286 p2_s1217 := ck_ok_s (O := p2_O) (X := X) (LX := LX) (E := []) (mi := 286) (cuts := []) (f := 88) (S := p2_s1217) (lx := none) (XF := []) ⟨p2_nmu, ck_E0⟩ ck_X0 ck_l0 (by decide +kernel)
set_option maxRecDepth 100000 in
/-- GlacierMailModel.years -/
noncomputable def p2_s1218 : ck_Sum := ((10, 0, 0), 245, [.inr (.inr (.inl 226)), .inl (ck_one 7)], ([], [], zl181), (zl182, []), [(.inr (some (.inl (0, 168, []))), 245, ([], [], [(227, 9, 9, (7, 299, [(1000011, 0)])), (226, 6, 6, (0, 12, [(1000027, 0)])), (226, 0, 0, (0, 1, []))]))])
set_option maxRecDepth 100000 in
theorem p2_s1218_s {X : Int → Int} {LX : Nat} : ck_Ok p2_O X LX 320 p2_s1218 := ck_ok_s (O := p2_O) (X := X) (LX := LX) (E := [(286, [p2_s1217]), (266, [p2_s190]), (282, [p2_s242, p2_s241]), (316, [p2_s553]), (321, [p2_s1205])]) (mi := 320) (cuts := []) (f := 270) (S := p2_s1218) (lx := none) (XF := []) ⟨p2_nmu, ck_E1 (ck_S1 p2_s1217_s ck_S0) (ck_E1 (ck_S1 p2_s190_s ck_S0) (ck_E1 (ck_S1 p2_s242_s (ck_S1 p2_s241_s ck_S0)) (ck_E1 (ck_S1 p2_s553_s ck_S0) (ck_E1 (ck_S1 p2_s1205_s ck_S0) ck_E0))))⟩ ck_X0 ck_l0 (by decide +kernel)
set_option maxRecDepth 100000 in
/-- GlacierMailModel.in -/
noncomputable def p2_s1219 : ck_Sum := ((0, 0, 0), 245, [.inl (ck_one 8), .inl (ck_one 1), .inl (ck_one 50)], ([], [], []), ([], []), [(.inr (some (.inl (ck_one 1))), 245, ([], [], []))])
set_option maxRecDepth 100000 in
theorem p2_s1219_s {X : Int → Int} {LX : Nat} : ck_Ok p2_O X LX 286 p2_s1219 := ck_ok_s (O := p2_O) (X := X) (LX := LX) (E := []) (mi := 286) (cuts := []) (f := 88) (S := p2_s1219) (lx := none) (XF := []) ⟨p2_nmu, ck_E0⟩ ck_X0 ck_l0 (by decide +kernel)
set_option maxRecDepth 100000 in
/-- GlacierMailModel.years -/
noncomputable def p2_s1220 : ck_Sum := ((10, 0, 0), 245, [.inr (.inr (.inl 226)), .inl (ck_one 8)], ([], [], zl181), (zl182, []), [(.inr (some (.inl (0, 192, []))), 245, ([], [], [(227, 9, 9, (8, 299, [(1000011, 0)])), (226, 6, 6, (0, 12, [(1000027, 0)])), (226, 0, 0, (0, 1, []))]))])
set_option maxRecDepth 100000 in
theorem p2_s1220_s {X : Int → Int} {LX : Nat} : ck_Ok p2_O X LX 320 p2_s1220 := ck_ok_s (O := p2_O) (X := X) (LX := LX) (E := [(286, [p2_s1219]), (266, [p2_s190]), (282, [p2_s242, p2_s241]), (316, [p2_s553]), (321, [p2_s1205])]) (mi := 320) (cuts := []) (f := 290) (S := p2_s1220) (lx := none) (XF := []) ⟨p2_nmu, ck_E1 (ck_S1 p2_s1219_s ck_S0) (ck_E1 (ck_S1 p2_s190_s ck_S0) (ck_E1 (ck_S1 p2_s242_s (ck_S1 p2_s241_s ck_S0)) (ck_E1 (ck_S1 p2_s553_s ck_S0) (ck_E1 (ck_S1 p2_s1205_s ck_S0) ck_E0))))⟩ ck_X0 ck_l0 (by decide +kernel)
set_option maxRecDepth 100000 in
/-- GlacierMailModel.in -/
noncomputable def p2_s1221 : ck_Sum := ((0, 0, 0), 245, [.inl (ck_one 9), .inl (ck_one 1), .inl (ck_one 50)], ([], [], []), ([], []), [(.inr (some (.inl (ck_one 1))), 245, ([], [], []))])
set_option maxRecDepth 100000 in
theorem p2_s1221_s {X : Int → Int} {LX : Nat} : ck_Ok p2_O X LX 286 p2_s1221 := ck_ok_s (O := p2_O) (X := X) (LX := LX) (E := []) (mi := 286) (cuts := []) (f := 88) (S := p2_s1221) (lx := none) (XF := []) ⟨p2_nmu, ck_E0⟩ ck_X0 ck_l0 (by decide +kernel)
set_option maxRecDepth 100000 in
/-- GlacierMailModel.years -/
noncomputable def p2_s1222 : ck_Sum := ((10, 0, 0), 245, [.inr (.inr (.inl 226)), .inl (ck_one 9)], ([], [], zl181), (zl182, []), [(.inr (some (.inl (0, 216, []))), 245, ([], [], [(227, 9, 9, (9, 299, [(1000011, 0)])), (226, 6, 6, (0, 12, [(1000027, 0)])), (226, 0, 0, (0, 1, []))]))])
set_option maxRecDepth 100000 in
theorem p2_s1222_s {X : Int → Int} {LX : Nat} : ck_Ok p2_O X LX 320 p2_s1222 := ck_ok_s (O := p2_O) (X := X) (LX := LX) (E := [(286, [p2_s1221]), (266, [p2_s190]), (282, [p2_s242, p2_s241]), (316, [p2_s553]), (321, [p2_s1205])]) (mi := 320) (cuts := []) (f := 310) (S := p2_s1222) (lx := none) (XF := []) ⟨p2_nmu, ck_E1 (ck_S1 p2_s1221_s ck_S0) (ck_E1 (ck_S1 p2_s190_s ck_S0) (ck_E1 (ck_S1 p2_s242_s (ck_S1 p2_s241_s ck_S0)) (ck_E1 (ck_S1 p2_s553_s ck_S0) (ck_E1 (ck_S1 p2_s1205_s ck_S0) ck_E0))))⟩ ck_X0 ck_l0 (by decide +kernel)
set_option maxRecDepth 100000 in
/-- GlacierMailModel.in -/
noncomputable def p2_s1223 : ck_Sum := ((0, 0, 0), 245, [.inl (ck_one 10), .inl (ck_one 1), .inl (ck_one 50)], ([], [], []), ([], []), [(.inr (some (.inl (ck_one 1))), 245, ([], [], []))])
set_option maxRecDepth 100000 in
theorem p2_s1223_s {X : Int → Int} {LX : Nat} : ck_Ok p2_O X LX 286 p2_s1223 := ck_ok_s (O := p2_O) (X := X) (LX := LX) (E := []) (mi := 286) (cuts := []) (f := 88) (S := p2_s1223) (lx := none) (XF := []) ⟨p2_nmu, ck_E0⟩ ck_X0 ck_l0 (by decide +kernel)
set_option maxRecDepth 100000 in
/-- GlacierMailModel.years -/
noncomputable def p2_s1224 : ck_Sum := ((10, 0, 0), 245, [.inr (.inr (.inl 226)), .inl (ck_one 10)], ([], [], zl181), (zl182, []), [(.inr (some (.inl (0, 240, []))), 245, ([], [], [(227, 9, 9, (10, 299, [(1000011, 0)])), (226, 6, 6, (0, 12, [(1000027, 0)])), (226, 0, 0, (0, 1, []))]))])
set_option maxRecDepth 100000 in
theorem p2_s1224_s {X : Int → Int} {LX : Nat} : ck_Ok p2_O X LX 320 p2_s1224 := ck_ok_s (O := p2_O) (X := X) (LX := LX) (E := [(286, [p2_s1223]), (266, [p2_s190]), (282, [p2_s242, p2_s241]), (316, [p2_s553]), (321, [p2_s1205])]) (mi := 320) (cuts := []) (f := 330) (S := p2_s1224) (lx := none) (XF := []) ⟨p2_nmu, ck_E1 (ck_S1 p2_s1223_s ck_S0) (ck_E1 (ck_S1 p2_s190_s ck_S0) (ck_E1 (ck_S1 p2_s242_s (ck_S1 p2_s241_s ck_S0)) (ck_E1 (ck_S1 p2_s553_s ck_S0) (ck_E1 (ck_S1 p2_s1205_s ck_S0) ck_E0))))⟩ ck_X0 ck_l0 (by decide +kernel)
set_option maxRecDepth 100000 in
/-- GlacierMailModel.in -/
noncomputable def p2_s1225 : ck_Sum := ((0, 0, 0), 245, [.inl (ck_one 11), .inl (ck_one 1), .inl (ck_one 50)], ([], [], []), ([], []), [(.inr (some (.inl (ck_one 1))), 245, ([], [], []))])
set_option maxRecDepth 100000 in
theorem p2_s1225_s {X : Int → Int} {LX : Nat} : ck_Ok p2_O X LX 286 p2_s1225 := ck_ok_s (O := p2_O) (X := X) (LX := LX) (E := []) (mi := 286) (cuts := []) (f := 88) (S := p2_s1225) (lx := none) (XF := []) ⟨p2_nmu, ck_E0⟩ ck_X0 ck_l0 (by decide +kernel)
end
