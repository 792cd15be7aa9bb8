/-! EVERY CALL ENDS, whatever was done before (laid by wip/am/p2k.py). -/
set_option maxRecDepth 100000 in
/-- GlacierMail.open -/
noncomputable def p2_s721 : ck_Sum := ((8, 2, 12), 245, [.inr (.inr (.inl 1)), .inl (ck_one 13)], ([], zl102, [(3, 6, 6, (0, 299, [(10, 0)]))]), ([(1, 15, 15), (11, 96, 97), (14, 3, 3), (15, 0, 71), (42, 1, 2), (44, 0, 7), (45, 3, 3), (46, 0, 55), (47, 3, 3), (48, 0, 23), (49, 3, 3), (50, 0, 23), (51, 3, 3), (52, 0, 167), (53, 3, 3), (54, 0, 35), (55, 3, 3), (56, 0, 71), (57, 0, 7), (58, 3, 3), (59, 0, 55), (60, 3, 3), (61, 0, 23), (62, 3, 3), (63, 0, 23), (64, 3, 3), (65, 0, 167), (66, 3, 3), (67, 0, 35), (68, 3, 3), (69, 0, 71), (70, 0, 7), (71, 3, 3), (72, 0, 55), (73, 3, 3), (74, 0, 23), (75, 3, 3), (76, 0, 23), (77, 3, 3), (78, 0, 167), (79, 3, 3), (80, 0, 35), (81, 3, 3), (82, 0, 71), (83, 0, 7), (84, 3, 3), (85, 0, 55), (86, 3, 3), (87, 0, 23), (88, 3, 3), (89, 0, 23), (90, 3, 3), (91, 0, 167), (92, 3, 3), (93, 0, 35), (94, 3, 3), (95, 0, 71), (96, 0, 7), (97, 3, 3), (98, 0, 55), (99, 3, 3), (100, 0, 23), (101, 3, 3), (102, 0, 23), (103, 3, 3), (104, 0, 167), (105, 3, 3), (106, 0, 35), (107, 3, 3), (108, 0, 71), (109, 0, 7), (110, 3, 3), (111, 0, 55), (112, 3, 3), (113, 0, 23), (114, 3, 3), (115, 0, 23), (116, 3, 3), (117, 0, 167), (118, 3, 3), (119, 0, 35), (120, 3, 3), (121, 0, 71), (122, 0, 7), (123, 3, 3), (124, 0, 55), (125, 3, 3), (126, 0, 23), (127, 3, 3), (128, 0, 23), (129, 3, 3), (130, 0, 167), (131, 3, 3), (132, 0, 35), (133, 3, 3), (134, 0, 71), (135, 0, 7), (136, 3, 3), (137, 0, 55), (138, 3, 3), (139, 0, 23), (140, 3, 3), (141, 0, 23), (142, 3, 3), (143, 0, 167), (144, 3, 3), (145, 0, 35), (146, 3, 3), (147, 0, 71), (148, 0, 7), (149, 3, 3), (150, 0, 55), (151, 3, 3), (152, 0, 23), (153, 3, 3), (154, 0, 23), (155, 3, 3), (156, 0, 167), (157, 3, 3), (158, 0, 35), (159, 3, 3), (160, 0, 71), (161, 0, 7), (162, 3, 3), (163, 0, 55), (164, 3, 3), (165, 0, 23), (166, 3, 3), (167, 0, 23), (168, 3, 3), (169, 0, 167), (170, 3, 3), (171, 0, 35), (172, 3, 3), (173, 0, 71), (174, 0, 7), (175, 3, 3), (176, 0, 55), (177, 3, 3), (178, 0, 23), (179, 3, 3), (180, 0, 23), (181, 3, 3), (182, 0, 167), (183, 3, 3), (184, 0, 35), (185, 3, 3), (186, 0, 71), (187, 0, 7), (188, 3, 3), (189, 0, 55), (190, 3, 3), (191, 0, 23), (192, 3, 3), (193, 0, 23), (194, 3, 3), (195, 0, 167), (196, 3, 3), (197, 0, 35), (198, 3, 3), (199, 0, 71), (206, 2, 8), (220, 3, 3), (221, 0, 47)], zl104), zl175)
set_option maxRecDepth 100000 in
theorem p2_s721_s {X : Int → Int} {LX : Nat} : ck_Ok p2_O X LX 158 p2_s721 := ck_ok_s (O := p2_O) (X := X) (LX := LX) (E := [(143, [p2_s713]), (24, [p2_s349]), (66, [p2_s715]), (154, [p2_s529]), (10, [p2_s335]), (159, [p2_s720])]) (mi := 158) (cuts := []) (f := 140) (S := p2_s721) (lx := none) (XF := []) ⟨p2_nmu, ck_E1 (ck_S1 p2_s713_s ck_S0) (ck_E1 (ck_S1 p2_s349_s ck_S0) (ck_E1 (ck_S1 p2_s715_s ck_S0) (ck_E1 (ck_S1 p2_s529_s ck_S0) (ck_E1 (ck_S1 p2_s335_s ck_S0) (ck_E1 (ck_S1 p2_s720_s ck_S0) ck_E0)))))⟩ ck_X0 ck_l0 (by decide +kernel)
set_option maxRecDepth 100000 in
/-- GlacierMail.need -/
noncomputable def p2_s722 : ck_Sum := ((6, 1, 6), 245, [.inr (.inr (.inl 1)), .inl (ck_one 14), .inl (0, 24, [])], ([], [], []), ([], []), [(.inr none, 245, ([], [], [])), (.inl 3, 245, ([], [], []))])
set_option maxRecDepth 100000 in
theorem p2_s722_s {X : Int → Int} {LX : Nat} : ck_Ok p2_O X LX 133 p2_s722 := ck_ok_s (O := p2_O) (X := X) (LX := LX) (E := []) (mi := 133) (cuts := []) (f := 82) (S := p2_s722) (lx := none) (XF := []) ⟨p2_nmu, ck_E0⟩ ck_X0 ck_l0 (by decide +kernel)
set_option maxRecDepth 100000 in
/-- GlacierMail.needLetter -/
noncomputable def p2_s723 : ck_Sum := ((7, 1, 6), 245, [.inr (.inr (.inl 1)), .inl (ck_one 14)], ([], [], []), ([], []), [(.inl 3, 245, ([], [], [])), (.inr none, 245, ([], [], []))])
set_option maxRecDepth 100000 in
theorem p2_s723_s {X : Int → Int} {LX : Nat} : ck_Ok p2_O X LX 143 p2_s723 := ck_ok_s (O := p2_O) (X := X) (LX := LX) (E := [(9, [p2_s331]), (133, [p2_s722])]) (mi := 143) (cuts := []) (f := 86) (S := p2_s723) (lx := none) (XF := []) ⟨p2_nmu, ck_E1 (ck_S1 p2_s331_s ck_S0) (ck_E1 (ck_S1 p2_s722_s ck_S0) ck_E0)⟩ ck_X0 ck_l0 (by decide +kernel)
set_option maxRecDepth 100000 in
/-- GlacierMail$State.isRock -/
noncomputable def p2_s724 : ck_Sum := ((1, 0, 0), 245, [.inr (.inr (.inl 3)), .inl (ck_one 14)], ([], [], []), ([], []), [(.inr (some (.inl (ck_one 0))), 245, ([], [], [])), (.inr (some (.inl (ck_one 1))), 245, ([], [], []))])
set_option maxRecDepth 100000 in
theorem p2_s724_s {X : Int → Int} {LX : Nat} : ck_Ok p2_O X LX 28 p2_s724 := ck_ok_s (O := p2_O) (X := X) (LX := LX) (E := [(10, [p2_s335])]) (mi := 28) (cuts := []) (f := 90) (S := p2_s724) (lx := none) (XF := []) ⟨p2_nmu, ck_E1 (ck_S1 p2_s335_s ck_S0) ck_E0⟩ ck_X0 ck_l0 (by decide +kernel)
set_option maxRecDepth 100000 in
/-- GlacierMail.waits -/
noncomputable def p2_s725 : ck_Sum := ((2, 0, 0), 245, [.inr (.inr (.inl 1)), .inl (ck_one 14)], ([], [], [(3, 6, 6, (0, 299, [(10, 0)]))]), ([], []), [(.inr (some (.inl (ck_one 0))), 245, ([], [], [])), (.inr (some (.inl (ck_one 1))), 245, ([], [], []))])
set_option maxRecDepth 100000 in
theorem p2_s725_s {X : Int → Int} {LX : Nat} : ck_Ok p2_O X LX 66 p2_s725 := ck_ok_s (O := p2_O) (X := X) (LX := LX) (E := [(28, [p2_s724]), (10, [p2_s335, p2_s350]), (67, [p2_s351])]) (mi := 66) (cuts := []) (f := 134) (S := p2_s725) (lx := none) (XF := []) ⟨p2_nmu, ck_E1 (ck_S1 p2_s724_s ck_S0) (ck_E1 (ck_S1 p2_s335_s (ck_S1 p2_s350_s ck_S0)) (ck_E1 (ck_S1 p2_s351_s ck_S0) ck_E0))⟩ ck_X0 ck_l0 (by decide +kernel)
set_option maxRecDepth 100000 in
/-- GlacierMail$Rows.put -/
noncomputable def p2_s726 : ck_Sum := ((0, 0, 0), 245, [.inr (.inr (.inl 10)), .inl (ck_one 14), .inl (ck_one 5), .inl ((-1), 299, [])], ([], [], []), ([(11, 103, 103)], []), [(.inr none, 245, ([], [], []))])
set_option maxRecDepth 100000 in
theorem p2_s726_s {X : Int → Int} {LX : Nat} : ck_Ok p2_O X LX 45 p2_s726 := ck_ok_s (O := p2_O) (X := X) (LX := LX) (E := []) (mi := 45) (cuts := []) (f := 116) (S := p2_s726) (lx := none) (XF := []) ⟨p2_nmu, ck_E0⟩ ck_X0 ck_l0 (by decide +kernel)
set_option maxRecDepth 100000 in
/-- GlacierMail$Rows.put -/
noncomputable def p2_s727 : ck_Sum := ((0, 0, 0), 245, [.inr (.inr (.inl 10)), .inl (ck_one 14), .inl (ck_one 6), .inl (0, 299, [])], ([], [], []), ([(11, 104, 104)], []), [(.inr none, 245, ([], [], []))])
set_option maxRecDepth 100000 in
theorem p2_s727_s {X : Int → Int} {LX : Nat} : ck_Ok p2_O X LX 45 p2_s727 := ck_ok_s (O := p2_O) (X := X) (LX := LX) (E := []) (mi := 45) (cuts := []) (f := 116) (S := p2_s727) (lx := none) (XF := []) ⟨p2_nmu, ck_E0⟩ ck_X0 ck_l0 (by decide +kernel)
set_option maxRecDepth 100000 in
/-- GlacierMail$Rows.put -/
noncomputable def p2_s728 : ck_Sum := ((0, 0, 0), 245, [.inr (.inr (.inl 14)), .inl (0, 23, []), .inl (ck_one 1), .inl (ck_one 14)], ([], [], []), (zl173, []), [(.inr none, 245, ([], [], []))])
set_option maxRecDepth 100000 in
theorem p2_s728_s {X : Int → Int} {LX : Nat} : ck_Ok p2_O X LX 45 p2_s728 := ck_ok_s (O := p2_O) (X := X) (LX := LX) (E := []) (mi := 45) (cuts := []) (f := 116) (S := p2_s728) (lx := none) (XF := []) ⟨p2_nmu, ck_E0⟩ ck_X0 ck_l0 (by decide +kernel)
set_option maxRecDepth 100000 in
/-- GlacierMail$Rows.put -/
noncomputable def p2_s729 : ck_Sum := ((0, 0, 0), 245, [.inr (.inr (.inl 14)), .inl (ck_one (-1)), .inl (ck_one 1), .inl (ck_one 14)], ([], [], []), ([], []), [(.inr none, 245, ([], [], []))])
set_option maxRecDepth 100000 in
theorem p2_s729_s {X : Int → Int} {LX : Nat} : ck_Ok p2_O X LX 45 p2_s729 := ck_ok_s (O := p2_O) (X := X) (LX := LX) (E := []) (mi := 45) (cuts := []) (f := 76) (S := p2_s729) (lx := none) (XF := []) ⟨p2_nmu, ck_E0⟩ ck_X0 ck_l0 (by decide +kernel)
set_option maxRecDepth 100000 in
/-- GlacierMail$State.openLetter -/
noncomputable def p2_s730 : ck_Sum := ((1, 0, 0), 245, [.inr (.inr (.inl 3)), .inl (ck_one 14), .inl ((-1), 299, [])], ([], [], [(3, 6, 6, (0, 299, [(10, 0)]))]), ([(11, 103, 104), (14, 3, 3), (15, 0, 71)], []), [(.inr none, 245, ([], [], [(14, 3, 3, (1, 24, []))]))])
set_option maxRecDepth 100000 in
theorem p2_s730_s {X : Int → Int} {LX : Nat} : ck_Ok p2_O X LX 159 p2_s730 := ck_ok_s (O := p2_O) (X := X) (LX := LX) (E := [(45, [p2_s726, p2_s727, p2_s583, p2_s728, p2_s585, p2_s586, p2_s729, p2_s588]), (102, [p2_s589])]) (mi := 159) (cuts := []) (f := 144) (S := p2_s730) (lx := none) (XF := []) ⟨p2_nmu, ck_E1 (ck_S1 p2_s726_s (ck_S1 p2_s727_s (ck_S1 p2_s583_s (ck_S1 p2_s728_s (ck_S1 p2_s585_s (ck_S1 p2_s586_s (ck_S1 p2_s729_s (ck_S1 p2_s588_s ck_S0)))))))) (ck_E1 (ck_S1 p2_s589_s ck_S0) ck_E0)⟩ ck_X0 ck_l0 (by decide +kernel)
set_option maxRecDepth 100000 in
/-- GlacierMail.open -/
noncomputable def p2_s731 : ck_Sum := ((8, 2, 12), 245, [.inr (.inr (.inl 1)), .inl (ck_one 14)], ([], zl102, [(3, 6, 6, (0, 299, [(10, 0)]))]), ([(1, 15, 15), (11, 103, 104), (14, 3, 3), (15, 0, 71), (42, 1, 2), (44, 0, 7), (45, 3, 3), (46, 0, 55), (47, 3, 3), (48, 0, 23), (49, 3, 3), (50, 0, 23), (51, 3, 3), (52, 0, 167), (53, 3, 3), (54, 0, 35), (55, 3, 3), (56, 0, 71), (57, 0, 7), (58, 3, 3), (59, 0, 55), (60, 3, 3), (61, 0, 23), (62, 3, 3), (63, 0, 23), (64, 3, 3), (65, 0, 167), (66, 3, 3), (67, 0, 35), (68, 3, 3), (69, 0, 71), (70, 0, 7), (71, 3, 3), (72, 0, 55), (73, 3, 3), (74, 0, 23), (75, 3, 3), (76, 0, 23), (77, 3, 3), (78, 0, 167), (79, 3, 3), (80, 0, 35), (81, 3, 3), (82, 0, 71), (83, 0, 7), (84, 3, 3), (85, 0, 55), (86, 3, 3), (87, 0, 23), (88, 3, 3), (89, 0, 23), (90, 3, 3), (91, 0, 167), (92, 3, 3), (93, 0, 35), (94, 3, 3), (95, 0, 71), (96, 0, 7), (97, 3, 3), (98, 0, 55), (99, 3, 3), (100, 0, 23), (101, 3, 3), (102, 0, 23), (103, 3, 3), (104, 0, 167), (105, 3, 3), (106, 0, 35), (107, 3, 3), (108, 0, 71), (109, 0, 7), (110, 3, 3), (111, 0, 55), (112, 3, 3), (113, 0, 23), (114, 3, 3), (115, 0, 23), (116, 3, 3), (117, 0, 167), (118, 3, 3), (119, 0, 35), (120, 3, 3), (121, 0, 71), (122, 0, 7), (123, 3, 3), (124, 0, 55), (125, 3, 3), (126, 0, 23), (127, 3, 3), (128, 0, 23), (129, 3, 3), (130, 0, 167), (131, 3, 3), (132, 0, 35), (133, 3, 3), (134, 0, 71), (135, 0, 7), (136, 3, 3), (137, 0, 55), (138, 3, 3), (139, 0, 23), (140, 3, 3), (141, 0, 23), (142, 3, 3), (143, 0, 167), (144, 3, 3), (145, 0, 35), (146, 3, 3), (147, 0, 71), (148, 0, 7), (149, 3, 3), (150, 0, 55), (151, 3, 3), (152, 0, 23), (153, 3, 3), (154, 0, 23), (155, 3, 3), (156, 0, 167), (157, 3, 3), (158, 0, 35), (159, 3, 3), (160, 0, 71), (161, 0, 7), (162, 3, 3), (163, 0, 55), (164, 3, 3), (165, 0, 23), (166, 3, 3), (167, 0, 23), (168, 3, 3), (169, 0, 167), (170, 3, 3), (171, 0, 35), (172, 3, 3), (173, 0, 71), (174, 0, 7), (175, 3, 3), (176, 0, 55), (177, 3, 3), (178, 0, 23), (179, 3, 3), (180, 0, 23), (181, 3, 3), (182, 0, 167), (183, 3, 3), (184, 0, 35), (185, 3, 3), (186, 0, 71), (187, 0, 7), (188, 3, 3), (189, 0, 55), (190, 3, 3), (191, 0, 23), (192, 3, 3), (193, 0, 23), (194, 3, 3), (195, 0, 167), (196, 3, 3), (197, 0, 35), (198, 3, 3), (199, 0, 71), (206, 2, 8), (220, 3, 3), (221, 0, 47)], zl104), zl175)
set_option maxRecDepth 100000 in
theorem p2_s731_s {X : Int → Int} {LX : Nat} : ck_Ok p2_O X LX 158 p2_s731 := ck_ok_s (O := p2_O) (X := X) (LX := LX) (E := [(143, [p2_s723]), (24, [p2_s349]), (66, [p2_s725]), (154, [p2_s529]), (10, [p2_s335]), (159, [p2_s730])]) (mi := 158) (cuts := []) (f := 140) (S := p2_s731) (lx := none) (XF := []) ⟨p2_nmu, ck_E1 (ck_S1 p2_s723_s ck_S0) (ck_E1 (ck_S1 p2_s349_s ck_S0) (ck_E1 (ck_S1 p2_s725_s ck_S0) (ck_E1 (ck_S1 p2_s529_s ck_S0) (ck_E1 (ck_S1 p2_s335_s ck_S0) (ck_E1 (ck_S1 p2_s730_s ck_S0) ck_E0)))))⟩ ck_X0 ck_l0 (by decide +kernel)
set_option maxRecDepth 100000 in
/-- GlacierMail.need -/
noncomputable def p2_s732 : ck_Sum := ((6, 1, 6), 245, [.inr (.inr (.inl 1)), .inl (ck_one 15), .inl (0, 24, [])], ([], [], []), ([], []), [(.inr none, 245, ([], [], [])), (.inl 3, 245, ([], [], []))])
set_option maxRecDepth 100000 in
theorem p2_s732_s {X : Int → Int} {LX : Nat} : ck_Ok p2_O X LX 133 p2_s732 := ck_ok_s (O := p2_O) (X := X) (LX := LX) (E := []) (mi := 133) (cuts := []) (f := 82) (S := p2_s732) (lx := none) (XF := []) ⟨p2_nmu, ck_E0⟩ ck_X0 ck_l0 (by decide +kernel)
set_option maxRecDepth 100000 in
/-- GlacierMail.needLetter -/
noncomputable def p2_s733 : ck_Sum := ((7, 1, 6), 245, [.inr (.inr (.inl 1)), .inl (ck_one 15)], ([], [], []), ([], []), [(.inl 3, 245, ([], [], [])), (.inr none, 245, ([], [], []))])
set_option maxRecDepth 100000 in
theorem p2_s733_s {X : Int → Int} {LX : Nat} : ck_Ok p2_O X LX 143 p2_s733 := ck_ok_s (O := p2_O) (X := X) (LX := LX) (E := [(9, [p2_s331]), (133, [p2_s732])]) (mi := 143) (cuts := []) (f := 86) (S := p2_s733) (lx := none) (XF := []) ⟨p2_nmu, ck_E1 (ck_S1 p2_s331_s ck_S0) (ck_E1 (ck_S1 p2_s732_s ck_S0) ck_E0)⟩ ck_X0 ck_l0 (by decide +kernel)
set_option maxRecDepth 100000 in
/-- GlacierMail$State.isRock -/
noncomputable def p2_s734 : ck_Sum := ((1, 0, 0), 245, [.inr (.inr (.inl 3)), .inl (ck_one 15)], ([], [], []), ([], []), [(.inr (some (.inl (ck_one 0))), 245, ([], [], [])), (.inr (some (.inl (ck_one 1))), 245, ([], [], []))])
set_option maxRecDepth 100000 in
theorem p2_s734_s {X : Int → Int} {LX : Nat} : ck_Ok p2_O X LX 28 p2_s734 := ck_ok_s (O := p2_O) (X := X) (LX := LX) (E := [(10, [p2_s335])]) (mi := 28) (cuts := []) (f := 90) (S := p2_s734) (lx := none) (XF := []) ⟨p2_nmu, ck_E1 (ck_S1 p2_s335_s ck_S0) ck_E0⟩ ck_X0 ck_l0 (by decide +kernel)
set_option maxRecDepth 100000 in
/-- GlacierMail.waits -/
noncomputable def p2_s735 : ck_Sum := ((2, 0, 0), 245, [.inr (.inr (.inl 1)), .inl (ck_one 15)], ([], [], [(3, 6, 6, (0, 299, [(10, 0)]))]), ([], []), [(.inr (some (.inl (ck_one 0))), 245, ([], [], [])), (.inr (some (.inl (ck_one 1))), 245, ([], [], []))])
set_option maxRecDepth 100000 in
theorem p2_s735_s {X : Int → Int} {LX : Nat} : ck_Ok p2_O X LX 66 p2_s735 := ck_ok_s (O := p2_O) (X := X) (LX := LX) (E := [(28, [p2_s734]), (10, [p2_s335, p2_s350]), (67, [p2_s351])]) (mi := 66) (cuts := []) (f := 134) (S := p2_s735) (lx := none) (XF := []) ⟨p2_nmu, ck_E1 (ck_S1 p2_s734_s ck_S0) (ck_E1 (ck_S1 p2_s335_s (ck_S1 p2_s350_s ck_S0)) (ck_E1 (ck_S1 p2_s351_s ck_S0) ck_E0))⟩ ck_X0 ck_l0 (by decide +kernel)
set_option maxRecDepth 100000 in
/-- GlacierMail$Rows.put -/
noncomputable def p2_s736 : ck_Sum := ((0, 0, 0), 245, [.inr (.inr (.inl 10)), .inl (ck_one 15), .inl (ck_one 5), .inl ((-1), 299, [])], ([], [], []), ([(11, 110, 110)], []), [(.inr none, 245, ([], [], []))])
set_option maxRecDepth 100000 in
theorem p2_s736_s {X : Int → Int} {LX : Nat} : ck_Ok p2_O X LX 45 p2_s736 := ck_ok_s (O := p2_O) (X := X) (LX := LX) (E := []) (mi := 45) (cuts := []) (f := 116) (S := p2_s736) (lx := none) (XF := []) ⟨p2_nmu, ck_E0⟩ ck_X0 ck_l0 (by decide +kernel)
set_option maxRecDepth 100000 in
/-- GlacierMail$Rows.put -/
noncomputable def p2_s737 : ck_Sum := ((0, 0, 0), 245, [.inr (.inr (.inl 10)), .inl (ck_one 15), .inl (ck_one 6), .inl (0, 299, [])], ([], [], []), ([(11, 111, 111)], []), [(.inr none, 245, ([], [], []))])
set_option maxRecDepth 100000 in
theorem p2_s737_s {X : Int → Int} {LX : Nat} : ck_Ok p2_O X LX 45 p2_s737 := ck_ok_s (O := p2_O) (X := X) (LX := LX) (E := []) (mi := 45) (cuts := []) (f := 116) (S := p2_s737) (lx := none) (XF := []) ⟨p2_nmu, ck_E0⟩ ck_X0 ck_l0 (by decide +kernel)
set_option maxRecDepth 100000 in
/-- GlacierMail$Rows.put -/
noncomputable def p2_s738 : ck_Sum := ((0, 0, 0), 245, [.inr (.inr (.inl 14)), .inl (0, 23, []), .inl (ck_one 1), .inl (ck_one 15)], ([], [], []), (zl173, []), [(.inr none, 245, ([], [], []))])
set_option maxRecDepth 100000 in
theorem p2_s738_s {X : Int → Int} {LX : Nat} : ck_Ok p2_O X LX 45 p2_s738 := ck_ok_s (O := p2_O) (X := X) (LX := LX) (E := []) (mi := 45) (cuts := []) (f := 116) (S := p2_s738) (lx := none) (XF := []) ⟨p2_nmu, ck_E0⟩ ck_X0 ck_l0 (by decide +kernel)
set_option maxRecDepth 100000 in
/-- GlacierMail$Rows.put -/
noncomputable def p2_s739 : ck_Sum := ((0, 0, 0), 245, [.inr (.inr (.inl 14)), .inl (ck_one (-1)), .inl (ck_one 1), .inl (ck_one 15)], ([], [], []), ([], []), [(.inr none, 245, ([], [], []))])
set_option maxRecDepth 100000 in
theorem p2_s739_s {X : Int → Int} {LX : Nat} : ck_Ok p2_O X LX 45 p2_s739 := ck_ok_s (O := p2_O) (X := X) (LX := LX) (E := []) (mi := 45) (cuts := []) (f := 76) (S := p2_s739) (lx := none) (XF := []) ⟨p2_nmu, ck_E0⟩ ck_X0 ck_l0 (by decide +kernel)
set_option maxRecDepth 100000 in
/-- GlacierMail$State.openLetter -/
noncomputable def p2_s740 : ck_Sum := ((1, 0, 0), 245, [.inr (.inr (.inl 3)), .inl (ck_one 15), .inl ((-1), 299, [])], ([], [], [(3, 6, 6, (0, 299, [(10, 0)]))]), ([(11, 110, 111), (14, 3, 3), (15, 0, 71)], []), [(.inr none, 245, ([], [], [(14, 3, 3, (1, 24, []))]))])
set_option maxRecDepth 100000 in
theorem p2_s740_s {X : Int → Int} {LX : Nat} : ck_Ok p2_O X LX 159 p2_s740 := ck_ok_s (O := p2_O) (X := X) (LX := LX) (E := [(45, [p2_s736, p2_s737, p2_s583, p2_s738, p2_s585, p2_s586, p2_s739, p2_s588]), (102, [p2_s589])]) (mi := 159) (cuts := []) (f := 144) (S := p2_s740) (lx := none) (XF := []) ⟨p2_nmu, ck_E1 (ck_S1 p2_s736_s (ck_S1 p2_s737_s (ck_S1 p2_s583_s (ck_S1 p2_s738_s (ck_S1 p2_s585_s (ck_S1 p2_s586_s (ck_S1 p2_s739_s (ck_S1 p2_s588_s ck_S0)))))))) (ck_E1 (ck_S1 p2_s589_s ck_S0) ck_E0)⟩ ck_X0 ck_l0 (by decide +kernel)
set_option maxRecDepth 100000 in
/-- GlacierMail.open -/
noncomputable def p2_s741 : ck_Sum := ((8, 2, 12), 245, [.inr (.inr (.inl 1)), .inl (ck_one 15)], ([], zl102, [(3, 6, 6, (0, 299, [(10, 0)]))]), ([(1, 15, 15), (11, 110, 111), (14, 3, 3), (15, 0, 71), (42, 1, 2), (44, 0, 7), (45, 3, 3), (46, 0, 55), (47, 3, 3), (48, 0, 23), (49, 3, 3), (50, 0, 23), (51, 3, 3), (52, 0, 167), (53, 3, 3), (54, 0, 35), (55, 3, 3), (56, 0, 71), (57, 0, 7), (58, 3, 3), (59, 0, 55), (60, 3, 3), (61, 0, 23), (62, 3, 3), (63, 0, 23), (64, 3, 3), (65, 0, 167), (66, 3, 3), (67, 0, 35), (68, 3, 3), (69, 0, 71), (70, 0, 7), (71, 3, 3), (72, 0, 55), (73, 3, 3), (74, 0, 23), (75, 3, 3), (76, 0, 23), (77, 3, 3), (78, 0, 167), (79, 3, 3), (80, 0, 35), (81, 3, 3), (82, 0, 71), (83, 0, 7), (84, 3, 3), (85, 0, 55), (86, 3, 3), (87, 0, 23), (88, 3, 3), (89, 0, 23), (90, 3, 3), (91, 0, 167), (92, 3, 3), (93, 0, 35), (94, 3, 3), (95, 0, 71), (96, 0, 7), (97, 3, 3), (98, 0, 55), (99, 3, 3), (100, 0, 23), (101, 3, 3), (102, 0, 23), (103, 3, 3), (104, 0, 167), (105, 3, 3), (106, 0, 35), (107, 3, 3), (108, 0, 71), (109, 0, 7), (110, 3, 3), (111, 0, 55), (112, 3, 3), (113, 0, 23), (114, 3, 3), (115, 0, 23), (116, 3, 3), (117, 0, 167), (118, 3, 3), (119, 0, 35), (120, 3, 3), (121, 0, 71), (122, 0, 7), (123, 3, 3), (124, 0, 55), (125, 3, 3), (126, 0, 23), (127, 3, 3), (128, 0, 23), (129, 3, 3), (130, 0, 167), (131, 3, 3), (132, 0, 35), (133, 3, 3), (134, 0, 71), (135, 0, 7), (136, 3, 3), (137, 0, 55), (138, 3, 3), (139, 0, 23), (140, 3, 3), (141, 0, 23), (142, 3, 3), (143, 0, 167), (144, 3, 3), (145, 0, 35), (146, 3, 3), (147, 0, 71), (148, 0, 7), (149, 3, 3), (150, 0, 55), (151, 3, 3), (152, 0, 23), (153, 3, 3), (154, 0, 23), (155, 3, 3), (156, 0, 167), (157, 3, 3), (158, 0, 35), (159, 3, 3), (160, 0, 71), (161, 0, 7), (162, 3, 3), (163, 0, 55), (164, 3, 3), (165, 0, 23), (166, 3, 3), (167, 0, 23), (168, 3, 3), (169, 0, 167), (170, 3, 3), (171, 0, 35), (172, 3, 3), (173, 0, 71), (174, 0, 7), (175, 3, 3), (176, 0, 55), (177, 3, 3), (178, 0, 23), (179, 3, 3), (180, 0, 23), (181, 3, 3), (182, 0, 167), (183, 3, 3), (184, 0, 35), (185, 3, 3), (186, 0, 71), (187, 0, 7), (188, 3, 3), (189, 0, 55), (190, 3, 3), (191, 0, 23), (192, 3, 3), (193, 0, 23), (194, 3, 3), (195, 0, 167), (196, 3, 3), (197, 0, 35), (198, 3, 3), (199, 0, 71), (206, 2, 8), (220, 3, 3), (221, 0, 47)], zl104), zl175)
set_option maxRecDepth 100000 in
theorem p2_s741_s {X : Int → Int} {LX : Nat} : ck_Ok p2_O X LX 158 p2_s741 := ck_ok_s (O := p2_O) (X := X) (LX := LX) (E := [(143, [p2_s733]), (24, [p2_s349]), (66, [p2_s735]), (154, [p2_s529]), (10, [p2_s335]), (159, [p2_s740])]) (mi := 158) (cuts := []) (f := 140) (S := p2_s741) (lx := none) (XF := []) ⟨p2_nmu, ck_E1 (ck_S1 p2_s733_s ck_S0) (ck_E1 (ck_S1 p2_s349_s ck_S0) (ck_E1 (ck_S1 p2_s735_s ck_S0) (ck_E1 (ck_S1 p2_s529_s ck_S0) (ck_E1 (ck_S1 p2_s335_s ck_S0) (ck_E1 (ck_S1 p2_s740_s ck_S0) ck_E0)))))⟩ ck_X0 ck_l0 (by decide +kernel)
set_option maxRecDepth 100000 in
/-- GlacierMail.need -/
noncomputable def p2_s742 : ck_Sum := ((6, 1, 6), 245, [.inr (.inr (.inl 1)), .inl (ck_one 16), .inl (0, 24, [])], ([], [], []), ([], []), [(.inr none, 245, ([], [], [])), (.inl 3, 245, ([], [], []))])
set_option maxRecDepth 100000 in
theorem p2_s742_s {X : Int → Int} {LX : Nat} : ck_Ok p2_O X LX 133 p2_s742 := ck_ok_s (O := p2_O) (X := X) (LX := LX) (E := []) (mi := 133) (cuts := []) (f := 82) (S := p2_s742) (lx := none) (XF := []) ⟨p2_nmu, ck_E0⟩ ck_X0 ck_l0 (by decide +kernel)
set_option maxRecDepth 100000 in
/-- GlacierMail.needLetter -/
noncomputable def p2_s743 : ck_Sum := ((7, 1, 6), 245, [.inr (.inr (.inl 1)), .inl (ck_one 16)], ([], [], []), ([], []), [(.inl 3, 245, ([], [], [])), (.inr none, 245, ([], [], []))])
set_option maxRecDepth 100000 in
theorem p2_s743_s {X : Int → Int} {LX : Nat} : ck_Ok p2_O X LX 143 p2_s743 := ck_ok_s (O := p2_O) (X := X) (LX := LX) (E := [(9, [p2_s331]), (133, [p2_s742])]) (mi := 143) (cuts := []) (f := 86) (S := p2_s743) (lx := none) (XF := []) ⟨p2_nmu, ck_E1 (ck_S1 p2_s331_s ck_S0) (ck_E1 (ck_S1 p2_s742_s ck_S0) ck_E0)⟩ ck_X0 ck_l0 (by decide +kernel)
set_option maxRecDepth 100000 in
/-- GlacierMail$State.isRock -/
noncomputable def p2_s744 : ck_Sum := ((1, 0, 0), 245, [.inr (.inr (.inl 3)), .inl (ck_one 16)], ([], [], []), ([], []), [(.inr (some (.inl (ck_one 0))), 245, ([], [], [])), (.inr (some (.inl (ck_one 1))), 245, ([], [], []))])
set_option maxRecDepth 100000 in
theorem p2_s744_s {X : Int → Int} {LX : Nat} : ck_Ok p2_O X LX 28 p2_s744 := ck_ok_s (O := p2_O) (X := X) (LX := LX) (E := [(10, [p2_s335])]) (mi := 28) (cuts := []) (f := 90) (S := p2_s744) (lx := none) (XF := []) ⟨p2_nmu, ck_E1 (ck_S1 p2_s335_s ck_S0) ck_E0⟩ ck_X0 ck_l0 (by decide +kernel)
set_option maxRecDepth 100000 in
/-- GlacierMail.waits -/
noncomputable def p2_s745 : ck_Sum := ((2, 0, 0), 245, [.inr (.inr (.inl 1)), .inl (ck_one 16)], ([], [], [(3, 6, 6, (0, 299, [(10, 0)]))]), ([], []), [(.inr (some (.inl (ck_one 0))), 245, ([], [], [])), (.inr (some (.inl (ck_one 1))), 245, ([], [], []))])
set_option maxRecDepth 100000 in
theorem p2_s745_s {X : Int → Int} {LX : Nat} : ck_Ok p2_O X LX 66 p2_s745 := ck_ok_s (O := p2_O) (X := X) (LX := LX) (E := [(28, [p2_s744]), (10, [p2_s335, p2_s350]), (67, [p2_s351])]) (mi := 66) (cuts := []) (f := 134) (S := p2_s745) (lx := none) (XF := []) ⟨p2_nmu, ck_E1 (ck_S1 p2_s744_s ck_S0) (ck_E1 (ck_S1 p2_s335_s (ck_S1 p2_s350_s ck_S0)) (ck_E1 (ck_S1 p2_s351_s ck_S0) ck_E0))⟩ ck_X0 ck_l0 (by decide +kernel)
set_option maxRecDepth 100000 in
/-- GlacierMail$Rows.put -/
noncomputable def p2_s746 : ck_Sum := ((0, 0, 0), 245, [.inr (.inr (.inl 10)), .inl (ck_one 16), .inl (ck_one 5), .inl ((-1), 299, [])], ([], [], []), ([(11, 117, 117)], []), [(.inr none, 245, ([], [], []))])
set_option maxRecDepth 100000 in
theorem p2_s746_s {X : Int → Int} {LX : Nat} : ck_Ok p2_O X LX 45 p2_s746 := ck_ok_s (O := p2_O) (X := X) (LX := LX) (E := []) (mi := 45) (cuts := []) (f := 116) (S := p2_s746) (lx := none) (XF := []) ⟨p2_nmu, ck_E0⟩ ck_X0 ck_l0 (by decide +kernel)
set_option maxRecDepth 100000 in
/-- GlacierMail$Rows.put -/
noncomputable def p2_s747 : ck_Sum := ((0, 0, 0), 245, [.inr (.inr (.inl 10)), .inl (ck_one 16), .inl (ck_one 6), .inl (0, 299, [])], ([], [], []), ([(11, 118, 118)], []), [(.inr none, 245, ([], [], []))])
set_option maxRecDepth 100000 in
theorem p2_s747_s {X : Int → Int} {LX : Nat} : ck_Ok p2_O X LX 45 p2_s747 := ck_ok_s (O := p2_O) (X := X) (LX := LX) (E := []) (mi := 45) (cuts := []) (f := 116) (S := p2_s747) (lx := none) (XF := []) ⟨p2_nmu, ck_E0⟩ ck_X0 ck_l0 (by decide +kernel)
set_option maxRecDepth 100000 in
/-- GlacierMail$Rows.put -/
noncomputable def p2_s748 : ck_Sum := ((0, 0, 0), 245, [.inr (.inr (.inl 14)), .inl (0, 23, []), .inl (ck_one 1), .inl (ck_one 16)], ([], [], []), (zl173, []), [(.inr none, 245, ([], [], []))])
set_option maxRecDepth 100000 in
theorem p2_s748_s {X : Int → Int} {LX : Nat} : ck_Ok p2_O X LX 45 p2_s748 := ck_ok_s (O := p2_O) (X := X) (LX := LX) (E := []) (mi := 45) (cuts := []) (f := 116) (S := p2_s748) (lx := none) (XF := []) ⟨p2_nmu, ck_E0⟩ ck_X0 ck_l0 (by decide +kernel)
set_option maxRecDepth 100000 in
/-- GlacierMail$Rows.put -/
noncomputable def p2_s749 : ck_Sum := ((0, 0, 0), 245, [.inr (.inr (.inl 14)), .inl (ck_one (-1)), .inl (ck_one 1), .inl (ck_one 16)], ([], [], []), ([], []), [(.inr none, 245, ([], [], []))])
set_option maxRecDepth 100000 in
theorem p2_s749_s {X : Int → Int} {LX : Nat} : ck_Ok p2_O X LX 45 p2_s749 := ck_ok_s (O := p2_O) (X := X) (LX := LX) (E := []) (mi := 45) (cuts := []) (f := 76) (S := p2_s749) (lx := none) (XF := []) ⟨p2_nmu, ck_E0⟩ ck_X0 ck_l0 (by decide +kernel)
set_option maxRecDepth 100000 in
/-- GlacierMail$State.openLetter -/
noncomputable def p2_s750 : ck_Sum := ((1, 0, 0), 245, [.inr (.inr (.inl 3)), .inl (ck_one 16), .inl ((-1), 299, [])], ([], [], [(3, 6, 6, (0, 299, [(10, 0)]))]), ([(11, 117, 118), (14, 3, 3), (15, 0, 71)], []), [(.inr none, 245, ([], [], [(14, 3, 3, (1, 24, []))]))])
set_option maxRecDepth 100000 in
theorem p2_s750_s {X : Int → Int} {LX : Nat} : ck_Ok p2_O X LX 159 p2_s750 := ck_ok_s (O := p2_O) (X := X) (LX := LX) (E := [(45, [p2_s746, p2_s747, p2_s583, p2_s748, p2_s585, p2_s586, p2_s749, p2_s588]), (102, [p2_s589])]) (mi := 159) (cuts := []) (f := 144) (S := p2_s750) (lx := none) (XF := []) ⟨p2_nmu, ck_E1 (ck_S1 p2_s746_s (ck_S1 p2_s747_s (ck_S1 p2_s583_s (ck_S1 p2_s748_s (ck_S1 p2_s585_s (ck_S1 p2_s586_s (ck_S1 p2_s749_s (ck_S1 p2_s588_s ck_S0)))))))) (ck_E1 (ck_S1 p2_s589_s ck_S0) ck_E0)⟩ ck_X0 ck_l0 (by decide +kernel)
set_option maxRecDepth 100000 in
/-- GlacierMail.open -/
noncomputable def p2_s751 : ck_Sum := ((8, 2, 12), 245, [.inr (.inr (.inl 1)), .inl (ck_one 16)], ([], zl102, [(3, 6, 6, (0, 299, [(10, 0)]))]), ([(1, 15, 15), (11, 117, 118), (14, 3, 3), (15, 0, 71), (42, 1, 2), (44, 0, 7), (45, 3, 3), (46, 0, 55), (47, 3, 3), (48, 0, 23), (49, 3, 3), (50, 0, 23), (51, 3, 3), (52, 0, 167), (53, 3, 3), (54, 0, 35), (55, 3, 3), (56, 0, 71), (57, 0, 7), (58, 3, 3), (59, 0, 55), (60, 3, 3), (61, 0, 23), (62, 3, 3), (63, 0, 23), (64, 3, 3), (65, 0, 167), (66, 3, 3), (67, 0, 35), (68, 3, 3), (69, 0, 71), (70, 0, 7), (71, 3, 3), (72, 0, 55), (73, 3, 3), (74, 0, 23), (75, 3, 3), (76, 0, 23), (77, 3, 3), (78, 0, 167), (79, 3, 3), (80, 0, 35), (81, 3, 3), (82, 0, 71), (83, 0, 7), (84, 3, 3), (85, 0, 55), (86, 3, 3), (87, 0, 23), (88, 3, 3), (89, 0, 23), (90, 3, 3), (91, 0, 167), (92, 3, 3), (93, 0, 35), (94, 3, 3), (95, 0, 71), (96, 0, 7), (97, 3, 3), (98, 0, 55), (99, 3, 3), (100, 0, 23), (101, 3, 3), (102, 0, 23), (103, 3, 3), (104, 0, 167), (105, 3, 3), (106, 0, 35), (107, 3, 3), (108, 0, 71), (109, 0, 7), (110, 3, 3), (111, 0, 55), (112, 3, 3), (113, 0, 23), (114, 3, 3), (115, 0, 23), (116, 3, 3), (117, 0, 167), (118, 3, 3), (119, 0, 35), (120, 3, 3), (121, 0, 71), (122, 0, 7), (123, 3, 3), (124, 0, 55), (125, 3, 3), (126, 0, 23), (127, 3, 3), (128, 0, 23), (129, 3, 3), (130, 0, 167), (131, 3, 3), (132, 0, 35), (133, 3, 3), (134, 0, 71), (135, 0, 7), (136, 3, 3), (137, 0, 55), (138, 3, 3), (139, 0, 23), (140, 3, 3), (141, 0, 23), (142, 3, 3), (143, 0, 167), (144, 3, 3), (145, 0, 35), (146, 3, 3), (147, 0, 71), (148, 0, 7), (149, 3, 3), (150, 0, 55), (151, 3, 3), (152, 0, 23), (153, 3, 3), (154, 0, 23), (155, 3, 3), (156, 0, 167), (157, 3, 3), (158, 0, 35), (159, 3, 3), (160, 0, 71), (161, 0, 7), (162, 3, 3), (163, 0, 55), (164, 3, 3), (165, 0, 23), (166, 3, 3), (167, 0, 23), (168, 3, 3), (169, 0, 167), (170, 3, 3), (171, 0, 35), (172, 3, 3), (173, 0, 71), (174, 0, 7), (175, 3, 3), (176, 0, 55), (177, 3, 3), (178, 0, 23), (179, 3, 3), (180, 0, 23), (181, 3, 3), (182, 0, 167), (183, 3, 3), (184, 0, 35), (185, 3, 3), (186, 0, 71), (187, 0, 7), (188, 3, 3), (189, 0, 55), (190, 3, 3), (191, 0, 23), (192, 3, 3), (193, 0, 23), (194, 3, 3), (195, 0, 167), (196, 3, 3), (197, 0, 35), (198, 3, 3), (199, 0, 71), (206, 2, 8), (220, 3, 3), (221, 0, 47)], zl104), zl175)
set_option maxRecDepth 100000 in
theorem p2_s751_s {X : Int → Int} {LX : Nat} : ck_Ok p2_O X LX 158 p2_s751 := ck_ok_s (O := p2_O) (X := X) (LX := LX) (E := [(143, [p2_s743]), (24, [p2_s349]), (66, [p2_s745]), (154, [p2_s529]), (10, [p2_s335]), (159, [p2_s750])]) (mi := 158) (cuts := []) (f := 140) (S := p2_s751) (lx := none) (XF := []) ⟨p2_nmu, ck_E1 (ck_S1 p2_s743_s ck_S0) (ck_E1 (ck_S1 p2_s349_s ck_S0) (ck_E1 (ck_S1 p2_s745_s ck_S0) (ck_E1 (ck_S1 p2_s529_s ck_S0) (ck_E1 (ck_S1 p2_s335_s ck_S0) (ck_E1 (ck_S1 p2_s750_s ck_S0) ck_E0)))))⟩ ck_X0 ck_l0 (by decide +kernel)
set_option maxRecDepth 100000 in
/-- GlacierMail.need -/
noncomputable def p2_s752 : ck_Sum := ((6, 1, 6), 245, [.inr (.inr (.inl 1)), .inl (ck_one 17), .inl (0, 24, [])], ([], [], []), ([], []), [(.inr none, 245, ([], [], [])), (.inl 3, 245, ([], [], []))])
set_option maxRecDepth 100000 in
theorem p2_s752_s {X : Int → Int} {LX : Nat} : ck_Ok p2_O X LX 133 p2_s752 := ck_ok_s (O := p2_O) (X := X) (LX := LX) (E := []) (mi := 133) (cuts := []) (f := 82) (S := p2_s752) (lx := none) (XF := []) ⟨p2_nmu, ck_E0⟩ ck_X0 ck_l0 (by decide +kernel)
set_option maxRecDepth 100000 in
/-- GlacierMail.needLetter -/
noncomputable def p2_s753 : ck_Sum := ((7, 1, 6), 245, [.inr (.inr (.inl 1)), .inl (ck_one 17)], ([], [], []), ([], []), [(.inl 3, 245, ([], [], [])), (.inr none, 245, ([], [], []))])
set_option maxRecDepth 100000 in
theorem p2_s753_s {X : Int → Int} {LX : Nat} : ck_Ok p2_O X LX 143 p2_s753 := ck_ok_s (O := p2_O) (X := X) (LX := LX) (E := [(9, [p2_s331]), (133, [p2_s752])]) (mi := 143) (cuts := []) (f := 86) (S := p2_s753) (lx := none) (XF := []) ⟨p2_nmu, ck_E1 (ck_S1 p2_s331_s ck_S0) (ck_E1 (ck_S1 p2_s752_s ck_S0) ck_E0)⟩ ck_X0 ck_l0 (by decide +kernel)
set_option maxRecDepth 100000 in
/-- GlacierMail$State.isRock -/
noncomputable def p2_s754 : ck_Sum := ((1, 0, 0), 245, [.inr (.inr (.inl 3)), .inl (ck_one 17)], ([], [], []), ([], []), [(.inr (some (.inl (ck_one 0))), 245, ([], [], [])), (.inr (some (.inl (ck_one 1))), 245, ([], [], []))])
set_option maxRecDepth 100000 in
theorem p2_s754_s {X : Int → Int} {LX : Nat} : ck_Ok p2_O X LX 28 p2_s754 := ck_ok_s (O := p2_O) (X := X) (LX := LX) (E := [(10, [p2_s335])]) (mi := 28) (cuts := []) (f := 90) (S := p2_s754) (lx := none) (XF := []) ⟨p2_nmu, ck_E1 (ck_S1 p2_s335_s ck_S0) ck_E0⟩ ck_X0 ck_l0 (by decide +kernel)
set_option maxRecDepth 100000 in
/-- GlacierMail.waits -/
noncomputable def p2_s755 : ck_Sum := ((2, 0, 0), 245, [.inr (.inr (.inl 1)), .inl (ck_one 17)], ([], [], [(3, 6, 6, (0, 299, [(10, 0)]))]), ([], []), [(.inr (some (.inl (ck_one 0))), 245, ([], [], [])), (.inr (some (.inl (ck_one 1))), 245, ([], [], []))])
set_option maxRecDepth 100000 in
theorem p2_s755_s {X : Int → Int} {LX : Nat} : ck_Ok p2_O X LX 66 p2_s755 := ck_ok_s (O := p2_O) (X := X) (LX := LX) (E := [(28, [p2_s754]), (10, [p2_s335, p2_s350]), (67, [p2_s351])]) (mi := 66) (cuts := []) (f := 134) (S := p2_s755) (lx := none) (XF := []) ⟨p2_nmu, ck_E1 (ck_S1 p2_s754_s ck_S0) (ck_E1 (ck_S1 p2_s335_s (ck_S1 p2_s350_s ck_S0)) (ck_E1 (ck_S1 p2_s351_s ck_S0) ck_E0))⟩ ck_X0 ck_l0 (by decide +kernel)
set_option maxRecDepth 100000 in
/-- GlacierMail$Rows.put -/
noncomputable def p2_s756 : ck_Sum := ((0, 0, 0), 245, [.inr (.inr (.inl 10)), .inl (ck_one 17), .inl (ck_one 5), .inl ((-1), 299, [])], ([], [], []), ([(11, 124, 124)], []), [(.inr none, 245, ([], [], []))])
set_option maxRecDepth 100000 in
theorem p2_s756_s {X : Int → Int} {LX : Nat} : ck_Ok p2_O X LX 45 p2_s756 := ck_ok_s (O := p2_O) (X := X) (LX := LX) (E := []) (mi := 45) (cuts := []) (f := 116) (S := p2_s756) (lx := none) (XF := []) ⟨p2_nmu, ck_E0⟩ ck_X0 ck_l0 (by decide +kernel)
set_option maxRecDepth 100000 in
/-- GlacierMail$Rows.put -/
noncomputable def p2_s757 : ck_Sum := ((0, 0, 0), 245, [.inr (.inr (.inl 10)), .inl (ck_one 17), .inl (ck_one 6), .inl (0, 299, [])], ([], [], []), ([(11, 125, 125)], []), [(.inr none, 245, ([], [], []))])
set_option maxRecDepth 100000 in
theorem p2_s757_s {X : Int → Int} {LX : Nat} : ck_Ok p2_O X LX 45 p2_s757 := ck_ok_s (O := p2_O) (X := X) (LX := LX) (E := []) (mi := 45) (cuts := []) (f := 116) (S := p2_s757) (lx := none) (XF := []) ⟨p2_nmu, ck_E0⟩ ck_X0 ck_l0 (by decide +kernel)
set_option maxRecDepth 100000 in
/-- GlacierMail$Rows.put -/
noncomputable def p2_s758 : ck_Sum := ((0, 0, 0), 245, [.inr (.inr (.inl 14)), .inl (0, 23, []), .inl (ck_one 1), .inl (ck_one 17)], ([], [], []), (zl173, []), [(.inr none, 245, ([], [], []))])
set_option maxRecDepth 100000 in
theorem p2_s758_s {X : Int → Int} {LX : Nat} : ck_Ok p2_O X LX 45 p2_s758 := ck_ok_s (O := p2_O) (X := X) (LX := LX) (E := []) (mi := 45) (cuts := []) (f := 116) (S := p2_s758) (lx := none) (XF := []) ⟨p2_nmu, ck_E0⟩ ck_X0 ck_l0 (by decide +kernel)
set_option maxRecDepth 100000 in
/-- GlacierMail$Rows.put -/
noncomputable def p2_s759 : ck_Sum := ((0, 0, 0), 245, [.inr (.inr (.inl 14)), .inl (ck_one (-1)), .inl (ck_one 1), .inl (ck_one 17)], ([], [], []), ([], []), [(.inr none, 245, ([], [], []))])
set_option maxRecDepth 100000 in
theorem p2_s759_s {X : Int → Int} {LX : Nat} : ck_Ok p2_O X LX 45 p2_s759 := ck_ok_s (O := p2_O) (X := X) (LX := LX) (E := []) (mi := 45) (cuts := []) (f := 76) (S := p2_s759) (lx := none) (XF := []) ⟨p2_nmu, ck_E0⟩ ck_X0 ck_l0 (by decide +kernel)
set_option maxRecDepth 100000 in
/-- GlacierMail$State.openLetter -/
noncomputable def p2_s760 : ck_Sum := ((1, 0, 0), 245, [.inr (.inr (.inl 3)), .inl (ck_one 17), .inl ((-1), 299, [])], ([], [], [(3, 6, 6, (0, 299, [(10, 0)]))]), ([(11, 124, 125), (14, 3, 3), (15, 0, 71)], []), [(.inr none, 245, ([], [], [(14, 3, 3, (1, 24, []))]))])
set_option maxRecDepth 100000 in
theorem p2_s760_s {X : Int → Int} {LX : Nat} : ck_Ok p2_O X LX 159 p2_s760 := ck_ok_s (O := p2_O) (X := X) (LX := LX) (E := [(45, [p2_s756, p2_s757, p2_s583, p2_s758, p2_s585, p2_s586, p2_s759, p2_s588]), (102, [p2_s589])]) (mi := 159) (cuts := []) (f := 144) (S := p2_s760) (lx := none) (XF := []) ⟨p2_nmu, ck_E1 (ck_S1 p2_s756_s (ck_S1 p2_s757_s (ck_S1 p2_s583_s (ck_S1 p2_s758_s (ck_S1 p2_s585_s (ck_S1 p2_s586_s (ck_S1 p2_s759_s (ck_S1 p2_s588_s ck_S0)))))))) (ck_E1 (ck_S1 p2_s589_s ck_S0) ck_E0)⟩ ck_X0 ck_l0 (by decide +kernel)
set_option maxRecDepth 100000 in
/-- GlacierMail.open -/
noncomputable def p2_s761 : ck_Sum := ((8, 2, 12), 245, [.inr (.inr (.inl 1)), .inl (ck_one 17)], ([], zl102, [(3, 6, 6, (0, 299, [(10, 0)]))]), ([(1, 15, 15), (11, 124, 125), (14, 3, 3), (15, 0, 71), (42, 1, 2), (44, 0, 7), (45, 3, 3), (46, 0, 55), (47, 3, 3), (48, 0, 23), (49, 3, 3), (50, 0, 23), (51, 3, 3), (52, 0, 167), (53, 3, 3), (54, 0, 35), (55, 3, 3), (56, 0, 71), (57, 0, 7), (58, 3, 3), (59, 0, 55), (60, 3, 3), (61, 0, 23), (62, 3, 3), (63, 0, 23), (64, 3, 3), (65, 0, 167), (66, 3, 3), (67, 0, 35), (68, 3, 3), (69, 0, 71), (70, 0, 7), (71, 3, 3), (72, 0, 55), (73, 3, 3), (74, 0, 23), (75, 3, 3), (76, 0, 23), (77, 3, 3), (78, 0, 167), (79, 3, 3), (80, 0, 35), (81, 3, 3), (82, 0, 71), (83, 0, 7), (84, 3, 3), (85, 0, 55), (86, 3, 3), (87, 0, 23), (88, 3, 3), (89, 0, 23), (90, 3, 3), (91, 0, 167), (92, 3, 3), (93, 0, 35), (94, 3, 3), (95, 0, 71), (96, 0, 7), (97, 3, 3), (98, 0, 55), (99, 3, 3), (100, 0, 23), (101, 3, 3), (102, 0, 23), (103, 3, 3), (104, 0, 167), (105, 3, 3), (106, 0, 35), (107, 3, 3), (108, 0, 71), (109, 0, 7), (110, 3, 3), (111, 0, 55), (112, 3, 3), (113, 0, 23), (114, 3, 3), (115, 0, 23), (116, 3, 3), (117, 0, 167), (118, 3, 3), (119, 0, 35), (120, 3, 3), (121, 0, 71), (122, 0, 7), (123, 3, 3), (124, 0, 55), (125, 3, 3), (126, 0, 23), (127, 3, 3), (128, 0, 23), (129, 3, 3), (130, 0, 167), (131, 3, 3), (132, 0, 35), (133, 3, 3), (134, 0, 71), (135, 0, 7), (136, 3, 3), (137, 0, 55), (138, 3, 3), (139, 0, 23), (140, 3, 3), (141, 0, 23), (142, 3, 3), (143, 0, 167), (144, 3, 3), (145, 0, 35), (146, 3, 3), (147, 0, 71), (148, 0, 7), (149, 3, 3), (150, 0, 55), (151, 3, 3), (152, 0, 23), (153, 3, 3), (154, 0, 23), (155, 3, 3), (156, 0, 167), (157, 3, 3), (158, 0, 35), (159, 3, 3), (160, 0, 71), (161, 0, 7), (162, 3, 3), (163, 0, 55), (164, 3, 3), (165, 0, 23), (166, 3, 3), (167, 0, 23), (168, 3, 3), (169, 0, 167), (170, 3, 3), (171, 0, 35), (172, 3, 3), (173, 0, 71), (174, 0, 7), (175, 3, 3), (176, 0, 55), (177, 3, 3), (178, 0, 23), (179, 3, 3), (180, 0, 23), (181, 3, 3), (182, 0, 167), (183, 3, 3), (184, 0, 35), (185, 3, 3), (186, 0, 71), (187, 0, 7), (188, 3, 3), (189, 0, 55), (190, 3, 3), (191, 0, 23), (192, 3, 3), (193, 0, 23), (194, 3, 3), (195, 0, 167), (196, 3, 3), (197, 0, 35), (198, 3, 3), (199, 0, 71), (206, 2, 8), (220, 3, 3), (221, 0, 47)], zl104), zl175)
set_option maxRecDepth 100000 in
theorem p2_s761_s {X : Int → Int} {LX : Nat} : ck_Ok p2_O X LX 158 p2_s761 := ck_ok_s (O := p2_O) (X := X) (LX := LX) (E := [(143, [p2_s753]), (24, [p2_s349]), (66, [p2_s755]), (154, [p2_s529]), (10, [p2_s335]), (159, [p2_s760])]) (mi := 158) (cuts := []) (f := 140) (S := p2_s761) (lx := none) (XF := []) ⟨p2_nmu, ck_E1 (ck_S1 p2_s753_s ck_S0) (ck_E1 (ck_S1 p2_s349_s ck_S0) (ck_E1 (ck_S1 p2_s755_s ck_S0) (ck_E1 (ck_S1 p2_s529_s ck_S0) (ck_E1 (ck_S1 p2_s335_s ck_S0) (ck_E1 (ck_S1 p2_s760_s ck_S0) ck_E0)))))⟩ ck_X0 ck_l0 (by decide +kernel)
set_option maxRecDepth 100000 in
/-- GlacierMail.need -/
noncomputable def p2_s762 : ck_Sum := ((6, 1, 6), 245, [.inr (.inr (.inl 1)), .inl (ck_one 18), .inl (0, 24, [])], ([], [], []), ([], []), [(.inr none, 245, ([], [], [])), (.inl 3, 245, ([], [], []))])
set_option maxRecDepth 100000 in
theorem p2_s762_s {X : Int → Int} {LX : Nat} : ck_Ok p2_O X LX 133 p2_s762 := ck_ok_s (O := p2_O) (X := X) (LX := LX) (E := []) (mi := 133) (cuts := []) (f := 82) (S := p2_s762) (lx := none) (XF := []) ⟨p2_nmu, ck_E0⟩ ck_X0 ck_l0 (by decide +kernel)
set_option maxRecDepth 100000 in
/-- GlacierMail.needLetter -/
noncomputable def p2_s763 : ck_Sum := ((7, 1, 6), 245, [.inr (.inr (.inl 1)), .inl (ck_one 18)], ([], [], []), ([], []), [(.inl 3, 245, ([], [], [])), (.inr none, 245, ([], [], []))])
set_option maxRecDepth 100000 in
theorem p2_s763_s {X : Int → Int} {LX : Nat} : ck_Ok p2_O X LX 143 p2_s763 := ck_ok_s (O := p2_O) (X := X) (LX := LX) (E := [(9, [p2_s331]), (133, [p2_s762])]) (mi := 143) (cuts := []) (f := 86) (S := p2_s763) (lx := none) (XF := []) ⟨p2_nmu, ck_E1 (ck_S1 p2_s331_s ck_S0) (ck_E1 (ck_S1 p2_s762_s ck_S0) ck_E0)⟩ ck_X0 ck_l0 (by decide +kernel)
set_option maxRecDepth 100000 in
/-- GlacierMail$State.isRock -/
noncomputable def p2_s764 : ck_Sum := ((1, 0, 0), 245, [.inr (.inr (.inl 3)), .inl (ck_one 18)], ([], [], []), ([], []), [(.inr (some (.inl (ck_one 0))), 245, ([], [], [])), (.inr (some (.inl (ck_one 1))), 245, ([], [], []))])
set_option maxRecDepth 100000 in
theorem p2_s764_s {X : Int → Int} {LX : Nat} : ck_Ok p2_O X LX 28 p2_s764 := ck_ok_s (O := p2_O) (X := X) (LX := LX) (E := [(10, [p2_s335])]) (mi := 28) (cuts := []) (f := 90) (S := p2_s764) (lx := none) (XF := []) ⟨p2_nmu, ck_E1 (ck_S1 p2_s335_s ck_S0) ck_E0⟩ ck_X0 ck_l0 (by decide +kernel)
set_option maxRecDepth 100000 in
/-- GlacierMail.waits -/
noncomputable def p2_s765 : ck_Sum := ((2, 0, 0), 245, [.inr (.inr (.inl 1)), .inl (ck_one 18)], ([], [], [(3, 6, 6, (0, 299, [(10, 0)]))]), ([], []), [(.inr (some (.inl (ck_one 0))), 245, ([], [], [])), (.inr (some (.inl (ck_one 1))), 245, ([], [], []))])
set_option maxRecDepth 100000 in
theorem p2_s765_s {X : Int → Int} {LX : Nat} : ck_Ok p2_O X LX 66 p2_s765 := ck_ok_s (O := p2_O) (X := X) (LX := LX) (E := [(28, [p2_s764]), (10, [p2_s335, p2_s350]), (67, [p2_s351])]) (mi := 66) (cuts := []) (f := 134) (S := p2_s765) (lx := none) (XF := []) ⟨p2_nmu, ck_E1 (ck_S1 p2_s764_s ck_S0) (ck_E1 (ck_S1 p2_s335_s (ck_S1 p2_s350_s ck_S0)) (ck_E1 (ck_S1 p2_s351_s ck_S0) ck_E0))⟩ ck_X0 ck_l0 (by decide +kernel)
set_option maxRecDepth 100000 in
/-- GlacierMail$Rows.put -/
noncomputable def p2_s766 : ck_Sum := ((0, 0, 0), 245, [.inr (.inr (.inl 10)), .inl (ck_one 18), .inl (ck_one 5), .inl ((-1), 299, [])], ([], [], []), ([(11, 131, 131)], []), [(.inr none, 245, ([], [], []))])
set_option maxRecDepth 100000 in
theorem p2_s766_s {X : Int → Int} {LX : Nat} : ck_Ok p2_O X LX 45 p2_s766 := ck_ok_s (O := p2_O) (X := X) (LX := LX) (E := []) (mi := 45) (cuts := []) (f := 116) (S := p2_s766) (lx := none) (XF := []) ⟨p2_nmu, ck_E0⟩ ck_X0 ck_l0 (by decide +kernel)
set_option maxRecDepth 100000 in
/-- GlacierMail$Rows.put -/
noncomputable def p2_s767 : ck_Sum := ((0, 0, 0), 245, [.inr (.inr (.inl 10)), .inl (ck_one 18), .inl (ck_one 6), .inl (0, 299, [])], ([], [], []), ([(11, 132, 132)], []), [(.inr none, 245, ([], [], []))])
set_option maxRecDepth 100000 in
theorem p2_s767_s {X : Int → Int} {LX : Nat} : ck_Ok p2_O X LX 45 p2_s767 := ck_ok_s (O := p2_O) (X := X) (LX := LX) (E := []) (mi := 45) (cuts := []) (f := 116) (S := p2_s767) (lx := none) (XF := []) ⟨p2_nmu, ck_E0⟩ ck_X0 ck_l0 (by decide +kernel)
set_option maxRecDepth 100000 in
/-- GlacierMail$Rows.put -/
noncomputable def p2_s768 : ck_Sum := ((0, 0, 0), 245, [.inr (.inr (.inl 14)), .inl (0, 23, []), .inl (ck_one 1), .inl (ck_one 18)], ([], [], []), (zl173, []), [(.inr none, 245, ([], [], []))])
set_option maxRecDepth 100000 in
theorem p2_s768_s {X : Int → Int} {LX : Nat} : ck_Ok p2_O X LX 45 p2_s768 := ck_ok_s (O := p2_O) (X := X) (LX := LX) (E := []) (mi := 45) (cuts := []) (f := 116) (S := p2_s768) (lx := none) (XF := []) ⟨p2_nmu, ck_E0⟩ ck_X0 ck_l0 (by decide +kernel)
set_option maxRecDepth 100000 in
/-- GlacierMail$Rows.put -/
noncomputable def p2_s769 : ck_Sum := ((0, 0, 0), 245, [.inr (.inr (.inl 14)), .inl (ck_one (-1)), .inl (ck_one 1), .inl (ck_one 18)], ([], [], []), ([], []), [(.inr none, 245, ([], [], []))])
set_option maxRecDepth 100000 in
theorem p2_s769_s {X : Int → Int} {LX : Nat} : ck_Ok p2_O X LX 45 p2_s769 := ck_ok_s (O := p2_O) (X := X) (LX := LX) (E := []) (mi := 45) (cuts := []) (f := 76) (S := p2_s769) (lx := none) (XF := []) ⟨p2_nmu, ck_E0⟩ ck_X0 ck_l0 (by decide +kernel)
set_option maxRecDepth 100000 in
/-- GlacierMail$State.openLetter -/
noncomputable def p2_s770 : ck_Sum := ((1, 0, 0), 245, [.inr (.inr (.inl 3)), .inl (ck_one 18), .inl ((-1), 299, [])], ([], [], [(3, 6, 6, (0, 299, [(10, 0)]))]), ([(11, 131, 132), (14, 3, 3), (15, 0, 71)], []), [(.inr none, 245, ([], [], [(14, 3, 3, (1, 24, []))]))])
set_option maxRecDepth 100000 in
theorem p2_s770_s {X : Int → Int} {LX : Nat} : ck_Ok p2_O X LX 159 p2_s770 := ck_ok_s (O := p2_O) (X := X) (LX := LX) (E := [(45, [p2_s766, p2_s767, p2_s583, p2_s768, p2_s585, p2_s586, p2_s769, p2_s588]), (102, [p2_s589])]) (mi := 159) (cuts := []) (f := 144) (S := p2_s770) (lx := none) (XF := []) ⟨p2_nmu, ck_E1 (ck_S1 p2_s766_s (ck_S1 p2_s767_s (ck_S1 p2_s583_s (ck_S1 p2_s768_s (ck_S1 p2_s585_s (ck_S1 p2_s586_s (ck_S1 p2_s769_s (ck_S1 p2_s588_s ck_S0)))))))) (ck_E1 (ck_S1 p2_s589_s ck_S0) ck_E0)⟩ ck_X0 ck_l0 (by decide +kernel)
set_option maxRecDepth 100000 in
/-- GlacierMail.open -/
noncomputable def p2_s771 : ck_Sum := ((8, 2, 12), 245, [.inr (.inr (.inl 1)), .inl (ck_one 18)], ([], zl102, [(3, 6, 6, (0, 299, [(10, 0)]))]), ([(1, 15, 15), (11, 131, 132), (14, 3, 3), (15, 0, 71), (42, 1, 2), (44, 0, 7), (45, 3, 3), (46, 0, 55), (47, 3, 3), (48, 0, 23), (49, 3, 3), (50, 0, 23), (51, 3, 3), (52, 0, 167), (53, 3, 3), (54, 0, 35), (55, 3, 3), (56, 0, 71), (57, 0, 7), (58, 3, 3), (59, 0, 55), (60, 3, 3), (61, 0, 23), (62, 3, 3), (63, 0, 23), (64, 3, 3), (65, 0, 167), (66, 3, 3), (67, 0, 35), (68, 3, 3), (69, 0, 71), (70, 0, 7), (71, 3, 3), (72, 0, 55), (73, 3, 3), (74, 0, 23), (75, 3, 3), (76, 0, 23), (77, 3, 3), (78, 0, 167), (79, 3, 3), (80, 0, 35), (81, 3, 3), (82, 0, 71), (83, 0, 7), (84, 3, 3), (85, 0, 55), (86, 3, 3), (87, 0, 23), (88, 3, 3), (89, 0, 23), (90, 3, 3), (91, 0, 167), (92, 3, 3), (93, 0, 35), (94, 3, 3), (95, 0, 71), (96, 0, 7), (97, 3, 3), (98, 0, 55), (99, 3, 3), (100, 0, 23), (101, 3, 3), (102, 0, 23), (103, 3, 3), (104, 0, 167), (105, 3, 3), (106, 0, 35), (107, 3, 3), (108, 0, 71), (109, 0, 7), (110, 3, 3), (111, 0, 55), (112, 3, 3), (113, 0, 23), (114, 3, 3), (115, 0, 23), (116, 3, 3), (117, 0, 167), (118, 3, 3), (119, 0, 35), (120, 3, 3), (121, 0, 71), (122, 0, 7), (123, 3, 3), (124, 0, 55), (125, 3, 3), (126, 0, 23), (127, 3, 3), (128, 0, 23), (129, 3, 3), (130, 0, 167), (131, 3, 3), (132, 0, 35), (133, 3, 3), (134, 0, 71), (135, 0, 7), (136, 3, 3), (137, 0, 55), (138, 3, 3), (139, 0, 23), (140, 3, 3), (141, 0, 23), (142, 3, 3), (143, 0, 167), (144, 3, 3), (145, 0, 35), (146, 3, 3), (147, 0, 71), (148, 0, 7), (149, 3, 3), (150, 0, 55), (151, 3, 3), (152, 0, 23), (153, 3, 3), (154, 0, 23), (155, 3, 3), (156, 0, 167), (157, 3, 3), (158, 0, 35), (159, 3, 3), (160, 0, 71), (161, 0, 7), (162, 3, 3), (163, 0, 55), (164, 3, 3), (165, 0, 23), (166, 3, 3), (167, 0, 23), (168, 3, 3), (169, 0, 167), (170, 3, 3), (171, 0, 35), (172, 3, 3), (173, 0, 71), (174, 0, 7), (175, 3, 3), (176, 0, 55), (177, 3, 3), (178, 0, 23), (179, 3, 3), (180, 0, 23), (181, 3, 3), (182, 0, 167), (183, 3, 3), (184, 0, 35), (185, 3, 3), (186, 0, 71), (187, 0, 7), (188, 3, 3), (189, 0, 55), (190, 3, 3), (191, 0, 23), (192, 3, 3), (193, 0, 23), (194, 3, 3), (195, 0, 167), (196, 3, 3), (197, 0, 35), (198, 3, 3), (199, 0, 71), (206, 2, 8), (220, 3, 3), (221, 0, 47)], zl104), zl175)
set_option maxRecDepth 100000 in
theorem p2_s771_s {X : Int → Int} {LX : Nat} : ck_Ok p2_O X LX 158 p2_s771 := ck_ok_s (O := p2_O) (X := X) (LX := LX) (E := [(143, [p2_s763]), (24, [p2_s349]), (66, [p2_s765]), (154, [p2_s529]), (10, [p2_s335]), (159, [p2_s770])]) (mi := 158) (cuts := []) (f := 140) (S := p2_s771) (lx := none) (XF := []) ⟨p2_nmu, ck_E1 (ck_S1 p2_s763_s ck_S0) (ck_E1 (ck_S1 p2_s349_s ck_S0) (ck_E1 (ck_S1 p2_s765_s ck_S0) (ck_E1 (ck_S1 p2_s529_s ck_S0) (ck_E1 (ck_S1 p2_s335_s ck_S0) (ck_E1 (ck_S1 p2_s770_s ck_S0) ck_E0)))))⟩ ck_X0 ck_l0 (by decide +kernel)
set_option maxRecDepth 100000 in
/-- GlacierMail.need -/
noncomputable def p2_s772 : ck_Sum := ((6, 1, 6), 245, [.inr (.inr (.inl 1)), .inl (ck_one 19), .inl (0, 24, [])], ([], [], []), ([], []), [(.inr none, 245, ([], [], [])), (.inl 3, 245, ([], [], []))])
set_option maxRecDepth 100000 in
theorem p2_s772_s {X : Int → Int} {LX : Nat} : ck_Ok p2_O X LX 133 p2_s772 := ck_ok_s (O := p2_O) (X := X) (LX := LX) (E := []) (mi := 133) (cuts := []) (f := 82) (S := p2_s772) (lx := none) (XF := []) ⟨p2_nmu, ck_E0⟩ ck_X0 ck_l0 (by decide +kernel)
set_option maxRecDepth 100000 in
/-- GlacierMail.needLetter -/
noncomputable def p2_s773 : ck_Sum := ((7, 1, 6), 245, [.inr (.inr (.inl 1)), .inl (ck_one 19)], ([], [], []), ([], []), [(.inl 3, 245, ([], [], [])), (.inr none, 245, ([], [], []))])
set_option maxRecDepth 100000 in
theorem p2_s773_s {X : Int → Int} {LX : Nat} : ck_Ok p2_O X LX 143 p2_s773 := ck_ok_s (O := p2_O) (X := X) (LX := LX) (E := [(9, [p2_s331]), (133, [p2_s772])]) (mi := 143) (cuts := []) (f := 86) (S := p2_s773) (lx := none) (XF := []) ⟨p2_nmu, ck_E1 (ck_S1 p2_s331_s ck_S0) (ck_E1 (ck_S1 p2_s772_s ck_S0) ck_E0)⟩ ck_X0 ck_l0 (by decide +kernel)
set_option maxRecDepth 100000 in
/-- GlacierMail$State.isRock -/
noncomputable def p2_s774 : ck_Sum := ((1, 0, 0), 245, [.inr (.inr (.inl 3)), .inl (ck_one 19)], ([], [], []), ([], []), [(.inr (some (.inl (ck_one 0))), 245, ([], [], [])), (.inr (some (.inl (ck_one 1))), 245, ([], [], []))])
set_option maxRecDepth 100000 in
theorem p2_s774_s {X : Int → Int} {LX : Nat} : ck_Ok p2_O X LX 28 p2_s774 := ck_ok_s (O := p2_O) (X := X) (LX := LX) (E := [(10, [p2_s335])]) (mi := 28) (cuts := []) (f := 90) (S := p2_s774) (lx := none) (XF := []) ⟨p2_nmu, ck_E1 (ck_S1 p2_s335_s ck_S0) ck_E0⟩ ck_X0 ck_l0 (by decide +kernel)
set_option maxRecDepth 100000 in
/-- GlacierMail.waits -/
noncomputable def p2_s775 : ck_Sum := ((2, 0, 0), 245, [.inr (.inr (.inl 1)), .inl (ck_one 19)], ([], [], [(3, 6, 6, (0, 299, [(10, 0)]))]), ([], []), [(.inr (some (.inl (ck_one 0))), 245, ([], [], [])), (.inr (some (.inl (ck_one 1))), 245, ([], [], []))])
set_option maxRecDepth 100000 in
theorem p2_s775_s {X : Int → Int} {LX : Nat} : ck_Ok p2_O X LX 66 p2_s775 := ck_ok_s (O := p2_O) (X := X) (LX := LX) (E := [(28, [p2_s774]), (10, [p2_s335, p2_s350]), (67, [p2_s351])]) (mi := 66) (cuts := []) (f := 134) (S := p2_s775) (lx := none) (XF := []) ⟨p2_nmu, ck_E1 (ck_S1 p2_s774_s ck_S0) (ck_E1 (ck_S1 p2_s335_s (ck_S1 p2_s350_s ck_S0)) (ck_E1 (ck_S1 p2_s351_s ck_S0) ck_E0))⟩ ck_X0 ck_l0 (by decide +kernel)
set_option maxRecDepth 100000 in
/-- GlacierMail$Rows.put -/
noncomputable def p2_s776 : ck_Sum := ((0, 0, 0), 245, [.inr (.inr (.inl 10)), .inl (ck_one 19), .inl (ck_one 5), .inl ((-1), 299, [])], ([], [], []), ([(11, 138, 138)], []), [(.inr none, 245, ([], [], []))])
set_option maxRecDepth 100000 in
theorem p2_s776_s {X : Int → Int} {LX : Nat} : ck_Ok p2_O X LX 45 p2_s776 := ck_ok_s (O := p2_O) (X := X) (LX := LX) (E := []) (mi := 45) (cuts := []) (f := 116) (S := p2_s776) (lx := none) (XF := []) ⟨p2_nmu, ck_E0⟩ ck_X0 ck_l0 (by decide +kernel)
set_option maxRecDepth 100000 in
/-- GlacierMail$Rows.put -/
noncomputable def p2_s777 : ck_Sum := ((0, 0, 0), 245, [.inr (.inr (.inl 10)), .inl (ck_one 19), .inl (ck_one 6), .inl (0, 299, [])], ([], [], []), ([(11, 139, 139)], []), [(.inr none, 245, ([], [], []))])
set_option maxRecDepth 100000 in
theorem p2_s777_s {X : Int → Int} {LX : Nat} : ck_Ok p2_O X LX 45 p2_s777 := ck_ok_s (O := p2_O) (X := X) (LX := LX) (E := []) (mi := 45) (cuts := []) (f := 116) (S := p2_s777) (lx := none) (XF := []) ⟨p2_nmu, ck_E0⟩ ck_X0 ck_l0 (by decide +kernel)
set_option maxRecDepth 100000 in
/-- GlacierMail$Rows.put -/
noncomputable def p2_s778 : ck_Sum := ((0, 0, 0), 245, [.inr (.inr (.inl 14)), .inl (0, 23, []), .inl (ck_one 1), .inl (ck_one 19)], ([], [], []), (zl173, []), [(.inr none, 245, ([], [], []))])
set_option maxRecDepth 100000 in
theorem p2_s778_s {X : Int → Int} {LX : Nat} : ck_Ok p2_O X LX 45 p2_s778 := ck_ok_s (O := p2_O) (X := X) (LX := LX) (E := []) (mi := 45) (cuts := []) (f := 116) (S := p2_s778) (lx := none) (XF := []) ⟨p2_nmu, ck_E0⟩ ck_X0 ck_l0 (by decide +kernel)
set_option maxRecDepth 100000 in
/-- GlacierMail$Rows.put -/
noncomputable def p2_s779 : ck_Sum := ((0, 0, 0), 245, [.inr (.inr (.inl 14)), .inl (ck_one (-1)), .inl (ck_one 1), .inl (ck_one 19)], ([], [], []), ([], []), [(.inr none, 245, ([], [], []))])
set_option maxRecDepth 100000 in
theorem p2_s779_s {X : Int → Int} {LX : Nat} : ck_Ok p2_O X LX 45 p2_s779 := ck_ok_s (O := p2_O) (X := X) (LX := LX) (E := []) (mi := 45) (cuts := []) (f := 76) (S := p2_s779) (lx := none) (XF := []) ⟨p2_nmu, ck_E0⟩ ck_X0 ck_l0 (by decide +kernel)
set_option maxRecDepth 100000 in
/-- GlacierMail$State.openLetter -/
noncomputable def p2_s780 : ck_Sum := ((1, 0, 0), 245, [.inr (.inr (.inl 3)), .inl (ck_one 19), .inl ((-1), 299, [])], ([], [], [(3, 6, 6, (0, 299, [(10, 0)]))]), ([(11, 138, 139), (14, 3, 3), (15, 0, 71)], []), [(.inr none, 245, ([], [], [(14, 3, 3, (1, 24, []))]))])
set_option maxRecDepth 100000 in
theorem p2_s780_s {X : Int → Int} {LX : Nat} : ck_Ok p2_O X LX 159 p2_s780 := ck_ok_s (O := p2_O) (X := X) (LX := LX) (E := [(45, [p2_s776, p2_s777, p2_s583, p2_s778, p2_s585, p2_s586, p2_s779, p2_s588]), (102, [p2_s589])]) (mi := 159) (cuts := []) (f := 144) (S := p2_s780) (lx := none) (XF := []) ⟨p2_nmu, ck_E1 (ck_S1 p2_s776_s (ck_S1 p2_s777_s (ck_S1 p2_s583_s (ck_S1 p2_s778_s (ck_S1 p2_s585_s (ck_S1 p2_s586_s (ck_S1 p2_s779_s (ck_S1 p2_s588_s ck_S0)))))))) (ck_E1 (ck_S1 p2_s589_s ck_S0) ck_E0)⟩ ck_X0 ck_l0 (by decide +kernel)
set_option maxRecDepth 100000 in
/-- GlacierMail.open -/
noncomputable def p2_s781 : ck_Sum := ((8, 2, 12), 245, [.inr (.inr (.inl 1)), .inl (ck_one 19)], ([], zl102, [(3, 6, 6, (0, 299, [(10, 0)]))]), ([(1, 15, 15), (11, 138, 139), (14, 3, 3), (15, 0, 71), (42, 1, 2), (44, 0, 7), (45, 3, 3), (46, 0, 55), (47, 3, 3), (48, 0, 23), (49, 3, 3), (50, 0, 23), (51, 3, 3), (52, 0, 167), (53, 3, 3), (54, 0, 35), (55, 3, 3), (56, 0, 71), (57, 0, 7), (58, 3, 3), (59, 0, 55), (60, 3, 3), (61, 0, 23), (62, 3, 3), (63, 0, 23), (64, 3, 3), (65, 0, 167), (66, 3, 3), (67, 0, 35), (68, 3, 3), (69, 0, 71), (70, 0, 7), (71, 3, 3), (72, 0, 55), (73, 3, 3), (74, 0, 23), (75, 3, 3), (76, 0, 23), (77, 3, 3), (78, 0, 167), (79, 3, 3), (80, 0, 35), (81, 3, 3), (82, 0, 71), (83, 0, 7), (84, 3, 3), (85, 0, 55), (86, 3, 3), (87, 0, 23), (88, 3, 3), (89, 0, 23), (90, 3, 3), (91, 0, 167), (92, 3, 3), (93, 0, 35), (94, 3, 3), (95, 0, 71), (96, 0, 7), (97, 3, 3), (98, 0, 55), (99, 3, 3), (100, 0, 23), (101, 3, 3), (102, 0, 23), (103, 3, 3), (104, 0, 167), (105, 3, 3), (106, 0, 35), (107, 3, 3), (108, 0, 71), (109, 0, 7), (110, 3, 3), (111, 0, 55), (112, 3, 3), (113, 0, 23), (114, 3, 3), (115, 0, 23), (116, 3, 3), (117, 0, 167), (118, 3, 3), (119, 0, 35), (120, 3, 3), (121, 0, 71), (122, 0, 7), (123, 3, 3), (124, 0, 55), (125, 3, 3), (126, 0, 23), (127, 3, 3), (128, 0, 23), (129, 3, 3), (130, 0, 167), (131, 3, 3), (132, 0, 35), (133, 3, 3), (134, 0, 71), (135, 0, 7), (136, 3, 3), (137, 0, 55), (138, 3, 3), (139, 0, 23), (140, 3, 3), (141, 0, 23), (142, 3, 3), (143, 0, 167), (144, 3, 3), (145, 0, 35), (146, 3, 3), (147, 0, 71), (148, 0, 7), (149, 3, 3), (150, 0, 55), (151, 3, 3), (152, 0, 23), (153, 3, 3), (154, 0, 23), (155, 3, 3), (156, 0, 167), (157, 3, 3), (158, 0, 35), (159, 3, 3), (160, 0, 71), (161, 0, 7), (162, 3, 3), (163, 0, 55), (164, 3, 3), (165, 0, 23), (166, 3, 3), (167, 0, 23), (168, 3, 3), (169, 0, 167), (170, 3, 3), (171, 0, 35), (172, 3, 3), (173, 0, 71), (174, 0, 7), (175, 3, 3), (176, 0, 55), (177, 3, 3), (178, 0, 23), (179, 3, 3), (180, 0, 23), (181, 3, 3), (182, 0, 167), (183, 3, 3), (184, 0, 35), (185, 3, 3), (186, 0, 71), (187, 0, 7), (188, 3, 3), (189, 0, 55), (190, 3, 3), (191, 0, 23), (192, 3, 3), (193, 0, 23), (194, 3, 3), (195, 0, 167), (196, 3, 3), (197, 0, 35), (198, 3, 3), (199, 0, 71), (206, 2, 8), (220, 3, 3), (221, 0, 47)], zl104), zl175)
set_option maxRecDepth 100000 in
theorem p2_s781_s {X : Int → Int} {LX : Nat} : ck_Ok p2_O X LX 158 p2_s781 := ck_ok_s (O := p2_O) (X := X) (LX := LX) (E := [(143, [p2_s773]), (24, [p2_s349]), (66, [p2_s775]), (154, [p2_s529]), (10, [p2_s335]), (159, [p2_s780])]) (mi := 158) (cuts := []) (f := 140) (S := p2_s781) (lx := none) (XF := []) ⟨p2_nmu, ck_E1 (ck_S1 p2_s773_s ck_S0) (ck_E1 (ck_S1 p2_s349_s ck_S0) (ck_E1 (ck_S1 p2_s775_s ck_S0) (ck_E1 (ck_S1 p2_s529_s ck_S0) (ck_E1 (ck_S1 p2_s335_s ck_S0) (ck_E1 (ck_S1 p2_s780_s ck_S0) ck_E0)))))⟩ ck_X0 ck_l0 (by decide +kernel)
set_option maxRecDepth 100000 in
/-- GlacierMail.need -/
noncomputable def p2_s782 : ck_Sum := ((6, 1, 6), 245, [.inr (.inr (.inl 1)), .inl (ck_one 20), .inl (0, 24, [])], ([], [], []), ([], []), [(.inr none, 245, ([], [], [])), (.inl 3, 245, ([], [], []))])
set_option maxRecDepth 100000 in
theorem p2_s782_s {X : Int → Int} {LX : Nat} : ck_Ok p2_O X LX 133 p2_s782 := ck_ok_s (O := p2_O) (X := X) (LX := LX) (E := []) (mi := 133) (cuts := []) (f := 82) (S := p2_s782) (lx := none) (XF := []) ⟨p2_nmu, ck_E0⟩ ck_X0 ck_l0 (by decide +kernel)
set_option maxRecDepth 100000 in
/-- GlacierMail.needLetter -/
noncomputable def p2_s783 : ck_Sum := ((7, 1, 6), 245, [.inr (.inr (.inl 1)), .inl (ck_one 20)], ([], [], []), ([], []), [(.inl 3, 245, ([], [], [])), (.inr none, 245, ([], [], []))])
set_option maxRecDepth 100000 in
theorem p2_s783_s {X : Int → Int} {LX : Nat} : ck_Ok p2_O X LX 143 p2_s783 := ck_ok_s (O := p2_O) (X := X) (LX := LX) (E := [(9, [p2_s331]), (133, [p2_s782])]) (mi := 143) (cuts := []) (f := 86) (S := p2_s783) (lx := none) (XF := []) ⟨p2_nmu, ck_E1 (ck_S1 p2_s331_s ck_S0) (ck_E1 (ck_S1 p2_s782_s ck_S0) ck_E0)⟩ ck_X0 ck_l0 (by decide +kernel)
set_option maxRecDepth 100000 in
/-- GlacierMail$State.isRock -/
noncomputable def p2_s784 : ck_Sum := ((1, 0, 0), 245, [.inr (.inr (.inl 3)), .inl (ck_one 20)], ([], [], []), ([], []), [(.inr (some (.inl (ck_one 0))), 245, ([], [], [])), (.inr (some (.inl (ck_one 1))), 245, ([], [], []))])
set_option maxRecDepth 100000 in
theorem p2_s784_s {X : Int → Int} {LX : Nat} : ck_Ok p2_O X LX 28 p2_s784 := ck_ok_s (O := p2_O) (X := X) (LX := LX) (E := [(10, [p2_s335])]) (mi := 28) (cuts := []) (f := 90) (S := p2_s784) (lx := none) (XF := []) ⟨p2_nmu, ck_E1 (ck_S1 p2_s335_s ck_S0) ck_E0⟩ ck_X0 ck_l0 (by decide +kernel)
set_option maxRecDepth 100000 in
/-- GlacierMail.waits -/
noncomputable def p2_s785 : ck_Sum := ((2, 0, 0), 245, [.inr (.inr (.inl 1)), .inl (ck_one 20)], ([], [], [(3, 6, 6, (0, 299, [(10, 0)]))]), ([], []), [(.inr (some (.inl (ck_one 0))), 245, ([], [], [])), (.inr (some (.inl (ck_one 1))), 245, ([], [], []))])
set_option maxRecDepth 100000 in
theorem p2_s785_s {X : Int → Int} {LX : Nat} : ck_Ok p2_O X LX 66 p2_s785 := ck_ok_s (O := p2_O) (X := X) (LX := LX) (E := [(28, [p2_s784]), (10, [p2_s335, p2_s350]), (67, [p2_s351])]) (mi := 66) (cuts := []) (f := 134) (S := p2_s785) (lx := none) (XF := []) ⟨p2_nmu, ck_E1 (ck_S1 p2_s784_s ck_S0) (ck_E1 (ck_S1 p2_s335_s (ck_S1 p2_s350_s ck_S0)) (ck_E1 (ck_S1 p2_s351_s ck_S0) ck_E0))⟩ ck_X0 ck_l0 (by decide +kernel)
set_option maxRecDepth 100000 in
/-- GlacierMail$Rows.put -/
noncomputable def p2_s786 : ck_Sum := ((0, 0, 0), 245, [.inr (.inr (.inl 10)), .inl (ck_one 20), .inl (ck_one 5), .inl ((-1), 299, [])], ([], [], []), ([(11, 145, 145)], []), [(.inr none, 245, ([], [], []))])
set_option maxRecDepth 100000 in
theorem p2_s786_s {X : Int → Int} {LX : Nat} : ck_Ok p2_O X LX 45 p2_s786 := ck_ok_s (O := p2_O) (X := X) (LX := LX) (E := []) (mi := 45) (cuts := []) (f := 116) (S := p2_s786) (lx := none) (XF := []) ⟨p2_nmu, ck_E0⟩ ck_X0 ck_l0 (by decide +kernel)
set_option maxRecDepth 100000 in
/-- GlacierMail$Rows.put -/
noncomputable def p2_s787 : ck_Sum := ((0, 0, 0), 245, [.inr (.inr (.inl 10)), .inl (ck_one 20), .inl (ck_one 6), .inl (0, 299, [])], ([], [], []), ([(11, 146, 146)], []), [(.inr none, 245, ([], [], []))])
set_option maxRecDepth 100000 in
theorem p2_s787_s {X : Int → Int} {LX : Nat} : ck_Ok p2_O X LX 45 p2_s787 := ck_ok_s (O := p2_O) (X := X) (LX := LX) (E := []) (mi := 45) (cuts := []) (f := 116) (S := p2_s787) (lx := none) (XF := []) ⟨p2_nmu, ck_E0⟩ ck_X0 ck_l0 (by decide +kernel)
set_option maxRecDepth 100000 in
/-- GlacierMail$Rows.put -/
noncomputable def p2_s788 : ck_Sum := ((0, 0, 0), 245, [.inr (.inr (.inl 14)), .inl (0, 23, []), .inl (ck_one 1), .inl (ck_one 20)], ([], [], []), (zl173, []), [(.inr none, 245, ([], [], []))])
set_option maxRecDepth 100000 in
theorem p2_s788_s {X : Int → Int} {LX : Nat} : ck_Ok p2_O X LX 45 p2_s788 := ck_ok_s (O := p2_O) (X := X) (LX := LX) (E := []) (mi := 45) (cuts := []) (f := 116) (S := p2_s788) (lx := none) (XF := []) ⟨p2_nmu, ck_E0⟩ ck_X0 ck_l0 (by decide +kernel)
set_option maxRecDepth 100000 in
/-- GlacierMail$Rows.put -/
noncomputable def p2_s789 : ck_Sum := ((0, 0, 0), 245, [.inr (.inr (.inl 14)), .inl (ck_one (-1)), .inl (ck_one 1), .inl (ck_one 20)], ([], [], []), ([], []), [(.inr none, 245, ([], [], []))])
set_option maxRecDepth 100000 in
theorem p2_s789_s {X : Int → Int} {LX : Nat} : ck_Ok p2_O X LX 45 p2_s789 := ck_ok_s (O := p2_O) (X := X) (LX := LX) (E := []) (mi := 45) (cuts := []) (f := 76) (S := p2_s789) (lx := none) (XF := []) ⟨p2_nmu, ck_E0⟩ ck_X0 ck_l0 (by decide +kernel)
set_option maxRecDepth 100000 in
/-- GlacierMail$State.openLetter -/
noncomputable def p2_s790 : ck_Sum := ((1, 0, 0), 245, [.inr (.inr (.inl 3)), .inl (ck_one 20), .inl ((-1), 299, [])], ([], [], [(3, 6, 6, (0, 299, [(10, 0)]))]), ([(11, 145, 146), (14, 3, 3), (15, 0, 71)], []), [(.inr none, 245, ([], [], [(14, 3, 3, (1, 24, []))]))])
set_option maxRecDepth 100000 in
theorem p2_s790_s {X : Int → Int} {LX : Nat} : ck_Ok p2_O X LX 159 p2_s790 := ck_ok_s (O := p2_O) (X := X) (LX := LX) (E := [(45, [p2_s786, p2_s787, p2_s583, p2_s788, p2_s585, p2_s586, p2_s789, p2_s588]), (102, [p2_s589])]) (mi := 159) (cuts := []) (f := 144) (S := p2_s790) (lx := none) (XF := []) ⟨p2_nmu, ck_E1 (ck_S1 p2_s786_s (ck_S1 p2_s787_s (ck_S1 p2_s583_s (ck_S1 p2_s788_s (ck_S1 p2_s585_s (ck_S1 p2_s586_s (ck_S1 p2_s789_s (ck_S1 p2_s588_s ck_S0)))))))) (ck_E1 (ck_S1 p2_s589_s ck_S0) ck_E0)⟩ ck_X0 ck_l0 (by decide +kernel)
set_option maxRecDepth 100000 in
/-- GlacierMail.open -/
noncomputable def p2_s791 : ck_Sum := ((8, 2, 12), 245, [.inr (.inr (.inl 1)), .inl (ck_one 20)], ([], zl102, [(3, 6, 6, (0, 299, [(10, 0)]))]), ([(1, 15, 15), (11, 145, 146), (14, 3, 3), (15, 0, 71), (42, 1, 2), (44, 0, 7), (45, 3, 3), (46, 0, 55), (47, 3, 3), (48, 0, 23), (49, 3, 3), (50, 0, 23), (51, 3, 3), (52, 0, 167), (53, 3, 3), (54, 0, 35), (55, 3, 3), (56, 0, 71), (57, 0, 7), (58, 3, 3), (59, 0, 55), (60, 3, 3), (61, 0, 23), (62, 3, 3), (63, 0, 23), (64, 3, 3), (65, 0, 167), (66, 3, 3), (67, 0, 35), (68, 3, 3), (69, 0, 71), (70, 0, 7), (71, 3, 3), (72, 0, 55), (73, 3, 3), (74, 0, 23), (75, 3, 3), (76, 0, 23), (77, 3, 3), (78, 0, 167), (79, 3, 3), (80, 0, 35), (81, 3, 3), (82, 0, 71), (83, 0, 7), (84, 3, 3), (85, 0, 55), (86, 3, 3), (87, 0, 23), (88, 3, 3), (89, 0, 23), (90, 3, 3), (91, 0, 167), (92, 3, 3), (93, 0, 35), (94, 3, 3), (95, 0, 71), (96, 0, 7), (97, 3, 3), (98, 0, 55), (99, 3, 3), (100, 0, 23), (101, 3, 3), (102, 0, 23), (103, 3, 3), (104, 0, 167), (105, 3, 3), (106, 0, 35), (107, 3, 3), (108, 0, 71), (109, 0, 7), (110, 3, 3), (111, 0, 55), (112, 3, 3), (113, 0, 23), (114, 3, 3), (115, 0, 23), (116, 3, 3), (117, 0, 167), (118, 3, 3), (119, 0, 35), (120, 3, 3), (121, 0, 71), (122, 0, 7), (123, 3, 3), (124, 0, 55), (125, 3, 3), (126, 0, 23), (127, 3, 3), (128, 0, 23), (129, 3, 3), (130, 0, 167), (131, 3, 3), (132, 0, 35), (133, 3, 3), (134, 0, 71), (135, 0, 7), (136, 3, 3), (137, 0, 55), (138, 3, 3), (139, 0, 23), (140, 3, 3), (141, 0, 23), (142, 3, 3), (143, 0, 167), (144, 3, 3), (145, 0, 35), (146, 3, 3), (147, 0, 71), (148, 0, 7), (149, 3, 3), (150, 0, 55), (151, 3, 3), (152, 0, 23), (153, 3, 3), (154, 0, 23), (155, 3, 3), (156, 0, 167), (157, 3, 3), (158, 0, 35), (159, 3, 3), (160, 0, 71), (161, 0, 7), (162, 3, 3), (163, 0, 55), (164, 3, 3), (165, 0, 23), (166, 3, 3), (167, 0, 23), (168, 3, 3), (169, 0, 167), (170, 3, 3), (171, 0, 35), (172, 3, 3), (173, 0, 71), (174, 0, 7), (175, 3, 3), (176, 0, 55), (177, 3, 3), (178, 0, 23), (179, 3, 3), (180, 0, 23), (181, 3, 3), (182, 0, 167), (183, 3, 3), (184, 0, 35), (185, 3, 3), (186, 0, 71), (187, 0, 7), (188, 3, 3), (189, 0, 55), (190, 3, 3), (191, 0, 23), (192, 3, 3), (193, 0, 23), (194, 3, 3), (195, 0, 167), (196, 3, 3), (197, 0, 35), (198, 3, 3), (199, 0, 71), (206, 2, 8), (220, 3, 3), (221, 0, 47)], zl104), zl175)
set_option maxRecDepth 100000 in
theorem p2_s791_s {X : Int → Int} {LX : Nat} : ck_Ok p2_O X LX 158 p2_s791 := ck_ok_s (O := p2_O) (X := X) (LX := LX) (E := [(143, [p2_s783]), (24, [p2_s349]), (66, [p2_s785]), (154, [p2_s529]), (10, [p2_s335]), (159, [p2_s790])]) (mi := 158) (cuts := []) (f := 140) (S := p2_s791) (lx := none) (XF := []) ⟨p2_nmu, ck_E1 (ck_S1 p2_s783_s ck_S0) (ck_E1 (ck_S1 p2_s349_s ck_S0) (ck_E1 (ck_S1 p2_s785_s ck_S0) (ck_E1 (ck_S1 p2_s529_s ck_S0) (ck_E1 (ck_S1 p2_s335_s ck_S0) (ck_E1 (ck_S1 p2_s790_s ck_S0) ck_E0)))))⟩ ck_X0 ck_l0 (by decide +kernel)
set_option maxRecDepth 100000 in
/-- GlacierMail.need -/
noncomputable def p2_s792 : ck_Sum := ((6, 1, 6), 245, [.inr (.inr (.inl 1)), .inl (ck_one 21), .inl (0, 24, [])], ([], [], []), ([], []), [(.inr none, 245, ([], [], [])), (.inl 3, 245, ([], [], []))])
set_option maxRecDepth 100000 in
theorem p2_s792_s {X : Int → Int} {LX : Nat} : ck_Ok p2_O X LX 133 p2_s792 := ck_ok_s (O := p2_O) (X := X) (LX := LX) (E := []) (mi := 133) (cuts := []) (f := 82) (S := p2_s792) (lx := none) (XF := []) ⟨p2_nmu, ck_E0⟩ ck_X0 ck_l0 (by decide +kernel)
set_option maxRecDepth 100000 in
/-- GlacierMail.needLetter -/
noncomputable def p2_s793 : ck_Sum := ((7, 1, 6), 245, [.inr (.inr (.inl 1)), .inl (ck_one 21)], ([], [], []), ([], []), [(.inl 3, 245, ([], [], [])), (.inr none, 245, ([], [], []))])
set_option maxRecDepth 100000 in
theorem p2_s793_s {X : Int → Int} {LX : Nat} : ck_Ok p2_O X LX 143 p2_s793 := ck_ok_s (O := p2_O) (X := X) (LX := LX) (E := [(9, [p2_s331]), (133, [p2_s792])]) (mi := 143) (cuts := []) (f := 86) (S := p2_s793) (lx := none) (XF := []) ⟨p2_nmu, ck_E1 (ck_S1 p2_s331_s ck_S0) (ck_E1 (ck_S1 p2_s792_s ck_S0) ck_E0)⟩ ck_X0 ck_l0 (by decide +kernel)
set_option maxRecDepth 100000 in
/-- GlacierMail$State.isRock -/
noncomputable def p2_s794 : ck_Sum := ((1, 0, 0), 245, [.inr (.inr (.inl 3)), .inl (ck_one 21)], ([], [], []), ([], []), [(.inr (some (.inl (ck_one 0))), 245, ([], [], [])), (.inr (some (.inl (ck_one 1))), 245, ([], [], []))])
set_option maxRecDepth 100000 in
theorem p2_s794_s {X : Int → Int} {LX : Nat} : ck_Ok p2_O X LX 28 p2_s794 := ck_ok_s (O := p2_O) (X := X) (LX := LX) (E := [(10, [p2_s335])]) (mi := 28) (cuts := []) (f := 90) (S := p2_s794) (lx := none) (XF := []) ⟨p2_nmu, ck_E1 (ck_S1 p2_s335_s ck_S0) ck_E0⟩ ck_X0 ck_l0 (by decide +kernel)
set_option maxRecDepth 100000 in
/-- GlacierMail.waits -/
noncomputable def p2_s795 : ck_Sum := ((2, 0, 0), 245, [.inr (.inr (.inl 1)), .inl (ck_one 21)], ([], [], [(3, 6, 6, (0, 299, [(10, 0)]))]), ([], []), [(.inr (some (.inl (ck_one 0))), 245, ([], [], [])), (.inr (some (.inl (ck_one 1))), 245, ([], [], []))])
set_option maxRecDepth 100000 in
theorem p2_s795_s {X : Int → Int} {LX : Nat} : ck_Ok p2_O X LX 66 p2_s795 := ck_ok_s (O := p2_O) (X := X) (LX := LX) (E := [(28, [p2_s794]), (10, [p2_s335, p2_s350]), (67, [p2_s351])]) (mi := 66) (cuts := []) (f := 134) (S := p2_s795) (lx := none) (XF := []) ⟨p2_nmu, ck_E1 (ck_S1 p2_s794_s ck_S0) (ck_E1 (ck_S1 p2_s335_s (ck_S1 p2_s350_s ck_S0)) (ck_E1 (ck_S1 p2_s351_s ck_S0) ck_E0))⟩ ck_X0 ck_l0 (by decide +kernel)
set_option maxRecDepth 100000 in
/-- GlacierMail$Rows.put -/
noncomputable def p2_s796 : ck_Sum := ((0, 0, 0), 245, [.inr (.inr (.inl 10)), .inl (ck_one 21), .inl (ck_one 5), .inl ((-1), 299, [])], ([], [], []), ([(11, 152, 152)], []), [(.inr none, 245, ([], [], []))])
set_option maxRecDepth 100000 in
theorem p2_s796_s {X : Int → Int} {LX : Nat} : ck_Ok p2_O X LX 45 p2_s796 := ck_ok_s (O := p2_O) (X := X) (LX := LX) (E := []) (mi := 45) (cuts := []) (f := 116) (S := p2_s796) (lx := none) (XF := []) ⟨p2_nmu, ck_E0⟩ ck_X0 ck_l0 (by decide +kernel)
set_option maxRecDepth 100000 in
/-- GlacierMail$Rows.put -/
noncomputable def p2_s797 : ck_Sum := ((0, 0, 0), 245, [.inr (.inr (.inl 10)), .inl (ck_one 21), .inl (ck_one 6), .inl (0, 299, [])], ([], [], []), ([(11, 153, 153)], []), [(.inr none, 245, ([], [], []))])
set_option maxRecDepth 100000 in
theorem p2_s797_s {X : Int → Int} {LX : Nat} : ck_Ok p2_O X LX 45 p2_s797 := ck_ok_s (O := p2_O) (X := X) (LX := LX) (E := []) (mi := 45) (cuts := []) (f := 116) (S := p2_s797) (lx := none) (XF := []) ⟨p2_nmu, ck_E0⟩ ck_X0 ck_l0 (by decide +kernel)
set_option maxRecDepth 100000 in
/-- GlacierMail$Rows.put -/
noncomputable def p2_s798 : ck_Sum := ((0, 0, 0), 245, [.inr (.inr (.inl 14)), .inl (0, 23, []), .inl (ck_one 1), .inl (ck_one 21)], ([], [], []), (zl173, []), [(.inr none, 245, ([], [], []))])
set_option maxRecDepth 100000 in
theorem p2_s798_s {X : Int → Int} {LX : Nat} : ck_Ok p2_O X LX 45 p2_s798 := ck_ok_s (O := p2_O) (X := X) (LX := LX) (E := []) (mi := 45) (cuts := []) (f := 116) (S := p2_s798) (lx := none) (XF := []) ⟨p2_nmu, ck_E0⟩ ck_X0 ck_l0 (by decide +kernel)
set_option maxRecDepth 100000 in
/-- GlacierMail$Rows.put -/
noncomputable def p2_s799 : ck_Sum := ((0, 0, 0), 245, [.inr (.inr (.inl 14)), .inl (ck_one (-1)), .inl (ck_one 1), .inl (ck_one 21)], ([], [], []), ([], []), [(.inr none, 245, ([], [], []))])
set_option maxRecDepth 100000 in
theorem p2_s799_s {X : Int → Int} {LX : Nat} : ck_Ok p2_O X LX 45 p2_s799 := ck_ok_s (O := p2_O) (X := X) (LX := LX) (E := []) (mi := 45) (cuts := []) (f := 76) (S := p2_s799) (lx := none) (XF := []) ⟨p2_nmu, ck_E0⟩ ck_X0 ck_l0 (by decide +kernel)
set_option maxRecDepth 100000 in
/-- GlacierMail$State.openLetter -/
noncomputable def p2_s800 : ck_Sum := ((1, 0, 0), 245, [.inr (.inr (.inl 3)), .inl (ck_one 21), .inl ((-1), 299, [])], ([], [], [(3, 6, 6, (0, 299, [(10, 0)]))]), ([(11, 152, 153), (14, 3, 3), (15, 0, 71)], []), [(.inr none, 245, ([], [], [(14, 3, 3, (1, 24, []))]))])
set_option maxRecDepth 100000 in
theorem p2_s800_s {X : Int → Int} {LX : Nat} : ck_Ok p2_O X LX 159 p2_s800 := ck_ok_s (O := p2_O) (X := X) (LX := LX) (E := [(45, [p2_s796, p2_s797, p2_s583, p2_s798, p2_s585, p2_s586, p2_s799, p2_s588]), (102, [p2_s589])]) (mi := 159) (cuts := []) (f := 144) (S := p2_s800) (lx := none) (XF := []) ⟨p2_nmu, ck_E1 (ck_S1 p2_s796_s (ck_S1 p2_s797_s (ck_S1 p2_s583_s (ck_S1 p2_s798_s (ck_S1 p2_s585_s (ck_S1 p2_s586_s (ck_S1 p2_s799_s (ck_S1 p2_s588_s ck_S0)))))))) (ck_E1 (ck_S1 p2_s589_s ck_S0) ck_E0)⟩ ck_X0 ck_l0 (by decide +kernel)
set_option maxRecDepth 100000 in
/-- GlacierMail.open -/
noncomputable def p2_s801 : ck_Sum := ((8, 2, 12), 245, [.inr (.inr (.inl 1)), .inl (ck_one 21)], ([], zl102, [(3, 6, 6, (0, 299, [(10, 0)]))]), ([(1, 15, 15), (11, 152, 153), (14, 3, 3), (15, 0, 71), (42, 1, 2), (44, 0, 7), (45, 3, 3), (46, 0, 55), (47, 3, 3), (48, 0, 23), (49, 3, 3), (50, 0, 23), (51, 3, 3), (52, 0, 167), (53, 3, 3), (54, 0, 35), (55, 3, 3), (56, 0, 71), (57, 0, 7), (58, 3, 3), (59, 0, 55), (60, 3, 3), (61, 0, 23), (62, 3, 3), (63, 0, 23), (64, 3, 3), (65, 0, 167), (66, 3, 3), (67, 0, 35), (68, 3, 3), (69, 0, 71), (70, 0, 7), (71, 3, 3), (72, 0, 55), (73, 3, 3), (74, 0, 23), (75, 3, 3), (76, 0, 23), (77, 3, 3), (78, 0, 167), (79, 3, 3), (80, 0, 35), (81, 3, 3), (82, 0, 71), (83, 0, 7), (84, 3, 3), (85, 0, 55), (86, 3, 3), (87, 0, 23), (88, 3, 3), (89, 0, 23), (90, 3, 3), (91, 0, 167), (92, 3, 3), (93, 0, 35), (94, 3, 3), (95, 0, 71), (96, 0, 7), (97, 3, 3), (98, 0, 55), (99, 3, 3), (100, 0, 23), (101, 3, 3), (102, 0, 23), (103, 3, 3), (104, 0, 167), (105, 3, 3), (106, 0, 35), (107, 3, 3), (108, 0, 71), (109, 0, 7), (110, 3, 3), (111, 0, 55), (112, 3, 3), (113, 0, 23), (114, 3, 3), (115, 0, 23), (116, 3, 3), (117, 0, 167), (118, 3, 3), (119, 0, 35), (120, 3, 3), (121, 0, 71), (122, 0, 7), (123, 3, 3), (124, 0, 55), (125, 3, 3), (126, 0, 23), (127, 3, 3), (128, 0, 23), (129, 3, 3), (130, 0, 167), (131, 3, 3), (132, 0, 35), (133, 3, 3), (134, 0, 71), (135, 0, 7), (136, 3, 3), (137, 0, 55), (138, 3, 3), (139, 0, 23), (140, 3, 3), (141, 0, 23), (142, 3, 3), (143, 0, 167), (144, 3, 3), (145, 0, 35), (146, 3, 3), (147, 0, 71), (148, 0, 7), (149, 3, 3), (150, 0, 55), (151, 3, 3), (152, 0, 23), (153, 3, 3), (154, 0, 23), (155, 3, 3), (156, 0, 167), (157, 3, 3), (158, 0, 35), (159, 3, 3), (160, 0, 71), (161, 0, 7), (162, 3, 3), (163, 0, 55), (164, 3, 3), (165, 0, 23), (166, 3, 3), (167, 0, 23), (168, 3, 3), (169, 0, 167), (170, 3, 3), (171, 0, 35), (172, 3, 3), (173, 0, 71), (174, 0, 7), (175, 3, 3), (176, 0, 55), (177, 3, 3), (178, 0, 23), (179, 3, 3), (180, 0, 23), (181, 3, 3), (182, 0, 167), (183, 3, 3), (184, 0, 35), (185, 3, 3), (186, 0, 71), (187, 0, 7), (188, 3, 3), (189, 0, 55), (190, 3, 3), (191, 0, 23), (192, 3, 3), (193, 0, 23), (194, 3, 3), (195, 0, 167), (196, 3, 3), (197, 0, 35), (198, 3, 3), (199, 0, 71), (206, 2, 8), (220, 3, 3), (221, 0, 47)], zl104), zl175)
set_option maxRecDepth 100000 in
theorem p2_s801_s {X : Int → Int} {LX : Nat} : ck_Ok p2_O X LX 158 p2_s801 := ck_ok_s (O := p2_O) (X := X) (LX := LX) (E := [(143, [p2_s793]), (24, [p2_s349]), (66, [p2_s795]), (154, [p2_s529]), (10, [p2_s335]), (159, [p2_s800])]) (mi := 158) (cuts := []) (f := 140) (S := p2_s801) (lx := none) (XF := []) ⟨p2_nmu, ck_E1 (ck_S1 p2_s793_s ck_S0) (ck_E1 (ck_S1 p2_s349_s ck_S0) (ck_E1 (ck_S1 p2_s795_s ck_S0) (ck_E1 (ck_S1 p2_s529_s ck_S0) (ck_E1 (ck_S1 p2_s335_s ck_S0) (ck_E1 (ck_S1 p2_s800_s ck_S0) ck_E0)))))⟩ ck_X0 ck_l0 (by decide +kernel)
set_option maxRecDepth 100000 in
/-- GlacierMail.need -/
noncomputable def p2_s802 : ck_Sum := ((6, 1, 6), 245, [.inr (.inr (.inl 1)), .inl (ck_one 22), .inl (0, 24, [])], ([], [], []), ([], []), [(.inr none, 245, ([], [], [])), (.inl 3, 245, ([], [], []))])
set_option maxRecDepth 100000 in
theorem p2_s802_s {X : Int → Int} {LX : Nat} : ck_Ok p2_O X LX 133 p2_s802 := ck_ok_s (O := p2_O) (X := X) (LX := LX) (E := []) (mi := 133) (cuts := []) (f := 82) (S := p2_s802) (lx := none) (XF := []) ⟨p2_nmu, ck_E0⟩ ck_X0 ck_l0 (by decide +kernel)
set_option maxRecDepth 100000 in
/-- GlacierMail.needLetter -/
noncomputable def p2_s803 : ck_Sum := ((7, 1, 6), 245, [.inr (.inr (.inl 1)), .inl (ck_one 22)], ([], [], []), ([], []), [(.inl 3, 245, ([], [], [])), (.inr none, 245, ([], [], []))])
set_option maxRecDepth 100000 in
theorem p2_s803_s {X : Int → Int} {LX : Nat} : ck_Ok p2_O X LX 143 p2_s803 := ck_ok_s (O := p2_O) (X := X) (LX := LX) (E := [(9, [p2_s331]), (133, [p2_s802])]) (mi := 143) (cuts := []) (f := 86) (S := p2_s803) (lx := none) (XF := []) ⟨p2_nmu, ck_E1 (ck_S1 p2_s331_s ck_S0) (ck_E1 (ck_S1 p2_s802_s ck_S0) ck_E0)⟩ ck_X0 ck_l0 (by decide +kernel)
set_option maxRecDepth 100000 in
/-- GlacierMail$State.isRock -/
noncomputable def p2_s804 : ck_Sum := ((1, 0, 0), 245, [.inr (.inr (.inl 3)), .inl (ck_one 22)], ([], [], []), ([], []), [(.inr (some (.inl (ck_one 0))), 245, ([], [], [])), (.inr (some (.inl (ck_one 1))), 245, ([], [], []))])
set_option maxRecDepth 100000 in
theorem p2_s804_s {X : Int → Int} {LX : Nat} : ck_Ok p2_O X LX 28 p2_s804 := ck_ok_s (O := p2_O) (X := X) (LX := LX) (E := [(10, [p2_s335])]) (mi := 28) (cuts := []) (f := 90) (S := p2_s804) (lx := none) (XF := []) ⟨p2_nmu, ck_E1 (ck_S1 p2_s335_s ck_S0) ck_E0⟩ ck_X0 ck_l0 (by decide +kernel)
set_option maxRecDepth 100000 in
/-- GlacierMail.waits -/
noncomputable def p2_s805 : ck_Sum := ((2, 0, 0), 245, [.inr (.inr (.inl 1)), .inl (ck_one 22)], ([], [], [(3, 6, 6, (0, 299, [(10, 0)]))]), ([], []), [(.inr (some (.inl (ck_one 0))), 245, ([], [], [])), (.inr (some (.inl (ck_one 1))), 245, ([], [], []))])
set_option maxRecDepth 100000 in
theorem p2_s805_s {X : Int → Int} {LX : Nat} : ck_Ok p2_O X LX 66 p2_s805 := ck_ok_s (O := p2_O) (X := X) (LX := LX) (E := [(28, [p2_s804]), (10, [p2_s335, p2_s350]), (67, [p2_s351])]) (mi := 66) (cuts := []) (f := 134) (S := p2_s805) (lx := none) (XF := []) ⟨p2_nmu, ck_E1 (ck_S1 p2_s804_s ck_S0) (ck_E1 (ck_S1 p2_s335_s (ck_S1 p2_s350_s ck_S0)) (ck_E1 (ck_S1 p2_s351_s ck_S0) ck_E0))⟩ ck_X0 ck_l0 (by decide +kernel)
set_option maxRecDepth 100000 in
/-- GlacierMail$Rows.put -/
noncomputable def p2_s806 : ck_Sum := ((0, 0, 0), 245, [.inr (.inr (.inl 10)), .inl (ck_one 22), .inl (ck_one 5), .inl ((-1), 299, [])], ([], [], []), ([(11, 159, 159)], []), [(.inr none, 245, ([], [], []))])
set_option maxRecDepth 100000 in
theorem p2_s806_s {X : Int → Int} {LX : Nat} : ck_Ok p2_O X LX 45 p2_s806 := ck_ok_s (O := p2_O) (X := X) (LX := LX) (E := []) (mi := 45) (cuts := []) (f := 116) (S := p2_s806) (lx := none) (XF := []) ⟨p2_nmu, ck_E0⟩ ck_X0 ck_l0 (by decide +kernel)
set_option maxRecDepth 100000 in
/-- GlacierMail$Rows.put -/
noncomputable def p2_s807 : ck_Sum := ((0, 0, 0), 245, [.inr (.inr (.inl 10)), .inl (ck_one 22), .inl (ck_one 6), .inl (0, 299, [])], ([], [], []), ([(11, 160, 160)], []), [(.inr none, 245, ([], [], []))])
set_option maxRecDepth 100000 in
theorem p2_s807_s {X : Int → Int} {LX : Nat} : ck_Ok p2_O X LX 45 p2_s807 := ck_ok_s (O := p2_O) (X := X) (LX := LX) (E := []) (mi := 45) (cuts := []) (f := 116) (S := p2_s807) (lx := none) (XF := []) ⟨p2_nmu, ck_E0⟩ ck_X0 ck_l0 (by decide +kernel)
set_option maxRecDepth 100000 in
/-- GlacierMail$Rows.put -/
noncomputable def p2_s808 : ck_Sum := ((0, 0, 0), 245, [.inr (.inr (.inl 14)), .inl (0, 23, []), .inl (ck_one 1), .inl (ck_one 22)], ([], [], []), (zl173, []), [(.inr none, 245, ([], [], []))])
set_option maxRecDepth 100000 in
theorem p2_s808_s {X : Int → Int} {LX : Nat} : ck_Ok p2_O X LX 45 p2_s808 := ck_ok_s (O := p2_O) (X := X) (LX := LX) (E := []) (mi := 45) (cuts := []) (f := 116) (S := p2_s808) (lx := none) (XF := []) ⟨p2_nmu, ck_E0⟩ ck_X0 ck_l0 (by decide +kernel)
set_option maxRecDepth 100000 in
/-- GlacierMail$Rows.put -/
noncomputable def p2_s809 : ck_Sum := ((0, 0, 0), 245, [.inr (.inr (.inl 14)), .inl (ck_one (-1)), .inl (ck_one 1), .inl (ck_one 22)], ([], [], []), ([], []), [(.inr none, 245, ([], [], []))])
set_option maxRecDepth 100000 in
theorem p2_s809_s {X : Int → Int} {LX : Nat} : ck_Ok p2_O X LX 45 p2_s809 := ck_ok_s (O := p2_O) (X := X) (LX := LX) (E := []) (mi := 45) (cuts := []) (f := 76) (S := p2_s809) (lx := none) (XF := []) ⟨p2_nmu, ck_E0⟩ ck_X0 ck_l0 (by decide +kernel)
set_option maxRecDepth 100000 in
/-- GlacierMail$State.openLetter -/
noncomputable def p2_s810 : ck_Sum := ((1, 0, 0), 245, [.inr (.inr (.inl 3)), .inl (ck_one 22), .inl ((-1), 299, [])], ([], [], [(3, 6, 6, (0, 299, [(10, 0)]))]), ([(11, 159, 160), (14, 3, 3), (15, 0, 71)], []), [(.inr none, 245, ([], [], [(14, 3, 3, (1, 24, []))]))])
set_option maxRecDepth 100000 in
theorem p2_s810_s {X : Int → Int} {LX : Nat} : ck_Ok p2_O X LX 159 p2_s810 := ck_ok_s (O := p2_O) (X := X) (LX := LX) (E := [(45, [p2_s806, p2_s807, p2_s583, p2_s808, p2_s585, p2_s586, p2_s809, p2_s588]), (102, [p2_s589])]) (mi := 159) (cuts := []) (f := 144) (S := p2_s810) (lx := none) (XF := []) ⟨p2_nmu, ck_E1 (ck_S1 p2_s806_s (ck_S1 p2_s807_s (ck_S1 p2_s583_s (ck_S1 p2_s808_s (ck_S1 p2_s585_s (ck_S1 p2_s586_s (ck_S1 p2_s809_s (ck_S1 p2_s588_s ck_S0)))))))) (ck_E1 (ck_S1 p2_s589_s ck_S0) ck_E0)⟩ ck_X0 ck_l0 (by decide +kernel)
