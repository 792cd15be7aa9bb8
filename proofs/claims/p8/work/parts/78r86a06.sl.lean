/-! 78r86a06.sl -/
section
/-! EVERY CALL OF THE CLASS ENDS, under a law (laid by wip/am/p2l.py). -/
set_option maxRecDepth 100000 in
/-- GlacierMail$Rows.put -/
noncomputable def pl_s541 : ck_Sum := ((0, 0, 0), 249, [.inr (.inr (.inl 14)), .inl (0, 23, []), .inl (ck_one 1), .inl (ck_one 16)], ([], [], []), (zl173, []), [(.inr none, 249, ([], [], []))])
set_option maxRecDepth 100000 in
theorem pl_s541_s {X : Int → Int} {LX : Nat} : ck_Ok p2_OL X LX 45 pl_s541 := ck_ok_s (O := p2_OL) (X := X) (LX := LX) (E := []) (mi := 45) (cuts := []) (f := 116) (S := pl_s541) (lx := none) (XF := []) ⟨pl_nmu, ck_E0⟩ ck_X0 ck_l0 (by decide +kernel)
set_option maxRecDepth 100000 in
/-- GlacierMail$Rows.put -/
noncomputable def pl_s542 : ck_Sum := ((0, 0, 0), 249, [.inr (.inr (.inl 14)), .inl (ck_one (-1)), .inl (ck_one 1), .inl (ck_one 16)], ([], [], []), ([], []), [(.inr none, 249, ([], [], []))])
set_option maxRecDepth 100000 in
theorem pl_s542_s {X : Int → Int} {LX : Nat} : ck_Ok p2_OL X LX 45 pl_s542 := ck_ok_s (O := p2_OL) (X := X) (LX := LX) (E := []) (mi := 45) (cuts := []) (f := 76) (S := pl_s542) (lx := none) (XF := []) ⟨pl_nmu, ck_E0⟩ ck_X0 ck_l0 (by decide +kernel)
set_option maxRecDepth 100000 in
/-- GlacierMail$State.openLetter -/
noncomputable def pl_s543 : ck_Sum := ((1, 0, 0), 249, [.inr (.inr (.inl 3)), .inl (ck_one 16), .inl ((-1), 299, [])], ([], [], [(3, 6, 6, (0, 299, [(10, 0)]))]), ([(11, 117, 118), (14, 3, 3), (15, 0, 71)], []), [(.inr none, 249, ([], [], [(14, 3, 3, (1, 24, []))]))])
set_option maxRecDepth 100000 in
theorem pl_s543_s {X : Int → Int} {LX : Nat} : ck_Ok p2_OL X LX 159 pl_s543 := ck_ok_s (O := p2_OL) (X := X) (LX := LX) (E := [(45, [pl_s539, pl_s540, pl_s376, pl_s541, pl_s378, pl_s379, pl_s542, pl_s381]), (102, [pl_s382])]) (mi := 159) (cuts := []) (f := 144) (S := pl_s543) (lx := none) (XF := []) ⟨pl_nmu, ck_E1 (ck_S1 pl_s539_s (ck_S1 pl_s540_s (ck_S1 pl_s376_s (ck_S1 pl_s541_s (ck_S1 pl_s378_s (ck_S1 pl_s379_s (ck_S1 pl_s542_s (ck_S1 pl_s381_s ck_S0)))))))) (ck_E1 (ck_S1 pl_s382_s ck_S0) ck_E0)⟩ ck_X0 ck_l0 (by decide +kernel)
set_option maxRecDepth 100000 in
/-- GlacierMail.open -/
noncomputable def pl_s544 : ck_Sum := ((8, 2, 12), 249, [.inr (.inr (.inl 1)), .inl (ck_one 16)], ([], zl230, [(3, 6, 6, (0, 299, [(10, 0)]))]), ([(1, 15, 15), (11, 117, 118), (14, 3, 3), (15, 0, 71), (42, 1, 2), (44, 0, 7), (45, 3, 3), (46, 0, 55), (47, 3, 3), (48, 0, 23), (49, 3, 3), (50, 0, 23), (51, 3, 3), (52, 0, 167), (53, 3, 3), (54, 0, 35), (55, 3, 3), (56, 0, 71), (57, 0, 7), (58, 3, 3), (59, 0, 55), (60, 3, 3), (61, 0, 23), (62, 3, 3), (63, 0, 23), (64, 3, 3), (65, 0, 167), (66, 3, 3), (67, 0, 35), (68, 3, 3), (69, 0, 71), (70, 0, 7), (71, 3, 3), (72, 0, 55), (73, 3, 3), (74, 0, 23), (75, 3, 3), (76, 0, 23), (77, 3, 3), (78, 0, 167), (79, 3, 3), (80, 0, 35), (81, 3, 3), (82, 0, 71), (83, 0, 7), (84, 3, 3), (85, 0, 55), (86, 3, 3), (87, 0, 23), (88, 3, 3), (89, 0, 23), (90, 3, 3), (91, 0, 167), (92, 3, 3), (93, 0, 35), (94, 3, 3), (95, 0, 71), (96, 0, 7), (97, 3, 3), (98, 0, 55), (99, 3, 3), (100, 0, 23), (101, 3, 3), (102, 0, 23), (103, 3, 3), (104, 0, 167), (105, 3, 3), (106, 0, 35), (107, 3, 3), (108, 0, 71), (109, 0, 7), (110, 3, 3), (111, 0, 55), (112, 3, 3), (113, 0, 23), (114, 3, 3), (115, 0, 23), (116, 3, 3), (117, 0, 167), (118, 3, 3), (119, 0, 35), (120, 3, 3), (121, 0, 71), (122, 0, 7), (123, 3, 3), (124, 0, 55), (125, 3, 3), (126, 0, 23), (127, 3, 3), (128, 0, 23), (129, 3, 3), (130, 0, 167), (131, 3, 3), (132, 0, 35), (133, 3, 3), (134, 0, 71), (135, 0, 7), (136, 3, 3), (137, 0, 55), (138, 3, 3), (139, 0, 23), (140, 3, 3), (141, 0, 23), (142, 3, 3), (143, 0, 167), (144, 3, 3), (145, 0, 35), (146, 3, 3), (147, 0, 71), (148, 0, 7), (149, 3, 3), (150, 0, 55), (151, 3, 3), (152, 0, 23), (153, 3, 3), (154, 0, 23), (155, 3, 3), (156, 0, 167), (157, 3, 3), (158, 0, 35), (159, 3, 3), (160, 0, 71), (161, 0, 7), (162, 3, 3), (163, 0, 55), (164, 3, 3), (165, 0, 23), (166, 3, 3), (167, 0, 23), (168, 3, 3), (169, 0, 167), (170, 3, 3), (171, 0, 35), (172, 3, 3), (173, 0, 71), (174, 0, 7), (175, 3, 3), (176, 0, 55), (177, 3, 3), (178, 0, 23), (179, 3, 3), (180, 0, 23), (181, 3, 3), (182, 0, 167), (183, 3, 3), (184, 0, 35), (185, 3, 3), (186, 0, 71), (187, 0, 7), (188, 3, 3), (189, 0, 55), (190, 3, 3), (191, 0, 23), (192, 3, 3), (193, 0, 23), (194, 3, 3), (195, 0, 167), (196, 3, 3), (197, 0, 35), (198, 3, 3), (199, 0, 71), (200, 6, 6), (204, 0, 9), (205, 0, 14849), (206, 2, 8), (220, 3, 3), (221, 0, 47)], zl104), zl245)
set_option maxRecDepth 100000 in
theorem pl_s544_s {X : Int → Int} {LX : Nat} : ck_Ok p2_OL X LX 158 pl_s544 := ck_ok_s (O := p2_OL) (X := X) (LX := LX) (E := [(143, [pl_s536]), (24, [pl_s217]), (66, [pl_s538]), (154, [pl_s341]), (10, [pl_s204]), (159, [pl_s543])]) (mi := 158) (cuts := []) (f := 140) (S := pl_s544) (lx := none) (XF := []) ⟨pl_nmu, ck_E1 (ck_S1 pl_s536_s ck_S0) (ck_E1 (ck_S1 pl_s217_s ck_S0) (ck_E1 (ck_S1 pl_s538_s ck_S0) (ck_E1 (ck_S1 pl_s341_s ck_S0) (ck_E1 (ck_S1 pl_s204_s ck_S0) (ck_E1 (ck_S1 pl_s543_s ck_S0) ck_E0)))))⟩ ck_X0 ck_l0 (by decide +kernel)
set_option maxRecDepth 100000 in
/-- GlacierMail.need -/
noncomputable def pl_s545 : ck_Sum := ((6, 1, 6), 249, [.inr (.inr (.inl 1)), .inl (ck_one 17), .inl (0, 24, [])], ([], [], []), ([], []), [(.inr none, 249, ([], [], [])), (.inl 3, 249, ([], [], []))])
set_option maxRecDepth 100000 in
theorem pl_s545_s {X : Int → Int} {LX : Nat} : ck_Ok p2_OL X LX 133 pl_s545 := ck_ok_s (O := p2_OL) (X := X) (LX := LX) (E := []) (mi := 133) (cuts := []) (f := 82) (S := pl_s545) (lx := none) (XF := []) ⟨pl_nmu, ck_E0⟩ ck_X0 ck_l0 (by decide +kernel)
set_option maxRecDepth 100000 in
/-- GlacierMail.needLetter -/
noncomputable def pl_s546 : ck_Sum := ((7, 1, 6), 249, [.inr (.inr (.inl 1)), .inl (ck_one 17)], ([], [], []), ([], []), [(.inl 3, 249, ([], [], [])), (.inr none, 249, ([], [], []))])
set_option maxRecDepth 100000 in
theorem pl_s546_s {X : Int → Int} {LX : Nat} : ck_Ok p2_OL X LX 143 pl_s546 := ck_ok_s (O := p2_OL) (X := X) (LX := LX) (E := [(9, [pl_s200]), (133, [pl_s545])]) (mi := 143) (cuts := []) (f := 86) (S := pl_s546) (lx := none) (XF := []) ⟨pl_nmu, ck_E1 (ck_S1 pl_s200_s ck_S0) (ck_E1 (ck_S1 pl_s545_s ck_S0) ck_E0)⟩ ck_X0 ck_l0 (by decide +kernel)
set_option maxRecDepth 100000 in
/-- GlacierMail$State.isRock -/
noncomputable def pl_s547 : ck_Sum := ((1, 0, 0), 249, [.inr (.inr (.inl 3)), .inl (ck_one 17)], ([], [], []), ([], []), [(.inr (some (.inl (ck_one 0))), 249, ([], [], [])), (.inr (some (.inl (ck_one 1))), 249, ([], [], []))])
set_option maxRecDepth 100000 in
theorem pl_s547_s {X : Int → Int} {LX : Nat} : ck_Ok p2_OL X LX 28 pl_s547 := ck_ok_s (O := p2_OL) (X := X) (LX := LX) (E := [(10, [pl_s204])]) (mi := 28) (cuts := []) (f := 90) (S := pl_s547) (lx := none) (XF := []) ⟨pl_nmu, ck_E1 (ck_S1 pl_s204_s ck_S0) ck_E0⟩ ck_X0 ck_l0 (by decide +kernel)
set_option maxRecDepth 100000 in
/-- GlacierMail.waits -/
noncomputable def pl_s548 : ck_Sum := ((2, 0, 0), 249, [.inr (.inr (.inl 1)), .inl (ck_one 17)], ([], [], [(3, 6, 6, (0, 299, [(10, 0)]))]), ([], []), [(.inr (some (.inl (ck_one 0))), 249, ([], [], [])), (.inr (some (.inl (ck_one 1))), 249, ([], [], []))])
set_option maxRecDepth 100000 in
theorem pl_s548_s {X : Int → Int} {LX : Nat} : ck_Ok p2_OL X LX 66 pl_s548 := ck_ok_s (O := p2_OL) (X := X) (LX := LX) (E := [(28, [pl_s547]), (10, [pl_s204, pl_s218]), (67, [pl_s219])]) (mi := 66) (cuts := []) (f := 134) (S := pl_s548) (lx := none) (XF := []) ⟨pl_nmu, ck_E1 (ck_S1 pl_s547_s ck_S0) (ck_E1 (ck_S1 pl_s204_s (ck_S1 pl_s218_s ck_S0)) (ck_E1 (ck_S1 pl_s219_s ck_S0) ck_E0))⟩ ck_X0 ck_l0 (by decide +kernel)
set_option maxRecDepth 100000 in
/-- GlacierMail$Rows.put -/
noncomputable def pl_s549 : ck_Sum := ((0, 0, 0), 249, [.inr (.inr (.inl 10)), .inl (ck_one 17), .inl (ck_one 5), .inl ((-1), 299, [])], ([], [], []), ([(11, 124, 124)], []), [(.inr none, 249, ([], [], []))])
set_option maxRecDepth 100000 in
theorem pl_s549_s {X : Int → Int} {LX : Nat} : ck_Ok p2_OL X LX 45 pl_s549 := ck_ok_s (O := p2_OL) (X := X) (LX := LX) (E := []) (mi := 45) (cuts := []) (f := 116) (S := pl_s549) (lx := none) (XF := []) ⟨pl_nmu, ck_E0⟩ ck_X0 ck_l0 (by decide +kernel)
set_option maxRecDepth 100000 in
/-- GlacierMail$Rows.put -/
noncomputable def pl_s550 : ck_Sum := ((0, 0, 0), 249, [.inr (.inr (.inl 10)), .inl (ck_one 17), .inl (ck_one 6), .inl (0, 299, [])], ([], [], []), ([(11, 125, 125)], []), [(.inr none, 249, ([], [], []))])
set_option maxRecDepth 100000 in
theorem pl_s550_s {X : Int → Int} {LX : Nat} : ck_Ok p2_OL X LX 45 pl_s550 := ck_ok_s (O := p2_OL) (X := X) (LX := LX) (E := []) (mi := 45) (cuts := []) (f := 116) (S := pl_s550) (lx := none) (XF := []) ⟨pl_nmu, ck_E0⟩ ck_X0 ck_l0 (by decide +kernel)
set_option maxRecDepth 100000 in
/-- GlacierMail$Rows.put -/
noncomputable def pl_s551 : ck_Sum := ((0, 0, 0), 249, [.inr (.inr (.inl 14)), .inl (0, 23, []), .inl (ck_one 1), .inl (ck_one 17)], ([], [], []), (zl173, []), [(.inr none, 249, ([], [], []))])
set_option maxRecDepth 100000 in
theorem pl_s551_s {X : Int → Int} {LX : Nat} : ck_Ok p2_OL X LX 45 pl_s551 := ck_ok_s (O := p2_OL) (X := X) (LX := LX) (E := []) (mi := 45) (cuts := []) (f := 116) (S := pl_s551) (lx := none) (XF := []) ⟨pl_nmu, ck_E0⟩ ck_X0 ck_l0 (by decide +kernel)
set_option maxRecDepth 100000 in
/-- GlacierMail$Rows.put -/
noncomputable def pl_s552 : ck_Sum := ((0, 0, 0), 249, [.inr (.inr (.inl 14)), .inl (ck_one (-1)), .inl (ck_one 1), .inl (ck_one 17)], ([], [], []), ([], []), [(.inr none, 249, ([], [], []))])
set_option maxRecDepth 100000 in
theorem pl_s552_s {X : Int → Int} {LX : Nat} : ck_Ok p2_OL X LX 45 pl_s552 := ck_ok_s (O := p2_OL) (X := X) (LX := LX) (E := []) (mi := 45) (cuts := []) (f := 76) (S := pl_s552) (lx := none) (XF := []) ⟨pl_nmu, ck_E0⟩ ck_X0 ck_l0 (by decide +kernel)
set_option maxRecDepth 100000 in
/-- GlacierMail$State.openLetter -/
noncomputable def pl_s553 : ck_Sum := ((1, 0, 0), 249, [.inr (.inr (.inl 3)), .inl (ck_one 17), .inl ((-1), 299, [])], ([], [], [(3, 6, 6, (0, 299, [(10, 0)]))]), ([(11, 124, 125), (14, 3, 3), (15, 0, 71)], []), [(.inr none, 249, ([], [], [(14, 3, 3, (1, 24, []))]))])
set_option maxRecDepth 100000 in
theorem pl_s553_s {X : Int → Int} {LX : Nat} : ck_Ok p2_OL X LX 159 pl_s553 := ck_ok_s (O := p2_OL) (X := X) (LX := LX) (E := [(45, [pl_s549, pl_s550, pl_s376, pl_s551, pl_s378, pl_s379, pl_s552, pl_s381]), (102, [pl_s382])]) (mi := 159) (cuts := []) (f := 144) (S := pl_s553) (lx := none) (XF := []) ⟨pl_nmu, ck_E1 (ck_S1 pl_s549_s (ck_S1 pl_s550_s (ck_S1 pl_s376_s (ck_S1 pl_s551_s (ck_S1 pl_s378_s (ck_S1 pl_s379_s (ck_S1 pl_s552_s (ck_S1 pl_s381_s ck_S0)))))))) (ck_E1 (ck_S1 pl_s382_s ck_S0) ck_E0)⟩ ck_X0 ck_l0 (by decide +kernel)
set_option maxRecDepth 100000 in
/-- GlacierMail.open -/
noncomputable def pl_s554 : ck_Sum := ((8, 2, 12), 249, [.inr (.inr (.inl 1)), .inl (ck_one 17)], ([], zl230, [(3, 6, 6, (0, 299, [(10, 0)]))]), ([(1, 15, 15), (11, 124, 125), (14, 3, 3), (15, 0, 71), (42, 1, 2), (44, 0, 7), (45, 3, 3), (46, 0, 55), (47, 3, 3), (48, 0, 23), (49, 3, 3), (50, 0, 23), (51, 3, 3), (52, 0, 167), (53, 3, 3), (54, 0, 35), (55, 3, 3), (56, 0, 71), (57, 0, 7), (58, 3, 3), (59, 0, 55), (60, 3, 3), (61, 0, 23), (62, 3, 3), (63, 0, 23), (64, 3, 3), (65, 0, 167), (66, 3, 3), (67, 0, 35), (68, 3, 3), (69, 0, 71), (70, 0, 7), (71, 3, 3), (72, 0, 55), (73, 3, 3), (74, 0, 23), (75, 3, 3), (76, 0, 23), (77, 3, 3), (78, 0, 167), (79, 3, 3), (80, 0, 35), (81, 3, 3), (82, 0, 71), (83, 0, 7), (84, 3, 3), (85, 0, 55), (86, 3, 3), (87, 0, 23), (88, 3, 3), (89, 0, 23), (90, 3, 3), (91, 0, 167), (92, 3, 3), (93, 0, 35), (94, 3, 3), (95, 0, 71), (96, 0, 7), (97, 3, 3), (98, 0, 55), (99, 3, 3), (100, 0, 23), (101, 3, 3), (102, 0, 23), (103, 3, 3), (104, 0, 167), (105, 3, 3), (106, 0, 35), (107, 3, 3), (108, 0, 71), (109, 0, 7), (110, 3, 3), (111, 0, 55), (112, 3, 3), (113, 0, 23), (114, 3, 3), (115, 0, 23), (116, 3, 3), (117, 0, 167), (118, 3, 3), (119, 0, 35), (120, 3, 3), (121, 0, 71), (122, 0, 7), (123, 3, 3), (124, 0, 55), (125, 3, 3), (126, 0, 23), (127, 3, 3), (128, 0, 23), (129, 3, 3), (130, 0, 167), (131, 3, 3), (132, 0, 35), (133, 3, 3), (134, 0, 71), (135, 0, 7), (136, 3, 3), (137, 0, 55), (138, 3, 3), (139, 0, 23), (140, 3, 3), (141, 0, 23), (142, 3, 3), (143, 0, 167), (144, 3, 3), (145, 0, 35), (146, 3, 3), (147, 0, 71), (148, 0, 7), (149, 3, 3), (150, 0, 55), (151, 3, 3), (152, 0, 23), (153, 3, 3), (154, 0, 23), (155, 3, 3), (156, 0, 167), (157, 3, 3), (158, 0, 35), (159, 3, 3), (160, 0, 71), (161, 0, 7), (162, 3, 3), (163, 0, 55), (164, 3, 3), (165, 0, 23), (166, 3, 3), (167, 0, 23), (168, 3, 3), (169, 0, 167), (170, 3, 3), (171, 0, 35), (172, 3, 3), (173, 0, 71), (174, 0, 7), (175, 3, 3), (176, 0, 55), (177, 3, 3), (178, 0, 23), (179, 3, 3), (180, 0, 23), (181, 3, 3), (182, 0, 167), (183, 3, 3), (184, 0, 35), (185, 3, 3), (186, 0, 71), (187, 0, 7), (188, 3, 3), (189, 0, 55), (190, 3, 3), (191, 0, 23), (192, 3, 3), (193, 0, 23), (194, 3, 3), (195, 0, 167), (196, 3, 3), (197, 0, 35), (198, 3, 3), (199, 0, 71), (200, 6, 6), (204, 0, 9), (205, 0, 14849), (206, 2, 8), (220, 3, 3), (221, 0, 47)], zl104), zl245)
set_option maxRecDepth 100000 in
theorem pl_s554_s {X : Int → Int} {LX : Nat} : ck_Ok p2_OL X LX 158 pl_s554 := ck_ok_s (O := p2_OL) (X := X) (LX := LX) (E := [(143, [pl_s546]), (24, [pl_s217]), (66, [pl_s548]), (154, [pl_s341]), (10, [pl_s204]), (159, [pl_s553])]) (mi := 158) (cuts := []) (f := 140) (S := pl_s554) (lx := none) (XF := []) ⟨pl_nmu, ck_E1 (ck_S1 pl_s546_s ck_S0) (ck_E1 (ck_S1 pl_s217_s ck_S0) (ck_E1 (ck_S1 pl_s548_s ck_S0) (ck_E1 (ck_S1 pl_s341_s ck_S0) (ck_E1 (ck_S1 pl_s204_s ck_S0) (ck_E1 (ck_S1 pl_s553_s ck_S0) ck_E0)))))⟩ ck_X0 ck_l0 (by decide +kernel)
set_option maxRecDepth 100000 in
/-- GlacierMail.need -/
noncomputable def pl_s555 : ck_Sum := ((6, 1, 6), 249, [.inr (.inr (.inl 1)), .inl (ck_one 18), .inl (0, 24, [])], ([], [], []), ([], []), [(.inr none, 249, ([], [], [])), (.inl 3, 249, ([], [], []))])
set_option maxRecDepth 100000 in
theorem pl_s555_s {X : Int → Int} {LX : Nat} : ck_Ok p2_OL X LX 133 pl_s555 := ck_ok_s (O := p2_OL) (X := X) (LX := LX) (E := []) (mi := 133) (cuts := []) (f := 82) (S := pl_s555) (lx := none) (XF := []) ⟨pl_nmu, ck_E0⟩ ck_X0 ck_l0 (by decide +kernel)
set_option maxRecDepth 100000 in
/-- GlacierMail.needLetter -/
noncomputable def pl_s556 : ck_Sum := ((7, 1, 6), 249, [.inr (.inr (.inl 1)), .inl (ck_one 18)], ([], [], []), ([], []), [(.inl 3, 249, ([], [], [])), (.inr none, 249, ([], [], []))])
set_option maxRecDepth 100000 in
theorem pl_s556_s {X : Int → Int} {LX : Nat} : ck_Ok p2_OL X LX 143 pl_s556 := ck_ok_s (O := p2_OL) (X := X) (LX := LX) (E := [(9, [pl_s200]), (133, [pl_s555])]) (mi := 143) (cuts := []) (f := 86) (S := pl_s556) (lx := none) (XF := []) ⟨pl_nmu, ck_E1 (ck_S1 pl_s200_s ck_S0) (ck_E1 (ck_S1 pl_s555_s ck_S0) ck_E0)⟩ ck_X0 ck_l0 (by decide +kernel)
set_option maxRecDepth 100000 in
/-- GlacierMail$State.isRock -/
noncomputable def pl_s557 : ck_Sum := ((1, 0, 0), 249, [.inr (.inr (.inl 3)), .inl (ck_one 18)], ([], [], []), ([], []), [(.inr (some (.inl (ck_one 0))), 249, ([], [], [])), (.inr (some (.inl (ck_one 1))), 249, ([], [], []))])
set_option maxRecDepth 100000 in
theorem pl_s557_s {X : Int → Int} {LX : Nat} : ck_Ok p2_OL X LX 28 pl_s557 := ck_ok_s (O := p2_OL) (X := X) (LX := LX) (E := [(10, [pl_s204])]) (mi := 28) (cuts := []) (f := 90) (S := pl_s557) (lx := none) (XF := []) ⟨pl_nmu, ck_E1 (ck_S1 pl_s204_s ck_S0) ck_E0⟩ ck_X0 ck_l0 (by decide +kernel)
set_option maxRecDepth 100000 in
/-- GlacierMail.waits -/
noncomputable def pl_s558 : ck_Sum := ((2, 0, 0), 249, [.inr (.inr (.inl 1)), .inl (ck_one 18)], ([], [], [(3, 6, 6, (0, 299, [(10, 0)]))]), ([], []), [(.inr (some (.inl (ck_one 0))), 249, ([], [], [])), (.inr (some (.inl (ck_one 1))), 249, ([], [], []))])
set_option maxRecDepth 100000 in
theorem pl_s558_s {X : Int → Int} {LX : Nat} : ck_Ok p2_OL X LX 66 pl_s558 := ck_ok_s (O := p2_OL) (X := X) (LX := LX) (E := [(28, [pl_s557]), (10, [pl_s204, pl_s218]), (67, [pl_s219])]) (mi := 66) (cuts := []) (f := 134) (S := pl_s558) (lx := none) (XF := []) ⟨pl_nmu, ck_E1 (ck_S1 pl_s557_s ck_S0) (ck_E1 (ck_S1 pl_s204_s (ck_S1 pl_s218_s ck_S0)) (ck_E1 (ck_S1 pl_s219_s ck_S0) ck_E0))⟩ ck_X0 ck_l0 (by decide +kernel)
set_option maxRecDepth 100000 in
/-- GlacierMail$Rows.put -/
noncomputable def pl_s559 : ck_Sum := ((0, 0, 0), 249, [.inr (.inr (.inl 10)), .inl (ck_one 18), .inl (ck_one 5), .inl ((-1), 299, [])], ([], [], []), ([(11, 131, 131)], []), [(.inr none, 249, ([], [], []))])
set_option maxRecDepth 100000 in
theorem pl_s559_s {X : Int → Int} {LX : Nat} : ck_Ok p2_OL X LX 45 pl_s559 := ck_ok_s (O := p2_OL) (X := X) (LX := LX) (E := []) (mi := 45) (cuts := []) (f := 116) (S := pl_s559) (lx := none) (XF := []) ⟨pl_nmu, ck_E0⟩ ck_X0 ck_l0 (by decide +kernel)
set_option maxRecDepth 100000 in
/-- GlacierMail$Rows.put -/
noncomputable def pl_s560 : ck_Sum := ((0, 0, 0), 249, [.inr (.inr (.inl 10)), .inl (ck_one 18), .inl (ck_one 6), .inl (0, 299, [])], ([], [], []), ([(11, 132, 132)], []), [(.inr none, 249, ([], [], []))])
set_option maxRecDepth 100000 in
theorem pl_s560_s {X : Int → Int} {LX : Nat} : ck_Ok p2_OL X LX 45 pl_s560 := ck_ok_s (O := p2_OL) (X := X) (LX := LX) (E := []) (mi := 45) (cuts := []) (f := 116) (S := pl_s560) (lx := none) (XF := []) ⟨pl_nmu, ck_E0⟩ ck_X0 ck_l0 (by decide +kernel)
set_option maxRecDepth 100000 in
/-- GlacierMail$Rows.put -/
noncomputable def pl_s561 : ck_Sum := ((0, 0, 0), 249, [.inr (.inr (.inl 14)), .inl (0, 23, []), .inl (ck_one 1), .inl (ck_one 18)], ([], [], []), (zl173, []), [(.inr none, 249, ([], [], []))])
set_option maxRecDepth 100000 in
theorem pl_s561_s {X : Int → Int} {LX : Nat} : ck_Ok p2_OL X LX 45 pl_s561 := ck_ok_s (O := p2_OL) (X := X) (LX := LX) (E := []) (mi := 45) (cuts := []) (f := 116) (S := pl_s561) (lx := none) (XF := []) ⟨pl_nmu, ck_E0⟩ ck_X0 ck_l0 (by decide +kernel)
set_option maxRecDepth 100000 in
/-- GlacierMail$Rows.put -/
noncomputable def pl_s562 : ck_Sum := ((0, 0, 0), 249, [.inr (.inr (.inl 14)), .inl (ck_one (-1)), .inl (ck_one 1), .inl (ck_one 18)], ([], [], []), ([], []), [(.inr none, 249, ([], [], []))])
set_option maxRecDepth 100000 in
theorem pl_s562_s {X : Int → Int} {LX : Nat} : ck_Ok p2_OL X LX 45 pl_s562 := ck_ok_s (O := p2_OL) (X := X) (LX := LX) (E := []) (mi := 45) (cuts := []) (f := 76) (S := pl_s562) (lx := none) (XF := []) ⟨pl_nmu, ck_E0⟩ ck_X0 ck_l0 (by decide +kernel)
set_option maxRecDepth 100000 in
/-- GlacierMail$State.openLetter -/
noncomputable def pl_s563 : ck_Sum := ((1, 0, 0), 249, [.inr (.inr (.inl 3)), .inl (ck_one 18), .inl ((-1), 299, [])], ([], [], [(3, 6, 6, (0, 299, [(10, 0)]))]), ([(11, 131, 132), (14, 3, 3), (15, 0, 71)], []), [(.inr none, 249, ([], [], [(14, 3, 3, (1, 24, []))]))])
set_option maxRecDepth 100000 in
theorem pl_s563_s {X : Int → Int} {LX : Nat} : ck_Ok p2_OL X LX 159 pl_s563 := ck_ok_s (O := p2_OL) (X := X) (LX := LX) (E := [(45, [pl_s559, pl_s560, pl_s376, pl_s561, pl_s378, pl_s379, pl_s562, pl_s381]), (102, [pl_s382])]) (mi := 159) (cuts := []) (f := 144) (S := pl_s563) (lx := none) (XF := []) ⟨pl_nmu, ck_E1 (ck_S1 pl_s559_s (ck_S1 pl_s560_s (ck_S1 pl_s376_s (ck_S1 pl_s561_s (ck_S1 pl_s378_s (ck_S1 pl_s379_s (ck_S1 pl_s562_s (ck_S1 pl_s381_s ck_S0)))))))) (ck_E1 (ck_S1 pl_s382_s ck_S0) ck_E0)⟩ ck_X0 ck_l0 (by decide +kernel)
set_option maxRecDepth 100000 in
/-- GlacierMail.open -/
noncomputable def pl_s564 : ck_Sum := ((8, 2, 12), 249, [.inr (.inr (.inl 1)), .inl (ck_one 18)], ([], zl230, [(3, 6, 6, (0, 299, [(10, 0)]))]), ([(1, 15, 15), (11, 131, 132), (14, 3, 3), (15, 0, 71), (42, 1, 2), (44, 0, 7), (45, 3, 3), (46, 0, 55), (47, 3, 3), (48, 0, 23), (49, 3, 3), (50, 0, 23), (51, 3, 3), (52, 0, 167), (53, 3, 3), (54, 0, 35), (55, 3, 3), (56, 0, 71), (57, 0, 7), (58, 3, 3), (59, 0, 55), (60, 3, 3), (61, 0, 23), (62, 3, 3), (63, 0, 23), (64, 3, 3), (65, 0, 167), (66, 3, 3), (67, 0, 35), (68, 3, 3), (69, 0, 71), (70, 0, 7), (71, 3, 3), (72, 0, 55), (73, 3, 3), (74, 0, 23), (75, 3, 3), (76, 0, 23), (77, 3, 3), (78, 0, 167), (79, 3, 3), (80, 0, 35), (81, 3, 3), (82, 0, 71), (83, 0, 7), (84, 3, 3), (85, 0, 55), (86, 3, 3), (87, 0, 23), (88, 3, 3), (89, 0, 23), (90, 3, 3), (91, 0, 167), (92, 3, 3), (93, 0, 35), (94, 3, 3), (95, 0, 71), (96, 0, 7), (97, 3, 3), (98, 0, 55), (99, 3, 3), (100, 0, 23), (101, 3, 3), (102, 0, 23), (103, 3, 3), (104, 0, 167), (105, 3, 3), (106, 0, 35), (107, 3, 3), (108, 0, 71), (109, 0, 7), (110, 3, 3), (111, 0, 55), (112, 3, 3), (113, 0, 23), (114, 3, 3), (115, 0, 23), (116, 3, 3), (117, 0, 167), (118, 3, 3), (119, 0, 35), (120, 3, 3), (121, 0, 71), (122, 0, 7), (123, 3, 3), (124, 0, 55), (125, 3, 3), (126, 0, 23), (127, 3, 3), (128, 0, 23), (129, 3, 3), (130, 0, 167), (131, 3, 3), (132, 0, 35), (133, 3, 3), (134, 0, 71), (135, 0, 7), (136, 3, 3), (137, 0, 55), (138, 3, 3), (139, 0, 23), (140, 3, 3), (141, 0, 23), (142, 3, 3), (143, 0, 167), (144, 3, 3), (145, 0, 35), (146, 3, 3), (147, 0, 71), (148, 0, 7), (149, 3, 3), (150, 0, 55), (151, 3, 3), (152, 0, 23), (153, 3, 3), (154, 0, 23), (155, 3, 3), (156, 0, 167), (157, 3, 3), (158, 0, 35), (159, 3, 3), (160, 0, 71), (161, 0, 7), (162, 3, 3), (163, 0, 55), (164, 3, 3), (165, 0, 23), (166, 3, 3), (167, 0, 23), (168, 3, 3), (169, 0, 167), (170, 3, 3), (171, 0, 35), (172, 3, 3), (173, 0, 71), (174, 0, 7), (175, 3, 3), (176, 0, 55), (177, 3, 3), (178, 0, 23), (179, 3, 3), (180, 0, 23), (181, 3, 3), (182, 0, 167), (183, 3, 3), (184, 0, 35), (185, 3, 3), (186, 0, 71), (187, 0, 7), (188, 3, 3), (189, 0, 55), (190, 3, 3), (191, 0, 23), (192, 3, 3), (193, 0, 23), (194, 3, 3), (195, 0, 167), (196, 3, 3), (197, 0, 35), (198, 3, 3), (199, 0, 71), (200, 6, 6), (204, 0, 9), (205, 0, 14849), (206, 2, 8), (220, 3, 3), (221, 0, 47)], zl104), zl245)
set_option maxRecDepth 100000 in
theorem pl_s564_s {X : Int → Int} {LX : Nat} : ck_Ok p2_OL X LX 158 pl_s564 := ck_ok_s (O := p2_OL) (X := X) (LX := LX) (E := [(143, [pl_s556]), (24, [pl_s217]), (66, [pl_s558]), (154, [pl_s341]), (10, [pl_s204]), (159, [pl_s563])]) (mi := 158) (cuts := []) (f := 140) (S := pl_s564) (lx := none) (XF := []) ⟨pl_nmu, ck_E1 (ck_S1 pl_s556_s ck_S0) (ck_E1 (ck_S1 pl_s217_s ck_S0) (ck_E1 (ck_S1 pl_s558_s ck_S0) (ck_E1 (ck_S1 pl_s341_s ck_S0) (ck_E1 (ck_S1 pl_s204_s ck_S0) (ck_E1 (ck_S1 pl_s563_s ck_S0) ck_E0)))))⟩ ck_X0 ck_l0 (by decide +kernel)
set_option maxRecDepth 100000 in
/-- GlacierMail.need -/
noncomputable def pl_s565 : ck_Sum := ((6, 1, 6), 249, [.inr (.inr (.inl 1)), .inl (ck_one 19), .inl (0, 24, [])], ([], [], []), ([], []), [(.inr none, 249, ([], [], [])), (.inl 3, 249, ([], [], []))])
set_option maxRecDepth 100000 in
theorem pl_s565_s {X : Int → Int} {LX : Nat} : ck_Ok p2_OL X LX 133 pl_s565 := ck_ok_s (O := p2_OL) (X := X) (LX := LX) (E := []) (mi := 133) (cuts := []) (f := 82) (S := pl_s565) (lx := none) (XF := []) ⟨pl_nmu, ck_E0⟩ ck_X0 ck_l0 (by decide +kernel)
set_option maxRecDepth 100000 in
/-- GlacierMail.needLetter -/
noncomputable def pl_s566 : ck_Sum := ((7, 1, 6), 249, [.inr (.inr (.inl 1)), .inl (ck_one 19)], ([], [], []), ([], []), [(.inl 3, 249, ([], [], [])), (.inr none, 249, ([], [], []))])
set_option maxRecDepth 100000 in
theorem pl_s566_s {X : Int → Int} {LX : Nat} : ck_Ok p2_OL X LX 143 pl_s566 := ck_ok_s (O := p2_OL) (X := X) (LX := LX) (E := [(9, [pl_s200]), (133, [pl_s565])]) (mi := 143) (cuts := []) (f := 86) (S := pl_s566) (lx := none) (XF := []) ⟨pl_nmu, ck_E1 (ck_S1 pl_s200_s ck_S0) (ck_E1 (ck_S1 pl_s565_s ck_S0) ck_E0)⟩ ck_X0 ck_l0 (by decide +kernel)
set_option maxRecDepth 100000 in
/-- GlacierMail$State.isRock -/
noncomputable def pl_s567 : ck_Sum := ((1, 0, 0), 249, [.inr (.inr (.inl 3)), .inl (ck_one 19)], ([], [], []), ([], []), [(.inr (some (.inl (ck_one 0))), 249, ([], [], [])), (.inr (some (.inl (ck_one 1))), 249, ([], [], []))])
set_option maxRecDepth 100000 in
theorem pl_s567_s {X : Int → Int} {LX : Nat} : ck_Ok p2_OL X LX 28 pl_s567 := ck_ok_s (O := p2_OL) (X := X) (LX := LX) (E := [(10, [pl_s204])]) (mi := 28) (cuts := []) (f := 90) (S := pl_s567) (lx := none) (XF := []) ⟨pl_nmu, ck_E1 (ck_S1 pl_s204_s ck_S0) ck_E0⟩ ck_X0 ck_l0 (by decide +kernel)
set_option maxRecDepth 100000 in
/-- GlacierMail.waits -/
noncomputable def pl_s568 : ck_Sum := ((2, 0, 0), 249, [.inr (.inr (.inl 1)), .inl (ck_one 19)], ([], [], [(3, 6, 6, (0, 299, [(10, 0)]))]), ([], []), [(.inr (some (.inl (ck_one 0))), 249, ([], [], [])), (.inr (some (.inl (ck_one 1))), 249, ([], [], []))])
set_option maxRecDepth 100000 in
theorem pl_s568_s {X : Int → Int} {LX : Nat} : ck_Ok p2_OL X LX 66 pl_s568 := ck_ok_s (O := p2_OL) (X := X) (LX := LX) (E := [(28, [pl_s567]), (10, [pl_s204, pl_s218]), (67, [pl_s219])]) (mi := 66) (cuts := []) (f := 134) (S := pl_s568) (lx := none) (XF := []) ⟨pl_nmu, ck_E1 (ck_S1 pl_s567_s ck_S0) (ck_E1 (ck_S1 pl_s204_s (ck_S1 pl_s218_s ck_S0)) (ck_E1 (ck_S1 pl_s219_s ck_S0) ck_E0))⟩ ck_X0 ck_l0 (by decide +kernel)
set_option maxRecDepth 100000 in
/-- GlacierMail$Rows.put -/
noncomputable def pl_s569 : ck_Sum := ((0, 0, 0), 249, [.inr (.inr (.inl 10)), .inl (ck_one 19), .inl (ck_one 5), .inl ((-1), 299, [])], ([], [], []), ([(11, 138, 138)], []), [(.inr none, 249, ([], [], []))])
set_option maxRecDepth 100000 in
theorem pl_s569_s {X : Int → Int} {LX : Nat} : ck_Ok p2_OL X LX 45 pl_s569 := ck_ok_s (O := p2_OL) (X := X) (LX := LX) (E := []) (mi := 45) (cuts := []) (f := 116) (S := pl_s569) (lx := none) (XF := []) ⟨pl_nmu, ck_E0⟩ ck_X0 ck_l0 (by decide +kernel)
set_option maxRecDepth 100000 in
/-- GlacierMail$Rows.put -/
noncomputable def pl_s570 : ck_Sum := ((0, 0, 0), 249, [.inr (.inr (.inl 10)), .inl (ck_one 19), .inl (ck_one 6), .inl (0, 299, [])], ([], [], []), ([(11, 139, 139)], []), [(.inr none, 249, ([], [], []))])
set_option maxRecDepth 100000 in
theorem pl_s570_s {X : Int → Int} {LX : Nat} : ck_Ok p2_OL X LX 45 pl_s570 := ck_ok_s (O := p2_OL) (X := X) (LX := LX) (E := []) (mi := 45) (cuts := []) (f := 116) (S := pl_s570) (lx := none) (XF := []) ⟨pl_nmu, ck_E0⟩ ck_X0 ck_l0 (by decide +kernel)
set_option maxRecDepth 100000 in
/-- GlacierMail$Rows.put -/
noncomputable def pl_s571 : ck_Sum := ((0, 0, 0), 249, [.inr (.inr (.inl 14)), .inl (0, 23, []), .inl (ck_one 1), .inl (ck_one 19)], ([], [], []), (zl173, []), [(.inr none, 249, ([], [], []))])
set_option maxRecDepth 100000 in
theorem pl_s571_s {X : Int → Int} {LX : Nat} : ck_Ok p2_OL X LX 45 pl_s571 := ck_ok_s (O := p2_OL) (X := X) (LX := LX) (E := []) (mi := 45) (cuts := []) (f := 116) (S := pl_s571) (lx := none) (XF := []) ⟨pl_nmu, ck_E0⟩ ck_X0 ck_l0 (by decide +kernel)
set_option maxRecDepth 100000 in
/-- GlacierMail$Rows.put -/
noncomputable def pl_s572 : ck_Sum := ((0, 0, 0), 249, [.inr (.inr (.inl 14)), .inl (ck_one (-1)), .inl (ck_one 1), .inl (ck_one 19)], ([], [], []), ([], []), [(.inr none, 249, ([], [], []))])
set_option maxRecDepth 100000 in
theorem pl_s572_s {X : Int → Int} {LX : Nat} : ck_Ok p2_OL X LX 45 pl_s572 := ck_ok_s (O := p2_OL) (X := X) (LX := LX) (E := []) (mi := 45) (cuts := []) (f := 76) (S := pl_s572) (lx := none) (XF := []) ⟨pl_nmu, ck_E0⟩ ck_X0 ck_l0 (by decide +kernel)
set_option maxRecDepth 100000 in
/-- GlacierMail$State.openLetter -/
noncomputable def pl_s573 : ck_Sum := ((1, 0, 0), 249, [.inr (.inr (.inl 3)), .inl (ck_one 19), .inl ((-1), 299, [])], ([], [], [(3, 6, 6, (0, 299, [(10, 0)]))]), ([(11, 138, 139), (14, 3, 3), (15, 0, 71)], []), [(.inr none, 249, ([], [], [(14, 3, 3, (1, 24, []))]))])
set_option maxRecDepth 100000 in
theorem pl_s573_s {X : Int → Int} {LX : Nat} : ck_Ok p2_OL X LX 159 pl_s573 := ck_ok_s (O := p2_OL) (X := X) (LX := LX) (E := [(45, [pl_s569, pl_s570, pl_s376, pl_s571, pl_s378, pl_s379, pl_s572, pl_s381]), (102, [pl_s382])]) (mi := 159) (cuts := []) (f := 144) (S := pl_s573) (lx := none) (XF := []) ⟨pl_nmu, ck_E1 (ck_S1 pl_s569_s (ck_S1 pl_s570_s (ck_S1 pl_s376_s (ck_S1 pl_s571_s (ck_S1 pl_s378_s (ck_S1 pl_s379_s (ck_S1 pl_s572_s (ck_S1 pl_s381_s ck_S0)))))))) (ck_E1 (ck_S1 pl_s382_s ck_S0) ck_E0)⟩ ck_X0 ck_l0 (by decide +kernel)
set_option maxRecDepth 100000 in
/-- GlacierMail.open -/
noncomputable def pl_s574 : ck_Sum := ((8, 2, 12), 249, [.inr (.inr (.inl 1)), .inl (ck_one 19)], ([], zl230, [(3, 6, 6, (0, 299, [(10, 0)]))]), ([(1, 15, 15), (11, 138, 139), (14, 3, 3), (15, 0, 71), (42, 1, 2), (44, 0, 7), (45, 3, 3), (46, 0, 55), (47, 3, 3), (48, 0, 23), (49, 3, 3), (50, 0, 23), (51, 3, 3), (52, 0, 167), (53, 3, 3), (54, 0, 35), (55, 3, 3), (56, 0, 71), (57, 0, 7), (58, 3, 3), (59, 0, 55), (60, 3, 3), (61, 0, 23), (62, 3, 3), (63, 0, 23), (64, 3, 3), (65, 0, 167), (66, 3, 3), (67, 0, 35), (68, 3, 3), (69, 0, 71), (70, 0, 7), (71, 3, 3), (72, 0, 55), (73, 3, 3), (74, 0, 23), (75, 3, 3), (76, 0, 23), (77, 3, 3), (78, 0, 167), (79, 3, 3), (80, 0, 35), (81, 3, 3), (82, 0, 71), (83, 0, 7), (84, 3, 3), (85, 0, 55), (86, 3, 3), (87, 0, 23), (88, 3, 3), (89, 0, 23), (90, 3, 3), (91, 0, 167), (92, 3, 3), (93, 0, 35), (94, 3, 3), (95, 0, 71), (96, 0, 7), (97, 3, 3), (98, 0, 55), (99, 3, 3), (100, 0, 23), (101, 3, 3), (102, 0, 23), (103, 3, 3), (104, 0, 167), (105, 3, 3), (106, 0, 35), (107, 3, 3), (108, 0, 71), (109, 0, 7), (110, 3, 3), (111, 0, 55), (112, 3, 3), (113, 0, 23), (114, 3, 3), (115, 0, 23), (116, 3, 3), (117, 0, 167), (118, 3, 3), (119, 0, 35), (120, 3, 3), (121, 0, 71), (122, 0, 7), (123, 3, 3), (124, 0, 55), (125, 3, 3), (126, 0, 23), (127, 3, 3), (128, 0, 23), (129, 3, 3), (130, 0, 167), (131, 3, 3), (132, 0, 35), (133, 3, 3), (134, 0, 71), (135, 0, 7), (136, 3, 3), (137, 0, 55), (138, 3, 3), (139, 0, 23), (140, 3, 3), (141, 0, 23), (142, 3, 3), (143, 0, 167), (144, 3, 3), (145, 0, 35), (146, 3, 3), (147, 0, 71), (148, 0, 7), (149, 3, 3), (150, 0, 55), (151, 3, 3), (152, 0, 23), (153, 3, 3), (154, 0, 23), (155, 3, 3), (156, 0, 167), (157, 3, 3), (158, 0, 35), (159, 3, 3), (160, 0, 71), (161, 0, 7), (162, 3, 3), (163, 0, 55), (164, 3, 3), (165, 0, 23), (166, 3, 3), (167, 0, 23), (168, 3, 3), (169, 0, 167), (170, 3, 3), (171, 0, 35), (172, 3, 3), (173, 0, 71), (174, 0, 7), (175, 3, 3), (176, 0, 55), (177, 3, 3), (178, 0, 23), (179, 3, 3), (180, 0, 23), (181, 3, 3), (182, 0, 167), (183, 3, 3), (184, 0, 35), (185, 3, 3), (186, 0, 71), (187, 0, 7), (188, 3, 3), (189, 0, 55), (190, 3, 3), (191, 0, 23), (192, 3, 3), (193, 0, 23), (194, 3, 3), (195, 0, 167), (196, 3, 3), (197, 0, 35), (198, 3, 3), (199, 0, 71), (200, 6, 6), (204, 0, 9), (205, 0, 14849), (206, 2, 8), (220, 3, 3), (221, 0, 47)], zl104), zl245)
set_option maxRecDepth 100000 in
theorem pl_s574_s {X : Int → Int} {LX : Nat} : ck_Ok p2_OL X LX 158 pl_s574 := ck_ok_s (O := p2_OL) (X := X) (LX := LX) (E := [(143, [pl_s566]), (24, [pl_s217]), (66, [pl_s568]), (154, [pl_s341]), (10, [pl_s204]), (159, [pl_s573])]) (mi := 158) (cuts := []) (f := 140) (S := pl_s574) (lx := none) (XF := []) ⟨pl_nmu, ck_E1 (ck_S1 pl_s566_s ck_S0) (ck_E1 (ck_S1 pl_s217_s ck_S0) (ck_E1 (ck_S1 pl_s568_s ck_S0) (ck_E1 (ck_S1 pl_s341_s ck_S0) (ck_E1 (ck_S1 pl_s204_s ck_S0) (ck_E1 (ck_S1 pl_s573_s ck_S0) ck_E0)))))⟩ ck_X0 ck_l0 (by decide +kernel)
set_option maxRecDepth 100000 in
/-- GlacierMail.need -/
noncomputable def pl_s575 : ck_Sum := ((6, 1, 6), 249, [.inr (.inr (.inl 1)), .inl (ck_one 20), .inl (0, 24, [])], ([], [], []), ([], []), [(.inr none, 249, ([], [], [])), (.inl 3, 249, ([], [], []))])
set_option maxRecDepth 100000 in
theorem pl_s575_s {X : Int → Int} {LX : Nat} : ck_Ok p2_OL X LX 133 pl_s575 := ck_ok_s (O := p2_OL) (X := X) (LX := LX) (E := []) (mi := 133) (cuts := []) (f := 82) (S := pl_s575) (lx := none) (XF := []) ⟨pl_nmu, ck_E0⟩ ck_X0 ck_l0 (by decide +kernel)
set_option maxRecDepth 100000 in
/-- GlacierMail.needLetter -/
noncomputable def pl_s576 : ck_Sum := ((7, 1, 6), 249, [.inr (.inr (.inl 1)), .inl (ck_one 20)], ([], [], []), ([], []), [(.inl 3, 249, ([], [], [])), (.inr none, 249, ([], [], []))])
set_option maxRecDepth 100000 in
theorem pl_s576_s {X : Int → Int} {LX : Nat} : ck_Ok p2_OL X LX 143 pl_s576 := ck_ok_s (O := p2_OL) (X := X) (LX := LX) (E := [(9, [pl_s200]), (133, [pl_s575])]) (mi := 143) (cuts := []) (f := 86) (S := pl_s576) (lx := none) (XF := []) ⟨pl_nmu, ck_E1 (ck_S1 pl_s200_s ck_S0) (ck_E1 (ck_S1 pl_s575_s ck_S0) ck_E0)⟩ ck_X0 ck_l0 (by decide +kernel)
set_option maxRecDepth 100000 in
/-- GlacierMail$State.isRock -/
noncomputable def pl_s577 : ck_Sum := ((1, 0, 0), 249, [.inr (.inr (.inl 3)), .inl (ck_one 20)], ([], [], []), ([], []), [(.inr (some (.inl (ck_one 0))), 249, ([], [], [])), (.inr (some (.inl (ck_one 1))), 249, ([], [], []))])
set_option maxRecDepth 100000 in
theorem pl_s577_s {X : Int → Int} {LX : Nat} : ck_Ok p2_OL X LX 28 pl_s577 := ck_ok_s (O := p2_OL) (X := X) (LX := LX) (E := [(10, [pl_s204])]) (mi := 28) (cuts := []) (f := 90) (S := pl_s577) (lx := none) (XF := []) ⟨pl_nmu, ck_E1 (ck_S1 pl_s204_s ck_S0) ck_E0⟩ ck_X0 ck_l0 (by decide +kernel)
set_option maxRecDepth 100000 in
/-- GlacierMail.waits -/
noncomputable def pl_s578 : ck_Sum := ((2, 0, 0), 249, [.inr (.inr (.inl 1)), .inl (ck_one 20)], ([], [], [(3, 6, 6, (0, 299, [(10, 0)]))]), ([], []), [(.inr (some (.inl (ck_one 0))), 249, ([], [], [])), (.inr (some (.inl (ck_one 1))), 249, ([], [], []))])
set_option maxRecDepth 100000 in
theorem pl_s578_s {X : Int → Int} {LX : Nat} : ck_Ok p2_OL X LX 66 pl_s578 := ck_ok_s (O := p2_OL) (X := X) (LX := LX) (E := [(28, [pl_s577]), (10, [pl_s204, pl_s218]), (67, [pl_s219])]) (mi := 66) (cuts := []) (f := 134) (S := pl_s578) (lx := none) (XF := []) ⟨pl_nmu, ck_E1 (ck_S1 pl_s577_s ck_S0) (ck_E1 (ck_S1 pl_s204_s (ck_S1 pl_s218_s ck_S0)) (ck_E1 (ck_S1 pl_s219_s ck_S0) ck_E0))⟩ ck_X0 ck_l0 (by decide +kernel)
set_option maxRecDepth 100000 in
/-- GlacierMail$Rows.put -/
noncomputable def pl_s579 : ck_Sum := ((0, 0, 0), 249, [.inr (.inr (.inl 10)), .inl (ck_one 20), .inl (ck_one 5), .inl ((-1), 299, [])], ([], [], []), ([(11, 145, 145)], []), [(.inr none, 249, ([], [], []))])
set_option maxRecDepth 100000 in
theorem pl_s579_s {X : Int → Int} {LX : Nat} : ck_Ok p2_OL X LX 45 pl_s579 := ck_ok_s (O := p2_OL) (X := X) (LX := LX) (E := []) (mi := 45) (cuts := []) (f := 116) (S := pl_s579) (lx := none) (XF := []) ⟨pl_nmu, ck_E0⟩ ck_X0 ck_l0 (by decide +kernel)
set_option maxRecDepth 100000 in
/-- GlacierMail$Rows.put -/
noncomputable def pl_s580 : ck_Sum := ((0, 0, 0), 249, [.inr (.inr (.inl 10)), .inl (ck_one 20), .inl (ck_one 6), .inl (0, 299, [])], ([], [], []), ([(11, 146, 146)], []), [(.inr none, 249, ([], [], []))])
set_option maxRecDepth 100000 in
theorem pl_s580_s {X : Int → Int} {LX : Nat} : ck_Ok p2_OL X LX 45 pl_s580 := ck_ok_s (O := p2_OL) (X := X) (LX := LX) (E := []) (mi := 45) (cuts := []) (f := 116) (S := pl_s580) (lx := none) (XF := []) ⟨pl_nmu, ck_E0⟩ ck_X0 ck_l0 (by decide +kernel)
set_option maxRecDepth 100000 in
/-- GlacierMail$Rows.put -/
noncomputable def pl_s581 : ck_Sum := ((0, 0, 0), 249, [.inr (.inr (.inl 14)), .inl (0, 23, []), .inl (ck_one 1), .inl (ck_one 20)], ([], [], []), (zl173, []), [(.inr none, 249, ([], [], []))])
set_option maxRecDepth 100000 in
theorem pl_s581_s {X : Int → Int} {LX : Nat} : ck_Ok p2_OL X LX 45 pl_s581 := ck_ok_s (O := p2_OL) (X := X) (LX := LX) (E := []) (mi := 45) (cuts := []) (f := 116) (S := pl_s581) (lx := none) (XF := []) ⟨pl_nmu, ck_E0⟩ ck_X0 ck_l0 (by decide +kernel)
set_option maxRecDepth 100000 in
/-- GlacierMail$Rows.put -/
noncomputable def pl_s582 : ck_Sum := ((0, 0, 0), 249, [.inr (.inr (.inl 14)), .inl (ck_one (-1)), .inl (ck_one 1), .inl (ck_one 20)], ([], [], []), ([], []), [(.inr none, 249, ([], [], []))])
set_option maxRecDepth 100000 in
theorem pl_s582_s {X : Int → Int} {LX : Nat} : ck_Ok p2_OL X LX 45 pl_s582 := ck_ok_s (O := p2_OL) (X := X) (LX := LX) (E := []) (mi := 45) (cuts := []) (f := 76) (S := pl_s582) (lx := none) (XF := []) ⟨pl_nmu, ck_E0⟩ ck_X0 ck_l0 (by decide +kernel)
set_option maxRecDepth 100000 in
/-- GlacierMail$State.openLetter -/
noncomputable def pl_s583 : ck_Sum := ((1, 0, 0), 249, [.inr (.inr (.inl 3)), .inl (ck_one 20), .inl ((-1), 299, [])], ([], [], [(3, 6, 6, (0, 299, [(10, 0)]))]), ([(11, 145, 146), (14, 3, 3), (15, 0, 71)], []), [(.inr none, 249, ([], [], [(14, 3, 3, (1, 24, []))]))])
set_option maxRecDepth 100000 in
theorem pl_s583_s {X : Int → Int} {LX : Nat} : ck_Ok p2_OL X LX 159 pl_s583 := ck_ok_s (O := p2_OL) (X := X) (LX := LX) (E := [(45, [pl_s579, pl_s580, pl_s376, pl_s581, pl_s378, pl_s379, pl_s582, pl_s381]), (102, [pl_s382])]) (mi := 159) (cuts := []) (f := 144) (S := pl_s583) (lx := none) (XF := []) ⟨pl_nmu, ck_E1 (ck_S1 pl_s579_s (ck_S1 pl_s580_s (ck_S1 pl_s376_s (ck_S1 pl_s581_s (ck_S1 pl_s378_s (ck_S1 pl_s379_s (ck_S1 pl_s582_s (ck_S1 pl_s381_s ck_S0)))))))) (ck_E1 (ck_S1 pl_s382_s ck_S0) ck_E0)⟩ ck_X0 ck_l0 (by decide +kernel)
set_option maxRecDepth 100000 in
/-- GlacierMail.open -/
noncomputable def pl_s584 : ck_Sum := ((8, 2, 12), 249, [.inr (.inr (.inl 1)), .inl (ck_one 20)], ([], zl230, [(3, 6, 6, (0, 299, [(10, 0)]))]), ([(1, 15, 15), (11, 145, 146), (14, 3, 3), (15, 0, 71), (42, 1, 2), (44, 0, 7), (45, 3, 3), (46, 0, 55), (47, 3, 3), (48, 0, 23), (49, 3, 3), (50, 0, 23), (51, 3, 3), (52, 0, 167), (53, 3, 3), (54, 0, 35), (55, 3, 3), (56, 0, 71), (57, 0, 7), (58, 3, 3), (59, 0, 55), (60, 3, 3), (61, 0, 23), (62, 3, 3), (63, 0, 23), (64, 3, 3), (65, 0, 167), (66, 3, 3), (67, 0, 35), (68, 3, 3), (69, 0, 71), (70, 0, 7), (71, 3, 3), (72, 0, 55), (73, 3, 3), (74, 0, 23), (75, 3, 3), (76, 0, 23), (77, 3, 3), (78, 0, 167), (79, 3, 3), (80, 0, 35), (81, 3, 3), (82, 0, 71), (83, 0, 7), (84, 3, 3), (85, 0, 55), (86, 3, 3), (87, 0, 23), (88, 3, 3), (89, 0, 23), (90, 3, 3), (91, 0, 167), (92, 3, 3), (93, 0, 35), (94, 3, 3), (95, 0, 71), (96, 0, 7), (97, 3, 3), (98, 0, 55), (99, 3, 3), (100, 0, 23), (101, 3, 3), (102, 0, 23), (103, 3, 3), (104, 0, 167), (105, 3, 3), (106, 0, 35), (107, 3, 3), (108, 0, 71), (109, 0, 7), (110, 3, 3), (111, 0, 55), (112, 3, 3), (113, 0, 23), (114, 3, 3), (115, 0, 23), (116, 3, 3), (117, 0, 167), (118, 3, 3), (119, 0, 35), (120, 3, 3), (121, 0, 71), (122, 0, 7), (123, 3, 3), (124, 0, 55), (125, 3, 3), (126, 0, 23), (127, 3, 3), (128, 0, 23), (129, 3, 3), (130, 0, 167), (131, 3, 3), (132, 0, 35), (133, 3, 3), (134, 0, 71), (135, 0, 7), (136, 3, 3), (137, 0, 55), (138, 3, 3), (139, 0, 23), (140, 3, 3), (141, 0, 23), (142, 3, 3), (143, 0, 167), (144, 3, 3), (145, 0, 35), (146, 3, 3), (147, 0, 71), (148, 0, 7), (149, 3, 3), (150, 0, 55), (151, 3, 3), (152, 0, 23), (153, 3, 3), (154, 0, 23), (155, 3, 3), (156, 0, 167), (157, 3, 3), (158, 0, 35), (159, 3, 3), (160, 0, 71), (161, 0, 7), (162, 3, 3), (163, 0, 55), (164, 3, 3), (165, 0, 23), (166, 3, 3), (167, 0, 23), (168, 3, 3), (169, 0, 167), (170, 3, 3), (171, 0, 35), (172, 3, 3), (173, 0, 71), (174, 0, 7), (175, 3, 3), (176, 0, 55), (177, 3, 3), (178, 0, 23), (179, 3, 3), (180, 0, 23), (181, 3, 3), (182, 0, 167), (183, 3, 3), (184, 0, 35), (185, 3, 3), (186, 0, 71), (187, 0, 7), (188, 3, 3), (189, 0, 55), (190, 3, 3), (191, 0, 23), (192, 3, 3), (193, 0, 23), (194, 3, 3), (195, 0, 167), (196, 3, 3), (197, 0, 35), (198, 3, 3), (199, 0, 71), (200, 6, 6), (204, 0, 9), (205, 0, 14849), (206, 2, 8), (220, 3, 3), (221, 0, 47)], zl104), zl245)
set_option maxRecDepth 100000 in
theorem pl_s584_s {X : Int → Int} {LX : Nat} : ck_Ok p2_OL X LX 158 pl_s584 := ck_ok_s (O := p2_OL) (X := X) (LX := LX) (E := [(143, [pl_s576]), (24, [pl_s217]), (66, [pl_s578]), (154, [pl_s341]), (10, [pl_s204]), (159, [pl_s583])]) (mi := 158) (cuts := []) (f := 140) (S := pl_s584) (lx := none) (XF := []) ⟨pl_nmu, ck_E1 (ck_S1 pl_s576_s ck_S0) (ck_E1 (ck_S1 pl_s217_s ck_S0) (ck_E1 (ck_S1 pl_s578_s ck_S0) (ck_E1 (ck_S1 pl_s341_s ck_S0) (ck_E1 (ck_S1 pl_s204_s ck_S0) (ck_E1 (ck_S1 pl_s583_s ck_S0) ck_E0)))))⟩ ck_X0 ck_l0 (by decide +kernel)
set_option maxRecDepth 100000 in
/-- GlacierMail.need -/
noncomputable def pl_s585 : ck_Sum := ((6, 1, 6), 249, [.inr (.inr (.inl 1)), .inl (ck_one 21), .inl (0, 24, [])], ([], [], []), ([], []), [(.inr none, 249, ([], [], [])), (.inl 3, 249, ([], [], []))])
set_option maxRecDepth 100000 in
theorem pl_s585_s {X : Int → Int} {LX : Nat} : ck_Ok p2_OL X LX 133 pl_s585 := ck_ok_s (O := p2_OL) (X := X) (LX := LX) (E := []) (mi := 133) (cuts := []) (f := 82) (S := pl_s585) (lx := none) (XF := []) ⟨pl_nmu, ck_E0⟩ ck_X0 ck_l0 (by decide +kernel)
set_option maxRecDepth 100000 in
/-- GlacierMail.needLetter -/
noncomputable def pl_s586 : ck_Sum := ((7, 1, 6), 249, [.inr (.inr (.inl 1)), .inl (ck_one 21)], ([], [], []), ([], []), [(.inl 3, 249, ([], [], [])), (.inr none, 249, ([], [], []))])
set_option maxRecDepth 100000 in
theorem pl_s586_s {X : Int → Int} {LX : Nat} : ck_Ok p2_OL X LX 143 pl_s586 := ck_ok_s (O := p2_OL) (X := X) (LX := LX) (E := [(9, [pl_s200]), (133, [pl_s585])]) (mi := 143) (cuts := []) (f := 86) (S := pl_s586) (lx := none) (XF := []) ⟨pl_nmu, ck_E1 (ck_S1 pl_s200_s ck_S0) (ck_E1 (ck_S1 pl_s585_s ck_S0) ck_E0)⟩ ck_X0 ck_l0 (by decide +kernel)
set_option maxRecDepth 100000 in
/-- GlacierMail$State.isRock -/
noncomputable def pl_s587 : ck_Sum := ((1, 0, 0), 249, [.inr (.inr (.inl 3)), .inl (ck_one 21)], ([], [], []), ([], []), [(.inr (some (.inl (ck_one 0))), 249, ([], [], [])), (.inr (some (.inl (ck_one 1))), 249, ([], [], []))])
set_option maxRecDepth 100000 in
theorem pl_s587_s {X : Int → Int} {LX : Nat} : ck_Ok p2_OL X LX 28 pl_s587 := ck_ok_s (O := p2_OL) (X := X) (LX := LX) (E := [(10, [pl_s204])]) (mi := 28) (cuts := []) (f := 90) (S := pl_s587) (lx := none) (XF := []) ⟨pl_nmu, ck_E1 (ck_S1 pl_s204_s ck_S0) ck_E0⟩ ck_X0 ck_l0 (by decide +kernel)
set_option maxRecDepth 100000 in
/-- GlacierMail.waits -/
noncomputable def pl_s588 : ck_Sum := ((2, 0, 0), 249, [.inr (.inr (.inl 1)), .inl (ck_one 21)], ([], [], [(3, 6, 6, (0, 299, [(10, 0)]))]), ([], []), [(.inr (some (.inl (ck_one 0))), 249, ([], [], [])), (.inr (some (.inl (ck_one 1))), 249, ([], [], []))])
set_option maxRecDepth 100000 in
theorem pl_s588_s {X : Int → Int} {LX : Nat} : ck_Ok p2_OL X LX 66 pl_s588 := ck_ok_s (O := p2_OL) (X := X) (LX := LX) (E := [(28, [pl_s587]), (10, [pl_s204, pl_s218]), (67, [pl_s219])]) (mi := 66) (cuts := []) (f := 134) (S := pl_s588) (lx := none) (XF := []) ⟨pl_nmu, ck_E1 (ck_S1 pl_s587_s ck_S0) (ck_E1 (ck_S1 pl_s204_s (ck_S1 pl_s218_s ck_S0)) (ck_E1 (ck_S1 pl_s219_s ck_S0) ck_E0))⟩ ck_X0 ck_l0 (by decide +kernel)
set_option maxRecDepth 100000 in
/-- GlacierMail$Rows.put -/
noncomputable def pl_s589 : ck_Sum := ((0, 0, 0), 249, [.inr (.inr (.inl 10)), .inl (ck_one 21), .inl (ck_one 5), .inl ((-1), 299, [])], ([], [], []), ([(11, 152, 152)], []), [(.inr none, 249, ([], [], []))])
set_option maxRecDepth 100000 in
theorem pl_s589_s {X : Int → Int} {LX : Nat} : ck_Ok p2_OL X LX 45 pl_s589 := ck_ok_s (O := p2_OL) (X := X) (LX := LX) (E := []) (mi := 45) (cuts := []) (f := 116) (S := pl_s589) (lx := none) (XF := []) ⟨pl_nmu, ck_E0⟩ ck_X0 ck_l0 (by decide +kernel)
set_option maxRecDepth 100000 in
/-- GlacierMail$Rows.put -/
noncomputable def pl_s590 : ck_Sum := ((0, 0, 0), 249, [.inr (.inr (.inl 10)), .inl (ck_one 21), .inl (ck_one 6), .inl (0, 299, [])], ([], [], []), ([(11, 153, 153)], []), [(.inr none, 249, ([], [], []))])
set_option maxRecDepth 100000 in
theorem pl_s590_s {X : Int → Int} {LX : Nat} : ck_Ok p2_OL X LX 45 pl_s590 := ck_ok_s (O := p2_OL) (X := X) (LX := LX) (E := []) (mi := 45) (cuts := []) (f := 116) (S := pl_s590) (lx := none) (XF := []) ⟨pl_nmu, ck_E0⟩ ck_X0 ck_l0 (by decide +kernel)
set_option maxRecDepth 100000 in
/-- GlacierMail$Rows.put -/
noncomputable def pl_s591 : ck_Sum := ((0, 0, 0), 249, [.inr (.inr (.inl 14)), .inl (0, 23, []), .inl (ck_one 1), .inl (ck_one 21)], ([], [], []), (zl173, []), [(.inr none, 249, ([], [], []))])
set_option maxRecDepth 100000 in
theorem pl_s591_s {X : Int → Int} {LX : Nat} : ck_Ok p2_OL X LX 45 pl_s591 := ck_ok_s (O := p2_OL) (X := X) (LX := LX) (E := []) (mi := 45) (cuts := []) (f := 116) (S := pl_s591) (lx := none) (XF := []) ⟨pl_nmu, ck_E0⟩ ck_X0 ck_l0 (by decide +kernel)
set_option maxRecDepth 100000 in
/-- GlacierMail$Rows.put -/
noncomputable def pl_s592 : ck_Sum := ((0, 0, 0), 249, [.inr (.inr (.inl 14)), .inl (ck_one (-1)), .inl (ck_one 1), .inl (ck_one 21)], ([], [], []), ([], []), [(.inr none, 249, ([], [], []))])
set_option maxRecDepth 100000 in
theorem pl_s592_s {X : Int → Int} {LX : Nat} : ck_Ok p2_OL X LX 45 pl_s592 := ck_ok_s (O := p2_OL) (X := X) (LX := LX) (E := []) (mi := 45) (cuts := []) (f := 76) (S := pl_s592) (lx := none) (XF := []) ⟨pl_nmu, ck_E0⟩ ck_X0 ck_l0 (by decide +kernel)
set_option maxRecDepth 100000 in
/-- GlacierMail$State.openLetter -/
noncomputable def pl_s593 : ck_Sum := ((1, 0, 0), 249, [.inr (.inr (.inl 3)), .inl (ck_one 21), .inl ((-1), 299, [])], ([], [], [(3, 6, 6, (0, 299, [(10, 0)]))]), ([(11, 152, 153), (14, 3, 3), (15, 0, 71)], []), [(.inr none, 249, ([], [], [(14, 3, 3, (1, 24, []))]))])
set_option maxRecDepth 100000 in
theorem pl_s593_s {X : Int → Int} {LX : Nat} : ck_Ok p2_OL X LX 159 pl_s593 := ck_ok_s (O := p2_OL) (X := X) (LX := LX) (E := [(45, [pl_s589, pl_s590, pl_s376, pl_s591, pl_s378, pl_s379, pl_s592, pl_s381]), (102, [pl_s382])]) (mi := 159) (cuts := []) (f := 144) (S := pl_s593) (lx := none) (XF := []) ⟨pl_nmu, ck_E1 (ck_S1 pl_s589_s (ck_S1 pl_s590_s (ck_S1 pl_s376_s (ck_S1 pl_s591_s (ck_S1 pl_s378_s (ck_S1 pl_s379_s (ck_S1 pl_s592_s (ck_S1 pl_s381_s ck_S0)))))))) (ck_E1 (ck_S1 pl_s382_s ck_S0) ck_E0)⟩ ck_X0 ck_l0 (by decide +kernel)
set_option maxRecDepth 100000 in
/-- GlacierMail.open -/
noncomputable def pl_s594 : ck_Sum := ((8, 2, 12), 249, [.inr (.inr (.inl 1)), .inl (ck_one 21)], ([], zl230, [(3, 6, 6, (0, 299, [(10, 0)]))]), ([(1, 15, 15), (11, 152, 153), (14, 3, 3), (15, 0, 71), (42, 1, 2), (44, 0, 7), (45, 3, 3), (46, 0, 55), (47, 3, 3), (48, 0, 23), (49, 3, 3), (50, 0, 23), (51, 3, 3), (52, 0, 167), (53, 3, 3), (54, 0, 35), (55, 3, 3), (56, 0, 71), (57, 0, 7), (58, 3, 3), (59, 0, 55), (60, 3, 3), (61, 0, 23), (62, 3, 3), (63, 0, 23), (64, 3, 3), (65, 0, 167), (66, 3, 3), (67, 0, 35), (68, 3, 3), (69, 0, 71), (70, 0, 7), (71, 3, 3), (72, 0, 55), (73, 3, 3), (74, 0, 23), (75, 3, 3), (76, 0, 23), (77, 3, 3), (78, 0, 167), (79, 3, 3), (80, 0, 35), (81, 3, 3), (82, 0, 71), (83, 0, 7), (84, 3, 3), (85, 0, 55), (86, 3, 3), (87, 0, 23), (88, 3, 3), (89, 0, 23), (90, 3, 3), (91, 0, 167), (92, 3, 3), (93, 0, 35), (94, 3, 3), (95, 0, 71), (96, 0, 7), (97, 3, 3), (98, 0, 55), (99, 3, 3), (100, 0, 23), (101, 3, 3), (102, 0, 23), (103, 3, 3), (104, 0, 167), (105, 3, 3), (106, 0, 35), (107, 3, 3), (108, 0, 71), (109, 0, 7), (110, 3, 3), (111, 0, 55), (112, 3, 3), (113, 0, 23), (114, 3, 3), (115, 0, 23), (116, 3, 3), (117, 0, 167), (118, 3, 3), (119, 0, 35), (120, 3, 3), (121, 0, 71), (122, 0, 7), (123, 3, 3), (124, 0, 55), (125, 3, 3), (126, 0, 23), (127, 3, 3), (128, 0, 23), (129, 3, 3), (130, 0, 167), (131, 3, 3), (132, 0, 35), (133, 3, 3), (134, 0, 71), (135, 0, 7), (136, 3, 3), (137, 0, 55), (138, 3, 3), (139, 0, 23), (140, 3, 3), (141, 0, 23), (142, 3, 3), (143, 0, 167), (144, 3, 3), (145, 0, 35), (146, 3, 3), (147, 0, 71), (148, 0, 7), (149, 3, 3), (150, 0, 55), (151, 3, 3), (152, 0, 23), (153, 3, 3), (154, 0, 23), (155, 3, 3), (156, 0, 167), (157, 3, 3), (158, 0, 35), (159, 3, 3), (160, 0, 71), (161, 0, 7), (162, 3, 3), (163, 0, 55), (164, 3, 3), (165, 0, 23), (166, 3, 3), (167, 0, 23), (168, 3, 3), (169, 0, 167), (170, 3, 3), (171, 0, 35), (172, 3, 3), (173, 0, 71), (174, 0, 7), (175, 3, 3), (176, 0, 55), (177, 3, 3), (178, 0, 23), (179, 3, 3), (180, 0, 23), (181, 3, 3), (182, 0, 167), (183, 3, 3), (184, 0, 35), (185, 3, 3), (186, 0, 71), (187, 0, 7), (188, 3, 3), (189, 0, 55), (190, 3, 3), (191, 0, 23), (192, 3, 3), (193, 0, 23), (194, 3, 3), (195, 0, 167), (196, 3, 3), (197, 0, 35), (198, 3, 3), (199, 0, 71), (200, 6, 6), (204, 0, 9), (205, 0, 14849), (206, 2, 8), (220, 3, 3), (221, 0, 47)], zl104), zl245)
set_option maxRecDepth 100000 in
theorem pl_s594_s {X : Int → Int} {LX : Nat} : ck_Ok p2_OL X LX 158 pl_s594 := ck_ok_s (O := p2_OL) (X := X) (LX := LX) (E := [(143, [pl_s586]), (24, [pl_s217]), (66, [pl_s588]), (154, [pl_s341]), (10, [pl_s204]), (159, [pl_s593])]) (mi := 158) (cuts := []) (f := 140) (S := pl_s594) (lx := none) (XF := []) ⟨pl_nmu, ck_E1 (ck_S1 pl_s586_s ck_S0) (ck_E1 (ck_S1 pl_s217_s ck_S0) (ck_E1 (ck_S1 pl_s588_s ck_S0) (ck_E1 (ck_S1 pl_s341_s ck_S0) (ck_E1 (ck_S1 pl_s204_s ck_S0) (ck_E1 (ck_S1 pl_s593_s ck_S0) ck_E0)))))⟩ ck_X0 ck_l0 (by decide +kernel)
set_option maxRecDepth 100000 in
/-- GlacierMail.need -/
noncomputable def pl_s595 : ck_Sum := ((6, 1, 6), 249, [.inr (.inr (.inl 1)), .inl (ck_one 22), .inl (0, 24, [])], ([], [], []), ([], []), [(.inr none, 249, ([], [], [])), (.inl 3, 249, ([], [], []))])
set_option maxRecDepth 100000 in
theorem pl_s595_s {X : Int → Int} {LX : Nat} : ck_Ok p2_OL X LX 133 pl_s595 := ck_ok_s (O := p2_OL) (X := X) (LX := LX) (E := []) (mi := 133) (cuts := []) (f := 82) (S := pl_s595) (lx := none) (XF := []) ⟨pl_nmu, ck_E0⟩ ck_X0 ck_l0 (by decide +kernel)
set_option maxRecDepth 100000 in
/-- GlacierMail.needLetter -/
noncomputable def pl_s596 : ck_Sum := ((7, 1, 6), 249, [.inr (.inr (.inl 1)), .inl (ck_one 22)], ([], [], []), ([], []), [(.inl 3, 249, ([], [], [])), (.inr none, 249, ([], [], []))])
set_option maxRecDepth 100000 in
theorem pl_s596_s {X : Int → Int} {LX : Nat} : ck_Ok p2_OL X LX 143 pl_s596 := ck_ok_s (O := p2_OL) (X := X) (LX := LX) (E := [(9, [pl_s200]), (133, [pl_s595])]) (mi := 143) (cuts := []) (f := 86) (S := pl_s596) (lx := none) (XF := []) ⟨pl_nmu, ck_E1 (ck_S1 pl_s200_s ck_S0) (ck_E1 (ck_S1 pl_s595_s ck_S0) ck_E0)⟩ ck_X0 ck_l0 (by decide +kernel)
set_option maxRecDepth 100000 in
/-- GlacierMail$State.isRock -/
noncomputable def pl_s597 : ck_Sum := ((1, 0, 0), 249, [.inr (.inr (.inl 3)), .inl (ck_one 22)], ([], [], []), ([], []), [(.inr (some (.inl (ck_one 0))), 249, ([], [], [])), (.inr (some (.inl (ck_one 1))), 249, ([], [], []))])
set_option maxRecDepth 100000 in
theorem pl_s597_s {X : Int → Int} {LX : Nat} : ck_Ok p2_OL X LX 28 pl_s597 := ck_ok_s (O := p2_OL) (X := X) (LX := LX) (E := [(10, [pl_s204])]) (mi := 28) (cuts := []) (f := 90) (S := pl_s597) (lx := none) (XF := []) ⟨pl_nmu, ck_E1 (ck_S1 pl_s204_s ck_S0) ck_E0⟩ ck_X0 ck_l0 (by decide +kernel)
set_option maxRecDepth 100000 in
/-- GlacierMail.waits -/
noncomputable def pl_s598 : ck_Sum := ((2, 0, 0), 249, [.inr (.inr (.inl 1)), .inl (ck_one 22)], ([], [], [(3, 6, 6, (0, 299, [(10, 0)]))]), ([], []), [(.inr (some (.inl (ck_one 0))), 249, ([], [], [])), (.inr (some (.inl (ck_one 1))), 249, ([], [], []))])
set_option maxRecDepth 100000 in
theorem pl_s598_s {X : Int → Int} {LX : Nat} : ck_Ok p2_OL X LX 66 pl_s598 := ck_ok_s (O := p2_OL) (X := X) (LX := LX) (E := [(28, [pl_s597]), (10, [pl_s204, pl_s218]), (67, [pl_s219])]) (mi := 66) (cuts := []) (f := 134) (S := pl_s598) (lx := none) (XF := []) ⟨pl_nmu, ck_E1 (ck_S1 pl_s597_s ck_S0) (ck_E1 (ck_S1 pl_s204_s (ck_S1 pl_s218_s ck_S0)) (ck_E1 (ck_S1 pl_s219_s ck_S0) ck_E0))⟩ ck_X0 ck_l0 (by decide +kernel)
set_option maxRecDepth 100000 in
/-- GlacierMail$Rows.put -/
noncomputable def pl_s599 : ck_Sum := ((0, 0, 0), 249, [.inr (.inr (.inl 10)), .inl (ck_one 22), .inl (ck_one 5), .inl ((-1), 299, [])], ([], [], []), ([(11, 159, 159)], []), [(.inr none, 249, ([], [], []))])
set_option maxRecDepth 100000 in
theorem pl_s599_s {X : Int → Int} {LX : Nat} : ck_Ok p2_OL X LX 45 pl_s599 := ck_ok_s (O := p2_OL) (X := X) (LX := LX) (E := []) (mi := 45) (cuts := []) (f := 116) (S := pl_s599) (lx := none) (XF := []) ⟨pl_nmu, ck_E0⟩ ck_X0 ck_l0 (by decide +kernel)
set_option maxRecDepth 100000 in
/-- GlacierMail$Rows.put -/
noncomputable def pl_s600 : ck_Sum := ((0, 0, 0), 249, [.inr (.inr (.inl 10)), .inl (ck_one 22), .inl (ck_one 6), .inl (0, 299, [])], ([], [], []), ([(11, 160, 160)], []), [(.inr none, 249, ([], [], []))])
set_option maxRecDepth 100000 in
theorem pl_s600_s {X : Int → Int} {LX : Nat} : ck_Ok p2_OL X LX 45 pl_s600 := ck_ok_s (O := p2_OL) (X := X) (LX := LX) (E := []) (mi := 45) (cuts := []) (f := 116) (S := pl_s600) (lx := none) (XF := []) ⟨pl_nmu, ck_E0⟩ ck_X0 ck_l0 (by decide +kernel)
set_option maxRecDepth 100000 in
/-- GlacierMail$Rows.put -/
noncomputable def pl_s601 : ck_Sum := ((0, 0, 0), 249, [.inr (.inr (.inl 14)), .inl (0, 23, []), .inl (ck_one 1), .inl (ck_one 22)], ([], [], []), (zl173, []), [(.inr none, 249, ([], [], []))])
set_option maxRecDepth 100000 in
theorem pl_s601_s {X : Int → Int} {LX : Nat} : ck_Ok p2_OL X LX 45 pl_s601 := ck_ok_s (O := p2_OL) (X := X) (LX := LX) (E := []) (mi := 45) (cuts := []) (f := 116) (S := pl_s601) (lx := none) (XF := []) ⟨pl_nmu, ck_E0⟩ ck_X0 ck_l0 (by decide +kernel)
set_option maxRecDepth 100000 in
/-- GlacierMail$Rows.put -/
noncomputable def pl_s602 : ck_Sum := ((0, 0, 0), 249, [.inr (.inr (.inl 14)), .inl (ck_one (-1)), .inl (ck_one 1), .inl (ck_one 22)], ([], [], []), ([], []), [(.inr none, 249, ([], [], []))])
set_option maxRecDepth 100000 in
theorem pl_s602_s {X : Int → Int} {LX : Nat} : ck_Ok p2_OL X LX 45 pl_s602 := ck_ok_s (O := p2_OL) (X := X) (LX := LX) (E := []) (mi := 45) (cuts := []) (f := 76) (S := pl_s602) (lx := none) (XF := []) ⟨pl_nmu, ck_E0⟩ ck_X0 ck_l0 (by decide +kernel)
set_option maxRecDepth 100000 in
/-- GlacierMail$State.openLetter -/
noncomputable def pl_s603 : ck_Sum := ((1, 0, 0), 249, [.inr (.inr (.inl 3)), .inl (ck_one 22), .inl ((-1), 299, [])], ([], [], [(3, 6, 6, (0, 299, [(10, 0)]))]), ([(11, 159, 160), (14, 3, 3), (15, 0, 71)], []), [(.inr none, 249, ([], [], [(14, 3, 3, (1, 24, []))]))])
set_option maxRecDepth 100000 in
theorem pl_s603_s {X : Int → Int} {LX : Nat} : ck_Ok p2_OL X LX 159 pl_s603 := ck_ok_s (O := p2_OL) (X := X) (LX := LX) (E := [(45, [pl_s599, pl_s600, pl_s376, pl_s601, pl_s378, pl_s379, pl_s602, pl_s381]), (102, [pl_s382])]) (mi := 159) (cuts := []) (f := 144) (S := pl_s603) (lx := none) (XF := []) ⟨pl_nmu, ck_E1 (ck_S1 pl_s599_s (ck_S1 pl_s600_s (ck_S1 pl_s376_s (ck_S1 pl_s601_s (ck_S1 pl_s378_s (ck_S1 pl_s379_s (ck_S1 pl_s602_s (ck_S1 pl_s381_s ck_S0)))))))) (ck_E1 (ck_S1 pl_s382_s ck_S0) ck_E0)⟩ ck_X0 ck_l0 (by decide +kernel)
set_option maxRecDepth 100000 in
/-- GlacierMail.open -/
noncomputable def pl_s604 : ck_Sum := ((8, 2, 12), 249, [.inr (.inr (.inl 1)), .inl (ck_one 22)], ([], zl230, [(3, 6, 6, (0, 299, [(10, 0)]))]), ([(1, 15, 15), (11, 159, 160), (14, 3, 3), (15, 0, 71), (42, 1, 2), (44, 0, 7), (45, 3, 3), (46, 0, 55), (47, 3, 3), (48, 0, 23), (49, 3, 3), (50, 0, 23), (51, 3, 3), (52, 0, 167), (53, 3, 3), (54, 0, 35), (55, 3, 3), (56, 0, 71), (57, 0, 7), (58, 3, 3), (59, 0, 55), (60, 3, 3), (61, 0, 23), (62, 3, 3), (63, 0, 23), (64, 3, 3), (65, 0, 167), (66, 3, 3), (67, 0, 35), (68, 3, 3), (69, 0, 71), (70, 0, 7), (71, 3, 3), (72, 0, 55), (73, 3, 3), (74, 0, 23), (75, 3, 3), (76, 0, 23), (77, 3, 3), (78, 0, 167), (79, 3, 3), (80, 0, 35), (81, 3, 3), (82, 0, 71), (83, 0, 7), (84, 3, 3), (85, 0, 55), (86, 3, 3), (87, 0, 23), (88, 3, 3), (89, 0, 23), (90, 3, 3), (91, 0, 167), (92, 3, 3), (93, 0, 35), (94, 3, 3), (95, 0, 71), (96, 0, 7), (97, 3, 3), (98, 0, 55), (99, 3, 3), (100, 0, 23), (101, 3, 3), (102, 0, 23), (103, 3, 3), (104, 0, 167), (105, 3, 3), (106, 0, 35), (107, 3, 3), (108, 0, 71), (109, 0, 7), (110, 3, 3), (111, 0, 55), (112, 3, 3), (113, 0, 23), (114, 3, 3), (115, 0, 23), (116, 3, 3), (117, 0, 167), (118, 3, 3), (119, 0, 35), (120, 3, 3), (121, 0, 71), (122, 0, 7), (123, 3, 3), (124, 0, 55), (125, 3, 3), (126, 0, 23), (127, 3, 3), (128, 0, 23), (129, 3, 3), (130, 0, 167), (131, 3, 3), (132, 0, 35), (133, 3, 3), (134, 0, 71), (135, 0, 7), (136, 3, 3), (137, 0, 55), (138, 3, 3), (139, 0, 23), (140, 3, 3), (141, 0, 23), (142, 3, 3), (143, 0, 167), (144, 3, 3), (145, 0, 35), (146, 3, 3), (147, 0, 71), (148, 0, 7), (149, 3, 3), (150, 0, 55), (151, 3, 3), (152, 0, 23), (153, 3, 3), (154, 0, 23), (155, 3, 3), (156, 0, 167), (157, 3, 3), (158, 0, 35), (159, 3, 3), (160, 0, 71), (161, 0, 7), (162, 3, 3), (163, 0, 55), (164, 3, 3), (165, 0, 23), (166, 3, 3), (167, 0, 23), (168, 3, 3), (169, 0, 167), (170, 3, 3), (171, 0, 35), (172, 3, 3), (173, 0, 71), (174, 0, 7), (175, 3, 3), (176, 0, 55), (177, 3, 3), (178, 0, 23), (179, 3, 3), (180, 0, 23), (181, 3, 3), (182, 0, 167), (183, 3, 3), (184, 0, 35), (185, 3, 3), (186, 0, 71), (187, 0, 7), (188, 3, 3), (189, 0, 55), (190, 3, 3), (191, 0, 23), (192, 3, 3), (193, 0, 23), (194, 3, 3), (195, 0, 167), (196, 3, 3), (197, 0, 35), (198, 3, 3), (199, 0, 71), (200, 6, 6), (204, 0, 9), (205, 0, 14849), (206, 2, 8), (220, 3, 3), (221, 0, 47)], zl104), zl245)
set_option maxRecDepth 100000 in
theorem pl_s604_s {X : Int → Int} {LX : Nat} : ck_Ok p2_OL X LX 158 pl_s604 := ck_ok_s (O := p2_OL) (X := X) (LX := LX) (E := [(143, [pl_s596]), (24, [pl_s217]), (66, [pl_s598]), (154, [pl_s341]), (10, [pl_s204]), (159, [pl_s603])]) (mi := 158) (cuts := []) (f := 140) (S := pl_s604) (lx := none) (XF := []) ⟨pl_nmu, ck_E1 (ck_S1 pl_s596_s ck_S0) (ck_E1 (ck_S1 pl_s217_s ck_S0) (ck_E1 (ck_S1 pl_s598_s ck_S0) (ck_E1 (ck_S1 pl_s341_s ck_S0) (ck_E1 (ck_S1 pl_s204_s ck_S0) (ck_E1 (ck_S1 pl_s603_s ck_S0) ck_E0)))))⟩ ck_X0 ck_l0 (by decide +kernel)
set_option maxRecDepth 100000 in
/-- GlacierMail.need -/
noncomputable def pl_s605 : ck_Sum := ((6, 1, 6), 249, [.inr (.inr (.inl 1)), .inl (ck_one 23), .inl (0, 24, [])], ([], [], []), ([], []), [(.inr none, 249, ([], [], [])), (.inl 3, 249, ([], [], []))])
set_option maxRecDepth 100000 in
theorem pl_s605_s {X : Int → Int} {LX : Nat} : ck_Ok p2_OL X LX 133 pl_s605 := ck_ok_s (O := p2_OL) (X := X) (LX := LX) (E := []) (mi := 133) (cuts := []) (f := 82) (S := pl_s605) (lx := none) (XF := []) ⟨pl_nmu, ck_E0⟩ ck_X0 ck_l0 (by decide +kernel)
set_option maxRecDepth 100000 in
/-- GlacierMail.needLetter -/
noncomputable def pl_s606 : ck_Sum := ((7, 1, 6), 249, [.inr (.inr (.inl 1)), .inl (ck_one 23)], ([], [], []), ([], []), [(.inl 3, 249, ([], [], [])), (.inr none, 249, ([], [], []))])
set_option maxRecDepth 100000 in
theorem pl_s606_s {X : Int → Int} {LX : Nat} : ck_Ok p2_OL X LX 143 pl_s606 := ck_ok_s (O := p2_OL) (X := X) (LX := LX) (E := [(9, [pl_s200]), (133, [pl_s605])]) (mi := 143) (cuts := []) (f := 86) (S := pl_s606) (lx := none) (XF := []) ⟨pl_nmu, ck_E1 (ck_S1 pl_s200_s ck_S0) (ck_E1 (ck_S1 pl_s605_s ck_S0) ck_E0)⟩ ck_X0 ck_l0 (by decide +kernel)
set_option maxRecDepth 100000 in
/-- GlacierMail$State.isRock -/
noncomputable def pl_s607 : ck_Sum := ((1, 0, 0), 249, [.inr (.inr (.inl 3)), .inl (ck_one 23)], ([], [], []), ([], []), [(.inr (some (.inl (ck_one 0))), 249, ([], [], [])), (.inr (some (.inl (ck_one 1))), 249, ([], [], []))])
set_option maxRecDepth 100000 in
theorem pl_s607_s {X : Int → Int} {LX : Nat} : ck_Ok p2_OL X LX 28 pl_s607 := ck_ok_s (O := p2_OL) (X := X) (LX := LX) (E := [(10, [pl_s204])]) (mi := 28) (cuts := []) (f := 90) (S := pl_s607) (lx := none) (XF := []) ⟨pl_nmu, ck_E1 (ck_S1 pl_s204_s ck_S0) ck_E0⟩ ck_X0 ck_l0 (by decide +kernel)
set_option maxRecDepth 100000 in
/-- GlacierMail.waits -/
noncomputable def pl_s608 : ck_Sum := ((2, 0, 0), 249, [.inr (.inr (.inl 1)), .inl (ck_one 23)], ([], [], [(3, 6, 6, (0, 299, [(10, 0)]))]), ([], []), [(.inr (some (.inl (ck_one 0))), 249, ([], [], [])), (.inr (some (.inl (ck_one 1))), 249, ([], [], []))])
set_option maxRecDepth 100000 in
theorem pl_s608_s {X : Int → Int} {LX : Nat} : ck_Ok p2_OL X LX 66 pl_s608 := ck_ok_s (O := p2_OL) (X := X) (LX := LX) (E := [(28, [pl_s607]), (10, [pl_s204, pl_s218]), (67, [pl_s219])]) (mi := 66) (cuts := []) (f := 134) (S := pl_s608) (lx := none) (XF := []) ⟨pl_nmu, ck_E1 (ck_S1 pl_s607_s ck_S0) (ck_E1 (ck_S1 pl_s204_s (ck_S1 pl_s218_s ck_S0)) (ck_E1 (ck_S1 pl_s219_s ck_S0) ck_E0))⟩ ck_X0 ck_l0 (by decide +kernel)
set_option maxRecDepth 100000 in
/-- GlacierMail$Rows.put -/
noncomputable def pl_s609 : ck_Sum := ((0, 0, 0), 249, [.inr (.inr (.inl 10)), .inl (ck_one 23), .inl (ck_one 5), .inl ((-1), 299, [])], ([], [], []), ([(11, 166, 166)], []), [(.inr none, 249, ([], [], []))])
set_option maxRecDepth 100000 in
theorem pl_s609_s {X : Int → Int} {LX : Nat} : ck_Ok p2_OL X LX 45 pl_s609 := ck_ok_s (O := p2_OL) (X := X) (LX := LX) (E := []) (mi := 45) (cuts := []) (f := 116) (S := pl_s609) (lx := none) (XF := []) ⟨pl_nmu, ck_E0⟩ ck_X0 ck_l0 (by decide +kernel)
set_option maxRecDepth 100000 in
/-- GlacierMail$Rows.put -/
noncomputable def pl_s610 : ck_Sum := ((0, 0, 0), 249, [.inr (.inr (.inl 10)), .inl (ck_one 23), .inl (ck_one 6), .inl (0, 299, [])], ([], [], []), ([(11, 167, 167)], []), [(.inr none, 249, ([], [], []))])
set_option maxRecDepth 100000 in
theorem pl_s610_s {X : Int → Int} {LX : Nat} : ck_Ok p2_OL X LX 45 pl_s610 := ck_ok_s (O := p2_OL) (X := X) (LX := LX) (E := []) (mi := 45) (cuts := []) (f := 116) (S := pl_s610) (lx := none) (XF := []) ⟨pl_nmu, ck_E0⟩ ck_X0 ck_l0 (by decide +kernel)
set_option maxRecDepth 100000 in
/-- GlacierMail$Rows.put -/
noncomputable def pl_s611 : ck_Sum := ((0, 0, 0), 249, [.inr (.inr (.inl 14)), .inl (0, 23, []), .inl (ck_one 1), .inl (ck_one 23)], ([], [], []), (zl173, []), [(.inr none, 249, ([], [], []))])
set_option maxRecDepth 100000 in
theorem pl_s611_s {X : Int → Int} {LX : Nat} : ck_Ok p2_OL X LX 45 pl_s611 := ck_ok_s (O := p2_OL) (X := X) (LX := LX) (E := []) (mi := 45) (cuts := []) (f := 116) (S := pl_s611) (lx := none) (XF := []) ⟨pl_nmu, ck_E0⟩ ck_X0 ck_l0 (by decide +kernel)
set_option maxRecDepth 100000 in
/-- GlacierMail$Rows.put -/
noncomputable def pl_s612 : ck_Sum := ((0, 0, 0), 249, [.inr (.inr (.inl 14)), .inl (ck_one (-1)), .inl (ck_one 1), .inl (ck_one 23)], ([], [], []), ([], []), [(.inr none, 249, ([], [], []))])
set_option maxRecDepth 100000 in
theorem pl_s612_s {X : Int → Int} {LX : Nat} : ck_Ok p2_OL X LX 45 pl_s612 := ck_ok_s (O := p2_OL) (X := X) (LX := LX) (E := []) (mi := 45) (cuts := []) (f := 76) (S := pl_s612) (lx := none) (XF := []) ⟨pl_nmu, ck_E0⟩ ck_X0 ck_l0 (by decide +kernel)
set_option maxRecDepth 100000 in
/-- GlacierMail$State.openLetter -/
noncomputable def pl_s613 : ck_Sum := ((1, 0, 0), 249, [.inr (.inr (.inl 3)), .inl (ck_one 23), .inl ((-1), 299, [])], ([], [], [(3, 6, 6, (0, 299, [(10, 0)]))]), ([(11, 166, 167), (14, 3, 3), (15, 0, 71)], []), [(.inr none, 249, ([], [], [(14, 3, 3, (1, 24, []))]))])
set_option maxRecDepth 100000 in
theorem pl_s613_s {X : Int → Int} {LX : Nat} : ck_Ok p2_OL X LX 159 pl_s613 := ck_ok_s (O := p2_OL) (X := X) (LX := LX) (E := [(45, [pl_s609, pl_s610, pl_s376, pl_s611, pl_s378, pl_s379, pl_s612, pl_s381]), (102, [pl_s382])]) (mi := 159) (cuts := []) (f := 144) (S := pl_s613) (lx := none) (XF := []) ⟨pl_nmu, ck_E1 (ck_S1 pl_s609_s (ck_S1 pl_s610_s (ck_S1 pl_s376_s (ck_S1 pl_s611_s (ck_S1 pl_s378_s (ck_S1 pl_s379_s (ck_S1 pl_s612_s (ck_S1 pl_s381_s ck_S0)))))))) (ck_E1 (ck_S1 pl_s382_s ck_S0) ck_E0)⟩ ck_X0 ck_l0 (by decide +kernel)
set_option maxRecDepth 100000 in
/-- GlacierMail.open -/
noncomputable def pl_s614 : ck_Sum := ((8, 2, 12), 249, [.inr (.inr (.inl 1)), .inl (ck_one 23)], ([], zl230, [(3, 6, 6, (0, 299, [(10, 0)]))]), ([(1, 15, 15), (11, 166, 167), (14, 3, 3), (15, 0, 71), (42, 1, 2), (44, 0, 7), (45, 3, 3), (46, 0, 55), (47, 3, 3), (48, 0, 23), (49, 3, 3), (50, 0, 23), (51, 3, 3), (52, 0, 167), (53, 3, 3), (54, 0, 35), (55, 3, 3), (56, 0, 71), (57, 0, 7), (58, 3, 3), (59, 0, 55), (60, 3, 3), (61, 0, 23), (62, 3, 3), (63, 0, 23), (64, 3, 3), (65, 0, 167), (66, 3, 3), (67, 0, 35), (68, 3, 3), (69, 0, 71), (70, 0, 7), (71, 3, 3), (72, 0, 55), (73, 3, 3), (74, 0, 23), (75, 3, 3), (76, 0, 23), (77, 3, 3), (78, 0, 167), (79, 3, 3), (80, 0, 35), (81, 3, 3), (82, 0, 71), (83, 0, 7), (84, 3, 3), (85, 0, 55), (86, 3, 3), (87, 0, 23), (88, 3, 3), (89, 0, 23), (90, 3, 3), (91, 0, 167), (92, 3, 3), (93, 0, 35), (94, 3, 3), (95, 0, 71), (96, 0, 7), (97, 3, 3), (98, 0, 55), (99, 3, 3), (100, 0, 23), (101, 3, 3), (102, 0, 23), (103, 3, 3), (104, 0, 167), (105, 3, 3), (106, 0, 35), (107, 3, 3), (108, 0, 71), (109, 0, 7), (110, 3, 3), (111, 0, 55), (112, 3, 3), (113, 0, 23), (114, 3, 3), (115, 0, 23), (116, 3, 3), (117, 0, 167), (118, 3, 3), (119, 0, 35), (120, 3, 3), (121, 0, 71), (122, 0, 7), (123, 3, 3), (124, 0, 55), (125, 3, 3), (126, 0, 23), (127, 3, 3), (128, 0, 23), (129, 3, 3), (130, 0, 167), (131, 3, 3), (132, 0, 35), (133, 3, 3), (134, 0, 71), (135, 0, 7), (136, 3, 3), (137, 0, 55), (138, 3, 3), (139, 0, 23), (140, 3, 3), (141, 0, 23), (142, 3, 3), (143, 0, 167), (144, 3, 3), (145, 0, 35), (146, 3, 3), (147, 0, 71), (148, 0, 7), (149, 3, 3), (150, 0, 55), (151, 3, 3), (152, 0, 23), (153, 3, 3), (154, 0, 23), (155, 3, 3), (156, 0, 167), (157, 3, 3), (158, 0, 35), (159, 3, 3), (160, 0, 71), (161, 0, 7), (162, 3, 3), (163, 0, 55), (164, 3, 3), (165, 0, 23), (166, 3, 3), (167, 0, 23), (168, 3, 3), (169, 0, 167), (170, 3, 3), (171, 0, 35), (172, 3, 3), (173, 0, 71), (174, 0, 7), (175, 3, 3), (176, 0, 55), (177, 3, 3), (178, 0, 23), (179, 3, 3), (180, 0, 23), (181, 3, 3), (182, 0, 167), (183, 3, 3), (184, 0, 35), (185, 3, 3), (186, 0, 71), (187, 0, 7), (188, 3, 3), (189, 0, 55), (190, 3, 3), (191, 0, 23), (192, 3, 3), (193, 0, 23), (194, 3, 3), (195, 0, 167), (196, 3, 3), (197, 0, 35), (198, 3, 3), (199, 0, 71), (200, 6, 6), (204, 0, 9), (205, 0, 14849), (206, 2, 8), (220, 3, 3), (221, 0, 47)], zl104), zl245)
set_option maxRecDepth 100000 in
theorem pl_s614_s {X : Int → Int} {LX : Nat} : ck_Ok p2_OL X LX 158 pl_s614 := ck_ok_s (O := p2_OL) (X := X) (LX := LX) (E := [(143, [pl_s606]), (24, [pl_s217]), (66, [pl_s608]), (154, [pl_s341]), (10, [pl_s204]), (159, [pl_s613])]) (mi := 158) (cuts := []) (f := 140) (S := pl_s614) (lx := none) (XF := []) ⟨pl_nmu, ck_E1 (ck_S1 pl_s606_s ck_S0) (ck_E1 (ck_S1 pl_s217_s ck_S0) (ck_E1 (ck_S1 pl_s608_s ck_S0) (ck_E1 (ck_S1 pl_s341_s ck_S0) (ck_E1 (ck_S1 pl_s204_s ck_S0) (ck_E1 (ck_S1 pl_s613_s ck_S0) ck_E0)))))⟩ ck_X0 ck_l0 (by decide +kernel)
set_option maxRecDepth 100000 in
/-- GlacierMail.years -/
noncomputable def pl_s615 : ck_Sum := ((6, 1, 6), 249, [.inr (.inr (.inl 1)), .inl ((-2147483648), 0, [])], ([], [], []), ([], []), [(.inl 0, 249, ([], [], []))])
set_option maxRecDepth 100000 in
theorem pl_s615_s {X : Int → Int} {LX : Nat} : ck_Ok p2_OL X LX 161 pl_s615 := ck_ok_s (O := p2_OL) (X := X) (LX := LX) (E := []) (mi := 161) (cuts := []) (f := 78) (S := pl_s615) (lx := none) (XF := []) ⟨pl_nmu, ck_E0⟩ ck_X0 ck_l0 (by decide +kernel)
set_option maxRecDepth 100000 in
/-- GlacierMail.years -/
noncomputable def pl_s616 : ck_Sum := ((6, 1, 6), 249, [.inr (.inr (.inl 1)), .inl (51, 2147483647, [])], ([], [], []), ([], []), [(.inl 0, 249, ([], [], []))])
set_option maxRecDepth 100000 in
theorem pl_s616_s {X : Int → Int} {LX : Nat} : ck_Ok p2_OL X LX 161 pl_s616 := ck_ok_s (O := p2_OL) (X := X) (LX := LX) (E := []) (mi := 161) (cuts := []) (f := 84) (S := pl_s616) (lx := none) (XF := []) ⟨pl_nmu, ck_E0⟩ ck_X0 ck_l0 (by decide +kernel)
set_option maxRecDepth 100000 in
/-- GlacierMail$Ice.setFacts -/
noncomputable def pl_s617 : ck_Sum := ((1, 0, 0), 249, [.inr (.inr (.inl 200)), .inl ((-1), 98, []), .inl (10, 99, []), .inl (0, 299, []), .inl (ck_one 0)], ([], [], []), ([(204, 0, 9)], []), [(.inr none, 249, ([], [], [(204, 9, 9, (0, 1, [])), (204, 8, 8, (0, 1, [])), (204, 7, 7, ck_one 0), (204, 6, 6, ck_one 0), (204, 5, 5, ck_one 0), (204, 4, 4, ck_one 0), (204, 3, 3, (0, 9, [])), (204, 2, 2, (0, 299, [])), (204, 1, 1, (10, 99, [])), (204, 0, 0, ((-1), 98, []))]))])
set_option maxRecDepth 100000 in
theorem pl_s617_s {X : Int → Int} {LX : Nat} : ck_Ok p2_OL X LX 39 pl_s617 := ck_ok_s (O := p2_OL) (X := X) (LX := LX) (E := [(34, [pl_s150])]) (mi := 39) (cuts := []) (f := 208) (S := pl_s617) (lx := none) (XF := []) ⟨pl_nmu, ck_E1 (ck_S1 pl_s150_s ck_S0) ck_E0⟩ ck_X0 ck_l0 (by decide +kernel)
set_option maxRecDepth 100000 in
/-- GlacierMail$Law.letsOpen -/
noncomputable def pl_s618 : ck_Sum := ((1, 0, 0), 249, [.inr (.inr (.inl 246)), .inr (.inr (.inl 204))], ([], [], []), ([], []), [(.inr (some (.inl (ck_one 0))), 249, ([], [], [])), (.inr (some (.inl (ck_one 1))), 249, ([], [], []))])
set_option maxRecDepth 100000 in
theorem pl_s618_s {X : Int → Int} {LX : Nat} : ck_Ok p2_OL X LX 165 pl_s618 := ck_ok_s (O := p2_OL) (X := X) (LX := LX) (E := [(9, [pl_s182]), (10, [pl_s183]), (41, [lh_S])]) (mi := 165) (cuts := [(2, [some (.inr (.inr (.inl 246))), some (.inr (.inr (.inl 204))), some (.inl (0, 12, [])), none], ([], [], []), 100, .inl 2, true)]) (f := 226) (S := pl_s618) (lx := none) (XF := []) ⟨pl_nmu, ck_E1 (ck_S1 pl_s182_s ck_S0) (ck_E1 (ck_S1 pl_s183_s ck_S0) (ck_E1 (ck_S1 lh_S_s ck_S0) ck_E0))⟩ ck_X0 ck_l0 (by decide +kernel)
set_option maxRecDepth 100000 in
/-- GlacierMail$Ice.mayOpen -/
noncomputable def pl_s619 : ck_Sum := ((2, 0, 0), 249, [.inr (.inr (.inl 200)), .inl (0, 7, []), .inl ((-1), 98, []), .inl ((-299), 300, []), .inl ((-2147483648), 299, [])], ([], [(3, 8, 246)], [(3, 6, 6, (0, 299, [(10, 0)]))]), ([(204, 0, 9)], []), [(.inr (some (.inl (ck_one 0))), 249, ([], [], zl246)), (.inr (some (.inl (ck_one 1))), 249, ([], [], zl246))])
set_option maxRecDepth 100000 in
theorem pl_s619_s {X : Int → Int} {LX : Nat} : ck_Ok p2_OL X LX 164 pl_s619 := ck_ok_s (O := p2_OL) (X := X) (LX := LX) (E := [(39, [pl_s617]), (165, [pl_s618])]) (mi := 164) (cuts := []) (f := 142) (S := pl_s619) (lx := none) (XF := []) ⟨pl_nmu, ck_E1 (ck_S1 pl_s617_s ck_S0) (ck_E1 (ck_S1 pl_s618_s ck_S0) ck_E0)⟩ ck_X0 ck_l0 (by decide +kernel)
set_option maxRecDepth 100000 in
/-- GlacierMail.openerOf -/
noncomputable def pl_s620 : ck_Sum := ((3, 0, 0), 249, [.inr (.inr (.inl 1)), .inl (0, 23, [])], ([], [(3, 8, 246)], [(3, 6, 6, (0, 299, [(10, 0)]))]), ([(204, 0, 9)], []), [(.inr (some (.inl ((-1), 299, []))), 249, ([], [], [])), (.inr (some (.inl (0, 7, []))), 249, ([], [], zl246))])
set_option maxRecDepth 100000 in
theorem pl_s620_s {X : Int → Int} {LX : Nat} : ck_Ok p2_OL X LX 163 pl_s620 := ck_ok_s (O := p2_OL) (X := X) (LX := LX) (E := [(10, [pl_s204, pl_s224, pl_s218]), (9, [pl_s189]), (164, [pl_s619])]) (mi := 163) (cuts := [(69, [some (.inr (.inr (.inl 1))), some (.inl (0, 23, [])), some (.inl ((-1), 299, [])), some (.inl ((-1), 299, [])), some (.inl ((-299), 300, [])), some (.inl (0, 9, []))], ([], [(3, 8, 246)], [(3, 6, 6, (0, 299, [(10, 0)]))]), 100, .inl 5, true)]) (f := 234) (S := pl_s620) (lx := none) (XF := []) ⟨pl_nmu, ck_E1 (ck_S1 pl_s204_s (ck_S1 pl_s224_s (ck_S1 pl_s218_s ck_S0))) (ck_E1 (ck_S1 pl_s189_s ck_S0) (ck_E1 (ck_S1 pl_s619_s ck_S0) ck_E0))⟩ ck_X0 ck_l0 (by decide +kernel)
set_option maxRecDepth 100000 in
/-- GlacierMail$Rows.put -/
noncomputable def pl_s621 : ck_Sum := ((0, 0, 0), 249, [.inr (.inr (.inl 10)), .inl (0, 23, []), .inl (ck_one 5), .inl (0, 299, [])], ([], [], []), (zl137, []), [(.inr none, 249, ([], [], []))])
set_option maxRecDepth 100000 in
theorem pl_s621_s {X : Int → Int} {LX : Nat} : ck_Ok p2_OL X LX 45 pl_s621 := ck_ok_s (O := p2_OL) (X := X) (LX := LX) (E := []) (mi := 45) (cuts := []) (f := 116) (S := pl_s621) (lx := none) (XF := []) ⟨pl_nmu, ck_E0⟩ ck_X0 ck_l0 (by decide +kernel)
set_option maxRecDepth 100000 in
/-- GlacierMail$Rows.put -/
noncomputable def pl_s622 : ck_Sum := ((0, 0, 0), 249, [.inr (.inr (.inl 10)), .inl (0, 23, []), .inl (ck_one 6), .inl (0, 299, [])], ([], [], []), (zl138, []), [(.inr none, 249, ([], [], []))])
set_option maxRecDepth 100000 in
theorem pl_s622_s {X : Int → Int} {LX : Nat} : ck_Ok p2_OL X LX 45 pl_s622 := ck_ok_s (O := p2_OL) (X := X) (LX := LX) (E := []) (mi := 45) (cuts := []) (f := 116) (S := pl_s622) (lx := none) (XF := []) ⟨pl_nmu, ck_E0⟩ ck_X0 ck_l0 (by decide +kernel)
set_option maxRecDepth 100000 in
/-- GlacierMail$Rows.put -/
noncomputable def pl_s623 : ck_Sum := ((0, 0, 0), 249, [.inr (.inr (.inl 14)), .inl (0, 23, []), .inl (ck_one 1), .inl (0, 23, [])], ([], [], []), (zl173, []), [(.inr none, 249, ([], [], []))])
set_option maxRecDepth 100000 in
theorem pl_s623_s {X : Int → Int} {LX : Nat} : ck_Ok p2_OL X LX 45 pl_s623 := ck_ok_s (O := p2_OL) (X := X) (LX := LX) (E := []) (mi := 45) (cuts := []) (f := 116) (S := pl_s623) (lx := none) (XF := []) ⟨pl_nmu, ck_E0⟩ ck_X0 ck_l0 (by decide +kernel)
set_option maxRecDepth 100000 in
/-- GlacierMail$Rows.put -/
noncomputable def pl_s624 : ck_Sum := ((0, 0, 0), 249, [.inr (.inr (.inl 14)), .inl (0, 23, []), .inl (ck_one 2), .inl (0, 299, [])], ([], [], []), (zl174, []), [(.inr none, 249, ([], [], []))])
set_option maxRecDepth 100000 in
theorem pl_s624_s {X : Int → Int} {LX : Nat} : ck_Ok p2_OL X LX 45 pl_s624 := ck_ok_s (O := p2_OL) (X := X) (LX := LX) (E := []) (mi := 45) (cuts := []) (f := 116) (S := pl_s624) (lx := none) (XF := []) ⟨pl_nmu, ck_E0⟩ ck_X0 ck_l0 (by decide +kernel)
set_option maxRecDepth 100000 in
/-- GlacierMail$Rows.put -/
noncomputable def pl_s625 : ck_Sum := ((0, 0, 0), 249, [.inr (.inr (.inl 14)), .inl (ck_one (-1)), .inl (ck_one 1), .inl (0, 23, [])], ([], [], []), ([], []), [(.inr none, 249, ([], [], []))])
set_option maxRecDepth 100000 in
theorem pl_s625_s {X : Int → Int} {LX : Nat} : ck_Ok p2_OL X LX 45 pl_s625 := ck_ok_s (O := p2_OL) (X := X) (LX := LX) (E := []) (mi := 45) (cuts := []) (f := 76) (S := pl_s625) (lx := none) (XF := []) ⟨pl_nmu, ck_E0⟩ ck_X0 ck_l0 (by decide +kernel)
set_option maxRecDepth 100000 in
/-- GlacierMail$Rows.put -/
noncomputable def pl_s626 : ck_Sum := ((0, 0, 0), 249, [.inr (.inr (.inl 14)), .inl (ck_one (-1)), .inl (ck_one 2), .inl (0, 299, [])], ([], [], []), ([], []), [(.inr none, 249, ([], [], []))])
set_option maxRecDepth 100000 in
theorem pl_s626_s {X : Int → Int} {LX : Nat} : ck_Ok p2_OL X LX 45 pl_s626 := ck_ok_s (O := p2_OL) (X := X) (LX := LX) (E := []) (mi := 45) (cuts := []) (f := 76) (S := pl_s626) (lx := none) (XF := []) ⟨pl_nmu, ck_E0⟩ ck_X0 ck_l0 (by decide +kernel)
set_option maxRecDepth 100000 in
/-- GlacierMail$State.openLetter -/
noncomputable def pl_s627 : ck_Sum := ((1, 0, 0), 249, [.inr (.inr (.inl 3)), .inl (0, 23, []), .inl (0, 299, [])], ([], [], [(3, 6, 6, (0, 299, [(10, 0)]))]), (zl178, []), [(.inr none, 249, ([], [], [(14, 3, 3, (1, 24, []))]))])
set_option maxRecDepth 100000 in
theorem pl_s627_s {X : Int → Int} {LX : Nat} : ck_Ok p2_OL X LX 159 pl_s627 := ck_ok_s (O := p2_OL) (X := X) (LX := LX) (E := [(45, [pl_s621, pl_s622, pl_s376, pl_s623, pl_s624, pl_s379, pl_s625, pl_s626]), (102, [pl_s382])]) (mi := 159) (cuts := []) (f := 144) (S := pl_s627) (lx := none) (XF := []) ⟨pl_nmu, ck_E1 (ck_S1 pl_s621_s (ck_S1 pl_s622_s (ck_S1 pl_s376_s (ck_S1 pl_s623_s (ck_S1 pl_s624_s (ck_S1 pl_s379_s (ck_S1 pl_s625_s (ck_S1 pl_s626_s ck_S0)))))))) (ck_E1 (ck_S1 pl_s382_s ck_S0) ck_E0)⟩ ck_X0 ck_l0 (by decide +kernel)
set_option maxRecDepth 100000 in
/-- GlacierMail$Rows.put -/
noncomputable def pl_s628 : ck_Sum := ((0, 0, 0), 249, [.inr (.inr (.inl 10)), .inl (0, 23, []), .inl (ck_one 5), .inl (0, 7, [])], ([], [], []), (zl137, []), [(.inr none, 249, ([], [], []))])
set_option maxRecDepth 100000 in
theorem pl_s628_s {X : Int → Int} {LX : Nat} : ck_Ok p2_OL X LX 45 pl_s628 := ck_ok_s (O := p2_OL) (X := X) (LX := LX) (E := []) (mi := 45) (cuts := []) (f := 116) (S := pl_s628) (lx := none) (XF := []) ⟨pl_nmu, ck_E0⟩ ck_X0 ck_l0 (by decide +kernel)
set_option maxRecDepth 100000 in
/-- GlacierMail$Rows.put -/
noncomputable def pl_s629 : ck_Sum := ((0, 0, 0), 249, [.inr (.inr (.inl 14)), .inl (0, 23, []), .inl (ck_one 2), .inl (0, 7, [])], ([], [], []), (zl174, []), [(.inr none, 249, ([], [], []))])
set_option maxRecDepth 100000 in
theorem pl_s629_s {X : Int → Int} {LX : Nat} : ck_Ok p2_OL X LX 45 pl_s629 := ck_ok_s (O := p2_OL) (X := X) (LX := LX) (E := []) (mi := 45) (cuts := []) (f := 116) (S := pl_s629) (lx := none) (XF := []) ⟨pl_nmu, ck_E0⟩ ck_X0 ck_l0 (by decide +kernel)
set_option maxRecDepth 100000 in
/-- GlacierMail$Rows.put -/
noncomputable def pl_s630 : ck_Sum := ((0, 0, 0), 249, [.inr (.inr (.inl 14)), .inl (ck_one (-1)), .inl (ck_one 2), .inl (0, 7, [])], ([], [], []), ([], []), [(.inr none, 249, ([], [], []))])
set_option maxRecDepth 100000 in
theorem pl_s630_s {X : Int → Int} {LX : Nat} : ck_Ok p2_OL X LX 45 pl_s630 := ck_ok_s (O := p2_OL) (X := X) (LX := LX) (E := []) (mi := 45) (cuts := []) (f := 76) (S := pl_s630) (lx := none) (XF := []) ⟨pl_nmu, ck_E0⟩ ck_X0 ck_l0 (by decide +kernel)
end
/-! 78r86a07.sl -/
section
/-! EVERY CALL OF THE CLASS ENDS, under a law (laid by wip/am/p2l.py). -/
set_option maxRecDepth 100000 in
/-- GlacierMail$State.openLetter -/
noncomputable def pl_s631 : ck_Sum := ((1, 0, 0), 249, [.inr (.inr (.inl 3)), .inl (0, 23, []), .inl (0, 7, [])], ([], [], [(3, 6, 6, (0, 299, [(10, 0)]))]), (zl178, []), [(.inr none, 249, ([], [], [(14, 3, 3, (1, 24, []))]))])
set_option maxRecDepth 100000 in
theorem pl_s631_s {X : Int → Int} {LX : Nat} : ck_Ok p2_OL X LX 159 pl_s631 := ck_ok_s (O := p2_OL) (X := X) (LX := LX) (E := [(45, [pl_s628, pl_s622, pl_s376, pl_s623, pl_s629, pl_s379, pl_s625, pl_s630]), (102, [pl_s382])]) (mi := 159) (cuts := []) (f := 144) (S := pl_s631) (lx := none) (XF := []) ⟨pl_nmu, ck_E1 (ck_S1 pl_s628_s (ck_S1 pl_s622_s (ck_S1 pl_s376_s (ck_S1 pl_s623_s (ck_S1 pl_s629_s (ck_S1 pl_s379_s (ck_S1 pl_s625_s (ck_S1 pl_s630_s ck_S0)))))))) (ck_E1 (ck_S1 pl_s382_s ck_S0) ck_E0)⟩ ck_X0 ck_l0 (by decide +kernel)
set_option maxRecDepth 100000 in
/-- GlacierMail.oneYearMore -/
noncomputable def pl_s632 : ck_Sum := ((4, 0, 0), 249, [.inr (.inr (.inl 1))], ([], [(3, 8, 246)], [(3, 6, 6, (0, 298, [(10, 0)]))]), ([(3, 6, 6), (11, 5, 6), (11, 12, 13), (11, 19, 20), (11, 26, 27), (11, 33, 34), (11, 40, 41), (11, 47, 48), (11, 54, 55), (11, 61, 62), (11, 68, 69), (11, 75, 76), (11, 82, 83), (11, 89, 90), (11, 96, 97), (11, 103, 104), (11, 110, 111), (11, 117, 118), (11, 124, 125), (11, 131, 132), (11, 138, 139), (11, 145, 146), (11, 152, 153), (11, 159, 160), (11, 166, 167), (14, 3, 3), (15, 0, 71), (204, 0, 9)], []), [(.inr (some (.inl ((-2147483648), 2147483647, []))), 249, ([], [], [(3, 6, 6, (1, 299, [(10, 1)]))]))])
set_option maxRecDepth 100000 in
theorem pl_s632_s {X : Int → Int} {LX : Nat} : ck_Ok p2_OL X LX 162 pl_s632 := ck_ok_s (O := p2_OL) (X := X) (LX := LX) (E := [(9, [pl_s200]), (66, [pl_s220]), (163, [pl_s620]), (159, [pl_s627, pl_s631])]) (mi := 162) (cuts := [(17, [some (.inr (.inr (.inl 1))), some (.inl ((-2147483648), 2147483647, [])), some (.inl (0, 24, [])), none], ([], [(3, 8, 246)], [(3, 6, 6, (1, 299, [(10, 1)]))]), 100, .inl 2, true)]) (f := 194) (S := pl_s632) (lx := none) (XF := []) ⟨pl_nmu, ck_E1 (ck_S1 pl_s200_s ck_S0) (ck_E1 (ck_S1 pl_s220_s ck_S0) (ck_E1 (ck_S1 pl_s620_s ck_S0) (ck_E1 (ck_S1 pl_s627_s (ck_S1 pl_s631_s ck_S0)) ck_E0)))⟩ ck_X0 ck_l0 (by decide +kernel)
set_option maxRecDepth 100000 in
/-- GlacierMail.years, any number -/
noncomputable def pl_yy : ck_Sum := ((6, 1, 6), 249, [.inr (.inr (.inl 1)), .inl (1, 50, [])], ([], zl230, [(3, 6, 6, (0, 299, [(10, 0)]))]), ([(1, 15, 15), (3, 6, 6), (11, 5, 6), (11, 12, 13), (11, 19, 20), (11, 26, 27), (11, 33, 34), (11, 40, 41), (11, 47, 48), (11, 54, 55), (11, 61, 62), (11, 68, 69), (11, 75, 76), (11, 82, 83), (11, 89, 90), (11, 96, 97), (11, 103, 104), (11, 110, 111), (11, 117, 118), (11, 124, 125), (11, 131, 132), (11, 138, 139), (11, 145, 146), (11, 152, 153), (11, 159, 160), (11, 166, 167), (14, 3, 3), (15, 0, 71), (42, 1, 2), (44, 0, 7), (45, 3, 3), (46, 0, 55), (47, 3, 3), (48, 0, 23), (49, 3, 3), (50, 0, 23), (51, 3, 3), (52, 0, 167), (53, 3, 3), (54, 0, 35), (55, 3, 3), (56, 0, 71), (57, 0, 7), (58, 3, 3), (59, 0, 55), (60, 3, 3), (61, 0, 23), (62, 3, 3), (63, 0, 23), (64, 3, 3), (65, 0, 167), (66, 3, 3), (67, 0, 35), (68, 3, 3), (69, 0, 71), (70, 0, 7), (71, 3, 3), (72, 0, 55), (73, 3, 3), (74, 0, 23), (75, 3, 3), (76, 0, 23), (77, 3, 3), (78, 0, 167), (79, 3, 3), (80, 0, 35), (81, 3, 3), (82, 0, 71), (83, 0, 7), (84, 3, 3), (85, 0, 55), (86, 3, 3), (87, 0, 23), (88, 3, 3), (89, 0, 23), (90, 3, 3), (91, 0, 167), (92, 3, 3), (93, 0, 35), (94, 3, 3), (95, 0, 71), (96, 0, 7), (97, 3, 3), (98, 0, 55), (99, 3, 3), (100, 0, 23), (101, 3, 3), (102, 0, 23), (103, 3, 3), (104, 0, 167), (105, 3, 3), (106, 0, 35), (107, 3, 3), (108, 0, 71), (109, 0, 7), (110, 3, 3), (111, 0, 55), (112, 3, 3), (113, 0, 23), (114, 3, 3), (115, 0, 23), (116, 3, 3), (117, 0, 167), (118, 3, 3), (119, 0, 35), (120, 3, 3), (121, 0, 71), (122, 0, 7), (123, 3, 3), (124, 0, 55), (125, 3, 3), (126, 0, 23), (127, 3, 3), (128, 0, 23), (129, 3, 3), (130, 0, 167), (131, 3, 3), (132, 0, 35), (133, 3, 3), (134, 0, 71), (135, 0, 7), (136, 3, 3), (137, 0, 55), (138, 3, 3), (139, 0, 23), (140, 3, 3), (141, 0, 23), (142, 3, 3), (143, 0, 167), (144, 3, 3), (145, 0, 35), (146, 3, 3), (147, 0, 71), (148, 0, 7), (149, 3, 3), (150, 0, 55), (151, 3, 3), (152, 0, 23), (153, 3, 3), (154, 0, 23), (155, 3, 3), (156, 0, 167), (157, 3, 3), (158, 0, 35), (159, 3, 3), (160, 0, 71), (161, 0, 7), (162, 3, 3), (163, 0, 55), (164, 3, 3), (165, 0, 23), (166, 3, 3), (167, 0, 23), (168, 3, 3), (169, 0, 167), (170, 3, 3), (171, 0, 35), (172, 3, 3), (173, 0, 71), (174, 0, 7), (175, 3, 3), (176, 0, 55), (177, 3, 3), (178, 0, 23), (179, 3, 3), (180, 0, 23), (181, 3, 3), (182, 0, 167), (183, 3, 3), (184, 0, 35), (185, 3, 3), (186, 0, 71), (187, 0, 7), (188, 3, 3), (189, 0, 55), (190, 3, 3), (191, 0, 23), (192, 3, 3), (193, 0, 23), (194, 3, 3), (195, 0, 167), (196, 3, 3), (197, 0, 35), (198, 3, 3), (199, 0, 71), (200, 6, 6), (204, 0, 9), (205, 0, 14849), (206, 2, 8), (220, 3, 3), (221, 0, 47)], zl104), [(.inr (some (.inl ((-2147483648), 2147483647, []))), 249, ([], zl105, [])), (.inr (some (.inl ((-2147483648), 2147483647, []))), 249, ([], zl242, [])), (.inr (some (.inl ((-2147483648), 2147483647, []))), 249, ([], zl241, [])), (.inr (some (.inl ((-2147483648), 2147483647, []))), 249, ([], zl240, [])), (.inr (some (.inl ((-2147483648), 2147483647, []))), 249, ([], zl239, [])), (.inr (some (.inl ((-2147483648), 2147483647, []))), 249, ([], zl238, [])), (.inr (some (.inl ((-2147483648), 2147483647, []))), 249, ([], zl237, [])), (.inr (some (.inl ((-2147483648), 2147483647, []))), 249, ([], zl236, [])), (.inr (some (.inl ((-2147483648), 2147483647, []))), 249, ([], zl235, [])), (.inr (some (.inl ((-2147483648), 2147483647, []))), 249, ([], zl234, [])), (.inr (some (.inl ((-2147483648), 2147483647, []))), 249, ([], zl233, [])), (.inr (some (.inl ((-2147483648), 2147483647, []))), 249, ([], zl232, [])), (.inr (some (.inl ((-2147483648), 2147483647, []))), 249, ([], zl231, [])), (.inl 0, 249, ([], zl105, []))])
noncomputable def pl_yy_E : List (Nat × List ck_Sum) := [(154, [pl_s341]), (24, [pl_s217]), (162, [pl_s632])]
noncomputable def pl_yy_RF : List (Nat × Int × Nat) := [(3, 8, 246), (44, 8, 100044), (57, 8, 100057), (70, 8, 100070), (83, 8, 100083), (96, 8, 100096), (109, 8, 100109), (122, 8, 100122), (135, 8, 100135), (148, 8, 100148), (161, 8, 100161), (174, 8, 100174), (187, 8, 100187)]
set_option maxRecDepth 100000 in
noncomputable def pl_yy_RS : List (Nat × List (Nat × Int × Nat)) := [(0, [(3, 8, 246), (44, 8, 100044), (57, 8, 100057), (70, 8, 100070), (83, 8, 100083), (96, 8, 100096), (109, 8, 100109), (122, 8, 100122), (135, 8, 100135), (148, 8, 100148), (161, 8, 100161), (174, 8, 100174), (187, 8, 100187)]), (2000000, [(3, 8, 246), (44, 8, 246), (57, 8, 100057), (70, 8, 100070), (83, 8, 100083), (96, 8, 100096), (109, 8, 100109), (122, 8, 100122), (135, 8, 100135), (148, 8, 100148), (161, 8, 100161), (174, 8, 100174), (187, 8, 100187)]), (2000001, [(3, 8, 246), (44, 8, 100044), (57, 8, 100057), (70, 8, 100070), (83, 8, 100083), (96, 8, 100096), (109, 8, 100109), (122, 8, 100122), (135, 8, 100135), (148, 8, 100148), (161, 8, 100161), (174, 8, 100174), (187, 8, 246)]), (2000002, [(3, 8, 246), (44, 8, 100044), (57, 8, 100057), (70, 8, 100070), (83, 8, 100083), (96, 8, 100096), (109, 8, 100109), (122, 8, 100122), (135, 8, 100135), (148, 8, 100148), (161, 8, 100161), (174, 8, 246), (187, 8, 100187)]), (2000003, [(3, 8, 246), (44, 8, 100044), (57, 8, 100057), (70, 8, 100070), (83, 8, 100083), (96, 8, 100096), (109, 8, 100109), (122, 8, 100122), (135, 8, 100135), (148, 8, 100148), (161, 8, 246), (174, 8, 100174), (187, 8, 100187)]), (2000004, [(3, 8, 246), (44, 8, 100044), (57, 8, 100057), (70, 8, 100070), (83, 8, 100083), (96, 8, 100096), (109, 8, 100109), (122, 8, 100122), (135, 8, 100135), (148, 8, 246), (161, 8, 100161), (174, 8, 100174), (187, 8, 100187)]), (2000005, [(3, 8, 246), (44, 8, 100044), (57, 8, 100057), (70, 8, 100070), (83, 8, 100083), (96, 8, 100096), (109, 8, 100109), (122, 8, 100122), (135, 8, 246), (148, 8, 100148), (161, 8, 100161), (174, 8, 100174), (187, 8, 100187)]), (2000006, [(3, 8, 246), (44, 8, 100044), (57, 8, 100057), (70, 8, 100070), (83, 8, 100083), (96, 8, 100096), (109, 8, 100109), (122, 8, 246), (135, 8, 100135), (148, 8, 100148), (161, 8, 100161), (174, 8, 100174), (187, 8, 100187)]), (2000007, [(3, 8, 246), (44, 8, 100044), (57, 8, 100057), (70, 8, 100070), (83, 8, 100083), (96, 8, 100096), (109, 8, 246), (122, 8, 100122), (135, 8, 100135), (148, 8, 100148), (161, 8, 100161), (174, 8, 100174), (187, 8, 100187)]), (2000008, [(3, 8, 246), (44, 8, 100044), (57, 8, 100057), (70, 8, 100070), (83, 8, 100083), (96, 8, 246), (109, 8, 100109), (122, 8, 100122), (135, 8, 100135), (148, 8, 100148), (161, 8, 100161), (174, 8, 100174), (187, 8, 100187)]), (2000009, [(3, 8, 246), (44, 8, 100044), (57, 8, 100057), (70, 8, 100070), (83, 8, 246), (96, 8, 100096), (109, 8, 100109), (122, 8, 100122), (135, 8, 100135), (148, 8, 100148), (161, 8, 100161), (174, 8, 100174), (187, 8, 100187)]), (2000010, [(3, 8, 246), (44, 8, 100044), (57, 8, 100057), (70, 8, 246), (83, 8, 100083), (96, 8, 100096), (109, 8, 100109), (122, 8, 100122), (135, 8, 100135), (148, 8, 100148), (161, 8, 100161), (174, 8, 100174), (187, 8, 100187)]), (2000011, [(3, 8, 246), (44, 8, 100044), (57, 8, 246), (70, 8, 100070), (83, 8, 100083), (96, 8, 100096), (109, 8, 100109), (122, 8, 100122), (135, 8, 100135), (148, 8, 100148), (161, 8, 100161), (174, 8, 100174), (187, 8, 100187)])]
set_option maxRecDepth 100000 in
theorem pl_yy_a : (decide (pl_yy.2.2.1.length ≤ gm_ml 161) && ck_go p2_OL none [] pl_yy_E 161 pl_yy.1.1 pl_yy.2.1 pl_yy.2.2.2.2.1 pl_yy.2.2.2.2.2 [(11, yy_C0 pl_yy_RF)] 170 false [(11, yy_C0 pl_yy_RF, 1, 6, pl_yy.2.1)] pl_yy.1.2.1 pl_yy.1.2.2 0 (pl_yy.2.2.1.map some ++ List.replicate (gm_ml 161 - pl_yy.2.2.1.length) none) [] pl_yy.2.1 pl_yy.2.2.2.1) = true := by decide +kernel
set_option maxRecDepth 100000 in
theorem pl_yy_b : ck_go p2_OL none [] pl_yy_E 161 pl_yy.1.1 pl_yy.2.1 pl_yy.2.2.2.2.1 pl_yy.2.2.2.2.2 [] 170 true [] 1 6 26 (yy_A (1, 50, []) none none) [] pl_yy.2.1 (yy_F pl_yy_RF (0, 299, [(10, 0)])) = true := by decide +kernel
set_option maxRecDepth 100000 in
theorem pl_yy_cu : ck_cu (pl_yy_RS.map fun p => (56, yy_C1 p.2 p.1)) = true := by decide +kernel
set_option maxRecDepth 100000 in
theorem pl_yy_c : ck_go p2_OL none [] pl_yy_E 161 pl_yy.1.1 pl_yy.2.1 pl_yy.2.2.2.2.1 pl_yy.2.2.2.2.2 (pl_yy_RS.map fun p => (56, yy_C1 p.2 p.1)) 170 true (pl_yy_RS.map fun p => (56, yy_C1 p.2 p.1, 0, 0, pl_yy.2.1)) 1 6 37 (yy_A (1, 50, [(302, 0)]) none none) [] pl_yy.2.1 (yy_F pl_yy_RF (0, 298, [(10, 0), (303, 0)])) = true := by decide +kernel
set_option maxRecDepth 100000 in
theorem pl_yy_d : (pl_yy_RS.all fun p => ck_go p2_OL none [] pl_yy_E 161 pl_yy.1.1 pl_yy.2.1 pl_yy.2.2.2.2.1 pl_yy.2.2.2.2.2 [(56, yy_C2 p.2)] 170 true [(56, yy_C2 p.2, 0, 0, pl_yy.2.1)] 0 0 61 (yy_A (1, 50, [(302, 0)]) (some (.inl ck_top)) (some (.inl (0, 49, [(304, 0)])))) [] pl_yy.2.1 (yy_F p.2 (0, 298, [(303, 0)])) && ck_go p2_OL none [] pl_yy_E 161 pl_yy.1.1 pl_yy.2.1 pl_yy.2.2.2.2.1 pl_yy.2.2.2.2.2 [] 170 true [] 0 0 74 (yy_A (1, 50, []) (some (.inl ck_top)) none) [] pl_yy.2.1 ([], p.2, [])) = true := by decide +kernel
theorem pl_yy_s {X : Int → Int} {LX : Nat} : ck_Ok p2_OL X LX 161 pl_yy := yy_s ⟨pl_nmu, ck_E1 (ck_S1 pl_s341_s ck_S0) (ck_E1 (ck_S1 pl_s217_s ck_S0) (ck_E1 (ck_S1 pl_s632_s ck_S0) ck_E0))⟩ (by decide +kernel) (by decide +kernel) (by decide +kernel) (by decide) (by decide) (by decide) pl_yy_a pl_yy_b pl_yy_cu pl_yy_c pl_yy_d
end
/-! 78r86a10.sl -/
section
/-! EVERY CALL OF THE CLASS ENDS, under a law (laid by wip/am/p2l.py). -/
set_option maxRecDepth 100000 in
/-- GlacierMail.throwsFor -/
noncomputable def pl_s683 : ck_Sum := ((8, 1, 6), 249, [.inr (.inr (.inl 1)), .inl ((-2147483648), (-1), []), .inl ((-2147483648), 2147483647, []), .inl ((-2147483648), 2147483647, []), .inl ((-2147483648), 2147483647, [])], ([], [], []), ([], []), [(.inl 3, 249, ([], [], []))])
set_option maxRecDepth 100000 in
theorem pl_s683_s {X : Int → Int} {LX : Nat} : ck_Ok p2_OL X LX 167 pl_s683 := ck_ok_s (O := p2_OL) (X := X) (LX := LX) (E := [(132, [pl_s153])]) (mi := 167) (cuts := []) (f := 76) (S := pl_s683) (lx := none) (XF := []) ⟨pl_nmu, ck_E1 (ck_S1 pl_s153_s ck_S0) ck_E0⟩ ck_X0 ck_l0 (by decide +kernel)
set_option maxRecDepth 100000 in
/-- GlacierMail.throwsFor -/
noncomputable def pl_s684 : ck_Sum := ((8, 1, 6), 249, [.inr (.inr (.inl 1)), .inl (6, 2147483647, []), .inl ((-2147483648), 2147483647, []), .inl ((-2147483648), 2147483647, []), .inl ((-2147483648), 2147483647, [])], ([], [], []), ([], []), [(.inl 3, 249, ([], [], []))])
set_option maxRecDepth 100000 in
theorem pl_s684_s {X : Int → Int} {LX : Nat} : ck_Ok p2_OL X LX 167 pl_s684 := ck_ok_s (O := p2_OL) (X := X) (LX := LX) (E := [(132, [pl_s156])]) (mi := 167) (cuts := []) (f := 76) (S := pl_s684) (lx := none) (XF := []) ⟨pl_nmu, ck_E1 (ck_S1 pl_s156_s ck_S0) ck_E0⟩ ck_X0 ck_l0 (by decide +kernel)
set_option maxRecDepth 100000 in
/-- GlacierMail.throwsFor -/
noncomputable def pl_s685 : ck_Sum := ((8, 2, 12), 249, [.inr (.inr (.inl 1)), .inl (0, 5, []), .inl ((-2147483648), (-1), []), .inl ((-2147483648), 2147483647, []), .inl ((-2147483648), 2147483647, [])], ([], [], []), ([], []), [(.inl 3, 249, ([], [], [])), (.inl 0, 249, ([], [], []))])
set_option maxRecDepth 100000 in
theorem pl_s685_s {X : Int → Int} {LX : Nat} : ck_Ok p2_OL X LX 167 pl_s685 := ck_ok_s (O := p2_OL) (X := X) (LX := LX) (E := [(132, [pl_s159]), (129, [pl_s145])]) (mi := 167) (cuts := []) (f := 82) (S := pl_s685) (lx := none) (XF := []) ⟨pl_nmu, ck_E1 (ck_S1 pl_s159_s ck_S0) (ck_E1 (ck_S1 pl_s145_s ck_S0) ck_E0)⟩ ck_X0 ck_l0 (by decide +kernel)
set_option maxRecDepth 100000 in
/-- GlacierMail.throwsFor -/
noncomputable def pl_s686 : ck_Sum := ((8, 2, 12), 249, [.inr (.inr (.inl 1)), .inl (0, 5, []), .inl (300, 2147483647, []), .inl ((-2147483648), 2147483647, []), .inl ((-2147483648), 2147483647, [])], ([], [], []), ([], []), [(.inl 3, 249, ([], [], [])), (.inl 0, 249, ([], [], []))])
set_option maxRecDepth 100000 in
theorem pl_s686_s {X : Int → Int} {LX : Nat} : ck_Ok p2_OL X LX 167 pl_s686 := ck_ok_s (O := p2_OL) (X := X) (LX := LX) (E := [(132, [pl_s159]), (129, [pl_s147])]) (mi := 167) (cuts := []) (f := 82) (S := pl_s686) (lx := none) (XF := []) ⟨pl_nmu, ck_E1 (ck_S1 pl_s159_s ck_S0) (ck_E1 (ck_S1 pl_s147_s ck_S0) ck_E0)⟩ ck_X0 ck_l0 (by decide +kernel)
set_option maxRecDepth 100000 in
/-- GlacierMail.throwsFor -/
noncomputable def pl_s687 : ck_Sum := ((8, 2, 12), 249, [.inr (.inr (.inl 1)), .inl (0, 5, []), .inl (0, 299, []), .inl ((-2147483648), (-1), []), .inl ((-2147483648), 2147483647, [])], ([], [], []), ([], []), [(.inl 3, 249, ([], [], [])), (.inl 0, 249, ([], [], []))])
set_option maxRecDepth 100000 in
theorem pl_s687_s {X : Int → Int} {LX : Nat} : ck_Ok p2_OL X LX 167 pl_s687 := ck_ok_s (O := p2_OL) (X := X) (LX := LX) (E := [(132, [pl_s159]), (129, [pl_s149, pl_s145])]) (mi := 167) (cuts := []) (f := 88) (S := pl_s687) (lx := none) (XF := []) ⟨pl_nmu, ck_E1 (ck_S1 pl_s159_s ck_S0) (ck_E1 (ck_S1 pl_s149_s (ck_S1 pl_s145_s ck_S0)) ck_E0)⟩ ck_X0 ck_l0 (by decide +kernel)
set_option maxRecDepth 100000 in
/-- GlacierMail.throwsFor -/
noncomputable def pl_s688 : ck_Sum := ((8, 2, 12), 249, [.inr (.inr (.inl 1)), .inl (0, 5, []), .inl (0, 299, []), .inl (300, 2147483647, []), .inl ((-2147483648), 2147483647, [])], ([], [], []), ([], []), [(.inl 3, 249, ([], [], [])), (.inl 0, 249, ([], [], []))])
set_option maxRecDepth 100000 in
theorem pl_s688_s {X : Int → Int} {LX : Nat} : ck_Ok p2_OL X LX 167 pl_s688 := ck_ok_s (O := p2_OL) (X := X) (LX := LX) (E := [(132, [pl_s159]), (129, [pl_s149, pl_s147])]) (mi := 167) (cuts := []) (f := 88) (S := pl_s688) (lx := none) (XF := []) ⟨pl_nmu, ck_E1 (ck_S1 pl_s159_s ck_S0) (ck_E1 (ck_S1 pl_s149_s (ck_S1 pl_s147_s ck_S0)) ck_E0)⟩ ck_X0 ck_l0 (by decide +kernel)
set_option maxRecDepth 100000 in
/-- GlacierMail.throwsFor -/
noncomputable def pl_s689 : ck_Sum := ((8, 2, 12), 249, [.inr (.inr (.inl 1)), .inl (0, 5, []), .inl (0, 299, []), .inl (0, 299, []), .inl ((-2147483648), (-1), [])], ([], [], [(3, 6, 6, (0, 299, [(10, 0)]))]), ([], []), [(.inl 3, 249, ([], [], [])), (.inl 4, 249, ([], [], [])), (.inl 0, 249, ([], [], [(3, 6, 6, (1, 299, [(10, 0)]))]))])
set_option maxRecDepth 100000 in
theorem pl_s689_s {X : Int → Int} {LX : Nat} : ck_Ok p2_OL X LX 167 pl_s689 := ck_ok_s (O := p2_OL) (X := X) (LX := LX) (E := [(132, [pl_s159]), (129, [pl_s149])]) (mi := 167) (cuts := []) (f := 104) (S := pl_s689) (lx := none) (XF := []) ⟨pl_nmu, ck_E1 (ck_S1 pl_s159_s ck_S0) (ck_E1 (ck_S1 pl_s149_s ck_S0) ck_E0)⟩ ck_X0 ck_l0 (by decide +kernel)
set_option maxRecDepth 100000 in
/-- GlacierMail.throwsFor -/
noncomputable def pl_s690 : ck_Sum := ((8, 2, 12), 249, [.inr (.inr (.inl 1)), .inl (0, 5, []), .inl (0, 299, []), .inl (0, 299, []), .inl (10, 2147483647, [])], ([], [], [(3, 6, 6, (0, 299, [(10, 0)]))]), ([], []), [(.inl 3, 249, ([], [], [])), (.inl 4, 249, ([], [], [])), (.inl 0, 249, ([], [], [(3, 6, 6, (1, 299, [(10, 0)]))]))])
set_option maxRecDepth 100000 in
theorem pl_s690_s {X : Int → Int} {LX : Nat} : ck_Ok p2_OL X LX 167 pl_s690 := ck_ok_s (O := p2_OL) (X := X) (LX := LX) (E := [(132, [pl_s159]), (129, [pl_s149])]) (mi := 167) (cuts := []) (f := 110) (S := pl_s690) (lx := none) (XF := []) ⟨pl_nmu, ck_E1 (ck_S1 pl_s159_s ck_S0) (ck_E1 (ck_S1 pl_s149_s ck_S0) ck_E0)⟩ ck_X0 ck_l0 (by decide +kernel)
set_option maxRecDepth 100000 in
/-- GlacierMail$Way.start -/
noncomputable def pl_s691 : ck_Sum := ((0, 0, 0), 249, [.inr (.inr (.inl 206)), .inl ((-2147483648), 2147483647, []), .inl ((-2147483648), 2147483647, []), .inl (0, 299, []), .inl (0, 1, [])], ([], [], []), ([(206, 2, 8)], []), [(.inr none, 249, ([], [], zl183))])
set_option maxRecDepth 100000 in
theorem pl_s691_s {X : Int → Int} {LX : Nat} : ck_Ok p2_OL X LX 29 pl_s691 := ck_ok_s (O := p2_OL) (X := X) (LX := LX) (E := []) (mi := 29) (cuts := []) (f := 114) (S := pl_s691) (lx := none) (XF := []) ⟨pl_nmu, ck_E0⟩ ck_X0 ck_l0 (by decide +kernel)
set_option maxRecDepth 100000 in
/-- GlacierMail.latest -/
noncomputable def pl_s693 : ck_Sum := ((8, 1, 6), 249, [.inr (.inr (.inl 1)), .inl ((-2147483648), (-1), []), .inl ((-2147483648), 2147483647, [])], ([], [], []), ([], []), [(.inl 3, 249, ([], [], []))])
set_option maxRecDepth 100000 in
theorem pl_s693_s {X : Int → Int} {LX : Nat} : ck_Ok p2_OL X LX 169 pl_s693 := ck_ok_s (O := p2_OL) (X := X) (LX := LX) (E := [(139, [pl_s191])]) (mi := 169) (cuts := []) (f := 76) (S := pl_s693) (lx := none) (XF := []) ⟨pl_nmu, ck_E1 (ck_S1 pl_s191_s ck_S0) ck_E0⟩ ck_X0 ck_l0 (by decide +kernel)
set_option maxRecDepth 100000 in
/-- GlacierMail.latest -/
noncomputable def pl_s694 : ck_Sum := ((8, 1, 6), 249, [.inr (.inr (.inl 1)), .inl (8, 2147483647, []), .inl ((-2147483648), 2147483647, [])], ([], [], []), ([], []), [(.inl 3, 249, ([], [], []))])
set_option maxRecDepth 100000 in
theorem pl_s694_s {X : Int → Int} {LX : Nat} : ck_Ok p2_OL X LX 169 pl_s694 := ck_ok_s (O := p2_OL) (X := X) (LX := LX) (E := [(139, [pl_s194])]) (mi := 169) (cuts := []) (f := 76) (S := pl_s694) (lx := none) (XF := []) ⟨pl_nmu, ck_E1 (ck_S1 pl_s194_s ck_S0) ck_E0⟩ ck_X0 ck_l0 (by decide +kernel)
set_option maxRecDepth 100000 in
/-- GlacierMail.latest -/
noncomputable def pl_s695 : ck_Sum := ((8, 2, 12), 249, [.inr (.inr (.inl 1)), .inl (0, 7, []), .inl ((-2147483648), (-1), [])], ([], [], []), ([], []), [(.inl 3, 249, ([], [], [])), (.inl 0, 249, ([], [], []))])
set_option maxRecDepth 100000 in
theorem pl_s695_s {X : Int → Int} {LX : Nat} : ck_Ok p2_OL X LX 169 pl_s695 := ck_ok_s (O := p2_OL) (X := X) (LX := LX) (E := [(139, [pl_s197]), (129, [pl_s145])]) (mi := 169) (cuts := []) (f := 82) (S := pl_s695) (lx := none) (XF := []) ⟨pl_nmu, ck_E1 (ck_S1 pl_s197_s ck_S0) (ck_E1 (ck_S1 pl_s145_s ck_S0) ck_E0)⟩ ck_X0 ck_l0 (by decide +kernel)
set_option maxRecDepth 100000 in
/-- GlacierMail.latest -/
noncomputable def pl_s696 : ck_Sum := ((8, 2, 12), 249, [.inr (.inr (.inl 1)), .inl (0, 7, []), .inl (300, 2147483647, [])], ([], [], []), ([], []), [(.inl 3, 249, ([], [], [])), (.inl 0, 249, ([], [], []))])
set_option maxRecDepth 100000 in
theorem pl_s696_s {X : Int → Int} {LX : Nat} : ck_Ok p2_OL X LX 169 pl_s696 := ck_ok_s (O := p2_OL) (X := X) (LX := LX) (E := [(139, [pl_s197]), (129, [pl_s147])]) (mi := 169) (cuts := []) (f := 82) (S := pl_s696) (lx := none) (XF := []) ⟨pl_nmu, ck_E1 (ck_S1 pl_s197_s ck_S0) (ck_E1 (ck_S1 pl_s147_s ck_S0) ck_E0)⟩ ck_X0 ck_l0 (by decide +kernel)
set_option maxRecDepth 100000 in
/-- GlacierMail$Way.startHut -/
noncomputable def pl_s697 : ck_Sum := ((1, 0, 0), 249, [.inr (.inr (.inl 206)), .inl (0, 7, []), .inl (0, 299, [])], ([], [], []), ([(206, 2, 8)], []), [(.inr none, 249, ([], [], zl183))])
set_option maxRecDepth 100000 in
theorem pl_s697_s {X : Int → Int} {LX : Nat} : ck_Ok p2_OL X LX 170 pl_s697 := ck_ok_s (O := p2_OL) (X := X) (LX := LX) (E := [(10, [pl_s224]), (29, [pl_s691])]) (mi := 170) (cuts := []) (f := 104) (S := pl_s697) (lx := none) (XF := []) ⟨pl_nmu, ck_E1 (ck_S1 pl_s224_s ck_S0) (ck_E1 (ck_S1 pl_s691_s ck_S0) ck_E0)⟩ ck_X0 ck_l0 (by decide +kernel)
set_option maxRecDepth 100000 in
/-- GlacierMail.hut -/
noncomputable def pl_s699 : ck_Sum := ((8, 1, 6), 249, [.inr (.inr (.inl 1)), .inl ((-2147483648), (-1), []), .inl ((-2147483648), 2147483647, [])], ([], [], []), ([], []), [(.inl 3, 249, ([], [], []))])
set_option maxRecDepth 100000 in
theorem pl_s699_s {X : Int → Int} {LX : Nat} : ck_Ok p2_OL X LX 172 pl_s699 := ck_ok_s (O := p2_OL) (X := X) (LX := LX) (E := [(132, [pl_s153])]) (mi := 172) (cuts := []) (f := 76) (S := pl_s699) (lx := none) (XF := []) ⟨pl_nmu, ck_E1 (ck_S1 pl_s153_s ck_S0) ck_E0⟩ ck_X0 ck_l0 (by decide +kernel)
set_option maxRecDepth 100000 in
/-- GlacierMail.hut -/
noncomputable def pl_s700 : ck_Sum := ((8, 1, 6), 249, [.inr (.inr (.inl 1)), .inl (6, 2147483647, []), .inl ((-2147483648), 2147483647, [])], ([], [], []), ([], []), [(.inl 3, 249, ([], [], []))])
set_option maxRecDepth 100000 in
theorem pl_s700_s {X : Int → Int} {LX : Nat} : ck_Ok p2_OL X LX 172 pl_s700 := ck_ok_s (O := p2_OL) (X := X) (LX := LX) (E := [(132, [pl_s156])]) (mi := 172) (cuts := []) (f := 76) (S := pl_s700) (lx := none) (XF := []) ⟨pl_nmu, ck_E1 (ck_S1 pl_s156_s ck_S0) ck_E0⟩ ck_X0 ck_l0 (by decide +kernel)
set_option maxRecDepth 100000 in
/-- GlacierMail.hut -/
noncomputable def pl_s701 : ck_Sum := ((8, 2, 12), 249, [.inr (.inr (.inl 1)), .inl (0, 5, []), .inl ((-2147483648), (-1), [])], ([], [], []), ([], []), [(.inl 3, 249, ([], [], [])), (.inl 0, 249, ([], [], []))])
set_option maxRecDepth 100000 in
theorem pl_s701_s {X : Int → Int} {LX : Nat} : ck_Ok p2_OL X LX 172 pl_s701 := ck_ok_s (O := p2_OL) (X := X) (LX := LX) (E := [(132, [pl_s159])]) (mi := 172) (cuts := []) (f := 84) (S := pl_s701) (lx := none) (XF := []) ⟨pl_nmu, ck_E1 (ck_S1 pl_s159_s ck_S0) ck_E0⟩ ck_X0 ck_l0 (by decide +kernel)
set_option maxRecDepth 100000 in
/-- GlacierMail.hut -/
noncomputable def pl_s702 : ck_Sum := ((8, 2, 12), 249, [.inr (.inr (.inl 1)), .inl (0, 5, []), .inl (300, 2147483647, [])], ([], [], []), ([], []), [(.inl 3, 249, ([], [], [])), (.inl 0, 249, ([], [], []))])
set_option maxRecDepth 100000 in
theorem pl_s702_s {X : Int → Int} {LX : Nat} : ck_Ok p2_OL X LX 172 pl_s702 := ck_ok_s (O := p2_OL) (X := X) (LX := LX) (E := [(132, [pl_s159])]) (mi := 172) (cuts := []) (f := 90) (S := pl_s702) (lx := none) (XF := []) ⟨pl_nmu, ck_E1 (ck_S1 pl_s159_s ck_S0) ck_E0⟩ ck_X0 ck_l0 (by decide +kernel)
set_option maxRecDepth 100000 in
/-- GlacierMail.without -/
noncomputable def pl_s704 : ck_Sum := ((8, 1, 6), 249, [.inr (.inr (.inl 1)), .inl ((-2147483648), (-1), []), .inl ((-2147483648), 2147483647, [])], ([], [], []), ([], []), [(.inl 3, 249, ([], [], []))])
set_option maxRecDepth 100000 in
theorem pl_s704_s {X : Int → Int} {LX : Nat} : ck_Ok p2_OL X LX 174 pl_s704 := ck_ok_s (O := p2_OL) (X := X) (LX := LX) (E := [(143, [pl_s227])]) (mi := 174) (cuts := []) (f := 76) (S := pl_s704) (lx := none) (XF := []) ⟨pl_nmu, ck_E1 (ck_S1 pl_s227_s ck_S0) ck_E0⟩ ck_X0 ck_l0 (by decide +kernel)
set_option maxRecDepth 100000 in
/-- GlacierMail.without -/
noncomputable def pl_s705 : ck_Sum := ((8, 1, 6), 249, [.inr (.inr (.inl 1)), .inl (24, 2147483647, []), .inl ((-2147483648), 2147483647, [])], ([], [], []), ([], []), [(.inl 3, 249, ([], [], []))])
set_option maxRecDepth 100000 in
theorem pl_s705_s {X : Int → Int} {LX : Nat} : ck_Ok p2_OL X LX 174 pl_s705 := ck_ok_s (O := p2_OL) (X := X) (LX := LX) (E := [(143, [pl_s230])]) (mi := 174) (cuts := []) (f := 76) (S := pl_s705) (lx := none) (XF := []) ⟨pl_nmu, ck_E1 (ck_S1 pl_s230_s ck_S0) ck_E0⟩ ck_X0 ck_l0 (by decide +kernel)
set_option maxRecDepth 100000 in
/-- GlacierMail.without -/
noncomputable def pl_s706 : ck_Sum := ((8, 2, 12), 249, [.inr (.inr (.inl 1)), .inl (0, 23, []), .inl ((-2147483648), (-1), [])], ([], [], []), ([], []), [(.inl 3, 249, ([], [], []))])
set_option maxRecDepth 100000 in
theorem pl_s706_s {X : Int → Int} {LX : Nat} : ck_Ok p2_OL X LX 174 pl_s706 := ck_ok_s (O := p2_OL) (X := X) (LX := LX) (E := [(143, [pl_s233]), (9, [pl_s137]), (133, [pl_s190])]) (mi := 174) (cuts := []) (f := 90) (S := pl_s706) (lx := none) (XF := []) ⟨pl_nmu, ck_E1 (ck_S1 pl_s233_s ck_S0) (ck_E1 (ck_S1 pl_s137_s ck_S0) (ck_E1 (ck_S1 pl_s190_s ck_S0) ck_E0))⟩ ck_X0 ck_l0 (by decide +kernel)
set_option maxRecDepth 100000 in
/-- GlacierMail.without -/
noncomputable def pl_s707 : ck_Sum := ((8, 2, 12), 249, [.inr (.inr (.inl 1)), .inl (0, 23, []), .inl (8, 2147483647, [])], ([], [], []), ([], []), [(.inl 3, 249, ([], [], []))])
set_option maxRecDepth 100000 in
theorem pl_s707_s {X : Int → Int} {LX : Nat} : ck_Ok p2_OL X LX 174 pl_s707 := ck_ok_s (O := p2_OL) (X := X) (LX := LX) (E := [(143, [pl_s233]), (9, [pl_s137]), (133, [pl_s193])]) (mi := 174) (cuts := []) (f := 90) (S := pl_s707) (lx := none) (XF := []) ⟨pl_nmu, ck_E1 (ck_S1 pl_s233_s ck_S0) (ck_E1 (ck_S1 pl_s137_s ck_S0) (ck_E1 (ck_S1 pl_s193_s ck_S0) ck_E0))⟩ ck_X0 ck_l0 (by decide +kernel)
set_option maxRecDepth 100000 in
/-- GlacierMail$Way.leaveOut -/
noncomputable def pl_s708 : ck_Sum := ((0, 0, 0), 249, [.inr (.inr (.inl 206)), .inl (0, 7, [])], ([], [], []), ([(206, 4, 4)], []), [(.inr none, 249, ([], [], [(206, 4, 4, (0, 7, []))]))])
set_option maxRecDepth 100000 in
theorem pl_s708_s {X : Int → Int} {LX : Nat} : ck_Ok p2_OL X LX 175 pl_s708 := ck_ok_s (O := p2_OL) (X := X) (LX := LX) (E := []) (mi := 175) (cuts := []) (f := 78) (S := pl_s708) (lx := none) (XF := []) ⟨pl_nmu, ck_E0⟩ ck_X0 ck_l0 (by decide +kernel)
set_option maxRecDepth 100000 in
/-- GlacierMail.moved -/
noncomputable def pl_s710 : ck_Sum := ((8, 1, 6), 249, [.inr (.inr (.inl 1)), .inl ((-2147483648), (-1), [])], ([], [], []), ([], []), [(.inl 3, 249, ([], [], []))])
set_option maxRecDepth 100000 in
theorem pl_s710_s {X : Int → Int} {LX : Nat} : ck_Ok p2_OL X LX 177 pl_s710 := ck_ok_s (O := p2_OL) (X := X) (LX := LX) (E := [(143, [pl_s227])]) (mi := 177) (cuts := []) (f := 76) (S := pl_s710) (lx := none) (XF := []) ⟨pl_nmu, ck_E1 (ck_S1 pl_s227_s ck_S0) ck_E0⟩ ck_X0 ck_l0 (by decide +kernel)
set_option maxRecDepth 100000 in
/-- GlacierMail.moved -/
noncomputable def pl_s711 : ck_Sum := ((8, 1, 6), 249, [.inr (.inr (.inl 1)), .inl (24, 2147483647, [])], ([], [], []), ([], []), [(.inl 3, 249, ([], [], []))])
set_option maxRecDepth 100000 in
theorem pl_s711_s {X : Int → Int} {LX : Nat} : ck_Ok p2_OL X LX 177 pl_s711 := ck_ok_s (O := p2_OL) (X := X) (LX := LX) (E := [(143, [pl_s230])]) (mi := 177) (cuts := []) (f := 76) (S := pl_s711) (lx := none) (XF := []) ⟨pl_nmu, ck_E1 (ck_S1 pl_s230_s ck_S0) ck_E0⟩ ck_X0 ck_l0 (by decide +kernel)
set_option maxRecDepth 100000 in
/-- GlacierMail.outIn -/
noncomputable def pl_s714 : ck_Sum := ((2, 0, 0), 249, [.inr (.inr (.inl 1)), .inl ((-2147483648), 299, []), .inl (ck_one 0)], ([], [], []), ([], []), [(.inr (some (.inl ((-2147483648), 2147483647, []))), 249, ([], [], []))])
set_option maxRecDepth 100000 in
theorem pl_s714_s {X : Int → Int} {LX : Nat} : ck_Ok p2_OL X LX 47 pl_s714 := ck_ok_s (O := p2_OL) (X := X) (LX := LX) (E := [(9, [pl_s201]), (10, [pl_s218]), (28, [pl_s205])]) (mi := 47) (cuts := [(5, [some (.inr (.inr (.inl 1))), some (.inl ((-2147483648), 299, [])), some (.inl (ck_one 0)), some (.inl ((-2147483648), 2147483647, [])), some (.inl (0, 24, []))], ([], [], []), 100, .inl 4, true)]) (f := 182) (S := pl_s714) (lx := none) (XF := []) ⟨pl_nmu, ck_E1 (ck_S1 pl_s201_s ck_S0) (ck_E1 (ck_S1 pl_s218_s ck_S0) (ck_E1 (ck_S1 pl_s205_s ck_S0) ck_E0))⟩ ck_X0 ck_l0 (by decide +kernel)
set_option maxRecDepth 100000 in
/-- GlacierMail.passes -/
noncomputable def pl_s716 : ck_Sum := ((8, 1, 6), 249, [.inr (.inr (.inl 1)), .inl ((-2147483648), (-1), [])], ([], [], []), ([], []), [(.inl 3, 249, ([], [], []))])
set_option maxRecDepth 100000 in
theorem pl_s716_s {X : Int → Int} {LX : Nat} : ck_Ok p2_OL X LX 179 pl_s716 := ck_ok_s (O := p2_OL) (X := X) (LX := LX) (E := [(143, [pl_s227])]) (mi := 179) (cuts := []) (f := 76) (S := pl_s716) (lx := none) (XF := []) ⟨pl_nmu, ck_E1 (ck_S1 pl_s227_s ck_S0) ck_E0⟩ ck_X0 ck_l0 (by decide +kernel)
set_option maxRecDepth 100000 in
/-- GlacierMail.passes -/
noncomputable def pl_s717 : ck_Sum := ((8, 1, 6), 249, [.inr (.inr (.inl 1)), .inl (24, 2147483647, [])], ([], [], []), ([], []), [(.inl 3, 249, ([], [], []))])
set_option maxRecDepth 100000 in
theorem pl_s717_s {X : Int → Int} {LX : Nat} : ck_Ok p2_OL X LX 179 pl_s717 := ck_ok_s (O := p2_OL) (X := X) (LX := LX) (E := [(143, [pl_s230])]) (mi := 179) (cuts := []) (f := 76) (S := pl_s717) (lx := none) (XF := []) ⟨pl_nmu, ck_E1 (ck_S1 pl_s230_s ck_S0) ck_E0⟩ ck_X0 ck_l0 (by decide +kernel)
set_option maxRecDepth 100000 in
/-- GlacierMail.sameLane -/
noncomputable def pl_s718 : ck_Sum := ((1, 0, 0), 249, [.inr (.inr (.inl 1)), .inl (0, 23, []), .inl (0, 23, [])], ([], [], []), ([], []), [(.inr (some (.inl (ck_one 0))), 249, ([], [], [])), (.inr (some (.inl (ck_one 1))), 249, ([], [], []))])
set_option maxRecDepth 100000 in
theorem pl_s718_s {X : Int → Int} {LX : Nat} : ck_Ok p2_OL X LX 180 pl_s718 := ck_ok_s (O := p2_OL) (X := X) (LX := LX) (E := [(10, [pl_s204])]) (mi := 180) (cuts := []) (f := 102) (S := pl_s718) (lx := none) (XF := []) ⟨pl_nmu, ck_E1 (ck_S1 pl_s204_s ck_S0) ck_E0⟩ ck_X0 ck_l0 (by decide +kernel)
set_option maxRecDepth 100000 in
/-- GlacierMail$Way.start -/
noncomputable def pl_s719 : ck_Sum := ((0, 0, 0), 249, [.inr (.inr (.inl 207)), .inl ((-1), 299, []), .inl ((-1), 299, []), .inl ((-1), 299, []), .inl (ck_one 0)], ([], [], []), ([(207, 2, 8)], []), [(.inr none, 249, ([], [], zl190))])
set_option maxRecDepth 100000 in
theorem pl_s719_s {X : Int → Int} {LX : Nat} : ck_Ok p2_OL X LX 29 pl_s719 := ck_ok_s (O := p2_OL) (X := X) (LX := LX) (E := []) (mi := 29) (cuts := []) (f := 114) (S := pl_s719) (lx := none) (XF := []) ⟨pl_nmu, ck_E0⟩ ck_X0 ck_l0 (by decide +kernel)
set_option maxRecDepth 100000 in
/-- GlacierMail$Way.start -/
noncomputable def pl_s720 : ck_Sum := ((0, 0, 0), 249, [.inr (.inr (.inl 207)), .inl ((-1), 299, []), .inl ((-1), 299, []), .inl ((-1), 299, []), .inl (ck_one 1)], ([], [], []), ([(207, 2, 8)], []), [(.inr none, 249, ([], [], zl191))])
set_option maxRecDepth 100000 in
theorem pl_s720_s {X : Int → Int} {LX : Nat} : ck_Ok p2_OL X LX 29 pl_s720 := ck_ok_s (O := p2_OL) (X := X) (LX := LX) (E := []) (mi := 29) (cuts := []) (f := 114) (S := pl_s720) (lx := none) (XF := []) ⟨pl_nmu, ck_E0⟩ ck_X0 ck_l0 (by decide +kernel)
set_option maxRecDepth 100000 in
/-- GlacierMail$Way.startLetter -/
noncomputable def pl_s721 : ck_Sum := ((2, 0, 0), 249, [.inr (.inr (.inl 207)), .inl (0, 23, [])], ([], [], []), ([(207, 2, 8)], []), [(.inr none, 249, ([], [], zl192))])
set_option maxRecDepth 100000 in
theorem pl_s721_s {X : Int → Int} {LX : Nat} : ck_Ok p2_OL X LX 27 pl_s721 := ck_ok_s (O := p2_OL) (X := X) (LX := LX) (E := [(10, [pl_s204]), (28, [pl_s205]), (29, [pl_s719, pl_s720])]) (mi := 27) (cuts := []) (f := 116) (S := pl_s721) (lx := none) (XF := []) ⟨pl_nmu, ck_E1 (ck_S1 pl_s204_s ck_S0) (ck_E1 (ck_S1 pl_s205_s ck_S0) (ck_E1 (ck_S1 pl_s719_s (ck_S1 pl_s720_s ck_S0)) ck_E0))⟩ ck_X0 ck_l0 (by decide +kernel)
set_option maxRecDepth 100000 in
/-- GlacierMail$Way.deepAfter -/
noncomputable def pl_s723 : ck_Sum := ((1, 0, 0), 249, [.inr (.inr (.inl 207))], ([], [], []), ([], []), [(.inr (some (.inl (0, 99, []))), 249, ([], [], []))])
set_option maxRecDepth 100000 in
theorem pl_s723_s {X : Int → Int} {LX : Nat} : ck_Ok p2_OL X LX 33 pl_s723 := ck_ok_s (O := p2_OL) (X := X) (LX := LX) (E := [(34, [pl_s179])]) (mi := 33) (cuts := []) (f := 110) (S := pl_s723) (lx := none) (XF := []) ⟨pl_nmu, ck_E1 (ck_S1 pl_s179_s ck_S0) ck_E0⟩ ck_X0 ck_l0 (by decide +kernel)
set_option maxRecDepth 100000 in
/-- GlacierMail$Way.takeFloods -/
noncomputable def pl_s724 : ck_Sum := ((1, 0, 0), 249, [.inr (.inr (.inl 207))], ([], [], []), ([(207, 5, 5), (207, 8, 8)], []), [(.inr none, 249, ([], [], []))])
set_option maxRecDepth 100000 in
theorem pl_s724_s {X : Int → Int} {LX : Nat} : ck_Ok p2_OL X LX 43 pl_s724 := ck_ok_s (O := p2_OL) (X := X) (LX := LX) (E := [(44, [pl_s211]), (9, [pl_s137]), (10, [pl_s138])]) (mi := 43) (cuts := [(22, [some (.inr (.inr (.inl 207))), some (.inr (.inr (.inl 6))), some (.inl ((-2147483648), 2147483647, [])), some (.inl (0, 9, [])), none], ([], [], []), 100, .inl 3, true)]) (f := 290) (S := pl_s724) (lx := none) (XF := []) ⟨pl_nmu, ck_E1 (ck_S1 pl_s211_s ck_S0) (ck_E1 (ck_S1 pl_s137_s ck_S0) (ck_E1 (ck_S1 pl_s138_s ck_S0) ck_E0))⟩ ck_X0 ck_l0 (by decide +kernel)
set_option maxRecDepth 100000 in
/-- GlacierMail.writers -/
noncomputable def pl_s732 : ck_Sum := ((8, 1, 6), 249, [.inr (.inr (.inl 1)), .inl ((-2147483648), (-1), []), .inl ((-2147483648), 2147483647, []), .inl ((-2147483648), 2147483647, [])], ([], [], []), ([], []), [(.inl 3, 249, ([], [], []))])
set_option maxRecDepth 100000 in
theorem pl_s732_s {X : Int → Int} {LX : Nat} : ck_Ok p2_OL X LX 186 pl_s732 := ck_ok_s (O := p2_OL) (X := X) (LX := LX) (E := [(132, [pl_s153])]) (mi := 186) (cuts := []) (f := 76) (S := pl_s732) (lx := none) (XF := []) ⟨pl_nmu, ck_E1 (ck_S1 pl_s153_s ck_S0) ck_E0⟩ ck_X0 ck_l0 (by decide +kernel)
set_option maxRecDepth 100000 in
/-- GlacierMail.writers -/
noncomputable def pl_s733 : ck_Sum := ((8, 1, 6), 249, [.inr (.inr (.inl 1)), .inl (6, 2147483647, []), .inl ((-2147483648), 2147483647, []), .inl ((-2147483648), 2147483647, [])], ([], [], []), ([], []), [(.inl 3, 249, ([], [], []))])
set_option maxRecDepth 100000 in
theorem pl_s733_s {X : Int → Int} {LX : Nat} : ck_Ok p2_OL X LX 186 pl_s733 := ck_ok_s (O := p2_OL) (X := X) (LX := LX) (E := [(132, [pl_s156])]) (mi := 186) (cuts := []) (f := 76) (S := pl_s733) (lx := none) (XF := []) ⟨pl_nmu, ck_E1 (ck_S1 pl_s156_s ck_S0) ck_E0⟩ ck_X0 ck_l0 (by decide +kernel)
set_option maxRecDepth 100000 in
/-- GlacierMail.needFind -/
noncomputable def pl_s734 : ck_Sum := ((7, 1, 6), 249, [.inr (.inr (.inl 1)), .inl ((-2147483648), (-1), []), .inl ((-2147483648), 2147483647, [])], ([], [], []), ([], []), [(.inl 0, 249, ([], [], []))])
set_option maxRecDepth 100000 in
theorem pl_s734_s {X : Int → Int} {LX : Nat} : ck_Ok p2_OL X LX 187 pl_s734 := ck_ok_s (O := p2_OL) (X := X) (LX := LX) (E := [(129, [pl_s145])]) (mi := 187) (cuts := []) (f := 76) (S := pl_s734) (lx := none) (XF := []) ⟨pl_nmu, ck_E1 (ck_S1 pl_s145_s ck_S0) ck_E0⟩ ck_X0 ck_l0 (by decide +kernel)
set_option maxRecDepth 100000 in
/-- GlacierMail.writers -/
noncomputable def pl_s735 : ck_Sum := ((8, 2, 12), 249, [.inr (.inr (.inl 1)), .inl (0, 5, []), .inl ((-2147483648), (-1), []), .inl ((-2147483648), 2147483647, [])], ([], [], []), ([], []), [(.inl 3, 249, ([], [], [])), (.inl 0, 249, ([], [], []))])
set_option maxRecDepth 100000 in
theorem pl_s735_s {X : Int → Int} {LX : Nat} : ck_Ok p2_OL X LX 186 pl_s735 := ck_ok_s (O := p2_OL) (X := X) (LX := LX) (E := [(132, [pl_s159]), (187, [pl_s734])]) (mi := 186) (cuts := []) (f := 84) (S := pl_s735) (lx := none) (XF := []) ⟨pl_nmu, ck_E1 (ck_S1 pl_s159_s ck_S0) (ck_E1 (ck_S1 pl_s734_s ck_S0) ck_E0)⟩ ck_X0 ck_l0 (by decide +kernel)
set_option maxRecDepth 100000 in
/-- GlacierMail.needFind -/
noncomputable def pl_s736 : ck_Sum := ((7, 1, 6), 249, [.inr (.inr (.inl 1)), .inl (300, 2147483647, []), .inl ((-2147483648), 2147483647, [])], ([], [], []), ([], []), [(.inl 0, 249, ([], [], []))])
set_option maxRecDepth 100000 in
theorem pl_s736_s {X : Int → Int} {LX : Nat} : ck_Ok p2_OL X LX 187 pl_s736 := ck_ok_s (O := p2_OL) (X := X) (LX := LX) (E := [(129, [pl_s147])]) (mi := 187) (cuts := []) (f := 76) (S := pl_s736) (lx := none) (XF := []) ⟨pl_nmu, ck_E1 (ck_S1 pl_s147_s ck_S0) ck_E0⟩ ck_X0 ck_l0 (by decide +kernel)
set_option maxRecDepth 100000 in
/-- GlacierMail.writers -/
noncomputable def pl_s737 : ck_Sum := ((8, 2, 12), 249, [.inr (.inr (.inl 1)), .inl (0, 5, []), .inl (300, 2147483647, []), .inl ((-2147483648), 2147483647, [])], ([], [], []), ([], []), [(.inl 3, 249, ([], [], [])), (.inl 0, 249, ([], [], []))])
set_option maxRecDepth 100000 in
theorem pl_s737_s {X : Int → Int} {LX : Nat} : ck_Ok p2_OL X LX 186 pl_s737 := ck_ok_s (O := p2_OL) (X := X) (LX := LX) (E := [(132, [pl_s159]), (187, [pl_s736])]) (mi := 186) (cuts := []) (f := 84) (S := pl_s737) (lx := none) (XF := []) ⟨pl_nmu, ck_E1 (ck_S1 pl_s159_s ck_S0) (ck_E1 (ck_S1 pl_s736_s ck_S0) ck_E0)⟩ ck_X0 ck_l0 (by decide +kernel)
set_option maxRecDepth 100000 in
/-- GlacierMail.needFind -/
noncomputable def pl_s738 : ck_Sum := ((6, 1, 6), 249, [.inr (.inr (.inl 1)), .inl (0, 299, []), .inl ((-2147483648), (-1), [])], ([], [], []), ([], []), [(.inl 0, 249, ([], [], []))])
set_option maxRecDepth 100000 in
theorem pl_s738_s {X : Int → Int} {LX : Nat} : ck_Ok p2_OL X LX 187 pl_s738 := ck_ok_s (O := p2_OL) (X := X) (LX := LX) (E := [(129, [pl_s149])]) (mi := 187) (cuts := []) (f := 82) (S := pl_s738) (lx := none) (XF := []) ⟨pl_nmu, ck_E1 (ck_S1 pl_s149_s ck_S0) ck_E0⟩ ck_X0 ck_l0 (by decide +kernel)
set_option maxRecDepth 100000 in
/-- GlacierMail.writers -/
noncomputable def pl_s739 : ck_Sum := ((8, 2, 12), 249, [.inr (.inr (.inl 1)), .inl (0, 5, []), .inl (0, 299, []), .inl ((-2147483648), (-1), [])], ([], [], []), ([], []), [(.inl 3, 249, ([], [], [])), (.inl 0, 249, ([], [], []))])
set_option maxRecDepth 100000 in
theorem pl_s739_s {X : Int → Int} {LX : Nat} : ck_Ok p2_OL X LX 186 pl_s739 := ck_ok_s (O := p2_OL) (X := X) (LX := LX) (E := [(132, [pl_s159]), (187, [pl_s738])]) (mi := 186) (cuts := []) (f := 84) (S := pl_s739) (lx := none) (XF := []) ⟨pl_nmu, ck_E1 (ck_S1 pl_s159_s ck_S0) (ck_E1 (ck_S1 pl_s738_s ck_S0) ck_E0)⟩ ck_X0 ck_l0 (by decide +kernel)
set_option maxRecDepth 100000 in
/-- GlacierMail.needFind -/
noncomputable def pl_s740 : ck_Sum := ((6, 1, 6), 249, [.inr (.inr (.inl 1)), .inl (0, 299, []), .inl (100, 2147483647, [])], ([], [], []), ([], []), [(.inl 0, 249, ([], [], []))])
set_option maxRecDepth 100000 in
theorem pl_s740_s {X : Int → Int} {LX : Nat} : ck_Ok p2_OL X LX 187 pl_s740 := ck_ok_s (O := p2_OL) (X := X) (LX := LX) (E := [(129, [pl_s149])]) (mi := 187) (cuts := []) (f := 88) (S := pl_s740) (lx := none) (XF := []) ⟨pl_nmu, ck_E1 (ck_S1 pl_s149_s ck_S0) ck_E0⟩ ck_X0 ck_l0 (by decide +kernel)
set_option maxRecDepth 100000 in
/-- GlacierMail.writers -/
noncomputable def pl_s741 : ck_Sum := ((8, 2, 12), 249, [.inr (.inr (.inl 1)), .inl (0, 5, []), .inl (0, 299, []), .inl (100, 2147483647, [])], ([], [], []), ([], []), [(.inl 3, 249, ([], [], [])), (.inl 0, 249, ([], [], []))])
set_option maxRecDepth 100000 in
theorem pl_s741_s {X : Int → Int} {LX : Nat} : ck_Ok p2_OL X LX 186 pl_s741 := ck_ok_s (O := p2_OL) (X := X) (LX := LX) (E := [(132, [pl_s159]), (187, [pl_s740])]) (mi := 186) (cuts := []) (f := 84) (S := pl_s741) (lx := none) (XF := []) ⟨pl_nmu, ck_E1 (ck_S1 pl_s159_s ck_S0) (ck_E1 (ck_S1 pl_s740_s ck_S0) ck_E0)⟩ ck_X0 ck_l0 (by decide +kernel)
set_option maxRecDepth 100000 in
/-- GlacierMail.needFind -/
noncomputable def pl_s742 : ck_Sum := ((1, 0, 0), 249, [.inr (.inr (.inl 1)), .inl (0, 299, []), .inl (0, 99, [])], ([], [], []), ([], []), [(.inr none, 249, ([], [], []))])
set_option maxRecDepth 100000 in
theorem pl_s742_s {X : Int → Int} {LX : Nat} : ck_Ok p2_OL X LX 187 pl_s742 := ck_ok_s (O := p2_OL) (X := X) (LX := LX) (E := [(129, [pl_s149])]) (mi := 187) (cuts := []) (f := 88) (S := pl_s742) (lx := none) (XF := []) ⟨pl_nmu, ck_E1 (ck_S1 pl_s149_s ck_S0) ck_E0⟩ ck_X0 ck_l0 (by decide +kernel)
set_option maxRecDepth 100000 in
/-- GlacierMail.wrote -/
noncomputable def pl_s745 : ck_Sum := ((8, 1, 6), 249, [.inr (.inr (.inl 1)), .inl ((-2147483648), (-1), []), .inl ((-2147483648), 2147483647, []), .inl ((-2147483648), 2147483647, []), .inl ((-2147483648), 2147483647, [])], ([], [], []), ([], []), [(.inl 3, 249, ([], [], []))])
set_option maxRecDepth 100000 in
theorem pl_s745_s {X : Int → Int} {LX : Nat} : ck_Ok p2_OL X LX 190 pl_s745 := ck_ok_s (O := p2_OL) (X := X) (LX := LX) (E := [(139, [pl_s191])]) (mi := 190) (cuts := []) (f := 76) (S := pl_s745) (lx := none) (XF := []) ⟨pl_nmu, ck_E1 (ck_S1 pl_s191_s ck_S0) ck_E0⟩ ck_X0 ck_l0 (by decide +kernel)
set_option maxRecDepth 100000 in
/-- GlacierMail.wrote -/
noncomputable def pl_s746 : ck_Sum := ((8, 1, 6), 249, [.inr (.inr (.inl 1)), .inl (8, 2147483647, []), .inl ((-2147483648), 2147483647, []), .inl ((-2147483648), 2147483647, []), .inl ((-2147483648), 2147483647, [])], ([], [], []), ([], []), [(.inl 3, 249, ([], [], []))])
set_option maxRecDepth 100000 in
theorem pl_s746_s {X : Int → Int} {LX : Nat} : ck_Ok p2_OL X LX 190 pl_s746 := ck_ok_s (O := p2_OL) (X := X) (LX := LX) (E := [(139, [pl_s194])]) (mi := 190) (cuts := []) (f := 76) (S := pl_s746) (lx := none) (XF := []) ⟨pl_nmu, ck_E1 (ck_S1 pl_s194_s ck_S0) ck_E0⟩ ck_X0 ck_l0 (by decide +kernel)
set_option maxRecDepth 100000 in
/-- GlacierMail.wrote -/
noncomputable def pl_s747 : ck_Sum := ((8, 2, 12), 249, [.inr (.inr (.inl 1)), .inl (0, 7, []), .inl ((-2147483648), (-1), []), .inl ((-2147483648), 2147483647, []), .inl ((-2147483648), 2147483647, [])], ([], [], []), ([], []), [(.inl 3, 249, ([], [], []))])
set_option maxRecDepth 100000 in
theorem pl_s747_s {X : Int → Int} {LX : Nat} : ck_Ok p2_OL X LX 190 pl_s747 := ck_ok_s (O := p2_OL) (X := X) (LX := LX) (E := [(139, [pl_s197]), (132, [pl_s153])]) (mi := 190) (cuts := []) (f := 82) (S := pl_s747) (lx := none) (XF := []) ⟨pl_nmu, ck_E1 (ck_S1 pl_s197_s ck_S0) (ck_E1 (ck_S1 pl_s153_s ck_S0) ck_E0)⟩ ck_X0 ck_l0 (by decide +kernel)
set_option maxRecDepth 100000 in
/-- GlacierMail.wrote -/
noncomputable def pl_s748 : ck_Sum := ((8, 2, 12), 249, [.inr (.inr (.inl 1)), .inl (0, 7, []), .inl (6, 2147483647, []), .inl ((-2147483648), 2147483647, []), .inl ((-2147483648), 2147483647, [])], ([], [], []), ([], []), [(.inl 3, 249, ([], [], []))])
set_option maxRecDepth 100000 in
theorem pl_s748_s {X : Int → Int} {LX : Nat} : ck_Ok p2_OL X LX 190 pl_s748 := ck_ok_s (O := p2_OL) (X := X) (LX := LX) (E := [(139, [pl_s197]), (132, [pl_s156])]) (mi := 190) (cuts := []) (f := 82) (S := pl_s748) (lx := none) (XF := []) ⟨pl_nmu, ck_E1 (ck_S1 pl_s197_s ck_S0) (ck_E1 (ck_S1 pl_s156_s ck_S0) ck_E0)⟩ ck_X0 ck_l0 (by decide +kernel)
set_option maxRecDepth 100000 in
/-- GlacierMail.wrote -/
noncomputable def pl_s749 : ck_Sum := ((8, 3, 18), 249, [.inr (.inr (.inl 1)), .inl (0, 7, []), .inl (0, 5, []), .inl ((-2147483648), (-1), []), .inl ((-2147483648), 2147483647, [])], ([], [], []), ([], []), [(.inl 3, 249, ([], [], [])), (.inl 0, 249, ([], [], []))])
set_option maxRecDepth 100000 in
theorem pl_s749_s {X : Int → Int} {LX : Nat} : ck_Ok p2_OL X LX 190 pl_s749 := ck_ok_s (O := p2_OL) (X := X) (LX := LX) (E := [(139, [pl_s197]), (132, [pl_s159]), (187, [pl_s734])]) (mi := 190) (cuts := []) (f := 90) (S := pl_s749) (lx := none) (XF := []) ⟨pl_nmu, ck_E1 (ck_S1 pl_s197_s ck_S0) (ck_E1 (ck_S1 pl_s159_s ck_S0) (ck_E1 (ck_S1 pl_s734_s ck_S0) ck_E0))⟩ ck_X0 ck_l0 (by decide +kernel)
set_option maxRecDepth 100000 in
/-- GlacierMail.wrote -/
noncomputable def pl_s750 : ck_Sum := ((8, 3, 18), 249, [.inr (.inr (.inl 1)), .inl (0, 7, []), .inl (0, 5, []), .inl (300, 2147483647, []), .inl ((-2147483648), 2147483647, [])], ([], [], []), ([], []), [(.inl 3, 249, ([], [], [])), (.inl 0, 249, ([], [], []))])
set_option maxRecDepth 100000 in
theorem pl_s750_s {X : Int → Int} {LX : Nat} : ck_Ok p2_OL X LX 190 pl_s750 := ck_ok_s (O := p2_OL) (X := X) (LX := LX) (E := [(139, [pl_s197]), (132, [pl_s159]), (187, [pl_s736])]) (mi := 190) (cuts := []) (f := 90) (S := pl_s750) (lx := none) (XF := []) ⟨pl_nmu, ck_E1 (ck_S1 pl_s197_s ck_S0) (ck_E1 (ck_S1 pl_s159_s ck_S0) (ck_E1 (ck_S1 pl_s736_s ck_S0) ck_E0))⟩ ck_X0 ck_l0 (by decide +kernel)
set_option maxRecDepth 100000 in
/-- GlacierMail.wrote -/
noncomputable def pl_s751 : ck_Sum := ((8, 3, 18), 249, [.inr (.inr (.inl 1)), .inl (0, 7, []), .inl (0, 5, []), .inl (0, 299, []), .inl ((-2147483648), (-1), [])], ([], [], []), ([], []), [(.inl 3, 249, ([], [], [])), (.inl 0, 249, ([], [], []))])
set_option maxRecDepth 100000 in
theorem pl_s751_s {X : Int → Int} {LX : Nat} : ck_Ok p2_OL X LX 190 pl_s751 := ck_ok_s (O := p2_OL) (X := X) (LX := LX) (E := [(139, [pl_s197]), (132, [pl_s159]), (187, [pl_s738])]) (mi := 190) (cuts := []) (f := 90) (S := pl_s751) (lx := none) (XF := []) ⟨pl_nmu, ck_E1 (ck_S1 pl_s197_s ck_S0) (ck_E1 (ck_S1 pl_s159_s ck_S0) (ck_E1 (ck_S1 pl_s738_s ck_S0) ck_E0))⟩ ck_X0 ck_l0 (by decide +kernel)
set_option maxRecDepth 100000 in
/-- GlacierMail.wrote -/
noncomputable def pl_s752 : ck_Sum := ((8, 3, 18), 249, [.inr (.inr (.inl 1)), .inl (0, 7, []), .inl (0, 5, []), .inl (0, 299, []), .inl (100, 2147483647, [])], ([], [], []), ([], []), [(.inl 3, 249, ([], [], [])), (.inl 0, 249, ([], [], []))])
set_option maxRecDepth 100000 in
theorem pl_s752_s {X : Int → Int} {LX : Nat} : ck_Ok p2_OL X LX 190 pl_s752 := ck_ok_s (O := p2_OL) (X := X) (LX := LX) (E := [(139, [pl_s197]), (132, [pl_s159]), (187, [pl_s740])]) (mi := 190) (cuts := []) (f := 90) (S := pl_s752) (lx := none) (XF := []) ⟨pl_nmu, ck_E1 (ck_S1 pl_s197_s ck_S0) (ck_E1 (ck_S1 pl_s159_s ck_S0) (ck_E1 (ck_S1 pl_s740_s ck_S0) ck_E0))⟩ ck_X0 ck_l0 (by decide +kernel)
set_option maxRecDepth 100000 in
/-- GlacierMail$Rows.size -/
noncomputable def pl_s754 : ck_Sum := ((0, 0, 0), 249, [.inr (.inr (.inl 12))], ([], [], []), ([], []), [(.inr (some (.inl (0, 6, []))), 249, ([], [], []))])
set_option maxRecDepth 100000 in
theorem pl_s754_s {X : Int → Int} {LX : Nat} : ck_Ok p2_OL X LX 9 pl_s754 := ck_ok_s (O := p2_OL) (X := X) (LX := LX) (E := []) (mi := 9) (cuts := []) (f := 76) (S := pl_s754) (lx := none) (XF := []) ⟨pl_nmu, ck_E0⟩ ck_X0 ck_l0 (by decide +kernel)
set_option maxRecDepth 100000 in
/-- GlacierMail.need -/
noncomputable def pl_s755 : ck_Sum := ((6, 1, 6), 249, [.inr (.inr (.inl 1)), .inl ((-2147483648), (-1), []), .inl (0, 6, [])], ([], [], []), ([], []), [(.inl 3, 249, ([], [], []))])
set_option maxRecDepth 100000 in
theorem pl_s755_s {X : Int → Int} {LX : Nat} : ck_Ok p2_OL X LX 133 pl_s755 := ck_ok_s (O := p2_OL) (X := X) (LX := LX) (E := []) (mi := 133) (cuts := []) (f := 76) (S := pl_s755) (lx := none) (XF := []) ⟨pl_nmu, ck_E0⟩ ck_X0 ck_l0 (by decide +kernel)
set_option maxRecDepth 100000 in
/-- GlacierMail.needTable -/
noncomputable def pl_s756 : ck_Sum := ((7, 1, 6), 249, [.inr (.inr (.inl 1)), .inl ((-2147483648), (-1), [])], ([], [], []), ([], []), [(.inl 3, 249, ([], [], []))])
set_option maxRecDepth 100000 in
theorem pl_s756_s {X : Int → Int} {LX : Nat} : ck_Ok p2_OL X LX 193 pl_s756 := ck_ok_s (O := p2_OL) (X := X) (LX := LX) (E := [(9, [pl_s754]), (133, [pl_s755])]) (mi := 193) (cuts := []) (f := 84) (S := pl_s756) (lx := none) (XF := []) ⟨pl_nmu, ck_E1 (ck_S1 pl_s754_s ck_S0) (ck_E1 (ck_S1 pl_s755_s ck_S0) ck_E0)⟩ ck_X0 ck_l0 (by decide +kernel)
set_option maxRecDepth 100000 in
/-- GlacierMail.table -/
noncomputable def pl_s757 : ck_Sum := ((8, 1, 6), 249, [.inr (.inr (.inl 1)), .inl ((-2147483648), (-1), []), .inl ((-2147483648), 2147483647, [])], ([], [], []), ([], []), [(.inl 3, 249, ([], [], []))])
set_option maxRecDepth 100000 in
theorem pl_s757_s {X : Int → Int} {LX : Nat} : ck_Ok p2_OL X LX 192 pl_s757 := ck_ok_s (O := p2_OL) (X := X) (LX := LX) (E := [(193, [pl_s756])]) (mi := 192) (cuts := []) (f := 76) (S := pl_s757) (lx := none) (XF := []) ⟨pl_nmu, ck_E1 (ck_S1 pl_s756_s ck_S0) ck_E0⟩ ck_X0 ck_l0 (by decide +kernel)
set_option maxRecDepth 100000 in
/-- GlacierMail.need -/
noncomputable def pl_s758 : ck_Sum := ((6, 1, 6), 249, [.inr (.inr (.inl 1)), .inl (6, 2147483647, []), .inl (0, 6, [])], ([], [], []), ([], []), [(.inl 3, 249, ([], [], []))])
set_option maxRecDepth 100000 in
theorem pl_s758_s {X : Int → Int} {LX : Nat} : ck_Ok p2_OL X LX 133 pl_s758 := ck_ok_s (O := p2_OL) (X := X) (LX := LX) (E := []) (mi := 133) (cuts := []) (f := 82) (S := pl_s758) (lx := none) (XF := []) ⟨pl_nmu, ck_E0⟩ ck_X0 ck_l0 (by decide +kernel)
set_option maxRecDepth 100000 in
/-- GlacierMail.needTable -/
noncomputable def pl_s759 : ck_Sum := ((7, 1, 6), 249, [.inr (.inr (.inl 1)), .inl (6, 2147483647, [])], ([], [], []), ([], []), [(.inl 3, 249, ([], [], []))])
set_option maxRecDepth 100000 in
theorem pl_s759_s {X : Int → Int} {LX : Nat} : ck_Ok p2_OL X LX 193 pl_s759 := ck_ok_s (O := p2_OL) (X := X) (LX := LX) (E := [(9, [pl_s754]), (133, [pl_s758])]) (mi := 193) (cuts := []) (f := 84) (S := pl_s759) (lx := none) (XF := []) ⟨pl_nmu, ck_E1 (ck_S1 pl_s754_s ck_S0) (ck_E1 (ck_S1 pl_s758_s ck_S0) ck_E0)⟩ ck_X0 ck_l0 (by decide +kernel)
set_option maxRecDepth 100000 in
/-- GlacierMail.table -/
noncomputable def pl_s760 : ck_Sum := ((8, 1, 6), 249, [.inr (.inr (.inl 1)), .inl (6, 2147483647, []), .inl ((-2147483648), 2147483647, [])], ([], [], []), ([], []), [(.inl 3, 249, ([], [], []))])
set_option maxRecDepth 100000 in
theorem pl_s760_s {X : Int → Int} {LX : Nat} : ck_Ok p2_OL X LX 192 pl_s760 := ck_ok_s (O := p2_OL) (X := X) (LX := LX) (E := [(193, [pl_s759])]) (mi := 192) (cuts := []) (f := 76) (S := pl_s760) (lx := none) (XF := []) ⟨pl_nmu, ck_E1 (ck_S1 pl_s759_s ck_S0) ck_E0⟩ ck_X0 ck_l0 (by decide +kernel)
set_option maxRecDepth 100000 in
/-- GlacierMail.need -/
noncomputable def pl_s761 : ck_Sum := ((6, 1, 6), 249, [.inr (.inr (.inl 1)), .inl (0, 5, []), .inl (0, 6, [])], ([], [], []), ([], []), [(.inr none, 249, ([], [], [])), (.inl 3, 249, ([], [], []))])
set_option maxRecDepth 100000 in
theorem pl_s761_s {X : Int → Int} {LX : Nat} : ck_Ok p2_OL X LX 133 pl_s761 := ck_ok_s (O := p2_OL) (X := X) (LX := LX) (E := []) (mi := 133) (cuts := []) (f := 82) (S := pl_s761) (lx := none) (XF := []) ⟨pl_nmu, ck_E0⟩ ck_X0 ck_l0 (by decide +kernel)
set_option maxRecDepth 100000 in
/-- GlacierMail.needTable -/
noncomputable def pl_s762 : ck_Sum := ((7, 1, 6), 249, [.inr (.inr (.inl 1)), .inl (0, 5, [])], ([], [], []), ([], []), [(.inl 3, 249, ([], [], [])), (.inr none, 249, ([], [], []))])
set_option maxRecDepth 100000 in
theorem pl_s762_s {X : Int → Int} {LX : Nat} : ck_Ok p2_OL X LX 193 pl_s762 := ck_ok_s (O := p2_OL) (X := X) (LX := LX) (E := [(9, [pl_s754]), (133, [pl_s761])]) (mi := 193) (cuts := []) (f := 86) (S := pl_s762) (lx := none) (XF := []) ⟨pl_nmu, ck_E1 (ck_S1 pl_s754_s ck_S0) (ck_E1 (ck_S1 pl_s761_s ck_S0) ck_E0)⟩ ck_X0 ck_l0 (by decide +kernel)
set_option maxRecDepth 100000 in
/-- GlacierMail.table -/
noncomputable def pl_s763 : ck_Sum := ((8, 2, 12), 249, [.inr (.inr (.inl 1)), .inl (0, 5, []), .inl ((-2147483648), (-1), [])], ([], [], []), ([], []), [(.inl 3, 249, ([], [], []))])
set_option maxRecDepth 100000 in
theorem pl_s763_s {X : Int → Int} {LX : Nat} : ck_Ok p2_OL X LX 192 pl_s763 := ck_ok_s (O := p2_OL) (X := X) (LX := LX) (E := [(193, [pl_s762]), (132, [pl_s153])]) (mi := 192) (cuts := []) (f := 82) (S := pl_s763) (lx := none) (XF := []) ⟨pl_nmu, ck_E1 (ck_S1 pl_s762_s ck_S0) (ck_E1 (ck_S1 pl_s153_s ck_S0) ck_E0)⟩ ck_X0 ck_l0 (by decide +kernel)
set_option maxRecDepth 100000 in
/-- GlacierMail.table -/
noncomputable def pl_s764 : ck_Sum := ((8, 2, 12), 249, [.inr (.inr (.inl 1)), .inl (0, 5, []), .inl (6, 2147483647, [])], ([], [], []), ([], []), [(.inl 3, 249, ([], [], []))])
set_option maxRecDepth 100000 in
theorem pl_s764_s {X : Int → Int} {LX : Nat} : ck_Ok p2_OL X LX 192 pl_s764 := ck_ok_s (O := p2_OL) (X := X) (LX := LX) (E := [(193, [pl_s762]), (132, [pl_s156])]) (mi := 192) (cuts := []) (f := 82) (S := pl_s764) (lx := none) (XF := []) ⟨pl_nmu, ck_E1 (ck_S1 pl_s762_s ck_S0) (ck_E1 (ck_S1 pl_s156_s ck_S0) ck_E0)⟩ ck_X0 ck_l0 (by decide +kernel)
set_option maxRecDepth 100000 in
/-- GlacierMail$Rows.get -/
noncomputable def pl_s765 : ck_Sum := ((0, 0, 0), 249, [.inr (.inr (.inl 12)), .inl ((-2147483648), 2147483647, []), .inl ((-2147483648), 2147483647, [])], ([], [], []), ([], []), [(.inr (some (.inl (ck_one (-1)))), 249, ([], [], [])), (.inr (some (.inl (0, 20, []))), 249, ([], [], [(12, 3, 3, (1, 6, []))]))])
set_option maxRecDepth 100000 in
theorem pl_s765_s {X : Int → Int} {LX : Nat} : ck_Ok p2_OL X LX 10 pl_s765 := ck_ok_s (O := p2_OL) (X := X) (LX := LX) (E := []) (mi := 10) (cuts := []) (f := 114) (S := pl_s765) (lx := none) (XF := []) ⟨pl_nmu, ck_E0⟩ ck_X0 ck_l0 (by decide +kernel)
set_option maxRecDepth 100000 in
/-- GlacierMail.table -/
noncomputable def pl_s766 : ck_Sum := ((8, 2, 12), 249, [.inr (.inr (.inl 1)), .inl (0, 5, []), .inl (0, 5, [])], ([], [], []), ([], []), [(.inl 3, 249, ([], [], [])), (.inr (some (.inl (ck_one (-1)))), 249, ([], [], [])), (.inr (some (.inl (0, 20, []))), 249, ([], [], [(12, 3, 3, (1, 6, []))]))])
set_option maxRecDepth 100000 in
theorem pl_s766_s {X : Int → Int} {LX : Nat} : ck_Ok p2_OL X LX 192 pl_s766 := ck_ok_s (O := p2_OL) (X := X) (LX := LX) (E := [(193, [pl_s762]), (132, [pl_s159]), (10, [pl_s765])]) (mi := 192) (cuts := []) (f := 96) (S := pl_s766) (lx := none) (XF := []) ⟨pl_nmu, ck_E1 (ck_S1 pl_s762_s ck_S0) (ck_E1 (ck_S1 pl_s159_s ck_S0) (ck_E1 (ck_S1 pl_s765_s ck_S0) ck_E0))⟩ ck_X0 ck_l0 (by decide +kernel)
set_option maxRecDepth 100000 in
/-- GlacierMail.apart -/
noncomputable def pl_s767 : ck_Sum := ((8, 1, 6), 249, [.inr (.inr (.inl 1)), .inl ((-2147483648), (-1), []), .inl ((-2147483648), 2147483647, []), .inl ((-2147483648), 2147483647, [])], ([], [], []), ([], []), [(.inl 3, 249, ([], [], []))])
set_option maxRecDepth 100000 in
theorem pl_s767_s {X : Int → Int} {LX : Nat} : ck_Ok p2_OL X LX 195 pl_s767 := ck_ok_s (O := p2_OL) (X := X) (LX := LX) (E := [(193, [pl_s756])]) (mi := 195) (cuts := []) (f := 76) (S := pl_s767) (lx := none) (XF := []) ⟨pl_nmu, ck_E1 (ck_S1 pl_s756_s ck_S0) ck_E0⟩ ck_X0 ck_l0 (by decide +kernel)
end
/-! 78r86a11.sl -/
section
/-! EVERY CALL OF THE CLASS ENDS, under a law (laid by wip/am/p2l.py). -/
set_option maxRecDepth 100000 in
/-- GlacierMail.apart -/
noncomputable def pl_s768 : ck_Sum := ((8, 1, 6), 249, [.inr (.inr (.inl 1)), .inl (6, 2147483647, []), .inl ((-2147483648), 2147483647, []), .inl ((-2147483648), 2147483647, [])], ([], [], []), ([], []), [(.inl 3, 249, ([], [], []))])
set_option maxRecDepth 100000 in
theorem pl_s768_s {X : Int → Int} {LX : Nat} : ck_Ok p2_OL X LX 195 pl_s768 := ck_ok_s (O := p2_OL) (X := X) (LX := LX) (E := [(193, [pl_s759])]) (mi := 195) (cuts := []) (f := 76) (S := pl_s768) (lx := none) (XF := []) ⟨pl_nmu, ck_E1 (ck_S1 pl_s759_s ck_S0) ck_E0⟩ ck_X0 ck_l0 (by decide +kernel)
set_option maxRecDepth 100000 in
/-- GlacierMail.apart -/
noncomputable def pl_s769 : ck_Sum := ((8, 2, 12), 249, [.inr (.inr (.inl 1)), .inl (0, 5, []), .inl ((-2147483648), (-1), []), .inl ((-2147483648), 2147483647, [])], ([], [], []), ([], []), [(.inl 3, 249, ([], [], []))])
set_option maxRecDepth 100000 in
theorem pl_s769_s {X : Int → Int} {LX : Nat} : ck_Ok p2_OL X LX 195 pl_s769 := ck_ok_s (O := p2_OL) (X := X) (LX := LX) (E := [(193, [pl_s762, pl_s756])]) (mi := 195) (cuts := []) (f := 82) (S := pl_s769) (lx := none) (XF := []) ⟨pl_nmu, ck_E1 (ck_S1 pl_s762_s (ck_S1 pl_s756_s ck_S0)) ck_E0⟩ ck_X0 ck_l0 (by decide +kernel)
set_option maxRecDepth 100000 in
/-- GlacierMail.apart -/
noncomputable def pl_s770 : ck_Sum := ((8, 2, 12), 249, [.inr (.inr (.inl 1)), .inl (0, 5, []), .inl (6, 2147483647, []), .inl ((-2147483648), 2147483647, [])], ([], [], []), ([], []), [(.inl 3, 249, ([], [], []))])
set_option maxRecDepth 100000 in
theorem pl_s770_s {X : Int → Int} {LX : Nat} : ck_Ok p2_OL X LX 195 pl_s770 := ck_ok_s (O := p2_OL) (X := X) (LX := LX) (E := [(193, [pl_s762, pl_s759])]) (mi := 195) (cuts := []) (f := 82) (S := pl_s770) (lx := none) (XF := []) ⟨pl_nmu, ck_E1 (ck_S1 pl_s762_s (ck_S1 pl_s759_s ck_S0)) ck_E0⟩ ck_X0 ck_l0 (by decide +kernel)
set_option maxRecDepth 100000 in
/-- GlacierMail.toldApart -/
noncomputable def pl_s771 : ck_Sum := ((1, 0, 0), 249, [.inr (.inr (.inl 1)), .inl (0, 5, []), .inl (0, 5, []), .inl ((-2147483648), 2147483647, [])], ([], [], []), ([], []), [(.inr (some (.inl (ck_one 0))), 249, ([], [], [])), (.inr (some (.inl (ck_one 1))), 249, ([], [], [(12, 3, 3, (1, 6, []))]))])
set_option maxRecDepth 100000 in
theorem pl_s771_s {X : Int → Int} {LX : Nat} : ck_Ok p2_OL X LX 51 pl_s771 := ck_ok_s (O := p2_OL) (X := X) (LX := LX) (E := [(10, [pl_s765])]) (mi := 51) (cuts := [(3, [some (.inr (.inr (.inl 1))), some (.inl (0, 5, [])), some (.inl (0, 5, [])), some (.inl ((-2147483648), 2147483647, [])), some (.inl (0, 6, []))], ([], [], []), 100, .inl 4, true)]) (f := 202) (S := pl_s771) (lx := none) (XF := []) ⟨pl_nmu, ck_E1 (ck_S1 pl_s765_s ck_S0) ck_E0⟩ ck_X0 ck_l0 (by decide +kernel)
set_option maxRecDepth 100000 in
/-- GlacierMail.apart -/
noncomputable def pl_s772 : ck_Sum := ((8, 2, 12), 249, [.inr (.inr (.inl 1)), .inl (0, 5, []), .inl (0, 5, []), .inl ((-2147483648), 2147483647, [])], ([], [], []), ([], []), [(.inl 3, 249, ([], [], [])), (.inr (some (.inl (ck_one 0))), 249, ([], [], [])), (.inr (some (.inl (ck_one 1))), 249, ([], [], [(12, 3, 3, (1, 6, []))]))])
set_option maxRecDepth 100000 in
theorem pl_s772_s {X : Int → Int} {LX : Nat} : ck_Ok p2_OL X LX 195 pl_s772 := ck_ok_s (O := p2_OL) (X := X) (LX := LX) (E := [(193, [pl_s762]), (51, [pl_s771])]) (mi := 195) (cuts := []) (f := 94) (S := pl_s772) (lx := none) (XF := []) ⟨pl_nmu, ck_E1 (ck_S1 pl_s762_s ck_S0) (ck_E1 (ck_S1 pl_s771_s ck_S0) ck_E0)⟩ ck_X0 ck_l0 (by decide +kernel)
set_option maxRecDepth 100000 in
/-- GlacierMail.allToldApart -/
noncomputable def pl_s773 : ck_Sum := ((2, 0, 0), 249, [.inr (.inr (.inl 1)), .inl ((-2147483648), 2147483647, [])], ([], [], []), ([], []), [(.inr (some (.inl (ck_one 1))), 249, ([], [], [])), (.inr (some (.inl (ck_one 0))), 249, ([], [], []))])
set_option maxRecDepth 100000 in
theorem pl_s773_s {X : Int → Int} {LX : Nat} : ck_Ok p2_OL X LX 50 pl_s773 := ck_ok_s (O := p2_OL) (X := X) (LX := LX) (E := [(9, [pl_s754]), (51, [pl_s771])]) (mi := 50) (cuts := [(2, [some (.inr (.inr (.inl 1))), some (.inl ((-2147483648), 2147483647, [])), some (.inl (0, 6, [])), none], ([], [], []), 100, .inl 2, true), (20, [some (.inr (.inr (.inl 1))), some (.inl ((-2147483648), 2147483647, [])), some (.inl (0, 5, [(100, 0)])), some (.inl (1, 6, []))], ([], [], []), 300, .inl 3, true)]) (f := 200) (S := pl_s773) (lx := none) (XF := []) ⟨pl_nmu, ck_E1 (ck_S1 pl_s754_s ck_S0) (ck_E1 (ck_S1 pl_s771_s ck_S0) ck_E0)⟩ ck_X0 ck_l0 (by decide +kernel)
set_option maxRecDepth 100000 in
/-- java/lang/Integer.bitCount -/
noncomputable def pl_s774 : ck_Sum := ((0, 0, 0), 249, [.inl ((-2147483648), 2147483647, [])], ([], [], []), ([], []), [(.inr (some (.inl (0, 63, []))), 249, ([], [], []))])
set_option maxRecDepth 100000 in
theorem pl_s774_s {X : Int → Int} {LX : Nat} : ck_Ok p2_OL X LX 49 pl_s774 := ck_ok_s (O := p2_OL) (X := X) (LX := LX) (E := []) (mi := 49) (cuts := []) (f := 154) (S := pl_s774) (lx := none) (XF := []) ⟨pl_nmu, ck_E0⟩ ck_X0 ck_l0 (by decide +kernel)
set_option maxRecDepth 100000 in
/-- GlacierMail.poles -/
noncomputable def pl_s775 : ck_Sum := ((3, 0, 0), 249, [.inr (.inr (.inl 1))], ([], [], []), ([], []), [(.inr (some (.inl ((-1), 2147483646, []))), 249, ([], [], []))])
set_option maxRecDepth 100000 in
theorem pl_s775_s {X : Int → Int} {LX : Nat} : ck_Ok p2_OL X LX 48 pl_s775 := ck_ok_s (O := p2_OL) (X := X) (LX := LX) (E := [(50, [pl_s773]), (49, [pl_s774])]) (mi := 48) (cuts := [(4, [some (.inr (.inr (.inl 1))), some (.inl ((-1), 2147483646, [])), some (.inl (0, 2147483647, [])), none], ([], [], []), 100, .inl 2, true)]) (f := 206) (S := pl_s775) (lx := none) (XF := []) ⟨pl_nmu, ck_E1 (ck_S1 pl_s773_s ck_S0) (ck_E1 (ck_S1 pl_s774_s ck_S0) ck_E0)⟩ ck_X0 ck_l0 (by decide +kernel)
set_option maxRecDepth 100000 in
/-- GlacierMail.areReadings -/
noncomputable def pl_s776 : ck_Sum := ((0, 0, 0), 249, [.inr (.inr (.inl 1)), .inl (0, 400, [])], ([], [], []), ([], []), [(.inr (some (.inl (ck_one 0))), 249, ([], [], [])), (.inr (some (.inl (ck_one 1))), 249, ([], [], []))])
set_option maxRecDepth 100000 in
theorem pl_s776_s {X : Int → Int} {LX : Nat} : ck_Ok p2_OL X LX 198 pl_s776 := ck_ok_s (O := p2_OL) (X := X) (LX := LX) (E := []) (mi := 198) (cuts := [(10, [some (.inr (.inr (.inl 1))), some (.inl (0, 400, [])), some (.inl (0, 400, [])), none, none], ([], [], []), 100, .inl 2, true)]) (f := 302) (S := pl_s776) (lx := none) (XF := []) ⟨pl_nmu, ck_E0⟩ ck_X0 ck_l0 (by decide +kernel)
set_option maxRecDepth 100000 in
/-- GlacierMail.fitsReadings -/
noncomputable def pl_s777 : ck_Sum := ((1, 0, 0), 249, [.inr (.inr (.inl 1)), .inl (0, 5, []), .inl (0, 400, [])], ([], [], []), ([], []), [(.inr (some (.inl (ck_one 1))), 249, ([], [], [])), (.inr (some (.inl (ck_one 0))), 249, ([], [], []))])
set_option maxRecDepth 100000 in
theorem pl_s777_s {X : Int → Int} {LX : Nat} : ck_Ok p2_OL X LX 199 pl_s777 := ck_ok_s (O := p2_OL) (X := X) (LX := LX) (E := [(10, [pl_s765])]) (mi := 199) (cuts := [(2, [some (.inr (.inr (.inl 1))), some (.inl (0, 5, [])), some (.inl (0, 400, [])), some (.inl (0, 400, []))], ([], [], []), 100, .inl 3, true)]) (f := 214) (S := pl_s777) (lx := none) (XF := []) ⟨pl_nmu, ck_E1 (ck_S1 pl_s765_s ck_S0) ck_E0⟩ ck_X0 ck_l0 (by decide +kernel)
set_option maxRecDepth 100000 in
/-- GlacierMail.fit -/
noncomputable def pl_s778 : ck_Sum := ((6, 1, 6), 249, [.inr (.inr (.inl 1))], ([], [], [(1, 1, 1, (0, 400, [(6, 0)]))]), ([(1, 1, 1)], []), [(.inl 0, 249, ([], [], [(1, 1, 1, ck_one 0)])), (.inr (some (.inl ((-2147483648), 2147483647, []))), 249, ([], [], [(1, 1, 1, ck_one 0)]))])
set_option maxRecDepth 100000 in
theorem pl_s778_s {X : Int → Int} {LX : Nat} : ck_Ok p2_OL X LX 197 pl_s778 := ck_ok_s (O := p2_OL) (X := X) (LX := LX) (E := [(198, [pl_s776]), (9, [pl_s754]), (199, [pl_s777])]) (mi := 197) (cuts := [(33, [some (.inr (.inr (.inl 1))), some (.inl (0, 400, [(6, 0)])), some (.inl ((-2147483648), 2147483647, [])), some (.inl (0, 6, []))], ([], [], [(1, 1, 1, ck_one 0)]), 100, .inl 3, true)]) (f := 170) (S := pl_s778) (lx := none) (XF := []) ⟨pl_nmu, ck_E1 (ck_S1 pl_s776_s ck_S0) (ck_E1 (ck_S1 pl_s754_s ck_S0) (ck_E1 (ck_S1 pl_s777_s ck_S0) ck_E0))⟩ ck_X0 ck_l0 (by decide +kernel)
set_option maxRecDepth 100000 in
/-- GlacierMail.soonest -/
noncomputable def pl_s779 : ck_Sum := ((8, 1, 6), 249, [.inr (.inr (.inl 1)), .inl ((-2147483648), (-1), []), .inl ((-2147483648), 2147483647, []), .inl (0, 1, [])], ([], [], []), ([], []), [(.inl 3, 249, ([], [], []))])
set_option maxRecDepth 100000 in
theorem pl_s779_s {X : Int → Int} {LX : Nat} : ck_Ok p2_OL X LX 201 pl_s779 := ck_ok_s (O := p2_OL) (X := X) (LX := LX) (E := [(139, [pl_s191])]) (mi := 201) (cuts := []) (f := 76) (S := pl_s779) (lx := none) (XF := []) ⟨pl_nmu, ck_E1 (ck_S1 pl_s191_s ck_S0) ck_E0⟩ ck_X0 ck_l0 (by decide +kernel)
set_option maxRecDepth 100000 in
/-- GlacierMail.soonest -/
noncomputable def pl_s780 : ck_Sum := ((8, 1, 6), 249, [.inr (.inr (.inl 1)), .inl (8, 2147483647, []), .inl ((-2147483648), 2147483647, []), .inl (0, 1, [])], ([], [], []), ([], []), [(.inl 3, 249, ([], [], []))])
set_option maxRecDepth 100000 in
theorem pl_s780_s {X : Int → Int} {LX : Nat} : ck_Ok p2_OL X LX 201 pl_s780 := ck_ok_s (O := p2_OL) (X := X) (LX := LX) (E := [(139, [pl_s194])]) (mi := 201) (cuts := []) (f := 76) (S := pl_s780) (lx := none) (XF := []) ⟨pl_nmu, ck_E1 (ck_S1 pl_s194_s ck_S0) ck_E0⟩ ck_X0 ck_l0 (by decide +kernel)
set_option maxRecDepth 100000 in
/-- GlacierMail.soonest -/
noncomputable def pl_s781 : ck_Sum := ((8, 2, 12), 249, [.inr (.inr (.inl 1)), .inl (0, 7, []), .inl ((-2147483648), (-1), []), .inl (0, 1, [])], ([], [], []), ([], []), [(.inl 3, 249, ([], [], []))])
set_option maxRecDepth 100000 in
theorem pl_s781_s {X : Int → Int} {LX : Nat} : ck_Ok p2_OL X LX 201 pl_s781 := ck_ok_s (O := p2_OL) (X := X) (LX := LX) (E := [(139, [pl_s197, pl_s191])]) (mi := 201) (cuts := []) (f := 82) (S := pl_s781) (lx := none) (XF := []) ⟨pl_nmu, ck_E1 (ck_S1 pl_s197_s (ck_S1 pl_s191_s ck_S0)) ck_E0⟩ ck_X0 ck_l0 (by decide +kernel)
set_option maxRecDepth 100000 in
/-- GlacierMail.soonest -/
noncomputable def pl_s782 : ck_Sum := ((8, 2, 12), 249, [.inr (.inr (.inl 1)), .inl (0, 7, []), .inl (8, 2147483647, []), .inl (0, 1, [])], ([], [], []), ([], []), [(.inl 3, 249, ([], [], []))])
set_option maxRecDepth 100000 in
theorem pl_s782_s {X : Int → Int} {LX : Nat} : ck_Ok p2_OL X LX 201 pl_s782 := ck_ok_s (O := p2_OL) (X := X) (LX := LX) (E := [(139, [pl_s197, pl_s194])]) (mi := 201) (cuts := []) (f := 82) (S := pl_s782) (lx := none) (XF := []) ⟨pl_nmu, ck_E1 (ck_S1 pl_s197_s (ck_S1 pl_s194_s ck_S0)) ck_E0⟩ ck_X0 ck_l0 (by decide +kernel)
set_option maxRecDepth 100000 in
/-- java/util/Arrays.fill -/
noncomputable def pl_s783 : ck_Sum := ((0, 0, 0), 249, [.inr (.inr (.inl 210)), .inl (ck_one 0)], ([], [], []), ([(210, 0, 2399)], []), [(.inr none, 249, ([], [], []))])
set_option maxRecDepth 100000 in
theorem pl_s783_s {X : Int → Int} {LX : Nat} : ck_Ok p2_OL X LX 8 pl_s783 := ck_ok_s (O := p2_OL) (X := X) (LX := LX) (E := []) (mi := 8) (cuts := [(5, [some (.inr (.inr (.inl 210))), some (.inl (ck_one 0)), some (.inl (0, 2400, [])), some (.inl (ck_one 2400))], ([], [], []), 100, .inl 2, true)]) (f := 130) (S := pl_s783) (lx := none) (XF := []) ⟨pl_nmu, ck_E0⟩ ck_X0 ck_l0 (by decide +kernel)
set_option maxRecDepth 100000 in
/-- GlacierMail$Rows.reset -/
noncomputable def pl_s784 : ck_Sum := ((1, 0, 0), 249, [.inr (.inr (.inl 209)), .inl (0, 8, [])], ([], [], []), ([(209, 3, 3), (210, 0, 2399)], []), [(.inr none, 249, ([], [], []))])
set_option maxRecDepth 100000 in
theorem pl_s784_s {X : Int → Int} {LX : Nat} : ck_Ok p2_OL X LX 25 pl_s784 := ck_ok_s (O := p2_OL) (X := X) (LX := LX) (E := [(8, [pl_s783])]) (mi := 25) (cuts := []) (f := 96) (S := pl_s784) (lx := none) (XF := []) ⟨pl_nmu, ck_E1 (ck_S1 pl_s783_s ck_S0) ck_E0⟩ ck_X0 ck_l0 (by decide +kernel)
set_option maxRecDepth 100000 in
/-- java/util/Arrays.fill -/
noncomputable def pl_s785 : ck_Sum := ((0, 0, 0), 249, [.inr (.inr (.inl 212)), .inl (ck_one 0)], ([], [], []), ([(212, 0, 2399)], []), [(.inr none, 249, ([], [], []))])
set_option maxRecDepth 100000 in
theorem pl_s785_s {X : Int → Int} {LX : Nat} : ck_Ok p2_OL X LX 8 pl_s785 := ck_ok_s (O := p2_OL) (X := X) (LX := LX) (E := []) (mi := 8) (cuts := [(5, [some (.inr (.inr (.inl 212))), some (.inl (ck_one 0)), some (.inl (0, 2400, [])), some (.inl (ck_one 2400))], ([], [], []), 100, .inl 2, true)]) (f := 130) (S := pl_s785) (lx := none) (XF := []) ⟨pl_nmu, ck_E0⟩ ck_X0 ck_l0 (by decide +kernel)
set_option maxRecDepth 100000 in
/-- GlacierMail$Rows.reset -/
noncomputable def pl_s786 : ck_Sum := ((1, 0, 0), 249, [.inr (.inr (.inl 211)), .inl (0, 8, [])], ([], [], []), ([(211, 3, 3), (212, 0, 2399)], []), [(.inr none, 249, ([], [], []))])
set_option maxRecDepth 100000 in
theorem pl_s786_s {X : Int → Int} {LX : Nat} : ck_Ok p2_OL X LX 25 pl_s786 := ck_ok_s (O := p2_OL) (X := X) (LX := LX) (E := [(8, [pl_s785])]) (mi := 25) (cuts := []) (f := 96) (S := pl_s786) (lx := none) (XF := []) ⟨pl_nmu, ck_E1 (ck_S1 pl_s785_s ck_S0) ck_E0⟩ ck_X0 ck_l0 (by decide +kernel)
set_option maxRecDepth 100000 in
/-- GlacierMail$Rows.get -/
noncomputable def pl_s787 : ck_Sum := ((0, 0, 0), 249, [.inr (.inr (.inl 209)), .inl ((-2147483648), 2147483647, []), .inl ((-2147483648), 2147483647, [])], ([], [], []), ([], []), [(.inr (some (.inl ((-2147483648), 2147483647, []))), 249, ([], [], []))])
set_option maxRecDepth 100000 in
theorem pl_s787_s {X : Int → Int} {LX : Nat} : ck_Ok p2_OL X LX 10 pl_s787 := ck_ok_s (O := p2_OL) (X := X) (LX := LX) (E := []) (mi := 10) (cuts := []) (f := 114) (S := pl_s787) (lx := none) (XF := []) ⟨pl_nmu, ck_E0⟩ ck_X0 ck_l0 (by decide +kernel)
set_option maxRecDepth 100000 in
/-- GlacierMail$Rows.put -/
noncomputable def pl_s788 : ck_Sum := ((0, 0, 0), 249, [.inr (.inr (.inl 211)), .inl (0, 7, []), .inl (0, 299, []), .inl ((-2147483648), 299, [])], ([], [], []), ([(212, 0, 2399)], []), [(.inr none, 249, ([], [], []))])
set_option maxRecDepth 100000 in
theorem pl_s788_s {X : Int → Int} {LX : Nat} : ck_Ok p2_OL X LX 45 pl_s788 := ck_ok_s (O := p2_OL) (X := X) (LX := LX) (E := []) (mi := 45) (cuts := []) (f := 116) (S := pl_s788) (lx := none) (XF := []) ⟨pl_nmu, ck_E0⟩ ck_X0 ck_l0 (by decide +kernel)
set_option maxRecDepth 100000 in
/-- GlacierMail$Rows.put -/
noncomputable def pl_s789 : ck_Sum := ((0, 0, 0), 249, [.inr (.inr (.inl 209)), .inl (0, 7, []), .inl ((-2147483648), 299, []), .inl (ck_one 1)], ([], [], []), ([(210, 0, 2399)], []), [(.inr none, 249, ([], [], []))])
set_option maxRecDepth 100000 in
theorem pl_s789_s {X : Int → Int} {LX : Nat} : ck_Ok p2_OL X LX 45 pl_s789 := ck_ok_s (O := p2_OL) (X := X) (LX := LX) (E := []) (mi := 45) (cuts := []) (f := 116) (S := pl_s789) (lx := none) (XF := []) ⟨pl_nmu, ck_E0⟩ ck_X0 ck_l0 (by decide +kernel)
set_option maxRecDepth 100000 in
/-- GlacierMail$Rows.put -/
noncomputable def pl_s791 : ck_Sum := ((0, 0, 0), 249, [.inr (.inr (.inl 211)), .inl (0, 7, []), .inl (2, 299, []), .inl ((-2147483648), 299, [])], ([], [], []), (zl198, []), [(.inr none, 249, ([], [], []))])
set_option maxRecDepth 100000 in
theorem pl_s791_s {X : Int → Int} {LX : Nat} : ck_Ok p2_OL X LX 45 pl_s791 := ck_ok_s (O := p2_OL) (X := X) (LX := LX) (E := []) (mi := 45) (cuts := []) (f := 116) (S := pl_s791) (lx := none) (XF := []) ⟨pl_nmu, ck_E0⟩ ck_X0 ck_l0 (by decide +kernel)
set_option maxRecDepth 100000 in
/-- GlacierMail$Rows.put -/
noncomputable def pl_s792 : ck_Sum := ((0, 0, 0), 249, [.inr (.inr (.inl 209)), .inl (0, 7, []), .inl ((-2147483648), 299, []), .inl ((-2147483648), 2147483647, [])], ([], [], []), ([(210, 0, 2399)], []), [(.inr none, 249, ([], [], []))])
set_option maxRecDepth 100000 in
theorem pl_s792_s {X : Int → Int} {LX : Nat} : ck_Ok p2_OL X LX 45 pl_s792 := ck_ok_s (O := p2_OL) (X := X) (LX := LX) (E := []) (mi := 45) (cuts := []) (f := 116) (S := pl_s792) (lx := none) (XF := []) ⟨pl_nmu, ck_E0⟩ ck_X0 ck_l0 (by decide +kernel)
set_option maxRecDepth 100000 in
/-- GlacierMail$Answers.firstYear -/
noncomputable def pl_s795 : ck_Sum := ((1, 0, 0), 249, [.inr (.inr (.inl 208)), .inl (0, 7, [])], ([], [], []), ([], []), [(.inr (some (.inl (ck_one (-1)))), 249, ([], [], [])), (.inr (some (.inl (0, 299, []))), 249, ([], [], []))])
set_option maxRecDepth 100000 in
theorem pl_s795_s {X : Int → Int} {LX : Nat} : ck_Ok p2_OL X LX 204 pl_s795 := ck_ok_s (O := p2_OL) (X := X) (LX := LX) (E := [(10, [pl_s787])]) (mi := 204) (cuts := [(2, [some (.inr (.inr (.inl 208))), some (.inl (0, 7, [])), some (.inl (0, 300, []))], ([], [], []), 100, .inl 2, true)]) (f := 138) (S := pl_s795) (lx := none) (XF := []) ⟨pl_nmu, ck_E1 (ck_S1 pl_s787_s ck_S0) ck_E0⟩ ck_X0 ck_l0 (by decide +kernel)
set_option maxRecDepth 100000 in
/-- GlacierMail$Answers.fewestThrows -/
noncomputable def pl_s796 : ck_Sum := ((1, 0, 0), 249, [.inr (.inr (.inl 208)), .inl (0, 7, []), .inl (0, 299, [])], ([], [], []), ([], []), [(.inr (some (.inl ((-2147483648), 2147483647, []))), 249, ([], [], []))])
set_option maxRecDepth 100000 in
theorem pl_s796_s {X : Int → Int} {LX : Nat} : ck_Ok p2_OL X LX 205 pl_s796 := ck_ok_s (O := p2_OL) (X := X) (LX := LX) (E := [(10, [pl_s787])]) (mi := 205) (cuts := []) (f := 82) (S := pl_s796) (lx := none) (XF := []) ⟨pl_nmu, ck_E1 (ck_S1 pl_s787_s ck_S0) ck_E0⟩ ck_X0 ck_l0 (by decide +kernel)
set_option maxRecDepth 100000 in
/-- GlacierMail.chain -/
noncomputable def pl_s798 : ck_Sum := ((8, 1, 6), 249, [.inr (.inr (.inl 1)), .inl ((-2147483648), (-1), []), .inl ((-2147483648), 2147483647, []), .inl ((-2147483648), 2147483647, [])], ([], [], []), ([], []), [(.inl 3, 249, ([], [], []))])
set_option maxRecDepth 100000 in
theorem pl_s798_s {X : Int → Int} {LX : Nat} : ck_Ok p2_OL X LX 207 pl_s798 := ck_ok_s (O := p2_OL) (X := X) (LX := LX) (E := [(139, [pl_s191])]) (mi := 207) (cuts := []) (f := 76) (S := pl_s798) (lx := none) (XF := []) ⟨pl_nmu, ck_E1 (ck_S1 pl_s191_s ck_S0) ck_E0⟩ ck_X0 ck_l0 (by decide +kernel)
set_option maxRecDepth 100000 in
/-- GlacierMail.chain -/
noncomputable def pl_s799 : ck_Sum := ((8, 1, 6), 249, [.inr (.inr (.inl 1)), .inl (8, 2147483647, []), .inl ((-2147483648), 2147483647, []), .inl ((-2147483648), 2147483647, [])], ([], [], []), ([], []), [(.inl 3, 249, ([], [], []))])
set_option maxRecDepth 100000 in
theorem pl_s799_s {X : Int → Int} {LX : Nat} : ck_Ok p2_OL X LX 207 pl_s799 := ck_ok_s (O := p2_OL) (X := X) (LX := LX) (E := [(139, [pl_s194])]) (mi := 207) (cuts := []) (f := 76) (S := pl_s799) (lx := none) (XF := []) ⟨pl_nmu, ck_E1 (ck_S1 pl_s194_s ck_S0) ck_E0⟩ ck_X0 ck_l0 (by decide +kernel)
set_option maxRecDepth 100000 in
/-- GlacierMail.chain -/
noncomputable def pl_s800 : ck_Sum := ((8, 2, 12), 249, [.inr (.inr (.inl 1)), .inl (0, 7, []), .inl ((-2147483648), (-1), []), .inl ((-2147483648), 2147483647, [])], ([], [], []), ([], []), [(.inl 3, 249, ([], [], []))])
set_option maxRecDepth 100000 in
theorem pl_s800_s {X : Int → Int} {LX : Nat} : ck_Ok p2_OL X LX 207 pl_s800 := ck_ok_s (O := p2_OL) (X := X) (LX := LX) (E := [(139, [pl_s197, pl_s191])]) (mi := 207) (cuts := []) (f := 82) (S := pl_s800) (lx := none) (XF := []) ⟨pl_nmu, ck_E1 (ck_S1 pl_s197_s (ck_S1 pl_s191_s ck_S0)) ck_E0⟩ ck_X0 ck_l0 (by decide +kernel)
set_option maxRecDepth 100000 in
/-- GlacierMail.chain -/
noncomputable def pl_s801 : ck_Sum := ((8, 2, 12), 249, [.inr (.inr (.inl 1)), .inl (0, 7, []), .inl (8, 2147483647, []), .inl ((-2147483648), 2147483647, [])], ([], [], []), ([], []), [(.inl 3, 249, ([], [], []))])
set_option maxRecDepth 100000 in
theorem pl_s801_s {X : Int → Int} {LX : Nat} : ck_Ok p2_OL X LX 207 pl_s801 := ck_ok_s (O := p2_OL) (X := X) (LX := LX) (E := [(139, [pl_s197, pl_s194])]) (mi := 207) (cuts := []) (f := 82) (S := pl_s801) (lx := none) (XF := []) ⟨pl_nmu, ck_E1 (ck_S1 pl_s197_s (ck_S1 pl_s194_s ck_S0)) ck_E0⟩ ck_X0 ck_l0 (by decide +kernel)
set_option maxRecDepth 100000 in
/-- GlacierMail$Rows.get -/
noncomputable def pl_s802 : ck_Sum := ((0, 0, 0), 249, [.inr (.inr (.inl 211)), .inl ((-2147483648), 2147483647, []), .inl ((-2147483648), 2147483647, [])], ([], [], []), ([], []), [(.inr (some (.inl ((-2147483648), 299, []))), 249, ([], [], []))])
set_option maxRecDepth 100000 in
theorem pl_s802_s {X : Int → Int} {LX : Nat} : ck_Ok p2_OL X LX 10 pl_s802 := ck_ok_s (O := p2_OL) (X := X) (LX := LX) (E := []) (mi := 10) (cuts := []) (f := 114) (S := pl_s802) (lx := none) (XF := []) ⟨pl_nmu, ck_E0⟩ ck_X0 ck_l0 (by decide +kernel)
set_option maxRecDepth 100000 in
/-- GlacierMail$Answers.throwAhead -/
noncomputable def pl_s803 : ck_Sum := ((1, 0, 0), 249, [.inr (.inr (.inl 208)), .inl (0, 2398, []), .inl (0, 299, []), .inl (1, 2147483646, [])], ([], [], [(3, 6, 6, (0, 299, [(10, 0)]))]), ([], []), [(.inr (some (.inl (0, 2398, []))), 249, ([], [], []))])
set_option maxRecDepth 100000 in
theorem pl_s803_s {X : Int → Int} {LX : Nat} : ck_Ok p2_OL X LX 209 pl_s803 := ck_ok_s (O := p2_OL) (X := X) (LX := LX) (E := [(10, [pl_s224, pl_s787, pl_s802]), (9, [pl_s189])]) (mi := 209) (cuts := [(17, [some (.inr (.inr (.inl 208))), some (.inl (0, 2398, [])), some (.inl (0, 299, [])), some (.inl (1, 2147483646, [])), some (.inl ((-1), 98, [])), some (.inl (0, 9, [])), none], ([], [], [(3, 6, 6, (0, 299, [(10, 0)]))]), 100, .inl 5, true), (59, [some (.inr (.inr (.inl 208))), some (.inl (0, 2398, [])), some (.inl (0, 299, [])), some (.inl (1, 2147483646, [])), some (.inl ((-1), 98, [])), some (.inl (0, 7, [(100, 0)])), some (.inl (0, 299, [(1000010, 0)]))], ([], [], [(3, 6, 6, (0, 299, [(10, 0)]))]), 300, .inl 6, true)]) (f := 260) (S := pl_s803) (lx := none) (XF := []) ⟨pl_nmu, ck_E1 (ck_S1 pl_s224_s (ck_S1 pl_s787_s (ck_S1 pl_s802_s ck_S0))) (ck_E1 (ck_S1 pl_s189_s ck_S0) ck_E0)⟩ ck_X0 ck_l0 (by decide +kernel)
set_option maxRecDepth 100000 in
/-- GlacierMail$Answers.holder -/
noncomputable def pl_s804 : ck_Sum := ((2, 0, 0), 249, [.inr (.inr (.inl 208)), .inl (0, 7, []), .inl (0, 7, []), .inl (ck_one 0)], ([], [], [(3, 6, 6, (0, 299, [(10, 0)]))]), ([], []), [(.inr (some (.inl (ck_one (-1)))), 249, ([], [], [])), (.inr (some (.inl (0, 7, []))), 249, ([], [], []))])
set_option maxRecDepth 100000 in
theorem pl_s804_s {X : Int → Int} {LX : Nat} : ck_Ok p2_OL X LX 208 pl_s804 := ck_ok_s (O := p2_OL) (X := X) (LX := LX) (E := [(204, [pl_s795]), (10, [pl_s787]), (209, [pl_s803])]) (mi := 208) (cuts := [(44, [some (.inr (.inr (.inl 208))), some (.inl (0, 7, [])), some (.inl (0, 7, [])), some (.inl (ck_one 0)), some (.inl (0, 299, [])), some (.inl (0, 2398, [])), some (.inl (0, 2147483647, [])), some (.inl (0, 2147483647, [])), none], ([], [], [(3, 6, 6, (0, 299, [(10, 0)]))]), 100, .inl 7, false)]) (f := 190) (S := pl_s804) (lx := none) (XF := []) ⟨pl_nmu, ck_E1 (ck_S1 pl_s795_s ck_S0) (ck_E1 (ck_S1 pl_s787_s ck_S0) (ck_E1 (ck_S1 pl_s803_s ck_S0) ck_E0))⟩ ck_X0 ck_l0 (by decide +kernel)
set_option maxRecDepth 100000 in
/-- GlacierMail$Answers.throwAhead -/
noncomputable def pl_s806 : ck_Sum := ((1, 0, 0), 249, [.inr (.inr (.inl 208)), .inl (0, 2398, []), .inl (0, 299, []), .inl (51, 2147483646, [])], ([], [], [(3, 6, 6, (0, 299, [(10, 0)]))]), ([], []), [(.inr (some (.inl (0, 2398, []))), 249, ([], [], []))])
set_option maxRecDepth 100000 in
theorem pl_s806_s {X : Int → Int} {LX : Nat} : ck_Ok p2_OL X LX 209 pl_s806 := ck_ok_s (O := p2_OL) (X := X) (LX := LX) (E := [(10, [pl_s224, pl_s787, pl_s802]), (9, [pl_s189])]) (mi := 209) (cuts := [(17, [some (.inr (.inr (.inl 208))), some (.inl (0, 2398, [])), some (.inl (0, 299, [])), some (.inl (51, 2147483646, [])), some (.inl ((-1), 98, [])), some (.inl (0, 9, [])), none], ([], [], [(3, 6, 6, (0, 299, [(10, 0)]))]), 100, .inl 5, true), (59, [some (.inr (.inr (.inl 208))), some (.inl (0, 2398, [])), some (.inl (0, 299, [])), some (.inl (51, 2147483646, [])), some (.inl ((-1), 98, [])), some (.inl (0, 7, [(100, 0)])), some (.inl (0, 299, [(1000010, 0)]))], ([], [], [(3, 6, 6, (0, 299, [(10, 0)]))]), 300, .inl 6, true)]) (f := 260) (S := pl_s806) (lx := none) (XF := []) ⟨pl_nmu, ck_E1 (ck_S1 pl_s224_s (ck_S1 pl_s787_s (ck_S1 pl_s802_s ck_S0))) (ck_E1 (ck_S1 pl_s189_s ck_S0) ck_E0)⟩ ck_X0 ck_l0 (by decide +kernel)
set_option maxRecDepth 100000 in
/-- GlacierMail$Answers.holder -/
noncomputable def pl_s807 : ck_Sum := ((2, 0, 0), 249, [.inr (.inr (.inl 208)), .inl (0, 7, []), .inl (0, 7, []), .inl (51, 2147483647, [])], ([], [], [(3, 6, 6, (0, 299, [(10, 0)]))]), ([], []), [(.inr (some (.inl (ck_one (-1)))), 249, ([], [], [])), (.inr (some (.inl (0, 2398, []))), 249, ([], [], []))])
set_option maxRecDepth 100000 in
theorem pl_s807_s {X : Int → Int} {LX : Nat} : ck_Ok p2_OL X LX 208 pl_s807 := ck_ok_s (O := p2_OL) (X := X) (LX := LX) (E := [(204, [pl_s795]), (10, [pl_s787]), (209, [pl_s806])]) (mi := 208) (cuts := [(44, [some (.inr (.inr (.inl 208))), some (.inl (0, 7, [])), some (.inl (0, 7, [])), some (.inl (51, 2147483647, [])), some (.inl (0, 299, [])), some (.inl (0, 2398, [])), some (.inl (51, 2147483647, [])), some (.inl (51, 2147483647, [])), none], ([], [], [(3, 6, 6, (0, 299, [(10, 0)]))]), 100, .inl 7, false)]) (f := 190) (S := pl_s807) (lx := none) (XF := []) ⟨pl_nmu, ck_E1 (ck_S1 pl_s795_s ck_S0) (ck_E1 (ck_S1 pl_s787_s ck_S0) (ck_E1 (ck_S1 pl_s806_s ck_S0) ck_E0))⟩ ck_X0 ck_l0 (by decide +kernel)
set_option maxRecDepth 100000 in
/-- GlacierMail$Answers.holder -/
noncomputable def pl_s809 : ck_Sum := ((2, 0, 0), 249, [.inr (.inr (.inl 208)), .inl (0, 7, []), .inl (0, 7, []), .inl (1, 50, [])], ([], [], [(3, 6, 6, (0, 299, [(10, 0)]))]), ([], []), [(.inr (some (.inl (ck_one (-1)))), 249, ([], [], [])), (.inr (some (.inl (0, 2398, []))), 249, ([], [], []))])
set_option maxRecDepth 100000 in
theorem pl_s809_s {X : Int → Int} {LX : Nat} : ck_Ok p2_OL X LX 208 pl_s809 := ck_ok_s (O := p2_OL) (X := X) (LX := LX) (E := [(204, [pl_s795]), (10, [pl_s787]), (209, [pl_s803])]) (mi := 208) (cuts := [(44, [some (.inr (.inr (.inl 208))), some (.inl (0, 7, [])), some (.inl (0, 7, [])), some (.inl (1, 50, [])), some (.inl (0, 299, [])), some (.inl (0, 2398, [])), some (.inl (1, 2147483647, [])), some (.inl (1, 2147483647, [])), none], ([], [], [(3, 6, 6, (0, 299, [(10, 0)]))]), 100, .inl 7, false)]) (f := 190) (S := pl_s809) (lx := none) (XF := []) ⟨pl_nmu, ck_E1 (ck_S1 pl_s795_s ck_S0) (ck_E1 (ck_S1 pl_s787_s ck_S0) (ck_E1 (ck_S1 pl_s803_s ck_S0) ck_E0))⟩ ck_X0 ck_l0 (by decide +kernel)
set_option maxRecDepth 100000 in
/-- GlacierMail.reached -/
noncomputable def pl_s811 : ck_Sum := ((8, 1, 6), 249, [.inr (.inr (.inl 1)), .inl ((-2147483648), (-1), []), .inl ((-2147483648), 2147483647, [])], ([], [], []), ([], []), [(.inl 3, 249, ([], [], []))])
set_option maxRecDepth 100000 in
theorem pl_s811_s {X : Int → Int} {LX : Nat} : ck_Ok p2_OL X LX 211 pl_s811 := ck_ok_s (O := p2_OL) (X := X) (LX := LX) (E := [(139, [pl_s191])]) (mi := 211) (cuts := []) (f := 76) (S := pl_s811) (lx := none) (XF := []) ⟨pl_nmu, ck_E1 (ck_S1 pl_s191_s ck_S0) ck_E0⟩ ck_X0 ck_l0 (by decide +kernel)
set_option maxRecDepth 100000 in
/-- GlacierMail.reached -/
noncomputable def pl_s812 : ck_Sum := ((8, 1, 6), 249, [.inr (.inr (.inl 1)), .inl (8, 2147483647, []), .inl ((-2147483648), 2147483647, [])], ([], [], []), ([], []), [(.inl 3, 249, ([], [], []))])
set_option maxRecDepth 100000 in
theorem pl_s812_s {X : Int → Int} {LX : Nat} : ck_Ok p2_OL X LX 211 pl_s812 := ck_ok_s (O := p2_OL) (X := X) (LX := LX) (E := [(139, [pl_s194])]) (mi := 211) (cuts := []) (f := 76) (S := pl_s812) (lx := none) (XF := []) ⟨pl_nmu, ck_E1 (ck_S1 pl_s194_s ck_S0) ck_E0⟩ ck_X0 ck_l0 (by decide +kernel)
set_option maxRecDepth 100000 in
/-- GlacierMail.reached -/
noncomputable def pl_s813 : ck_Sum := ((8, 2, 12), 249, [.inr (.inr (.inl 1)), .inl (0, 7, []), .inl ((-2147483648), (-1), [])], ([], [], []), ([], []), [(.inl 3, 249, ([], [], [])), (.inl 0, 249, ([], [], []))])
set_option maxRecDepth 100000 in
theorem pl_s813_s {X : Int → Int} {LX : Nat} : ck_Ok p2_OL X LX 211 pl_s813 := ck_ok_s (O := p2_OL) (X := X) (LX := LX) (E := [(139, [pl_s197]), (129, [pl_s145])]) (mi := 211) (cuts := []) (f := 82) (S := pl_s813) (lx := none) (XF := []) ⟨pl_nmu, ck_E1 (ck_S1 pl_s197_s ck_S0) (ck_E1 (ck_S1 pl_s145_s ck_S0) ck_E0)⟩ ck_X0 ck_l0 (by decide +kernel)
set_option maxRecDepth 100000 in
/-- GlacierMail.reached -/
noncomputable def pl_s814 : ck_Sum := ((8, 2, 12), 249, [.inr (.inr (.inl 1)), .inl (0, 7, []), .inl (300, 2147483647, [])], ([], [], []), ([], []), [(.inl 3, 249, ([], [], [])), (.inl 0, 249, ([], [], []))])
set_option maxRecDepth 100000 in
theorem pl_s814_s {X : Int → Int} {LX : Nat} : ck_Ok p2_OL X LX 211 pl_s814 := ck_ok_s (O := p2_OL) (X := X) (LX := LX) (E := [(139, [pl_s197]), (129, [pl_s147])]) (mi := 211) (cuts := []) (f := 82) (S := pl_s814) (lx := none) (XF := []) ⟨pl_nmu, ck_E1 (ck_S1 pl_s197_s ck_S0) (ck_E1 (ck_S1 pl_s147_s ck_S0) ck_E0)⟩ ck_X0 ck_l0 (by decide +kernel)
set_option maxRecDepth 100000 in
/-- GlacierMail.needThiefYears -/
noncomputable def pl_s819 : ck_Sum := ((6, 1, 6), 249, [.inr (.inr (.inl 1)), .inl ((-2147483648), (-1), [])], ([], [], []), ([], []), [(.inl 0, 249, ([], [], []))])
set_option maxRecDepth 100000 in
theorem pl_s819_s {X : Int → Int} {LX : Nat} : ck_Ok p2_OL X LX 214 pl_s819 := ck_ok_s (O := p2_OL) (X := X) (LX := LX) (E := []) (mi := 214) (cuts := []) (f := 78) (S := pl_s819) (lx := none) (XF := []) ⟨pl_nmu, ck_E0⟩ ck_X0 ck_l0 (by decide +kernel)
set_option maxRecDepth 100000 in
/-- GlacierMail.thieves -/
noncomputable def pl_s820 : ck_Sum := ((7, 1, 6), 249, [.inr (.inr (.inl 1)), .inl ((-2147483648), (-1), []), .inl (0, 1, [])], ([], [], []), ([], []), [(.inl 0, 249, ([], [], []))])
set_option maxRecDepth 100000 in
theorem pl_s820_s {X : Int → Int} {LX : Nat} : ck_Ok p2_OL X LX 213 pl_s820 := ck_ok_s (O := p2_OL) (X := X) (LX := LX) (E := [(214, [pl_s819])]) (mi := 213) (cuts := []) (f := 76) (S := pl_s820) (lx := none) (XF := []) ⟨pl_nmu, ck_E1 (ck_S1 pl_s819_s ck_S0) ck_E0⟩ ck_X0 ck_l0 (by decide +kernel)
set_option maxRecDepth 100000 in
/-- GlacierMail.needThiefYears -/
noncomputable def pl_s821 : ck_Sum := ((6, 1, 6), 249, [.inr (.inr (.inl 1)), .inl (31, 2147483647, [])], ([], [], []), ([], []), [(.inl 0, 249, ([], [], []))])
set_option maxRecDepth 100000 in
theorem pl_s821_s {X : Int → Int} {LX : Nat} : ck_Ok p2_OL X LX 214 pl_s821 := ck_ok_s (O := p2_OL) (X := X) (LX := LX) (E := []) (mi := 214) (cuts := []) (f := 84) (S := pl_s821) (lx := none) (XF := []) ⟨pl_nmu, ck_E0⟩ ck_X0 ck_l0 (by decide +kernel)
set_option maxRecDepth 100000 in
/-- GlacierMail.thieves -/
noncomputable def pl_s822 : ck_Sum := ((7, 1, 6), 249, [.inr (.inr (.inl 1)), .inl (31, 2147483647, []), .inl (0, 1, [])], ([], [], []), ([], []), [(.inl 0, 249, ([], [], []))])
set_option maxRecDepth 100000 in
theorem pl_s822_s {X : Int → Int} {LX : Nat} : ck_Ok p2_OL X LX 213 pl_s822 := ck_ok_s (O := p2_OL) (X := X) (LX := LX) (E := [(214, [pl_s821])]) (mi := 213) (cuts := []) (f := 76) (S := pl_s822) (lx := none) (XF := []) ⟨pl_nmu, ck_E1 (ck_S1 pl_s821_s ck_S0) ck_E0⟩ ck_X0 ck_l0 (by decide +kernel)
set_option maxRecDepth 100000 in
/-- GlacierMail.needThiefYears -/
noncomputable def pl_s823 : ck_Sum := ((6, 1, 6), 249, [.inr (.inr (.inl 1)), .inl (0, 30, [])], ([], [], []), ([], []), [(.inl 0, 249, ([], [], [])), (.inr none, 249, ([], [], []))])
set_option maxRecDepth 100000 in
theorem pl_s823_s {X : Int → Int} {LX : Nat} : ck_Ok p2_OL X LX 214 pl_s823 := ck_ok_s (O := p2_OL) (X := X) (LX := LX) (E := []) (mi := 214) (cuts := []) (f := 84) (S := pl_s823) (lx := none) (XF := []) ⟨pl_nmu, ck_E0⟩ ck_X0 ck_l0 (by decide +kernel)
set_option maxRecDepth 100000 in
/-- java/util/Arrays.fill -/
noncomputable def pl_s824 : ck_Sum := ((0, 0, 0), 249, [.inr (.inr (.inl 223)), .inl (ck_one 0)], ([], [], []), ([(223, 0, 179)], []), [(.inr none, 249, ([], [], []))])
set_option maxRecDepth 100000 in
theorem pl_s824_s {X : Int → Int} {LX : Nat} : ck_Ok p2_OL X LX 8 pl_s824 := ck_ok_s (O := p2_OL) (X := X) (LX := LX) (E := []) (mi := 8) (cuts := [(5, [some (.inr (.inr (.inl 223))), some (.inl (ck_one 0)), some (.inl (0, 180, [])), some (.inl (ck_one 180))], ([], [], []), 100, .inl 2, true)]) (f := 130) (S := pl_s824) (lx := none) (XF := []) ⟨pl_nmu, ck_E0⟩ ck_X0 ck_l0 (by decide +kernel)
set_option maxRecDepth 100000 in
/-- GlacierMail$Rows.reset -/
noncomputable def pl_s825 : ck_Sum := ((1, 0, 0), 249, [.inr (.inr (.inl 222)), .inl (0, 30, [])], ([], [], []), ([(222, 3, 3), (223, 0, 179)], []), [(.inr none, 249, ([], [], []))])
set_option maxRecDepth 100000 in
theorem pl_s825_s {X : Int → Int} {LX : Nat} : ck_Ok p2_OL X LX 25 pl_s825 := ck_ok_s (O := p2_OL) (X := X) (LX := LX) (E := [(8, [pl_s824])]) (mi := 25) (cuts := []) (f := 96) (S := pl_s825) (lx := none) (XF := []) ⟨pl_nmu, ck_E1 (ck_S1 pl_s824_s ck_S0) ck_E0⟩ ck_X0 ck_l0 (by decide +kernel)
set_option maxRecDepth 100000 in
/-- GlacierMail$Rows.get -/
noncomputable def pl_s826 : ck_Sum := ((0, 0, 0), 249, [.inr (.inr (.inl 222)), .inl ((-2147483648), 2147483647, []), .inl ((-2147483648), 2147483647, [])], ([], [], []), ([], []), [(.inr (some (.inl ((-2147483648), 2147483647, []))), 249, ([], [], []))])
set_option maxRecDepth 100000 in
theorem pl_s826_s {X : Int → Int} {LX : Nat} : ck_Ok p2_OL X LX 10 pl_s826 := ck_ok_s (O := p2_OL) (X := X) (LX := LX) (E := []) (mi := 10) (cuts := []) (f := 114) (S := pl_s826) (lx := none) (XF := []) ⟨pl_nmu, ck_E0⟩ ck_X0 ck_l0 (by decide +kernel)
set_option maxRecDepth 100000 in
/-- GlacierMail$Rows.put -/
noncomputable def pl_s827 : ck_Sum := ((0, 0, 0), 249, [.inr (.inr (.inl 222)), .inl ((-2147483648), 2147483647, []), .inl ((-1), 299, []), .inl ((-2147483648), 2147483647, [])], ([], [], []), ([(223, 0, 179)], []), [(.inr none, 249, ([], [], []))])
set_option maxRecDepth 100000 in
theorem pl_s827_s {X : Int → Int} {LX : Nat} : ck_Ok p2_OL X LX 45 pl_s827 := ck_ok_s (O := p2_OL) (X := X) (LX := LX) (E := []) (mi := 45) (cuts := []) (f := 116) (S := pl_s827) (lx := none) (XF := []) ⟨pl_nmu, ck_E0⟩ ck_X0 ck_l0 (by decide +kernel)
set_option maxRecDepth 100000 in
/-- GlacierMail.reckonCame -/
noncomputable def pl_s828 : ck_Sum := ((2, 0, 0), 249, [.inr (.inr (.inl 1)), .inl (0, 30, [])], ([], [], [(3, 6, 6, (0, 299, [(10, 0)]))]), ([(222, 3, 3), (223, 0, 179)], []), [(.inr none, 249, ([], [], []))])
set_option maxRecDepth 100000 in
theorem pl_s828_s {X : Int → Int} {LX : Nat} : ck_Ok p2_OL X LX 215 pl_s828 := ck_ok_s (O := p2_OL) (X := X) (LX := LX) (E := [(25, [pl_s825]), (9, [pl_s201]), (10, [pl_s218, pl_s204, pl_s826]), (28, [pl_s205]), (45, [pl_s827])]) (mi := 215) (cuts := [(10, [some (.inr (.inr (.inl 1))), some (.inl (0, 30, [])), some (.inl (0, 24, [])), none, none], ([], [], [(3, 6, 6, (0, 299, [(10, 0)]))]), 100, .inl 2, true)]) (f := 286) (S := pl_s828) (lx := none) (XF := []) ⟨pl_nmu, ck_E1 (ck_S1 pl_s825_s ck_S0) (ck_E1 (ck_S1 pl_s201_s ck_S0) (ck_E1 (ck_S1 pl_s218_s (ck_S1 pl_s204_s (ck_S1 pl_s826_s ck_S0))) (ck_E1 (ck_S1 pl_s205_s ck_S0) (ck_E1 (ck_S1 pl_s827_s ck_S0) ck_E0))))⟩ ck_X0 ck_l0 (by decide +kernel)
set_option maxRecDepth 100000 in
/-- java/util/Arrays.fill -/
noncomputable def pl_s829 : ck_Sum := ((0, 0, 0), 249, [.inr (.inr (.inl 225)), .inl (ck_one 0)], ([], [], []), ([(225, 0, 185)], []), [(.inr none, 249, ([], [], []))])
set_option maxRecDepth 100000 in
theorem pl_s829_s {X : Int → Int} {LX : Nat} : ck_Ok p2_OL X LX 8 pl_s829 := ck_ok_s (O := p2_OL) (X := X) (LX := LX) (E := []) (mi := 8) (cuts := [(5, [some (.inr (.inr (.inl 225))), some (.inl (ck_one 0)), some (.inl (0, 186, [])), some (.inl (ck_one 186))], ([], [], []), 100, .inl 2, true)]) (f := 130) (S := pl_s829) (lx := none) (XF := []) ⟨pl_nmu, ck_E0⟩ ck_X0 ck_l0 (by decide +kernel)
set_option maxRecDepth 100000 in
/-- GlacierMail$Rows.reset -/
noncomputable def pl_s830 : ck_Sum := ((1, 0, 0), 249, [.inr (.inr (.inl 224)), .inl (1, 31, [])], ([], [], []), ([(224, 3, 3), (225, 0, 185)], []), [(.inr none, 249, ([], [], [(224, 3, 3, (1, 31, []))]))])
set_option maxRecDepth 100000 in
theorem pl_s830_s {X : Int → Int} {LX : Nat} : ck_Ok p2_OL X LX 25 pl_s830 := ck_ok_s (O := p2_OL) (X := X) (LX := LX) (E := [(8, [pl_s829])]) (mi := 25) (cuts := []) (f := 96) (S := pl_s830) (lx := none) (XF := []) ⟨pl_nmu, ck_E1 (ck_S1 pl_s829_s ck_S0) ck_E0⟩ ck_X0 ck_l0 (by decide +kernel)
set_option maxRecDepth 100000 in
/-- GlacierMail$Rows.get -/
noncomputable def pl_s831 : ck_Sum := ((0, 0, 0), 249, [.inr (.inr (.inl 224)), .inl ((-2147483648), 2147483647, []), .inl ((-2147483648), 2147483647, [])], ([], [], []), ([], []), [(.inr (some (.inl ((-2147483648), 2147483647, []))), 249, ([], [], []))])
set_option maxRecDepth 100000 in
theorem pl_s831_s {X : Int → Int} {LX : Nat} : ck_Ok p2_OL X LX 10 pl_s831 := ck_ok_s (O := p2_OL) (X := X) (LX := LX) (E := []) (mi := 10) (cuts := []) (f := 114) (S := pl_s831) (lx := none) (XF := []) ⟨pl_nmu, ck_E0⟩ ck_X0 ck_l0 (by decide +kernel)
set_option maxRecDepth 100000 in
/-- GlacierMail.bestNext -/
noncomputable def pl_s832 : ck_Sum := ((1, 0, 0), 249, [.inr (.inr (.inl 1)), .inl (1, 30, []), .inl (0, 5, [])], ([], [], []), ([], []), [(.inr (some (.inl ((-2147483648), 2147483647, []))), 249, ([], [], []))])
set_option maxRecDepth 100000 in
theorem pl_s832_s {X : Int → Int} {LX : Nat} : ck_Ok p2_OL X LX 216 pl_s832 := ck_ok_s (O := p2_OL) (X := X) (LX := LX) (E := [(10, [pl_s831])]) (mi := 216) (cuts := []) (f := 118) (S := pl_s832) (lx := none) (XF := []) ⟨pl_nmu, ck_E1 (ck_S1 pl_s831_s ck_S0) ck_E0⟩ ck_X0 ck_l0 (by decide +kernel)
set_option maxRecDepth 100000 in
/-- GlacierMail$Rows.put -/
noncomputable def pl_s833 : ck_Sum := ((0, 0, 0), 249, [.inr (.inr (.inl 224)), .inl (0, 29, []), .inl (0, 5, []), .inl ((-2147483648), 2147483647, [])], ([], [], []), ([(225, 0, 179)], []), [(.inr none, 249, ([], [], []))])
set_option maxRecDepth 100000 in
theorem pl_s833_s {X : Int → Int} {LX : Nat} : ck_Ok p2_OL X LX 45 pl_s833 := ck_ok_s (O := p2_OL) (X := X) (LX := LX) (E := []) (mi := 45) (cuts := []) (f := 116) (S := pl_s833) (lx := none) (XF := []) ⟨pl_nmu, ck_E0⟩ ck_X0 ck_l0 (by decide +kernel)
set_option maxRecDepth 100000 in
/-- GlacierMail.watchman -/
noncomputable def pl_s835 : ck_Sum := ((7, 1, 6), 249, [.inr (.inr (.inl 1)), .inl ((-2147483648), (-1), []), .inl (0, 1, [])], ([], [], []), ([], []), [(.inl 0, 249, ([], [], []))])
set_option maxRecDepth 100000 in
theorem pl_s835_s {X : Int → Int} {LX : Nat} : ck_Ok p2_OL X LX 218 pl_s835 := ck_ok_s (O := p2_OL) (X := X) (LX := LX) (E := [(214, [pl_s819])]) (mi := 218) (cuts := []) (f := 76) (S := pl_s835) (lx := none) (XF := []) ⟨pl_nmu, ck_E1 (ck_S1 pl_s819_s ck_S0) ck_E0⟩ ck_X0 ck_l0 (by decide +kernel)
set_option maxRecDepth 100000 in
/-- GlacierMail.watchman -/
noncomputable def pl_s836 : ck_Sum := ((7, 1, 6), 249, [.inr (.inr (.inl 1)), .inl (31, 2147483647, []), .inl (0, 1, [])], ([], [], []), ([], []), [(.inl 0, 249, ([], [], []))])
set_option maxRecDepth 100000 in
theorem pl_s836_s {X : Int → Int} {LX : Nat} : ck_Ok p2_OL X LX 218 pl_s836 := ck_ok_s (O := p2_OL) (X := X) (LX := LX) (E := [(214, [pl_s821])]) (mi := 218) (cuts := []) (f := 76) (S := pl_s836) (lx := none) (XF := []) ⟨pl_nmu, ck_E1 (ck_S1 pl_s821_s ck_S0) ck_E0⟩ ck_X0 ck_l0 (by decide +kernel)
set_option maxRecDepth 100000 in
/-- GlacierMail.mostBeside -/
noncomputable def pl_s837 : ck_Sum := ((1, 0, 0), 249, [.inr (.inr (.inl 1)), .inl (0, 5, []), .inl (0, 30, [])], ([], [], []), ([], []), [(.inr (some (.inl (0, 2147483647, []))), 249, ([], [], []))])
set_option maxRecDepth 100000 in
theorem pl_s837_s {X : Int → Int} {LX : Nat} : ck_Ok p2_OL X LX 219 pl_s837 := ck_ok_s (O := p2_OL) (X := X) (LX := LX) (E := [(10, [pl_s826])]) (mi := 219) (cuts := [(5, [some (.inr (.inr (.inl 1))), some (.inl (0, 5, [])), some (.inl (0, 30, [])), some (.inl (0, 2147483647, [])), some (.inl (0, 6, [])), none, none], ([], [], []), 100, .inl 4, true), (23, [some (.inr (.inr (.inl 1))), some (.inl (0, 5, [])), some (.inl (0, 30, [])), some (.inl (0, 2147483647, [])), some (.inl (0, 5, [(100, 0)])), some (.inl ((-2147483648), 2147483647, [])), some (.inl (0, 30, []))], ([], [], []), 300, .inl 6, true)]) (f := 194) (S := pl_s837) (lx := none) (XF := []) ⟨pl_nmu, ck_E1 (ck_S1 pl_s826_s ck_S0) ck_E0⟩ ck_X0 ck_l0 (by decide +kernel)
set_option maxRecDepth 100000 in
/-- GlacierMail.mostBeside -/
noncomputable def pl_s838 : ck_Sum := ((1, 0, 0), 249, [.inr (.inr (.inl 1)), .inl (1, 5, []), .inl (0, 30, [])], ([], [], []), ([], []), [(.inr (some (.inl (0, 2147483647, []))), 249, ([], [], []))])
set_option maxRecDepth 100000 in
theorem pl_s838_s {X : Int → Int} {LX : Nat} : ck_Ok p2_OL X LX 219 pl_s838 := ck_ok_s (O := p2_OL) (X := X) (LX := LX) (E := [(10, [pl_s826])]) (mi := 219) (cuts := [(5, [some (.inr (.inr (.inl 1))), some (.inl (1, 5, [])), some (.inl (0, 30, [])), some (.inl (0, 2147483647, [])), some (.inl (0, 6, [])), none, none], ([], [], []), 100, .inl 4, true), (23, [some (.inr (.inr (.inl 1))), some (.inl (1, 5, [])), some (.inl (0, 30, [])), some (.inl (0, 2147483647, [])), some (.inl (0, 5, [(100, 0)])), some (.inl ((-2147483648), 2147483647, [])), some (.inl (0, 30, []))], ([], [], []), 300, .inl 6, true)]) (f := 194) (S := pl_s838) (lx := none) (XF := []) ⟨pl_nmu, ck_E1 (ck_S1 pl_s826_s ck_S0) ck_E0⟩ ck_X0 ck_l0 (by decide +kernel)
set_option maxRecDepth 100000 in
/-- GlacierMail.meeting -/
noncomputable def pl_s840 : ck_Sum := ((8, 1, 6), 249, [.inr (.inr (.inl 1)), .inl ((-2147483648), (-1), []), .inl ((-2147483648), 2147483647, [])], ([], [], []), ([], []), [(.inl 3, 249, ([], [], []))])
set_option maxRecDepth 100000 in
theorem pl_s840_s {X : Int → Int} {LX : Nat} : ck_Ok p2_OL X LX 221 pl_s840 := ck_ok_s (O := p2_OL) (X := X) (LX := LX) (E := [(143, [pl_s227])]) (mi := 221) (cuts := []) (f := 76) (S := pl_s840) (lx := none) (XF := []) ⟨pl_nmu, ck_E1 (ck_S1 pl_s227_s ck_S0) ck_E0⟩ ck_X0 ck_l0 (by decide +kernel)
set_option maxRecDepth 100000 in
/-- GlacierMail.meeting -/
noncomputable def pl_s841 : ck_Sum := ((8, 1, 6), 249, [.inr (.inr (.inl 1)), .inl (24, 2147483647, []), .inl ((-2147483648), 2147483647, [])], ([], [], []), ([], []), [(.inl 3, 249, ([], [], []))])
set_option maxRecDepth 100000 in
theorem pl_s841_s {X : Int → Int} {LX : Nat} : ck_Ok p2_OL X LX 221 pl_s841 := ck_ok_s (O := p2_OL) (X := X) (LX := LX) (E := [(143, [pl_s230])]) (mi := 221) (cuts := []) (f := 76) (S := pl_s841) (lx := none) (XF := []) ⟨pl_nmu, ck_E1 (ck_S1 pl_s230_s ck_S0) ck_E0⟩ ck_X0 ck_l0 (by decide +kernel)
set_option maxRecDepth 100000 in
/-- GlacierMail.meeting -/
noncomputable def pl_s842 : ck_Sum := ((8, 2, 12), 249, [.inr (.inr (.inl 1)), .inl (0, 23, []), .inl ((-2147483648), (-1), [])], ([], [], []), ([], []), [(.inl 3, 249, ([], [], []))])
set_option maxRecDepth 100000 in
theorem pl_s842_s {X : Int → Int} {LX : Nat} : ck_Ok p2_OL X LX 221 pl_s842 := ck_ok_s (O := p2_OL) (X := X) (LX := LX) (E := [(143, [pl_s233, pl_s227])]) (mi := 221) (cuts := []) (f := 82) (S := pl_s842) (lx := none) (XF := []) ⟨pl_nmu, ck_E1 (ck_S1 pl_s233_s (ck_S1 pl_s227_s ck_S0)) ck_E0⟩ ck_X0 ck_l0 (by decide +kernel)
set_option maxRecDepth 100000 in
/-- GlacierMail.meeting -/
noncomputable def pl_s843 : ck_Sum := ((8, 2, 12), 249, [.inr (.inr (.inl 1)), .inl (0, 23, []), .inl (24, 2147483647, [])], ([], [], []), ([], []), [(.inl 3, 249, ([], [], []))])
set_option maxRecDepth 100000 in
theorem pl_s843_s {X : Int → Int} {LX : Nat} : ck_Ok p2_OL X LX 221 pl_s843 := ck_ok_s (O := p2_OL) (X := X) (LX := LX) (E := [(143, [pl_s233, pl_s230])]) (mi := 221) (cuts := []) (f := 82) (S := pl_s843) (lx := none) (XF := []) ⟨pl_nmu, ck_E1 (ck_S1 pl_s233_s (ck_S1 pl_s230_s ck_S0)) ck_E0⟩ ck_X0 ck_l0 (by decide +kernel)
set_option maxRecDepth 100000 in
/-- GlacierMail.needUnlike -/
noncomputable def pl_s844 : ck_Sum := ((6, 1, 6), 249, [.inr (.inr (.inl 1)), .inl (0, 23, []), .inl (0, 23, [])], ([], [], []), ([], []), [(.inr none, 249, ([], [], [])), (.inl 0, 249, ([], [], []))])
set_option maxRecDepth 100000 in
theorem pl_s844_s {X : Int → Int} {LX : Nat} : ck_Ok p2_OL X LX 153 pl_s844 := ck_ok_s (O := p2_OL) (X := X) (LX := LX) (E := []) (mi := 153) (cuts := []) (f := 78) (S := pl_s844) (lx := none) (XF := []) ⟨pl_nmu, ck_E0⟩ ck_X0 ck_l0 (by decide +kernel)
set_option maxRecDepth 100000 in
/-- GlacierMail.outs -/
noncomputable def pl_s847 : ck_Sum := ((7, 1, 6), 249, [.inr (.inr (.inl 1)), .inl ((-2147483648), (-1), [])], ([], [], []), ([], []), [(.inl 0, 249, ([], [], []))])
set_option maxRecDepth 100000 in
theorem pl_s847_s {X : Int → Int} {LX : Nat} : ck_Ok p2_OL X LX 223 pl_s847 := ck_ok_s (O := p2_OL) (X := X) (LX := LX) (E := [(129, [pl_s145])]) (mi := 223) (cuts := []) (f := 76) (S := pl_s847) (lx := none) (XF := []) ⟨pl_nmu, ck_E1 (ck_S1 pl_s145_s ck_S0) ck_E0⟩ ck_X0 ck_l0 (by decide +kernel)
set_option maxRecDepth 100000 in
/-- GlacierMail.outs -/
noncomputable def pl_s848 : ck_Sum := ((7, 1, 6), 249, [.inr (.inr (.inl 1)), .inl (300, 2147483647, [])], ([], [], []), ([], []), [(.inl 0, 249, ([], [], []))])
set_option maxRecDepth 100000 in
theorem pl_s848_s {X : Int → Int} {LX : Nat} : ck_Ok p2_OL X LX 223 pl_s848 := ck_ok_s (O := p2_OL) (X := X) (LX := LX) (E := [(129, [pl_s147])]) (mi := 223) (cuts := []) (f := 76) (S := pl_s848) (lx := none) (XF := []) ⟨pl_nmu, ck_E1 (ck_S1 pl_s147_s ck_S0) ck_E0⟩ ck_X0 ck_l0 (by decide +kernel)
set_option maxRecDepth 100000 in
/-- GlacierMail.outIn -/
noncomputable def pl_s849 : ck_Sum := ((1, 0, 0), 249, [.inr (.inr (.inl 1)), .inl (0, 299, []), .inl (ck_one 1)], ([], [], []), ([], []), [(.inr (some (.inl ((-2147483648), 2147483647, []))), 249, ([], [], []))])
set_option maxRecDepth 100000 in
theorem pl_s849_s {X : Int → Int} {LX : Nat} : ck_Ok p2_OL X LX 47 pl_s849 := ck_ok_s (O := p2_OL) (X := X) (LX := LX) (E := [(9, [pl_s201]), (10, [pl_s218])]) (mi := 47) (cuts := [(5, [some (.inr (.inr (.inl 1))), some (.inl (0, 299, [])), some (.inl (ck_one 1)), some (.inl ((-2147483648), 2147483647, [])), some (.inl (0, 24, []))], ([], [], []), 100, .inl 4, true)]) (f := 162) (S := pl_s849) (lx := none) (XF := []) ⟨pl_nmu, ck_E1 (ck_S1 pl_s201_s ck_S0) (ck_E1 (ck_S1 pl_s218_s ck_S0) ck_E0)⟩ ck_X0 ck_l0 (by decide +kernel)
set_option maxRecDepth 100000 in
/-- GlacierMail.outAheadOf -/
noncomputable def pl_s851 : ck_Sum := ((1, 0, 0), 249, [.inr (.inr (.inl 1)), .inl (0, 23, [])], ([], [], []), ([], []), [(.inr (some (.inl ((-2147483648), 2147483647, []))), 249, ([], [], []))])
set_option maxRecDepth 100000 in
theorem pl_s851_s {X : Int → Int} {LX : Nat} : ck_Ok p2_OL X LX 53 pl_s851 := ck_ok_s (O := p2_OL) (X := X) (LX := LX) (E := [(10, [pl_s218]), (9, [pl_s201])]) (mi := 53) (cuts := [(15, [some (.inr (.inr (.inl 1))), some (.inl (0, 23, [])), some (.inl ((-2147483648), 299, [])), some (.inl ((-2147483648), 2147483647, [])), some (.inl (0, 24, [])), none, none], ([], [], []), 100, .inl 4, true)]) (f := 214) (S := pl_s851) (lx := none) (XF := []) ⟨pl_nmu, ck_E1 (ck_S1 pl_s218_s ck_S0) (ck_E1 (ck_S1 pl_s201_s ck_S0) ck_E0)⟩ ck_X0 ck_l0 (by decide +kernel)
set_option maxRecDepth 100000 in
/-- GlacierMail.streams -/
noncomputable def pl_s853 : ck_Sum := ((7, 1, 6), 249, [.inr (.inr (.inl 1)), .inl ((-2147483648), (-1), []), .inl (0, 1, [])], ([], [], []), ([], []), [(.inl 0, 249, ([], [], []))])
set_option maxRecDepth 100000 in
theorem pl_s853_s {X : Int → Int} {LX : Nat} : ck_Ok p2_OL X LX 225 pl_s853 := ck_ok_s (O := p2_OL) (X := X) (LX := LX) (E := [(129, [pl_s145])]) (mi := 225) (cuts := []) (f := 76) (S := pl_s853) (lx := none) (XF := []) ⟨pl_nmu, ck_E1 (ck_S1 pl_s145_s ck_S0) ck_E0⟩ ck_X0 ck_l0 (by decide +kernel)
set_option maxRecDepth 100000 in
/-- GlacierMail.streams -/
noncomputable def pl_s854 : ck_Sum := ((7, 1, 6), 249, [.inr (.inr (.inl 1)), .inl (300, 2147483647, []), .inl (0, 1, [])], ([], [], []), ([], []), [(.inl 0, 249, ([], [], []))])
set_option maxRecDepth 100000 in
theorem pl_s854_s {X : Int → Int} {LX : Nat} : ck_Ok p2_OL X LX 225 pl_s854 := ck_ok_s (O := p2_OL) (X := X) (LX := LX) (E := [(129, [pl_s147])]) (mi := 225) (cuts := []) (f := 76) (S := pl_s854) (lx := none) (XF := []) ⟨pl_nmu, ck_E1 (ck_S1 pl_s147_s ck_S0) ck_E0⟩ ck_X0 ck_l0 (by decide +kernel)
set_option maxRecDepth 100000 in
/-- GlacierMail.range -/
noncomputable def pl_s856 : ck_Sum := ((8, 1, 6), 249, [.inr (.inr (.inl 1)), .inl ((-2147483648), (-1), []), .inl ((-2147483648), 2147483647, [])], ([], [], []), ([], []), [(.inl 3, 249, ([], [], []))])
set_option maxRecDepth 100000 in
theorem pl_s856_s {X : Int → Int} {LX : Nat} : ck_Ok p2_OL X LX 227 pl_s856 := ck_ok_s (O := p2_OL) (X := X) (LX := LX) (E := [(132, [pl_s153])]) (mi := 227) (cuts := []) (f := 76) (S := pl_s856) (lx := none) (XF := []) ⟨pl_nmu, ck_E1 (ck_S1 pl_s153_s ck_S0) ck_E0⟩ ck_X0 ck_l0 (by decide +kernel)
set_option maxRecDepth 100000 in
/-- GlacierMail.range -/
noncomputable def pl_s857 : ck_Sum := ((8, 1, 6), 249, [.inr (.inr (.inl 1)), .inl (6, 2147483647, []), .inl ((-2147483648), 2147483647, [])], ([], [], []), ([], []), [(.inl 3, 249, ([], [], []))])
set_option maxRecDepth 100000 in
theorem pl_s857_s {X : Int → Int} {LX : Nat} : ck_Ok p2_OL X LX 227 pl_s857 := ck_ok_s (O := p2_OL) (X := X) (LX := LX) (E := [(132, [pl_s156])]) (mi := 227) (cuts := []) (f := 76) (S := pl_s857) (lx := none) (XF := []) ⟨pl_nmu, ck_E1 (ck_S1 pl_s156_s ck_S0) ck_E0⟩ ck_X0 ck_l0 (by decide +kernel)
end
