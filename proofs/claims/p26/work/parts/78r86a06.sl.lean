/-! 78r86a06.sl -/
section
/-! EVERY CALL OF THE CLASS ENDS, under a law (laid by wip/am/p2l.py). -/
set_option maxRecDepth 100000 in
/-- GlacierMail$Rows.put -/
def pl_s541 : ck_Sum := ((0, 0, 0), 249, [.inr (.inr (.inl 14)), .inl (0, 23, []), .inl (ck_one 1), .inl (ck_one 16)], ([], [], []), (zl173, []), [(.inr none, 249, ([], [], []))])
set_option maxRecDepth 100000 in
theorem pl_s541_s {X : Int → Int} {LX : Nat} : ck_Ok p2_OL X LX 45 pl_s541 := ck_ok_s (O := p2_OL) (X := X) (LX := LX) (E := []) (mi := 45) (cuts := []) (f := 116) (S := pl_s541) (lx := none) (XF := []) ⟨pl_nmu, ck_E0⟩ ck_X0 ck_l0 (by decide +kernel)
set_option maxRecDepth 100000 in
/-- GlacierMail$Rows.put -/
def pl_s542 : ck_Sum := ((0, 0, 0), 249, [.inr (.inr (.inl 14)), .inl (ck_one (-1)), .inl (ck_one 1), .inl (ck_one 16)], ([], [], []), ([], []), [(.inr none, 249, ([], [], []))])
set_option maxRecDepth 100000 in
theorem pl_s542_s {X : Int → Int} {LX : Nat} : ck_Ok p2_OL X LX 45 pl_s542 := ck_ok_s (O := p2_OL) (X := X) (LX := LX) (E := []) (mi := 45) (cuts := []) (f := 76) (S := pl_s542) (lx := none) (XF := []) ⟨pl_nmu, ck_E0⟩ ck_X0 ck_l0 (by decide +kernel)
set_option maxRecDepth 100000 in
/-- GlacierMail$State.openLetter -/
def pl_s543 : ck_Sum := ((1, 0, 0), 249, [.inr (.inr (.inl 3)), .inl (ck_one 16), .inl ((-1), 299, [])], ([], [], [(3, 6, 6, (0, 299, [(10, 0)]))]), ([(11, 117, 118), (14, 3, 3), (15, 0, 71)], []), [(.inr none, 249, ([], [], [(14, 3, 3, (1, 24, []))]))])
set_option maxRecDepth 100000 in
theorem pl_s543_s {X : Int → Int} {LX : Nat} : ck_Ok p2_OL X LX 159 pl_s543 := ck_ok_s (O := p2_OL) (X := X) (LX := LX) (E := [(45, [pl_s539, pl_s540, pl_s376, pl_s541, pl_s378, pl_s379, pl_s542, pl_s381]), (102, [pl_s382])]) (mi := 159) (cuts := []) (f := 144) (S := pl_s543) (lx := none) (XF := []) ⟨pl_nmu, ck_E1 (ck_S1 pl_s539_s (ck_S1 pl_s540_s (ck_S1 pl_s376_s (ck_S1 pl_s541_s (ck_S1 pl_s378_s (ck_S1 pl_s379_s (ck_S1 pl_s542_s (ck_S1 pl_s381_s ck_S0)))))))) (ck_E1 (ck_S1 pl_s382_s ck_S0) ck_E0)⟩ ck_X0 ck_l0 (by decide +kernel)
set_option maxRecDepth 100000 in
/-- GlacierMail.open -/
def pl_s544 : ck_Sum := ((8, 2, 12), 249, [.inr (.inr (.inl 1)), .inl (ck_one 16)], ([], zl230, [(3, 6, 6, (0, 299, [(10, 0)]))]), ([(1, 15, 15), (11, 117, 118), (14, 3, 3), (15, 0, 71), (42, 1, 2), (44, 0, 7), (45, 3, 3), (46, 0, 55), (47, 3, 3), (48, 0, 23), (49, 3, 3), (50, 0, 23), (51, 3, 3), (52, 0, 167), (53, 3, 3), (54, 0, 35), (55, 3, 3), (56, 0, 71), (57, 0, 7), (58, 3, 3), (59, 0, 55), (60, 3, 3), (61, 0, 23), (62, 3, 3), (63, 0, 23), (64, 3, 3), (65, 0, 167), (66, 3, 3), (67, 0, 35), (68, 3, 3), (69, 0, 71), (70, 0, 7), (71, 3, 3), (72, 0, 55), (73, 3, 3), (74, 0, 23), (75, 3, 3), (76, 0, 23), (77, 3, 3), (78, 0, 167), (79, 3, 3), (80, 0, 35), (81, 3, 3), (82, 0, 71), (83, 0, 7), (84, 3, 3), (85, 0, 55), (86, 3, 3), (87, 0, 23), (88, 3, 3), (89, 0, 23), (90, 3, 3), (91, 0, 167), (92, 3, 3), (93, 0, 35), (94, 3, 3), (95, 0, 71), (96, 0, 7), (97, 3, 3), (98, 0, 55), (99, 3, 3), (100, 0, 23), (101, 3, 3), (102, 0, 23), (103, 3, 3), (104, 0, 167), (105, 3, 3), (106, 0, 35), (107, 3, 3), (108, 0, 71), (109, 0, 7), (110, 3, 3), (111, 0, 55), (112, 3, 3), (113, 0, 23), (114, 3, 3), (115, 0, 23), (116, 3, 3), (117, 0, 167), (118, 3, 3), (119, 0, 35), (120, 3, 3), (121, 0, 71), (122, 0, 7), (123, 3, 3), (124, 0, 55), (125, 3, 3), (126, 0, 23), (127, 3, 3), (128, 0, 23), (129, 3, 3), (130, 0, 167), (131, 3, 3), (132, 0, 35), (133, 3, 3), (134, 0, 71), (135, 0, 7), (136, 3, 3), (137, 0, 55), (138, 3, 3), (139, 0, 23), (140, 3, 3), (141, 0, 23), (142, 3, 3), (143, 0, 167), (144, 3, 3), (145, 0, 35), (146, 3, 3), (147, 0, 71), (148, 0, 7), (149, 3, 3), (150, 0, 55), (151, 3, 3), (152, 0, 23), (153, 3, 3), (154, 0, 23), (155, 3, 3), (156, 0, 167), (157, 3, 3), (158, 0, 35), (159, 3, 3), (160, 0, 71), (161, 0, 7), (162, 3, 3), (163, 0, 55), (164, 3, 3), (165, 0, 23), (166, 3, 3), (167, 0, 23), (168, 3, 3), (169, 0, 167), (170, 3, 3), (171, 0, 35), (172, 3, 3), (173, 0, 71), (174, 0, 7), (175, 3, 3), (176, 0, 55), (177, 3, 3), (178, 0, 23), (179, 3, 3), (180, 0, 23), (181, 3, 3), (182, 0, 167), (183, 3, 3), (184, 0, 35), (185, 3, 3), (186, 0, 71), (187, 0, 7), (188, 3, 3), (189, 0, 55), (190, 3, 3), (191, 0, 23), (192, 3, 3), (193, 0, 23), (194, 3, 3), (195, 0, 167), (196, 3, 3), (197, 0, 35), (198, 3, 3), (199, 0, 71), (200, 6, 6), (204, 0, 9), (205, 0, 14849), (206, 2, 8), (220, 3, 3), (221, 0, 47)], zl104), zl245)
set_option maxRecDepth 100000 in
theorem pl_s544_s {X : Int → Int} {LX : Nat} : ck_Ok p2_OL X LX 158 pl_s544 := ck_ok_s (O := p2_OL) (X := X) (LX := LX) (E := [(143, [pl_s536]), (24, [pl_s217]), (66, [pl_s538]), (154, [pl_s341]), (10, [pl_s204]), (159, [pl_s543])]) (mi := 158) (cuts := []) (f := 140) (S := pl_s544) (lx := none) (XF := []) ⟨pl_nmu, ck_E1 (ck_S1 pl_s536_s ck_S0) (ck_E1 (ck_S1 pl_s217_s ck_S0) (ck_E1 (ck_S1 pl_s538_s ck_S0) (ck_E1 (ck_S1 pl_s341_s ck_S0) (ck_E1 (ck_S1 pl_s204_s ck_S0) (ck_E1 (ck_S1 pl_s543_s ck_S0) ck_E0)))))⟩ ck_X0 ck_l0 (by decide +kernel)
set_option maxRecDepth 100000 in
/-- GlacierMail.need -/
def pl_s545 : ck_Sum := ((6, 1, 6), 249, [.inr (.inr (.inl 1)), .inl (ck_one 17), .inl (0, 24, [])], ([], [], []), ([], []), [(.inr none, 249, ([], [], [])), (.inl 3, 249, ([], [], []))])
set_option maxRecDepth 100000 in
theorem pl_s545_s {X : Int → Int} {LX : Nat} : ck_Ok p2_OL X LX 133 pl_s545 := ck_ok_s (O := p2_OL) (X := X) (LX := LX) (E := []) (mi := 133) (cuts := []) (f := 82) (S := pl_s545) (lx := none) (XF := []) ⟨pl_nmu, ck_E0⟩ ck_X0 ck_l0 (by decide +kernel)
set_option maxRecDepth 100000 in
/-- GlacierMail.needLetter -/
def pl_s546 : ck_Sum := ((7, 1, 6), 249, [.inr (.inr (.inl 1)), .inl (ck_one 17)], ([], [], []), ([], []), [(.inl 3, 249, ([], [], [])), (.inr none, 249, ([], [], []))])
set_option maxRecDepth 100000 in
theorem pl_s546_s {X : Int → Int} {LX : Nat} : ck_Ok p2_OL X LX 143 pl_s546 := ck_ok_s (O := p2_OL) (X := X) (LX := LX) (E := [(9, [pl_s200]), (133, [pl_s545])]) (mi := 143) (cuts := []) (f := 86) (S := pl_s546) (lx := none) (XF := []) ⟨pl_nmu, ck_E1 (ck_S1 pl_s200_s ck_S0) (ck_E1 (ck_S1 pl_s545_s ck_S0) ck_E0)⟩ ck_X0 ck_l0 (by decide +kernel)
set_option maxRecDepth 100000 in
/-- GlacierMail$State.isRock -/
def pl_s547 : ck_Sum := ((1, 0, 0), 249, [.inr (.inr (.inl 3)), .inl (ck_one 17)], ([], [], []), ([], []), [(.inr (some (.inl (ck_one 0))), 249, ([], [], [])), (.inr (some (.inl (ck_one 1))), 249, ([], [], []))])
set_option maxRecDepth 100000 in
theorem pl_s547_s {X : Int → Int} {LX : Nat} : ck_Ok p2_OL X LX 28 pl_s547 := ck_ok_s (O := p2_OL) (X := X) (LX := LX) (E := [(10, [pl_s204])]) (mi := 28) (cuts := []) (f := 90) (S := pl_s547) (lx := none) (XF := []) ⟨pl_nmu, ck_E1 (ck_S1 pl_s204_s ck_S0) ck_E0⟩ ck_X0 ck_l0 (by decide +kernel)
set_option maxRecDepth 100000 in
/-- GlacierMail.waits -/
def pl_s548 : ck_Sum := ((2, 0, 0), 249, [.inr (.inr (.inl 1)), .inl (ck_one 17)], ([], [], [(3, 6, 6, (0, 299, [(10, 0)]))]), ([], []), [(.inr (some (.inl (ck_one 0))), 249, ([], [], [])), (.inr (some (.inl (ck_one 1))), 249, ([], [], []))])
set_option maxRecDepth 100000 in
theorem pl_s548_s {X : Int → Int} {LX : Nat} : ck_Ok p2_OL X LX 66 pl_s548 := ck_ok_s (O := p2_OL) (X := X) (LX := LX) (E := [(28, [pl_s547]), (10, [pl_s204, pl_s218]), (67, [pl_s219])]) (mi := 66) (cuts := []) (f := 134) (S := pl_s548) (lx := none) (XF := []) ⟨pl_nmu, ck_E1 (ck_S1 pl_s547_s ck_S0) (ck_E1 (ck_S1 pl_s204_s (ck_S1 pl_s218_s ck_S0)) (ck_E1 (ck_S1 pl_s219_s ck_S0) ck_E0))⟩ ck_X0 ck_l0 (by decide +kernel)
set_option maxRecDepth 100000 in
/-- GlacierMail$Rows.put -/
def pl_s549 : ck_Sum := ((0, 0, 0), 249, [.inr (.inr (.inl 10)), .inl (ck_one 17), .inl (ck_one 5), .inl ((-1), 299, [])], ([], [], []), ([(11, 124, 124)], []), [(.inr none, 249, ([], [], []))])
set_option maxRecDepth 100000 in
theorem pl_s549_s {X : Int → Int} {LX : Nat} : ck_Ok p2_OL X LX 45 pl_s549 := ck_ok_s (O := p2_OL) (X := X) (LX := LX) (E := []) (mi := 45) (cuts := []) (f := 116) (S := pl_s549) (lx := none) (XF := []) ⟨pl_nmu, ck_E0⟩ ck_X0 ck_l0 (by decide +kernel)
set_option maxRecDepth 100000 in
/-- GlacierMail$Rows.put -/
def pl_s550 : ck_Sum := ((0, 0, 0), 249, [.inr (.inr (.inl 10)), .inl (ck_one 17), .inl (ck_one 6), .inl (0, 299, [])], ([], [], []), ([(11, 125, 125)], []), [(.inr none, 249, ([], [], []))])
set_option maxRecDepth 100000 in
theorem pl_s550_s {X : Int → Int} {LX : Nat} : ck_Ok p2_OL X LX 45 pl_s550 := ck_ok_s (O := p2_OL) (X := X) (LX := LX) (E := []) (mi := 45) (cuts := []) (f := 116) (S := pl_s550) (lx := none) (XF := []) ⟨pl_nmu, ck_E0⟩ ck_X0 ck_l0 (by decide +kernel)
set_option maxRecDepth 100000 in
/-- GlacierMail$Rows.put -/
def pl_s551 : ck_Sum := ((0, 0, 0), 249, [.inr (.inr (.inl 14)), .inl (0, 23, []), .inl (ck_one 1), .inl (ck_one 17)], ([], [], []), (zl173, []), [(.inr none, 249, ([], [], []))])
set_option maxRecDepth 100000 in
theorem pl_s551_s {X : Int → Int} {LX : Nat} : ck_Ok p2_OL X LX 45 pl_s551 := ck_ok_s (O := p2_OL) (X := X) (LX := LX) (E := []) (mi := 45) (cuts := []) (f := 116) (S := pl_s551) (lx := none) (XF := []) ⟨pl_nmu, ck_E0⟩ ck_X0 ck_l0 (by decide +kernel)
set_option maxRecDepth 100000 in
/-- GlacierMail$Rows.put -/
def pl_s552 : ck_Sum := ((0, 0, 0), 249, [.inr (.inr (.inl 14)), .inl (ck_one (-1)), .inl (ck_one 1), .inl (ck_one 17)], ([], [], []), ([], []), [(.inr none, 249, ([], [], []))])
set_option maxRecDepth 100000 in
theorem pl_s552_s {X : Int → Int} {LX : Nat} : ck_Ok p2_OL X LX 45 pl_s552 := ck_ok_s (O := p2_OL) (X := X) (LX := LX) (E := []) (mi := 45) (cuts := []) (f := 76) (S := pl_s552) (lx := none) (XF := []) ⟨pl_nmu, ck_E0⟩ ck_X0 ck_l0 (by decide +kernel)
set_option maxRecDepth 100000 in
/-- GlacierMail$State.openLetter -/
def pl_s553 : ck_Sum := ((1, 0, 0), 249, [.inr (.inr (.inl 3)), .inl (ck_one 17), .inl ((-1), 299, [])], ([], [], [(3, 6, 6, (0, 299, [(10, 0)]))]), ([(11, 124, 125), (14, 3, 3), (15, 0, 71)], []), [(.inr none, 249, ([], [], [(14, 3, 3, (1, 24, []))]))])
set_option maxRecDepth 100000 in
theorem pl_s553_s {X : Int → Int} {LX : Nat} : ck_Ok p2_OL X LX 159 pl_s553 := ck_ok_s (O := p2_OL) (X := X) (LX := LX) (E := [(45, [pl_s549, pl_s550, pl_s376, pl_s551, pl_s378, pl_s379, pl_s552, pl_s381]), (102, [pl_s382])]) (mi := 159) (cuts := []) (f := 144) (S := pl_s553) (lx := none) (XF := []) ⟨pl_nmu, ck_E1 (ck_S1 pl_s549_s (ck_S1 pl_s550_s (ck_S1 pl_s376_s (ck_S1 pl_s551_s (ck_S1 pl_s378_s (ck_S1 pl_s379_s (ck_S1 pl_s552_s (ck_S1 pl_s381_s ck_S0)))))))) (ck_E1 (ck_S1 pl_s382_s ck_S0) ck_E0)⟩ ck_X0 ck_l0 (by decide +kernel)
set_option maxRecDepth 100000 in
/-- GlacierMail.open -/
def pl_s554 : ck_Sum := ((8, 2, 12), 249, [.inr (.inr (.inl 1)), .inl (ck_one 17)], ([], zl230, [(3, 6, 6, (0, 299, [(10, 0)]))]), ([(1, 15, 15), (11, 124, 125), (14, 3, 3), (15, 0, 71), (42, 1, 2), (44, 0, 7), (45, 3, 3), (46, 0, 55), (47, 3, 3), (48, 0, 23), (49, 3, 3), (50, 0, 23), (51, 3, 3), (52, 0, 167), (53, 3, 3), (54, 0, 35), (55, 3, 3), (56, 0, 71), (57, 0, 7), (58, 3, 3), (59, 0, 55), (60, 3, 3), (61, 0, 23), (62, 3, 3), (63, 0, 23), (64, 3, 3), (65, 0, 167), (66, 3, 3), (67, 0, 35), (68, 3, 3), (69, 0, 71), (70, 0, 7), (71, 3, 3), (72, 0, 55), (73, 3, 3), (74, 0, 23), (75, 3, 3), (76, 0, 23), (77, 3, 3), (78, 0, 167), (79, 3, 3), (80, 0, 35), (81, 3, 3), (82, 0, 71), (83, 0, 7), (84, 3, 3), (85, 0, 55), (86, 3, 3), (87, 0, 23), (88, 3, 3), (89, 0, 23), (90, 3, 3), (91, 0, 167), (92, 3, 3), (93, 0, 35), (94, 3, 3), (95, 0, 71), (96, 0, 7), (97, 3, 3), (98, 0, 55), (99, 3, 3), (100, 0, 23), (101, 3, 3), (102, 0, 23), (103, 3, 3), (104, 0, 167), (105, 3, 3), (106, 0, 35), (107, 3, 3), (108, 0, 71), (109, 0, 7), (110, 3, 3), (111, 0, 55), (112, 3, 3), (113, 0, 23), (114, 3, 3), (115, 0, 23), (116, 3, 3), (117, 0, 167), (118, 3, 3), (119, 0, 35), (120, 3, 3), (121, 0, 71), (122, 0, 7), (123, 3, 3), (124, 0, 55), (125, 3, 3), (126, 0, 23), (127, 3, 3), (128, 0, 23), (129, 3, 3), (130, 0, 167), (131, 3, 3), (132, 0, 35), (133, 3, 3), (134, 0, 71), (135, 0, 7), (136, 3, 3), (137, 0, 55), (138, 3, 3), (139, 0, 23), (140, 3, 3), (141, 0, 23), (142, 3, 3), (143, 0, 167), (144, 3, 3), (145, 0, 35), (146, 3, 3), (147, 0, 71), (148, 0, 7), (149, 3, 3), (150, 0, 55), (151, 3, 3), (152, 0, 23), (153, 3, 3), (154, 0, 23), (155, 3, 3), (156, 0, 167), (157, 3, 3), (158, 0, 35), (159, 3, 3), (160, 0, 71), (161, 0, 7), (162, 3, 3), (163, 0, 55), (164, 3, 3), (165, 0, 23), (166, 3, 3), (167, 0, 23), (168, 3, 3), (169, 0, 167), (170, 3, 3), (171, 0, 35), (172, 3, 3), (173, 0, 71), (174, 0, 7), (175, 3, 3), (176, 0, 55), (177, 3, 3), (178, 0, 23), (179, 3, 3), (180, 0, 23), (181, 3, 3), (182, 0, 167), (183, 3, 3), (184, 0, 35), (185, 3, 3), (186, 0, 71), (187, 0, 7), (188, 3, 3), (189, 0, 55), (190, 3, 3), (191, 0, 23), (192, 3, 3), (193, 0, 23), (194, 3, 3), (195, 0, 167), (196, 3, 3), (197, 0, 35), (198, 3, 3), (199, 0, 71), (200, 6, 6), (204, 0, 9), (205, 0, 14849), (206, 2, 8), (220, 3, 3), (221, 0, 47)], zl104), zl245)
set_option maxRecDepth 100000 in
theorem pl_s554_s {X : Int → Int} {LX : Nat} : ck_Ok p2_OL X LX 158 pl_s554 := ck_ok_s (O := p2_OL) (X := X) (LX := LX) (E := [(143, [pl_s546]), (24, [pl_s217]), (66, [pl_s548]), (154, [pl_s341]), (10, [pl_s204]), (159, [pl_s553])]) (mi := 158) (cuts := []) (f := 140) (S := pl_s554) (lx := none) (XF := []) ⟨pl_nmu, ck_E1 (ck_S1 pl_s546_s ck_S0) (ck_E1 (ck_S1 pl_s217_s ck_S0) (ck_E1 (ck_S1 pl_s548_s ck_S0) (ck_E1 (ck_S1 pl_s341_s ck_S0) (ck_E1 (ck_S1 pl_s204_s ck_S0) (ck_E1 (ck_S1 pl_s553_s ck_S0) ck_E0)))))⟩ ck_X0 ck_l0 (by decide +kernel)
set_option maxRecDepth 100000 in
/-- GlacierMail.need -/
def pl_s555 : ck_Sum := ((6, 1, 6), 249, [.inr (.inr (.inl 1)), .inl (ck_one 18), .inl (0, 24, [])], ([], [], []), ([], []), [(.inr none, 249, ([], [], [])), (.inl 3, 249, ([], [], []))])
set_option maxRecDepth 100000 in
theorem pl_s555_s {X : Int → Int} {LX : Nat} : ck_Ok p2_OL X LX 133 pl_s555 := ck_ok_s (O := p2_OL) (X := X) (LX := LX) (E := []) (mi := 133) (cuts := []) (f := 82) (S := pl_s555) (lx := none) (XF := []) ⟨pl_nmu, ck_E0⟩ ck_X0 ck_l0 (by decide +kernel)
set_option maxRecDepth 100000 in
/-- GlacierMail.needLetter -/
def pl_s556 : ck_Sum := ((7, 1, 6), 249, [.inr (.inr (.inl 1)), .inl (ck_one 18)], ([], [], []), ([], []), [(.inl 3, 249, ([], [], [])), (.inr none, 249, ([], [], []))])
set_option maxRecDepth 100000 in
theorem pl_s556_s {X : Int → Int} {LX : Nat} : ck_Ok p2_OL X LX 143 pl_s556 := ck_ok_s (O := p2_OL) (X := X) (LX := LX) (E := [(9, [pl_s200]), (133, [pl_s555])]) (mi := 143) (cuts := []) (f := 86) (S := pl_s556) (lx := none) (XF := []) ⟨pl_nmu, ck_E1 (ck_S1 pl_s200_s ck_S0) (ck_E1 (ck_S1 pl_s555_s ck_S0) ck_E0)⟩ ck_X0 ck_l0 (by decide +kernel)
set_option maxRecDepth 100000 in
/-- GlacierMail$State.isRock -/
def pl_s557 : ck_Sum := ((1, 0, 0), 249, [.inr (.inr (.inl 3)), .inl (ck_one 18)], ([], [], []), ([], []), [(.inr (some (.inl (ck_one 0))), 249, ([], [], [])), (.inr (some (.inl (ck_one 1))), 249, ([], [], []))])
set_option maxRecDepth 100000 in
theorem pl_s557_s {X : Int → Int} {LX : Nat} : ck_Ok p2_OL X LX 28 pl_s557 := ck_ok_s (O := p2_OL) (X := X) (LX := LX) (E := [(10, [pl_s204])]) (mi := 28) (cuts := []) (f := 90) (S := pl_s557) (lx := none) (XF := []) ⟨pl_nmu, ck_E1 (ck_S1 pl_s204_s ck_S0) ck_E0⟩ ck_X0 ck_l0 (by decide +kernel)
set_option maxRecDepth 100000 in
/-- GlacierMail.waits -/
def pl_s558 : ck_Sum := ((2, 0, 0), 249, [.inr (.inr (.inl 1)), .inl (ck_one 18)], ([], [], [(3, 6, 6, (0, 299, [(10, 0)]))]), ([], []), [(.inr (some (.inl (ck_one 0))), 249, ([], [], [])), (.inr (some (.inl (ck_one 1))), 249, ([], [], []))])
set_option maxRecDepth 100000 in
theorem pl_s558_s {X : Int → Int} {LX : Nat} : ck_Ok p2_OL X LX 66 pl_s558 := ck_ok_s (O := p2_OL) (X := X) (LX := LX) (E := [(28, [pl_s557]), (10, [pl_s204, pl_s218]), (67, [pl_s219])]) (mi := 66) (cuts := []) (f := 134) (S := pl_s558) (lx := none) (XF := []) ⟨pl_nmu, ck_E1 (ck_S1 pl_s557_s ck_S0) (ck_E1 (ck_S1 pl_s204_s (ck_S1 pl_s218_s ck_S0)) (ck_E1 (ck_S1 pl_s219_s ck_S0) ck_E0))⟩ ck_X0 ck_l0 (by decide +kernel)
set_option maxRecDepth 100000 in
/-- GlacierMail$Rows.put -/
def pl_s559 : ck_Sum := ((0, 0, 0), 249, [.inr (.inr (.inl 10)), .inl (ck_one 18), .inl (ck_one 5), .inl ((-1), 299, [])], ([], [], []), ([(11, 131, 131)], []), [(.inr none, 249, ([], [], []))])
set_option maxRecDepth 100000 in
theorem pl_s559_s {X : Int → Int} {LX : Nat} : ck_Ok p2_OL X LX 45 pl_s559 := ck_ok_s (O := p2_OL) (X := X) (LX := LX) (E := []) (mi := 45) (cuts := []) (f := 116) (S := pl_s559) (lx := none) (XF := []) ⟨pl_nmu, ck_E0⟩ ck_X0 ck_l0 (by decide +kernel)
set_option maxRecDepth 100000 in
/-- GlacierMail$Rows.put -/
def pl_s560 : ck_Sum := ((0, 0, 0), 249, [.inr (.inr (.inl 10)), .inl (ck_one 18), .inl (ck_one 6), .inl (0, 299, [])], ([], [], []), ([(11, 132, 132)], []), [(.inr none, 249, ([], [], []))])
set_option maxRecDepth 100000 in
theorem pl_s560_s {X : Int → Int} {LX : Nat} : ck_Ok p2_OL X LX 45 pl_s560 := ck_ok_s (O := p2_OL) (X := X) (LX := LX) (E := []) (mi := 45) (cuts := []) (f := 116) (S := pl_s560) (lx := none) (XF := []) ⟨pl_nmu, ck_E0⟩ ck_X0 ck_l0 (by decide +kernel)
set_option maxRecDepth 100000 in
/-- GlacierMail$Rows.put -/
def pl_s561 : ck_Sum := ((0, 0, 0), 249, [.inr (.inr (.inl 14)), .inl (0, 23, []), .inl (ck_one 1), .inl (ck_one 18)], ([], [], []), (zl173, []), [(.inr none, 249, ([], [], []))])
set_option maxRecDepth 100000 in
theorem pl_s561_s {X : Int → Int} {LX : Nat} : ck_Ok p2_OL X LX 45 pl_s561 := ck_ok_s (O := p2_OL) (X := X) (LX := LX) (E := []) (mi := 45) (cuts := []) (f := 116) (S := pl_s561) (lx := none) (XF := []) ⟨pl_nmu, ck_E0⟩ ck_X0 ck_l0 (by decide +kernel)
set_option maxRecDepth 100000 in
/-- GlacierMail$Rows.put -/
def pl_s562 : ck_Sum := ((0, 0, 0), 249, [.inr (.inr (.inl 14)), .inl (ck_one (-1)), .inl (ck_one 1), .inl (ck_one 18)], ([], [], []), ([], []), [(.inr none, 249, ([], [], []))])
set_option maxRecDepth 100000 in
theorem pl_s562_s {X : Int → Int} {LX : Nat} : ck_Ok p2_OL X LX 45 pl_s562 := ck_ok_s (O := p2_OL) (X := X) (LX := LX) (E := []) (mi := 45) (cuts := []) (f := 76) (S := pl_s562) (lx := none) (XF := []) ⟨pl_nmu, ck_E0⟩ ck_X0 ck_l0 (by decide +kernel)
set_option maxRecDepth 100000 in
/-- GlacierMail$State.openLetter -/
def pl_s563 : ck_Sum := ((1, 0, 0), 249, [.inr (.inr (.inl 3)), .inl (ck_one 18), .inl ((-1), 299, [])], ([], [], [(3, 6, 6, (0, 299, [(10, 0)]))]), ([(11, 131, 132), (14, 3, 3), (15, 0, 71)], []), [(.inr none, 249, ([], [], [(14, 3, 3, (1, 24, []))]))])
set_option maxRecDepth 100000 in
theorem pl_s563_s {X : Int → Int} {LX : Nat} : ck_Ok p2_OL X LX 159 pl_s563 := ck_ok_s (O := p2_OL) (X := X) (LX := LX) (E := [(45, [pl_s559, pl_s560, pl_s376, pl_s561, pl_s378, pl_s379, pl_s562, pl_s381]), (102, [pl_s382])]) (mi := 159) (cuts := []) (f := 144) (S := pl_s563) (lx := none) (XF := []) ⟨pl_nmu, ck_E1 (ck_S1 pl_s559_s (ck_S1 pl_s560_s (ck_S1 pl_s376_s (ck_S1 pl_s561_s (ck_S1 pl_s378_s (ck_S1 pl_s379_s (ck_S1 pl_s562_s (ck_S1 pl_s381_s ck_S0)))))))) (ck_E1 (ck_S1 pl_s382_s ck_S0) ck_E0)⟩ ck_X0 ck_l0 (by decide +kernel)
set_option maxRecDepth 100000 in
/-- GlacierMail.open -/
def pl_s564 : ck_Sum := ((8, 2, 12), 249, [.inr (.inr (.inl 1)), .inl (ck_one 18)], ([], zl230, [(3, 6, 6, (0, 299, [(10, 0)]))]), ([(1, 15, 15), (11, 131, 132), (14, 3, 3), (15, 0, 71), (42, 1, 2), (44, 0, 7), (45, 3, 3), (46, 0, 55), (47, 3, 3), (48, 0, 23), (49, 3, 3), (50, 0, 23), (51, 3, 3), (52, 0, 167), (53, 3, 3), (54, 0, 35), (55, 3, 3), (56, 0, 71), (57, 0, 7), (58, 3, 3), (59, 0, 55), (60, 3, 3), (61, 0, 23), (62, 3, 3), (63, 0, 23), (64, 3, 3), (65, 0, 167), (66, 3, 3), (67, 0, 35), (68, 3, 3), (69, 0, 71), (70, 0, 7), (71, 3, 3), (72, 0, 55), (73, 3, 3), (74, 0, 23), (75, 3, 3), (76, 0, 23), (77, 3, 3), (78, 0, 167), (79, 3, 3), (80, 0, 35), (81, 3, 3), (82, 0, 71), (83, 0, 7), (84, 3, 3), (85, 0, 55), (86, 3, 3), (87, 0, 23), (88, 3, 3), (89, 0, 23), (90, 3, 3), (91, 0, 167), (92, 3, 3), (93, 0, 35), (94, 3, 3), (95, 0, 71), (96, 0, 7), (97, 3, 3), (98, 0, 55), (99, 3, 3), (100, 0, 23), (101, 3, 3), (102, 0, 23), (103, 3, 3), (104, 0, 167), (105, 3, 3), (106, 0, 35), (107, 3, 3), (108, 0, 71), (109, 0, 7), (110, 3, 3), (111, 0, 55), (112, 3, 3), (113, 0, 23), (114, 3, 3), (115, 0, 23), (116, 3, 3), (117, 0, 167), (118, 3, 3), (119, 0, 35), (120, 3, 3), (121, 0, 71), (122, 0, 7), (123, 3, 3), (124, 0, 55), (125, 3, 3), (126, 0, 23), (127, 3, 3), (128, 0, 23), (129, 3, 3), (130, 0, 167), (131, 3, 3), (132, 0, 35), (133, 3, 3), (134, 0, 71), (135, 0, 7), (136, 3, 3), (137, 0, 55), (138, 3, 3), (139, 0, 23), (140, 3, 3), (141, 0, 23), (142, 3, 3), (143, 0, 167), (144, 3, 3), (145, 0, 35), (146, 3, 3), (147, 0, 71), (148, 0, 7), (149, 3, 3), (150, 0, 55), (151, 3, 3), (152, 0, 23), (153, 3, 3), (154, 0, 23), (155, 3, 3), (156, 0, 167), (157, 3, 3), (158, 0, 35), (159, 3, 3), (160, 0, 71), (161, 0, 7), (162, 3, 3), (163, 0, 55), (164, 3, 3), (165, 0, 23), (166, 3, 3), (167, 0, 23), (168, 3, 3), (169, 0, 167), (170, 3, 3), (171, 0, 35), (172, 3, 3), (173, 0, 71), (174, 0, 7), (175, 3, 3), (176, 0, 55), (177, 3, 3), (178, 0, 23), (179, 3, 3), (180, 0, 23), (181, 3, 3), (182, 0, 167), (183, 3, 3), (184, 0, 35), (185, 3, 3), (186, 0, 71), (187, 0, 7), (188, 3, 3), (189, 0, 55), (190, 3, 3), (191, 0, 23), (192, 3, 3), (193, 0, 23), (194, 3, 3), (195, 0, 167), (196, 3, 3), (197, 0, 35), (198, 3, 3), (199, 0, 71), (200, 6, 6), (204, 0, 9), (205, 0, 14849), (206, 2, 8), (220, 3, 3), (221, 0, 47)], zl104), zl245)
set_option maxRecDepth 100000 in
theorem pl_s564_s {X : Int → Int} {LX : Nat} : ck_Ok p2_OL X LX 158 pl_s564 := ck_ok_s (O := p2_OL) (X := X) (LX := LX) (E := [(143, [pl_s556]), (24, [pl_s217]), (66, [pl_s558]), (154, [pl_s341]), (10, [pl_s204]), (159, [pl_s563])]) (mi := 158) (cuts := []) (f := 140) (S := pl_s564) (lx := none) (XF := []) ⟨pl_nmu, ck_E1 (ck_S1 pl_s556_s ck_S0) (ck_E1 (ck_S1 pl_s217_s ck_S0) (ck_E1 (ck_S1 pl_s558_s ck_S0) (ck_E1 (ck_S1 pl_s341_s ck_S0) (ck_E1 (ck_S1 pl_s204_s ck_S0) (ck_E1 (ck_S1 pl_s563_s ck_S0) ck_E0)))))⟩ ck_X0 ck_l0 (by decide +kernel)
set_option maxRecDepth 100000 in
/-- GlacierMail.need -/
def pl_s565 : ck_Sum := ((6, 1, 6), 249, [.inr (.inr (.inl 1)), .inl (ck_one 19), .inl (0, 24, [])], ([], [], []), ([], []), [(.inr none, 249, ([], [], [])), (.inl 3, 249, ([], [], []))])
set_option maxRecDepth 100000 in
theorem pl_s565_s {X : Int → Int} {LX : Nat} : ck_Ok p2_OL X LX 133 pl_s565 := ck_ok_s (O := p2_OL) (X := X) (LX := LX) (E := []) (mi := 133) (cuts := []) (f := 82) (S := pl_s565) (lx := none) (XF := []) ⟨pl_nmu, ck_E0⟩ ck_X0 ck_l0 (by decide +kernel)
set_option maxRecDepth 100000 in
/-- GlacierMail.needLetter -/
def pl_s566 : ck_Sum := ((7, 1, 6), 249, [.inr (.inr (.inl 1)), .inl (ck_one 19)], ([], [], []), ([], []), [(.inl 3, 249, ([], [], [])), (.inr none, 249, ([], [], []))])
set_option maxRecDepth 100000 in
theorem pl_s566_s {X : Int → Int} {LX : Nat} : ck_Ok p2_OL X LX 143 pl_s566 := ck_ok_s (O := p2_OL) (X := X) (LX := LX) (E := [(9, [pl_s200]), (133, [pl_s565])]) (mi := 143) (cuts := []) (f := 86) (S := pl_s566) (lx := none) (XF := []) ⟨pl_nmu, ck_E1 (ck_S1 pl_s200_s ck_S0) (ck_E1 (ck_S1 pl_s565_s ck_S0) ck_E0)⟩ ck_X0 ck_l0 (by decide +kernel)
set_option maxRecDepth 100000 in
/-- GlacierMail$State.isRock -/
def pl_s567 : ck_Sum := ((1, 0, 0), 249, [.inr (.inr (.inl 3)), .inl (ck_one 19)], ([], [], []), ([], []), [(.inr (some (.inl (ck_one 0))), 249, ([], [], [])), (.inr (some (.inl (ck_one 1))), 249, ([], [], []))])
set_option maxRecDepth 100000 in
theorem pl_s567_s {X : Int → Int} {LX : Nat} : ck_Ok p2_OL X LX 28 pl_s567 := ck_ok_s (O := p2_OL) (X := X) (LX := LX) (E := [(10, [pl_s204])]) (mi := 28) (cuts := []) (f := 90) (S := pl_s567) (lx := none) (XF := []) ⟨pl_nmu, ck_E1 (ck_S1 pl_s204_s ck_S0) ck_E0⟩ ck_X0 ck_l0 (by decide +kernel)
set_option maxRecDepth 100000 in
/-- GlacierMail.waits -/
def pl_s568 : ck_Sum := ((2, 0, 0), 249, [.inr (.inr (.inl 1)), .inl (ck_one 19)], ([], [], [(3, 6, 6, (0, 299, [(10, 0)]))]), ([], []), [(.inr (some (.inl (ck_one 0))), 249, ([], [], [])), (.inr (some (.inl (ck_one 1))), 249, ([], [], []))])
set_option maxRecDepth 100000 in
theorem pl_s568_s {X : Int → Int} {LX : Nat} : ck_Ok p2_OL X LX 66 pl_s568 := ck_ok_s (O := p2_OL) (X := X) (LX := LX) (E := [(28, [pl_s567]), (10, [pl_s204, pl_s218]), (67, [pl_s219])]) (mi := 66) (cuts := []) (f := 134) (S := pl_s568) (lx := none) (XF := []) ⟨pl_nmu, ck_E1 (ck_S1 pl_s567_s ck_S0) (ck_E1 (ck_S1 pl_s204_s (ck_S1 pl_s218_s ck_S0)) (ck_E1 (ck_S1 pl_s219_s ck_S0) ck_E0))⟩ ck_X0 ck_l0 (by decide +kernel)
set_option maxRecDepth 100000 in
/-- GlacierMail$Rows.put -/
def pl_s569 : ck_Sum := ((0, 0, 0), 249, [.inr (.inr (.inl 10)), .inl (ck_one 19), .inl (ck_one 5), .inl ((-1), 299, [])], ([], [], []), ([(11, 138, 138)], []), [(.inr none, 249, ([], [], []))])
set_option maxRecDepth 100000 in
theorem pl_s569_s {X : Int → Int} {LX : Nat} : ck_Ok p2_OL X LX 45 pl_s569 := ck_ok_s (O := p2_OL) (X := X) (LX := LX) (E := []) (mi := 45) (cuts := []) (f := 116) (S := pl_s569) (lx := none) (XF := []) ⟨pl_nmu, ck_E0⟩ ck_X0 ck_l0 (by decide +kernel)
set_option maxRecDepth 100000 in
/-- GlacierMail$Rows.put -/
def pl_s570 : ck_Sum := ((0, 0, 0), 249, [.inr (.inr (.inl 10)), .inl (ck_one 19), .inl (ck_one 6), .inl (0, 299, [])], ([], [], []), ([(11, 139, 139)], []), [(.inr none, 249, ([], [], []))])
set_option maxRecDepth 100000 in
theorem pl_s570_s {X : Int → Int} {LX : Nat} : ck_Ok p2_OL X LX 45 pl_s570 := ck_ok_s (O := p2_OL) (X := X) (LX := LX) (E := []) (mi := 45) (cuts := []) (f := 116) (S := pl_s570) (lx := none) (XF := []) ⟨pl_nmu, ck_E0⟩ ck_X0 ck_l0 (by decide +kernel)
set_option maxRecDepth 100000 in
/-- GlacierMail$Rows.put -/
def pl_s571 : ck_Sum := ((0, 0, 0), 249, [.inr (.inr (.inl 14)), .inl (0, 23, []), .inl (ck_one 1), .inl (ck_one 19)], ([], [], []), (zl173, []), [(.inr none, 249, ([], [], []))])
set_option maxRecDepth 100000 in
theorem pl_s571_s {X : Int → Int} {LX : Nat} : ck_Ok p2_OL X LX 45 pl_s571 := ck_ok_s (O := p2_OL) (X := X) (LX := LX) (E := []) (mi := 45) (cuts := []) (f := 116) (S := pl_s571) (lx := none) (XF := []) ⟨pl_nmu, ck_E0⟩ ck_X0 ck_l0 (by decide +kernel)
set_option maxRecDepth 100000 in
/-- GlacierMail$Rows.put -/
def pl_s572 : ck_Sum := ((0, 0, 0), 249, [.inr (.inr (.inl 14)), .inl (ck_one (-1)), .inl (ck_one 1), .inl (ck_one 19)], ([], [], []), ([], []), [(.inr none, 249, ([], [], []))])
set_option maxRecDepth 100000 in
theorem pl_s572_s {X : Int → Int} {LX : Nat} : ck_Ok p2_OL X LX 45 pl_s572 := ck_ok_s (O := p2_OL) (X := X) (LX := LX) (E := []) (mi := 45) (cuts := []) (f := 76) (S := pl_s572) (lx := none) (XF := []) ⟨pl_nmu, ck_E0⟩ ck_X0 ck_l0 (by decide +kernel)
set_option maxRecDepth 100000 in
/-- GlacierMail$State.openLetter -/
def pl_s573 : ck_Sum := ((1, 0, 0), 249, [.inr (.inr (.inl 3)), .inl (ck_one 19), .inl ((-1), 299, [])], ([], [], [(3, 6, 6, (0, 299, [(10, 0)]))]), ([(11, 138, 139), (14, 3, 3), (15, 0, 71)], []), [(.inr none, 249, ([], [], [(14, 3, 3, (1, 24, []))]))])
set_option maxRecDepth 100000 in
theorem pl_s573_s {X : Int → Int} {LX : Nat} : ck_Ok p2_OL X LX 159 pl_s573 := ck_ok_s (O := p2_OL) (X := X) (LX := LX) (E := [(45, [pl_s569, pl_s570, pl_s376, pl_s571, pl_s378, pl_s379, pl_s572, pl_s381]), (102, [pl_s382])]) (mi := 159) (cuts := []) (f := 144) (S := pl_s573) (lx := none) (XF := []) ⟨pl_nmu, ck_E1 (ck_S1 pl_s569_s (ck_S1 pl_s570_s (ck_S1 pl_s376_s (ck_S1 pl_s571_s (ck_S1 pl_s378_s (ck_S1 pl_s379_s (ck_S1 pl_s572_s (ck_S1 pl_s381_s ck_S0)))))))) (ck_E1 (ck_S1 pl_s382_s ck_S0) ck_E0)⟩ ck_X0 ck_l0 (by decide +kernel)
set_option maxRecDepth 100000 in
/-- GlacierMail.open -/
def pl_s574 : ck_Sum := ((8, 2, 12), 249, [.inr (.inr (.inl 1)), .inl (ck_one 19)], ([], zl230, [(3, 6, 6, (0, 299, [(10, 0)]))]), ([(1, 15, 15), (11, 138, 139), (14, 3, 3), (15, 0, 71), (42, 1, 2), (44, 0, 7), (45, 3, 3), (46, 0, 55), (47, 3, 3), (48, 0, 23), (49, 3, 3), (50, 0, 23), (51, 3, 3), (52, 0, 167), (53, 3, 3), (54, 0, 35), (55, 3, 3), (56, 0, 71), (57, 0, 7), (58, 3, 3), (59, 0, 55), (60, 3, 3), (61, 0, 23), (62, 3, 3), (63, 0, 23), (64, 3, 3), (65, 0, 167), (66, 3, 3), (67, 0, 35), (68, 3, 3), (69, 0, 71), (70, 0, 7), (71, 3, 3), (72, 0, 55), (73, 3, 3), (74, 0, 23), (75, 3, 3), (76, 0, 23), (77, 3, 3), (78, 0, 167), (79, 3, 3), (80, 0, 35), (81, 3, 3), (82, 0, 71), (83, 0, 7), (84, 3, 3), (85, 0, 55), (86, 3, 3), (87, 0, 23), (88, 3, 3), (89, 0, 23), (90, 3, 3), (91, 0, 167), (92, 3, 3), (93, 0, 35), (94, 3, 3), (95, 0, 71), (96, 0, 7), (97, 3, 3), (98, 0, 55), (99, 3, 3), (100, 0, 23), (101, 3, 3), (102, 0, 23), (103, 3, 3), (104, 0, 167), (105, 3, 3), (106, 0, 35), (107, 3, 3), (108, 0, 71), (109, 0, 7), (110, 3, 3), (111, 0, 55), (112, 3, 3), (113, 0, 23), (114, 3, 3), (115, 0, 23), (116, 3, 3), (117, 0, 167), (118, 3, 3), (119, 0, 35), (120, 3, 3), (121, 0, 71), (122, 0, 7), (123, 3, 3), (124, 0, 55), (125, 3, 3), (126, 0, 23), (127, 3, 3), (128, 0, 23), (129, 3, 3), (130, 0, 167), (131, 3, 3), (132, 0, 35), (133, 3, 3), (134, 0, 71), (135, 0, 7), (136, 3, 3), (137, 0, 55), (138, 3, 3), (139, 0, 23), (140, 3, 3), (141, 0, 23), (142, 3, 3), (143, 0, 167), (144, 3, 3), (145, 0, 35), (146, 3, 3), (147, 0, 71), (148, 0, 7), (149, 3, 3), (150, 0, 55), (151, 3, 3), (152, 0, 23), (153, 3, 3), (154, 0, 23), (155, 3, 3), (156, 0, 167), (157, 3, 3), (158, 0, 35), (159, 3, 3), (160, 0, 71), (161, 0, 7), (162, 3, 3), (163, 0, 55), (164, 3, 3), (165, 0, 23), (166, 3, 3), (167, 0, 23), (168, 3, 3), (169, 0, 167), (170, 3, 3), (171, 0, 35), (172, 3, 3), (173, 0, 71), (174, 0, 7), (175, 3, 3), (176, 0, 55), (177, 3, 3), (178, 0, 23), (179, 3, 3), (180, 0, 23), (181, 3, 3), (182, 0, 167), (183, 3, 3), (184, 0, 35), (185, 3, 3), (186, 0, 71), (187, 0, 7), (188, 3, 3), (189, 0, 55), (190, 3, 3), (191, 0, 23), (192, 3, 3), (193, 0, 23), (194, 3, 3), (195, 0, 167), (196, 3, 3), (197, 0, 35), (198, 3, 3), (199, 0, 71), (200, 6, 6), (204, 0, 9), (205, 0, 14849), (206, 2, 8), (220, 3, 3), (221, 0, 47)], zl104), zl245)
set_option maxRecDepth 100000 in
theorem pl_s574_s {X : Int → Int} {LX : Nat} : ck_Ok p2_OL X LX 158 pl_s574 := ck_ok_s (O := p2_OL) (X := X) (LX := LX) (E := [(143, [pl_s566]), (24, [pl_s217]), (66, [pl_s568]), (154, [pl_s341]), (10, [pl_s204]), (159, [pl_s573])]) (mi := 158) (cuts := []) (f := 140) (S := pl_s574) (lx := none) (XF := []) ⟨pl_nmu, ck_E1 (ck_S1 pl_s566_s ck_S0) (ck_E1 (ck_S1 pl_s217_s ck_S0) (ck_E1 (ck_S1 pl_s568_s ck_S0) (ck_E1 (ck_S1 pl_s341_s ck_S0) (ck_E1 (ck_S1 pl_s204_s ck_S0) (ck_E1 (ck_S1 pl_s573_s ck_S0) ck_E0)))))⟩ ck_X0 ck_l0 (by decide +kernel)
set_option maxRecDepth 100000 in
/-- GlacierMail.need -/
def pl_s575 : ck_Sum := ((6, 1, 6), 249, [.inr (.inr (.inl 1)), .inl (ck_one 20), .inl (0, 24, [])], ([], [], []), ([], []), [(.inr none, 249, ([], [], [])), (.inl 3, 249, ([], [], []))])
set_option maxRecDepth 100000 in
theorem pl_s575_s {X : Int → Int} {LX : Nat} : ck_Ok p2_OL X LX 133 pl_s575 := ck_ok_s (O := p2_OL) (X := X) (LX := LX) (E := []) (mi := 133) (cuts := []) (f := 82) (S := pl_s575) (lx := none) (XF := []) ⟨pl_nmu, ck_E0⟩ ck_X0 ck_l0 (by decide +kernel)
set_option maxRecDepth 100000 in
/-- GlacierMail.needLetter -/
def pl_s576 : ck_Sum := ((7, 1, 6), 249, [.inr (.inr (.inl 1)), .inl (ck_one 20)], ([], [], []), ([], []), [(.inl 3, 249, ([], [], [])), (.inr none, 249, ([], [], []))])
set_option maxRecDepth 100000 in
theorem pl_s576_s {X : Int → Int} {LX : Nat} : ck_Ok p2_OL X LX 143 pl_s576 := ck_ok_s (O := p2_OL) (X := X) (LX := LX) (E := [(9, [pl_s200]), (133, [pl_s575])]) (mi := 143) (cuts := []) (f := 86) (S := pl_s576) (lx := none) (XF := []) ⟨pl_nmu, ck_E1 (ck_S1 pl_s200_s ck_S0) (ck_E1 (ck_S1 pl_s575_s ck_S0) ck_E0)⟩ ck_X0 ck_l0 (by decide +kernel)
set_option maxRecDepth 100000 in
/-- GlacierMail$State.isRock -/
def pl_s577 : ck_Sum := ((1, 0, 0), 249, [.inr (.inr (.inl 3)), .inl (ck_one 20)], ([], [], []), ([], []), [(.inr (some (.inl (ck_one 0))), 249, ([], [], [])), (.inr (some (.inl (ck_one 1))), 249, ([], [], []))])
set_option maxRecDepth 100000 in
theorem pl_s577_s {X : Int → Int} {LX : Nat} : ck_Ok p2_OL X LX 28 pl_s577 := ck_ok_s (O := p2_OL) (X := X) (LX := LX) (E := [(10, [pl_s204])]) (mi := 28) (cuts := []) (f := 90) (S := pl_s577) (lx := none) (XF := []) ⟨pl_nmu, ck_E1 (ck_S1 pl_s204_s ck_S0) ck_E0⟩ ck_X0 ck_l0 (by decide +kernel)
set_option maxRecDepth 100000 in
/-- GlacierMail.waits -/
def pl_s578 : ck_Sum := ((2, 0, 0), 249, [.inr (.inr (.inl 1)), .inl (ck_one 20)], ([], [], [(3, 6, 6, (0, 299, [(10, 0)]))]), ([], []), [(.inr (some (.inl (ck_one 0))), 249, ([], [], [])), (.inr (some (.inl (ck_one 1))), 249, ([], [], []))])
set_option maxRecDepth 100000 in
theorem pl_s578_s {X : Int → Int} {LX : Nat} : ck_Ok p2_OL X LX 66 pl_s578 := ck_ok_s (O := p2_OL) (X := X) (LX := LX) (E := [(28, [pl_s577]), (10, [pl_s204, pl_s218]), (67, [pl_s219])]) (mi := 66) (cuts := []) (f := 134) (S := pl_s578) (lx := none) (XF := []) ⟨pl_nmu, ck_E1 (ck_S1 pl_s577_s ck_S0) (ck_E1 (ck_S1 pl_s204_s (ck_S1 pl_s218_s ck_S0)) (ck_E1 (ck_S1 pl_s219_s ck_S0) ck_E0))⟩ ck_X0 ck_l0 (by decide +kernel)
set_option maxRecDepth 100000 in
/-- GlacierMail$Rows.put -/
def pl_s579 : ck_Sum := ((0, 0, 0), 249, [.inr (.inr (.inl 10)), .inl (ck_one 20), .inl (ck_one 5), .inl ((-1), 299, [])], ([], [], []), ([(11, 145, 145)], []), [(.inr none, 249, ([], [], []))])
set_option maxRecDepth 100000 in
theorem pl_s579_s {X : Int → Int} {LX : Nat} : ck_Ok p2_OL X LX 45 pl_s579 := ck_ok_s (O := p2_OL) (X := X) (LX := LX) (E := []) (mi := 45) (cuts := []) (f := 116) (S := pl_s579) (lx := none) (XF := []) ⟨pl_nmu, ck_E0⟩ ck_X0 ck_l0 (by decide +kernel)
set_option maxRecDepth 100000 in
/-- GlacierMail$Rows.put -/
def pl_s580 : ck_Sum := ((0, 0, 0), 249, [.inr (.inr (.inl 10)), .inl (ck_one 20), .inl (ck_one 6), .inl (0, 299, [])], ([], [], []), ([(11, 146, 146)], []), [(.inr none, 249, ([], [], []))])
set_option maxRecDepth 100000 in
theorem pl_s580_s {X : Int → Int} {LX : Nat} : ck_Ok p2_OL X LX 45 pl_s580 := ck_ok_s (O := p2_OL) (X := X) (LX := LX) (E := []) (mi := 45) (cuts := []) (f := 116) (S := pl_s580) (lx := none) (XF := []) ⟨pl_nmu, ck_E0⟩ ck_X0 ck_l0 (by decide +kernel)
set_option maxRecDepth 100000 in
/-- GlacierMail$Rows.put -/
def pl_s581 : ck_Sum := ((0, 0, 0), 249, [.inr (.inr (.inl 14)), .inl (0, 23, []), .inl (ck_one 1), .inl (ck_one 20)], ([], [], []), (zl173, []), [(.inr none, 249, ([], [], []))])
set_option maxRecDepth 100000 in
theorem pl_s581_s {X : Int → Int} {LX : Nat} : ck_Ok p2_OL X LX 45 pl_s581 := ck_ok_s (O := p2_OL) (X := X) (LX := LX) (E := []) (mi := 45) (cuts := []) (f := 116) (S := pl_s581) (lx := none) (XF := []) ⟨pl_nmu, ck_E0⟩ ck_X0 ck_l0 (by decide +kernel)
set_option maxRecDepth 100000 in
/-- GlacierMail$Rows.put -/
def pl_s582 : ck_Sum := ((0, 0, 0), 249, [.inr (.inr (.inl 14)), .inl (ck_one (-1)), .inl (ck_one 1), .inl (ck_one 20)], ([], [], []), ([], []), [(.inr none, 249, ([], [], []))])
set_option maxRecDepth 100000 in
theorem pl_s582_s {X : Int → Int} {LX : Nat} : ck_Ok p2_OL X LX 45 pl_s582 := ck_ok_s (O := p2_OL) (X := X) (LX := LX) (E := []) (mi := 45) (cuts := []) (f := 76) (S := pl_s582) (lx := none) (XF := []) ⟨pl_nmu, ck_E0⟩ ck_X0 ck_l0 (by decide +kernel)
set_option maxRecDepth 100000 in
/-- GlacierMail$State.openLetter -/
def pl_s583 : ck_Sum := ((1, 0, 0), 249, [.inr (.inr (.inl 3)), .inl (ck_one 20), .inl ((-1), 299, [])], ([], [], [(3, 6, 6, (0, 299, [(10, 0)]))]), ([(11, 145, 146), (14, 3, 3), (15, 0, 71)], []), [(.inr none, 249, ([], [], [(14, 3, 3, (1, 24, []))]))])
set_option maxRecDepth 100000 in
theorem pl_s583_s {X : Int → Int} {LX : Nat} : ck_Ok p2_OL X LX 159 pl_s583 := ck_ok_s (O := p2_OL) (X := X) (LX := LX) (E := [(45, [pl_s579, pl_s580, pl_s376, pl_s581, pl_s378, pl_s379, pl_s582, pl_s381]), (102, [pl_s382])]) (mi := 159) (cuts := []) (f := 144) (S := pl_s583) (lx := none) (XF := []) ⟨pl_nmu, ck_E1 (ck_S1 pl_s579_s (ck_S1 pl_s580_s (ck_S1 pl_s376_s (ck_S1 pl_s581_s (ck_S1 pl_s378_s (ck_S1 pl_s379_s (ck_S1 pl_s582_s (ck_S1 pl_s381_s ck_S0)))))))) (ck_E1 (ck_S1 pl_s382_s ck_S0) ck_E0)⟩ ck_X0 ck_l0 (by decide +kernel)
set_option maxRecDepth 100000 in
/-- GlacierMail.open -/
def pl_s584 : ck_Sum := ((8, 2, 12), 249, [.inr (.inr (.inl 1)), .inl (ck_one 20)], ([], zl230, [(3, 6, 6, (0, 299, [(10, 0)]))]), ([(1, 15, 15), (11, 145, 146), (14, 3, 3), (15, 0, 71), (42, 1, 2), (44, 0, 7), (45, 3, 3), (46, 0, 55), (47, 3, 3), (48, 0, 23), (49, 3, 3), (50, 0, 23), (51, 3, 3), (52, 0, 167), (53, 3, 3), (54, 0, 35), (55, 3, 3), (56, 0, 71), (57, 0, 7), (58, 3, 3), (59, 0, 55), (60, 3, 3), (61, 0, 23), (62, 3, 3), (63, 0, 23), (64, 3, 3), (65, 0, 167), (66, 3, 3), (67, 0, 35), (68, 3, 3), (69, 0, 71), (70, 0, 7), (71, 3, 3), (72, 0, 55), (73, 3, 3), (74, 0, 23), (75, 3, 3), (76, 0, 23), (77, 3, 3), (78, 0, 167), (79, 3, 3), (80, 0, 35), (81, 3, 3), (82, 0, 71), (83, 0, 7), (84, 3, 3), (85, 0, 55), (86, 3, 3), (87, 0, 23), (88, 3, 3), (89, 0, 23), (90, 3, 3), (91, 0, 167), (92, 3, 3), (93, 0, 35), (94, 3, 3), (95, 0, 71), (96, 0, 7), (97, 3, 3), (98, 0, 55), (99, 3, 3), (100, 0, 23), (101, 3, 3), (102, 0, 23), (103, 3, 3), (104, 0, 167), (105, 3, 3), (106, 0, 35), (107, 3, 3), (108, 0, 71), (109, 0, 7), (110, 3, 3), (111, 0, 55), (112, 3, 3), (113, 0, 23), (114, 3, 3), (115, 0, 23), (116, 3, 3), (117, 0, 167), (118, 3, 3), (119, 0, 35), (120, 3, 3), (121, 0, 71), (122, 0, 7), (123, 3, 3), (124, 0, 55), (125, 3, 3), (126, 0, 23), (127, 3, 3), (128, 0, 23), (129, 3, 3), (130, 0, 167), (131, 3, 3), (132, 0, 35), (133, 3, 3), (134, 0, 71), (135, 0, 7), (136, 3, 3), (137, 0, 55), (138, 3, 3), (139, 0, 23), (140, 3, 3), (141, 0, 23), (142, 3, 3), (143, 0, 167), (144, 3, 3), (145, 0, 35), (146, 3, 3), (147, 0, 71), (148, 0, 7), (149, 3, 3), (150, 0, 55), (151, 3, 3), (152, 0, 23), (153, 3, 3), (154, 0, 23), (155, 3, 3), (156, 0, 167), (157, 3, 3), (158, 0, 35), (159, 3, 3), (160, 0, 71), (161, 0, 7), (162, 3, 3), (163, 0, 55), (164, 3, 3), (165, 0, 23), (166, 3, 3), (167, 0, 23), (168, 3, 3), (169, 0, 167), (170, 3, 3), (171, 0, 35), (172, 3, 3), (173, 0, 71), (174, 0, 7), (175, 3, 3), (176, 0, 55), (177, 3, 3), (178, 0, 23), (179, 3, 3), (180, 0, 23), (181, 3, 3), (182, 0, 167), (183, 3, 3), (184, 0, 35), (185, 3, 3), (186, 0, 71), (187, 0, 7), (188, 3, 3), (189, 0, 55), (190, 3, 3), (191, 0, 23), (192, 3, 3), (193, 0, 23), (194, 3, 3), (195, 0, 167), (196, 3, 3), (197, 0, 35), (198, 3, 3), (199, 0, 71), (200, 6, 6), (204, 0, 9), (205, 0, 14849), (206, 2, 8), (220, 3, 3), (221, 0, 47)], zl104), zl245)
set_option maxRecDepth 100000 in
theorem pl_s584_s {X : Int → Int} {LX : Nat} : ck_Ok p2_OL X LX 158 pl_s584 := ck_ok_s (O := p2_OL) (X := X) (LX := LX) (E := [(143, [pl_s576]), (24, [pl_s217]), (66, [pl_s578]), (154, [pl_s341]), (10, [pl_s204]), (159, [pl_s583])]) (mi := 158) (cuts := []) (f := 140) (S := pl_s584) (lx := none) (XF := []) ⟨pl_nmu, ck_E1 (ck_S1 pl_s576_s ck_S0) (ck_E1 (ck_S1 pl_s217_s ck_S0) (ck_E1 (ck_S1 pl_s578_s ck_S0) (ck_E1 (ck_S1 pl_s341_s ck_S0) (ck_E1 (ck_S1 pl_s204_s ck_S0) (ck_E1 (ck_S1 pl_s583_s ck_S0) ck_E0)))))⟩ ck_X0 ck_l0 (by decide +kernel)
set_option maxRecDepth 100000 in
/-- GlacierMail.need -/
def pl_s585 : ck_Sum := ((6, 1, 6), 249, [.inr (.inr (.inl 1)), .inl (ck_one 21), .inl (0, 24, [])], ([], [], []), ([], []), [(.inr none, 249, ([], [], [])), (.inl 3, 249, ([], [], []))])
set_option maxRecDepth 100000 in
theorem pl_s585_s {X : Int → Int} {LX : Nat} : ck_Ok p2_OL X LX 133 pl_s585 := ck_ok_s (O := p2_OL) (X := X) (LX := LX) (E := []) (mi := 133) (cuts := []) (f := 82) (S := pl_s585) (lx := none) (XF := []) ⟨pl_nmu, ck_E0⟩ ck_X0 ck_l0 (by decide +kernel)
set_option maxRecDepth 100000 in
/-- GlacierMail.needLetter -/
def pl_s586 : ck_Sum := ((7, 1, 6), 249, [.inr (.inr (.inl 1)), .inl (ck_one 21)], ([], [], []), ([], []), [(.inl 3, 249, ([], [], [])), (.inr none, 249, ([], [], []))])
set_option maxRecDepth 100000 in
theorem pl_s586_s {X : Int → Int} {LX : Nat} : ck_Ok p2_OL X LX 143 pl_s586 := ck_ok_s (O := p2_OL) (X := X) (LX := LX) (E := [(9, [pl_s200]), (133, [pl_s585])]) (mi := 143) (cuts := []) (f := 86) (S := pl_s586) (lx := none) (XF := []) ⟨pl_nmu, ck_E1 (ck_S1 pl_s200_s ck_S0) (ck_E1 (ck_S1 pl_s585_s ck_S0) ck_E0)⟩ ck_X0 ck_l0 (by decide +kernel)
set_option maxRecDepth 100000 in
/-- GlacierMail$State.isRock -/
def pl_s587 : ck_Sum := ((1, 0, 0), 249, [.inr (.inr (.inl 3)), .inl (ck_one 21)], ([], [], []), ([], []), [(.inr (some (.inl (ck_one 0))), 249, ([], [], [])), (.inr (some (.inl (ck_one 1))), 249, ([], [], []))])
set_option maxRecDepth 100000 in
theorem pl_s587_s {X : Int → Int} {LX : Nat} : ck_Ok p2_OL X LX 28 pl_s587 := ck_ok_s (O := p2_OL) (X := X) (LX := LX) (E := [(10, [pl_s204])]) (mi := 28) (cuts := []) (f := 90) (S := pl_s587) (lx := none) (XF := []) ⟨pl_nmu, ck_E1 (ck_S1 pl_s204_s ck_S0) ck_E0⟩ ck_X0 ck_l0 (by decide +kernel)
set_option maxRecDepth 100000 in
/-- GlacierMail.waits -/
def pl_s588 : ck_Sum := ((2, 0, 0), 249, [.inr (.inr (.inl 1)), .inl (ck_one 21)], ([], [], [(3, 6, 6, (0, 299, [(10, 0)]))]), ([], []), [(.inr (some (.inl (ck_one 0))), 249, ([], [], [])), (.inr (some (.inl (ck_one 1))), 249, ([], [], []))])
set_option maxRecDepth 100000 in
theorem pl_s588_s {X : Int → Int} {LX : Nat} : ck_Ok p2_OL X LX 66 pl_s588 := ck_ok_s (O := p2_OL) (X := X) (LX := LX) (E := [(28, [pl_s587]), (10, [pl_s204, pl_s218]), (67, [pl_s219])]) (mi := 66) (cuts := []) (f := 134) (S := pl_s588) (lx := none) (XF := []) ⟨pl_nmu, ck_E1 (ck_S1 pl_s587_s ck_S0) (ck_E1 (ck_S1 pl_s204_s (ck_S1 pl_s218_s ck_S0)) (ck_E1 (ck_S1 pl_s219_s ck_S0) ck_E0))⟩ ck_X0 ck_l0 (by decide +kernel)
set_option maxRecDepth 100000 in
/-- GlacierMail$Rows.put -/
def pl_s589 : ck_Sum := ((0, 0, 0), 249, [.inr (.inr (.inl 10)), .inl (ck_one 21), .inl (ck_one 5), .inl ((-1), 299, [])], ([], [], []), ([(11, 152, 152)], []), [(.inr none, 249, ([], [], []))])
set_option maxRecDepth 100000 in
theorem pl_s589_s {X : Int → Int} {LX : Nat} : ck_Ok p2_OL X LX 45 pl_s589 := ck_ok_s (O := p2_OL) (X := X) (LX := LX) (E := []) (mi := 45) (cuts := []) (f := 116) (S := pl_s589) (lx := none) (XF := []) ⟨pl_nmu, ck_E0⟩ ck_X0 ck_l0 (by decide +kernel)
set_option maxRecDepth 100000 in
/-- GlacierMail$Rows.put -/
def pl_s590 : ck_Sum := ((0, 0, 0), 249, [.inr (.inr (.inl 10)), .inl (ck_one 21), .inl (ck_one 6), .inl (0, 299, [])], ([], [], []), ([(11, 153, 153)], []), [(.inr none, 249, ([], [], []))])
set_option maxRecDepth 100000 in
theorem pl_s590_s {X : Int → Int} {LX : Nat} : ck_Ok p2_OL X LX 45 pl_s590 := ck_ok_s (O := p2_OL) (X := X) (LX := LX) (E := []) (mi := 45) (cuts := []) (f := 116) (S := pl_s590) (lx := none) (XF := []) ⟨pl_nmu, ck_E0⟩ ck_X0 ck_l0 (by decide +kernel)
set_option maxRecDepth 100000 in
/-- GlacierMail$Rows.put -/
def pl_s591 : ck_Sum := ((0, 0, 0), 249, [.inr (.inr (.inl 14)), .inl (0, 23, []), .inl (ck_one 1), .inl (ck_one 21)], ([], [], []), (zl173, []), [(.inr none, 249, ([], [], []))])
set_option maxRecDepth 100000 in
theorem pl_s591_s {X : Int → Int} {LX : Nat} : ck_Ok p2_OL X LX 45 pl_s591 := ck_ok_s (O := p2_OL) (X := X) (LX := LX) (E := []) (mi := 45) (cuts := []) (f := 116) (S := pl_s591) (lx := none) (XF := []) ⟨pl_nmu, ck_E0⟩ ck_X0 ck_l0 (by decide +kernel)
set_option maxRecDepth 100000 in
/-- GlacierMail$Rows.put -/
def pl_s592 : ck_Sum := ((0, 0, 0), 249, [.inr (.inr (.inl 14)), .inl (ck_one (-1)), .inl (ck_one 1), .inl (ck_one 21)], ([], [], []), ([], []), [(.inr none, 249, ([], [], []))])
set_option maxRecDepth 100000 in
theorem pl_s592_s {X : Int → Int} {LX : Nat} : ck_Ok p2_OL X LX 45 pl_s592 := ck_ok_s (O := p2_OL) (X := X) (LX := LX) (E := []) (mi := 45) (cuts := []) (f := 76) (S := pl_s592) (lx := none) (XF := []) ⟨pl_nmu, ck_E0⟩ ck_X0 ck_l0 (by decide +kernel)
set_option maxRecDepth 100000 in
/-- GlacierMail$State.openLetter -/
def pl_s593 : ck_Sum := ((1, 0, 0), 249, [.inr (.inr (.inl 3)), .inl (ck_one 21), .inl ((-1), 299, [])], ([], [], [(3, 6, 6, (0, 299, [(10, 0)]))]), ([(11, 152, 153), (14, 3, 3), (15, 0, 71)], []), [(.inr none, 249, ([], [], [(14, 3, 3, (1, 24, []))]))])
set_option maxRecDepth 100000 in
theorem pl_s593_s {X : Int → Int} {LX : Nat} : ck_Ok p2_OL X LX 159 pl_s593 := ck_ok_s (O := p2_OL) (X := X) (LX := LX) (E := [(45, [pl_s589, pl_s590, pl_s376, pl_s591, pl_s378, pl_s379, pl_s592, pl_s381]), (102, [pl_s382])]) (mi := 159) (cuts := []) (f := 144) (S := pl_s593) (lx := none) (XF := []) ⟨pl_nmu, ck_E1 (ck_S1 pl_s589_s (ck_S1 pl_s590_s (ck_S1 pl_s376_s (ck_S1 pl_s591_s (ck_S1 pl_s378_s (ck_S1 pl_s379_s (ck_S1 pl_s592_s (ck_S1 pl_s381_s ck_S0)))))))) (ck_E1 (ck_S1 pl_s382_s ck_S0) ck_E0)⟩ ck_X0 ck_l0 (by decide +kernel)
set_option maxRecDepth 100000 in
/-- GlacierMail.open -/
def pl_s594 : ck_Sum := ((8, 2, 12), 249, [.inr (.inr (.inl 1)), .inl (ck_one 21)], ([], zl230, [(3, 6, 6, (0, 299, [(10, 0)]))]), ([(1, 15, 15), (11, 152, 153), (14, 3, 3), (15, 0, 71), (42, 1, 2), (44, 0, 7), (45, 3, 3), (46, 0, 55), (47, 3, 3), (48, 0, 23), (49, 3, 3), (50, 0, 23), (51, 3, 3), (52, 0, 167), (53, 3, 3), (54, 0, 35), (55, 3, 3), (56, 0, 71), (57, 0, 7), (58, 3, 3), (59, 0, 55), (60, 3, 3), (61, 0, 23), (62, 3, 3), (63, 0, 23), (64, 3, 3), (65, 0, 167), (66, 3, 3), (67, 0, 35), (68, 3, 3), (69, 0, 71), (70, 0, 7), (71, 3, 3), (72, 0, 55), (73, 3, 3), (74, 0, 23), (75, 3, 3), (76, 0, 23), (77, 3, 3), (78, 0, 167), (79, 3, 3), (80, 0, 35), (81, 3, 3), (82, 0, 71), (83, 0, 7), (84, 3, 3), (85, 0, 55), (86, 3, 3), (87, 0, 23), (88, 3, 3), (89, 0, 23), (90, 3, 3), (91, 0, 167), (92, 3, 3), (93, 0, 35), (94, 3, 3), (95, 0, 71), (96, 0, 7), (97, 3, 3), (98, 0, 55), (99, 3, 3), (100, 0, 23), (101, 3, 3), (102, 0, 23), (103, 3, 3), (104, 0, 167), (105, 3, 3), (106, 0, 35), (107, 3, 3), (108, 0, 71), (109, 0, 7), (110, 3, 3), (111, 0, 55), (112, 3, 3), (113, 0, 23), (114, 3, 3), (115, 0, 23), (116, 3, 3), (117, 0, 167), (118, 3, 3), (119, 0, 35), (120, 3, 3), (121, 0, 71), (122, 0, 7), (123, 3, 3), (124, 0, 55), (125, 3, 3), (126, 0, 23), (127, 3, 3), (128, 0, 23), (129, 3, 3), (130, 0, 167), (131, 3, 3), (132, 0, 35), (133, 3, 3), (134, 0, 71), (135, 0, 7), (136, 3, 3), (137, 0, 55), (138, 3, 3), (139, 0, 23), (140, 3, 3), (141, 0, 23), (142, 3, 3), (143, 0, 167), (144, 3, 3), (145, 0, 35), (146, 3, 3), (147, 0, 71), (148, 0, 7), (149, 3, 3), (150, 0, 55), (151, 3, 3), (152, 0, 23), (153, 3, 3), (154, 0, 23), (155, 3, 3), (156, 0, 167), (157, 3, 3), (158, 0, 35), (159, 3, 3), (160, 0, 71), (161, 0, 7), (162, 3, 3), (163, 0, 55), (164, 3, 3), (165, 0, 23), (166, 3, 3), (167, 0, 23), (168, 3, 3), (169, 0, 167), (170, 3, 3), (171, 0, 35), (172, 3, 3), (173, 0, 71), (174, 0, 7), (175, 3, 3), (176, 0, 55), (177, 3, 3), (178, 0, 23), (179, 3, 3), (180, 0, 23), (181, 3, 3), (182, 0, 167), (183, 3, 3), (184, 0, 35), (185, 3, 3), (186, 0, 71), (187, 0, 7), (188, 3, 3), (189, 0, 55), (190, 3, 3), (191, 0, 23), (192, 3, 3), (193, 0, 23), (194, 3, 3), (195, 0, 167), (196, 3, 3), (197, 0, 35), (198, 3, 3), (199, 0, 71), (200, 6, 6), (204, 0, 9), (205, 0, 14849), (206, 2, 8), (220, 3, 3), (221, 0, 47)], zl104), zl245)
set_option maxRecDepth 100000 in
theorem pl_s594_s {X : Int → Int} {LX : Nat} : ck_Ok p2_OL X LX 158 pl_s594 := ck_ok_s (O := p2_OL) (X := X) (LX := LX) (E := [(143, [pl_s586]), (24, [pl_s217]), (66, [pl_s588]), (154, [pl_s341]), (10, [pl_s204]), (159, [pl_s593])]) (mi := 158) (cuts := []) (f := 140) (S := pl_s594) (lx := none) (XF := []) ⟨pl_nmu, ck_E1 (ck_S1 pl_s586_s ck_S0) (ck_E1 (ck_S1 pl_s217_s ck_S0) (ck_E1 (ck_S1 pl_s588_s ck_S0) (ck_E1 (ck_S1 pl_s341_s ck_S0) (ck_E1 (ck_S1 pl_s204_s ck_S0) (ck_E1 (ck_S1 pl_s593_s ck_S0) ck_E0)))))⟩ ck_X0 ck_l0 (by decide +kernel)
set_option maxRecDepth 100000 in
/-- GlacierMail.need -/
def pl_s595 : ck_Sum := ((6, 1, 6), 249, [.inr (.inr (.inl 1)), .inl (ck_one 22), .inl (0, 24, [])], ([], [], []), ([], []), [(.inr none, 249, ([], [], [])), (.inl 3, 249, ([], [], []))])
set_option maxRecDepth 100000 in
theorem pl_s595_s {X : Int → Int} {LX : Nat} : ck_Ok p2_OL X LX 133 pl_s595 := ck_ok_s (O := p2_OL) (X := X) (LX := LX) (E := []) (mi := 133) (cuts := []) (f := 82) (S := pl_s595) (lx := none) (XF := []) ⟨pl_nmu, ck_E0⟩ ck_X0 ck_l0 (by decide +kernel)
set_option maxRecDepth 100000 in
/-- GlacierMail.needLetter -/
def pl_s596 : ck_Sum := ((7, 1, 6), 249, [.inr (.inr (.inl 1)), .inl (ck_one 22)], ([], [], []), ([], []), [(.inl 3, 249, ([], [], [])), (.inr none, 249, ([], [], []))])
set_option maxRecDepth 100000 in
theorem pl_s596_s {X : Int → Int} {LX : Nat} : ck_Ok p2_OL X LX 143 pl_s596 := ck_ok_s (O := p2_OL) (X := X) (LX := LX) (E := [(9, [pl_s200]), (133, [pl_s595])]) (mi := 143) (cuts := []) (f := 86) (S := pl_s596) (lx := none) (XF := []) ⟨pl_nmu, ck_E1 (ck_S1 pl_s200_s ck_S0) (ck_E1 (ck_S1 pl_s595_s ck_S0) ck_E0)⟩ ck_X0 ck_l0 (by decide +kernel)
set_option maxRecDepth 100000 in
/-- GlacierMail$State.isRock -/
def pl_s597 : ck_Sum := ((1, 0, 0), 249, [.inr (.inr (.inl 3)), .inl (ck_one 22)], ([], [], []), ([], []), [(.inr (some (.inl (ck_one 0))), 249, ([], [], [])), (.inr (some (.inl (ck_one 1))), 249, ([], [], []))])
set_option maxRecDepth 100000 in
theorem pl_s597_s {X : Int → Int} {LX : Nat} : ck_Ok p2_OL X LX 28 pl_s597 := ck_ok_s (O := p2_OL) (X := X) (LX := LX) (E := [(10, [pl_s204])]) (mi := 28) (cuts := []) (f := 90) (S := pl_s597) (lx := none) (XF := []) ⟨pl_nmu, ck_E1 (ck_S1 pl_s204_s ck_S0) ck_E0⟩ ck_X0 ck_l0 (by decide +kernel)
set_option maxRecDepth 100000 in
/-- GlacierMail.waits -/
def pl_s598 : ck_Sum := ((2, 0, 0), 249, [.inr (.inr (.inl 1)), .inl (ck_one 22)], ([], [], [(3, 6, 6, (0, 299, [(10, 0)]))]), ([], []), [(.inr (some (.inl (ck_one 0))), 249, ([], [], [])), (.inr (some (.inl (ck_one 1))), 249, ([], [], []))])
set_option maxRecDepth 100000 in
theorem pl_s598_s {X : Int → Int} {LX : Nat} : ck_Ok p2_OL X LX 66 pl_s598 := ck_ok_s (O := p2_OL) (X := X) (LX := LX) (E := [(28, [pl_s597]), (10, [pl_s204, pl_s218]), (67, [pl_s219])]) (mi := 66) (cuts := []) (f := 134) (S := pl_s598) (lx := none) (XF := []) ⟨pl_nmu, ck_E1 (ck_S1 pl_s597_s ck_S0) (ck_E1 (ck_S1 pl_s204_s (ck_S1 pl_s218_s ck_S0)) (ck_E1 (ck_S1 pl_s219_s ck_S0) ck_E0))⟩ ck_X0 ck_l0 (by decide +kernel)
set_option maxRecDepth 100000 in
/-- GlacierMail$Rows.put -/
def pl_s599 : ck_Sum := ((0, 0, 0), 249, [.inr (.inr (.inl 10)), .inl (ck_one 22), .inl (ck_one 5), .inl ((-1), 299, [])], ([], [], []), ([(11, 159, 159)], []), [(.inr none, 249, ([], [], []))])
set_option maxRecDepth 100000 in
theorem pl_s599_s {X : Int → Int} {LX : Nat} : ck_Ok p2_OL X LX 45 pl_s599 := ck_ok_s (O := p2_OL) (X := X) (LX := LX) (E := []) (mi := 45) (cuts := []) (f := 116) (S := pl_s599) (lx := none) (XF := []) ⟨pl_nmu, ck_E0⟩ ck_X0 ck_l0 (by decide +kernel)
set_option maxRecDepth 100000 in
/-- GlacierMail$Rows.put -/
def pl_s600 : ck_Sum := ((0, 0, 0), 249, [.inr (.inr (.inl 10)), .inl (ck_one 22), .inl (ck_one 6), .inl (0, 299, [])], ([], [], []), ([(11, 160, 160)], []), [(.inr none, 249, ([], [], []))])
set_option maxRecDepth 100000 in
theorem pl_s600_s {X : Int → Int} {LX : Nat} : ck_Ok p2_OL X LX 45 pl_s600 := ck_ok_s (O := p2_OL) (X := X) (LX := LX) (E := []) (mi := 45) (cuts := []) (f := 116) (S := pl_s600) (lx := none) (XF := []) ⟨pl_nmu, ck_E0⟩ ck_X0 ck_l0 (by decide +kernel)
set_option maxRecDepth 100000 in
/-- GlacierMail$Rows.put -/
def pl_s601 : ck_Sum := ((0, 0, 0), 249, [.inr (.inr (.inl 14)), .inl (0, 23, []), .inl (ck_one 1), .inl (ck_one 22)], ([], [], []), (zl173, []), [(.inr none, 249, ([], [], []))])
set_option maxRecDepth 100000 in
theorem pl_s601_s {X : Int → Int} {LX : Nat} : ck_Ok p2_OL X LX 45 pl_s601 := ck_ok_s (O := p2_OL) (X := X) (LX := LX) (E := []) (mi := 45) (cuts := []) (f := 116) (S := pl_s601) (lx := none) (XF := []) ⟨pl_nmu, ck_E0⟩ ck_X0 ck_l0 (by decide +kernel)
set_option maxRecDepth 100000 in
/-- GlacierMail$Rows.put -/
def pl_s602 : ck_Sum := ((0, 0, 0), 249, [.inr (.inr (.inl 14)), .inl (ck_one (-1)), .inl (ck_one 1), .inl (ck_one 22)], ([], [], []), ([], []), [(.inr none, 249, ([], [], []))])
set_option maxRecDepth 100000 in
theorem pl_s602_s {X : Int → Int} {LX : Nat} : ck_Ok p2_OL X LX 45 pl_s602 := ck_ok_s (O := p2_OL) (X := X) (LX := LX) (E := []) (mi := 45) (cuts := []) (f := 76) (S := pl_s602) (lx := none) (XF := []) ⟨pl_nmu, ck_E0⟩ ck_X0 ck_l0 (by decide +kernel)
set_option maxRecDepth 100000 in
/-- GlacierMail$State.openLetter -/
def pl_s603 : ck_Sum := ((1, 0, 0), 249, [.inr (.inr (.inl 3)), .inl (ck_one 22), .inl ((-1), 299, [])], ([], [], [(3, 6, 6, (0, 299, [(10, 0)]))]), ([(11, 159, 160), (14, 3, 3), (15, 0, 71)], []), [(.inr none, 249, ([], [], [(14, 3, 3, (1, 24, []))]))])
set_option maxRecDepth 100000 in
theorem pl_s603_s {X : Int → Int} {LX : Nat} : ck_Ok p2_OL X LX 159 pl_s603 := ck_ok_s (O := p2_OL) (X := X) (LX := LX) (E := [(45, [pl_s599, pl_s600, pl_s376, pl_s601, pl_s378, pl_s379, pl_s602, pl_s381]), (102, [pl_s382])]) (mi := 159) (cuts := []) (f := 144) (S := pl_s603) (lx := none) (XF := []) ⟨pl_nmu, ck_E1 (ck_S1 pl_s599_s (ck_S1 pl_s600_s (ck_S1 pl_s376_s (ck_S1 pl_s601_s (ck_S1 pl_s378_s (ck_S1 pl_s379_s (ck_S1 pl_s602_s (ck_S1 pl_s381_s ck_S0)))))))) (ck_E1 (ck_S1 pl_s382_s ck_S0) ck_E0)⟩ ck_X0 ck_l0 (by decide +kernel)
set_option maxRecDepth 100000 in
/-- GlacierMail.open -/
def pl_s604 : ck_Sum := ((8, 2, 12), 249, [.inr (.inr (.inl 1)), .inl (ck_one 22)], ([], zl230, [(3, 6, 6, (0, 299, [(10, 0)]))]), ([(1, 15, 15), (11, 159, 160), (14, 3, 3), (15, 0, 71), (42, 1, 2), (44, 0, 7), (45, 3, 3), (46, 0, 55), (47, 3, 3), (48, 0, 23), (49, 3, 3), (50, 0, 23), (51, 3, 3), (52, 0, 167), (53, 3, 3), (54, 0, 35), (55, 3, 3), (56, 0, 71), (57, 0, 7), (58, 3, 3), (59, 0, 55), (60, 3, 3), (61, 0, 23), (62, 3, 3), (63, 0, 23), (64, 3, 3), (65, 0, 167), (66, 3, 3), (67, 0, 35), (68, 3, 3), (69, 0, 71), (70, 0, 7), (71, 3, 3), (72, 0, 55), (73, 3, 3), (74, 0, 23), (75, 3, 3), (76, 0, 23), (77, 3, 3), (78, 0, 167), (79, 3, 3), (80, 0, 35), (81, 3, 3), (82, 0, 71), (83, 0, 7), (84, 3, 3), (85, 0, 55), (86, 3, 3), (87, 0, 23), (88, 3, 3), (89, 0, 23), (90, 3, 3), (91, 0, 167), (92, 3, 3), (93, 0, 35), (94, 3, 3), (95, 0, 71), (96, 0, 7), (97, 3, 3), (98, 0, 55), (99, 3, 3), (100, 0, 23), (101, 3, 3), (102, 0, 23), (103, 3, 3), (104, 0, 167), (105, 3, 3), (106, 0, 35), (107, 3, 3), (108, 0, 71), (109, 0, 7), (110, 3, 3), (111, 0, 55), (112, 3, 3), (113, 0, 23), (114, 3, 3), (115, 0, 23), (116, 3, 3), (117, 0, 167), (118, 3, 3), (119, 0, 35), (120, 3, 3), (121, 0, 71), (122, 0, 7), (123, 3, 3), (124, 0, 55), (125, 3, 3), (126, 0, 23), (127, 3, 3), (128, 0, 23), (129, 3, 3), (130, 0, 167), (131, 3, 3), (132, 0, 35), (133, 3, 3), (134, 0, 71), (135, 0, 7), (136, 3, 3), (137, 0, 55), (138, 3, 3), (139, 0, 23), (140, 3, 3), (141, 0, 23), (142, 3, 3), (143, 0, 167), (144, 3, 3), (145, 0, 35), (146, 3, 3), (147, 0, 71), (148, 0, 7), (149, 3, 3), (150, 0, 55), (151, 3, 3), (152, 0, 23), (153, 3, 3), (154, 0, 23), (155, 3, 3), (156, 0, 167), (157, 3, 3), (158, 0, 35), (159, 3, 3), (160, 0, 71), (161, 0, 7), (162, 3, 3), (163, 0, 55), (164, 3, 3), (165, 0, 23), (166, 3, 3), (167, 0, 23), (168, 3, 3), (169, 0, 167), (170, 3, 3), (171, 0, 35), (172, 3, 3), (173, 0, 71), (174, 0, 7), (175, 3, 3), (176, 0, 55), (177, 3, 3), (178, 0, 23), (179, 3, 3), (180, 0, 23), (181, 3, 3), (182, 0, 167), (183, 3, 3), (184, 0, 35), (185, 3, 3), (186, 0, 71), (187, 0, 7), (188, 3, 3), (189, 0, 55), (190, 3, 3), (191, 0, 23), (192, 3, 3), (193, 0, 23), (194, 3, 3), (195, 0, 167), (196, 3, 3), (197, 0, 35), (198, 3, 3), (199, 0, 71), (200, 6, 6), (204, 0, 9), (205, 0, 14849), (206, 2, 8), (220, 3, 3), (221, 0, 47)], zl104), zl245)
set_option maxRecDepth 100000 in
theorem pl_s604_s {X : Int → Int} {LX : Nat} : ck_Ok p2_OL X LX 158 pl_s604 := ck_ok_s (O := p2_OL) (X := X) (LX := LX) (E := [(143, [pl_s596]), (24, [pl_s217]), (66, [pl_s598]), (154, [pl_s341]), (10, [pl_s204]), (159, [pl_s603])]) (mi := 158) (cuts := []) (f := 140) (S := pl_s604) (lx := none) (XF := []) ⟨pl_nmu, ck_E1 (ck_S1 pl_s596_s ck_S0) (ck_E1 (ck_S1 pl_s217_s ck_S0) (ck_E1 (ck_S1 pl_s598_s ck_S0) (ck_E1 (ck_S1 pl_s341_s ck_S0) (ck_E1 (ck_S1 pl_s204_s ck_S0) (ck_E1 (ck_S1 pl_s603_s ck_S0) ck_E0)))))⟩ ck_X0 ck_l0 (by decide +kernel)
set_option maxRecDepth 100000 in
/-- GlacierMail.need -/
def pl_s605 : ck_Sum := ((6, 1, 6), 249, [.inr (.inr (.inl 1)), .inl (ck_one 23), .inl (0, 24, [])], ([], [], []), ([], []), [(.inr none, 249, ([], [], [])), (.inl 3, 249, ([], [], []))])
set_option maxRecDepth 100000 in
theorem pl_s605_s {X : Int → Int} {LX : Nat} : ck_Ok p2_OL X LX 133 pl_s605 := ck_ok_s (O := p2_OL) (X := X) (LX := LX) (E := []) (mi := 133) (cuts := []) (f := 82) (S := pl_s605) (lx := none) (XF := []) ⟨pl_nmu, ck_E0⟩ ck_X0 ck_l0 (by decide +kernel)
set_option maxRecDepth 100000 in
/-- GlacierMail.needLetter -/
def pl_s606 : ck_Sum := ((7, 1, 6), 249, [.inr (.inr (.inl 1)), .inl (ck_one 23)], ([], [], []), ([], []), [(.inl 3, 249, ([], [], [])), (.inr none, 249, ([], [], []))])
set_option maxRecDepth 100000 in
theorem pl_s606_s {X : Int → Int} {LX : Nat} : ck_Ok p2_OL X LX 143 pl_s606 := ck_ok_s (O := p2_OL) (X := X) (LX := LX) (E := [(9, [pl_s200]), (133, [pl_s605])]) (mi := 143) (cuts := []) (f := 86) (S := pl_s606) (lx := none) (XF := []) ⟨pl_nmu, ck_E1 (ck_S1 pl_s200_s ck_S0) (ck_E1 (ck_S1 pl_s605_s ck_S0) ck_E0)⟩ ck_X0 ck_l0 (by decide +kernel)
set_option maxRecDepth 100000 in
/-- GlacierMail$State.isRock -/
def pl_s607 : ck_Sum := ((1, 0, 0), 249, [.inr (.inr (.inl 3)), .inl (ck_one 23)], ([], [], []), ([], []), [(.inr (some (.inl (ck_one 0))), 249, ([], [], [])), (.inr (some (.inl (ck_one 1))), 249, ([], [], []))])
set_option maxRecDepth 100000 in
theorem pl_s607_s {X : Int → Int} {LX : Nat} : ck_Ok p2_OL X LX 28 pl_s607 := ck_ok_s (O := p2_OL) (X := X) (LX := LX) (E := [(10, [pl_s204])]) (mi := 28) (cuts := []) (f := 90) (S := pl_s607) (lx := none) (XF := []) ⟨pl_nmu, ck_E1 (ck_S1 pl_s204_s ck_S0) ck_E0⟩ ck_X0 ck_l0 (by decide +kernel)
set_option maxRecDepth 100000 in
/-- GlacierMail.waits -/
def pl_s608 : ck_Sum := ((2, 0, 0), 249, [.inr (.inr (.inl 1)), .inl (ck_one 23)], ([], [], [(3, 6, 6, (0, 299, [(10, 0)]))]), ([], []), [(.inr (some (.inl (ck_one 0))), 249, ([], [], [])), (.inr (some (.inl (ck_one 1))), 249, ([], [], []))])
set_option maxRecDepth 100000 in
theorem pl_s608_s {X : Int → Int} {LX : Nat} : ck_Ok p2_OL X LX 66 pl_s608 := ck_ok_s (O := p2_OL) (X := X) (LX := LX) (E := [(28, [pl_s607]), (10, [pl_s204, pl_s218]), (67, [pl_s219])]) (mi := 66) (cuts := []) (f := 134) (S := pl_s608) (lx := none) (XF := []) ⟨pl_nmu, ck_E1 (ck_S1 pl_s607_s ck_S0) (ck_E1 (ck_S1 pl_s204_s (ck_S1 pl_s218_s ck_S0)) (ck_E1 (ck_S1 pl_s219_s ck_S0) ck_E0))⟩ ck_X0 ck_l0 (by decide +kernel)
set_option maxRecDepth 100000 in
/-- GlacierMail$Rows.put -/
def pl_s609 : ck_Sum := ((0, 0, 0), 249, [.inr (.inr (.inl 10)), .inl (ck_one 23), .inl (ck_one 5), .inl ((-1), 299, [])], ([], [], []), ([(11, 166, 166)], []), [(.inr none, 249, ([], [], []))])
set_option maxRecDepth 100000 in
theorem pl_s609_s {X : Int → Int} {LX : Nat} : ck_Ok p2_OL X LX 45 pl_s609 := ck_ok_s (O := p2_OL) (X := X) (LX := LX) (E := []) (mi := 45) (cuts := []) (f := 116) (S := pl_s609) (lx := none) (XF := []) ⟨pl_nmu, ck_E0⟩ ck_X0 ck_l0 (by decide +kernel)
set_option maxRecDepth 100000 in
/-- GlacierMail$Rows.put -/
def pl_s610 : ck_Sum := ((0, 0, 0), 249, [.inr (.inr (.inl 10)), .inl (ck_one 23), .inl (ck_one 6), .inl (0, 299, [])], ([], [], []), ([(11, 167, 167)], []), [(.inr none, 249, ([], [], []))])
set_option maxRecDepth 100000 in
theorem pl_s610_s {X : Int → Int} {LX : Nat} : ck_Ok p2_OL X LX 45 pl_s610 := ck_ok_s (O := p2_OL) (X := X) (LX := LX) (E := []) (mi := 45) (cuts := []) (f := 116) (S := pl_s610) (lx := none) (XF := []) ⟨pl_nmu, ck_E0⟩ ck_X0 ck_l0 (by decide +kernel)
set_option maxRecDepth 100000 in
/-- GlacierMail$Rows.put -/
def pl_s611 : ck_Sum := ((0, 0, 0), 249, [.inr (.inr (.inl 14)), .inl (0, 23, []), .inl (ck_one 1), .inl (ck_one 23)], ([], [], []), (zl173, []), [(.inr none, 249, ([], [], []))])
set_option maxRecDepth 100000 in
theorem pl_s611_s {X : Int → Int} {LX : Nat} : ck_Ok p2_OL X LX 45 pl_s611 := ck_ok_s (O := p2_OL) (X := X) (LX := LX) (E := []) (mi := 45) (cuts := []) (f := 116) (S := pl_s611) (lx := none) (XF := []) ⟨pl_nmu, ck_E0⟩ ck_X0 ck_l0 (by decide +kernel)
set_option maxRecDepth 100000 in
/-- GlacierMail$Rows.put -/
def pl_s612 : ck_Sum := ((0, 0, 0), 249, [.inr (.inr (.inl 14)), .inl (ck_one (-1)), .inl (ck_one 1), .inl (ck_one 23)], ([], [], []), ([], []), [(.inr none, 249, ([], [], []))])
set_option maxRecDepth 100000 in
theorem pl_s612_s {X : Int → Int} {LX : Nat} : ck_Ok p2_OL X LX 45 pl_s612 := ck_ok_s (O := p2_OL) (X := X) (LX := LX) (E := []) (mi := 45) (cuts := []) (f := 76) (S := pl_s612) (lx := none) (XF := []) ⟨pl_nmu, ck_E0⟩ ck_X0 ck_l0 (by decide +kernel)
set_option maxRecDepth 100000 in
/-- GlacierMail$State.openLetter -/
def pl_s613 : ck_Sum := ((1, 0, 0), 249, [.inr (.inr (.inl 3)), .inl (ck_one 23), .inl ((-1), 299, [])], ([], [], [(3, 6, 6, (0, 299, [(10, 0)]))]), ([(11, 166, 167), (14, 3, 3), (15, 0, 71)], []), [(.inr none, 249, ([], [], [(14, 3, 3, (1, 24, []))]))])
set_option maxRecDepth 100000 in
theorem pl_s613_s {X : Int → Int} {LX : Nat} : ck_Ok p2_OL X LX 159 pl_s613 := ck_ok_s (O := p2_OL) (X := X) (LX := LX) (E := [(45, [pl_s609, pl_s610, pl_s376, pl_s611, pl_s378, pl_s379, pl_s612, pl_s381]), (102, [pl_s382])]) (mi := 159) (cuts := []) (f := 144) (S := pl_s613) (lx := none) (XF := []) ⟨pl_nmu, ck_E1 (ck_S1 pl_s609_s (ck_S1 pl_s610_s (ck_S1 pl_s376_s (ck_S1 pl_s611_s (ck_S1 pl_s378_s (ck_S1 pl_s379_s (ck_S1 pl_s612_s (ck_S1 pl_s381_s ck_S0)))))))) (ck_E1 (ck_S1 pl_s382_s ck_S0) ck_E0)⟩ ck_X0 ck_l0 (by decide +kernel)
set_option maxRecDepth 100000 in
/-- GlacierMail.open -/
def pl_s614 : ck_Sum := ((8, 2, 12), 249, [.inr (.inr (.inl 1)), .inl (ck_one 23)], ([], zl230, [(3, 6, 6, (0, 299, [(10, 0)]))]), ([(1, 15, 15), (11, 166, 167), (14, 3, 3), (15, 0, 71), (42, 1, 2), (44, 0, 7), (45, 3, 3), (46, 0, 55), (47, 3, 3), (48, 0, 23), (49, 3, 3), (50, 0, 23), (51, 3, 3), (52, 0, 167), (53, 3, 3), (54, 0, 35), (55, 3, 3), (56, 0, 71), (57, 0, 7), (58, 3, 3), (59, 0, 55), (60, 3, 3), (61, 0, 23), (62, 3, 3), (63, 0, 23), (64, 3, 3), (65, 0, 167), (66, 3, 3), (67, 0, 35), (68, 3, 3), (69, 0, 71), (70, 0, 7), (71, 3, 3), (72, 0, 55), (73, 3, 3), (74, 0, 23), (75, 3, 3), (76, 0, 23), (77, 3, 3), (78, 0, 167), (79, 3, 3), (80, 0, 35), (81, 3, 3), (82, 0, 71), (83, 0, 7), (84, 3, 3), (85, 0, 55), (86, 3, 3), (87, 0, 23), (88, 3, 3), (89, 0, 23), (90, 3, 3), (91, 0, 167), (92, 3, 3), (93, 0, 35), (94, 3, 3), (95, 0, 71), (96, 0, 7), (97, 3, 3), (98, 0, 55), (99, 3, 3), (100, 0, 23), (101, 3, 3), (102, 0, 23), (103, 3, 3), (104, 0, 167), (105, 3, 3), (106, 0, 35), (107, 3, 3), (108, 0, 71), (109, 0, 7), (110, 3, 3), (111, 0, 55), (112, 3, 3), (113, 0, 23), (114, 3, 3), (115, 0, 23), (116, 3, 3), (117, 0, 167), (118, 3, 3), (119, 0, 35), (120, 3, 3), (121, 0, 71), (122, 0, 7), (123, 3, 3), (124, 0, 55), (125, 3, 3), (126, 0, 23), (127, 3, 3), (128, 0, 23), (129, 3, 3), (130, 0, 167), (131, 3, 3), (132, 0, 35), (133, 3, 3), (134, 0, 71), (135, 0, 7), (136, 3, 3), (137, 0, 55), (138, 3, 3), (139, 0, 23), (140, 3, 3), (141, 0, 23), (142, 3, 3), (143, 0, 167), (144, 3, 3), (145, 0, 35), (146, 3, 3), (147, 0, 71), (148, 0, 7), (149, 3, 3), (150, 0, 55), (151, 3, 3), (152, 0, 23), (153, 3, 3), (154, 0, 23), (155, 3, 3), (156, 0, 167), (157, 3, 3), (158, 0, 35), (159, 3, 3), (160, 0, 71), (161, 0, 7), (162, 3, 3), (163, 0, 55), (164, 3, 3), (165, 0, 23), (166, 3, 3), (167, 0, 23), (168, 3, 3), (169, 0, 167), (170, 3, 3), (171, 0, 35), (172, 3, 3), (173, 0, 71), (174, 0, 7), (175, 3, 3), (176, 0, 55), (177, 3, 3), (178, 0, 23), (179, 3, 3), (180, 0, 23), (181, 3, 3), (182, 0, 167), (183, 3, 3), (184, 0, 35), (185, 3, 3), (186, 0, 71), (187, 0, 7), (188, 3, 3), (189, 0, 55), (190, 3, 3), (191, 0, 23), (192, 3, 3), (193, 0, 23), (194, 3, 3), (195, 0, 167), (196, 3, 3), (197, 0, 35), (198, 3, 3), (199, 0, 71), (200, 6, 6), (204, 0, 9), (205, 0, 14849), (206, 2, 8), (220, 3, 3), (221, 0, 47)], zl104), zl245)
set_option maxRecDepth 100000 in
theorem pl_s614_s {X : Int → Int} {LX : Nat} : ck_Ok p2_OL X LX 158 pl_s614 := ck_ok_s (O := p2_OL) (X := X) (LX := LX) (E := [(143, [pl_s606]), (24, [pl_s217]), (66, [pl_s608]), (154, [pl_s341]), (10, [pl_s204]), (159, [pl_s613])]) (mi := 158) (cuts := []) (f := 140) (S := pl_s614) (lx := none) (XF := []) ⟨pl_nmu, ck_E1 (ck_S1 pl_s606_s ck_S0) (ck_E1 (ck_S1 pl_s217_s ck_S0) (ck_E1 (ck_S1 pl_s608_s ck_S0) (ck_E1 (ck_S1 pl_s341_s ck_S0) (ck_E1 (ck_S1 pl_s204_s ck_S0) (ck_E1 (ck_S1 pl_s613_s ck_S0) ck_E0)))))⟩ ck_X0 ck_l0 (by decide +kernel)
set_option maxRecDepth 100000 in
/-- GlacierMail.years -/
def pl_s615 : ck_Sum := ((6, 1, 6), 249, [.inr (.inr (.inl 1)), .inl ((-2147483648), 0, [])], ([], [], []), ([], []), [(.inl 0, 249, ([], [], []))])
set_option maxRecDepth 100000 in
theorem pl_s615_s {X : Int → Int} {LX : Nat} : ck_Ok p2_OL X LX 161 pl_s615 := ck_ok_s (O := p2_OL) (X := X) (LX := LX) (E := []) (mi := 161) (cuts := []) (f := 78) (S := pl_s615) (lx := none) (XF := []) ⟨pl_nmu, ck_E0⟩ ck_X0 ck_l0 (by decide +kernel)
set_option maxRecDepth 100000 in
/-- GlacierMail.years -/
def pl_s616 : ck_Sum := ((6, 1, 6), 249, [.inr (.inr (.inl 1)), .inl (51, 2147483647, [])], ([], [], []), ([], []), [(.inl 0, 249, ([], [], []))])
set_option maxRecDepth 100000 in
theorem pl_s616_s {X : Int → Int} {LX : Nat} : ck_Ok p2_OL X LX 161 pl_s616 := ck_ok_s (O := p2_OL) (X := X) (LX := LX) (E := []) (mi := 161) (cuts := []) (f := 84) (S := pl_s616) (lx := none) (XF := []) ⟨pl_nmu, ck_E0⟩ ck_X0 ck_l0 (by decide +kernel)
set_option maxRecDepth 100000 in
/-- GlacierMail$Ice.setFacts -/
def pl_s617 : ck_Sum := ((1, 0, 0), 249, [.inr (.inr (.inl 200)), .inl ((-1), 98, []), .inl (10, 99, []), .inl (0, 299, []), .inl (ck_one 0)], ([], [], []), ([(204, 0, 9)], []), [(.inr none, 249, ([], [], [(204, 9, 9, (0, 1, [])), (204, 8, 8, (0, 1, [])), (204, 7, 7, ck_one 0), (204, 6, 6, ck_one 0), (204, 5, 5, ck_one 0), (204, 4, 4, ck_one 0), (204, 3, 3, (0, 9, [])), (204, 2, 2, (0, 299, [])), (204, 1, 1, (10, 99, [])), (204, 0, 0, ((-1), 98, []))]))])
set_option maxRecDepth 100000 in
theorem pl_s617_s {X : Int → Int} {LX : Nat} : ck_Ok p2_OL X LX 39 pl_s617 := ck_ok_s (O := p2_OL) (X := X) (LX := LX) (E := [(34, [pl_s150])]) (mi := 39) (cuts := []) (f := 208) (S := pl_s617) (lx := none) (XF := []) ⟨pl_nmu, ck_E1 (ck_S1 pl_s150_s ck_S0) ck_E0⟩ ck_X0 ck_l0 (by decide +kernel)
set_option maxRecDepth 100000 in
/-- GlacierMail$Law.letsOpen -/
def pl_s618 : ck_Sum := ((1, 0, 0), 249, [.inr (.inr (.inl 246)), .inr (.inr (.inl 204))], ([], [], []), ([], []), [(.inr (some (.inl (ck_one 0))), 249, ([], [], [])), (.inr (some (.inl (ck_one 1))), 249, ([], [], []))])
set_option maxRecDepth 100000 in
theorem pl_s618_e : ck_ok p2_OL none [] [(9, [pl_s182]), (10, [pl_s183]), (41, [lh_S])] 165 [(2, [some (.inr (.inr (.inl 246))), some (.inr (.inr (.inl 204))), some (.inl (0, 12, [])), none], ([], [], []), 100, .inl 2, true)] 226 pl_s618 = true := by decide +kernel
theorem pl_s618_s {X : Int → Int} {LX : Nat} : ck_Ok p2_OL X LX 165 pl_s618 := ck_ok_s ⟨pl_nmu, ck_E1 (ck_S1 pl_s182_s ck_S0) (ck_E1 (ck_S1 pl_s183_s ck_S0) (ck_E1 (ck_S1 lh_S_s ck_S0) ck_E0))⟩ ck_X0 ck_l0 pl_s618_e
set_option maxRecDepth 100000 in
/-- GlacierMail$Ice.mayOpen -/
def pl_s619 : ck_Sum := ((2, 0, 0), 249, [.inr (.inr (.inl 200)), .inl (0, 7, []), .inl ((-1), 98, []), .inl ((-299), 300, []), .inl ((-2147483648), 299, [])], ([], [(3, 8, 246)], [(3, 6, 6, (0, 299, [(10, 0)]))]), ([(204, 0, 9)], []), [(.inr (some (.inl (ck_one 0))), 249, ([], [], zl246)), (.inr (some (.inl (ck_one 1))), 249, ([], [], zl246))])
set_option maxRecDepth 100000 in
theorem pl_s619_s {X : Int → Int} {LX : Nat} : ck_Ok p2_OL X LX 164 pl_s619 := ck_ok_s (O := p2_OL) (X := X) (LX := LX) (E := [(39, [pl_s617]), (165, [pl_s618])]) (mi := 164) (cuts := []) (f := 142) (S := pl_s619) (lx := none) (XF := []) ⟨pl_nmu, ck_E1 (ck_S1 pl_s617_s ck_S0) (ck_E1 (ck_S1 pl_s618_s ck_S0) ck_E0)⟩ ck_X0 ck_l0 (by decide +kernel)
set_option maxRecDepth 100000 in
/-- GlacierMail.openerOf -/
def pl_s620 : ck_Sum := ((3, 0, 0), 249, [.inr (.inr (.inl 1)), .inl (0, 23, [])], ([], [(3, 8, 246)], [(3, 6, 6, (0, 299, [(10, 0)]))]), ([(204, 0, 9)], []), [(.inr (some (.inl ((-1), 299, []))), 249, ([], [], [])), (.inr (some (.inl (0, 7, []))), 249, ([], [], zl246))])
set_option maxRecDepth 100000 in
theorem pl_s620_e : ck_ok p2_OL none [] [(10, [pl_s204, pl_s224, pl_s218]), (9, [pl_s189]), (164, [pl_s619])] 163 [(69, [some (.inr (.inr (.inl 1))), some (.inl (0, 23, [])), some (.inl ((-1), 299, [])), some (.inl ((-1), 299, [])), some (.inl ((-299), 300, [])), some (.inl (0, 9, []))], ([], [(3, 8, 246)], [(3, 6, 6, (0, 299, [(10, 0)]))]), 100, .inl 5, true)] 234 pl_s620 = true := by decide +kernel
theorem pl_s620_s {X : Int → Int} {LX : Nat} : ck_Ok p2_OL X LX 163 pl_s620 := ck_ok_s ⟨pl_nmu, ck_E1 (ck_S1 pl_s204_s (ck_S1 pl_s224_s (ck_S1 pl_s218_s ck_S0))) (ck_E1 (ck_S1 pl_s189_s ck_S0) (ck_E1 (ck_S1 pl_s619_s ck_S0) ck_E0))⟩ ck_X0 ck_l0 pl_s620_e
set_option maxRecDepth 100000 in
/-- GlacierMail$Rows.put -/
def pl_s621 : ck_Sum := ((0, 0, 0), 249, [.inr (.inr (.inl 10)), .inl (0, 23, []), .inl (ck_one 5), .inl (0, 299, [])], ([], [], []), (zl137, []), [(.inr none, 249, ([], [], []))])
set_option maxRecDepth 100000 in
theorem pl_s621_s {X : Int → Int} {LX : Nat} : ck_Ok p2_OL X LX 45 pl_s621 := ck_ok_s (O := p2_OL) (X := X) (LX := LX) (E := []) (mi := 45) (cuts := []) (f := 116) (S := pl_s621) (lx := none) (XF := []) ⟨pl_nmu, ck_E0⟩ ck_X0 ck_l0 (by decide +kernel)
set_option maxRecDepth 100000 in
/-- GlacierMail$Rows.put -/
def pl_s622 : ck_Sum := ((0, 0, 0), 249, [.inr (.inr (.inl 10)), .inl (0, 23, []), .inl (ck_one 6), .inl (0, 299, [])], ([], [], []), (zl138, []), [(.inr none, 249, ([], [], []))])
set_option maxRecDepth 100000 in
theorem pl_s622_s {X : Int → Int} {LX : Nat} : ck_Ok p2_OL X LX 45 pl_s622 := ck_ok_s (O := p2_OL) (X := X) (LX := LX) (E := []) (mi := 45) (cuts := []) (f := 116) (S := pl_s622) (lx := none) (XF := []) ⟨pl_nmu, ck_E0⟩ ck_X0 ck_l0 (by decide +kernel)
set_option maxRecDepth 100000 in
/-- GlacierMail$Rows.put -/
def pl_s623 : ck_Sum := ((0, 0, 0), 249, [.inr (.inr (.inl 14)), .inl (0, 23, []), .inl (ck_one 1), .inl (0, 23, [])], ([], [], []), (zl173, []), [(.inr none, 249, ([], [], []))])
set_option maxRecDepth 100000 in
theorem pl_s623_s {X : Int → Int} {LX : Nat} : ck_Ok p2_OL X LX 45 pl_s623 := ck_ok_s (O := p2_OL) (X := X) (LX := LX) (E := []) (mi := 45) (cuts := []) (f := 116) (S := pl_s623) (lx := none) (XF := []) ⟨pl_nmu, ck_E0⟩ ck_X0 ck_l0 (by decide +kernel)
set_option maxRecDepth 100000 in
/-- GlacierMail$Rows.put -/
def pl_s624 : ck_Sum := ((0, 0, 0), 249, [.inr (.inr (.inl 14)), .inl (0, 23, []), .inl (ck_one 2), .inl (0, 299, [])], ([], [], []), (zl174, []), [(.inr none, 249, ([], [], []))])
set_option maxRecDepth 100000 in
theorem pl_s624_s {X : Int → Int} {LX : Nat} : ck_Ok p2_OL X LX 45 pl_s624 := ck_ok_s (O := p2_OL) (X := X) (LX := LX) (E := []) (mi := 45) (cuts := []) (f := 116) (S := pl_s624) (lx := none) (XF := []) ⟨pl_nmu, ck_E0⟩ ck_X0 ck_l0 (by decide +kernel)
set_option maxRecDepth 100000 in
/-- GlacierMail$Rows.put -/
def pl_s625 : ck_Sum := ((0, 0, 0), 249, [.inr (.inr (.inl 14)), .inl (ck_one (-1)), .inl (ck_one 1), .inl (0, 23, [])], ([], [], []), ([], []), [(.inr none, 249, ([], [], []))])
set_option maxRecDepth 100000 in
theorem pl_s625_s {X : Int → Int} {LX : Nat} : ck_Ok p2_OL X LX 45 pl_s625 := ck_ok_s (O := p2_OL) (X := X) (LX := LX) (E := []) (mi := 45) (cuts := []) (f := 76) (S := pl_s625) (lx := none) (XF := []) ⟨pl_nmu, ck_E0⟩ ck_X0 ck_l0 (by decide +kernel)
set_option maxRecDepth 100000 in
/-- GlacierMail$Rows.put -/
def pl_s626 : ck_Sum := ((0, 0, 0), 249, [.inr (.inr (.inl 14)), .inl (ck_one (-1)), .inl (ck_one 2), .inl (0, 299, [])], ([], [], []), ([], []), [(.inr none, 249, ([], [], []))])
set_option maxRecDepth 100000 in
theorem pl_s626_s {X : Int → Int} {LX : Nat} : ck_Ok p2_OL X LX 45 pl_s626 := ck_ok_s (O := p2_OL) (X := X) (LX := LX) (E := []) (mi := 45) (cuts := []) (f := 76) (S := pl_s626) (lx := none) (XF := []) ⟨pl_nmu, ck_E0⟩ ck_X0 ck_l0 (by decide +kernel)
set_option maxRecDepth 100000 in
/-- GlacierMail$State.openLetter -/
def pl_s627 : ck_Sum := ((1, 0, 0), 249, [.inr (.inr (.inl 3)), .inl (0, 23, []), .inl (0, 299, [])], ([], [], [(3, 6, 6, (0, 299, [(10, 0)]))]), (zl178, []), [(.inr none, 249, ([], [], [(14, 3, 3, (1, 24, []))]))])
set_option maxRecDepth 100000 in
theorem pl_s627_s {X : Int → Int} {LX : Nat} : ck_Ok p2_OL X LX 159 pl_s627 := ck_ok_s (O := p2_OL) (X := X) (LX := LX) (E := [(45, [pl_s621, pl_s622, pl_s376, pl_s623, pl_s624, pl_s379, pl_s625, pl_s626]), (102, [pl_s382])]) (mi := 159) (cuts := []) (f := 144) (S := pl_s627) (lx := none) (XF := []) ⟨pl_nmu, ck_E1 (ck_S1 pl_s621_s (ck_S1 pl_s622_s (ck_S1 pl_s376_s (ck_S1 pl_s623_s (ck_S1 pl_s624_s (ck_S1 pl_s379_s (ck_S1 pl_s625_s (ck_S1 pl_s626_s ck_S0)))))))) (ck_E1 (ck_S1 pl_s382_s ck_S0) ck_E0)⟩ ck_X0 ck_l0 (by decide +kernel)
set_option maxRecDepth 100000 in
/-- GlacierMail$Rows.put -/
def pl_s628 : ck_Sum := ((0, 0, 0), 249, [.inr (.inr (.inl 10)), .inl (0, 23, []), .inl (ck_one 5), .inl (0, 7, [])], ([], [], []), (zl137, []), [(.inr none, 249, ([], [], []))])
set_option maxRecDepth 100000 in
theorem pl_s628_s {X : Int → Int} {LX : Nat} : ck_Ok p2_OL X LX 45 pl_s628 := ck_ok_s (O := p2_OL) (X := X) (LX := LX) (E := []) (mi := 45) (cuts := []) (f := 116) (S := pl_s628) (lx := none) (XF := []) ⟨pl_nmu, ck_E0⟩ ck_X0 ck_l0 (by decide +kernel)
set_option maxRecDepth 100000 in
/-- GlacierMail$Rows.put -/
def pl_s629 : ck_Sum := ((0, 0, 0), 249, [.inr (.inr (.inl 14)), .inl (0, 23, []), .inl (ck_one 2), .inl (0, 7, [])], ([], [], []), (zl174, []), [(.inr none, 249, ([], [], []))])
set_option maxRecDepth 100000 in
theorem pl_s629_s {X : Int → Int} {LX : Nat} : ck_Ok p2_OL X LX 45 pl_s629 := ck_ok_s (O := p2_OL) (X := X) (LX := LX) (E := []) (mi := 45) (cuts := []) (f := 116) (S := pl_s629) (lx := none) (XF := []) ⟨pl_nmu, ck_E0⟩ ck_X0 ck_l0 (by decide +kernel)
set_option maxRecDepth 100000 in
/-- GlacierMail$Rows.put -/
def pl_s630 : ck_Sum := ((0, 0, 0), 249, [.inr (.inr (.inl 14)), .inl (ck_one (-1)), .inl (ck_one 2), .inl (0, 7, [])], ([], [], []), ([], []), [(.inr none, 249, ([], [], []))])
set_option maxRecDepth 100000 in
theorem pl_s630_s {X : Int → Int} {LX : Nat} : ck_Ok p2_OL X LX 45 pl_s630 := ck_ok_s (O := p2_OL) (X := X) (LX := LX) (E := []) (mi := 45) (cuts := []) (f := 76) (S := pl_s630) (lx := none) (XF := []) ⟨pl_nmu, ck_E0⟩ ck_X0 ck_l0 (by decide +kernel)
end
/-! 78r86a07.sl -/
section
/-! EVERY CALL OF THE CLASS ENDS, under a law (laid by wip/am/p2l.py). -/
set_option maxRecDepth 100000 in
/-- GlacierMail$State.openLetter -/
def pl_s631 : ck_Sum := ((1, 0, 0), 249, [.inr (.inr (.inl 3)), .inl (0, 23, []), .inl (0, 7, [])], ([], [], [(3, 6, 6, (0, 299, [(10, 0)]))]), (zl178, []), [(.inr none, 249, ([], [], [(14, 3, 3, (1, 24, []))]))])
set_option maxRecDepth 100000 in
theorem pl_s631_s {X : Int → Int} {LX : Nat} : ck_Ok p2_OL X LX 159 pl_s631 := ck_ok_s (O := p2_OL) (X := X) (LX := LX) (E := [(45, [pl_s628, pl_s622, pl_s376, pl_s623, pl_s629, pl_s379, pl_s625, pl_s630]), (102, [pl_s382])]) (mi := 159) (cuts := []) (f := 144) (S := pl_s631) (lx := none) (XF := []) ⟨pl_nmu, ck_E1 (ck_S1 pl_s628_s (ck_S1 pl_s622_s (ck_S1 pl_s376_s (ck_S1 pl_s623_s (ck_S1 pl_s629_s (ck_S1 pl_s379_s (ck_S1 pl_s625_s (ck_S1 pl_s630_s ck_S0)))))))) (ck_E1 (ck_S1 pl_s382_s ck_S0) ck_E0)⟩ ck_X0 ck_l0 (by decide +kernel)
set_option maxRecDepth 100000 in
/-- GlacierMail.oneYearMore -/
def pl_s632 : ck_Sum := ((4, 0, 0), 249, [.inr (.inr (.inl 1))], ([], [(3, 8, 246)], [(3, 6, 6, (0, 298, [(10, 0)]))]), ([(3, 6, 6), (11, 5, 6), (11, 12, 13), (11, 19, 20), (11, 26, 27), (11, 33, 34), (11, 40, 41), (11, 47, 48), (11, 54, 55), (11, 61, 62), (11, 68, 69), (11, 75, 76), (11, 82, 83), (11, 89, 90), (11, 96, 97), (11, 103, 104), (11, 110, 111), (11, 117, 118), (11, 124, 125), (11, 131, 132), (11, 138, 139), (11, 145, 146), (11, 152, 153), (11, 159, 160), (11, 166, 167), (14, 3, 3), (15, 0, 71), (204, 0, 9)], []), [(.inr (some (.inl ((-2147483648), 2147483647, []))), 249, ([], [], [(3, 6, 6, (1, 299, [(10, 1)]))]))])
set_option maxRecDepth 100000 in
theorem pl_s632_e : ck_ok p2_OL none [] [(9, [pl_s200]), (66, [pl_s220]), (163, [pl_s620]), (159, [pl_s627, pl_s631])] 162 [(17, [some (.inr (.inr (.inl 1))), some (.inl ((-2147483648), 2147483647, [])), some (.inl (0, 24, [])), none], ([], [(3, 8, 246)], [(3, 6, 6, (1, 299, [(10, 1)]))]), 100, .inl 2, true)] 194 pl_s632 = true := by decide +kernel
theorem pl_s632_s {X : Int → Int} {LX : Nat} : ck_Ok p2_OL X LX 162 pl_s632 := ck_ok_s ⟨pl_nmu, ck_E1 (ck_S1 pl_s200_s ck_S0) (ck_E1 (ck_S1 pl_s220_s ck_S0) (ck_E1 (ck_S1 pl_s620_s ck_S0) (ck_E1 (ck_S1 pl_s627_s (ck_S1 pl_s631_s ck_S0)) ck_E0)))⟩ ck_X0 ck_l0 pl_s632_e
set_option maxRecDepth 100000 in
/-- GlacierMail.years, any number -/
def pl_yy : ck_Sum := ((6, 1, 6), 249, [.inr (.inr (.inl 1)), .inl (1, 50, [])], ([], zl230, [(3, 6, 6, (0, 299, [(10, 0)]))]), ([(1, 15, 15), (3, 6, 6), (11, 5, 6), (11, 12, 13), (11, 19, 20), (11, 26, 27), (11, 33, 34), (11, 40, 41), (11, 47, 48), (11, 54, 55), (11, 61, 62), (11, 68, 69), (11, 75, 76), (11, 82, 83), (11, 89, 90), (11, 96, 97), (11, 103, 104), (11, 110, 111), (11, 117, 118), (11, 124, 125), (11, 131, 132), (11, 138, 139), (11, 145, 146), (11, 152, 153), (11, 159, 160), (11, 166, 167), (14, 3, 3), (15, 0, 71), (42, 1, 2), (44, 0, 7), (45, 3, 3), (46, 0, 55), (47, 3, 3), (48, 0, 23), (49, 3, 3), (50, 0, 23), (51, 3, 3), (52, 0, 167), (53, 3, 3), (54, 0, 35), (55, 3, 3), (56, 0, 71), (57, 0, 7), (58, 3, 3), (59, 0, 55), (60, 3, 3), (61, 0, 23), (62, 3, 3), (63, 0, 23), (64, 3, 3), (65, 0, 167), (66, 3, 3), (67, 0, 35), (68, 3, 3), (69, 0, 71), (70, 0, 7), (71, 3, 3), (72, 0, 55), (73, 3, 3), (74, 0, 23), (75, 3, 3), (76, 0, 23), (77, 3, 3), (78, 0, 167), (79, 3, 3), (80, 0, 35), (81, 3, 3), (82, 0, 71), (83, 0, 7), (84, 3, 3), (85, 0, 55), (86, 3, 3), (87, 0, 23), (88, 3, 3), (89, 0, 23), (90, 3, 3), (91, 0, 167), (92, 3, 3), (93, 0, 35), (94, 3, 3), (95, 0, 71), (96, 0, 7), (97, 3, 3), (98, 0, 55), (99, 3, 3), (100, 0, 23), (101, 3, 3), (102, 0, 23), (103, 3, 3), (104, 0, 167), (105, 3, 3), (106, 0, 35), (107, 3, 3), (108, 0, 71), (109, 0, 7), (110, 3, 3), (111, 0, 55), (112, 3, 3), (113, 0, 23), (114, 3, 3), (115, 0, 23), (116, 3, 3), (117, 0, 167), (118, 3, 3), (119, 0, 35), (120, 3, 3), (121, 0, 71), (122, 0, 7), (123, 3, 3), (124, 0, 55), (125, 3, 3), (126, 0, 23), (127, 3, 3), (128, 0, 23), (129, 3, 3), (130, 0, 167), (131, 3, 3), (132, 0, 35), (133, 3, 3), (134, 0, 71), (135, 0, 7), (136, 3, 3), (137, 0, 55), (138, 3, 3), (139, 0, 23), (140, 3, 3), (141, 0, 23), (142, 3, 3), (143, 0, 167), (144, 3, 3), (145, 0, 35), (146, 3, 3), (147, 0, 71), (148, 0, 7), (149, 3, 3), (150, 0, 55), (151, 3, 3), (152, 0, 23), (153, 3, 3), (154, 0, 23), (155, 3, 3), (156, 0, 167), (157, 3, 3), (158, 0, 35), (159, 3, 3), (160, 0, 71), (161, 0, 7), (162, 3, 3), (163, 0, 55), (164, 3, 3), (165, 0, 23), (166, 3, 3), (167, 0, 23), (168, 3, 3), (169, 0, 167), (170, 3, 3), (171, 0, 35), (172, 3, 3), (173, 0, 71), (174, 0, 7), (175, 3, 3), (176, 0, 55), (177, 3, 3), (178, 0, 23), (179, 3, 3), (180, 0, 23), (181, 3, 3), (182, 0, 167), (183, 3, 3), (184, 0, 35), (185, 3, 3), (186, 0, 71), (187, 0, 7), (188, 3, 3), (189, 0, 55), (190, 3, 3), (191, 0, 23), (192, 3, 3), (193, 0, 23), (194, 3, 3), (195, 0, 167), (196, 3, 3), (197, 0, 35), (198, 3, 3), (199, 0, 71), (200, 6, 6), (204, 0, 9), (205, 0, 14849), (206, 2, 8), (220, 3, 3), (221, 0, 47)], zl104), [(.inr (some (.inl ((-2147483648), 2147483647, []))), 249, ([], zl105, [])), (.inr (some (.inl ((-2147483648), 2147483647, []))), 249, ([], zl242, [])), (.inr (some (.inl ((-2147483648), 2147483647, []))), 249, ([], zl241, [])), (.inr (some (.inl ((-2147483648), 2147483647, []))), 249, ([], zl240, [])), (.inr (some (.inl ((-2147483648), 2147483647, []))), 249, ([], zl239, [])), (.inr (some (.inl ((-2147483648), 2147483647, []))), 249, ([], zl238, [])), (.inr (some (.inl ((-2147483648), 2147483647, []))), 249, ([], zl237, [])), (.inr (some (.inl ((-2147483648), 2147483647, []))), 249, ([], zl236, [])), (.inr (some (.inl ((-2147483648), 2147483647, []))), 249, ([], zl235, [])), (.inr (some (.inl ((-2147483648), 2147483647, []))), 249, ([], zl234, [])), (.inr (some (.inl ((-2147483648), 2147483647, []))), 249, ([], zl233, [])), (.inr (some (.inl ((-2147483648), 2147483647, []))), 249, ([], zl232, [])), (.inr (some (.inl ((-2147483648), 2147483647, []))), 249, ([], zl231, [])), (.inl 0, 249, ([], zl105, []))])
def pl_yy_E : List (Nat × List ck_Sum) := [(154, [pl_s341]), (24, [pl_s217]), (162, [pl_s632])]
def pl_yy_RF : List (Nat × Int × Nat) := [(3, 8, 246), (44, 8, 100044), (57, 8, 100057), (70, 8, 100070), (83, 8, 100083), (96, 8, 100096), (109, 8, 100109), (122, 8, 100122), (135, 8, 100135), (148, 8, 100148), (161, 8, 100161), (174, 8, 100174), (187, 8, 100187)]
set_option maxRecDepth 100000 in
def pl_yy_RS : List (Nat × List (Nat × Int × Nat)) := [(0, [(3, 8, 246), (44, 8, 100044), (57, 8, 100057), (70, 8, 100070), (83, 8, 100083), (96, 8, 100096), (109, 8, 100109), (122, 8, 100122), (135, 8, 100135), (148, 8, 100148), (161, 8, 100161), (174, 8, 100174), (187, 8, 100187)]), (2000000, [(3, 8, 246), (44, 8, 246), (57, 8, 100057), (70, 8, 100070), (83, 8, 100083), (96, 8, 100096), (109, 8, 100109), (122, 8, 100122), (135, 8, 100135), (148, 8, 100148), (161, 8, 100161), (174, 8, 100174), (187, 8, 100187)]), (2000001, [(3, 8, 246), (44, 8, 100044), (57, 8, 100057), (70, 8, 100070), (83, 8, 100083), (96, 8, 100096), (109, 8, 100109), (122, 8, 100122), (135, 8, 100135), (148, 8, 100148), (161, 8, 100161), (174, 8, 100174), (187, 8, 246)]), (2000002, [(3, 8, 246), (44, 8, 100044), (57, 8, 100057), (70, 8, 100070), (83, 8, 100083), (96, 8, 100096), (109, 8, 100109), (122, 8, 100122), (135, 8, 100135), (148, 8, 100148), (161, 8, 100161), (174, 8, 246), (187, 8, 100187)]), (2000003, [(3, 8, 246), (44, 8, 100044), (57, 8, 100057), (70, 8, 100070), (83, 8, 100083), (96, 8, 100096), (109, 8, 100109), (122, 8, 100122), (135, 8, 100135), (148, 8, 100148), (161, 8, 246), (174, 8, 100174), (187, 8, 100187)]), (2000004, [(3, 8, 246), (44, 8, 100044), (57, 8, 100057), (70, 8, 100070), (83, 8, 100083), (96, 8, 100096), (109, 8, 100109), (122, 8, 100122), (135, 8, 100135), (148, 8, 246), (161, 8, 100161), (174, 8, 100174), (187, 8, 100187)]), (2000005, [(3, 8, 246), (44, 8, 100044), (57, 8, 100057), (70, 8, 100070), (83, 8, 100083), (96, 8, 100096), (109, 8, 100109), (122, 8, 100122), (135, 8, 246), (148, 8, 100148), (161, 8, 100161), (174, 8, 100174), (187, 8, 100187)]), (2000006, [(3, 8, 246), (44, 8, 100044), (57, 8, 100057), (70, 8, 100070), (83, 8, 100083), (96, 8, 100096), (109, 8, 100109), (122, 8, 246), (135, 8, 100135), (148, 8, 100148), (161, 8, 100161), (174, 8, 100174), (187, 8, 100187)]), (2000007, [(3, 8, 246), (44, 8, 100044), (57, 8, 100057), (70, 8, 100070), (83, 8, 100083), (96, 8, 100096), (109, 8, 246), (122, 8, 100122), (135, 8, 100135), (148, 8, 100148), (161, 8, 100161), (174, 8, 100174), (187, 8, 100187)]), (2000008, [(3, 8, 246), (44, 8, 100044), (57, 8, 100057), (70, 8, 100070), (83, 8, 100083), (96, 8, 246), (109, 8, 100109), (122, 8, 100122), (135, 8, 100135), (148, 8, 100148), (161, 8, 100161), (174, 8, 100174), (187, 8, 100187)]), (2000009, [(3, 8, 246), (44, 8, 100044), (57, 8, 100057), (70, 8, 100070), (83, 8, 246), (96, 8, 100096), (109, 8, 100109), (122, 8, 100122), (135, 8, 100135), (148, 8, 100148), (161, 8, 100161), (174, 8, 100174), (187, 8, 100187)]), (2000010, [(3, 8, 246), (44, 8, 100044), (57, 8, 100057), (70, 8, 246), (83, 8, 100083), (96, 8, 100096), (109, 8, 100109), (122, 8, 100122), (135, 8, 100135), (148, 8, 100148), (161, 8, 100161), (174, 8, 100174), (187, 8, 100187)]), (2000011, [(3, 8, 246), (44, 8, 100044), (57, 8, 246), (70, 8, 100070), (83, 8, 100083), (96, 8, 100096), (109, 8, 100109), (122, 8, 100122), (135, 8, 100135), (148, 8, 100148), (161, 8, 100161), (174, 8, 100174), (187, 8, 100187)])]
set_option maxRecDepth 100000 in
theorem pl_yy_a : (decide (pl_yy.2.2.1.length ≤ gm_ml 161) && ck_go p2_OL none [] pl_yy_E 161 pl_yy.1.1 pl_yy.2.1 pl_yy.2.2.2.2.1 pl_yy.2.2.2.2.2 [(11, yy_C0 pl_yy_RF)] 170 false [(11, yy_C0 pl_yy_RF, 1, 6, pl_yy.2.1)] pl_yy.1.2.1 pl_yy.1.2.2 0 (pl_yy.2.2.1.map some ++ List.replicate (gm_ml 161 - pl_yy.2.2.1.length) none) [] pl_yy.2.1 pl_yy.2.2.2.1) = true := by decide +kernel
set_option maxRecDepth 100000 in
theorem pl_yy_b : ck_go p2_OL none [] pl_yy_E 161 pl_yy.1.1 pl_yy.2.1 pl_yy.2.2.2.2.1 pl_yy.2.2.2.2.2 [] 170 true [] 1 6 26 (yy_A (1, 50, []) none none) [] pl_yy.2.1 (yy_F pl_yy_RF (0, 299, [(10, 0)])) = true := by decide +kernel
set_option maxRecDepth 100000 in
theorem pl_yy_cu : ck_cu (pl_yy_RS.map fun p => (56, yy_C1 p.2 p.1)) = true := by decide +kernel
set_option maxRecDepth 100000 in
theorem pl_yy_c : ck_go p2_OL none [] pl_yy_E 161 pl_yy.1.1 pl_yy.2.1 pl_yy.2.2.2.2.1 pl_yy.2.2.2.2.2 (pl_yy_RS.map fun p => (56, yy_C1 p.2 p.1)) 170 true (pl_yy_RS.map fun p => (56, yy_C1 p.2 p.1, 0, 0, pl_yy.2.1)) 1 6 37 (yy_A (1, 50, [(302, 0)]) none none) [] pl_yy.2.1 (yy_F pl_yy_RF (0, 298, [(10, 0), (303, 0)])) = true := by decide +kernel
set_option maxRecDepth 100000 in
theorem pl_yy_d : (pl_yy_RS.all fun p => ck_go p2_OL none [] pl_yy_E 161 pl_yy.1.1 pl_yy.2.1 pl_yy.2.2.2.2.1 pl_yy.2.2.2.2.2 [(56, yy_C2 p.2)] 170 true [(56, yy_C2 p.2, 0, 0, pl_yy.2.1)] 0 0 61 (yy_A (1, 50, [(302, 0)]) (some (.inl ck_top)) (some (.inl (0, 49, [(304, 0)])))) [] pl_yy.2.1 (yy_F p.2 (0, 298, [(303, 0)])) && ck_go p2_OL none [] pl_yy_E 161 pl_yy.1.1 pl_yy.2.1 pl_yy.2.2.2.2.1 pl_yy.2.2.2.2.2 [] 170 true [] 0 0 74 (yy_A (1, 50, []) (some (.inl ck_top)) none) [] pl_yy.2.1 ([], p.2, [])) = true := by decide +kernel
theorem pl_yy_s {X : Int → Int} {LX : Nat} : ck_Ok p2_OL X LX 161 pl_yy := yy_s ⟨pl_nmu, ck_E1 (ck_S1 pl_s341_s ck_S0) (ck_E1 (ck_S1 pl_s217_s ck_S0) (ck_E1 (ck_S1 pl_s632_s ck_S0) ck_E0))⟩ (by decide +kernel) (by decide +kernel) (by decide +kernel) (by decide) (by decide) (by decide) pl_yy_a pl_yy_b pl_yy_cu pl_yy_c pl_yy_d
end
