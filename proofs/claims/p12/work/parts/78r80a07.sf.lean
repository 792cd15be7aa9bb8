/-! 78r80a07.sf -/
section
/-! EVERY CALL ENDS, whatever was done before (laid by wip/am/p2k.py). -/
set_option maxRecDepth 100000 in
/-- GlacierMail.open -/
noncomputable def p2_s631 : ck_Sum := ((8, 2, 12), 245, [.inr (.inr (.inl 1)), .inl (ck_one 4)], ([], zl102, [(3, 6, 6, (0, 299, [(10, 0)]))]), ([(1, 15, 15), (11, 33, 34), (14, 3, 3), (15, 0, 71), (42, 1, 2), (44, 0, 7), (45, 3, 3), (46, 0, 55), (47, 3, 3), (48, 0, 23), (49, 3, 3), (50, 0, 23), (51, 3, 3), (52, 0, 167), (53, 3, 3), (54, 0, 35), (55, 3, 3), (56, 0, 71), (57, 0, 7), (58, 3, 3), (59, 0, 55), (60, 3, 3), (61, 0, 23), (62, 3, 3), (63, 0, 23), (64, 3, 3), (65, 0, 167), (66, 3, 3), (67, 0, 35), (68, 3, 3), (69, 0, 71), (70, 0, 7), (71, 3, 3), (72, 0, 55), (73, 3, 3), (74, 0, 23), (75, 3, 3), (76, 0, 23), (77, 3, 3), (78, 0, 167), (79, 3, 3), (80, 0, 35), (81, 3, 3), (82, 0, 71), (83, 0, 7), (84, 3, 3), (85, 0, 55), (86, 3, 3), (87, 0, 23), (88, 3, 3), (89, 0, 23), (90, 3, 3), (91, 0, 167), (92, 3, 3), (93, 0, 35), (94, 3, 3), (95, 0, 71), (96, 0, 7), (97, 3, 3), (98, 0, 55), (99, 3, 3), (100, 0, 23), (101, 3, 3), (102, 0, 23), (103, 3, 3), (104, 0, 167), (105, 3, 3), (106, 0, 35), (107, 3, 3), (108, 0, 71), (109, 0, 7), (110, 3, 3), (111, 0, 55), (112, 3, 3), (113, 0, 23), (114, 3, 3), (115, 0, 23), (116, 3, 3), (117, 0, 167), (118, 3, 3), (119, 0, 35), (120, 3, 3), (121, 0, 71), (122, 0, 7), (123, 3, 3), (124, 0, 55), (125, 3, 3), (126, 0, 23), (127, 3, 3), (128, 0, 23), (129, 3, 3), (130, 0, 167), (131, 3, 3), (132, 0, 35), (133, 3, 3), (134, 0, 71), (135, 0, 7), (136, 3, 3), (137, 0, 55), (138, 3, 3), (139, 0, 23), (140, 3, 3), (141, 0, 23), (142, 3, 3), (143, 0, 167), (144, 3, 3), (145, 0, 35), (146, 3, 3), (147, 0, 71), (148, 0, 7), (149, 3, 3), (150, 0, 55), (151, 3, 3), (152, 0, 23), (153, 3, 3), (154, 0, 23), (155, 3, 3), (156, 0, 167), (157, 3, 3), (158, 0, 35), (159, 3, 3), (160, 0, 71), (161, 0, 7), (162, 3, 3), (163, 0, 55), (164, 3, 3), (165, 0, 23), (166, 3, 3), (167, 0, 23), (168, 3, 3), (169, 0, 167), (170, 3, 3), (171, 0, 35), (172, 3, 3), (173, 0, 71), (174, 0, 7), (175, 3, 3), (176, 0, 55), (177, 3, 3), (178, 0, 23), (179, 3, 3), (180, 0, 23), (181, 3, 3), (182, 0, 167), (183, 3, 3), (184, 0, 35), (185, 3, 3), (186, 0, 71), (187, 0, 7), (188, 3, 3), (189, 0, 55), (190, 3, 3), (191, 0, 23), (192, 3, 3), (193, 0, 23), (194, 3, 3), (195, 0, 167), (196, 3, 3), (197, 0, 35), (198, 3, 3), (199, 0, 71), (206, 2, 8), (220, 3, 3), (221, 0, 47)], zl104), zl175)
set_option maxRecDepth 100000 in
theorem p2_s631_s {X : Int → Int} {LX : Nat} : ck_Ok p2_O X LX 158 p2_s631 := ck_okq (cuts := []) (f := 140) ⟨p2_nmu, ck_E1 (ck_S1 p2_s623_s ck_S0) (ck_E1 (ck_S1 p2_s349_s ck_S0) (ck_E1 (ck_S1 p2_s625_s ck_S0) (ck_E1 (ck_S1 p2_s529_s ck_S0) (ck_E1 (ck_S1 p2_s335_s ck_S0) (ck_E1 (ck_S1 p2_s630_s ck_S0) ck_E0)))))⟩ (by decide +kernel)
set_option maxRecDepth 100000 in
/-- GlacierMail.need -/
noncomputable def p2_s632 : ck_Sum := ((6, 1, 6), 245, [.inr (.inr (.inl 1)), .inl (ck_one 5), .inl (0, 24, [])], ([], [], []), ([], []), [(.inr none, 245, ([], [], [])), (.inl 3, 245, ([], [], []))])
set_option maxRecDepth 100000 in
theorem p2_s632_s {X : Int → Int} {LX : Nat} : ck_Ok p2_O X LX 133 p2_s632 := ck_okq (cuts := []) (f := 82) ⟨p2_nmu, ck_E0⟩ (by decide +kernel)
set_option maxRecDepth 100000 in
/-- GlacierMail.needLetter -/
noncomputable def p2_s633 : ck_Sum := ((7, 1, 6), 245, [.inr (.inr (.inl 1)), .inl (ck_one 5)], ([], [], []), ([], []), [(.inl 3, 245, ([], [], [])), (.inr none, 245, ([], [], []))])
set_option maxRecDepth 100000 in
theorem p2_s633_s {X : Int → Int} {LX : Nat} : ck_Ok p2_O X LX 143 p2_s633 := ck_okq (cuts := []) (f := 86) ⟨p2_nmu, ck_E1 (ck_S1 p2_s331_s ck_S0) (ck_E1 (ck_S1 p2_s632_s ck_S0) ck_E0)⟩ (by decide +kernel)
set_option maxRecDepth 100000 in
/-- GlacierMail$State.isRock -/
noncomputable def p2_s634 : ck_Sum := ((1, 0, 0), 245, [.inr (.inr (.inl 3)), .inl (ck_one 5)], ([], [], []), ([], []), [(.inr (some (.inl (ck_one 0))), 245, ([], [], [])), (.inr (some (.inl (ck_one 1))), 245, ([], [], []))])
set_option maxRecDepth 100000 in
theorem p2_s634_s {X : Int → Int} {LX : Nat} : ck_Ok p2_O X LX 28 p2_s634 := ck_okq (cuts := []) (f := 90) ⟨p2_nmu, ck_E1 (ck_S1 p2_s335_s ck_S0) ck_E0⟩ (by decide +kernel)
set_option maxRecDepth 100000 in
/-- GlacierMail.waits -/
noncomputable def p2_s635 : ck_Sum := ((2, 0, 0), 245, [.inr (.inr (.inl 1)), .inl (ck_one 5)], ([], [], [(3, 6, 6, (0, 299, [(10, 0)]))]), ([], []), [(.inr (some (.inl (ck_one 0))), 245, ([], [], [])), (.inr (some (.inl (ck_one 1))), 245, ([], [], []))])
set_option maxRecDepth 100000 in
theorem p2_s635_s {X : Int → Int} {LX : Nat} : ck_Ok p2_O X LX 66 p2_s635 := ck_okq (cuts := []) (f := 134) ⟨p2_nmu, ck_E1 (ck_S1 p2_s634_s ck_S0) (ck_E1 (ck_S1 p2_s335_s (ck_S1 p2_s350_s ck_S0)) (ck_E1 (ck_S1 p2_s351_s ck_S0) ck_E0))⟩ (by decide +kernel)
set_option maxRecDepth 100000 in
/-- GlacierMail$Rows.put -/
noncomputable def p2_s636 : ck_Sum := ((0, 0, 0), 245, [.inr (.inr (.inl 10)), .inl (ck_one 5), .inl (ck_one 5), .inl ((-1), 299, [])], ([], [], []), ([(11, 40, 40)], []), [(.inr none, 245, ([], [], []))])
set_option maxRecDepth 100000 in
theorem p2_s636_s {X : Int → Int} {LX : Nat} : ck_Ok p2_O X LX 45 p2_s636 := ck_okq (cuts := []) (f := 116) ⟨p2_nmu, ck_E0⟩ (by decide +kernel)
set_option maxRecDepth 100000 in
/-- GlacierMail$Rows.put -/
noncomputable def p2_s637 : ck_Sum := ((0, 0, 0), 245, [.inr (.inr (.inl 10)), .inl (ck_one 5), .inl (ck_one 6), .inl (0, 299, [])], ([], [], []), ([(11, 41, 41)], []), [(.inr none, 245, ([], [], []))])
set_option maxRecDepth 100000 in
theorem p2_s637_s {X : Int → Int} {LX : Nat} : ck_Ok p2_O X LX 45 p2_s637 := ck_okq (cuts := []) (f := 116) ⟨p2_nmu, ck_E0⟩ (by decide +kernel)
set_option maxRecDepth 100000 in
/-- GlacierMail$Rows.put -/
noncomputable def p2_s638 : ck_Sum := ((0, 0, 0), 245, [.inr (.inr (.inl 14)), .inl (0, 23, []), .inl (ck_one 1), .inl (ck_one 5)], ([], [], []), (zl173, []), [(.inr none, 245, ([], [], []))])
set_option maxRecDepth 100000 in
theorem p2_s638_s {X : Int → Int} {LX : Nat} : ck_Ok p2_O X LX 45 p2_s638 := ck_okq (cuts := []) (f := 116) ⟨p2_nmu, ck_E0⟩ (by decide +kernel)
set_option maxRecDepth 100000 in
/-- GlacierMail$Rows.put -/
noncomputable def p2_s639 : ck_Sum := ((0, 0, 0), 245, [.inr (.inr (.inl 14)), .inl (ck_one (-1)), .inl (ck_one 1), .inl (ck_one 5)], ([], [], []), ([], []), [(.inr none, 245, ([], [], []))])
set_option maxRecDepth 100000 in
theorem p2_s639_s {X : Int → Int} {LX : Nat} : ck_Ok p2_O X LX 45 p2_s639 := ck_okq (cuts := []) (f := 76) ⟨p2_nmu, ck_E0⟩ (by decide +kernel)
set_option maxRecDepth 100000 in
/-- GlacierMail$State.openLetter -/
noncomputable def p2_s640 : ck_Sum := ((1, 0, 0), 245, [.inr (.inr (.inl 3)), .inl (ck_one 5), .inl ((-1), 299, [])], ([], [], [(3, 6, 6, (0, 299, [(10, 0)]))]), ([(11, 40, 41), (14, 3, 3), (15, 0, 71)], []), [(.inr none, 245, ([], [], [(14, 3, 3, (1, 24, []))]))])
set_option maxRecDepth 100000 in
theorem p2_s640_s {X : Int → Int} {LX : Nat} : ck_Ok p2_O X LX 159 p2_s640 := ck_okq (cuts := []) (f := 144) ⟨p2_nmu, ck_E1 (ck_S1 p2_s636_s (ck_S1 p2_s637_s (ck_S1 p2_s583_s (ck_S1 p2_s638_s (ck_S1 p2_s585_s (ck_S1 p2_s586_s (ck_S1 p2_s639_s (ck_S1 p2_s588_s ck_S0)))))))) (ck_E1 (ck_S1 p2_s589_s ck_S0) ck_E0)⟩ (by decide +kernel)
set_option maxRecDepth 100000 in
/-- GlacierMail.open -/
noncomputable def p2_s641 : ck_Sum := ((8, 2, 12), 245, [.inr (.inr (.inl 1)), .inl (ck_one 5)], ([], zl102, [(3, 6, 6, (0, 299, [(10, 0)]))]), ([(1, 15, 15), (11, 40, 41), (14, 3, 3), (15, 0, 71), (42, 1, 2), (44, 0, 7), (45, 3, 3), (46, 0, 55), (47, 3, 3), (48, 0, 23), (49, 3, 3), (50, 0, 23), (51, 3, 3), (52, 0, 167), (53, 3, 3), (54, 0, 35), (55, 3, 3), (56, 0, 71), (57, 0, 7), (58, 3, 3), (59, 0, 55), (60, 3, 3), (61, 0, 23), (62, 3, 3), (63, 0, 23), (64, 3, 3), (65, 0, 167), (66, 3, 3), (67, 0, 35), (68, 3, 3), (69, 0, 71), (70, 0, 7), (71, 3, 3), (72, 0, 55), (73, 3, 3), (74, 0, 23), (75, 3, 3), (76, 0, 23), (77, 3, 3), (78, 0, 167), (79, 3, 3), (80, 0, 35), (81, 3, 3), (82, 0, 71), (83, 0, 7), (84, 3, 3), (85, 0, 55), (86, 3, 3), (87, 0, 23), (88, 3, 3), (89, 0, 23), (90, 3, 3), (91, 0, 167), (92, 3, 3), (93, 0, 35), (94, 3, 3), (95, 0, 71), (96, 0, 7), (97, 3, 3), (98, 0, 55), (99, 3, 3), (100, 0, 23), (101, 3, 3), (102, 0, 23), (103, 3, 3), (104, 0, 167), (105, 3, 3), (106, 0, 35), (107, 3, 3), (108, 0, 71), (109, 0, 7), (110, 3, 3), (111, 0, 55), (112, 3, 3), (113, 0, 23), (114, 3, 3), (115, 0, 23), (116, 3, 3), (117, 0, 167), (118, 3, 3), (119, 0, 35), (120, 3, 3), (121, 0, 71), (122, 0, 7), (123, 3, 3), (124, 0, 55), (125, 3, 3), (126, 0, 23), (127, 3, 3), (128, 0, 23), (129, 3, 3), (130, 0, 167), (131, 3, 3), (132, 0, 35), (133, 3, 3), (134, 0, 71), (135, 0, 7), (136, 3, 3), (137, 0, 55), (138, 3, 3), (139, 0, 23), (140, 3, 3), (141, 0, 23), (142, 3, 3), (143, 0, 167), (144, 3, 3), (145, 0, 35), (146, 3, 3), (147, 0, 71), (148, 0, 7), (149, 3, 3), (150, 0, 55), (151, 3, 3), (152, 0, 23), (153, 3, 3), (154, 0, 23), (155, 3, 3), (156, 0, 167), (157, 3, 3), (158, 0, 35), (159, 3, 3), (160, 0, 71), (161, 0, 7), (162, 3, 3), (163, 0, 55), (164, 3, 3), (165, 0, 23), (166, 3, 3), (167, 0, 23), (168, 3, 3), (169, 0, 167), (170, 3, 3), (171, 0, 35), (172, 3, 3), (173, 0, 71), (174, 0, 7), (175, 3, 3), (176, 0, 55), (177, 3, 3), (178, 0, 23), (179, 3, 3), (180, 0, 23), (181, 3, 3), (182, 0, 167), (183, 3, 3), (184, 0, 35), (185, 3, 3), (186, 0, 71), (187, 0, 7), (188, 3, 3), (189, 0, 55), (190, 3, 3), (191, 0, 23), (192, 3, 3), (193, 0, 23), (194, 3, 3), (195, 0, 167), (196, 3, 3), (197, 0, 35), (198, 3, 3), (199, 0, 71), (206, 2, 8), (220, 3, 3), (221, 0, 47)], zl104), zl175)
set_option maxRecDepth 100000 in
theorem p2_s641_s {X : Int → Int} {LX : Nat} : ck_Ok p2_O X LX 158 p2_s641 := ck_okq (cuts := []) (f := 140) ⟨p2_nmu, ck_E1 (ck_S1 p2_s633_s ck_S0) (ck_E1 (ck_S1 p2_s349_s ck_S0) (ck_E1 (ck_S1 p2_s635_s ck_S0) (ck_E1 (ck_S1 p2_s529_s ck_S0) (ck_E1 (ck_S1 p2_s335_s ck_S0) (ck_E1 (ck_S1 p2_s640_s ck_S0) ck_E0)))))⟩ (by decide +kernel)
set_option maxRecDepth 100000 in
/-- GlacierMail.need -/
noncomputable def p2_s642 : ck_Sum := ((6, 1, 6), 245, [.inr (.inr (.inl 1)), .inl (ck_one 6), .inl (0, 24, [])], ([], [], []), ([], []), [(.inr none, 245, ([], [], [])), (.inl 3, 245, ([], [], []))])
set_option maxRecDepth 100000 in
theorem p2_s642_s {X : Int → Int} {LX : Nat} : ck_Ok p2_O X LX 133 p2_s642 := ck_okq (cuts := []) (f := 82) ⟨p2_nmu, ck_E0⟩ (by decide +kernel)
set_option maxRecDepth 100000 in
/-- GlacierMail.needLetter -/
noncomputable def p2_s643 : ck_Sum := ((7, 1, 6), 245, [.inr (.inr (.inl 1)), .inl (ck_one 6)], ([], [], []), ([], []), [(.inl 3, 245, ([], [], [])), (.inr none, 245, ([], [], []))])
set_option maxRecDepth 100000 in
theorem p2_s643_s {X : Int → Int} {LX : Nat} : ck_Ok p2_O X LX 143 p2_s643 := ck_okq (cuts := []) (f := 86) ⟨p2_nmu, ck_E1 (ck_S1 p2_s331_s ck_S0) (ck_E1 (ck_S1 p2_s642_s ck_S0) ck_E0)⟩ (by decide +kernel)
set_option maxRecDepth 100000 in
/-- GlacierMail$State.isRock -/
noncomputable def p2_s644 : ck_Sum := ((1, 0, 0), 245, [.inr (.inr (.inl 3)), .inl (ck_one 6)], ([], [], []), ([], []), [(.inr (some (.inl (ck_one 0))), 245, ([], [], [])), (.inr (some (.inl (ck_one 1))), 245, ([], [], []))])
set_option maxRecDepth 100000 in
theorem p2_s644_s {X : Int → Int} {LX : Nat} : ck_Ok p2_O X LX 28 p2_s644 := ck_okq (cuts := []) (f := 90) ⟨p2_nmu, ck_E1 (ck_S1 p2_s335_s ck_S0) ck_E0⟩ (by decide +kernel)
set_option maxRecDepth 100000 in
/-- GlacierMail.waits -/
noncomputable def p2_s645 : ck_Sum := ((2, 0, 0), 245, [.inr (.inr (.inl 1)), .inl (ck_one 6)], ([], [], [(3, 6, 6, (0, 299, [(10, 0)]))]), ([], []), [(.inr (some (.inl (ck_one 0))), 245, ([], [], [])), (.inr (some (.inl (ck_one 1))), 245, ([], [], []))])
set_option maxRecDepth 100000 in
theorem p2_s645_s {X : Int → Int} {LX : Nat} : ck_Ok p2_O X LX 66 p2_s645 := ck_okq (cuts := []) (f := 134) ⟨p2_nmu, ck_E1 (ck_S1 p2_s644_s ck_S0) (ck_E1 (ck_S1 p2_s335_s (ck_S1 p2_s350_s ck_S0)) (ck_E1 (ck_S1 p2_s351_s ck_S0) ck_E0))⟩ (by decide +kernel)
set_option maxRecDepth 100000 in
/-- GlacierMail$Rows.put -/
noncomputable def p2_s646 : ck_Sum := ((0, 0, 0), 245, [.inr (.inr (.inl 10)), .inl (ck_one 6), .inl (ck_one 5), .inl ((-1), 299, [])], ([], [], []), ([(11, 47, 47)], []), [(.inr none, 245, ([], [], []))])
set_option maxRecDepth 100000 in
theorem p2_s646_s {X : Int → Int} {LX : Nat} : ck_Ok p2_O X LX 45 p2_s646 := ck_okq (cuts := []) (f := 116) ⟨p2_nmu, ck_E0⟩ (by decide +kernel)
set_option maxRecDepth 100000 in
/-- GlacierMail$Rows.put -/
noncomputable def p2_s647 : ck_Sum := ((0, 0, 0), 245, [.inr (.inr (.inl 10)), .inl (ck_one 6), .inl (ck_one 6), .inl (0, 299, [])], ([], [], []), ([(11, 48, 48)], []), [(.inr none, 245, ([], [], []))])
set_option maxRecDepth 100000 in
theorem p2_s647_s {X : Int → Int} {LX : Nat} : ck_Ok p2_O X LX 45 p2_s647 := ck_okq (cuts := []) (f := 116) ⟨p2_nmu, ck_E0⟩ (by decide +kernel)
set_option maxRecDepth 100000 in
/-- GlacierMail$Rows.put -/
noncomputable def p2_s648 : ck_Sum := ((0, 0, 0), 245, [.inr (.inr (.inl 14)), .inl (0, 23, []), .inl (ck_one 1), .inl (ck_one 6)], ([], [], []), (zl173, []), [(.inr none, 245, ([], [], []))])
set_option maxRecDepth 100000 in
theorem p2_s648_s {X : Int → Int} {LX : Nat} : ck_Ok p2_O X LX 45 p2_s648 := ck_okq (cuts := []) (f := 116) ⟨p2_nmu, ck_E0⟩ (by decide +kernel)
set_option maxRecDepth 100000 in
/-- GlacierMail$Rows.put -/
noncomputable def p2_s649 : ck_Sum := ((0, 0, 0), 245, [.inr (.inr (.inl 14)), .inl (ck_one (-1)), .inl (ck_one 1), .inl (ck_one 6)], ([], [], []), ([], []), [(.inr none, 245, ([], [], []))])
set_option maxRecDepth 100000 in
theorem p2_s649_s {X : Int → Int} {LX : Nat} : ck_Ok p2_O X LX 45 p2_s649 := ck_okq (cuts := []) (f := 76) ⟨p2_nmu, ck_E0⟩ (by decide +kernel)
set_option maxRecDepth 100000 in
/-- GlacierMail$State.openLetter -/
noncomputable def p2_s650 : ck_Sum := ((1, 0, 0), 245, [.inr (.inr (.inl 3)), .inl (ck_one 6), .inl ((-1), 299, [])], ([], [], [(3, 6, 6, (0, 299, [(10, 0)]))]), ([(11, 47, 48), (14, 3, 3), (15, 0, 71)], []), [(.inr none, 245, ([], [], [(14, 3, 3, (1, 24, []))]))])
set_option maxRecDepth 100000 in
theorem p2_s650_s {X : Int → Int} {LX : Nat} : ck_Ok p2_O X LX 159 p2_s650 := ck_okq (cuts := []) (f := 144) ⟨p2_nmu, ck_E1 (ck_S1 p2_s646_s (ck_S1 p2_s647_s (ck_S1 p2_s583_s (ck_S1 p2_s648_s (ck_S1 p2_s585_s (ck_S1 p2_s586_s (ck_S1 p2_s649_s (ck_S1 p2_s588_s ck_S0)))))))) (ck_E1 (ck_S1 p2_s589_s ck_S0) ck_E0)⟩ (by decide +kernel)
set_option maxRecDepth 100000 in
/-- GlacierMail.open -/
noncomputable def p2_s651 : ck_Sum := ((8, 2, 12), 245, [.inr (.inr (.inl 1)), .inl (ck_one 6)], ([], zl102, [(3, 6, 6, (0, 299, [(10, 0)]))]), ([(1, 15, 15), (11, 47, 48), (14, 3, 3), (15, 0, 71), (42, 1, 2), (44, 0, 7), (45, 3, 3), (46, 0, 55), (47, 3, 3), (48, 0, 23), (49, 3, 3), (50, 0, 23), (51, 3, 3), (52, 0, 167), (53, 3, 3), (54, 0, 35), (55, 3, 3), (56, 0, 71), (57, 0, 7), (58, 3, 3), (59, 0, 55), (60, 3, 3), (61, 0, 23), (62, 3, 3), (63, 0, 23), (64, 3, 3), (65, 0, 167), (66, 3, 3), (67, 0, 35), (68, 3, 3), (69, 0, 71), (70, 0, 7), (71, 3, 3), (72, 0, 55), (73, 3, 3), (74, 0, 23), (75, 3, 3), (76, 0, 23), (77, 3, 3), (78, 0, 167), (79, 3, 3), (80, 0, 35), (81, 3, 3), (82, 0, 71), (83, 0, 7), (84, 3, 3), (85, 0, 55), (86, 3, 3), (87, 0, 23), (88, 3, 3), (89, 0, 23), (90, 3, 3), (91, 0, 167), (92, 3, 3), (93, 0, 35), (94, 3, 3), (95, 0, 71), (96, 0, 7), (97, 3, 3), (98, 0, 55), (99, 3, 3), (100, 0, 23), (101, 3, 3), (102, 0, 23), (103, 3, 3), (104, 0, 167), (105, 3, 3), (106, 0, 35), (107, 3, 3), (108, 0, 71), (109, 0, 7), (110, 3, 3), (111, 0, 55), (112, 3, 3), (113, 0, 23), (114, 3, 3), (115, 0, 23), (116, 3, 3), (117, 0, 167), (118, 3, 3), (119, 0, 35), (120, 3, 3), (121, 0, 71), (122, 0, 7), (123, 3, 3), (124, 0, 55), (125, 3, 3), (126, 0, 23), (127, 3, 3), (128, 0, 23), (129, 3, 3), (130, 0, 167), (131, 3, 3), (132, 0, 35), (133, 3, 3), (134, 0, 71), (135, 0, 7), (136, 3, 3), (137, 0, 55), (138, 3, 3), (139, 0, 23), (140, 3, 3), (141, 0, 23), (142, 3, 3), (143, 0, 167), (144, 3, 3), (145, 0, 35), (146, 3, 3), (147, 0, 71), (148, 0, 7), (149, 3, 3), (150, 0, 55), (151, 3, 3), (152, 0, 23), (153, 3, 3), (154, 0, 23), (155, 3, 3), (156, 0, 167), (157, 3, 3), (158, 0, 35), (159, 3, 3), (160, 0, 71), (161, 0, 7), (162, 3, 3), (163, 0, 55), (164, 3, 3), (165, 0, 23), (166, 3, 3), (167, 0, 23), (168, 3, 3), (169, 0, 167), (170, 3, 3), (171, 0, 35), (172, 3, 3), (173, 0, 71), (174, 0, 7), (175, 3, 3), (176, 0, 55), (177, 3, 3), (178, 0, 23), (179, 3, 3), (180, 0, 23), (181, 3, 3), (182, 0, 167), (183, 3, 3), (184, 0, 35), (185, 3, 3), (186, 0, 71), (187, 0, 7), (188, 3, 3), (189, 0, 55), (190, 3, 3), (191, 0, 23), (192, 3, 3), (193, 0, 23), (194, 3, 3), (195, 0, 167), (196, 3, 3), (197, 0, 35), (198, 3, 3), (199, 0, 71), (206, 2, 8), (220, 3, 3), (221, 0, 47)], zl104), zl175)
set_option maxRecDepth 100000 in
theorem p2_s651_s {X : Int → Int} {LX : Nat} : ck_Ok p2_O X LX 158 p2_s651 := ck_okq (cuts := []) (f := 140) ⟨p2_nmu, ck_E1 (ck_S1 p2_s643_s ck_S0) (ck_E1 (ck_S1 p2_s349_s ck_S0) (ck_E1 (ck_S1 p2_s645_s ck_S0) (ck_E1 (ck_S1 p2_s529_s ck_S0) (ck_E1 (ck_S1 p2_s335_s ck_S0) (ck_E1 (ck_S1 p2_s650_s ck_S0) ck_E0)))))⟩ (by decide +kernel)
set_option maxRecDepth 100000 in
/-- GlacierMail.need -/
noncomputable def p2_s652 : ck_Sum := ((6, 1, 6), 245, [.inr (.inr (.inl 1)), .inl (ck_one 7), .inl (0, 24, [])], ([], [], []), ([], []), [(.inr none, 245, ([], [], [])), (.inl 3, 245, ([], [], []))])
set_option maxRecDepth 100000 in
theorem p2_s652_s {X : Int → Int} {LX : Nat} : ck_Ok p2_O X LX 133 p2_s652 := ck_okq (cuts := []) (f := 82) ⟨p2_nmu, ck_E0⟩ (by decide +kernel)
set_option maxRecDepth 100000 in
/-- GlacierMail.needLetter -/
noncomputable def p2_s653 : ck_Sum := ((7, 1, 6), 245, [.inr (.inr (.inl 1)), .inl (ck_one 7)], ([], [], []), ([], []), [(.inl 3, 245, ([], [], [])), (.inr none, 245, ([], [], []))])
set_option maxRecDepth 100000 in
theorem p2_s653_s {X : Int → Int} {LX : Nat} : ck_Ok p2_O X LX 143 p2_s653 := ck_okq (cuts := []) (f := 86) ⟨p2_nmu, ck_E1 (ck_S1 p2_s331_s ck_S0) (ck_E1 (ck_S1 p2_s652_s ck_S0) ck_E0)⟩ (by decide +kernel)
set_option maxRecDepth 100000 in
/-- GlacierMail$State.isRock -/
noncomputable def p2_s654 : ck_Sum := ((1, 0, 0), 245, [.inr (.inr (.inl 3)), .inl (ck_one 7)], ([], [], []), ([], []), [(.inr (some (.inl (ck_one 0))), 245, ([], [], [])), (.inr (some (.inl (ck_one 1))), 245, ([], [], []))])
set_option maxRecDepth 100000 in
theorem p2_s654_s {X : Int → Int} {LX : Nat} : ck_Ok p2_O X LX 28 p2_s654 := ck_okq (cuts := []) (f := 90) ⟨p2_nmu, ck_E1 (ck_S1 p2_s335_s ck_S0) ck_E0⟩ (by decide +kernel)
set_option maxRecDepth 100000 in
/-- GlacierMail.waits -/
noncomputable def p2_s655 : ck_Sum := ((2, 0, 0), 245, [.inr (.inr (.inl 1)), .inl (ck_one 7)], ([], [], [(3, 6, 6, (0, 299, [(10, 0)]))]), ([], []), [(.inr (some (.inl (ck_one 0))), 245, ([], [], [])), (.inr (some (.inl (ck_one 1))), 245, ([], [], []))])
set_option maxRecDepth 100000 in
theorem p2_s655_s {X : Int → Int} {LX : Nat} : ck_Ok p2_O X LX 66 p2_s655 := ck_okq (cuts := []) (f := 134) ⟨p2_nmu, ck_E1 (ck_S1 p2_s654_s ck_S0) (ck_E1 (ck_S1 p2_s335_s (ck_S1 p2_s350_s ck_S0)) (ck_E1 (ck_S1 p2_s351_s ck_S0) ck_E0))⟩ (by decide +kernel)
set_option maxRecDepth 100000 in
/-- GlacierMail$Rows.put -/
noncomputable def p2_s656 : ck_Sum := ((0, 0, 0), 245, [.inr (.inr (.inl 10)), .inl (ck_one 7), .inl (ck_one 5), .inl ((-1), 299, [])], ([], [], []), ([(11, 54, 54)], []), [(.inr none, 245, ([], [], []))])
set_option maxRecDepth 100000 in
theorem p2_s656_s {X : Int → Int} {LX : Nat} : ck_Ok p2_O X LX 45 p2_s656 := ck_okq (cuts := []) (f := 116) ⟨p2_nmu, ck_E0⟩ (by decide +kernel)
set_option maxRecDepth 100000 in
/-- GlacierMail$Rows.put -/
noncomputable def p2_s657 : ck_Sum := ((0, 0, 0), 245, [.inr (.inr (.inl 10)), .inl (ck_one 7), .inl (ck_one 6), .inl (0, 299, [])], ([], [], []), ([(11, 55, 55)], []), [(.inr none, 245, ([], [], []))])
set_option maxRecDepth 100000 in
theorem p2_s657_s {X : Int → Int} {LX : Nat} : ck_Ok p2_O X LX 45 p2_s657 := ck_okq (cuts := []) (f := 116) ⟨p2_nmu, ck_E0⟩ (by decide +kernel)
set_option maxRecDepth 100000 in
/-- GlacierMail$Rows.put -/
noncomputable def p2_s658 : ck_Sum := ((0, 0, 0), 245, [.inr (.inr (.inl 14)), .inl (0, 23, []), .inl (ck_one 1), .inl (ck_one 7)], ([], [], []), (zl173, []), [(.inr none, 245, ([], [], []))])
set_option maxRecDepth 100000 in
theorem p2_s658_s {X : Int → Int} {LX : Nat} : ck_Ok p2_O X LX 45 p2_s658 := ck_okq (cuts := []) (f := 116) ⟨p2_nmu, ck_E0⟩ (by decide +kernel)
set_option maxRecDepth 100000 in
/-- GlacierMail$Rows.put -/
noncomputable def p2_s659 : ck_Sum := ((0, 0, 0), 245, [.inr (.inr (.inl 14)), .inl (ck_one (-1)), .inl (ck_one 1), .inl (ck_one 7)], ([], [], []), ([], []), [(.inr none, 245, ([], [], []))])
set_option maxRecDepth 100000 in
theorem p2_s659_s {X : Int → Int} {LX : Nat} : ck_Ok p2_O X LX 45 p2_s659 := ck_okq (cuts := []) (f := 76) ⟨p2_nmu, ck_E0⟩ (by decide +kernel)
set_option maxRecDepth 100000 in
/-- GlacierMail$State.openLetter -/
noncomputable def p2_s660 : ck_Sum := ((1, 0, 0), 245, [.inr (.inr (.inl 3)), .inl (ck_one 7), .inl ((-1), 299, [])], ([], [], [(3, 6, 6, (0, 299, [(10, 0)]))]), ([(11, 54, 55), (14, 3, 3), (15, 0, 71)], []), [(.inr none, 245, ([], [], [(14, 3, 3, (1, 24, []))]))])
set_option maxRecDepth 100000 in
theorem p2_s660_s {X : Int → Int} {LX : Nat} : ck_Ok p2_O X LX 159 p2_s660 := ck_okq (cuts := []) (f := 144) ⟨p2_nmu, ck_E1 (ck_S1 p2_s656_s (ck_S1 p2_s657_s (ck_S1 p2_s583_s (ck_S1 p2_s658_s (ck_S1 p2_s585_s (ck_S1 p2_s586_s (ck_S1 p2_s659_s (ck_S1 p2_s588_s ck_S0)))))))) (ck_E1 (ck_S1 p2_s589_s ck_S0) ck_E0)⟩ (by decide +kernel)
set_option maxRecDepth 100000 in
/-- GlacierMail.open -/
noncomputable def p2_s661 : ck_Sum := ((8, 2, 12), 245, [.inr (.inr (.inl 1)), .inl (ck_one 7)], ([], zl102, [(3, 6, 6, (0, 299, [(10, 0)]))]), ([(1, 15, 15), (11, 54, 55), (14, 3, 3), (15, 0, 71), (42, 1, 2), (44, 0, 7), (45, 3, 3), (46, 0, 55), (47, 3, 3), (48, 0, 23), (49, 3, 3), (50, 0, 23), (51, 3, 3), (52, 0, 167), (53, 3, 3), (54, 0, 35), (55, 3, 3), (56, 0, 71), (57, 0, 7), (58, 3, 3), (59, 0, 55), (60, 3, 3), (61, 0, 23), (62, 3, 3), (63, 0, 23), (64, 3, 3), (65, 0, 167), (66, 3, 3), (67, 0, 35), (68, 3, 3), (69, 0, 71), (70, 0, 7), (71, 3, 3), (72, 0, 55), (73, 3, 3), (74, 0, 23), (75, 3, 3), (76, 0, 23), (77, 3, 3), (78, 0, 167), (79, 3, 3), (80, 0, 35), (81, 3, 3), (82, 0, 71), (83, 0, 7), (84, 3, 3), (85, 0, 55), (86, 3, 3), (87, 0, 23), (88, 3, 3), (89, 0, 23), (90, 3, 3), (91, 0, 167), (92, 3, 3), (93, 0, 35), (94, 3, 3), (95, 0, 71), (96, 0, 7), (97, 3, 3), (98, 0, 55), (99, 3, 3), (100, 0, 23), (101, 3, 3), (102, 0, 23), (103, 3, 3), (104, 0, 167), (105, 3, 3), (106, 0, 35), (107, 3, 3), (108, 0, 71), (109, 0, 7), (110, 3, 3), (111, 0, 55), (112, 3, 3), (113, 0, 23), (114, 3, 3), (115, 0, 23), (116, 3, 3), (117, 0, 167), (118, 3, 3), (119, 0, 35), (120, 3, 3), (121, 0, 71), (122, 0, 7), (123, 3, 3), (124, 0, 55), (125, 3, 3), (126, 0, 23), (127, 3, 3), (128, 0, 23), (129, 3, 3), (130, 0, 167), (131, 3, 3), (132, 0, 35), (133, 3, 3), (134, 0, 71), (135, 0, 7), (136, 3, 3), (137, 0, 55), (138, 3, 3), (139, 0, 23), (140, 3, 3), (141, 0, 23), (142, 3, 3), (143, 0, 167), (144, 3, 3), (145, 0, 35), (146, 3, 3), (147, 0, 71), (148, 0, 7), (149, 3, 3), (150, 0, 55), (151, 3, 3), (152, 0, 23), (153, 3, 3), (154, 0, 23), (155, 3, 3), (156, 0, 167), (157, 3, 3), (158, 0, 35), (159, 3, 3), (160, 0, 71), (161, 0, 7), (162, 3, 3), (163, 0, 55), (164, 3, 3), (165, 0, 23), (166, 3, 3), (167, 0, 23), (168, 3, 3), (169, 0, 167), (170, 3, 3), (171, 0, 35), (172, 3, 3), (173, 0, 71), (174, 0, 7), (175, 3, 3), (176, 0, 55), (177, 3, 3), (178, 0, 23), (179, 3, 3), (180, 0, 23), (181, 3, 3), (182, 0, 167), (183, 3, 3), (184, 0, 35), (185, 3, 3), (186, 0, 71), (187, 0, 7), (188, 3, 3), (189, 0, 55), (190, 3, 3), (191, 0, 23), (192, 3, 3), (193, 0, 23), (194, 3, 3), (195, 0, 167), (196, 3, 3), (197, 0, 35), (198, 3, 3), (199, 0, 71), (206, 2, 8), (220, 3, 3), (221, 0, 47)], zl104), zl175)
set_option maxRecDepth 100000 in
theorem p2_s661_s {X : Int → Int} {LX : Nat} : ck_Ok p2_O X LX 158 p2_s661 := ck_okq (cuts := []) (f := 140) ⟨p2_nmu, ck_E1 (ck_S1 p2_s653_s ck_S0) (ck_E1 (ck_S1 p2_s349_s ck_S0) (ck_E1 (ck_S1 p2_s655_s ck_S0) (ck_E1 (ck_S1 p2_s529_s ck_S0) (ck_E1 (ck_S1 p2_s335_s ck_S0) (ck_E1 (ck_S1 p2_s660_s ck_S0) ck_E0)))))⟩ (by decide +kernel)
set_option maxRecDepth 100000 in
/-- GlacierMail.need -/
noncomputable def p2_s662 : ck_Sum := ((6, 1, 6), 245, [.inr (.inr (.inl 1)), .inl (ck_one 8), .inl (0, 24, [])], ([], [], []), ([], []), [(.inr none, 245, ([], [], [])), (.inl 3, 245, ([], [], []))])
set_option maxRecDepth 100000 in
theorem p2_s662_s {X : Int → Int} {LX : Nat} : ck_Ok p2_O X LX 133 p2_s662 := ck_okq (cuts := []) (f := 82) ⟨p2_nmu, ck_E0⟩ (by decide +kernel)
set_option maxRecDepth 100000 in
/-- GlacierMail.needLetter -/
noncomputable def p2_s663 : ck_Sum := ((7, 1, 6), 245, [.inr (.inr (.inl 1)), .inl (ck_one 8)], ([], [], []), ([], []), [(.inl 3, 245, ([], [], [])), (.inr none, 245, ([], [], []))])
set_option maxRecDepth 100000 in
theorem p2_s663_s {X : Int → Int} {LX : Nat} : ck_Ok p2_O X LX 143 p2_s663 := ck_okq (cuts := []) (f := 86) ⟨p2_nmu, ck_E1 (ck_S1 p2_s331_s ck_S0) (ck_E1 (ck_S1 p2_s662_s ck_S0) ck_E0)⟩ (by decide +kernel)
set_option maxRecDepth 100000 in
/-- GlacierMail$State.isRock -/
noncomputable def p2_s664 : ck_Sum := ((1, 0, 0), 245, [.inr (.inr (.inl 3)), .inl (ck_one 8)], ([], [], []), ([], []), [(.inr (some (.inl (ck_one 0))), 245, ([], [], [])), (.inr (some (.inl (ck_one 1))), 245, ([], [], []))])
set_option maxRecDepth 100000 in
theorem p2_s664_s {X : Int → Int} {LX : Nat} : ck_Ok p2_O X LX 28 p2_s664 := ck_okq (cuts := []) (f := 90) ⟨p2_nmu, ck_E1 (ck_S1 p2_s335_s ck_S0) ck_E0⟩ (by decide +kernel)
set_option maxRecDepth 100000 in
/-- GlacierMail.waits -/
noncomputable def p2_s665 : ck_Sum := ((2, 0, 0), 245, [.inr (.inr (.inl 1)), .inl (ck_one 8)], ([], [], [(3, 6, 6, (0, 299, [(10, 0)]))]), ([], []), [(.inr (some (.inl (ck_one 0))), 245, ([], [], [])), (.inr (some (.inl (ck_one 1))), 245, ([], [], []))])
set_option maxRecDepth 100000 in
theorem p2_s665_s {X : Int → Int} {LX : Nat} : ck_Ok p2_O X LX 66 p2_s665 := ck_okq (cuts := []) (f := 134) ⟨p2_nmu, ck_E1 (ck_S1 p2_s664_s ck_S0) (ck_E1 (ck_S1 p2_s335_s (ck_S1 p2_s350_s ck_S0)) (ck_E1 (ck_S1 p2_s351_s ck_S0) ck_E0))⟩ (by decide +kernel)
set_option maxRecDepth 100000 in
/-- GlacierMail$Rows.put -/
noncomputable def p2_s666 : ck_Sum := ((0, 0, 0), 245, [.inr (.inr (.inl 10)), .inl (ck_one 8), .inl (ck_one 5), .inl ((-1), 299, [])], ([], [], []), ([(11, 61, 61)], []), [(.inr none, 245, ([], [], []))])
set_option maxRecDepth 100000 in
theorem p2_s666_s {X : Int → Int} {LX : Nat} : ck_Ok p2_O X LX 45 p2_s666 := ck_okq (cuts := []) (f := 116) ⟨p2_nmu, ck_E0⟩ (by decide +kernel)
set_option maxRecDepth 100000 in
/-- GlacierMail$Rows.put -/
noncomputable def p2_s667 : ck_Sum := ((0, 0, 0), 245, [.inr (.inr (.inl 10)), .inl (ck_one 8), .inl (ck_one 6), .inl (0, 299, [])], ([], [], []), ([(11, 62, 62)], []), [(.inr none, 245, ([], [], []))])
set_option maxRecDepth 100000 in
theorem p2_s667_s {X : Int → Int} {LX : Nat} : ck_Ok p2_O X LX 45 p2_s667 := ck_okq (cuts := []) (f := 116) ⟨p2_nmu, ck_E0⟩ (by decide +kernel)
set_option maxRecDepth 100000 in
/-- GlacierMail$Rows.put -/
noncomputable def p2_s668 : ck_Sum := ((0, 0, 0), 245, [.inr (.inr (.inl 14)), .inl (0, 23, []), .inl (ck_one 1), .inl (ck_one 8)], ([], [], []), (zl173, []), [(.inr none, 245, ([], [], []))])
set_option maxRecDepth 100000 in
theorem p2_s668_s {X : Int → Int} {LX : Nat} : ck_Ok p2_O X LX 45 p2_s668 := ck_okq (cuts := []) (f := 116) ⟨p2_nmu, ck_E0⟩ (by decide +kernel)
set_option maxRecDepth 100000 in
/-- GlacierMail$Rows.put -/
noncomputable def p2_s669 : ck_Sum := ((0, 0, 0), 245, [.inr (.inr (.inl 14)), .inl (ck_one (-1)), .inl (ck_one 1), .inl (ck_one 8)], ([], [], []), ([], []), [(.inr none, 245, ([], [], []))])
set_option maxRecDepth 100000 in
theorem p2_s669_s {X : Int → Int} {LX : Nat} : ck_Ok p2_O X LX 45 p2_s669 := ck_okq (cuts := []) (f := 76) ⟨p2_nmu, ck_E0⟩ (by decide +kernel)
set_option maxRecDepth 100000 in
/-- GlacierMail$State.openLetter -/
noncomputable def p2_s670 : ck_Sum := ((1, 0, 0), 245, [.inr (.inr (.inl 3)), .inl (ck_one 8), .inl ((-1), 299, [])], ([], [], [(3, 6, 6, (0, 299, [(10, 0)]))]), ([(11, 61, 62), (14, 3, 3), (15, 0, 71)], []), [(.inr none, 245, ([], [], [(14, 3, 3, (1, 24, []))]))])
set_option maxRecDepth 100000 in
theorem p2_s670_s {X : Int → Int} {LX : Nat} : ck_Ok p2_O X LX 159 p2_s670 := ck_okq (cuts := []) (f := 144) ⟨p2_nmu, ck_E1 (ck_S1 p2_s666_s (ck_S1 p2_s667_s (ck_S1 p2_s583_s (ck_S1 p2_s668_s (ck_S1 p2_s585_s (ck_S1 p2_s586_s (ck_S1 p2_s669_s (ck_S1 p2_s588_s ck_S0)))))))) (ck_E1 (ck_S1 p2_s589_s ck_S0) ck_E0)⟩ (by decide +kernel)
set_option maxRecDepth 100000 in
/-- GlacierMail.open -/
noncomputable def p2_s671 : ck_Sum := ((8, 2, 12), 245, [.inr (.inr (.inl 1)), .inl (ck_one 8)], ([], zl102, [(3, 6, 6, (0, 299, [(10, 0)]))]), ([(1, 15, 15), (11, 61, 62), (14, 3, 3), (15, 0, 71), (42, 1, 2), (44, 0, 7), (45, 3, 3), (46, 0, 55), (47, 3, 3), (48, 0, 23), (49, 3, 3), (50, 0, 23), (51, 3, 3), (52, 0, 167), (53, 3, 3), (54, 0, 35), (55, 3, 3), (56, 0, 71), (57, 0, 7), (58, 3, 3), (59, 0, 55), (60, 3, 3), (61, 0, 23), (62, 3, 3), (63, 0, 23), (64, 3, 3), (65, 0, 167), (66, 3, 3), (67, 0, 35), (68, 3, 3), (69, 0, 71), (70, 0, 7), (71, 3, 3), (72, 0, 55), (73, 3, 3), (74, 0, 23), (75, 3, 3), (76, 0, 23), (77, 3, 3), (78, 0, 167), (79, 3, 3), (80, 0, 35), (81, 3, 3), (82, 0, 71), (83, 0, 7), (84, 3, 3), (85, 0, 55), (86, 3, 3), (87, 0, 23), (88, 3, 3), (89, 0, 23), (90, 3, 3), (91, 0, 167), (92, 3, 3), (93, 0, 35), (94, 3, 3), (95, 0, 71), (96, 0, 7), (97, 3, 3), (98, 0, 55), (99, 3, 3), (100, 0, 23), (101, 3, 3), (102, 0, 23), (103, 3, 3), (104, 0, 167), (105, 3, 3), (106, 0, 35), (107, 3, 3), (108, 0, 71), (109, 0, 7), (110, 3, 3), (111, 0, 55), (112, 3, 3), (113, 0, 23), (114, 3, 3), (115, 0, 23), (116, 3, 3), (117, 0, 167), (118, 3, 3), (119, 0, 35), (120, 3, 3), (121, 0, 71), (122, 0, 7), (123, 3, 3), (124, 0, 55), (125, 3, 3), (126, 0, 23), (127, 3, 3), (128, 0, 23), (129, 3, 3), (130, 0, 167), (131, 3, 3), (132, 0, 35), (133, 3, 3), (134, 0, 71), (135, 0, 7), (136, 3, 3), (137, 0, 55), (138, 3, 3), (139, 0, 23), (140, 3, 3), (141, 0, 23), (142, 3, 3), (143, 0, 167), (144, 3, 3), (145, 0, 35), (146, 3, 3), (147, 0, 71), (148, 0, 7), (149, 3, 3), (150, 0, 55), (151, 3, 3), (152, 0, 23), (153, 3, 3), (154, 0, 23), (155, 3, 3), (156, 0, 167), (157, 3, 3), (158, 0, 35), (159, 3, 3), (160, 0, 71), (161, 0, 7), (162, 3, 3), (163, 0, 55), (164, 3, 3), (165, 0, 23), (166, 3, 3), (167, 0, 23), (168, 3, 3), (169, 0, 167), (170, 3, 3), (171, 0, 35), (172, 3, 3), (173, 0, 71), (174, 0, 7), (175, 3, 3), (176, 0, 55), (177, 3, 3), (178, 0, 23), (179, 3, 3), (180, 0, 23), (181, 3, 3), (182, 0, 167), (183, 3, 3), (184, 0, 35), (185, 3, 3), (186, 0, 71), (187, 0, 7), (188, 3, 3), (189, 0, 55), (190, 3, 3), (191, 0, 23), (192, 3, 3), (193, 0, 23), (194, 3, 3), (195, 0, 167), (196, 3, 3), (197, 0, 35), (198, 3, 3), (199, 0, 71), (206, 2, 8), (220, 3, 3), (221, 0, 47)], zl104), zl175)
set_option maxRecDepth 100000 in
theorem p2_s671_s {X : Int → Int} {LX : Nat} : ck_Ok p2_O X LX 158 p2_s671 := ck_okq (cuts := []) (f := 140) ⟨p2_nmu, ck_E1 (ck_S1 p2_s663_s ck_S0) (ck_E1 (ck_S1 p2_s349_s ck_S0) (ck_E1 (ck_S1 p2_s665_s ck_S0) (ck_E1 (ck_S1 p2_s529_s ck_S0) (ck_E1 (ck_S1 p2_s335_s ck_S0) (ck_E1 (ck_S1 p2_s670_s ck_S0) ck_E0)))))⟩ (by decide +kernel)
set_option maxRecDepth 100000 in
/-- GlacierMail.need -/
noncomputable def p2_s672 : ck_Sum := ((6, 1, 6), 245, [.inr (.inr (.inl 1)), .inl (ck_one 9), .inl (0, 24, [])], ([], [], []), ([], []), [(.inr none, 245, ([], [], [])), (.inl 3, 245, ([], [], []))])
set_option maxRecDepth 100000 in
theorem p2_s672_s {X : Int → Int} {LX : Nat} : ck_Ok p2_O X LX 133 p2_s672 := ck_okq (cuts := []) (f := 82) ⟨p2_nmu, ck_E0⟩ (by decide +kernel)
set_option maxRecDepth 100000 in
/-- GlacierMail.needLetter -/
noncomputable def p2_s673 : ck_Sum := ((7, 1, 6), 245, [.inr (.inr (.inl 1)), .inl (ck_one 9)], ([], [], []), ([], []), [(.inl 3, 245, ([], [], [])), (.inr none, 245, ([], [], []))])
set_option maxRecDepth 100000 in
theorem p2_s673_s {X : Int → Int} {LX : Nat} : ck_Ok p2_O X LX 143 p2_s673 := ck_okq (cuts := []) (f := 86) ⟨p2_nmu, ck_E1 (ck_S1 p2_s331_s ck_S0) (ck_E1 (ck_S1 p2_s672_s ck_S0) ck_E0)⟩ (by decide +kernel)
set_option maxRecDepth 100000 in
/-- GlacierMail$State.isRock -/
noncomputable def p2_s674 : ck_Sum := ((1, 0, 0), 245, [.inr (.inr (.inl 3)), .inl (ck_one 9)], ([], [], []), ([], []), [(.inr (some (.inl (ck_one 0))), 245, ([], [], [])), (.inr (some (.inl (ck_one 1))), 245, ([], [], []))])
set_option maxRecDepth 100000 in
theorem p2_s674_s {X : Int → Int} {LX : Nat} : ck_Ok p2_O X LX 28 p2_s674 := ck_okq (cuts := []) (f := 90) ⟨p2_nmu, ck_E1 (ck_S1 p2_s335_s ck_S0) ck_E0⟩ (by decide +kernel)
set_option maxRecDepth 100000 in
/-- GlacierMail.waits -/
noncomputable def p2_s675 : ck_Sum := ((2, 0, 0), 245, [.inr (.inr (.inl 1)), .inl (ck_one 9)], ([], [], [(3, 6, 6, (0, 299, [(10, 0)]))]), ([], []), [(.inr (some (.inl (ck_one 0))), 245, ([], [], [])), (.inr (some (.inl (ck_one 1))), 245, ([], [], []))])
set_option maxRecDepth 100000 in
theorem p2_s675_s {X : Int → Int} {LX : Nat} : ck_Ok p2_O X LX 66 p2_s675 := ck_okq (cuts := []) (f := 134) ⟨p2_nmu, ck_E1 (ck_S1 p2_s674_s ck_S0) (ck_E1 (ck_S1 p2_s335_s (ck_S1 p2_s350_s ck_S0)) (ck_E1 (ck_S1 p2_s351_s ck_S0) ck_E0))⟩ (by decide +kernel)
set_option maxRecDepth 100000 in
/-- GlacierMail$Rows.put -/
noncomputable def p2_s676 : ck_Sum := ((0, 0, 0), 245, [.inr (.inr (.inl 10)), .inl (ck_one 9), .inl (ck_one 5), .inl ((-1), 299, [])], ([], [], []), ([(11, 68, 68)], []), [(.inr none, 245, ([], [], []))])
set_option maxRecDepth 100000 in
theorem p2_s676_s {X : Int → Int} {LX : Nat} : ck_Ok p2_O X LX 45 p2_s676 := ck_okq (cuts := []) (f := 116) ⟨p2_nmu, ck_E0⟩ (by decide +kernel)
set_option maxRecDepth 100000 in
/-- GlacierMail$Rows.put -/
noncomputable def p2_s677 : ck_Sum := ((0, 0, 0), 245, [.inr (.inr (.inl 10)), .inl (ck_one 9), .inl (ck_one 6), .inl (0, 299, [])], ([], [], []), ([(11, 69, 69)], []), [(.inr none, 245, ([], [], []))])
set_option maxRecDepth 100000 in
theorem p2_s677_s {X : Int → Int} {LX : Nat} : ck_Ok p2_O X LX 45 p2_s677 := ck_okq (cuts := []) (f := 116) ⟨p2_nmu, ck_E0⟩ (by decide +kernel)
set_option maxRecDepth 100000 in
/-- GlacierMail$Rows.put -/
noncomputable def p2_s678 : ck_Sum := ((0, 0, 0), 245, [.inr (.inr (.inl 14)), .inl (0, 23, []), .inl (ck_one 1), .inl (ck_one 9)], ([], [], []), (zl173, []), [(.inr none, 245, ([], [], []))])
set_option maxRecDepth 100000 in
theorem p2_s678_s {X : Int → Int} {LX : Nat} : ck_Ok p2_O X LX 45 p2_s678 := ck_okq (cuts := []) (f := 116) ⟨p2_nmu, ck_E0⟩ (by decide +kernel)
set_option maxRecDepth 100000 in
/-- GlacierMail$Rows.put -/
noncomputable def p2_s679 : ck_Sum := ((0, 0, 0), 245, [.inr (.inr (.inl 14)), .inl (ck_one (-1)), .inl (ck_one 1), .inl (ck_one 9)], ([], [], []), ([], []), [(.inr none, 245, ([], [], []))])
set_option maxRecDepth 100000 in
theorem p2_s679_s {X : Int → Int} {LX : Nat} : ck_Ok p2_O X LX 45 p2_s679 := ck_okq (cuts := []) (f := 76) ⟨p2_nmu, ck_E0⟩ (by decide +kernel)
set_option maxRecDepth 100000 in
/-- GlacierMail$State.openLetter -/
noncomputable def p2_s680 : ck_Sum := ((1, 0, 0), 245, [.inr (.inr (.inl 3)), .inl (ck_one 9), .inl ((-1), 299, [])], ([], [], [(3, 6, 6, (0, 299, [(10, 0)]))]), ([(11, 68, 69), (14, 3, 3), (15, 0, 71)], []), [(.inr none, 245, ([], [], [(14, 3, 3, (1, 24, []))]))])
set_option maxRecDepth 100000 in
theorem p2_s680_s {X : Int → Int} {LX : Nat} : ck_Ok p2_O X LX 159 p2_s680 := ck_okq (cuts := []) (f := 144) ⟨p2_nmu, ck_E1 (ck_S1 p2_s676_s (ck_S1 p2_s677_s (ck_S1 p2_s583_s (ck_S1 p2_s678_s (ck_S1 p2_s585_s (ck_S1 p2_s586_s (ck_S1 p2_s679_s (ck_S1 p2_s588_s ck_S0)))))))) (ck_E1 (ck_S1 p2_s589_s ck_S0) ck_E0)⟩ (by decide +kernel)
set_option maxRecDepth 100000 in
/-- GlacierMail.open -/
noncomputable def p2_s681 : ck_Sum := ((8, 2, 12), 245, [.inr (.inr (.inl 1)), .inl (ck_one 9)], ([], zl102, [(3, 6, 6, (0, 299, [(10, 0)]))]), ([(1, 15, 15), (11, 68, 69), (14, 3, 3), (15, 0, 71), (42, 1, 2), (44, 0, 7), (45, 3, 3), (46, 0, 55), (47, 3, 3), (48, 0, 23), (49, 3, 3), (50, 0, 23), (51, 3, 3), (52, 0, 167), (53, 3, 3), (54, 0, 35), (55, 3, 3), (56, 0, 71), (57, 0, 7), (58, 3, 3), (59, 0, 55), (60, 3, 3), (61, 0, 23), (62, 3, 3), (63, 0, 23), (64, 3, 3), (65, 0, 167), (66, 3, 3), (67, 0, 35), (68, 3, 3), (69, 0, 71), (70, 0, 7), (71, 3, 3), (72, 0, 55), (73, 3, 3), (74, 0, 23), (75, 3, 3), (76, 0, 23), (77, 3, 3), (78, 0, 167), (79, 3, 3), (80, 0, 35), (81, 3, 3), (82, 0, 71), (83, 0, 7), (84, 3, 3), (85, 0, 55), (86, 3, 3), (87, 0, 23), (88, 3, 3), (89, 0, 23), (90, 3, 3), (91, 0, 167), (92, 3, 3), (93, 0, 35), (94, 3, 3), (95, 0, 71), (96, 0, 7), (97, 3, 3), (98, 0, 55), (99, 3, 3), (100, 0, 23), (101, 3, 3), (102, 0, 23), (103, 3, 3), (104, 0, 167), (105, 3, 3), (106, 0, 35), (107, 3, 3), (108, 0, 71), (109, 0, 7), (110, 3, 3), (111, 0, 55), (112, 3, 3), (113, 0, 23), (114, 3, 3), (115, 0, 23), (116, 3, 3), (117, 0, 167), (118, 3, 3), (119, 0, 35), (120, 3, 3), (121, 0, 71), (122, 0, 7), (123, 3, 3), (124, 0, 55), (125, 3, 3), (126, 0, 23), (127, 3, 3), (128, 0, 23), (129, 3, 3), (130, 0, 167), (131, 3, 3), (132, 0, 35), (133, 3, 3), (134, 0, 71), (135, 0, 7), (136, 3, 3), (137, 0, 55), (138, 3, 3), (139, 0, 23), (140, 3, 3), (141, 0, 23), (142, 3, 3), (143, 0, 167), (144, 3, 3), (145, 0, 35), (146, 3, 3), (147, 0, 71), (148, 0, 7), (149, 3, 3), (150, 0, 55), (151, 3, 3), (152, 0, 23), (153, 3, 3), (154, 0, 23), (155, 3, 3), (156, 0, 167), (157, 3, 3), (158, 0, 35), (159, 3, 3), (160, 0, 71), (161, 0, 7), (162, 3, 3), (163, 0, 55), (164, 3, 3), (165, 0, 23), (166, 3, 3), (167, 0, 23), (168, 3, 3), (169, 0, 167), (170, 3, 3), (171, 0, 35), (172, 3, 3), (173, 0, 71), (174, 0, 7), (175, 3, 3), (176, 0, 55), (177, 3, 3), (178, 0, 23), (179, 3, 3), (180, 0, 23), (181, 3, 3), (182, 0, 167), (183, 3, 3), (184, 0, 35), (185, 3, 3), (186, 0, 71), (187, 0, 7), (188, 3, 3), (189, 0, 55), (190, 3, 3), (191, 0, 23), (192, 3, 3), (193, 0, 23), (194, 3, 3), (195, 0, 167), (196, 3, 3), (197, 0, 35), (198, 3, 3), (199, 0, 71), (206, 2, 8), (220, 3, 3), (221, 0, 47)], zl104), zl175)
set_option maxRecDepth 100000 in
theorem p2_s681_s {X : Int → Int} {LX : Nat} : ck_Ok p2_O X LX 158 p2_s681 := ck_okq (cuts := []) (f := 140) ⟨p2_nmu, ck_E1 (ck_S1 p2_s673_s ck_S0) (ck_E1 (ck_S1 p2_s349_s ck_S0) (ck_E1 (ck_S1 p2_s675_s ck_S0) (ck_E1 (ck_S1 p2_s529_s ck_S0) (ck_E1 (ck_S1 p2_s335_s ck_S0) (ck_E1 (ck_S1 p2_s680_s ck_S0) ck_E0)))))⟩ (by decide +kernel)
set_option maxRecDepth 100000 in
/-- GlacierMail.need -/
noncomputable def p2_s682 : ck_Sum := ((6, 1, 6), 245, [.inr (.inr (.inl 1)), .inl (ck_one 10), .inl (0, 24, [])], ([], [], []), ([], []), [(.inr none, 245, ([], [], [])), (.inl 3, 245, ([], [], []))])
set_option maxRecDepth 100000 in
theorem p2_s682_s {X : Int → Int} {LX : Nat} : ck_Ok p2_O X LX 133 p2_s682 := ck_okq (cuts := []) (f := 82) ⟨p2_nmu, ck_E0⟩ (by decide +kernel)
set_option maxRecDepth 100000 in
/-- GlacierMail.needLetter -/
noncomputable def p2_s683 : ck_Sum := ((7, 1, 6), 245, [.inr (.inr (.inl 1)), .inl (ck_one 10)], ([], [], []), ([], []), [(.inl 3, 245, ([], [], [])), (.inr none, 245, ([], [], []))])
set_option maxRecDepth 100000 in
theorem p2_s683_s {X : Int → Int} {LX : Nat} : ck_Ok p2_O X LX 143 p2_s683 := ck_okq (cuts := []) (f := 86) ⟨p2_nmu, ck_E1 (ck_S1 p2_s331_s ck_S0) (ck_E1 (ck_S1 p2_s682_s ck_S0) ck_E0)⟩ (by decide +kernel)
set_option maxRecDepth 100000 in
/-- GlacierMail$State.isRock -/
noncomputable def p2_s684 : ck_Sum := ((1, 0, 0), 245, [.inr (.inr (.inl 3)), .inl (ck_one 10)], ([], [], []), ([], []), [(.inr (some (.inl (ck_one 0))), 245, ([], [], [])), (.inr (some (.inl (ck_one 1))), 245, ([], [], []))])
set_option maxRecDepth 100000 in
theorem p2_s684_s {X : Int → Int} {LX : Nat} : ck_Ok p2_O X LX 28 p2_s684 := ck_okq (cuts := []) (f := 90) ⟨p2_nmu, ck_E1 (ck_S1 p2_s335_s ck_S0) ck_E0⟩ (by decide +kernel)
set_option maxRecDepth 100000 in
/-- GlacierMail.waits -/
noncomputable def p2_s685 : ck_Sum := ((2, 0, 0), 245, [.inr (.inr (.inl 1)), .inl (ck_one 10)], ([], [], [(3, 6, 6, (0, 299, [(10, 0)]))]), ([], []), [(.inr (some (.inl (ck_one 0))), 245, ([], [], [])), (.inr (some (.inl (ck_one 1))), 245, ([], [], []))])
set_option maxRecDepth 100000 in
theorem p2_s685_s {X : Int → Int} {LX : Nat} : ck_Ok p2_O X LX 66 p2_s685 := ck_okq (cuts := []) (f := 134) ⟨p2_nmu, ck_E1 (ck_S1 p2_s684_s ck_S0) (ck_E1 (ck_S1 p2_s335_s (ck_S1 p2_s350_s ck_S0)) (ck_E1 (ck_S1 p2_s351_s ck_S0) ck_E0))⟩ (by decide +kernel)
set_option maxRecDepth 100000 in
/-- GlacierMail$Rows.put -/
noncomputable def p2_s686 : ck_Sum := ((0, 0, 0), 245, [.inr (.inr (.inl 10)), .inl (ck_one 10), .inl (ck_one 5), .inl ((-1), 299, [])], ([], [], []), ([(11, 75, 75)], []), [(.inr none, 245, ([], [], []))])
set_option maxRecDepth 100000 in
theorem p2_s686_s {X : Int → Int} {LX : Nat} : ck_Ok p2_O X LX 45 p2_s686 := ck_okq (cuts := []) (f := 116) ⟨p2_nmu, ck_E0⟩ (by decide +kernel)
set_option maxRecDepth 100000 in
/-- GlacierMail$Rows.put -/
noncomputable def p2_s687 : ck_Sum := ((0, 0, 0), 245, [.inr (.inr (.inl 10)), .inl (ck_one 10), .inl (ck_one 6), .inl (0, 299, [])], ([], [], []), ([(11, 76, 76)], []), [(.inr none, 245, ([], [], []))])
set_option maxRecDepth 100000 in
theorem p2_s687_s {X : Int → Int} {LX : Nat} : ck_Ok p2_O X LX 45 p2_s687 := ck_okq (cuts := []) (f := 116) ⟨p2_nmu, ck_E0⟩ (by decide +kernel)
set_option maxRecDepth 100000 in
/-- GlacierMail$Rows.put -/
noncomputable def p2_s688 : ck_Sum := ((0, 0, 0), 245, [.inr (.inr (.inl 14)), .inl (0, 23, []), .inl (ck_one 1), .inl (ck_one 10)], ([], [], []), (zl173, []), [(.inr none, 245, ([], [], []))])
set_option maxRecDepth 100000 in
theorem p2_s688_s {X : Int → Int} {LX : Nat} : ck_Ok p2_O X LX 45 p2_s688 := ck_okq (cuts := []) (f := 116) ⟨p2_nmu, ck_E0⟩ (by decide +kernel)
set_option maxRecDepth 100000 in
/-- GlacierMail$Rows.put -/
noncomputable def p2_s689 : ck_Sum := ((0, 0, 0), 245, [.inr (.inr (.inl 14)), .inl (ck_one (-1)), .inl (ck_one 1), .inl (ck_one 10)], ([], [], []), ([], []), [(.inr none, 245, ([], [], []))])
set_option maxRecDepth 100000 in
theorem p2_s689_s {X : Int → Int} {LX : Nat} : ck_Ok p2_O X LX 45 p2_s689 := ck_okq (cuts := []) (f := 76) ⟨p2_nmu, ck_E0⟩ (by decide +kernel)
set_option maxRecDepth 100000 in
/-- GlacierMail$State.openLetter -/
noncomputable def p2_s690 : ck_Sum := ((1, 0, 0), 245, [.inr (.inr (.inl 3)), .inl (ck_one 10), .inl ((-1), 299, [])], ([], [], [(3, 6, 6, (0, 299, [(10, 0)]))]), ([(11, 75, 76), (14, 3, 3), (15, 0, 71)], []), [(.inr none, 245, ([], [], [(14, 3, 3, (1, 24, []))]))])
set_option maxRecDepth 100000 in
theorem p2_s690_s {X : Int → Int} {LX : Nat} : ck_Ok p2_O X LX 159 p2_s690 := ck_okq (cuts := []) (f := 144) ⟨p2_nmu, ck_E1 (ck_S1 p2_s686_s (ck_S1 p2_s687_s (ck_S1 p2_s583_s (ck_S1 p2_s688_s (ck_S1 p2_s585_s (ck_S1 p2_s586_s (ck_S1 p2_s689_s (ck_S1 p2_s588_s ck_S0)))))))) (ck_E1 (ck_S1 p2_s589_s ck_S0) ck_E0)⟩ (by decide +kernel)
set_option maxRecDepth 100000 in
/-- GlacierMail.open -/
noncomputable def p2_s691 : ck_Sum := ((8, 2, 12), 245, [.inr (.inr (.inl 1)), .inl (ck_one 10)], ([], zl102, [(3, 6, 6, (0, 299, [(10, 0)]))]), ([(1, 15, 15), (11, 75, 76), (14, 3, 3), (15, 0, 71), (42, 1, 2), (44, 0, 7), (45, 3, 3), (46, 0, 55), (47, 3, 3), (48, 0, 23), (49, 3, 3), (50, 0, 23), (51, 3, 3), (52, 0, 167), (53, 3, 3), (54, 0, 35), (55, 3, 3), (56, 0, 71), (57, 0, 7), (58, 3, 3), (59, 0, 55), (60, 3, 3), (61, 0, 23), (62, 3, 3), (63, 0, 23), (64, 3, 3), (65, 0, 167), (66, 3, 3), (67, 0, 35), (68, 3, 3), (69, 0, 71), (70, 0, 7), (71, 3, 3), (72, 0, 55), (73, 3, 3), (74, 0, 23), (75, 3, 3), (76, 0, 23), (77, 3, 3), (78, 0, 167), (79, 3, 3), (80, 0, 35), (81, 3, 3), (82, 0, 71), (83, 0, 7), (84, 3, 3), (85, 0, 55), (86, 3, 3), (87, 0, 23), (88, 3, 3), (89, 0, 23), (90, 3, 3), (91, 0, 167), (92, 3, 3), (93, 0, 35), (94, 3, 3), (95, 0, 71), (96, 0, 7), (97, 3, 3), (98, 0, 55), (99, 3, 3), (100, 0, 23), (101, 3, 3), (102, 0, 23), (103, 3, 3), (104, 0, 167), (105, 3, 3), (106, 0, 35), (107, 3, 3), (108, 0, 71), (109, 0, 7), (110, 3, 3), (111, 0, 55), (112, 3, 3), (113, 0, 23), (114, 3, 3), (115, 0, 23), (116, 3, 3), (117, 0, 167), (118, 3, 3), (119, 0, 35), (120, 3, 3), (121, 0, 71), (122, 0, 7), (123, 3, 3), (124, 0, 55), (125, 3, 3), (126, 0, 23), (127, 3, 3), (128, 0, 23), (129, 3, 3), (130, 0, 167), (131, 3, 3), (132, 0, 35), (133, 3, 3), (134, 0, 71), (135, 0, 7), (136, 3, 3), (137, 0, 55), (138, 3, 3), (139, 0, 23), (140, 3, 3), (141, 0, 23), (142, 3, 3), (143, 0, 167), (144, 3, 3), (145, 0, 35), (146, 3, 3), (147, 0, 71), (148, 0, 7), (149, 3, 3), (150, 0, 55), (151, 3, 3), (152, 0, 23), (153, 3, 3), (154, 0, 23), (155, 3, 3), (156, 0, 167), (157, 3, 3), (158, 0, 35), (159, 3, 3), (160, 0, 71), (161, 0, 7), (162, 3, 3), (163, 0, 55), (164, 3, 3), (165, 0, 23), (166, 3, 3), (167, 0, 23), (168, 3, 3), (169, 0, 167), (170, 3, 3), (171, 0, 35), (172, 3, 3), (173, 0, 71), (174, 0, 7), (175, 3, 3), (176, 0, 55), (177, 3, 3), (178, 0, 23), (179, 3, 3), (180, 0, 23), (181, 3, 3), (182, 0, 167), (183, 3, 3), (184, 0, 35), (185, 3, 3), (186, 0, 71), (187, 0, 7), (188, 3, 3), (189, 0, 55), (190, 3, 3), (191, 0, 23), (192, 3, 3), (193, 0, 23), (194, 3, 3), (195, 0, 167), (196, 3, 3), (197, 0, 35), (198, 3, 3), (199, 0, 71), (206, 2, 8), (220, 3, 3), (221, 0, 47)], zl104), zl175)
set_option maxRecDepth 100000 in
theorem p2_s691_s {X : Int → Int} {LX : Nat} : ck_Ok p2_O X LX 158 p2_s691 := ck_okq (cuts := []) (f := 140) ⟨p2_nmu, ck_E1 (ck_S1 p2_s683_s ck_S0) (ck_E1 (ck_S1 p2_s349_s ck_S0) (ck_E1 (ck_S1 p2_s685_s ck_S0) (ck_E1 (ck_S1 p2_s529_s ck_S0) (ck_E1 (ck_S1 p2_s335_s ck_S0) (ck_E1 (ck_S1 p2_s690_s ck_S0) ck_E0)))))⟩ (by decide +kernel)
set_option maxRecDepth 100000 in
/-- GlacierMail.need -/
noncomputable def p2_s692 : ck_Sum := ((6, 1, 6), 245, [.inr (.inr (.inl 1)), .inl (ck_one 11), .inl (0, 24, [])], ([], [], []), ([], []), [(.inr none, 245, ([], [], [])), (.inl 3, 245, ([], [], []))])
set_option maxRecDepth 100000 in
theorem p2_s692_s {X : Int → Int} {LX : Nat} : ck_Ok p2_O X LX 133 p2_s692 := ck_okq (cuts := []) (f := 82) ⟨p2_nmu, ck_E0⟩ (by decide +kernel)
set_option maxRecDepth 100000 in
/-- GlacierMail.needLetter -/
noncomputable def p2_s693 : ck_Sum := ((7, 1, 6), 245, [.inr (.inr (.inl 1)), .inl (ck_one 11)], ([], [], []), ([], []), [(.inl 3, 245, ([], [], [])), (.inr none, 245, ([], [], []))])
set_option maxRecDepth 100000 in
theorem p2_s693_s {X : Int → Int} {LX : Nat} : ck_Ok p2_O X LX 143 p2_s693 := ck_okq (cuts := []) (f := 86) ⟨p2_nmu, ck_E1 (ck_S1 p2_s331_s ck_S0) (ck_E1 (ck_S1 p2_s692_s ck_S0) ck_E0)⟩ (by decide +kernel)
set_option maxRecDepth 100000 in
/-- GlacierMail$State.isRock -/
noncomputable def p2_s694 : ck_Sum := ((1, 0, 0), 245, [.inr (.inr (.inl 3)), .inl (ck_one 11)], ([], [], []), ([], []), [(.inr (some (.inl (ck_one 0))), 245, ([], [], [])), (.inr (some (.inl (ck_one 1))), 245, ([], [], []))])
set_option maxRecDepth 100000 in
theorem p2_s694_s {X : Int → Int} {LX : Nat} : ck_Ok p2_O X LX 28 p2_s694 := ck_okq (cuts := []) (f := 90) ⟨p2_nmu, ck_E1 (ck_S1 p2_s335_s ck_S0) ck_E0⟩ (by decide +kernel)
set_option maxRecDepth 100000 in
/-- GlacierMail.waits -/
noncomputable def p2_s695 : ck_Sum := ((2, 0, 0), 245, [.inr (.inr (.inl 1)), .inl (ck_one 11)], ([], [], [(3, 6, 6, (0, 299, [(10, 0)]))]), ([], []), [(.inr (some (.inl (ck_one 0))), 245, ([], [], [])), (.inr (some (.inl (ck_one 1))), 245, ([], [], []))])
set_option maxRecDepth 100000 in
theorem p2_s695_s {X : Int → Int} {LX : Nat} : ck_Ok p2_O X LX 66 p2_s695 := ck_okq (cuts := []) (f := 134) ⟨p2_nmu, ck_E1 (ck_S1 p2_s694_s ck_S0) (ck_E1 (ck_S1 p2_s335_s (ck_S1 p2_s350_s ck_S0)) (ck_E1 (ck_S1 p2_s351_s ck_S0) ck_E0))⟩ (by decide +kernel)
set_option maxRecDepth 100000 in
/-- GlacierMail$Rows.put -/
noncomputable def p2_s696 : ck_Sum := ((0, 0, 0), 245, [.inr (.inr (.inl 10)), .inl (ck_one 11), .inl (ck_one 5), .inl ((-1), 299, [])], ([], [], []), ([(11, 82, 82)], []), [(.inr none, 245, ([], [], []))])
set_option maxRecDepth 100000 in
theorem p2_s696_s {X : Int → Int} {LX : Nat} : ck_Ok p2_O X LX 45 p2_s696 := ck_okq (cuts := []) (f := 116) ⟨p2_nmu, ck_E0⟩ (by decide +kernel)
set_option maxRecDepth 100000 in
/-- GlacierMail$Rows.put -/
noncomputable def p2_s697 : ck_Sum := ((0, 0, 0), 245, [.inr (.inr (.inl 10)), .inl (ck_one 11), .inl (ck_one 6), .inl (0, 299, [])], ([], [], []), ([(11, 83, 83)], []), [(.inr none, 245, ([], [], []))])
set_option maxRecDepth 100000 in
theorem p2_s697_s {X : Int → Int} {LX : Nat} : ck_Ok p2_O X LX 45 p2_s697 := ck_okq (cuts := []) (f := 116) ⟨p2_nmu, ck_E0⟩ (by decide +kernel)
set_option maxRecDepth 100000 in
/-- GlacierMail$Rows.put -/
noncomputable def p2_s698 : ck_Sum := ((0, 0, 0), 245, [.inr (.inr (.inl 14)), .inl (0, 23, []), .inl (ck_one 1), .inl (ck_one 11)], ([], [], []), (zl173, []), [(.inr none, 245, ([], [], []))])
set_option maxRecDepth 100000 in
theorem p2_s698_s {X : Int → Int} {LX : Nat} : ck_Ok p2_O X LX 45 p2_s698 := ck_okq (cuts := []) (f := 116) ⟨p2_nmu, ck_E0⟩ (by decide +kernel)
set_option maxRecDepth 100000 in
/-- GlacierMail$Rows.put -/
noncomputable def p2_s699 : ck_Sum := ((0, 0, 0), 245, [.inr (.inr (.inl 14)), .inl (ck_one (-1)), .inl (ck_one 1), .inl (ck_one 11)], ([], [], []), ([], []), [(.inr none, 245, ([], [], []))])
set_option maxRecDepth 100000 in
theorem p2_s699_s {X : Int → Int} {LX : Nat} : ck_Ok p2_O X LX 45 p2_s699 := ck_okq (cuts := []) (f := 76) ⟨p2_nmu, ck_E0⟩ (by decide +kernel)
set_option maxRecDepth 100000 in
/-- GlacierMail$State.openLetter -/
noncomputable def p2_s700 : ck_Sum := ((1, 0, 0), 245, [.inr (.inr (.inl 3)), .inl (ck_one 11), .inl ((-1), 299, [])], ([], [], [(3, 6, 6, (0, 299, [(10, 0)]))]), ([(11, 82, 83), (14, 3, 3), (15, 0, 71)], []), [(.inr none, 245, ([], [], [(14, 3, 3, (1, 24, []))]))])
set_option maxRecDepth 100000 in
theorem p2_s700_s {X : Int → Int} {LX : Nat} : ck_Ok p2_O X LX 159 p2_s700 := ck_okq (cuts := []) (f := 144) ⟨p2_nmu, ck_E1 (ck_S1 p2_s696_s (ck_S1 p2_s697_s (ck_S1 p2_s583_s (ck_S1 p2_s698_s (ck_S1 p2_s585_s (ck_S1 p2_s586_s (ck_S1 p2_s699_s (ck_S1 p2_s588_s ck_S0)))))))) (ck_E1 (ck_S1 p2_s589_s ck_S0) ck_E0)⟩ (by decide +kernel)
set_option maxRecDepth 100000 in
/-- GlacierMail.open -/
noncomputable def p2_s701 : ck_Sum := ((8, 2, 12), 245, [.inr (.inr (.inl 1)), .inl (ck_one 11)], ([], zl102, [(3, 6, 6, (0, 299, [(10, 0)]))]), ([(1, 15, 15), (11, 82, 83), (14, 3, 3), (15, 0, 71), (42, 1, 2), (44, 0, 7), (45, 3, 3), (46, 0, 55), (47, 3, 3), (48, 0, 23), (49, 3, 3), (50, 0, 23), (51, 3, 3), (52, 0, 167), (53, 3, 3), (54, 0, 35), (55, 3, 3), (56, 0, 71), (57, 0, 7), (58, 3, 3), (59, 0, 55), (60, 3, 3), (61, 0, 23), (62, 3, 3), (63, 0, 23), (64, 3, 3), (65, 0, 167), (66, 3, 3), (67, 0, 35), (68, 3, 3), (69, 0, 71), (70, 0, 7), (71, 3, 3), (72, 0, 55), (73, 3, 3), (74, 0, 23), (75, 3, 3), (76, 0, 23), (77, 3, 3), (78, 0, 167), (79, 3, 3), (80, 0, 35), (81, 3, 3), (82, 0, 71), (83, 0, 7), (84, 3, 3), (85, 0, 55), (86, 3, 3), (87, 0, 23), (88, 3, 3), (89, 0, 23), (90, 3, 3), (91, 0, 167), (92, 3, 3), (93, 0, 35), (94, 3, 3), (95, 0, 71), (96, 0, 7), (97, 3, 3), (98, 0, 55), (99, 3, 3), (100, 0, 23), (101, 3, 3), (102, 0, 23), (103, 3, 3), (104, 0, 167), (105, 3, 3), (106, 0, 35), (107, 3, 3), (108, 0, 71), (109, 0, 7), (110, 3, 3), (111, 0, 55), (112, 3, 3), (113, 0, 23), (114, 3, 3), (115, 0, 23), (116, 3, 3), (117, 0, 167), (118, 3, 3), (119, 0, 35), (120, 3, 3), (121, 0, 71), (122, 0, 7), (123, 3, 3), (124, 0, 55), (125, 3, 3), (126, 0, 23), (127, 3, 3), (128, 0, 23), (129, 3, 3), (130, 0, 167), (131, 3, 3), (132, 0, 35), (133, 3, 3), (134, 0, 71), (135, 0, 7), (136, 3, 3), (137, 0, 55), (138, 3, 3), (139, 0, 23), (140, 3, 3), (141, 0, 23), (142, 3, 3), (143, 0, 167), (144, 3, 3), (145, 0, 35), (146, 3, 3), (147, 0, 71), (148, 0, 7), (149, 3, 3), (150, 0, 55), (151, 3, 3), (152, 0, 23), (153, 3, 3), (154, 0, 23), (155, 3, 3), (156, 0, 167), (157, 3, 3), (158, 0, 35), (159, 3, 3), (160, 0, 71), (161, 0, 7), (162, 3, 3), (163, 0, 55), (164, 3, 3), (165, 0, 23), (166, 3, 3), (167, 0, 23), (168, 3, 3), (169, 0, 167), (170, 3, 3), (171, 0, 35), (172, 3, 3), (173, 0, 71), (174, 0, 7), (175, 3, 3), (176, 0, 55), (177, 3, 3), (178, 0, 23), (179, 3, 3), (180, 0, 23), (181, 3, 3), (182, 0, 167), (183, 3, 3), (184, 0, 35), (185, 3, 3), (186, 0, 71), (187, 0, 7), (188, 3, 3), (189, 0, 55), (190, 3, 3), (191, 0, 23), (192, 3, 3), (193, 0, 23), (194, 3, 3), (195, 0, 167), (196, 3, 3), (197, 0, 35), (198, 3, 3), (199, 0, 71), (206, 2, 8), (220, 3, 3), (221, 0, 47)], zl104), zl175)
set_option maxRecDepth 100000 in
theorem p2_s701_s {X : Int → Int} {LX : Nat} : ck_Ok p2_O X LX 158 p2_s701 := ck_okq (cuts := []) (f := 140) ⟨p2_nmu, ck_E1 (ck_S1 p2_s693_s ck_S0) (ck_E1 (ck_S1 p2_s349_s ck_S0) (ck_E1 (ck_S1 p2_s695_s ck_S0) (ck_E1 (ck_S1 p2_s529_s ck_S0) (ck_E1 (ck_S1 p2_s335_s ck_S0) (ck_E1 (ck_S1 p2_s700_s ck_S0) ck_E0)))))⟩ (by decide +kernel)
set_option maxRecDepth 100000 in
/-- GlacierMail.need -/
noncomputable def p2_s702 : ck_Sum := ((6, 1, 6), 245, [.inr (.inr (.inl 1)), .inl (ck_one 12), .inl (0, 24, [])], ([], [], []), ([], []), [(.inr none, 245, ([], [], [])), (.inl 3, 245, ([], [], []))])
set_option maxRecDepth 100000 in
theorem p2_s702_s {X : Int → Int} {LX : Nat} : ck_Ok p2_O X LX 133 p2_s702 := ck_okq (cuts := []) (f := 82) ⟨p2_nmu, ck_E0⟩ (by decide +kernel)
set_option maxRecDepth 100000 in
/-- GlacierMail.needLetter -/
noncomputable def p2_s703 : ck_Sum := ((7, 1, 6), 245, [.inr (.inr (.inl 1)), .inl (ck_one 12)], ([], [], []), ([], []), [(.inl 3, 245, ([], [], [])), (.inr none, 245, ([], [], []))])
set_option maxRecDepth 100000 in
theorem p2_s703_s {X : Int → Int} {LX : Nat} : ck_Ok p2_O X LX 143 p2_s703 := ck_okq (cuts := []) (f := 86) ⟨p2_nmu, ck_E1 (ck_S1 p2_s331_s ck_S0) (ck_E1 (ck_S1 p2_s702_s ck_S0) ck_E0)⟩ (by decide +kernel)
set_option maxRecDepth 100000 in
/-- GlacierMail$State.isRock -/
noncomputable def p2_s704 : ck_Sum := ((1, 0, 0), 245, [.inr (.inr (.inl 3)), .inl (ck_one 12)], ([], [], []), ([], []), [(.inr (some (.inl (ck_one 0))), 245, ([], [], [])), (.inr (some (.inl (ck_one 1))), 245, ([], [], []))])
set_option maxRecDepth 100000 in
theorem p2_s704_s {X : Int → Int} {LX : Nat} : ck_Ok p2_O X LX 28 p2_s704 := ck_okq (cuts := []) (f := 90) ⟨p2_nmu, ck_E1 (ck_S1 p2_s335_s ck_S0) ck_E0⟩ (by decide +kernel)
set_option maxRecDepth 100000 in
/-- GlacierMail.waits -/
noncomputable def p2_s705 : ck_Sum := ((2, 0, 0), 245, [.inr (.inr (.inl 1)), .inl (ck_one 12)], ([], [], [(3, 6, 6, (0, 299, [(10, 0)]))]), ([], []), [(.inr (some (.inl (ck_one 0))), 245, ([], [], [])), (.inr (some (.inl (ck_one 1))), 245, ([], [], []))])
set_option maxRecDepth 100000 in
theorem p2_s705_s {X : Int → Int} {LX : Nat} : ck_Ok p2_O X LX 66 p2_s705 := ck_okq (cuts := []) (f := 134) ⟨p2_nmu, ck_E1 (ck_S1 p2_s704_s ck_S0) (ck_E1 (ck_S1 p2_s335_s (ck_S1 p2_s350_s ck_S0)) (ck_E1 (ck_S1 p2_s351_s ck_S0) ck_E0))⟩ (by decide +kernel)
set_option maxRecDepth 100000 in
/-- GlacierMail$Rows.put -/
noncomputable def p2_s706 : ck_Sum := ((0, 0, 0), 245, [.inr (.inr (.inl 10)), .inl (ck_one 12), .inl (ck_one 5), .inl ((-1), 299, [])], ([], [], []), ([(11, 89, 89)], []), [(.inr none, 245, ([], [], []))])
set_option maxRecDepth 100000 in
theorem p2_s706_s {X : Int → Int} {LX : Nat} : ck_Ok p2_O X LX 45 p2_s706 := ck_okq (cuts := []) (f := 116) ⟨p2_nmu, ck_E0⟩ (by decide +kernel)
set_option maxRecDepth 100000 in
/-- GlacierMail$Rows.put -/
noncomputable def p2_s707 : ck_Sum := ((0, 0, 0), 245, [.inr (.inr (.inl 10)), .inl (ck_one 12), .inl (ck_one 6), .inl (0, 299, [])], ([], [], []), ([(11, 90, 90)], []), [(.inr none, 245, ([], [], []))])
set_option maxRecDepth 100000 in
theorem p2_s707_s {X : Int → Int} {LX : Nat} : ck_Ok p2_O X LX 45 p2_s707 := ck_okq (cuts := []) (f := 116) ⟨p2_nmu, ck_E0⟩ (by decide +kernel)
set_option maxRecDepth 100000 in
/-- GlacierMail$Rows.put -/
noncomputable def p2_s708 : ck_Sum := ((0, 0, 0), 245, [.inr (.inr (.inl 14)), .inl (0, 23, []), .inl (ck_one 1), .inl (ck_one 12)], ([], [], []), (zl173, []), [(.inr none, 245, ([], [], []))])
set_option maxRecDepth 100000 in
theorem p2_s708_s {X : Int → Int} {LX : Nat} : ck_Ok p2_O X LX 45 p2_s708 := ck_okq (cuts := []) (f := 116) ⟨p2_nmu, ck_E0⟩ (by decide +kernel)
set_option maxRecDepth 100000 in
/-- GlacierMail$Rows.put -/
noncomputable def p2_s709 : ck_Sum := ((0, 0, 0), 245, [.inr (.inr (.inl 14)), .inl (ck_one (-1)), .inl (ck_one 1), .inl (ck_one 12)], ([], [], []), ([], []), [(.inr none, 245, ([], [], []))])
set_option maxRecDepth 100000 in
theorem p2_s709_s {X : Int → Int} {LX : Nat} : ck_Ok p2_O X LX 45 p2_s709 := ck_okq (cuts := []) (f := 76) ⟨p2_nmu, ck_E0⟩ (by decide +kernel)
set_option maxRecDepth 100000 in
/-- GlacierMail$State.openLetter -/
noncomputable def p2_s710 : ck_Sum := ((1, 0, 0), 245, [.inr (.inr (.inl 3)), .inl (ck_one 12), .inl ((-1), 299, [])], ([], [], [(3, 6, 6, (0, 299, [(10, 0)]))]), ([(11, 89, 90), (14, 3, 3), (15, 0, 71)], []), [(.inr none, 245, ([], [], [(14, 3, 3, (1, 24, []))]))])
set_option maxRecDepth 100000 in
theorem p2_s710_s {X : Int → Int} {LX : Nat} : ck_Ok p2_O X LX 159 p2_s710 := ck_okq (cuts := []) (f := 144) ⟨p2_nmu, ck_E1 (ck_S1 p2_s706_s (ck_S1 p2_s707_s (ck_S1 p2_s583_s (ck_S1 p2_s708_s (ck_S1 p2_s585_s (ck_S1 p2_s586_s (ck_S1 p2_s709_s (ck_S1 p2_s588_s ck_S0)))))))) (ck_E1 (ck_S1 p2_s589_s ck_S0) ck_E0)⟩ (by decide +kernel)
set_option maxRecDepth 100000 in
/-- GlacierMail.open -/
noncomputable def p2_s711 : ck_Sum := ((8, 2, 12), 245, [.inr (.inr (.inl 1)), .inl (ck_one 12)], ([], zl102, [(3, 6, 6, (0, 299, [(10, 0)]))]), ([(1, 15, 15), (11, 89, 90), (14, 3, 3), (15, 0, 71), (42, 1, 2), (44, 0, 7), (45, 3, 3), (46, 0, 55), (47, 3, 3), (48, 0, 23), (49, 3, 3), (50, 0, 23), (51, 3, 3), (52, 0, 167), (53, 3, 3), (54, 0, 35), (55, 3, 3), (56, 0, 71), (57, 0, 7), (58, 3, 3), (59, 0, 55), (60, 3, 3), (61, 0, 23), (62, 3, 3), (63, 0, 23), (64, 3, 3), (65, 0, 167), (66, 3, 3), (67, 0, 35), (68, 3, 3), (69, 0, 71), (70, 0, 7), (71, 3, 3), (72, 0, 55), (73, 3, 3), (74, 0, 23), (75, 3, 3), (76, 0, 23), (77, 3, 3), (78, 0, 167), (79, 3, 3), (80, 0, 35), (81, 3, 3), (82, 0, 71), (83, 0, 7), (84, 3, 3), (85, 0, 55), (86, 3, 3), (87, 0, 23), (88, 3, 3), (89, 0, 23), (90, 3, 3), (91, 0, 167), (92, 3, 3), (93, 0, 35), (94, 3, 3), (95, 0, 71), (96, 0, 7), (97, 3, 3), (98, 0, 55), (99, 3, 3), (100, 0, 23), (101, 3, 3), (102, 0, 23), (103, 3, 3), (104, 0, 167), (105, 3, 3), (106, 0, 35), (107, 3, 3), (108, 0, 71), (109, 0, 7), (110, 3, 3), (111, 0, 55), (112, 3, 3), (113, 0, 23), (114, 3, 3), (115, 0, 23), (116, 3, 3), (117, 0, 167), (118, 3, 3), (119, 0, 35), (120, 3, 3), (121, 0, 71), (122, 0, 7), (123, 3, 3), (124, 0, 55), (125, 3, 3), (126, 0, 23), (127, 3, 3), (128, 0, 23), (129, 3, 3), (130, 0, 167), (131, 3, 3), (132, 0, 35), (133, 3, 3), (134, 0, 71), (135, 0, 7), (136, 3, 3), (137, 0, 55), (138, 3, 3), (139, 0, 23), (140, 3, 3), (141, 0, 23), (142, 3, 3), (143, 0, 167), (144, 3, 3), (145, 0, 35), (146, 3, 3), (147, 0, 71), (148, 0, 7), (149, 3, 3), (150, 0, 55), (151, 3, 3), (152, 0, 23), (153, 3, 3), (154, 0, 23), (155, 3, 3), (156, 0, 167), (157, 3, 3), (158, 0, 35), (159, 3, 3), (160, 0, 71), (161, 0, 7), (162, 3, 3), (163, 0, 55), (164, 3, 3), (165, 0, 23), (166, 3, 3), (167, 0, 23), (168, 3, 3), (169, 0, 167), (170, 3, 3), (171, 0, 35), (172, 3, 3), (173, 0, 71), (174, 0, 7), (175, 3, 3), (176, 0, 55), (177, 3, 3), (178, 0, 23), (179, 3, 3), (180, 0, 23), (181, 3, 3), (182, 0, 167), (183, 3, 3), (184, 0, 35), (185, 3, 3), (186, 0, 71), (187, 0, 7), (188, 3, 3), (189, 0, 55), (190, 3, 3), (191, 0, 23), (192, 3, 3), (193, 0, 23), (194, 3, 3), (195, 0, 167), (196, 3, 3), (197, 0, 35), (198, 3, 3), (199, 0, 71), (206, 2, 8), (220, 3, 3), (221, 0, 47)], zl104), zl175)
set_option maxRecDepth 100000 in
theorem p2_s711_s {X : Int → Int} {LX : Nat} : ck_Ok p2_O X LX 158 p2_s711 := ck_okq (cuts := []) (f := 140) ⟨p2_nmu, ck_E1 (ck_S1 p2_s703_s ck_S0) (ck_E1 (ck_S1 p2_s349_s ck_S0) (ck_E1 (ck_S1 p2_s705_s ck_S0) (ck_E1 (ck_S1 p2_s529_s ck_S0) (ck_E1 (ck_S1 p2_s335_s ck_S0) (ck_E1 (ck_S1 p2_s710_s ck_S0) ck_E0)))))⟩ (by decide +kernel)
set_option maxRecDepth 100000 in
/-- GlacierMail.need -/
noncomputable def p2_s712 : ck_Sum := ((6, 1, 6), 245, [.inr (.inr (.inl 1)), .inl (ck_one 13), .inl (0, 24, [])], ([], [], []), ([], []), [(.inr none, 245, ([], [], [])), (.inl 3, 245, ([], [], []))])
set_option maxRecDepth 100000 in
theorem p2_s712_s {X : Int → Int} {LX : Nat} : ck_Ok p2_O X LX 133 p2_s712 := ck_okq (cuts := []) (f := 82) ⟨p2_nmu, ck_E0⟩ (by decide +kernel)
set_option maxRecDepth 100000 in
/-- GlacierMail.needLetter -/
noncomputable def p2_s713 : ck_Sum := ((7, 1, 6), 245, [.inr (.inr (.inl 1)), .inl (ck_one 13)], ([], [], []), ([], []), [(.inl 3, 245, ([], [], [])), (.inr none, 245, ([], [], []))])
set_option maxRecDepth 100000 in
theorem p2_s713_s {X : Int → Int} {LX : Nat} : ck_Ok p2_O X LX 143 p2_s713 := ck_okq (cuts := []) (f := 86) ⟨p2_nmu, ck_E1 (ck_S1 p2_s331_s ck_S0) (ck_E1 (ck_S1 p2_s712_s ck_S0) ck_E0)⟩ (by decide +kernel)
set_option maxRecDepth 100000 in
/-- GlacierMail$State.isRock -/
noncomputable def p2_s714 : ck_Sum := ((1, 0, 0), 245, [.inr (.inr (.inl 3)), .inl (ck_one 13)], ([], [], []), ([], []), [(.inr (some (.inl (ck_one 0))), 245, ([], [], [])), (.inr (some (.inl (ck_one 1))), 245, ([], [], []))])
set_option maxRecDepth 100000 in
theorem p2_s714_s {X : Int → Int} {LX : Nat} : ck_Ok p2_O X LX 28 p2_s714 := ck_okq (cuts := []) (f := 90) ⟨p2_nmu, ck_E1 (ck_S1 p2_s335_s ck_S0) ck_E0⟩ (by decide +kernel)
set_option maxRecDepth 100000 in
/-- GlacierMail.waits -/
noncomputable def p2_s715 : ck_Sum := ((2, 0, 0), 245, [.inr (.inr (.inl 1)), .inl (ck_one 13)], ([], [], [(3, 6, 6, (0, 299, [(10, 0)]))]), ([], []), [(.inr (some (.inl (ck_one 0))), 245, ([], [], [])), (.inr (some (.inl (ck_one 1))), 245, ([], [], []))])
set_option maxRecDepth 100000 in
theorem p2_s715_s {X : Int → Int} {LX : Nat} : ck_Ok p2_O X LX 66 p2_s715 := ck_okq (cuts := []) (f := 134) ⟨p2_nmu, ck_E1 (ck_S1 p2_s714_s ck_S0) (ck_E1 (ck_S1 p2_s335_s (ck_S1 p2_s350_s ck_S0)) (ck_E1 (ck_S1 p2_s351_s ck_S0) ck_E0))⟩ (by decide +kernel)
set_option maxRecDepth 100000 in
/-- GlacierMail$Rows.put -/
noncomputable def p2_s716 : ck_Sum := ((0, 0, 0), 245, [.inr (.inr (.inl 10)), .inl (ck_one 13), .inl (ck_one 5), .inl ((-1), 299, [])], ([], [], []), ([(11, 96, 96)], []), [(.inr none, 245, ([], [], []))])
set_option maxRecDepth 100000 in
theorem p2_s716_s {X : Int → Int} {LX : Nat} : ck_Ok p2_O X LX 45 p2_s716 := ck_okq (cuts := []) (f := 116) ⟨p2_nmu, ck_E0⟩ (by decide +kernel)
set_option maxRecDepth 100000 in
/-- GlacierMail$Rows.put -/
noncomputable def p2_s717 : ck_Sum := ((0, 0, 0), 245, [.inr (.inr (.inl 10)), .inl (ck_one 13), .inl (ck_one 6), .inl (0, 299, [])], ([], [], []), ([(11, 97, 97)], []), [(.inr none, 245, ([], [], []))])
set_option maxRecDepth 100000 in
theorem p2_s717_s {X : Int → Int} {LX : Nat} : ck_Ok p2_O X LX 45 p2_s717 := ck_okq (cuts := []) (f := 116) ⟨p2_nmu, ck_E0⟩ (by decide +kernel)
set_option maxRecDepth 100000 in
/-- GlacierMail$Rows.put -/
noncomputable def p2_s718 : ck_Sum := ((0, 0, 0), 245, [.inr (.inr (.inl 14)), .inl (0, 23, []), .inl (ck_one 1), .inl (ck_one 13)], ([], [], []), (zl173, []), [(.inr none, 245, ([], [], []))])
set_option maxRecDepth 100000 in
theorem p2_s718_s {X : Int → Int} {LX : Nat} : ck_Ok p2_O X LX 45 p2_s718 := ck_okq (cuts := []) (f := 116) ⟨p2_nmu, ck_E0⟩ (by decide +kernel)
set_option maxRecDepth 100000 in
/-- GlacierMail$Rows.put -/
noncomputable def p2_s719 : ck_Sum := ((0, 0, 0), 245, [.inr (.inr (.inl 14)), .inl (ck_one (-1)), .inl (ck_one 1), .inl (ck_one 13)], ([], [], []), ([], []), [(.inr none, 245, ([], [], []))])
set_option maxRecDepth 100000 in
theorem p2_s719_s {X : Int → Int} {LX : Nat} : ck_Ok p2_O X LX 45 p2_s719 := ck_okq (cuts := []) (f := 76) ⟨p2_nmu, ck_E0⟩ (by decide +kernel)
set_option maxRecDepth 100000 in
/-- GlacierMail$State.openLetter -/
noncomputable def p2_s720 : ck_Sum := ((1, 0, 0), 245, [.inr (.inr (.inl 3)), .inl (ck_one 13), .inl ((-1), 299, [])], ([], [], [(3, 6, 6, (0, 299, [(10, 0)]))]), ([(11, 96, 97), (14, 3, 3), (15, 0, 71)], []), [(.inr none, 245, ([], [], [(14, 3, 3, (1, 24, []))]))])
set_option maxRecDepth 100000 in
theorem p2_s720_s {X : Int → Int} {LX : Nat} : ck_Ok p2_O X LX 159 p2_s720 := ck_okq (cuts := []) (f := 144) ⟨p2_nmu, ck_E1 (ck_S1 p2_s716_s (ck_S1 p2_s717_s (ck_S1 p2_s583_s (ck_S1 p2_s718_s (ck_S1 p2_s585_s (ck_S1 p2_s586_s (ck_S1 p2_s719_s (ck_S1 p2_s588_s ck_S0)))))))) (ck_E1 (ck_S1 p2_s589_s ck_S0) ck_E0)⟩ (by decide +kernel)
end
/-! 78r80a08.sf -/
section
/-! EVERY CALL ENDS, whatever was done before (laid by wip/am/p2k.py). -/
set_option maxRecDepth 100000 in
/-- GlacierMail.open -/
noncomputable def p2_s721 : ck_Sum := ((8, 2, 12), 245, [.inr (.inr (.inl 1)), .inl (ck_one 13)], ([], zl102, [(3, 6, 6, (0, 299, [(10, 0)]))]), ([(1, 15, 15), (11, 96, 97), (14, 3, 3), (15, 0, 71), (42, 1, 2), (44, 0, 7), (45, 3, 3), (46, 0, 55), (47, 3, 3), (48, 0, 23), (49, 3, 3), (50, 0, 23), (51, 3, 3), (52, 0, 167), (53, 3, 3), (54, 0, 35), (55, 3, 3), (56, 0, 71), (57, 0, 7), (58, 3, 3), (59, 0, 55), (60, 3, 3), (61, 0, 23), (62, 3, 3), (63, 0, 23), (64, 3, 3), (65, 0, 167), (66, 3, 3), (67, 0, 35), (68, 3, 3), (69, 0, 71), (70, 0, 7), (71, 3, 3), (72, 0, 55), (73, 3, 3), (74, 0, 23), (75, 3, 3), (76, 0, 23), (77, 3, 3), (78, 0, 167), (79, 3, 3), (80, 0, 35), (81, 3, 3), (82, 0, 71), (83, 0, 7), (84, 3, 3), (85, 0, 55), (86, 3, 3), (87, 0, 23), (88, 3, 3), (89, 0, 23), (90, 3, 3), (91, 0, 167), (92, 3, 3), (93, 0, 35), (94, 3, 3), (95, 0, 71), (96, 0, 7), (97, 3, 3), (98, 0, 55), (99, 3, 3), (100, 0, 23), (101, 3, 3), (102, 0, 23), (103, 3, 3), (104, 0, 167), (105, 3, 3), (106, 0, 35), (107, 3, 3), (108, 0, 71), (109, 0, 7), (110, 3, 3), (111, 0, 55), (112, 3, 3), (113, 0, 23), (114, 3, 3), (115, 0, 23), (116, 3, 3), (117, 0, 167), (118, 3, 3), (119, 0, 35), (120, 3, 3), (121, 0, 71), (122, 0, 7), (123, 3, 3), (124, 0, 55), (125, 3, 3), (126, 0, 23), (127, 3, 3), (128, 0, 23), (129, 3, 3), (130, 0, 167), (131, 3, 3), (132, 0, 35), (133, 3, 3), (134, 0, 71), (135, 0, 7), (136, 3, 3), (137, 0, 55), (138, 3, 3), (139, 0, 23), (140, 3, 3), (141, 0, 23), (142, 3, 3), (143, 0, 167), (144, 3, 3), (145, 0, 35), (146, 3, 3), (147, 0, 71), (148, 0, 7), (149, 3, 3), (150, 0, 55), (151, 3, 3), (152, 0, 23), (153, 3, 3), (154, 0, 23), (155, 3, 3), (156, 0, 167), (157, 3, 3), (158, 0, 35), (159, 3, 3), (160, 0, 71), (161, 0, 7), (162, 3, 3), (163, 0, 55), (164, 3, 3), (165, 0, 23), (166, 3, 3), (167, 0, 23), (168, 3, 3), (169, 0, 167), (170, 3, 3), (171, 0, 35), (172, 3, 3), (173, 0, 71), (174, 0, 7), (175, 3, 3), (176, 0, 55), (177, 3, 3), (178, 0, 23), (179, 3, 3), (180, 0, 23), (181, 3, 3), (182, 0, 167), (183, 3, 3), (184, 0, 35), (185, 3, 3), (186, 0, 71), (187, 0, 7), (188, 3, 3), (189, 0, 55), (190, 3, 3), (191, 0, 23), (192, 3, 3), (193, 0, 23), (194, 3, 3), (195, 0, 167), (196, 3, 3), (197, 0, 35), (198, 3, 3), (199, 0, 71), (206, 2, 8), (220, 3, 3), (221, 0, 47)], zl104), zl175)
set_option maxRecDepth 100000 in
theorem p2_s721_s {X : Int → Int} {LX : Nat} : ck_Ok p2_O X LX 158 p2_s721 := ck_okq (cuts := []) (f := 140) ⟨p2_nmu, ck_E1 (ck_S1 p2_s713_s ck_S0) (ck_E1 (ck_S1 p2_s349_s ck_S0) (ck_E1 (ck_S1 p2_s715_s ck_S0) (ck_E1 (ck_S1 p2_s529_s ck_S0) (ck_E1 (ck_S1 p2_s335_s ck_S0) (ck_E1 (ck_S1 p2_s720_s ck_S0) ck_E0)))))⟩ (by decide +kernel)
set_option maxRecDepth 100000 in
/-- GlacierMail.need -/
noncomputable def p2_s722 : ck_Sum := ((6, 1, 6), 245, [.inr (.inr (.inl 1)), .inl (ck_one 14), .inl (0, 24, [])], ([], [], []), ([], []), [(.inr none, 245, ([], [], [])), (.inl 3, 245, ([], [], []))])
set_option maxRecDepth 100000 in
theorem p2_s722_s {X : Int → Int} {LX : Nat} : ck_Ok p2_O X LX 133 p2_s722 := ck_okq (cuts := []) (f := 82) ⟨p2_nmu, ck_E0⟩ (by decide +kernel)
set_option maxRecDepth 100000 in
/-- GlacierMail.needLetter -/
noncomputable def p2_s723 : ck_Sum := ((7, 1, 6), 245, [.inr (.inr (.inl 1)), .inl (ck_one 14)], ([], [], []), ([], []), [(.inl 3, 245, ([], [], [])), (.inr none, 245, ([], [], []))])
set_option maxRecDepth 100000 in
theorem p2_s723_s {X : Int → Int} {LX : Nat} : ck_Ok p2_O X LX 143 p2_s723 := ck_okq (cuts := []) (f := 86) ⟨p2_nmu, ck_E1 (ck_S1 p2_s331_s ck_S0) (ck_E1 (ck_S1 p2_s722_s ck_S0) ck_E0)⟩ (by decide +kernel)
set_option maxRecDepth 100000 in
/-- GlacierMail$State.isRock -/
noncomputable def p2_s724 : ck_Sum := ((1, 0, 0), 245, [.inr (.inr (.inl 3)), .inl (ck_one 14)], ([], [], []), ([], []), [(.inr (some (.inl (ck_one 0))), 245, ([], [], [])), (.inr (some (.inl (ck_one 1))), 245, ([], [], []))])
set_option maxRecDepth 100000 in
theorem p2_s724_s {X : Int → Int} {LX : Nat} : ck_Ok p2_O X LX 28 p2_s724 := ck_okq (cuts := []) (f := 90) ⟨p2_nmu, ck_E1 (ck_S1 p2_s335_s ck_S0) ck_E0⟩ (by decide +kernel)
set_option maxRecDepth 100000 in
/-- GlacierMail.waits -/
noncomputable def p2_s725 : ck_Sum := ((2, 0, 0), 245, [.inr (.inr (.inl 1)), .inl (ck_one 14)], ([], [], [(3, 6, 6, (0, 299, [(10, 0)]))]), ([], []), [(.inr (some (.inl (ck_one 0))), 245, ([], [], [])), (.inr (some (.inl (ck_one 1))), 245, ([], [], []))])
set_option maxRecDepth 100000 in
theorem p2_s725_s {X : Int → Int} {LX : Nat} : ck_Ok p2_O X LX 66 p2_s725 := ck_okq (cuts := []) (f := 134) ⟨p2_nmu, ck_E1 (ck_S1 p2_s724_s ck_S0) (ck_E1 (ck_S1 p2_s335_s (ck_S1 p2_s350_s ck_S0)) (ck_E1 (ck_S1 p2_s351_s ck_S0) ck_E0))⟩ (by decide +kernel)
set_option maxRecDepth 100000 in
/-- GlacierMail$Rows.put -/
noncomputable def p2_s726 : ck_Sum := ((0, 0, 0), 245, [.inr (.inr (.inl 10)), .inl (ck_one 14), .inl (ck_one 5), .inl ((-1), 299, [])], ([], [], []), ([(11, 103, 103)], []), [(.inr none, 245, ([], [], []))])
set_option maxRecDepth 100000 in
theorem p2_s726_s {X : Int → Int} {LX : Nat} : ck_Ok p2_O X LX 45 p2_s726 := ck_okq (cuts := []) (f := 116) ⟨p2_nmu, ck_E0⟩ (by decide +kernel)
set_option maxRecDepth 100000 in
/-- GlacierMail$Rows.put -/
noncomputable def p2_s727 : ck_Sum := ((0, 0, 0), 245, [.inr (.inr (.inl 10)), .inl (ck_one 14), .inl (ck_one 6), .inl (0, 299, [])], ([], [], []), ([(11, 104, 104)], []), [(.inr none, 245, ([], [], []))])
set_option maxRecDepth 100000 in
theorem p2_s727_s {X : Int → Int} {LX : Nat} : ck_Ok p2_O X LX 45 p2_s727 := ck_okq (cuts := []) (f := 116) ⟨p2_nmu, ck_E0⟩ (by decide +kernel)
set_option maxRecDepth 100000 in
/-- GlacierMail$Rows.put -/
noncomputable def p2_s728 : ck_Sum := ((0, 0, 0), 245, [.inr (.inr (.inl 14)), .inl (0, 23, []), .inl (ck_one 1), .inl (ck_one 14)], ([], [], []), (zl173, []), [(.inr none, 245, ([], [], []))])
set_option maxRecDepth 100000 in
theorem p2_s728_s {X : Int → Int} {LX : Nat} : ck_Ok p2_O X LX 45 p2_s728 := ck_okq (cuts := []) (f := 116) ⟨p2_nmu, ck_E0⟩ (by decide +kernel)
set_option maxRecDepth 100000 in
/-- GlacierMail$Rows.put -/
noncomputable def p2_s729 : ck_Sum := ((0, 0, 0), 245, [.inr (.inr (.inl 14)), .inl (ck_one (-1)), .inl (ck_one 1), .inl (ck_one 14)], ([], [], []), ([], []), [(.inr none, 245, ([], [], []))])
set_option maxRecDepth 100000 in
theorem p2_s729_s {X : Int → Int} {LX : Nat} : ck_Ok p2_O X LX 45 p2_s729 := ck_okq (cuts := []) (f := 76) ⟨p2_nmu, ck_E0⟩ (by decide +kernel)
set_option maxRecDepth 100000 in
/-- GlacierMail$State.openLetter -/
noncomputable def p2_s730 : ck_Sum := ((1, 0, 0), 245, [.inr (.inr (.inl 3)), .inl (ck_one 14), .inl ((-1), 299, [])], ([], [], [(3, 6, 6, (0, 299, [(10, 0)]))]), ([(11, 103, 104), (14, 3, 3), (15, 0, 71)], []), [(.inr none, 245, ([], [], [(14, 3, 3, (1, 24, []))]))])
set_option maxRecDepth 100000 in
theorem p2_s730_s {X : Int → Int} {LX : Nat} : ck_Ok p2_O X LX 159 p2_s730 := ck_okq (cuts := []) (f := 144) ⟨p2_nmu, ck_E1 (ck_S1 p2_s726_s (ck_S1 p2_s727_s (ck_S1 p2_s583_s (ck_S1 p2_s728_s (ck_S1 p2_s585_s (ck_S1 p2_s586_s (ck_S1 p2_s729_s (ck_S1 p2_s588_s ck_S0)))))))) (ck_E1 (ck_S1 p2_s589_s ck_S0) ck_E0)⟩ (by decide +kernel)
set_option maxRecDepth 100000 in
/-- GlacierMail.open -/
noncomputable def p2_s731 : ck_Sum := ((8, 2, 12), 245, [.inr (.inr (.inl 1)), .inl (ck_one 14)], ([], zl102, [(3, 6, 6, (0, 299, [(10, 0)]))]), ([(1, 15, 15), (11, 103, 104), (14, 3, 3), (15, 0, 71), (42, 1, 2), (44, 0, 7), (45, 3, 3), (46, 0, 55), (47, 3, 3), (48, 0, 23), (49, 3, 3), (50, 0, 23), (51, 3, 3), (52, 0, 167), (53, 3, 3), (54, 0, 35), (55, 3, 3), (56, 0, 71), (57, 0, 7), (58, 3, 3), (59, 0, 55), (60, 3, 3), (61, 0, 23), (62, 3, 3), (63, 0, 23), (64, 3, 3), (65, 0, 167), (66, 3, 3), (67, 0, 35), (68, 3, 3), (69, 0, 71), (70, 0, 7), (71, 3, 3), (72, 0, 55), (73, 3, 3), (74, 0, 23), (75, 3, 3), (76, 0, 23), (77, 3, 3), (78, 0, 167), (79, 3, 3), (80, 0, 35), (81, 3, 3), (82, 0, 71), (83, 0, 7), (84, 3, 3), (85, 0, 55), (86, 3, 3), (87, 0, 23), (88, 3, 3), (89, 0, 23), (90, 3, 3), (91, 0, 167), (92, 3, 3), (93, 0, 35), (94, 3, 3), (95, 0, 71), (96, 0, 7), (97, 3, 3), (98, 0, 55), (99, 3, 3), (100, 0, 23), (101, 3, 3), (102, 0, 23), (103, 3, 3), (104, 0, 167), (105, 3, 3), (106, 0, 35), (107, 3, 3), (108, 0, 71), (109, 0, 7), (110, 3, 3), (111, 0, 55), (112, 3, 3), (113, 0, 23), (114, 3, 3), (115, 0, 23), (116, 3, 3), (117, 0, 167), (118, 3, 3), (119, 0, 35), (120, 3, 3), (121, 0, 71), (122, 0, 7), (123, 3, 3), (124, 0, 55), (125, 3, 3), (126, 0, 23), (127, 3, 3), (128, 0, 23), (129, 3, 3), (130, 0, 167), (131, 3, 3), (132, 0, 35), (133, 3, 3), (134, 0, 71), (135, 0, 7), (136, 3, 3), (137, 0, 55), (138, 3, 3), (139, 0, 23), (140, 3, 3), (141, 0, 23), (142, 3, 3), (143, 0, 167), (144, 3, 3), (145, 0, 35), (146, 3, 3), (147, 0, 71), (148, 0, 7), (149, 3, 3), (150, 0, 55), (151, 3, 3), (152, 0, 23), (153, 3, 3), (154, 0, 23), (155, 3, 3), (156, 0, 167), (157, 3, 3), (158, 0, 35), (159, 3, 3), (160, 0, 71), (161, 0, 7), (162, 3, 3), (163, 0, 55), (164, 3, 3), (165, 0, 23), (166, 3, 3), (167, 0, 23), (168, 3, 3), (169, 0, 167), (170, 3, 3), (171, 0, 35), (172, 3, 3), (173, 0, 71), (174, 0, 7), (175, 3, 3), (176, 0, 55), (177, 3, 3), (178, 0, 23), (179, 3, 3), (180, 0, 23), (181, 3, 3), (182, 0, 167), (183, 3, 3), (184, 0, 35), (185, 3, 3), (186, 0, 71), (187, 0, 7), (188, 3, 3), (189, 0, 55), (190, 3, 3), (191, 0, 23), (192, 3, 3), (193, 0, 23), (194, 3, 3), (195, 0, 167), (196, 3, 3), (197, 0, 35), (198, 3, 3), (199, 0, 71), (206, 2, 8), (220, 3, 3), (221, 0, 47)], zl104), zl175)
set_option maxRecDepth 100000 in
theorem p2_s731_s {X : Int → Int} {LX : Nat} : ck_Ok p2_O X LX 158 p2_s731 := ck_okq (cuts := []) (f := 140) ⟨p2_nmu, ck_E1 (ck_S1 p2_s723_s ck_S0) (ck_E1 (ck_S1 p2_s349_s ck_S0) (ck_E1 (ck_S1 p2_s725_s ck_S0) (ck_E1 (ck_S1 p2_s529_s ck_S0) (ck_E1 (ck_S1 p2_s335_s ck_S0) (ck_E1 (ck_S1 p2_s730_s ck_S0) ck_E0)))))⟩ (by decide +kernel)
set_option maxRecDepth 100000 in
/-- GlacierMail.need -/
noncomputable def p2_s732 : ck_Sum := ((6, 1, 6), 245, [.inr (.inr (.inl 1)), .inl (ck_one 15), .inl (0, 24, [])], ([], [], []), ([], []), [(.inr none, 245, ([], [], [])), (.inl 3, 245, ([], [], []))])
set_option maxRecDepth 100000 in
theorem p2_s732_s {X : Int → Int} {LX : Nat} : ck_Ok p2_O X LX 133 p2_s732 := ck_okq (cuts := []) (f := 82) ⟨p2_nmu, ck_E0⟩ (by decide +kernel)
set_option maxRecDepth 100000 in
/-- GlacierMail.needLetter -/
noncomputable def p2_s733 : ck_Sum := ((7, 1, 6), 245, [.inr (.inr (.inl 1)), .inl (ck_one 15)], ([], [], []), ([], []), [(.inl 3, 245, ([], [], [])), (.inr none, 245, ([], [], []))])
set_option maxRecDepth 100000 in
theorem p2_s733_s {X : Int → Int} {LX : Nat} : ck_Ok p2_O X LX 143 p2_s733 := ck_okq (cuts := []) (f := 86) ⟨p2_nmu, ck_E1 (ck_S1 p2_s331_s ck_S0) (ck_E1 (ck_S1 p2_s732_s ck_S0) ck_E0)⟩ (by decide +kernel)
set_option maxRecDepth 100000 in
/-- GlacierMail$State.isRock -/
noncomputable def p2_s734 : ck_Sum := ((1, 0, 0), 245, [.inr (.inr (.inl 3)), .inl (ck_one 15)], ([], [], []), ([], []), [(.inr (some (.inl (ck_one 0))), 245, ([], [], [])), (.inr (some (.inl (ck_one 1))), 245, ([], [], []))])
set_option maxRecDepth 100000 in
theorem p2_s734_s {X : Int → Int} {LX : Nat} : ck_Ok p2_O X LX 28 p2_s734 := ck_okq (cuts := []) (f := 90) ⟨p2_nmu, ck_E1 (ck_S1 p2_s335_s ck_S0) ck_E0⟩ (by decide +kernel)
set_option maxRecDepth 100000 in
/-- GlacierMail.waits -/
noncomputable def p2_s735 : ck_Sum := ((2, 0, 0), 245, [.inr (.inr (.inl 1)), .inl (ck_one 15)], ([], [], [(3, 6, 6, (0, 299, [(10, 0)]))]), ([], []), [(.inr (some (.inl (ck_one 0))), 245, ([], [], [])), (.inr (some (.inl (ck_one 1))), 245, ([], [], []))])
set_option maxRecDepth 100000 in
theorem p2_s735_s {X : Int → Int} {LX : Nat} : ck_Ok p2_O X LX 66 p2_s735 := ck_okq (cuts := []) (f := 134) ⟨p2_nmu, ck_E1 (ck_S1 p2_s734_s ck_S0) (ck_E1 (ck_S1 p2_s335_s (ck_S1 p2_s350_s ck_S0)) (ck_E1 (ck_S1 p2_s351_s ck_S0) ck_E0))⟩ (by decide +kernel)
set_option maxRecDepth 100000 in
/-- GlacierMail$Rows.put -/
noncomputable def p2_s736 : ck_Sum := ((0, 0, 0), 245, [.inr (.inr (.inl 10)), .inl (ck_one 15), .inl (ck_one 5), .inl ((-1), 299, [])], ([], [], []), ([(11, 110, 110)], []), [(.inr none, 245, ([], [], []))])
set_option maxRecDepth 100000 in
theorem p2_s736_s {X : Int → Int} {LX : Nat} : ck_Ok p2_O X LX 45 p2_s736 := ck_okq (cuts := []) (f := 116) ⟨p2_nmu, ck_E0⟩ (by decide +kernel)
set_option maxRecDepth 100000 in
/-- GlacierMail$Rows.put -/
noncomputable def p2_s737 : ck_Sum := ((0, 0, 0), 245, [.inr (.inr (.inl 10)), .inl (ck_one 15), .inl (ck_one 6), .inl (0, 299, [])], ([], [], []), ([(11, 111, 111)], []), [(.inr none, 245, ([], [], []))])
set_option maxRecDepth 100000 in
theorem p2_s737_s {X : Int → Int} {LX : Nat} : ck_Ok p2_O X LX 45 p2_s737 := ck_okq (cuts := []) (f := 116) ⟨p2_nmu, ck_E0⟩ (by decide +kernel)
set_option maxRecDepth 100000 in
/-- GlacierMail$Rows.put -/
noncomputable def p2_s738 : ck_Sum := ((0, 0, 0), 245, [.inr (.inr (.inl 14)), .inl (0, 23, []), .inl (ck_one 1), .inl (ck_one 15)], ([], [], []), (zl173, []), [(.inr none, 245, ([], [], []))])
set_option maxRecDepth 100000 in
theorem p2_s738_s {X : Int → Int} {LX : Nat} : ck_Ok p2_O X LX 45 p2_s738 := ck_okq (cuts := []) (f := 116) ⟨p2_nmu, ck_E0⟩ (by decide +kernel)
set_option maxRecDepth 100000 in
/-- GlacierMail$Rows.put -/
noncomputable def p2_s739 : ck_Sum := ((0, 0, 0), 245, [.inr (.inr (.inl 14)), .inl (ck_one (-1)), .inl (ck_one 1), .inl (ck_one 15)], ([], [], []), ([], []), [(.inr none, 245, ([], [], []))])
set_option maxRecDepth 100000 in
theorem p2_s739_s {X : Int → Int} {LX : Nat} : ck_Ok p2_O X LX 45 p2_s739 := ck_okq (cuts := []) (f := 76) ⟨p2_nmu, ck_E0⟩ (by decide +kernel)
set_option maxRecDepth 100000 in
/-- GlacierMail$State.openLetter -/
noncomputable def p2_s740 : ck_Sum := ((1, 0, 0), 245, [.inr (.inr (.inl 3)), .inl (ck_one 15), .inl ((-1), 299, [])], ([], [], [(3, 6, 6, (0, 299, [(10, 0)]))]), ([(11, 110, 111), (14, 3, 3), (15, 0, 71)], []), [(.inr none, 245, ([], [], [(14, 3, 3, (1, 24, []))]))])
set_option maxRecDepth 100000 in
theorem p2_s740_s {X : Int → Int} {LX : Nat} : ck_Ok p2_O X LX 159 p2_s740 := ck_okq (cuts := []) (f := 144) ⟨p2_nmu, ck_E1 (ck_S1 p2_s736_s (ck_S1 p2_s737_s (ck_S1 p2_s583_s (ck_S1 p2_s738_s (ck_S1 p2_s585_s (ck_S1 p2_s586_s (ck_S1 p2_s739_s (ck_S1 p2_s588_s ck_S0)))))))) (ck_E1 (ck_S1 p2_s589_s ck_S0) ck_E0)⟩ (by decide +kernel)
set_option maxRecDepth 100000 in
/-- GlacierMail.open -/
noncomputable def p2_s741 : ck_Sum := ((8, 2, 12), 245, [.inr (.inr (.inl 1)), .inl (ck_one 15)], ([], zl102, [(3, 6, 6, (0, 299, [(10, 0)]))]), ([(1, 15, 15), (11, 110, 111), (14, 3, 3), (15, 0, 71), (42, 1, 2), (44, 0, 7), (45, 3, 3), (46, 0, 55), (47, 3, 3), (48, 0, 23), (49, 3, 3), (50, 0, 23), (51, 3, 3), (52, 0, 167), (53, 3, 3), (54, 0, 35), (55, 3, 3), (56, 0, 71), (57, 0, 7), (58, 3, 3), (59, 0, 55), (60, 3, 3), (61, 0, 23), (62, 3, 3), (63, 0, 23), (64, 3, 3), (65, 0, 167), (66, 3, 3), (67, 0, 35), (68, 3, 3), (69, 0, 71), (70, 0, 7), (71, 3, 3), (72, 0, 55), (73, 3, 3), (74, 0, 23), (75, 3, 3), (76, 0, 23), (77, 3, 3), (78, 0, 167), (79, 3, 3), (80, 0, 35), (81, 3, 3), (82, 0, 71), (83, 0, 7), (84, 3, 3), (85, 0, 55), (86, 3, 3), (87, 0, 23), (88, 3, 3), (89, 0, 23), (90, 3, 3), (91, 0, 167), (92, 3, 3), (93, 0, 35), (94, 3, 3), (95, 0, 71), (96, 0, 7), (97, 3, 3), (98, 0, 55), (99, 3, 3), (100, 0, 23), (101, 3, 3), (102, 0, 23), (103, 3, 3), (104, 0, 167), (105, 3, 3), (106, 0, 35), (107, 3, 3), (108, 0, 71), (109, 0, 7), (110, 3, 3), (111, 0, 55), (112, 3, 3), (113, 0, 23), (114, 3, 3), (115, 0, 23), (116, 3, 3), (117, 0, 167), (118, 3, 3), (119, 0, 35), (120, 3, 3), (121, 0, 71), (122, 0, 7), (123, 3, 3), (124, 0, 55), (125, 3, 3), (126, 0, 23), (127, 3, 3), (128, 0, 23), (129, 3, 3), (130, 0, 167), (131, 3, 3), (132, 0, 35), (133, 3, 3), (134, 0, 71), (135, 0, 7), (136, 3, 3), (137, 0, 55), (138, 3, 3), (139, 0, 23), (140, 3, 3), (141, 0, 23), (142, 3, 3), (143, 0, 167), (144, 3, 3), (145, 0, 35), (146, 3, 3), (147, 0, 71), (148, 0, 7), (149, 3, 3), (150, 0, 55), (151, 3, 3), (152, 0, 23), (153, 3, 3), (154, 0, 23), (155, 3, 3), (156, 0, 167), (157, 3, 3), (158, 0, 35), (159, 3, 3), (160, 0, 71), (161, 0, 7), (162, 3, 3), (163, 0, 55), (164, 3, 3), (165, 0, 23), (166, 3, 3), (167, 0, 23), (168, 3, 3), (169, 0, 167), (170, 3, 3), (171, 0, 35), (172, 3, 3), (173, 0, 71), (174, 0, 7), (175, 3, 3), (176, 0, 55), (177, 3, 3), (178, 0, 23), (179, 3, 3), (180, 0, 23), (181, 3, 3), (182, 0, 167), (183, 3, 3), (184, 0, 35), (185, 3, 3), (186, 0, 71), (187, 0, 7), (188, 3, 3), (189, 0, 55), (190, 3, 3), (191, 0, 23), (192, 3, 3), (193, 0, 23), (194, 3, 3), (195, 0, 167), (196, 3, 3), (197, 0, 35), (198, 3, 3), (199, 0, 71), (206, 2, 8), (220, 3, 3), (221, 0, 47)], zl104), zl175)
set_option maxRecDepth 100000 in
theorem p2_s741_s {X : Int → Int} {LX : Nat} : ck_Ok p2_O X LX 158 p2_s741 := ck_okq (cuts := []) (f := 140) ⟨p2_nmu, ck_E1 (ck_S1 p2_s733_s ck_S0) (ck_E1 (ck_S1 p2_s349_s ck_S0) (ck_E1 (ck_S1 p2_s735_s ck_S0) (ck_E1 (ck_S1 p2_s529_s ck_S0) (ck_E1 (ck_S1 p2_s335_s ck_S0) (ck_E1 (ck_S1 p2_s740_s ck_S0) ck_E0)))))⟩ (by decide +kernel)
set_option maxRecDepth 100000 in
/-- GlacierMail.need -/
noncomputable def p2_s742 : ck_Sum := ((6, 1, 6), 245, [.inr (.inr (.inl 1)), .inl (ck_one 16), .inl (0, 24, [])], ([], [], []), ([], []), [(.inr none, 245, ([], [], [])), (.inl 3, 245, ([], [], []))])
set_option maxRecDepth 100000 in
theorem p2_s742_s {X : Int → Int} {LX : Nat} : ck_Ok p2_O X LX 133 p2_s742 := ck_okq (cuts := []) (f := 82) ⟨p2_nmu, ck_E0⟩ (by decide +kernel)
set_option maxRecDepth 100000 in
/-- GlacierMail.needLetter -/
noncomputable def p2_s743 : ck_Sum := ((7, 1, 6), 245, [.inr (.inr (.inl 1)), .inl (ck_one 16)], ([], [], []), ([], []), [(.inl 3, 245, ([], [], [])), (.inr none, 245, ([], [], []))])
set_option maxRecDepth 100000 in
theorem p2_s743_s {X : Int → Int} {LX : Nat} : ck_Ok p2_O X LX 143 p2_s743 := ck_okq (cuts := []) (f := 86) ⟨p2_nmu, ck_E1 (ck_S1 p2_s331_s ck_S0) (ck_E1 (ck_S1 p2_s742_s ck_S0) ck_E0)⟩ (by decide +kernel)
set_option maxRecDepth 100000 in
/-- GlacierMail$State.isRock -/
noncomputable def p2_s744 : ck_Sum := ((1, 0, 0), 245, [.inr (.inr (.inl 3)), .inl (ck_one 16)], ([], [], []), ([], []), [(.inr (some (.inl (ck_one 0))), 245, ([], [], [])), (.inr (some (.inl (ck_one 1))), 245, ([], [], []))])
set_option maxRecDepth 100000 in
theorem p2_s744_s {X : Int → Int} {LX : Nat} : ck_Ok p2_O X LX 28 p2_s744 := ck_okq (cuts := []) (f := 90) ⟨p2_nmu, ck_E1 (ck_S1 p2_s335_s ck_S0) ck_E0⟩ (by decide +kernel)
set_option maxRecDepth 100000 in
/-- GlacierMail.waits -/
noncomputable def p2_s745 : ck_Sum := ((2, 0, 0), 245, [.inr (.inr (.inl 1)), .inl (ck_one 16)], ([], [], [(3, 6, 6, (0, 299, [(10, 0)]))]), ([], []), [(.inr (some (.inl (ck_one 0))), 245, ([], [], [])), (.inr (some (.inl (ck_one 1))), 245, ([], [], []))])
set_option maxRecDepth 100000 in
theorem p2_s745_s {X : Int → Int} {LX : Nat} : ck_Ok p2_O X LX 66 p2_s745 := ck_okq (cuts := []) (f := 134) ⟨p2_nmu, ck_E1 (ck_S1 p2_s744_s ck_S0) (ck_E1 (ck_S1 p2_s335_s (ck_S1 p2_s350_s ck_S0)) (ck_E1 (ck_S1 p2_s351_s ck_S0) ck_E0))⟩ (by decide +kernel)
set_option maxRecDepth 100000 in
/-- GlacierMail$Rows.put -/
noncomputable def p2_s746 : ck_Sum := ((0, 0, 0), 245, [.inr (.inr (.inl 10)), .inl (ck_one 16), .inl (ck_one 5), .inl ((-1), 299, [])], ([], [], []), ([(11, 117, 117)], []), [(.inr none, 245, ([], [], []))])
set_option maxRecDepth 100000 in
theorem p2_s746_s {X : Int → Int} {LX : Nat} : ck_Ok p2_O X LX 45 p2_s746 := ck_okq (cuts := []) (f := 116) ⟨p2_nmu, ck_E0⟩ (by decide +kernel)
set_option maxRecDepth 100000 in
/-- GlacierMail$Rows.put -/
noncomputable def p2_s747 : ck_Sum := ((0, 0, 0), 245, [.inr (.inr (.inl 10)), .inl (ck_one 16), .inl (ck_one 6), .inl (0, 299, [])], ([], [], []), ([(11, 118, 118)], []), [(.inr none, 245, ([], [], []))])
set_option maxRecDepth 100000 in
theorem p2_s747_s {X : Int → Int} {LX : Nat} : ck_Ok p2_O X LX 45 p2_s747 := ck_okq (cuts := []) (f := 116) ⟨p2_nmu, ck_E0⟩ (by decide +kernel)
set_option maxRecDepth 100000 in
/-- GlacierMail$Rows.put -/
noncomputable def p2_s748 : ck_Sum := ((0, 0, 0), 245, [.inr (.inr (.inl 14)), .inl (0, 23, []), .inl (ck_one 1), .inl (ck_one 16)], ([], [], []), (zl173, []), [(.inr none, 245, ([], [], []))])
set_option maxRecDepth 100000 in
theorem p2_s748_s {X : Int → Int} {LX : Nat} : ck_Ok p2_O X LX 45 p2_s748 := ck_okq (cuts := []) (f := 116) ⟨p2_nmu, ck_E0⟩ (by decide +kernel)
set_option maxRecDepth 100000 in
/-- GlacierMail$Rows.put -/
noncomputable def p2_s749 : ck_Sum := ((0, 0, 0), 245, [.inr (.inr (.inl 14)), .inl (ck_one (-1)), .inl (ck_one 1), .inl (ck_one 16)], ([], [], []), ([], []), [(.inr none, 245, ([], [], []))])
set_option maxRecDepth 100000 in
theorem p2_s749_s {X : Int → Int} {LX : Nat} : ck_Ok p2_O X LX 45 p2_s749 := ck_okq (cuts := []) (f := 76) ⟨p2_nmu, ck_E0⟩ (by decide +kernel)
set_option maxRecDepth 100000 in
/-- GlacierMail$State.openLetter -/
noncomputable def p2_s750 : ck_Sum := ((1, 0, 0), 245, [.inr (.inr (.inl 3)), .inl (ck_one 16), .inl ((-1), 299, [])], ([], [], [(3, 6, 6, (0, 299, [(10, 0)]))]), ([(11, 117, 118), (14, 3, 3), (15, 0, 71)], []), [(.inr none, 245, ([], [], [(14, 3, 3, (1, 24, []))]))])
set_option maxRecDepth 100000 in
theorem p2_s750_s {X : Int → Int} {LX : Nat} : ck_Ok p2_O X LX 159 p2_s750 := ck_okq (cuts := []) (f := 144) ⟨p2_nmu, ck_E1 (ck_S1 p2_s746_s (ck_S1 p2_s747_s (ck_S1 p2_s583_s (ck_S1 p2_s748_s (ck_S1 p2_s585_s (ck_S1 p2_s586_s (ck_S1 p2_s749_s (ck_S1 p2_s588_s ck_S0)))))))) (ck_E1 (ck_S1 p2_s589_s ck_S0) ck_E0)⟩ (by decide +kernel)
set_option maxRecDepth 100000 in
/-- GlacierMail.open -/
noncomputable def p2_s751 : ck_Sum := ((8, 2, 12), 245, [.inr (.inr (.inl 1)), .inl (ck_one 16)], ([], zl102, [(3, 6, 6, (0, 299, [(10, 0)]))]), ([(1, 15, 15), (11, 117, 118), (14, 3, 3), (15, 0, 71), (42, 1, 2), (44, 0, 7), (45, 3, 3), (46, 0, 55), (47, 3, 3), (48, 0, 23), (49, 3, 3), (50, 0, 23), (51, 3, 3), (52, 0, 167), (53, 3, 3), (54, 0, 35), (55, 3, 3), (56, 0, 71), (57, 0, 7), (58, 3, 3), (59, 0, 55), (60, 3, 3), (61, 0, 23), (62, 3, 3), (63, 0, 23), (64, 3, 3), (65, 0, 167), (66, 3, 3), (67, 0, 35), (68, 3, 3), (69, 0, 71), (70, 0, 7), (71, 3, 3), (72, 0, 55), (73, 3, 3), (74, 0, 23), (75, 3, 3), (76, 0, 23), (77, 3, 3), (78, 0, 167), (79, 3, 3), (80, 0, 35), (81, 3, 3), (82, 0, 71), (83, 0, 7), (84, 3, 3), (85, 0, 55), (86, 3, 3), (87, 0, 23), (88, 3, 3), (89, 0, 23), (90, 3, 3), (91, 0, 167), (92, 3, 3), (93, 0, 35), (94, 3, 3), (95, 0, 71), (96, 0, 7), (97, 3, 3), (98, 0, 55), (99, 3, 3), (100, 0, 23), (101, 3, 3), (102, 0, 23), (103, 3, 3), (104, 0, 167), (105, 3, 3), (106, 0, 35), (107, 3, 3), (108, 0, 71), (109, 0, 7), (110, 3, 3), (111, 0, 55), (112, 3, 3), (113, 0, 23), (114, 3, 3), (115, 0, 23), (116, 3, 3), (117, 0, 167), (118, 3, 3), (119, 0, 35), (120, 3, 3), (121, 0, 71), (122, 0, 7), (123, 3, 3), (124, 0, 55), (125, 3, 3), (126, 0, 23), (127, 3, 3), (128, 0, 23), (129, 3, 3), (130, 0, 167), (131, 3, 3), (132, 0, 35), (133, 3, 3), (134, 0, 71), (135, 0, 7), (136, 3, 3), (137, 0, 55), (138, 3, 3), (139, 0, 23), (140, 3, 3), (141, 0, 23), (142, 3, 3), (143, 0, 167), (144, 3, 3), (145, 0, 35), (146, 3, 3), (147, 0, 71), (148, 0, 7), (149, 3, 3), (150, 0, 55), (151, 3, 3), (152, 0, 23), (153, 3, 3), (154, 0, 23), (155, 3, 3), (156, 0, 167), (157, 3, 3), (158, 0, 35), (159, 3, 3), (160, 0, 71), (161, 0, 7), (162, 3, 3), (163, 0, 55), (164, 3, 3), (165, 0, 23), (166, 3, 3), (167, 0, 23), (168, 3, 3), (169, 0, 167), (170, 3, 3), (171, 0, 35), (172, 3, 3), (173, 0, 71), (174, 0, 7), (175, 3, 3), (176, 0, 55), (177, 3, 3), (178, 0, 23), (179, 3, 3), (180, 0, 23), (181, 3, 3), (182, 0, 167), (183, 3, 3), (184, 0, 35), (185, 3, 3), (186, 0, 71), (187, 0, 7), (188, 3, 3), (189, 0, 55), (190, 3, 3), (191, 0, 23), (192, 3, 3), (193, 0, 23), (194, 3, 3), (195, 0, 167), (196, 3, 3), (197, 0, 35), (198, 3, 3), (199, 0, 71), (206, 2, 8), (220, 3, 3), (221, 0, 47)], zl104), zl175)
set_option maxRecDepth 100000 in
theorem p2_s751_s {X : Int → Int} {LX : Nat} : ck_Ok p2_O X LX 158 p2_s751 := ck_okq (cuts := []) (f := 140) ⟨p2_nmu, ck_E1 (ck_S1 p2_s743_s ck_S0) (ck_E1 (ck_S1 p2_s349_s ck_S0) (ck_E1 (ck_S1 p2_s745_s ck_S0) (ck_E1 (ck_S1 p2_s529_s ck_S0) (ck_E1 (ck_S1 p2_s335_s ck_S0) (ck_E1 (ck_S1 p2_s750_s ck_S0) ck_E0)))))⟩ (by decide +kernel)
set_option maxRecDepth 100000 in
/-- GlacierMail.need -/
noncomputable def p2_s752 : ck_Sum := ((6, 1, 6), 245, [.inr (.inr (.inl 1)), .inl (ck_one 17), .inl (0, 24, [])], ([], [], []), ([], []), [(.inr none, 245, ([], [], [])), (.inl 3, 245, ([], [], []))])
set_option maxRecDepth 100000 in
theorem p2_s752_s {X : Int → Int} {LX : Nat} : ck_Ok p2_O X LX 133 p2_s752 := ck_okq (cuts := []) (f := 82) ⟨p2_nmu, ck_E0⟩ (by decide +kernel)
set_option maxRecDepth 100000 in
/-- GlacierMail.needLetter -/
noncomputable def p2_s753 : ck_Sum := ((7, 1, 6), 245, [.inr (.inr (.inl 1)), .inl (ck_one 17)], ([], [], []), ([], []), [(.inl 3, 245, ([], [], [])), (.inr none, 245, ([], [], []))])
set_option maxRecDepth 100000 in
theorem p2_s753_s {X : Int → Int} {LX : Nat} : ck_Ok p2_O X LX 143 p2_s753 := ck_okq (cuts := []) (f := 86) ⟨p2_nmu, ck_E1 (ck_S1 p2_s331_s ck_S0) (ck_E1 (ck_S1 p2_s752_s ck_S0) ck_E0)⟩ (by decide +kernel)
set_option maxRecDepth 100000 in
/-- GlacierMail$State.isRock -/
noncomputable def p2_s754 : ck_Sum := ((1, 0, 0), 245, [.inr (.inr (.inl 3)), .inl (ck_one 17)], ([], [], []), ([], []), [(.inr (some (.inl (ck_one 0))), 245, ([], [], [])), (.inr (some (.inl (ck_one 1))), 245, ([], [], []))])
set_option maxRecDepth 100000 in
theorem p2_s754_s {X : Int → Int} {LX : Nat} : ck_Ok p2_O X LX 28 p2_s754 := ck_okq (cuts := []) (f := 90) ⟨p2_nmu, ck_E1 (ck_S1 p2_s335_s ck_S0) ck_E0⟩ (by decide +kernel)
set_option maxRecDepth 100000 in
/-- GlacierMail.waits -/
noncomputable def p2_s755 : ck_Sum := ((2, 0, 0), 245, [.inr (.inr (.inl 1)), .inl (ck_one 17)], ([], [], [(3, 6, 6, (0, 299, [(10, 0)]))]), ([], []), [(.inr (some (.inl (ck_one 0))), 245, ([], [], [])), (.inr (some (.inl (ck_one 1))), 245, ([], [], []))])
set_option maxRecDepth 100000 in
theorem p2_s755_s {X : Int → Int} {LX : Nat} : ck_Ok p2_O X LX 66 p2_s755 := ck_okq (cuts := []) (f := 134) ⟨p2_nmu, ck_E1 (ck_S1 p2_s754_s ck_S0) (ck_E1 (ck_S1 p2_s335_s (ck_S1 p2_s350_s ck_S0)) (ck_E1 (ck_S1 p2_s351_s ck_S0) ck_E0))⟩ (by decide +kernel)
set_option maxRecDepth 100000 in
/-- GlacierMail$Rows.put -/
noncomputable def p2_s756 : ck_Sum := ((0, 0, 0), 245, [.inr (.inr (.inl 10)), .inl (ck_one 17), .inl (ck_one 5), .inl ((-1), 299, [])], ([], [], []), ([(11, 124, 124)], []), [(.inr none, 245, ([], [], []))])
set_option maxRecDepth 100000 in
theorem p2_s756_s {X : Int → Int} {LX : Nat} : ck_Ok p2_O X LX 45 p2_s756 := ck_okq (cuts := []) (f := 116) ⟨p2_nmu, ck_E0⟩ (by decide +kernel)
set_option maxRecDepth 100000 in
/-- GlacierMail$Rows.put -/
noncomputable def p2_s757 : ck_Sum := ((0, 0, 0), 245, [.inr (.inr (.inl 10)), .inl (ck_one 17), .inl (ck_one 6), .inl (0, 299, [])], ([], [], []), ([(11, 125, 125)], []), [(.inr none, 245, ([], [], []))])
set_option maxRecDepth 100000 in
theorem p2_s757_s {X : Int → Int} {LX : Nat} : ck_Ok p2_O X LX 45 p2_s757 := ck_okq (cuts := []) (f := 116) ⟨p2_nmu, ck_E0⟩ (by decide +kernel)
set_option maxRecDepth 100000 in
/-- GlacierMail$Rows.put -/
noncomputable def p2_s758 : ck_Sum := ((0, 0, 0), 245, [.inr (.inr (.inl 14)), .inl (0, 23, []), .inl (ck_one 1), .inl (ck_one 17)], ([], [], []), (zl173, []), [(.inr none, 245, ([], [], []))])
set_option maxRecDepth 100000 in
theorem p2_s758_s {X : Int → Int} {LX : Nat} : ck_Ok p2_O X LX 45 p2_s758 := ck_okq (cuts := []) (f := 116) ⟨p2_nmu, ck_E0⟩ (by decide +kernel)
set_option maxRecDepth 100000 in
/-- GlacierMail$Rows.put -/
noncomputable def p2_s759 : ck_Sum := ((0, 0, 0), 245, [.inr (.inr (.inl 14)), .inl (ck_one (-1)), .inl (ck_one 1), .inl (ck_one 17)], ([], [], []), ([], []), [(.inr none, 245, ([], [], []))])
set_option maxRecDepth 100000 in
theorem p2_s759_s {X : Int → Int} {LX : Nat} : ck_Ok p2_O X LX 45 p2_s759 := ck_okq (cuts := []) (f := 76) ⟨p2_nmu, ck_E0⟩ (by decide +kernel)
set_option maxRecDepth 100000 in
/-- GlacierMail$State.openLetter -/
noncomputable def p2_s760 : ck_Sum := ((1, 0, 0), 245, [.inr (.inr (.inl 3)), .inl (ck_one 17), .inl ((-1), 299, [])], ([], [], [(3, 6, 6, (0, 299, [(10, 0)]))]), ([(11, 124, 125), (14, 3, 3), (15, 0, 71)], []), [(.inr none, 245, ([], [], [(14, 3, 3, (1, 24, []))]))])
set_option maxRecDepth 100000 in
theorem p2_s760_s {X : Int → Int} {LX : Nat} : ck_Ok p2_O X LX 159 p2_s760 := ck_okq (cuts := []) (f := 144) ⟨p2_nmu, ck_E1 (ck_S1 p2_s756_s (ck_S1 p2_s757_s (ck_S1 p2_s583_s (ck_S1 p2_s758_s (ck_S1 p2_s585_s (ck_S1 p2_s586_s (ck_S1 p2_s759_s (ck_S1 p2_s588_s ck_S0)))))))) (ck_E1 (ck_S1 p2_s589_s ck_S0) ck_E0)⟩ (by decide +kernel)
set_option maxRecDepth 100000 in
/-- GlacierMail.open -/
noncomputable def p2_s761 : ck_Sum := ((8, 2, 12), 245, [.inr (.inr (.inl 1)), .inl (ck_one 17)], ([], zl102, [(3, 6, 6, (0, 299, [(10, 0)]))]), ([(1, 15, 15), (11, 124, 125), (14, 3, 3), (15, 0, 71), (42, 1, 2), (44, 0, 7), (45, 3, 3), (46, 0, 55), (47, 3, 3), (48, 0, 23), (49, 3, 3), (50, 0, 23), (51, 3, 3), (52, 0, 167), (53, 3, 3), (54, 0, 35), (55, 3, 3), (56, 0, 71), (57, 0, 7), (58, 3, 3), (59, 0, 55), (60, 3, 3), (61, 0, 23), (62, 3, 3), (63, 0, 23), (64, 3, 3), (65, 0, 167), (66, 3, 3), (67, 0, 35), (68, 3, 3), (69, 0, 71), (70, 0, 7), (71, 3, 3), (72, 0, 55), (73, 3, 3), (74, 0, 23), (75, 3, 3), (76, 0, 23), (77, 3, 3), (78, 0, 167), (79, 3, 3), (80, 0, 35), (81, 3, 3), (82, 0, 71), (83, 0, 7), (84, 3, 3), (85, 0, 55), (86, 3, 3), (87, 0, 23), (88, 3, 3), (89, 0, 23), (90, 3, 3), (91, 0, 167), (92, 3, 3), (93, 0, 35), (94, 3, 3), (95, 0, 71), (96, 0, 7), (97, 3, 3), (98, 0, 55), (99, 3, 3), (100, 0, 23), (101, 3, 3), (102, 0, 23), (103, 3, 3), (104, 0, 167), (105, 3, 3), (106, 0, 35), (107, 3, 3), (108, 0, 71), (109, 0, 7), (110, 3, 3), (111, 0, 55), (112, 3, 3), (113, 0, 23), (114, 3, 3), (115, 0, 23), (116, 3, 3), (117, 0, 167), (118, 3, 3), (119, 0, 35), (120, 3, 3), (121, 0, 71), (122, 0, 7), (123, 3, 3), (124, 0, 55), (125, 3, 3), (126, 0, 23), (127, 3, 3), (128, 0, 23), (129, 3, 3), (130, 0, 167), (131, 3, 3), (132, 0, 35), (133, 3, 3), (134, 0, 71), (135, 0, 7), (136, 3, 3), (137, 0, 55), (138, 3, 3), (139, 0, 23), (140, 3, 3), (141, 0, 23), (142, 3, 3), (143, 0, 167), (144, 3, 3), (145, 0, 35), (146, 3, 3), (147, 0, 71), (148, 0, 7), (149, 3, 3), (150, 0, 55), (151, 3, 3), (152, 0, 23), (153, 3, 3), (154, 0, 23), (155, 3, 3), (156, 0, 167), (157, 3, 3), (158, 0, 35), (159, 3, 3), (160, 0, 71), (161, 0, 7), (162, 3, 3), (163, 0, 55), (164, 3, 3), (165, 0, 23), (166, 3, 3), (167, 0, 23), (168, 3, 3), (169, 0, 167), (170, 3, 3), (171, 0, 35), (172, 3, 3), (173, 0, 71), (174, 0, 7), (175, 3, 3), (176, 0, 55), (177, 3, 3), (178, 0, 23), (179, 3, 3), (180, 0, 23), (181, 3, 3), (182, 0, 167), (183, 3, 3), (184, 0, 35), (185, 3, 3), (186, 0, 71), (187, 0, 7), (188, 3, 3), (189, 0, 55), (190, 3, 3), (191, 0, 23), (192, 3, 3), (193, 0, 23), (194, 3, 3), (195, 0, 167), (196, 3, 3), (197, 0, 35), (198, 3, 3), (199, 0, 71), (206, 2, 8), (220, 3, 3), (221, 0, 47)], zl104), zl175)
set_option maxRecDepth 100000 in
theorem p2_s761_s {X : Int → Int} {LX : Nat} : ck_Ok p2_O X LX 158 p2_s761 := ck_okq (cuts := []) (f := 140) ⟨p2_nmu, ck_E1 (ck_S1 p2_s753_s ck_S0) (ck_E1 (ck_S1 p2_s349_s ck_S0) (ck_E1 (ck_S1 p2_s755_s ck_S0) (ck_E1 (ck_S1 p2_s529_s ck_S0) (ck_E1 (ck_S1 p2_s335_s ck_S0) (ck_E1 (ck_S1 p2_s760_s ck_S0) ck_E0)))))⟩ (by decide +kernel)
set_option maxRecDepth 100000 in
/-- GlacierMail.need -/
noncomputable def p2_s762 : ck_Sum := ((6, 1, 6), 245, [.inr (.inr (.inl 1)), .inl (ck_one 18), .inl (0, 24, [])], ([], [], []), ([], []), [(.inr none, 245, ([], [], [])), (.inl 3, 245, ([], [], []))])
set_option maxRecDepth 100000 in
theorem p2_s762_s {X : Int → Int} {LX : Nat} : ck_Ok p2_O X LX 133 p2_s762 := ck_okq (cuts := []) (f := 82) ⟨p2_nmu, ck_E0⟩ (by decide +kernel)
set_option maxRecDepth 100000 in
/-- GlacierMail.needLetter -/
noncomputable def p2_s763 : ck_Sum := ((7, 1, 6), 245, [.inr (.inr (.inl 1)), .inl (ck_one 18)], ([], [], []), ([], []), [(.inl 3, 245, ([], [], [])), (.inr none, 245, ([], [], []))])
set_option maxRecDepth 100000 in
theorem p2_s763_s {X : Int → Int} {LX : Nat} : ck_Ok p2_O X LX 143 p2_s763 := ck_okq (cuts := []) (f := 86) ⟨p2_nmu, ck_E1 (ck_S1 p2_s331_s ck_S0) (ck_E1 (ck_S1 p2_s762_s ck_S0) ck_E0)⟩ (by decide +kernel)
set_option maxRecDepth 100000 in
/-- GlacierMail$State.isRock -/
noncomputable def p2_s764 : ck_Sum := ((1, 0, 0), 245, [.inr (.inr (.inl 3)), .inl (ck_one 18)], ([], [], []), ([], []), [(.inr (some (.inl (ck_one 0))), 245, ([], [], [])), (.inr (some (.inl (ck_one 1))), 245, ([], [], []))])
set_option maxRecDepth 100000 in
theorem p2_s764_s {X : Int → Int} {LX : Nat} : ck_Ok p2_O X LX 28 p2_s764 := ck_okq (cuts := []) (f := 90) ⟨p2_nmu, ck_E1 (ck_S1 p2_s335_s ck_S0) ck_E0⟩ (by decide +kernel)
set_option maxRecDepth 100000 in
/-- GlacierMail.waits -/
noncomputable def p2_s765 : ck_Sum := ((2, 0, 0), 245, [.inr (.inr (.inl 1)), .inl (ck_one 18)], ([], [], [(3, 6, 6, (0, 299, [(10, 0)]))]), ([], []), [(.inr (some (.inl (ck_one 0))), 245, ([], [], [])), (.inr (some (.inl (ck_one 1))), 245, ([], [], []))])
set_option maxRecDepth 100000 in
theorem p2_s765_s {X : Int → Int} {LX : Nat} : ck_Ok p2_O X LX 66 p2_s765 := ck_okq (cuts := []) (f := 134) ⟨p2_nmu, ck_E1 (ck_S1 p2_s764_s ck_S0) (ck_E1 (ck_S1 p2_s335_s (ck_S1 p2_s350_s ck_S0)) (ck_E1 (ck_S1 p2_s351_s ck_S0) ck_E0))⟩ (by decide +kernel)
set_option maxRecDepth 100000 in
/-- GlacierMail$Rows.put -/
noncomputable def p2_s766 : ck_Sum := ((0, 0, 0), 245, [.inr (.inr (.inl 10)), .inl (ck_one 18), .inl (ck_one 5), .inl ((-1), 299, [])], ([], [], []), ([(11, 131, 131)], []), [(.inr none, 245, ([], [], []))])
set_option maxRecDepth 100000 in
theorem p2_s766_s {X : Int → Int} {LX : Nat} : ck_Ok p2_O X LX 45 p2_s766 := ck_okq (cuts := []) (f := 116) ⟨p2_nmu, ck_E0⟩ (by decide +kernel)
set_option maxRecDepth 100000 in
/-- GlacierMail$Rows.put -/
noncomputable def p2_s767 : ck_Sum := ((0, 0, 0), 245, [.inr (.inr (.inl 10)), .inl (ck_one 18), .inl (ck_one 6), .inl (0, 299, [])], ([], [], []), ([(11, 132, 132)], []), [(.inr none, 245, ([], [], []))])
set_option maxRecDepth 100000 in
theorem p2_s767_s {X : Int → Int} {LX : Nat} : ck_Ok p2_O X LX 45 p2_s767 := ck_okq (cuts := []) (f := 116) ⟨p2_nmu, ck_E0⟩ (by decide +kernel)
set_option maxRecDepth 100000 in
/-- GlacierMail$Rows.put -/
noncomputable def p2_s768 : ck_Sum := ((0, 0, 0), 245, [.inr (.inr (.inl 14)), .inl (0, 23, []), .inl (ck_one 1), .inl (ck_one 18)], ([], [], []), (zl173, []), [(.inr none, 245, ([], [], []))])
set_option maxRecDepth 100000 in
theorem p2_s768_s {X : Int → Int} {LX : Nat} : ck_Ok p2_O X LX 45 p2_s768 := ck_okq (cuts := []) (f := 116) ⟨p2_nmu, ck_E0⟩ (by decide +kernel)
set_option maxRecDepth 100000 in
/-- GlacierMail$Rows.put -/
noncomputable def p2_s769 : ck_Sum := ((0, 0, 0), 245, [.inr (.inr (.inl 14)), .inl (ck_one (-1)), .inl (ck_one 1), .inl (ck_one 18)], ([], [], []), ([], []), [(.inr none, 245, ([], [], []))])
set_option maxRecDepth 100000 in
theorem p2_s769_s {X : Int → Int} {LX : Nat} : ck_Ok p2_O X LX 45 p2_s769 := ck_okq (cuts := []) (f := 76) ⟨p2_nmu, ck_E0⟩ (by decide +kernel)
set_option maxRecDepth 100000 in
/-- GlacierMail$State.openLetter -/
noncomputable def p2_s770 : ck_Sum := ((1, 0, 0), 245, [.inr (.inr (.inl 3)), .inl (ck_one 18), .inl ((-1), 299, [])], ([], [], [(3, 6, 6, (0, 299, [(10, 0)]))]), ([(11, 131, 132), (14, 3, 3), (15, 0, 71)], []), [(.inr none, 245, ([], [], [(14, 3, 3, (1, 24, []))]))])
set_option maxRecDepth 100000 in
theorem p2_s770_s {X : Int → Int} {LX : Nat} : ck_Ok p2_O X LX 159 p2_s770 := ck_okq (cuts := []) (f := 144) ⟨p2_nmu, ck_E1 (ck_S1 p2_s766_s (ck_S1 p2_s767_s (ck_S1 p2_s583_s (ck_S1 p2_s768_s (ck_S1 p2_s585_s (ck_S1 p2_s586_s (ck_S1 p2_s769_s (ck_S1 p2_s588_s ck_S0)))))))) (ck_E1 (ck_S1 p2_s589_s ck_S0) ck_E0)⟩ (by decide +kernel)
set_option maxRecDepth 100000 in
/-- GlacierMail.open -/
noncomputable def p2_s771 : ck_Sum := ((8, 2, 12), 245, [.inr (.inr (.inl 1)), .inl (ck_one 18)], ([], zl102, [(3, 6, 6, (0, 299, [(10, 0)]))]), ([(1, 15, 15), (11, 131, 132), (14, 3, 3), (15, 0, 71), (42, 1, 2), (44, 0, 7), (45, 3, 3), (46, 0, 55), (47, 3, 3), (48, 0, 23), (49, 3, 3), (50, 0, 23), (51, 3, 3), (52, 0, 167), (53, 3, 3), (54, 0, 35), (55, 3, 3), (56, 0, 71), (57, 0, 7), (58, 3, 3), (59, 0, 55), (60, 3, 3), (61, 0, 23), (62, 3, 3), (63, 0, 23), (64, 3, 3), (65, 0, 167), (66, 3, 3), (67, 0, 35), (68, 3, 3), (69, 0, 71), (70, 0, 7), (71, 3, 3), (72, 0, 55), (73, 3, 3), (74, 0, 23), (75, 3, 3), (76, 0, 23), (77, 3, 3), (78, 0, 167), (79, 3, 3), (80, 0, 35), (81, 3, 3), (82, 0, 71), (83, 0, 7), (84, 3, 3), (85, 0, 55), (86, 3, 3), (87, 0, 23), (88, 3, 3), (89, 0, 23), (90, 3, 3), (91, 0, 167), (92, 3, 3), (93, 0, 35), (94, 3, 3), (95, 0, 71), (96, 0, 7), (97, 3, 3), (98, 0, 55), (99, 3, 3), (100, 0, 23), (101, 3, 3), (102, 0, 23), (103, 3, 3), (104, 0, 167), (105, 3, 3), (106, 0, 35), (107, 3, 3), (108, 0, 71), (109, 0, 7), (110, 3, 3), (111, 0, 55), (112, 3, 3), (113, 0, 23), (114, 3, 3), (115, 0, 23), (116, 3, 3), (117, 0, 167), (118, 3, 3), (119, 0, 35), (120, 3, 3), (121, 0, 71), (122, 0, 7), (123, 3, 3), (124, 0, 55), (125, 3, 3), (126, 0, 23), (127, 3, 3), (128, 0, 23), (129, 3, 3), (130, 0, 167), (131, 3, 3), (132, 0, 35), (133, 3, 3), (134, 0, 71), (135, 0, 7), (136, 3, 3), (137, 0, 55), (138, 3, 3), (139, 0, 23), (140, 3, 3), (141, 0, 23), (142, 3, 3), (143, 0, 167), (144, 3, 3), (145, 0, 35), (146, 3, 3), (147, 0, 71), (148, 0, 7), (149, 3, 3), (150, 0, 55), (151, 3, 3), (152, 0, 23), (153, 3, 3), (154, 0, 23), (155, 3, 3), (156, 0, 167), (157, 3, 3), (158, 0, 35), (159, 3, 3), (160, 0, 71), (161, 0, 7), (162, 3, 3), (163, 0, 55), (164, 3, 3), (165, 0, 23), (166, 3, 3), (167, 0, 23), (168, 3, 3), (169, 0, 167), (170, 3, 3), (171, 0, 35), (172, 3, 3), (173, 0, 71), (174, 0, 7), (175, 3, 3), (176, 0, 55), (177, 3, 3), (178, 0, 23), (179, 3, 3), (180, 0, 23), (181, 3, 3), (182, 0, 167), (183, 3, 3), (184, 0, 35), (185, 3, 3), (186, 0, 71), (187, 0, 7), (188, 3, 3), (189, 0, 55), (190, 3, 3), (191, 0, 23), (192, 3, 3), (193, 0, 23), (194, 3, 3), (195, 0, 167), (196, 3, 3), (197, 0, 35), (198, 3, 3), (199, 0, 71), (206, 2, 8), (220, 3, 3), (221, 0, 47)], zl104), zl175)
set_option maxRecDepth 100000 in
theorem p2_s771_s {X : Int → Int} {LX : Nat} : ck_Ok p2_O X LX 158 p2_s771 := ck_okq (cuts := []) (f := 140) ⟨p2_nmu, ck_E1 (ck_S1 p2_s763_s ck_S0) (ck_E1 (ck_S1 p2_s349_s ck_S0) (ck_E1 (ck_S1 p2_s765_s ck_S0) (ck_E1 (ck_S1 p2_s529_s ck_S0) (ck_E1 (ck_S1 p2_s335_s ck_S0) (ck_E1 (ck_S1 p2_s770_s ck_S0) ck_E0)))))⟩ (by decide +kernel)
set_option maxRecDepth 100000 in
/-- GlacierMail.need -/
noncomputable def p2_s772 : ck_Sum := ((6, 1, 6), 245, [.inr (.inr (.inl 1)), .inl (ck_one 19), .inl (0, 24, [])], ([], [], []), ([], []), [(.inr none, 245, ([], [], [])), (.inl 3, 245, ([], [], []))])
set_option maxRecDepth 100000 in
theorem p2_s772_s {X : Int → Int} {LX : Nat} : ck_Ok p2_O X LX 133 p2_s772 := ck_okq (cuts := []) (f := 82) ⟨p2_nmu, ck_E0⟩ (by decide +kernel)
set_option maxRecDepth 100000 in
/-- GlacierMail.needLetter -/
noncomputable def p2_s773 : ck_Sum := ((7, 1, 6), 245, [.inr (.inr (.inl 1)), .inl (ck_one 19)], ([], [], []), ([], []), [(.inl 3, 245, ([], [], [])), (.inr none, 245, ([], [], []))])
set_option maxRecDepth 100000 in
theorem p2_s773_s {X : Int → Int} {LX : Nat} : ck_Ok p2_O X LX 143 p2_s773 := ck_okq (cuts := []) (f := 86) ⟨p2_nmu, ck_E1 (ck_S1 p2_s331_s ck_S0) (ck_E1 (ck_S1 p2_s772_s ck_S0) ck_E0)⟩ (by decide +kernel)
set_option maxRecDepth 100000 in
/-- GlacierMail$State.isRock -/
noncomputable def p2_s774 : ck_Sum := ((1, 0, 0), 245, [.inr (.inr (.inl 3)), .inl (ck_one 19)], ([], [], []), ([], []), [(.inr (some (.inl (ck_one 0))), 245, ([], [], [])), (.inr (some (.inl (ck_one 1))), 245, ([], [], []))])
set_option maxRecDepth 100000 in
theorem p2_s774_s {X : Int → Int} {LX : Nat} : ck_Ok p2_O X LX 28 p2_s774 := ck_okq (cuts := []) (f := 90) ⟨p2_nmu, ck_E1 (ck_S1 p2_s335_s ck_S0) ck_E0⟩ (by decide +kernel)
set_option maxRecDepth 100000 in
/-- GlacierMail.waits -/
noncomputable def p2_s775 : ck_Sum := ((2, 0, 0), 245, [.inr (.inr (.inl 1)), .inl (ck_one 19)], ([], [], [(3, 6, 6, (0, 299, [(10, 0)]))]), ([], []), [(.inr (some (.inl (ck_one 0))), 245, ([], [], [])), (.inr (some (.inl (ck_one 1))), 245, ([], [], []))])
set_option maxRecDepth 100000 in
theorem p2_s775_s {X : Int → Int} {LX : Nat} : ck_Ok p2_O X LX 66 p2_s775 := ck_okq (cuts := []) (f := 134) ⟨p2_nmu, ck_E1 (ck_S1 p2_s774_s ck_S0) (ck_E1 (ck_S1 p2_s335_s (ck_S1 p2_s350_s ck_S0)) (ck_E1 (ck_S1 p2_s351_s ck_S0) ck_E0))⟩ (by decide +kernel)
set_option maxRecDepth 100000 in
/-- GlacierMail$Rows.put -/
noncomputable def p2_s776 : ck_Sum := ((0, 0, 0), 245, [.inr (.inr (.inl 10)), .inl (ck_one 19), .inl (ck_one 5), .inl ((-1), 299, [])], ([], [], []), ([(11, 138, 138)], []), [(.inr none, 245, ([], [], []))])
set_option maxRecDepth 100000 in
theorem p2_s776_s {X : Int → Int} {LX : Nat} : ck_Ok p2_O X LX 45 p2_s776 := ck_okq (cuts := []) (f := 116) ⟨p2_nmu, ck_E0⟩ (by decide +kernel)
set_option maxRecDepth 100000 in
/-- GlacierMail$Rows.put -/
noncomputable def p2_s777 : ck_Sum := ((0, 0, 0), 245, [.inr (.inr (.inl 10)), .inl (ck_one 19), .inl (ck_one 6), .inl (0, 299, [])], ([], [], []), ([(11, 139, 139)], []), [(.inr none, 245, ([], [], []))])
set_option maxRecDepth 100000 in
theorem p2_s777_s {X : Int → Int} {LX : Nat} : ck_Ok p2_O X LX 45 p2_s777 := ck_okq (cuts := []) (f := 116) ⟨p2_nmu, ck_E0⟩ (by decide +kernel)
set_option maxRecDepth 100000 in
/-- GlacierMail$Rows.put -/
noncomputable def p2_s778 : ck_Sum := ((0, 0, 0), 245, [.inr (.inr (.inl 14)), .inl (0, 23, []), .inl (ck_one 1), .inl (ck_one 19)], ([], [], []), (zl173, []), [(.inr none, 245, ([], [], []))])
set_option maxRecDepth 100000 in
theorem p2_s778_s {X : Int → Int} {LX : Nat} : ck_Ok p2_O X LX 45 p2_s778 := ck_okq (cuts := []) (f := 116) ⟨p2_nmu, ck_E0⟩ (by decide +kernel)
set_option maxRecDepth 100000 in
/-- GlacierMail$Rows.put -/
noncomputable def p2_s779 : ck_Sum := ((0, 0, 0), 245, [.inr (.inr (.inl 14)), .inl (ck_one (-1)), .inl (ck_one 1), .inl (ck_one 19)], ([], [], []), ([], []), [(.inr none, 245, ([], [], []))])
set_option maxRecDepth 100000 in
theorem p2_s779_s {X : Int → Int} {LX : Nat} : ck_Ok p2_O X LX 45 p2_s779 := ck_okq (cuts := []) (f := 76) ⟨p2_nmu, ck_E0⟩ (by decide +kernel)
set_option maxRecDepth 100000 in
/-- GlacierMail$State.openLetter -/
noncomputable def p2_s780 : ck_Sum := ((1, 0, 0), 245, [.inr (.inr (.inl 3)), .inl (ck_one 19), .inl ((-1), 299, [])], ([], [], [(3, 6, 6, (0, 299, [(10, 0)]))]), ([(11, 138, 139), (14, 3, 3), (15, 0, 71)], []), [(.inr none, 245, ([], [], [(14, 3, 3, (1, 24, []))]))])
set_option maxRecDepth 100000 in
theorem p2_s780_s {X : Int → Int} {LX : Nat} : ck_Ok p2_O X LX 159 p2_s780 := ck_okq (cuts := []) (f := 144) ⟨p2_nmu, ck_E1 (ck_S1 p2_s776_s (ck_S1 p2_s777_s (ck_S1 p2_s583_s (ck_S1 p2_s778_s (ck_S1 p2_s585_s (ck_S1 p2_s586_s (ck_S1 p2_s779_s (ck_S1 p2_s588_s ck_S0)))))))) (ck_E1 (ck_S1 p2_s589_s ck_S0) ck_E0)⟩ (by decide +kernel)
set_option maxRecDepth 100000 in
/-- GlacierMail.open -/
noncomputable def p2_s781 : ck_Sum := ((8, 2, 12), 245, [.inr (.inr (.inl 1)), .inl (ck_one 19)], ([], zl102, [(3, 6, 6, (0, 299, [(10, 0)]))]), ([(1, 15, 15), (11, 138, 139), (14, 3, 3), (15, 0, 71), (42, 1, 2), (44, 0, 7), (45, 3, 3), (46, 0, 55), (47, 3, 3), (48, 0, 23), (49, 3, 3), (50, 0, 23), (51, 3, 3), (52, 0, 167), (53, 3, 3), (54, 0, 35), (55, 3, 3), (56, 0, 71), (57, 0, 7), (58, 3, 3), (59, 0, 55), (60, 3, 3), (61, 0, 23), (62, 3, 3), (63, 0, 23), (64, 3, 3), (65, 0, 167), (66, 3, 3), (67, 0, 35), (68, 3, 3), (69, 0, 71), (70, 0, 7), (71, 3, 3), (72, 0, 55), (73, 3, 3), (74, 0, 23), (75, 3, 3), (76, 0, 23), (77, 3, 3), (78, 0, 167), (79, 3, 3), (80, 0, 35), (81, 3, 3), (82, 0, 71), (83, 0, 7), (84, 3, 3), (85, 0, 55), (86, 3, 3), (87, 0, 23), (88, 3, 3), (89, 0, 23), (90, 3, 3), (91, 0, 167), (92, 3, 3), (93, 0, 35), (94, 3, 3), (95, 0, 71), (96, 0, 7), (97, 3, 3), (98, 0, 55), (99, 3, 3), (100, 0, 23), (101, 3, 3), (102, 0, 23), (103, 3, 3), (104, 0, 167), (105, 3, 3), (106, 0, 35), (107, 3, 3), (108, 0, 71), (109, 0, 7), (110, 3, 3), (111, 0, 55), (112, 3, 3), (113, 0, 23), (114, 3, 3), (115, 0, 23), (116, 3, 3), (117, 0, 167), (118, 3, 3), (119, 0, 35), (120, 3, 3), (121, 0, 71), (122, 0, 7), (123, 3, 3), (124, 0, 55), (125, 3, 3), (126, 0, 23), (127, 3, 3), (128, 0, 23), (129, 3, 3), (130, 0, 167), (131, 3, 3), (132, 0, 35), (133, 3, 3), (134, 0, 71), (135, 0, 7), (136, 3, 3), (137, 0, 55), (138, 3, 3), (139, 0, 23), (140, 3, 3), (141, 0, 23), (142, 3, 3), (143, 0, 167), (144, 3, 3), (145, 0, 35), (146, 3, 3), (147, 0, 71), (148, 0, 7), (149, 3, 3), (150, 0, 55), (151, 3, 3), (152, 0, 23), (153, 3, 3), (154, 0, 23), (155, 3, 3), (156, 0, 167), (157, 3, 3), (158, 0, 35), (159, 3, 3), (160, 0, 71), (161, 0, 7), (162, 3, 3), (163, 0, 55), (164, 3, 3), (165, 0, 23), (166, 3, 3), (167, 0, 23), (168, 3, 3), (169, 0, 167), (170, 3, 3), (171, 0, 35), (172, 3, 3), (173, 0, 71), (174, 0, 7), (175, 3, 3), (176, 0, 55), (177, 3, 3), (178, 0, 23), (179, 3, 3), (180, 0, 23), (181, 3, 3), (182, 0, 167), (183, 3, 3), (184, 0, 35), (185, 3, 3), (186, 0, 71), (187, 0, 7), (188, 3, 3), (189, 0, 55), (190, 3, 3), (191, 0, 23), (192, 3, 3), (193, 0, 23), (194, 3, 3), (195, 0, 167), (196, 3, 3), (197, 0, 35), (198, 3, 3), (199, 0, 71), (206, 2, 8), (220, 3, 3), (221, 0, 47)], zl104), zl175)
set_option maxRecDepth 100000 in
theorem p2_s781_s {X : Int → Int} {LX : Nat} : ck_Ok p2_O X LX 158 p2_s781 := ck_okq (cuts := []) (f := 140) ⟨p2_nmu, ck_E1 (ck_S1 p2_s773_s ck_S0) (ck_E1 (ck_S1 p2_s349_s ck_S0) (ck_E1 (ck_S1 p2_s775_s ck_S0) (ck_E1 (ck_S1 p2_s529_s ck_S0) (ck_E1 (ck_S1 p2_s335_s ck_S0) (ck_E1 (ck_S1 p2_s780_s ck_S0) ck_E0)))))⟩ (by decide +kernel)
set_option maxRecDepth 100000 in
/-- GlacierMail.need -/
noncomputable def p2_s782 : ck_Sum := ((6, 1, 6), 245, [.inr (.inr (.inl 1)), .inl (ck_one 20), .inl (0, 24, [])], ([], [], []), ([], []), [(.inr none, 245, ([], [], [])), (.inl 3, 245, ([], [], []))])
set_option maxRecDepth 100000 in
theorem p2_s782_s {X : Int → Int} {LX : Nat} : ck_Ok p2_O X LX 133 p2_s782 := ck_okq (cuts := []) (f := 82) ⟨p2_nmu, ck_E0⟩ (by decide +kernel)
set_option maxRecDepth 100000 in
/-- GlacierMail.needLetter -/
noncomputable def p2_s783 : ck_Sum := ((7, 1, 6), 245, [.inr (.inr (.inl 1)), .inl (ck_one 20)], ([], [], []), ([], []), [(.inl 3, 245, ([], [], [])), (.inr none, 245, ([], [], []))])
set_option maxRecDepth 100000 in
theorem p2_s783_s {X : Int → Int} {LX : Nat} : ck_Ok p2_O X LX 143 p2_s783 := ck_okq (cuts := []) (f := 86) ⟨p2_nmu, ck_E1 (ck_S1 p2_s331_s ck_S0) (ck_E1 (ck_S1 p2_s782_s ck_S0) ck_E0)⟩ (by decide +kernel)
set_option maxRecDepth 100000 in
/-- GlacierMail$State.isRock -/
noncomputable def p2_s784 : ck_Sum := ((1, 0, 0), 245, [.inr (.inr (.inl 3)), .inl (ck_one 20)], ([], [], []), ([], []), [(.inr (some (.inl (ck_one 0))), 245, ([], [], [])), (.inr (some (.inl (ck_one 1))), 245, ([], [], []))])
set_option maxRecDepth 100000 in
theorem p2_s784_s {X : Int → Int} {LX : Nat} : ck_Ok p2_O X LX 28 p2_s784 := ck_okq (cuts := []) (f := 90) ⟨p2_nmu, ck_E1 (ck_S1 p2_s335_s ck_S0) ck_E0⟩ (by decide +kernel)
set_option maxRecDepth 100000 in
/-- GlacierMail.waits -/
noncomputable def p2_s785 : ck_Sum := ((2, 0, 0), 245, [.inr (.inr (.inl 1)), .inl (ck_one 20)], ([], [], [(3, 6, 6, (0, 299, [(10, 0)]))]), ([], []), [(.inr (some (.inl (ck_one 0))), 245, ([], [], [])), (.inr (some (.inl (ck_one 1))), 245, ([], [], []))])
set_option maxRecDepth 100000 in
theorem p2_s785_s {X : Int → Int} {LX : Nat} : ck_Ok p2_O X LX 66 p2_s785 := ck_okq (cuts := []) (f := 134) ⟨p2_nmu, ck_E1 (ck_S1 p2_s784_s ck_S0) (ck_E1 (ck_S1 p2_s335_s (ck_S1 p2_s350_s ck_S0)) (ck_E1 (ck_S1 p2_s351_s ck_S0) ck_E0))⟩ (by decide +kernel)
set_option maxRecDepth 100000 in
/-- GlacierMail$Rows.put -/
noncomputable def p2_s786 : ck_Sum := ((0, 0, 0), 245, [.inr (.inr (.inl 10)), .inl (ck_one 20), .inl (ck_one 5), .inl ((-1), 299, [])], ([], [], []), ([(11, 145, 145)], []), [(.inr none, 245, ([], [], []))])
set_option maxRecDepth 100000 in
theorem p2_s786_s {X : Int → Int} {LX : Nat} : ck_Ok p2_O X LX 45 p2_s786 := ck_okq (cuts := []) (f := 116) ⟨p2_nmu, ck_E0⟩ (by decide +kernel)
set_option maxRecDepth 100000 in
/-- GlacierMail$Rows.put -/
noncomputable def p2_s787 : ck_Sum := ((0, 0, 0), 245, [.inr (.inr (.inl 10)), .inl (ck_one 20), .inl (ck_one 6), .inl (0, 299, [])], ([], [], []), ([(11, 146, 146)], []), [(.inr none, 245, ([], [], []))])
set_option maxRecDepth 100000 in
theorem p2_s787_s {X : Int → Int} {LX : Nat} : ck_Ok p2_O X LX 45 p2_s787 := ck_okq (cuts := []) (f := 116) ⟨p2_nmu, ck_E0⟩ (by decide +kernel)
set_option maxRecDepth 100000 in
/-- GlacierMail$Rows.put -/
noncomputable def p2_s788 : ck_Sum := ((0, 0, 0), 245, [.inr (.inr (.inl 14)), .inl (0, 23, []), .inl (ck_one 1), .inl (ck_one 20)], ([], [], []), (zl173, []), [(.inr none, 245, ([], [], []))])
set_option maxRecDepth 100000 in
theorem p2_s788_s {X : Int → Int} {LX : Nat} : ck_Ok p2_O X LX 45 p2_s788 := ck_okq (cuts := []) (f := 116) ⟨p2_nmu, ck_E0⟩ (by decide +kernel)
set_option maxRecDepth 100000 in
/-- GlacierMail$Rows.put -/
noncomputable def p2_s789 : ck_Sum := ((0, 0, 0), 245, [.inr (.inr (.inl 14)), .inl (ck_one (-1)), .inl (ck_one 1), .inl (ck_one 20)], ([], [], []), ([], []), [(.inr none, 245, ([], [], []))])
set_option maxRecDepth 100000 in
theorem p2_s789_s {X : Int → Int} {LX : Nat} : ck_Ok p2_O X LX 45 p2_s789 := ck_okq (cuts := []) (f := 76) ⟨p2_nmu, ck_E0⟩ (by decide +kernel)
set_option maxRecDepth 100000 in
/-- GlacierMail$State.openLetter -/
noncomputable def p2_s790 : ck_Sum := ((1, 0, 0), 245, [.inr (.inr (.inl 3)), .inl (ck_one 20), .inl ((-1), 299, [])], ([], [], [(3, 6, 6, (0, 299, [(10, 0)]))]), ([(11, 145, 146), (14, 3, 3), (15, 0, 71)], []), [(.inr none, 245, ([], [], [(14, 3, 3, (1, 24, []))]))])
set_option maxRecDepth 100000 in
theorem p2_s790_s {X : Int → Int} {LX : Nat} : ck_Ok p2_O X LX 159 p2_s790 := ck_okq (cuts := []) (f := 144) ⟨p2_nmu, ck_E1 (ck_S1 p2_s786_s (ck_S1 p2_s787_s (ck_S1 p2_s583_s (ck_S1 p2_s788_s (ck_S1 p2_s585_s (ck_S1 p2_s586_s (ck_S1 p2_s789_s (ck_S1 p2_s588_s ck_S0)))))))) (ck_E1 (ck_S1 p2_s589_s ck_S0) ck_E0)⟩ (by decide +kernel)
set_option maxRecDepth 100000 in
/-- GlacierMail.open -/
noncomputable def p2_s791 : ck_Sum := ((8, 2, 12), 245, [.inr (.inr (.inl 1)), .inl (ck_one 20)], ([], zl102, [(3, 6, 6, (0, 299, [(10, 0)]))]), ([(1, 15, 15), (11, 145, 146), (14, 3, 3), (15, 0, 71), (42, 1, 2), (44, 0, 7), (45, 3, 3), (46, 0, 55), (47, 3, 3), (48, 0, 23), (49, 3, 3), (50, 0, 23), (51, 3, 3), (52, 0, 167), (53, 3, 3), (54, 0, 35), (55, 3, 3), (56, 0, 71), (57, 0, 7), (58, 3, 3), (59, 0, 55), (60, 3, 3), (61, 0, 23), (62, 3, 3), (63, 0, 23), (64, 3, 3), (65, 0, 167), (66, 3, 3), (67, 0, 35), (68, 3, 3), (69, 0, 71), (70, 0, 7), (71, 3, 3), (72, 0, 55), (73, 3, 3), (74, 0, 23), (75, 3, 3), (76, 0, 23), (77, 3, 3), (78, 0, 167), (79, 3, 3), (80, 0, 35), (81, 3, 3), (82, 0, 71), (83, 0, 7), (84, 3, 3), (85, 0, 55), (86, 3, 3), (87, 0, 23), (88, 3, 3), (89, 0, 23), (90, 3, 3), (91, 0, 167), (92, 3, 3), (93, 0, 35), (94, 3, 3), (95, 0, 71), (96, 0, 7), (97, 3, 3), (98, 0, 55), (99, 3, 3), (100, 0, 23), (101, 3, 3), (102, 0, 23), (103, 3, 3), (104, 0, 167), (105, 3, 3), (106, 0, 35), (107, 3, 3), (108, 0, 71), (109, 0, 7), (110, 3, 3), (111, 0, 55), (112, 3, 3), (113, 0, 23), (114, 3, 3), (115, 0, 23), (116, 3, 3), (117, 0, 167), (118, 3, 3), (119, 0, 35), (120, 3, 3), (121, 0, 71), (122, 0, 7), (123, 3, 3), (124, 0, 55), (125, 3, 3), (126, 0, 23), (127, 3, 3), (128, 0, 23), (129, 3, 3), (130, 0, 167), (131, 3, 3), (132, 0, 35), (133, 3, 3), (134, 0, 71), (135, 0, 7), (136, 3, 3), (137, 0, 55), (138, 3, 3), (139, 0, 23), (140, 3, 3), (141, 0, 23), (142, 3, 3), (143, 0, 167), (144, 3, 3), (145, 0, 35), (146, 3, 3), (147, 0, 71), (148, 0, 7), (149, 3, 3), (150, 0, 55), (151, 3, 3), (152, 0, 23), (153, 3, 3), (154, 0, 23), (155, 3, 3), (156, 0, 167), (157, 3, 3), (158, 0, 35), (159, 3, 3), (160, 0, 71), (161, 0, 7), (162, 3, 3), (163, 0, 55), (164, 3, 3), (165, 0, 23), (166, 3, 3), (167, 0, 23), (168, 3, 3), (169, 0, 167), (170, 3, 3), (171, 0, 35), (172, 3, 3), (173, 0, 71), (174, 0, 7), (175, 3, 3), (176, 0, 55), (177, 3, 3), (178, 0, 23), (179, 3, 3), (180, 0, 23), (181, 3, 3), (182, 0, 167), (183, 3, 3), (184, 0, 35), (185, 3, 3), (186, 0, 71), (187, 0, 7), (188, 3, 3), (189, 0, 55), (190, 3, 3), (191, 0, 23), (192, 3, 3), (193, 0, 23), (194, 3, 3), (195, 0, 167), (196, 3, 3), (197, 0, 35), (198, 3, 3), (199, 0, 71), (206, 2, 8), (220, 3, 3), (221, 0, 47)], zl104), zl175)
set_option maxRecDepth 100000 in
theorem p2_s791_s {X : Int → Int} {LX : Nat} : ck_Ok p2_O X LX 158 p2_s791 := ck_okq (cuts := []) (f := 140) ⟨p2_nmu, ck_E1 (ck_S1 p2_s783_s ck_S0) (ck_E1 (ck_S1 p2_s349_s ck_S0) (ck_E1 (ck_S1 p2_s785_s ck_S0) (ck_E1 (ck_S1 p2_s529_s ck_S0) (ck_E1 (ck_S1 p2_s335_s ck_S0) (ck_E1 (ck_S1 p2_s790_s ck_S0) ck_E0)))))⟩ (by decide +kernel)
set_option maxRecDepth 100000 in
/-- GlacierMail.need -/
noncomputable def p2_s792 : ck_Sum := ((6, 1, 6), 245, [.inr (.inr (.inl 1)), .inl (ck_one 21), .inl (0, 24, [])], ([], [], []), ([], []), [(.inr none, 245, ([], [], [])), (.inl 3, 245, ([], [], []))])
set_option maxRecDepth 100000 in
theorem p2_s792_s {X : Int → Int} {LX : Nat} : ck_Ok p2_O X LX 133 p2_s792 := ck_okq (cuts := []) (f := 82) ⟨p2_nmu, ck_E0⟩ (by decide +kernel)
set_option maxRecDepth 100000 in
/-- GlacierMail.needLetter -/
noncomputable def p2_s793 : ck_Sum := ((7, 1, 6), 245, [.inr (.inr (.inl 1)), .inl (ck_one 21)], ([], [], []), ([], []), [(.inl 3, 245, ([], [], [])), (.inr none, 245, ([], [], []))])
set_option maxRecDepth 100000 in
theorem p2_s793_s {X : Int → Int} {LX : Nat} : ck_Ok p2_O X LX 143 p2_s793 := ck_okq (cuts := []) (f := 86) ⟨p2_nmu, ck_E1 (ck_S1 p2_s331_s ck_S0) (ck_E1 (ck_S1 p2_s792_s ck_S0) ck_E0)⟩ (by decide +kernel)
set_option maxRecDepth 100000 in
/-- GlacierMail$State.isRock -/
noncomputable def p2_s794 : ck_Sum := ((1, 0, 0), 245, [.inr (.inr (.inl 3)), .inl (ck_one 21)], ([], [], []), ([], []), [(.inr (some (.inl (ck_one 0))), 245, ([], [], [])), (.inr (some (.inl (ck_one 1))), 245, ([], [], []))])
set_option maxRecDepth 100000 in
theorem p2_s794_s {X : Int → Int} {LX : Nat} : ck_Ok p2_O X LX 28 p2_s794 := ck_okq (cuts := []) (f := 90) ⟨p2_nmu, ck_E1 (ck_S1 p2_s335_s ck_S0) ck_E0⟩ (by decide +kernel)
set_option maxRecDepth 100000 in
/-- GlacierMail.waits -/
noncomputable def p2_s795 : ck_Sum := ((2, 0, 0), 245, [.inr (.inr (.inl 1)), .inl (ck_one 21)], ([], [], [(3, 6, 6, (0, 299, [(10, 0)]))]), ([], []), [(.inr (some (.inl (ck_one 0))), 245, ([], [], [])), (.inr (some (.inl (ck_one 1))), 245, ([], [], []))])
set_option maxRecDepth 100000 in
theorem p2_s795_s {X : Int → Int} {LX : Nat} : ck_Ok p2_O X LX 66 p2_s795 := ck_okq (cuts := []) (f := 134) ⟨p2_nmu, ck_E1 (ck_S1 p2_s794_s ck_S0) (ck_E1 (ck_S1 p2_s335_s (ck_S1 p2_s350_s ck_S0)) (ck_E1 (ck_S1 p2_s351_s ck_S0) ck_E0))⟩ (by decide +kernel)
set_option maxRecDepth 100000 in
/-- GlacierMail$Rows.put -/
noncomputable def p2_s796 : ck_Sum := ((0, 0, 0), 245, [.inr (.inr (.inl 10)), .inl (ck_one 21), .inl (ck_one 5), .inl ((-1), 299, [])], ([], [], []), ([(11, 152, 152)], []), [(.inr none, 245, ([], [], []))])
set_option maxRecDepth 100000 in
theorem p2_s796_s {X : Int → Int} {LX : Nat} : ck_Ok p2_O X LX 45 p2_s796 := ck_okq (cuts := []) (f := 116) ⟨p2_nmu, ck_E0⟩ (by decide +kernel)
set_option maxRecDepth 100000 in
/-- GlacierMail$Rows.put -/
noncomputable def p2_s797 : ck_Sum := ((0, 0, 0), 245, [.inr (.inr (.inl 10)), .inl (ck_one 21), .inl (ck_one 6), .inl (0, 299, [])], ([], [], []), ([(11, 153, 153)], []), [(.inr none, 245, ([], [], []))])
set_option maxRecDepth 100000 in
theorem p2_s797_s {X : Int → Int} {LX : Nat} : ck_Ok p2_O X LX 45 p2_s797 := ck_okq (cuts := []) (f := 116) ⟨p2_nmu, ck_E0⟩ (by decide +kernel)
set_option maxRecDepth 100000 in
/-- GlacierMail$Rows.put -/
noncomputable def p2_s798 : ck_Sum := ((0, 0, 0), 245, [.inr (.inr (.inl 14)), .inl (0, 23, []), .inl (ck_one 1), .inl (ck_one 21)], ([], [], []), (zl173, []), [(.inr none, 245, ([], [], []))])
set_option maxRecDepth 100000 in
theorem p2_s798_s {X : Int → Int} {LX : Nat} : ck_Ok p2_O X LX 45 p2_s798 := ck_okq (cuts := []) (f := 116) ⟨p2_nmu, ck_E0⟩ (by decide +kernel)
set_option maxRecDepth 100000 in
/-- GlacierMail$Rows.put -/
noncomputable def p2_s799 : ck_Sum := ((0, 0, 0), 245, [.inr (.inr (.inl 14)), .inl (ck_one (-1)), .inl (ck_one 1), .inl (ck_one 21)], ([], [], []), ([], []), [(.inr none, 245, ([], [], []))])
set_option maxRecDepth 100000 in
theorem p2_s799_s {X : Int → Int} {LX : Nat} : ck_Ok p2_O X LX 45 p2_s799 := ck_okq (cuts := []) (f := 76) ⟨p2_nmu, ck_E0⟩ (by decide +kernel)
set_option maxRecDepth 100000 in
/-- GlacierMail$State.openLetter -/
noncomputable def p2_s800 : ck_Sum := ((1, 0, 0), 245, [.inr (.inr (.inl 3)), .inl (ck_one 21), .inl ((-1), 299, [])], ([], [], [(3, 6, 6, (0, 299, [(10, 0)]))]), ([(11, 152, 153), (14, 3, 3), (15, 0, 71)], []), [(.inr none, 245, ([], [], [(14, 3, 3, (1, 24, []))]))])
set_option maxRecDepth 100000 in
theorem p2_s800_s {X : Int → Int} {LX : Nat} : ck_Ok p2_O X LX 159 p2_s800 := ck_okq (cuts := []) (f := 144) ⟨p2_nmu, ck_E1 (ck_S1 p2_s796_s (ck_S1 p2_s797_s (ck_S1 p2_s583_s (ck_S1 p2_s798_s (ck_S1 p2_s585_s (ck_S1 p2_s586_s (ck_S1 p2_s799_s (ck_S1 p2_s588_s ck_S0)))))))) (ck_E1 (ck_S1 p2_s589_s ck_S0) ck_E0)⟩ (by decide +kernel)
set_option maxRecDepth 100000 in
/-- GlacierMail.open -/
noncomputable def p2_s801 : ck_Sum := ((8, 2, 12), 245, [.inr (.inr (.inl 1)), .inl (ck_one 21)], ([], zl102, [(3, 6, 6, (0, 299, [(10, 0)]))]), ([(1, 15, 15), (11, 152, 153), (14, 3, 3), (15, 0, 71), (42, 1, 2), (44, 0, 7), (45, 3, 3), (46, 0, 55), (47, 3, 3), (48, 0, 23), (49, 3, 3), (50, 0, 23), (51, 3, 3), (52, 0, 167), (53, 3, 3), (54, 0, 35), (55, 3, 3), (56, 0, 71), (57, 0, 7), (58, 3, 3), (59, 0, 55), (60, 3, 3), (61, 0, 23), (62, 3, 3), (63, 0, 23), (64, 3, 3), (65, 0, 167), (66, 3, 3), (67, 0, 35), (68, 3, 3), (69, 0, 71), (70, 0, 7), (71, 3, 3), (72, 0, 55), (73, 3, 3), (74, 0, 23), (75, 3, 3), (76, 0, 23), (77, 3, 3), (78, 0, 167), (79, 3, 3), (80, 0, 35), (81, 3, 3), (82, 0, 71), (83, 0, 7), (84, 3, 3), (85, 0, 55), (86, 3, 3), (87, 0, 23), (88, 3, 3), (89, 0, 23), (90, 3, 3), (91, 0, 167), (92, 3, 3), (93, 0, 35), (94, 3, 3), (95, 0, 71), (96, 0, 7), (97, 3, 3), (98, 0, 55), (99, 3, 3), (100, 0, 23), (101, 3, 3), (102, 0, 23), (103, 3, 3), (104, 0, 167), (105, 3, 3), (106, 0, 35), (107, 3, 3), (108, 0, 71), (109, 0, 7), (110, 3, 3), (111, 0, 55), (112, 3, 3), (113, 0, 23), (114, 3, 3), (115, 0, 23), (116, 3, 3), (117, 0, 167), (118, 3, 3), (119, 0, 35), (120, 3, 3), (121, 0, 71), (122, 0, 7), (123, 3, 3), (124, 0, 55), (125, 3, 3), (126, 0, 23), (127, 3, 3), (128, 0, 23), (129, 3, 3), (130, 0, 167), (131, 3, 3), (132, 0, 35), (133, 3, 3), (134, 0, 71), (135, 0, 7), (136, 3, 3), (137, 0, 55), (138, 3, 3), (139, 0, 23), (140, 3, 3), (141, 0, 23), (142, 3, 3), (143, 0, 167), (144, 3, 3), (145, 0, 35), (146, 3, 3), (147, 0, 71), (148, 0, 7), (149, 3, 3), (150, 0, 55), (151, 3, 3), (152, 0, 23), (153, 3, 3), (154, 0, 23), (155, 3, 3), (156, 0, 167), (157, 3, 3), (158, 0, 35), (159, 3, 3), (160, 0, 71), (161, 0, 7), (162, 3, 3), (163, 0, 55), (164, 3, 3), (165, 0, 23), (166, 3, 3), (167, 0, 23), (168, 3, 3), (169, 0, 167), (170, 3, 3), (171, 0, 35), (172, 3, 3), (173, 0, 71), (174, 0, 7), (175, 3, 3), (176, 0, 55), (177, 3, 3), (178, 0, 23), (179, 3, 3), (180, 0, 23), (181, 3, 3), (182, 0, 167), (183, 3, 3), (184, 0, 35), (185, 3, 3), (186, 0, 71), (187, 0, 7), (188, 3, 3), (189, 0, 55), (190, 3, 3), (191, 0, 23), (192, 3, 3), (193, 0, 23), (194, 3, 3), (195, 0, 167), (196, 3, 3), (197, 0, 35), (198, 3, 3), (199, 0, 71), (206, 2, 8), (220, 3, 3), (221, 0, 47)], zl104), zl175)
set_option maxRecDepth 100000 in
theorem p2_s801_s {X : Int → Int} {LX : Nat} : ck_Ok p2_O X LX 158 p2_s801 := ck_okq (cuts := []) (f := 140) ⟨p2_nmu, ck_E1 (ck_S1 p2_s793_s ck_S0) (ck_E1 (ck_S1 p2_s349_s ck_S0) (ck_E1 (ck_S1 p2_s795_s ck_S0) (ck_E1 (ck_S1 p2_s529_s ck_S0) (ck_E1 (ck_S1 p2_s335_s ck_S0) (ck_E1 (ck_S1 p2_s800_s ck_S0) ck_E0)))))⟩ (by decide +kernel)
set_option maxRecDepth 100000 in
/-- GlacierMail.need -/
noncomputable def p2_s802 : ck_Sum := ((6, 1, 6), 245, [.inr (.inr (.inl 1)), .inl (ck_one 22), .inl (0, 24, [])], ([], [], []), ([], []), [(.inr none, 245, ([], [], [])), (.inl 3, 245, ([], [], []))])
set_option maxRecDepth 100000 in
theorem p2_s802_s {X : Int → Int} {LX : Nat} : ck_Ok p2_O X LX 133 p2_s802 := ck_okq (cuts := []) (f := 82) ⟨p2_nmu, ck_E0⟩ (by decide +kernel)
set_option maxRecDepth 100000 in
/-- GlacierMail.needLetter -/
noncomputable def p2_s803 : ck_Sum := ((7, 1, 6), 245, [.inr (.inr (.inl 1)), .inl (ck_one 22)], ([], [], []), ([], []), [(.inl 3, 245, ([], [], [])), (.inr none, 245, ([], [], []))])
set_option maxRecDepth 100000 in
theorem p2_s803_s {X : Int → Int} {LX : Nat} : ck_Ok p2_O X LX 143 p2_s803 := ck_okq (cuts := []) (f := 86) ⟨p2_nmu, ck_E1 (ck_S1 p2_s331_s ck_S0) (ck_E1 (ck_S1 p2_s802_s ck_S0) ck_E0)⟩ (by decide +kernel)
set_option maxRecDepth 100000 in
/-- GlacierMail$State.isRock -/
noncomputable def p2_s804 : ck_Sum := ((1, 0, 0), 245, [.inr (.inr (.inl 3)), .inl (ck_one 22)], ([], [], []), ([], []), [(.inr (some (.inl (ck_one 0))), 245, ([], [], [])), (.inr (some (.inl (ck_one 1))), 245, ([], [], []))])
set_option maxRecDepth 100000 in
theorem p2_s804_s {X : Int → Int} {LX : Nat} : ck_Ok p2_O X LX 28 p2_s804 := ck_okq (cuts := []) (f := 90) ⟨p2_nmu, ck_E1 (ck_S1 p2_s335_s ck_S0) ck_E0⟩ (by decide +kernel)
set_option maxRecDepth 100000 in
/-- GlacierMail.waits -/
noncomputable def p2_s805 : ck_Sum := ((2, 0, 0), 245, [.inr (.inr (.inl 1)), .inl (ck_one 22)], ([], [], [(3, 6, 6, (0, 299, [(10, 0)]))]), ([], []), [(.inr (some (.inl (ck_one 0))), 245, ([], [], [])), (.inr (some (.inl (ck_one 1))), 245, ([], [], []))])
set_option maxRecDepth 100000 in
theorem p2_s805_s {X : Int → Int} {LX : Nat} : ck_Ok p2_O X LX 66 p2_s805 := ck_okq (cuts := []) (f := 134) ⟨p2_nmu, ck_E1 (ck_S1 p2_s804_s ck_S0) (ck_E1 (ck_S1 p2_s335_s (ck_S1 p2_s350_s ck_S0)) (ck_E1 (ck_S1 p2_s351_s ck_S0) ck_E0))⟩ (by decide +kernel)
set_option maxRecDepth 100000 in
/-- GlacierMail$Rows.put -/
noncomputable def p2_s806 : ck_Sum := ((0, 0, 0), 245, [.inr (.inr (.inl 10)), .inl (ck_one 22), .inl (ck_one 5), .inl ((-1), 299, [])], ([], [], []), ([(11, 159, 159)], []), [(.inr none, 245, ([], [], []))])
set_option maxRecDepth 100000 in
theorem p2_s806_s {X : Int → Int} {LX : Nat} : ck_Ok p2_O X LX 45 p2_s806 := ck_okq (cuts := []) (f := 116) ⟨p2_nmu, ck_E0⟩ (by decide +kernel)
set_option maxRecDepth 100000 in
/-- GlacierMail$Rows.put -/
noncomputable def p2_s807 : ck_Sum := ((0, 0, 0), 245, [.inr (.inr (.inl 10)), .inl (ck_one 22), .inl (ck_one 6), .inl (0, 299, [])], ([], [], []), ([(11, 160, 160)], []), [(.inr none, 245, ([], [], []))])
set_option maxRecDepth 100000 in
theorem p2_s807_s {X : Int → Int} {LX : Nat} : ck_Ok p2_O X LX 45 p2_s807 := ck_okq (cuts := []) (f := 116) ⟨p2_nmu, ck_E0⟩ (by decide +kernel)
set_option maxRecDepth 100000 in
/-- GlacierMail$Rows.put -/
noncomputable def p2_s808 : ck_Sum := ((0, 0, 0), 245, [.inr (.inr (.inl 14)), .inl (0, 23, []), .inl (ck_one 1), .inl (ck_one 22)], ([], [], []), (zl173, []), [(.inr none, 245, ([], [], []))])
set_option maxRecDepth 100000 in
theorem p2_s808_s {X : Int → Int} {LX : Nat} : ck_Ok p2_O X LX 45 p2_s808 := ck_okq (cuts := []) (f := 116) ⟨p2_nmu, ck_E0⟩ (by decide +kernel)
set_option maxRecDepth 100000 in
/-- GlacierMail$Rows.put -/
noncomputable def p2_s809 : ck_Sum := ((0, 0, 0), 245, [.inr (.inr (.inl 14)), .inl (ck_one (-1)), .inl (ck_one 1), .inl (ck_one 22)], ([], [], []), ([], []), [(.inr none, 245, ([], [], []))])
set_option maxRecDepth 100000 in
theorem p2_s809_s {X : Int → Int} {LX : Nat} : ck_Ok p2_O X LX 45 p2_s809 := ck_okq (cuts := []) (f := 76) ⟨p2_nmu, ck_E0⟩ (by decide +kernel)
set_option maxRecDepth 100000 in
/-- GlacierMail$State.openLetter -/
noncomputable def p2_s810 : ck_Sum := ((1, 0, 0), 245, [.inr (.inr (.inl 3)), .inl (ck_one 22), .inl ((-1), 299, [])], ([], [], [(3, 6, 6, (0, 299, [(10, 0)]))]), ([(11, 159, 160), (14, 3, 3), (15, 0, 71)], []), [(.inr none, 245, ([], [], [(14, 3, 3, (1, 24, []))]))])
set_option maxRecDepth 100000 in
theorem p2_s810_s {X : Int → Int} {LX : Nat} : ck_Ok p2_O X LX 159 p2_s810 := ck_okq (cuts := []) (f := 144) ⟨p2_nmu, ck_E1 (ck_S1 p2_s806_s (ck_S1 p2_s807_s (ck_S1 p2_s583_s (ck_S1 p2_s808_s (ck_S1 p2_s585_s (ck_S1 p2_s586_s (ck_S1 p2_s809_s (ck_S1 p2_s588_s ck_S0)))))))) (ck_E1 (ck_S1 p2_s589_s ck_S0) ck_E0)⟩ (by decide +kernel)
end
/-! 78r80a09.sf -/
section
/-! EVERY CALL ENDS, whatever was done before (laid by wip/am/p2k.py). -/
set_option maxRecDepth 100000 in
/-- GlacierMail.open -/
noncomputable def p2_s811 : ck_Sum := ((8, 2, 12), 245, [.inr (.inr (.inl 1)), .inl (ck_one 22)], ([], zl102, [(3, 6, 6, (0, 299, [(10, 0)]))]), ([(1, 15, 15), (11, 159, 160), (14, 3, 3), (15, 0, 71), (42, 1, 2), (44, 0, 7), (45, 3, 3), (46, 0, 55), (47, 3, 3), (48, 0, 23), (49, 3, 3), (50, 0, 23), (51, 3, 3), (52, 0, 167), (53, 3, 3), (54, 0, 35), (55, 3, 3), (56, 0, 71), (57, 0, 7), (58, 3, 3), (59, 0, 55), (60, 3, 3), (61, 0, 23), (62, 3, 3), (63, 0, 23), (64, 3, 3), (65, 0, 167), (66, 3, 3), (67, 0, 35), (68, 3, 3), (69, 0, 71), (70, 0, 7), (71, 3, 3), (72, 0, 55), (73, 3, 3), (74, 0, 23), (75, 3, 3), (76, 0, 23), (77, 3, 3), (78, 0, 167), (79, 3, 3), (80, 0, 35), (81, 3, 3), (82, 0, 71), (83, 0, 7), (84, 3, 3), (85, 0, 55), (86, 3, 3), (87, 0, 23), (88, 3, 3), (89, 0, 23), (90, 3, 3), (91, 0, 167), (92, 3, 3), (93, 0, 35), (94, 3, 3), (95, 0, 71), (96, 0, 7), (97, 3, 3), (98, 0, 55), (99, 3, 3), (100, 0, 23), (101, 3, 3), (102, 0, 23), (103, 3, 3), (104, 0, 167), (105, 3, 3), (106, 0, 35), (107, 3, 3), (108, 0, 71), (109, 0, 7), (110, 3, 3), (111, 0, 55), (112, 3, 3), (113, 0, 23), (114, 3, 3), (115, 0, 23), (116, 3, 3), (117, 0, 167), (118, 3, 3), (119, 0, 35), (120, 3, 3), (121, 0, 71), (122, 0, 7), (123, 3, 3), (124, 0, 55), (125, 3, 3), (126, 0, 23), (127, 3, 3), (128, 0, 23), (129, 3, 3), (130, 0, 167), (131, 3, 3), (132, 0, 35), (133, 3, 3), (134, 0, 71), (135, 0, 7), (136, 3, 3), (137, 0, 55), (138, 3, 3), (139, 0, 23), (140, 3, 3), (141, 0, 23), (142, 3, 3), (143, 0, 167), (144, 3, 3), (145, 0, 35), (146, 3, 3), (147, 0, 71), (148, 0, 7), (149, 3, 3), (150, 0, 55), (151, 3, 3), (152, 0, 23), (153, 3, 3), (154, 0, 23), (155, 3, 3), (156, 0, 167), (157, 3, 3), (158, 0, 35), (159, 3, 3), (160, 0, 71), (161, 0, 7), (162, 3, 3), (163, 0, 55), (164, 3, 3), (165, 0, 23), (166, 3, 3), (167, 0, 23), (168, 3, 3), (169, 0, 167), (170, 3, 3), (171, 0, 35), (172, 3, 3), (173, 0, 71), (174, 0, 7), (175, 3, 3), (176, 0, 55), (177, 3, 3), (178, 0, 23), (179, 3, 3), (180, 0, 23), (181, 3, 3), (182, 0, 167), (183, 3, 3), (184, 0, 35), (185, 3, 3), (186, 0, 71), (187, 0, 7), (188, 3, 3), (189, 0, 55), (190, 3, 3), (191, 0, 23), (192, 3, 3), (193, 0, 23), (194, 3, 3), (195, 0, 167), (196, 3, 3), (197, 0, 35), (198, 3, 3), (199, 0, 71), (206, 2, 8), (220, 3, 3), (221, 0, 47)], zl104), zl175)
set_option maxRecDepth 100000 in
theorem p2_s811_s {X : Int → Int} {LX : Nat} : ck_Ok p2_O X LX 158 p2_s811 := ck_okq (cuts := []) (f := 140) ⟨p2_nmu, ck_E1 (ck_S1 p2_s803_s ck_S0) (ck_E1 (ck_S1 p2_s349_s ck_S0) (ck_E1 (ck_S1 p2_s805_s ck_S0) (ck_E1 (ck_S1 p2_s529_s ck_S0) (ck_E1 (ck_S1 p2_s335_s ck_S0) (ck_E1 (ck_S1 p2_s810_s ck_S0) ck_E0)))))⟩ (by decide +kernel)
set_option maxRecDepth 100000 in
/-- GlacierMail.need -/
noncomputable def p2_s812 : ck_Sum := ((6, 1, 6), 245, [.inr (.inr (.inl 1)), .inl (ck_one 23), .inl (0, 24, [])], ([], [], []), ([], []), [(.inr none, 245, ([], [], [])), (.inl 3, 245, ([], [], []))])
set_option maxRecDepth 100000 in
theorem p2_s812_s {X : Int → Int} {LX : Nat} : ck_Ok p2_O X LX 133 p2_s812 := ck_okq (cuts := []) (f := 82) ⟨p2_nmu, ck_E0⟩ (by decide +kernel)
set_option maxRecDepth 100000 in
/-- GlacierMail.needLetter -/
noncomputable def p2_s813 : ck_Sum := ((7, 1, 6), 245, [.inr (.inr (.inl 1)), .inl (ck_one 23)], ([], [], []), ([], []), [(.inl 3, 245, ([], [], [])), (.inr none, 245, ([], [], []))])
set_option maxRecDepth 100000 in
theorem p2_s813_s {X : Int → Int} {LX : Nat} : ck_Ok p2_O X LX 143 p2_s813 := ck_okq (cuts := []) (f := 86) ⟨p2_nmu, ck_E1 (ck_S1 p2_s331_s ck_S0) (ck_E1 (ck_S1 p2_s812_s ck_S0) ck_E0)⟩ (by decide +kernel)
set_option maxRecDepth 100000 in
/-- GlacierMail$State.isRock -/
noncomputable def p2_s814 : ck_Sum := ((1, 0, 0), 245, [.inr (.inr (.inl 3)), .inl (ck_one 23)], ([], [], []), ([], []), [(.inr (some (.inl (ck_one 0))), 245, ([], [], [])), (.inr (some (.inl (ck_one 1))), 245, ([], [], []))])
set_option maxRecDepth 100000 in
theorem p2_s814_s {X : Int → Int} {LX : Nat} : ck_Ok p2_O X LX 28 p2_s814 := ck_okq (cuts := []) (f := 90) ⟨p2_nmu, ck_E1 (ck_S1 p2_s335_s ck_S0) ck_E0⟩ (by decide +kernel)
set_option maxRecDepth 100000 in
/-- GlacierMail.waits -/
noncomputable def p2_s815 : ck_Sum := ((2, 0, 0), 245, [.inr (.inr (.inl 1)), .inl (ck_one 23)], ([], [], [(3, 6, 6, (0, 299, [(10, 0)]))]), ([], []), [(.inr (some (.inl (ck_one 0))), 245, ([], [], [])), (.inr (some (.inl (ck_one 1))), 245, ([], [], []))])
set_option maxRecDepth 100000 in
theorem p2_s815_s {X : Int → Int} {LX : Nat} : ck_Ok p2_O X LX 66 p2_s815 := ck_okq (cuts := []) (f := 134) ⟨p2_nmu, ck_E1 (ck_S1 p2_s814_s ck_S0) (ck_E1 (ck_S1 p2_s335_s (ck_S1 p2_s350_s ck_S0)) (ck_E1 (ck_S1 p2_s351_s ck_S0) ck_E0))⟩ (by decide +kernel)
set_option maxRecDepth 100000 in
/-- GlacierMail$Rows.put -/
noncomputable def p2_s816 : ck_Sum := ((0, 0, 0), 245, [.inr (.inr (.inl 10)), .inl (ck_one 23), .inl (ck_one 5), .inl ((-1), 299, [])], ([], [], []), ([(11, 166, 166)], []), [(.inr none, 245, ([], [], []))])
set_option maxRecDepth 100000 in
theorem p2_s816_s {X : Int → Int} {LX : Nat} : ck_Ok p2_O X LX 45 p2_s816 := ck_okq (cuts := []) (f := 116) ⟨p2_nmu, ck_E0⟩ (by decide +kernel)
set_option maxRecDepth 100000 in
/-- GlacierMail$Rows.put -/
noncomputable def p2_s817 : ck_Sum := ((0, 0, 0), 245, [.inr (.inr (.inl 10)), .inl (ck_one 23), .inl (ck_one 6), .inl (0, 299, [])], ([], [], []), ([(11, 167, 167)], []), [(.inr none, 245, ([], [], []))])
set_option maxRecDepth 100000 in
theorem p2_s817_s {X : Int → Int} {LX : Nat} : ck_Ok p2_O X LX 45 p2_s817 := ck_okq (cuts := []) (f := 116) ⟨p2_nmu, ck_E0⟩ (by decide +kernel)
set_option maxRecDepth 100000 in
/-- GlacierMail$Rows.put -/
noncomputable def p2_s818 : ck_Sum := ((0, 0, 0), 245, [.inr (.inr (.inl 14)), .inl (0, 23, []), .inl (ck_one 1), .inl (ck_one 23)], ([], [], []), (zl173, []), [(.inr none, 245, ([], [], []))])
set_option maxRecDepth 100000 in
theorem p2_s818_s {X : Int → Int} {LX : Nat} : ck_Ok p2_O X LX 45 p2_s818 := ck_okq (cuts := []) (f := 116) ⟨p2_nmu, ck_E0⟩ (by decide +kernel)
set_option maxRecDepth 100000 in
/-- GlacierMail$Rows.put -/
noncomputable def p2_s819 : ck_Sum := ((0, 0, 0), 245, [.inr (.inr (.inl 14)), .inl (ck_one (-1)), .inl (ck_one 1), .inl (ck_one 23)], ([], [], []), ([], []), [(.inr none, 245, ([], [], []))])
set_option maxRecDepth 100000 in
theorem p2_s819_s {X : Int → Int} {LX : Nat} : ck_Ok p2_O X LX 45 p2_s819 := ck_okq (cuts := []) (f := 76) ⟨p2_nmu, ck_E0⟩ (by decide +kernel)
set_option maxRecDepth 100000 in
/-- GlacierMail$State.openLetter -/
noncomputable def p2_s820 : ck_Sum := ((1, 0, 0), 245, [.inr (.inr (.inl 3)), .inl (ck_one 23), .inl ((-1), 299, [])], ([], [], [(3, 6, 6, (0, 299, [(10, 0)]))]), ([(11, 166, 167), (14, 3, 3), (15, 0, 71)], []), [(.inr none, 245, ([], [], [(14, 3, 3, (1, 24, []))]))])
set_option maxRecDepth 100000 in
theorem p2_s820_s {X : Int → Int} {LX : Nat} : ck_Ok p2_O X LX 159 p2_s820 := ck_okq (cuts := []) (f := 144) ⟨p2_nmu, ck_E1 (ck_S1 p2_s816_s (ck_S1 p2_s817_s (ck_S1 p2_s583_s (ck_S1 p2_s818_s (ck_S1 p2_s585_s (ck_S1 p2_s586_s (ck_S1 p2_s819_s (ck_S1 p2_s588_s ck_S0)))))))) (ck_E1 (ck_S1 p2_s589_s ck_S0) ck_E0)⟩ (by decide +kernel)
set_option maxRecDepth 100000 in
/-- GlacierMail.open -/
noncomputable def p2_s821 : ck_Sum := ((8, 2, 12), 245, [.inr (.inr (.inl 1)), .inl (ck_one 23)], ([], zl102, [(3, 6, 6, (0, 299, [(10, 0)]))]), ([(1, 15, 15), (11, 166, 167), (14, 3, 3), (15, 0, 71), (42, 1, 2), (44, 0, 7), (45, 3, 3), (46, 0, 55), (47, 3, 3), (48, 0, 23), (49, 3, 3), (50, 0, 23), (51, 3, 3), (52, 0, 167), (53, 3, 3), (54, 0, 35), (55, 3, 3), (56, 0, 71), (57, 0, 7), (58, 3, 3), (59, 0, 55), (60, 3, 3), (61, 0, 23), (62, 3, 3), (63, 0, 23), (64, 3, 3), (65, 0, 167), (66, 3, 3), (67, 0, 35), (68, 3, 3), (69, 0, 71), (70, 0, 7), (71, 3, 3), (72, 0, 55), (73, 3, 3), (74, 0, 23), (75, 3, 3), (76, 0, 23), (77, 3, 3), (78, 0, 167), (79, 3, 3), (80, 0, 35), (81, 3, 3), (82, 0, 71), (83, 0, 7), (84, 3, 3), (85, 0, 55), (86, 3, 3), (87, 0, 23), (88, 3, 3), (89, 0, 23), (90, 3, 3), (91, 0, 167), (92, 3, 3), (93, 0, 35), (94, 3, 3), (95, 0, 71), (96, 0, 7), (97, 3, 3), (98, 0, 55), (99, 3, 3), (100, 0, 23), (101, 3, 3), (102, 0, 23), (103, 3, 3), (104, 0, 167), (105, 3, 3), (106, 0, 35), (107, 3, 3), (108, 0, 71), (109, 0, 7), (110, 3, 3), (111, 0, 55), (112, 3, 3), (113, 0, 23), (114, 3, 3), (115, 0, 23), (116, 3, 3), (117, 0, 167), (118, 3, 3), (119, 0, 35), (120, 3, 3), (121, 0, 71), (122, 0, 7), (123, 3, 3), (124, 0, 55), (125, 3, 3), (126, 0, 23), (127, 3, 3), (128, 0, 23), (129, 3, 3), (130, 0, 167), (131, 3, 3), (132, 0, 35), (133, 3, 3), (134, 0, 71), (135, 0, 7), (136, 3, 3), (137, 0, 55), (138, 3, 3), (139, 0, 23), (140, 3, 3), (141, 0, 23), (142, 3, 3), (143, 0, 167), (144, 3, 3), (145, 0, 35), (146, 3, 3), (147, 0, 71), (148, 0, 7), (149, 3, 3), (150, 0, 55), (151, 3, 3), (152, 0, 23), (153, 3, 3), (154, 0, 23), (155, 3, 3), (156, 0, 167), (157, 3, 3), (158, 0, 35), (159, 3, 3), (160, 0, 71), (161, 0, 7), (162, 3, 3), (163, 0, 55), (164, 3, 3), (165, 0, 23), (166, 3, 3), (167, 0, 23), (168, 3, 3), (169, 0, 167), (170, 3, 3), (171, 0, 35), (172, 3, 3), (173, 0, 71), (174, 0, 7), (175, 3, 3), (176, 0, 55), (177, 3, 3), (178, 0, 23), (179, 3, 3), (180, 0, 23), (181, 3, 3), (182, 0, 167), (183, 3, 3), (184, 0, 35), (185, 3, 3), (186, 0, 71), (187, 0, 7), (188, 3, 3), (189, 0, 55), (190, 3, 3), (191, 0, 23), (192, 3, 3), (193, 0, 23), (194, 3, 3), (195, 0, 167), (196, 3, 3), (197, 0, 35), (198, 3, 3), (199, 0, 71), (206, 2, 8), (220, 3, 3), (221, 0, 47)], zl104), zl175)
set_option maxRecDepth 100000 in
theorem p2_s821_s {X : Int → Int} {LX : Nat} : ck_Ok p2_O X LX 158 p2_s821 := ck_okq (cuts := []) (f := 140) ⟨p2_nmu, ck_E1 (ck_S1 p2_s813_s ck_S0) (ck_E1 (ck_S1 p2_s349_s ck_S0) (ck_E1 (ck_S1 p2_s815_s ck_S0) (ck_E1 (ck_S1 p2_s529_s ck_S0) (ck_E1 (ck_S1 p2_s335_s ck_S0) (ck_E1 (ck_S1 p2_s820_s ck_S0) ck_E0)))))⟩ (by decide +kernel)
set_option maxRecDepth 100000 in
/-- GlacierMailModel.open -/
noncomputable def p2_s822 : ck_Sum := ((2, 0, 0), 245, [.inr (.inr (.inl 226)), .inl ((-2147483648), (-1), [])], ([], [], [(227, 4, 4, (0, 24, [(22, 0)]))]), ([(226, 0, 0)], []), [(.inr (some (.inl (ck_one 0))), 245, ([], [], [(226, 0, 0, ck_one 1)]))])
set_option maxRecDepth 100000 in
theorem p2_s822_s {X : Int → Int} {LX : Nat} : ck_Ok p2_O X LX 318 p2_s822 := ck_okq (cuts := []) (f := 94) ⟨p2_nmu, ck_E1 (ck_S1 p2_s400_s ck_S0) (ck_E1 (ck_S1 p2_s241_s ck_S0) ck_E0)⟩ (by decide +kernel)
set_option maxRecDepth 100000 in
/-- GlacierMailModel.open -/
noncomputable def p2_s823 : ck_Sum := ((2, 0, 0), 245, [.inr (.inr (.inl 226)), .inl (24, 2147483647, [])], ([], [], [(227, 4, 4, (0, 24, [(22, 0)]))]), ([(226, 0, 0)], []), [(.inr (some (.inl (ck_one 0))), 245, ([], [], [(226, 0, 0, ck_one 1)]))])
set_option maxRecDepth 100000 in
theorem p2_s823_s {X : Int → Int} {LX : Nat} : ck_Ok p2_O X LX 318 p2_s823 := ck_okq (cuts := []) (f := 94) ⟨p2_nmu, ck_E1 (ck_S1 p2_s403_s ck_S0) (ck_E1 (ck_S1 p2_s241_s ck_S0) ck_E0)⟩ (by decide +kernel)
set_option maxRecDepth 100000 in
/-- GlacierMailModel.in -/
noncomputable def p2_s824 : ck_Sum := ((0, 0, 0), 245, [.inl (ck_one 0), .inl (ck_one 0), .inl ((-1), 23, [])], ([], [], []), ([], []), [(.inr (some (.inl (ck_one 0))), 245, ([], [], [])), (.inr (some (.inl (ck_one 1))), 245, ([], [], []))])
set_option maxRecDepth 100000 in
theorem p2_s824_s {X : Int → Int} {LX : Nat} : ck_Ok p2_O X LX 286 p2_s824 := ck_okq (cuts := []) (f := 88) ⟨p2_nmu, ck_E0⟩ (by decide +kernel)
set_option maxRecDepth 100000 in
/-- GlacierMailModel.noLetter -/
noncomputable def p2_s825 : ck_Sum := ((1, 0, 0), 245, [.inr (.inr (.inl 226)), .inl (ck_one 0)], ([], [], [(227, 4, 4, (0, 24, [(22, 0)]))]), ([], []), [(.inr (some (.inl (ck_one 1))), 245, ([], [], [])), (.inr (some (.inl (ck_one 0))), 245, ([], [], []))])
set_option maxRecDepth 100000 in
theorem p2_s825_s {X : Int → Int} {LX : Nat} : ck_Ok p2_O X LX 309 p2_s825 := ck_okq (cuts := []) (f := 92) ⟨p2_nmu, ck_E1 (ck_S1 p2_s176_s ck_S0) (ck_E1 (ck_S1 p2_s824_s ck_S0) ck_E0)⟩ (by decide +kernel)
set_option maxRecDepth 100000 in
/-- GlacierMailModel.ofLetter -/
noncomputable def p2_s826 : ck_Sum := ((0, 0, 0), 245, [.inr (.inr (.inl 226)), .inl (ck_one 0), .inl (ck_one 0)], ([], [], []), ([], []), [(.inr (some (.inl (ck_one (-1)))), 245, ([], [], [(227, 119, 119, ck_one (-1))])), (.inr (some (.inl (0, 7, []))), 245, ([], [], [(227, 119, 119, (0, 7, []))]))])
set_option maxRecDepth 100000 in
theorem p2_s826_s {X : Int → Int} {LX : Nat} : ck_Ok p2_O X LX 301 p2_s826 := ck_okq (cuts := []) (f := 92) ⟨p2_nmu, ck_E0⟩ (by decide +kernel)
set_option maxRecDepth 100000 in
/-- GlacierMailModel.isRock -/
noncomputable def p2_s827 : ck_Sum := ((1, 0, 0), 245, [.inr (.inr (.inl 226)), .inl (ck_one 0)], ([], [], []), ([], []), [(.inr (some (.inl (ck_one 1))), 245, ([], [], [(227, 119, 119, ck_one (-1))])), (.inr (some (.inl (ck_one 0))), 245, ([], [], [(227, 119, 119, (0, 7, []))]))])
set_option maxRecDepth 100000 in
theorem p2_s827_s {X : Int → Int} {LX : Nat} : ck_Ok p2_O X LX 303 p2_s827 := ck_okq (cuts := []) (f := 86) ⟨p2_nmu, ck_E1 (ck_S1 p2_s826_s ck_S0) ck_E0⟩ (by decide +kernel)
set_option maxRecDepth 100000 in
/-- GlacierMailModel.ofLetter -/
noncomputable def p2_s828 : ck_Sum := ((0, 0, 0), 245, [.inr (.inr (.inl 226)), .inl (ck_one 0), .inl (ck_one 5)], ([], [], []), ([], []), [(.inr (some (.inl (ck_one (-1)))), 245, ([], [], [(227, 124, 124, ck_one (-1))])), (.inr (some (.inl (0, 7, []))), 245, ([], [], [(227, 124, 124, (0, 7, []))]))])
set_option maxRecDepth 100000 in
theorem p2_s828_s {X : Int → Int} {LX : Nat} : ck_Ok p2_O X LX 301 p2_s828 := ck_okq (cuts := []) (f := 92) ⟨p2_nmu, ck_E0⟩ (by decide +kernel)
set_option maxRecDepth 100000 in
/-- GlacierMailModel.isWaiting -/
noncomputable def p2_s829 : ck_Sum := ((8, 0, 0), 245, [.inr (.inr (.inl 226)), .inl (ck_one 0)], ([], [], zl83), (zl81, []), [(.inr (some (.inl (ck_one 0))), 245, ([], [], [])), (.inr (some (.inl (ck_one 1))), 245, ([], [], [(226, 29, 29, (0, 299, [])), (227, 124, 124, ck_one (-1)), (227, 119, 119, (0, 7, []))]))])
set_option maxRecDepth 100000 in
theorem p2_s829_s {X : Int → Int} {LX : Nat} : ck_Ok p2_O X LX 302 p2_s829 := ck_okq (cuts := []) (f := 114) ⟨p2_nmu, ck_E1 (ck_S1 p2_s827_s ck_S0) (ck_E1 (ck_S1 p2_s828_s ck_S0) (ck_E1 (ck_S1 p2_s381_s ck_S0) (ck_E1 (ck_S1 p2_s190_s ck_S0) ck_E0)))⟩ (by decide +kernel)
set_option maxRecDepth 100000 in
/-- GlacierMailModel.ofLetter -/
noncomputable def p2_s830 : ck_Sum := ((0, 0, 0), 245, [.inr (.inr (.inl 226)), .inl (ck_one 0), .inl (ck_one 1)], ([], [], []), ([], []), [(.inr (some (.inl (ck_one (-1)))), 245, ([], [], [(227, 120, 120, ck_one (-1))])), (.inr (some (.inl (0, 7, []))), 245, ([], [], [(227, 120, 120, (0, 7, []))]))])
set_option maxRecDepth 100000 in
theorem p2_s830_s {X : Int → Int} {LX : Nat} : ck_Ok p2_O X LX 301 p2_s830 := ck_okq (cuts := []) (f := 92) ⟨p2_nmu, ck_E0⟩ (by decide +kernel)
set_option maxRecDepth 100000 in
/-- GlacierMailModel.ofLetter -/
noncomputable def p2_s831 : ck_Sum := ((0, 0, 0), 245, [.inr (.inr (.inl 226)), .inl (ck_one 0), .inl (ck_one 3)], ([], [], []), ([], []), [(.inr (some (.inl (0, 299, []))), 245, ([], [], []))])
set_option maxRecDepth 100000 in
theorem p2_s831_s {X : Int → Int} {LX : Nat} : ck_Ok p2_O X LX 301 p2_s831 := ck_okq (cuts := []) (f := 92) ⟨p2_nmu, ck_E0⟩ (by decide +kernel)
/-- GlacierMailModel.opens -/
noncomputable def p2_s832 : ck_Sum := op_os0 0 (.inl (ck_one (-1))) 0 7 (-1) (-1)
theorem p2_s832_s {X : Int → Int} {LX : Nat} : ck_Ok p2_O X LX 319 p2_s832 := op_none (by decide) (by decide) (by decide)
/-- GlacierMailModel.opens -/
noncomputable def p2_s833 : ck_Sum := op_os 0 0 7
theorem p2_s833_s {X : Int → Int} {LX : Nat} : ck_Ok p2_O X LX 319 p2_s833 := op_open (by decide) (by decide) (by decide +kernel)
set_option maxRecDepth 100000 in
/-- GlacierMailModel.open -/
noncomputable def p2_s834 : ck_Sum := ((9, 0, 0), 245, [.inr (.inr (.inl 226)), .inl (ck_one 0)], ([], [], zl176), ([(226, 0, 0), (226, 6, 6), (226, 17, 23), (226, 26, 26), (226, 29, 30), (227, 14, 14), (227, 124, 125), (227, 323, 394), (230, 0, 4739), (233, 0, 399), (235, 0, 29699), (236, 0, 299), (237, 0, 299)], []), [(.inr (some (.inl (ck_one 0))), 245, ([], [], zl177)), (.inr (some (.inl ((-299), 299, []))), 245, ([], [], [(227, 124, 124, (0, 7, [])), (227, 120, 120, (0, 7, [])), (226, 6, 6, (1, 12, [(1000027, 0)])), (226, 29, 29, (0, 299, [])), (227, 119, 119, (0, 7, [])), (226, 0, 0, ck_one 0)]))])
set_option maxRecDepth 100000 in
theorem p2_s834_s {X : Int → Int} {LX : Nat} : ck_Ok p2_O X LX 318 p2_s834 := ck_okq (cuts := []) (f := 142) ⟨p2_nmu, ck_E1 (ck_S1 p2_s825_s ck_S0) (ck_E1 (ck_S1 p2_s241_s (ck_S1 p2_s242_s (ck_S1 p2_s244_s (ck_S1 p2_s243_s ck_S0)))) (ck_E1 (ck_S1 p2_s829_s ck_S0) (ck_E1 (ck_S1 p2_s553_s ck_S0) (ck_E1 (ck_S1 p2_s830_s (ck_S1 p2_s831_s ck_S0)) (ck_E1 (ck_S1 p2_s832_s (ck_S1 p2_s833_s ck_S0)) (ck_E1 (ck_S1 p2_s190_s ck_S0) ck_E0))))))⟩ (by decide +kernel)
set_option maxRecDepth 100000 in
/-- GlacierMailModel.in -/
noncomputable def p2_s835 : ck_Sum := ((0, 0, 0), 245, [.inl (ck_one 1), .inl (ck_one 0), .inl ((-1), 23, [])], ([], [], []), ([], []), [(.inr (some (.inl (ck_one 0))), 245, ([], [], [])), (.inr (some (.inl (ck_one 1))), 245, ([], [], []))])
set_option maxRecDepth 100000 in
theorem p2_s835_s {X : Int → Int} {LX : Nat} : ck_Ok p2_O X LX 286 p2_s835 := ck_okq (cuts := []) (f := 88) ⟨p2_nmu, ck_E0⟩ (by decide +kernel)
set_option maxRecDepth 100000 in
/-- GlacierMailModel.noLetter -/
noncomputable def p2_s836 : ck_Sum := ((1, 0, 0), 245, [.inr (.inr (.inl 226)), .inl (ck_one 1)], ([], [], [(227, 4, 4, (0, 24, [(22, 0)]))]), ([], []), [(.inr (some (.inl (ck_one 1))), 245, ([], [], [])), (.inr (some (.inl (ck_one 0))), 245, ([], [], []))])
set_option maxRecDepth 100000 in
theorem p2_s836_s {X : Int → Int} {LX : Nat} : ck_Ok p2_O X LX 309 p2_s836 := ck_okq (cuts := []) (f := 92) ⟨p2_nmu, ck_E1 (ck_S1 p2_s176_s ck_S0) (ck_E1 (ck_S1 p2_s835_s ck_S0) ck_E0)⟩ (by decide +kernel)
set_option maxRecDepth 100000 in
/-- GlacierMailModel.ofLetter -/
noncomputable def p2_s837 : ck_Sum := ((0, 0, 0), 245, [.inr (.inr (.inl 226)), .inl (ck_one 1), .inl (ck_one 0)], ([], [], []), ([], []), [(.inr (some (.inl (ck_one (-1)))), 245, ([], [], [(227, 126, 126, ck_one (-1))])), (.inr (some (.inl (0, 7, []))), 245, ([], [], [(227, 126, 126, (0, 7, []))]))])
set_option maxRecDepth 100000 in
theorem p2_s837_s {X : Int → Int} {LX : Nat} : ck_Ok p2_O X LX 301 p2_s837 := ck_okq (cuts := []) (f := 92) ⟨p2_nmu, ck_E0⟩ (by decide +kernel)
set_option maxRecDepth 100000 in
/-- GlacierMailModel.isRock -/
noncomputable def p2_s838 : ck_Sum := ((1, 0, 0), 245, [.inr (.inr (.inl 226)), .inl (ck_one 1)], ([], [], []), ([], []), [(.inr (some (.inl (ck_one 1))), 245, ([], [], [(227, 126, 126, ck_one (-1))])), (.inr (some (.inl (ck_one 0))), 245, ([], [], [(227, 126, 126, (0, 7, []))]))])
set_option maxRecDepth 100000 in
theorem p2_s838_s {X : Int → Int} {LX : Nat} : ck_Ok p2_O X LX 303 p2_s838 := ck_okq (cuts := []) (f := 86) ⟨p2_nmu, ck_E1 (ck_S1 p2_s837_s ck_S0) ck_E0⟩ (by decide +kernel)
set_option maxRecDepth 100000 in
/-- GlacierMailModel.ofLetter -/
noncomputable def p2_s839 : ck_Sum := ((0, 0, 0), 245, [.inr (.inr (.inl 226)), .inl (ck_one 1), .inl (ck_one 5)], ([], [], []), ([], []), [(.inr (some (.inl (ck_one (-1)))), 245, ([], [], [(227, 131, 131, ck_one (-1))])), (.inr (some (.inl (0, 7, []))), 245, ([], [], [(227, 131, 131, (0, 7, []))]))])
set_option maxRecDepth 100000 in
theorem p2_s839_s {X : Int → Int} {LX : Nat} : ck_Ok p2_O X LX 301 p2_s839 := ck_okq (cuts := []) (f := 92) ⟨p2_nmu, ck_E0⟩ (by decide +kernel)
set_option maxRecDepth 100000 in
/-- GlacierMailModel.isWaiting -/
noncomputable def p2_s840 : ck_Sum := ((8, 0, 0), 245, [.inr (.inr (.inl 226)), .inl (ck_one 1)], ([], [], zl83), (zl81, []), [(.inr (some (.inl (ck_one 0))), 245, ([], [], [])), (.inr (some (.inl (ck_one 1))), 245, ([], [], [(226, 29, 29, (0, 299, [])), (227, 131, 131, ck_one (-1)), (227, 126, 126, (0, 7, []))]))])
set_option maxRecDepth 100000 in
theorem p2_s840_s {X : Int → Int} {LX : Nat} : ck_Ok p2_O X LX 302 p2_s840 := ck_okq (cuts := []) (f := 114) ⟨p2_nmu, ck_E1 (ck_S1 p2_s838_s ck_S0) (ck_E1 (ck_S1 p2_s839_s ck_S0) (ck_E1 (ck_S1 p2_s381_s ck_S0) (ck_E1 (ck_S1 p2_s190_s ck_S0) ck_E0)))⟩ (by decide +kernel)
set_option maxRecDepth 100000 in
/-- GlacierMailModel.ofLetter -/
noncomputable def p2_s841 : ck_Sum := ((0, 0, 0), 245, [.inr (.inr (.inl 226)), .inl (ck_one 1), .inl (ck_one 1)], ([], [], []), ([], []), [(.inr (some (.inl (ck_one (-1)))), 245, ([], [], [(227, 127, 127, ck_one (-1))])), (.inr (some (.inl (0, 7, []))), 245, ([], [], [(227, 127, 127, (0, 7, []))]))])
set_option maxRecDepth 100000 in
theorem p2_s841_s {X : Int → Int} {LX : Nat} : ck_Ok p2_O X LX 301 p2_s841 := ck_okq (cuts := []) (f := 92) ⟨p2_nmu, ck_E0⟩ (by decide +kernel)
set_option maxRecDepth 100000 in
/-- GlacierMailModel.ofLetter -/
noncomputable def p2_s842 : ck_Sum := ((0, 0, 0), 245, [.inr (.inr (.inl 226)), .inl (ck_one 1), .inl (ck_one 3)], ([], [], []), ([], []), [(.inr (some (.inl (0, 299, []))), 245, ([], [], []))])
set_option maxRecDepth 100000 in
theorem p2_s842_s {X : Int → Int} {LX : Nat} : ck_Ok p2_O X LX 301 p2_s842 := ck_okq (cuts := []) (f := 92) ⟨p2_nmu, ck_E0⟩ (by decide +kernel)
/-- GlacierMailModel.opens -/
noncomputable def p2_s843 : ck_Sum := op_os0 1 (.inl (ck_one (-1))) 0 7 (-1) (-1)
theorem p2_s843_s {X : Int → Int} {LX : Nat} : ck_Ok p2_O X LX 319 p2_s843 := op_none (by decide) (by decide) (by decide)
/-- GlacierMailModel.opens -/
noncomputable def p2_s844 : ck_Sum := op_os 1 0 7
theorem p2_s844_s {X : Int → Int} {LX : Nat} : ck_Ok p2_O X LX 319 p2_s844 := op_open (by decide) (by decide) (by decide +kernel)
set_option maxRecDepth 100000 in
/-- GlacierMailModel.open -/
noncomputable def p2_s845 : ck_Sum := ((9, 0, 0), 245, [.inr (.inr (.inl 226)), .inl (ck_one 1)], ([], [], zl176), ([(226, 0, 0), (226, 6, 6), (226, 17, 23), (226, 26, 26), (226, 29, 30), (227, 14, 14), (227, 131, 132), (227, 323, 394), (230, 0, 4739), (233, 0, 399), (235, 0, 29699), (236, 0, 299), (237, 0, 299)], []), [(.inr (some (.inl (ck_one 0))), 245, ([], [], zl177)), (.inr (some (.inl ((-299), 299, []))), 245, ([], [], [(227, 131, 131, (0, 7, [])), (227, 127, 127, (0, 7, [])), (226, 6, 6, (1, 12, [(1000027, 0)])), (226, 29, 29, (0, 299, [])), (227, 126, 126, (0, 7, [])), (226, 0, 0, ck_one 0)]))])
set_option maxRecDepth 100000 in
theorem p2_s845_s {X : Int → Int} {LX : Nat} : ck_Ok p2_O X LX 318 p2_s845 := ck_okq (cuts := []) (f := 142) ⟨p2_nmu, ck_E1 (ck_S1 p2_s836_s ck_S0) (ck_E1 (ck_S1 p2_s241_s (ck_S1 p2_s242_s (ck_S1 p2_s244_s (ck_S1 p2_s243_s ck_S0)))) (ck_E1 (ck_S1 p2_s840_s ck_S0) (ck_E1 (ck_S1 p2_s553_s ck_S0) (ck_E1 (ck_S1 p2_s841_s (ck_S1 p2_s842_s ck_S0)) (ck_E1 (ck_S1 p2_s843_s (ck_S1 p2_s844_s ck_S0)) (ck_E1 (ck_S1 p2_s190_s ck_S0) ck_E0))))))⟩ (by decide +kernel)
set_option maxRecDepth 100000 in
/-- GlacierMailModel.in -/
noncomputable def p2_s846 : ck_Sum := ((0, 0, 0), 245, [.inl (ck_one 2), .inl (ck_one 0), .inl ((-1), 23, [])], ([], [], []), ([], []), [(.inr (some (.inl (ck_one 0))), 245, ([], [], [])), (.inr (some (.inl (ck_one 1))), 245, ([], [], []))])
set_option maxRecDepth 100000 in
theorem p2_s846_s {X : Int → Int} {LX : Nat} : ck_Ok p2_O X LX 286 p2_s846 := ck_okq (cuts := []) (f := 88) ⟨p2_nmu, ck_E0⟩ (by decide +kernel)
set_option maxRecDepth 100000 in
/-- GlacierMailModel.noLetter -/
noncomputable def p2_s847 : ck_Sum := ((1, 0, 0), 245, [.inr (.inr (.inl 226)), .inl (ck_one 2)], ([], [], [(227, 4, 4, (0, 24, [(22, 0)]))]), ([], []), [(.inr (some (.inl (ck_one 1))), 245, ([], [], [])), (.inr (some (.inl (ck_one 0))), 245, ([], [], []))])
set_option maxRecDepth 100000 in
theorem p2_s847_s {X : Int → Int} {LX : Nat} : ck_Ok p2_O X LX 309 p2_s847 := ck_okq (cuts := []) (f := 92) ⟨p2_nmu, ck_E1 (ck_S1 p2_s176_s ck_S0) (ck_E1 (ck_S1 p2_s846_s ck_S0) ck_E0)⟩ (by decide +kernel)
set_option maxRecDepth 100000 in
/-- GlacierMailModel.ofLetter -/
noncomputable def p2_s848 : ck_Sum := ((0, 0, 0), 245, [.inr (.inr (.inl 226)), .inl (ck_one 2), .inl (ck_one 0)], ([], [], []), ([], []), [(.inr (some (.inl (ck_one (-1)))), 245, ([], [], [(227, 133, 133, ck_one (-1))])), (.inr (some (.inl (0, 7, []))), 245, ([], [], [(227, 133, 133, (0, 7, []))]))])
set_option maxRecDepth 100000 in
theorem p2_s848_s {X : Int → Int} {LX : Nat} : ck_Ok p2_O X LX 301 p2_s848 := ck_okq (cuts := []) (f := 92) ⟨p2_nmu, ck_E0⟩ (by decide +kernel)
set_option maxRecDepth 100000 in
/-- GlacierMailModel.isRock -/
noncomputable def p2_s849 : ck_Sum := ((1, 0, 0), 245, [.inr (.inr (.inl 226)), .inl (ck_one 2)], ([], [], []), ([], []), [(.inr (some (.inl (ck_one 1))), 245, ([], [], [(227, 133, 133, ck_one (-1))])), (.inr (some (.inl (ck_one 0))), 245, ([], [], [(227, 133, 133, (0, 7, []))]))])
set_option maxRecDepth 100000 in
theorem p2_s849_s {X : Int → Int} {LX : Nat} : ck_Ok p2_O X LX 303 p2_s849 := ck_okq (cuts := []) (f := 86) ⟨p2_nmu, ck_E1 (ck_S1 p2_s848_s ck_S0) ck_E0⟩ (by decide +kernel)
set_option maxRecDepth 100000 in
/-- GlacierMailModel.ofLetter -/
noncomputable def p2_s850 : ck_Sum := ((0, 0, 0), 245, [.inr (.inr (.inl 226)), .inl (ck_one 2), .inl (ck_one 5)], ([], [], []), ([], []), [(.inr (some (.inl (ck_one (-1)))), 245, ([], [], [(227, 138, 138, ck_one (-1))])), (.inr (some (.inl (0, 7, []))), 245, ([], [], [(227, 138, 138, (0, 7, []))]))])
set_option maxRecDepth 100000 in
theorem p2_s850_s {X : Int → Int} {LX : Nat} : ck_Ok p2_O X LX 301 p2_s850 := ck_okq (cuts := []) (f := 92) ⟨p2_nmu, ck_E0⟩ (by decide +kernel)
set_option maxRecDepth 100000 in
/-- GlacierMailModel.isWaiting -/
noncomputable def p2_s851 : ck_Sum := ((8, 0, 0), 245, [.inr (.inr (.inl 226)), .inl (ck_one 2)], ([], [], zl83), (zl81, []), [(.inr (some (.inl (ck_one 0))), 245, ([], [], [])), (.inr (some (.inl (ck_one 1))), 245, ([], [], [(226, 29, 29, (0, 299, [])), (227, 138, 138, ck_one (-1)), (227, 133, 133, (0, 7, []))]))])
set_option maxRecDepth 100000 in
theorem p2_s851_s {X : Int → Int} {LX : Nat} : ck_Ok p2_O X LX 302 p2_s851 := ck_okq (cuts := []) (f := 114) ⟨p2_nmu, ck_E1 (ck_S1 p2_s849_s ck_S0) (ck_E1 (ck_S1 p2_s850_s ck_S0) (ck_E1 (ck_S1 p2_s381_s ck_S0) (ck_E1 (ck_S1 p2_s190_s ck_S0) ck_E0)))⟩ (by decide +kernel)
set_option maxRecDepth 100000 in
/-- GlacierMailModel.ofLetter -/
noncomputable def p2_s852 : ck_Sum := ((0, 0, 0), 245, [.inr (.inr (.inl 226)), .inl (ck_one 2), .inl (ck_one 1)], ([], [], []), ([], []), [(.inr (some (.inl (ck_one (-1)))), 245, ([], [], [(227, 134, 134, ck_one (-1))])), (.inr (some (.inl (0, 7, []))), 245, ([], [], [(227, 134, 134, (0, 7, []))]))])
set_option maxRecDepth 100000 in
theorem p2_s852_s {X : Int → Int} {LX : Nat} : ck_Ok p2_O X LX 301 p2_s852 := ck_okq (cuts := []) (f := 92) ⟨p2_nmu, ck_E0⟩ (by decide +kernel)
set_option maxRecDepth 100000 in
/-- GlacierMailModel.ofLetter -/
noncomputable def p2_s853 : ck_Sum := ((0, 0, 0), 245, [.inr (.inr (.inl 226)), .inl (ck_one 2), .inl (ck_one 3)], ([], [], []), ([], []), [(.inr (some (.inl (0, 299, []))), 245, ([], [], []))])
set_option maxRecDepth 100000 in
theorem p2_s853_s {X : Int → Int} {LX : Nat} : ck_Ok p2_O X LX 301 p2_s853 := ck_okq (cuts := []) (f := 92) ⟨p2_nmu, ck_E0⟩ (by decide +kernel)
/-- GlacierMailModel.opens -/
noncomputable def p2_s854 : ck_Sum := op_os0 2 (.inl (ck_one (-1))) 0 7 (-1) (-1)
theorem p2_s854_s {X : Int → Int} {LX : Nat} : ck_Ok p2_O X LX 319 p2_s854 := op_none (by decide) (by decide) (by decide)
/-- GlacierMailModel.opens -/
noncomputable def p2_s855 : ck_Sum := op_os 2 0 7
theorem p2_s855_s {X : Int → Int} {LX : Nat} : ck_Ok p2_O X LX 319 p2_s855 := op_open (by decide) (by decide) (by decide +kernel)
set_option maxRecDepth 100000 in
/-- GlacierMailModel.open -/
noncomputable def p2_s856 : ck_Sum := ((9, 0, 0), 245, [.inr (.inr (.inl 226)), .inl (ck_one 2)], ([], [], zl176), ([(226, 0, 0), (226, 6, 6), (226, 17, 23), (226, 26, 26), (226, 29, 30), (227, 14, 14), (227, 138, 139), (227, 323, 394), (230, 0, 4739), (233, 0, 399), (235, 0, 29699), (236, 0, 299), (237, 0, 299)], []), [(.inr (some (.inl (ck_one 0))), 245, ([], [], zl177)), (.inr (some (.inl ((-299), 299, []))), 245, ([], [], [(227, 138, 138, (0, 7, [])), (227, 134, 134, (0, 7, [])), (226, 6, 6, (1, 12, [(1000027, 0)])), (226, 29, 29, (0, 299, [])), (227, 133, 133, (0, 7, [])), (226, 0, 0, ck_one 0)]))])
set_option maxRecDepth 100000 in
theorem p2_s856_s {X : Int → Int} {LX : Nat} : ck_Ok p2_O X LX 318 p2_s856 := ck_okq (cuts := []) (f := 142) ⟨p2_nmu, ck_E1 (ck_S1 p2_s847_s ck_S0) (ck_E1 (ck_S1 p2_s241_s (ck_S1 p2_s242_s (ck_S1 p2_s244_s (ck_S1 p2_s243_s ck_S0)))) (ck_E1 (ck_S1 p2_s851_s ck_S0) (ck_E1 (ck_S1 p2_s553_s ck_S0) (ck_E1 (ck_S1 p2_s852_s (ck_S1 p2_s853_s ck_S0)) (ck_E1 (ck_S1 p2_s854_s (ck_S1 p2_s855_s ck_S0)) (ck_E1 (ck_S1 p2_s190_s ck_S0) ck_E0))))))⟩ (by decide +kernel)
set_option maxRecDepth 100000 in
/-- GlacierMailModel.in -/
noncomputable def p2_s857 : ck_Sum := ((0, 0, 0), 245, [.inl (ck_one 3), .inl (ck_one 0), .inl ((-1), 23, [])], ([], [], []), ([], []), [(.inr (some (.inl (ck_one 0))), 245, ([], [], [])), (.inr (some (.inl (ck_one 1))), 245, ([], [], []))])
set_option maxRecDepth 100000 in
theorem p2_s857_s {X : Int → Int} {LX : Nat} : ck_Ok p2_O X LX 286 p2_s857 := ck_okq (cuts := []) (f := 88) ⟨p2_nmu, ck_E0⟩ (by decide +kernel)
set_option maxRecDepth 100000 in
/-- GlacierMailModel.noLetter -/
noncomputable def p2_s858 : ck_Sum := ((1, 0, 0), 245, [.inr (.inr (.inl 226)), .inl (ck_one 3)], ([], [], [(227, 4, 4, (0, 24, [(22, 0)]))]), ([], []), [(.inr (some (.inl (ck_one 1))), 245, ([], [], [])), (.inr (some (.inl (ck_one 0))), 245, ([], [], []))])
set_option maxRecDepth 100000 in
theorem p2_s858_s {X : Int → Int} {LX : Nat} : ck_Ok p2_O X LX 309 p2_s858 := ck_okq (cuts := []) (f := 92) ⟨p2_nmu, ck_E1 (ck_S1 p2_s176_s ck_S0) (ck_E1 (ck_S1 p2_s857_s ck_S0) ck_E0)⟩ (by decide +kernel)
set_option maxRecDepth 100000 in
/-- GlacierMailModel.ofLetter -/
noncomputable def p2_s859 : ck_Sum := ((0, 0, 0), 245, [.inr (.inr (.inl 226)), .inl (ck_one 3), .inl (ck_one 0)], ([], [], []), ([], []), [(.inr (some (.inl (ck_one (-1)))), 245, ([], [], [(227, 140, 140, ck_one (-1))])), (.inr (some (.inl (0, 7, []))), 245, ([], [], [(227, 140, 140, (0, 7, []))]))])
set_option maxRecDepth 100000 in
theorem p2_s859_s {X : Int → Int} {LX : Nat} : ck_Ok p2_O X LX 301 p2_s859 := ck_okq (cuts := []) (f := 92) ⟨p2_nmu, ck_E0⟩ (by decide +kernel)
set_option maxRecDepth 100000 in
/-- GlacierMailModel.isRock -/
noncomputable def p2_s860 : ck_Sum := ((1, 0, 0), 245, [.inr (.inr (.inl 226)), .inl (ck_one 3)], ([], [], []), ([], []), [(.inr (some (.inl (ck_one 1))), 245, ([], [], [(227, 140, 140, ck_one (-1))])), (.inr (some (.inl (ck_one 0))), 245, ([], [], [(227, 140, 140, (0, 7, []))]))])
set_option maxRecDepth 100000 in
theorem p2_s860_s {X : Int → Int} {LX : Nat} : ck_Ok p2_O X LX 303 p2_s860 := ck_okq (cuts := []) (f := 86) ⟨p2_nmu, ck_E1 (ck_S1 p2_s859_s ck_S0) ck_E0⟩ (by decide +kernel)
set_option maxRecDepth 100000 in
/-- GlacierMailModel.ofLetter -/
noncomputable def p2_s861 : ck_Sum := ((0, 0, 0), 245, [.inr (.inr (.inl 226)), .inl (ck_one 3), .inl (ck_one 5)], ([], [], []), ([], []), [(.inr (some (.inl (ck_one (-1)))), 245, ([], [], [(227, 145, 145, ck_one (-1))])), (.inr (some (.inl (0, 7, []))), 245, ([], [], [(227, 145, 145, (0, 7, []))]))])
set_option maxRecDepth 100000 in
theorem p2_s861_s {X : Int → Int} {LX : Nat} : ck_Ok p2_O X LX 301 p2_s861 := ck_okq (cuts := []) (f := 92) ⟨p2_nmu, ck_E0⟩ (by decide +kernel)
set_option maxRecDepth 100000 in
/-- GlacierMailModel.isWaiting -/
noncomputable def p2_s862 : ck_Sum := ((8, 0, 0), 245, [.inr (.inr (.inl 226)), .inl (ck_one 3)], ([], [], zl83), (zl81, []), [(.inr (some (.inl (ck_one 0))), 245, ([], [], [])), (.inr (some (.inl (ck_one 1))), 245, ([], [], [(226, 29, 29, (0, 299, [])), (227, 145, 145, ck_one (-1)), (227, 140, 140, (0, 7, []))]))])
set_option maxRecDepth 100000 in
theorem p2_s862_s {X : Int → Int} {LX : Nat} : ck_Ok p2_O X LX 302 p2_s862 := ck_okq (cuts := []) (f := 114) ⟨p2_nmu, ck_E1 (ck_S1 p2_s860_s ck_S0) (ck_E1 (ck_S1 p2_s861_s ck_S0) (ck_E1 (ck_S1 p2_s381_s ck_S0) (ck_E1 (ck_S1 p2_s190_s ck_S0) ck_E0)))⟩ (by decide +kernel)
set_option maxRecDepth 100000 in
/-- GlacierMailModel.ofLetter -/
noncomputable def p2_s863 : ck_Sum := ((0, 0, 0), 245, [.inr (.inr (.inl 226)), .inl (ck_one 3), .inl (ck_one 1)], ([], [], []), ([], []), [(.inr (some (.inl (ck_one (-1)))), 245, ([], [], [(227, 141, 141, ck_one (-1))])), (.inr (some (.inl (0, 7, []))), 245, ([], [], [(227, 141, 141, (0, 7, []))]))])
set_option maxRecDepth 100000 in
theorem p2_s863_s {X : Int → Int} {LX : Nat} : ck_Ok p2_O X LX 301 p2_s863 := ck_okq (cuts := []) (f := 92) ⟨p2_nmu, ck_E0⟩ (by decide +kernel)
set_option maxRecDepth 100000 in
/-- GlacierMailModel.ofLetter -/
noncomputable def p2_s864 : ck_Sum := ((0, 0, 0), 245, [.inr (.inr (.inl 226)), .inl (ck_one 3), .inl (ck_one 3)], ([], [], []), ([], []), [(.inr (some (.inl (0, 299, []))), 245, ([], [], []))])
set_option maxRecDepth 100000 in
theorem p2_s864_s {X : Int → Int} {LX : Nat} : ck_Ok p2_O X LX 301 p2_s864 := ck_okq (cuts := []) (f := 92) ⟨p2_nmu, ck_E0⟩ (by decide +kernel)
/-- GlacierMailModel.opens -/
noncomputable def p2_s865 : ck_Sum := op_os0 3 (.inl (ck_one (-1))) 0 7 (-1) (-1)
theorem p2_s865_s {X : Int → Int} {LX : Nat} : ck_Ok p2_O X LX 319 p2_s865 := op_none (by decide) (by decide) (by decide)
/-- GlacierMailModel.opens -/
noncomputable def p2_s866 : ck_Sum := op_os 3 0 7
theorem p2_s866_s {X : Int → Int} {LX : Nat} : ck_Ok p2_O X LX 319 p2_s866 := op_open (by decide) (by decide) (by decide +kernel)
set_option maxRecDepth 100000 in
/-- GlacierMailModel.open -/
noncomputable def p2_s867 : ck_Sum := ((9, 0, 0), 245, [.inr (.inr (.inl 226)), .inl (ck_one 3)], ([], [], zl176), ([(226, 0, 0), (226, 6, 6), (226, 17, 23), (226, 26, 26), (226, 29, 30), (227, 14, 14), (227, 145, 146), (227, 323, 394), (230, 0, 4739), (233, 0, 399), (235, 0, 29699), (236, 0, 299), (237, 0, 299)], []), [(.inr (some (.inl (ck_one 0))), 245, ([], [], zl177)), (.inr (some (.inl ((-299), 299, []))), 245, ([], [], [(227, 145, 145, (0, 7, [])), (227, 141, 141, (0, 7, [])), (226, 6, 6, (1, 12, [(1000027, 0)])), (226, 29, 29, (0, 299, [])), (227, 140, 140, (0, 7, [])), (226, 0, 0, ck_one 0)]))])
set_option maxRecDepth 100000 in
theorem p2_s867_s {X : Int → Int} {LX : Nat} : ck_Ok p2_O X LX 318 p2_s867 := ck_okq (cuts := []) (f := 142) ⟨p2_nmu, ck_E1 (ck_S1 p2_s858_s ck_S0) (ck_E1 (ck_S1 p2_s241_s (ck_S1 p2_s242_s (ck_S1 p2_s244_s (ck_S1 p2_s243_s ck_S0)))) (ck_E1 (ck_S1 p2_s862_s ck_S0) (ck_E1 (ck_S1 p2_s553_s ck_S0) (ck_E1 (ck_S1 p2_s863_s (ck_S1 p2_s864_s ck_S0)) (ck_E1 (ck_S1 p2_s865_s (ck_S1 p2_s866_s ck_S0)) (ck_E1 (ck_S1 p2_s190_s ck_S0) ck_E0))))))⟩ (by decide +kernel)
set_option maxRecDepth 100000 in
/-- GlacierMailModel.in -/
noncomputable def p2_s868 : ck_Sum := ((0, 0, 0), 245, [.inl (ck_one 4), .inl (ck_one 0), .inl ((-1), 23, [])], ([], [], []), ([], []), [(.inr (some (.inl (ck_one 0))), 245, ([], [], [])), (.inr (some (.inl (ck_one 1))), 245, ([], [], []))])
set_option maxRecDepth 100000 in
theorem p2_s868_s {X : Int → Int} {LX : Nat} : ck_Ok p2_O X LX 286 p2_s868 := ck_okq (cuts := []) (f := 88) ⟨p2_nmu, ck_E0⟩ (by decide +kernel)
set_option maxRecDepth 100000 in
/-- GlacierMailModel.noLetter -/
noncomputable def p2_s869 : ck_Sum := ((1, 0, 0), 245, [.inr (.inr (.inl 226)), .inl (ck_one 4)], ([], [], [(227, 4, 4, (0, 24, [(22, 0)]))]), ([], []), [(.inr (some (.inl (ck_one 1))), 245, ([], [], [])), (.inr (some (.inl (ck_one 0))), 245, ([], [], []))])
set_option maxRecDepth 100000 in
theorem p2_s869_s {X : Int → Int} {LX : Nat} : ck_Ok p2_O X LX 309 p2_s869 := ck_okq (cuts := []) (f := 92) ⟨p2_nmu, ck_E1 (ck_S1 p2_s176_s ck_S0) (ck_E1 (ck_S1 p2_s868_s ck_S0) ck_E0)⟩ (by decide +kernel)
set_option maxRecDepth 100000 in
/-- GlacierMailModel.ofLetter -/
noncomputable def p2_s870 : ck_Sum := ((0, 0, 0), 245, [.inr (.inr (.inl 226)), .inl (ck_one 4), .inl (ck_one 0)], ([], [], []), ([], []), [(.inr (some (.inl (ck_one (-1)))), 245, ([], [], [(227, 147, 147, ck_one (-1))])), (.inr (some (.inl (0, 7, []))), 245, ([], [], [(227, 147, 147, (0, 7, []))]))])
set_option maxRecDepth 100000 in
theorem p2_s870_s {X : Int → Int} {LX : Nat} : ck_Ok p2_O X LX 301 p2_s870 := ck_okq (cuts := []) (f := 92) ⟨p2_nmu, ck_E0⟩ (by decide +kernel)
set_option maxRecDepth 100000 in
/-- GlacierMailModel.isRock -/
noncomputable def p2_s871 : ck_Sum := ((1, 0, 0), 245, [.inr (.inr (.inl 226)), .inl (ck_one 4)], ([], [], []), ([], []), [(.inr (some (.inl (ck_one 1))), 245, ([], [], [(227, 147, 147, ck_one (-1))])), (.inr (some (.inl (ck_one 0))), 245, ([], [], [(227, 147, 147, (0, 7, []))]))])
set_option maxRecDepth 100000 in
theorem p2_s871_s {X : Int → Int} {LX : Nat} : ck_Ok p2_O X LX 303 p2_s871 := ck_okq (cuts := []) (f := 86) ⟨p2_nmu, ck_E1 (ck_S1 p2_s870_s ck_S0) ck_E0⟩ (by decide +kernel)
set_option maxRecDepth 100000 in
/-- GlacierMailModel.ofLetter -/
noncomputable def p2_s872 : ck_Sum := ((0, 0, 0), 245, [.inr (.inr (.inl 226)), .inl (ck_one 4), .inl (ck_one 5)], ([], [], []), ([], []), [(.inr (some (.inl (ck_one (-1)))), 245, ([], [], [(227, 152, 152, ck_one (-1))])), (.inr (some (.inl (0, 7, []))), 245, ([], [], [(227, 152, 152, (0, 7, []))]))])
set_option maxRecDepth 100000 in
theorem p2_s872_s {X : Int → Int} {LX : Nat} : ck_Ok p2_O X LX 301 p2_s872 := ck_okq (cuts := []) (f := 92) ⟨p2_nmu, ck_E0⟩ (by decide +kernel)
set_option maxRecDepth 100000 in
/-- GlacierMailModel.isWaiting -/
noncomputable def p2_s873 : ck_Sum := ((8, 0, 0), 245, [.inr (.inr (.inl 226)), .inl (ck_one 4)], ([], [], zl83), (zl81, []), [(.inr (some (.inl (ck_one 0))), 245, ([], [], [])), (.inr (some (.inl (ck_one 1))), 245, ([], [], [(226, 29, 29, (0, 299, [])), (227, 152, 152, ck_one (-1)), (227, 147, 147, (0, 7, []))]))])
set_option maxRecDepth 100000 in
theorem p2_s873_s {X : Int → Int} {LX : Nat} : ck_Ok p2_O X LX 302 p2_s873 := ck_okq (cuts := []) (f := 114) ⟨p2_nmu, ck_E1 (ck_S1 p2_s871_s ck_S0) (ck_E1 (ck_S1 p2_s872_s ck_S0) (ck_E1 (ck_S1 p2_s381_s ck_S0) (ck_E1 (ck_S1 p2_s190_s ck_S0) ck_E0)))⟩ (by decide +kernel)
set_option maxRecDepth 100000 in
/-- GlacierMailModel.ofLetter -/
noncomputable def p2_s874 : ck_Sum := ((0, 0, 0), 245, [.inr (.inr (.inl 226)), .inl (ck_one 4), .inl (ck_one 1)], ([], [], []), ([], []), [(.inr (some (.inl (ck_one (-1)))), 245, ([], [], [(227, 148, 148, ck_one (-1))])), (.inr (some (.inl (0, 7, []))), 245, ([], [], [(227, 148, 148, (0, 7, []))]))])
set_option maxRecDepth 100000 in
theorem p2_s874_s {X : Int → Int} {LX : Nat} : ck_Ok p2_O X LX 301 p2_s874 := ck_okq (cuts := []) (f := 92) ⟨p2_nmu, ck_E0⟩ (by decide +kernel)
set_option maxRecDepth 100000 in
/-- GlacierMailModel.ofLetter -/
noncomputable def p2_s875 : ck_Sum := ((0, 0, 0), 245, [.inr (.inr (.inl 226)), .inl (ck_one 4), .inl (ck_one 3)], ([], [], []), ([], []), [(.inr (some (.inl (0, 299, []))), 245, ([], [], []))])
set_option maxRecDepth 100000 in
theorem p2_s875_s {X : Int → Int} {LX : Nat} : ck_Ok p2_O X LX 301 p2_s875 := ck_okq (cuts := []) (f := 92) ⟨p2_nmu, ck_E0⟩ (by decide +kernel)
/-- GlacierMailModel.opens -/
noncomputable def p2_s876 : ck_Sum := op_os0 4 (.inl (ck_one (-1))) 0 7 (-1) (-1)
theorem p2_s876_s {X : Int → Int} {LX : Nat} : ck_Ok p2_O X LX 319 p2_s876 := op_none (by decide) (by decide) (by decide)
/-- GlacierMailModel.opens -/
noncomputable def p2_s877 : ck_Sum := op_os 4 0 7
theorem p2_s877_s {X : Int → Int} {LX : Nat} : ck_Ok p2_O X LX 319 p2_s877 := op_open (by decide) (by decide) (by decide +kernel)
set_option maxRecDepth 100000 in
/-- GlacierMailModel.open -/
noncomputable def p2_s878 : ck_Sum := ((9, 0, 0), 245, [.inr (.inr (.inl 226)), .inl (ck_one 4)], ([], [], zl176), ([(226, 0, 0), (226, 6, 6), (226, 17, 23), (226, 26, 26), (226, 29, 30), (227, 14, 14), (227, 152, 153), (227, 323, 394), (230, 0, 4739), (233, 0, 399), (235, 0, 29699), (236, 0, 299), (237, 0, 299)], []), [(.inr (some (.inl (ck_one 0))), 245, ([], [], zl177)), (.inr (some (.inl ((-299), 299, []))), 245, ([], [], [(227, 152, 152, (0, 7, [])), (227, 148, 148, (0, 7, [])), (226, 6, 6, (1, 12, [(1000027, 0)])), (226, 29, 29, (0, 299, [])), (227, 147, 147, (0, 7, [])), (226, 0, 0, ck_one 0)]))])
set_option maxRecDepth 100000 in
theorem p2_s878_s {X : Int → Int} {LX : Nat} : ck_Ok p2_O X LX 318 p2_s878 := ck_okq (cuts := []) (f := 142) ⟨p2_nmu, ck_E1 (ck_S1 p2_s869_s ck_S0) (ck_E1 (ck_S1 p2_s241_s (ck_S1 p2_s242_s (ck_S1 p2_s244_s (ck_S1 p2_s243_s ck_S0)))) (ck_E1 (ck_S1 p2_s873_s ck_S0) (ck_E1 (ck_S1 p2_s553_s ck_S0) (ck_E1 (ck_S1 p2_s874_s (ck_S1 p2_s875_s ck_S0)) (ck_E1 (ck_S1 p2_s876_s (ck_S1 p2_s877_s ck_S0)) (ck_E1 (ck_S1 p2_s190_s ck_S0) ck_E0))))))⟩ (by decide +kernel)
set_option maxRecDepth 100000 in
/-- GlacierMailModel.in -/
noncomputable def p2_s879 : ck_Sum := ((0, 0, 0), 245, [.inl (ck_one 5), .inl (ck_one 0), .inl ((-1), 23, [])], ([], [], []), ([], []), [(.inr (some (.inl (ck_one 0))), 245, ([], [], [])), (.inr (some (.inl (ck_one 1))), 245, ([], [], []))])
set_option maxRecDepth 100000 in
theorem p2_s879_s {X : Int → Int} {LX : Nat} : ck_Ok p2_O X LX 286 p2_s879 := ck_okq (cuts := []) (f := 88) ⟨p2_nmu, ck_E0⟩ (by decide +kernel)
set_option maxRecDepth 100000 in
/-- GlacierMailModel.noLetter -/
noncomputable def p2_s880 : ck_Sum := ((1, 0, 0), 245, [.inr (.inr (.inl 226)), .inl (ck_one 5)], ([], [], [(227, 4, 4, (0, 24, [(22, 0)]))]), ([], []), [(.inr (some (.inl (ck_one 1))), 245, ([], [], [])), (.inr (some (.inl (ck_one 0))), 245, ([], [], []))])
set_option maxRecDepth 100000 in
theorem p2_s880_s {X : Int → Int} {LX : Nat} : ck_Ok p2_O X LX 309 p2_s880 := ck_okq (cuts := []) (f := 92) ⟨p2_nmu, ck_E1 (ck_S1 p2_s176_s ck_S0) (ck_E1 (ck_S1 p2_s879_s ck_S0) ck_E0)⟩ (by decide +kernel)
set_option maxRecDepth 100000 in
/-- GlacierMailModel.ofLetter -/
noncomputable def p2_s881 : ck_Sum := ((0, 0, 0), 245, [.inr (.inr (.inl 226)), .inl (ck_one 5), .inl (ck_one 0)], ([], [], []), ([], []), [(.inr (some (.inl (ck_one (-1)))), 245, ([], [], [(227, 154, 154, ck_one (-1))])), (.inr (some (.inl (0, 7, []))), 245, ([], [], [(227, 154, 154, (0, 7, []))]))])
set_option maxRecDepth 100000 in
theorem p2_s881_s {X : Int → Int} {LX : Nat} : ck_Ok p2_O X LX 301 p2_s881 := ck_okq (cuts := []) (f := 92) ⟨p2_nmu, ck_E0⟩ (by decide +kernel)
set_option maxRecDepth 100000 in
/-- GlacierMailModel.isRock -/
noncomputable def p2_s882 : ck_Sum := ((1, 0, 0), 245, [.inr (.inr (.inl 226)), .inl (ck_one 5)], ([], [], []), ([], []), [(.inr (some (.inl (ck_one 1))), 245, ([], [], [(227, 154, 154, ck_one (-1))])), (.inr (some (.inl (ck_one 0))), 245, ([], [], [(227, 154, 154, (0, 7, []))]))])
set_option maxRecDepth 100000 in
theorem p2_s882_s {X : Int → Int} {LX : Nat} : ck_Ok p2_O X LX 303 p2_s882 := ck_okq (cuts := []) (f := 86) ⟨p2_nmu, ck_E1 (ck_S1 p2_s881_s ck_S0) ck_E0⟩ (by decide +kernel)
set_option maxRecDepth 100000 in
/-- GlacierMailModel.ofLetter -/
noncomputable def p2_s883 : ck_Sum := ((0, 0, 0), 245, [.inr (.inr (.inl 226)), .inl (ck_one 5), .inl (ck_one 5)], ([], [], []), ([], []), [(.inr (some (.inl (ck_one (-1)))), 245, ([], [], [(227, 159, 159, ck_one (-1))])), (.inr (some (.inl (0, 7, []))), 245, ([], [], [(227, 159, 159, (0, 7, []))]))])
set_option maxRecDepth 100000 in
theorem p2_s883_s {X : Int → Int} {LX : Nat} : ck_Ok p2_O X LX 301 p2_s883 := ck_okq (cuts := []) (f := 92) ⟨p2_nmu, ck_E0⟩ (by decide +kernel)
set_option maxRecDepth 100000 in
/-- GlacierMailModel.isWaiting -/
noncomputable def p2_s884 : ck_Sum := ((8, 0, 0), 245, [.inr (.inr (.inl 226)), .inl (ck_one 5)], ([], [], zl83), (zl81, []), [(.inr (some (.inl (ck_one 0))), 245, ([], [], [])), (.inr (some (.inl (ck_one 1))), 245, ([], [], [(226, 29, 29, (0, 299, [])), (227, 159, 159, ck_one (-1)), (227, 154, 154, (0, 7, []))]))])
set_option maxRecDepth 100000 in
theorem p2_s884_s {X : Int → Int} {LX : Nat} : ck_Ok p2_O X LX 302 p2_s884 := ck_okq (cuts := []) (f := 114) ⟨p2_nmu, ck_E1 (ck_S1 p2_s882_s ck_S0) (ck_E1 (ck_S1 p2_s883_s ck_S0) (ck_E1 (ck_S1 p2_s381_s ck_S0) (ck_E1 (ck_S1 p2_s190_s ck_S0) ck_E0)))⟩ (by decide +kernel)
set_option maxRecDepth 100000 in
/-- GlacierMailModel.ofLetter -/
noncomputable def p2_s885 : ck_Sum := ((0, 0, 0), 245, [.inr (.inr (.inl 226)), .inl (ck_one 5), .inl (ck_one 1)], ([], [], []), ([], []), [(.inr (some (.inl (ck_one (-1)))), 245, ([], [], [(227, 155, 155, ck_one (-1))])), (.inr (some (.inl (0, 7, []))), 245, ([], [], [(227, 155, 155, (0, 7, []))]))])
set_option maxRecDepth 100000 in
theorem p2_s885_s {X : Int → Int} {LX : Nat} : ck_Ok p2_O X LX 301 p2_s885 := ck_okq (cuts := []) (f := 92) ⟨p2_nmu, ck_E0⟩ (by decide +kernel)
set_option maxRecDepth 100000 in
/-- GlacierMailModel.ofLetter -/
noncomputable def p2_s886 : ck_Sum := ((0, 0, 0), 245, [.inr (.inr (.inl 226)), .inl (ck_one 5), .inl (ck_one 3)], ([], [], []), ([], []), [(.inr (some (.inl (0, 299, []))), 245, ([], [], []))])
set_option maxRecDepth 100000 in
theorem p2_s886_s {X : Int → Int} {LX : Nat} : ck_Ok p2_O X LX 301 p2_s886 := ck_okq (cuts := []) (f := 92) ⟨p2_nmu, ck_E0⟩ (by decide +kernel)
/-- GlacierMailModel.opens -/
noncomputable def p2_s887 : ck_Sum := op_os0 5 (.inl (ck_one (-1))) 0 7 (-1) (-1)
theorem p2_s887_s {X : Int → Int} {LX : Nat} : ck_Ok p2_O X LX 319 p2_s887 := op_none (by decide) (by decide) (by decide)
/-- GlacierMailModel.opens -/
noncomputable def p2_s888 : ck_Sum := op_os 5 0 7
theorem p2_s888_s {X : Int → Int} {LX : Nat} : ck_Ok p2_O X LX 319 p2_s888 := op_open (by decide) (by decide) (by decide +kernel)
set_option maxRecDepth 100000 in
/-- GlacierMailModel.open -/
noncomputable def p2_s889 : ck_Sum := ((9, 0, 0), 245, [.inr (.inr (.inl 226)), .inl (ck_one 5)], ([], [], zl176), ([(226, 0, 0), (226, 6, 6), (226, 17, 23), (226, 26, 26), (226, 29, 30), (227, 14, 14), (227, 159, 160), (227, 323, 394), (230, 0, 4739), (233, 0, 399), (235, 0, 29699), (236, 0, 299), (237, 0, 299)], []), [(.inr (some (.inl (ck_one 0))), 245, ([], [], zl177)), (.inr (some (.inl ((-299), 299, []))), 245, ([], [], [(227, 159, 159, (0, 7, [])), (227, 155, 155, (0, 7, [])), (226, 6, 6, (1, 12, [(1000027, 0)])), (226, 29, 29, (0, 299, [])), (227, 154, 154, (0, 7, [])), (226, 0, 0, ck_one 0)]))])
set_option maxRecDepth 100000 in
theorem p2_s889_s {X : Int → Int} {LX : Nat} : ck_Ok p2_O X LX 318 p2_s889 := ck_okq (cuts := []) (f := 142) ⟨p2_nmu, ck_E1 (ck_S1 p2_s880_s ck_S0) (ck_E1 (ck_S1 p2_s241_s (ck_S1 p2_s242_s (ck_S1 p2_s244_s (ck_S1 p2_s243_s ck_S0)))) (ck_E1 (ck_S1 p2_s884_s ck_S0) (ck_E1 (ck_S1 p2_s553_s ck_S0) (ck_E1 (ck_S1 p2_s885_s (ck_S1 p2_s886_s ck_S0)) (ck_E1 (ck_S1 p2_s887_s (ck_S1 p2_s888_s ck_S0)) (ck_E1 (ck_S1 p2_s190_s ck_S0) ck_E0))))))⟩ (by decide +kernel)
set_option maxRecDepth 100000 in
/-- GlacierMailModel.in -/
noncomputable def p2_s890 : ck_Sum := ((0, 0, 0), 245, [.inl (ck_one 6), .inl (ck_one 0), .inl ((-1), 23, [])], ([], [], []), ([], []), [(.inr (some (.inl (ck_one 0))), 245, ([], [], [])), (.inr (some (.inl (ck_one 1))), 245, ([], [], []))])
set_option maxRecDepth 100000 in
theorem p2_s890_s {X : Int → Int} {LX : Nat} : ck_Ok p2_O X LX 286 p2_s890 := ck_okq (cuts := []) (f := 88) ⟨p2_nmu, ck_E0⟩ (by decide +kernel)
set_option maxRecDepth 100000 in
/-- GlacierMailModel.noLetter -/
noncomputable def p2_s891 : ck_Sum := ((1, 0, 0), 245, [.inr (.inr (.inl 226)), .inl (ck_one 6)], ([], [], [(227, 4, 4, (0, 24, [(22, 0)]))]), ([], []), [(.inr (some (.inl (ck_one 1))), 245, ([], [], [])), (.inr (some (.inl (ck_one 0))), 245, ([], [], []))])
set_option maxRecDepth 100000 in
theorem p2_s891_s {X : Int → Int} {LX : Nat} : ck_Ok p2_O X LX 309 p2_s891 := ck_okq (cuts := []) (f := 92) ⟨p2_nmu, ck_E1 (ck_S1 p2_s176_s ck_S0) (ck_E1 (ck_S1 p2_s890_s ck_S0) ck_E0)⟩ (by decide +kernel)
set_option maxRecDepth 100000 in
/-- GlacierMailModel.ofLetter -/
noncomputable def p2_s892 : ck_Sum := ((0, 0, 0), 245, [.inr (.inr (.inl 226)), .inl (ck_one 6), .inl (ck_one 0)], ([], [], []), ([], []), [(.inr (some (.inl (ck_one (-1)))), 245, ([], [], [(227, 161, 161, ck_one (-1))])), (.inr (some (.inl (0, 7, []))), 245, ([], [], [(227, 161, 161, (0, 7, []))]))])
set_option maxRecDepth 100000 in
theorem p2_s892_s {X : Int → Int} {LX : Nat} : ck_Ok p2_O X LX 301 p2_s892 := ck_okq (cuts := []) (f := 92) ⟨p2_nmu, ck_E0⟩ (by decide +kernel)
set_option maxRecDepth 100000 in
/-- GlacierMailModel.isRock -/
noncomputable def p2_s893 : ck_Sum := ((1, 0, 0), 245, [.inr (.inr (.inl 226)), .inl (ck_one 6)], ([], [], []), ([], []), [(.inr (some (.inl (ck_one 1))), 245, ([], [], [(227, 161, 161, ck_one (-1))])), (.inr (some (.inl (ck_one 0))), 245, ([], [], [(227, 161, 161, (0, 7, []))]))])
set_option maxRecDepth 100000 in
theorem p2_s893_s {X : Int → Int} {LX : Nat} : ck_Ok p2_O X LX 303 p2_s893 := ck_okq (cuts := []) (f := 86) ⟨p2_nmu, ck_E1 (ck_S1 p2_s892_s ck_S0) ck_E0⟩ (by decide +kernel)
set_option maxRecDepth 100000 in
/-- GlacierMailModel.ofLetter -/
noncomputable def p2_s894 : ck_Sum := ((0, 0, 0), 245, [.inr (.inr (.inl 226)), .inl (ck_one 6), .inl (ck_one 5)], ([], [], []), ([], []), [(.inr (some (.inl (ck_one (-1)))), 245, ([], [], [(227, 166, 166, ck_one (-1))])), (.inr (some (.inl (0, 7, []))), 245, ([], [], [(227, 166, 166, (0, 7, []))]))])
set_option maxRecDepth 100000 in
theorem p2_s894_s {X : Int → Int} {LX : Nat} : ck_Ok p2_O X LX 301 p2_s894 := ck_okq (cuts := []) (f := 92) ⟨p2_nmu, ck_E0⟩ (by decide +kernel)
set_option maxRecDepth 100000 in
/-- GlacierMailModel.isWaiting -/
noncomputable def p2_s895 : ck_Sum := ((8, 0, 0), 245, [.inr (.inr (.inl 226)), .inl (ck_one 6)], ([], [], zl83), (zl81, []), [(.inr (some (.inl (ck_one 0))), 245, ([], [], [])), (.inr (some (.inl (ck_one 1))), 245, ([], [], [(226, 29, 29, (0, 299, [])), (227, 166, 166, ck_one (-1)), (227, 161, 161, (0, 7, []))]))])
set_option maxRecDepth 100000 in
theorem p2_s895_s {X : Int → Int} {LX : Nat} : ck_Ok p2_O X LX 302 p2_s895 := ck_okq (cuts := []) (f := 114) ⟨p2_nmu, ck_E1 (ck_S1 p2_s893_s ck_S0) (ck_E1 (ck_S1 p2_s894_s ck_S0) (ck_E1 (ck_S1 p2_s381_s ck_S0) (ck_E1 (ck_S1 p2_s190_s ck_S0) ck_E0)))⟩ (by decide +kernel)
set_option maxRecDepth 100000 in
/-- GlacierMailModel.ofLetter -/
noncomputable def p2_s896 : ck_Sum := ((0, 0, 0), 245, [.inr (.inr (.inl 226)), .inl (ck_one 6), .inl (ck_one 1)], ([], [], []), ([], []), [(.inr (some (.inl (ck_one (-1)))), 245, ([], [], [(227, 162, 162, ck_one (-1))])), (.inr (some (.inl (0, 7, []))), 245, ([], [], [(227, 162, 162, (0, 7, []))]))])
set_option maxRecDepth 100000 in
theorem p2_s896_s {X : Int → Int} {LX : Nat} : ck_Ok p2_O X LX 301 p2_s896 := ck_okq (cuts := []) (f := 92) ⟨p2_nmu, ck_E0⟩ (by decide +kernel)
set_option maxRecDepth 100000 in
/-- GlacierMailModel.ofLetter -/
noncomputable def p2_s897 : ck_Sum := ((0, 0, 0), 245, [.inr (.inr (.inl 226)), .inl (ck_one 6), .inl (ck_one 3)], ([], [], []), ([], []), [(.inr (some (.inl (0, 299, []))), 245, ([], [], []))])
set_option maxRecDepth 100000 in
theorem p2_s897_s {X : Int → Int} {LX : Nat} : ck_Ok p2_O X LX 301 p2_s897 := ck_okq (cuts := []) (f := 92) ⟨p2_nmu, ck_E0⟩ (by decide +kernel)
/-- GlacierMailModel.opens -/
noncomputable def p2_s898 : ck_Sum := op_os0 6 (.inl (ck_one (-1))) 0 7 (-1) (-1)
theorem p2_s898_s {X : Int → Int} {LX : Nat} : ck_Ok p2_O X LX 319 p2_s898 := op_none (by decide) (by decide) (by decide)
/-- GlacierMailModel.opens -/
noncomputable def p2_s899 : ck_Sum := op_os 6 0 7
theorem p2_s899_s {X : Int → Int} {LX : Nat} : ck_Ok p2_O X LX 319 p2_s899 := op_open (by decide) (by decide) (by decide +kernel)
set_option maxRecDepth 100000 in
/-- GlacierMailModel.open -/
noncomputable def p2_s900 : ck_Sum := ((9, 0, 0), 245, [.inr (.inr (.inl 226)), .inl (ck_one 6)], ([], [], zl176), ([(226, 0, 0), (226, 6, 6), (226, 17, 23), (226, 26, 26), (226, 29, 30), (227, 14, 14), (227, 166, 167), (227, 323, 394), (230, 0, 4739), (233, 0, 399), (235, 0, 29699), (236, 0, 299), (237, 0, 299)], []), [(.inr (some (.inl (ck_one 0))), 245, ([], [], zl177)), (.inr (some (.inl ((-299), 299, []))), 245, ([], [], [(227, 166, 166, (0, 7, [])), (227, 162, 162, (0, 7, [])), (226, 6, 6, (1, 12, [(1000027, 0)])), (226, 29, 29, (0, 299, [])), (227, 161, 161, (0, 7, [])), (226, 0, 0, ck_one 0)]))])
set_option maxRecDepth 100000 in
theorem p2_s900_s {X : Int → Int} {LX : Nat} : ck_Ok p2_O X LX 318 p2_s900 := ck_okq (cuts := []) (f := 142) ⟨p2_nmu, ck_E1 (ck_S1 p2_s891_s ck_S0) (ck_E1 (ck_S1 p2_s241_s (ck_S1 p2_s242_s (ck_S1 p2_s244_s (ck_S1 p2_s243_s ck_S0)))) (ck_E1 (ck_S1 p2_s895_s ck_S0) (ck_E1 (ck_S1 p2_s553_s ck_S0) (ck_E1 (ck_S1 p2_s896_s (ck_S1 p2_s897_s ck_S0)) (ck_E1 (ck_S1 p2_s898_s (ck_S1 p2_s899_s ck_S0)) (ck_E1 (ck_S1 p2_s190_s ck_S0) ck_E0))))))⟩ (by decide +kernel)
end
/-! 78r80a10.sf -/
section
/-! EVERY CALL ENDS, whatever was done before (laid by wip/am/p2k.py). -/
set_option maxRecDepth 100000 in
/-- GlacierMailModel.in -/
noncomputable def p2_s901 : ck_Sum := ((0, 0, 0), 245, [.inl (ck_one 7), .inl (ck_one 0), .inl ((-1), 23, [])], ([], [], []), ([], []), [(.inr (some (.inl (ck_one 0))), 245, ([], [], [])), (.inr (some (.inl (ck_one 1))), 245, ([], [], []))])
set_option maxRecDepth 100000 in
theorem p2_s901_s {X : Int → Int} {LX : Nat} : ck_Ok p2_O X LX 286 p2_s901 := ck_okq (cuts := []) (f := 88) ⟨p2_nmu, ck_E0⟩ (by decide +kernel)
set_option maxRecDepth 100000 in
/-- GlacierMailModel.noLetter -/
noncomputable def p2_s902 : ck_Sum := ((1, 0, 0), 245, [.inr (.inr (.inl 226)), .inl (ck_one 7)], ([], [], [(227, 4, 4, (0, 24, [(22, 0)]))]), ([], []), [(.inr (some (.inl (ck_one 1))), 245, ([], [], [])), (.inr (some (.inl (ck_one 0))), 245, ([], [], []))])
set_option maxRecDepth 100000 in
theorem p2_s902_s {X : Int → Int} {LX : Nat} : ck_Ok p2_O X LX 309 p2_s902 := ck_okq (cuts := []) (f := 92) ⟨p2_nmu, ck_E1 (ck_S1 p2_s176_s ck_S0) (ck_E1 (ck_S1 p2_s901_s ck_S0) ck_E0)⟩ (by decide +kernel)
set_option maxRecDepth 100000 in
/-- GlacierMailModel.ofLetter -/
noncomputable def p2_s903 : ck_Sum := ((0, 0, 0), 245, [.inr (.inr (.inl 226)), .inl (ck_one 7), .inl (ck_one 0)], ([], [], []), ([], []), [(.inr (some (.inl (ck_one (-1)))), 245, ([], [], [(227, 168, 168, ck_one (-1))])), (.inr (some (.inl (0, 7, []))), 245, ([], [], [(227, 168, 168, (0, 7, []))]))])
set_option maxRecDepth 100000 in
theorem p2_s903_s {X : Int → Int} {LX : Nat} : ck_Ok p2_O X LX 301 p2_s903 := ck_okq (cuts := []) (f := 92) ⟨p2_nmu, ck_E0⟩ (by decide +kernel)
set_option maxRecDepth 100000 in
/-- GlacierMailModel.isRock -/
noncomputable def p2_s904 : ck_Sum := ((1, 0, 0), 245, [.inr (.inr (.inl 226)), .inl (ck_one 7)], ([], [], []), ([], []), [(.inr (some (.inl (ck_one 1))), 245, ([], [], [(227, 168, 168, ck_one (-1))])), (.inr (some (.inl (ck_one 0))), 245, ([], [], [(227, 168, 168, (0, 7, []))]))])
set_option maxRecDepth 100000 in
theorem p2_s904_s {X : Int → Int} {LX : Nat} : ck_Ok p2_O X LX 303 p2_s904 := ck_okq (cuts := []) (f := 86) ⟨p2_nmu, ck_E1 (ck_S1 p2_s903_s ck_S0) ck_E0⟩ (by decide +kernel)
set_option maxRecDepth 100000 in
/-- GlacierMailModel.ofLetter -/
noncomputable def p2_s905 : ck_Sum := ((0, 0, 0), 245, [.inr (.inr (.inl 226)), .inl (ck_one 7), .inl (ck_one 5)], ([], [], []), ([], []), [(.inr (some (.inl (ck_one (-1)))), 245, ([], [], [(227, 173, 173, ck_one (-1))])), (.inr (some (.inl (0, 7, []))), 245, ([], [], [(227, 173, 173, (0, 7, []))]))])
set_option maxRecDepth 100000 in
theorem p2_s905_s {X : Int → Int} {LX : Nat} : ck_Ok p2_O X LX 301 p2_s905 := ck_okq (cuts := []) (f := 92) ⟨p2_nmu, ck_E0⟩ (by decide +kernel)
set_option maxRecDepth 100000 in
/-- GlacierMailModel.isWaiting -/
noncomputable def p2_s906 : ck_Sum := ((8, 0, 0), 245, [.inr (.inr (.inl 226)), .inl (ck_one 7)], ([], [], zl83), (zl81, []), [(.inr (some (.inl (ck_one 0))), 245, ([], [], [])), (.inr (some (.inl (ck_one 1))), 245, ([], [], [(226, 29, 29, (0, 299, [])), (227, 173, 173, ck_one (-1)), (227, 168, 168, (0, 7, []))]))])
set_option maxRecDepth 100000 in
theorem p2_s906_s {X : Int → Int} {LX : Nat} : ck_Ok p2_O X LX 302 p2_s906 := ck_okq (cuts := []) (f := 114) ⟨p2_nmu, ck_E1 (ck_S1 p2_s904_s ck_S0) (ck_E1 (ck_S1 p2_s905_s ck_S0) (ck_E1 (ck_S1 p2_s381_s ck_S0) (ck_E1 (ck_S1 p2_s190_s ck_S0) ck_E0)))⟩ (by decide +kernel)
set_option maxRecDepth 100000 in
/-- GlacierMailModel.ofLetter -/
noncomputable def p2_s907 : ck_Sum := ((0, 0, 0), 245, [.inr (.inr (.inl 226)), .inl (ck_one 7), .inl (ck_one 1)], ([], [], []), ([], []), [(.inr (some (.inl (ck_one (-1)))), 245, ([], [], [(227, 169, 169, ck_one (-1))])), (.inr (some (.inl (0, 7, []))), 245, ([], [], [(227, 169, 169, (0, 7, []))]))])
set_option maxRecDepth 100000 in
theorem p2_s907_s {X : Int → Int} {LX : Nat} : ck_Ok p2_O X LX 301 p2_s907 := ck_okq (cuts := []) (f := 92) ⟨p2_nmu, ck_E0⟩ (by decide +kernel)
set_option maxRecDepth 100000 in
/-- GlacierMailModel.ofLetter -/
noncomputable def p2_s908 : ck_Sum := ((0, 0, 0), 245, [.inr (.inr (.inl 226)), .inl (ck_one 7), .inl (ck_one 3)], ([], [], []), ([], []), [(.inr (some (.inl (0, 299, []))), 245, ([], [], []))])
set_option maxRecDepth 100000 in
theorem p2_s908_s {X : Int → Int} {LX : Nat} : ck_Ok p2_O X LX 301 p2_s908 := ck_okq (cuts := []) (f := 92) ⟨p2_nmu, ck_E0⟩ (by decide +kernel)
/-- GlacierMailModel.opens -/
noncomputable def p2_s909 : ck_Sum := op_os0 7 (.inl (ck_one (-1))) 0 7 (-1) (-1)
theorem p2_s909_s {X : Int → Int} {LX : Nat} : ck_Ok p2_O X LX 319 p2_s909 := op_none (by decide) (by decide) (by decide)
/-- GlacierMailModel.opens -/
noncomputable def p2_s910 : ck_Sum := op_os 7 0 7
theorem p2_s910_s {X : Int → Int} {LX : Nat} : ck_Ok p2_O X LX 319 p2_s910 := op_open (by decide) (by decide) (by decide +kernel)
set_option maxRecDepth 100000 in
/-- GlacierMailModel.open -/
noncomputable def p2_s911 : ck_Sum := ((9, 0, 0), 245, [.inr (.inr (.inl 226)), .inl (ck_one 7)], ([], [], zl176), ([(226, 0, 0), (226, 6, 6), (226, 17, 23), (226, 26, 26), (226, 29, 30), (227, 14, 14), (227, 173, 174), (227, 323, 394), (230, 0, 4739), (233, 0, 399), (235, 0, 29699), (236, 0, 299), (237, 0, 299)], []), [(.inr (some (.inl (ck_one 0))), 245, ([], [], zl177)), (.inr (some (.inl ((-299), 299, []))), 245, ([], [], [(227, 173, 173, (0, 7, [])), (227, 169, 169, (0, 7, [])), (226, 6, 6, (1, 12, [(1000027, 0)])), (226, 29, 29, (0, 299, [])), (227, 168, 168, (0, 7, [])), (226, 0, 0, ck_one 0)]))])
set_option maxRecDepth 100000 in
theorem p2_s911_s {X : Int → Int} {LX : Nat} : ck_Ok p2_O X LX 318 p2_s911 := ck_okq (cuts := []) (f := 142) ⟨p2_nmu, ck_E1 (ck_S1 p2_s902_s ck_S0) (ck_E1 (ck_S1 p2_s241_s (ck_S1 p2_s242_s (ck_S1 p2_s244_s (ck_S1 p2_s243_s ck_S0)))) (ck_E1 (ck_S1 p2_s906_s ck_S0) (ck_E1 (ck_S1 p2_s553_s ck_S0) (ck_E1 (ck_S1 p2_s907_s (ck_S1 p2_s908_s ck_S0)) (ck_E1 (ck_S1 p2_s909_s (ck_S1 p2_s910_s ck_S0)) (ck_E1 (ck_S1 p2_s190_s ck_S0) ck_E0))))))⟩ (by decide +kernel)
set_option maxRecDepth 100000 in
/-- GlacierMailModel.in -/
noncomputable def p2_s912 : ck_Sum := ((0, 0, 0), 245, [.inl (ck_one 8), .inl (ck_one 0), .inl ((-1), 23, [])], ([], [], []), ([], []), [(.inr (some (.inl (ck_one 0))), 245, ([], [], [])), (.inr (some (.inl (ck_one 1))), 245, ([], [], []))])
set_option maxRecDepth 100000 in
theorem p2_s912_s {X : Int → Int} {LX : Nat} : ck_Ok p2_O X LX 286 p2_s912 := ck_okq (cuts := []) (f := 88) ⟨p2_nmu, ck_E0⟩ (by decide +kernel)
set_option maxRecDepth 100000 in
/-- GlacierMailModel.noLetter -/
noncomputable def p2_s913 : ck_Sum := ((1, 0, 0), 245, [.inr (.inr (.inl 226)), .inl (ck_one 8)], ([], [], [(227, 4, 4, (0, 24, [(22, 0)]))]), ([], []), [(.inr (some (.inl (ck_one 1))), 245, ([], [], [])), (.inr (some (.inl (ck_one 0))), 245, ([], [], []))])
set_option maxRecDepth 100000 in
theorem p2_s913_s {X : Int → Int} {LX : Nat} : ck_Ok p2_O X LX 309 p2_s913 := ck_okq (cuts := []) (f := 92) ⟨p2_nmu, ck_E1 (ck_S1 p2_s176_s ck_S0) (ck_E1 (ck_S1 p2_s912_s ck_S0) ck_E0)⟩ (by decide +kernel)
set_option maxRecDepth 100000 in
/-- GlacierMailModel.ofLetter -/
noncomputable def p2_s914 : ck_Sum := ((0, 0, 0), 245, [.inr (.inr (.inl 226)), .inl (ck_one 8), .inl (ck_one 0)], ([], [], []), ([], []), [(.inr (some (.inl (ck_one (-1)))), 245, ([], [], [(227, 175, 175, ck_one (-1))])), (.inr (some (.inl (0, 7, []))), 245, ([], [], [(227, 175, 175, (0, 7, []))]))])
set_option maxRecDepth 100000 in
theorem p2_s914_s {X : Int → Int} {LX : Nat} : ck_Ok p2_O X LX 301 p2_s914 := ck_okq (cuts := []) (f := 92) ⟨p2_nmu, ck_E0⟩ (by decide +kernel)
set_option maxRecDepth 100000 in
/-- GlacierMailModel.isRock -/
noncomputable def p2_s915 : ck_Sum := ((1, 0, 0), 245, [.inr (.inr (.inl 226)), .inl (ck_one 8)], ([], [], []), ([], []), [(.inr (some (.inl (ck_one 1))), 245, ([], [], [(227, 175, 175, ck_one (-1))])), (.inr (some (.inl (ck_one 0))), 245, ([], [], [(227, 175, 175, (0, 7, []))]))])
set_option maxRecDepth 100000 in
theorem p2_s915_s {X : Int → Int} {LX : Nat} : ck_Ok p2_O X LX 303 p2_s915 := ck_okq (cuts := []) (f := 86) ⟨p2_nmu, ck_E1 (ck_S1 p2_s914_s ck_S0) ck_E0⟩ (by decide +kernel)
set_option maxRecDepth 100000 in
/-- GlacierMailModel.ofLetter -/
noncomputable def p2_s916 : ck_Sum := ((0, 0, 0), 245, [.inr (.inr (.inl 226)), .inl (ck_one 8), .inl (ck_one 5)], ([], [], []), ([], []), [(.inr (some (.inl (ck_one (-1)))), 245, ([], [], [(227, 180, 180, ck_one (-1))])), (.inr (some (.inl (0, 7, []))), 245, ([], [], [(227, 180, 180, (0, 7, []))]))])
set_option maxRecDepth 100000 in
theorem p2_s916_s {X : Int → Int} {LX : Nat} : ck_Ok p2_O X LX 301 p2_s916 := ck_okq (cuts := []) (f := 92) ⟨p2_nmu, ck_E0⟩ (by decide +kernel)
set_option maxRecDepth 100000 in
/-- GlacierMailModel.isWaiting -/
noncomputable def p2_s917 : ck_Sum := ((8, 0, 0), 245, [.inr (.inr (.inl 226)), .inl (ck_one 8)], ([], [], zl83), (zl81, []), [(.inr (some (.inl (ck_one 0))), 245, ([], [], [])), (.inr (some (.inl (ck_one 1))), 245, ([], [], [(226, 29, 29, (0, 299, [])), (227, 180, 180, ck_one (-1)), (227, 175, 175, (0, 7, []))]))])
set_option maxRecDepth 100000 in
theorem p2_s917_s {X : Int → Int} {LX : Nat} : ck_Ok p2_O X LX 302 p2_s917 := ck_okq (cuts := []) (f := 114) ⟨p2_nmu, ck_E1 (ck_S1 p2_s915_s ck_S0) (ck_E1 (ck_S1 p2_s916_s ck_S0) (ck_E1 (ck_S1 p2_s381_s ck_S0) (ck_E1 (ck_S1 p2_s190_s ck_S0) ck_E0)))⟩ (by decide +kernel)
set_option maxRecDepth 100000 in
/-- GlacierMailModel.ofLetter -/
noncomputable def p2_s918 : ck_Sum := ((0, 0, 0), 245, [.inr (.inr (.inl 226)), .inl (ck_one 8), .inl (ck_one 1)], ([], [], []), ([], []), [(.inr (some (.inl (ck_one (-1)))), 245, ([], [], [(227, 176, 176, ck_one (-1))])), (.inr (some (.inl (0, 7, []))), 245, ([], [], [(227, 176, 176, (0, 7, []))]))])
set_option maxRecDepth 100000 in
theorem p2_s918_s {X : Int → Int} {LX : Nat} : ck_Ok p2_O X LX 301 p2_s918 := ck_okq (cuts := []) (f := 92) ⟨p2_nmu, ck_E0⟩ (by decide +kernel)
set_option maxRecDepth 100000 in
/-- GlacierMailModel.ofLetter -/
noncomputable def p2_s919 : ck_Sum := ((0, 0, 0), 245, [.inr (.inr (.inl 226)), .inl (ck_one 8), .inl (ck_one 3)], ([], [], []), ([], []), [(.inr (some (.inl (0, 299, []))), 245, ([], [], []))])
set_option maxRecDepth 100000 in
theorem p2_s919_s {X : Int → Int} {LX : Nat} : ck_Ok p2_O X LX 301 p2_s919 := ck_okq (cuts := []) (f := 92) ⟨p2_nmu, ck_E0⟩ (by decide +kernel)
/-- GlacierMailModel.opens -/
noncomputable def p2_s920 : ck_Sum := op_os0 8 (.inl (ck_one (-1))) 0 7 (-1) (-1)
theorem p2_s920_s {X : Int → Int} {LX : Nat} : ck_Ok p2_O X LX 319 p2_s920 := op_none (by decide) (by decide) (by decide)
/-- GlacierMailModel.opens -/
noncomputable def p2_s921 : ck_Sum := op_os 8 0 7
theorem p2_s921_s {X : Int → Int} {LX : Nat} : ck_Ok p2_O X LX 319 p2_s921 := op_open (by decide) (by decide) (by decide +kernel)
set_option maxRecDepth 100000 in
/-- GlacierMailModel.open -/
noncomputable def p2_s922 : ck_Sum := ((9, 0, 0), 245, [.inr (.inr (.inl 226)), .inl (ck_one 8)], ([], [], zl176), ([(226, 0, 0), (226, 6, 6), (226, 17, 23), (226, 26, 26), (226, 29, 30), (227, 14, 14), (227, 180, 181), (227, 323, 394), (230, 0, 4739), (233, 0, 399), (235, 0, 29699), (236, 0, 299), (237, 0, 299)], []), [(.inr (some (.inl (ck_one 0))), 245, ([], [], zl177)), (.inr (some (.inl ((-299), 299, []))), 245, ([], [], [(227, 180, 180, (0, 7, [])), (227, 176, 176, (0, 7, [])), (226, 6, 6, (1, 12, [(1000027, 0)])), (226, 29, 29, (0, 299, [])), (227, 175, 175, (0, 7, [])), (226, 0, 0, ck_one 0)]))])
set_option maxRecDepth 100000 in
theorem p2_s922_s {X : Int → Int} {LX : Nat} : ck_Ok p2_O X LX 318 p2_s922 := ck_okq (cuts := []) (f := 142) ⟨p2_nmu, ck_E1 (ck_S1 p2_s913_s ck_S0) (ck_E1 (ck_S1 p2_s241_s (ck_S1 p2_s242_s (ck_S1 p2_s244_s (ck_S1 p2_s243_s ck_S0)))) (ck_E1 (ck_S1 p2_s917_s ck_S0) (ck_E1 (ck_S1 p2_s553_s ck_S0) (ck_E1 (ck_S1 p2_s918_s (ck_S1 p2_s919_s ck_S0)) (ck_E1 (ck_S1 p2_s920_s (ck_S1 p2_s921_s ck_S0)) (ck_E1 (ck_S1 p2_s190_s ck_S0) ck_E0))))))⟩ (by decide +kernel)
set_option maxRecDepth 100000 in
/-- GlacierMailModel.in -/
noncomputable def p2_s923 : ck_Sum := ((0, 0, 0), 245, [.inl (ck_one 9), .inl (ck_one 0), .inl ((-1), 23, [])], ([], [], []), ([], []), [(.inr (some (.inl (ck_one 0))), 245, ([], [], [])), (.inr (some (.inl (ck_one 1))), 245, ([], [], []))])
set_option maxRecDepth 100000 in
theorem p2_s923_s {X : Int → Int} {LX : Nat} : ck_Ok p2_O X LX 286 p2_s923 := ck_okq (cuts := []) (f := 88) ⟨p2_nmu, ck_E0⟩ (by decide +kernel)
set_option maxRecDepth 100000 in
/-- GlacierMailModel.noLetter -/
noncomputable def p2_s924 : ck_Sum := ((1, 0, 0), 245, [.inr (.inr (.inl 226)), .inl (ck_one 9)], ([], [], [(227, 4, 4, (0, 24, [(22, 0)]))]), ([], []), [(.inr (some (.inl (ck_one 1))), 245, ([], [], [])), (.inr (some (.inl (ck_one 0))), 245, ([], [], []))])
set_option maxRecDepth 100000 in
theorem p2_s924_s {X : Int → Int} {LX : Nat} : ck_Ok p2_O X LX 309 p2_s924 := ck_okq (cuts := []) (f := 92) ⟨p2_nmu, ck_E1 (ck_S1 p2_s176_s ck_S0) (ck_E1 (ck_S1 p2_s923_s ck_S0) ck_E0)⟩ (by decide +kernel)
set_option maxRecDepth 100000 in
/-- GlacierMailModel.ofLetter -/
noncomputable def p2_s925 : ck_Sum := ((0, 0, 0), 245, [.inr (.inr (.inl 226)), .inl (ck_one 9), .inl (ck_one 0)], ([], [], []), ([], []), [(.inr (some (.inl (ck_one (-1)))), 245, ([], [], [(227, 182, 182, ck_one (-1))])), (.inr (some (.inl (0, 7, []))), 245, ([], [], [(227, 182, 182, (0, 7, []))]))])
set_option maxRecDepth 100000 in
theorem p2_s925_s {X : Int → Int} {LX : Nat} : ck_Ok p2_O X LX 301 p2_s925 := ck_okq (cuts := []) (f := 92) ⟨p2_nmu, ck_E0⟩ (by decide +kernel)
set_option maxRecDepth 100000 in
/-- GlacierMailModel.isRock -/
noncomputable def p2_s926 : ck_Sum := ((1, 0, 0), 245, [.inr (.inr (.inl 226)), .inl (ck_one 9)], ([], [], []), ([], []), [(.inr (some (.inl (ck_one 1))), 245, ([], [], [(227, 182, 182, ck_one (-1))])), (.inr (some (.inl (ck_one 0))), 245, ([], [], [(227, 182, 182, (0, 7, []))]))])
set_option maxRecDepth 100000 in
theorem p2_s926_s {X : Int → Int} {LX : Nat} : ck_Ok p2_O X LX 303 p2_s926 := ck_okq (cuts := []) (f := 86) ⟨p2_nmu, ck_E1 (ck_S1 p2_s925_s ck_S0) ck_E0⟩ (by decide +kernel)
set_option maxRecDepth 100000 in
/-- GlacierMailModel.ofLetter -/
noncomputable def p2_s927 : ck_Sum := ((0, 0, 0), 245, [.inr (.inr (.inl 226)), .inl (ck_one 9), .inl (ck_one 5)], ([], [], []), ([], []), [(.inr (some (.inl (ck_one (-1)))), 245, ([], [], [(227, 187, 187, ck_one (-1))])), (.inr (some (.inl (0, 7, []))), 245, ([], [], [(227, 187, 187, (0, 7, []))]))])
set_option maxRecDepth 100000 in
theorem p2_s927_s {X : Int → Int} {LX : Nat} : ck_Ok p2_O X LX 301 p2_s927 := ck_okq (cuts := []) (f := 92) ⟨p2_nmu, ck_E0⟩ (by decide +kernel)
set_option maxRecDepth 100000 in
/-- GlacierMailModel.isWaiting -/
noncomputable def p2_s928 : ck_Sum := ((8, 0, 0), 245, [.inr (.inr (.inl 226)), .inl (ck_one 9)], ([], [], zl83), (zl81, []), [(.inr (some (.inl (ck_one 0))), 245, ([], [], [])), (.inr (some (.inl (ck_one 1))), 245, ([], [], [(226, 29, 29, (0, 299, [])), (227, 187, 187, ck_one (-1)), (227, 182, 182, (0, 7, []))]))])
set_option maxRecDepth 100000 in
theorem p2_s928_s {X : Int → Int} {LX : Nat} : ck_Ok p2_O X LX 302 p2_s928 := ck_okq (cuts := []) (f := 114) ⟨p2_nmu, ck_E1 (ck_S1 p2_s926_s ck_S0) (ck_E1 (ck_S1 p2_s927_s ck_S0) (ck_E1 (ck_S1 p2_s381_s ck_S0) (ck_E1 (ck_S1 p2_s190_s ck_S0) ck_E0)))⟩ (by decide +kernel)
set_option maxRecDepth 100000 in
/-- GlacierMailModel.ofLetter -/
noncomputable def p2_s929 : ck_Sum := ((0, 0, 0), 245, [.inr (.inr (.inl 226)), .inl (ck_one 9), .inl (ck_one 1)], ([], [], []), ([], []), [(.inr (some (.inl (ck_one (-1)))), 245, ([], [], [(227, 183, 183, ck_one (-1))])), (.inr (some (.inl (0, 7, []))), 245, ([], [], [(227, 183, 183, (0, 7, []))]))])
set_option maxRecDepth 100000 in
theorem p2_s929_s {X : Int → Int} {LX : Nat} : ck_Ok p2_O X LX 301 p2_s929 := ck_okq (cuts := []) (f := 92) ⟨p2_nmu, ck_E0⟩ (by decide +kernel)
set_option maxRecDepth 100000 in
/-- GlacierMailModel.ofLetter -/
noncomputable def p2_s930 : ck_Sum := ((0, 0, 0), 245, [.inr (.inr (.inl 226)), .inl (ck_one 9), .inl (ck_one 3)], ([], [], []), ([], []), [(.inr (some (.inl (0, 299, []))), 245, ([], [], []))])
set_option maxRecDepth 100000 in
theorem p2_s930_s {X : Int → Int} {LX : Nat} : ck_Ok p2_O X LX 301 p2_s930 := ck_okq (cuts := []) (f := 92) ⟨p2_nmu, ck_E0⟩ (by decide +kernel)
/-- GlacierMailModel.opens -/
noncomputable def p2_s931 : ck_Sum := op_os0 9 (.inl (ck_one (-1))) 0 7 (-1) (-1)
theorem p2_s931_s {X : Int → Int} {LX : Nat} : ck_Ok p2_O X LX 319 p2_s931 := op_none (by decide) (by decide) (by decide)
/-- GlacierMailModel.opens -/
noncomputable def p2_s932 : ck_Sum := op_os 9 0 7
theorem p2_s932_s {X : Int → Int} {LX : Nat} : ck_Ok p2_O X LX 319 p2_s932 := op_open (by decide) (by decide) (by decide +kernel)
set_option maxRecDepth 100000 in
/-- GlacierMailModel.open -/
noncomputable def p2_s933 : ck_Sum := ((9, 0, 0), 245, [.inr (.inr (.inl 226)), .inl (ck_one 9)], ([], [], zl176), ([(226, 0, 0), (226, 6, 6), (226, 17, 23), (226, 26, 26), (226, 29, 30), (227, 14, 14), (227, 187, 188), (227, 323, 394), (230, 0, 4739), (233, 0, 399), (235, 0, 29699), (236, 0, 299), (237, 0, 299)], []), [(.inr (some (.inl (ck_one 0))), 245, ([], [], zl177)), (.inr (some (.inl ((-299), 299, []))), 245, ([], [], [(227, 187, 187, (0, 7, [])), (227, 183, 183, (0, 7, [])), (226, 6, 6, (1, 12, [(1000027, 0)])), (226, 29, 29, (0, 299, [])), (227, 182, 182, (0, 7, [])), (226, 0, 0, ck_one 0)]))])
set_option maxRecDepth 100000 in
theorem p2_s933_s {X : Int → Int} {LX : Nat} : ck_Ok p2_O X LX 318 p2_s933 := ck_okq (cuts := []) (f := 142) ⟨p2_nmu, ck_E1 (ck_S1 p2_s924_s ck_S0) (ck_E1 (ck_S1 p2_s241_s (ck_S1 p2_s242_s (ck_S1 p2_s244_s (ck_S1 p2_s243_s ck_S0)))) (ck_E1 (ck_S1 p2_s928_s ck_S0) (ck_E1 (ck_S1 p2_s553_s ck_S0) (ck_E1 (ck_S1 p2_s929_s (ck_S1 p2_s930_s ck_S0)) (ck_E1 (ck_S1 p2_s931_s (ck_S1 p2_s932_s ck_S0)) (ck_E1 (ck_S1 p2_s190_s ck_S0) ck_E0))))))⟩ (by decide +kernel)
set_option maxRecDepth 100000 in
/-- GlacierMailModel.in -/
noncomputable def p2_s934 : ck_Sum := ((0, 0, 0), 245, [.inl (ck_one 10), .inl (ck_one 0), .inl ((-1), 23, [])], ([], [], []), ([], []), [(.inr (some (.inl (ck_one 0))), 245, ([], [], [])), (.inr (some (.inl (ck_one 1))), 245, ([], [], []))])
set_option maxRecDepth 100000 in
theorem p2_s934_s {X : Int → Int} {LX : Nat} : ck_Ok p2_O X LX 286 p2_s934 := ck_okq (cuts := []) (f := 88) ⟨p2_nmu, ck_E0⟩ (by decide +kernel)
set_option maxRecDepth 100000 in
/-- GlacierMailModel.noLetter -/
noncomputable def p2_s935 : ck_Sum := ((1, 0, 0), 245, [.inr (.inr (.inl 226)), .inl (ck_one 10)], ([], [], [(227, 4, 4, (0, 24, [(22, 0)]))]), ([], []), [(.inr (some (.inl (ck_one 1))), 245, ([], [], [])), (.inr (some (.inl (ck_one 0))), 245, ([], [], []))])
set_option maxRecDepth 100000 in
theorem p2_s935_s {X : Int → Int} {LX : Nat} : ck_Ok p2_O X LX 309 p2_s935 := ck_okq (cuts := []) (f := 92) ⟨p2_nmu, ck_E1 (ck_S1 p2_s176_s ck_S0) (ck_E1 (ck_S1 p2_s934_s ck_S0) ck_E0)⟩ (by decide +kernel)
set_option maxRecDepth 100000 in
/-- GlacierMailModel.ofLetter -/
noncomputable def p2_s936 : ck_Sum := ((0, 0, 0), 245, [.inr (.inr (.inl 226)), .inl (ck_one 10), .inl (ck_one 0)], ([], [], []), ([], []), [(.inr (some (.inl (ck_one (-1)))), 245, ([], [], [(227, 189, 189, ck_one (-1))])), (.inr (some (.inl (0, 7, []))), 245, ([], [], [(227, 189, 189, (0, 7, []))]))])
set_option maxRecDepth 100000 in
theorem p2_s936_s {X : Int → Int} {LX : Nat} : ck_Ok p2_O X LX 301 p2_s936 := ck_okq (cuts := []) (f := 92) ⟨p2_nmu, ck_E0⟩ (by decide +kernel)
set_option maxRecDepth 100000 in
/-- GlacierMailModel.isRock -/
noncomputable def p2_s937 : ck_Sum := ((1, 0, 0), 245, [.inr (.inr (.inl 226)), .inl (ck_one 10)], ([], [], []), ([], []), [(.inr (some (.inl (ck_one 1))), 245, ([], [], [(227, 189, 189, ck_one (-1))])), (.inr (some (.inl (ck_one 0))), 245, ([], [], [(227, 189, 189, (0, 7, []))]))])
set_option maxRecDepth 100000 in
theorem p2_s937_s {X : Int → Int} {LX : Nat} : ck_Ok p2_O X LX 303 p2_s937 := ck_okq (cuts := []) (f := 86) ⟨p2_nmu, ck_E1 (ck_S1 p2_s936_s ck_S0) ck_E0⟩ (by decide +kernel)
set_option maxRecDepth 100000 in
/-- GlacierMailModel.ofLetter -/
noncomputable def p2_s938 : ck_Sum := ((0, 0, 0), 245, [.inr (.inr (.inl 226)), .inl (ck_one 10), .inl (ck_one 5)], ([], [], []), ([], []), [(.inr (some (.inl (ck_one (-1)))), 245, ([], [], [(227, 194, 194, ck_one (-1))])), (.inr (some (.inl (0, 7, []))), 245, ([], [], [(227, 194, 194, (0, 7, []))]))])
set_option maxRecDepth 100000 in
theorem p2_s938_s {X : Int → Int} {LX : Nat} : ck_Ok p2_O X LX 301 p2_s938 := ck_okq (cuts := []) (f := 92) ⟨p2_nmu, ck_E0⟩ (by decide +kernel)
set_option maxRecDepth 100000 in
/-- GlacierMailModel.isWaiting -/
noncomputable def p2_s939 : ck_Sum := ((8, 0, 0), 245, [.inr (.inr (.inl 226)), .inl (ck_one 10)], ([], [], zl83), (zl81, []), [(.inr (some (.inl (ck_one 0))), 245, ([], [], [])), (.inr (some (.inl (ck_one 1))), 245, ([], [], [(226, 29, 29, (0, 299, [])), (227, 194, 194, ck_one (-1)), (227, 189, 189, (0, 7, []))]))])
set_option maxRecDepth 100000 in
theorem p2_s939_s {X : Int → Int} {LX : Nat} : ck_Ok p2_O X LX 302 p2_s939 := ck_okq (cuts := []) (f := 114) ⟨p2_nmu, ck_E1 (ck_S1 p2_s937_s ck_S0) (ck_E1 (ck_S1 p2_s938_s ck_S0) (ck_E1 (ck_S1 p2_s381_s ck_S0) (ck_E1 (ck_S1 p2_s190_s ck_S0) ck_E0)))⟩ (by decide +kernel)
set_option maxRecDepth 100000 in
/-- GlacierMailModel.ofLetter -/
noncomputable def p2_s940 : ck_Sum := ((0, 0, 0), 245, [.inr (.inr (.inl 226)), .inl (ck_one 10), .inl (ck_one 1)], ([], [], []), ([], []), [(.inr (some (.inl (ck_one (-1)))), 245, ([], [], [(227, 190, 190, ck_one (-1))])), (.inr (some (.inl (0, 7, []))), 245, ([], [], [(227, 190, 190, (0, 7, []))]))])
set_option maxRecDepth 100000 in
theorem p2_s940_s {X : Int → Int} {LX : Nat} : ck_Ok p2_O X LX 301 p2_s940 := ck_okq (cuts := []) (f := 92) ⟨p2_nmu, ck_E0⟩ (by decide +kernel)
set_option maxRecDepth 100000 in
/-- GlacierMailModel.ofLetter -/
noncomputable def p2_s941 : ck_Sum := ((0, 0, 0), 245, [.inr (.inr (.inl 226)), .inl (ck_one 10), .inl (ck_one 3)], ([], [], []), ([], []), [(.inr (some (.inl (0, 299, []))), 245, ([], [], []))])
set_option maxRecDepth 100000 in
theorem p2_s941_s {X : Int → Int} {LX : Nat} : ck_Ok p2_O X LX 301 p2_s941 := ck_okq (cuts := []) (f := 92) ⟨p2_nmu, ck_E0⟩ (by decide +kernel)
/-- GlacierMailModel.opens -/
noncomputable def p2_s942 : ck_Sum := op_os0 10 (.inl (ck_one (-1))) 0 7 (-1) (-1)
theorem p2_s942_s {X : Int → Int} {LX : Nat} : ck_Ok p2_O X LX 319 p2_s942 := op_none (by decide) (by decide) (by decide)
/-- GlacierMailModel.opens -/
noncomputable def p2_s943 : ck_Sum := op_os 10 0 7
theorem p2_s943_s {X : Int → Int} {LX : Nat} : ck_Ok p2_O X LX 319 p2_s943 := op_open (by decide) (by decide) (by decide +kernel)
set_option maxRecDepth 100000 in
/-- GlacierMailModel.open -/
noncomputable def p2_s944 : ck_Sum := ((9, 0, 0), 245, [.inr (.inr (.inl 226)), .inl (ck_one 10)], ([], [], zl176), ([(226, 0, 0), (226, 6, 6), (226, 17, 23), (226, 26, 26), (226, 29, 30), (227, 14, 14), (227, 194, 195), (227, 323, 394), (230, 0, 4739), (233, 0, 399), (235, 0, 29699), (236, 0, 299), (237, 0, 299)], []), [(.inr (some (.inl (ck_one 0))), 245, ([], [], zl177)), (.inr (some (.inl ((-299), 299, []))), 245, ([], [], [(227, 194, 194, (0, 7, [])), (227, 190, 190, (0, 7, [])), (226, 6, 6, (1, 12, [(1000027, 0)])), (226, 29, 29, (0, 299, [])), (227, 189, 189, (0, 7, [])), (226, 0, 0, ck_one 0)]))])
set_option maxRecDepth 100000 in
theorem p2_s944_s {X : Int → Int} {LX : Nat} : ck_Ok p2_O X LX 318 p2_s944 := ck_okq (cuts := []) (f := 142) ⟨p2_nmu, ck_E1 (ck_S1 p2_s935_s ck_S0) (ck_E1 (ck_S1 p2_s241_s (ck_S1 p2_s242_s (ck_S1 p2_s244_s (ck_S1 p2_s243_s ck_S0)))) (ck_E1 (ck_S1 p2_s939_s ck_S0) (ck_E1 (ck_S1 p2_s553_s ck_S0) (ck_E1 (ck_S1 p2_s940_s (ck_S1 p2_s941_s ck_S0)) (ck_E1 (ck_S1 p2_s942_s (ck_S1 p2_s943_s ck_S0)) (ck_E1 (ck_S1 p2_s190_s ck_S0) ck_E0))))))⟩ (by decide +kernel)
set_option maxRecDepth 100000 in
/-- GlacierMailModel.in -/
noncomputable def p2_s945 : ck_Sum := ((0, 0, 0), 245, [.inl (ck_one 11), .inl (ck_one 0), .inl ((-1), 23, [])], ([], [], []), ([], []), [(.inr (some (.inl (ck_one 0))), 245, ([], [], [])), (.inr (some (.inl (ck_one 1))), 245, ([], [], []))])
set_option maxRecDepth 100000 in
theorem p2_s945_s {X : Int → Int} {LX : Nat} : ck_Ok p2_O X LX 286 p2_s945 := ck_okq (cuts := []) (f := 88) ⟨p2_nmu, ck_E0⟩ (by decide +kernel)
set_option maxRecDepth 100000 in
/-- GlacierMailModel.noLetter -/
noncomputable def p2_s946 : ck_Sum := ((1, 0, 0), 245, [.inr (.inr (.inl 226)), .inl (ck_one 11)], ([], [], [(227, 4, 4, (0, 24, [(22, 0)]))]), ([], []), [(.inr (some (.inl (ck_one 1))), 245, ([], [], [])), (.inr (some (.inl (ck_one 0))), 245, ([], [], []))])
set_option maxRecDepth 100000 in
theorem p2_s946_s {X : Int → Int} {LX : Nat} : ck_Ok p2_O X LX 309 p2_s946 := ck_okq (cuts := []) (f := 92) ⟨p2_nmu, ck_E1 (ck_S1 p2_s176_s ck_S0) (ck_E1 (ck_S1 p2_s945_s ck_S0) ck_E0)⟩ (by decide +kernel)
set_option maxRecDepth 100000 in
/-- GlacierMailModel.ofLetter -/
noncomputable def p2_s947 : ck_Sum := ((0, 0, 0), 245, [.inr (.inr (.inl 226)), .inl (ck_one 11), .inl (ck_one 0)], ([], [], []), ([], []), [(.inr (some (.inl (ck_one (-1)))), 245, ([], [], [(227, 196, 196, ck_one (-1))])), (.inr (some (.inl (0, 7, []))), 245, ([], [], [(227, 196, 196, (0, 7, []))]))])
set_option maxRecDepth 100000 in
theorem p2_s947_s {X : Int → Int} {LX : Nat} : ck_Ok p2_O X LX 301 p2_s947 := ck_okq (cuts := []) (f := 92) ⟨p2_nmu, ck_E0⟩ (by decide +kernel)
set_option maxRecDepth 100000 in
/-- GlacierMailModel.isRock -/
noncomputable def p2_s948 : ck_Sum := ((1, 0, 0), 245, [.inr (.inr (.inl 226)), .inl (ck_one 11)], ([], [], []), ([], []), [(.inr (some (.inl (ck_one 1))), 245, ([], [], [(227, 196, 196, ck_one (-1))])), (.inr (some (.inl (ck_one 0))), 245, ([], [], [(227, 196, 196, (0, 7, []))]))])
set_option maxRecDepth 100000 in
theorem p2_s948_s {X : Int → Int} {LX : Nat} : ck_Ok p2_O X LX 303 p2_s948 := ck_okq (cuts := []) (f := 86) ⟨p2_nmu, ck_E1 (ck_S1 p2_s947_s ck_S0) ck_E0⟩ (by decide +kernel)
set_option maxRecDepth 100000 in
/-- GlacierMailModel.ofLetter -/
noncomputable def p2_s949 : ck_Sum := ((0, 0, 0), 245, [.inr (.inr (.inl 226)), .inl (ck_one 11), .inl (ck_one 5)], ([], [], []), ([], []), [(.inr (some (.inl (ck_one (-1)))), 245, ([], [], [(227, 201, 201, ck_one (-1))])), (.inr (some (.inl (0, 7, []))), 245, ([], [], [(227, 201, 201, (0, 7, []))]))])
set_option maxRecDepth 100000 in
theorem p2_s949_s {X : Int → Int} {LX : Nat} : ck_Ok p2_O X LX 301 p2_s949 := ck_okq (cuts := []) (f := 92) ⟨p2_nmu, ck_E0⟩ (by decide +kernel)
set_option maxRecDepth 100000 in
/-- GlacierMailModel.isWaiting -/
noncomputable def p2_s950 : ck_Sum := ((8, 0, 0), 245, [.inr (.inr (.inl 226)), .inl (ck_one 11)], ([], [], zl83), (zl81, []), [(.inr (some (.inl (ck_one 0))), 245, ([], [], [])), (.inr (some (.inl (ck_one 1))), 245, ([], [], [(226, 29, 29, (0, 299, [])), (227, 201, 201, ck_one (-1)), (227, 196, 196, (0, 7, []))]))])
set_option maxRecDepth 100000 in
theorem p2_s950_s {X : Int → Int} {LX : Nat} : ck_Ok p2_O X LX 302 p2_s950 := ck_okq (cuts := []) (f := 114) ⟨p2_nmu, ck_E1 (ck_S1 p2_s948_s ck_S0) (ck_E1 (ck_S1 p2_s949_s ck_S0) (ck_E1 (ck_S1 p2_s381_s ck_S0) (ck_E1 (ck_S1 p2_s190_s ck_S0) ck_E0)))⟩ (by decide +kernel)
set_option maxRecDepth 100000 in
/-- GlacierMailModel.ofLetter -/
noncomputable def p2_s951 : ck_Sum := ((0, 0, 0), 245, [.inr (.inr (.inl 226)), .inl (ck_one 11), .inl (ck_one 1)], ([], [], []), ([], []), [(.inr (some (.inl (ck_one (-1)))), 245, ([], [], [(227, 197, 197, ck_one (-1))])), (.inr (some (.inl (0, 7, []))), 245, ([], [], [(227, 197, 197, (0, 7, []))]))])
set_option maxRecDepth 100000 in
theorem p2_s951_s {X : Int → Int} {LX : Nat} : ck_Ok p2_O X LX 301 p2_s951 := ck_okq (cuts := []) (f := 92) ⟨p2_nmu, ck_E0⟩ (by decide +kernel)
set_option maxRecDepth 100000 in
/-- GlacierMailModel.ofLetter -/
noncomputable def p2_s952 : ck_Sum := ((0, 0, 0), 245, [.inr (.inr (.inl 226)), .inl (ck_one 11), .inl (ck_one 3)], ([], [], []), ([], []), [(.inr (some (.inl (0, 299, []))), 245, ([], [], []))])
set_option maxRecDepth 100000 in
theorem p2_s952_s {X : Int → Int} {LX : Nat} : ck_Ok p2_O X LX 301 p2_s952 := ck_okq (cuts := []) (f := 92) ⟨p2_nmu, ck_E0⟩ (by decide +kernel)
/-- GlacierMailModel.opens -/
noncomputable def p2_s953 : ck_Sum := op_os0 11 (.inl (ck_one (-1))) 0 7 (-1) (-1)
theorem p2_s953_s {X : Int → Int} {LX : Nat} : ck_Ok p2_O X LX 319 p2_s953 := op_none (by decide) (by decide) (by decide)
/-- GlacierMailModel.opens -/
noncomputable def p2_s954 : ck_Sum := op_os 11 0 7
theorem p2_s954_s {X : Int → Int} {LX : Nat} : ck_Ok p2_O X LX 319 p2_s954 := op_open (by decide) (by decide) (by decide +kernel)
set_option maxRecDepth 100000 in
/-- GlacierMailModel.open -/
noncomputable def p2_s955 : ck_Sum := ((9, 0, 0), 245, [.inr (.inr (.inl 226)), .inl (ck_one 11)], ([], [], zl176), ([(226, 0, 0), (226, 6, 6), (226, 17, 23), (226, 26, 26), (226, 29, 30), (227, 14, 14), (227, 201, 202), (227, 323, 394), (230, 0, 4739), (233, 0, 399), (235, 0, 29699), (236, 0, 299), (237, 0, 299)], []), [(.inr (some (.inl (ck_one 0))), 245, ([], [], zl177)), (.inr (some (.inl ((-299), 299, []))), 245, ([], [], [(227, 201, 201, (0, 7, [])), (227, 197, 197, (0, 7, [])), (226, 6, 6, (1, 12, [(1000027, 0)])), (226, 29, 29, (0, 299, [])), (227, 196, 196, (0, 7, [])), (226, 0, 0, ck_one 0)]))])
set_option maxRecDepth 100000 in
theorem p2_s955_s {X : Int → Int} {LX : Nat} : ck_Ok p2_O X LX 318 p2_s955 := ck_okq (cuts := []) (f := 142) ⟨p2_nmu, ck_E1 (ck_S1 p2_s946_s ck_S0) (ck_E1 (ck_S1 p2_s241_s (ck_S1 p2_s242_s (ck_S1 p2_s244_s (ck_S1 p2_s243_s ck_S0)))) (ck_E1 (ck_S1 p2_s950_s ck_S0) (ck_E1 (ck_S1 p2_s553_s ck_S0) (ck_E1 (ck_S1 p2_s951_s (ck_S1 p2_s952_s ck_S0)) (ck_E1 (ck_S1 p2_s953_s (ck_S1 p2_s954_s ck_S0)) (ck_E1 (ck_S1 p2_s190_s ck_S0) ck_E0))))))⟩ (by decide +kernel)
set_option maxRecDepth 100000 in
/-- GlacierMailModel.in -/
noncomputable def p2_s956 : ck_Sum := ((0, 0, 0), 245, [.inl (ck_one 12), .inl (ck_one 0), .inl ((-1), 23, [])], ([], [], []), ([], []), [(.inr (some (.inl (ck_one 0))), 245, ([], [], [])), (.inr (some (.inl (ck_one 1))), 245, ([], [], []))])
set_option maxRecDepth 100000 in
theorem p2_s956_s {X : Int → Int} {LX : Nat} : ck_Ok p2_O X LX 286 p2_s956 := ck_okq (cuts := []) (f := 88) ⟨p2_nmu, ck_E0⟩ (by decide +kernel)
set_option maxRecDepth 100000 in
/-- GlacierMailModel.noLetter -/
noncomputable def p2_s957 : ck_Sum := ((1, 0, 0), 245, [.inr (.inr (.inl 226)), .inl (ck_one 12)], ([], [], [(227, 4, 4, (0, 24, [(22, 0)]))]), ([], []), [(.inr (some (.inl (ck_one 1))), 245, ([], [], [])), (.inr (some (.inl (ck_one 0))), 245, ([], [], []))])
set_option maxRecDepth 100000 in
theorem p2_s957_s {X : Int → Int} {LX : Nat} : ck_Ok p2_O X LX 309 p2_s957 := ck_okq (cuts := []) (f := 92) ⟨p2_nmu, ck_E1 (ck_S1 p2_s176_s ck_S0) (ck_E1 (ck_S1 p2_s956_s ck_S0) ck_E0)⟩ (by decide +kernel)
set_option maxRecDepth 100000 in
/-- GlacierMailModel.ofLetter -/
noncomputable def p2_s958 : ck_Sum := ((0, 0, 0), 245, [.inr (.inr (.inl 226)), .inl (ck_one 12), .inl (ck_one 0)], ([], [], []), ([], []), [(.inr (some (.inl (ck_one (-1)))), 245, ([], [], [(227, 203, 203, ck_one (-1))])), (.inr (some (.inl (0, 7, []))), 245, ([], [], [(227, 203, 203, (0, 7, []))]))])
set_option maxRecDepth 100000 in
theorem p2_s958_s {X : Int → Int} {LX : Nat} : ck_Ok p2_O X LX 301 p2_s958 := ck_okq (cuts := []) (f := 92) ⟨p2_nmu, ck_E0⟩ (by decide +kernel)
set_option maxRecDepth 100000 in
/-- GlacierMailModel.isRock -/
noncomputable def p2_s959 : ck_Sum := ((1, 0, 0), 245, [.inr (.inr (.inl 226)), .inl (ck_one 12)], ([], [], []), ([], []), [(.inr (some (.inl (ck_one 1))), 245, ([], [], [(227, 203, 203, ck_one (-1))])), (.inr (some (.inl (ck_one 0))), 245, ([], [], [(227, 203, 203, (0, 7, []))]))])
set_option maxRecDepth 100000 in
theorem p2_s959_s {X : Int → Int} {LX : Nat} : ck_Ok p2_O X LX 303 p2_s959 := ck_okq (cuts := []) (f := 86) ⟨p2_nmu, ck_E1 (ck_S1 p2_s958_s ck_S0) ck_E0⟩ (by decide +kernel)
set_option maxRecDepth 100000 in
/-- GlacierMailModel.ofLetter -/
noncomputable def p2_s960 : ck_Sum := ((0, 0, 0), 245, [.inr (.inr (.inl 226)), .inl (ck_one 12), .inl (ck_one 5)], ([], [], []), ([], []), [(.inr (some (.inl (ck_one (-1)))), 245, ([], [], [(227, 208, 208, ck_one (-1))])), (.inr (some (.inl (0, 7, []))), 245, ([], [], [(227, 208, 208, (0, 7, []))]))])
set_option maxRecDepth 100000 in
theorem p2_s960_s {X : Int → Int} {LX : Nat} : ck_Ok p2_O X LX 301 p2_s960 := ck_okq (cuts := []) (f := 92) ⟨p2_nmu, ck_E0⟩ (by decide +kernel)
set_option maxRecDepth 100000 in
/-- GlacierMailModel.isWaiting -/
noncomputable def p2_s961 : ck_Sum := ((8, 0, 0), 245, [.inr (.inr (.inl 226)), .inl (ck_one 12)], ([], [], zl83), (zl81, []), [(.inr (some (.inl (ck_one 0))), 245, ([], [], [])), (.inr (some (.inl (ck_one 1))), 245, ([], [], [(226, 29, 29, (0, 299, [])), (227, 208, 208, ck_one (-1)), (227, 203, 203, (0, 7, []))]))])
set_option maxRecDepth 100000 in
theorem p2_s961_s {X : Int → Int} {LX : Nat} : ck_Ok p2_O X LX 302 p2_s961 := ck_okq (cuts := []) (f := 114) ⟨p2_nmu, ck_E1 (ck_S1 p2_s959_s ck_S0) (ck_E1 (ck_S1 p2_s960_s ck_S0) (ck_E1 (ck_S1 p2_s381_s ck_S0) (ck_E1 (ck_S1 p2_s190_s ck_S0) ck_E0)))⟩ (by decide +kernel)
set_option maxRecDepth 100000 in
/-- GlacierMailModel.ofLetter -/
noncomputable def p2_s962 : ck_Sum := ((0, 0, 0), 245, [.inr (.inr (.inl 226)), .inl (ck_one 12), .inl (ck_one 1)], ([], [], []), ([], []), [(.inr (some (.inl (ck_one (-1)))), 245, ([], [], [(227, 204, 204, ck_one (-1))])), (.inr (some (.inl (0, 7, []))), 245, ([], [], [(227, 204, 204, (0, 7, []))]))])
set_option maxRecDepth 100000 in
theorem p2_s962_s {X : Int → Int} {LX : Nat} : ck_Ok p2_O X LX 301 p2_s962 := ck_okq (cuts := []) (f := 92) ⟨p2_nmu, ck_E0⟩ (by decide +kernel)
set_option maxRecDepth 100000 in
/-- GlacierMailModel.ofLetter -/
noncomputable def p2_s963 : ck_Sum := ((0, 0, 0), 245, [.inr (.inr (.inl 226)), .inl (ck_one 12), .inl (ck_one 3)], ([], [], []), ([], []), [(.inr (some (.inl (0, 299, []))), 245, ([], [], []))])
set_option maxRecDepth 100000 in
theorem p2_s963_s {X : Int → Int} {LX : Nat} : ck_Ok p2_O X LX 301 p2_s963 := ck_okq (cuts := []) (f := 92) ⟨p2_nmu, ck_E0⟩ (by decide +kernel)
/-- GlacierMailModel.opens -/
noncomputable def p2_s964 : ck_Sum := op_os0 12 (.inl (ck_one (-1))) 0 7 (-1) (-1)
theorem p2_s964_s {X : Int → Int} {LX : Nat} : ck_Ok p2_O X LX 319 p2_s964 := op_none (by decide) (by decide) (by decide)
/-- GlacierMailModel.opens -/
noncomputable def p2_s965 : ck_Sum := op_os 12 0 7
theorem p2_s965_s {X : Int → Int} {LX : Nat} : ck_Ok p2_O X LX 319 p2_s965 := op_open (by decide) (by decide) (by decide +kernel)
set_option maxRecDepth 100000 in
/-- GlacierMailModel.open -/
noncomputable def p2_s966 : ck_Sum := ((9, 0, 0), 245, [.inr (.inr (.inl 226)), .inl (ck_one 12)], ([], [], zl176), ([(226, 0, 0), (226, 6, 6), (226, 17, 23), (226, 26, 26), (226, 29, 30), (227, 14, 14), (227, 208, 209), (227, 323, 394), (230, 0, 4739), (233, 0, 399), (235, 0, 29699), (236, 0, 299), (237, 0, 299)], []), [(.inr (some (.inl (ck_one 0))), 245, ([], [], zl177)), (.inr (some (.inl ((-299), 299, []))), 245, ([], [], [(227, 208, 208, (0, 7, [])), (227, 204, 204, (0, 7, [])), (226, 6, 6, (1, 12, [(1000027, 0)])), (226, 29, 29, (0, 299, [])), (227, 203, 203, (0, 7, [])), (226, 0, 0, ck_one 0)]))])
set_option maxRecDepth 100000 in
theorem p2_s966_s {X : Int → Int} {LX : Nat} : ck_Ok p2_O X LX 318 p2_s966 := ck_okq (cuts := []) (f := 142) ⟨p2_nmu, ck_E1 (ck_S1 p2_s957_s ck_S0) (ck_E1 (ck_S1 p2_s241_s (ck_S1 p2_s242_s (ck_S1 p2_s244_s (ck_S1 p2_s243_s ck_S0)))) (ck_E1 (ck_S1 p2_s961_s ck_S0) (ck_E1 (ck_S1 p2_s553_s ck_S0) (ck_E1 (ck_S1 p2_s962_s (ck_S1 p2_s963_s ck_S0)) (ck_E1 (ck_S1 p2_s964_s (ck_S1 p2_s965_s ck_S0)) (ck_E1 (ck_S1 p2_s190_s ck_S0) ck_E0))))))⟩ (by decide +kernel)
set_option maxRecDepth 100000 in
/-- GlacierMailModel.in -/
noncomputable def p2_s967 : ck_Sum := ((0, 0, 0), 245, [.inl (ck_one 13), .inl (ck_one 0), .inl ((-1), 23, [])], ([], [], []), ([], []), [(.inr (some (.inl (ck_one 0))), 245, ([], [], [])), (.inr (some (.inl (ck_one 1))), 245, ([], [], []))])
set_option maxRecDepth 100000 in
theorem p2_s967_s {X : Int → Int} {LX : Nat} : ck_Ok p2_O X LX 286 p2_s967 := ck_okq (cuts := []) (f := 88) ⟨p2_nmu, ck_E0⟩ (by decide +kernel)
set_option maxRecDepth 100000 in
/-- GlacierMailModel.noLetter -/
noncomputable def p2_s968 : ck_Sum := ((1, 0, 0), 245, [.inr (.inr (.inl 226)), .inl (ck_one 13)], ([], [], [(227, 4, 4, (0, 24, [(22, 0)]))]), ([], []), [(.inr (some (.inl (ck_one 1))), 245, ([], [], [])), (.inr (some (.inl (ck_one 0))), 245, ([], [], []))])
set_option maxRecDepth 100000 in
theorem p2_s968_s {X : Int → Int} {LX : Nat} : ck_Ok p2_O X LX 309 p2_s968 := ck_okq (cuts := []) (f := 92) ⟨p2_nmu, ck_E1 (ck_S1 p2_s176_s ck_S0) (ck_E1 (ck_S1 p2_s967_s ck_S0) ck_E0)⟩ (by decide +kernel)
set_option maxRecDepth 100000 in
/-- GlacierMailModel.ofLetter -/
noncomputable def p2_s969 : ck_Sum := ((0, 0, 0), 245, [.inr (.inr (.inl 226)), .inl (ck_one 13), .inl (ck_one 0)], ([], [], []), ([], []), [(.inr (some (.inl (ck_one (-1)))), 245, ([], [], [(227, 210, 210, ck_one (-1))])), (.inr (some (.inl (0, 7, []))), 245, ([], [], [(227, 210, 210, (0, 7, []))]))])
set_option maxRecDepth 100000 in
theorem p2_s969_s {X : Int → Int} {LX : Nat} : ck_Ok p2_O X LX 301 p2_s969 := ck_okq (cuts := []) (f := 92) ⟨p2_nmu, ck_E0⟩ (by decide +kernel)
set_option maxRecDepth 100000 in
/-- GlacierMailModel.isRock -/
noncomputable def p2_s970 : ck_Sum := ((1, 0, 0), 245, [.inr (.inr (.inl 226)), .inl (ck_one 13)], ([], [], []), ([], []), [(.inr (some (.inl (ck_one 1))), 245, ([], [], [(227, 210, 210, ck_one (-1))])), (.inr (some (.inl (ck_one 0))), 245, ([], [], [(227, 210, 210, (0, 7, []))]))])
set_option maxRecDepth 100000 in
theorem p2_s970_s {X : Int → Int} {LX : Nat} : ck_Ok p2_O X LX 303 p2_s970 := ck_okq (cuts := []) (f := 86) ⟨p2_nmu, ck_E1 (ck_S1 p2_s969_s ck_S0) ck_E0⟩ (by decide +kernel)
set_option maxRecDepth 100000 in
/-- GlacierMailModel.ofLetter -/
noncomputable def p2_s971 : ck_Sum := ((0, 0, 0), 245, [.inr (.inr (.inl 226)), .inl (ck_one 13), .inl (ck_one 5)], ([], [], []), ([], []), [(.inr (some (.inl (ck_one (-1)))), 245, ([], [], [(227, 215, 215, ck_one (-1))])), (.inr (some (.inl (0, 7, []))), 245, ([], [], [(227, 215, 215, (0, 7, []))]))])
set_option maxRecDepth 100000 in
theorem p2_s971_s {X : Int → Int} {LX : Nat} : ck_Ok p2_O X LX 301 p2_s971 := ck_okq (cuts := []) (f := 92) ⟨p2_nmu, ck_E0⟩ (by decide +kernel)
set_option maxRecDepth 100000 in
/-- GlacierMailModel.isWaiting -/
noncomputable def p2_s972 : ck_Sum := ((8, 0, 0), 245, [.inr (.inr (.inl 226)), .inl (ck_one 13)], ([], [], zl83), (zl81, []), [(.inr (some (.inl (ck_one 0))), 245, ([], [], [])), (.inr (some (.inl (ck_one 1))), 245, ([], [], [(226, 29, 29, (0, 299, [])), (227, 215, 215, ck_one (-1)), (227, 210, 210, (0, 7, []))]))])
set_option maxRecDepth 100000 in
theorem p2_s972_s {X : Int → Int} {LX : Nat} : ck_Ok p2_O X LX 302 p2_s972 := ck_okq (cuts := []) (f := 114) ⟨p2_nmu, ck_E1 (ck_S1 p2_s970_s ck_S0) (ck_E1 (ck_S1 p2_s971_s ck_S0) (ck_E1 (ck_S1 p2_s381_s ck_S0) (ck_E1 (ck_S1 p2_s190_s ck_S0) ck_E0)))⟩ (by decide +kernel)
set_option maxRecDepth 100000 in
/-- GlacierMailModel.ofLetter -/
noncomputable def p2_s973 : ck_Sum := ((0, 0, 0), 245, [.inr (.inr (.inl 226)), .inl (ck_one 13), .inl (ck_one 1)], ([], [], []), ([], []), [(.inr (some (.inl (ck_one (-1)))), 245, ([], [], [(227, 211, 211, ck_one (-1))])), (.inr (some (.inl (0, 7, []))), 245, ([], [], [(227, 211, 211, (0, 7, []))]))])
set_option maxRecDepth 100000 in
theorem p2_s973_s {X : Int → Int} {LX : Nat} : ck_Ok p2_O X LX 301 p2_s973 := ck_okq (cuts := []) (f := 92) ⟨p2_nmu, ck_E0⟩ (by decide +kernel)
set_option maxRecDepth 100000 in
/-- GlacierMailModel.ofLetter -/
noncomputable def p2_s974 : ck_Sum := ((0, 0, 0), 245, [.inr (.inr (.inl 226)), .inl (ck_one 13), .inl (ck_one 3)], ([], [], []), ([], []), [(.inr (some (.inl (0, 299, []))), 245, ([], [], []))])
set_option maxRecDepth 100000 in
theorem p2_s974_s {X : Int → Int} {LX : Nat} : ck_Ok p2_O X LX 301 p2_s974 := ck_okq (cuts := []) (f := 92) ⟨p2_nmu, ck_E0⟩ (by decide +kernel)
/-- GlacierMailModel.opens -/
noncomputable def p2_s975 : ck_Sum := op_os0 13 (.inl (ck_one (-1))) 0 7 (-1) (-1)
theorem p2_s975_s {X : Int → Int} {LX : Nat} : ck_Ok p2_O X LX 319 p2_s975 := op_none (by decide) (by decide) (by decide)
/-- GlacierMailModel.opens -/
noncomputable def p2_s976 : ck_Sum := op_os 13 0 7
theorem p2_s976_s {X : Int → Int} {LX : Nat} : ck_Ok p2_O X LX 319 p2_s976 := op_open (by decide) (by decide) (by decide +kernel)
set_option maxRecDepth 100000 in
/-- GlacierMailModel.open -/
noncomputable def p2_s977 : ck_Sum := ((9, 0, 0), 245, [.inr (.inr (.inl 226)), .inl (ck_one 13)], ([], [], zl176), ([(226, 0, 0), (226, 6, 6), (226, 17, 23), (226, 26, 26), (226, 29, 30), (227, 14, 14), (227, 215, 216), (227, 323, 394), (230, 0, 4739), (233, 0, 399), (235, 0, 29699), (236, 0, 299), (237, 0, 299)], []), [(.inr (some (.inl (ck_one 0))), 245, ([], [], zl177)), (.inr (some (.inl ((-299), 299, []))), 245, ([], [], [(227, 215, 215, (0, 7, [])), (227, 211, 211, (0, 7, [])), (226, 6, 6, (1, 12, [(1000027, 0)])), (226, 29, 29, (0, 299, [])), (227, 210, 210, (0, 7, [])), (226, 0, 0, ck_one 0)]))])
set_option maxRecDepth 100000 in
theorem p2_s977_s {X : Int → Int} {LX : Nat} : ck_Ok p2_O X LX 318 p2_s977 := ck_okq (cuts := []) (f := 142) ⟨p2_nmu, ck_E1 (ck_S1 p2_s968_s ck_S0) (ck_E1 (ck_S1 p2_s241_s (ck_S1 p2_s242_s (ck_S1 p2_s244_s (ck_S1 p2_s243_s ck_S0)))) (ck_E1 (ck_S1 p2_s972_s ck_S0) (ck_E1 (ck_S1 p2_s553_s ck_S0) (ck_E1 (ck_S1 p2_s973_s (ck_S1 p2_s974_s ck_S0)) (ck_E1 (ck_S1 p2_s975_s (ck_S1 p2_s976_s ck_S0)) (ck_E1 (ck_S1 p2_s190_s ck_S0) ck_E0))))))⟩ (by decide +kernel)
set_option maxRecDepth 100000 in
/-- GlacierMailModel.in -/
noncomputable def p2_s978 : ck_Sum := ((0, 0, 0), 245, [.inl (ck_one 14), .inl (ck_one 0), .inl ((-1), 23, [])], ([], [], []), ([], []), [(.inr (some (.inl (ck_one 0))), 245, ([], [], [])), (.inr (some (.inl (ck_one 1))), 245, ([], [], []))])
set_option maxRecDepth 100000 in
theorem p2_s978_s {X : Int → Int} {LX : Nat} : ck_Ok p2_O X LX 286 p2_s978 := ck_okq (cuts := []) (f := 88) ⟨p2_nmu, ck_E0⟩ (by decide +kernel)
set_option maxRecDepth 100000 in
/-- GlacierMailModel.noLetter -/
noncomputable def p2_s979 : ck_Sum := ((1, 0, 0), 245, [.inr (.inr (.inl 226)), .inl (ck_one 14)], ([], [], [(227, 4, 4, (0, 24, [(22, 0)]))]), ([], []), [(.inr (some (.inl (ck_one 1))), 245, ([], [], [])), (.inr (some (.inl (ck_one 0))), 245, ([], [], []))])
set_option maxRecDepth 100000 in
theorem p2_s979_s {X : Int → Int} {LX : Nat} : ck_Ok p2_O X LX 309 p2_s979 := ck_okq (cuts := []) (f := 92) ⟨p2_nmu, ck_E1 (ck_S1 p2_s176_s ck_S0) (ck_E1 (ck_S1 p2_s978_s ck_S0) ck_E0)⟩ (by decide +kernel)
set_option maxRecDepth 100000 in
/-- GlacierMailModel.ofLetter -/
noncomputable def p2_s980 : ck_Sum := ((0, 0, 0), 245, [.inr (.inr (.inl 226)), .inl (ck_one 14), .inl (ck_one 0)], ([], [], []), ([], []), [(.inr (some (.inl (ck_one (-1)))), 245, ([], [], [(227, 217, 217, ck_one (-1))])), (.inr (some (.inl (0, 7, []))), 245, ([], [], [(227, 217, 217, (0, 7, []))]))])
set_option maxRecDepth 100000 in
theorem p2_s980_s {X : Int → Int} {LX : Nat} : ck_Ok p2_O X LX 301 p2_s980 := ck_okq (cuts := []) (f := 92) ⟨p2_nmu, ck_E0⟩ (by decide +kernel)
set_option maxRecDepth 100000 in
/-- GlacierMailModel.isRock -/
noncomputable def p2_s981 : ck_Sum := ((1, 0, 0), 245, [.inr (.inr (.inl 226)), .inl (ck_one 14)], ([], [], []), ([], []), [(.inr (some (.inl (ck_one 1))), 245, ([], [], [(227, 217, 217, ck_one (-1))])), (.inr (some (.inl (ck_one 0))), 245, ([], [], [(227, 217, 217, (0, 7, []))]))])
set_option maxRecDepth 100000 in
theorem p2_s981_s {X : Int → Int} {LX : Nat} : ck_Ok p2_O X LX 303 p2_s981 := ck_okq (cuts := []) (f := 86) ⟨p2_nmu, ck_E1 (ck_S1 p2_s980_s ck_S0) ck_E0⟩ (by decide +kernel)
set_option maxRecDepth 100000 in
/-- GlacierMailModel.ofLetter -/
noncomputable def p2_s982 : ck_Sum := ((0, 0, 0), 245, [.inr (.inr (.inl 226)), .inl (ck_one 14), .inl (ck_one 5)], ([], [], []), ([], []), [(.inr (some (.inl (ck_one (-1)))), 245, ([], [], [(227, 222, 222, ck_one (-1))])), (.inr (some (.inl (0, 7, []))), 245, ([], [], [(227, 222, 222, (0, 7, []))]))])
set_option maxRecDepth 100000 in
theorem p2_s982_s {X : Int → Int} {LX : Nat} : ck_Ok p2_O X LX 301 p2_s982 := ck_okq (cuts := []) (f := 92) ⟨p2_nmu, ck_E0⟩ (by decide +kernel)
set_option maxRecDepth 100000 in
/-- GlacierMailModel.isWaiting -/
noncomputable def p2_s983 : ck_Sum := ((8, 0, 0), 245, [.inr (.inr (.inl 226)), .inl (ck_one 14)], ([], [], zl83), (zl81, []), [(.inr (some (.inl (ck_one 0))), 245, ([], [], [])), (.inr (some (.inl (ck_one 1))), 245, ([], [], [(226, 29, 29, (0, 299, [])), (227, 222, 222, ck_one (-1)), (227, 217, 217, (0, 7, []))]))])
set_option maxRecDepth 100000 in
theorem p2_s983_s {X : Int → Int} {LX : Nat} : ck_Ok p2_O X LX 302 p2_s983 := ck_okq (cuts := []) (f := 114) ⟨p2_nmu, ck_E1 (ck_S1 p2_s981_s ck_S0) (ck_E1 (ck_S1 p2_s982_s ck_S0) (ck_E1 (ck_S1 p2_s381_s ck_S0) (ck_E1 (ck_S1 p2_s190_s ck_S0) ck_E0)))⟩ (by decide +kernel)
set_option maxRecDepth 100000 in
/-- GlacierMailModel.ofLetter -/
noncomputable def p2_s984 : ck_Sum := ((0, 0, 0), 245, [.inr (.inr (.inl 226)), .inl (ck_one 14), .inl (ck_one 1)], ([], [], []), ([], []), [(.inr (some (.inl (ck_one (-1)))), 245, ([], [], [(227, 218, 218, ck_one (-1))])), (.inr (some (.inl (0, 7, []))), 245, ([], [], [(227, 218, 218, (0, 7, []))]))])
set_option maxRecDepth 100000 in
theorem p2_s984_s {X : Int → Int} {LX : Nat} : ck_Ok p2_O X LX 301 p2_s984 := ck_okq (cuts := []) (f := 92) ⟨p2_nmu, ck_E0⟩ (by decide +kernel)
set_option maxRecDepth 100000 in
/-- GlacierMailModel.ofLetter -/
noncomputable def p2_s985 : ck_Sum := ((0, 0, 0), 245, [.inr (.inr (.inl 226)), .inl (ck_one 14), .inl (ck_one 3)], ([], [], []), ([], []), [(.inr (some (.inl (0, 299, []))), 245, ([], [], []))])
set_option maxRecDepth 100000 in
theorem p2_s985_s {X : Int → Int} {LX : Nat} : ck_Ok p2_O X LX 301 p2_s985 := ck_okq (cuts := []) (f := 92) ⟨p2_nmu, ck_E0⟩ (by decide +kernel)
/-- GlacierMailModel.opens -/
noncomputable def p2_s986 : ck_Sum := op_os0 14 (.inl (ck_one (-1))) 0 7 (-1) (-1)
theorem p2_s986_s {X : Int → Int} {LX : Nat} : ck_Ok p2_O X LX 319 p2_s986 := op_none (by decide) (by decide) (by decide)
/-- GlacierMailModel.opens -/
noncomputable def p2_s987 : ck_Sum := op_os 14 0 7
theorem p2_s987_s {X : Int → Int} {LX : Nat} : ck_Ok p2_O X LX 319 p2_s987 := op_open (by decide) (by decide) (by decide +kernel)
set_option maxRecDepth 100000 in
/-- GlacierMailModel.open -/
noncomputable def p2_s988 : ck_Sum := ((9, 0, 0), 245, [.inr (.inr (.inl 226)), .inl (ck_one 14)], ([], [], zl176), ([(226, 0, 0), (226, 6, 6), (226, 17, 23), (226, 26, 26), (226, 29, 30), (227, 14, 14), (227, 222, 223), (227, 323, 394), (230, 0, 4739), (233, 0, 399), (235, 0, 29699), (236, 0, 299), (237, 0, 299)], []), [(.inr (some (.inl (ck_one 0))), 245, ([], [], zl177)), (.inr (some (.inl ((-299), 299, []))), 245, ([], [], [(227, 222, 222, (0, 7, [])), (227, 218, 218, (0, 7, [])), (226, 6, 6, (1, 12, [(1000027, 0)])), (226, 29, 29, (0, 299, [])), (227, 217, 217, (0, 7, [])), (226, 0, 0, ck_one 0)]))])
set_option maxRecDepth 100000 in
theorem p2_s988_s {X : Int → Int} {LX : Nat} : ck_Ok p2_O X LX 318 p2_s988 := ck_okq (cuts := []) (f := 142) ⟨p2_nmu, ck_E1 (ck_S1 p2_s979_s ck_S0) (ck_E1 (ck_S1 p2_s241_s (ck_S1 p2_s242_s (ck_S1 p2_s244_s (ck_S1 p2_s243_s ck_S0)))) (ck_E1 (ck_S1 p2_s983_s ck_S0) (ck_E1 (ck_S1 p2_s553_s ck_S0) (ck_E1 (ck_S1 p2_s984_s (ck_S1 p2_s985_s ck_S0)) (ck_E1 (ck_S1 p2_s986_s (ck_S1 p2_s987_s ck_S0)) (ck_E1 (ck_S1 p2_s190_s ck_S0) ck_E0))))))⟩ (by decide +kernel)
set_option maxRecDepth 100000 in
/-- GlacierMailModel.in -/
noncomputable def p2_s989 : ck_Sum := ((0, 0, 0), 245, [.inl (ck_one 15), .inl (ck_one 0), .inl ((-1), 23, [])], ([], [], []), ([], []), [(.inr (some (.inl (ck_one 0))), 245, ([], [], [])), (.inr (some (.inl (ck_one 1))), 245, ([], [], []))])
set_option maxRecDepth 100000 in
theorem p2_s989_s {X : Int → Int} {LX : Nat} : ck_Ok p2_O X LX 286 p2_s989 := ck_okq (cuts := []) (f := 88) ⟨p2_nmu, ck_E0⟩ (by decide +kernel)
set_option maxRecDepth 100000 in
/-- GlacierMailModel.noLetter -/
noncomputable def p2_s990 : ck_Sum := ((1, 0, 0), 245, [.inr (.inr (.inl 226)), .inl (ck_one 15)], ([], [], [(227, 4, 4, (0, 24, [(22, 0)]))]), ([], []), [(.inr (some (.inl (ck_one 1))), 245, ([], [], [])), (.inr (some (.inl (ck_one 0))), 245, ([], [], []))])
set_option maxRecDepth 100000 in
theorem p2_s990_s {X : Int → Int} {LX : Nat} : ck_Ok p2_O X LX 309 p2_s990 := ck_okq (cuts := []) (f := 92) ⟨p2_nmu, ck_E1 (ck_S1 p2_s176_s ck_S0) (ck_E1 (ck_S1 p2_s989_s ck_S0) ck_E0)⟩ (by decide +kernel)
end
/-! 78r80a11.sf -/
section
/-! EVERY CALL ENDS, whatever was done before (laid by wip/am/p2k.py). -/
set_option maxRecDepth 100000 in
/-- GlacierMailModel.ofLetter -/
noncomputable def p2_s991 : ck_Sum := ((0, 0, 0), 245, [.inr (.inr (.inl 226)), .inl (ck_one 15), .inl (ck_one 0)], ([], [], []), ([], []), [(.inr (some (.inl (ck_one (-1)))), 245, ([], [], [(227, 224, 224, ck_one (-1))])), (.inr (some (.inl (0, 7, []))), 245, ([], [], [(227, 224, 224, (0, 7, []))]))])
set_option maxRecDepth 100000 in
theorem p2_s991_s {X : Int → Int} {LX : Nat} : ck_Ok p2_O X LX 301 p2_s991 := ck_okq (cuts := []) (f := 92) ⟨p2_nmu, ck_E0⟩ (by decide +kernel)
set_option maxRecDepth 100000 in
/-- GlacierMailModel.isRock -/
noncomputable def p2_s992 : ck_Sum := ((1, 0, 0), 245, [.inr (.inr (.inl 226)), .inl (ck_one 15)], ([], [], []), ([], []), [(.inr (some (.inl (ck_one 1))), 245, ([], [], [(227, 224, 224, ck_one (-1))])), (.inr (some (.inl (ck_one 0))), 245, ([], [], [(227, 224, 224, (0, 7, []))]))])
set_option maxRecDepth 100000 in
theorem p2_s992_s {X : Int → Int} {LX : Nat} : ck_Ok p2_O X LX 303 p2_s992 := ck_okq (cuts := []) (f := 86) ⟨p2_nmu, ck_E1 (ck_S1 p2_s991_s ck_S0) ck_E0⟩ (by decide +kernel)
set_option maxRecDepth 100000 in
/-- GlacierMailModel.ofLetter -/
noncomputable def p2_s993 : ck_Sum := ((0, 0, 0), 245, [.inr (.inr (.inl 226)), .inl (ck_one 15), .inl (ck_one 5)], ([], [], []), ([], []), [(.inr (some (.inl (ck_one (-1)))), 245, ([], [], [(227, 229, 229, ck_one (-1))])), (.inr (some (.inl (0, 7, []))), 245, ([], [], [(227, 229, 229, (0, 7, []))]))])
set_option maxRecDepth 100000 in
theorem p2_s993_s {X : Int → Int} {LX : Nat} : ck_Ok p2_O X LX 301 p2_s993 := ck_okq (cuts := []) (f := 92) ⟨p2_nmu, ck_E0⟩ (by decide +kernel)
set_option maxRecDepth 100000 in
/-- GlacierMailModel.isWaiting -/
noncomputable def p2_s994 : ck_Sum := ((8, 0, 0), 245, [.inr (.inr (.inl 226)), .inl (ck_one 15)], ([], [], zl83), (zl81, []), [(.inr (some (.inl (ck_one 0))), 245, ([], [], [])), (.inr (some (.inl (ck_one 1))), 245, ([], [], [(226, 29, 29, (0, 299, [])), (227, 229, 229, ck_one (-1)), (227, 224, 224, (0, 7, []))]))])
set_option maxRecDepth 100000 in
theorem p2_s994_s {X : Int → Int} {LX : Nat} : ck_Ok p2_O X LX 302 p2_s994 := ck_okq (cuts := []) (f := 114) ⟨p2_nmu, ck_E1 (ck_S1 p2_s992_s ck_S0) (ck_E1 (ck_S1 p2_s993_s ck_S0) (ck_E1 (ck_S1 p2_s381_s ck_S0) (ck_E1 (ck_S1 p2_s190_s ck_S0) ck_E0)))⟩ (by decide +kernel)
set_option maxRecDepth 100000 in
/-- GlacierMailModel.ofLetter -/
noncomputable def p2_s995 : ck_Sum := ((0, 0, 0), 245, [.inr (.inr (.inl 226)), .inl (ck_one 15), .inl (ck_one 1)], ([], [], []), ([], []), [(.inr (some (.inl (ck_one (-1)))), 245, ([], [], [(227, 225, 225, ck_one (-1))])), (.inr (some (.inl (0, 7, []))), 245, ([], [], [(227, 225, 225, (0, 7, []))]))])
set_option maxRecDepth 100000 in
theorem p2_s995_s {X : Int → Int} {LX : Nat} : ck_Ok p2_O X LX 301 p2_s995 := ck_okq (cuts := []) (f := 92) ⟨p2_nmu, ck_E0⟩ (by decide +kernel)
set_option maxRecDepth 100000 in
/-- GlacierMailModel.ofLetter -/
noncomputable def p2_s996 : ck_Sum := ((0, 0, 0), 245, [.inr (.inr (.inl 226)), .inl (ck_one 15), .inl (ck_one 3)], ([], [], []), ([], []), [(.inr (some (.inl (0, 299, []))), 245, ([], [], []))])
set_option maxRecDepth 100000 in
theorem p2_s996_s {X : Int → Int} {LX : Nat} : ck_Ok p2_O X LX 301 p2_s996 := ck_okq (cuts := []) (f := 92) ⟨p2_nmu, ck_E0⟩ (by decide +kernel)
/-- GlacierMailModel.opens -/
noncomputable def p2_s997 : ck_Sum := op_os0 15 (.inl (ck_one (-1))) 0 7 (-1) (-1)
theorem p2_s997_s {X : Int → Int} {LX : Nat} : ck_Ok p2_O X LX 319 p2_s997 := op_none (by decide) (by decide) (by decide)
/-- GlacierMailModel.opens -/
noncomputable def p2_s998 : ck_Sum := op_os 15 0 7
theorem p2_s998_s {X : Int → Int} {LX : Nat} : ck_Ok p2_O X LX 319 p2_s998 := op_open (by decide) (by decide) (by decide +kernel)
set_option maxRecDepth 100000 in
/-- GlacierMailModel.open -/
noncomputable def p2_s999 : ck_Sum := ((9, 0, 0), 245, [.inr (.inr (.inl 226)), .inl (ck_one 15)], ([], [], zl176), ([(226, 0, 0), (226, 6, 6), (226, 17, 23), (226, 26, 26), (226, 29, 30), (227, 14, 14), (227, 229, 230), (227, 323, 394), (230, 0, 4739), (233, 0, 399), (235, 0, 29699), (236, 0, 299), (237, 0, 299)], []), [(.inr (some (.inl (ck_one 0))), 245, ([], [], zl177)), (.inr (some (.inl ((-299), 299, []))), 245, ([], [], [(227, 229, 229, (0, 7, [])), (227, 225, 225, (0, 7, [])), (226, 6, 6, (1, 12, [(1000027, 0)])), (226, 29, 29, (0, 299, [])), (227, 224, 224, (0, 7, [])), (226, 0, 0, ck_one 0)]))])
set_option maxRecDepth 100000 in
theorem p2_s999_s {X : Int → Int} {LX : Nat} : ck_Ok p2_O X LX 318 p2_s999 := ck_okq (cuts := []) (f := 142) ⟨p2_nmu, ck_E1 (ck_S1 p2_s990_s ck_S0) (ck_E1 (ck_S1 p2_s241_s (ck_S1 p2_s242_s (ck_S1 p2_s244_s (ck_S1 p2_s243_s ck_S0)))) (ck_E1 (ck_S1 p2_s994_s ck_S0) (ck_E1 (ck_S1 p2_s553_s ck_S0) (ck_E1 (ck_S1 p2_s995_s (ck_S1 p2_s996_s ck_S0)) (ck_E1 (ck_S1 p2_s997_s (ck_S1 p2_s998_s ck_S0)) (ck_E1 (ck_S1 p2_s190_s ck_S0) ck_E0))))))⟩ (by decide +kernel)
set_option maxRecDepth 100000 in
/-- GlacierMailModel.in -/
noncomputable def p2_s1000 : ck_Sum := ((0, 0, 0), 245, [.inl (ck_one 16), .inl (ck_one 0), .inl ((-1), 23, [])], ([], [], []), ([], []), [(.inr (some (.inl (ck_one 0))), 245, ([], [], [])), (.inr (some (.inl (ck_one 1))), 245, ([], [], []))])
set_option maxRecDepth 100000 in
theorem p2_s1000_s {X : Int → Int} {LX : Nat} : ck_Ok p2_O X LX 286 p2_s1000 := ck_okq (cuts := []) (f := 88) ⟨p2_nmu, ck_E0⟩ (by decide +kernel)
set_option maxRecDepth 100000 in
/-- GlacierMailModel.noLetter -/
noncomputable def p2_s1001 : ck_Sum := ((1, 0, 0), 245, [.inr (.inr (.inl 226)), .inl (ck_one 16)], ([], [], [(227, 4, 4, (0, 24, [(22, 0)]))]), ([], []), [(.inr (some (.inl (ck_one 1))), 245, ([], [], [])), (.inr (some (.inl (ck_one 0))), 245, ([], [], []))])
set_option maxRecDepth 100000 in
theorem p2_s1001_s {X : Int → Int} {LX : Nat} : ck_Ok p2_O X LX 309 p2_s1001 := ck_okq (cuts := []) (f := 92) ⟨p2_nmu, ck_E1 (ck_S1 p2_s176_s ck_S0) (ck_E1 (ck_S1 p2_s1000_s ck_S0) ck_E0)⟩ (by decide +kernel)
set_option maxRecDepth 100000 in
/-- GlacierMailModel.ofLetter -/
noncomputable def p2_s1002 : ck_Sum := ((0, 0, 0), 245, [.inr (.inr (.inl 226)), .inl (ck_one 16), .inl (ck_one 0)], ([], [], []), ([], []), [(.inr (some (.inl (ck_one (-1)))), 245, ([], [], [(227, 231, 231, ck_one (-1))])), (.inr (some (.inl (0, 7, []))), 245, ([], [], [(227, 231, 231, (0, 7, []))]))])
set_option maxRecDepth 100000 in
theorem p2_s1002_s {X : Int → Int} {LX : Nat} : ck_Ok p2_O X LX 301 p2_s1002 := ck_okq (cuts := []) (f := 92) ⟨p2_nmu, ck_E0⟩ (by decide +kernel)
set_option maxRecDepth 100000 in
/-- GlacierMailModel.isRock -/
noncomputable def p2_s1003 : ck_Sum := ((1, 0, 0), 245, [.inr (.inr (.inl 226)), .inl (ck_one 16)], ([], [], []), ([], []), [(.inr (some (.inl (ck_one 1))), 245, ([], [], [(227, 231, 231, ck_one (-1))])), (.inr (some (.inl (ck_one 0))), 245, ([], [], [(227, 231, 231, (0, 7, []))]))])
set_option maxRecDepth 100000 in
theorem p2_s1003_s {X : Int → Int} {LX : Nat} : ck_Ok p2_O X LX 303 p2_s1003 := ck_okq (cuts := []) (f := 86) ⟨p2_nmu, ck_E1 (ck_S1 p2_s1002_s ck_S0) ck_E0⟩ (by decide +kernel)
set_option maxRecDepth 100000 in
/-- GlacierMailModel.ofLetter -/
noncomputable def p2_s1004 : ck_Sum := ((0, 0, 0), 245, [.inr (.inr (.inl 226)), .inl (ck_one 16), .inl (ck_one 5)], ([], [], []), ([], []), [(.inr (some (.inl (ck_one (-1)))), 245, ([], [], [(227, 236, 236, ck_one (-1))])), (.inr (some (.inl (0, 7, []))), 245, ([], [], [(227, 236, 236, (0, 7, []))]))])
set_option maxRecDepth 100000 in
theorem p2_s1004_s {X : Int → Int} {LX : Nat} : ck_Ok p2_O X LX 301 p2_s1004 := ck_okq (cuts := []) (f := 92) ⟨p2_nmu, ck_E0⟩ (by decide +kernel)
set_option maxRecDepth 100000 in
/-- GlacierMailModel.isWaiting -/
noncomputable def p2_s1005 : ck_Sum := ((8, 0, 0), 245, [.inr (.inr (.inl 226)), .inl (ck_one 16)], ([], [], zl83), (zl81, []), [(.inr (some (.inl (ck_one 0))), 245, ([], [], [])), (.inr (some (.inl (ck_one 1))), 245, ([], [], [(226, 29, 29, (0, 299, [])), (227, 236, 236, ck_one (-1)), (227, 231, 231, (0, 7, []))]))])
set_option maxRecDepth 100000 in
theorem p2_s1005_s {X : Int → Int} {LX : Nat} : ck_Ok p2_O X LX 302 p2_s1005 := ck_okq (cuts := []) (f := 114) ⟨p2_nmu, ck_E1 (ck_S1 p2_s1003_s ck_S0) (ck_E1 (ck_S1 p2_s1004_s ck_S0) (ck_E1 (ck_S1 p2_s381_s ck_S0) (ck_E1 (ck_S1 p2_s190_s ck_S0) ck_E0)))⟩ (by decide +kernel)
set_option maxRecDepth 100000 in
/-- GlacierMailModel.ofLetter -/
noncomputable def p2_s1006 : ck_Sum := ((0, 0, 0), 245, [.inr (.inr (.inl 226)), .inl (ck_one 16), .inl (ck_one 1)], ([], [], []), ([], []), [(.inr (some (.inl (ck_one (-1)))), 245, ([], [], [(227, 232, 232, ck_one (-1))])), (.inr (some (.inl (0, 7, []))), 245, ([], [], [(227, 232, 232, (0, 7, []))]))])
set_option maxRecDepth 100000 in
theorem p2_s1006_s {X : Int → Int} {LX : Nat} : ck_Ok p2_O X LX 301 p2_s1006 := ck_okq (cuts := []) (f := 92) ⟨p2_nmu, ck_E0⟩ (by decide +kernel)
set_option maxRecDepth 100000 in
/-- GlacierMailModel.ofLetter -/
noncomputable def p2_s1007 : ck_Sum := ((0, 0, 0), 245, [.inr (.inr (.inl 226)), .inl (ck_one 16), .inl (ck_one 3)], ([], [], []), ([], []), [(.inr (some (.inl (0, 299, []))), 245, ([], [], []))])
set_option maxRecDepth 100000 in
theorem p2_s1007_s {X : Int → Int} {LX : Nat} : ck_Ok p2_O X LX 301 p2_s1007 := ck_okq (cuts := []) (f := 92) ⟨p2_nmu, ck_E0⟩ (by decide +kernel)
/-- GlacierMailModel.opens -/
noncomputable def p2_s1008 : ck_Sum := op_os0 16 (.inl (ck_one (-1))) 0 7 (-1) (-1)
theorem p2_s1008_s {X : Int → Int} {LX : Nat} : ck_Ok p2_O X LX 319 p2_s1008 := op_none (by decide) (by decide) (by decide)
/-- GlacierMailModel.opens -/
noncomputable def p2_s1009 : ck_Sum := op_os 16 0 7
theorem p2_s1009_s {X : Int → Int} {LX : Nat} : ck_Ok p2_O X LX 319 p2_s1009 := op_open (by decide) (by decide) (by decide +kernel)
set_option maxRecDepth 100000 in
/-- GlacierMailModel.open -/
noncomputable def p2_s1010 : ck_Sum := ((9, 0, 0), 245, [.inr (.inr (.inl 226)), .inl (ck_one 16)], ([], [], zl176), ([(226, 0, 0), (226, 6, 6), (226, 17, 23), (226, 26, 26), (226, 29, 30), (227, 14, 14), (227, 236, 237), (227, 323, 394), (230, 0, 4739), (233, 0, 399), (235, 0, 29699), (236, 0, 299), (237, 0, 299)], []), [(.inr (some (.inl (ck_one 0))), 245, ([], [], zl177)), (.inr (some (.inl ((-299), 299, []))), 245, ([], [], [(227, 236, 236, (0, 7, [])), (227, 232, 232, (0, 7, [])), (226, 6, 6, (1, 12, [(1000027, 0)])), (226, 29, 29, (0, 299, [])), (227, 231, 231, (0, 7, [])), (226, 0, 0, ck_one 0)]))])
set_option maxRecDepth 100000 in
theorem p2_s1010_s {X : Int → Int} {LX : Nat} : ck_Ok p2_O X LX 318 p2_s1010 := ck_okq (cuts := []) (f := 142) ⟨p2_nmu, ck_E1 (ck_S1 p2_s1001_s ck_S0) (ck_E1 (ck_S1 p2_s241_s (ck_S1 p2_s242_s (ck_S1 p2_s244_s (ck_S1 p2_s243_s ck_S0)))) (ck_E1 (ck_S1 p2_s1005_s ck_S0) (ck_E1 (ck_S1 p2_s553_s ck_S0) (ck_E1 (ck_S1 p2_s1006_s (ck_S1 p2_s1007_s ck_S0)) (ck_E1 (ck_S1 p2_s1008_s (ck_S1 p2_s1009_s ck_S0)) (ck_E1 (ck_S1 p2_s190_s ck_S0) ck_E0))))))⟩ (by decide +kernel)
set_option maxRecDepth 100000 in
/-- GlacierMailModel.in -/
noncomputable def p2_s1011 : ck_Sum := ((0, 0, 0), 245, [.inl (ck_one 17), .inl (ck_one 0), .inl ((-1), 23, [])], ([], [], []), ([], []), [(.inr (some (.inl (ck_one 0))), 245, ([], [], [])), (.inr (some (.inl (ck_one 1))), 245, ([], [], []))])
set_option maxRecDepth 100000 in
theorem p2_s1011_s {X : Int → Int} {LX : Nat} : ck_Ok p2_O X LX 286 p2_s1011 := ck_okq (cuts := []) (f := 88) ⟨p2_nmu, ck_E0⟩ (by decide +kernel)
set_option maxRecDepth 100000 in
/-- GlacierMailModel.noLetter -/
noncomputable def p2_s1012 : ck_Sum := ((1, 0, 0), 245, [.inr (.inr (.inl 226)), .inl (ck_one 17)], ([], [], [(227, 4, 4, (0, 24, [(22, 0)]))]), ([], []), [(.inr (some (.inl (ck_one 1))), 245, ([], [], [])), (.inr (some (.inl (ck_one 0))), 245, ([], [], []))])
set_option maxRecDepth 100000 in
theorem p2_s1012_s {X : Int → Int} {LX : Nat} : ck_Ok p2_O X LX 309 p2_s1012 := ck_okq (cuts := []) (f := 92) ⟨p2_nmu, ck_E1 (ck_S1 p2_s176_s ck_S0) (ck_E1 (ck_S1 p2_s1011_s ck_S0) ck_E0)⟩ (by decide +kernel)
set_option maxRecDepth 100000 in
/-- GlacierMailModel.ofLetter -/
noncomputable def p2_s1013 : ck_Sum := ((0, 0, 0), 245, [.inr (.inr (.inl 226)), .inl (ck_one 17), .inl (ck_one 0)], ([], [], []), ([], []), [(.inr (some (.inl (ck_one (-1)))), 245, ([], [], [(227, 238, 238, ck_one (-1))])), (.inr (some (.inl (0, 7, []))), 245, ([], [], [(227, 238, 238, (0, 7, []))]))])
set_option maxRecDepth 100000 in
theorem p2_s1013_s {X : Int → Int} {LX : Nat} : ck_Ok p2_O X LX 301 p2_s1013 := ck_okq (cuts := []) (f := 92) ⟨p2_nmu, ck_E0⟩ (by decide +kernel)
set_option maxRecDepth 100000 in
/-- GlacierMailModel.isRock -/
noncomputable def p2_s1014 : ck_Sum := ((1, 0, 0), 245, [.inr (.inr (.inl 226)), .inl (ck_one 17)], ([], [], []), ([], []), [(.inr (some (.inl (ck_one 1))), 245, ([], [], [(227, 238, 238, ck_one (-1))])), (.inr (some (.inl (ck_one 0))), 245, ([], [], [(227, 238, 238, (0, 7, []))]))])
set_option maxRecDepth 100000 in
theorem p2_s1014_s {X : Int → Int} {LX : Nat} : ck_Ok p2_O X LX 303 p2_s1014 := ck_okq (cuts := []) (f := 86) ⟨p2_nmu, ck_E1 (ck_S1 p2_s1013_s ck_S0) ck_E0⟩ (by decide +kernel)
set_option maxRecDepth 100000 in
/-- GlacierMailModel.ofLetter -/
noncomputable def p2_s1015 : ck_Sum := ((0, 0, 0), 245, [.inr (.inr (.inl 226)), .inl (ck_one 17), .inl (ck_one 5)], ([], [], []), ([], []), [(.inr (some (.inl (ck_one (-1)))), 245, ([], [], [(227, 243, 243, ck_one (-1))])), (.inr (some (.inl (0, 7, []))), 245, ([], [], [(227, 243, 243, (0, 7, []))]))])
set_option maxRecDepth 100000 in
theorem p2_s1015_s {X : Int → Int} {LX : Nat} : ck_Ok p2_O X LX 301 p2_s1015 := ck_okq (cuts := []) (f := 92) ⟨p2_nmu, ck_E0⟩ (by decide +kernel)
set_option maxRecDepth 100000 in
/-- GlacierMailModel.isWaiting -/
noncomputable def p2_s1016 : ck_Sum := ((8, 0, 0), 245, [.inr (.inr (.inl 226)), .inl (ck_one 17)], ([], [], zl83), (zl81, []), [(.inr (some (.inl (ck_one 0))), 245, ([], [], [])), (.inr (some (.inl (ck_one 1))), 245, ([], [], [(226, 29, 29, (0, 299, [])), (227, 243, 243, ck_one (-1)), (227, 238, 238, (0, 7, []))]))])
set_option maxRecDepth 100000 in
theorem p2_s1016_s {X : Int → Int} {LX : Nat} : ck_Ok p2_O X LX 302 p2_s1016 := ck_okq (cuts := []) (f := 114) ⟨p2_nmu, ck_E1 (ck_S1 p2_s1014_s ck_S0) (ck_E1 (ck_S1 p2_s1015_s ck_S0) (ck_E1 (ck_S1 p2_s381_s ck_S0) (ck_E1 (ck_S1 p2_s190_s ck_S0) ck_E0)))⟩ (by decide +kernel)
set_option maxRecDepth 100000 in
/-- GlacierMailModel.ofLetter -/
noncomputable def p2_s1017 : ck_Sum := ((0, 0, 0), 245, [.inr (.inr (.inl 226)), .inl (ck_one 17), .inl (ck_one 1)], ([], [], []), ([], []), [(.inr (some (.inl (ck_one (-1)))), 245, ([], [], [(227, 239, 239, ck_one (-1))])), (.inr (some (.inl (0, 7, []))), 245, ([], [], [(227, 239, 239, (0, 7, []))]))])
set_option maxRecDepth 100000 in
theorem p2_s1017_s {X : Int → Int} {LX : Nat} : ck_Ok p2_O X LX 301 p2_s1017 := ck_okq (cuts := []) (f := 92) ⟨p2_nmu, ck_E0⟩ (by decide +kernel)
set_option maxRecDepth 100000 in
/-- GlacierMailModel.ofLetter -/
noncomputable def p2_s1018 : ck_Sum := ((0, 0, 0), 245, [.inr (.inr (.inl 226)), .inl (ck_one 17), .inl (ck_one 3)], ([], [], []), ([], []), [(.inr (some (.inl (0, 299, []))), 245, ([], [], []))])
set_option maxRecDepth 100000 in
theorem p2_s1018_s {X : Int → Int} {LX : Nat} : ck_Ok p2_O X LX 301 p2_s1018 := ck_okq (cuts := []) (f := 92) ⟨p2_nmu, ck_E0⟩ (by decide +kernel)
/-- GlacierMailModel.opens -/
noncomputable def p2_s1019 : ck_Sum := op_os0 17 (.inl (ck_one (-1))) 0 7 (-1) (-1)
theorem p2_s1019_s {X : Int → Int} {LX : Nat} : ck_Ok p2_O X LX 319 p2_s1019 := op_none (by decide) (by decide) (by decide)
/-- GlacierMailModel.opens -/
noncomputable def p2_s1020 : ck_Sum := op_os 17 0 7
theorem p2_s1020_s {X : Int → Int} {LX : Nat} : ck_Ok p2_O X LX 319 p2_s1020 := op_open (by decide) (by decide) (by decide +kernel)
set_option maxRecDepth 100000 in
/-- GlacierMailModel.open -/
noncomputable def p2_s1021 : ck_Sum := ((9, 0, 0), 245, [.inr (.inr (.inl 226)), .inl (ck_one 17)], ([], [], zl176), ([(226, 0, 0), (226, 6, 6), (226, 17, 23), (226, 26, 26), (226, 29, 30), (227, 14, 14), (227, 243, 244), (227, 323, 394), (230, 0, 4739), (233, 0, 399), (235, 0, 29699), (236, 0, 299), (237, 0, 299)], []), [(.inr (some (.inl (ck_one 0))), 245, ([], [], zl177)), (.inr (some (.inl ((-299), 299, []))), 245, ([], [], [(227, 243, 243, (0, 7, [])), (227, 239, 239, (0, 7, [])), (226, 6, 6, (1, 12, [(1000027, 0)])), (226, 29, 29, (0, 299, [])), (227, 238, 238, (0, 7, [])), (226, 0, 0, ck_one 0)]))])
set_option maxRecDepth 100000 in
theorem p2_s1021_s {X : Int → Int} {LX : Nat} : ck_Ok p2_O X LX 318 p2_s1021 := ck_okq (cuts := []) (f := 142) ⟨p2_nmu, ck_E1 (ck_S1 p2_s1012_s ck_S0) (ck_E1 (ck_S1 p2_s241_s (ck_S1 p2_s242_s (ck_S1 p2_s244_s (ck_S1 p2_s243_s ck_S0)))) (ck_E1 (ck_S1 p2_s1016_s ck_S0) (ck_E1 (ck_S1 p2_s553_s ck_S0) (ck_E1 (ck_S1 p2_s1017_s (ck_S1 p2_s1018_s ck_S0)) (ck_E1 (ck_S1 p2_s1019_s (ck_S1 p2_s1020_s ck_S0)) (ck_E1 (ck_S1 p2_s190_s ck_S0) ck_E0))))))⟩ (by decide +kernel)
set_option maxRecDepth 100000 in
/-- GlacierMailModel.in -/
noncomputable def p2_s1022 : ck_Sum := ((0, 0, 0), 245, [.inl (ck_one 18), .inl (ck_one 0), .inl ((-1), 23, [])], ([], [], []), ([], []), [(.inr (some (.inl (ck_one 0))), 245, ([], [], [])), (.inr (some (.inl (ck_one 1))), 245, ([], [], []))])
set_option maxRecDepth 100000 in
theorem p2_s1022_s {X : Int → Int} {LX : Nat} : ck_Ok p2_O X LX 286 p2_s1022 := ck_okq (cuts := []) (f := 88) ⟨p2_nmu, ck_E0⟩ (by decide +kernel)
set_option maxRecDepth 100000 in
/-- GlacierMailModel.noLetter -/
noncomputable def p2_s1023 : ck_Sum := ((1, 0, 0), 245, [.inr (.inr (.inl 226)), .inl (ck_one 18)], ([], [], [(227, 4, 4, (0, 24, [(22, 0)]))]), ([], []), [(.inr (some (.inl (ck_one 1))), 245, ([], [], [])), (.inr (some (.inl (ck_one 0))), 245, ([], [], []))])
set_option maxRecDepth 100000 in
theorem p2_s1023_s {X : Int → Int} {LX : Nat} : ck_Ok p2_O X LX 309 p2_s1023 := ck_okq (cuts := []) (f := 92) ⟨p2_nmu, ck_E1 (ck_S1 p2_s176_s ck_S0) (ck_E1 (ck_S1 p2_s1022_s ck_S0) ck_E0)⟩ (by decide +kernel)
set_option maxRecDepth 100000 in
/-- GlacierMailModel.ofLetter -/
noncomputable def p2_s1024 : ck_Sum := ((0, 0, 0), 245, [.inr (.inr (.inl 226)), .inl (ck_one 18), .inl (ck_one 0)], ([], [], []), ([], []), [(.inr (some (.inl (ck_one (-1)))), 245, ([], [], [(227, 245, 245, ck_one (-1))])), (.inr (some (.inl (0, 7, []))), 245, ([], [], [(227, 245, 245, (0, 7, []))]))])
set_option maxRecDepth 100000 in
theorem p2_s1024_s {X : Int → Int} {LX : Nat} : ck_Ok p2_O X LX 301 p2_s1024 := ck_okq (cuts := []) (f := 92) ⟨p2_nmu, ck_E0⟩ (by decide +kernel)
set_option maxRecDepth 100000 in
/-- GlacierMailModel.isRock -/
noncomputable def p2_s1025 : ck_Sum := ((1, 0, 0), 245, [.inr (.inr (.inl 226)), .inl (ck_one 18)], ([], [], []), ([], []), [(.inr (some (.inl (ck_one 1))), 245, ([], [], [(227, 245, 245, ck_one (-1))])), (.inr (some (.inl (ck_one 0))), 245, ([], [], [(227, 245, 245, (0, 7, []))]))])
set_option maxRecDepth 100000 in
theorem p2_s1025_s {X : Int → Int} {LX : Nat} : ck_Ok p2_O X LX 303 p2_s1025 := ck_okq (cuts := []) (f := 86) ⟨p2_nmu, ck_E1 (ck_S1 p2_s1024_s ck_S0) ck_E0⟩ (by decide +kernel)
set_option maxRecDepth 100000 in
/-- GlacierMailModel.ofLetter -/
noncomputable def p2_s1026 : ck_Sum := ((0, 0, 0), 245, [.inr (.inr (.inl 226)), .inl (ck_one 18), .inl (ck_one 5)], ([], [], []), ([], []), [(.inr (some (.inl (ck_one (-1)))), 245, ([], [], [(227, 250, 250, ck_one (-1))])), (.inr (some (.inl (0, 7, []))), 245, ([], [], [(227, 250, 250, (0, 7, []))]))])
set_option maxRecDepth 100000 in
theorem p2_s1026_s {X : Int → Int} {LX : Nat} : ck_Ok p2_O X LX 301 p2_s1026 := ck_okq (cuts := []) (f := 92) ⟨p2_nmu, ck_E0⟩ (by decide +kernel)
set_option maxRecDepth 100000 in
/-- GlacierMailModel.isWaiting -/
noncomputable def p2_s1027 : ck_Sum := ((8, 0, 0), 245, [.inr (.inr (.inl 226)), .inl (ck_one 18)], ([], [], zl83), (zl81, []), [(.inr (some (.inl (ck_one 0))), 245, ([], [], [])), (.inr (some (.inl (ck_one 1))), 245, ([], [], [(226, 29, 29, (0, 299, [])), (227, 250, 250, ck_one (-1)), (227, 245, 245, (0, 7, []))]))])
set_option maxRecDepth 100000 in
theorem p2_s1027_s {X : Int → Int} {LX : Nat} : ck_Ok p2_O X LX 302 p2_s1027 := ck_okq (cuts := []) (f := 114) ⟨p2_nmu, ck_E1 (ck_S1 p2_s1025_s ck_S0) (ck_E1 (ck_S1 p2_s1026_s ck_S0) (ck_E1 (ck_S1 p2_s381_s ck_S0) (ck_E1 (ck_S1 p2_s190_s ck_S0) ck_E0)))⟩ (by decide +kernel)
set_option maxRecDepth 100000 in
/-- GlacierMailModel.ofLetter -/
noncomputable def p2_s1028 : ck_Sum := ((0, 0, 0), 245, [.inr (.inr (.inl 226)), .inl (ck_one 18), .inl (ck_one 1)], ([], [], []), ([], []), [(.inr (some (.inl (ck_one (-1)))), 245, ([], [], [(227, 246, 246, ck_one (-1))])), (.inr (some (.inl (0, 7, []))), 245, ([], [], [(227, 246, 246, (0, 7, []))]))])
set_option maxRecDepth 100000 in
theorem p2_s1028_s {X : Int → Int} {LX : Nat} : ck_Ok p2_O X LX 301 p2_s1028 := ck_okq (cuts := []) (f := 92) ⟨p2_nmu, ck_E0⟩ (by decide +kernel)
set_option maxRecDepth 100000 in
/-- GlacierMailModel.ofLetter -/
noncomputable def p2_s1029 : ck_Sum := ((0, 0, 0), 245, [.inr (.inr (.inl 226)), .inl (ck_one 18), .inl (ck_one 3)], ([], [], []), ([], []), [(.inr (some (.inl (0, 299, []))), 245, ([], [], []))])
set_option maxRecDepth 100000 in
theorem p2_s1029_s {X : Int → Int} {LX : Nat} : ck_Ok p2_O X LX 301 p2_s1029 := ck_okq (cuts := []) (f := 92) ⟨p2_nmu, ck_E0⟩ (by decide +kernel)
/-- GlacierMailModel.opens -/
noncomputable def p2_s1030 : ck_Sum := op_os0 18 (.inl (ck_one (-1))) 0 7 (-1) (-1)
theorem p2_s1030_s {X : Int → Int} {LX : Nat} : ck_Ok p2_O X LX 319 p2_s1030 := op_none (by decide) (by decide) (by decide)
/-- GlacierMailModel.opens -/
noncomputable def p2_s1031 : ck_Sum := op_os 18 0 7
theorem p2_s1031_s {X : Int → Int} {LX : Nat} : ck_Ok p2_O X LX 319 p2_s1031 := op_open (by decide) (by decide) (by decide +kernel)
set_option maxRecDepth 100000 in
/-- GlacierMailModel.open -/
noncomputable def p2_s1032 : ck_Sum := ((9, 0, 0), 245, [.inr (.inr (.inl 226)), .inl (ck_one 18)], ([], [], zl176), ([(226, 0, 0), (226, 6, 6), (226, 17, 23), (226, 26, 26), (226, 29, 30), (227, 14, 14), (227, 250, 251), (227, 323, 394), (230, 0, 4739), (233, 0, 399), (235, 0, 29699), (236, 0, 299), (237, 0, 299)], []), [(.inr (some (.inl (ck_one 0))), 245, ([], [], zl177)), (.inr (some (.inl ((-299), 299, []))), 245, ([], [], [(227, 250, 250, (0, 7, [])), (227, 246, 246, (0, 7, [])), (226, 6, 6, (1, 12, [(1000027, 0)])), (226, 29, 29, (0, 299, [])), (227, 245, 245, (0, 7, [])), (226, 0, 0, ck_one 0)]))])
set_option maxRecDepth 100000 in
theorem p2_s1032_s {X : Int → Int} {LX : Nat} : ck_Ok p2_O X LX 318 p2_s1032 := ck_okq (cuts := []) (f := 142) ⟨p2_nmu, ck_E1 (ck_S1 p2_s1023_s ck_S0) (ck_E1 (ck_S1 p2_s241_s (ck_S1 p2_s242_s (ck_S1 p2_s244_s (ck_S1 p2_s243_s ck_S0)))) (ck_E1 (ck_S1 p2_s1027_s ck_S0) (ck_E1 (ck_S1 p2_s553_s ck_S0) (ck_E1 (ck_S1 p2_s1028_s (ck_S1 p2_s1029_s ck_S0)) (ck_E1 (ck_S1 p2_s1030_s (ck_S1 p2_s1031_s ck_S0)) (ck_E1 (ck_S1 p2_s190_s ck_S0) ck_E0))))))⟩ (by decide +kernel)
set_option maxRecDepth 100000 in
/-- GlacierMailModel.in -/
noncomputable def p2_s1033 : ck_Sum := ((0, 0, 0), 245, [.inl (ck_one 19), .inl (ck_one 0), .inl ((-1), 23, [])], ([], [], []), ([], []), [(.inr (some (.inl (ck_one 0))), 245, ([], [], [])), (.inr (some (.inl (ck_one 1))), 245, ([], [], []))])
set_option maxRecDepth 100000 in
theorem p2_s1033_s {X : Int → Int} {LX : Nat} : ck_Ok p2_O X LX 286 p2_s1033 := ck_okq (cuts := []) (f := 88) ⟨p2_nmu, ck_E0⟩ (by decide +kernel)
set_option maxRecDepth 100000 in
/-- GlacierMailModel.noLetter -/
noncomputable def p2_s1034 : ck_Sum := ((1, 0, 0), 245, [.inr (.inr (.inl 226)), .inl (ck_one 19)], ([], [], [(227, 4, 4, (0, 24, [(22, 0)]))]), ([], []), [(.inr (some (.inl (ck_one 1))), 245, ([], [], [])), (.inr (some (.inl (ck_one 0))), 245, ([], [], []))])
set_option maxRecDepth 100000 in
theorem p2_s1034_s {X : Int → Int} {LX : Nat} : ck_Ok p2_O X LX 309 p2_s1034 := ck_okq (cuts := []) (f := 92) ⟨p2_nmu, ck_E1 (ck_S1 p2_s176_s ck_S0) (ck_E1 (ck_S1 p2_s1033_s ck_S0) ck_E0)⟩ (by decide +kernel)
set_option maxRecDepth 100000 in
/-- GlacierMailModel.ofLetter -/
noncomputable def p2_s1035 : ck_Sum := ((0, 0, 0), 245, [.inr (.inr (.inl 226)), .inl (ck_one 19), .inl (ck_one 0)], ([], [], []), ([], []), [(.inr (some (.inl (ck_one (-1)))), 245, ([], [], [(227, 252, 252, ck_one (-1))])), (.inr (some (.inl (0, 7, []))), 245, ([], [], [(227, 252, 252, (0, 7, []))]))])
set_option maxRecDepth 100000 in
theorem p2_s1035_s {X : Int → Int} {LX : Nat} : ck_Ok p2_O X LX 301 p2_s1035 := ck_okq (cuts := []) (f := 92) ⟨p2_nmu, ck_E0⟩ (by decide +kernel)
set_option maxRecDepth 100000 in
/-- GlacierMailModel.isRock -/
noncomputable def p2_s1036 : ck_Sum := ((1, 0, 0), 245, [.inr (.inr (.inl 226)), .inl (ck_one 19)], ([], [], []), ([], []), [(.inr (some (.inl (ck_one 1))), 245, ([], [], [(227, 252, 252, ck_one (-1))])), (.inr (some (.inl (ck_one 0))), 245, ([], [], [(227, 252, 252, (0, 7, []))]))])
set_option maxRecDepth 100000 in
theorem p2_s1036_s {X : Int → Int} {LX : Nat} : ck_Ok p2_O X LX 303 p2_s1036 := ck_okq (cuts := []) (f := 86) ⟨p2_nmu, ck_E1 (ck_S1 p2_s1035_s ck_S0) ck_E0⟩ (by decide +kernel)
set_option maxRecDepth 100000 in
/-- GlacierMailModel.ofLetter -/
noncomputable def p2_s1037 : ck_Sum := ((0, 0, 0), 245, [.inr (.inr (.inl 226)), .inl (ck_one 19), .inl (ck_one 5)], ([], [], []), ([], []), [(.inr (some (.inl (ck_one (-1)))), 245, ([], [], [(227, 257, 257, ck_one (-1))])), (.inr (some (.inl (0, 7, []))), 245, ([], [], [(227, 257, 257, (0, 7, []))]))])
set_option maxRecDepth 100000 in
theorem p2_s1037_s {X : Int → Int} {LX : Nat} : ck_Ok p2_O X LX 301 p2_s1037 := ck_okq (cuts := []) (f := 92) ⟨p2_nmu, ck_E0⟩ (by decide +kernel)
set_option maxRecDepth 100000 in
/-- GlacierMailModel.isWaiting -/
noncomputable def p2_s1038 : ck_Sum := ((8, 0, 0), 245, [.inr (.inr (.inl 226)), .inl (ck_one 19)], ([], [], zl83), (zl81, []), [(.inr (some (.inl (ck_one 0))), 245, ([], [], [])), (.inr (some (.inl (ck_one 1))), 245, ([], [], [(226, 29, 29, (0, 299, [])), (227, 257, 257, ck_one (-1)), (227, 252, 252, (0, 7, []))]))])
set_option maxRecDepth 100000 in
theorem p2_s1038_s {X : Int → Int} {LX : Nat} : ck_Ok p2_O X LX 302 p2_s1038 := ck_okq (cuts := []) (f := 114) ⟨p2_nmu, ck_E1 (ck_S1 p2_s1036_s ck_S0) (ck_E1 (ck_S1 p2_s1037_s ck_S0) (ck_E1 (ck_S1 p2_s381_s ck_S0) (ck_E1 (ck_S1 p2_s190_s ck_S0) ck_E0)))⟩ (by decide +kernel)
set_option maxRecDepth 100000 in
/-- GlacierMailModel.ofLetter -/
noncomputable def p2_s1039 : ck_Sum := ((0, 0, 0), 245, [.inr (.inr (.inl 226)), .inl (ck_one 19), .inl (ck_one 1)], ([], [], []), ([], []), [(.inr (some (.inl (ck_one (-1)))), 245, ([], [], [(227, 253, 253, ck_one (-1))])), (.inr (some (.inl (0, 7, []))), 245, ([], [], [(227, 253, 253, (0, 7, []))]))])
set_option maxRecDepth 100000 in
theorem p2_s1039_s {X : Int → Int} {LX : Nat} : ck_Ok p2_O X LX 301 p2_s1039 := ck_okq (cuts := []) (f := 92) ⟨p2_nmu, ck_E0⟩ (by decide +kernel)
set_option maxRecDepth 100000 in
/-- GlacierMailModel.ofLetter -/
noncomputable def p2_s1040 : ck_Sum := ((0, 0, 0), 245, [.inr (.inr (.inl 226)), .inl (ck_one 19), .inl (ck_one 3)], ([], [], []), ([], []), [(.inr (some (.inl (0, 299, []))), 245, ([], [], []))])
set_option maxRecDepth 100000 in
theorem p2_s1040_s {X : Int → Int} {LX : Nat} : ck_Ok p2_O X LX 301 p2_s1040 := ck_okq (cuts := []) (f := 92) ⟨p2_nmu, ck_E0⟩ (by decide +kernel)
/-- GlacierMailModel.opens -/
noncomputable def p2_s1041 : ck_Sum := op_os0 19 (.inl (ck_one (-1))) 0 7 (-1) (-1)
theorem p2_s1041_s {X : Int → Int} {LX : Nat} : ck_Ok p2_O X LX 319 p2_s1041 := op_none (by decide) (by decide) (by decide)
/-- GlacierMailModel.opens -/
noncomputable def p2_s1042 : ck_Sum := op_os 19 0 7
theorem p2_s1042_s {X : Int → Int} {LX : Nat} : ck_Ok p2_O X LX 319 p2_s1042 := op_open (by decide) (by decide) (by decide +kernel)
set_option maxRecDepth 100000 in
/-- GlacierMailModel.open -/
noncomputable def p2_s1043 : ck_Sum := ((9, 0, 0), 245, [.inr (.inr (.inl 226)), .inl (ck_one 19)], ([], [], zl176), ([(226, 0, 0), (226, 6, 6), (226, 17, 23), (226, 26, 26), (226, 29, 30), (227, 14, 14), (227, 257, 258), (227, 323, 394), (230, 0, 4739), (233, 0, 399), (235, 0, 29699), (236, 0, 299), (237, 0, 299)], []), [(.inr (some (.inl (ck_one 0))), 245, ([], [], zl177)), (.inr (some (.inl ((-299), 299, []))), 245, ([], [], [(227, 257, 257, (0, 7, [])), (227, 253, 253, (0, 7, [])), (226, 6, 6, (1, 12, [(1000027, 0)])), (226, 29, 29, (0, 299, [])), (227, 252, 252, (0, 7, [])), (226, 0, 0, ck_one 0)]))])
set_option maxRecDepth 100000 in
theorem p2_s1043_s {X : Int → Int} {LX : Nat} : ck_Ok p2_O X LX 318 p2_s1043 := ck_okq (cuts := []) (f := 142) ⟨p2_nmu, ck_E1 (ck_S1 p2_s1034_s ck_S0) (ck_E1 (ck_S1 p2_s241_s (ck_S1 p2_s242_s (ck_S1 p2_s244_s (ck_S1 p2_s243_s ck_S0)))) (ck_E1 (ck_S1 p2_s1038_s ck_S0) (ck_E1 (ck_S1 p2_s553_s ck_S0) (ck_E1 (ck_S1 p2_s1039_s (ck_S1 p2_s1040_s ck_S0)) (ck_E1 (ck_S1 p2_s1041_s (ck_S1 p2_s1042_s ck_S0)) (ck_E1 (ck_S1 p2_s190_s ck_S0) ck_E0))))))⟩ (by decide +kernel)
set_option maxRecDepth 100000 in
/-- GlacierMailModel.in -/
noncomputable def p2_s1044 : ck_Sum := ((0, 0, 0), 245, [.inl (ck_one 20), .inl (ck_one 0), .inl ((-1), 23, [])], ([], [], []), ([], []), [(.inr (some (.inl (ck_one 0))), 245, ([], [], [])), (.inr (some (.inl (ck_one 1))), 245, ([], [], []))])
set_option maxRecDepth 100000 in
theorem p2_s1044_s {X : Int → Int} {LX : Nat} : ck_Ok p2_O X LX 286 p2_s1044 := ck_okq (cuts := []) (f := 88) ⟨p2_nmu, ck_E0⟩ (by decide +kernel)
set_option maxRecDepth 100000 in
/-- GlacierMailModel.noLetter -/
noncomputable def p2_s1045 : ck_Sum := ((1, 0, 0), 245, [.inr (.inr (.inl 226)), .inl (ck_one 20)], ([], [], [(227, 4, 4, (0, 24, [(22, 0)]))]), ([], []), [(.inr (some (.inl (ck_one 1))), 245, ([], [], [])), (.inr (some (.inl (ck_one 0))), 245, ([], [], []))])
set_option maxRecDepth 100000 in
theorem p2_s1045_s {X : Int → Int} {LX : Nat} : ck_Ok p2_O X LX 309 p2_s1045 := ck_okq (cuts := []) (f := 92) ⟨p2_nmu, ck_E1 (ck_S1 p2_s176_s ck_S0) (ck_E1 (ck_S1 p2_s1044_s ck_S0) ck_E0)⟩ (by decide +kernel)
set_option maxRecDepth 100000 in
/-- GlacierMailModel.ofLetter -/
noncomputable def p2_s1046 : ck_Sum := ((0, 0, 0), 245, [.inr (.inr (.inl 226)), .inl (ck_one 20), .inl (ck_one 0)], ([], [], []), ([], []), [(.inr (some (.inl (ck_one (-1)))), 245, ([], [], [(227, 259, 259, ck_one (-1))])), (.inr (some (.inl (0, 7, []))), 245, ([], [], [(227, 259, 259, (0, 7, []))]))])
set_option maxRecDepth 100000 in
theorem p2_s1046_s {X : Int → Int} {LX : Nat} : ck_Ok p2_O X LX 301 p2_s1046 := ck_okq (cuts := []) (f := 92) ⟨p2_nmu, ck_E0⟩ (by decide +kernel)
set_option maxRecDepth 100000 in
/-- GlacierMailModel.isRock -/
noncomputable def p2_s1047 : ck_Sum := ((1, 0, 0), 245, [.inr (.inr (.inl 226)), .inl (ck_one 20)], ([], [], []), ([], []), [(.inr (some (.inl (ck_one 1))), 245, ([], [], [(227, 259, 259, ck_one (-1))])), (.inr (some (.inl (ck_one 0))), 245, ([], [], [(227, 259, 259, (0, 7, []))]))])
set_option maxRecDepth 100000 in
theorem p2_s1047_s {X : Int → Int} {LX : Nat} : ck_Ok p2_O X LX 303 p2_s1047 := ck_okq (cuts := []) (f := 86) ⟨p2_nmu, ck_E1 (ck_S1 p2_s1046_s ck_S0) ck_E0⟩ (by decide +kernel)
set_option maxRecDepth 100000 in
/-- GlacierMailModel.ofLetter -/
noncomputable def p2_s1048 : ck_Sum := ((0, 0, 0), 245, [.inr (.inr (.inl 226)), .inl (ck_one 20), .inl (ck_one 5)], ([], [], []), ([], []), [(.inr (some (.inl (ck_one (-1)))), 245, ([], [], [(227, 264, 264, ck_one (-1))])), (.inr (some (.inl (0, 7, []))), 245, ([], [], [(227, 264, 264, (0, 7, []))]))])
set_option maxRecDepth 100000 in
theorem p2_s1048_s {X : Int → Int} {LX : Nat} : ck_Ok p2_O X LX 301 p2_s1048 := ck_okq (cuts := []) (f := 92) ⟨p2_nmu, ck_E0⟩ (by decide +kernel)
set_option maxRecDepth 100000 in
/-- GlacierMailModel.isWaiting -/
noncomputable def p2_s1049 : ck_Sum := ((8, 0, 0), 245, [.inr (.inr (.inl 226)), .inl (ck_one 20)], ([], [], zl83), (zl81, []), [(.inr (some (.inl (ck_one 0))), 245, ([], [], [])), (.inr (some (.inl (ck_one 1))), 245, ([], [], [(226, 29, 29, (0, 299, [])), (227, 264, 264, ck_one (-1)), (227, 259, 259, (0, 7, []))]))])
set_option maxRecDepth 100000 in
theorem p2_s1049_s {X : Int → Int} {LX : Nat} : ck_Ok p2_O X LX 302 p2_s1049 := ck_okq (cuts := []) (f := 114) ⟨p2_nmu, ck_E1 (ck_S1 p2_s1047_s ck_S0) (ck_E1 (ck_S1 p2_s1048_s ck_S0) (ck_E1 (ck_S1 p2_s381_s ck_S0) (ck_E1 (ck_S1 p2_s190_s ck_S0) ck_E0)))⟩ (by decide +kernel)
set_option maxRecDepth 100000 in
/-- GlacierMailModel.ofLetter -/
noncomputable def p2_s1050 : ck_Sum := ((0, 0, 0), 245, [.inr (.inr (.inl 226)), .inl (ck_one 20), .inl (ck_one 1)], ([], [], []), ([], []), [(.inr (some (.inl (ck_one (-1)))), 245, ([], [], [(227, 260, 260, ck_one (-1))])), (.inr (some (.inl (0, 7, []))), 245, ([], [], [(227, 260, 260, (0, 7, []))]))])
set_option maxRecDepth 100000 in
theorem p2_s1050_s {X : Int → Int} {LX : Nat} : ck_Ok p2_O X LX 301 p2_s1050 := ck_okq (cuts := []) (f := 92) ⟨p2_nmu, ck_E0⟩ (by decide +kernel)
set_option maxRecDepth 100000 in
/-- GlacierMailModel.ofLetter -/
noncomputable def p2_s1051 : ck_Sum := ((0, 0, 0), 245, [.inr (.inr (.inl 226)), .inl (ck_one 20), .inl (ck_one 3)], ([], [], []), ([], []), [(.inr (some (.inl (0, 299, []))), 245, ([], [], []))])
set_option maxRecDepth 100000 in
theorem p2_s1051_s {X : Int → Int} {LX : Nat} : ck_Ok p2_O X LX 301 p2_s1051 := ck_okq (cuts := []) (f := 92) ⟨p2_nmu, ck_E0⟩ (by decide +kernel)
/-- GlacierMailModel.opens -/
noncomputable def p2_s1052 : ck_Sum := op_os0 20 (.inl (ck_one (-1))) 0 7 (-1) (-1)
theorem p2_s1052_s {X : Int → Int} {LX : Nat} : ck_Ok p2_O X LX 319 p2_s1052 := op_none (by decide) (by decide) (by decide)
/-- GlacierMailModel.opens -/
noncomputable def p2_s1053 : ck_Sum := op_os 20 0 7
theorem p2_s1053_s {X : Int → Int} {LX : Nat} : ck_Ok p2_O X LX 319 p2_s1053 := op_open (by decide) (by decide) (by decide +kernel)
set_option maxRecDepth 100000 in
/-- GlacierMailModel.open -/
noncomputable def p2_s1054 : ck_Sum := ((9, 0, 0), 245, [.inr (.inr (.inl 226)), .inl (ck_one 20)], ([], [], zl176), ([(226, 0, 0), (226, 6, 6), (226, 17, 23), (226, 26, 26), (226, 29, 30), (227, 14, 14), (227, 264, 265), (227, 323, 394), (230, 0, 4739), (233, 0, 399), (235, 0, 29699), (236, 0, 299), (237, 0, 299)], []), [(.inr (some (.inl (ck_one 0))), 245, ([], [], zl177)), (.inr (some (.inl ((-299), 299, []))), 245, ([], [], [(227, 264, 264, (0, 7, [])), (227, 260, 260, (0, 7, [])), (226, 6, 6, (1, 12, [(1000027, 0)])), (226, 29, 29, (0, 299, [])), (227, 259, 259, (0, 7, [])), (226, 0, 0, ck_one 0)]))])
set_option maxRecDepth 100000 in
theorem p2_s1054_s {X : Int → Int} {LX : Nat} : ck_Ok p2_O X LX 318 p2_s1054 := ck_okq (cuts := []) (f := 142) ⟨p2_nmu, ck_E1 (ck_S1 p2_s1045_s ck_S0) (ck_E1 (ck_S1 p2_s241_s (ck_S1 p2_s242_s (ck_S1 p2_s244_s (ck_S1 p2_s243_s ck_S0)))) (ck_E1 (ck_S1 p2_s1049_s ck_S0) (ck_E1 (ck_S1 p2_s553_s ck_S0) (ck_E1 (ck_S1 p2_s1050_s (ck_S1 p2_s1051_s ck_S0)) (ck_E1 (ck_S1 p2_s1052_s (ck_S1 p2_s1053_s ck_S0)) (ck_E1 (ck_S1 p2_s190_s ck_S0) ck_E0))))))⟩ (by decide +kernel)
set_option maxRecDepth 100000 in
/-- GlacierMailModel.in -/
noncomputable def p2_s1055 : ck_Sum := ((0, 0, 0), 245, [.inl (ck_one 21), .inl (ck_one 0), .inl ((-1), 23, [])], ([], [], []), ([], []), [(.inr (some (.inl (ck_one 0))), 245, ([], [], [])), (.inr (some (.inl (ck_one 1))), 245, ([], [], []))])
set_option maxRecDepth 100000 in
theorem p2_s1055_s {X : Int → Int} {LX : Nat} : ck_Ok p2_O X LX 286 p2_s1055 := ck_okq (cuts := []) (f := 88) ⟨p2_nmu, ck_E0⟩ (by decide +kernel)
set_option maxRecDepth 100000 in
/-- GlacierMailModel.noLetter -/
noncomputable def p2_s1056 : ck_Sum := ((1, 0, 0), 245, [.inr (.inr (.inl 226)), .inl (ck_one 21)], ([], [], [(227, 4, 4, (0, 24, [(22, 0)]))]), ([], []), [(.inr (some (.inl (ck_one 1))), 245, ([], [], [])), (.inr (some (.inl (ck_one 0))), 245, ([], [], []))])
set_option maxRecDepth 100000 in
theorem p2_s1056_s {X : Int → Int} {LX : Nat} : ck_Ok p2_O X LX 309 p2_s1056 := ck_okq (cuts := []) (f := 92) ⟨p2_nmu, ck_E1 (ck_S1 p2_s176_s ck_S0) (ck_E1 (ck_S1 p2_s1055_s ck_S0) ck_E0)⟩ (by decide +kernel)
set_option maxRecDepth 100000 in
/-- GlacierMailModel.ofLetter -/
noncomputable def p2_s1057 : ck_Sum := ((0, 0, 0), 245, [.inr (.inr (.inl 226)), .inl (ck_one 21), .inl (ck_one 0)], ([], [], []), ([], []), [(.inr (some (.inl (ck_one (-1)))), 245, ([], [], [(227, 266, 266, ck_one (-1))])), (.inr (some (.inl (0, 7, []))), 245, ([], [], [(227, 266, 266, (0, 7, []))]))])
set_option maxRecDepth 100000 in
theorem p2_s1057_s {X : Int → Int} {LX : Nat} : ck_Ok p2_O X LX 301 p2_s1057 := ck_okq (cuts := []) (f := 92) ⟨p2_nmu, ck_E0⟩ (by decide +kernel)
set_option maxRecDepth 100000 in
/-- GlacierMailModel.isRock -/
noncomputable def p2_s1058 : ck_Sum := ((1, 0, 0), 245, [.inr (.inr (.inl 226)), .inl (ck_one 21)], ([], [], []), ([], []), [(.inr (some (.inl (ck_one 1))), 245, ([], [], [(227, 266, 266, ck_one (-1))])), (.inr (some (.inl (ck_one 0))), 245, ([], [], [(227, 266, 266, (0, 7, []))]))])
set_option maxRecDepth 100000 in
theorem p2_s1058_s {X : Int → Int} {LX : Nat} : ck_Ok p2_O X LX 303 p2_s1058 := ck_okq (cuts := []) (f := 86) ⟨p2_nmu, ck_E1 (ck_S1 p2_s1057_s ck_S0) ck_E0⟩ (by decide +kernel)
set_option maxRecDepth 100000 in
/-- GlacierMailModel.ofLetter -/
noncomputable def p2_s1059 : ck_Sum := ((0, 0, 0), 245, [.inr (.inr (.inl 226)), .inl (ck_one 21), .inl (ck_one 5)], ([], [], []), ([], []), [(.inr (some (.inl (ck_one (-1)))), 245, ([], [], [(227, 271, 271, ck_one (-1))])), (.inr (some (.inl (0, 7, []))), 245, ([], [], [(227, 271, 271, (0, 7, []))]))])
set_option maxRecDepth 100000 in
theorem p2_s1059_s {X : Int → Int} {LX : Nat} : ck_Ok p2_O X LX 301 p2_s1059 := ck_okq (cuts := []) (f := 92) ⟨p2_nmu, ck_E0⟩ (by decide +kernel)
set_option maxRecDepth 100000 in
/-- GlacierMailModel.isWaiting -/
noncomputable def p2_s1060 : ck_Sum := ((8, 0, 0), 245, [.inr (.inr (.inl 226)), .inl (ck_one 21)], ([], [], zl83), (zl81, []), [(.inr (some (.inl (ck_one 0))), 245, ([], [], [])), (.inr (some (.inl (ck_one 1))), 245, ([], [], [(226, 29, 29, (0, 299, [])), (227, 271, 271, ck_one (-1)), (227, 266, 266, (0, 7, []))]))])
set_option maxRecDepth 100000 in
theorem p2_s1060_s {X : Int → Int} {LX : Nat} : ck_Ok p2_O X LX 302 p2_s1060 := ck_okq (cuts := []) (f := 114) ⟨p2_nmu, ck_E1 (ck_S1 p2_s1058_s ck_S0) (ck_E1 (ck_S1 p2_s1059_s ck_S0) (ck_E1 (ck_S1 p2_s381_s ck_S0) (ck_E1 (ck_S1 p2_s190_s ck_S0) ck_E0)))⟩ (by decide +kernel)
set_option maxRecDepth 100000 in
/-- GlacierMailModel.ofLetter -/
noncomputable def p2_s1061 : ck_Sum := ((0, 0, 0), 245, [.inr (.inr (.inl 226)), .inl (ck_one 21), .inl (ck_one 1)], ([], [], []), ([], []), [(.inr (some (.inl (ck_one (-1)))), 245, ([], [], [(227, 267, 267, ck_one (-1))])), (.inr (some (.inl (0, 7, []))), 245, ([], [], [(227, 267, 267, (0, 7, []))]))])
set_option maxRecDepth 100000 in
theorem p2_s1061_s {X : Int → Int} {LX : Nat} : ck_Ok p2_O X LX 301 p2_s1061 := ck_okq (cuts := []) (f := 92) ⟨p2_nmu, ck_E0⟩ (by decide +kernel)
set_option maxRecDepth 100000 in
/-- GlacierMailModel.ofLetter -/
noncomputable def p2_s1062 : ck_Sum := ((0, 0, 0), 245, [.inr (.inr (.inl 226)), .inl (ck_one 21), .inl (ck_one 3)], ([], [], []), ([], []), [(.inr (some (.inl (0, 299, []))), 245, ([], [], []))])
set_option maxRecDepth 100000 in
theorem p2_s1062_s {X : Int → Int} {LX : Nat} : ck_Ok p2_O X LX 301 p2_s1062 := ck_okq (cuts := []) (f := 92) ⟨p2_nmu, ck_E0⟩ (by decide +kernel)
/-- GlacierMailModel.opens -/
noncomputable def p2_s1063 : ck_Sum := op_os0 21 (.inl (ck_one (-1))) 0 7 (-1) (-1)
theorem p2_s1063_s {X : Int → Int} {LX : Nat} : ck_Ok p2_O X LX 319 p2_s1063 := op_none (by decide) (by decide) (by decide)
/-- GlacierMailModel.opens -/
noncomputable def p2_s1064 : ck_Sum := op_os 21 0 7
theorem p2_s1064_s {X : Int → Int} {LX : Nat} : ck_Ok p2_O X LX 319 p2_s1064 := op_open (by decide) (by decide) (by decide +kernel)
set_option maxRecDepth 100000 in
/-- GlacierMailModel.open -/
noncomputable def p2_s1065 : ck_Sum := ((9, 0, 0), 245, [.inr (.inr (.inl 226)), .inl (ck_one 21)], ([], [], zl176), ([(226, 0, 0), (226, 6, 6), (226, 17, 23), (226, 26, 26), (226, 29, 30), (227, 14, 14), (227, 271, 272), (227, 323, 394), (230, 0, 4739), (233, 0, 399), (235, 0, 29699), (236, 0, 299), (237, 0, 299)], []), [(.inr (some (.inl (ck_one 0))), 245, ([], [], zl177)), (.inr (some (.inl ((-299), 299, []))), 245, ([], [], [(227, 271, 271, (0, 7, [])), (227, 267, 267, (0, 7, [])), (226, 6, 6, (1, 12, [(1000027, 0)])), (226, 29, 29, (0, 299, [])), (227, 266, 266, (0, 7, [])), (226, 0, 0, ck_one 0)]))])
set_option maxRecDepth 100000 in
theorem p2_s1065_s {X : Int → Int} {LX : Nat} : ck_Ok p2_O X LX 318 p2_s1065 := ck_okq (cuts := []) (f := 142) ⟨p2_nmu, ck_E1 (ck_S1 p2_s1056_s ck_S0) (ck_E1 (ck_S1 p2_s241_s (ck_S1 p2_s242_s (ck_S1 p2_s244_s (ck_S1 p2_s243_s ck_S0)))) (ck_E1 (ck_S1 p2_s1060_s ck_S0) (ck_E1 (ck_S1 p2_s553_s ck_S0) (ck_E1 (ck_S1 p2_s1061_s (ck_S1 p2_s1062_s ck_S0)) (ck_E1 (ck_S1 p2_s1063_s (ck_S1 p2_s1064_s ck_S0)) (ck_E1 (ck_S1 p2_s190_s ck_S0) ck_E0))))))⟩ (by decide +kernel)
set_option maxRecDepth 100000 in
/-- GlacierMailModel.in -/
noncomputable def p2_s1066 : ck_Sum := ((0, 0, 0), 245, [.inl (ck_one 22), .inl (ck_one 0), .inl ((-1), 23, [])], ([], [], []), ([], []), [(.inr (some (.inl (ck_one 0))), 245, ([], [], [])), (.inr (some (.inl (ck_one 1))), 245, ([], [], []))])
set_option maxRecDepth 100000 in
theorem p2_s1066_s {X : Int → Int} {LX : Nat} : ck_Ok p2_O X LX 286 p2_s1066 := ck_okq (cuts := []) (f := 88) ⟨p2_nmu, ck_E0⟩ (by decide +kernel)
set_option maxRecDepth 100000 in
/-- GlacierMailModel.noLetter -/
noncomputable def p2_s1067 : ck_Sum := ((1, 0, 0), 245, [.inr (.inr (.inl 226)), .inl (ck_one 22)], ([], [], [(227, 4, 4, (0, 24, [(22, 0)]))]), ([], []), [(.inr (some (.inl (ck_one 1))), 245, ([], [], [])), (.inr (some (.inl (ck_one 0))), 245, ([], [], []))])
set_option maxRecDepth 100000 in
theorem p2_s1067_s {X : Int → Int} {LX : Nat} : ck_Ok p2_O X LX 309 p2_s1067 := ck_okq (cuts := []) (f := 92) ⟨p2_nmu, ck_E1 (ck_S1 p2_s176_s ck_S0) (ck_E1 (ck_S1 p2_s1066_s ck_S0) ck_E0)⟩ (by decide +kernel)
set_option maxRecDepth 100000 in
/-- GlacierMailModel.ofLetter -/
noncomputable def p2_s1068 : ck_Sum := ((0, 0, 0), 245, [.inr (.inr (.inl 226)), .inl (ck_one 22), .inl (ck_one 0)], ([], [], []), ([], []), [(.inr (some (.inl (ck_one (-1)))), 245, ([], [], [(227, 273, 273, ck_one (-1))])), (.inr (some (.inl (0, 7, []))), 245, ([], [], [(227, 273, 273, (0, 7, []))]))])
set_option maxRecDepth 100000 in
theorem p2_s1068_s {X : Int → Int} {LX : Nat} : ck_Ok p2_O X LX 301 p2_s1068 := ck_okq (cuts := []) (f := 92) ⟨p2_nmu, ck_E0⟩ (by decide +kernel)
set_option maxRecDepth 100000 in
/-- GlacierMailModel.isRock -/
noncomputable def p2_s1069 : ck_Sum := ((1, 0, 0), 245, [.inr (.inr (.inl 226)), .inl (ck_one 22)], ([], [], []), ([], []), [(.inr (some (.inl (ck_one 1))), 245, ([], [], [(227, 273, 273, ck_one (-1))])), (.inr (some (.inl (ck_one 0))), 245, ([], [], [(227, 273, 273, (0, 7, []))]))])
set_option maxRecDepth 100000 in
theorem p2_s1069_s {X : Int → Int} {LX : Nat} : ck_Ok p2_O X LX 303 p2_s1069 := ck_okq (cuts := []) (f := 86) ⟨p2_nmu, ck_E1 (ck_S1 p2_s1068_s ck_S0) ck_E0⟩ (by decide +kernel)
set_option maxRecDepth 100000 in
/-- GlacierMailModel.ofLetter -/
noncomputable def p2_s1070 : ck_Sum := ((0, 0, 0), 245, [.inr (.inr (.inl 226)), .inl (ck_one 22), .inl (ck_one 5)], ([], [], []), ([], []), [(.inr (some (.inl (ck_one (-1)))), 245, ([], [], [(227, 278, 278, ck_one (-1))])), (.inr (some (.inl (0, 7, []))), 245, ([], [], [(227, 278, 278, (0, 7, []))]))])
set_option maxRecDepth 100000 in
theorem p2_s1070_s {X : Int → Int} {LX : Nat} : ck_Ok p2_O X LX 301 p2_s1070 := ck_okq (cuts := []) (f := 92) ⟨p2_nmu, ck_E0⟩ (by decide +kernel)
set_option maxRecDepth 100000 in
/-- GlacierMailModel.isWaiting -/
noncomputable def p2_s1071 : ck_Sum := ((8, 0, 0), 245, [.inr (.inr (.inl 226)), .inl (ck_one 22)], ([], [], zl83), (zl81, []), [(.inr (some (.inl (ck_one 0))), 245, ([], [], [])), (.inr (some (.inl (ck_one 1))), 245, ([], [], [(226, 29, 29, (0, 299, [])), (227, 278, 278, ck_one (-1)), (227, 273, 273, (0, 7, []))]))])
set_option maxRecDepth 100000 in
theorem p2_s1071_s {X : Int → Int} {LX : Nat} : ck_Ok p2_O X LX 302 p2_s1071 := ck_okq (cuts := []) (f := 114) ⟨p2_nmu, ck_E1 (ck_S1 p2_s1069_s ck_S0) (ck_E1 (ck_S1 p2_s1070_s ck_S0) (ck_E1 (ck_S1 p2_s381_s ck_S0) (ck_E1 (ck_S1 p2_s190_s ck_S0) ck_E0)))⟩ (by decide +kernel)
set_option maxRecDepth 100000 in
/-- GlacierMailModel.ofLetter -/
noncomputable def p2_s1072 : ck_Sum := ((0, 0, 0), 245, [.inr (.inr (.inl 226)), .inl (ck_one 22), .inl (ck_one 1)], ([], [], []), ([], []), [(.inr (some (.inl (ck_one (-1)))), 245, ([], [], [(227, 274, 274, ck_one (-1))])), (.inr (some (.inl (0, 7, []))), 245, ([], [], [(227, 274, 274, (0, 7, []))]))])
set_option maxRecDepth 100000 in
theorem p2_s1072_s {X : Int → Int} {LX : Nat} : ck_Ok p2_O X LX 301 p2_s1072 := ck_okq (cuts := []) (f := 92) ⟨p2_nmu, ck_E0⟩ (by decide +kernel)
set_option maxRecDepth 100000 in
/-- GlacierMailModel.ofLetter -/
noncomputable def p2_s1073 : ck_Sum := ((0, 0, 0), 245, [.inr (.inr (.inl 226)), .inl (ck_one 22), .inl (ck_one 3)], ([], [], []), ([], []), [(.inr (some (.inl (0, 299, []))), 245, ([], [], []))])
set_option maxRecDepth 100000 in
theorem p2_s1073_s {X : Int → Int} {LX : Nat} : ck_Ok p2_O X LX 301 p2_s1073 := ck_okq (cuts := []) (f := 92) ⟨p2_nmu, ck_E0⟩ (by decide +kernel)
/-- GlacierMailModel.opens -/
noncomputable def p2_s1074 : ck_Sum := op_os0 22 (.inl (ck_one (-1))) 0 7 (-1) (-1)
theorem p2_s1074_s {X : Int → Int} {LX : Nat} : ck_Ok p2_O X LX 319 p2_s1074 := op_none (by decide) (by decide) (by decide)
/-- GlacierMailModel.opens -/
noncomputable def p2_s1075 : ck_Sum := op_os 22 0 7
theorem p2_s1075_s {X : Int → Int} {LX : Nat} : ck_Ok p2_O X LX 319 p2_s1075 := op_open (by decide) (by decide) (by decide +kernel)
set_option maxRecDepth 100000 in
/-- GlacierMailModel.open -/
noncomputable def p2_s1076 : ck_Sum := ((9, 0, 0), 245, [.inr (.inr (.inl 226)), .inl (ck_one 22)], ([], [], zl176), ([(226, 0, 0), (226, 6, 6), (226, 17, 23), (226, 26, 26), (226, 29, 30), (227, 14, 14), (227, 278, 279), (227, 323, 394), (230, 0, 4739), (233, 0, 399), (235, 0, 29699), (236, 0, 299), (237, 0, 299)], []), [(.inr (some (.inl (ck_one 0))), 245, ([], [], zl177)), (.inr (some (.inl ((-299), 299, []))), 245, ([], [], [(227, 278, 278, (0, 7, [])), (227, 274, 274, (0, 7, [])), (226, 6, 6, (1, 12, [(1000027, 0)])), (226, 29, 29, (0, 299, [])), (227, 273, 273, (0, 7, [])), (226, 0, 0, ck_one 0)]))])
set_option maxRecDepth 100000 in
theorem p2_s1076_s {X : Int → Int} {LX : Nat} : ck_Ok p2_O X LX 318 p2_s1076 := ck_okq (cuts := []) (f := 142) ⟨p2_nmu, ck_E1 (ck_S1 p2_s1067_s ck_S0) (ck_E1 (ck_S1 p2_s241_s (ck_S1 p2_s242_s (ck_S1 p2_s244_s (ck_S1 p2_s243_s ck_S0)))) (ck_E1 (ck_S1 p2_s1071_s ck_S0) (ck_E1 (ck_S1 p2_s553_s ck_S0) (ck_E1 (ck_S1 p2_s1072_s (ck_S1 p2_s1073_s ck_S0)) (ck_E1 (ck_S1 p2_s1074_s (ck_S1 p2_s1075_s ck_S0)) (ck_E1 (ck_S1 p2_s190_s ck_S0) ck_E0))))))⟩ (by decide +kernel)
set_option maxRecDepth 100000 in
/-- GlacierMailModel.in -/
noncomputable def p2_s1077 : ck_Sum := ((0, 0, 0), 245, [.inl (ck_one 23), .inl (ck_one 0), .inl ((-1), 23, [])], ([], [], []), ([], []), [(.inr (some (.inl (ck_one 0))), 245, ([], [], [])), (.inr (some (.inl (ck_one 1))), 245, ([], [], []))])
set_option maxRecDepth 100000 in
theorem p2_s1077_s {X : Int → Int} {LX : Nat} : ck_Ok p2_O X LX 286 p2_s1077 := ck_okq (cuts := []) (f := 88) ⟨p2_nmu, ck_E0⟩ (by decide +kernel)
set_option maxRecDepth 100000 in
/-- GlacierMailModel.noLetter -/
noncomputable def p2_s1078 : ck_Sum := ((1, 0, 0), 245, [.inr (.inr (.inl 226)), .inl (ck_one 23)], ([], [], [(227, 4, 4, (0, 24, [(22, 0)]))]), ([], []), [(.inr (some (.inl (ck_one 1))), 245, ([], [], [])), (.inr (some (.inl (ck_one 0))), 245, ([], [], []))])
set_option maxRecDepth 100000 in
theorem p2_s1078_s {X : Int → Int} {LX : Nat} : ck_Ok p2_O X LX 309 p2_s1078 := ck_okq (cuts := []) (f := 92) ⟨p2_nmu, ck_E1 (ck_S1 p2_s176_s ck_S0) (ck_E1 (ck_S1 p2_s1077_s ck_S0) ck_E0)⟩ (by decide +kernel)
set_option maxRecDepth 100000 in
/-- GlacierMailModel.ofLetter -/
noncomputable def p2_s1079 : ck_Sum := ((0, 0, 0), 245, [.inr (.inr (.inl 226)), .inl (ck_one 23), .inl (ck_one 0)], ([], [], []), ([], []), [(.inr (some (.inl (ck_one (-1)))), 245, ([], [], [(227, 280, 280, ck_one (-1))])), (.inr (some (.inl (0, 7, []))), 245, ([], [], [(227, 280, 280, (0, 7, []))]))])
set_option maxRecDepth 100000 in
theorem p2_s1079_s {X : Int → Int} {LX : Nat} : ck_Ok p2_O X LX 301 p2_s1079 := ck_okq (cuts := []) (f := 92) ⟨p2_nmu, ck_E0⟩ (by decide +kernel)
set_option maxRecDepth 100000 in
/-- GlacierMailModel.isRock -/
noncomputable def p2_s1080 : ck_Sum := ((1, 0, 0), 245, [.inr (.inr (.inl 226)), .inl (ck_one 23)], ([], [], []), ([], []), [(.inr (some (.inl (ck_one 1))), 245, ([], [], [(227, 280, 280, ck_one (-1))])), (.inr (some (.inl (ck_one 0))), 245, ([], [], [(227, 280, 280, (0, 7, []))]))])
set_option maxRecDepth 100000 in
theorem p2_s1080_s {X : Int → Int} {LX : Nat} : ck_Ok p2_O X LX 303 p2_s1080 := ck_okq (cuts := []) (f := 86) ⟨p2_nmu, ck_E1 (ck_S1 p2_s1079_s ck_S0) ck_E0⟩ (by decide +kernel)
end
/-! 78r80a12.sf -/
section
/-! EVERY CALL ENDS, whatever was done before (laid by wip/am/p2k.py). -/
set_option maxRecDepth 100000 in
/-- GlacierMailModel.ofLetter -/
noncomputable def p2_s1081 : ck_Sum := ((0, 0, 0), 245, [.inr (.inr (.inl 226)), .inl (ck_one 23), .inl (ck_one 5)], ([], [], []), ([], []), [(.inr (some (.inl (ck_one (-1)))), 245, ([], [], [(227, 285, 285, ck_one (-1))])), (.inr (some (.inl (0, 7, []))), 245, ([], [], [(227, 285, 285, (0, 7, []))]))])
set_option maxRecDepth 100000 in
theorem p2_s1081_s {X : Int → Int} {LX : Nat} : ck_Ok p2_O X LX 301 p2_s1081 := ck_okq (cuts := []) (f := 92) ⟨p2_nmu, ck_E0⟩ (by decide +kernel)
set_option maxRecDepth 100000 in
/-- GlacierMailModel.isWaiting -/
noncomputable def p2_s1082 : ck_Sum := ((8, 0, 0), 245, [.inr (.inr (.inl 226)), .inl (ck_one 23)], ([], [], zl83), (zl81, []), [(.inr (some (.inl (ck_one 0))), 245, ([], [], [])), (.inr (some (.inl (ck_one 1))), 245, ([], [], [(226, 29, 29, (0, 299, [])), (227, 285, 285, ck_one (-1)), (227, 280, 280, (0, 7, []))]))])
set_option maxRecDepth 100000 in
theorem p2_s1082_s {X : Int → Int} {LX : Nat} : ck_Ok p2_O X LX 302 p2_s1082 := ck_okq (cuts := []) (f := 114) ⟨p2_nmu, ck_E1 (ck_S1 p2_s1080_s ck_S0) (ck_E1 (ck_S1 p2_s1081_s ck_S0) (ck_E1 (ck_S1 p2_s381_s ck_S0) (ck_E1 (ck_S1 p2_s190_s ck_S0) ck_E0)))⟩ (by decide +kernel)
set_option maxRecDepth 100000 in
/-- GlacierMailModel.ofLetter -/
noncomputable def p2_s1083 : ck_Sum := ((0, 0, 0), 245, [.inr (.inr (.inl 226)), .inl (ck_one 23), .inl (ck_one 1)], ([], [], []), ([], []), [(.inr (some (.inl (ck_one (-1)))), 245, ([], [], [(227, 281, 281, ck_one (-1))])), (.inr (some (.inl (0, 7, []))), 245, ([], [], [(227, 281, 281, (0, 7, []))]))])
set_option maxRecDepth 100000 in
theorem p2_s1083_s {X : Int → Int} {LX : Nat} : ck_Ok p2_O X LX 301 p2_s1083 := ck_okq (cuts := []) (f := 92) ⟨p2_nmu, ck_E0⟩ (by decide +kernel)
set_option maxRecDepth 100000 in
/-- GlacierMailModel.ofLetter -/
noncomputable def p2_s1084 : ck_Sum := ((0, 0, 0), 245, [.inr (.inr (.inl 226)), .inl (ck_one 23), .inl (ck_one 3)], ([], [], []), ([], []), [(.inr (some (.inl (0, 299, []))), 245, ([], [], []))])
set_option maxRecDepth 100000 in
theorem p2_s1084_s {X : Int → Int} {LX : Nat} : ck_Ok p2_O X LX 301 p2_s1084 := ck_okq (cuts := []) (f := 92) ⟨p2_nmu, ck_E0⟩ (by decide +kernel)
/-- GlacierMailModel.opens -/
noncomputable def p2_s1085 : ck_Sum := op_os0 23 (.inl (ck_one (-1))) 0 7 (-1) (-1)
theorem p2_s1085_s {X : Int → Int} {LX : Nat} : ck_Ok p2_O X LX 319 p2_s1085 := op_none (by decide) (by decide) (by decide)
/-- GlacierMailModel.opens -/
noncomputable def p2_s1086 : ck_Sum := op_os 23 0 7
theorem p2_s1086_s {X : Int → Int} {LX : Nat} : ck_Ok p2_O X LX 319 p2_s1086 := op_open (by decide) (by decide) (by decide +kernel)
set_option maxRecDepth 100000 in
/-- GlacierMailModel.open -/
noncomputable def p2_s1087 : ck_Sum := ((9, 0, 0), 245, [.inr (.inr (.inl 226)), .inl (ck_one 23)], ([], [], zl176), ([(226, 0, 0), (226, 6, 6), (226, 17, 23), (226, 26, 26), (226, 29, 30), (227, 14, 14), (227, 285, 286), (227, 323, 394), (230, 0, 4739), (233, 0, 399), (235, 0, 29699), (236, 0, 299), (237, 0, 299)], []), [(.inr (some (.inl (ck_one 0))), 245, ([], [], zl177)), (.inr (some (.inl ((-299), 299, []))), 245, ([], [], [(227, 285, 285, (0, 7, [])), (227, 281, 281, (0, 7, [])), (226, 6, 6, (1, 12, [(1000027, 0)])), (226, 29, 29, (0, 299, [])), (227, 280, 280, (0, 7, [])), (226, 0, 0, ck_one 0)]))])
set_option maxRecDepth 100000 in
theorem p2_s1087_s {X : Int → Int} {LX : Nat} : ck_Ok p2_O X LX 318 p2_s1087 := ck_okq (cuts := []) (f := 142) ⟨p2_nmu, ck_E1 (ck_S1 p2_s1078_s ck_S0) (ck_E1 (ck_S1 p2_s241_s (ck_S1 p2_s242_s (ck_S1 p2_s244_s (ck_S1 p2_s243_s ck_S0)))) (ck_E1 (ck_S1 p2_s1082_s ck_S0) (ck_E1 (ck_S1 p2_s553_s ck_S0) (ck_E1 (ck_S1 p2_s1083_s (ck_S1 p2_s1084_s ck_S0)) (ck_E1 (ck_S1 p2_s1085_s (ck_S1 p2_s1086_s ck_S0)) (ck_E1 (ck_S1 p2_s190_s ck_S0) ck_E0))))))⟩ (by decide +kernel)
set_option maxRecDepth 100000 in
/-- GlacierMail.years -/
noncomputable def p2_s1088 : ck_Sum := ((6, 1, 6), 245, [.inr (.inr (.inl 1)), .inl ((-2147483648), 0, [])], ([], [], []), ([], []), [(.inl 0, 245, ([], [], []))])
set_option maxRecDepth 100000 in
theorem p2_s1088_s {X : Int → Int} {LX : Nat} : ck_Ok p2_O X LX 161 p2_s1088 := ck_okq (cuts := []) (f := 78) ⟨p2_nmu, ck_E0⟩ (by decide +kernel)
set_option maxRecDepth 100000 in
/-- GlacierMail.years -/
noncomputable def p2_s1089 : ck_Sum := ((6, 1, 6), 245, [.inr (.inr (.inl 1)), .inl (51, 2147483647, [])], ([], [], []), ([], []), [(.inl 0, 245, ([], [], []))])
set_option maxRecDepth 100000 in
theorem p2_s1089_s {X : Int → Int} {LX : Nat} : ck_Ok p2_O X LX 161 p2_s1089 := ck_okq (cuts := []) (f := 84) ⟨p2_nmu, ck_E0⟩ (by decide +kernel)
set_option maxRecDepth 100000 in
/-- GlacierMail$Ice.mayOpen -/
noncomputable def p2_s1090 : ck_Sum := ((0, 0, 0), 245, [.inr (.inr (.inl 200)), .inl (0, 7, []), .inl ((-1), 98, []), .inl ((-299), 300, []), .inl ((-2147483648), 299, [])], ([], [(3, 8, 0)], []), ([], []), [(.inr (some (.inl (ck_one 0))), 245, ([], [], []))])
set_option maxRecDepth 100000 in
theorem p2_s1090_s {X : Int → Int} {LX : Nat} : ck_Ok p2_O X LX 164 p2_s1090 := ck_okq (cuts := []) (f := 82) ⟨p2_nmu, ck_E0⟩ (by decide +kernel)
set_option maxRecDepth 100000 in
/-- GlacierMail.openerOf -/
noncomputable def p2_s1091 : ck_Sum := ((1, 0, 0), 245, [.inr (.inr (.inl 1)), .inl (0, 23, [])], ([], [(3, 8, 0)], [(3, 6, 6, (0, 299, [(10, 0)]))]), ([], []), [(.inr (some (.inl ((-1), 299, []))), 245, ([], [], []))])
set_option maxRecDepth 100000 in
theorem p2_s1091_s {X : Int → Int} {LX : Nat} : ck_Ok p2_O X LX 163 p2_s1091 := ck_okq (cuts := [(69, [some (.inr (.inr (.inl 1))), some (.inl (0, 23, [])), some (.inl ((-1), 299, [])), some (.inl ((-1), 299, [])), some (.inl ((-299), 300, [])), some (.inl (0, 9, []))], ([], [(3, 8, 0)], [(3, 6, 6, (0, 299, [(10, 0)]))]), 100, .inl 5, true)]) (f := 234) ⟨p2_nmu, ck_E1 (ck_S1 p2_s335_s (ck_S1 p2_s356_s (ck_S1 p2_s350_s ck_S0))) (ck_E1 (ck_S1 p2_s320_s ck_S0) (ck_E1 (ck_S1 p2_s1090_s ck_S0) ck_E0))⟩ (by decide +kernel)
set_option maxRecDepth 100000 in
/-- GlacierMail$Rows.put -/
noncomputable def p2_s1092 : ck_Sum := ((0, 0, 0), 245, [.inr (.inr (.inl 10)), .inl (0, 23, []), .inl (ck_one 5), .inl (0, 299, [])], ([], [], []), (zl137, []), [(.inr none, 245, ([], [], []))])
set_option maxRecDepth 100000 in
theorem p2_s1092_s {X : Int → Int} {LX : Nat} : ck_Ok p2_O X LX 45 p2_s1092 := ck_okq (cuts := []) (f := 116) ⟨p2_nmu, ck_E0⟩ (by decide +kernel)
set_option maxRecDepth 100000 in
/-- GlacierMail$Rows.put -/
noncomputable def p2_s1093 : ck_Sum := ((0, 0, 0), 245, [.inr (.inr (.inl 10)), .inl (0, 23, []), .inl (ck_one 6), .inl (0, 299, [])], ([], [], []), (zl138, []), [(.inr none, 245, ([], [], []))])
set_option maxRecDepth 100000 in
theorem p2_s1093_s {X : Int → Int} {LX : Nat} : ck_Ok p2_O X LX 45 p2_s1093 := ck_okq (cuts := []) (f := 116) ⟨p2_nmu, ck_E0⟩ (by decide +kernel)
set_option maxRecDepth 100000 in
/-- GlacierMail$Rows.put -/
noncomputable def p2_s1094 : ck_Sum := ((0, 0, 0), 245, [.inr (.inr (.inl 14)), .inl (0, 23, []), .inl (ck_one 1), .inl (0, 23, [])], ([], [], []), (zl173, []), [(.inr none, 245, ([], [], []))])
set_option maxRecDepth 100000 in
theorem p2_s1094_s {X : Int → Int} {LX : Nat} : ck_Ok p2_O X LX 45 p2_s1094 := ck_okq (cuts := []) (f := 116) ⟨p2_nmu, ck_E0⟩ (by decide +kernel)
set_option maxRecDepth 100000 in
/-- GlacierMail$Rows.put -/
noncomputable def p2_s1095 : ck_Sum := ((0, 0, 0), 245, [.inr (.inr (.inl 14)), .inl (0, 23, []), .inl (ck_one 2), .inl (0, 299, [])], ([], [], []), (zl174, []), [(.inr none, 245, ([], [], []))])
set_option maxRecDepth 100000 in
theorem p2_s1095_s {X : Int → Int} {LX : Nat} : ck_Ok p2_O X LX 45 p2_s1095 := ck_okq (cuts := []) (f := 116) ⟨p2_nmu, ck_E0⟩ (by decide +kernel)
set_option maxRecDepth 100000 in
/-- GlacierMail$Rows.put -/
noncomputable def p2_s1096 : ck_Sum := ((0, 0, 0), 245, [.inr (.inr (.inl 14)), .inl (ck_one (-1)), .inl (ck_one 1), .inl (0, 23, [])], ([], [], []), ([], []), [(.inr none, 245, ([], [], []))])
set_option maxRecDepth 100000 in
theorem p2_s1096_s {X : Int → Int} {LX : Nat} : ck_Ok p2_O X LX 45 p2_s1096 := ck_okq (cuts := []) (f := 76) ⟨p2_nmu, ck_E0⟩ (by decide +kernel)
set_option maxRecDepth 100000 in
/-- GlacierMail$Rows.put -/
noncomputable def p2_s1097 : ck_Sum := ((0, 0, 0), 245, [.inr (.inr (.inl 14)), .inl (ck_one (-1)), .inl (ck_one 2), .inl (0, 299, [])], ([], [], []), ([], []), [(.inr none, 245, ([], [], []))])
set_option maxRecDepth 100000 in
theorem p2_s1097_s {X : Int → Int} {LX : Nat} : ck_Ok p2_O X LX 45 p2_s1097 := ck_okq (cuts := []) (f := 76) ⟨p2_nmu, ck_E0⟩ (by decide +kernel)
set_option maxRecDepth 100000 in
/-- GlacierMail$State.openLetter -/
noncomputable def p2_s1098 : ck_Sum := ((1, 0, 0), 245, [.inr (.inr (.inl 3)), .inl (0, 23, []), .inl (0, 299, [])], ([], [], [(3, 6, 6, (0, 299, [(10, 0)]))]), (zl178, []), [(.inr none, 245, ([], [], [(14, 3, 3, (1, 24, []))]))])
set_option maxRecDepth 100000 in
theorem p2_s1098_s {X : Int → Int} {LX : Nat} : ck_Ok p2_O X LX 159 p2_s1098 := ck_okq (cuts := []) (f := 144) ⟨p2_nmu, ck_E1 (ck_S1 p2_s1092_s (ck_S1 p2_s1093_s (ck_S1 p2_s583_s (ck_S1 p2_s1094_s (ck_S1 p2_s1095_s (ck_S1 p2_s586_s (ck_S1 p2_s1096_s (ck_S1 p2_s1097_s ck_S0)))))))) (ck_E1 (ck_S1 p2_s589_s ck_S0) ck_E0)⟩ (by decide +kernel)
set_option maxRecDepth 100000 in
/-- GlacierMail.oneYearMore -/
noncomputable def p2_s1099 : ck_Sum := ((3, 0, 0), 245, [.inr (.inr (.inl 1))], ([], [(3, 8, 0)], [(3, 6, 6, (0, 298, [(10, 0)]))]), ([(3, 6, 6), (11, 5, 6), (11, 12, 13), (11, 19, 20), (11, 26, 27), (11, 33, 34), (11, 40, 41), (11, 47, 48), (11, 54, 55), (11, 61, 62), (11, 68, 69), (11, 75, 76), (11, 82, 83), (11, 89, 90), (11, 96, 97), (11, 103, 104), (11, 110, 111), (11, 117, 118), (11, 124, 125), (11, 131, 132), (11, 138, 139), (11, 145, 146), (11, 152, 153), (11, 159, 160), (11, 166, 167), (14, 3, 3), (15, 0, 71)], []), [(.inr (some (.inl ((-2147483648), 2147483647, []))), 245, ([], [], [(3, 6, 6, (1, 299, [(10, 1)]))]))])
set_option maxRecDepth 100000 in
theorem p2_s1099_s {X : Int → Int} {LX : Nat} : ck_Ok p2_O X LX 162 p2_s1099 := ck_okq (cuts := [(17, [some (.inr (.inr (.inl 1))), some (.inl ((-2147483648), 2147483647, [])), some (.inl (0, 24, [])), none], ([], [(3, 8, 0)], [(3, 6, 6, (1, 299, [(10, 1)]))]), 100, .inl 2, true)]) (f := 194) ⟨p2_nmu, ck_E1 (ck_S1 p2_s331_s ck_S0) (ck_E1 (ck_S1 p2_s352_s ck_S0) (ck_E1 (ck_S1 p2_s1091_s ck_S0) (ck_E1 (ck_S1 p2_s1098_s ck_S0) ck_E0)))⟩ (by decide +kernel)
set_option maxRecDepth 100000 in
/-- GlacierMail.years, any number -/
noncomputable def p2_yy : ck_Sum := ((6, 1, 6), 245, [.inr (.inr (.inl 1)), .inl (1, 50, [])], ([], zl102, [(3, 6, 6, (0, 299, [(10, 0)]))]), ([(1, 15, 15), (3, 6, 6), (11, 5, 6), (11, 12, 13), (11, 19, 20), (11, 26, 27), (11, 33, 34), (11, 40, 41), (11, 47, 48), (11, 54, 55), (11, 61, 62), (11, 68, 69), (11, 75, 76), (11, 82, 83), (11, 89, 90), (11, 96, 97), (11, 103, 104), (11, 110, 111), (11, 117, 118), (11, 124, 125), (11, 131, 132), (11, 138, 139), (11, 145, 146), (11, 152, 153), (11, 159, 160), (11, 166, 167), (14, 3, 3), (15, 0, 71), (42, 1, 2), (44, 0, 7), (45, 3, 3), (46, 0, 55), (47, 3, 3), (48, 0, 23), (49, 3, 3), (50, 0, 23), (51, 3, 3), (52, 0, 167), (53, 3, 3), (54, 0, 35), (55, 3, 3), (56, 0, 71), (57, 0, 7), (58, 3, 3), (59, 0, 55), (60, 3, 3), (61, 0, 23), (62, 3, 3), (63, 0, 23), (64, 3, 3), (65, 0, 167), (66, 3, 3), (67, 0, 35), (68, 3, 3), (69, 0, 71), (70, 0, 7), (71, 3, 3), (72, 0, 55), (73, 3, 3), (74, 0, 23), (75, 3, 3), (76, 0, 23), (77, 3, 3), (78, 0, 167), (79, 3, 3), (80, 0, 35), (81, 3, 3), (82, 0, 71), (83, 0, 7), (84, 3, 3), (85, 0, 55), (86, 3, 3), (87, 0, 23), (88, 3, 3), (89, 0, 23), (90, 3, 3), (91, 0, 167), (92, 3, 3), (93, 0, 35), (94, 3, 3), (95, 0, 71), (96, 0, 7), (97, 3, 3), (98, 0, 55), (99, 3, 3), (100, 0, 23), (101, 3, 3), (102, 0, 23), (103, 3, 3), (104, 0, 167), (105, 3, 3), (106, 0, 35), (107, 3, 3), (108, 0, 71), (109, 0, 7), (110, 3, 3), (111, 0, 55), (112, 3, 3), (113, 0, 23), (114, 3, 3), (115, 0, 23), (116, 3, 3), (117, 0, 167), (118, 3, 3), (119, 0, 35), (120, 3, 3), (121, 0, 71), (122, 0, 7), (123, 3, 3), (124, 0, 55), (125, 3, 3), (126, 0, 23), (127, 3, 3), (128, 0, 23), (129, 3, 3), (130, 0, 167), (131, 3, 3), (132, 0, 35), (133, 3, 3), (134, 0, 71), (135, 0, 7), (136, 3, 3), (137, 0, 55), (138, 3, 3), (139, 0, 23), (140, 3, 3), (141, 0, 23), (142, 3, 3), (143, 0, 167), (144, 3, 3), (145, 0, 35), (146, 3, 3), (147, 0, 71), (148, 0, 7), (149, 3, 3), (150, 0, 55), (151, 3, 3), (152, 0, 23), (153, 3, 3), (154, 0, 23), (155, 3, 3), (156, 0, 167), (157, 3, 3), (158, 0, 35), (159, 3, 3), (160, 0, 71), (161, 0, 7), (162, 3, 3), (163, 0, 55), (164, 3, 3), (165, 0, 23), (166, 3, 3), (167, 0, 23), (168, 3, 3), (169, 0, 167), (170, 3, 3), (171, 0, 35), (172, 3, 3), (173, 0, 71), (174, 0, 7), (175, 3, 3), (176, 0, 55), (177, 3, 3), (178, 0, 23), (179, 3, 3), (180, 0, 23), (181, 3, 3), (182, 0, 167), (183, 3, 3), (184, 0, 35), (185, 3, 3), (186, 0, 71), (187, 0, 7), (188, 3, 3), (189, 0, 55), (190, 3, 3), (191, 0, 23), (192, 3, 3), (193, 0, 23), (194, 3, 3), (195, 0, 167), (196, 3, 3), (197, 0, 35), (198, 3, 3), (199, 0, 71), (206, 2, 8), (220, 3, 3), (221, 0, 47)], zl104), [(.inr (some (.inl ((-2147483648), 2147483647, []))), 245, ([], zl105, [])), (.inr (some (.inl ((-2147483648), 2147483647, []))), 245, ([], zl129, [])), (.inr (some (.inl ((-2147483648), 2147483647, []))), 245, ([], zl127, [])), (.inr (some (.inl ((-2147483648), 2147483647, []))), 245, ([], zl125, [])), (.inr (some (.inl ((-2147483648), 2147483647, []))), 245, ([], zl123, [])), (.inr (some (.inl ((-2147483648), 2147483647, []))), 245, ([], zl121, [])), (.inr (some (.inl ((-2147483648), 2147483647, []))), 245, ([], zl119, [])), (.inr (some (.inl ((-2147483648), 2147483647, []))), 245, ([], zl117, [])), (.inr (some (.inl ((-2147483648), 2147483647, []))), 245, ([], zl115, [])), (.inr (some (.inl ((-2147483648), 2147483647, []))), 245, ([], zl113, [])), (.inr (some (.inl ((-2147483648), 2147483647, []))), 245, ([], zl111, [])), (.inr (some (.inl ((-2147483648), 2147483647, []))), 245, ([], zl109, [])), (.inr (some (.inl ((-2147483648), 2147483647, []))), 245, ([], zl107, [])), (.inl 0, 245, ([], zl105, []))])
noncomputable def p2_yy_E : List (Nat × List ck_Sum) := [(154, [p2_s529]), (24, [p2_s349]), (162, [p2_s1099])]
noncomputable def p2_yy_RF : List (Nat × Int × Nat) := [(3, 8, 0), (44, 8, 100044), (57, 8, 100057), (70, 8, 100070), (83, 8, 100083), (96, 8, 100096), (109, 8, 100109), (122, 8, 100122), (135, 8, 100135), (148, 8, 100148), (161, 8, 100161), (174, 8, 100174), (187, 8, 100187)]
set_option maxRecDepth 100000 in
noncomputable def p2_yy_RS : List (Nat × List (Nat × Int × Nat)) := [(0, [(3, 8, 0), (44, 8, 100044), (57, 8, 100057), (70, 8, 100070), (83, 8, 100083), (96, 8, 100096), (109, 8, 100109), (122, 8, 100122), (135, 8, 100135), (148, 8, 100148), (161, 8, 100161), (174, 8, 100174), (187, 8, 100187)]), (2000000, [(3, 8, 0), (44, 8, 0), (57, 8, 100057), (70, 8, 100070), (83, 8, 100083), (96, 8, 100096), (109, 8, 100109), (122, 8, 100122), (135, 8, 100135), (148, 8, 100148), (161, 8, 100161), (174, 8, 100174), (187, 8, 100187)]), (2000001, [(3, 8, 0), (44, 8, 100044), (57, 8, 100057), (70, 8, 100070), (83, 8, 100083), (96, 8, 100096), (109, 8, 100109), (122, 8, 100122), (135, 8, 100135), (148, 8, 100148), (161, 8, 100161), (174, 8, 100174), (187, 8, 0)]), (2000002, [(3, 8, 0), (44, 8, 100044), (57, 8, 100057), (70, 8, 100070), (83, 8, 100083), (96, 8, 100096), (109, 8, 100109), (122, 8, 100122), (135, 8, 100135), (148, 8, 100148), (161, 8, 100161), (174, 8, 0), (187, 8, 100187)]), (2000003, [(3, 8, 0), (44, 8, 100044), (57, 8, 100057), (70, 8, 100070), (83, 8, 100083), (96, 8, 100096), (109, 8, 100109), (122, 8, 100122), (135, 8, 100135), (148, 8, 100148), (161, 8, 0), (174, 8, 100174), (187, 8, 100187)]), (2000004, [(3, 8, 0), (44, 8, 100044), (57, 8, 100057), (70, 8, 100070), (83, 8, 100083), (96, 8, 100096), (109, 8, 100109), (122, 8, 100122), (135, 8, 100135), (148, 8, 0), (161, 8, 100161), (174, 8, 100174), (187, 8, 100187)]), (2000005, [(3, 8, 0), (44, 8, 100044), (57, 8, 100057), (70, 8, 100070), (83, 8, 100083), (96, 8, 100096), (109, 8, 100109), (122, 8, 100122), (135, 8, 0), (148, 8, 100148), (161, 8, 100161), (174, 8, 100174), (187, 8, 100187)]), (2000006, [(3, 8, 0), (44, 8, 100044), (57, 8, 100057), (70, 8, 100070), (83, 8, 100083), (96, 8, 100096), (109, 8, 100109), (122, 8, 0), (135, 8, 100135), (148, 8, 100148), (161, 8, 100161), (174, 8, 100174), (187, 8, 100187)]), (2000007, [(3, 8, 0), (44, 8, 100044), (57, 8, 100057), (70, 8, 100070), (83, 8, 100083), (96, 8, 100096), (109, 8, 0), (122, 8, 100122), (135, 8, 100135), (148, 8, 100148), (161, 8, 100161), (174, 8, 100174), (187, 8, 100187)]), (2000008, [(3, 8, 0), (44, 8, 100044), (57, 8, 100057), (70, 8, 100070), (83, 8, 100083), (96, 8, 0), (109, 8, 100109), (122, 8, 100122), (135, 8, 100135), (148, 8, 100148), (161, 8, 100161), (174, 8, 100174), (187, 8, 100187)]), (2000009, [(3, 8, 0), (44, 8, 100044), (57, 8, 100057), (70, 8, 100070), (83, 8, 0), (96, 8, 100096), (109, 8, 100109), (122, 8, 100122), (135, 8, 100135), (148, 8, 100148), (161, 8, 100161), (174, 8, 100174), (187, 8, 100187)]), (2000010, [(3, 8, 0), (44, 8, 100044), (57, 8, 100057), (70, 8, 0), (83, 8, 100083), (96, 8, 100096), (109, 8, 100109), (122, 8, 100122), (135, 8, 100135), (148, 8, 100148), (161, 8, 100161), (174, 8, 100174), (187, 8, 100187)]), (2000011, [(3, 8, 0), (44, 8, 100044), (57, 8, 0), (70, 8, 100070), (83, 8, 100083), (96, 8, 100096), (109, 8, 100109), (122, 8, 100122), (135, 8, 100135), (148, 8, 100148), (161, 8, 100161), (174, 8, 100174), (187, 8, 100187)])]
set_option maxRecDepth 100000 in
theorem p2_yy_a : (decide (p2_yy.2.2.1.length ≤ gm_ml 161) && ck_go p2_O none [] p2_yy_E 161 p2_yy.1.1 p2_yy.2.1 p2_yy.2.2.2.2.1 p2_yy.2.2.2.2.2 [(11, yy_C0 p2_yy_RF)] 170 false [(11, yy_C0 p2_yy_RF, 1, 6, p2_yy.2.1)] p2_yy.1.2.1 p2_yy.1.2.2 0 (p2_yy.2.2.1.map some ++ List.replicate (gm_ml 161 - p2_yy.2.2.1.length) none) [] p2_yy.2.1 p2_yy.2.2.2.1) = true := by decide +kernel
set_option maxRecDepth 100000 in
theorem p2_yy_b : ck_go p2_O none [] p2_yy_E 161 p2_yy.1.1 p2_yy.2.1 p2_yy.2.2.2.2.1 p2_yy.2.2.2.2.2 [] 170 true [] 1 6 26 (yy_A (1, 50, []) none none) [] p2_yy.2.1 (yy_F p2_yy_RF (0, 299, [(10, 0)])) = true := by decide +kernel
set_option maxRecDepth 100000 in
theorem p2_yy_cu : ck_cu (p2_yy_RS.map fun p => (56, yy_C1 p.2 p.1)) = true := by decide +kernel
set_option maxRecDepth 100000 in
theorem p2_yy_c : ck_go p2_O none [] p2_yy_E 161 p2_yy.1.1 p2_yy.2.1 p2_yy.2.2.2.2.1 p2_yy.2.2.2.2.2 (p2_yy_RS.map fun p => (56, yy_C1 p.2 p.1)) 170 true (p2_yy_RS.map fun p => (56, yy_C1 p.2 p.1, 0, 0, p2_yy.2.1)) 1 6 37 (yy_A (1, 50, [(302, 0)]) none none) [] p2_yy.2.1 (yy_F p2_yy_RF (0, 298, [(10, 0), (303, 0)])) = true := by decide +kernel
set_option maxRecDepth 100000 in
theorem p2_yy_d : (p2_yy_RS.all fun p => ck_go p2_O none [] p2_yy_E 161 p2_yy.1.1 p2_yy.2.1 p2_yy.2.2.2.2.1 p2_yy.2.2.2.2.2 [(56, yy_C2 p.2)] 170 true [(56, yy_C2 p.2, 0, 0, p2_yy.2.1)] 0 0 61 (yy_A (1, 50, [(302, 0)]) (some (.inl ck_top)) (some (.inl (0, 49, [(304, 0)])))) [] p2_yy.2.1 (yy_F p.2 (0, 298, [(303, 0)])) && ck_go p2_O none [] p2_yy_E 161 p2_yy.1.1 p2_yy.2.1 p2_yy.2.2.2.2.1 p2_yy.2.2.2.2.2 [] 170 true [] 0 0 74 (yy_A (1, 50, []) (some (.inl ck_top)) none) [] p2_yy.2.1 ([], p.2, [])) = true := by decide +kernel
theorem p2_yy_s {X : Int → Int} {LX : Nat} : ck_Ok p2_O X LX 161 p2_yy := yy_s ⟨p2_nmu, ck_E1 (ck_S1 p2_s529_s ck_S0) (ck_E1 (ck_S1 p2_s349_s ck_S0) (ck_E1 (ck_S1 p2_s1099_s ck_S0) ck_E0))⟩ (by decide +kernel) (by decide +kernel) (by decide +kernel) (by decide) (by decide) (by decide) p2_yy_a p2_yy_b p2_yy_cu p2_yy_c p2_yy_d
end
