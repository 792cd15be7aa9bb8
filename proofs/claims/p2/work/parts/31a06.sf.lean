/-! EVERY CALL ENDS, whatever was done before (laid by wip/am/p2g.py). -/
set_option maxRecDepth 100000 in
/-- GlacierMail$Rows.copyFrom -/
def p2_s685 : ck_Sum := ((1, 0, 0), 245, [.inr (.inr (.inl 110)), .inr (.inr (.inl 4))], ([], [], []), ([(110, 3, 3), (111, 0, 55)], []), [(.inr none, 245, ([], [], []))])
set_option maxRecDepth 100000 in
theorem p2_s685_e : ck_ok p2_O none [] [] 58 [] 114 p2_s685 = true := by decide +kernel
theorem p2_s685_s {X : Int → Int} {LX : Nat} : ck_Ok p2_O X LX 58 p2_s685 := ck_ok_s ⟨p2_nmu, ck_E0⟩ ck_X0 ck_l0 p2_s685_e
set_option maxRecDepth 100000 in
/-- GlacierMail$Rows.copyFrom -/
def p2_s686 : ck_Sum := ((1, 0, 0), 245, [.inr (.inr (.inl 112)), .inr (.inr (.inl 6))], ([], [], []), ([(112, 3, 3), (113, 0, 23)], []), [(.inr none, 245, ([], [], []))])
set_option maxRecDepth 100000 in
theorem p2_s686_e : ck_ok p2_O none [] [] 58 [] 114 p2_s686 = true := by decide +kernel
theorem p2_s686_s {X : Int → Int} {LX : Nat} : ck_Ok p2_O X LX 58 p2_s686 := ck_ok_s ⟨p2_nmu, ck_E0⟩ ck_X0 ck_l0 p2_s686_e
set_option maxRecDepth 100000 in
/-- GlacierMail$Rows.copyFrom -/
def p2_s687 : ck_Sum := ((1, 0, 0), 245, [.inr (.inr (.inl 114)), .inr (.inr (.inl 8))], ([], [], []), ([(114, 3, 3), (115, 0, 23)], []), [(.inr none, 245, ([], [], []))])
set_option maxRecDepth 100000 in
theorem p2_s687_e : ck_ok p2_O none [] [] 58 [] 114 p2_s687 = true := by decide +kernel
theorem p2_s687_s {X : Int → Int} {LX : Nat} : ck_Ok p2_O X LX 58 p2_s687 := ck_ok_s ⟨p2_nmu, ck_E0⟩ ck_X0 ck_l0 p2_s687_e
set_option maxRecDepth 100000 in
/-- GlacierMail$Rows.copyFrom -/
def p2_s688 : ck_Sum := ((1, 0, 0), 245, [.inr (.inr (.inl 116)), .inr (.inr (.inl 10))], ([], [], []), ([(116, 3, 3), (117, 0, 167)], []), [(.inr none, 245, ([], [], []))])
set_option maxRecDepth 100000 in
theorem p2_s688_e : ck_ok p2_O none [] [] 58 [] 114 p2_s688 = true := by decide +kernel
theorem p2_s688_s {X : Int → Int} {LX : Nat} : ck_Ok p2_O X LX 58 p2_s688 := ck_ok_s ⟨p2_nmu, ck_E0⟩ ck_X0 ck_l0 p2_s688_e
set_option maxRecDepth 100000 in
/-- GlacierMail$Rows.copyFrom -/
def p2_s689 : ck_Sum := ((1, 0, 0), 245, [.inr (.inr (.inl 118)), .inr (.inr (.inl 12))], ([], [], []), ([(118, 3, 3), (119, 0, 35)], []), [(.inr none, 245, ([], [], []))])
set_option maxRecDepth 100000 in
theorem p2_s689_e : ck_ok p2_O none [] [] 58 [] 114 p2_s689 = true := by decide +kernel
theorem p2_s689_s {X : Int → Int} {LX : Nat} : ck_Ok p2_O X LX 58 p2_s689 := ck_ok_s ⟨p2_nmu, ck_E0⟩ ck_X0 ck_l0 p2_s689_e
set_option maxRecDepth 100000 in
/-- GlacierMail$Rows.copyFrom -/
def p2_s690 : ck_Sum := ((1, 0, 0), 245, [.inr (.inr (.inl 120)), .inr (.inr (.inl 14))], ([], [], []), ([(120, 3, 3), (121, 0, 71)], []), [(.inr none, 245, ([], [], []))])
set_option maxRecDepth 100000 in
theorem p2_s690_e : ck_ok p2_O none [] [] 58 [] 114 p2_s690 = true := by decide +kernel
theorem p2_s690_s {X : Int → Int} {LX : Nat} : ck_Ok p2_O X LX 58 p2_s690 := ck_ok_s ⟨p2_nmu, ck_E0⟩ ck_X0 ck_l0 p2_s690_e
set_option maxRecDepth 100000 in
/-- GlacierMail$State.copyFrom -/
def p2_s691 : ck_Sum := ((2, 0, 0), 245, [.inr (.inr (.inl 109)), .inr (.inr (.inl 3))], ([], [(3, 8, 0), (109, 8, 100109)], [(3, 6, 6, (0, 299, [(10, 0)]))]), ([(109, 0, 7), (110, 3, 3), (111, 0, 55), (112, 3, 3), (113, 0, 23), (114, 3, 3), (115, 0, 23), (116, 3, 3), (117, 0, 167), (118, 3, 3), (119, 0, 35), (120, 3, 3), (121, 0, 71)], [(109, 8)]), [(.inr none, 245, ([], [(109, 8, 0)], [(109, 6, 6, (0, 299, [(10, 0)]))]))])
set_option maxRecDepth 100000 in
theorem p2_s691_e : ck_ok p2_O none [] [(58, [p2_s685, p2_s686, p2_s687, p2_s688, p2_s689, p2_s690])] 57 [] 204 p2_s691 = true := by decide +kernel
theorem p2_s691_s {X : Int → Int} {LX : Nat} : ck_Ok p2_O X LX 57 p2_s691 := ck_ok_s ⟨p2_nmu, ck_E1 (ck_S1 p2_s685_s (ck_S1 p2_s686_s (ck_S1 p2_s687_s (ck_S1 p2_s688_s (ck_S1 p2_s689_s (ck_S1 p2_s690_s ck_S0)))))) ck_E0⟩ ck_X0 ck_l0 p2_s691_e
set_option maxRecDepth 100000 in
/-- GlacierMail$Rows.copyFrom -/
def p2_s692 : ck_Sum := ((1, 0, 0), 245, [.inr (.inr (.inl 123)), .inr (.inr (.inl 4))], ([], [], []), ([(123, 3, 3), (124, 0, 55)], []), [(.inr none, 245, ([], [], []))])
set_option maxRecDepth 100000 in
theorem p2_s692_e : ck_ok p2_O none [] [] 58 [] 114 p2_s692 = true := by decide +kernel
theorem p2_s692_s {X : Int → Int} {LX : Nat} : ck_Ok p2_O X LX 58 p2_s692 := ck_ok_s ⟨p2_nmu, ck_E0⟩ ck_X0 ck_l0 p2_s692_e
set_option maxRecDepth 100000 in
/-- GlacierMail$Rows.copyFrom -/
def p2_s693 : ck_Sum := ((1, 0, 0), 245, [.inr (.inr (.inl 125)), .inr (.inr (.inl 6))], ([], [], []), ([(125, 3, 3), (126, 0, 23)], []), [(.inr none, 245, ([], [], []))])
set_option maxRecDepth 100000 in
theorem p2_s693_e : ck_ok p2_O none [] [] 58 [] 114 p2_s693 = true := by decide +kernel
theorem p2_s693_s {X : Int → Int} {LX : Nat} : ck_Ok p2_O X LX 58 p2_s693 := ck_ok_s ⟨p2_nmu, ck_E0⟩ ck_X0 ck_l0 p2_s693_e
set_option maxRecDepth 100000 in
/-- GlacierMail$Rows.copyFrom -/
def p2_s694 : ck_Sum := ((1, 0, 0), 245, [.inr (.inr (.inl 127)), .inr (.inr (.inl 8))], ([], [], []), ([(127, 3, 3), (128, 0, 23)], []), [(.inr none, 245, ([], [], []))])
set_option maxRecDepth 100000 in
theorem p2_s694_e : ck_ok p2_O none [] [] 58 [] 114 p2_s694 = true := by decide +kernel
theorem p2_s694_s {X : Int → Int} {LX : Nat} : ck_Ok p2_O X LX 58 p2_s694 := ck_ok_s ⟨p2_nmu, ck_E0⟩ ck_X0 ck_l0 p2_s694_e
set_option maxRecDepth 100000 in
/-- GlacierMail$Rows.copyFrom -/
def p2_s695 : ck_Sum := ((1, 0, 0), 245, [.inr (.inr (.inl 129)), .inr (.inr (.inl 10))], ([], [], []), ([(129, 3, 3), (130, 0, 167)], []), [(.inr none, 245, ([], [], []))])
set_option maxRecDepth 100000 in
theorem p2_s695_e : ck_ok p2_O none [] [] 58 [] 114 p2_s695 = true := by decide +kernel
theorem p2_s695_s {X : Int → Int} {LX : Nat} : ck_Ok p2_O X LX 58 p2_s695 := ck_ok_s ⟨p2_nmu, ck_E0⟩ ck_X0 ck_l0 p2_s695_e
set_option maxRecDepth 100000 in
/-- GlacierMail$Rows.copyFrom -/
def p2_s696 : ck_Sum := ((1, 0, 0), 245, [.inr (.inr (.inl 131)), .inr (.inr (.inl 12))], ([], [], []), ([(131, 3, 3), (132, 0, 35)], []), [(.inr none, 245, ([], [], []))])
set_option maxRecDepth 100000 in
theorem p2_s696_e : ck_ok p2_O none [] [] 58 [] 114 p2_s696 = true := by decide +kernel
theorem p2_s696_s {X : Int → Int} {LX : Nat} : ck_Ok p2_O X LX 58 p2_s696 := ck_ok_s ⟨p2_nmu, ck_E0⟩ ck_X0 ck_l0 p2_s696_e
set_option maxRecDepth 100000 in
/-- GlacierMail$Rows.copyFrom -/
def p2_s697 : ck_Sum := ((1, 0, 0), 245, [.inr (.inr (.inl 133)), .inr (.inr (.inl 14))], ([], [], []), ([(133, 3, 3), (134, 0, 71)], []), [(.inr none, 245, ([], [], []))])
set_option maxRecDepth 100000 in
theorem p2_s697_e : ck_ok p2_O none [] [] 58 [] 114 p2_s697 = true := by decide +kernel
theorem p2_s697_s {X : Int → Int} {LX : Nat} : ck_Ok p2_O X LX 58 p2_s697 := ck_ok_s ⟨p2_nmu, ck_E0⟩ ck_X0 ck_l0 p2_s697_e
set_option maxRecDepth 100000 in
/-- GlacierMail$State.copyFrom -/
def p2_s698 : ck_Sum := ((2, 0, 0), 245, [.inr (.inr (.inl 122)), .inr (.inr (.inl 3))], ([], [(3, 8, 0), (122, 8, 100122)], [(3, 6, 6, (0, 299, [(10, 0)]))]), ([(122, 0, 7), (123, 3, 3), (124, 0, 55), (125, 3, 3), (126, 0, 23), (127, 3, 3), (128, 0, 23), (129, 3, 3), (130, 0, 167), (131, 3, 3), (132, 0, 35), (133, 3, 3), (134, 0, 71)], [(122, 8)]), [(.inr none, 245, ([], [(122, 8, 0)], [(122, 6, 6, (0, 299, [(10, 0)]))]))])
set_option maxRecDepth 100000 in
theorem p2_s698_e : ck_ok p2_O none [] [(58, [p2_s692, p2_s693, p2_s694, p2_s695, p2_s696, p2_s697])] 57 [] 204 p2_s698 = true := by decide +kernel
theorem p2_s698_s {X : Int → Int} {LX : Nat} : ck_Ok p2_O X LX 57 p2_s698 := ck_ok_s ⟨p2_nmu, ck_E1 (ck_S1 p2_s692_s (ck_S1 p2_s693_s (ck_S1 p2_s694_s (ck_S1 p2_s695_s (ck_S1 p2_s696_s (ck_S1 p2_s697_s ck_S0)))))) ck_E0⟩ ck_X0 ck_l0 p2_s698_e
set_option maxRecDepth 100000 in
/-- GlacierMail$Rows.copyFrom -/
def p2_s699 : ck_Sum := ((1, 0, 0), 245, [.inr (.inr (.inl 136)), .inr (.inr (.inl 4))], ([], [], []), ([(136, 3, 3), (137, 0, 55)], []), [(.inr none, 245, ([], [], []))])
set_option maxRecDepth 100000 in
theorem p2_s699_e : ck_ok p2_O none [] [] 58 [] 114 p2_s699 = true := by decide +kernel
theorem p2_s699_s {X : Int → Int} {LX : Nat} : ck_Ok p2_O X LX 58 p2_s699 := ck_ok_s ⟨p2_nmu, ck_E0⟩ ck_X0 ck_l0 p2_s699_e
set_option maxRecDepth 100000 in
/-- GlacierMail$Rows.copyFrom -/
def p2_s700 : ck_Sum := ((1, 0, 0), 245, [.inr (.inr (.inl 138)), .inr (.inr (.inl 6))], ([], [], []), ([(138, 3, 3), (139, 0, 23)], []), [(.inr none, 245, ([], [], []))])
set_option maxRecDepth 100000 in
theorem p2_s700_e : ck_ok p2_O none [] [] 58 [] 114 p2_s700 = true := by decide +kernel
theorem p2_s700_s {X : Int → Int} {LX : Nat} : ck_Ok p2_O X LX 58 p2_s700 := ck_ok_s ⟨p2_nmu, ck_E0⟩ ck_X0 ck_l0 p2_s700_e
set_option maxRecDepth 100000 in
/-- GlacierMail$Rows.copyFrom -/
def p2_s701 : ck_Sum := ((1, 0, 0), 245, [.inr (.inr (.inl 140)), .inr (.inr (.inl 8))], ([], [], []), ([(140, 3, 3), (141, 0, 23)], []), [(.inr none, 245, ([], [], []))])
set_option maxRecDepth 100000 in
theorem p2_s701_e : ck_ok p2_O none [] [] 58 [] 114 p2_s701 = true := by decide +kernel
theorem p2_s701_s {X : Int → Int} {LX : Nat} : ck_Ok p2_O X LX 58 p2_s701 := ck_ok_s ⟨p2_nmu, ck_E0⟩ ck_X0 ck_l0 p2_s701_e
set_option maxRecDepth 100000 in
/-- GlacierMail$Rows.copyFrom -/
def p2_s702 : ck_Sum := ((1, 0, 0), 245, [.inr (.inr (.inl 142)), .inr (.inr (.inl 10))], ([], [], []), ([(142, 3, 3), (143, 0, 167)], []), [(.inr none, 245, ([], [], []))])
set_option maxRecDepth 100000 in
theorem p2_s702_e : ck_ok p2_O none [] [] 58 [] 114 p2_s702 = true := by decide +kernel
theorem p2_s702_s {X : Int → Int} {LX : Nat} : ck_Ok p2_O X LX 58 p2_s702 := ck_ok_s ⟨p2_nmu, ck_E0⟩ ck_X0 ck_l0 p2_s702_e
set_option maxRecDepth 100000 in
/-- GlacierMail$Rows.copyFrom -/
def p2_s703 : ck_Sum := ((1, 0, 0), 245, [.inr (.inr (.inl 144)), .inr (.inr (.inl 12))], ([], [], []), ([(144, 3, 3), (145, 0, 35)], []), [(.inr none, 245, ([], [], []))])
set_option maxRecDepth 100000 in
theorem p2_s703_e : ck_ok p2_O none [] [] 58 [] 114 p2_s703 = true := by decide +kernel
theorem p2_s703_s {X : Int → Int} {LX : Nat} : ck_Ok p2_O X LX 58 p2_s703 := ck_ok_s ⟨p2_nmu, ck_E0⟩ ck_X0 ck_l0 p2_s703_e
set_option maxRecDepth 100000 in
/-- GlacierMail$Rows.copyFrom -/
def p2_s704 : ck_Sum := ((1, 0, 0), 245, [.inr (.inr (.inl 146)), .inr (.inr (.inl 14))], ([], [], []), ([(146, 3, 3), (147, 0, 71)], []), [(.inr none, 245, ([], [], []))])
set_option maxRecDepth 100000 in
theorem p2_s704_e : ck_ok p2_O none [] [] 58 [] 114 p2_s704 = true := by decide +kernel
theorem p2_s704_s {X : Int → Int} {LX : Nat} : ck_Ok p2_O X LX 58 p2_s704 := ck_ok_s ⟨p2_nmu, ck_E0⟩ ck_X0 ck_l0 p2_s704_e
set_option maxRecDepth 100000 in
/-- GlacierMail$State.copyFrom -/
def p2_s705 : ck_Sum := ((2, 0, 0), 245, [.inr (.inr (.inl 135)), .inr (.inr (.inl 3))], ([], [(3, 8, 0), (135, 8, 100135)], [(3, 6, 6, (0, 299, [(10, 0)]))]), ([(135, 0, 7), (136, 3, 3), (137, 0, 55), (138, 3, 3), (139, 0, 23), (140, 3, 3), (141, 0, 23), (142, 3, 3), (143, 0, 167), (144, 3, 3), (145, 0, 35), (146, 3, 3), (147, 0, 71)], [(135, 8)]), [(.inr none, 245, ([], [(135, 8, 0)], [(135, 6, 6, (0, 299, [(10, 0)]))]))])
set_option maxRecDepth 100000 in
theorem p2_s705_e : ck_ok p2_O none [] [(58, [p2_s699, p2_s700, p2_s701, p2_s702, p2_s703, p2_s704])] 57 [] 204 p2_s705 = true := by decide +kernel
theorem p2_s705_s {X : Int → Int} {LX : Nat} : ck_Ok p2_O X LX 57 p2_s705 := ck_ok_s ⟨p2_nmu, ck_E1 (ck_S1 p2_s699_s (ck_S1 p2_s700_s (ck_S1 p2_s701_s (ck_S1 p2_s702_s (ck_S1 p2_s703_s (ck_S1 p2_s704_s ck_S0)))))) ck_E0⟩ ck_X0 ck_l0 p2_s705_e
set_option maxRecDepth 100000 in
/-- GlacierMail$Rows.copyFrom -/
def p2_s706 : ck_Sum := ((1, 0, 0), 245, [.inr (.inr (.inl 149)), .inr (.inr (.inl 4))], ([], [], []), ([(149, 3, 3), (150, 0, 55)], []), [(.inr none, 245, ([], [], []))])
set_option maxRecDepth 100000 in
theorem p2_s706_e : ck_ok p2_O none [] [] 58 [] 114 p2_s706 = true := by decide +kernel
theorem p2_s706_s {X : Int → Int} {LX : Nat} : ck_Ok p2_O X LX 58 p2_s706 := ck_ok_s ⟨p2_nmu, ck_E0⟩ ck_X0 ck_l0 p2_s706_e
set_option maxRecDepth 100000 in
/-- GlacierMail$Rows.copyFrom -/
def p2_s707 : ck_Sum := ((1, 0, 0), 245, [.inr (.inr (.inl 151)), .inr (.inr (.inl 6))], ([], [], []), ([(151, 3, 3), (152, 0, 23)], []), [(.inr none, 245, ([], [], []))])
set_option maxRecDepth 100000 in
theorem p2_s707_e : ck_ok p2_O none [] [] 58 [] 114 p2_s707 = true := by decide +kernel
theorem p2_s707_s {X : Int → Int} {LX : Nat} : ck_Ok p2_O X LX 58 p2_s707 := ck_ok_s ⟨p2_nmu, ck_E0⟩ ck_X0 ck_l0 p2_s707_e
set_option maxRecDepth 100000 in
/-- GlacierMail$Rows.copyFrom -/
def p2_s708 : ck_Sum := ((1, 0, 0), 245, [.inr (.inr (.inl 153)), .inr (.inr (.inl 8))], ([], [], []), ([(153, 3, 3), (154, 0, 23)], []), [(.inr none, 245, ([], [], []))])
set_option maxRecDepth 100000 in
theorem p2_s708_e : ck_ok p2_O none [] [] 58 [] 114 p2_s708 = true := by decide +kernel
theorem p2_s708_s {X : Int → Int} {LX : Nat} : ck_Ok p2_O X LX 58 p2_s708 := ck_ok_s ⟨p2_nmu, ck_E0⟩ ck_X0 ck_l0 p2_s708_e
set_option maxRecDepth 100000 in
/-- GlacierMail$Rows.copyFrom -/
def p2_s709 : ck_Sum := ((1, 0, 0), 245, [.inr (.inr (.inl 155)), .inr (.inr (.inl 10))], ([], [], []), ([(155, 3, 3), (156, 0, 167)], []), [(.inr none, 245, ([], [], []))])
set_option maxRecDepth 100000 in
theorem p2_s709_e : ck_ok p2_O none [] [] 58 [] 114 p2_s709 = true := by decide +kernel
theorem p2_s709_s {X : Int → Int} {LX : Nat} : ck_Ok p2_O X LX 58 p2_s709 := ck_ok_s ⟨p2_nmu, ck_E0⟩ ck_X0 ck_l0 p2_s709_e
set_option maxRecDepth 100000 in
/-- GlacierMail$Rows.copyFrom -/
def p2_s710 : ck_Sum := ((1, 0, 0), 245, [.inr (.inr (.inl 157)), .inr (.inr (.inl 12))], ([], [], []), ([(157, 3, 3), (158, 0, 35)], []), [(.inr none, 245, ([], [], []))])
set_option maxRecDepth 100000 in
theorem p2_s710_e : ck_ok p2_O none [] [] 58 [] 114 p2_s710 = true := by decide +kernel
theorem p2_s710_s {X : Int → Int} {LX : Nat} : ck_Ok p2_O X LX 58 p2_s710 := ck_ok_s ⟨p2_nmu, ck_E0⟩ ck_X0 ck_l0 p2_s710_e
set_option maxRecDepth 100000 in
/-- GlacierMail$Rows.copyFrom -/
def p2_s711 : ck_Sum := ((1, 0, 0), 245, [.inr (.inr (.inl 159)), .inr (.inr (.inl 14))], ([], [], []), ([(159, 3, 3), (160, 0, 71)], []), [(.inr none, 245, ([], [], []))])
set_option maxRecDepth 100000 in
theorem p2_s711_e : ck_ok p2_O none [] [] 58 [] 114 p2_s711 = true := by decide +kernel
theorem p2_s711_s {X : Int → Int} {LX : Nat} : ck_Ok p2_O X LX 58 p2_s711 := ck_ok_s ⟨p2_nmu, ck_E0⟩ ck_X0 ck_l0 p2_s711_e
set_option maxRecDepth 100000 in
/-- GlacierMail$State.copyFrom -/
def p2_s712 : ck_Sum := ((2, 0, 0), 245, [.inr (.inr (.inl 148)), .inr (.inr (.inl 3))], ([], [(3, 8, 0), (148, 8, 100148)], [(3, 6, 6, (0, 299, [(10, 0)]))]), ([(148, 0, 7), (149, 3, 3), (150, 0, 55), (151, 3, 3), (152, 0, 23), (153, 3, 3), (154, 0, 23), (155, 3, 3), (156, 0, 167), (157, 3, 3), (158, 0, 35), (159, 3, 3), (160, 0, 71)], [(148, 8)]), [(.inr none, 245, ([], [(148, 8, 0)], [(148, 6, 6, (0, 299, [(10, 0)]))]))])
set_option maxRecDepth 100000 in
theorem p2_s712_e : ck_ok p2_O none [] [(58, [p2_s706, p2_s707, p2_s708, p2_s709, p2_s710, p2_s711])] 57 [] 204 p2_s712 = true := by decide +kernel
theorem p2_s712_s {X : Int → Int} {LX : Nat} : ck_Ok p2_O X LX 57 p2_s712 := ck_ok_s ⟨p2_nmu, ck_E1 (ck_S1 p2_s706_s (ck_S1 p2_s707_s (ck_S1 p2_s708_s (ck_S1 p2_s709_s (ck_S1 p2_s710_s (ck_S1 p2_s711_s ck_S0)))))) ck_E0⟩ ck_X0 ck_l0 p2_s712_e
set_option maxRecDepth 100000 in
/-- GlacierMail$Rows.copyFrom -/
def p2_s713 : ck_Sum := ((1, 0, 0), 245, [.inr (.inr (.inl 162)), .inr (.inr (.inl 4))], ([], [], []), ([(162, 3, 3), (163, 0, 55)], []), [(.inr none, 245, ([], [], []))])
set_option maxRecDepth 100000 in
theorem p2_s713_e : ck_ok p2_O none [] [] 58 [] 114 p2_s713 = true := by decide +kernel
theorem p2_s713_s {X : Int → Int} {LX : Nat} : ck_Ok p2_O X LX 58 p2_s713 := ck_ok_s ⟨p2_nmu, ck_E0⟩ ck_X0 ck_l0 p2_s713_e
set_option maxRecDepth 100000 in
/-- GlacierMail$Rows.copyFrom -/
def p2_s714 : ck_Sum := ((1, 0, 0), 245, [.inr (.inr (.inl 164)), .inr (.inr (.inl 6))], ([], [], []), ([(164, 3, 3), (165, 0, 23)], []), [(.inr none, 245, ([], [], []))])
set_option maxRecDepth 100000 in
theorem p2_s714_e : ck_ok p2_O none [] [] 58 [] 114 p2_s714 = true := by decide +kernel
theorem p2_s714_s {X : Int → Int} {LX : Nat} : ck_Ok p2_O X LX 58 p2_s714 := ck_ok_s ⟨p2_nmu, ck_E0⟩ ck_X0 ck_l0 p2_s714_e
set_option maxRecDepth 100000 in
/-- GlacierMail$Rows.copyFrom -/
def p2_s715 : ck_Sum := ((1, 0, 0), 245, [.inr (.inr (.inl 166)), .inr (.inr (.inl 8))], ([], [], []), ([(166, 3, 3), (167, 0, 23)], []), [(.inr none, 245, ([], [], []))])
set_option maxRecDepth 100000 in
theorem p2_s715_e : ck_ok p2_O none [] [] 58 [] 114 p2_s715 = true := by decide +kernel
theorem p2_s715_s {X : Int → Int} {LX : Nat} : ck_Ok p2_O X LX 58 p2_s715 := ck_ok_s ⟨p2_nmu, ck_E0⟩ ck_X0 ck_l0 p2_s715_e
set_option maxRecDepth 100000 in
/-- GlacierMail$Rows.copyFrom -/
def p2_s716 : ck_Sum := ((1, 0, 0), 245, [.inr (.inr (.inl 168)), .inr (.inr (.inl 10))], ([], [], []), ([(168, 3, 3), (169, 0, 167)], []), [(.inr none, 245, ([], [], []))])
set_option maxRecDepth 100000 in
theorem p2_s716_e : ck_ok p2_O none [] [] 58 [] 114 p2_s716 = true := by decide +kernel
theorem p2_s716_s {X : Int → Int} {LX : Nat} : ck_Ok p2_O X LX 58 p2_s716 := ck_ok_s ⟨p2_nmu, ck_E0⟩ ck_X0 ck_l0 p2_s716_e
set_option maxRecDepth 100000 in
/-- GlacierMail$Rows.copyFrom -/
def p2_s717 : ck_Sum := ((1, 0, 0), 245, [.inr (.inr (.inl 170)), .inr (.inr (.inl 12))], ([], [], []), ([(170, 3, 3), (171, 0, 35)], []), [(.inr none, 245, ([], [], []))])
set_option maxRecDepth 100000 in
theorem p2_s717_e : ck_ok p2_O none [] [] 58 [] 114 p2_s717 = true := by decide +kernel
theorem p2_s717_s {X : Int → Int} {LX : Nat} : ck_Ok p2_O X LX 58 p2_s717 := ck_ok_s ⟨p2_nmu, ck_E0⟩ ck_X0 ck_l0 p2_s717_e
set_option maxRecDepth 100000 in
/-- GlacierMail$Rows.copyFrom -/
def p2_s718 : ck_Sum := ((1, 0, 0), 245, [.inr (.inr (.inl 172)), .inr (.inr (.inl 14))], ([], [], []), ([(172, 3, 3), (173, 0, 71)], []), [(.inr none, 245, ([], [], []))])
set_option maxRecDepth 100000 in
theorem p2_s718_e : ck_ok p2_O none [] [] 58 [] 114 p2_s718 = true := by decide +kernel
theorem p2_s718_s {X : Int → Int} {LX : Nat} : ck_Ok p2_O X LX 58 p2_s718 := ck_ok_s ⟨p2_nmu, ck_E0⟩ ck_X0 ck_l0 p2_s718_e
set_option maxRecDepth 100000 in
/-- GlacierMail$State.copyFrom -/
def p2_s719 : ck_Sum := ((2, 0, 0), 245, [.inr (.inr (.inl 161)), .inr (.inr (.inl 3))], ([], [(3, 8, 0), (161, 8, 100161)], [(3, 6, 6, (0, 299, [(10, 0)]))]), ([(161, 0, 7), (162, 3, 3), (163, 0, 55), (164, 3, 3), (165, 0, 23), (166, 3, 3), (167, 0, 23), (168, 3, 3), (169, 0, 167), (170, 3, 3), (171, 0, 35), (172, 3, 3), (173, 0, 71)], [(161, 8)]), [(.inr none, 245, ([], [(161, 8, 0)], [(161, 6, 6, (0, 299, [(10, 0)]))]))])
set_option maxRecDepth 100000 in
theorem p2_s719_e : ck_ok p2_O none [] [(58, [p2_s713, p2_s714, p2_s715, p2_s716, p2_s717, p2_s718])] 57 [] 204 p2_s719 = true := by decide +kernel
theorem p2_s719_s {X : Int → Int} {LX : Nat} : ck_Ok p2_O X LX 57 p2_s719 := ck_ok_s ⟨p2_nmu, ck_E1 (ck_S1 p2_s713_s (ck_S1 p2_s714_s (ck_S1 p2_s715_s (ck_S1 p2_s716_s (ck_S1 p2_s717_s (ck_S1 p2_s718_s ck_S0)))))) ck_E0⟩ ck_X0 ck_l0 p2_s719_e
set_option maxRecDepth 100000 in
/-- GlacierMail$Rows.copyFrom -/
def p2_s720 : ck_Sum := ((1, 0, 0), 245, [.inr (.inr (.inl 175)), .inr (.inr (.inl 4))], ([], [], []), ([(175, 3, 3), (176, 0, 55)], []), [(.inr none, 245, ([], [], []))])
set_option maxRecDepth 100000 in
theorem p2_s720_e : ck_ok p2_O none [] [] 58 [] 114 p2_s720 = true := by decide +kernel
theorem p2_s720_s {X : Int → Int} {LX : Nat} : ck_Ok p2_O X LX 58 p2_s720 := ck_ok_s ⟨p2_nmu, ck_E0⟩ ck_X0 ck_l0 p2_s720_e
set_option maxRecDepth 100000 in
/-- GlacierMail$Rows.copyFrom -/
def p2_s721 : ck_Sum := ((1, 0, 0), 245, [.inr (.inr (.inl 177)), .inr (.inr (.inl 6))], ([], [], []), ([(177, 3, 3), (178, 0, 23)], []), [(.inr none, 245, ([], [], []))])
set_option maxRecDepth 100000 in
theorem p2_s721_e : ck_ok p2_O none [] [] 58 [] 114 p2_s721 = true := by decide +kernel
theorem p2_s721_s {X : Int → Int} {LX : Nat} : ck_Ok p2_O X LX 58 p2_s721 := ck_ok_s ⟨p2_nmu, ck_E0⟩ ck_X0 ck_l0 p2_s721_e
set_option maxRecDepth 100000 in
/-- GlacierMail$Rows.copyFrom -/
def p2_s722 : ck_Sum := ((1, 0, 0), 245, [.inr (.inr (.inl 179)), .inr (.inr (.inl 8))], ([], [], []), ([(179, 3, 3), (180, 0, 23)], []), [(.inr none, 245, ([], [], []))])
set_option maxRecDepth 100000 in
theorem p2_s722_e : ck_ok p2_O none [] [] 58 [] 114 p2_s722 = true := by decide +kernel
theorem p2_s722_s {X : Int → Int} {LX : Nat} : ck_Ok p2_O X LX 58 p2_s722 := ck_ok_s ⟨p2_nmu, ck_E0⟩ ck_X0 ck_l0 p2_s722_e
set_option maxRecDepth 100000 in
/-- GlacierMail$Rows.copyFrom -/
def p2_s723 : ck_Sum := ((1, 0, 0), 245, [.inr (.inr (.inl 181)), .inr (.inr (.inl 10))], ([], [], []), ([(181, 3, 3), (182, 0, 167)], []), [(.inr none, 245, ([], [], []))])
set_option maxRecDepth 100000 in
theorem p2_s723_e : ck_ok p2_O none [] [] 58 [] 114 p2_s723 = true := by decide +kernel
theorem p2_s723_s {X : Int → Int} {LX : Nat} : ck_Ok p2_O X LX 58 p2_s723 := ck_ok_s ⟨p2_nmu, ck_E0⟩ ck_X0 ck_l0 p2_s723_e
set_option maxRecDepth 100000 in
/-- GlacierMail$Rows.copyFrom -/
def p2_s724 : ck_Sum := ((1, 0, 0), 245, [.inr (.inr (.inl 183)), .inr (.inr (.inl 12))], ([], [], []), ([(183, 3, 3), (184, 0, 35)], []), [(.inr none, 245, ([], [], []))])
set_option maxRecDepth 100000 in
theorem p2_s724_e : ck_ok p2_O none [] [] 58 [] 114 p2_s724 = true := by decide +kernel
theorem p2_s724_s {X : Int → Int} {LX : Nat} : ck_Ok p2_O X LX 58 p2_s724 := ck_ok_s ⟨p2_nmu, ck_E0⟩ ck_X0 ck_l0 p2_s724_e
set_option maxRecDepth 100000 in
/-- GlacierMail$Rows.copyFrom -/
def p2_s725 : ck_Sum := ((1, 0, 0), 245, [.inr (.inr (.inl 185)), .inr (.inr (.inl 14))], ([], [], []), ([(185, 3, 3), (186, 0, 71)], []), [(.inr none, 245, ([], [], []))])
set_option maxRecDepth 100000 in
theorem p2_s725_e : ck_ok p2_O none [] [] 58 [] 114 p2_s725 = true := by decide +kernel
theorem p2_s725_s {X : Int → Int} {LX : Nat} : ck_Ok p2_O X LX 58 p2_s725 := ck_ok_s ⟨p2_nmu, ck_E0⟩ ck_X0 ck_l0 p2_s725_e
set_option maxRecDepth 100000 in
/-- GlacierMail$State.copyFrom -/
def p2_s726 : ck_Sum := ((2, 0, 0), 245, [.inr (.inr (.inl 174)), .inr (.inr (.inl 3))], ([], [(3, 8, 0), (174, 8, 100174)], [(3, 6, 6, (0, 299, [(10, 0)]))]), ([(174, 0, 7), (175, 3, 3), (176, 0, 55), (177, 3, 3), (178, 0, 23), (179, 3, 3), (180, 0, 23), (181, 3, 3), (182, 0, 167), (183, 3, 3), (184, 0, 35), (185, 3, 3), (186, 0, 71)], [(174, 8)]), [(.inr none, 245, ([], [(174, 8, 0)], [(174, 6, 6, (0, 299, [(10, 0)]))]))])
set_option maxRecDepth 100000 in
theorem p2_s726_e : ck_ok p2_O none [] [(58, [p2_s720, p2_s721, p2_s722, p2_s723, p2_s724, p2_s725])] 57 [] 204 p2_s726 = true := by decide +kernel
theorem p2_s726_s {X : Int → Int} {LX : Nat} : ck_Ok p2_O X LX 57 p2_s726 := ck_ok_s ⟨p2_nmu, ck_E1 (ck_S1 p2_s720_s (ck_S1 p2_s721_s (ck_S1 p2_s722_s (ck_S1 p2_s723_s (ck_S1 p2_s724_s (ck_S1 p2_s725_s ck_S0)))))) ck_E0⟩ ck_X0 ck_l0 p2_s726_e
set_option maxRecDepth 100000 in
/-- GlacierMail$Rows.copyFrom -/
def p2_s727 : ck_Sum := ((1, 0, 0), 245, [.inr (.inr (.inl 188)), .inr (.inr (.inl 4))], ([], [], []), ([(188, 3, 3), (189, 0, 55)], []), [(.inr none, 245, ([], [], []))])
set_option maxRecDepth 100000 in
theorem p2_s727_e : ck_ok p2_O none [] [] 58 [] 114 p2_s727 = true := by decide +kernel
theorem p2_s727_s {X : Int → Int} {LX : Nat} : ck_Ok p2_O X LX 58 p2_s727 := ck_ok_s ⟨p2_nmu, ck_E0⟩ ck_X0 ck_l0 p2_s727_e
set_option maxRecDepth 100000 in
/-- GlacierMail$Rows.copyFrom -/
def p2_s728 : ck_Sum := ((1, 0, 0), 245, [.inr (.inr (.inl 190)), .inr (.inr (.inl 6))], ([], [], []), ([(190, 3, 3), (191, 0, 23)], []), [(.inr none, 245, ([], [], []))])
set_option maxRecDepth 100000 in
theorem p2_s728_e : ck_ok p2_O none [] [] 58 [] 114 p2_s728 = true := by decide +kernel
theorem p2_s728_s {X : Int → Int} {LX : Nat} : ck_Ok p2_O X LX 58 p2_s728 := ck_ok_s ⟨p2_nmu, ck_E0⟩ ck_X0 ck_l0 p2_s728_e
set_option maxRecDepth 100000 in
/-- GlacierMail$Rows.copyFrom -/
def p2_s729 : ck_Sum := ((1, 0, 0), 245, [.inr (.inr (.inl 192)), .inr (.inr (.inl 8))], ([], [], []), ([(192, 3, 3), (193, 0, 23)], []), [(.inr none, 245, ([], [], []))])
set_option maxRecDepth 100000 in
theorem p2_s729_e : ck_ok p2_O none [] [] 58 [] 114 p2_s729 = true := by decide +kernel
theorem p2_s729_s {X : Int → Int} {LX : Nat} : ck_Ok p2_O X LX 58 p2_s729 := ck_ok_s ⟨p2_nmu, ck_E0⟩ ck_X0 ck_l0 p2_s729_e
set_option maxRecDepth 100000 in
/-- GlacierMail$Rows.copyFrom -/
def p2_s730 : ck_Sum := ((1, 0, 0), 245, [.inr (.inr (.inl 194)), .inr (.inr (.inl 10))], ([], [], []), ([(194, 3, 3), (195, 0, 167)], []), [(.inr none, 245, ([], [], []))])
set_option maxRecDepth 100000 in
theorem p2_s730_e : ck_ok p2_O none [] [] 58 [] 114 p2_s730 = true := by decide +kernel
theorem p2_s730_s {X : Int → Int} {LX : Nat} : ck_Ok p2_O X LX 58 p2_s730 := ck_ok_s ⟨p2_nmu, ck_E0⟩ ck_X0 ck_l0 p2_s730_e
set_option maxRecDepth 100000 in
/-- GlacierMail$Rows.copyFrom -/
def p2_s731 : ck_Sum := ((1, 0, 0), 245, [.inr (.inr (.inl 196)), .inr (.inr (.inl 12))], ([], [], []), ([(196, 3, 3), (197, 0, 35)], []), [(.inr none, 245, ([], [], []))])
set_option maxRecDepth 100000 in
theorem p2_s731_e : ck_ok p2_O none [] [] 58 [] 114 p2_s731 = true := by decide +kernel
theorem p2_s731_s {X : Int → Int} {LX : Nat} : ck_Ok p2_O X LX 58 p2_s731 := ck_ok_s ⟨p2_nmu, ck_E0⟩ ck_X0 ck_l0 p2_s731_e
set_option maxRecDepth 100000 in
/-- GlacierMail$Rows.copyFrom -/
def p2_s732 : ck_Sum := ((1, 0, 0), 245, [.inr (.inr (.inl 198)), .inr (.inr (.inl 14))], ([], [], []), ([(198, 3, 3), (199, 0, 71)], []), [(.inr none, 245, ([], [], []))])
set_option maxRecDepth 100000 in
theorem p2_s732_e : ck_ok p2_O none [] [] 58 [] 114 p2_s732 = true := by decide +kernel
theorem p2_s732_s {X : Int → Int} {LX : Nat} : ck_Ok p2_O X LX 58 p2_s732 := ck_ok_s ⟨p2_nmu, ck_E0⟩ ck_X0 ck_l0 p2_s732_e
set_option maxRecDepth 100000 in
/-- GlacierMail$State.copyFrom -/
def p2_s733 : ck_Sum := ((2, 0, 0), 245, [.inr (.inr (.inl 187)), .inr (.inr (.inl 3))], ([], [(3, 8, 0), (187, 8, 100187)], [(3, 6, 6, (0, 299, [(10, 0)]))]), ([(187, 0, 7), (188, 3, 3), (189, 0, 55), (190, 3, 3), (191, 0, 23), (192, 3, 3), (193, 0, 23), (194, 3, 3), (195, 0, 167), (196, 3, 3), (197, 0, 35), (198, 3, 3), (199, 0, 71)], [(187, 8)]), [(.inr none, 245, ([], [(187, 8, 0)], [(187, 6, 6, (0, 299, [(10, 0)]))]))])
set_option maxRecDepth 100000 in
theorem p2_s733_e : ck_ok p2_O none [] [(58, [p2_s727, p2_s728, p2_s729, p2_s730, p2_s731, p2_s732])] 57 [] 204 p2_s733 = true := by decide +kernel
theorem p2_s733_s {X : Int → Int} {LX : Nat} : ck_Ok p2_O X LX 57 p2_s733 := ck_ok_s ⟨p2_nmu, ck_E1 (ck_S1 p2_s727_s (ck_S1 p2_s728_s (ck_S1 p2_s729_s (ck_S1 p2_s730_s (ck_S1 p2_s731_s (ck_S1 p2_s732_s ck_S0)))))) ck_E0⟩ ck_X0 ck_l0 p2_s733_e
set_option maxRecDepth 100000 in
/-- GlacierMail$Rows.copyFrom -/
def p2_s734 : ck_Sum := ((1, 0, 0), 245, [.inr (.inr (.inl 45)), .inr (.inr (.inl 4))], ([], [], []), ([(45, 3, 3), (46, 0, 55)], []), [(.inr none, 245, ([], [], []))])
set_option maxRecDepth 100000 in
theorem p2_s734_e : ck_ok p2_O none [] [] 58 [] 114 p2_s734 = true := by decide +kernel
theorem p2_s734_s {X : Int → Int} {LX : Nat} : ck_Ok p2_O X LX 58 p2_s734 := ck_ok_s ⟨p2_nmu, ck_E0⟩ ck_X0 ck_l0 p2_s734_e
set_option maxRecDepth 100000 in
/-- GlacierMail$Rows.copyFrom -/
def p2_s735 : ck_Sum := ((1, 0, 0), 245, [.inr (.inr (.inl 47)), .inr (.inr (.inl 6))], ([], [], []), ([(47, 3, 3), (48, 0, 23)], []), [(.inr none, 245, ([], [], []))])
set_option maxRecDepth 100000 in
theorem p2_s735_e : ck_ok p2_O none [] [] 58 [] 114 p2_s735 = true := by decide +kernel
theorem p2_s735_s {X : Int → Int} {LX : Nat} : ck_Ok p2_O X LX 58 p2_s735 := ck_ok_s ⟨p2_nmu, ck_E0⟩ ck_X0 ck_l0 p2_s735_e
set_option maxRecDepth 100000 in
/-- GlacierMail$Rows.copyFrom -/
def p2_s736 : ck_Sum := ((1, 0, 0), 245, [.inr (.inr (.inl 49)), .inr (.inr (.inl 8))], ([], [], []), ([(49, 3, 3), (50, 0, 23)], []), [(.inr none, 245, ([], [], []))])
set_option maxRecDepth 100000 in
theorem p2_s736_e : ck_ok p2_O none [] [] 58 [] 114 p2_s736 = true := by decide +kernel
theorem p2_s736_s {X : Int → Int} {LX : Nat} : ck_Ok p2_O X LX 58 p2_s736 := ck_ok_s ⟨p2_nmu, ck_E0⟩ ck_X0 ck_l0 p2_s736_e
set_option maxRecDepth 100000 in
/-- GlacierMail$Rows.copyFrom -/
def p2_s737 : ck_Sum := ((1, 0, 0), 245, [.inr (.inr (.inl 51)), .inr (.inr (.inl 10))], ([], [], []), ([(51, 3, 3), (52, 0, 167)], []), [(.inr none, 245, ([], [], []))])
set_option maxRecDepth 100000 in
theorem p2_s737_e : ck_ok p2_O none [] [] 58 [] 114 p2_s737 = true := by decide +kernel
theorem p2_s737_s {X : Int → Int} {LX : Nat} : ck_Ok p2_O X LX 58 p2_s737 := ck_ok_s ⟨p2_nmu, ck_E0⟩ ck_X0 ck_l0 p2_s737_e
set_option maxRecDepth 100000 in
/-- GlacierMail$Rows.copyFrom -/
def p2_s738 : ck_Sum := ((1, 0, 0), 245, [.inr (.inr (.inl 53)), .inr (.inr (.inl 12))], ([], [], []), ([(53, 3, 3), (54, 0, 35)], []), [(.inr none, 245, ([], [], []))])
set_option maxRecDepth 100000 in
theorem p2_s738_e : ck_ok p2_O none [] [] 58 [] 114 p2_s738 = true := by decide +kernel
theorem p2_s738_s {X : Int → Int} {LX : Nat} : ck_Ok p2_O X LX 58 p2_s738 := ck_ok_s ⟨p2_nmu, ck_E0⟩ ck_X0 ck_l0 p2_s738_e
set_option maxRecDepth 100000 in
/-- GlacierMail$Rows.copyFrom -/
def p2_s739 : ck_Sum := ((1, 0, 0), 245, [.inr (.inr (.inl 55)), .inr (.inr (.inl 14))], ([], [], []), ([(55, 3, 3), (56, 0, 71)], []), [(.inr none, 245, ([], [], []))])
set_option maxRecDepth 100000 in
theorem p2_s739_e : ck_ok p2_O none [] [] 58 [] 114 p2_s739 = true := by decide +kernel
theorem p2_s739_s {X : Int → Int} {LX : Nat} : ck_Ok p2_O X LX 58 p2_s739 := ck_ok_s ⟨p2_nmu, ck_E0⟩ ck_X0 ck_l0 p2_s739_e
set_option maxRecDepth 100000 in
/-- GlacierMail$State.copyFrom -/
def p2_s740 : ck_Sum := ((2, 0, 0), 245, [.inr (.inr (.inl 44)), .inr (.inr (.inl 3))], ([], [(3, 8, 0), (44, 8, 100044)], [(3, 6, 6, (0, 299, [(10, 0)]))]), ([(44, 0, 7), (45, 3, 3), (46, 0, 55), (47, 3, 3), (48, 0, 23), (49, 3, 3), (50, 0, 23), (51, 3, 3), (52, 0, 167), (53, 3, 3), (54, 0, 35), (55, 3, 3), (56, 0, 71)], [(44, 8)]), [(.inr none, 245, ([], [(44, 8, 0)], [(44, 6, 6, (0, 299, [(10, 0)]))]))])
set_option maxRecDepth 100000 in
theorem p2_s740_e : ck_ok p2_O none [] [(58, [p2_s734, p2_s735, p2_s736, p2_s737, p2_s738, p2_s739])] 57 [] 204 p2_s740 = true := by decide +kernel
theorem p2_s740_s {X : Int → Int} {LX : Nat} : ck_Ok p2_O X LX 57 p2_s740 := ck_ok_s ⟨p2_nmu, ck_E1 (ck_S1 p2_s734_s (ck_S1 p2_s735_s (ck_S1 p2_s736_s (ck_S1 p2_s737_s (ck_S1 p2_s738_s (ck_S1 p2_s739_s ck_S0)))))) ck_E0⟩ ck_X0 ck_l0 p2_s740_e
set_option maxRecDepth 100000 in
/-- GlacierMail$History.remember -/
def p2_s741 : ck_Sum := ((3, 0, 0), 245, [.inr (.inr (.inl 42)), .inr (.inr (.inl 3))], ([], [(3, 8, 0), (44, 8, 100044), (57, 8, 100057), (70, 8, 100070), (83, 8, 100083), (96, 8, 100096), (109, 8, 100109), (122, 8, 100122), (135, 8, 100135), (148, 8, 100148), (161, 8, 100161), (174, 8, 100174), (187, 8, 100187)], [(3, 6, 6, (0, 299, [(10, 0)]))]), ([(42, 1, 2), (44, 0, 7), (45, 3, 3), (46, 0, 55), (47, 3, 3), (48, 0, 23), (49, 3, 3), (50, 0, 23), (51, 3, 3), (52, 0, 167), (53, 3, 3), (54, 0, 35), (55, 3, 3), (56, 0, 71), (57, 0, 7), (58, 3, 3), (59, 0, 55), (60, 3, 3), (61, 0, 23), (62, 3, 3), (63, 0, 23), (64, 3, 3), (65, 0, 167), (66, 3, 3), (67, 0, 35), (68, 3, 3), (69, 0, 71), (70, 0, 7), (71, 3, 3), (72, 0, 55), (73, 3, 3), (74, 0, 23), (75, 3, 3), (76, 0, 23), (77, 3, 3), (78, 0, 167), (79, 3, 3), (80, 0, 35), (81, 3, 3), (82, 0, 71), (83, 0, 7), (84, 3, 3), (85, 0, 55), (86, 3, 3), (87, 0, 23), (88, 3, 3), (89, 0, 23), (90, 3, 3), (91, 0, 167), (92, 3, 3), (93, 0, 35), (94, 3, 3), (95, 0, 71), (96, 0, 7), (97, 3, 3), (98, 0, 55), (99, 3, 3), (100, 0, 23), (101, 3, 3), (102, 0, 23), (103, 3, 3), (104, 0, 167), (105, 3, 3), (106, 0, 35), (107, 3, 3), (108, 0, 71), (109, 0, 7), (110, 3, 3), (111, 0, 55), (112, 3, 3), (113, 0, 23), (114, 3, 3), (115, 0, 23), (116, 3, 3), (117, 0, 167), (118, 3, 3), (119, 0, 35), (120, 3, 3), (121, 0, 71), (122, 0, 7), (123, 3, 3), (124, 0, 55), (125, 3, 3), (126, 0, 23), (127, 3, 3), (128, 0, 23), (129, 3, 3), (130, 0, 167), (131, 3, 3), (132, 0, 35), (133, 3, 3), (134, 0, 71), (135, 0, 7), (136, 3, 3), (137, 0, 55), (138, 3, 3), (139, 0, 23), (140, 3, 3), (141, 0, 23), (142, 3, 3), (143, 0, 167), (144, 3, 3), (145, 0, 35), (146, 3, 3), (147, 0, 71), (148, 0, 7), (149, 3, 3), (150, 0, 55), (151, 3, 3), (152, 0, 23), (153, 3, 3), (154, 0, 23), (155, 3, 3), (156, 0, 167), (157, 3, 3), (158, 0, 35), (159, 3, 3), (160, 0, 71), (161, 0, 7), (162, 3, 3), (163, 0, 55), (164, 3, 3), (165, 0, 23), (166, 3, 3), (167, 0, 23), (168, 3, 3), (169, 0, 167), (170, 3, 3), (171, 0, 35), (172, 3, 3), (173, 0, 71), (174, 0, 7), (175, 3, 3), (176, 0, 55), (177, 3, 3), (178, 0, 23), (179, 3, 3), (180, 0, 23), (181, 3, 3), (182, 0, 167), (183, 3, 3), (184, 0, 35), (185, 3, 3), (186, 0, 71), (187, 0, 7), (188, 3, 3), (189, 0, 55), (190, 3, 3), (191, 0, 23), (192, 3, 3), (193, 0, 23), (194, 3, 3), (195, 0, 167), (196, 3, 3), (197, 0, 35), (198, 3, 3), (199, 0, 71)], [(44, 8), (57, 8), (70, 8), (83, 8), (96, 8), (109, 8), (122, 8), (135, 8), (148, 8), (161, 8), (174, 8), (187, 8)]), [(.inr none, 245, ([], [(44, 8, 100044), (57, 8, 100057), (70, 8, 100070), (83, 8, 100083), (96, 8, 100096), (109, 8, 100109), (122, 8, 100122), (135, 8, 100135), (148, 8, 100148), (161, 8, 100161), (174, 8, 100174), (187, 8, 100187)], [(42, 2, 2, (1, 12, [])), (42, 1, 1, (0, 11, []))])), (.inr none, 245, ([], [(44, 8, 100044), (57, 8, 0), (70, 8, 100070), (83, 8, 100083), (96, 8, 100096), (109, 8, 100109), (122, 8, 100122), (135, 8, 100135), (148, 8, 100148), (161, 8, 100161), (174, 8, 100174), (187, 8, 100187)], [(42, 2, 2, (1, 12, [])), (42, 1, 1, (0, 11, [])), (57, 6, 6, (0, 299, [(10, 0)]))])), (.inr none, 245, ([], [(44, 8, 100044), (57, 8, 100057), (70, 8, 0), (83, 8, 100083), (96, 8, 100096), (109, 8, 100109), (122, 8, 100122), (135, 8, 100135), (148, 8, 100148), (161, 8, 100161), (174, 8, 100174), (187, 8, 100187)], [(42, 2, 2, (1, 12, [])), (42, 1, 1, (0, 11, [])), (70, 6, 6, (0, 299, [(10, 0)]))])), (.inr none, 245, ([], [(44, 8, 100044), (57, 8, 100057), (70, 8, 100070), (83, 8, 0), (96, 8, 100096), (109, 8, 100109), (122, 8, 100122), (135, 8, 100135), (148, 8, 100148), (161, 8, 100161), (174, 8, 100174), (187, 8, 100187)], [(42, 2, 2, (1, 12, [])), (42, 1, 1, (0, 11, [])), (83, 6, 6, (0, 299, [(10, 0)]))])), (.inr none, 245, ([], [(44, 8, 100044), (57, 8, 100057), (70, 8, 100070), (83, 8, 100083), (96, 8, 0), (109, 8, 100109), (122, 8, 100122), (135, 8, 100135), (148, 8, 100148), (161, 8, 100161), (174, 8, 100174), (187, 8, 100187)], [(42, 2, 2, (1, 12, [])), (42, 1, 1, (0, 11, [])), (96, 6, 6, (0, 299, [(10, 0)]))])), (.inr none, 245, ([], [(44, 8, 100044), (57, 8, 100057), (70, 8, 100070), (83, 8, 100083), (96, 8, 100096), (109, 8, 0), (122, 8, 100122), (135, 8, 100135), (148, 8, 100148), (161, 8, 100161), (174, 8, 100174), (187, 8, 100187)], [(42, 2, 2, (1, 12, [])), (42, 1, 1, (0, 11, [])), (109, 6, 6, (0, 299, [(10, 0)]))])), (.inr none, 245, ([], [(44, 8, 100044), (57, 8, 100057), (70, 8, 100070), (83, 8, 100083), (96, 8, 100096), (109, 8, 100109), (122, 8, 0), (135, 8, 100135), (148, 8, 100148), (161, 8, 100161), (174, 8, 100174), (187, 8, 100187)], [(42, 2, 2, (1, 12, [])), (42, 1, 1, (0, 11, [])), (122, 6, 6, (0, 299, [(10, 0)]))])), (.inr none, 245, ([], [(44, 8, 100044), (57, 8, 100057), (70, 8, 100070), (83, 8, 100083), (96, 8, 100096), (109, 8, 100109), (122, 8, 100122), (135, 8, 0), (148, 8, 100148), (161, 8, 100161), (174, 8, 100174), (187, 8, 100187)], [(42, 2, 2, (1, 12, [])), (42, 1, 1, (0, 11, [])), (135, 6, 6, (0, 299, [(10, 0)]))])), (.inr none, 245, ([], [(44, 8, 100044), (57, 8, 100057), (70, 8, 100070), (83, 8, 100083), (96, 8, 100096), (109, 8, 100109), (122, 8, 100122), (135, 8, 100135), (148, 8, 0), (161, 8, 100161), (174, 8, 100174), (187, 8, 100187)], [(42, 2, 2, (1, 12, [])), (42, 1, 1, (0, 11, [])), (148, 6, 6, (0, 299, [(10, 0)]))])), (.inr none, 245, ([], [(44, 8, 100044), (57, 8, 100057), (70, 8, 100070), (83, 8, 100083), (96, 8, 100096), (109, 8, 100109), (122, 8, 100122), (135, 8, 100135), (148, 8, 100148), (161, 8, 0), (174, 8, 100174), (187, 8, 100187)], [(42, 2, 2, (1, 12, [])), (42, 1, 1, (0, 11, [])), (161, 6, 6, (0, 299, [(10, 0)]))])), (.inr none, 245, ([], [(44, 8, 100044), (57, 8, 100057), (70, 8, 100070), (83, 8, 100083), (96, 8, 100096), (109, 8, 100109), (122, 8, 100122), (135, 8, 100135), (148, 8, 100148), (161, 8, 100161), (174, 8, 0), (187, 8, 100187)], [(42, 2, 2, (1, 12, [])), (42, 1, 1, (0, 11, [])), (174, 6, 6, (0, 299, [(10, 0)]))])), (.inr none, 245, ([], [(44, 8, 100044), (57, 8, 100057), (70, 8, 100070), (83, 8, 100083), (96, 8, 100096), (109, 8, 100109), (122, 8, 100122), (135, 8, 100135), (148, 8, 100148), (161, 8, 100161), (174, 8, 100174), (187, 8, 0)], [(42, 2, 2, (1, 12, [])), (42, 1, 1, (0, 11, [])), (187, 6, 6, (0, 299, [(10, 0)]))])), (.inr none, 245, ([], [(44, 8, 0), (57, 8, 100057), (70, 8, 100070), (83, 8, 100083), (96, 8, 100096), (109, 8, 100109), (122, 8, 100122), (135, 8, 100135), (148, 8, 100148), (161, 8, 100161), (174, 8, 100174), (187, 8, 100187)], [(42, 2, 2, (1, 12, [])), (42, 1, 1, (0, 11, [])), (44, 6, 6, (0, 299, [(10, 0)]))]))])
set_option maxRecDepth 100000 in
theorem p2_s741_e : ck_ok p2_O none [] [(56, [p2_s656]), (57, [p2_s663, p2_s670, p2_s677, p2_s684, p2_s691, p2_s698, p2_s705, p2_s712, p2_s719, p2_s726, p2_s733, p2_s740])] 154 [] 124 p2_s741 = true := by decide +kernel
theorem p2_s741_s {X : Int → Int} {LX : Nat} : ck_Ok p2_O X LX 154 p2_s741 := ck_ok_s ⟨p2_nmu, ck_E1 (ck_S1 p2_s656_s ck_S0) (ck_E1 (ck_S1 p2_s663_s (ck_S1 p2_s670_s (ck_S1 p2_s677_s (ck_S1 p2_s684_s (ck_S1 p2_s691_s (ck_S1 p2_s698_s (ck_S1 p2_s705_s (ck_S1 p2_s712_s (ck_S1 p2_s719_s (ck_S1 p2_s726_s (ck_S1 p2_s733_s (ck_S1 p2_s740_s ck_S0)))))))))))) ck_E0)⟩ ck_X0 ck_l0 p2_s741_e
set_option maxRecDepth 100000 in
/-- GlacierMail$Rows.add -/
def p2_s742 : ck_Sum := ((0, 0, 0), 245, [.inr (.inr (.inl 10))], ([], [], []), ([(10, 3, 3)], []), [(.inr (some (.inl (0, 23, []))), 245, ([], [], [(10, 3, 3, (1, 24, []))])), (.inr (some (.inl (ck_one (-1)))), 245, ([], [], [(10, 3, 3, ck_one 24)]))])
set_option maxRecDepth 100000 in
theorem p2_s742_e : ck_ok p2_O none [] [] 102 [] 102 p2_s742 = true := by decide +kernel
theorem p2_s742_s {X : Int → Int} {LX : Nat} : ck_Ok p2_O X LX 102 p2_s742 := ck_ok_s ⟨p2_nmu, ck_E0⟩ ck_X0 ck_l0 p2_s742_e
set_option maxRecDepth 100000 in
/-- GlacierMail$Rows.put -/
def p2_s743 : ck_Sum := ((0, 0, 0), 245, [.inr (.inr (.inl 10)), .inl (0, 23, []), .inl (ck_one 0), .inl (0, 7, [])], ([], [], []), ([(11, 0, 0), (11, 7, 7), (11, 14, 14), (11, 21, 21), (11, 28, 28), (11, 35, 35), (11, 42, 42), (11, 49, 49), (11, 56, 56), (11, 63, 63), (11, 70, 70), (11, 77, 77), (11, 84, 84), (11, 91, 91), (11, 98, 98), (11, 105, 105), (11, 112, 112), (11, 119, 119), (11, 126, 126), (11, 133, 133), (11, 140, 140), (11, 147, 147), (11, 154, 154), (11, 161, 161)], []), [(.inr none, 245, ([], [], []))])
set_option maxRecDepth 100000 in
theorem p2_s743_e : ck_ok p2_O none [] [] 45 [] 116 p2_s743 = true := by decide +kernel
theorem p2_s743_s {X : Int → Int} {LX : Nat} : ck_Ok p2_O X LX 45 p2_s743 := ck_ok_s ⟨p2_nmu, ck_E0⟩ ck_X0 ck_l0 p2_s743_e
set_option maxRecDepth 100000 in
/-- GlacierMail$Rows.put -/
def p2_s744 : ck_Sum := ((0, 0, 0), 245, [.inr (.inr (.inl 10)), .inl (0, 23, []), .inl (ck_one 1), .inl (0, 7, [])], ([], [], []), ([(11, 1, 1), (11, 8, 8), (11, 15, 15), (11, 22, 22), (11, 29, 29), (11, 36, 36), (11, 43, 43), (11, 50, 50), (11, 57, 57), (11, 64, 64), (11, 71, 71), (11, 78, 78), (11, 85, 85), (11, 92, 92), (11, 99, 99), (11, 106, 106), (11, 113, 113), (11, 120, 120), (11, 127, 127), (11, 134, 134), (11, 141, 141), (11, 148, 148), (11, 155, 155), (11, 162, 162)], []), [(.inr none, 245, ([], [], []))])
set_option maxRecDepth 100000 in
theorem p2_s744_e : ck_ok p2_O none [] [] 45 [] 116 p2_s744 = true := by decide +kernel
theorem p2_s744_s {X : Int → Int} {LX : Nat} : ck_Ok p2_O X LX 45 p2_s744 := ck_ok_s ⟨p2_nmu, ck_E0⟩ ck_X0 ck_l0 p2_s744_e
set_option maxRecDepth 100000 in
/-- GlacierMail$Rows.put -/
def p2_s745 : ck_Sum := ((0, 0, 0), 245, [.inr (.inr (.inl 10)), .inl (0, 23, []), .inl (ck_one 2), .inl ((-1), 98, [])], ([], [], []), ([(11, 2, 2), (11, 9, 9), (11, 16, 16), (11, 23, 23), (11, 30, 30), (11, 37, 37), (11, 44, 44), (11, 51, 51), (11, 58, 58), (11, 65, 65), (11, 72, 72), (11, 79, 79), (11, 86, 86), (11, 93, 93), (11, 100, 100), (11, 107, 107), (11, 114, 114), (11, 121, 121), (11, 128, 128), (11, 135, 135), (11, 142, 142), (11, 149, 149), (11, 156, 156), (11, 163, 163)], []), [(.inr none, 245, ([], [], []))])
set_option maxRecDepth 100000 in
theorem p2_s745_e : ck_ok p2_O none [] [] 45 [] 116 p2_s745 = true := by decide +kernel
theorem p2_s745_s {X : Int → Int} {LX : Nat} : ck_Ok p2_O X LX 45 p2_s745 := ck_ok_s ⟨p2_nmu, ck_E0⟩ ck_X0 ck_l0 p2_s745_e
set_option maxRecDepth 100000 in
/-- GlacierMail$Rows.put -/
def p2_s746 : ck_Sum := ((0, 0, 0), 245, [.inr (.inr (.inl 10)), .inl (0, 23, []), .inl (ck_one 3), .inl (0, 299, [])], ([], [], []), ([(11, 3, 3), (11, 10, 10), (11, 17, 17), (11, 24, 24), (11, 31, 31), (11, 38, 38), (11, 45, 45), (11, 52, 52), (11, 59, 59), (11, 66, 66), (11, 73, 73), (11, 80, 80), (11, 87, 87), (11, 94, 94), (11, 101, 101), (11, 108, 108), (11, 115, 115), (11, 122, 122), (11, 129, 129), (11, 136, 136), (11, 143, 143), (11, 150, 150), (11, 157, 157), (11, 164, 164)], []), [(.inr none, 245, ([], [], []))])
set_option maxRecDepth 100000 in
theorem p2_s746_e : ck_ok p2_O none [] [] 45 [] 116 p2_s746 = true := by decide +kernel
theorem p2_s746_s {X : Int → Int} {LX : Nat} : ck_Ok p2_O X LX 45 p2_s746 := ck_ok_s ⟨p2_nmu, ck_E0⟩ ck_X0 ck_l0 p2_s746_e
set_option maxRecDepth 100000 in
/-- GlacierMail$Rows.put -/
def p2_s747 : ck_Sum := ((0, 0, 0), 245, [.inr (.inr (.inl 10)), .inl (0, 23, []), .inl (ck_one 4), .inl ((-1), 98, [])], ([], [], []), ([(11, 4, 4), (11, 11, 11), (11, 18, 18), (11, 25, 25), (11, 32, 32), (11, 39, 39), (11, 46, 46), (11, 53, 53), (11, 60, 60), (11, 67, 67), (11, 74, 74), (11, 81, 81), (11, 88, 88), (11, 95, 95), (11, 102, 102), (11, 109, 109), (11, 116, 116), (11, 123, 123), (11, 130, 130), (11, 137, 137), (11, 144, 144), (11, 151, 151), (11, 158, 158), (11, 165, 165)], []), [(.inr none, 245, ([], [], []))])
set_option maxRecDepth 100000 in
theorem p2_s747_e : ck_ok p2_O none [] [] 45 [] 116 p2_s747 = true := by decide +kernel
theorem p2_s747_s {X : Int → Int} {LX : Nat} : ck_Ok p2_O X LX 45 p2_s747 := ck_ok_s ⟨p2_nmu, ck_E0⟩ ck_X0 ck_l0 p2_s747_e
set_option maxRecDepth 100000 in
/-- GlacierMail$Rows.put -/
def p2_s748 : ck_Sum := ((0, 0, 0), 245, [.inr (.inr (.inl 10)), .inl (0, 23, []), .inl (ck_one 5), .inl (ck_one (-1))], ([], [], []), ([(11, 5, 5), (11, 12, 12), (11, 19, 19), (11, 26, 26), (11, 33, 33), (11, 40, 40), (11, 47, 47), (11, 54, 54), (11, 61, 61), (11, 68, 68), (11, 75, 75), (11, 82, 82), (11, 89, 89), (11, 96, 96), (11, 103, 103), (11, 110, 110), (11, 117, 117), (11, 124, 124), (11, 131, 131), (11, 138, 138), (11, 145, 145), (11, 152, 152), (11, 159, 159), (11, 166, 166)], []), [(.inr none, 245, ([], [], []))])
set_option maxRecDepth 100000 in
theorem p2_s748_e : ck_ok p2_O none [] [] 45 [] 116 p2_s748 = true := by decide +kernel
theorem p2_s748_s {X : Int → Int} {LX : Nat} : ck_Ok p2_O X LX 45 p2_s748 := ck_ok_s ⟨p2_nmu, ck_E0⟩ ck_X0 ck_l0 p2_s748_e
set_option maxRecDepth 100000 in
/-- GlacierMail$Rows.put -/
def p2_s749 : ck_Sum := ((0, 0, 0), 245, [.inr (.inr (.inl 10)), .inl (0, 23, []), .inl (ck_one 6), .inl (ck_one (-1))], ([], [], []), ([(11, 6, 6), (11, 13, 13), (11, 20, 20), (11, 27, 27), (11, 34, 34), (11, 41, 41), (11, 48, 48), (11, 55, 55), (11, 62, 62), (11, 69, 69), (11, 76, 76), (11, 83, 83), (11, 90, 90), (11, 97, 97), (11, 104, 104), (11, 111, 111), (11, 118, 118), (11, 125, 125), (11, 132, 132), (11, 139, 139), (11, 146, 146), (11, 153, 153), (11, 160, 160), (11, 167, 167)], []), [(.inr none, 245, ([], [], []))])
set_option maxRecDepth 100000 in
theorem p2_s749_e : ck_ok p2_O none [] [] 45 [] 116 p2_s749 = true := by decide +kernel
theorem p2_s749_s {X : Int → Int} {LX : Nat} : ck_Ok p2_O X LX 45 p2_s749 := ck_ok_s ⟨p2_nmu, ck_E0⟩ ck_X0 ck_l0 p2_s749_e
set_option maxRecDepth 100000 in
/-- GlacierMail$Rows.put -/
def p2_s750 : ck_Sum := ((0, 0, 0), 245, [.inr (.inr (.inl 10)), .inl (ck_one (-1)), .inl (ck_one 0), .inl (0, 7, [])], ([], [], []), ([], []), [(.inr none, 245, ([], [], []))])
set_option maxRecDepth 100000 in
theorem p2_s750_e : ck_ok p2_O none [] [] 45 [] 76 p2_s750 = true := by decide +kernel
theorem p2_s750_s {X : Int → Int} {LX : Nat} : ck_Ok p2_O X LX 45 p2_s750 := ck_ok_s ⟨p2_nmu, ck_E0⟩ ck_X0 ck_l0 p2_s750_e
set_option maxRecDepth 100000 in
/-- GlacierMail$Rows.put -/
def p2_s751 : ck_Sum := ((0, 0, 0), 245, [.inr (.inr (.inl 10)), .inl (ck_one (-1)), .inl (ck_one 1), .inl (0, 7, [])], ([], [], []), ([], []), [(.inr none, 245, ([], [], []))])
set_option maxRecDepth 100000 in
theorem p2_s751_e : ck_ok p2_O none [] [] 45 [] 76 p2_s751 = true := by decide +kernel
theorem p2_s751_s {X : Int → Int} {LX : Nat} : ck_Ok p2_O X LX 45 p2_s751 := ck_ok_s ⟨p2_nmu, ck_E0⟩ ck_X0 ck_l0 p2_s751_e
set_option maxRecDepth 100000 in
/-- GlacierMail$Rows.put -/
def p2_s752 : ck_Sum := ((0, 0, 0), 245, [.inr (.inr (.inl 10)), .inl (ck_one (-1)), .inl (ck_one 2), .inl ((-1), 98, [])], ([], [], []), ([], []), [(.inr none, 245, ([], [], []))])
set_option maxRecDepth 100000 in
theorem p2_s752_e : ck_ok p2_O none [] [] 45 [] 76 p2_s752 = true := by decide +kernel
theorem p2_s752_s {X : Int → Int} {LX : Nat} : ck_Ok p2_O X LX 45 p2_s752 := ck_ok_s ⟨p2_nmu, ck_E0⟩ ck_X0 ck_l0 p2_s752_e
set_option maxRecDepth 100000 in
/-- GlacierMail$Rows.put -/
def p2_s753 : ck_Sum := ((0, 0, 0), 245, [.inr (.inr (.inl 10)), .inl (ck_one (-1)), .inl (ck_one 3), .inl (0, 299, [])], ([], [], []), ([], []), [(.inr none, 245, ([], [], []))])
set_option maxRecDepth 100000 in
theorem p2_s753_e : ck_ok p2_O none [] [] 45 [] 76 p2_s753 = true := by decide +kernel
theorem p2_s753_s {X : Int → Int} {LX : Nat} : ck_Ok p2_O X LX 45 p2_s753 := ck_ok_s ⟨p2_nmu, ck_E0⟩ ck_X0 ck_l0 p2_s753_e
set_option maxRecDepth 100000 in
/-- GlacierMail$Rows.put -/
def p2_s754 : ck_Sum := ((0, 0, 0), 245, [.inr (.inr (.inl 10)), .inl (ck_one (-1)), .inl (ck_one 4), .inl ((-1), 98, [])], ([], [], []), ([], []), [(.inr none, 245, ([], [], []))])
set_option maxRecDepth 100000 in
theorem p2_s754_e : ck_ok p2_O none [] [] 45 [] 76 p2_s754 = true := by decide +kernel
theorem p2_s754_s {X : Int → Int} {LX : Nat} : ck_Ok p2_O X LX 45 p2_s754 := ck_ok_s ⟨p2_nmu, ck_E0⟩ ck_X0 ck_l0 p2_s754_e
