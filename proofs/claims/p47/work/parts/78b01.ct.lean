/-! THE CONSTRUCTORS (laid by wip/am/p2o.py). -/
set_option maxRecDepth 100000 in
/-- GlacierMail$Rows.<init> -/
def pc_s60 : ck_Sum := ((1, 1, 36), 118, [.inr (.inr (.inl 118)), .inl (ck_one 6), .inl (ck_one 6)], ([(118, 6, 0)], [], []), ([(118, 0, 1), (118, 3, 3)], [(118, 2)]), [(.inr none, 119, ([(119, 0, 36)], [(118, 2, 119)], [(118, 1, 1, ck_one 6), (118, 0, 0, ck_one 6), (118, 3, 3, ck_one 0), (119, 0, 35, ck_one 0)]))])
set_option maxRecDepth 100000 in
theorem pc_s60_e : ck_ok ck_O0 none [] [] 2 [] 106 pc_s60 = true := by decide +kernel
theorem pc_s60_s {X : Int → Int} {LX : Nat} : ck_Ok ck_O0 X LX 2 pc_s60 := ck_ok_s ⟨(fun _ h => nomatch h), ck_E0⟩ ck_X0 ck_l0 pc_s60_e
set_option maxRecDepth 100000 in
/-- GlacierMail$Rows.<init> -/
def pc_s61 : ck_Sum := ((1, 1, 72), 120, [.inr (.inr (.inl 120)), .inl (ck_one 24), .inl (ck_one 3)], ([(120, 6, 0)], [], []), ([(120, 0, 1), (120, 3, 3)], [(120, 2)]), [(.inr none, 121, ([(121, 0, 72)], [(120, 2, 121)], [(120, 1, 1, ck_one 3), (120, 0, 0, ck_one 24), (120, 3, 3, ck_one 0), (121, 0, 71, ck_one 0)]))])
set_option maxRecDepth 100000 in
theorem pc_s61_e : ck_ok ck_O0 none [] [] 2 [] 106 pc_s61 = true := by decide +kernel
theorem pc_s61_s {X : Int → Int} {LX : Nat} : ck_Ok ck_O0 X LX 2 pc_s61 := ck_ok_s ⟨(fun _ h => nomatch h), ck_E0⟩ ck_X0 ck_l0 pc_s61_e
set_option maxRecDepth 100000 in
/-- GlacierMail$State.<init> -/
def pc_s62 : ck_Sum := ((2, 12, 404), 109, [.inr (.inr (.inl 109))], ([(109, 5, 0)], [], []), ([(109, 0, 7)], [(109, 8), (109, 9), (109, 10), (109, 11), (109, 12), (109, 13), (109, 14)]), [(.inr none, 121, ([(110, 6, 0), (111, 0, 56), (112, 6, 0), (113, 0, 24), (114, 6, 0), (115, 0, 24), (116, 6, 0), (117, 0, 168), (118, 6, 0), (119, 0, 36), (120, 6, 0), (121, 0, 72)], [(109, 8, 0), (109, 9, 110), (109, 10, 112), (109, 11, 114), (109, 12, 116), (109, 13, 118), (109, 14, 120), (110, 2, 111), (112, 2, 113), (114, 2, 115), (116, 2, 117), (118, 2, 119), (120, 2, 121)], [(120, 1, 1, ck_one 3), (120, 0, 0, ck_one 24), (120, 3, 3, ck_one 0), (120, 2, 2, ck_one 0), (118, 1, 1, ck_one 6), (118, 0, 0, ck_one 6), (118, 3, 3, ck_one 0), (118, 2, 2, ck_one 0), (116, 1, 1, ck_one 7), (116, 0, 0, ck_one 24), (116, 3, 3, ck_one 0), (116, 2, 2, ck_one 0), (114, 1, 1, ck_one 3), (114, 0, 0, ck_one 8), (114, 3, 3, ck_one 0), (114, 2, 2, ck_one 0), (112, 1, 1, ck_one 3), (112, 0, 0, ck_one 8), (112, 3, 3, ck_one 0), (112, 2, 2, ck_one 0), (110, 1, 1, ck_one 7), (110, 0, 0, ck_one 8), (110, 3, 3, ck_one 0), (110, 2, 2, ck_one 0), (109, 7, 7, ck_one 0), (109, 6, 6, ck_one 0), (109, 5, 5, ck_one 1), (109, 4, 4, ck_one 3), (109, 3, 3, ck_one 2), (109, 2, 2, ck_one 10), (109, 1, 1, ck_one 40), (109, 0, 0, ck_one 3), (115, 0, 23, ck_one 0), (113, 0, 23, ck_one 0), (119, 0, 35, ck_one 0), (111, 0, 55, ck_one 0), (121, 0, 71, ck_one 0), (117, 0, 167, ck_one 0)]))])
set_option maxRecDepth 100000 in
theorem pc_s62_e : ck_ok ck_O0 none [] [(2, [pc_s56, pc_s57, pc_s58, pc_s59, pc_s60, pc_s61])] 1 [] 214 pc_s62 = true := by decide +kernel
theorem pc_s62_s {X : Int → Int} {LX : Nat} : ck_Ok ck_O0 X LX 1 pc_s62 := ck_ok_s ⟨(fun _ h => nomatch h), ck_E1 (ck_S1 pc_s56_s (ck_S1 pc_s57_s (ck_S1 pc_s58_s (ck_S1 pc_s59_s (ck_S1 pc_s60_s (ck_S1 pc_s61_s ck_S0)))))) ck_E0⟩ ck_X0 ck_l0 pc_s62_e
set_option maxRecDepth 100000 in
/-- GlacierMail$Rows.<init> -/
def pc_s63 : ck_Sum := ((1, 1, 56), 123, [.inr (.inr (.inl 123)), .inl (ck_one 8), .inl (ck_one 7)], ([(123, 6, 0)], [], []), ([(123, 0, 1), (123, 3, 3)], [(123, 2)]), [(.inr none, 124, ([(124, 0, 56)], [(123, 2, 124)], [(123, 1, 1, ck_one 7), (123, 0, 0, ck_one 8), (123, 3, 3, ck_one 0), (124, 0, 55, ck_one 0)]))])
set_option maxRecDepth 100000 in
theorem pc_s63_e : ck_ok ck_O0 none [] [] 2 [] 106 pc_s63 = true := by decide +kernel
theorem pc_s63_s {X : Int → Int} {LX : Nat} : ck_Ok ck_O0 X LX 2 pc_s63 := ck_ok_s ⟨(fun _ h => nomatch h), ck_E0⟩ ck_X0 ck_l0 pc_s63_e
set_option maxRecDepth 100000 in
/-- GlacierMail$Rows.<init> -/
def pc_s64 : ck_Sum := ((1, 1, 24), 125, [.inr (.inr (.inl 125)), .inl (ck_one 8), .inl (ck_one 3)], ([(125, 6, 0)], [], []), ([(125, 0, 1), (125, 3, 3)], [(125, 2)]), [(.inr none, 126, ([(126, 0, 24)], [(125, 2, 126)], [(125, 1, 1, ck_one 3), (125, 0, 0, ck_one 8), (125, 3, 3, ck_one 0), (126, 0, 23, ck_one 0)]))])
set_option maxRecDepth 100000 in
theorem pc_s64_e : ck_ok ck_O0 none [] [] 2 [] 106 pc_s64 = true := by decide +kernel
theorem pc_s64_s {X : Int → Int} {LX : Nat} : ck_Ok ck_O0 X LX 2 pc_s64 := ck_ok_s ⟨(fun _ h => nomatch h), ck_E0⟩ ck_X0 ck_l0 pc_s64_e
set_option maxRecDepth 100000 in
/-- GlacierMail$Rows.<init> -/
def pc_s65 : ck_Sum := ((1, 1, 24), 127, [.inr (.inr (.inl 127)), .inl (ck_one 8), .inl (ck_one 3)], ([(127, 6, 0)], [], []), ([(127, 0, 1), (127, 3, 3)], [(127, 2)]), [(.inr none, 128, ([(128, 0, 24)], [(127, 2, 128)], [(127, 1, 1, ck_one 3), (127, 0, 0, ck_one 8), (127, 3, 3, ck_one 0), (128, 0, 23, ck_one 0)]))])
set_option maxRecDepth 100000 in
theorem pc_s65_e : ck_ok ck_O0 none [] [] 2 [] 106 pc_s65 = true := by decide +kernel
theorem pc_s65_s {X : Int → Int} {LX : Nat} : ck_Ok ck_O0 X LX 2 pc_s65 := ck_ok_s ⟨(fun _ h => nomatch h), ck_E0⟩ ck_X0 ck_l0 pc_s65_e
set_option maxRecDepth 100000 in
/-- GlacierMail$Rows.<init> -/
def pc_s66 : ck_Sum := ((1, 1, 168), 129, [.inr (.inr (.inl 129)), .inl (ck_one 24), .inl (ck_one 7)], ([(129, 6, 0)], [], []), ([(129, 0, 1), (129, 3, 3)], [(129, 2)]), [(.inr none, 130, ([(130, 0, 168)], [(129, 2, 130)], [(129, 1, 1, ck_one 7), (129, 0, 0, ck_one 24), (129, 3, 3, ck_one 0), (130, 0, 167, ck_one 0)]))])
set_option maxRecDepth 100000 in
theorem pc_s66_e : ck_ok ck_O0 none [] [] 2 [] 106 pc_s66 = true := by decide +kernel
theorem pc_s66_s {X : Int → Int} {LX : Nat} : ck_Ok ck_O0 X LX 2 pc_s66 := ck_ok_s ⟨(fun _ h => nomatch h), ck_E0⟩ ck_X0 ck_l0 pc_s66_e
set_option maxRecDepth 100000 in
/-- GlacierMail$Rows.<init> -/
def pc_s67 : ck_Sum := ((1, 1, 36), 131, [.inr (.inr (.inl 131)), .inl (ck_one 6), .inl (ck_one 6)], ([(131, 6, 0)], [], []), ([(131, 0, 1), (131, 3, 3)], [(131, 2)]), [(.inr none, 132, ([(132, 0, 36)], [(131, 2, 132)], [(131, 1, 1, ck_one 6), (131, 0, 0, ck_one 6), (131, 3, 3, ck_one 0), (132, 0, 35, ck_one 0)]))])
set_option maxRecDepth 100000 in
theorem pc_s67_e : ck_ok ck_O0 none [] [] 2 [] 106 pc_s67 = true := by decide +kernel
theorem pc_s67_s {X : Int → Int} {LX : Nat} : ck_Ok ck_O0 X LX 2 pc_s67 := ck_ok_s ⟨(fun _ h => nomatch h), ck_E0⟩ ck_X0 ck_l0 pc_s67_e
set_option maxRecDepth 100000 in
/-- GlacierMail$Rows.<init> -/
def pc_s68 : ck_Sum := ((1, 1, 72), 133, [.inr (.inr (.inl 133)), .inl (ck_one 24), .inl (ck_one 3)], ([(133, 6, 0)], [], []), ([(133, 0, 1), (133, 3, 3)], [(133, 2)]), [(.inr none, 134, ([(134, 0, 72)], [(133, 2, 134)], [(133, 1, 1, ck_one 3), (133, 0, 0, ck_one 24), (133, 3, 3, ck_one 0), (134, 0, 71, ck_one 0)]))])
set_option maxRecDepth 100000 in
theorem pc_s68_e : ck_ok ck_O0 none [] [] 2 [] 106 pc_s68 = true := by decide +kernel
theorem pc_s68_s {X : Int → Int} {LX : Nat} : ck_Ok ck_O0 X LX 2 pc_s68 := ck_ok_s ⟨(fun _ h => nomatch h), ck_E0⟩ ck_X0 ck_l0 pc_s68_e
set_option maxRecDepth 100000 in
/-- GlacierMail$State.<init> -/
def pc_s69 : ck_Sum := ((2, 12, 404), 122, [.inr (.inr (.inl 122))], ([(122, 5, 0)], [], []), ([(122, 0, 7)], [(122, 8), (122, 9), (122, 10), (122, 11), (122, 12), (122, 13), (122, 14)]), [(.inr none, 134, ([(123, 6, 0), (124, 0, 56), (125, 6, 0), (126, 0, 24), (127, 6, 0), (128, 0, 24), (129, 6, 0), (130, 0, 168), (131, 6, 0), (132, 0, 36), (133, 6, 0), (134, 0, 72)], [(122, 8, 0), (122, 9, 123), (122, 10, 125), (122, 11, 127), (122, 12, 129), (122, 13, 131), (122, 14, 133), (123, 2, 124), (125, 2, 126), (127, 2, 128), (129, 2, 130), (131, 2, 132), (133, 2, 134)], [(133, 1, 1, ck_one 3), (133, 0, 0, ck_one 24), (133, 3, 3, ck_one 0), (133, 2, 2, ck_one 0), (131, 1, 1, ck_one 6), (131, 0, 0, ck_one 6), (131, 3, 3, ck_one 0), (131, 2, 2, ck_one 0), (129, 1, 1, ck_one 7), (129, 0, 0, ck_one 24), (129, 3, 3, ck_one 0), (129, 2, 2, ck_one 0), (127, 1, 1, ck_one 3), (127, 0, 0, ck_one 8), (127, 3, 3, ck_one 0), (127, 2, 2, ck_one 0), (125, 1, 1, ck_one 3), (125, 0, 0, ck_one 8), (125, 3, 3, ck_one 0), (125, 2, 2, ck_one 0), (123, 1, 1, ck_one 7), (123, 0, 0, ck_one 8), (123, 3, 3, ck_one 0), (123, 2, 2, ck_one 0), (122, 7, 7, ck_one 0), (122, 6, 6, ck_one 0), (122, 5, 5, ck_one 1), (122, 4, 4, ck_one 3), (122, 3, 3, ck_one 2), (122, 2, 2, ck_one 10), (122, 1, 1, ck_one 40), (122, 0, 0, ck_one 3), (128, 0, 23, ck_one 0), (126, 0, 23, ck_one 0), (132, 0, 35, ck_one 0), (124, 0, 55, ck_one 0), (134, 0, 71, ck_one 0), (130, 0, 167, ck_one 0)]))])
set_option maxRecDepth 100000 in
theorem pc_s69_e : ck_ok ck_O0 none [] [(2, [pc_s63, pc_s64, pc_s65, pc_s66, pc_s67, pc_s68])] 1 [] 214 pc_s69 = true := by decide +kernel
theorem pc_s69_s {X : Int → Int} {LX : Nat} : ck_Ok ck_O0 X LX 1 pc_s69 := ck_ok_s ⟨(fun _ h => nomatch h), ck_E1 (ck_S1 pc_s63_s (ck_S1 pc_s64_s (ck_S1 pc_s65_s (ck_S1 pc_s66_s (ck_S1 pc_s67_s (ck_S1 pc_s68_s ck_S0)))))) ck_E0⟩ ck_X0 ck_l0 pc_s69_e
set_option maxRecDepth 100000 in
/-- GlacierMail$Rows.<init> -/
def pc_s70 : ck_Sum := ((1, 1, 56), 136, [.inr (.inr (.inl 136)), .inl (ck_one 8), .inl (ck_one 7)], ([(136, 6, 0)], [], []), ([(136, 0, 1), (136, 3, 3)], [(136, 2)]), [(.inr none, 137, ([(137, 0, 56)], [(136, 2, 137)], [(136, 1, 1, ck_one 7), (136, 0, 0, ck_one 8), (136, 3, 3, ck_one 0), (137, 0, 55, ck_one 0)]))])
set_option maxRecDepth 100000 in
theorem pc_s70_e : ck_ok ck_O0 none [] [] 2 [] 106 pc_s70 = true := by decide +kernel
theorem pc_s70_s {X : Int → Int} {LX : Nat} : ck_Ok ck_O0 X LX 2 pc_s70 := ck_ok_s ⟨(fun _ h => nomatch h), ck_E0⟩ ck_X0 ck_l0 pc_s70_e
set_option maxRecDepth 100000 in
/-- GlacierMail$Rows.<init> -/
def pc_s71 : ck_Sum := ((1, 1, 24), 138, [.inr (.inr (.inl 138)), .inl (ck_one 8), .inl (ck_one 3)], ([(138, 6, 0)], [], []), ([(138, 0, 1), (138, 3, 3)], [(138, 2)]), [(.inr none, 139, ([(139, 0, 24)], [(138, 2, 139)], [(138, 1, 1, ck_one 3), (138, 0, 0, ck_one 8), (138, 3, 3, ck_one 0), (139, 0, 23, ck_one 0)]))])
set_option maxRecDepth 100000 in
theorem pc_s71_e : ck_ok ck_O0 none [] [] 2 [] 106 pc_s71 = true := by decide +kernel
theorem pc_s71_s {X : Int → Int} {LX : Nat} : ck_Ok ck_O0 X LX 2 pc_s71 := ck_ok_s ⟨(fun _ h => nomatch h), ck_E0⟩ ck_X0 ck_l0 pc_s71_e
set_option maxRecDepth 100000 in
/-- GlacierMail$Rows.<init> -/
def pc_s72 : ck_Sum := ((1, 1, 24), 140, [.inr (.inr (.inl 140)), .inl (ck_one 8), .inl (ck_one 3)], ([(140, 6, 0)], [], []), ([(140, 0, 1), (140, 3, 3)], [(140, 2)]), [(.inr none, 141, ([(141, 0, 24)], [(140, 2, 141)], [(140, 1, 1, ck_one 3), (140, 0, 0, ck_one 8), (140, 3, 3, ck_one 0), (141, 0, 23, ck_one 0)]))])
set_option maxRecDepth 100000 in
theorem pc_s72_e : ck_ok ck_O0 none [] [] 2 [] 106 pc_s72 = true := by decide +kernel
theorem pc_s72_s {X : Int → Int} {LX : Nat} : ck_Ok ck_O0 X LX 2 pc_s72 := ck_ok_s ⟨(fun _ h => nomatch h), ck_E0⟩ ck_X0 ck_l0 pc_s72_e
set_option maxRecDepth 100000 in
/-- GlacierMail$Rows.<init> -/
def pc_s73 : ck_Sum := ((1, 1, 168), 142, [.inr (.inr (.inl 142)), .inl (ck_one 24), .inl (ck_one 7)], ([(142, 6, 0)], [], []), ([(142, 0, 1), (142, 3, 3)], [(142, 2)]), [(.inr none, 143, ([(143, 0, 168)], [(142, 2, 143)], [(142, 1, 1, ck_one 7), (142, 0, 0, ck_one 24), (142, 3, 3, ck_one 0), (143, 0, 167, ck_one 0)]))])
set_option maxRecDepth 100000 in
theorem pc_s73_e : ck_ok ck_O0 none [] [] 2 [] 106 pc_s73 = true := by decide +kernel
theorem pc_s73_s {X : Int → Int} {LX : Nat} : ck_Ok ck_O0 X LX 2 pc_s73 := ck_ok_s ⟨(fun _ h => nomatch h), ck_E0⟩ ck_X0 ck_l0 pc_s73_e
set_option maxRecDepth 100000 in
/-- GlacierMail$Rows.<init> -/
def pc_s74 : ck_Sum := ((1, 1, 36), 144, [.inr (.inr (.inl 144)), .inl (ck_one 6), .inl (ck_one 6)], ([(144, 6, 0)], [], []), ([(144, 0, 1), (144, 3, 3)], [(144, 2)]), [(.inr none, 145, ([(145, 0, 36)], [(144, 2, 145)], [(144, 1, 1, ck_one 6), (144, 0, 0, ck_one 6), (144, 3, 3, ck_one 0), (145, 0, 35, ck_one 0)]))])
set_option maxRecDepth 100000 in
theorem pc_s74_e : ck_ok ck_O0 none [] [] 2 [] 106 pc_s74 = true := by decide +kernel
theorem pc_s74_s {X : Int → Int} {LX : Nat} : ck_Ok ck_O0 X LX 2 pc_s74 := ck_ok_s ⟨(fun _ h => nomatch h), ck_E0⟩ ck_X0 ck_l0 pc_s74_e
set_option maxRecDepth 100000 in
/-- GlacierMail$Rows.<init> -/
def pc_s75 : ck_Sum := ((1, 1, 72), 146, [.inr (.inr (.inl 146)), .inl (ck_one 24), .inl (ck_one 3)], ([(146, 6, 0)], [], []), ([(146, 0, 1), (146, 3, 3)], [(146, 2)]), [(.inr none, 147, ([(147, 0, 72)], [(146, 2, 147)], [(146, 1, 1, ck_one 3), (146, 0, 0, ck_one 24), (146, 3, 3, ck_one 0), (147, 0, 71, ck_one 0)]))])
set_option maxRecDepth 100000 in
theorem pc_s75_e : ck_ok ck_O0 none [] [] 2 [] 106 pc_s75 = true := by decide +kernel
theorem pc_s75_s {X : Int → Int} {LX : Nat} : ck_Ok ck_O0 X LX 2 pc_s75 := ck_ok_s ⟨(fun _ h => nomatch h), ck_E0⟩ ck_X0 ck_l0 pc_s75_e
set_option maxRecDepth 100000 in
/-- GlacierMail$State.<init> -/
def pc_s76 : ck_Sum := ((2, 12, 404), 135, [.inr (.inr (.inl 135))], ([(135, 5, 0)], [], []), ([(135, 0, 7)], [(135, 8), (135, 9), (135, 10), (135, 11), (135, 12), (135, 13), (135, 14)]), [(.inr none, 147, ([(136, 6, 0), (137, 0, 56), (138, 6, 0), (139, 0, 24), (140, 6, 0), (141, 0, 24), (142, 6, 0), (143, 0, 168), (144, 6, 0), (145, 0, 36), (146, 6, 0), (147, 0, 72)], [(135, 8, 0), (135, 9, 136), (135, 10, 138), (135, 11, 140), (135, 12, 142), (135, 13, 144), (135, 14, 146), (136, 2, 137), (138, 2, 139), (140, 2, 141), (142, 2, 143), (144, 2, 145), (146, 2, 147)], [(146, 1, 1, ck_one 3), (146, 0, 0, ck_one 24), (146, 3, 3, ck_one 0), (146, 2, 2, ck_one 0), (144, 1, 1, ck_one 6), (144, 0, 0, ck_one 6), (144, 3, 3, ck_one 0), (144, 2, 2, ck_one 0), (142, 1, 1, ck_one 7), (142, 0, 0, ck_one 24), (142, 3, 3, ck_one 0), (142, 2, 2, ck_one 0), (140, 1, 1, ck_one 3), (140, 0, 0, ck_one 8), (140, 3, 3, ck_one 0), (140, 2, 2, ck_one 0), (138, 1, 1, ck_one 3), (138, 0, 0, ck_one 8), (138, 3, 3, ck_one 0), (138, 2, 2, ck_one 0), (136, 1, 1, ck_one 7), (136, 0, 0, ck_one 8), (136, 3, 3, ck_one 0), (136, 2, 2, ck_one 0), (135, 7, 7, ck_one 0), (135, 6, 6, ck_one 0), (135, 5, 5, ck_one 1), (135, 4, 4, ck_one 3), (135, 3, 3, ck_one 2), (135, 2, 2, ck_one 10), (135, 1, 1, ck_one 40), (135, 0, 0, ck_one 3), (141, 0, 23, ck_one 0), (139, 0, 23, ck_one 0), (145, 0, 35, ck_one 0), (137, 0, 55, ck_one 0), (147, 0, 71, ck_one 0), (143, 0, 167, ck_one 0)]))])
set_option maxRecDepth 100000 in
theorem pc_s76_e : ck_ok ck_O0 none [] [(2, [pc_s70, pc_s71, pc_s72, pc_s73, pc_s74, pc_s75])] 1 [] 214 pc_s76 = true := by decide +kernel
theorem pc_s76_s {X : Int → Int} {LX : Nat} : ck_Ok ck_O0 X LX 1 pc_s76 := ck_ok_s ⟨(fun _ h => nomatch h), ck_E1 (ck_S1 pc_s70_s (ck_S1 pc_s71_s (ck_S1 pc_s72_s (ck_S1 pc_s73_s (ck_S1 pc_s74_s (ck_S1 pc_s75_s ck_S0)))))) ck_E0⟩ ck_X0 ck_l0 pc_s76_e
set_option maxRecDepth 100000 in
/-- GlacierMail$Rows.<init> -/
def pc_s77 : ck_Sum := ((1, 1, 56), 149, [.inr (.inr (.inl 149)), .inl (ck_one 8), .inl (ck_one 7)], ([(149, 6, 0)], [], []), ([(149, 0, 1), (149, 3, 3)], [(149, 2)]), [(.inr none, 150, ([(150, 0, 56)], [(149, 2, 150)], [(149, 1, 1, ck_one 7), (149, 0, 0, ck_one 8), (149, 3, 3, ck_one 0), (150, 0, 55, ck_one 0)]))])
set_option maxRecDepth 100000 in
theorem pc_s77_e : ck_ok ck_O0 none [] [] 2 [] 106 pc_s77 = true := by decide +kernel
theorem pc_s77_s {X : Int → Int} {LX : Nat} : ck_Ok ck_O0 X LX 2 pc_s77 := ck_ok_s ⟨(fun _ h => nomatch h), ck_E0⟩ ck_X0 ck_l0 pc_s77_e
set_option maxRecDepth 100000 in
/-- GlacierMail$Rows.<init> -/
def pc_s78 : ck_Sum := ((1, 1, 24), 151, [.inr (.inr (.inl 151)), .inl (ck_one 8), .inl (ck_one 3)], ([(151, 6, 0)], [], []), ([(151, 0, 1), (151, 3, 3)], [(151, 2)]), [(.inr none, 152, ([(152, 0, 24)], [(151, 2, 152)], [(151, 1, 1, ck_one 3), (151, 0, 0, ck_one 8), (151, 3, 3, ck_one 0), (152, 0, 23, ck_one 0)]))])
set_option maxRecDepth 100000 in
theorem pc_s78_e : ck_ok ck_O0 none [] [] 2 [] 106 pc_s78 = true := by decide +kernel
theorem pc_s78_s {X : Int → Int} {LX : Nat} : ck_Ok ck_O0 X LX 2 pc_s78 := ck_ok_s ⟨(fun _ h => nomatch h), ck_E0⟩ ck_X0 ck_l0 pc_s78_e
set_option maxRecDepth 100000 in
/-- GlacierMail$Rows.<init> -/
def pc_s79 : ck_Sum := ((1, 1, 24), 153, [.inr (.inr (.inl 153)), .inl (ck_one 8), .inl (ck_one 3)], ([(153, 6, 0)], [], []), ([(153, 0, 1), (153, 3, 3)], [(153, 2)]), [(.inr none, 154, ([(154, 0, 24)], [(153, 2, 154)], [(153, 1, 1, ck_one 3), (153, 0, 0, ck_one 8), (153, 3, 3, ck_one 0), (154, 0, 23, ck_one 0)]))])
set_option maxRecDepth 100000 in
theorem pc_s79_e : ck_ok ck_O0 none [] [] 2 [] 106 pc_s79 = true := by decide +kernel
theorem pc_s79_s {X : Int → Int} {LX : Nat} : ck_Ok ck_O0 X LX 2 pc_s79 := ck_ok_s ⟨(fun _ h => nomatch h), ck_E0⟩ ck_X0 ck_l0 pc_s79_e
set_option maxRecDepth 100000 in
/-- GlacierMail$Rows.<init> -/
def pc_s80 : ck_Sum := ((1, 1, 168), 155, [.inr (.inr (.inl 155)), .inl (ck_one 24), .inl (ck_one 7)], ([(155, 6, 0)], [], []), ([(155, 0, 1), (155, 3, 3)], [(155, 2)]), [(.inr none, 156, ([(156, 0, 168)], [(155, 2, 156)], [(155, 1, 1, ck_one 7), (155, 0, 0, ck_one 24), (155, 3, 3, ck_one 0), (156, 0, 167, ck_one 0)]))])
set_option maxRecDepth 100000 in
theorem pc_s80_e : ck_ok ck_O0 none [] [] 2 [] 106 pc_s80 = true := by decide +kernel
theorem pc_s80_s {X : Int → Int} {LX : Nat} : ck_Ok ck_O0 X LX 2 pc_s80 := ck_ok_s ⟨(fun _ h => nomatch h), ck_E0⟩ ck_X0 ck_l0 pc_s80_e
set_option maxRecDepth 100000 in
/-- GlacierMail$Rows.<init> -/
def pc_s81 : ck_Sum := ((1, 1, 36), 157, [.inr (.inr (.inl 157)), .inl (ck_one 6), .inl (ck_one 6)], ([(157, 6, 0)], [], []), ([(157, 0, 1), (157, 3, 3)], [(157, 2)]), [(.inr none, 158, ([(158, 0, 36)], [(157, 2, 158)], [(157, 1, 1, ck_one 6), (157, 0, 0, ck_one 6), (157, 3, 3, ck_one 0), (158, 0, 35, ck_one 0)]))])
set_option maxRecDepth 100000 in
theorem pc_s81_e : ck_ok ck_O0 none [] [] 2 [] 106 pc_s81 = true := by decide +kernel
theorem pc_s81_s {X : Int → Int} {LX : Nat} : ck_Ok ck_O0 X LX 2 pc_s81 := ck_ok_s ⟨(fun _ h => nomatch h), ck_E0⟩ ck_X0 ck_l0 pc_s81_e
set_option maxRecDepth 100000 in
/-- GlacierMail$Rows.<init> -/
def pc_s82 : ck_Sum := ((1, 1, 72), 159, [.inr (.inr (.inl 159)), .inl (ck_one 24), .inl (ck_one 3)], ([(159, 6, 0)], [], []), ([(159, 0, 1), (159, 3, 3)], [(159, 2)]), [(.inr none, 160, ([(160, 0, 72)], [(159, 2, 160)], [(159, 1, 1, ck_one 3), (159, 0, 0, ck_one 24), (159, 3, 3, ck_one 0), (160, 0, 71, ck_one 0)]))])
set_option maxRecDepth 100000 in
theorem pc_s82_e : ck_ok ck_O0 none [] [] 2 [] 106 pc_s82 = true := by decide +kernel
theorem pc_s82_s {X : Int → Int} {LX : Nat} : ck_Ok ck_O0 X LX 2 pc_s82 := ck_ok_s ⟨(fun _ h => nomatch h), ck_E0⟩ ck_X0 ck_l0 pc_s82_e
set_option maxRecDepth 100000 in
/-- GlacierMail$State.<init> -/
def pc_s83 : ck_Sum := ((2, 12, 404), 148, [.inr (.inr (.inl 148))], ([(148, 5, 0)], [], []), ([(148, 0, 7)], [(148, 8), (148, 9), (148, 10), (148, 11), (148, 12), (148, 13), (148, 14)]), [(.inr none, 160, ([(149, 6, 0), (150, 0, 56), (151, 6, 0), (152, 0, 24), (153, 6, 0), (154, 0, 24), (155, 6, 0), (156, 0, 168), (157, 6, 0), (158, 0, 36), (159, 6, 0), (160, 0, 72)], [(148, 8, 0), (148, 9, 149), (148, 10, 151), (148, 11, 153), (148, 12, 155), (148, 13, 157), (148, 14, 159), (149, 2, 150), (151, 2, 152), (153, 2, 154), (155, 2, 156), (157, 2, 158), (159, 2, 160)], [(159, 1, 1, ck_one 3), (159, 0, 0, ck_one 24), (159, 3, 3, ck_one 0), (159, 2, 2, ck_one 0), (157, 1, 1, ck_one 6), (157, 0, 0, ck_one 6), (157, 3, 3, ck_one 0), (157, 2, 2, ck_one 0), (155, 1, 1, ck_one 7), (155, 0, 0, ck_one 24), (155, 3, 3, ck_one 0), (155, 2, 2, ck_one 0), (153, 1, 1, ck_one 3), (153, 0, 0, ck_one 8), (153, 3, 3, ck_one 0), (153, 2, 2, ck_one 0), (151, 1, 1, ck_one 3), (151, 0, 0, ck_one 8), (151, 3, 3, ck_one 0), (151, 2, 2, ck_one 0), (149, 1, 1, ck_one 7), (149, 0, 0, ck_one 8), (149, 3, 3, ck_one 0), (149, 2, 2, ck_one 0), (148, 7, 7, ck_one 0), (148, 6, 6, ck_one 0), (148, 5, 5, ck_one 1), (148, 4, 4, ck_one 3), (148, 3, 3, ck_one 2), (148, 2, 2, ck_one 10), (148, 1, 1, ck_one 40), (148, 0, 0, ck_one 3), (154, 0, 23, ck_one 0), (152, 0, 23, ck_one 0), (158, 0, 35, ck_one 0), (150, 0, 55, ck_one 0), (160, 0, 71, ck_one 0), (156, 0, 167, ck_one 0)]))])
set_option maxRecDepth 100000 in
theorem pc_s83_e : ck_ok ck_O0 none [] [(2, [pc_s77, pc_s78, pc_s79, pc_s80, pc_s81, pc_s82])] 1 [] 214 pc_s83 = true := by decide +kernel
theorem pc_s83_s {X : Int → Int} {LX : Nat} : ck_Ok ck_O0 X LX 1 pc_s83 := ck_ok_s ⟨(fun _ h => nomatch h), ck_E1 (ck_S1 pc_s77_s (ck_S1 pc_s78_s (ck_S1 pc_s79_s (ck_S1 pc_s80_s (ck_S1 pc_s81_s (ck_S1 pc_s82_s ck_S0)))))) ck_E0⟩ ck_X0 ck_l0 pc_s83_e
set_option maxRecDepth 100000 in
/-- GlacierMail$Rows.<init> -/
def pc_s84 : ck_Sum := ((1, 1, 56), 162, [.inr (.inr (.inl 162)), .inl (ck_one 8), .inl (ck_one 7)], ([(162, 6, 0)], [], []), ([(162, 0, 1), (162, 3, 3)], [(162, 2)]), [(.inr none, 163, ([(163, 0, 56)], [(162, 2, 163)], [(162, 1, 1, ck_one 7), (162, 0, 0, ck_one 8), (162, 3, 3, ck_one 0), (163, 0, 55, ck_one 0)]))])
set_option maxRecDepth 100000 in
theorem pc_s84_e : ck_ok ck_O0 none [] [] 2 [] 106 pc_s84 = true := by decide +kernel
theorem pc_s84_s {X : Int → Int} {LX : Nat} : ck_Ok ck_O0 X LX 2 pc_s84 := ck_ok_s ⟨(fun _ h => nomatch h), ck_E0⟩ ck_X0 ck_l0 pc_s84_e
set_option maxRecDepth 100000 in
/-- GlacierMail$Rows.<init> -/
def pc_s85 : ck_Sum := ((1, 1, 24), 164, [.inr (.inr (.inl 164)), .inl (ck_one 8), .inl (ck_one 3)], ([(164, 6, 0)], [], []), ([(164, 0, 1), (164, 3, 3)], [(164, 2)]), [(.inr none, 165, ([(165, 0, 24)], [(164, 2, 165)], [(164, 1, 1, ck_one 3), (164, 0, 0, ck_one 8), (164, 3, 3, ck_one 0), (165, 0, 23, ck_one 0)]))])
set_option maxRecDepth 100000 in
theorem pc_s85_e : ck_ok ck_O0 none [] [] 2 [] 106 pc_s85 = true := by decide +kernel
theorem pc_s85_s {X : Int → Int} {LX : Nat} : ck_Ok ck_O0 X LX 2 pc_s85 := ck_ok_s ⟨(fun _ h => nomatch h), ck_E0⟩ ck_X0 ck_l0 pc_s85_e
set_option maxRecDepth 100000 in
/-- GlacierMail$Rows.<init> -/
def pc_s86 : ck_Sum := ((1, 1, 24), 166, [.inr (.inr (.inl 166)), .inl (ck_one 8), .inl (ck_one 3)], ([(166, 6, 0)], [], []), ([(166, 0, 1), (166, 3, 3)], [(166, 2)]), [(.inr none, 167, ([(167, 0, 24)], [(166, 2, 167)], [(166, 1, 1, ck_one 3), (166, 0, 0, ck_one 8), (166, 3, 3, ck_one 0), (167, 0, 23, ck_one 0)]))])
set_option maxRecDepth 100000 in
theorem pc_s86_e : ck_ok ck_O0 none [] [] 2 [] 106 pc_s86 = true := by decide +kernel
theorem pc_s86_s {X : Int → Int} {LX : Nat} : ck_Ok ck_O0 X LX 2 pc_s86 := ck_ok_s ⟨(fun _ h => nomatch h), ck_E0⟩ ck_X0 ck_l0 pc_s86_e
set_option maxRecDepth 100000 in
/-- GlacierMail$Rows.<init> -/
def pc_s87 : ck_Sum := ((1, 1, 168), 168, [.inr (.inr (.inl 168)), .inl (ck_one 24), .inl (ck_one 7)], ([(168, 6, 0)], [], []), ([(168, 0, 1), (168, 3, 3)], [(168, 2)]), [(.inr none, 169, ([(169, 0, 168)], [(168, 2, 169)], [(168, 1, 1, ck_one 7), (168, 0, 0, ck_one 24), (168, 3, 3, ck_one 0), (169, 0, 167, ck_one 0)]))])
set_option maxRecDepth 100000 in
theorem pc_s87_e : ck_ok ck_O0 none [] [] 2 [] 106 pc_s87 = true := by decide +kernel
theorem pc_s87_s {X : Int → Int} {LX : Nat} : ck_Ok ck_O0 X LX 2 pc_s87 := ck_ok_s ⟨(fun _ h => nomatch h), ck_E0⟩ ck_X0 ck_l0 pc_s87_e
set_option maxRecDepth 100000 in
/-- GlacierMail$Rows.<init> -/
def pc_s88 : ck_Sum := ((1, 1, 36), 170, [.inr (.inr (.inl 170)), .inl (ck_one 6), .inl (ck_one 6)], ([(170, 6, 0)], [], []), ([(170, 0, 1), (170, 3, 3)], [(170, 2)]), [(.inr none, 171, ([(171, 0, 36)], [(170, 2, 171)], [(170, 1, 1, ck_one 6), (170, 0, 0, ck_one 6), (170, 3, 3, ck_one 0), (171, 0, 35, ck_one 0)]))])
set_option maxRecDepth 100000 in
theorem pc_s88_e : ck_ok ck_O0 none [] [] 2 [] 106 pc_s88 = true := by decide +kernel
theorem pc_s88_s {X : Int → Int} {LX : Nat} : ck_Ok ck_O0 X LX 2 pc_s88 := ck_ok_s ⟨(fun _ h => nomatch h), ck_E0⟩ ck_X0 ck_l0 pc_s88_e
set_option maxRecDepth 100000 in
/-- GlacierMail$Rows.<init> -/
def pc_s89 : ck_Sum := ((1, 1, 72), 172, [.inr (.inr (.inl 172)), .inl (ck_one 24), .inl (ck_one 3)], ([(172, 6, 0)], [], []), ([(172, 0, 1), (172, 3, 3)], [(172, 2)]), [(.inr none, 173, ([(173, 0, 72)], [(172, 2, 173)], [(172, 1, 1, ck_one 3), (172, 0, 0, ck_one 24), (172, 3, 3, ck_one 0), (173, 0, 71, ck_one 0)]))])
set_option maxRecDepth 100000 in
theorem pc_s89_e : ck_ok ck_O0 none [] [] 2 [] 106 pc_s89 = true := by decide +kernel
theorem pc_s89_s {X : Int → Int} {LX : Nat} : ck_Ok ck_O0 X LX 2 pc_s89 := ck_ok_s ⟨(fun _ h => nomatch h), ck_E0⟩ ck_X0 ck_l0 pc_s89_e
set_option maxRecDepth 100000 in
/-- GlacierMail$State.<init> -/
def pc_s90 : ck_Sum := ((2, 12, 404), 161, [.inr (.inr (.inl 161))], ([(161, 5, 0)], [], []), ([(161, 0, 7)], [(161, 8), (161, 9), (161, 10), (161, 11), (161, 12), (161, 13), (161, 14)]), [(.inr none, 173, ([(162, 6, 0), (163, 0, 56), (164, 6, 0), (165, 0, 24), (166, 6, 0), (167, 0, 24), (168, 6, 0), (169, 0, 168), (170, 6, 0), (171, 0, 36), (172, 6, 0), (173, 0, 72)], [(161, 8, 0), (161, 9, 162), (161, 10, 164), (161, 11, 166), (161, 12, 168), (161, 13, 170), (161, 14, 172), (162, 2, 163), (164, 2, 165), (166, 2, 167), (168, 2, 169), (170, 2, 171), (172, 2, 173)], [(172, 1, 1, ck_one 3), (172, 0, 0, ck_one 24), (172, 3, 3, ck_one 0), (172, 2, 2, ck_one 0), (170, 1, 1, ck_one 6), (170, 0, 0, ck_one 6), (170, 3, 3, ck_one 0), (170, 2, 2, ck_one 0), (168, 1, 1, ck_one 7), (168, 0, 0, ck_one 24), (168, 3, 3, ck_one 0), (168, 2, 2, ck_one 0), (166, 1, 1, ck_one 3), (166, 0, 0, ck_one 8), (166, 3, 3, ck_one 0), (166, 2, 2, ck_one 0), (164, 1, 1, ck_one 3), (164, 0, 0, ck_one 8), (164, 3, 3, ck_one 0), (164, 2, 2, ck_one 0), (162, 1, 1, ck_one 7), (162, 0, 0, ck_one 8), (162, 3, 3, ck_one 0), (162, 2, 2, ck_one 0), (161, 7, 7, ck_one 0), (161, 6, 6, ck_one 0), (161, 5, 5, ck_one 1), (161, 4, 4, ck_one 3), (161, 3, 3, ck_one 2), (161, 2, 2, ck_one 10), (161, 1, 1, ck_one 40), (161, 0, 0, ck_one 3), (167, 0, 23, ck_one 0), (165, 0, 23, ck_one 0), (171, 0, 35, ck_one 0), (163, 0, 55, ck_one 0), (173, 0, 71, ck_one 0), (169, 0, 167, ck_one 0)]))])
set_option maxRecDepth 100000 in
theorem pc_s90_e : ck_ok ck_O0 none [] [(2, [pc_s84, pc_s85, pc_s86, pc_s87, pc_s88, pc_s89])] 1 [] 214 pc_s90 = true := by decide +kernel
theorem pc_s90_s {X : Int → Int} {LX : Nat} : ck_Ok ck_O0 X LX 1 pc_s90 := ck_ok_s ⟨(fun _ h => nomatch h), ck_E1 (ck_S1 pc_s84_s (ck_S1 pc_s85_s (ck_S1 pc_s86_s (ck_S1 pc_s87_s (ck_S1 pc_s88_s (ck_S1 pc_s89_s ck_S0)))))) ck_E0⟩ ck_X0 ck_l0 pc_s90_e
set_option maxRecDepth 100000 in
/-- GlacierMail$Rows.<init> -/
def pc_s91 : ck_Sum := ((1, 1, 56), 175, [.inr (.inr (.inl 175)), .inl (ck_one 8), .inl (ck_one 7)], ([(175, 6, 0)], [], []), ([(175, 0, 1), (175, 3, 3)], [(175, 2)]), [(.inr none, 176, ([(176, 0, 56)], [(175, 2, 176)], [(175, 1, 1, ck_one 7), (175, 0, 0, ck_one 8), (175, 3, 3, ck_one 0), (176, 0, 55, ck_one 0)]))])
set_option maxRecDepth 100000 in
theorem pc_s91_e : ck_ok ck_O0 none [] [] 2 [] 106 pc_s91 = true := by decide +kernel
theorem pc_s91_s {X : Int → Int} {LX : Nat} : ck_Ok ck_O0 X LX 2 pc_s91 := ck_ok_s ⟨(fun _ h => nomatch h), ck_E0⟩ ck_X0 ck_l0 pc_s91_e
set_option maxRecDepth 100000 in
/-- GlacierMail$Rows.<init> -/
def pc_s92 : ck_Sum := ((1, 1, 24), 177, [.inr (.inr (.inl 177)), .inl (ck_one 8), .inl (ck_one 3)], ([(177, 6, 0)], [], []), ([(177, 0, 1), (177, 3, 3)], [(177, 2)]), [(.inr none, 178, ([(178, 0, 24)], [(177, 2, 178)], [(177, 1, 1, ck_one 3), (177, 0, 0, ck_one 8), (177, 3, 3, ck_one 0), (178, 0, 23, ck_one 0)]))])
set_option maxRecDepth 100000 in
theorem pc_s92_e : ck_ok ck_O0 none [] [] 2 [] 106 pc_s92 = true := by decide +kernel
theorem pc_s92_s {X : Int → Int} {LX : Nat} : ck_Ok ck_O0 X LX 2 pc_s92 := ck_ok_s ⟨(fun _ h => nomatch h), ck_E0⟩ ck_X0 ck_l0 pc_s92_e
set_option maxRecDepth 100000 in
/-- GlacierMail$Rows.<init> -/
def pc_s93 : ck_Sum := ((1, 1, 24), 179, [.inr (.inr (.inl 179)), .inl (ck_one 8), .inl (ck_one 3)], ([(179, 6, 0)], [], []), ([(179, 0, 1), (179, 3, 3)], [(179, 2)]), [(.inr none, 180, ([(180, 0, 24)], [(179, 2, 180)], [(179, 1, 1, ck_one 3), (179, 0, 0, ck_one 8), (179, 3, 3, ck_one 0), (180, 0, 23, ck_one 0)]))])
set_option maxRecDepth 100000 in
theorem pc_s93_e : ck_ok ck_O0 none [] [] 2 [] 106 pc_s93 = true := by decide +kernel
theorem pc_s93_s {X : Int → Int} {LX : Nat} : ck_Ok ck_O0 X LX 2 pc_s93 := ck_ok_s ⟨(fun _ h => nomatch h), ck_E0⟩ ck_X0 ck_l0 pc_s93_e
set_option maxRecDepth 100000 in
/-- GlacierMail$Rows.<init> -/
def pc_s94 : ck_Sum := ((1, 1, 168), 181, [.inr (.inr (.inl 181)), .inl (ck_one 24), .inl (ck_one 7)], ([(181, 6, 0)], [], []), ([(181, 0, 1), (181, 3, 3)], [(181, 2)]), [(.inr none, 182, ([(182, 0, 168)], [(181, 2, 182)], [(181, 1, 1, ck_one 7), (181, 0, 0, ck_one 24), (181, 3, 3, ck_one 0), (182, 0, 167, ck_one 0)]))])
set_option maxRecDepth 100000 in
theorem pc_s94_e : ck_ok ck_O0 none [] [] 2 [] 106 pc_s94 = true := by decide +kernel
theorem pc_s94_s {X : Int → Int} {LX : Nat} : ck_Ok ck_O0 X LX 2 pc_s94 := ck_ok_s ⟨(fun _ h => nomatch h), ck_E0⟩ ck_X0 ck_l0 pc_s94_e
set_option maxRecDepth 100000 in
/-- GlacierMail$Rows.<init> -/
def pc_s95 : ck_Sum := ((1, 1, 36), 183, [.inr (.inr (.inl 183)), .inl (ck_one 6), .inl (ck_one 6)], ([(183, 6, 0)], [], []), ([(183, 0, 1), (183, 3, 3)], [(183, 2)]), [(.inr none, 184, ([(184, 0, 36)], [(183, 2, 184)], [(183, 1, 1, ck_one 6), (183, 0, 0, ck_one 6), (183, 3, 3, ck_one 0), (184, 0, 35, ck_one 0)]))])
set_option maxRecDepth 100000 in
theorem pc_s95_e : ck_ok ck_O0 none [] [] 2 [] 106 pc_s95 = true := by decide +kernel
theorem pc_s95_s {X : Int → Int} {LX : Nat} : ck_Ok ck_O0 X LX 2 pc_s95 := ck_ok_s ⟨(fun _ h => nomatch h), ck_E0⟩ ck_X0 ck_l0 pc_s95_e
set_option maxRecDepth 100000 in
/-- GlacierMail$Rows.<init> -/
def pc_s96 : ck_Sum := ((1, 1, 72), 185, [.inr (.inr (.inl 185)), .inl (ck_one 24), .inl (ck_one 3)], ([(185, 6, 0)], [], []), ([(185, 0, 1), (185, 3, 3)], [(185, 2)]), [(.inr none, 186, ([(186, 0, 72)], [(185, 2, 186)], [(185, 1, 1, ck_one 3), (185, 0, 0, ck_one 24), (185, 3, 3, ck_one 0), (186, 0, 71, ck_one 0)]))])
set_option maxRecDepth 100000 in
theorem pc_s96_e : ck_ok ck_O0 none [] [] 2 [] 106 pc_s96 = true := by decide +kernel
theorem pc_s96_s {X : Int → Int} {LX : Nat} : ck_Ok ck_O0 X LX 2 pc_s96 := ck_ok_s ⟨(fun _ h => nomatch h), ck_E0⟩ ck_X0 ck_l0 pc_s96_e
set_option maxRecDepth 100000 in
/-- GlacierMail$State.<init> -/
def pc_s97 : ck_Sum := ((2, 12, 404), 174, [.inr (.inr (.inl 174))], ([(174, 5, 0)], [], []), ([(174, 0, 7)], [(174, 8), (174, 9), (174, 10), (174, 11), (174, 12), (174, 13), (174, 14)]), [(.inr none, 186, ([(175, 6, 0), (176, 0, 56), (177, 6, 0), (178, 0, 24), (179, 6, 0), (180, 0, 24), (181, 6, 0), (182, 0, 168), (183, 6, 0), (184, 0, 36), (185, 6, 0), (186, 0, 72)], [(174, 8, 0), (174, 9, 175), (174, 10, 177), (174, 11, 179), (174, 12, 181), (174, 13, 183), (174, 14, 185), (175, 2, 176), (177, 2, 178), (179, 2, 180), (181, 2, 182), (183, 2, 184), (185, 2, 186)], [(185, 1, 1, ck_one 3), (185, 0, 0, ck_one 24), (185, 3, 3, ck_one 0), (185, 2, 2, ck_one 0), (183, 1, 1, ck_one 6), (183, 0, 0, ck_one 6), (183, 3, 3, ck_one 0), (183, 2, 2, ck_one 0), (181, 1, 1, ck_one 7), (181, 0, 0, ck_one 24), (181, 3, 3, ck_one 0), (181, 2, 2, ck_one 0), (179, 1, 1, ck_one 3), (179, 0, 0, ck_one 8), (179, 3, 3, ck_one 0), (179, 2, 2, ck_one 0), (177, 1, 1, ck_one 3), (177, 0, 0, ck_one 8), (177, 3, 3, ck_one 0), (177, 2, 2, ck_one 0), (175, 1, 1, ck_one 7), (175, 0, 0, ck_one 8), (175, 3, 3, ck_one 0), (175, 2, 2, ck_one 0), (174, 7, 7, ck_one 0), (174, 6, 6, ck_one 0), (174, 5, 5, ck_one 1), (174, 4, 4, ck_one 3), (174, 3, 3, ck_one 2), (174, 2, 2, ck_one 10), (174, 1, 1, ck_one 40), (174, 0, 0, ck_one 3), (180, 0, 23, ck_one 0), (178, 0, 23, ck_one 0), (184, 0, 35, ck_one 0), (176, 0, 55, ck_one 0), (186, 0, 71, ck_one 0), (182, 0, 167, ck_one 0)]))])
set_option maxRecDepth 100000 in
theorem pc_s97_e : ck_ok ck_O0 none [] [(2, [pc_s91, pc_s92, pc_s93, pc_s94, pc_s95, pc_s96])] 1 [] 214 pc_s97 = true := by decide +kernel
theorem pc_s97_s {X : Int → Int} {LX : Nat} : ck_Ok ck_O0 X LX 1 pc_s97 := ck_ok_s ⟨(fun _ h => nomatch h), ck_E1 (ck_S1 pc_s91_s (ck_S1 pc_s92_s (ck_S1 pc_s93_s (ck_S1 pc_s94_s (ck_S1 pc_s95_s (ck_S1 pc_s96_s ck_S0)))))) ck_E0⟩ ck_X0 ck_l0 pc_s97_e
set_option maxRecDepth 100000 in
/-- GlacierMail$Rows.<init> -/
def pc_s98 : ck_Sum := ((1, 1, 56), 188, [.inr (.inr (.inl 188)), .inl (ck_one 8), .inl (ck_one 7)], ([(188, 6, 0)], [], []), ([(188, 0, 1), (188, 3, 3)], [(188, 2)]), [(.inr none, 189, ([(189, 0, 56)], [(188, 2, 189)], [(188, 1, 1, ck_one 7), (188, 0, 0, ck_one 8), (188, 3, 3, ck_one 0), (189, 0, 55, ck_one 0)]))])
set_option maxRecDepth 100000 in
theorem pc_s98_e : ck_ok ck_O0 none [] [] 2 [] 106 pc_s98 = true := by decide +kernel
theorem pc_s98_s {X : Int → Int} {LX : Nat} : ck_Ok ck_O0 X LX 2 pc_s98 := ck_ok_s ⟨(fun _ h => nomatch h), ck_E0⟩ ck_X0 ck_l0 pc_s98_e
set_option maxRecDepth 100000 in
/-- GlacierMail$Rows.<init> -/
def pc_s99 : ck_Sum := ((1, 1, 24), 190, [.inr (.inr (.inl 190)), .inl (ck_one 8), .inl (ck_one 3)], ([(190, 6, 0)], [], []), ([(190, 0, 1), (190, 3, 3)], [(190, 2)]), [(.inr none, 191, ([(191, 0, 24)], [(190, 2, 191)], [(190, 1, 1, ck_one 3), (190, 0, 0, ck_one 8), (190, 3, 3, ck_one 0), (191, 0, 23, ck_one 0)]))])
set_option maxRecDepth 100000 in
theorem pc_s99_e : ck_ok ck_O0 none [] [] 2 [] 106 pc_s99 = true := by decide +kernel
theorem pc_s99_s {X : Int → Int} {LX : Nat} : ck_Ok ck_O0 X LX 2 pc_s99 := ck_ok_s ⟨(fun _ h => nomatch h), ck_E0⟩ ck_X0 ck_l0 pc_s99_e
set_option maxRecDepth 100000 in
/-- GlacierMail$Rows.<init> -/
def pc_s100 : ck_Sum := ((1, 1, 24), 192, [.inr (.inr (.inl 192)), .inl (ck_one 8), .inl (ck_one 3)], ([(192, 6, 0)], [], []), ([(192, 0, 1), (192, 3, 3)], [(192, 2)]), [(.inr none, 193, ([(193, 0, 24)], [(192, 2, 193)], [(192, 1, 1, ck_one 3), (192, 0, 0, ck_one 8), (192, 3, 3, ck_one 0), (193, 0, 23, ck_one 0)]))])
set_option maxRecDepth 100000 in
theorem pc_s100_e : ck_ok ck_O0 none [] [] 2 [] 106 pc_s100 = true := by decide +kernel
theorem pc_s100_s {X : Int → Int} {LX : Nat} : ck_Ok ck_O0 X LX 2 pc_s100 := ck_ok_s ⟨(fun _ h => nomatch h), ck_E0⟩ ck_X0 ck_l0 pc_s100_e
set_option maxRecDepth 100000 in
/-- GlacierMail$Rows.<init> -/
def pc_s101 : ck_Sum := ((1, 1, 168), 194, [.inr (.inr (.inl 194)), .inl (ck_one 24), .inl (ck_one 7)], ([(194, 6, 0)], [], []), ([(194, 0, 1), (194, 3, 3)], [(194, 2)]), [(.inr none, 195, ([(195, 0, 168)], [(194, 2, 195)], [(194, 1, 1, ck_one 7), (194, 0, 0, ck_one 24), (194, 3, 3, ck_one 0), (195, 0, 167, ck_one 0)]))])
set_option maxRecDepth 100000 in
theorem pc_s101_e : ck_ok ck_O0 none [] [] 2 [] 106 pc_s101 = true := by decide +kernel
theorem pc_s101_s {X : Int → Int} {LX : Nat} : ck_Ok ck_O0 X LX 2 pc_s101 := ck_ok_s ⟨(fun _ h => nomatch h), ck_E0⟩ ck_X0 ck_l0 pc_s101_e
set_option maxRecDepth 100000 in
/-- GlacierMail$Rows.<init> -/
def pc_s102 : ck_Sum := ((1, 1, 36), 196, [.inr (.inr (.inl 196)), .inl (ck_one 6), .inl (ck_one 6)], ([(196, 6, 0)], [], []), ([(196, 0, 1), (196, 3, 3)], [(196, 2)]), [(.inr none, 197, ([(197, 0, 36)], [(196, 2, 197)], [(196, 1, 1, ck_one 6), (196, 0, 0, ck_one 6), (196, 3, 3, ck_one 0), (197, 0, 35, ck_one 0)]))])
set_option maxRecDepth 100000 in
theorem pc_s102_e : ck_ok ck_O0 none [] [] 2 [] 106 pc_s102 = true := by decide +kernel
theorem pc_s102_s {X : Int → Int} {LX : Nat} : ck_Ok ck_O0 X LX 2 pc_s102 := ck_ok_s ⟨(fun _ h => nomatch h), ck_E0⟩ ck_X0 ck_l0 pc_s102_e
set_option maxRecDepth 100000 in
/-- GlacierMail$Rows.<init> -/
def pc_s103 : ck_Sum := ((1, 1, 72), 198, [.inr (.inr (.inl 198)), .inl (ck_one 24), .inl (ck_one 3)], ([(198, 6, 0)], [], []), ([(198, 0, 1), (198, 3, 3)], [(198, 2)]), [(.inr none, 199, ([(199, 0, 72)], [(198, 2, 199)], [(198, 1, 1, ck_one 3), (198, 0, 0, ck_one 24), (198, 3, 3, ck_one 0), (199, 0, 71, ck_one 0)]))])
set_option maxRecDepth 100000 in
theorem pc_s103_e : ck_ok ck_O0 none [] [] 2 [] 106 pc_s103 = true := by decide +kernel
theorem pc_s103_s {X : Int → Int} {LX : Nat} : ck_Ok ck_O0 X LX 2 pc_s103 := ck_ok_s ⟨(fun _ h => nomatch h), ck_E0⟩ ck_X0 ck_l0 pc_s103_e
set_option maxRecDepth 100000 in
/-- GlacierMail$State.<init> -/
def pc_s104 : ck_Sum := ((2, 12, 404), 187, [.inr (.inr (.inl 187))], ([(187, 5, 0)], [], []), ([(187, 0, 7)], [(187, 8), (187, 9), (187, 10), (187, 11), (187, 12), (187, 13), (187, 14)]), [(.inr none, 199, ([(188, 6, 0), (189, 0, 56), (190, 6, 0), (191, 0, 24), (192, 6, 0), (193, 0, 24), (194, 6, 0), (195, 0, 168), (196, 6, 0), (197, 0, 36), (198, 6, 0), (199, 0, 72)], [(187, 8, 0), (187, 9, 188), (187, 10, 190), (187, 11, 192), (187, 12, 194), (187, 13, 196), (187, 14, 198), (188, 2, 189), (190, 2, 191), (192, 2, 193), (194, 2, 195), (196, 2, 197), (198, 2, 199)], [(198, 1, 1, ck_one 3), (198, 0, 0, ck_one 24), (198, 3, 3, ck_one 0), (198, 2, 2, ck_one 0), (196, 1, 1, ck_one 6), (196, 0, 0, ck_one 6), (196, 3, 3, ck_one 0), (196, 2, 2, ck_one 0), (194, 1, 1, ck_one 7), (194, 0, 0, ck_one 24), (194, 3, 3, ck_one 0), (194, 2, 2, ck_one 0), (192, 1, 1, ck_one 3), (192, 0, 0, ck_one 8), (192, 3, 3, ck_one 0), (192, 2, 2, ck_one 0), (190, 1, 1, ck_one 3), (190, 0, 0, ck_one 8), (190, 3, 3, ck_one 0), (190, 2, 2, ck_one 0), (188, 1, 1, ck_one 7), (188, 0, 0, ck_one 8), (188, 3, 3, ck_one 0), (188, 2, 2, ck_one 0), (187, 7, 7, ck_one 0), (187, 6, 6, ck_one 0), (187, 5, 5, ck_one 1), (187, 4, 4, ck_one 3), (187, 3, 3, ck_one 2), (187, 2, 2, ck_one 10), (187, 1, 1, ck_one 40), (187, 0, 0, ck_one 3), (193, 0, 23, ck_one 0), (191, 0, 23, ck_one 0), (197, 0, 35, ck_one 0), (189, 0, 55, ck_one 0), (199, 0, 71, ck_one 0), (195, 0, 167, ck_one 0)]))])
set_option maxRecDepth 100000 in
theorem pc_s104_e : ck_ok ck_O0 none [] [(2, [pc_s98, pc_s99, pc_s100, pc_s101, pc_s102, pc_s103])] 1 [] 214 pc_s104 = true := by decide +kernel
theorem pc_s104_s {X : Int → Int} {LX : Nat} : ck_Ok ck_O0 X LX 1 pc_s104 := ck_ok_s ⟨(fun _ h => nomatch h), ck_E1 (ck_S1 pc_s98_s (ck_S1 pc_s99_s (ck_S1 pc_s100_s (ck_S1 pc_s101_s (ck_S1 pc_s102_s (ck_S1 pc_s103_s ck_S0)))))) ck_E0⟩ ck_X0 ck_l0 pc_s104_e
set_option maxRecDepth 100000 in
/-- GlacierMail$History.<init> -/
def pc_s105 : ck_Sum := ((3, 157, 5040), 42, [.inr (.inr (.inl 42))], ([(42, 7, 0)], [], []), ([(42, 1, 2)], [(42, 0)]), [(.inr none, 199, ([(43, 3, 12), (44, 5, 0), (45, 6, 0), (46, 0, 56), (47, 6, 0), (48, 0, 24), (49, 6, 0), (50, 0, 24), (51, 6, 0), (52, 0, 168), (53, 6, 0), (54, 0, 36), (55, 6, 0), (56, 0, 72), (57, 5, 0), (58, 6, 0), (59, 0, 56), (60, 6, 0), (61, 0, 24), (62, 6, 0), (63, 0, 24), (64, 6, 0), (65, 0, 168), (66, 6, 0), (67, 0, 36), (68, 6, 0), (69, 0, 72), (70, 5, 0), (71, 6, 0), (72, 0, 56), (73, 6, 0), (74, 0, 24), (75, 6, 0), (76, 0, 24), (77, 6, 0), (78, 0, 168), (79, 6, 0), (80, 0, 36), (81, 6, 0), (82, 0, 72), (83, 5, 0), (84, 6, 0), (85, 0, 56), (86, 6, 0), (87, 0, 24), (88, 6, 0), (89, 0, 24), (90, 6, 0), (91, 0, 168), (92, 6, 0), (93, 0, 36), (94, 6, 0), (95, 0, 72), (96, 5, 0), (97, 6, 0), (98, 0, 56), (99, 6, 0), (100, 0, 24), (101, 6, 0), (102, 0, 24), (103, 6, 0), (104, 0, 168), (105, 6, 0), (106, 0, 36), (107, 6, 0), (108, 0, 72), (109, 5, 0), (110, 6, 0), (111, 0, 56), (112, 6, 0), (113, 0, 24), (114, 6, 0), (115, 0, 24), (116, 6, 0), (117, 0, 168), (118, 6, 0), (119, 0, 36), (120, 6, 0), (121, 0, 72), (122, 5, 0), (123, 6, 0), (124, 0, 56), (125, 6, 0), (126, 0, 24), (127, 6, 0), (128, 0, 24), (129, 6, 0), (130, 0, 168), (131, 6, 0), (132, 0, 36), (133, 6, 0), (134, 0, 72), (135, 5, 0), (136, 6, 0), (137, 0, 56), (138, 6, 0), (139, 0, 24), (140, 6, 0), (141, 0, 24), (142, 6, 0), (143, 0, 168), (144, 6, 0), (145, 0, 36), (146, 6, 0), (147, 0, 72), (148, 5, 0), (149, 6, 0), (150, 0, 56), (151, 6, 0), (152, 0, 24), (153, 6, 0), (154, 0, 24), (155, 6, 0), (156, 0, 168), (157, 6, 0), (158, 0, 36), (159, 6, 0), (160, 0, 72), (161, 5, 0), (162, 6, 0), (163, 0, 56), (164, 6, 0), (165, 0, 24), (166, 6, 0), (167, 0, 24), (168, 6, 0), (169, 0, 168), (170, 6, 0), (171, 0, 36), (172, 6, 0), (173, 0, 72), (174, 5, 0), (175, 6, 0), (176, 0, 56), (177, 6, 0), (178, 0, 24), (179, 6, 0), (180, 0, 24), (181, 6, 0), (182, 0, 168), (183, 6, 0), (184, 0, 36), (185, 6, 0), (186, 0, 72), (187, 5, 0), (188, 6, 0), (189, 0, 56), (190, 6, 0), (191, 0, 24), (192, 6, 0), (193, 0, 24), (194, 6, 0), (195, 0, 168), (196, 6, 0), (197, 0, 36), (198, 6, 0), (199, 0, 72)], [(42, 0, 43), (43, 0, 44), (43, 1, 57), (43, 2, 70), (43, 3, 83), (43, 4, 96), (43, 5, 109), (43, 6, 122), (43, 7, 135), (43, 8, 148), (43, 9, 161), (43, 10, 174), (43, 11, 187), (44, 8, 0), (44, 9, 45), (44, 10, 47), (44, 11, 49), (44, 12, 51), (44, 13, 53), (44, 14, 55), (45, 2, 46), (47, 2, 48), (49, 2, 50), (51, 2, 52), (53, 2, 54), (55, 2, 56), (57, 8, 0), (57, 9, 58), (57, 10, 60), (57, 11, 62), (57, 12, 64), (57, 13, 66), (57, 14, 68), (58, 2, 59), (60, 2, 61), (62, 2, 63), (64, 2, 65), (66, 2, 67), (68, 2, 69), (70, 8, 0), (70, 9, 71), (70, 10, 73), (70, 11, 75), (70, 12, 77), (70, 13, 79), (70, 14, 81), (71, 2, 72), (73, 2, 74), (75, 2, 76), (77, 2, 78), (79, 2, 80), (81, 2, 82), (83, 8, 0), (83, 9, 84), (83, 10, 86), (83, 11, 88), (83, 12, 90), (83, 13, 92), (83, 14, 94), (84, 2, 85), (86, 2, 87), (88, 2, 89), (90, 2, 91), (92, 2, 93), (94, 2, 95), (96, 8, 0), (96, 9, 97), (96, 10, 99), (96, 11, 101), (96, 12, 103), (96, 13, 105), (96, 14, 107), (97, 2, 98), (99, 2, 100), (101, 2, 102), (103, 2, 104), (105, 2, 106), (107, 2, 108), (109, 8, 0), (109, 9, 110), (109, 10, 112), (109, 11, 114), (109, 12, 116), (109, 13, 118), (109, 14, 120), (110, 2, 111), (112, 2, 113), (114, 2, 115), (116, 2, 117), (118, 2, 119), (120, 2, 121), (122, 8, 0), (122, 9, 123), (122, 10, 125), (122, 11, 127), (122, 12, 129), (122, 13, 131), (122, 14, 133), (123, 2, 124), (125, 2, 126), (127, 2, 128), (129, 2, 130), (131, 2, 132), (133, 2, 134), (135, 8, 0), (135, 9, 136), (135, 10, 138), (135, 11, 140), (135, 12, 142), (135, 13, 144), (135, 14, 146), (136, 2, 137), (138, 2, 139), (140, 2, 141), (142, 2, 143), (144, 2, 145), (146, 2, 147), (148, 8, 0), (148, 9, 149), (148, 10, 151), (148, 11, 153), (148, 12, 155), (148, 13, 157), (148, 14, 159), (149, 2, 150), (151, 2, 152), (153, 2, 154), (155, 2, 156), (157, 2, 158), (159, 2, 160), (161, 8, 0), (161, 9, 162), (161, 10, 164), (161, 11, 166), (161, 12, 168), (161, 13, 170), (161, 14, 172), (162, 2, 163), (164, 2, 165), (166, 2, 167), (168, 2, 169), (170, 2, 171), (172, 2, 173), (174, 8, 0), (174, 9, 175), (174, 10, 177), (174, 11, 179), (174, 12, 181), (174, 13, 183), (174, 14, 185), (175, 2, 176), (177, 2, 178), (179, 2, 180), (181, 2, 182), (183, 2, 184), (185, 2, 186), (187, 8, 0), (187, 9, 188), (187, 10, 190), (187, 11, 192), (187, 12, 194), (187, 13, 196), (187, 14, 198), (188, 2, 189), (190, 2, 191), (192, 2, 193), (194, 2, 195), (196, 2, 197), (198, 2, 199)], [(198, 1, 1, ck_one 3), (198, 0, 0, ck_one 24), (198, 3, 3, ck_one 0), (198, 2, 2, ck_one 0), (196, 1, 1, ck_one 6), (196, 0, 0, ck_one 6), (196, 3, 3, ck_one 0), (196, 2, 2, ck_one 0), (194, 1, 1, ck_one 7), (194, 0, 0, ck_one 24), (194, 3, 3, ck_one 0), (194, 2, 2, ck_one 0), (192, 1, 1, ck_one 3), (192, 0, 0, ck_one 8), (192, 3, 3, ck_one 0), (192, 2, 2, ck_one 0), (190, 1, 1, ck_one 3), (190, 0, 0, ck_one 8), (190, 3, 3, ck_one 0), (190, 2, 2, ck_one 0), (188, 1, 1, ck_one 7), (188, 0, 0, ck_one 8), (188, 3, 3, ck_one 0), (188, 2, 2, ck_one 0), (187, 7, 7, ck_one 0), (187, 6, 6, ck_one 0), (187, 5, 5, ck_one 1), (187, 4, 4, ck_one 3), (187, 3, 3, ck_one 2), (187, 2, 2, ck_one 10), (187, 1, 1, ck_one 40), (187, 0, 0, ck_one 3), (187, 8, 8, ck_one 0), (187, 9, 9, ck_one 0), (187, 10, 10, ck_one 0), (187, 11, 11, ck_one 0), (187, 12, 12, ck_one 0), (187, 13, 13, ck_one 0), (187, 14, 14, ck_one 0), (185, 1, 1, ck_one 3), (185, 0, 0, ck_one 24), (185, 3, 3, ck_one 0), (185, 2, 2, ck_one 0), (183, 1, 1, ck_one 6), (183, 0, 0, ck_one 6), (183, 3, 3, ck_one 0), (183, 2, 2, ck_one 0), (181, 1, 1, ck_one 7), (181, 0, 0, ck_one 24), (181, 3, 3, ck_one 0), (181, 2, 2, ck_one 0), (179, 1, 1, ck_one 3), (179, 0, 0, ck_one 8), (179, 3, 3, ck_one 0), (179, 2, 2, ck_one 0), (177, 1, 1, ck_one 3), (177, 0, 0, ck_one 8), (177, 3, 3, ck_one 0), (177, 2, 2, ck_one 0), (175, 1, 1, ck_one 7), (175, 0, 0, ck_one 8), (175, 3, 3, ck_one 0), (175, 2, 2, ck_one 0), (174, 7, 7, ck_one 0), (174, 6, 6, ck_one 0), (174, 5, 5, ck_one 1), (174, 4, 4, ck_one 3), (174, 3, 3, ck_one 2), (174, 2, 2, ck_one 10), (174, 1, 1, ck_one 40), (174, 0, 0, ck_one 3), (174, 8, 8, ck_one 0), (174, 9, 9, ck_one 0), (174, 10, 10, ck_one 0), (174, 11, 11, ck_one 0), (174, 12, 12, ck_one 0), (174, 13, 13, ck_one 0), (174, 14, 14, ck_one 0), (172, 1, 1, ck_one 3), (172, 0, 0, ck_one 24), (172, 3, 3, ck_one 0), (172, 2, 2, ck_one 0), (170, 1, 1, ck_one 6), (170, 0, 0, ck_one 6), (170, 3, 3, ck_one 0), (170, 2, 2, ck_one 0), (168, 1, 1, ck_one 7), (168, 0, 0, ck_one 24), (168, 3, 3, ck_one 0), (168, 2, 2, ck_one 0), (166, 1, 1, ck_one 3), (166, 0, 0, ck_one 8), (166, 3, 3, ck_one 0), (166, 2, 2, ck_one 0), (164, 1, 1, ck_one 3), (164, 0, 0, ck_one 8), (164, 3, 3, ck_one 0), (164, 2, 2, ck_one 0), (162, 1, 1, ck_one 7), (162, 0, 0, ck_one 8), (162, 3, 3, ck_one 0), (162, 2, 2, ck_one 0), (161, 7, 7, ck_one 0), (161, 6, 6, ck_one 0), (161, 5, 5, ck_one 1), (161, 4, 4, ck_one 3), (161, 3, 3, ck_one 2), (161, 2, 2, ck_one 10), (161, 1, 1, ck_one 40), (161, 0, 0, ck_one 3), (161, 8, 8, ck_one 0), (161, 9, 9, ck_one 0), (161, 10, 10, ck_one 0), (161, 11, 11, ck_one 0), (161, 12, 12, ck_one 0), (161, 13, 13, ck_one 0), (161, 14, 14, ck_one 0), (159, 1, 1, ck_one 3), (159, 0, 0, ck_one 24), (159, 3, 3, ck_one 0), (159, 2, 2, ck_one 0), (157, 1, 1, ck_one 6), (157, 0, 0, ck_one 6), (157, 3, 3, ck_one 0), (157, 2, 2, ck_one 0), (155, 1, 1, ck_one 7), (155, 0, 0, ck_one 24), (155, 3, 3, ck_one 0), (155, 2, 2, ck_one 0), (153, 1, 1, ck_one 3), (153, 0, 0, ck_one 8), (153, 3, 3, ck_one 0), (153, 2, 2, ck_one 0), (151, 1, 1, ck_one 3), (151, 0, 0, ck_one 8), (151, 3, 3, ck_one 0), (151, 2, 2, ck_one 0), (149, 1, 1, ck_one 7), (149, 0, 0, ck_one 8), (149, 3, 3, ck_one 0), (149, 2, 2, ck_one 0), (148, 7, 7, ck_one 0), (148, 6, 6, ck_one 0), (148, 5, 5, ck_one 1), (148, 4, 4, ck_one 3), (148, 3, 3, ck_one 2), (148, 2, 2, ck_one 10), (148, 1, 1, ck_one 40), (148, 0, 0, ck_one 3), (148, 8, 8, ck_one 0), (148, 9, 9, ck_one 0), (148, 10, 10, ck_one 0), (148, 11, 11, ck_one 0), (148, 12, 12, ck_one 0), (148, 13, 13, ck_one 0), (148, 14, 14, ck_one 0), (146, 1, 1, ck_one 3), (146, 0, 0, ck_one 24), (146, 3, 3, ck_one 0), (146, 2, 2, ck_one 0), (144, 1, 1, ck_one 6), (144, 0, 0, ck_one 6), (144, 3, 3, ck_one 0), (144, 2, 2, ck_one 0), (142, 1, 1, ck_one 7), (142, 0, 0, ck_one 24), (142, 3, 3, ck_one 0), (142, 2, 2, ck_one 0), (140, 1, 1, ck_one 3), (140, 0, 0, ck_one 8), (140, 3, 3, ck_one 0), (140, 2, 2, ck_one 0), (138, 1, 1, ck_one 3), (138, 0, 0, ck_one 8), (138, 3, 3, ck_one 0), (138, 2, 2, ck_one 0), (136, 1, 1, ck_one 7), (136, 0, 0, ck_one 8), (136, 3, 3, ck_one 0), (136, 2, 2, ck_one 0), (135, 7, 7, ck_one 0), (135, 6, 6, ck_one 0), (135, 5, 5, ck_one 1), (135, 4, 4, ck_one 3), (135, 3, 3, ck_one 2), (135, 2, 2, ck_one 10), (135, 1, 1, ck_one 40), (135, 0, 0, ck_one 3), (135, 8, 8, ck_one 0), (135, 9, 9, ck_one 0), (135, 10, 10, ck_one 0), (135, 11, 11, ck_one 0), (135, 12, 12, ck_one 0), (135, 13, 13, ck_one 0), (135, 14, 14, ck_one 0), (133, 1, 1, ck_one 3), (133, 0, 0, ck_one 24), (133, 3, 3, ck_one 0), (133, 2, 2, ck_one 0), (131, 1, 1, ck_one 6), (131, 0, 0, ck_one 6), (131, 3, 3, ck_one 0), (131, 2, 2, ck_one 0), (129, 1, 1, ck_one 7), (129, 0, 0, ck_one 24), (129, 3, 3, ck_one 0), (129, 2, 2, ck_one 0), (127, 1, 1, ck_one 3), (127, 0, 0, ck_one 8), (127, 3, 3, ck_one 0), (127, 2, 2, ck_one 0), (125, 1, 1, ck_one 3), (125, 0, 0, ck_one 8), (125, 3, 3, ck_one 0), (125, 2, 2, ck_one 0), (123, 1, 1, ck_one 7), (123, 0, 0, ck_one 8), (123, 3, 3, ck_one 0), (123, 2, 2, ck_one 0), (122, 7, 7, ck_one 0), (122, 6, 6, ck_one 0), (122, 5, 5, ck_one 1), (122, 4, 4, ck_one 3), (122, 3, 3, ck_one 2), (122, 2, 2, ck_one 10), (122, 1, 1, ck_one 40), (122, 0, 0, ck_one 3), (122, 8, 8, ck_one 0), (122, 9, 9, ck_one 0), (122, 10, 10, ck_one 0), (122, 11, 11, ck_one 0), (122, 12, 12, ck_one 0), (122, 13, 13, ck_one 0), (122, 14, 14, ck_one 0), (120, 1, 1, ck_one 3), (120, 0, 0, ck_one 24), (120, 3, 3, ck_one 0), (120, 2, 2, ck_one 0), (118, 1, 1, ck_one 6), (118, 0, 0, ck_one 6), (118, 3, 3, ck_one 0), (118, 2, 2, ck_one 0), (116, 1, 1, ck_one 7), (116, 0, 0, ck_one 24), (116, 3, 3, ck_one 0), (116, 2, 2, ck_one 0), (114, 1, 1, ck_one 3), (114, 0, 0, ck_one 8), (114, 3, 3, ck_one 0), (114, 2, 2, ck_one 0), (112, 1, 1, ck_one 3), (112, 0, 0, ck_one 8), (112, 3, 3, ck_one 0), (112, 2, 2, ck_one 0), (110, 1, 1, ck_one 7), (110, 0, 0, ck_one 8), (110, 3, 3, ck_one 0), (110, 2, 2, ck_one 0), (109, 7, 7, ck_one 0), (109, 6, 6, ck_one 0), (109, 5, 5, ck_one 1), (109, 4, 4, ck_one 3), (109, 3, 3, ck_one 2), (109, 2, 2, ck_one 10), (109, 1, 1, ck_one 40), (109, 0, 0, ck_one 3), (109, 8, 8, ck_one 0), (109, 9, 9, ck_one 0), (109, 10, 10, ck_one 0), (109, 11, 11, ck_one 0), (109, 12, 12, ck_one 0), (109, 13, 13, ck_one 0), (109, 14, 14, ck_one 0), (107, 1, 1, ck_one 3), (107, 0, 0, ck_one 24), (107, 3, 3, ck_one 0), (107, 2, 2, ck_one 0), (105, 1, 1, ck_one 6), (105, 0, 0, ck_one 6), (105, 3, 3, ck_one 0), (105, 2, 2, ck_one 0), (103, 1, 1, ck_one 7), (103, 0, 0, ck_one 24), (103, 3, 3, ck_one 0), (103, 2, 2, ck_one 0), (101, 1, 1, ck_one 3), (101, 0, 0, ck_one 8), (101, 3, 3, ck_one 0), (101, 2, 2, ck_one 0), (99, 1, 1, ck_one 3), (99, 0, 0, ck_one 8), (99, 3, 3, ck_one 0), (99, 2, 2, ck_one 0), (97, 1, 1, ck_one 7), (97, 0, 0, ck_one 8), (97, 3, 3, ck_one 0), (97, 2, 2, ck_one 0), (96, 7, 7, ck_one 0), (96, 6, 6, ck_one 0), (96, 5, 5, ck_one 1), (96, 4, 4, ck_one 3), (96, 3, 3, ck_one 2), (96, 2, 2, ck_one 10), (96, 1, 1, ck_one 40), (96, 0, 0, ck_one 3), (96, 8, 8, ck_one 0), (96, 9, 9, ck_one 0), (96, 10, 10, ck_one 0), (96, 11, 11, ck_one 0), (96, 12, 12, ck_one 0), (96, 13, 13, ck_one 0), (96, 14, 14, ck_one 0), (94, 1, 1, ck_one 3), (94, 0, 0, ck_one 24), (94, 3, 3, ck_one 0), (94, 2, 2, ck_one 0), (92, 1, 1, ck_one 6), (92, 0, 0, ck_one 6), (92, 3, 3, ck_one 0), (92, 2, 2, ck_one 0), (90, 1, 1, ck_one 7), (90, 0, 0, ck_one 24), (90, 3, 3, ck_one 0), (90, 2, 2, ck_one 0), (88, 1, 1, ck_one 3), (88, 0, 0, ck_one 8), (88, 3, 3, ck_one 0), (88, 2, 2, ck_one 0), (86, 1, 1, ck_one 3), (86, 0, 0, ck_one 8), (86, 3, 3, ck_one 0), (86, 2, 2, ck_one 0), (84, 1, 1, ck_one 7), (84, 0, 0, ck_one 8), (84, 3, 3, ck_one 0), (84, 2, 2, ck_one 0), (83, 7, 7, ck_one 0), (83, 6, 6, ck_one 0), (83, 5, 5, ck_one 1), (83, 4, 4, ck_one 3), (83, 3, 3, ck_one 2), (83, 2, 2, ck_one 10), (83, 1, 1, ck_one 40), (83, 0, 0, ck_one 3), (83, 8, 8, ck_one 0), (83, 9, 9, ck_one 0), (83, 10, 10, ck_one 0), (83, 11, 11, ck_one 0), (83, 12, 12, ck_one 0), (83, 13, 13, ck_one 0), (83, 14, 14, ck_one 0), (81, 1, 1, ck_one 3), (81, 0, 0, ck_one 24), (81, 3, 3, ck_one 0), (81, 2, 2, ck_one 0), (79, 1, 1, ck_one 6), (79, 0, 0, ck_one 6), (79, 3, 3, ck_one 0), (79, 2, 2, ck_one 0), (77, 1, 1, ck_one 7), (77, 0, 0, ck_one 24), (77, 3, 3, ck_one 0), (77, 2, 2, ck_one 0), (75, 1, 1, ck_one 3), (75, 0, 0, ck_one 8), (75, 3, 3, ck_one 0), (75, 2, 2, ck_one 0), (73, 1, 1, ck_one 3), (73, 0, 0, ck_one 8), (73, 3, 3, ck_one 0), (73, 2, 2, ck_one 0), (71, 1, 1, ck_one 7), (71, 0, 0, ck_one 8), (71, 3, 3, ck_one 0), (71, 2, 2, ck_one 0), (70, 7, 7, ck_one 0), (70, 6, 6, ck_one 0), (70, 5, 5, ck_one 1), (70, 4, 4, ck_one 3), (70, 3, 3, ck_one 2), (70, 2, 2, ck_one 10), (70, 1, 1, ck_one 40), (70, 0, 0, ck_one 3), (70, 8, 8, ck_one 0), (70, 9, 9, ck_one 0), (70, 10, 10, ck_one 0), (70, 11, 11, ck_one 0), (70, 12, 12, ck_one 0), (70, 13, 13, ck_one 0), (70, 14, 14, ck_one 0), (68, 1, 1, ck_one 3), (68, 0, 0, ck_one 24), (68, 3, 3, ck_one 0), (68, 2, 2, ck_one 0), (66, 1, 1, ck_one 6), (66, 0, 0, ck_one 6), (66, 3, 3, ck_one 0), (66, 2, 2, ck_one 0), (64, 1, 1, ck_one 7), (64, 0, 0, ck_one 24), (64, 3, 3, ck_one 0), (64, 2, 2, ck_one 0), (62, 1, 1, ck_one 3), (62, 0, 0, ck_one 8), (62, 3, 3, ck_one 0), (62, 2, 2, ck_one 0), (60, 1, 1, ck_one 3), (60, 0, 0, ck_one 8), (60, 3, 3, ck_one 0), (60, 2, 2, ck_one 0), (58, 1, 1, ck_one 7), (58, 0, 0, ck_one 8), (58, 3, 3, ck_one 0), (58, 2, 2, ck_one 0), (57, 7, 7, ck_one 0), (57, 6, 6, ck_one 0), (57, 5, 5, ck_one 1), (57, 4, 4, ck_one 3), (57, 3, 3, ck_one 2), (57, 2, 2, ck_one 10), (57, 1, 1, ck_one 40), (57, 0, 0, ck_one 3), (57, 8, 8, ck_one 0), (57, 9, 9, ck_one 0), (57, 10, 10, ck_one 0), (57, 11, 11, ck_one 0), (57, 12, 12, ck_one 0), (57, 13, 13, ck_one 0), (57, 14, 14, ck_one 0), (55, 1, 1, ck_one 3), (55, 0, 0, ck_one 24), (55, 3, 3, ck_one 0), (55, 2, 2, ck_one 0), (53, 1, 1, ck_one 6), (53, 0, 0, ck_one 6), (53, 3, 3, ck_one 0), (53, 2, 2, ck_one 0), (51, 1, 1, ck_one 7), (51, 0, 0, ck_one 24), (51, 3, 3, ck_one 0), (51, 2, 2, ck_one 0), (49, 1, 1, ck_one 3), (49, 0, 0, ck_one 8), (49, 3, 3, ck_one 0), (49, 2, 2, ck_one 0), (47, 1, 1, ck_one 3), (47, 0, 0, ck_one 8), (47, 3, 3, ck_one 0), (47, 2, 2, ck_one 0), (45, 1, 1, ck_one 7), (45, 0, 0, ck_one 8), (45, 3, 3, ck_one 0), (45, 2, 2, ck_one 0), (44, 7, 7, ck_one 0), (44, 6, 6, ck_one 0), (44, 5, 5, ck_one 1), (44, 4, 4, ck_one 3), (44, 3, 3, ck_one 2), (44, 2, 2, ck_one 10), (44, 1, 1, ck_one 40), (44, 0, 0, ck_one 3), (44, 8, 8, ck_one 0), (44, 9, 9, ck_one 0), (44, 10, 10, ck_one 0), (44, 11, 11, ck_one 0), (44, 12, 12, ck_one 0), (44, 13, 13, ck_one 0), (44, 14, 14, ck_one 0), (42, 2, 2, ck_one 0), (42, 1, 1, ck_one 0), (193, 0, 23, ck_one 0), (191, 0, 23, ck_one 0), (180, 0, 23, ck_one 0), (178, 0, 23, ck_one 0), (167, 0, 23, ck_one 0), (165, 0, 23, ck_one 0), (154, 0, 23, ck_one 0), (152, 0, 23, ck_one 0), (141, 0, 23, ck_one 0), (139, 0, 23, ck_one 0), (128, 0, 23, ck_one 0), (126, 0, 23, ck_one 0), (115, 0, 23, ck_one 0), (113, 0, 23, ck_one 0), (102, 0, 23, ck_one 0), (100, 0, 23, ck_one 0), (89, 0, 23, ck_one 0), (87, 0, 23, ck_one 0), (76, 0, 23, ck_one 0), (74, 0, 23, ck_one 0), (63, 0, 23, ck_one 0), (61, 0, 23, ck_one 0), (50, 0, 23, ck_one 0), (48, 0, 23, ck_one 0), (197, 0, 35, ck_one 0), (184, 0, 35, ck_one 0), (171, 0, 35, ck_one 0), (158, 0, 35, ck_one 0), (145, 0, 35, ck_one 0), (132, 0, 35, ck_one 0), (119, 0, 35, ck_one 0), (106, 0, 35, ck_one 0), (93, 0, 35, ck_one 0), (80, 0, 35, ck_one 0), (67, 0, 35, ck_one 0), (54, 0, 35, ck_one 0), (189, 0, 55, ck_one 0), (176, 0, 55, ck_one 0), (163, 0, 55, ck_one 0), (150, 0, 55, ck_one 0), (137, 0, 55, ck_one 0), (124, 0, 55, ck_one 0), (111, 0, 55, ck_one 0), (98, 0, 55, ck_one 0), (85, 0, 55, ck_one 0), (72, 0, 55, ck_one 0), (59, 0, 55, ck_one 0), (46, 0, 55, ck_one 0), (199, 0, 71, ck_one 0), (186, 0, 71, ck_one 0), (173, 0, 71, ck_one 0), (160, 0, 71, ck_one 0), (147, 0, 71, ck_one 0), (134, 0, 71, ck_one 0), (121, 0, 71, ck_one 0), (108, 0, 71, ck_one 0), (95, 0, 71, ck_one 0), (82, 0, 71, ck_one 0), (69, 0, 71, ck_one 0), (56, 0, 71, ck_one 0), (195, 0, 167, ck_one 0), (182, 0, 167, ck_one 0), (169, 0, 167, ck_one 0), (156, 0, 167, ck_one 0), (143, 0, 167, ck_one 0), (130, 0, 167, ck_one 0), (117, 0, 167, ck_one 0), (104, 0, 167, ck_one 0), (91, 0, 167, ck_one 0), (78, 0, 167, ck_one 0), (65, 0, 167, ck_one 0), (52, 0, 167, ck_one 0)]))])
set_option maxRecDepth 100000 in
theorem pc_s105_e : ck_ok ck_O0 none [] [(1, [pc_s27, pc_s34, pc_s41, pc_s48, pc_s55, pc_s62, pc_s69, pc_s76, pc_s83, pc_s90, pc_s97, pc_s104])] 3 [] 446 pc_s105 = true := by decide +kernel
theorem pc_s105_s {X : Int → Int} {LX : Nat} : ck_Ok ck_O0 X LX 3 pc_s105 := ck_ok_s ⟨(fun _ h => nomatch h), ck_E1 (ck_S1 pc_s27_s (ck_S1 pc_s34_s (ck_S1 pc_s41_s (ck_S1 pc_s48_s (ck_S1 pc_s55_s (ck_S1 pc_s62_s (ck_S1 pc_s69_s (ck_S1 pc_s76_s (ck_S1 pc_s83_s (ck_S1 pc_s90_s (ck_S1 pc_s97_s (ck_S1 pc_s104_s ck_S0)))))))))))) ck_E0⟩ ck_X0 ck_l0 pc_s105_e
set_option maxRecDepth 100000 in
/-- GlacierMail$Ice.reckonHeats -/
def pc_s106 : ck_Sum := ((0, 0, 0), 205, [.inr (.inr (.inl 200))], ([(3, 5, 0), (200, 8, 0), (201, 0, 300)], [(200, 0, 3), (200, 1, 201)], [(201, 0, 299, ck_one 0), (3, 5, 5, ck_one 1)]), ([(201, 0, 299)], []), [(.inr none, 205, ([], [], [(201, 0, 299, (0, 9, []))]))])
set_option maxRecDepth 100000 in
theorem pc_s106_e : ck_ok ck_O0 none [] [] 6 [(10, [some (.inr (.inr (.inl 200))), some (.inl ((-2147483648), 2147483647, [])), some (.inl (0, 300, []))], ([(3, 5, 0), (200, 8, 0), (201, 0, 300)], [(200, 0, 3), (200, 1, 201)], [(201, 0, 299, (0, 9, [])), (3, 5, 5, ck_one 1)]), 100, .inl 2, true)] 182 pc_s106 = true := by decide +kernel
theorem pc_s106_s {X : Int → Int} {LX : Nat} : ck_Ok ck_O0 X LX 6 pc_s106 := ck_ok_s ⟨(fun _ h => nomatch h), ck_E0⟩ ck_X0 ck_l0 pc_s106_e
set_option maxRecDepth 100000 in
/-- java/util/Arrays.fill -/
def pc_s107 : ck_Sum := ((0, 0, 0), 205, [.inr (.inr (.inl 202)), .inl (ck_one 0)], ([(202, 0, 594)], [], [(202, 0, 593, ck_one 0)]), ([(202, 0, 593)], []), [(.inr none, 205, ([], [], [(202, 0, 593, ck_one 0)]))])
set_option maxRecDepth 100000 in
theorem pc_s107_e : ck_ok ck_O0 none [] [] 8 [(5, [some (.inr (.inr (.inl 202))), some (.inl (ck_one 0)), some (.inl (0, 594, [])), some (.inl (ck_one 594))], ([(202, 0, 594)], [], [(202, 0, 593, ck_one 0)]), 100, .inl 2, true)] 130 pc_s107 = true := by decide +kernel
theorem pc_s107_s {X : Int → Int} {LX : Nat} : ck_Ok ck_O0 X LX 8 pc_s107 := ck_ok_s ⟨(fun _ h => nomatch h), ck_E0⟩ ck_X0 ck_l0 pc_s107_e
set_option maxRecDepth 100000 in
/-- GlacierMail$Rows.size -/
def pc_s108 : ck_Sum := ((0, 0, 0), 205, [.inr (.inr (.inl 4))], ([(4, 6, 0)], [], [(4, 3, 3, ck_one 0)]), ([], []), [(.inr (some (.inl (ck_one 0))), 205, ([], [], []))])
set_option maxRecDepth 100000 in
theorem pc_s108_e : ck_ok ck_O0 none [] [] 9 [] 76 pc_s108 = true := by decide +kernel
theorem pc_s108_s {X : Int → Int} {LX : Nat} : ck_Ok ck_O0 X LX 9 pc_s108 := ck_ok_s ⟨(fun _ h => nomatch h), ck_E0⟩ ck_X0 ck_l0 pc_s108_e
set_option maxRecDepth 100000 in
/-- GlacierMail$Ice.reckonSpeeds -/
def pc_s109 : ck_Sum := ((1, 0, 0), 205, [.inr (.inr (.inl 200))], ([(3, 5, 0), (4, 6, 0), (200, 8, 0), (202, 0, 594)], [(3, 9, 4), (200, 0, 3), (200, 2, 202)], [(202, 0, 593, ck_one 0), (4, 3, 3, ck_one 0)]), ([(202, 0, 593)], []), [(.inr none, 205, ([], [], [(202, 0, 593, ck_one 0)]))])
set_option maxRecDepth 100000 in
theorem pc_s109_e : ck_ok ck_O0 none [] [(8, [pc_s107]), (9, [pc_s108])] 7 [(10, [some (.inr (.inr (.inl 200))), some (.inl (ck_one 0)), none, none, none, none], ([(3, 5, 0), (4, 6, 0), (200, 8, 0), (202, 0, 594)], [(3, 9, 4), (200, 0, 3), (200, 2, 202)], [(202, 0, 593, ck_one 0), (4, 3, 3, ck_one 0)]), 100, .inl 1, true)] 118 pc_s109 = true := by decide +kernel
theorem pc_s109_s {X : Int → Int} {LX : Nat} : ck_Ok ck_O0 X LX 7 pc_s109 := ck_ok_s ⟨(fun _ h => nomatch h), ck_E1 (ck_S1 pc_s107_s ck_S0) (ck_E1 (ck_S1 pc_s108_s ck_S0) ck_E0)⟩ ck_X0 ck_l0 pc_s109_e
set_option maxRecDepth 100000 in
/-- java/util/Arrays.fill -/
def pc_s110 : ck_Sum := ((0, 0, 0), 205, [.inr (.inr (.inl 203)), .inl (ck_one 0)], ([(203, 0, 300)], [], [(203, 0, 299, ck_one 0)]), ([(203, 0, 299)], []), [(.inr none, 205, ([], [], [(203, 0, 299, ck_one 0)]))])
set_option maxRecDepth 100000 in
theorem pc_s110_e : ck_ok ck_O0 none [] [] 8 [(5, [some (.inr (.inr (.inl 203))), some (.inl (ck_one 0)), some (.inl (0, 300, [])), some (.inl (ck_one 300))], ([(203, 0, 300)], [], [(203, 0, 299, ck_one 0)]), 100, .inl 2, true)] 130 pc_s110 = true := by decide +kernel
theorem pc_s110_s {X : Int → Int} {LX : Nat} : ck_Ok ck_O0 X LX 8 pc_s110 := ck_ok_s ⟨(fun _ h => nomatch h), ck_E0⟩ ck_X0 ck_l0 pc_s110_e
set_option maxRecDepth 100000 in
/-- GlacierMail$Rows.size -/
def pc_s111 : ck_Sum := ((0, 0, 0), 205, [.inr (.inr (.inl 6))], ([(6, 6, 0)], [], [(6, 3, 3, ck_one 0)]), ([], []), [(.inr (some (.inl (ck_one 0))), 205, ([], [], []))])
set_option maxRecDepth 100000 in
theorem pc_s111_e : ck_ok ck_O0 none [] [] 9 [] 76 pc_s111 = true := by decide +kernel
theorem pc_s111_s {X : Int → Int} {LX : Nat} : ck_Ok ck_O0 X LX 9 pc_s111 := ck_ok_s ⟨(fun _ h => nomatch h), ck_E0⟩ ck_X0 ck_l0 pc_s111_e
set_option maxRecDepth 100000 in
/-- GlacierMail$Ice.reckonFloods -/
def pc_s112 : ck_Sum := ((1, 0, 0), 205, [.inr (.inr (.inl 200))], ([(3, 5, 0), (6, 6, 0), (200, 8, 0), (203, 0, 300)], [(3, 10, 6), (200, 0, 3), (200, 3, 203)], [(203, 0, 299, ck_one 0), (6, 3, 3, ck_one 0)]), ([(203, 0, 299)], []), [(.inr none, 205, ([], [], [(203, 0, 299, ck_one 0)]))])
set_option maxRecDepth 100000 in
theorem pc_s112_e : ck_ok ck_O0 none [] [(8, [pc_s110]), (9, [pc_s111])] 12 [(10, [some (.inr (.inr (.inl 200))), some (.inl (ck_one 0)), none], ([(3, 5, 0), (6, 6, 0), (200, 8, 0), (203, 0, 300)], [(3, 10, 6), (200, 0, 3), (200, 3, 203)], [(203, 0, 299, ck_one 0), (6, 3, 3, ck_one 0)]), 100, .inl 1, true)] 118 pc_s112 = true := by decide +kernel
theorem pc_s112_s {X : Int → Int} {LX : Nat} : ck_Ok ck_O0 X LX 12 pc_s112 := ck_ok_s ⟨(fun _ h => nomatch h), ck_E1 (ck_S1 pc_s110_s ck_S0) (ck_E1 (ck_S1 pc_s111_s ck_S0) ck_E0)⟩ ck_X0 ck_l0 pc_s112_e
set_option maxRecDepth 100000 in
/-- GlacierMail$Ice.renew -/
def pc_s113 : ck_Sum := ((2, 0, 0), 205, [.inr (.inr (.inl 200))], ([(3, 5, 0), (4, 6, 0), (6, 6, 0), (200, 8, 0), (201, 0, 300), (202, 0, 594), (203, 0, 300)], [(3, 9, 4), (3, 10, 6), (200, 0, 3), (200, 1, 201), (200, 2, 202), (200, 3, 203)], [(203, 0, 299, ck_one 0), (202, 0, 593, ck_one 0), (201, 0, 299, ck_one 0), (6, 3, 3, ck_one 0), (4, 3, 3, ck_one 0), (3, 5, 5, ck_one 1)]), ([(200, 6, 6), (201, 0, 299), (202, 0, 593), (203, 0, 299)], []), [(.inr none, 205, ([], [], [(200, 6, 6, ck_one 1), (203, 0, 299, ck_one 0), (201, 0, 299, (0, 9, [])), (202, 0, 593, ck_one 0)]))])
set_option maxRecDepth 100000 in
theorem pc_s113_e : ck_ok ck_O0 none [] [(6, [pc_s106]), (7, [pc_s109]), (12, [pc_s112])] 5 [] 90 pc_s113 = true := by decide +kernel
theorem pc_s113_s {X : Int → Int} {LX : Nat} : ck_Ok ck_O0 X LX 5 pc_s113 := ck_ok_s ⟨(fun _ h => nomatch h), ck_E1 (ck_S1 pc_s106_s ck_S0) (ck_E1 (ck_S1 pc_s109_s ck_S0) (ck_E1 (ck_S1 pc_s112_s ck_S0) ck_E0))⟩ ck_X0 ck_l0 pc_s113_e
set_option maxRecDepth 100000 in
/-- GlacierMail$Ice.<init> -/
def pc_s114 : ck_Sum := ((3, 5, 16054), 200, [.inr (.inr (.inl 200)), .inr (.inr (.inl 3))], ([(3, 5, 0), (4, 6, 0), (6, 6, 0), (200, 8, 0)], [(3, 9, 4), (3, 10, 6)], [(6, 3, 3, ck_one 0), (4, 3, 3, ck_one 0), (3, 5, 5, ck_one 1)]), ([(200, 6, 6)], [(200, 0), (200, 1), (200, 2), (200, 3), (200, 4), (200, 5)]), [(.inr none, 205, ([(201, 0, 300), (202, 0, 594), (203, 0, 300), (204, 0, 10), (205, 2, 14850)], [(200, 0, 3), (200, 1, 201), (200, 2, 202), (200, 3, 203), (200, 4, 204), (200, 5, 205)], [(200, 6, 6, ck_one 1), (204, 0, 9, ck_one 0), (203, 0, 299, ck_one 0), (201, 0, 299, (0, 9, [])), (202, 0, 593, ck_one 0), (205, 0, 14849, ck_one 0)]))])
set_option maxRecDepth 100000 in
theorem pc_s114_e : ck_ok ck_O0 none [] [(5, [pc_s113])] 4 [] 132 pc_s114 = true := by decide +kernel
theorem pc_s114_s {X : Int → Int} {LX : Nat} : ck_Ok ck_O0 X LX 4 pc_s114 := ck_ok_s ⟨(fun _ h => nomatch h), ck_E1 (ck_S1 pc_s113_s ck_S0) ck_E0⟩ ck_X0 ck_l0 pc_s114_e
set_option maxRecDepth 100000 in
/-- GlacierMail$Way.<init> -/
def pc_s115 : ck_Sum := ((1, 0, 0), 206, [.inr (.inr (.inl 206)), .inr (.inr (.inl 3)), .inr (.inr (.inl 200))], ([(206, 9, 0)], [], []), ([(206, 2, 8)], [(206, 0), (206, 1)]), [(.inr none, 206, ([], [(206, 0, 3), (206, 1, 200)], [(206, 8, 8, ck_one 0), (206, 7, 7, ck_one 0), (206, 6, 6, ck_one 0), (206, 5, 5, ck_one 0), (206, 4, 4, ck_one (-1)), (206, 3, 3, ck_one 0), (206, 2, 2, ck_one 0)]))])
set_option maxRecDepth 100000 in
theorem pc_s115_e : ck_ok ck_O0 none [] [] 13 [] 130 pc_s115 = true := by decide +kernel
theorem pc_s115_s {X : Int → Int} {LX : Nat} : ck_Ok ck_O0 X LX 13 pc_s115 := ck_ok_s ⟨(fun _ h => nomatch h), ck_E0⟩ ck_X0 ck_l0 pc_s115_e
set_option maxRecDepth 100000 in
/-- GlacierMail$Way.<init> -/
def pc_s116 : ck_Sum := ((1, 0, 0), 207, [.inr (.inr (.inl 207)), .inr (.inr (.inl 3)), .inr (.inr (.inl 200))], ([(207, 9, 0)], [], []), ([(207, 2, 8)], [(207, 0), (207, 1)]), [(.inr none, 207, ([], [(207, 0, 3), (207, 1, 200)], [(207, 8, 8, ck_one 0), (207, 7, 7, ck_one 0), (207, 6, 6, ck_one 0), (207, 5, 5, ck_one 0), (207, 4, 4, ck_one (-1)), (207, 3, 3, ck_one 0), (207, 2, 2, ck_one 0)]))])
set_option maxRecDepth 100000 in
theorem pc_s116_e : ck_ok ck_O0 none [] [] 13 [] 130 pc_s116 = true := by decide +kernel
theorem pc_s116_s {X : Int → Int} {LX : Nat} : ck_Ok ck_O0 X LX 13 pc_s116 := ck_ok_s ⟨(fun _ h => nomatch h), ck_E0⟩ ck_X0 ck_l0 pc_s116_e
set_option maxRecDepth 100000 in
/-- GlacierMail$Rows.<init> -/
def pc_s117 : ck_Sum := ((1, 1, 2400), 209, [.inr (.inr (.inl 209)), .inl (ck_one 8), .inl (ck_one 300)], ([(209, 6, 0)], [], []), ([(209, 0, 1), (209, 3, 3)], [(209, 2)]), [(.inr none, 210, ([(210, 0, 2400)], [(209, 2, 210)], [(209, 1, 1, ck_one 300), (209, 0, 0, ck_one 8), (209, 3, 3, ck_one 0), (210, 0, 2399, ck_one 0)]))])
set_option maxRecDepth 100000 in
theorem pc_s117_e : ck_ok ck_O0 none [] [] 2 [] 106 pc_s117 = true := by decide +kernel
theorem pc_s117_s {X : Int → Int} {LX : Nat} : ck_Ok ck_O0 X LX 2 pc_s117 := ck_ok_s ⟨(fun _ h => nomatch h), ck_E0⟩ ck_X0 ck_l0 pc_s117_e
set_option maxRecDepth 100000 in
/-- GlacierMail$Rows.<init> -/
def pc_s118 : ck_Sum := ((1, 1, 2400), 211, [.inr (.inr (.inl 211)), .inl (ck_one 8), .inl (ck_one 300)], ([(211, 6, 0)], [], []), ([(211, 0, 1), (211, 3, 3)], [(211, 2)]), [(.inr none, 212, ([(212, 0, 2400)], [(211, 2, 212)], [(211, 1, 1, ck_one 300), (211, 0, 0, ck_one 8), (211, 3, 3, ck_one 0), (212, 0, 2399, ck_one 0)]))])
set_option maxRecDepth 100000 in
theorem pc_s118_e : ck_ok ck_O0 none [] [] 2 [] 106 pc_s118 = true := by decide +kernel
theorem pc_s118_s {X : Int → Int} {LX : Nat} : ck_Ok ck_O0 X LX 2 pc_s118 := ck_ok_s ⟨(fun _ h => nomatch h), ck_E0⟩ ck_X0 ck_l0 pc_s118_e
set_option maxRecDepth 100000 in
/-- GlacierMail$Answers.<init> -/
def pc_s119 : ck_Sum := ((2, 4, 4808), 208, [.inr (.inr (.inl 208)), .inr (.inr (.inl 3)), .inr (.inr (.inl 206))], ([(208, 10, 0)], [], []), ([], [(208, 0), (208, 1), (208, 2), (208, 3)]), [(.inr none, 212, ([(209, 6, 0), (210, 0, 2400), (211, 6, 0), (212, 0, 2400)], [(208, 0, 3), (208, 1, 206), (208, 2, 209), (208, 3, 211), (209, 2, 210), (211, 2, 212)], [(211, 1, 1, ck_one 300), (211, 0, 0, ck_one 8), (211, 3, 3, ck_one 0), (211, 2, 2, ck_one 0), (209, 1, 1, ck_one 300), (209, 0, 0, ck_one 8), (209, 3, 3, ck_one 0), (209, 2, 2, ck_one 0), (212, 0, 2399, ck_one 0), (210, 0, 2399, ck_one 0)]))])
set_option maxRecDepth 100000 in
theorem pc_s119_e : ck_ok ck_O0 none [] [(2, [pc_s117, pc_s118])] 14 [] 116 pc_s119 = true := by decide +kernel
theorem pc_s119_s {X : Int → Int} {LX : Nat} : ck_Ok ck_O0 X LX 14 pc_s119 := ck_ok_s ⟨(fun _ h => nomatch h), ck_E1 (ck_S1 pc_s117_s (ck_S1 pc_s118_s ck_S0)) ck_E0⟩ ck_X0 ck_l0 pc_s119_e
