/-! 78r80a00.sf -/
section
/-! EVERY CALL ENDS, whatever was done before (laid by wip/am/p2k.py). -/
set_option maxRecDepth 100000 in
/-- GlacierMail.putNumber -/
noncomputable def p2_s0 : ck_Sum := ((0, 0, 0), 245, [.inr (.inr (.inl 1)), .inl ((-2147483648), 2147483647, [])], ([], [], [(1, 1, 1, (0, 380, [(6, 0)]))]), ([(1, 1, 1), (2, 0, 383)], []), [(.inr none, 245, ([], [], [(1, 1, 1, (4, 384, [(6, 4)]))]))])
set_option maxRecDepth 100000 in
theorem p2_s0_s {X : Int → Int} {LX : Nat} : ck_Ok p2_O X LX 20 p2_s0 := ck_ok_s (O := p2_O) (X := X) (LX := LX) (E := []) (mi := 20) (cuts := []) (f := 280) (S := p2_s0) (lx := none) (XF := []) ⟨p2_nmu, ck_E0⟩ ck_X0 ck_l0 (by decide +kernel)
set_option maxRecDepth 100000 in
/-- GlacierMail.putNumber -/
noncomputable def p2_s1 : ck_Sum := ((0, 0, 0), 245, [.inr (.inr (.inl 1)), .inl ((-2147483648), 2147483647, [])], ([], [], [(1, 1, 1, (4, 384, [(6, 0)]))]), ([(1, 1, 1), (2, 4, 387)], []), [(.inr none, 245, ([], [], [(1, 1, 1, (8, 388, [(6, 4)]))]))])
set_option maxRecDepth 100000 in
theorem p2_s1_s {X : Int → Int} {LX : Nat} : ck_Ok p2_O X LX 20 p2_s1 := ck_ok_s (O := p2_O) (X := X) (LX := LX) (E := []) (mi := 20) (cuts := []) (f := 280) (S := p2_s1) (lx := none) (XF := []) ⟨p2_nmu, ck_E0⟩ ck_X0 ck_l0 (by decide +kernel)
set_option maxRecDepth 100000 in
/-- GlacierMail.putNumber -/
noncomputable def p2_s2 : ck_Sum := ((0, 0, 0), 245, [.inr (.inr (.inl 1)), .inl ((-2147483648), 2147483647, [])], ([], [], [(1, 1, 1, (8, 388, [(6, 0)]))]), ([(1, 1, 1), (2, 8, 391)], []), [(.inr none, 245, ([], [], [(1, 1, 1, (12, 392, [(6, 4)]))]))])
set_option maxRecDepth 100000 in
theorem p2_s2_s {X : Int → Int} {LX : Nat} : ck_Ok p2_O X LX 20 p2_s2 := ck_ok_s (O := p2_O) (X := X) (LX := LX) (E := []) (mi := 20) (cuts := []) (f := 280) (S := p2_s2) (lx := none) (XF := []) ⟨p2_nmu, ck_E0⟩ ck_X0 ck_l0 (by decide +kernel)
set_option maxRecDepth 100000 in
/-- GlacierMail.putNumber -/
noncomputable def p2_s3 : ck_Sum := ((0, 0, 0), 245, [.inr (.inr (.inl 1)), .inl ((-2147483648), 2147483647, [])], ([], [], [(1, 1, 1, (12, 392, [(6, 0)]))]), ([(1, 1, 1), (2, 12, 395)], []), [(.inr none, 245, ([], [], [(1, 1, 1, (16, 396, [(6, 4)]))]))])
set_option maxRecDepth 100000 in
theorem p2_s3_s {X : Int → Int} {LX : Nat} : ck_Ok p2_O X LX 20 p2_s3 := ck_ok_s (O := p2_O) (X := X) (LX := LX) (E := []) (mi := 20) (cuts := []) (f := 280) (S := p2_s3) (lx := none) (XF := []) ⟨p2_nmu, ck_E0⟩ ck_X0 ck_l0 (by decide +kernel)
set_option maxRecDepth 100000 in
/-- GlacierMail.putNumber -/
noncomputable def p2_s4 : ck_Sum := ((0, 0, 0), 245, [.inr (.inr (.inl 1)), .inl ((-2147483648), 2147483647, [])], ([], [], [(1, 1, 1, (16, 396, [(6, 0)]))]), ([(1, 1, 1), (2, 16, 399)], []), [(.inr none, 245, ([], [], [(1, 1, 1, (20, 400, [(6, 4)]))]))])
set_option maxRecDepth 100000 in
theorem p2_s4_s {X : Int → Int} {LX : Nat} : ck_Ok p2_O X LX 20 p2_s4 := ck_ok_s (O := p2_O) (X := X) (LX := LX) (E := []) (mi := 20) (cuts := []) (f := 280) (S := p2_s4) (lx := none) (XF := []) ⟨p2_nmu, ck_E0⟩ ck_X0 ck_l0 (by decide +kernel)
set_option maxRecDepth 100000 in
/-- GlacierMail.feed -/
noncomputable def p2_s5 : ck_Sum := ((1, 0, 0), 245, [.inr (.inr (.inl 1)), .inl ((-2147483648), 2147483647, []), .inl ((-2147483648), 2147483647, []), .inl ((-2147483648), 2147483647, []), .inl ((-2147483648), 2147483647, []), .inl ((-2147483648), 2147483647, [])], ([], [], [(1, 1, 1, (0, 400, [(6, 0)]))]), ([(1, 1, 1), (2, 0, 399)], []), [(.inr (some (.inl (20, 400, [(6, 20)]))), 245, ([], [], [(1, 1, 1, (20, 400, [(6, 20)]))])), (.inr (some (.inl (ck_one (-1)))), 245, ([], [], [(1, 1, 1, (381, 400, [(6, 0)]))]))])
set_option maxRecDepth 100000 in
theorem p2_s5_s {X : Int → Int} {LX : Nat} : ck_Ok p2_O X LX 19 p2_s5 := ck_ok_s (O := p2_O) (X := X) (LX := LX) (E := [(20, [p2_s0, p2_s1, p2_s2, p2_s3, p2_s4])]) (mi := 19) (cuts := []) (f := 118) (S := p2_s5) (lx := none) (XF := []) ⟨p2_nmu, ck_E1 (ck_S1 p2_s0_s (ck_S1 p2_s1_s (ck_S1 p2_s2_s (ck_S1 p2_s3_s (ck_S1 p2_s4_s ck_S0))))) ck_E0⟩ ck_X0 ck_l0 (by decide +kernel)
set_option maxRecDepth 100000 in
/-- GlacierMailModel.feed -/
noncomputable def p2_s6 : ck_Sum := ((0, 0, 0), 245, [.inr (.inr (.inl 226)), .inl ((-2147483648), 2147483647, []), .inl ((-2147483648), 2147483647, []), .inl ((-2147483648), 2147483647, []), .inl ((-2147483648), 2147483647, []), .inl ((-2147483648), 2147483647, [])], ([], [], [(226, 8, 8, (0, 400, [(7, 0)]))]), ([(226, 0, 0), (226, 8, 8), (231, 0, 399), (232, 0, 4)], []), [(.inr (some (.inl (20, 400, [(7, 20)]))), 245, ([], [], [(226, 8, 8, (20, 400, [(7, 20)])), (226, 0, 0, ck_one 0)])), (.inr (some (.inl (ck_one (-1)))), 245, ([], [], [(226, 8, 8, (381, 400, [(7, 0)])), (226, 0, 0, ck_one 0)]))])
set_option maxRecDepth 100000 in
theorem p2_s6_s {X : Int → Int} {LX : Nat} : ck_Ok p2_O X LX 239 p2_s6 := ck_ok_s (O := p2_O) (X := X) (LX := LX) (E := []) (mi := 239) (cuts := []) (f := 1246) (S := p2_s6) (lx := none) (XF := []) ⟨p2_nmu, ck_E0⟩ ck_X0 ck_l0 (by decide +kernel)
set_option maxRecDepth 100000 in
/-- GlacierMail$Rows.copyFrom -/
noncomputable def p2_s9 : ck_Sum := ((1, 0, 0), 245, [.inr (.inr (.inl 17)), .inr (.inr (.inl 4))], ([], [], []), ([(17, 3, 3), (18, 0, 55)], []), [(.inr none, 245, ([], [], []))])
set_option maxRecDepth 100000 in
theorem p2_s9_s {X : Int → Int} {LX : Nat} : ck_Ok p2_O X LX 58 p2_s9 := ck_ok_s (O := p2_O) (X := X) (LX := LX) (E := []) (mi := 58) (cuts := []) (f := 114) (S := p2_s9) (lx := none) (XF := []) ⟨p2_nmu, ck_E0⟩ ck_X0 ck_l0 (by decide +kernel)
set_option maxRecDepth 100000 in
/-- GlacierMail$Rows.copyFrom -/
noncomputable def p2_s10 : ck_Sum := ((1, 0, 0), 245, [.inr (.inr (.inl 19)), .inr (.inr (.inl 6))], ([], [], []), ([(19, 3, 3), (20, 0, 23)], []), [(.inr none, 245, ([], [], []))])
set_option maxRecDepth 100000 in
theorem p2_s10_s {X : Int → Int} {LX : Nat} : ck_Ok p2_O X LX 58 p2_s10 := ck_ok_s (O := p2_O) (X := X) (LX := LX) (E := []) (mi := 58) (cuts := []) (f := 114) (S := p2_s10) (lx := none) (XF := []) ⟨p2_nmu, ck_E0⟩ ck_X0 ck_l0 (by decide +kernel)
set_option maxRecDepth 100000 in
/-- GlacierMail$Rows.copyFrom -/
noncomputable def p2_s11 : ck_Sum := ((1, 0, 0), 245, [.inr (.inr (.inl 21)), .inr (.inr (.inl 8))], ([], [], []), ([(21, 3, 3), (22, 0, 23)], []), [(.inr none, 245, ([], [], []))])
set_option maxRecDepth 100000 in
theorem p2_s11_s {X : Int → Int} {LX : Nat} : ck_Ok p2_O X LX 58 p2_s11 := ck_ok_s (O := p2_O) (X := X) (LX := LX) (E := []) (mi := 58) (cuts := []) (f := 114) (S := p2_s11) (lx := none) (XF := []) ⟨p2_nmu, ck_E0⟩ ck_X0 ck_l0 (by decide +kernel)
set_option maxRecDepth 100000 in
/-- GlacierMail$Rows.copyFrom -/
noncomputable def p2_s12 : ck_Sum := ((1, 0, 0), 245, [.inr (.inr (.inl 23)), .inr (.inr (.inl 10))], ([], [], []), ([(23, 3, 3), (24, 0, 167)], []), [(.inr none, 245, ([], [], []))])
set_option maxRecDepth 100000 in
theorem p2_s12_s {X : Int → Int} {LX : Nat} : ck_Ok p2_O X LX 58 p2_s12 := ck_ok_s (O := p2_O) (X := X) (LX := LX) (E := []) (mi := 58) (cuts := []) (f := 114) (S := p2_s12) (lx := none) (XF := []) ⟨p2_nmu, ck_E0⟩ ck_X0 ck_l0 (by decide +kernel)
set_option maxRecDepth 100000 in
/-- GlacierMail$Rows.copyFrom -/
noncomputable def p2_s13 : ck_Sum := ((1, 0, 0), 245, [.inr (.inr (.inl 25)), .inr (.inr (.inl 12))], ([], [], []), ([(25, 3, 3), (26, 0, 35)], []), [(.inr none, 245, ([], [], []))])
set_option maxRecDepth 100000 in
theorem p2_s13_s {X : Int → Int} {LX : Nat} : ck_Ok p2_O X LX 58 p2_s13 := ck_ok_s (O := p2_O) (X := X) (LX := LX) (E := []) (mi := 58) (cuts := []) (f := 114) (S := p2_s13) (lx := none) (XF := []) ⟨p2_nmu, ck_E0⟩ ck_X0 ck_l0 (by decide +kernel)
set_option maxRecDepth 100000 in
/-- GlacierMail$Rows.copyFrom -/
noncomputable def p2_s14 : ck_Sum := ((1, 0, 0), 245, [.inr (.inr (.inl 27)), .inr (.inr (.inl 14))], ([], [], []), ([(27, 3, 3), (28, 0, 71)], []), [(.inr none, 245, ([], [], []))])
set_option maxRecDepth 100000 in
theorem p2_s14_s {X : Int → Int} {LX : Nat} : ck_Ok p2_O X LX 58 p2_s14 := ck_ok_s (O := p2_O) (X := X) (LX := LX) (E := []) (mi := 58) (cuts := []) (f := 114) (S := p2_s14) (lx := none) (XF := []) ⟨p2_nmu, ck_E0⟩ ck_X0 ck_l0 (by decide +kernel)
set_option maxRecDepth 100000 in
/-- GlacierMail$State.copyFrom -/
noncomputable def p2_s15 : ck_Sum := ((2, 0, 0), 245, [.inr (.inr (.inl 16)), .inr (.inr (.inl 3))], ([], [(3, 8, 0), (16, 8, 100016)], [(3, 6, 6, (0, 299, [(10, 0)]))]), (zl0, [(16, 8)]), [(.inr none, 245, ([], [(16, 8, 0)], [(16, 6, 6, (0, 299, [(10, 0)]))]))])
set_option maxRecDepth 100000 in
theorem p2_s15_s {X : Int → Int} {LX : Nat} : ck_Ok p2_O X LX 57 p2_s15 := ck_ok_s (O := p2_O) (X := X) (LX := LX) (E := [(58, [p2_s9, p2_s10, p2_s11, p2_s12, p2_s13, p2_s14])]) (mi := 57) (cuts := []) (f := 204) (S := p2_s15) (lx := none) (XF := []) ⟨p2_nmu, ck_E1 (ck_S1 p2_s9_s (ck_S1 p2_s10_s (ck_S1 p2_s11_s (ck_S1 p2_s12_s (ck_S1 p2_s13_s (ck_S1 p2_s14_s ck_S0)))))) ck_E0⟩ ck_X0 ck_l0 (by decide +kernel)
set_option maxRecDepth 100000 in
/-- GlacierMail$Rows.copyFrom -/
noncomputable def p2_s16 : ck_Sum := ((1, 0, 0), 245, [.inr (.inr (.inl 4)), .inr (.inr (.inl 17))], ([], [], []), ([(4, 3, 3), (5, 0, 55)], []), [(.inr none, 245, ([], [], []))])
set_option maxRecDepth 100000 in
theorem p2_s16_s {X : Int → Int} {LX : Nat} : ck_Ok p2_O X LX 58 p2_s16 := ck_ok_s (O := p2_O) (X := X) (LX := LX) (E := []) (mi := 58) (cuts := []) (f := 114) (S := p2_s16) (lx := none) (XF := []) ⟨p2_nmu, ck_E0⟩ ck_X0 ck_l0 (by decide +kernel)
set_option maxRecDepth 100000 in
/-- GlacierMail$Rows.copyFrom -/
noncomputable def p2_s17 : ck_Sum := ((1, 0, 0), 245, [.inr (.inr (.inl 6)), .inr (.inr (.inl 19))], ([], [], []), ([(6, 3, 3), (7, 0, 23)], []), [(.inr none, 245, ([], [], []))])
set_option maxRecDepth 100000 in
theorem p2_s17_s {X : Int → Int} {LX : Nat} : ck_Ok p2_O X LX 58 p2_s17 := ck_ok_s (O := p2_O) (X := X) (LX := LX) (E := []) (mi := 58) (cuts := []) (f := 114) (S := p2_s17) (lx := none) (XF := []) ⟨p2_nmu, ck_E0⟩ ck_X0 ck_l0 (by decide +kernel)
set_option maxRecDepth 100000 in
/-- GlacierMail$Rows.copyFrom -/
noncomputable def p2_s18 : ck_Sum := ((1, 0, 0), 245, [.inr (.inr (.inl 8)), .inr (.inr (.inl 21))], ([], [], []), ([(8, 3, 3), (9, 0, 23)], []), [(.inr none, 245, ([], [], []))])
set_option maxRecDepth 100000 in
theorem p2_s18_s {X : Int → Int} {LX : Nat} : ck_Ok p2_O X LX 58 p2_s18 := ck_ok_s (O := p2_O) (X := X) (LX := LX) (E := []) (mi := 58) (cuts := []) (f := 114) (S := p2_s18) (lx := none) (XF := []) ⟨p2_nmu, ck_E0⟩ ck_X0 ck_l0 (by decide +kernel)
set_option maxRecDepth 100000 in
/-- GlacierMail$Rows.copyFrom -/
noncomputable def p2_s19 : ck_Sum := ((1, 0, 0), 245, [.inr (.inr (.inl 10)), .inr (.inr (.inl 23))], ([], [], []), ([(10, 3, 3), (11, 0, 167)], []), [(.inr none, 245, ([], [], []))])
set_option maxRecDepth 100000 in
theorem p2_s19_s {X : Int → Int} {LX : Nat} : ck_Ok p2_O X LX 58 p2_s19 := ck_ok_s (O := p2_O) (X := X) (LX := LX) (E := []) (mi := 58) (cuts := []) (f := 114) (S := p2_s19) (lx := none) (XF := []) ⟨p2_nmu, ck_E0⟩ ck_X0 ck_l0 (by decide +kernel)
set_option maxRecDepth 100000 in
/-- GlacierMail$Rows.copyFrom -/
noncomputable def p2_s20 : ck_Sum := ((1, 0, 0), 245, [.inr (.inr (.inl 12)), .inr (.inr (.inl 25))], ([], [], []), ([(12, 3, 3), (13, 0, 35)], []), [(.inr none, 245, ([], [], []))])
set_option maxRecDepth 100000 in
theorem p2_s20_s {X : Int → Int} {LX : Nat} : ck_Ok p2_O X LX 58 p2_s20 := ck_ok_s (O := p2_O) (X := X) (LX := LX) (E := []) (mi := 58) (cuts := []) (f := 114) (S := p2_s20) (lx := none) (XF := []) ⟨p2_nmu, ck_E0⟩ ck_X0 ck_l0 (by decide +kernel)
set_option maxRecDepth 100000 in
/-- GlacierMail$Rows.copyFrom -/
noncomputable def p2_s21 : ck_Sum := ((1, 0, 0), 245, [.inr (.inr (.inl 14)), .inr (.inr (.inl 27))], ([], [], []), ([(14, 3, 3), (15, 0, 71)], []), [(.inr none, 245, ([], [], []))])
set_option maxRecDepth 100000 in
theorem p2_s21_s {X : Int → Int} {LX : Nat} : ck_Ok p2_O X LX 58 p2_s21 := ck_ok_s (O := p2_O) (X := X) (LX := LX) (E := []) (mi := 58) (cuts := []) (f := 114) (S := p2_s21) (lx := none) (XF := []) ⟨p2_nmu, ck_E0⟩ ck_X0 ck_l0 (by decide +kernel)
set_option maxRecDepth 100000 in
/-- GlacierMail$State.copyFrom -/
noncomputable def p2_s22 : ck_Sum := ((2, 0, 0), 245, [.inr (.inr (.inl 3)), .inr (.inr (.inl 16))], ([], [(3, 8, 0), (16, 8, 0)], []), (zl1, [(3, 8)]), [(.inr none, 245, ([], [(3, 8, 0)], []))])
set_option maxRecDepth 100000 in
theorem p2_s22_s {X : Int → Int} {LX : Nat} : ck_Ok p2_O X LX 57 p2_s22 := ck_ok_s (O := p2_O) (X := X) (LX := LX) (E := [(58, [p2_s16, p2_s17, p2_s18, p2_s19, p2_s20, p2_s21])]) (mi := 57) (cuts := []) (f := 204) (S := p2_s22) (lx := none) (XF := []) ⟨p2_nmu, ck_E1 (ck_S1 p2_s16_s (ck_S1 p2_s17_s (ck_S1 p2_s18_s (ck_S1 p2_s19_s (ck_S1 p2_s20_s (ck_S1 p2_s21_s ck_S0)))))) ck_E0⟩ ck_X0 ck_l0 (by decide +kernel)
set_option maxRecDepth 100000 in
/-- GlacierMail$ValleyReader.clear -/
noncomputable def p2_s23 : ck_Sum := ((0, 0, 0), 245, [.inr (.inr (.inl 213))], ([], [], []), ([], []), [(.inr none, 245, ([], [], []))])
set_option maxRecDepth 100000 in
theorem p2_s23_s {X : Int → Int} {LX : Nat} : ck_Ok p2_O X LX 74 p2_s23 := ck_ok_s (O := p2_O) (X := X) (LX := LX) (E := []) (mi := 74) (cuts := []) (f := 72) (S := p2_s23) (lx := none) (XF := []) ⟨p2_nmu, ck_E0⟩ ck_X0 ck_l0 (by decide +kernel)
set_option maxRecDepth 100000 in
/-- GlacierMail$Words.isSmall -/
noncomputable def p2_s24 : ck_Sum := ((0, 0, 0), 245, [.inl ((-128), 127, [])], ([], [], []), ([], []), [(.inr (some (.inl (ck_one 0))), 245, ([], [], [])), (.inr (some (.inl (ck_one 1))), 245, ([], [], []))])
set_option maxRecDepth 100000 in
theorem p2_s24_s {X : Int → Int} {LX : Nat} : ck_Ok p2_O X LX 77 p2_s24 := ck_ok_s (O := p2_O) (X := X) (LX := LX) (E := []) (mi := 77) (cuts := []) (f := 88) (S := p2_s24) (lx := none) (XF := []) ⟨p2_nmu, ck_E0⟩ ck_X0 ck_l0 (by decide +kernel)
set_option maxRecDepth 100000 in
/-- GlacierMail$Words.isDigit -/
noncomputable def p2_s25 : ck_Sum := ((0, 0, 0), 245, [.inl ((-128), 127, [])], ([], [], []), ([], []), [(.inr (some (.inl (ck_one 0))), 245, ([], [], [])), (.inr (some (.inl (ck_one 1))), 245, ([], [], []))])
set_option maxRecDepth 100000 in
theorem p2_s25_s {X : Int → Int} {LX : Nat} : ck_Ok p2_O X LX 78 p2_s25 := ck_ok_s (O := p2_O) (X := X) (LX := LX) (E := []) (mi := 78) (cuts := []) (f := 88) (S := p2_s25) (lx := none) (XF := []) ⟨p2_nmu, ck_E0⟩ ck_X0 ck_l0 (by decide +kernel)
set_option maxRecDepth 100000 in
/-- GlacierMail$Words.next -/
noncomputable def p2_s26 : ck_Sum := ((1, 0, 0), 245, [.inr (.inr (.inl 214))], ([], [], [(214, 3, 3, (0, 400, [(12, 0)]))]), ([(214, 3, 4), (214, 6, 7)], []), [(.inr none, 245, ([], [], [(214, 3, 3, (0, 400, [(1000012, 0)]))]))])
set_option maxRecDepth 100000 in
theorem p2_s26_s {X : Int → Int} {LX : Nat} : ck_Ok p2_O X LX 76 p2_s26 := ck_ok_s (O := p2_O) (X := X) (LX := LX) (E := [(77, [p2_s24]), (78, [p2_s25])]) (mi := 76) (cuts := [(0, [some (.inr (.inr (.inl 214))), none], ([], [], [(214, 3, 3, (0, 400, [(1000012, 0)]))]), 100, .inr (214, 3), true), (160, [some (.inr (.inr (.inl 214))), none], ([], [], [(214, 6, 6, ck_one 258), (214, 2, 2, (1, 400, [])), (214, 3, 3, (0, 400, [(1000100, 0), (1000012, 0)])), (214, 4, 4, (0, 400, [(100, 0)]))]), 300, .inr (214, 3), true), (94, [some (.inr (.inr (.inl 214))), none], ([], [], [(214, 6, 6, ck_one 257), (214, 2, 2, (1, 400, [])), (214, 3, 3, (0, 400, [(1000100, 0), (1000012, 0)])), (214, 7, 7, ck_one (-1)), (214, 4, 4, (0, 400, [(100, 0), (1000012, 0)]))]), 500, .inr (214, 3), true)]) (f := 562) (S := p2_s26) (lx := none) (XF := []) ⟨p2_nmu, ck_E1 (ck_S1 p2_s24_s ck_S0) (ck_E1 (ck_S1 p2_s25_s ck_S0) ck_E0)⟩ ck_X0 ck_l0 (by decide +kernel)
set_option maxRecDepth 100000 in
/-- GlacierMail$Words.start -/
noncomputable def p2_s27 : ck_Sum := ((2, 0, 0), 245, [.inr (.inr (.inl 214)), .inl (0, 400, [])], ([], [], [(214, 3, 3, (0, 400, [(12, 0)]))]), ([(214, 2, 7)], []), [(.inr none, 245, ([], [], [(214, 5, 5, ck_one (-1))]))])
set_option maxRecDepth 100000 in
theorem p2_s27_s {X : Int → Int} {LX : Nat} : ck_Ok p2_O X LX 75 p2_s27 := ck_ok_s (O := p2_O) (X := X) (LX := LX) (E := [(76, [p2_s26])]) (mi := 75) (cuts := []) (f := 102) (S := p2_s27) (lx := none) (XF := []) ⟨p2_nmu, ck_E1 (ck_S1 p2_s26_s ck_S0) ck_E0⟩ ck_X0 ck_l0 (by decide +kernel)
set_option maxRecDepth 100000 in
/-- GlacierMail$Words.refuse -/
noncomputable def p2_s28 : ck_Sum := ((0, 0, 0), 245, [.inr (.inr (.inl 214))], ([], [], []), ([(214, 5, 5)], []), [(.inr (some (.inl (ck_one 0))), 245, ([], [], [(214, 5, 5, (0, 400, []))]))])
set_option maxRecDepth 100000 in
theorem p2_s28_s {X : Int → Int} {LX : Nat} : ck_Ok p2_O X LX 93 p2_s28 := ck_ok_s (O := p2_O) (X := X) (LX := LX) (E := []) (mi := 93) (cuts := []) (f := 90) (S := p2_s28) (lx := none) (XF := []) ⟨p2_nmu, ck_E0⟩ ck_X0 ck_l0 (by decide +kernel)
set_option maxRecDepth 100000 in
/-- GlacierMail$Words.wrong -/
noncomputable def p2_s29 : ck_Sum := ((0, 0, 0), 245, [.inr (.inr (.inl 214))], ([], [], []), ([], []), zl2)
set_option maxRecDepth 100000 in
theorem p2_s29_s {X : Int → Int} {LX : Nat} : ck_Ok p2_O X LX 121 p2_s29 := ck_ok_s (O := p2_O) (X := X) (LX := LX) (E := []) (mi := 121) (cuts := []) (f := 76) (S := p2_s29) (lx := none) (XF := []) ⟨p2_nmu, ck_E0⟩ ck_X0 ck_l0 (by decide +kernel)
set_option maxRecDepth 100000 in
/-- GlacierMail$Words.isWord -/
noncomputable def p2_s30 : ck_Sum := ((6, 0, 0), 245, [.inr (.inr (.inl 214)), .inr (.inr (.inr 17))], ([], [], [(214, 3, 3, (0, 400, [(12, 0)]))]), ([], []), zl3)
set_option maxRecDepth 100000 in
theorem p2_s30_s {X : Int → Int} {LX : Nat} : ck_Ok p2_O X LX 81 p2_s30 := ck_ok_s (O := p2_O) (X := X) (LX := LX) (E := []) (mi := 81) (cuts := []) (f := 360) (S := p2_s30) (lx := none) (XF := []) ⟨p2_nmu, ck_E0⟩ ck_X0 ck_l0 (by decide +kernel)
set_option maxRecDepth 100000 in
/-- GlacierMail$Words.isWord -/
noncomputable def p2_s31 : ck_Sum := ((6, 0, 0), 245, [.inr (.inr (.inl 214)), .inr (.inr (.inr 18))], ([], [], [(214, 3, 3, (0, 400, [(12, 0)]))]), ([], []), zl4)
set_option maxRecDepth 100000 in
theorem p2_s31_s {X : Int → Int} {LX : Nat} : ck_Ok p2_O X LX 81 p2_s31 := ck_ok_s (O := p2_O) (X := X) (LX := LX) (E := []) (mi := 81) (cuts := []) (f := 310) (S := p2_s31) (lx := none) (XF := []) ⟨p2_nmu, ck_E0⟩ ck_X0 ck_l0 (by decide +kernel)
set_option maxRecDepth 100000 in
/-- GlacierMail$Words.isWord -/
noncomputable def p2_s32 : ck_Sum := ((6, 0, 0), 245, [.inr (.inr (.inl 214)), .inr (.inr (.inr 19))], ([], [], [(214, 3, 3, (0, 400, [(12, 0)]))]), ([], []), [(.inr (some (.inl (ck_one 0))), 245, ([], [], [])), (.inr (some (.inl (ck_one 1))), 245, ([], [], zl5))])
set_option maxRecDepth 100000 in
theorem p2_s32_s {X : Int → Int} {LX : Nat} : ck_Ok p2_O X LX 81 p2_s32 := ck_ok_s (O := p2_O) (X := X) (LX := LX) (E := []) (mi := 81) (cuts := []) (f := 460) (S := p2_s32) (lx := none) (XF := []) ⟨p2_nmu, ck_E0⟩ ck_X0 ck_l0 (by decide +kernel)
set_option maxRecDepth 100000 in
/-- GlacierMail$Words.isWord -/
noncomputable def p2_s33 : ck_Sum := ((6, 0, 0), 245, [.inr (.inr (.inl 214)), .inr (.inr (.inr 20))], ([], [], [(214, 3, 3, (0, 400, [(12, 0)]))]), ([], []), zl4)
set_option maxRecDepth 100000 in
theorem p2_s33_s {X : Int → Int} {LX : Nat} : ck_Ok p2_O X LX 81 p2_s33 := ck_ok_s (O := p2_O) (X := X) (LX := LX) (E := []) (mi := 81) (cuts := []) (f := 310) (S := p2_s33) (lx := none) (XF := []) ⟨p2_nmu, ck_E0⟩ ck_X0 ck_l0 (by decide +kernel)
set_option maxRecDepth 100000 in
/-- GlacierMail$Words.isWord -/
noncomputable def p2_s34 : ck_Sum := ((6, 0, 0), 245, [.inr (.inr (.inl 214)), .inr (.inr (.inr 22))], ([], [], [(214, 3, 3, (0, 400, [(12, 0)]))]), ([], []), zl6)
set_option maxRecDepth 100000 in
theorem p2_s34_s {X : Int → Int} {LX : Nat} : ck_Ok p2_O X LX 81 p2_s34 := ck_ok_s (O := p2_O) (X := X) (LX := LX) (E := []) (mi := 81) (cuts := []) (f := 410) (S := p2_s34) (lx := none) (XF := []) ⟨p2_nmu, ck_E0⟩ ck_X0 ck_l0 (by decide +kernel)
set_option maxRecDepth 100000 in
/-- GlacierMail$Words.isWord -/
noncomputable def p2_s35 : ck_Sum := ((6, 0, 0), 245, [.inr (.inr (.inl 214)), .inr (.inr (.inr 23))], ([], [], [(214, 3, 3, (0, 400, [(12, 0)]))]), ([], []), zl4)
set_option maxRecDepth 100000 in
theorem p2_s35_s {X : Int → Int} {LX : Nat} : ck_Ok p2_O X LX 81 p2_s35 := ck_ok_s (O := p2_O) (X := X) (LX := LX) (E := []) (mi := 81) (cuts := []) (f := 310) (S := p2_s35) (lx := none) (XF := []) ⟨p2_nmu, ck_E0⟩ ck_X0 ck_l0 (by decide +kernel)
set_option maxRecDepth 100000 in
/-- GlacierMail$Words.isWord -/
noncomputable def p2_s36 : ck_Sum := ((6, 0, 0), 245, [.inr (.inr (.inl 214)), .inr (.inr (.inr 24))], ([], [], [(214, 3, 3, (0, 400, [(12, 0)]))]), ([], []), zl3)
set_option maxRecDepth 100000 in
theorem p2_s36_s {X : Int → Int} {LX : Nat} : ck_Ok p2_O X LX 81 p2_s36 := ck_ok_s (O := p2_O) (X := X) (LX := LX) (E := []) (mi := 81) (cuts := []) (f := 360) (S := p2_s36) (lx := none) (XF := []) ⟨p2_nmu, ck_E0⟩ ck_X0 ck_l0 (by decide +kernel)
set_option maxRecDepth 100000 in
/-- GlacierMail$Words.isWord -/
noncomputable def p2_s37 : ck_Sum := ((6, 0, 0), 245, [.inr (.inr (.inl 214)), .inr (.inr (.inr 25))], ([], [], [(214, 3, 3, (0, 400, [(12, 0)]))]), ([], []), zl6)
set_option maxRecDepth 100000 in
theorem p2_s37_s {X : Int → Int} {LX : Nat} : ck_Ok p2_O X LX 81 p2_s37 := ck_ok_s (O := p2_O) (X := X) (LX := LX) (E := []) (mi := 81) (cuts := []) (f := 410) (S := p2_s37) (lx := none) (XF := []) ⟨p2_nmu, ck_E0⟩ ck_X0 ck_l0 (by decide +kernel)
set_option maxRecDepth 100000 in
/-- GlacierMail$Words.isWord -/
noncomputable def p2_s38 : ck_Sum := ((6, 0, 0), 245, [.inr (.inr (.inl 214)), .inr (.inr (.inr 27))], ([], [], [(214, 3, 3, (0, 400, [(12, 0)]))]), ([], []), zl4)
set_option maxRecDepth 100000 in
theorem p2_s38_s {X : Int → Int} {LX : Nat} : ck_Ok p2_O X LX 81 p2_s38 := ck_ok_s (O := p2_O) (X := X) (LX := LX) (E := []) (mi := 81) (cuts := []) (f := 310) (S := p2_s38) (lx := none) (XF := []) ⟨p2_nmu, ck_E0⟩ ck_X0 ck_l0 (by decide +kernel)
set_option maxRecDepth 100000 in
/-- GlacierMail$Words.isWord -/
noncomputable def p2_s39 : ck_Sum := ((6, 0, 0), 245, [.inr (.inr (.inl 214)), .inr (.inr (.inr 28))], ([], [], [(214, 3, 3, (0, 400, [(12, 0)]))]), ([], []), zl3)
set_option maxRecDepth 100000 in
theorem p2_s39_s {X : Int → Int} {LX : Nat} : ck_Ok p2_O X LX 81 p2_s39 := ck_ok_s (O := p2_O) (X := X) (LX := LX) (E := []) (mi := 81) (cuts := []) (f := 360) (S := p2_s39) (lx := none) (XF := []) ⟨p2_nmu, ck_E0⟩ ck_X0 ck_l0 (by decide +kernel)
set_option maxRecDepth 100000 in
/-- GlacierMail$Rows.isFull -/
noncomputable def p2_s40 : ck_Sum := ((0, 0, 0), 245, [.inr (.inr (.inl 25))], ([], [], []), ([], []), [(.inr (some (.inl (ck_one 0))), 245, ([], [], [(25, 3, 3, (0, 5, []))])), (.inr (some (.inl (ck_one 1))), 245, ([], [], [(25, 3, 3, ck_one 6)]))])
set_option maxRecDepth 100000 in
theorem p2_s40_s {X : Int → Int} {LX : Nat} : ck_Ok p2_O X LX 108 p2_s40 := ck_ok_s (O := p2_O) (X := X) (LX := LX) (E := []) (mi := 108) (cuts := []) (f := 86) (S := p2_s40) (lx := none) (XF := []) ⟨p2_nmu, ck_E0⟩ ck_X0 ck_l0 (by decide +kernel)
set_option maxRecDepth 100000 in
/-- GlacierMail$Rows.add -/
noncomputable def p2_s41 : ck_Sum := ((0, 0, 0), 245, [.inr (.inr (.inl 25))], ([], [], []), ([(25, 3, 3)], []), [(.inr (some (.inl (0, 5, []))), 245, ([], [], [(25, 3, 3, (1, 6, []))])), (.inr (some (.inl (ck_one (-1)))), 245, ([], [], [(25, 3, 3, ck_one 6)]))])
set_option maxRecDepth 100000 in
theorem p2_s41_s {X : Int → Int} {LX : Nat} : ck_Ok p2_O X LX 102 p2_s41 := ck_ok_s (O := p2_O) (X := X) (LX := LX) (E := []) (mi := 102) (cuts := []) (f := 102) (S := p2_s41) (lx := none) (XF := []) ⟨p2_nmu, ck_E0⟩ ck_X0 ck_l0 (by decide +kernel)
set_option maxRecDepth 100000 in
/-- GlacierMail$Words.needNumber -/
noncomputable def p2_s42 : ck_Sum := ((2, 0, 0), 245, [.inr (.inr (.inl 214)), .inl (ck_one 0), .inl (ck_one 20)], ([], [], [(214, 3, 3, (0, 400, [(12, 0)]))]), ([(214, 3, 7)], []), [(.inr (some (.inl (ck_one (-1)))), 245, ([], [], zl7)), (.inr (some (.inl (0, 20, []))), 245, ([], [], [(214, 3, 3, (0, 400, [(1000012, 0)]))]))])
set_option maxRecDepth 100000 in
theorem p2_s42_s {X : Int → Int} {LX : Nat} : ck_Ok p2_O X LX 94 p2_s42 := ck_ok_s (O := p2_O) (X := X) (LX := LX) (E := [(93, [p2_s28]), (76, [p2_s26])]) (mi := 94) (cuts := []) (f := 106) (S := p2_s42) (lx := none) (XF := []) ⟨p2_nmu, ck_E1 (ck_S1 p2_s28_s ck_S0) (ck_E1 (ck_S1 p2_s26_s ck_S0) ck_E0)⟩ ck_X0 ck_l0 (by decide +kernel)
set_option maxRecDepth 100000 in
/-- GlacierMail$Rows.put -/
noncomputable def p2_s43 : ck_Sum := ((0, 0, 0), 245, [.inr (.inr (.inl 25)), .inl (0, 5, []), .inl (0, 5, []), .inl (0, 20, [])], ([], [], []), ([(26, 0, 35)], []), [(.inr none, 245, ([], [], []))])
set_option maxRecDepth 100000 in
theorem p2_s43_s {X : Int → Int} {LX : Nat} : ck_Ok p2_O X LX 45 p2_s43 := ck_ok_s (O := p2_O) (X := X) (LX := LX) (E := []) (mi := 45) (cuts := []) (f := 116) (S := p2_s43) (lx := none) (XF := []) ⟨p2_nmu, ck_E0⟩ ck_X0 ck_l0 (by decide +kernel)
set_option maxRecDepth 100000 in
/-- GlacierMail$ValleyReader.readSpeeds -/
noncomputable def p2_s44 : ck_Sum := ((3, 0, 0), 245, [.inr (.inr (.inl 213)), .inr (.inr (.inl 25)), .inl (0, 5, []), .inl (ck_one 0)], ([], [], [(214, 3, 3, (0, 400, [(12, 0)]))]), ([(26, 0, 35), (214, 3, 7)], []), zl8)
set_option maxRecDepth 100000 in
theorem p2_s44_s {X : Int → Int} {LX : Nat} : ck_Ok p2_O X LX 109 p2_s44 := ck_ok_s (O := p2_O) (X := X) (LX := LX) (E := [(94, [p2_s42]), (45, [p2_s43])]) (mi := 109) (cuts := [(3, [some (.inr (.inr (.inl 213))), some (.inr (.inr (.inl 25))), some (.inl (0, 5, [])), some (.inl (ck_one 0)), some (.inl (0, 6, [])), none], ([], [], [(214, 3, 3, (0, 400, [(1000012, 0)]))]), 100, .inl 4, true)]) (f := 186) (S := p2_s44) (lx := none) (XF := []) ⟨p2_nmu, ck_E1 (ck_S1 p2_s42_s ck_S0) (ck_E1 (ck_S1 p2_s43_s ck_S0) ck_E0)⟩ ck_X0 ck_l0 (by decide +kernel)
set_option maxRecDepth 100000 in
/-- GlacierMail$Rows.put -/
noncomputable def p2_s45 : ck_Sum := ((0, 0, 0), 245, [.inr (.inr (.inl 25)), .inl (ck_one (-1)), .inl (0, 5, []), .inl (0, 20, [])], ([], [], []), ([], []), [(.inr none, 245, ([], [], []))])
set_option maxRecDepth 100000 in
theorem p2_s45_s {X : Int → Int} {LX : Nat} : ck_Ok p2_O X LX 45 p2_s45 := ck_ok_s (O := p2_O) (X := X) (LX := LX) (E := []) (mi := 45) (cuts := []) (f := 76) (S := p2_s45) (lx := none) (XF := []) ⟨p2_nmu, ck_E0⟩ ck_X0 ck_l0 (by decide +kernel)
set_option maxRecDepth 100000 in
/-- GlacierMail$ValleyReader.readSpeeds -/
noncomputable def p2_s46 : ck_Sum := ((3, 0, 0), 245, [.inr (.inr (.inl 213)), .inr (.inr (.inl 25)), .inl (ck_one (-1)), .inl (ck_one 0)], ([], [], [(214, 3, 3, (0, 400, [(12, 0)]))]), ([(214, 3, 7)], []), zl8)
set_option maxRecDepth 100000 in
theorem p2_s46_s {X : Int → Int} {LX : Nat} : ck_Ok p2_O X LX 109 p2_s46 := ck_ok_s (O := p2_O) (X := X) (LX := LX) (E := [(94, [p2_s42]), (45, [p2_s45])]) (mi := 109) (cuts := [(3, [some (.inr (.inr (.inl 213))), some (.inr (.inr (.inl 25))), some (.inl (ck_one (-1))), some (.inl (ck_one 0)), some (.inl (0, 6, [])), none], ([], [], [(214, 3, 3, (0, 400, [(1000012, 0)]))]), 100, .inl 4, true)]) (f := 186) (S := p2_s46) (lx := none) (XF := []) ⟨p2_nmu, ck_E1 (ck_S1 p2_s42_s ck_S0) (ck_E1 (ck_S1 p2_s45_s ck_S0) ck_E0)⟩ ck_X0 ck_l0 (by decide +kernel)
set_option maxRecDepth 100000 in
/-- GlacierMail$ValleyReader.readTable -/
noncomputable def p2_s47 : ck_Sum := ((4, 0, 0), 245, [.inr (.inr (.inl 213))], ([], [], [(214, 3, 3, (0, 400, [(12, 0)]))]), ([(25, 3, 3), (26, 0, 35), (214, 3, 7)], []), [(.inr (some (.inl (ck_one 1))), 245, ([], [], zl9)), (.inr (some (.inl (ck_one 0))), 245, ([], [], zl10))])
set_option maxRecDepth 100000 in
theorem p2_s47_s {X : Int → Int} {LX : Nat} : ck_Ok p2_O X LX 120 p2_s47 := ck_ok_s (O := p2_O) (X := X) (LX := LX) (E := [(108, [p2_s40]), (76, [p2_s26]), (102, [p2_s41]), (109, [p2_s44, p2_s46]), (93, [p2_s28])]) (mi := 120) (cuts := []) (f := 108) (S := p2_s47) (lx := none) (XF := []) ⟨p2_nmu, ck_E1 (ck_S1 p2_s40_s ck_S0) (ck_E1 (ck_S1 p2_s26_s ck_S0) (ck_E1 (ck_S1 p2_s41_s ck_S0) (ck_E1 (ck_S1 p2_s44_s (ck_S1 p2_s46_s ck_S0)) (ck_E1 (ck_S1 p2_s28_s ck_S0) ck_E0))))⟩ ck_X0 ck_l0 (by decide +kernel)
set_option maxRecDepth 100000 in
/-- GlacierMail$Rows.isFull -/
noncomputable def p2_s48 : ck_Sum := ((0, 0, 0), 245, [.inr (.inr (.inl 23))], ([], [], []), ([], []), [(.inr (some (.inl (ck_one 0))), 245, ([], [], [(23, 3, 3, (0, 23, []))])), (.inr (some (.inl (ck_one 1))), 245, ([], [], [(23, 3, 3, ck_one 24)]))])
set_option maxRecDepth 100000 in
theorem p2_s48_s {X : Int → Int} {LX : Nat} : ck_Ok p2_O X LX 108 p2_s48 := ck_ok_s (O := p2_O) (X := X) (LX := LX) (E := []) (mi := 108) (cuts := []) (f := 86) (S := p2_s48) (lx := none) (XF := []) ⟨p2_nmu, ck_E0⟩ ck_X0 ck_l0 (by decide +kernel)
set_option maxRecDepth 100000 in
/-- GlacierMail$Words.needNumber -/
noncomputable def p2_s49 : ck_Sum := ((2, 0, 0), 245, [.inr (.inr (.inl 214)), .inl (ck_one 0), .inl (0, 5, [])], ([], [], [(214, 3, 3, (0, 400, [(12, 0)]))]), ([(214, 3, 7)], []), zl11)
set_option maxRecDepth 100000 in
theorem p2_s49_s {X : Int → Int} {LX : Nat} : ck_Ok p2_O X LX 94 p2_s49 := ck_ok_s (O := p2_O) (X := X) (LX := LX) (E := [(93, [p2_s28]), (76, [p2_s26])]) (mi := 94) (cuts := []) (f := 106) (S := p2_s49) (lx := none) (XF := []) ⟨p2_nmu, ck_E1 (ck_S1 p2_s28_s ck_S0) (ck_E1 (ck_S1 p2_s26_s ck_S0) ck_E0)⟩ ck_X0 ck_l0 (by decide +kernel)
set_option maxRecDepth 100000 in
/-- GlacierMail$ValleyReader.readLane -/
noncomputable def p2_s50 : ck_Sum := ((3, 0, 0), 245, [.inr (.inr (.inl 213))], ([], [], [(214, 3, 3, (0, 400, [(12, 0)]))]), ([(214, 3, 7)], []), zl11)
set_option maxRecDepth 100000 in
theorem p2_s50_s {X : Int → Int} {LX : Nat} : ck_Ok p2_O X LX 117 p2_s50 := ck_ok_s (O := p2_O) (X := X) (LX := LX) (E := [(94, [p2_s49])]) (mi := 117) (cuts := []) (f := 90) (S := p2_s50) (lx := none) (XF := []) ⟨p2_nmu, ck_E1 (ck_S1 p2_s49_s ck_S0) ck_E0⟩ ck_X0 ck_l0 (by decide +kernel)
set_option maxRecDepth 100000 in
/-- GlacierMail$Words.needNumber -/
noncomputable def p2_s51 : ck_Sum := ((2, 0, 0), 245, [.inr (.inr (.inl 214)), .inl (ck_one 0), .inl (9, 98, [])], ([], [], [(214, 3, 3, (0, 400, [(12, 0)]))]), ([(214, 3, 7)], []), zl12)
set_option maxRecDepth 100000 in
theorem p2_s51_s {X : Int → Int} {LX : Nat} : ck_Ok p2_O X LX 94 p2_s51 := ck_ok_s (O := p2_O) (X := X) (LX := LX) (E := [(93, [p2_s28]), (76, [p2_s26])]) (mi := 94) (cuts := []) (f := 106) (S := p2_s51) (lx := none) (XF := []) ⟨p2_nmu, ck_E1 (ck_S1 p2_s28_s ck_S0) (ck_E1 (ck_S1 p2_s26_s ck_S0) ck_E0)⟩ ck_X0 ck_l0 (by decide +kernel)
set_option maxRecDepth 100000 in
/-- GlacierMail$ValleyReader.readRow -/
noncomputable def p2_s52 : ck_Sum := ((3, 0, 0), 245, [.inr (.inr (.inl 213))], ([], [], [(214, 3, 3, (0, 400, [(12, 0)]))]), ([(214, 3, 7)], []), zl12)
set_option maxRecDepth 100000 in
theorem p2_s52_s {X : Int → Int} {LX : Nat} : ck_Ok p2_O X LX 111 p2_s52 := ck_ok_s (O := p2_O) (X := X) (LX := LX) (E := [(94, [p2_s51])]) (mi := 111) (cuts := []) (f := 90) (S := p2_s52) (lx := none) (XF := []) ⟨p2_nmu, ck_E1 (ck_S1 p2_s51_s ck_S0) ck_E0⟩ ck_X0 ck_l0 (by decide +kernel)
set_option maxRecDepth 100000 in
/-- GlacierMail$Rows.add -/
noncomputable def p2_s53 : ck_Sum := ((0, 0, 0), 245, [.inr (.inr (.inl 23))], ([], [], []), ([(23, 3, 3)], []), zl13)
set_option maxRecDepth 100000 in
theorem p2_s53_s {X : Int → Int} {LX : Nat} : ck_Ok p2_O X LX 102 p2_s53 := ck_ok_s (O := p2_O) (X := X) (LX := LX) (E := []) (mi := 102) (cuts := []) (f := 102) (S := p2_s53) (lx := none) (XF := []) ⟨p2_nmu, ck_E0⟩ ck_X0 ck_l0 (by decide +kernel)
set_option maxRecDepth 100000 in
/-- GlacierMail$Rows.put -/
noncomputable def p2_s54 : ck_Sum := ((0, 0, 0), 245, [.inr (.inr (.inl 23)), .inl (0, 23, []), .inl (ck_one 0), .inl (ck_one (-1))], ([], [], []), (zl14, []), [(.inr none, 245, ([], [], []))])
set_option maxRecDepth 100000 in
theorem p2_s54_s {X : Int → Int} {LX : Nat} : ck_Ok p2_O X LX 45 p2_s54 := ck_ok_s (O := p2_O) (X := X) (LX := LX) (E := []) (mi := 45) (cuts := []) (f := 116) (S := p2_s54) (lx := none) (XF := []) ⟨p2_nmu, ck_E0⟩ ck_X0 ck_l0 (by decide +kernel)
set_option maxRecDepth 100000 in
/-- GlacierMail$Rows.put -/
noncomputable def p2_s55 : ck_Sum := ((0, 0, 0), 245, [.inr (.inr (.inl 23)), .inl (0, 23, []), .inl (ck_one 1), .inl (ck_one (-1))], ([], [], []), (zl15, []), [(.inr none, 245, ([], [], []))])
set_option maxRecDepth 100000 in
theorem p2_s55_s {X : Int → Int} {LX : Nat} : ck_Ok p2_O X LX 45 p2_s55 := ck_ok_s (O := p2_O) (X := X) (LX := LX) (E := []) (mi := 45) (cuts := []) (f := 116) (S := p2_s55) (lx := none) (XF := []) ⟨p2_nmu, ck_E0⟩ ck_X0 ck_l0 (by decide +kernel)
set_option maxRecDepth 100000 in
/-- GlacierMail$Rows.put -/
noncomputable def p2_s56 : ck_Sum := ((0, 0, 0), 245, [.inr (.inr (.inl 23)), .inl (0, 23, []), .inl (ck_one 2), .inl (0, 5, [])], ([], [], []), (zl16, []), [(.inr none, 245, ([], [], []))])
set_option maxRecDepth 100000 in
theorem p2_s56_s {X : Int → Int} {LX : Nat} : ck_Ok p2_O X LX 45 p2_s56 := ck_ok_s (O := p2_O) (X := X) (LX := LX) (E := []) (mi := 45) (cuts := []) (f := 116) (S := p2_s56) (lx := none) (XF := []) ⟨p2_nmu, ck_E0⟩ ck_X0 ck_l0 (by decide +kernel)
set_option maxRecDepth 100000 in
/-- GlacierMail$Rows.put -/
noncomputable def p2_s57 : ck_Sum := ((0, 0, 0), 245, [.inr (.inr (.inl 23)), .inl (0, 23, []), .inl (ck_one 3), .inl (0, 299, [])], ([], [], []), (zl17, []), [(.inr none, 245, ([], [], []))])
set_option maxRecDepth 100000 in
theorem p2_s57_s {X : Int → Int} {LX : Nat} : ck_Ok p2_O X LX 45 p2_s57 := ck_ok_s (O := p2_O) (X := X) (LX := LX) (E := []) (mi := 45) (cuts := []) (f := 116) (S := p2_s57) (lx := none) (XF := []) ⟨p2_nmu, ck_E0⟩ ck_X0 ck_l0 (by decide +kernel)
set_option maxRecDepth 100000 in
/-- GlacierMail$Rows.put -/
noncomputable def p2_s58 : ck_Sum := ((0, 0, 0), 245, [.inr (.inr (.inl 23)), .inl (0, 23, []), .inl (ck_one 4), .inl (0, 98, [])], ([], [], []), (zl18, []), [(.inr none, 245, ([], [], []))])
set_option maxRecDepth 100000 in
theorem p2_s58_s {X : Int → Int} {LX : Nat} : ck_Ok p2_O X LX 45 p2_s58 := ck_ok_s (O := p2_O) (X := X) (LX := LX) (E := []) (mi := 45) (cuts := []) (f := 116) (S := p2_s58) (lx := none) (XF := []) ⟨p2_nmu, ck_E0⟩ ck_X0 ck_l0 (by decide +kernel)
set_option maxRecDepth 100000 in
/-- GlacierMail$Rows.put -/
noncomputable def p2_s59 : ck_Sum := ((0, 0, 0), 245, [.inr (.inr (.inl 23)), .inl (0, 23, []), .inl (ck_one 5), .inl (ck_one (-1))], ([], [], []), (zl19, []), [(.inr none, 245, ([], [], []))])
set_option maxRecDepth 100000 in
theorem p2_s59_s {X : Int → Int} {LX : Nat} : ck_Ok p2_O X LX 45 p2_s59 := ck_ok_s (O := p2_O) (X := X) (LX := LX) (E := []) (mi := 45) (cuts := []) (f := 116) (S := p2_s59) (lx := none) (XF := []) ⟨p2_nmu, ck_E0⟩ ck_X0 ck_l0 (by decide +kernel)
set_option maxRecDepth 100000 in
/-- GlacierMail$Rows.put -/
noncomputable def p2_s60 : ck_Sum := ((0, 0, 0), 245, [.inr (.inr (.inl 23)), .inl (0, 23, []), .inl (ck_one 6), .inl (ck_one (-1))], ([], [], []), (zl20, []), [(.inr none, 245, ([], [], []))])
set_option maxRecDepth 100000 in
theorem p2_s60_s {X : Int → Int} {LX : Nat} : ck_Ok p2_O X LX 45 p2_s60 := ck_ok_s (O := p2_O) (X := X) (LX := LX) (E := []) (mi := 45) (cuts := []) (f := 116) (S := p2_s60) (lx := none) (XF := []) ⟨p2_nmu, ck_E0⟩ ck_X0 ck_l0 (by decide +kernel)
set_option maxRecDepth 100000 in
/-- GlacierMail$Rows.put -/
noncomputable def p2_s61 : ck_Sum := ((0, 0, 0), 245, [.inr (.inr (.inl 23)), .inl (ck_one (-1)), .inl (ck_one 0), .inl (ck_one (-1))], ([], [], []), ([], []), [(.inr none, 245, ([], [], []))])
set_option maxRecDepth 100000 in
theorem p2_s61_s {X : Int → Int} {LX : Nat} : ck_Ok p2_O X LX 45 p2_s61 := ck_ok_s (O := p2_O) (X := X) (LX := LX) (E := []) (mi := 45) (cuts := []) (f := 76) (S := p2_s61) (lx := none) (XF := []) ⟨p2_nmu, ck_E0⟩ ck_X0 ck_l0 (by decide +kernel)
set_option maxRecDepth 100000 in
/-- GlacierMail$Rows.put -/
noncomputable def p2_s62 : ck_Sum := ((0, 0, 0), 245, [.inr (.inr (.inl 23)), .inl (ck_one (-1)), .inl (ck_one 1), .inl (ck_one (-1))], ([], [], []), ([], []), [(.inr none, 245, ([], [], []))])
set_option maxRecDepth 100000 in
theorem p2_s62_s {X : Int → Int} {LX : Nat} : ck_Ok p2_O X LX 45 p2_s62 := ck_ok_s (O := p2_O) (X := X) (LX := LX) (E := []) (mi := 45) (cuts := []) (f := 76) (S := p2_s62) (lx := none) (XF := []) ⟨p2_nmu, ck_E0⟩ ck_X0 ck_l0 (by decide +kernel)
set_option maxRecDepth 100000 in
/-- GlacierMail$Rows.put -/
noncomputable def p2_s63 : ck_Sum := ((0, 0, 0), 245, [.inr (.inr (.inl 23)), .inl (ck_one (-1)), .inl (ck_one 2), .inl (0, 5, [])], ([], [], []), ([], []), [(.inr none, 245, ([], [], []))])
set_option maxRecDepth 100000 in
theorem p2_s63_s {X : Int → Int} {LX : Nat} : ck_Ok p2_O X LX 45 p2_s63 := ck_ok_s (O := p2_O) (X := X) (LX := LX) (E := []) (mi := 45) (cuts := []) (f := 76) (S := p2_s63) (lx := none) (XF := []) ⟨p2_nmu, ck_E0⟩ ck_X0 ck_l0 (by decide +kernel)
set_option maxRecDepth 100000 in
/-- GlacierMail$Rows.put -/
noncomputable def p2_s64 : ck_Sum := ((0, 0, 0), 245, [.inr (.inr (.inl 23)), .inl (ck_one (-1)), .inl (ck_one 3), .inl (0, 299, [])], ([], [], []), ([], []), [(.inr none, 245, ([], [], []))])
set_option maxRecDepth 100000 in
theorem p2_s64_s {X : Int → Int} {LX : Nat} : ck_Ok p2_O X LX 45 p2_s64 := ck_ok_s (O := p2_O) (X := X) (LX := LX) (E := []) (mi := 45) (cuts := []) (f := 76) (S := p2_s64) (lx := none) (XF := []) ⟨p2_nmu, ck_E0⟩ ck_X0 ck_l0 (by decide +kernel)
set_option maxRecDepth 100000 in
/-- GlacierMail$Rows.put -/
noncomputable def p2_s65 : ck_Sum := ((0, 0, 0), 245, [.inr (.inr (.inl 23)), .inl (ck_one (-1)), .inl (ck_one 4), .inl (0, 98, [])], ([], [], []), ([], []), [(.inr none, 245, ([], [], []))])
set_option maxRecDepth 100000 in
theorem p2_s65_s {X : Int → Int} {LX : Nat} : ck_Ok p2_O X LX 45 p2_s65 := ck_ok_s (O := p2_O) (X := X) (LX := LX) (E := []) (mi := 45) (cuts := []) (f := 76) (S := p2_s65) (lx := none) (XF := []) ⟨p2_nmu, ck_E0⟩ ck_X0 ck_l0 (by decide +kernel)
set_option maxRecDepth 100000 in
/-- GlacierMail$Rows.put -/
noncomputable def p2_s66 : ck_Sum := ((0, 0, 0), 245, [.inr (.inr (.inl 23)), .inl (ck_one (-1)), .inl (ck_one 5), .inl (ck_one (-1))], ([], [], []), ([], []), [(.inr none, 245, ([], [], []))])
set_option maxRecDepth 100000 in
theorem p2_s66_s {X : Int → Int} {LX : Nat} : ck_Ok p2_O X LX 45 p2_s66 := ck_ok_s (O := p2_O) (X := X) (LX := LX) (E := []) (mi := 45) (cuts := []) (f := 76) (S := p2_s66) (lx := none) (XF := []) ⟨p2_nmu, ck_E0⟩ ck_X0 ck_l0 (by decide +kernel)
set_option maxRecDepth 100000 in
/-- GlacierMail$Rows.put -/
noncomputable def p2_s67 : ck_Sum := ((0, 0, 0), 245, [.inr (.inr (.inl 23)), .inl (ck_one (-1)), .inl (ck_one 6), .inl (ck_one (-1))], ([], [], []), ([], []), [(.inr none, 245, ([], [], []))])
set_option maxRecDepth 100000 in
theorem p2_s67_s {X : Int → Int} {LX : Nat} : ck_Ok p2_O X LX 45 p2_s67 := ck_ok_s (O := p2_O) (X := X) (LX := LX) (E := []) (mi := 45) (cuts := []) (f := 76) (S := p2_s67) (lx := none) (XF := []) ⟨p2_nmu, ck_E0⟩ ck_X0 ck_l0 (by decide +kernel)
set_option maxRecDepth 100000 in
/-- GlacierMail$State.throwIn -/
noncomputable def p2_s68 : ck_Sum := ((1, 0, 0), 245, [.inr (.inr (.inl 16)), .inl (ck_one (-1)), .inl (ck_one (-1)), .inl (0, 5, []), .inl (0, 98, [])], ([], [], []), ([(23, 3, 3), (24, 0, 167)], []), zl13)
set_option maxRecDepth 100000 in
theorem p2_s68_s {X : Int → Int} {LX : Nat} : ck_Ok p2_O X LX 119 p2_s68 := ck_ok_s (O := p2_O) (X := X) (LX := LX) (E := [(102, [p2_s53]), (45, [p2_s54, p2_s55, p2_s56, p2_s57, p2_s58, p2_s59, p2_s60, p2_s61, p2_s62, p2_s63, p2_s64, p2_s65, p2_s66, p2_s67])]) (mi := 119) (cuts := []) (f := 168) (S := p2_s68) (lx := none) (XF := []) ⟨p2_nmu, ck_E1 (ck_S1 p2_s53_s ck_S0) (ck_E1 (ck_S1 p2_s54_s (ck_S1 p2_s55_s (ck_S1 p2_s56_s (ck_S1 p2_s57_s (ck_S1 p2_s58_s (ck_S1 p2_s59_s (ck_S1 p2_s60_s (ck_S1 p2_s61_s (ck_S1 p2_s62_s (ck_S1 p2_s63_s (ck_S1 p2_s64_s (ck_S1 p2_s65_s (ck_S1 p2_s66_s (ck_S1 p2_s67_s ck_S0)))))))))))))) ck_E0)⟩ ck_X0 ck_l0 (by decide +kernel)
set_option maxRecDepth 100000 in
/-- GlacierMail$ValleyReader.readRock -/
noncomputable def p2_s69 : ck_Sum := ((4, 0, 0), 245, [.inr (.inr (.inl 213))], ([], [], [(214, 3, 3, (0, 400, [(12, 0)]))]), ([(23, 3, 3), (24, 0, 167), (214, 3, 7)], []), [(.inr (some (.inl (ck_one 0))), 245, ([], [], zl21)), (.inr (some (.inl (ck_one 1))), 245, ([], [], zl22))])
set_option maxRecDepth 100000 in
theorem p2_s69_s {X : Int → Int} {LX : Nat} : ck_Ok p2_O X LX 118 p2_s69 := ck_ok_s (O := p2_O) (X := X) (LX := LX) (E := [(108, [p2_s48]), (76, [p2_s26]), (117, [p2_s50]), (111, [p2_s52]), (119, [p2_s68]), (93, [p2_s28])]) (mi := 118) (cuts := []) (f := 130) (S := p2_s69) (lx := none) (XF := []) ⟨p2_nmu, ck_E1 (ck_S1 p2_s48_s ck_S0) (ck_E1 (ck_S1 p2_s26_s ck_S0) (ck_E1 (ck_S1 p2_s50_s ck_S0) (ck_E1 (ck_S1 p2_s52_s ck_S0) (ck_E1 (ck_S1 p2_s68_s ck_S0) (ck_E1 (ck_S1 p2_s28_s ck_S0) ck_E0)))))⟩ ck_X0 ck_l0 (by decide +kernel)
set_option maxRecDepth 100000 in
/-- GlacierMail$Rows.isFull -/
noncomputable def p2_s70 : ck_Sum := ((0, 0, 0), 245, [.inr (.inr (.inl 21))], ([], [], []), ([], []), [(.inr (some (.inl (ck_one 0))), 245, ([], [], [(21, 3, 3, (0, 7, []))])), (.inr (some (.inl (ck_one 1))), 245, ([], [], [(21, 3, 3, ck_one 8)]))])
set_option maxRecDepth 100000 in
theorem p2_s70_s {X : Int → Int} {LX : Nat} : ck_Ok p2_O X LX 108 p2_s70 := ck_ok_s (O := p2_O) (X := X) (LX := LX) (E := []) (mi := 108) (cuts := []) (f := 86) (S := p2_s70) (lx := none) (XF := []) ⟨p2_nmu, ck_E0⟩ ck_X0 ck_l0 (by decide +kernel)
set_option maxRecDepth 100000 in
/-- GlacierMail$Words.isWord -/
noncomputable def p2_s71 : ck_Sum := ((6, 0, 0), 245, [.inr (.inr (.inl 214)), .inr (.inr (.inr 26))], ([], [], [(214, 3, 3, (0, 400, [(12, 0)]))]), ([], []), zl3)
set_option maxRecDepth 100000 in
theorem p2_s71_s {X : Int → Int} {LX : Nat} : ck_Ok p2_O X LX 81 p2_s71 := ck_ok_s (O := p2_O) (X := X) (LX := LX) (E := []) (mi := 81) (cuts := []) (f := 360) (S := p2_s71) (lx := none) (XF := []) ⟨p2_nmu, ck_E0⟩ ck_X0 ck_l0 (by decide +kernel)
set_option maxRecDepth 100000 in
/-- GlacierMail$Words.takeWord -/
noncomputable def p2_s72 : ck_Sum := ((7, 0, 0), 245, [.inr (.inr (.inl 214)), .inr (.inr (.inr 26))], ([], [], [(214, 3, 3, (0, 400, [(12, 0)]))]), ([(214, 3, 4), (214, 6, 7)], []), [(.inr (some (.inl (ck_one 0))), 245, ([], [], [(214, 3, 3, (0, 400, [(12, 0)]))])), (.inr (some (.inl (ck_one 1))), 245, ([], [], [(214, 3, 3, (5, 400, [(1000012, 0)]))]))])
set_option maxRecDepth 100000 in
theorem p2_s72_s {X : Int → Int} {LX : Nat} : ck_Ok p2_O X LX 95 p2_s72 := ck_ok_s (O := p2_O) (X := X) (LX := LX) (E := [(81, [p2_s71]), (76, [p2_s26])]) (mi := 95) (cuts := []) (f := 90) (S := p2_s72) (lx := none) (XF := []) ⟨p2_nmu, ck_E1 (ck_S1 p2_s71_s ck_S0) (ck_E1 (ck_S1 p2_s26_s ck_S0) ck_E0)⟩ ck_X0 ck_l0 (by decide +kernel)
set_option maxRecDepth 100000 in
/-- GlacierMail$Rows.add -/
noncomputable def p2_s73 : ck_Sum := ((0, 0, 0), 245, [.inr (.inr (.inl 21))], ([], [], []), ([(21, 3, 3)], []), [(.inr (some (.inl (0, 7, []))), 245, ([], [], [(21, 3, 3, (1, 8, []))])), (.inr (some (.inl (ck_one (-1)))), 245, ([], [], [(21, 3, 3, ck_one 8)]))])
set_option maxRecDepth 100000 in
theorem p2_s73_s {X : Int → Int} {LX : Nat} : ck_Ok p2_O X LX 102 p2_s73 := ck_ok_s (O := p2_O) (X := X) (LX := LX) (E := []) (mi := 102) (cuts := []) (f := 102) (S := p2_s73) (lx := none) (XF := []) ⟨p2_nmu, ck_E0⟩ ck_X0 ck_l0 (by decide +kernel)
set_option maxRecDepth 100000 in
/-- GlacierMail$Rows.put -/
noncomputable def p2_s74 : ck_Sum := ((0, 0, 0), 245, [.inr (.inr (.inl 21)), .inl (0, 7, []), .inl (ck_one 0), .inl (0, 5, [])], ([], [], []), (zl23, []), [(.inr none, 245, ([], [], []))])
set_option maxRecDepth 100000 in
theorem p2_s74_s {X : Int → Int} {LX : Nat} : ck_Ok p2_O X LX 45 p2_s74 := ck_ok_s (O := p2_O) (X := X) (LX := LX) (E := []) (mi := 45) (cuts := []) (f := 116) (S := p2_s74) (lx := none) (XF := []) ⟨p2_nmu, ck_E0⟩ ck_X0 ck_l0 (by decide +kernel)
set_option maxRecDepth 100000 in
/-- GlacierMail$Rows.put -/
noncomputable def p2_s75 : ck_Sum := ((0, 0, 0), 245, [.inr (.inr (.inl 21)), .inl (0, 7, []), .inl (ck_one 1), .inl (0, 98, [])], ([], [], []), (zl24, []), [(.inr none, 245, ([], [], []))])
set_option maxRecDepth 100000 in
theorem p2_s75_s {X : Int → Int} {LX : Nat} : ck_Ok p2_O X LX 45 p2_s75 := ck_ok_s (O := p2_O) (X := X) (LX := LX) (E := []) (mi := 45) (cuts := []) (f := 116) (S := p2_s75) (lx := none) (XF := []) ⟨p2_nmu, ck_E0⟩ ck_X0 ck_l0 (by decide +kernel)
set_option maxRecDepth 100000 in
/-- GlacierMail$Rows.put -/
noncomputable def p2_s76 : ck_Sum := ((0, 0, 0), 245, [.inr (.inr (.inl 21)), .inl (0, 7, []), .inl (ck_one 2), .inl (ck_one (-1))], ([], [], []), (zl25, []), [(.inr none, 245, ([], [], []))])
set_option maxRecDepth 100000 in
theorem p2_s76_s {X : Int → Int} {LX : Nat} : ck_Ok p2_O X LX 45 p2_s76 := ck_ok_s (O := p2_O) (X := X) (LX := LX) (E := []) (mi := 45) (cuts := []) (f := 116) (S := p2_s76) (lx := none) (XF := []) ⟨p2_nmu, ck_E0⟩ ck_X0 ck_l0 (by decide +kernel)
set_option maxRecDepth 100000 in
/-- GlacierMail$Rows.put -/
noncomputable def p2_s77 : ck_Sum := ((0, 0, 0), 245, [.inr (.inr (.inl 21)), .inl (ck_one (-1)), .inl (ck_one 0), .inl (0, 5, [])], ([], [], []), ([], []), [(.inr none, 245, ([], [], []))])
set_option maxRecDepth 100000 in
theorem p2_s77_s {X : Int → Int} {LX : Nat} : ck_Ok p2_O X LX 45 p2_s77 := ck_ok_s (O := p2_O) (X := X) (LX := LX) (E := []) (mi := 45) (cuts := []) (f := 76) (S := p2_s77) (lx := none) (XF := []) ⟨p2_nmu, ck_E0⟩ ck_X0 ck_l0 (by decide +kernel)
set_option maxRecDepth 100000 in
/-- GlacierMail$Rows.put -/
noncomputable def p2_s78 : ck_Sum := ((0, 0, 0), 245, [.inr (.inr (.inl 21)), .inl (ck_one (-1)), .inl (ck_one 1), .inl (0, 98, [])], ([], [], []), ([], []), [(.inr none, 245, ([], [], []))])
set_option maxRecDepth 100000 in
theorem p2_s78_s {X : Int → Int} {LX : Nat} : ck_Ok p2_O X LX 45 p2_s78 := ck_ok_s (O := p2_O) (X := X) (LX := LX) (E := []) (mi := 45) (cuts := []) (f := 76) (S := p2_s78) (lx := none) (XF := []) ⟨p2_nmu, ck_E0⟩ ck_X0 ck_l0 (by decide +kernel)
set_option maxRecDepth 100000 in
/-- GlacierMail$Rows.put -/
noncomputable def p2_s79 : ck_Sum := ((0, 0, 0), 245, [.inr (.inr (.inl 21)), .inl (ck_one (-1)), .inl (ck_one 2), .inl (ck_one (-1))], ([], [], []), ([], []), [(.inr none, 245, ([], [], []))])
set_option maxRecDepth 100000 in
theorem p2_s79_s {X : Int → Int} {LX : Nat} : ck_Ok p2_O X LX 45 p2_s79 := ck_ok_s (O := p2_O) (X := X) (LX := LX) (E := []) (mi := 45) (cuts := []) (f := 76) (S := p2_s79) (lx := none) (XF := []) ⟨p2_nmu, ck_E0⟩ ck_X0 ck_l0 (by decide +kernel)
set_option maxRecDepth 100000 in
/-- GlacierMail$Rows.put -/
noncomputable def p2_s80 : ck_Sum := ((0, 0, 0), 245, [.inr (.inr (.inl 21)), .inl (0, 7, []), .inl (ck_one 2), .inl (0, 5, [])], ([], [], []), (zl25, []), [(.inr none, 245, ([], [], []))])
set_option maxRecDepth 100000 in
theorem p2_s80_s {X : Int → Int} {LX : Nat} : ck_Ok p2_O X LX 45 p2_s80 := ck_ok_s (O := p2_O) (X := X) (LX := LX) (E := []) (mi := 45) (cuts := []) (f := 116) (S := p2_s80) (lx := none) (XF := []) ⟨p2_nmu, ck_E0⟩ ck_X0 ck_l0 (by decide +kernel)
set_option maxRecDepth 100000 in
/-- GlacierMail$Rows.put -/
noncomputable def p2_s81 : ck_Sum := ((0, 0, 0), 245, [.inr (.inr (.inl 21)), .inl (ck_one (-1)), .inl (ck_one 2), .inl (0, 5, [])], ([], [], []), ([], []), [(.inr none, 245, ([], [], []))])
set_option maxRecDepth 100000 in
theorem p2_s81_s {X : Int → Int} {LX : Nat} : ck_Ok p2_O X LX 45 p2_s81 := ck_ok_s (O := p2_O) (X := X) (LX := LX) (E := []) (mi := 45) (cuts := []) (f := 76) (S := p2_s81) (lx := none) (XF := []) ⟨p2_nmu, ck_E0⟩ ck_X0 ck_l0 (by decide +kernel)
set_option maxRecDepth 100000 in
/-- GlacierMail$ValleyReader.readPerson -/
noncomputable def p2_s82 : ck_Sum := ((8, 0, 0), 245, [.inr (.inr (.inl 213))], ([], [], [(214, 3, 3, (0, 400, [(12, 0)]))]), ([(21, 3, 3), (22, 0, 23), (214, 3, 7)], []), [(.inr (some (.inl (ck_one 0))), 245, ([], [], zl21)), (.inr (some (.inl (ck_one 1))), 245, ([], [], zl26))])
set_option maxRecDepth 100000 in
theorem p2_s82_s {X : Int → Int} {LX : Nat} : ck_Ok p2_O X LX 116 p2_s82 := ck_ok_s (O := p2_O) (X := X) (LX := LX) (E := [(108, [p2_s70]), (76, [p2_s26]), (117, [p2_s50]), (111, [p2_s52]), (95, [p2_s72]), (102, [p2_s73]), (45, [p2_s74, p2_s75, p2_s76, p2_s77, p2_s78, p2_s79, p2_s80, p2_s81]), (93, [p2_s28])]) (mi := 116) (cuts := []) (f := 192) (S := p2_s82) (lx := none) (XF := []) ⟨p2_nmu, ck_E1 (ck_S1 p2_s70_s ck_S0) (ck_E1 (ck_S1 p2_s26_s ck_S0) (ck_E1 (ck_S1 p2_s50_s ck_S0) (ck_E1 (ck_S1 p2_s52_s ck_S0) (ck_E1 (ck_S1 p2_s72_s ck_S0) (ck_E1 (ck_S1 p2_s73_s ck_S0) (ck_E1 (ck_S1 p2_s74_s (ck_S1 p2_s75_s (ck_S1 p2_s76_s (ck_S1 p2_s77_s (ck_S1 p2_s78_s (ck_S1 p2_s79_s (ck_S1 p2_s80_s (ck_S1 p2_s81_s ck_S0)))))))) (ck_E1 (ck_S1 p2_s28_s ck_S0) ck_E0)))))))⟩ ck_X0 ck_l0 (by decide +kernel)
set_option maxRecDepth 100000 in
/-- GlacierMail$Rows.isFull -/
noncomputable def p2_s83 : ck_Sum := ((0, 0, 0), 245, [.inr (.inr (.inl 19))], ([], [], []), ([], []), [(.inr (some (.inl (ck_one 0))), 245, ([], [], [(19, 3, 3, (0, 7, []))])), (.inr (some (.inl (ck_one 1))), 245, ([], [], [(19, 3, 3, ck_one 8)]))])
set_option maxRecDepth 100000 in
theorem p2_s83_s {X : Int → Int} {LX : Nat} : ck_Ok p2_O X LX 108 p2_s83 := ck_ok_s (O := p2_O) (X := X) (LX := LX) (E := []) (mi := 108) (cuts := []) (f := 86) (S := p2_s83) (lx := none) (XF := []) ⟨p2_nmu, ck_E0⟩ ck_X0 ck_l0 (by decide +kernel)
set_option maxRecDepth 100000 in
/-- GlacierMail$Words.needNumber -/
noncomputable def p2_s84 : ck_Sum := ((2, 0, 0), 245, [.inr (.inr (.inl 214)), .inl (0, 299, []), .inl (ck_one 299)], ([], [], [(214, 3, 3, (0, 400, [(12, 0)]))]), ([(214, 3, 7)], []), [(.inr (some (.inl (ck_one (-1)))), 245, ([], [], zl7)), (.inr (some (.inl (0, 299, []))), 245, ([], [], [(214, 3, 3, (0, 400, [(1000012, 0)]))]))])
set_option maxRecDepth 100000 in
theorem p2_s84_s {X : Int → Int} {LX : Nat} : ck_Ok p2_O X LX 94 p2_s84 := ck_ok_s (O := p2_O) (X := X) (LX := LX) (E := [(93, [p2_s28]), (76, [p2_s26])]) (mi := 94) (cuts := []) (f := 106) (S := p2_s84) (lx := none) (XF := []) ⟨p2_nmu, ck_E1 (ck_S1 p2_s28_s ck_S0) (ck_E1 (ck_S1 p2_s26_s ck_S0) ck_E0)⟩ ck_X0 ck_l0 (by decide +kernel)
set_option maxRecDepth 100000 in
/-- GlacierMail$Words.needNumber -/
noncomputable def p2_s85 : ck_Sum := ((2, 0, 0), 245, [.inr (.inr (.inl 214)), .inl (ck_one 1), .inl (ck_one 20)], ([], [], [(214, 3, 3, (0, 400, [(12, 0)]))]), ([(214, 3, 7)], []), [(.inr (some (.inl (ck_one (-1)))), 245, ([], [], zl7)), (.inr (some (.inl (1, 20, []))), 245, ([], [], [(214, 3, 3, (0, 400, [(1000012, 0)]))]))])
set_option maxRecDepth 100000 in
theorem p2_s85_s {X : Int → Int} {LX : Nat} : ck_Ok p2_O X LX 94 p2_s85 := ck_ok_s (O := p2_O) (X := X) (LX := LX) (E := [(93, [p2_s28]), (76, [p2_s26])]) (mi := 94) (cuts := []) (f := 106) (S := p2_s85) (lx := none) (XF := []) ⟨p2_nmu, ck_E1 (ck_S1 p2_s28_s ck_S0) (ck_E1 (ck_S1 p2_s26_s ck_S0) ck_E0)⟩ ck_X0 ck_l0 (by decide +kernel)
set_option maxRecDepth 100000 in
/-- GlacierMail$Rows.add -/
noncomputable def p2_s86 : ck_Sum := ((0, 0, 0), 245, [.inr (.inr (.inl 19))], ([], [], []), ([(19, 3, 3)], []), [(.inr (some (.inl (0, 7, []))), 245, ([], [], [(19, 3, 3, (1, 8, []))])), (.inr (some (.inl (ck_one (-1)))), 245, ([], [], [(19, 3, 3, ck_one 8)]))])
set_option maxRecDepth 100000 in
theorem p2_s86_s {X : Int → Int} {LX : Nat} : ck_Ok p2_O X LX 102 p2_s86 := ck_ok_s (O := p2_O) (X := X) (LX := LX) (E := []) (mi := 102) (cuts := []) (f := 102) (S := p2_s86) (lx := none) (XF := []) ⟨p2_nmu, ck_E0⟩ ck_X0 ck_l0 (by decide +kernel)
set_option maxRecDepth 100000 in
/-- GlacierMail$Rows.put -/
noncomputable def p2_s87 : ck_Sum := ((0, 0, 0), 245, [.inr (.inr (.inl 19)), .inl (0, 7, []), .inl (ck_one 0), .inl (0, 299, [])], ([], [], []), (zl27, []), [(.inr none, 245, ([], [], []))])
set_option maxRecDepth 100000 in
theorem p2_s87_s {X : Int → Int} {LX : Nat} : ck_Ok p2_O X LX 45 p2_s87 := ck_ok_s (O := p2_O) (X := X) (LX := LX) (E := []) (mi := 45) (cuts := []) (f := 116) (S := p2_s87) (lx := none) (XF := []) ⟨p2_nmu, ck_E0⟩ ck_X0 ck_l0 (by decide +kernel)
set_option maxRecDepth 100000 in
/-- GlacierMail$Rows.put -/
noncomputable def p2_s88 : ck_Sum := ((0, 0, 0), 245, [.inr (.inr (.inl 19)), .inl (0, 7, []), .inl (ck_one 1), .inl (0, 98, [])], ([], [], []), (zl28, []), [(.inr none, 245, ([], [], []))])
set_option maxRecDepth 100000 in
theorem p2_s88_s {X : Int → Int} {LX : Nat} : ck_Ok p2_O X LX 45 p2_s88 := ck_ok_s (O := p2_O) (X := X) (LX := LX) (E := []) (mi := 45) (cuts := []) (f := 116) (S := p2_s88) (lx := none) (XF := []) ⟨p2_nmu, ck_E0⟩ ck_X0 ck_l0 (by decide +kernel)
set_option maxRecDepth 100000 in
/-- GlacierMail$Rows.put -/
noncomputable def p2_s89 : ck_Sum := ((0, 0, 0), 245, [.inr (.inr (.inl 19)), .inl (0, 7, []), .inl (ck_one 2), .inl (1, 20, [])], ([], [], []), (zl29, []), [(.inr none, 245, ([], [], []))])
set_option maxRecDepth 100000 in
theorem p2_s89_s {X : Int → Int} {LX : Nat} : ck_Ok p2_O X LX 45 p2_s89 := ck_ok_s (O := p2_O) (X := X) (LX := LX) (E := []) (mi := 45) (cuts := []) (f := 116) (S := p2_s89) (lx := none) (XF := []) ⟨p2_nmu, ck_E0⟩ ck_X0 ck_l0 (by decide +kernel)
end
/-! 78r80a01.sf -/
section
/-! EVERY CALL ENDS, whatever was done before (laid by wip/am/p2k.py). -/
set_option maxRecDepth 100000 in
/-- GlacierMail$Rows.put -/
noncomputable def p2_s90 : ck_Sum := ((0, 0, 0), 245, [.inr (.inr (.inl 19)), .inl (ck_one (-1)), .inl (ck_one 0), .inl (0, 299, [])], ([], [], []), ([], []), [(.inr none, 245, ([], [], []))])
set_option maxRecDepth 100000 in
theorem p2_s90_s {X : Int → Int} {LX : Nat} : ck_Ok p2_O X LX 45 p2_s90 := ck_ok_s (O := p2_O) (X := X) (LX := LX) (E := []) (mi := 45) (cuts := []) (f := 76) (S := p2_s90) (lx := none) (XF := []) ⟨p2_nmu, ck_E0⟩ ck_X0 ck_l0 (by decide +kernel)
set_option maxRecDepth 100000 in
/-- GlacierMail$Rows.put -/
noncomputable def p2_s91 : ck_Sum := ((0, 0, 0), 245, [.inr (.inr (.inl 19)), .inl (ck_one (-1)), .inl (ck_one 1), .inl (0, 98, [])], ([], [], []), ([], []), [(.inr none, 245, ([], [], []))])
set_option maxRecDepth 100000 in
theorem p2_s91_s {X : Int → Int} {LX : Nat} : ck_Ok p2_O X LX 45 p2_s91 := ck_ok_s (O := p2_O) (X := X) (LX := LX) (E := []) (mi := 45) (cuts := []) (f := 76) (S := p2_s91) (lx := none) (XF := []) ⟨p2_nmu, ck_E0⟩ ck_X0 ck_l0 (by decide +kernel)
set_option maxRecDepth 100000 in
/-- GlacierMail$Rows.put -/
noncomputable def p2_s92 : ck_Sum := ((0, 0, 0), 245, [.inr (.inr (.inl 19)), .inl (ck_one (-1)), .inl (ck_one 2), .inl (1, 20, [])], ([], [], []), ([], []), [(.inr none, 245, ([], [], []))])
set_option maxRecDepth 100000 in
theorem p2_s92_s {X : Int → Int} {LX : Nat} : ck_Ok p2_O X LX 45 p2_s92 := ck_ok_s (O := p2_O) (X := X) (LX := LX) (E := []) (mi := 45) (cuts := []) (f := 76) (S := p2_s92) (lx := none) (XF := []) ⟨p2_nmu, ck_E0⟩ ck_X0 ck_l0 (by decide +kernel)
set_option maxRecDepth 100000 in
/-- GlacierMail$ValleyReader.readFlood -/
noncomputable def p2_s93 : ck_Sum := ((4, 0, 0), 245, [.inr (.inr (.inl 213))], ([], [], [(214, 3, 3, (0, 400, [(12, 0)]))]), ([(19, 3, 3), (20, 0, 23), (214, 3, 7)], []), [(.inr (some (.inl (ck_one 0))), 245, ([], [], zl21)), (.inr (some (.inl (ck_one 1))), 245, ([], [], zl30))])
set_option maxRecDepth 100000 in
theorem p2_s93_s {X : Int → Int} {LX : Nat} : ck_Ok p2_O X LX 115 p2_s93 := ck_ok_s (O := p2_O) (X := X) (LX := LX) (E := [(108, [p2_s83]), (76, [p2_s26]), (94, [p2_s84, p2_s85]), (111, [p2_s52]), (102, [p2_s86]), (45, [p2_s87, p2_s88, p2_s89, p2_s90, p2_s91, p2_s92]), (93, [p2_s28])]) (mi := 115) (cuts := []) (f := 194) (S := p2_s93) (lx := none) (XF := []) ⟨p2_nmu, ck_E1 (ck_S1 p2_s83_s ck_S0) (ck_E1 (ck_S1 p2_s26_s ck_S0) (ck_E1 (ck_S1 p2_s84_s (ck_S1 p2_s85_s ck_S0)) (ck_E1 (ck_S1 p2_s52_s ck_S0) (ck_E1 (ck_S1 p2_s86_s ck_S0) (ck_E1 (ck_S1 p2_s87_s (ck_S1 p2_s88_s (ck_S1 p2_s89_s (ck_S1 p2_s90_s (ck_S1 p2_s91_s (ck_S1 p2_s92_s ck_S0)))))) (ck_E1 (ck_S1 p2_s28_s ck_S0) ck_E0))))))⟩ ck_X0 ck_l0 (by decide +kernel)
set_option maxRecDepth 100000 in
/-- GlacierMail$Words.needNumber -/
noncomputable def p2_s94 : ck_Sum := ((2, 0, 0), 245, [.inr (.inr (.inl 214)), .inl (ck_one 0), .inl (ck_one 9999)], ([], [], [(214, 3, 3, (0, 400, [(12, 0)]))]), ([(214, 3, 7)], []), [(.inr (some (.inl (ck_one (-1)))), 245, ([], [], zl7)), (.inr (some (.inl (0, 9999, []))), 245, ([], [], [(214, 3, 3, (0, 400, [(1000012, 0)]))]))])
set_option maxRecDepth 100000 in
theorem p2_s94_s {X : Int → Int} {LX : Nat} : ck_Ok p2_O X LX 94 p2_s94 := ck_ok_s (O := p2_O) (X := X) (LX := LX) (E := [(93, [p2_s28]), (76, [p2_s26])]) (mi := 94) (cuts := []) (f := 106) (S := p2_s94) (lx := none) (XF := []) ⟨p2_nmu, ck_E1 (ck_S1 p2_s28_s ck_S0) (ck_E1 (ck_S1 p2_s26_s ck_S0) ck_E0)⟩ ck_X0 ck_l0 (by decide +kernel)
set_option maxRecDepth 100000 in
/-- GlacierMail$ValleyReader.readSeed -/
noncomputable def p2_s95 : ck_Sum := ((3, 0, 0), 245, [.inr (.inr (.inl 213))], ([], [], [(214, 3, 3, (0, 400, [(12, 0)]))]), ([(16, 5, 5), (214, 3, 7)], []), zl31)
set_option maxRecDepth 100000 in
theorem p2_s95_s {X : Int → Int} {LX : Nat} : ck_Ok p2_O X LX 114 p2_s95 := ck_ok_s (O := p2_O) (X := X) (LX := LX) (E := [(76, [p2_s26]), (94, [p2_s94])]) (mi := 114) (cuts := []) (f := 106) (S := p2_s95) (lx := none) (XF := []) ⟨p2_nmu, ck_E1 (ck_S1 p2_s26_s ck_S0) (ck_E1 (ck_S1 p2_s94_s ck_S0) ck_E0)⟩ ck_X0 ck_l0 (by decide +kernel)
set_option maxRecDepth 100000 in
/-- GlacierMail$Words.needNumber -/
noncomputable def p2_s96 : ck_Sum := ((2, 0, 0), 245, [.inr (.inr (.inl 214)), .inl (ck_one 0), .inl (1, 6, [])], ([], [], [(214, 3, 3, (0, 400, [(12, 0)]))]), ([(214, 3, 7)], []), [(.inr (some (.inl (ck_one (-1)))), 245, ([], [], zl7)), (.inr (some (.inl (0, 6, []))), 245, ([], [], [(214, 3, 3, (0, 400, [(1000012, 0)]))]))])
set_option maxRecDepth 100000 in
theorem p2_s96_s {X : Int → Int} {LX : Nat} : ck_Ok p2_O X LX 94 p2_s96 := ck_ok_s (O := p2_O) (X := X) (LX := LX) (E := [(93, [p2_s28]), (76, [p2_s26])]) (mi := 94) (cuts := []) (f := 106) (S := p2_s96) (lx := none) (XF := []) ⟨p2_nmu, ck_E1 (ck_S1 p2_s28_s ck_S0) (ck_E1 (ck_S1 p2_s26_s ck_S0) ck_E0)⟩ ck_X0 ck_l0 (by decide +kernel)
set_option maxRecDepth 100000 in
/-- GlacierMail$ValleyReader.readStripe -/
noncomputable def p2_s97 : ck_Sum := ((3, 0, 0), 245, [.inr (.inr (.inl 213))], ([], [], [(214, 3, 3, (0, 400, [(12, 0)]))]), ([(16, 4, 4), (214, 3, 7)], []), zl31)
set_option maxRecDepth 100000 in
theorem p2_s97_s {X : Int → Int} {LX : Nat} : ck_Ok p2_O X LX 113 p2_s97 := ck_ok_s (O := p2_O) (X := X) (LX := LX) (E := [(76, [p2_s26]), (94, [p2_s96])]) (mi := 113) (cuts := []) (f := 110) (S := p2_s97) (lx := none) (XF := []) ⟨p2_nmu, ck_E1 (ck_S1 p2_s26_s ck_S0) (ck_E1 (ck_S1 p2_s96_s ck_S0) ck_E0)⟩ ck_X0 ck_l0 (by decide +kernel)
set_option maxRecDepth 100000 in
/-- GlacierMail$Words.isWord -/
noncomputable def p2_s98 : ck_Sum := ((6, 0, 0), 245, [.inr (.inr (.inl 214)), .inr (.inr (.inr 21))], ([], [], [(214, 3, 3, (0, 400, [(12, 0)]))]), ([], []), zl4)
set_option maxRecDepth 100000 in
theorem p2_s98_s {X : Int → Int} {LX : Nat} : ck_Ok p2_O X LX 81 p2_s98 := ck_ok_s (O := p2_O) (X := X) (LX := LX) (E := []) (mi := 81) (cuts := []) (f := 310) (S := p2_s98) (lx := none) (XF := []) ⟨p2_nmu, ck_E0⟩ ck_X0 ck_l0 (by decide +kernel)
set_option maxRecDepth 100000 in
/-- GlacierMail$Words.takeWord -/
noncomputable def p2_s99 : ck_Sum := ((7, 0, 0), 245, [.inr (.inr (.inl 214)), .inr (.inr (.inr 21))], ([], [], [(214, 3, 3, (0, 400, [(12, 0)]))]), ([(214, 3, 4), (214, 6, 7)], []), [(.inr (some (.inl (ck_one 0))), 245, ([], [], [(214, 3, 3, (0, 400, [(12, 0)]))])), (.inr (some (.inl (ck_one 1))), 245, ([], [], [(214, 3, 3, (4, 400, [(1000012, 0)]))]))])
set_option maxRecDepth 100000 in
theorem p2_s99_s {X : Int → Int} {LX : Nat} : ck_Ok p2_O X LX 95 p2_s99 := ck_ok_s (O := p2_O) (X := X) (LX := LX) (E := [(81, [p2_s98]), (76, [p2_s26])]) (mi := 95) (cuts := []) (f := 90) (S := p2_s99) (lx := none) (XF := []) ⟨p2_nmu, ck_E1 (ck_S1 p2_s98_s ck_S0) (ck_E1 (ck_S1 p2_s26_s ck_S0) ck_E0)⟩ ck_X0 ck_l0 (by decide +kernel)
set_option maxRecDepth 100000 in
/-- GlacierMail$Words.needWord -/
noncomputable def p2_s100 : ck_Sum := ((8, 0, 0), 245, [.inr (.inr (.inl 214)), .inr (.inr (.inr 21))], ([], [], [(214, 3, 3, (0, 400, [(12, 0)]))]), ([(214, 3, 7)], []), [(.inr (some (.inl (ck_one 0))), 245, ([], [], zl7)), (.inr (some (.inl (ck_one 1))), 245, ([], [], [(214, 3, 3, (4, 400, [(1000012, 0)]))]))])
set_option maxRecDepth 100000 in
theorem p2_s100_s {X : Int → Int} {LX : Nat} : ck_Ok p2_O X LX 112 p2_s100 := ck_ok_s (O := p2_O) (X := X) (LX := LX) (E := [(95, [p2_s99]), (93, [p2_s28])]) (mi := 112) (cuts := []) (f := 88) (S := p2_s100) (lx := none) (XF := []) ⟨p2_nmu, ck_E1 (ck_S1 p2_s99_s ck_S0) (ck_E1 (ck_S1 p2_s28_s ck_S0) ck_E0)⟩ ck_X0 ck_l0 (by decide +kernel)
set_option maxRecDepth 100000 in
/-- GlacierMail$Words.needNumber -/
noncomputable def p2_s101 : ck_Sum := ((2, 0, 0), 245, [.inr (.inr (.inl 214)), .inl (ck_one 0), .inl (ck_one 9)], ([], [], [(214, 3, 3, (0, 400, [(12, 0)]))]), ([(214, 3, 7)], []), [(.inr (some (.inl (ck_one (-1)))), 245, ([], [], zl7)), (.inr (some (.inl (0, 9, []))), 245, ([], [], [(214, 3, 3, (0, 400, [(1000012, 0)]))]))])
set_option maxRecDepth 100000 in
theorem p2_s101_s {X : Int → Int} {LX : Nat} : ck_Ok p2_O X LX 94 p2_s101 := ck_ok_s (O := p2_O) (X := X) (LX := LX) (E := [(93, [p2_s28]), (76, [p2_s26])]) (mi := 94) (cuts := []) (f := 106) (S := p2_s101) (lx := none) (XF := []) ⟨p2_nmu, ck_E1 (ck_S1 p2_s28_s ck_S0) (ck_E1 (ck_S1 p2_s26_s ck_S0) ck_E0)⟩ ck_X0 ck_l0 (by decide +kernel)
set_option maxRecDepth 100000 in
/-- GlacierMail$ValleyReader.readSnow -/
noncomputable def p2_s102 : ck_Sum := ((9, 0, 0), 245, [.inr (.inr (.inl 213))], ([], [], [(214, 3, 3, (0, 400, [(12, 0)]))]), ([(16, 2, 3), (214, 3, 7)], []), zl32)
set_option maxRecDepth 100000 in
theorem p2_s102_s {X : Int → Int} {LX : Nat} : ck_Ok p2_O X LX 110 p2_s102 := ck_ok_s (O := p2_O) (X := X) (LX := LX) (E := [(76, [p2_s26]), (111, [p2_s52]), (112, [p2_s100]), (94, [p2_s101])]) (mi := 110) (cuts := []) (f := 136) (S := p2_s102) (lx := none) (XF := []) ⟨p2_nmu, ck_E1 (ck_S1 p2_s26_s ck_S0) (ck_E1 (ck_S1 p2_s52_s ck_S0) (ck_E1 (ck_S1 p2_s100_s ck_S0) (ck_E1 (ck_S1 p2_s101_s ck_S0) ck_E0)))⟩ ck_X0 ck_l0 (by decide +kernel)
set_option maxRecDepth 100000 in
/-- GlacierMail$Rows.isFull -/
noncomputable def p2_s103 : ck_Sum := ((0, 0, 0), 245, [.inr (.inr (.inl 17))], ([], [], []), ([], []), [(.inr (some (.inl (ck_one 0))), 245, ([], [], [(17, 3, 3, (0, 7, []))])), (.inr (some (.inl (ck_one 1))), 245, ([], [], [(17, 3, 3, ck_one 8)]))])
set_option maxRecDepth 100000 in
theorem p2_s103_s {X : Int → Int} {LX : Nat} : ck_Ok p2_O X LX 108 p2_s103 := ck_ok_s (O := p2_O) (X := X) (LX := LX) (E := []) (mi := 108) (cuts := []) (f := 86) (S := p2_s103) (lx := none) (XF := []) ⟨p2_nmu, ck_E0⟩ ck_X0 ck_l0 (by decide +kernel)
set_option maxRecDepth 100000 in
/-- GlacierMail$Rows.size -/
noncomputable def p2_s104 : ck_Sum := ((0, 0, 0), 245, [.inr (.inr (.inl 17))], ([], [], []), ([], []), [(.inr (some (.inl (0, 8, []))), 245, ([], [], []))])
set_option maxRecDepth 100000 in
theorem p2_s104_s {X : Int → Int} {LX : Nat} : ck_Ok p2_O X LX 9 p2_s104 := ck_ok_s (O := p2_O) (X := X) (LX := LX) (E := []) (mi := 9) (cuts := []) (f := 76) (S := p2_s104) (lx := none) (XF := []) ⟨p2_nmu, ck_E0⟩ ck_X0 ck_l0 (by decide +kernel)
set_option maxRecDepth 100000 in
/-- GlacierMail$Rows.get -/
noncomputable def p2_s105 : ck_Sum := ((0, 0, 0), 245, [.inr (.inr (.inl 17)), .inl ((-2147483648), 2147483647, []), .inl ((-2147483648), 2147483647, [])], ([], [], []), ([], []), [(.inr (some (.inl (ck_one (-1)))), 245, ([], [], [])), (.inr (some (.inl (0, 98, []))), 245, ([], [], [(17, 3, 3, (1, 8, []))]))])
set_option maxRecDepth 100000 in
theorem p2_s105_s {X : Int → Int} {LX : Nat} : ck_Ok p2_O X LX 10 p2_s105 := ck_ok_s (O := p2_O) (X := X) (LX := LX) (E := []) (mi := 10) (cuts := []) (f := 114) (S := p2_s105) (lx := none) (XF := []) ⟨p2_nmu, ck_E0⟩ ck_X0 ck_l0 (by decide +kernel)
set_option maxRecDepth 100000 in
/-- GlacierMail$Words.needNumber -/
noncomputable def p2_s106 : ck_Sum := ((2, 0, 0), 245, [.inr (.inr (.inl 214)), .inl (ck_one 0), .inl (ck_one 0)], ([], [], [(214, 3, 3, (0, 400, [(12, 0)]))]), ([(214, 3, 7)], []), [(.inr (some (.inl (ck_one (-1)))), 245, ([], [], zl7)), (.inr (some (.inl (ck_one 0))), 245, ([], [], [(214, 3, 3, (0, 400, [(1000012, 0)]))]))])
set_option maxRecDepth 100000 in
theorem p2_s106_s {X : Int → Int} {LX : Nat} : ck_Ok p2_O X LX 94 p2_s106 := ck_ok_s (O := p2_O) (X := X) (LX := LX) (E := [(93, [p2_s28]), (76, [p2_s26])]) (mi := 94) (cuts := []) (f := 106) (S := p2_s106) (lx := none) (XF := []) ⟨p2_nmu, ck_E1 (ck_S1 p2_s28_s ck_S0) (ck_E1 (ck_S1 p2_s26_s ck_S0) ck_E0)⟩ ck_X0 ck_l0 (by decide +kernel)
set_option maxRecDepth 100000 in
/-- GlacierMail$Words.needNumber -/
noncomputable def p2_s107 : ck_Sum := ((2, 0, 0), 245, [.inr (.inr (.inl 214)), .inl (1, 99, []), .inl (9, 98, [])], ([], [], [(214, 3, 3, (0, 400, [(12, 0)]))]), ([(214, 3, 7)], []), [(.inr (some (.inl (ck_one (-1)))), 245, ([], [], zl7)), (.inr (some (.inl (1, 98, []))), 245, ([], [], [(214, 3, 3, (0, 400, [(1000012, 0)]))]))])
set_option maxRecDepth 100000 in
theorem p2_s107_s {X : Int → Int} {LX : Nat} : ck_Ok p2_O X LX 94 p2_s107 := ck_ok_s (O := p2_O) (X := X) (LX := LX) (E := [(93, [p2_s28]), (76, [p2_s26])]) (mi := 94) (cuts := []) (f := 106) (S := p2_s107) (lx := none) (XF := []) ⟨p2_nmu, ck_E1 (ck_S1 p2_s28_s ck_S0) (ck_E1 (ck_S1 p2_s26_s ck_S0) ck_E0)⟩ ck_X0 ck_l0 (by decide +kernel)
set_option maxRecDepth 100000 in
/-- GlacierMail$Words.needNumber -/
noncomputable def p2_s108 : ck_Sum := ((1, 0, 0), 245, [.inr (.inr (.inl 214)), .inl (1, 99, []), .inl (ck_one 0)], ([], [], []), ([(214, 5, 5)], []), [(.inr (some (.inl (ck_one (-1)))), 245, ([], [], [(214, 5, 5, (0, 400, []))]))])
set_option maxRecDepth 100000 in
theorem p2_s108_s {X : Int → Int} {LX : Nat} : ck_Ok p2_O X LX 94 p2_s108 := ck_ok_s (O := p2_O) (X := X) (LX := LX) (E := [(93, [p2_s28])]) (mi := 94) (cuts := []) (f := 106) (S := p2_s108) (lx := none) (XF := []) ⟨p2_nmu, ck_E1 (ck_S1 p2_s28_s ck_S0) ck_E0⟩ ck_X0 ck_l0 (by decide +kernel)
set_option maxRecDepth 100000 in
/-- GlacierMail$Rows.add -/
noncomputable def p2_s109 : ck_Sum := ((0, 0, 0), 245, [.inr (.inr (.inl 17))], ([], [], []), ([(17, 3, 3)], []), [(.inr (some (.inl (0, 7, []))), 245, ([], [], [(17, 3, 3, (1, 8, []))])), (.inr (some (.inl (ck_one (-1)))), 245, ([], [], [(17, 3, 3, ck_one 8)]))])
set_option maxRecDepth 100000 in
theorem p2_s109_s {X : Int → Int} {LX : Nat} : ck_Ok p2_O X LX 102 p2_s109 := ck_ok_s (O := p2_O) (X := X) (LX := LX) (E := []) (mi := 102) (cuts := []) (f := 102) (S := p2_s109) (lx := none) (XF := []) ⟨p2_nmu, ck_E0⟩ ck_X0 ck_l0 (by decide +kernel)
set_option maxRecDepth 100000 in
/-- GlacierMail$Rows.put -/
noncomputable def p2_s110 : ck_Sum := ((0, 0, 0), 245, [.inr (.inr (.inl 17)), .inl (0, 7, []), .inl (ck_one 0), .inl (0, 98, [])], ([], [], []), (zl33, []), [(.inr none, 245, ([], [], []))])
set_option maxRecDepth 100000 in
theorem p2_s110_s {X : Int → Int} {LX : Nat} : ck_Ok p2_O X LX 45 p2_s110 := ck_ok_s (O := p2_O) (X := X) (LX := LX) (E := []) (mi := 45) (cuts := []) (f := 116) (S := p2_s110) (lx := none) (XF := []) ⟨p2_nmu, ck_E0⟩ ck_X0 ck_l0 (by decide +kernel)
set_option maxRecDepth 100000 in
/-- GlacierMail$Rows.put -/
noncomputable def p2_s111 : ck_Sum := ((0, 0, 0), 245, [.inr (.inr (.inl 17)), .inl (ck_one (-1)), .inl (ck_one 0), .inl (0, 98, [])], ([], [], []), ([], []), [(.inr none, 245, ([], [], []))])
set_option maxRecDepth 100000 in
theorem p2_s111_s {X : Int → Int} {LX : Nat} : ck_Ok p2_O X LX 45 p2_s111 := ck_ok_s (O := p2_O) (X := X) (LX := LX) (E := []) (mi := 45) (cuts := []) (f := 76) (S := p2_s111) (lx := none) (XF := []) ⟨p2_nmu, ck_E0⟩ ck_X0 ck_l0 (by decide +kernel)
set_option maxRecDepth 100000 in
/-- GlacierMail$Rows.put -/
noncomputable def p2_s112 : ck_Sum := ((0, 0, 0), 245, [.inr (.inr (.inl 17)), .inl (0, 7, []), .inl (ck_one 0), .inl (ck_one 0)], ([], [], []), (zl33, []), [(.inr none, 245, ([], [], []))])
set_option maxRecDepth 100000 in
theorem p2_s112_s {X : Int → Int} {LX : Nat} : ck_Ok p2_O X LX 45 p2_s112 := ck_ok_s (O := p2_O) (X := X) (LX := LX) (E := []) (mi := 45) (cuts := []) (f := 116) (S := p2_s112) (lx := none) (XF := []) ⟨p2_nmu, ck_E0⟩ ck_X0 ck_l0 (by decide +kernel)
set_option maxRecDepth 100000 in
/-- GlacierMail$Rows.put -/
noncomputable def p2_s113 : ck_Sum := ((0, 0, 0), 245, [.inr (.inr (.inl 17)), .inl (ck_one (-1)), .inl (ck_one 0), .inl (ck_one 0)], ([], [], []), ([], []), [(.inr none, 245, ([], [], []))])
set_option maxRecDepth 100000 in
theorem p2_s113_s {X : Int → Int} {LX : Nat} : ck_Ok p2_O X LX 45 p2_s113 := ck_ok_s (O := p2_O) (X := X) (LX := LX) (E := []) (mi := 45) (cuts := []) (f := 76) (S := p2_s113) (lx := none) (XF := []) ⟨p2_nmu, ck_E0⟩ ck_X0 ck_l0 (by decide +kernel)
set_option maxRecDepth 100000 in
/-- GlacierMail$Rows.put -/
noncomputable def p2_s114 : ck_Sum := ((0, 0, 0), 245, [.inr (.inr (.inl 17)), .inl (0, 7, []), .inl (ck_one 0), .inl (1, 98, [])], ([], [], []), (zl33, []), [(.inr none, 245, ([], [], []))])
set_option maxRecDepth 100000 in
theorem p2_s114_s {X : Int → Int} {LX : Nat} : ck_Ok p2_O X LX 45 p2_s114 := ck_ok_s (O := p2_O) (X := X) (LX := LX) (E := []) (mi := 45) (cuts := []) (f := 116) (S := p2_s114) (lx := none) (XF := []) ⟨p2_nmu, ck_E0⟩ ck_X0 ck_l0 (by decide +kernel)
set_option maxRecDepth 100000 in
/-- GlacierMail$Rows.put -/
noncomputable def p2_s115 : ck_Sum := ((0, 0, 0), 245, [.inr (.inr (.inl 17)), .inl (ck_one (-1)), .inl (ck_one 0), .inl (1, 98, [])], ([], [], []), ([], []), [(.inr none, 245, ([], [], []))])
set_option maxRecDepth 100000 in
theorem p2_s115_s {X : Int → Int} {LX : Nat} : ck_Ok p2_O X LX 45 p2_s115 := ck_ok_s (O := p2_O) (X := X) (LX := LX) (E := []) (mi := 45) (cuts := []) (f := 76) (S := p2_s115) (lx := none) (XF := []) ⟨p2_nmu, ck_E0⟩ ck_X0 ck_l0 (by decide +kernel)
set_option maxRecDepth 100000 in
/-- GlacierMail$Rows.put -/
noncomputable def p2_s116 : ck_Sum := ((0, 0, 0), 245, [.inr (.inr (.inl 17)), .inl (0, 7, []), .inl (1, 6, []), .inl (0, 20, [])], ([], [], []), (zl34, []), [(.inr none, 245, ([], [], []))])
set_option maxRecDepth 100000 in
theorem p2_s116_s {X : Int → Int} {LX : Nat} : ck_Ok p2_O X LX 45 p2_s116 := ck_ok_s (O := p2_O) (X := X) (LX := LX) (E := []) (mi := 45) (cuts := []) (f := 116) (S := p2_s116) (lx := none) (XF := []) ⟨p2_nmu, ck_E0⟩ ck_X0 ck_l0 (by decide +kernel)
set_option maxRecDepth 100000 in
/-- GlacierMail$ValleyReader.readSpeeds -/
noncomputable def p2_s117 : ck_Sum := ((3, 0, 0), 245, [.inr (.inr (.inl 213)), .inr (.inr (.inl 17)), .inl (0, 7, []), .inl (ck_one 1)], ([], [], [(214, 3, 3, (0, 400, [(12, 0)]))]), (zl35, []), zl8)
set_option maxRecDepth 100000 in
theorem p2_s117_s {X : Int → Int} {LX : Nat} : ck_Ok p2_O X LX 109 p2_s117 := ck_ok_s (O := p2_O) (X := X) (LX := LX) (E := [(94, [p2_s42]), (45, [p2_s116])]) (mi := 109) (cuts := [(3, [some (.inr (.inr (.inl 213))), some (.inr (.inr (.inl 17))), some (.inl (0, 7, [])), some (.inl (ck_one 1)), some (.inl (0, 6, [])), none], ([], [], [(214, 3, 3, (0, 400, [(1000012, 0)]))]), 100, .inl 4, true)]) (f := 186) (S := p2_s117) (lx := none) (XF := []) ⟨p2_nmu, ck_E1 (ck_S1 p2_s42_s ck_S0) (ck_E1 (ck_S1 p2_s116_s ck_S0) ck_E0)⟩ ck_X0 ck_l0 (by decide +kernel)
set_option maxRecDepth 100000 in
/-- GlacierMail$Rows.put -/
noncomputable def p2_s118 : ck_Sum := ((0, 0, 0), 245, [.inr (.inr (.inl 17)), .inl (ck_one (-1)), .inl (1, 6, []), .inl (0, 20, [])], ([], [], []), ([], []), [(.inr none, 245, ([], [], []))])
set_option maxRecDepth 100000 in
theorem p2_s118_s {X : Int → Int} {LX : Nat} : ck_Ok p2_O X LX 45 p2_s118 := ck_ok_s (O := p2_O) (X := X) (LX := LX) (E := []) (mi := 45) (cuts := []) (f := 76) (S := p2_s118) (lx := none) (XF := []) ⟨p2_nmu, ck_E0⟩ ck_X0 ck_l0 (by decide +kernel)
set_option maxRecDepth 100000 in
/-- GlacierMail$ValleyReader.readSpeeds -/
noncomputable def p2_s119 : ck_Sum := ((3, 0, 0), 245, [.inr (.inr (.inl 213)), .inr (.inr (.inl 17)), .inl (ck_one (-1)), .inl (ck_one 1)], ([], [], [(214, 3, 3, (0, 400, [(12, 0)]))]), ([(214, 3, 7)], []), zl8)
set_option maxRecDepth 100000 in
theorem p2_s119_s {X : Int → Int} {LX : Nat} : ck_Ok p2_O X LX 109 p2_s119 := ck_ok_s (O := p2_O) (X := X) (LX := LX) (E := [(94, [p2_s42]), (45, [p2_s118])]) (mi := 109) (cuts := [(3, [some (.inr (.inr (.inl 213))), some (.inr (.inr (.inl 17))), some (.inl (ck_one (-1))), some (.inl (ck_one 1)), some (.inl (0, 6, [])), none], ([], [], [(214, 3, 3, (0, 400, [(1000012, 0)]))]), 100, .inl 4, true)]) (f := 186) (S := p2_s119) (lx := none) (XF := []) ⟨p2_nmu, ck_E1 (ck_S1 p2_s42_s ck_S0) (ck_E1 (ck_S1 p2_s118_s ck_S0) ck_E0)⟩ ck_X0 ck_l0 (by decide +kernel)
set_option maxRecDepth 100000 in
/-- GlacierMail$ValleyReader.readSection -/
noncomputable def p2_s120 : ck_Sum := ((4, 0, 0), 245, [.inr (.inr (.inl 213))], ([], [], [(214, 3, 3, (0, 400, [(12, 0)]))]), ([(17, 3, 3), (18, 0, 55), (214, 3, 7)], []), [(.inr (some (.inl (ck_one 0))), 245, ([], [], zl21)), (.inr (some (.inl (ck_one 1))), 245, ([], [], zl36))])
set_option maxRecDepth 100000 in
theorem p2_s120_s {X : Int → Int} {LX : Nat} : ck_Ok p2_O X LX 107 p2_s120 := ck_ok_s (O := p2_O) (X := X) (LX := LX) (E := [(108, [p2_s103]), (76, [p2_s26]), (9, [p2_s104]), (10, [p2_s105]), (94, [p2_s51, p2_s106, p2_s107, p2_s108]), (102, [p2_s109]), (45, [p2_s110, p2_s111, p2_s112, p2_s113, p2_s114, p2_s115]), (109, [p2_s117, p2_s119]), (93, [p2_s28])]) (mi := 107) (cuts := []) (f := 188) (S := p2_s120) (lx := none) (XF := []) ⟨p2_nmu, ck_E1 (ck_S1 p2_s103_s ck_S0) (ck_E1 (ck_S1 p2_s26_s ck_S0) (ck_E1 (ck_S1 p2_s104_s ck_S0) (ck_E1 (ck_S1 p2_s105_s ck_S0) (ck_E1 (ck_S1 p2_s51_s (ck_S1 p2_s106_s (ck_S1 p2_s107_s (ck_S1 p2_s108_s ck_S0)))) (ck_E1 (ck_S1 p2_s109_s ck_S0) (ck_E1 (ck_S1 p2_s110_s (ck_S1 p2_s111_s (ck_S1 p2_s112_s (ck_S1 p2_s113_s (ck_S1 p2_s114_s (ck_S1 p2_s115_s ck_S0)))))) (ck_E1 (ck_S1 p2_s117_s (ck_S1 p2_s119_s ck_S0)) (ck_E1 (ck_S1 p2_s28_s ck_S0) ck_E0))))))))⟩ ck_X0 ck_l0 (by decide +kernel)
set_option maxRecDepth 100000 in
/-- GlacierMail$Rows.size -/
noncomputable def p2_s121 : ck_Sum := ((0, 0, 0), 245, [.inr (.inr (.inl 19))], ([], [], []), ([], []), [(.inr (some (.inl (0, 8, []))), 245, ([], [], []))])
set_option maxRecDepth 100000 in
theorem p2_s121_s {X : Int → Int} {LX : Nat} : ck_Ok p2_O X LX 9 p2_s121 := ck_ok_s (O := p2_O) (X := X) (LX := LX) (E := []) (mi := 9) (cuts := []) (f := 76) (S := p2_s121) (lx := none) (XF := []) ⟨p2_nmu, ck_E0⟩ ck_X0 ck_l0 (by decide +kernel)
set_option maxRecDepth 100000 in
/-- GlacierMail$Rows.size -/
noncomputable def p2_s122 : ck_Sum := ((0, 0, 0), 245, [.inr (.inr (.inl 21))], ([], [], []), ([], []), [(.inr (some (.inl (0, 8, []))), 245, ([], [], []))])
set_option maxRecDepth 100000 in
theorem p2_s122_s {X : Int → Int} {LX : Nat} : ck_Ok p2_O X LX 9 p2_s122 := ck_ok_s (O := p2_O) (X := X) (LX := LX) (E := []) (mi := 9) (cuts := []) (f := 76) (S := p2_s122) (lx := none) (XF := []) ⟨p2_nmu, ck_E0⟩ ck_X0 ck_l0 (by decide +kernel)
set_option maxRecDepth 100000 in
/-- GlacierMail$Rows.size -/
noncomputable def p2_s123 : ck_Sum := ((0, 0, 0), 245, [.inr (.inr (.inl 23))], ([], [], []), ([], []), [(.inr (some (.inl (0, 24, []))), 245, ([], [], []))])
set_option maxRecDepth 100000 in
theorem p2_s123_s {X : Int → Int} {LX : Nat} : ck_Ok p2_O X LX 9 p2_s123 := ck_ok_s (O := p2_O) (X := X) (LX := LX) (E := []) (mi := 9) (cuts := []) (f := 76) (S := p2_s123) (lx := none) (XF := []) ⟨p2_nmu, ck_E0⟩ ck_X0 ck_l0 (by decide +kernel)
set_option maxRecDepth 100000 in
/-- GlacierMail$Rows.size -/
noncomputable def p2_s124 : ck_Sum := ((0, 0, 0), 245, [.inr (.inr (.inl 25))], ([], [], []), ([], []), [(.inr (some (.inl (0, 6, []))), 245, ([], [], []))])
set_option maxRecDepth 100000 in
theorem p2_s124_s {X : Int → Int} {LX : Nat} : ck_Ok p2_O X LX 9 p2_s124 := ck_ok_s (O := p2_O) (X := X) (LX := LX) (E := []) (mi := 9) (cuts := []) (f := 76) (S := p2_s124) (lx := none) (XF := []) ⟨p2_nmu, ck_E0⟩ ck_X0 ck_l0 (by decide +kernel)
set_option maxRecDepth 100000 in
/-- GlacierMail$State.isEmpty -/
noncomputable def p2_s125 : ck_Sum := ((1, 0, 0), 245, [.inr (.inr (.inl 16))], ([], [], []), ([], []), [(.inr (some (.inl (ck_one 0))), 245, ([], [], [])), (.inr (some (.inl (ck_one 1))), 245, ([], [], []))])
set_option maxRecDepth 100000 in
theorem p2_s125_s {X : Int → Int} {LX : Nat} : ck_Ok p2_O X LX 105 p2_s125 := ck_ok_s (O := p2_O) (X := X) (LX := LX) (E := [(9, [p2_s104, p2_s121, p2_s122, p2_s123, p2_s124])]) (mi := 105) (cuts := []) (f := 116) (S := p2_s125) (lx := none) (XF := []) ⟨p2_nmu, ck_E1 (ck_S1 p2_s104_s (ck_S1 p2_s121_s (ck_S1 p2_s122_s (ck_S1 p2_s123_s (ck_S1 p2_s124_s ck_S0))))) ck_E0⟩ ck_X0 ck_l0 (by decide +kernel)
set_option maxRecDepth 100000 in
/-- GlacierMail$Words.needNumber -/
noncomputable def p2_s126 : ck_Sum := ((2, 0, 0), 245, [.inr (.inr (.inl 214)), .inl (ck_one 10), .inl (ck_one 99)], ([], [], [(214, 3, 3, (0, 400, [(12, 0)]))]), ([(214, 3, 7)], []), [(.inr (some (.inl (ck_one (-1)))), 245, ([], [], zl7)), (.inr (some (.inl (10, 99, []))), 245, ([], [], [(214, 3, 3, (0, 400, [(1000012, 0)]))]))])
set_option maxRecDepth 100000 in
theorem p2_s126_s {X : Int → Int} {LX : Nat} : ck_Ok p2_O X LX 94 p2_s126 := ck_ok_s (O := p2_O) (X := X) (LX := LX) (E := [(93, [p2_s28]), (76, [p2_s26])]) (mi := 94) (cuts := []) (f := 106) (S := p2_s126) (lx := none) (XF := []) ⟨p2_nmu, ck_E1 (ck_S1 p2_s28_s ck_S0) (ck_E1 (ck_S1 p2_s26_s ck_S0) ck_E0)⟩ ck_X0 ck_l0 (by decide +kernel)
set_option maxRecDepth 100000 in
/-- GlacierMail$ValleyReader.readLast -/
noncomputable def p2_s127 : ck_Sum := ((3, 0, 0), 245, [.inr (.inr (.inl 213))], ([], [], [(214, 3, 3, (0, 400, [(12, 0)]))]), ([(16, 1, 2), (214, 3, 7)], []), [(.inr (some (.inl (ck_one 0))), 245, ([], [], zl21)), (.inr (some (.inl (ck_one 1))), 245, ([], [], zl37))])
set_option maxRecDepth 100000 in
theorem p2_s127_s {X : Int → Int} {LX : Nat} : ck_Ok p2_O X LX 106 p2_s127 := ck_ok_s (O := p2_O) (X := X) (LX := LX) (E := [(105, [p2_s125]), (93, [p2_s28]), (76, [p2_s26]), (94, [p2_s126])]) (mi := 106) (cuts := []) (f := 122) (S := p2_s127) (lx := none) (XF := []) ⟨p2_nmu, ck_E1 (ck_S1 p2_s125_s ck_S0) (ck_E1 (ck_S1 p2_s28_s ck_S0) (ck_E1 (ck_S1 p2_s26_s ck_S0) (ck_E1 (ck_S1 p2_s126_s ck_S0) ck_E0)))⟩ ck_X0 ck_l0 (by decide +kernel)
set_option maxRecDepth 100000 in
/-- GlacierMail$Words.needNumber -/
noncomputable def p2_s128 : ck_Sum := ((2, 0, 0), 245, [.inr (.inr (.inl 214)), .inl (ck_one 1), .inl (ck_one 6)], ([], [], [(214, 3, 3, (0, 400, [(12, 0)]))]), ([(214, 3, 7)], []), [(.inr (some (.inl (ck_one (-1)))), 245, ([], [], zl7)), (.inr (some (.inl (1, 6, []))), 245, ([], [], [(214, 3, 3, (0, 400, [(1000012, 0)]))]))])
set_option maxRecDepth 100000 in
theorem p2_s128_s {X : Int → Int} {LX : Nat} : ck_Ok p2_O X LX 94 p2_s128 := ck_ok_s (O := p2_O) (X := X) (LX := LX) (E := [(93, [p2_s28]), (76, [p2_s26])]) (mi := 94) (cuts := []) (f := 106) (S := p2_s128) (lx := none) (XF := []) ⟨p2_nmu, ck_E1 (ck_S1 p2_s28_s ck_S0) (ck_E1 (ck_S1 p2_s26_s ck_S0) ck_E0)⟩ ck_X0 ck_l0 (by decide +kernel)
set_option maxRecDepth 100000 in
/-- GlacierMail$ValleyReader.readLanes -/
noncomputable def p2_s129 : ck_Sum := ((3, 0, 0), 245, [.inr (.inr (.inl 213))], ([], [], [(214, 3, 3, (0, 400, [(12, 0)]))]), ([(16, 0, 0), (16, 4, 4), (214, 3, 7)], []), [(.inr (some (.inl (ck_one 0))), 245, ([], [], zl21)), (.inr (some (.inl (ck_one 1))), 245, ([], [], zl38))])
set_option maxRecDepth 100000 in
theorem p2_s129_s {X : Int → Int} {LX : Nat} : ck_Ok p2_O X LX 104 p2_s129 := ck_ok_s (O := p2_O) (X := X) (LX := LX) (E := [(105, [p2_s125]), (93, [p2_s28]), (76, [p2_s26]), (94, [p2_s128])]) (mi := 104) (cuts := []) (f := 122) (S := p2_s129) (lx := none) (XF := []) ⟨p2_nmu, ck_E1 (ck_S1 p2_s125_s ck_S0) (ck_E1 (ck_S1 p2_s28_s ck_S0) (ck_E1 (ck_S1 p2_s26_s ck_S0) (ck_E1 (ck_S1 p2_s128_s ck_S0) ck_E0)))⟩ ck_X0 ck_l0 (by decide +kernel)
set_option maxRecDepth 100000 in
/-- GlacierMail$ValleyReader.readLine -/
noncomputable def p2_s130 : ck_Sum := ((10, 0, 0), 245, [.inr (.inr (.inl 213))], ([], [], [(214, 3, 3, (0, 400, [(12, 0)]))]), (zl39, []), zl32)
set_option maxRecDepth 100000 in
theorem p2_s130_s {X : Int → Int} {LX : Nat} : ck_Ok p2_O X LX 103 p2_s130 := ck_ok_s (O := p2_O) (X := X) (LX := LX) (E := [(81, [p2_s30, p2_s31, p2_s32, p2_s33, p2_s34, p2_s35, p2_s36, p2_s37, p2_s38, p2_s39]), (93, [p2_s28]), (120, [p2_s47]), (118, [p2_s69]), (116, [p2_s82]), (115, [p2_s93]), (114, [p2_s95]), (113, [p2_s97]), (110, [p2_s102]), (107, [p2_s120]), (106, [p2_s127]), (104, [p2_s129])]) (mi := 103) (cuts := []) (f := 178) (S := p2_s130) (lx := none) (XF := []) ⟨p2_nmu, ck_E1 (ck_S1 p2_s30_s (ck_S1 p2_s31_s (ck_S1 p2_s32_s (ck_S1 p2_s33_s (ck_S1 p2_s34_s (ck_S1 p2_s35_s (ck_S1 p2_s36_s (ck_S1 p2_s37_s (ck_S1 p2_s38_s (ck_S1 p2_s39_s ck_S0)))))))))) (ck_E1 (ck_S1 p2_s28_s ck_S0) (ck_E1 (ck_S1 p2_s47_s ck_S0) (ck_E1 (ck_S1 p2_s69_s ck_S0) (ck_E1 (ck_S1 p2_s82_s ck_S0) (ck_E1 (ck_S1 p2_s93_s ck_S0) (ck_E1 (ck_S1 p2_s95_s ck_S0) (ck_E1 (ck_S1 p2_s97_s ck_S0) (ck_E1 (ck_S1 p2_s102_s ck_S0) (ck_E1 (ck_S1 p2_s120_s ck_S0) (ck_E1 (ck_S1 p2_s127_s ck_S0) (ck_E1 (ck_S1 p2_s129_s ck_S0) ck_E0)))))))))))⟩ ck_X0 ck_l0 (by decide +kernel)
set_option maxRecDepth 100000 in
/-- GlacierMail$Words.needSign -/
noncomputable def p2_s131 : ck_Sum := ((2, 0, 0), 245, [.inr (.inr (.inl 214)), .inl (ck_one 59)], ([], [], [(214, 3, 3, (0, 400, [(12, 0)]))]), ([(214, 3, 7)], []), [(.inr (some (.inl (ck_one 1))), 245, ([], [], [(214, 3, 3, (0, 400, [(1000012, 0)]))])), (.inr (some (.inl (ck_one 0))), 245, ([], [], zl7))])
set_option maxRecDepth 100000 in
theorem p2_s131_s {X : Int → Int} {LX : Nat} : ck_Ok p2_O X LX 98 p2_s131 := ck_ok_s (O := p2_O) (X := X) (LX := LX) (E := [(76, [p2_s26]), (93, [p2_s28])]) (mi := 98) (cuts := []) (f := 86) (S := p2_s131) (lx := none) (XF := []) ⟨p2_nmu, ck_E1 (ck_S1 p2_s26_s ck_S0) (ck_E1 (ck_S1 p2_s28_s ck_S0) ck_E0)⟩ ck_X0 ck_l0 (by decide +kernel)
set_option maxRecDepth 100000 in
/-- GlacierMail$TextReader.readText -/
noncomputable def p2_s132 : ck_Sum := ((11, 0, 0), 245, [.inr (.inr (.inl 213)), .inl (0, 400, [])], ([], [], [(214, 3, 3, (0, 400, [(12, 0)]))]), (zl40, []), zl2)
set_option maxRecDepth 100000 in
theorem p2_s132_s {X : Int → Int} {LX : Nat} : ck_Ok p2_O X LX 72 p2_s132 := ck_ok_s (O := p2_O) (X := X) (LX := LX) (E := [(74, [p2_s23]), (75, [p2_s27]), (93, [p2_s28]), (121, [p2_s29]), (103, [p2_s130]), (98, [p2_s131])]) (mi := 72) (cuts := [(29, [some (.inr (.inr (.inl 213))), some (.inl (0, 400, [])), some (.inl (0, 23, []))], ([], [], []), 100, .inl 2, true)]) (f := 174) (S := p2_s132) (lx := none) (XF := []) ⟨p2_nmu, ck_E1 (ck_S1 p2_s23_s ck_S0) (ck_E1 (ck_S1 p2_s27_s ck_S0) (ck_E1 (ck_S1 p2_s28_s ck_S0) (ck_E1 (ck_S1 p2_s29_s ck_S0) (ck_E1 (ck_S1 p2_s130_s ck_S0) (ck_E1 (ck_S1 p2_s131_s ck_S0) ck_E0)))))⟩ ck_X0 ck_l0 (by decide +kernel)
set_option maxRecDepth 100000 in
/-- GlacierMail$Ice.reckonHeats -/
noncomputable def p2_s133 : ck_Sum := ((0, 0, 0), 245, [.inr (.inr (.inl 200))], ([], [], []), ([(201, 0, 299)], []), [(.inr none, 245, ([], [], []))])
set_option maxRecDepth 100000 in
theorem p2_s133_s {X : Int → Int} {LX : Nat} : ck_Ok p2_O X LX 6 p2_s133 := ck_ok_s (O := p2_O) (X := X) (LX := LX) (E := []) (mi := 6) (cuts := [(10, [some (.inr (.inr (.inl 200))), some (.inl ((-2147483648), 2147483647, [])), some (.inl (0, 300, []))], ([], [], []), 100, .inl 2, true)]) (f := 182) (S := p2_s133) (lx := none) (XF := []) ⟨p2_nmu, ck_E0⟩ ck_X0 ck_l0 (by decide +kernel)
set_option maxRecDepth 100000 in
/-- java/util/Arrays.fill -/
noncomputable def p2_s134 : ck_Sum := ((0, 0, 0), 245, [.inr (.inr (.inl 202)), .inl (ck_one 0)], ([], [], []), ([(202, 0, 593)], []), [(.inr none, 245, ([], [], []))])
set_option maxRecDepth 100000 in
theorem p2_s134_s {X : Int → Int} {LX : Nat} : ck_Ok p2_O X LX 8 p2_s134 := ck_ok_s (O := p2_O) (X := X) (LX := LX) (E := []) (mi := 8) (cuts := [(5, [some (.inr (.inr (.inl 202))), some (.inl (ck_one 0)), some (.inl (0, 594, [])), some (.inl (ck_one 594))], ([], [], []), 100, .inl 2, true)]) (f := 130) (S := p2_s134) (lx := none) (XF := []) ⟨p2_nmu, ck_E0⟩ ck_X0 ck_l0 (by decide +kernel)
set_option maxRecDepth 100000 in
/-- GlacierMail$Rows.size -/
noncomputable def p2_s135 : ck_Sum := ((0, 0, 0), 245, [.inr (.inr (.inl 4))], ([], [], []), ([], []), [(.inr (some (.inl (0, 8, []))), 245, ([], [], []))])
set_option maxRecDepth 100000 in
theorem p2_s135_s {X : Int → Int} {LX : Nat} : ck_Ok p2_O X LX 9 p2_s135 := ck_ok_s (O := p2_O) (X := X) (LX := LX) (E := []) (mi := 9) (cuts := []) (f := 76) (S := p2_s135) (lx := none) (XF := []) ⟨p2_nmu, ck_E0⟩ ck_X0 ck_l0 (by decide +kernel)
set_option maxRecDepth 100000 in
/-- GlacierMail$Rows.get -/
noncomputable def p2_s136 : ck_Sum := ((0, 0, 0), 245, [.inr (.inr (.inl 4)), .inl ((-2147483648), 2147483647, []), .inl ((-2147483648), 2147483647, [])], ([], [], []), ([], []), [(.inr (some (.inl (ck_one (-1)))), 245, ([], [], [])), (.inr (some (.inl (0, 98, []))), 245, ([], [], [(4, 3, 3, (1, 8, []))]))])
set_option maxRecDepth 100000 in
theorem p2_s136_s {X : Int → Int} {LX : Nat} : ck_Ok p2_O X LX 10 p2_s136 := ck_ok_s (O := p2_O) (X := X) (LX := LX) (E := []) (mi := 10) (cuts := []) (f := 114) (S := p2_s136) (lx := none) (XF := []) ⟨p2_nmu, ck_E0⟩ ck_X0 ck_l0 (by decide +kernel)
set_option maxRecDepth 100000 in
/-- GlacierMail$Ice.reckonSpeeds -/
noncomputable def p2_s137 : ck_Sum := ((1, 0, 0), 245, [.inr (.inr (.inl 200))], ([], [], []), ([(202, 0, 593)], []), [(.inr none, 245, ([], [], []))])
set_option maxRecDepth 100000 in
theorem p2_s137_s {X : Int → Int} {LX : Nat} : ck_Ok p2_O X LX 7 p2_s137 := ck_ok_s (O := p2_O) (X := X) (LX := LX) (E := [(8, [p2_s134]), (9, [p2_s135]), (10, [p2_s136])]) (mi := 7) (cuts := [(10, [some (.inr (.inr (.inl 200))), some (.inl (0, 9, [])), none, none, none, none], ([], [], []), 100, .inl 1, true), (43, [some (.inr (.inr (.inl 200))), some (.inl (0, 7, [(100, 0)])), some (.inl (0, 98, [])), some (.inl (0, 6, [])), none, none], ([], [], []), 300, .inl 3, true), (79, [some (.inr (.inr (.inl 200))), some (.inl (0, 7, [(100, 0)])), some (.inl (0, 98, [])), some (.inl (0, 5, [(300, 0)])), some (.inl ((-1), 98, [])), some (.inl (0, 99, []))], ([], [], []), 500, .inl 5, true)]) (f := 290) (S := p2_s137) (lx := none) (XF := []) ⟨p2_nmu, ck_E1 (ck_S1 p2_s134_s ck_S0) (ck_E1 (ck_S1 p2_s135_s ck_S0) (ck_E1 (ck_S1 p2_s136_s ck_S0) ck_E0))⟩ ck_X0 ck_l0 (by decide +kernel)
set_option maxRecDepth 100000 in
/-- java/util/Arrays.fill -/
noncomputable def p2_s138 : ck_Sum := ((0, 0, 0), 245, [.inr (.inr (.inl 203)), .inl (ck_one 0)], ([], [], []), ([(203, 0, 299)], []), [(.inr none, 245, ([], [], []))])
set_option maxRecDepth 100000 in
theorem p2_s138_s {X : Int → Int} {LX : Nat} : ck_Ok p2_O X LX 8 p2_s138 := ck_ok_s (O := p2_O) (X := X) (LX := LX) (E := []) (mi := 8) (cuts := [(5, [some (.inr (.inr (.inl 203))), some (.inl (ck_one 0)), some (.inl (0, 300, [])), some (.inl (ck_one 300))], ([], [], []), 100, .inl 2, true)]) (f := 130) (S := p2_s138) (lx := none) (XF := []) ⟨p2_nmu, ck_E0⟩ ck_X0 ck_l0 (by decide +kernel)
set_option maxRecDepth 100000 in
/-- GlacierMail$Rows.size -/
noncomputable def p2_s139 : ck_Sum := ((0, 0, 0), 245, [.inr (.inr (.inl 6))], ([], [], []), ([], []), [(.inr (some (.inl (0, 8, []))), 245, ([], [], []))])
set_option maxRecDepth 100000 in
theorem p2_s139_s {X : Int → Int} {LX : Nat} : ck_Ok p2_O X LX 9 p2_s139 := ck_ok_s (O := p2_O) (X := X) (LX := LX) (E := []) (mi := 9) (cuts := []) (f := 76) (S := p2_s139) (lx := none) (XF := []) ⟨p2_nmu, ck_E0⟩ ck_X0 ck_l0 (by decide +kernel)
set_option maxRecDepth 100000 in
/-- GlacierMail$Rows.get -/
noncomputable def p2_s140 : ck_Sum := ((0, 0, 0), 245, [.inr (.inr (.inl 6)), .inl ((-2147483648), 2147483647, []), .inl ((-2147483648), 2147483647, [])], ([], [], []), ([], []), [(.inr (some (.inl (ck_one (-1)))), 245, ([], [], [])), (.inr (some (.inl (0, 299, []))), 245, ([], [], [(6, 3, 3, (1, 8, []))]))])
set_option maxRecDepth 100000 in
theorem p2_s140_s {X : Int → Int} {LX : Nat} : ck_Ok p2_O X LX 10 p2_s140 := ck_ok_s (O := p2_O) (X := X) (LX := LX) (E := []) (mi := 10) (cuts := []) (f := 114) (S := p2_s140) (lx := none) (XF := []) ⟨p2_nmu, ck_E0⟩ ck_X0 ck_l0 (by decide +kernel)
set_option maxRecDepth 100000 in
/-- GlacierMail$Ice.reckonFloods -/
noncomputable def p2_s141 : ck_Sum := ((1, 0, 0), 245, [.inr (.inr (.inl 200))], ([], [], []), ([(203, 0, 299)], []), [(.inr none, 245, ([], [], []))])
set_option maxRecDepth 100000 in
theorem p2_s141_s {X : Int → Int} {LX : Nat} : ck_Ok p2_O X LX 12 p2_s141 := ck_ok_s (O := p2_O) (X := X) (LX := LX) (E := [(8, [p2_s138]), (9, [p2_s139]), (10, [p2_s140])]) (mi := 12) (cuts := [(10, [some (.inr (.inr (.inl 200))), some (.inl (0, 9, [])), none], ([], [], []), 100, .inl 1, true)]) (f := 214) (S := p2_s141) (lx := none) (XF := []) ⟨p2_nmu, ck_E1 (ck_S1 p2_s138_s ck_S0) (ck_E1 (ck_S1 p2_s139_s ck_S0) (ck_E1 (ck_S1 p2_s140_s ck_S0) ck_E0))⟩ ck_X0 ck_l0 (by decide +kernel)
set_option maxRecDepth 100000 in
/-- GlacierMail$Ice.renew -/
noncomputable def p2_s142 : ck_Sum := ((2, 0, 0), 245, [.inr (.inr (.inl 200))], ([], [], []), (zl41, []), [(.inr none, 245, ([], [], [(200, 6, 6, ck_one 1)]))])
set_option maxRecDepth 100000 in
theorem p2_s142_s {X : Int → Int} {LX : Nat} : ck_Ok p2_O X LX 5 p2_s142 := ck_ok_s (O := p2_O) (X := X) (LX := LX) (E := [(6, [p2_s133]), (7, [p2_s137]), (12, [p2_s141])]) (mi := 5) (cuts := []) (f := 90) (S := p2_s142) (lx := none) (XF := []) ⟨p2_nmu, ck_E1 (ck_S1 p2_s133_s ck_S0) (ck_E1 (ck_S1 p2_s137_s ck_S0) (ck_E1 (ck_S1 p2_s141_s ck_S0) ck_E0))⟩ ck_X0 ck_l0 (by decide +kernel)
set_option maxRecDepth 100000 in
/-- GlacierMail$History.forget -/
noncomputable def p2_s143 : ck_Sum := ((0, 0, 0), 245, [.inr (.inr (.inl 42))], ([], [], []), ([(42, 2, 2)], []), [(.inr none, 245, ([], [], [(42, 2, 2, ck_one 0)]))])
set_option maxRecDepth 100000 in
theorem p2_s143_s {X : Int → Int} {LX : Nat} : ck_Ok p2_O X LX 62 p2_s143 := ck_ok_s (O := p2_O) (X := X) (LX := LX) (E := []) (mi := 62) (cuts := []) (f := 78) (S := p2_s143) (lx := none) (XF := []) ⟨p2_nmu, ck_E0⟩ ck_X0 ck_l0 (by decide +kernel)
set_option maxRecDepth 100000 in
/-- GlacierMail.forgetWays -/
noncomputable def p2_s144 : ck_Sum := ((3, 0, 0), 245, [.inr (.inr (.inl 1))], ([], [], []), (zl42, []), [(.inr none, 245, ([], [], zl43))])
set_option maxRecDepth 100000 in
theorem p2_s144_s {X : Int → Int} {LX : Nat} : ck_Ok p2_O X LX 61 p2_s144 := ck_ok_s (O := p2_O) (X := X) (LX := LX) (E := [(5, [p2_s142]), (62, [p2_s143])]) (mi := 61) (cuts := []) (f := 90) (S := p2_s144) (lx := none) (XF := []) ⟨p2_nmu, ck_E1 (ck_S1 p2_s142_s ck_S0) (ck_E1 (ck_S1 p2_s143_s ck_S0) ck_E0)⟩ ck_X0 ck_l0 (by decide +kernel)
set_option maxRecDepth 100000 in
/-- GlacierMail.valley -/
noncomputable def p2_s145 : ck_Sum := ((12, 1, 6), 245, [.inr (.inr (.inl 1))], ([], [(3, 8, 0), (16, 8, 100016)], zl44), (zl45, [(3, 8), (16, 8)]), [(.inr (some (.inl ((-2147483648), (-1), []))), 245, ([], [(3, 8, 0), (16, 8, 0)], zl46)), (.inr (some (.inl (0, 2147483647, []))), 245, ([], [(3, 8, 0), (16, 8, 0)], zl47)), (.inl 1, 245, ([], [(3, 8, 0), (16, 8, 0)], zl48)), (.inl 0, 245, ([], [(3, 8, 0), (16, 8, 0)], zl49))])
set_option maxRecDepth 100000 in
theorem p2_s145_s {X : Int → Int} {LX : Nat} : ck_Ok p2_O X LX 71 p2_s145 := ck_ok_s (O := p2_O) (X := X) (LX := LX) (E := [(57, [p2_s15, p2_s22]), (72, [p2_s132]), (61, [p2_s144])]) (mi := 71) (cuts := []) (f := 154) (S := p2_s145) (lx := none) (XF := []) ⟨p2_nmu, ck_E1 (ck_S1 p2_s15_s (ck_S1 p2_s22_s ck_S0)) (ck_E1 (ck_S1 p2_s132_s ck_S0) (ck_E1 (ck_S1 p2_s144_s ck_S0) ck_E0))⟩ ck_X0 ck_l0 (by decide +kernel)
set_option maxRecDepth 100000 in
/-- GlacierMailModel.uses -/
noncomputable def p2_s146 : ck_Sum := ((0, 0, 0), 245, [.inr (.inr (.inl 226))], ([], [], [(226, 8, 8, (0, 400, [(7, 0)]))]), ([(226, 0, 0), (226, 8, 10)], []), [(.inr none, 245, ([], [], [(226, 9, 9, ck_one 0), (226, 8, 8, ck_one 0), (226, 10, 10, (0, 400, [(7, 0)])), (226, 0, 0, ck_one 0)]))])
set_option maxRecDepth 100000 in
theorem p2_s146_s {X : Int → Int} {LX : Nat} : ck_Ok p2_O X LX 244 p2_s146 := ck_ok_s (O := p2_O) (X := X) (LX := LX) (E := []) (mi := 244) (cuts := []) (f := 98) (S := p2_s146) (lx := none) (XF := []) ⟨p2_nmu, ck_E0⟩ ck_X0 ck_l0 (by decide +kernel)
set_option maxRecDepth 100000 in
/-- GlacierMailModel.isAt -/
noncomputable def p2_s147 : ck_Sum := ((0, 0, 0), 245, [.inr (.inr (.inl 226)), .inl (ck_one 32), .inl (ck_one 32)], ([], [], [(226, 9, 9, (0, 400, [(1, 0)]))]), ([], []), zl50)
set_option maxRecDepth 100000 in
theorem p2_s147_s {X : Int → Int} {LX : Nat} : ck_Ok p2_O X LX 246 p2_s147 := ck_ok_s (O := p2_O) (X := X) (LX := LX) (E := []) (mi := 246) (cuts := []) (f := 114) (S := p2_s147) (lx := none) (XF := []) ⟨p2_nmu, ck_E0⟩ ck_X0 ck_l0 (by decide +kernel)
set_option maxRecDepth 100000 in
/-- GlacierMailModel.blanks -/
noncomputable def p2_s148 : ck_Sum := ((1, 0, 0), 245, [.inr (.inr (.inl 226))], ([], [], [(226, 9, 9, (0, 400, [(1, 0)]))]), ([(226, 9, 9), (226, 11, 11)], []), [(.inr none, 245, ([], [], [(226, 11, 11, (0, 400, [(1000001, 0)])), (226, 9, 9, (0, 400, [(1000001, 0)]))]))])
set_option maxRecDepth 100000 in
theorem p2_s148_s {X : Int → Int} {LX : Nat} : ck_Ok p2_O X LX 245 p2_s148 := ck_ok_s (O := p2_O) (X := X) (LX := LX) (E := [(246, [p2_s147])]) (mi := 245) (cuts := [(0, [some (.inr (.inr (.inl 226)))], ([], [], [(226, 9, 9, (0, 400, [(1000001, 0)]))]), 100, .inr (226, 9), true)]) (f := 142) (S := p2_s148) (lx := none) (XF := []) ⟨p2_nmu, ck_E1 (ck_S1 p2_s147_s ck_S0) ck_E0⟩ ck_X0 ck_l0 (by decide +kernel)
set_option maxRecDepth 100000 in
/-- GlacierMailModel.isAt -/
noncomputable def p2_s149 : ck_Sum := ((0, 0, 0), 245, [.inr (.inr (.inl 226)), .inl (ck_one 97), .inl (ck_one 122)], ([], [], [(226, 9, 9, (0, 400, [(1, 0)]))]), ([], []), zl50)
set_option maxRecDepth 100000 in
theorem p2_s149_s {X : Int → Int} {LX : Nat} : ck_Ok p2_O X LX 246 p2_s149 := ck_ok_s (O := p2_O) (X := X) (LX := LX) (E := []) (mi := 246) (cuts := []) (f := 114) (S := p2_s149) (lx := none) (XF := []) ⟨p2_nmu, ck_E0⟩ ck_X0 ck_l0 (by decide +kernel)
set_option maxRecDepth 100000 in
/-- GlacierMailModel.letterRow -/
noncomputable def p2_s150 : ck_Sum := ((2, 0, 0), 245, [.inr (.inr (.inl 226))], ([], [], [(226, 9, 9, (0, 400, [(1, 0)]))]), ([(226, 9, 9), (226, 11, 11)], []), [(.inr none, 245, ([], [], zl51))])
set_option maxRecDepth 100000 in
theorem p2_s150_s {X : Int → Int} {LX : Nat} : ck_Ok p2_O X LX 248 p2_s150 := ck_ok_s (O := p2_O) (X := X) (LX := LX) (E := [(245, [p2_s148]), (246, [p2_s149])]) (mi := 248) (cuts := [(4, [some (.inr (.inr (.inl 226)))], ([], [], [(226, 11, 11, (0, 400, [(1000001, 0)])), (226, 9, 9, (0, 400, [(1000001, 0)]))]), 100, .inr (226, 9), true)]) (f := 142) (S := p2_s150) (lx := none) (XF := []) ⟨p2_nmu, ck_E1 (ck_S1 p2_s148_s ck_S0) (ck_E1 (ck_S1 p2_s149_s ck_S0) ck_E0)⟩ ck_X0 ck_l0 (by decide +kernel)
set_option maxRecDepth 100000 in
/-- GlacierMailModel.isWord -/
noncomputable def p2_s151 : ck_Sum := ((6, 0, 0), 245, [.inr (.inr (.inl 226)), .inr (.inr (.inr 47))], ([], [], [(226, 9, 9, (0, 400, [(1, 0)]))]), ([], []), zl52)
set_option maxRecDepth 100000 in
theorem p2_s151_s {X : Int → Int} {LX : Nat} : ck_Ok p2_O X LX 250 p2_s151 := ck_ok_s (O := p2_O) (X := X) (LX := LX) (E := []) (mi := 250) (cuts := []) (f := 332) (S := p2_s151) (lx := none) (XF := []) ⟨p2_nmu, ck_E0⟩ ck_X0 ck_l0 (by decide +kernel)
set_option maxRecDepth 100000 in
/-- GlacierMailModel.isWord -/
noncomputable def p2_s152 : ck_Sum := ((6, 0, 0), 245, [.inr (.inr (.inl 226)), .inr (.inr (.inr 48))], ([], [], [(226, 9, 9, (0, 400, [(1, 0)]))]), ([], []), zl53)
set_option maxRecDepth 100000 in
theorem p2_s152_s {X : Int → Int} {LX : Nat} : ck_Ok p2_O X LX 250 p2_s152 := ck_ok_s (O := p2_O) (X := X) (LX := LX) (E := []) (mi := 250) (cuts := []) (f := 288) (S := p2_s152) (lx := none) (XF := []) ⟨p2_nmu, ck_E0⟩ ck_X0 ck_l0 (by decide +kernel)
set_option maxRecDepth 100000 in
/-- GlacierMailModel.isWord -/
noncomputable def p2_s153 : ck_Sum := ((6, 0, 0), 245, [.inr (.inr (.inl 226)), .inr (.inr (.inr 49))], ([], [], [(226, 9, 9, (0, 400, [(1, 0)]))]), ([], []), [(.inr (some (.inl (ck_one 0))), 245, ([], [], [])), (.inr (some (.inl (ck_one 1))), 245, ([], [], [(226, 9, 9, (7, 400, [(1, 0)])), (226, 11, 11, (0, 393, []))]))])
set_option maxRecDepth 100000 in
theorem p2_s153_s {X : Int → Int} {LX : Nat} : ck_Ok p2_O X LX 250 p2_s153 := ck_ok_s (O := p2_O) (X := X) (LX := LX) (E := []) (mi := 250) (cuts := []) (f := 420) (S := p2_s153) (lx := none) (XF := []) ⟨p2_nmu, ck_E0⟩ ck_X0 ck_l0 (by decide +kernel)
set_option maxRecDepth 100000 in
/-- GlacierMailModel.isWord -/
noncomputable def p2_s154 : ck_Sum := ((6, 0, 0), 245, [.inr (.inr (.inl 226)), .inr (.inr (.inr 50))], ([], [], [(226, 9, 9, (0, 400, [(1, 0)]))]), ([], []), zl53)
set_option maxRecDepth 100000 in
theorem p2_s154_s {X : Int → Int} {LX : Nat} : ck_Ok p2_O X LX 250 p2_s154 := ck_ok_s (O := p2_O) (X := X) (LX := LX) (E := []) (mi := 250) (cuts := []) (f := 288) (S := p2_s154) (lx := none) (XF := []) ⟨p2_nmu, ck_E0⟩ ck_X0 ck_l0 (by decide +kernel)
set_option maxRecDepth 100000 in
/-- GlacierMailModel.isWord -/
noncomputable def p2_s155 : ck_Sum := ((6, 0, 0), 245, [.inr (.inr (.inl 226)), .inr (.inr (.inr 52))], ([], [], [(226, 9, 9, (0, 400, [(1, 0)]))]), ([], []), zl52)
set_option maxRecDepth 100000 in
theorem p2_s155_s {X : Int → Int} {LX : Nat} : ck_Ok p2_O X LX 250 p2_s155 := ck_ok_s (O := p2_O) (X := X) (LX := LX) (E := []) (mi := 250) (cuts := []) (f := 332) (S := p2_s155) (lx := none) (XF := []) ⟨p2_nmu, ck_E0⟩ ck_X0 ck_l0 (by decide +kernel)
set_option maxRecDepth 100000 in
/-- GlacierMailModel.isWord -/
noncomputable def p2_s156 : ck_Sum := ((6, 0, 0), 245, [.inr (.inr (.inl 226)), .inr (.inr (.inr 53))], ([], [], [(226, 9, 9, (0, 400, [(1, 0)]))]), ([], []), zl54)
set_option maxRecDepth 100000 in
theorem p2_s156_s {X : Int → Int} {LX : Nat} : ck_Ok p2_O X LX 250 p2_s156 := ck_ok_s (O := p2_O) (X := X) (LX := LX) (E := []) (mi := 250) (cuts := []) (f := 376) (S := p2_s156) (lx := none) (XF := []) ⟨p2_nmu, ck_E0⟩ ck_X0 ck_l0 (by decide +kernel)
set_option maxRecDepth 100000 in
/-- GlacierMailModel.isWord -/
noncomputable def p2_s157 : ck_Sum := ((6, 0, 0), 245, [.inr (.inr (.inl 226)), .inr (.inr (.inr 55))], ([], [], [(226, 9, 9, (0, 400, [(1, 0)]))]), ([], []), zl53)
set_option maxRecDepth 100000 in
theorem p2_s157_s {X : Int → Int} {LX : Nat} : ck_Ok p2_O X LX 250 p2_s157 := ck_ok_s (O := p2_O) (X := X) (LX := LX) (E := []) (mi := 250) (cuts := []) (f := 288) (S := p2_s157) (lx := none) (XF := []) ⟨p2_nmu, ck_E0⟩ ck_X0 ck_l0 (by decide +kernel)
set_option maxRecDepth 100000 in
/-- GlacierMailModel.isWord -/
noncomputable def p2_s158 : ck_Sum := ((6, 0, 0), 245, [.inr (.inr (.inl 226)), .inr (.inr (.inr 56))], ([], [], [(226, 9, 9, (0, 400, [(1, 0)]))]), ([], []), zl52)
set_option maxRecDepth 100000 in
theorem p2_s158_s {X : Int → Int} {LX : Nat} : ck_Ok p2_O X LX 250 p2_s158 := ck_ok_s (O := p2_O) (X := X) (LX := LX) (E := []) (mi := 250) (cuts := []) (f := 332) (S := p2_s158) (lx := none) (XF := []) ⟨p2_nmu, ck_E0⟩ ck_X0 ck_l0 (by decide +kernel)
set_option maxRecDepth 100000 in
/-- GlacierMailModel.isWord -/
noncomputable def p2_s159 : ck_Sum := ((6, 0, 0), 245, [.inr (.inr (.inl 226)), .inr (.inr (.inr 57))], ([], [], [(226, 9, 9, (0, 400, [(1, 0)]))]), ([], []), zl54)
set_option maxRecDepth 100000 in
theorem p2_s159_s {X : Int → Int} {LX : Nat} : ck_Ok p2_O X LX 250 p2_s159 := ck_ok_s (O := p2_O) (X := X) (LX := LX) (E := []) (mi := 250) (cuts := []) (f := 376) (S := p2_s159) (lx := none) (XF := []) ⟨p2_nmu, ck_E0⟩ ck_X0 ck_l0 (by decide +kernel)
set_option maxRecDepth 100000 in
/-- GlacierMailModel.isWord -/
noncomputable def p2_s160 : ck_Sum := ((6, 0, 0), 245, [.inr (.inr (.inl 226)), .inr (.inr (.inr 58))], ([], [], [(226, 9, 9, (0, 400, [(1, 0)]))]), ([], []), zl53)
set_option maxRecDepth 100000 in
theorem p2_s160_s {X : Int → Int} {LX : Nat} : ck_Ok p2_O X LX 250 p2_s160 := ck_ok_s (O := p2_O) (X := X) (LX := LX) (E := []) (mi := 250) (cuts := []) (f := 288) (S := p2_s160) (lx := none) (XF := []) ⟨p2_nmu, ck_E0⟩ ck_X0 ck_l0 (by decide +kernel)
set_option maxRecDepth 100000 in
/-- GlacierMailModel.isAt -/
noncomputable def p2_s161 : ck_Sum := ((0, 0, 0), 245, [.inr (.inr (.inl 226)), .inl (ck_one 48), .inl (ck_one 57)], ([], [], [(226, 9, 9, (0, 400, [(1, 0)]))]), ([], []), zl50)
set_option maxRecDepth 100000 in
theorem p2_s161_s {X : Int → Int} {LX : Nat} : ck_Ok p2_O X LX 246 p2_s161 := ck_ok_s (O := p2_O) (X := X) (LX := LX) (E := []) (mi := 246) (cuts := []) (f := 114) (S := p2_s161) (lx := none) (XF := []) ⟨p2_nmu, ck_E0⟩ ck_X0 ck_l0 (by decide +kernel)
set_option maxRecDepth 100000 in
/-- GlacierMailModel.figures -/
noncomputable def p2_s162 : ck_Sum := ((2, 0, 0), 245, [.inr (.inr (.inl 226)), .inl (ck_one 0), .inl (ck_one 9999), .inl (ck_one 4)], ([], [], [(226, 9, 9, (0, 400, [(1, 0)]))]), ([(226, 9, 9), (226, 11, 11)], []), zl55)
set_option maxRecDepth 100000 in
theorem p2_s162_s {X : Int → Int} {LX : Nat} : ck_Ok p2_O X LX 256 p2_s162 := ck_ok_s (O := p2_O) (X := X) (LX := LX) (E := [(245, [p2_s148]), (246, [p2_s161])]) (mi := 256) (cuts := [(7, [some (.inr (.inr (.inl 226))), some (.inl (ck_one 0)), some (.inl (ck_one 9999)), some (.inl (ck_one 4)), some (.inl ((-2147483648), 2147483647, []))], ([], [], [(226, 11, 11, (0, 400, [(1000001, 0)])), (226, 9, 9, (0, 400, [(1000001, 0)]))]), 100, .inr (226, 9), true)]) (f := 222) (S := p2_s162) (lx := none) (XF := []) ⟨p2_nmu, ck_E1 (ck_S1 p2_s148_s ck_S0) (ck_E1 (ck_S1 p2_s161_s ck_S0) ck_E0)⟩ ck_X0 ck_l0 (by decide +kernel)
set_option maxRecDepth 100000 in
/-- GlacierMailModel.number -/
noncomputable def p2_s163 : ck_Sum := ((3, 0, 0), 245, [.inr (.inr (.inl 226)), .inl (ck_one 0), .inl (ck_one 9999)], ([], [], [(226, 9, 9, (0, 400, [(1, 0)]))]), ([(226, 9, 9), (226, 11, 11)], []), zl55)
set_option maxRecDepth 100000 in
theorem p2_s163_s {X : Int → Int} {LX : Nat} : ck_Ok p2_O X LX 255 p2_s163 := ck_ok_s (O := p2_O) (X := X) (LX := LX) (E := [(256, [p2_s162])]) (mi := 255) (cuts := []) (f := 82) (S := p2_s163) (lx := none) (XF := []) ⟨p2_nmu, ck_E1 (ck_S1 p2_s162_s ck_S0) ck_E0⟩ ck_X0 ck_l0 (by decide +kernel)
set_option maxRecDepth 100000 in
/-- GlacierMailModel.figures -/
noncomputable def p2_s164 : ck_Sum := ((2, 0, 0), 245, [.inr (.inr (.inl 226)), .inl (ck_one 0), .inl (0, 6, []), .inl (ck_one 4)], ([], [], [(226, 9, 9, (0, 400, [(1, 0)]))]), ([(226, 9, 9), (226, 11, 11)], []), zl56)
set_option maxRecDepth 100000 in
theorem p2_s164_s {X : Int → Int} {LX : Nat} : ck_Ok p2_O X LX 256 p2_s164 := ck_ok_s (O := p2_O) (X := X) (LX := LX) (E := [(245, [p2_s148]), (246, [p2_s161])]) (mi := 256) (cuts := [(7, [some (.inr (.inr (.inl 226))), some (.inl (ck_one 0)), some (.inl (0, 6, [])), some (.inl (ck_one 4)), some (.inl ((-2147483648), 2147483647, []))], ([], [], [(226, 11, 11, (0, 400, [(1000001, 0)])), (226, 9, 9, (0, 400, [(1000001, 0)]))]), 100, .inr (226, 9), true)]) (f := 222) (S := p2_s164) (lx := none) (XF := []) ⟨p2_nmu, ck_E1 (ck_S1 p2_s148_s ck_S0) (ck_E1 (ck_S1 p2_s161_s ck_S0) ck_E0)⟩ ck_X0 ck_l0 (by decide +kernel)
set_option maxRecDepth 100000 in
/-- GlacierMailModel.number -/
noncomputable def p2_s165 : ck_Sum := ((3, 0, 0), 245, [.inr (.inr (.inl 226)), .inl (ck_one 0), .inl (0, 6, [])], ([], [], [(226, 9, 9, (0, 400, [(1, 0)]))]), ([(226, 9, 9), (226, 11, 11)], []), zl56)
set_option maxRecDepth 100000 in
theorem p2_s165_s {X : Int → Int} {LX : Nat} : ck_Ok p2_O X LX 255 p2_s165 := ck_ok_s (O := p2_O) (X := X) (LX := LX) (E := [(256, [p2_s164])]) (mi := 255) (cuts := []) (f := 82) (S := p2_s165) (lx := none) (XF := []) ⟨p2_nmu, ck_E1 (ck_S1 p2_s164_s ck_S0) ck_E0⟩ ck_X0 ck_l0 (by decide +kernel)
set_option maxRecDepth 100000 in
/-- GlacierMailModel.lanes -/
noncomputable def p2_s166 : ck_Sum := ((0, 0, 0), 245, [.inr (.inr (.inl 226))], ([], [], []), ([], []), [(.inr (some (.inl (0, 6, []))), 245, ([], [], []))])
set_option maxRecDepth 100000 in
theorem p2_s166_s {X : Int → Int} {LX : Nat} : ck_Ok p2_O X LX 261 p2_s166 := ck_ok_s (O := p2_O) (X := X) (LX := LX) (E := []) (mi := 261) (cuts := []) (f := 80) (S := p2_s166) (lx := none) (XF := []) ⟨p2_nmu, ck_E0⟩ ck_X0 ck_l0 (by decide +kernel)
set_option maxRecDepth 100000 in
/-- GlacierMailModel.figures -/
noncomputable def p2_s167 : ck_Sum := ((2, 0, 0), 245, [.inr (.inr (.inl 226)), .inl (ck_one 0), .inl (ck_one 20), .inl (ck_one 4)], ([], [], [(226, 9, 9, (0, 400, [(1, 0)]))]), ([(226, 9, 9), (226, 11, 11)], []), zl57)
set_option maxRecDepth 100000 in
theorem p2_s167_s {X : Int → Int} {LX : Nat} : ck_Ok p2_O X LX 256 p2_s167 := ck_ok_s (O := p2_O) (X := X) (LX := LX) (E := [(245, [p2_s148]), (246, [p2_s161])]) (mi := 256) (cuts := [(7, [some (.inr (.inr (.inl 226))), some (.inl (ck_one 0)), some (.inl (ck_one 20)), some (.inl (ck_one 4)), some (.inl ((-2147483648), 2147483647, []))], ([], [], [(226, 11, 11, (0, 400, [(1000001, 0)])), (226, 9, 9, (0, 400, [(1000001, 0)]))]), 100, .inr (226, 9), true)]) (f := 222) (S := p2_s167) (lx := none) (XF := []) ⟨p2_nmu, ck_E1 (ck_S1 p2_s148_s ck_S0) (ck_E1 (ck_S1 p2_s161_s ck_S0) ck_E0)⟩ ck_X0 ck_l0 (by decide +kernel)
set_option maxRecDepth 100000 in
/-- GlacierMailModel.number -/
noncomputable def p2_s168 : ck_Sum := ((3, 0, 0), 245, [.inr (.inr (.inl 226)), .inl (ck_one 0), .inl (ck_one 20)], ([], [], [(226, 9, 9, (0, 400, [(1, 0)]))]), ([(226, 9, 9), (226, 11, 11)], []), zl57)
set_option maxRecDepth 100000 in
theorem p2_s168_s {X : Int → Int} {LX : Nat} : ck_Ok p2_O X LX 255 p2_s168 := ck_ok_s (O := p2_O) (X := X) (LX := LX) (E := [(256, [p2_s167])]) (mi := 255) (cuts := []) (f := 82) (S := p2_s168) (lx := none) (XF := []) ⟨p2_nmu, ck_E1 (ck_S1 p2_s167_s ck_S0) ck_E0⟩ ck_X0 ck_l0 (by decide +kernel)
set_option maxRecDepth 100000 in
/-- GlacierMailModel.readSpeeds -/
noncomputable def p2_s169 : ck_Sum := ((4, 0, 0), 245, [.inr (.inr (.inl 226)), .inl (ck_one 287)], ([], [], [(226, 9, 9, (0, 400, [(1, 0)]))]), ([(226, 9, 9), (226, 11, 11), (227, 287, 292)], []), zl58)
set_option maxRecDepth 100000 in
theorem p2_s169_s {X : Int → Int} {LX : Nat} : ck_Ok p2_O X LX 260 p2_s169 := ck_ok_s (O := p2_O) (X := X) (LX := LX) (E := [(261, [p2_s166]), (255, [p2_s168])]) (mi := 260) (cuts := [(2, [some (.inr (.inr (.inl 226))), some (.inl (ck_one 287)), some (.inl (0, 6, [])), none], ([], [], [(226, 9, 9, (0, 400, [(1000001, 0)]))]), 100, .inl 2, true)]) (f := 174) (S := p2_s169) (lx := none) (XF := []) ⟨p2_nmu, ck_E1 (ck_S1 p2_s166_s ck_S0) (ck_E1 (ck_S1 p2_s168_s ck_S0) ck_E0)⟩ ck_X0 ck_l0 (by decide +kernel)
set_option maxRecDepth 100000 in
/-- GlacierMailModel.readSpeeds -/
noncomputable def p2_s170 : ck_Sum := ((4, 0, 0), 245, [.inr (.inr (.inl 226)), .inl (ck_one 317)], ([], [], [(226, 9, 9, (0, 400, [(1, 0)]))]), ([(226, 9, 9), (226, 11, 11), (227, 317, 322)], []), zl58)
set_option maxRecDepth 100000 in
theorem p2_s170_s {X : Int → Int} {LX : Nat} : ck_Ok p2_O X LX 260 p2_s170 := ck_ok_s (O := p2_O) (X := X) (LX := LX) (E := [(261, [p2_s166]), (255, [p2_s168])]) (mi := 260) (cuts := [(2, [some (.inr (.inr (.inl 226))), some (.inl (ck_one 317)), some (.inl (0, 6, [])), none], ([], [], [(226, 9, 9, (0, 400, [(1000001, 0)]))]), 100, .inl 2, true)]) (f := 174) (S := p2_s170) (lx := none) (XF := []) ⟨p2_nmu, ck_E1 (ck_S1 p2_s166_s ck_S0) (ck_E1 (ck_S1 p2_s168_s ck_S0) ck_E0)⟩ ck_X0 ck_l0 (by decide +kernel)
set_option maxRecDepth 100000 in
/-- GlacierMailModel.readSpeeds -/
noncomputable def p2_s171 : ck_Sum := ((4, 0, 0), 245, [.inr (.inr (.inl 226)), .inl (ck_one 311)], ([], [], [(226, 9, 9, (0, 400, [(1, 0)]))]), ([(226, 9, 9), (226, 11, 11), (227, 311, 316)], []), zl58)
set_option maxRecDepth 100000 in
theorem p2_s171_s {X : Int → Int} {LX : Nat} : ck_Ok p2_O X LX 260 p2_s171 := ck_ok_s (O := p2_O) (X := X) (LX := LX) (E := [(261, [p2_s166]), (255, [p2_s168])]) (mi := 260) (cuts := [(2, [some (.inr (.inr (.inl 226))), some (.inl (ck_one 311)), some (.inl (0, 6, [])), none], ([], [], [(226, 9, 9, (0, 400, [(1000001, 0)]))]), 100, .inl 2, true)]) (f := 174) (S := p2_s171) (lx := none) (XF := []) ⟨p2_nmu, ck_E1 (ck_S1 p2_s166_s ck_S0) (ck_E1 (ck_S1 p2_s168_s ck_S0) ck_E0)⟩ ck_X0 ck_l0 (by decide +kernel)
set_option maxRecDepth 100000 in
/-- GlacierMailModel.readSpeeds -/
noncomputable def p2_s172 : ck_Sum := ((4, 0, 0), 245, [.inr (.inr (.inl 226)), .inl (ck_one 305)], ([], [], [(226, 9, 9, (0, 400, [(1, 0)]))]), ([(226, 9, 9), (226, 11, 11), (227, 305, 310)], []), zl58)
set_option maxRecDepth 100000 in
theorem p2_s172_s {X : Int → Int} {LX : Nat} : ck_Ok p2_O X LX 260 p2_s172 := ck_ok_s (O := p2_O) (X := X) (LX := LX) (E := [(261, [p2_s166]), (255, [p2_s168])]) (mi := 260) (cuts := [(2, [some (.inr (.inr (.inl 226))), some (.inl (ck_one 305)), some (.inl (0, 6, [])), none], ([], [], [(226, 9, 9, (0, 400, [(1000001, 0)]))]), 100, .inl 2, true)]) (f := 174) (S := p2_s172) (lx := none) (XF := []) ⟨p2_nmu, ck_E1 (ck_S1 p2_s166_s ck_S0) (ck_E1 (ck_S1 p2_s168_s ck_S0) ck_E0)⟩ ck_X0 ck_l0 (by decide +kernel)
set_option maxRecDepth 100000 in
/-- GlacierMailModel.readSpeeds -/
noncomputable def p2_s173 : ck_Sum := ((4, 0, 0), 245, [.inr (.inr (.inl 226)), .inl (ck_one 299)], ([], [], [(226, 9, 9, (0, 400, [(1, 0)]))]), ([(226, 9, 9), (226, 11, 11), (227, 299, 304)], []), zl58)
set_option maxRecDepth 100000 in
theorem p2_s173_s {X : Int → Int} {LX : Nat} : ck_Ok p2_O X LX 260 p2_s173 := ck_ok_s (O := p2_O) (X := X) (LX := LX) (E := [(261, [p2_s166]), (255, [p2_s168])]) (mi := 260) (cuts := [(2, [some (.inr (.inr (.inl 226))), some (.inl (ck_one 299)), some (.inl (0, 6, [])), none], ([], [], [(226, 9, 9, (0, 400, [(1000001, 0)]))]), 100, .inl 2, true)]) (f := 174) (S := p2_s173) (lx := none) (XF := []) ⟨p2_nmu, ck_E1 (ck_S1 p2_s166_s ck_S0) (ck_E1 (ck_S1 p2_s168_s ck_S0) ck_E0)⟩ ck_X0 ck_l0 (by decide +kernel)
set_option maxRecDepth 100000 in
/-- GlacierMailModel.readSpeeds -/
noncomputable def p2_s174 : ck_Sum := ((4, 0, 0), 245, [.inr (.inr (.inl 226)), .inl (ck_one 293)], ([], [], [(226, 9, 9, (0, 400, [(1, 0)]))]), ([(226, 9, 9), (226, 11, 11), (227, 293, 298)], []), zl58)
set_option maxRecDepth 100000 in
theorem p2_s174_s {X : Int → Int} {LX : Nat} : ck_Ok p2_O X LX 260 p2_s174 := ck_ok_s (O := p2_O) (X := X) (LX := LX) (E := [(261, [p2_s166]), (255, [p2_s168])]) (mi := 260) (cuts := [(2, [some (.inr (.inr (.inl 226))), some (.inl (ck_one 293)), some (.inl (0, 6, [])), none], ([], [], [(226, 9, 9, (0, 400, [(1000001, 0)]))]), 100, .inl 2, true)]) (f := 174) (S := p2_s174) (lx := none) (XF := []) ⟨p2_nmu, ck_E1 (ck_S1 p2_s166_s ck_S0) (ck_E1 (ck_S1 p2_s168_s ck_S0) ck_E0)⟩ ck_X0 ck_l0 (by decide +kernel)
set_option maxRecDepth 100000 in
/-- GlacierMailModel.readTable -/
noncomputable def p2_s175 : ck_Sum := ((5, 0, 0), 245, [.inr (.inr (.inl 226))], ([], [], [(227, 6, 6, (0, 6, [(24, 0)])), (226, 9, 9, (0, 400, [(1, 0)]))]), ([(226, 9, 9), (226, 11, 11), (227, 6, 6), (227, 287, 322)], []), [(.inr (some (.inl (ck_one 0))), 245, ([], [], [(227, 6, 6, (0, 6, [(24, 0)])), (226, 9, 9, (0, 400, [(1000001, 0)]))])), (.inr (some (.inl (ck_one 1))), 245, ([], [], [(227, 6, 6, (1, 6, [])), (226, 9, 9, (0, 400, [(1000001, 0)]))]))])
set_option maxRecDepth 100000 in
theorem p2_s175_s {X : Int → Int} {LX : Nat} : ck_Ok p2_O X LX 273 p2_s175 := ck_ok_s (O := p2_O) (X := X) (LX := LX) (E := [(260, [p2_s169, p2_s170, p2_s171, p2_s172, p2_s173, p2_s174])]) (mi := 273) (cuts := []) (f := 122) (S := p2_s175) (lx := none) (XF := []) ⟨p2_nmu, ck_E1 (ck_S1 p2_s169_s (ck_S1 p2_s170_s (ck_S1 p2_s171_s (ck_S1 p2_s172_s (ck_S1 p2_s173_s (ck_S1 p2_s174_s ck_S0)))))) ck_E0⟩ ck_X0 ck_l0 (by decide +kernel)
set_option maxRecDepth 100000 in
/-- GlacierMailModel.letters -/
noncomputable def p2_s176 : ck_Sum := ((0, 0, 0), 245, [.inr (.inr (.inl 226))], ([], [], [(227, 4, 4, (0, 24, [(22, 0)]))]), ([], []), [(.inr (some (.inl (0, 24, [(22, 0)]))), 245, ([], [], []))])
set_option maxRecDepth 100000 in
theorem p2_s176_s {X : Int → Int} {LX : Nat} : ck_Ok p2_O X LX 254 p2_s176 := ck_ok_s (O := p2_O) (X := X) (LX := LX) (E := []) (mi := 254) (cuts := []) (f := 80) (S := p2_s176) (lx := none) (XF := []) ⟨p2_nmu, ck_E0⟩ ck_X0 ck_l0 (by decide +kernel)
set_option maxRecDepth 100000 in
/-- GlacierMailModel.figures -/
noncomputable def p2_s177 : ck_Sum := ((2, 0, 0), 245, [.inr (.inr (.inl 226)), .inl (ck_one 0), .inl ((-1), 5, []), .inl (ck_one 4)], ([], [], [(226, 9, 9, (0, 400, [(1, 0)]))]), ([(226, 9, 9), (226, 11, 11)], []), zl59)
set_option maxRecDepth 100000 in
theorem p2_s177_s {X : Int → Int} {LX : Nat} : ck_Ok p2_O X LX 256 p2_s177 := ck_ok_s (O := p2_O) (X := X) (LX := LX) (E := [(245, [p2_s148]), (246, [p2_s161])]) (mi := 256) (cuts := [(7, [some (.inr (.inr (.inl 226))), some (.inl (ck_one 0)), some (.inl ((-1), 5, [])), some (.inl (ck_one 4)), some (.inl ((-2147483648), 2147483647, []))], ([], [], [(226, 11, 11, (0, 400, [(1000001, 0)])), (226, 9, 9, (0, 400, [(1000001, 0)]))]), 100, .inr (226, 9), true)]) (f := 222) (S := p2_s177) (lx := none) (XF := []) ⟨p2_nmu, ck_E1 (ck_S1 p2_s148_s ck_S0) (ck_E1 (ck_S1 p2_s161_s ck_S0) ck_E0)⟩ ck_X0 ck_l0 (by decide +kernel)
set_option maxRecDepth 100000 in
/-- GlacierMailModel.number -/
noncomputable def p2_s178 : ck_Sum := ((3, 0, 0), 245, [.inr (.inr (.inl 226)), .inl (ck_one 0), .inl ((-1), 5, [])], ([], [], [(226, 9, 9, (0, 400, [(1, 0)]))]), ([(226, 9, 9), (226, 11, 11)], []), zl59)
set_option maxRecDepth 100000 in
theorem p2_s178_s {X : Int → Int} {LX : Nat} : ck_Ok p2_O X LX 255 p2_s178 := ck_ok_s (O := p2_O) (X := X) (LX := LX) (E := [(256, [p2_s177])]) (mi := 255) (cuts := []) (f := 82) (S := p2_s178) (lx := none) (XF := []) ⟨p2_nmu, ck_E1 (ck_S1 p2_s177_s ck_S0) ck_E0⟩ ck_X0 ck_l0 (by decide +kernel)
set_option maxRecDepth 100000 in
/-- GlacierMailModel.laneTold -/
noncomputable def p2_s179 : ck_Sum := ((4, 0, 0), 245, [.inr (.inr (.inl 226))], ([], [], [(226, 9, 9, (0, 400, [(1, 0)]))]), ([(226, 9, 9), (226, 11, 11)], []), zl59)
set_option maxRecDepth 100000 in
theorem p2_s179_s {X : Int → Int} {LX : Nat} : ck_Ok p2_O X LX 268 p2_s179 := ck_ok_s (O := p2_O) (X := X) (LX := LX) (E := [(261, [p2_s166]), (255, [p2_s178])]) (mi := 268) (cuts := []) (f := 86) (S := p2_s179) (lx := none) (XF := []) ⟨p2_nmu, ck_E1 (ck_S1 p2_s166_s ck_S0) (ck_E1 (ck_S1 p2_s178_s ck_S0) ck_E0)⟩ ck_X0 ck_l0 (by decide +kernel)
end
/-! 78r80a02.sf -/
section
/-! EVERY CALL ENDS, whatever was done before (laid by wip/am/p2k.py). -/
set_option maxRecDepth 100000 in
/-- GlacierMailModel.lip -/
noncomputable def p2_s180 : ck_Sum := ((0, 0, 0), 245, [.inr (.inr (.inl 226))], ([], [], []), ([], []), [(.inr (some (.inl (0, 99, []))), 245, ([], [], []))])
set_option maxRecDepth 100000 in
theorem p2_s180_s {X : Int → Int} {LX : Nat} : ck_Ok p2_O X LX 259 p2_s180 := ck_ok_s (O := p2_O) (X := X) (LX := LX) (E := []) (mi := 259) (cuts := []) (f := 80) (S := p2_s180) (lx := none) (XF := []) ⟨p2_nmu, ck_E0⟩ ck_X0 ck_l0 (by decide +kernel)
set_option maxRecDepth 100000 in
/-- GlacierMailModel.figures -/
noncomputable def p2_s181 : ck_Sum := ((2, 0, 0), 245, [.inr (.inr (.inl 226)), .inl (ck_one 0), .inl ((-1), 98, []), .inl (ck_one 4)], ([], [], [(226, 9, 9, (0, 400, [(1, 0)]))]), ([(226, 9, 9), (226, 11, 11)], []), zl60)
set_option maxRecDepth 100000 in
theorem p2_s181_s {X : Int → Int} {LX : Nat} : ck_Ok p2_O X LX 256 p2_s181 := ck_ok_s (O := p2_O) (X := X) (LX := LX) (E := [(245, [p2_s148]), (246, [p2_s161])]) (mi := 256) (cuts := [(7, [some (.inr (.inr (.inl 226))), some (.inl (ck_one 0)), some (.inl ((-1), 98, [])), some (.inl (ck_one 4)), some (.inl ((-2147483648), 2147483647, []))], ([], [], [(226, 11, 11, (0, 400, [(1000001, 0)])), (226, 9, 9, (0, 400, [(1000001, 0)]))]), 100, .inr (226, 9), true)]) (f := 222) (S := p2_s181) (lx := none) (XF := []) ⟨p2_nmu, ck_E1 (ck_S1 p2_s148_s ck_S0) (ck_E1 (ck_S1 p2_s161_s ck_S0) ck_E0)⟩ ck_X0 ck_l0 (by decide +kernel)
set_option maxRecDepth 100000 in
/-- GlacierMailModel.number -/
noncomputable def p2_s182 : ck_Sum := ((3, 0, 0), 245, [.inr (.inr (.inl 226)), .inl (ck_one 0), .inl ((-1), 98, [])], ([], [], [(226, 9, 9, (0, 400, [(1, 0)]))]), ([(226, 9, 9), (226, 11, 11)], []), zl60)
set_option maxRecDepth 100000 in
theorem p2_s182_s {X : Int → Int} {LX : Nat} : ck_Ok p2_O X LX 255 p2_s182 := ck_ok_s (O := p2_O) (X := X) (LX := LX) (E := [(256, [p2_s181])]) (mi := 255) (cuts := []) (f := 82) (S := p2_s182) (lx := none) (XF := []) ⟨p2_nmu, ck_E1 (ck_S1 p2_s181_s ck_S0) ck_E0⟩ ck_X0 ck_l0 (by decide +kernel)
set_option maxRecDepth 100000 in
/-- GlacierMailModel.rowTold -/
noncomputable def p2_s183 : ck_Sum := ((4, 0, 0), 245, [.inr (.inr (.inl 226))], ([], [], [(226, 9, 9, (0, 400, [(1, 0)]))]), ([(226, 9, 9), (226, 11, 11)], []), zl60)
set_option maxRecDepth 100000 in
theorem p2_s183_s {X : Int → Int} {LX : Nat} : ck_Ok p2_O X LX 263 p2_s183 := ck_ok_s (O := p2_O) (X := X) (LX := LX) (E := [(259, [p2_s180]), (255, [p2_s182])]) (mi := 263) (cuts := []) (f := 86) (S := p2_s183) (lx := none) (XF := []) ⟨p2_nmu, ck_E1 (ck_S1 p2_s180_s ck_S0) (ck_E1 (ck_S1 p2_s182_s ck_S0) ck_E0)⟩ ck_X0 ck_l0 (by decide +kernel)
/-- GlacierMailModel.throwsIn -/
noncomputable def p2_s184 : ck_Sum := op_ts (-1) (-1) (-1) (-1) 0 5 0 98
theorem p2_s184_s {X : Int → Int} {LX : Nat} : ck_Ok p2_O X LX 271 p2_s184 := op_throw (by decide +kernel) (by decide)
set_option maxRecDepth 100000 in
/-- GlacierMailModel.readRock -/
noncomputable def p2_s185 : ck_Sum := ((5, 0, 0), 245, [.inr (.inr (.inl 226))], ([], [], [(227, 4, 4, (0, 24, [(22, 0)])), (226, 9, 9, (0, 400, [(1, 0)])), (227, 9, 9, (0, 299, [(11, 0)]))]), ([(226, 9, 9), (226, 11, 11), (227, 4, 4), (227, 119, 286)], []), [(.inr (some (.inl (ck_one 0))), 245, ([], [], [(226, 9, 9, (0, 400, [(1000001, 0)])), (227, 4, 4, (0, 24, [(22, 0)]))])), (.inr (some (.inl (ck_one 1))), 245, ([], [], [(227, 4, 4, (1, 24, [(22, 1)])), (226, 9, 9, (0, 400, [(1000001, 0)])), (226, 11, 11, (0, 400, [(1000001, 0)]))]))])
set_option maxRecDepth 100000 in
theorem p2_s185_s {X : Int → Int} {LX : Nat} : ck_Ok p2_O X LX 270 p2_s185 := ck_ok_s (O := p2_O) (X := X) (LX := LX) (E := [(254, [p2_s176]), (268, [p2_s179]), (263, [p2_s183]), (271, [p2_s184])]) (mi := 270) (cuts := []) (f := 120) (S := p2_s185) (lx := none) (XF := []) ⟨p2_nmu, ck_E1 (ck_S1 p2_s176_s ck_S0) (ck_E1 (ck_S1 p2_s179_s ck_S0) (ck_E1 (ck_S1 p2_s183_s ck_S0) (ck_E1 (ck_S1 p2_s184_s ck_S0) ck_E0)))⟩ ck_X0 ck_l0 (by decide +kernel)
set_option maxRecDepth 100000 in
/-- GlacierMailModel.people -/
noncomputable def p2_s186 : ck_Sum := ((0, 0, 0), 245, [.inr (.inr (.inl 226))], ([], [], [(227, 3, 3, (0, 8, [(21, 0)]))]), ([], []), [(.inr (some (.inl (0, 8, [(21, 0)]))), 245, ([], [], []))])
set_option maxRecDepth 100000 in
theorem p2_s186_s {X : Int → Int} {LX : Nat} : ck_Ok p2_O X LX 253 p2_s186 := ck_ok_s (O := p2_O) (X := X) (LX := LX) (E := []) (mi := 253) (cuts := []) (f := 80) (S := p2_s186) (lx := none) (XF := []) ⟨p2_nmu, ck_E0⟩ ck_X0 ck_l0 (by decide +kernel)
set_option maxRecDepth 100000 in
/-- GlacierMailModel.isWord -/
noncomputable def p2_s187 : ck_Sum := ((6, 0, 0), 245, [.inr (.inr (.inl 226)), .inr (.inr (.inr 54))], ([], [], [(226, 9, 9, (0, 400, [(1, 0)]))]), ([], []), zl52)
set_option maxRecDepth 100000 in
theorem p2_s187_s {X : Int → Int} {LX : Nat} : ck_Ok p2_O X LX 250 p2_s187 := ck_ok_s (O := p2_O) (X := X) (LX := LX) (E := []) (mi := 250) (cuts := []) (f := 332) (S := p2_s187) (lx := none) (XF := []) ⟨p2_nmu, ck_E0⟩ ck_X0 ck_l0 (by decide +kernel)
set_option maxRecDepth 100000 in
/-- GlacierMailModel.isNext -/
noncomputable def p2_s188 : ck_Sum := ((7, 0, 0), 245, [.inr (.inr (.inl 226)), .inr (.inr (.inr 54))], ([], [], [(226, 9, 9, (0, 400, [(1, 0)]))]), ([(226, 9, 9), (226, 11, 11)], []), [(.inr (some (.inl (ck_one 0))), 245, ([], [], zl51)), (.inr (some (.inl (ck_one 1))), 245, ([], [], [(226, 9, 9, (5, 400, [(1000001, 0)])), (226, 11, 11, (0, 395, []))]))])
set_option maxRecDepth 100000 in
theorem p2_s188_s {X : Int → Int} {LX : Nat} : ck_Ok p2_O X LX 269 p2_s188 := ck_ok_s (O := p2_O) (X := X) (LX := LX) (E := [(248, [p2_s150]), (250, [p2_s187])]) (mi := 269) (cuts := []) (f := 94) (S := p2_s188) (lx := none) (XF := []) ⟨p2_nmu, ck_E1 (ck_S1 p2_s150_s ck_S0) (ck_E1 (ck_S1 p2_s187_s ck_S0) ck_E0)⟩ ck_X0 ck_l0 (by decide +kernel)
set_option maxRecDepth 100000 in
/-- GlacierMailModel.readPerson -/
noncomputable def p2_s189 : ck_Sum := ((8, 0, 0), 245, [.inr (.inr (.inl 226))], ([], [], [(227, 3, 3, (0, 8, [(21, 0)])), (226, 9, 9, (0, 400, [(1, 0)]))]), ([(226, 9, 9), (226, 11, 11), (227, 3, 3), (227, 95, 118)], []), [(.inr (some (.inl (ck_one 0))), 245, ([], [], [(226, 9, 9, (0, 400, [(1000001, 0)])), (227, 3, 3, (0, 8, [(21, 0)]))])), (.inr (some (.inl (ck_one 1))), 245, ([], [], [(227, 3, 3, (1, 8, [])), (226, 9, 9, (0, 400, [(1000001, 0)])), (226, 11, 11, (0, 400, [(1000001, 0)]))]))])
set_option maxRecDepth 100000 in
theorem p2_s189_s {X : Int → Int} {LX : Nat} : ck_Ok p2_O X LX 267 p2_s189 := ck_ok_s (O := p2_O) (X := X) (LX := LX) (E := [(253, [p2_s186]), (268, [p2_s179]), (263, [p2_s183]), (269, [p2_s188])]) (mi := 267) (cuts := []) (f := 192) (S := p2_s189) (lx := none) (XF := []) ⟨p2_nmu, ck_E1 (ck_S1 p2_s186_s ck_S0) (ck_E1 (ck_S1 p2_s179_s ck_S0) (ck_E1 (ck_S1 p2_s183_s ck_S0) (ck_E1 (ck_S1 p2_s188_s ck_S0) ck_E0)))⟩ ck_X0 ck_l0 (by decide +kernel)
set_option maxRecDepth 100000 in
/-- GlacierMailModel.now -/
noncomputable def p2_s190 : ck_Sum := ((0, 0, 0), 245, [.inr (.inr (.inl 226))], ([], [], [(227, 9, 9, (0, 299, [(11, 0)]))]), ([], []), [(.inr (some (.inl (0, 299, [(11, 0)]))), 245, ([], [], []))])
set_option maxRecDepth 100000 in
theorem p2_s190_s {X : Int → Int} {LX : Nat} : ck_Ok p2_O X LX 266 p2_s190 := ck_ok_s (O := p2_O) (X := X) (LX := LX) (E := []) (mi := 266) (cuts := []) (f := 80) (S := p2_s190) (lx := none) (XF := []) ⟨p2_nmu, ck_E0⟩ ck_X0 ck_l0 (by decide +kernel)
set_option maxRecDepth 100000 in
/-- GlacierMailModel.figures -/
noncomputable def p2_s191 : ck_Sum := ((2, 0, 0), 245, [.inr (.inr (.inl 226)), .inl (0, 299, []), .inl (ck_one 299), .inl (ck_one 4)], ([], [], [(226, 9, 9, (0, 400, [(1, 0)]))]), ([(226, 9, 9), (226, 11, 11)], []), zl61)
set_option maxRecDepth 100000 in
theorem p2_s191_s {X : Int → Int} {LX : Nat} : ck_Ok p2_O X LX 256 p2_s191 := ck_ok_s (O := p2_O) (X := X) (LX := LX) (E := [(245, [p2_s148]), (246, [p2_s161])]) (mi := 256) (cuts := [(7, [some (.inr (.inr (.inl 226))), some (.inl (0, 299, [])), some (.inl (ck_one 299)), some (.inl (ck_one 4)), some (.inl ((-2147483648), 2147483647, []))], ([], [], [(226, 11, 11, (0, 400, [(1000001, 0)])), (226, 9, 9, (0, 400, [(1000001, 0)]))]), 100, .inr (226, 9), true)]) (f := 222) (S := p2_s191) (lx := none) (XF := []) ⟨p2_nmu, ck_E1 (ck_S1 p2_s148_s ck_S0) (ck_E1 (ck_S1 p2_s161_s ck_S0) ck_E0)⟩ ck_X0 ck_l0 (by decide +kernel)
set_option maxRecDepth 100000 in
/-- GlacierMailModel.number -/
noncomputable def p2_s192 : ck_Sum := ((3, 0, 0), 245, [.inr (.inr (.inl 226)), .inl (0, 299, []), .inl (ck_one 299)], ([], [], [(226, 9, 9, (0, 400, [(1, 0)]))]), ([(226, 9, 9), (226, 11, 11)], []), zl61)
set_option maxRecDepth 100000 in
theorem p2_s192_s {X : Int → Int} {LX : Nat} : ck_Ok p2_O X LX 255 p2_s192 := ck_ok_s (O := p2_O) (X := X) (LX := LX) (E := [(256, [p2_s191])]) (mi := 255) (cuts := []) (f := 82) (S := p2_s192) (lx := none) (XF := []) ⟨p2_nmu, ck_E1 (ck_S1 p2_s191_s ck_S0) ck_E0⟩ ck_X0 ck_l0 (by decide +kernel)
set_option maxRecDepth 100000 in
/-- GlacierMailModel.figures -/
noncomputable def p2_s193 : ck_Sum := ((2, 0, 0), 245, [.inr (.inr (.inl 226)), .inl (ck_one 1), .inl (ck_one 20), .inl (ck_one 4)], ([], [], [(226, 9, 9, (0, 400, [(1, 0)]))]), ([(226, 9, 9), (226, 11, 11)], []), zl62)
set_option maxRecDepth 100000 in
theorem p2_s193_s {X : Int → Int} {LX : Nat} : ck_Ok p2_O X LX 256 p2_s193 := ck_ok_s (O := p2_O) (X := X) (LX := LX) (E := [(245, [p2_s148]), (246, [p2_s161])]) (mi := 256) (cuts := [(7, [some (.inr (.inr (.inl 226))), some (.inl (ck_one 1)), some (.inl (ck_one 20)), some (.inl (ck_one 4)), some (.inl ((-2147483648), 2147483647, []))], ([], [], [(226, 11, 11, (0, 400, [(1000001, 0)])), (226, 9, 9, (0, 400, [(1000001, 0)]))]), 100, .inr (226, 9), true)]) (f := 222) (S := p2_s193) (lx := none) (XF := []) ⟨p2_nmu, ck_E1 (ck_S1 p2_s148_s ck_S0) (ck_E1 (ck_S1 p2_s161_s ck_S0) ck_E0)⟩ ck_X0 ck_l0 (by decide +kernel)
set_option maxRecDepth 100000 in
/-- GlacierMailModel.number -/
noncomputable def p2_s194 : ck_Sum := ((3, 0, 0), 245, [.inr (.inr (.inl 226)), .inl (ck_one 1), .inl (ck_one 20)], ([], [], [(226, 9, 9, (0, 400, [(1, 0)]))]), ([(226, 9, 9), (226, 11, 11)], []), zl62)
set_option maxRecDepth 100000 in
theorem p2_s194_s {X : Int → Int} {LX : Nat} : ck_Ok p2_O X LX 255 p2_s194 := ck_ok_s (O := p2_O) (X := X) (LX := LX) (E := [(256, [p2_s193])]) (mi := 255) (cuts := []) (f := 82) (S := p2_s194) (lx := none) (XF := []) ⟨p2_nmu, ck_E1 (ck_S1 p2_s193_s ck_S0) ck_E0⟩ ck_X0 ck_l0 (by decide +kernel)
set_option maxRecDepth 100000 in
/-- GlacierMailModel.readFlood -/
noncomputable def p2_s195 : ck_Sum := ((5, 0, 0), 245, [.inr (.inr (.inl 226))], ([], [], [(227, 5, 5, (0, 8, [(23, 0)])), (226, 9, 9, (0, 400, [(1, 0)])), (227, 9, 9, (0, 299, [(11, 0)]))]), ([(226, 9, 9), (226, 11, 11), (227, 5, 5), (227, 71, 94)], []), [(.inr (some (.inl (ck_one 0))), 245, ([], [], [(226, 9, 9, (0, 400, [(1000001, 0)])), (227, 5, 5, (0, 8, [(23, 0)]))])), (.inr (some (.inl (ck_one 1))), 245, ([], [], [(227, 5, 5, (1, 8, [])), (226, 9, 9, (0, 400, [(1000001, 0)])), (226, 11, 11, (0, 400, [(1000001, 0)]))]))])
set_option maxRecDepth 100000 in
theorem p2_s195_s {X : Int → Int} {LX : Nat} : ck_Ok p2_O X LX 265 p2_s195 := ck_ok_s (O := p2_O) (X := X) (LX := LX) (E := [(266, [p2_s190]), (255, [p2_s192, p2_s194]), (263, [p2_s183])]) (mi := 265) (cuts := []) (f := 198) (S := p2_s195) (lx := none) (XF := []) ⟨p2_nmu, ck_E1 (ck_S1 p2_s190_s ck_S0) (ck_E1 (ck_S1 p2_s192_s (ck_S1 p2_s194_s ck_S0)) (ck_E1 (ck_S1 p2_s183_s ck_S0) ck_E0))⟩ ck_X0 ck_l0 (by decide +kernel)
set_option maxRecDepth 100000 in
/-- GlacierMailModel.isWord -/
noncomputable def p2_s196 : ck_Sum := ((6, 0, 0), 245, [.inr (.inr (.inl 226)), .inr (.inr (.inr 51))], ([], [], [(226, 9, 9, (0, 400, [(1, 0)]))]), ([], []), zl53)
set_option maxRecDepth 100000 in
theorem p2_s196_s {X : Int → Int} {LX : Nat} : ck_Ok p2_O X LX 250 p2_s196 := ck_ok_s (O := p2_O) (X := X) (LX := LX) (E := []) (mi := 250) (cuts := []) (f := 288) (S := p2_s196) (lx := none) (XF := []) ⟨p2_nmu, ck_E0⟩ ck_X0 ck_l0 (by decide +kernel)
set_option maxRecDepth 100000 in
/-- GlacierMailModel.figures -/
noncomputable def p2_s197 : ck_Sum := ((2, 0, 0), 245, [.inr (.inr (.inl 226)), .inl (ck_one 0), .inl (ck_one 9), .inl (ck_one 4)], ([], [], [(226, 9, 9, (0, 400, [(1, 0)]))]), ([(226, 9, 9), (226, 11, 11)], []), zl63)
set_option maxRecDepth 100000 in
theorem p2_s197_s {X : Int → Int} {LX : Nat} : ck_Ok p2_O X LX 256 p2_s197 := ck_ok_s (O := p2_O) (X := X) (LX := LX) (E := [(245, [p2_s148]), (246, [p2_s161])]) (mi := 256) (cuts := [(7, [some (.inr (.inr (.inl 226))), some (.inl (ck_one 0)), some (.inl (ck_one 9)), some (.inl (ck_one 4)), some (.inl ((-2147483648), 2147483647, []))], ([], [], [(226, 11, 11, (0, 400, [(1000001, 0)])), (226, 9, 9, (0, 400, [(1000001, 0)]))]), 100, .inr (226, 9), true)]) (f := 222) (S := p2_s197) (lx := none) (XF := []) ⟨p2_nmu, ck_E1 (ck_S1 p2_s148_s ck_S0) (ck_E1 (ck_S1 p2_s161_s ck_S0) ck_E0)⟩ ck_X0 ck_l0 (by decide +kernel)
set_option maxRecDepth 100000 in
/-- GlacierMailModel.number -/
noncomputable def p2_s198 : ck_Sum := ((3, 0, 0), 245, [.inr (.inr (.inl 226)), .inl (ck_one 0), .inl (ck_one 9)], ([], [], [(226, 9, 9, (0, 400, [(1, 0)]))]), ([(226, 9, 9), (226, 11, 11)], []), zl63)
set_option maxRecDepth 100000 in
theorem p2_s198_s {X : Int → Int} {LX : Nat} : ck_Ok p2_O X LX 255 p2_s198 := ck_ok_s (O := p2_O) (X := X) (LX := LX) (E := [(256, [p2_s197])]) (mi := 255) (cuts := []) (f := 82) (S := p2_s198) (lx := none) (XF := []) ⟨p2_nmu, ck_E1 (ck_S1 p2_s197_s ck_S0) ck_E0⟩ ck_X0 ck_l0 (by decide +kernel)
set_option maxRecDepth 100000 in
/-- GlacierMailModel.after -/
noncomputable def p2_s199 : ck_Sum := ((7, 0, 0), 245, [.inr (.inr (.inl 226)), .inr (.inr (.inr 51)), .inl (ck_one 0), .inl (ck_one 9)], ([], [], [(226, 9, 9, (0, 400, [(1, 0)]))]), ([(226, 9, 9), (226, 11, 11)], []), [(.inr (some (.inl (ck_one (-1)))), 245, ([], [], zl51)), (.inr (some (.inl (0, 9, []))), 245, ([], [], zl64))])
set_option maxRecDepth 100000 in
theorem p2_s199_s {X : Int → Int} {LX : Nat} : ck_Ok p2_O X LX 264 p2_s199 := ck_ok_s (O := p2_O) (X := X) (LX := LX) (E := [(248, [p2_s150]), (250, [p2_s196]), (255, [p2_s198])]) (mi := 264) (cuts := []) (f := 94) (S := p2_s199) (lx := none) (XF := []) ⟨p2_nmu, ck_E1 (ck_S1 p2_s150_s ck_S0) (ck_E1 (ck_S1 p2_s196_s ck_S0) (ck_E1 (ck_S1 p2_s198_s ck_S0) ck_E0))⟩ ck_X0 ck_l0 (by decide +kernel)
set_option maxRecDepth 100000 in
/-- GlacierMailModel.readSnow -/
noncomputable def p2_s200 : ck_Sum := ((8, 0, 0), 245, [.inr (.inr (.inl 226))], ([], [], [(226, 9, 9, (0, 400, [(1, 0)]))]), ([(226, 9, 9), (226, 11, 11), (227, 10, 11)], []), [(.inr (some (.inl (ck_one 0))), 245, ([], [], zl51)), (.inr (some (.inl (ck_one 1))), 245, ([], [], zl64))])
set_option maxRecDepth 100000 in
theorem p2_s200_s {X : Int → Int} {LX : Nat} : ck_Ok p2_O X LX 262 p2_s200 := ck_ok_s (O := p2_O) (X := X) (LX := LX) (E := [(263, [p2_s183]), (264, [p2_s199])]) (mi := 262) (cuts := []) (f := 120) (S := p2_s200) (lx := none) (XF := []) ⟨p2_nmu, ck_E1 (ck_S1 p2_s183_s ck_S0) (ck_E1 (ck_S1 p2_s199_s ck_S0) ck_E0)⟩ ck_X0 ck_l0 (by decide +kernel)
set_option maxRecDepth 100000 in
/-- GlacierMailModel.figures -/
noncomputable def p2_s201 : ck_Sum := ((2, 0, 0), 245, [.inr (.inr (.inl 226)), .inl (ck_one 0), .inl (ck_one 0), .inl (ck_one 4)], ([], [], [(226, 9, 9, (0, 400, [(1, 0)]))]), ([(226, 9, 9), (226, 11, 11)], []), zl65)
set_option maxRecDepth 100000 in
theorem p2_s201_s {X : Int → Int} {LX : Nat} : ck_Ok p2_O X LX 256 p2_s201 := ck_ok_s (O := p2_O) (X := X) (LX := LX) (E := [(245, [p2_s148]), (246, [p2_s161])]) (mi := 256) (cuts := [(7, [some (.inr (.inr (.inl 226))), some (.inl (ck_one 0)), some (.inl (ck_one 0)), some (.inl (ck_one 4)), some (.inl ((-2147483648), 2147483647, []))], ([], [], [(226, 11, 11, (0, 400, [(1000001, 0)])), (226, 9, 9, (0, 400, [(1000001, 0)]))]), 100, .inr (226, 9), true)]) (f := 222) (S := p2_s201) (lx := none) (XF := []) ⟨p2_nmu, ck_E1 (ck_S1 p2_s148_s ck_S0) (ck_E1 (ck_S1 p2_s161_s ck_S0) ck_E0)⟩ ck_X0 ck_l0 (by decide +kernel)
set_option maxRecDepth 100000 in
/-- GlacierMailModel.number -/
noncomputable def p2_s202 : ck_Sum := ((3, 0, 0), 245, [.inr (.inr (.inl 226)), .inl (ck_one 0), .inl (ck_one 0)], ([], [], [(226, 9, 9, (0, 400, [(1, 0)]))]), ([(226, 9, 9), (226, 11, 11)], []), zl65)
set_option maxRecDepth 100000 in
theorem p2_s202_s {X : Int → Int} {LX : Nat} : ck_Ok p2_O X LX 255 p2_s202 := ck_ok_s (O := p2_O) (X := X) (LX := LX) (E := [(256, [p2_s201])]) (mi := 255) (cuts := []) (f := 82) (S := p2_s202) (lx := none) (XF := []) ⟨p2_nmu, ck_E1 (ck_S1 p2_s201_s ck_S0) ck_E0⟩ ck_X0 ck_l0 (by decide +kernel)
set_option maxRecDepth 100000 in
/-- GlacierMailModel.figures -/
noncomputable def p2_s203 : ck_Sum := ((2, 0, 0), 245, [.inr (.inr (.inl 226)), .inl (1, 99, []), .inl ((-1), 98, []), .inl (ck_one 4)], ([], [], [(226, 9, 9, (0, 400, [(1, 0)]))]), ([(226, 9, 9), (226, 11, 11)], []), zl66)
set_option maxRecDepth 100000 in
theorem p2_s203_s {X : Int → Int} {LX : Nat} : ck_Ok p2_O X LX 256 p2_s203 := ck_ok_s (O := p2_O) (X := X) (LX := LX) (E := [(245, [p2_s148]), (246, [p2_s161])]) (mi := 256) (cuts := [(7, [some (.inr (.inr (.inl 226))), some (.inl (1, 99, [])), some (.inl ((-1), 98, [])), some (.inl (ck_one 4)), some (.inl ((-2147483648), 2147483647, []))], ([], [], [(226, 11, 11, (0, 400, [(1000001, 0)])), (226, 9, 9, (0, 400, [(1000001, 0)]))]), 100, .inr (226, 9), true)]) (f := 222) (S := p2_s203) (lx := none) (XF := []) ⟨p2_nmu, ck_E1 (ck_S1 p2_s148_s ck_S0) (ck_E1 (ck_S1 p2_s161_s ck_S0) ck_E0)⟩ ck_X0 ck_l0 (by decide +kernel)
set_option maxRecDepth 100000 in
/-- GlacierMailModel.number -/
noncomputable def p2_s204 : ck_Sum := ((3, 0, 0), 245, [.inr (.inr (.inl 226)), .inl (1, 99, []), .inl ((-1), 98, [])], ([], [], [(226, 9, 9, (0, 400, [(1, 0)]))]), ([(226, 9, 9), (226, 11, 11)], []), zl66)
set_option maxRecDepth 100000 in
theorem p2_s204_s {X : Int → Int} {LX : Nat} : ck_Ok p2_O X LX 255 p2_s204 := ck_ok_s (O := p2_O) (X := X) (LX := LX) (E := [(256, [p2_s203])]) (mi := 255) (cuts := []) (f := 82) (S := p2_s204) (lx := none) (XF := []) ⟨p2_nmu, ck_E1 (ck_S1 p2_s203_s ck_S0) ck_E0⟩ ck_X0 ck_l0 (by decide +kernel)
set_option maxRecDepth 100000 in
/-- GlacierMailModel.figures -/
noncomputable def p2_s205 : ck_Sum := ((2, 0, 0), 245, [.inr (.inr (.inl 226)), .inl (ck_one 1), .inl ((-1), 98, []), .inl (ck_one 4)], ([], [], [(226, 9, 9, (0, 400, [(1, 0)]))]), ([(226, 9, 9), (226, 11, 11)], []), zl66)
set_option maxRecDepth 100000 in
theorem p2_s205_s {X : Int → Int} {LX : Nat} : ck_Ok p2_O X LX 256 p2_s205 := ck_ok_s (O := p2_O) (X := X) (LX := LX) (E := [(245, [p2_s148]), (246, [p2_s161])]) (mi := 256) (cuts := [(7, [some (.inr (.inr (.inl 226))), some (.inl (ck_one 1)), some (.inl ((-1), 98, [])), some (.inl (ck_one 4)), some (.inl ((-2147483648), 2147483647, []))], ([], [], [(226, 11, 11, (0, 400, [(1000001, 0)])), (226, 9, 9, (0, 400, [(1000001, 0)]))]), 100, .inr (226, 9), true)]) (f := 222) (S := p2_s205) (lx := none) (XF := []) ⟨p2_nmu, ck_E1 (ck_S1 p2_s148_s ck_S0) (ck_E1 (ck_S1 p2_s161_s ck_S0) ck_E0)⟩ ck_X0 ck_l0 (by decide +kernel)
set_option maxRecDepth 100000 in
/-- GlacierMailModel.number -/
noncomputable def p2_s206 : ck_Sum := ((3, 0, 0), 245, [.inr (.inr (.inl 226)), .inl (ck_one 1), .inl ((-1), 98, [])], ([], [], [(226, 9, 9, (0, 400, [(1, 0)]))]), ([(226, 9, 9), (226, 11, 11)], []), zl66)
set_option maxRecDepth 100000 in
theorem p2_s206_s {X : Int → Int} {LX : Nat} : ck_Ok p2_O X LX 255 p2_s206 := ck_ok_s (O := p2_O) (X := X) (LX := LX) (E := [(256, [p2_s205])]) (mi := 255) (cuts := []) (f := 82) (S := p2_s206) (lx := none) (XF := []) ⟨p2_nmu, ck_E1 (ck_S1 p2_s205_s ck_S0) ck_E0⟩ ck_X0 ck_l0 (by decide +kernel)
set_option maxRecDepth 100000 in
/-- GlacierMailModel.readSpeeds -/
noncomputable def p2_s207 : ck_Sum := ((4, 0, 0), 245, [.inr (.inr (.inl 226)), .inl (ck_one 16)], ([], [], [(226, 9, 9, (0, 400, [(1, 0)]))]), ([(226, 9, 9), (226, 11, 11), (227, 16, 21)], []), zl58)
set_option maxRecDepth 100000 in
theorem p2_s207_s {X : Int → Int} {LX : Nat} : ck_Ok p2_O X LX 260 p2_s207 := ck_ok_s (O := p2_O) (X := X) (LX := LX) (E := [(261, [p2_s166]), (255, [p2_s168])]) (mi := 260) (cuts := [(2, [some (.inr (.inr (.inl 226))), some (.inl (ck_one 16)), some (.inl (0, 6, [])), none], ([], [], [(226, 9, 9, (0, 400, [(1000001, 0)]))]), 100, .inl 2, true)]) (f := 174) (S := p2_s207) (lx := none) (XF := []) ⟨p2_nmu, ck_E1 (ck_S1 p2_s166_s ck_S0) (ck_E1 (ck_S1 p2_s168_s ck_S0) ck_E0)⟩ ck_X0 ck_l0 (by decide +kernel)
set_option maxRecDepth 100000 in
/-- GlacierMailModel.readSpeeds -/
noncomputable def p2_s208 : ck_Sum := ((4, 0, 0), 245, [.inr (.inr (.inl 226)), .inl (ck_one 65)], ([], [], [(226, 9, 9, (0, 400, [(1, 0)]))]), ([(226, 9, 9), (226, 11, 11), (227, 65, 70)], []), zl58)
set_option maxRecDepth 100000 in
theorem p2_s208_s {X : Int → Int} {LX : Nat} : ck_Ok p2_O X LX 260 p2_s208 := ck_ok_s (O := p2_O) (X := X) (LX := LX) (E := [(261, [p2_s166]), (255, [p2_s168])]) (mi := 260) (cuts := [(2, [some (.inr (.inr (.inl 226))), some (.inl (ck_one 65)), some (.inl (0, 6, [])), none], ([], [], [(226, 9, 9, (0, 400, [(1000001, 0)]))]), 100, .inl 2, true)]) (f := 174) (S := p2_s208) (lx := none) (XF := []) ⟨p2_nmu, ck_E1 (ck_S1 p2_s166_s ck_S0) (ck_E1 (ck_S1 p2_s168_s ck_S0) ck_E0)⟩ ck_X0 ck_l0 (by decide +kernel)
set_option maxRecDepth 100000 in
/-- GlacierMailModel.readSpeeds -/
noncomputable def p2_s209 : ck_Sum := ((4, 0, 0), 245, [.inr (.inr (.inl 226)), .inl (ck_one 58)], ([], [], [(226, 9, 9, (0, 400, [(1, 0)]))]), ([(226, 9, 9), (226, 11, 11), (227, 58, 63)], []), zl58)
set_option maxRecDepth 100000 in
theorem p2_s209_s {X : Int → Int} {LX : Nat} : ck_Ok p2_O X LX 260 p2_s209 := ck_ok_s (O := p2_O) (X := X) (LX := LX) (E := [(261, [p2_s166]), (255, [p2_s168])]) (mi := 260) (cuts := [(2, [some (.inr (.inr (.inl 226))), some (.inl (ck_one 58)), some (.inl (0, 6, [])), none], ([], [], [(226, 9, 9, (0, 400, [(1000001, 0)]))]), 100, .inl 2, true)]) (f := 174) (S := p2_s209) (lx := none) (XF := []) ⟨p2_nmu, ck_E1 (ck_S1 p2_s166_s ck_S0) (ck_E1 (ck_S1 p2_s168_s ck_S0) ck_E0)⟩ ck_X0 ck_l0 (by decide +kernel)
set_option maxRecDepth 100000 in
/-- GlacierMailModel.readSpeeds -/
noncomputable def p2_s210 : ck_Sum := ((4, 0, 0), 245, [.inr (.inr (.inl 226)), .inl (ck_one 51)], ([], [], [(226, 9, 9, (0, 400, [(1, 0)]))]), ([(226, 9, 9), (226, 11, 11), (227, 51, 56)], []), zl58)
set_option maxRecDepth 100000 in
theorem p2_s210_s {X : Int → Int} {LX : Nat} : ck_Ok p2_O X LX 260 p2_s210 := ck_ok_s (O := p2_O) (X := X) (LX := LX) (E := [(261, [p2_s166]), (255, [p2_s168])]) (mi := 260) (cuts := [(2, [some (.inr (.inr (.inl 226))), some (.inl (ck_one 51)), some (.inl (0, 6, [])), none], ([], [], [(226, 9, 9, (0, 400, [(1000001, 0)]))]), 100, .inl 2, true)]) (f := 174) (S := p2_s210) (lx := none) (XF := []) ⟨p2_nmu, ck_E1 (ck_S1 p2_s166_s ck_S0) (ck_E1 (ck_S1 p2_s168_s ck_S0) ck_E0)⟩ ck_X0 ck_l0 (by decide +kernel)
set_option maxRecDepth 100000 in
/-- GlacierMailModel.readSpeeds -/
noncomputable def p2_s211 : ck_Sum := ((4, 0, 0), 245, [.inr (.inr (.inl 226)), .inl (ck_one 44)], ([], [], [(226, 9, 9, (0, 400, [(1, 0)]))]), ([(226, 9, 9), (226, 11, 11), (227, 44, 49)], []), zl58)
set_option maxRecDepth 100000 in
theorem p2_s211_s {X : Int → Int} {LX : Nat} : ck_Ok p2_O X LX 260 p2_s211 := ck_ok_s (O := p2_O) (X := X) (LX := LX) (E := [(261, [p2_s166]), (255, [p2_s168])]) (mi := 260) (cuts := [(2, [some (.inr (.inr (.inl 226))), some (.inl (ck_one 44)), some (.inl (0, 6, [])), none], ([], [], [(226, 9, 9, (0, 400, [(1000001, 0)]))]), 100, .inl 2, true)]) (f := 174) (S := p2_s211) (lx := none) (XF := []) ⟨p2_nmu, ck_E1 (ck_S1 p2_s166_s ck_S0) (ck_E1 (ck_S1 p2_s168_s ck_S0) ck_E0)⟩ ck_X0 ck_l0 (by decide +kernel)
set_option maxRecDepth 100000 in
/-- GlacierMailModel.readSpeeds -/
noncomputable def p2_s212 : ck_Sum := ((4, 0, 0), 245, [.inr (.inr (.inl 226)), .inl (ck_one 37)], ([], [], [(226, 9, 9, (0, 400, [(1, 0)]))]), ([(226, 9, 9), (226, 11, 11), (227, 37, 42)], []), zl58)
set_option maxRecDepth 100000 in
theorem p2_s212_s {X : Int → Int} {LX : Nat} : ck_Ok p2_O X LX 260 p2_s212 := ck_ok_s (O := p2_O) (X := X) (LX := LX) (E := [(261, [p2_s166]), (255, [p2_s168])]) (mi := 260) (cuts := [(2, [some (.inr (.inr (.inl 226))), some (.inl (ck_one 37)), some (.inl (0, 6, [])), none], ([], [], [(226, 9, 9, (0, 400, [(1000001, 0)]))]), 100, .inl 2, true)]) (f := 174) (S := p2_s212) (lx := none) (XF := []) ⟨p2_nmu, ck_E1 (ck_S1 p2_s166_s ck_S0) (ck_E1 (ck_S1 p2_s168_s ck_S0) ck_E0)⟩ ck_X0 ck_l0 (by decide +kernel)
set_option maxRecDepth 100000 in
/-- GlacierMailModel.readSpeeds -/
noncomputable def p2_s213 : ck_Sum := ((4, 0, 0), 245, [.inr (.inr (.inl 226)), .inl (ck_one 30)], ([], [], [(226, 9, 9, (0, 400, [(1, 0)]))]), ([(226, 9, 9), (226, 11, 11), (227, 30, 35)], []), zl58)
set_option maxRecDepth 100000 in
theorem p2_s213_s {X : Int → Int} {LX : Nat} : ck_Ok p2_O X LX 260 p2_s213 := ck_ok_s (O := p2_O) (X := X) (LX := LX) (E := [(261, [p2_s166]), (255, [p2_s168])]) (mi := 260) (cuts := [(2, [some (.inr (.inr (.inl 226))), some (.inl (ck_one 30)), some (.inl (0, 6, [])), none], ([], [], [(226, 9, 9, (0, 400, [(1000001, 0)]))]), 100, .inl 2, true)]) (f := 174) (S := p2_s213) (lx := none) (XF := []) ⟨p2_nmu, ck_E1 (ck_S1 p2_s166_s ck_S0) (ck_E1 (ck_S1 p2_s168_s ck_S0) ck_E0)⟩ ck_X0 ck_l0 (by decide +kernel)
set_option maxRecDepth 100000 in
/-- GlacierMailModel.readSpeeds -/
noncomputable def p2_s214 : ck_Sum := ((4, 0, 0), 245, [.inr (.inr (.inl 226)), .inl (ck_one 23)], ([], [], [(226, 9, 9, (0, 400, [(1, 0)]))]), ([(226, 9, 9), (226, 11, 11), (227, 23, 28)], []), zl58)
set_option maxRecDepth 100000 in
theorem p2_s214_s {X : Int → Int} {LX : Nat} : ck_Ok p2_O X LX 260 p2_s214 := ck_ok_s (O := p2_O) (X := X) (LX := LX) (E := [(261, [p2_s166]), (255, [p2_s168])]) (mi := 260) (cuts := [(2, [some (.inr (.inr (.inl 226))), some (.inl (ck_one 23)), some (.inl (0, 6, [])), none], ([], [], [(226, 9, 9, (0, 400, [(1000001, 0)]))]), 100, .inl 2, true)]) (f := 174) (S := p2_s214) (lx := none) (XF := []) ⟨p2_nmu, ck_E1 (ck_S1 p2_s166_s ck_S0) (ck_E1 (ck_S1 p2_s168_s ck_S0) ck_E0)⟩ ck_X0 ck_l0 (by decide +kernel)
set_option maxRecDepth 100000 in
/-- GlacierMailModel.readSection -/
noncomputable def p2_s215 : ck_Sum := ((5, 0, 0), 245, [.inr (.inr (.inl 226))], ([], [], [(227, 2, 2, (0, 8, [(20, 0)])), (226, 9, 9, (0, 400, [(1, 0)]))]), ([(226, 9, 9), (226, 11, 11), (227, 2, 2), (227, 15, 70)], []), [(.inr (some (.inl (ck_one 0))), 245, ([], [], [(226, 9, 9, (0, 400, [(1000001, 0)])), (227, 2, 2, (0, 8, [(20, 0)]))])), (.inr (some (.inl (ck_one 1))), 245, ([], [], [(227, 2, 2, (1, 8, [])), (226, 9, 9, (0, 400, [(1000001, 0)]))]))])
set_option maxRecDepth 100000 in
theorem p2_s215_s {X : Int → Int} {LX : Nat} : ck_Ok p2_O X LX 258 p2_s215 := ck_ok_s (O := p2_O) (X := X) (LX := LX) (E := [(255, [p2_s202, p2_s204, p2_s206]), (260, [p2_s207, p2_s208, p2_s209, p2_s210, p2_s211, p2_s212, p2_s213, p2_s214]), (259, [p2_s180])]) (mi := 258) (cuts := []) (f := 178) (S := p2_s215) (lx := none) (XF := []) ⟨p2_nmu, ck_E1 (ck_S1 p2_s202_s (ck_S1 p2_s204_s (ck_S1 p2_s206_s ck_S0))) (ck_E1 (ck_S1 p2_s207_s (ck_S1 p2_s208_s (ck_S1 p2_s209_s (ck_S1 p2_s210_s (ck_S1 p2_s211_s (ck_S1 p2_s212_s (ck_S1 p2_s213_s (ck_S1 p2_s214_s ck_S0)))))))) (ck_E1 (ck_S1 p2_s180_s ck_S0) ck_E0))⟩ ck_X0 ck_l0 (by decide +kernel)
set_option maxRecDepth 100000 in
/-- GlacierMailModel.isEmpty -/
noncomputable def p2_s216 : ck_Sum := ((1, 0, 0), 245, [.inr (.inr (.inl 226))], ([], [], [(227, 2, 2, (0, 8, [(20, 0)])), (227, 3, 3, (0, 8, [(21, 0)])), (227, 4, 4, (0, 24, [(22, 0)])), (227, 5, 5, (0, 8, [(23, 0)])), (227, 6, 6, (0, 6, [(24, 0)]))]), ([], []), [(.inr (some (.inl (ck_one 0))), 245, ([], [], [])), (.inr (some (.inl (ck_one 1))), 245, ([], [], []))])
set_option maxRecDepth 100000 in
theorem p2_s216_s {X : Int → Int} {LX : Nat} : ck_Ok p2_O X LX 252 p2_s216 := ck_ok_s (O := p2_O) (X := X) (LX := LX) (E := [(253, [p2_s186]), (254, [p2_s176])]) (mi := 252) (cuts := []) (f := 118) (S := p2_s216) (lx := none) (XF := []) ⟨p2_nmu, ck_E1 (ck_S1 p2_s186_s ck_S0) (ck_E1 (ck_S1 p2_s176_s ck_S0) ck_E0)⟩ ck_X0 ck_l0 (by decide +kernel)
set_option maxRecDepth 100000 in
/-- GlacierMailModel.figures -/
noncomputable def p2_s217 : ck_Sum := ((2, 0, 0), 245, [.inr (.inr (.inl 226)), .inl (ck_one 10), .inl (ck_one 99), .inl (ck_one 4)], ([], [], [(226, 9, 9, (0, 400, [(1, 0)]))]), ([(226, 9, 9), (226, 11, 11)], []), zl67)
set_option maxRecDepth 100000 in
theorem p2_s217_s {X : Int → Int} {LX : Nat} : ck_Ok p2_O X LX 256 p2_s217 := ck_ok_s (O := p2_O) (X := X) (LX := LX) (E := [(245, [p2_s148]), (246, [p2_s161])]) (mi := 256) (cuts := [(7, [some (.inr (.inr (.inl 226))), some (.inl (ck_one 10)), some (.inl (ck_one 99)), some (.inl (ck_one 4)), some (.inl ((-2147483648), 2147483647, []))], ([], [], [(226, 11, 11, (0, 400, [(1000001, 0)])), (226, 9, 9, (0, 400, [(1000001, 0)]))]), 100, .inr (226, 9), true)]) (f := 222) (S := p2_s217) (lx := none) (XF := []) ⟨p2_nmu, ck_E1 (ck_S1 p2_s148_s ck_S0) (ck_E1 (ck_S1 p2_s161_s ck_S0) ck_E0)⟩ ck_X0 ck_l0 (by decide +kernel)
set_option maxRecDepth 100000 in
/-- GlacierMailModel.number -/
noncomputable def p2_s218 : ck_Sum := ((3, 0, 0), 245, [.inr (.inr (.inl 226)), .inl (ck_one 10), .inl (ck_one 99)], ([], [], [(226, 9, 9, (0, 400, [(1, 0)]))]), ([(226, 9, 9), (226, 11, 11)], []), zl67)
set_option maxRecDepth 100000 in
theorem p2_s218_s {X : Int → Int} {LX : Nat} : ck_Ok p2_O X LX 255 p2_s218 := ck_ok_s (O := p2_O) (X := X) (LX := LX) (E := [(256, [p2_s217])]) (mi := 255) (cuts := []) (f := 82) (S := p2_s218) (lx := none) (XF := []) ⟨p2_nmu, ck_E1 (ck_S1 p2_s217_s ck_S0) ck_E0⟩ ck_X0 ck_l0 (by decide +kernel)
set_option maxRecDepth 100000 in
/-- GlacierMailModel.readLast -/
noncomputable def p2_s219 : ck_Sum := ((4, 0, 0), 245, [.inr (.inr (.inl 226))], ([], [], zl68), ([(226, 9, 9), (226, 11, 11), (227, 1, 1), (227, 10, 10)], []), [(.inr (some (.inl (ck_one 0))), 245, ([], [], [(226, 9, 9, (0, 400, [(1000001, 0)]))])), (.inr (some (.inl (ck_one 1))), 245, ([], [], [(227, 10, 10, ck_one 10), (227, 1, 1, (10, 99, [])), (226, 9, 9, (0, 400, [(1000001, 0)])), (226, 11, 11, (0, 400, [(1000001, 0)]))]))])
set_option maxRecDepth 100000 in
theorem p2_s219_s {X : Int → Int} {LX : Nat} : ck_Ok p2_O X LX 257 p2_s219 := ck_ok_s (O := p2_O) (X := X) (LX := LX) (E := [(252, [p2_s216]), (255, [p2_s218])]) (mi := 257) (cuts := []) (f := 114) (S := p2_s219) (lx := none) (XF := []) ⟨p2_nmu, ck_E1 (ck_S1 p2_s216_s ck_S0) (ck_E1 (ck_S1 p2_s218_s ck_S0) ck_E0)⟩ ck_X0 ck_l0 (by decide +kernel)
set_option maxRecDepth 100000 in
/-- GlacierMailModel.figures -/
noncomputable def p2_s220 : ck_Sum := ((2, 0, 0), 245, [.inr (.inr (.inl 226)), .inl (ck_one 1), .inl (ck_one 6), .inl (ck_one 4)], ([], [], [(226, 9, 9, (0, 400, [(1, 0)]))]), ([(226, 9, 9), (226, 11, 11)], []), zl69)
set_option maxRecDepth 100000 in
theorem p2_s220_s {X : Int → Int} {LX : Nat} : ck_Ok p2_O X LX 256 p2_s220 := ck_ok_s (O := p2_O) (X := X) (LX := LX) (E := [(245, [p2_s148]), (246, [p2_s161])]) (mi := 256) (cuts := [(7, [some (.inr (.inr (.inl 226))), some (.inl (ck_one 1)), some (.inl (ck_one 6)), some (.inl (ck_one 4)), some (.inl ((-2147483648), 2147483647, []))], ([], [], [(226, 11, 11, (0, 400, [(1000001, 0)])), (226, 9, 9, (0, 400, [(1000001, 0)]))]), 100, .inr (226, 9), true)]) (f := 222) (S := p2_s220) (lx := none) (XF := []) ⟨p2_nmu, ck_E1 (ck_S1 p2_s148_s ck_S0) (ck_E1 (ck_S1 p2_s161_s ck_S0) ck_E0)⟩ ck_X0 ck_l0 (by decide +kernel)
set_option maxRecDepth 100000 in
/-- GlacierMailModel.number -/
noncomputable def p2_s221 : ck_Sum := ((3, 0, 0), 245, [.inr (.inr (.inl 226)), .inl (ck_one 1), .inl (ck_one 6)], ([], [], [(226, 9, 9, (0, 400, [(1, 0)]))]), ([(226, 9, 9), (226, 11, 11)], []), zl69)
set_option maxRecDepth 100000 in
theorem p2_s221_s {X : Int → Int} {LX : Nat} : ck_Ok p2_O X LX 255 p2_s221 := ck_ok_s (O := p2_O) (X := X) (LX := LX) (E := [(256, [p2_s220])]) (mi := 255) (cuts := []) (f := 82) (S := p2_s221) (lx := none) (XF := []) ⟨p2_nmu, ck_E1 (ck_S1 p2_s220_s ck_S0) ck_E0⟩ ck_X0 ck_l0 (by decide +kernel)
set_option maxRecDepth 100000 in
/-- GlacierMailModel.readLanes -/
noncomputable def p2_s222 : ck_Sum := ((4, 0, 0), 245, [.inr (.inr (.inl 226))], ([], [], zl68), ([(226, 9, 9), (226, 11, 11), (227, 0, 0), (227, 12, 12)], []), [(.inr (some (.inl (ck_one 0))), 245, ([], [], [(226, 9, 9, (0, 400, [(1000001, 0)]))])), (.inr (some (.inl (ck_one 1))), 245, ([], [], [(227, 12, 12, (1, 6, [])), (227, 0, 0, (1, 6, [])), (226, 9, 9, (0, 400, [(1000001, 0)])), (226, 11, 11, (0, 400, [(1000001, 0)]))]))])
set_option maxRecDepth 100000 in
theorem p2_s222_s {X : Int → Int} {LX : Nat} : ck_Ok p2_O X LX 251 p2_s222 := ck_ok_s (O := p2_O) (X := X) (LX := LX) (E := [(252, [p2_s216]), (255, [p2_s221])]) (mi := 251) (cuts := []) (f := 114) (S := p2_s222) (lx := none) (XF := []) ⟨p2_nmu, ck_E1 (ck_S1 p2_s216_s ck_S0) (ck_E1 (ck_S1 p2_s221_s ck_S0) ck_E0)⟩ ck_X0 ck_l0 (by decide +kernel)
set_option maxRecDepth 100000 in
/-- GlacierMailModel.readValleyLine -/
noncomputable def p2_s223 : ck_Sum := ((9, 0, 0), 245, [.inr (.inr (.inl 226))], ([], [], zl70), (zl71, []), zl72)
set_option maxRecDepth 100000 in
theorem p2_s223_s {X : Int → Int} {LX : Nat} : ck_Ok p2_O X LX 249 p2_s223 := ck_ok_s (O := p2_O) (X := X) (LX := LX) (E := [(250, [p2_s151, p2_s152, p2_s153, p2_s154, p2_s155, p2_s156, p2_s157, p2_s158, p2_s159, p2_s160]), (255, [p2_s163, p2_s165]), (261, [p2_s166]), (273, [p2_s175]), (270, [p2_s185]), (267, [p2_s189]), (265, [p2_s195]), (262, [p2_s200]), (258, [p2_s215]), (257, [p2_s219]), (251, [p2_s222])]) (mi := 249) (cuts := []) (f := 192) (S := p2_s223) (lx := none) (XF := []) ⟨p2_nmu, ck_E1 (ck_S1 p2_s151_s (ck_S1 p2_s152_s (ck_S1 p2_s153_s (ck_S1 p2_s154_s (ck_S1 p2_s155_s (ck_S1 p2_s156_s (ck_S1 p2_s157_s (ck_S1 p2_s158_s (ck_S1 p2_s159_s (ck_S1 p2_s160_s ck_S0)))))))))) (ck_E1 (ck_S1 p2_s163_s (ck_S1 p2_s165_s ck_S0)) (ck_E1 (ck_S1 p2_s166_s ck_S0) (ck_E1 (ck_S1 p2_s175_s ck_S0) (ck_E1 (ck_S1 p2_s185_s ck_S0) (ck_E1 (ck_S1 p2_s189_s ck_S0) (ck_E1 (ck_S1 p2_s195_s ck_S0) (ck_E1 (ck_S1 p2_s200_s ck_S0) (ck_E1 (ck_S1 p2_s215_s ck_S0) (ck_E1 (ck_S1 p2_s219_s ck_S0) (ck_E1 (ck_S1 p2_s222_s ck_S0) ck_E0))))))))))⟩ ck_X0 ck_l0 (by decide +kernel)
set_option maxRecDepth 100000 in
/-- GlacierMailModel.readLine -/
noncomputable def p2_s224 : ck_Sum := ((10, 0, 0), 245, [.inr (.inr (.inl 226)), .inl (ck_one 1), .inl (ck_one 0)], ([], [], zl70), (zl71, []), zl72)
set_option maxRecDepth 100000 in
theorem p2_s224_s {X : Int → Int} {LX : Nat} : ck_Ok p2_O X LX 247 p2_s224 := ck_ok_s (O := p2_O) (X := X) (LX := LX) (E := [(248, [p2_s150]), (249, [p2_s223])]) (mi := 247) (cuts := []) (f := 104) (S := p2_s224) (lx := none) (XF := []) ⟨p2_nmu, ck_E1 (ck_S1 p2_s150_s ck_S0) (ck_E1 (ck_S1 p2_s223_s ck_S0) ck_E0)⟩ ck_X0 ck_l0 (by decide +kernel)
set_option maxRecDepth 100000 in
/-- GlacierMailModel.readLine -/
noncomputable def p2_s225 : ck_Sum := ((10, 0, 0), 245, [.inr (.inr (.inl 226)), .inl (ck_one 1), .inl (ck_one 1)], ([], [], zl70), (zl71, []), zl72)
set_option maxRecDepth 100000 in
theorem p2_s225_s {X : Int → Int} {LX : Nat} : ck_Ok p2_O X LX 247 p2_s225 := ck_ok_s (O := p2_O) (X := X) (LX := LX) (E := [(248, [p2_s150]), (249, [p2_s223])]) (mi := 247) (cuts := []) (f := 104) (S := p2_s225) (lx := none) (XF := []) ⟨p2_nmu, ck_E1 (ck_S1 p2_s150_s ck_S0) (ck_E1 (ck_S1 p2_s223_s ck_S0) ck_E0)⟩ ck_X0 ck_l0 (by decide +kernel)
set_option maxRecDepth 100000 in
/-- GlacierMailModel.readLine -/
noncomputable def p2_s226 : ck_Sum := ((10, 0, 0), 245, [.inr (.inr (.inl 226)), .inl (ck_one 1), .inl (ck_one 2)], ([], [], zl70), (zl71, []), zl72)
set_option maxRecDepth 100000 in
theorem p2_s226_s {X : Int → Int} {LX : Nat} : ck_Ok p2_O X LX 247 p2_s226 := ck_ok_s (O := p2_O) (X := X) (LX := LX) (E := [(248, [p2_s150]), (249, [p2_s223])]) (mi := 247) (cuts := []) (f := 104) (S := p2_s226) (lx := none) (XF := []) ⟨p2_nmu, ck_E1 (ck_S1 p2_s150_s ck_S0) (ck_E1 (ck_S1 p2_s223_s ck_S0) ck_E0)⟩ ck_X0 ck_l0 (by decide +kernel)
set_option maxRecDepth 100000 in
/-- GlacierMailModel.readLine -/
noncomputable def p2_s227 : ck_Sum := ((10, 0, 0), 245, [.inr (.inr (.inl 226)), .inl (ck_one 1), .inl (ck_one 3)], ([], [], zl70), (zl71, []), zl72)
set_option maxRecDepth 100000 in
theorem p2_s227_s {X : Int → Int} {LX : Nat} : ck_Ok p2_O X LX 247 p2_s227 := ck_ok_s (O := p2_O) (X := X) (LX := LX) (E := [(248, [p2_s150]), (249, [p2_s223])]) (mi := 247) (cuts := []) (f := 104) (S := p2_s227) (lx := none) (XF := []) ⟨p2_nmu, ck_E1 (ck_S1 p2_s150_s ck_S0) (ck_E1 (ck_S1 p2_s223_s ck_S0) ck_E0)⟩ ck_X0 ck_l0 (by decide +kernel)
set_option maxRecDepth 100000 in
/-- GlacierMailModel.readLine -/
noncomputable def p2_s228 : ck_Sum := ((10, 0, 0), 245, [.inr (.inr (.inl 226)), .inl (ck_one 1), .inl (ck_one 4)], ([], [], zl70), (zl71, []), zl72)
set_option maxRecDepth 100000 in
theorem p2_s228_s {X : Int → Int} {LX : Nat} : ck_Ok p2_O X LX 247 p2_s228 := ck_ok_s (O := p2_O) (X := X) (LX := LX) (E := [(248, [p2_s150]), (249, [p2_s223])]) (mi := 247) (cuts := []) (f := 104) (S := p2_s228) (lx := none) (XF := []) ⟨p2_nmu, ck_E1 (ck_S1 p2_s150_s ck_S0) (ck_E1 (ck_S1 p2_s223_s ck_S0) ck_E0)⟩ ck_X0 ck_l0 (by decide +kernel)
set_option maxRecDepth 100000 in
/-- GlacierMailModel.readLine -/
noncomputable def p2_s229 : ck_Sum := ((10, 0, 0), 245, [.inr (.inr (.inl 226)), .inl (ck_one 1), .inl (ck_one 5)], ([], [], zl70), (zl71, []), zl72)
set_option maxRecDepth 100000 in
theorem p2_s229_s {X : Int → Int} {LX : Nat} : ck_Ok p2_O X LX 247 p2_s229 := ck_ok_s (O := p2_O) (X := X) (LX := LX) (E := [(248, [p2_s150]), (249, [p2_s223])]) (mi := 247) (cuts := []) (f := 104) (S := p2_s229) (lx := none) (XF := []) ⟨p2_nmu, ck_E1 (ck_S1 p2_s150_s ck_S0) (ck_E1 (ck_S1 p2_s223_s ck_S0) ck_E0)⟩ ck_X0 ck_l0 (by decide +kernel)
set_option maxRecDepth 100000 in
/-- GlacierMailModel.readLine -/
noncomputable def p2_s230 : ck_Sum := ((10, 0, 0), 245, [.inr (.inr (.inl 226)), .inl (ck_one 1), .inl (ck_one 6)], ([], [], zl70), (zl71, []), zl72)
set_option maxRecDepth 100000 in
theorem p2_s230_s {X : Int → Int} {LX : Nat} : ck_Ok p2_O X LX 247 p2_s230 := ck_ok_s (O := p2_O) (X := X) (LX := LX) (E := [(248, [p2_s150]), (249, [p2_s223])]) (mi := 247) (cuts := []) (f := 104) (S := p2_s230) (lx := none) (XF := []) ⟨p2_nmu, ck_E1 (ck_S1 p2_s150_s ck_S0) (ck_E1 (ck_S1 p2_s223_s ck_S0) ck_E0)⟩ ck_X0 ck_l0 (by decide +kernel)
set_option maxRecDepth 100000 in
/-- GlacierMailModel.readLine -/
noncomputable def p2_s231 : ck_Sum := ((10, 0, 0), 245, [.inr (.inr (.inl 226)), .inl (ck_one 1), .inl (ck_one 7)], ([], [], zl70), (zl71, []), zl72)
set_option maxRecDepth 100000 in
theorem p2_s231_s {X : Int → Int} {LX : Nat} : ck_Ok p2_O X LX 247 p2_s231 := ck_ok_s (O := p2_O) (X := X) (LX := LX) (E := [(248, [p2_s150]), (249, [p2_s223])]) (mi := 247) (cuts := []) (f := 104) (S := p2_s231) (lx := none) (XF := []) ⟨p2_nmu, ck_E1 (ck_S1 p2_s150_s ck_S0) (ck_E1 (ck_S1 p2_s223_s ck_S0) ck_E0)⟩ ck_X0 ck_l0 (by decide +kernel)
set_option maxRecDepth 100000 in
/-- GlacierMailModel.readLine -/
noncomputable def p2_s232 : ck_Sum := ((10, 0, 0), 245, [.inr (.inr (.inl 226)), .inl (ck_one 1), .inl (ck_one 8)], ([], [], zl70), (zl71, []), zl72)
set_option maxRecDepth 100000 in
theorem p2_s232_s {X : Int → Int} {LX : Nat} : ck_Ok p2_O X LX 247 p2_s232 := ck_ok_s (O := p2_O) (X := X) (LX := LX) (E := [(248, [p2_s150]), (249, [p2_s223])]) (mi := 247) (cuts := []) (f := 104) (S := p2_s232) (lx := none) (XF := []) ⟨p2_nmu, ck_E1 (ck_S1 p2_s150_s ck_S0) (ck_E1 (ck_S1 p2_s223_s ck_S0) ck_E0)⟩ ck_X0 ck_l0 (by decide +kernel)
set_option maxRecDepth 100000 in
/-- GlacierMailModel.readLine -/
noncomputable def p2_s233 : ck_Sum := ((10, 0, 0), 245, [.inr (.inr (.inl 226)), .inl (ck_one 1), .inl (ck_one 9)], ([], [], zl70), (zl71, []), zl72)
set_option maxRecDepth 100000 in
theorem p2_s233_s {X : Int → Int} {LX : Nat} : ck_Ok p2_O X LX 247 p2_s233 := ck_ok_s (O := p2_O) (X := X) (LX := LX) (E := [(248, [p2_s150]), (249, [p2_s223])]) (mi := 247) (cuts := []) (f := 104) (S := p2_s233) (lx := none) (XF := []) ⟨p2_nmu, ck_E1 (ck_S1 p2_s150_s ck_S0) (ck_E1 (ck_S1 p2_s223_s ck_S0) ck_E0)⟩ ck_X0 ck_l0 (by decide +kernel)
set_option maxRecDepth 100000 in
/-- GlacierMailModel.readLine -/
noncomputable def p2_s234 : ck_Sum := ((10, 0, 0), 245, [.inr (.inr (.inl 226)), .inl (ck_one 1), .inl (ck_one 10)], ([], [], zl70), (zl71, []), zl72)
set_option maxRecDepth 100000 in
theorem p2_s234_s {X : Int → Int} {LX : Nat} : ck_Ok p2_O X LX 247 p2_s234 := ck_ok_s (O := p2_O) (X := X) (LX := LX) (E := [(248, [p2_s150]), (249, [p2_s223])]) (mi := 247) (cuts := []) (f := 104) (S := p2_s234) (lx := none) (XF := []) ⟨p2_nmu, ck_E1 (ck_S1 p2_s150_s ck_S0) (ck_E1 (ck_S1 p2_s223_s ck_S0) ck_E0)⟩ ck_X0 ck_l0 (by decide +kernel)
set_option maxRecDepth 100000 in
/-- GlacierMailModel.readLine -/
noncomputable def p2_s235 : ck_Sum := ((10, 0, 0), 245, [.inr (.inr (.inl 226)), .inl (ck_one 1), .inl (ck_one 11)], ([], [], zl70), (zl71, []), zl72)
set_option maxRecDepth 100000 in
theorem p2_s235_s {X : Int → Int} {LX : Nat} : ck_Ok p2_O X LX 247 p2_s235 := ck_ok_s (O := p2_O) (X := X) (LX := LX) (E := [(248, [p2_s150]), (249, [p2_s223])]) (mi := 247) (cuts := []) (f := 104) (S := p2_s235) (lx := none) (XF := []) ⟨p2_nmu, ck_E1 (ck_S1 p2_s150_s ck_S0) (ck_E1 (ck_S1 p2_s223_s ck_S0) ck_E0)⟩ ck_X0 ck_l0 (by decide +kernel)
set_option maxRecDepth 100000 in
/-- GlacierMailModel.readLine -/
noncomputable def p2_s236 : ck_Sum := ((10, 0, 0), 245, [.inr (.inr (.inl 226)), .inl (ck_one 1), .inl (ck_one 12)], ([], [], zl70), (zl71, []), zl72)
set_option maxRecDepth 100000 in
theorem p2_s236_s {X : Int → Int} {LX : Nat} : ck_Ok p2_O X LX 247 p2_s236 := ck_ok_s (O := p2_O) (X := X) (LX := LX) (E := [(248, [p2_s150]), (249, [p2_s223])]) (mi := 247) (cuts := []) (f := 104) (S := p2_s236) (lx := none) (XF := []) ⟨p2_nmu, ck_E1 (ck_S1 p2_s150_s ck_S0) (ck_E1 (ck_S1 p2_s223_s ck_S0) ck_E0)⟩ ck_X0 ck_l0 (by decide +kernel)
set_option maxRecDepth 100000 in
/-- GlacierMailModel.readLine -/
noncomputable def p2_s237 : ck_Sum := ((10, 0, 0), 245, [.inr (.inr (.inl 226)), .inl (ck_one 1), .inl (ck_one 13)], ([], [], zl70), (zl71, []), zl72)
set_option maxRecDepth 100000 in
theorem p2_s237_s {X : Int → Int} {LX : Nat} : ck_Ok p2_O X LX 247 p2_s237 := ck_ok_s (O := p2_O) (X := X) (LX := LX) (E := [(248, [p2_s150]), (249, [p2_s223])]) (mi := 247) (cuts := []) (f := 104) (S := p2_s237) (lx := none) (XF := []) ⟨p2_nmu, ck_E1 (ck_S1 p2_s150_s ck_S0) (ck_E1 (ck_S1 p2_s223_s ck_S0) ck_E0)⟩ ck_X0 ck_l0 (by decide +kernel)
set_option maxRecDepth 100000 in
/-- GlacierMailModel.readLine -/
noncomputable def p2_s238 : ck_Sum := ((3, 0, 0), 245, [.inr (.inr (.inl 226)), .inl (ck_one 1), .inl (ck_one 14)], ([], [], [(226, 9, 9, (0, 400, [(1, 0)]))]), ([(226, 9, 9), (226, 11, 11)], []), [(.inr (some (.inl (ck_one 0))), 245, ([], [], zl51))])
set_option maxRecDepth 100000 in
theorem p2_s238_s {X : Int → Int} {LX : Nat} : ck_Ok p2_O X LX 247 p2_s238 := ck_ok_s (O := p2_O) (X := X) (LX := LX) (E := [(248, [p2_s150])]) (mi := 247) (cuts := []) (f := 90) (S := p2_s238) (lx := none) (XF := []) ⟨p2_nmu, ck_E1 (ck_S1 p2_s150_s ck_S0) ck_E0⟩ ck_X0 ck_l0 (by decide +kernel)
set_option maxRecDepth 100000 in
/-- GlacierMailModel.isAt -/
noncomputable def p2_s239 : ck_Sum := ((0, 0, 0), 245, [.inr (.inr (.inl 226)), .inl (ck_one 59), .inl (ck_one 59)], ([], [], [(226, 9, 9, (0, 400, [(1, 0)]))]), ([], []), zl50)
set_option maxRecDepth 100000 in
theorem p2_s239_s {X : Int → Int} {LX : Nat} : ck_Ok p2_O X LX 246 p2_s239 := ck_ok_s (O := p2_O) (X := X) (LX := LX) (E := []) (mi := 246) (cuts := []) (f := 114) (S := p2_s239) (lx := none) (XF := []) ⟨p2_nmu, ck_E0⟩ ck_X0 ck_l0 (by decide +kernel)
set_option maxRecDepth 100000 in
/-- GlacierMailModel.readAll -/
noncomputable def p2_s240 : ck_Sum := ((11, 0, 0), 245, [.inr (.inr (.inl 226)), .inl (ck_one 1)], ([], [], [(227, 2, 2, (0, 8, [(20, 0)])), (227, 3, 3, (0, 8, [(21, 0)])), (227, 4, 4, (0, 24, [(22, 0)])), (227, 5, 5, (0, 8, [(23, 0)])), (227, 6, 6, (0, 6, [(24, 0)])), (226, 9, 9, (0, 400, [(1, 0)])), (226, 8, 8, (0, 400, [(7, 0)])), (227, 9, 9, (0, 299, [(11, 0)]))]), ([(226, 0, 0), (226, 8, 11), (226, 15, 15), (227, 0, 6), (227, 10, 13), (227, 15, 322)], []), [(.inr (some (.inl (ck_one (-1)))), 245, ([], [], zl73)), (.inr (some (.inl (0, 14, []))), 245, ([], [], zl73))])
set_option maxRecDepth 100000 in
theorem p2_s240_s {X : Int → Int} {LX : Nat} : ck_Ok p2_O X LX 243 p2_s240 := ck_ok_s (O := p2_O) (X := X) (LX := LX) (E := [(244, [p2_s146]), (245, [p2_s148]), (247, [p2_s224, p2_s225, p2_s226, p2_s227, p2_s228, p2_s229, p2_s230, p2_s231, p2_s232, p2_s233, p2_s234, p2_s235, p2_s236, p2_s237, p2_s238]), (246, [p2_s239])]) (mi := 243) (cuts := []) (f := 812) (S := p2_s240) (lx := none) (XF := []) ⟨p2_nmu, ck_E1 (ck_S1 p2_s146_s ck_S0) (ck_E1 (ck_S1 p2_s148_s ck_S0) (ck_E1 (ck_S1 p2_s224_s (ck_S1 p2_s225_s (ck_S1 p2_s226_s (ck_S1 p2_s227_s (ck_S1 p2_s228_s (ck_S1 p2_s229_s (ck_S1 p2_s230_s (ck_S1 p2_s231_s (ck_S1 p2_s232_s (ck_S1 p2_s233_s (ck_S1 p2_s234_s (ck_S1 p2_s235_s (ck_S1 p2_s236_s (ck_S1 p2_s237_s (ck_S1 p2_s238_s ck_S0))))))))))))))) (ck_E1 (ck_S1 p2_s239_s ck_S0) ck_E0)))⟩ ck_X0 ck_l0 (by decide +kernel)
set_option maxRecDepth 100000 in
/-- GlacierMailModel.throwsIf -/
noncomputable def p2_s241 : ck_Sum := ((0, 0, 0), 245, [.inr (.inr (.inl 226)), .inl (ck_one 1), .inl (ck_one 1)], ([], [], []), ([(226, 0, 0)], []), [(.inr (some (.inl (ck_one 1))), 245, ([], [], [(226, 0, 0, ck_one 1)]))])
set_option maxRecDepth 100000 in
theorem p2_s241_s {X : Int → Int} {LX : Nat} : ck_Ok p2_O X LX 282 p2_s241 := ck_ok_s (O := p2_O) (X := X) (LX := LX) (E := []) (mi := 282) (cuts := []) (f := 84) (S := p2_s241) (lx := none) (XF := []) ⟨p2_nmu, ck_E0⟩ ck_X0 ck_l0 (by decide +kernel)
set_option maxRecDepth 100000 in
/-- GlacierMailModel.throwsIf -/
noncomputable def p2_s242 : ck_Sum := ((0, 0, 0), 245, [.inr (.inr (.inl 226)), .inl (ck_one 0), .inl (ck_one 1)], ([], [], []), ([], []), [(.inr (some (.inl (ck_one 0))), 245, ([], [], []))])
set_option maxRecDepth 100000 in
theorem p2_s242_s {X : Int → Int} {LX : Nat} : ck_Ok p2_O X LX 282 p2_s242 := ck_ok_s (O := p2_O) (X := X) (LX := LX) (E := []) (mi := 282) (cuts := []) (f := 78) (S := p2_s242) (lx := none) (XF := []) ⟨p2_nmu, ck_E0⟩ ck_X0 ck_l0 (by decide +kernel)
set_option maxRecDepth 100000 in
/-- GlacierMailModel.throwsIf -/
noncomputable def p2_s243 : ck_Sum := ((0, 0, 0), 245, [.inr (.inr (.inl 226)), .inl (ck_one 0), .inl (ck_one 2)], ([], [], []), ([], []), [(.inr (some (.inl (ck_one 0))), 245, ([], [], []))])
set_option maxRecDepth 100000 in
theorem p2_s243_s {X : Int → Int} {LX : Nat} : ck_Ok p2_O X LX 282 p2_s243 := ck_ok_s (O := p2_O) (X := X) (LX := LX) (E := []) (mi := 282) (cuts := []) (f := 78) (S := p2_s243) (lx := none) (XF := []) ⟨p2_nmu, ck_E0⟩ ck_X0 ck_l0 (by decide +kernel)
set_option maxRecDepth 100000 in
/-- GlacierMailModel.throwsIf -/
noncomputable def p2_s244 : ck_Sum := ((0, 0, 0), 245, [.inr (.inr (.inl 226)), .inl (ck_one 1), .inl (ck_one 2)], ([], [], []), ([(226, 0, 0)], []), [(.inr (some (.inl (ck_one 1))), 245, ([], [], [(226, 0, 0, ck_one 2)]))])
set_option maxRecDepth 100000 in
theorem p2_s244_s {X : Int → Int} {LX : Nat} : ck_Ok p2_O X LX 282 p2_s244 := ck_ok_s (O := p2_O) (X := X) (LX := LX) (E := []) (mi := 282) (cuts := []) (f := 84) (S := p2_s244) (lx := none) (XF := []) ⟨p2_nmu, ck_E0⟩ ck_X0 ck_l0 (by decide +kernel)
set_option maxRecDepth 100000 in
/-- GlacierMailModel.warms -/
noncomputable def p2_s245 : ck_Sum := ((0, 0, 0), 245, [.inr (.inr (.inl 226))], ([], [], []), ([(226, 26, 26), (234, 0, 299)], []), [(.inr none, 245, ([], [], [(226, 26, 26, ck_one (-1))]))])
set_option maxRecDepth 100000 in
theorem p2_s245_s {X : Int → Int} {LX : Nat} : ck_Ok p2_O X LX 235 p2_s245 := ck_ok_s (O := p2_O) (X := X) (LX := LX) (E := []) (mi := 235) (cuts := [(10, [some (.inr (.inr (.inl 226))), some (.inl ((-2147483648), 2147483647, [])), some (.inl (0, 300, []))], ([], [], []), 100, .inl 2, true)]) (f := 182) (S := p2_s245) (lx := none) (XF := []) ⟨p2_nmu, ck_E0⟩ ck_X0 ck_l0 (by decide +kernel)
set_option maxRecDepth 100000 in
/-- GlacierMailModel.valley -/
noncomputable def p2_s246 : ck_Sum := ((12, 0, 0), 245, [.inr (.inr (.inl 226))], ([], [], [(227, 2, 2, (0, 8, [(20, 0)])), (227, 3, 3, (0, 8, [(21, 0)])), (227, 4, 4, (0, 24, [(22, 0)])), (227, 5, 5, (0, 8, [(23, 0)])), (227, 6, 6, (0, 6, [(24, 0)])), (227, 7, 7, (0, 12, [(25, 0)])), (227, 14, 14, (0, 24, [(26, 0)])), (226, 6, 6, (0, 12, [(27, 0)])), (226, 9, 9, (0, 400, [(1, 0)])), (226, 15, 15, (0, 400, [(2, 0)])), (226, 8, 8, (0, 400, [(7, 0)])), (227, 9, 9, (0, 299, [(11, 0)]))]), ([(226, 0, 0), (226, 6, 6), (226, 8, 11), (226, 13, 13), (226, 15, 15), (226, 26, 26), (227, 0, 1243), (229, 0, 1243), (234, 0, 299)], []), [(.inr (some (.inl (0, 12, []))), 245, ([], [], [(226, 15, 15, ck_one 0), (226, 8, 8, ck_one 0), (226, 0, 0, (0, 2, []))]))])
noncomputable def p2_s246_E : List (Nat × List ck_Sum) := [(243, [p2_s240]), (282, [p2_s241, p2_s242, p2_s243, p2_s244]), (235, [p2_s245])]
set_option maxRecDepth 100000 in
noncomputable def p2_s246_C93 : ck_C := ([some (.inr (.inr (.inl 226))), some (.inl ((-1), 14, [])), some (.inl (ck_one 0))], ([], [], [(226, 0, 0, (1, 2, [])), (226, 13, 13, ((-1), 400, [])), (227, 4, 4, (0, 24, [(1000022, 0)])), (226, 15, 15, ck_one 0), (226, 8, 8, ck_one 0), (227, 7, 7, (0, 12, [(25, 0)])), (227, 14, 14, (0, 24, [(26, 0)])), (226, 6, 6, (0, 12, [(27, 0)])), (227, 9, 9, (0, 299, [(11, 0)]))]), 0, .inl 2, true)
set_option maxRecDepth 100000 in
noncomputable def p2_s246_C2 : ck_C := ([some (.inr (.inr (.inl 226))), some (.inl (ck_one 0)), none], ([], [], [(227, 2, 2, (0, 8, [(20, 0)])), (227, 3, 3, (0, 8, [(21, 0)])), (227, 4, 4, (0, 24, [(22, 0)])), (227, 5, 5, (0, 8, [(23, 0)])), (227, 6, 6, (0, 6, [(24, 0)])), (227, 7, 7, (0, 12, [(25, 0)])), (227, 14, 14, (0, 24, [(26, 0)])), (226, 6, 6, (0, 12, [(27, 0)])), (226, 9, 9, (0, 400, [(1, 0)])), (226, 15, 15, (0, 400, [(2, 0)])), (226, 8, 8, (0, 400, [(7, 0)])), (227, 9, 9, (0, 299, [(11, 0)]))]), 0, .inl 1, true)
set_option maxRecDepth 100000 in
noncomputable def p2_s246_Z : List (Nat × ck_C) := [(93, p2_s246_C93), (2, p2_s246_C2)]
set_option maxRecDepth 100000 in
theorem p2_s246_a : (decide (p2_s246.2.2.1.length ≤ gm_ml 242) && ck_go p2_O none [] p2_s246_E 242 p2_s246.1.1 p2_s246.2.1 p2_s246.2.2.2.2.1 p2_s246.2.2.2.2.2 p2_s246_Z 386 false [(93, p2_s246_C93, 0, 0, 245), (2, p2_s246_C2, 0, 0, 245)] p2_s246.1.2.1 p2_s246.1.2.2 0 (p2_s246.2.2.1.map some ++ List.replicate (gm_ml 242 - p2_s246.2.2.1.length) none) [] p2_s246.2.1 p2_s246.2.2.2.1) = true := by decide +kernel
theorem p2_s246_u : ck_cu p2_s246_Z = true := by decide +kernel
theorem p2_s246_h {X : Int → Int} {LX : Nat} : ck_nmu p2_O ∧ ck_OkE p2_O X LX p2_s246_E := ⟨p2_nmu, ck_E1 (ck_S1 p2_s240_s ck_S0) (ck_E1 (ck_S1 p2_s241_s (ck_S1 p2_s242_s (ck_S1 p2_s243_s (ck_S1 p2_s244_s ck_S0)))) (ck_E1 (ck_S1 p2_s245_s ck_S0) ck_E0))⟩
set_option maxRecDepth 100000 in
theorem p2_s246_g93 : ck_go p2_O none [] p2_s246_E 242 p2_s246.1.1 p2_s246.2.1 p2_s246.2.2.2.2.1 p2_s246.2.2.2.2.2 p2_s246_Z 386 false [] 0 0 118 (p2_s246_C93.1.set 2 (some (.inl (ck_one 1244)))) [] 245 (p2_s246_C93.2.1.1, p2_s246_C93.2.1.2.1, ck_cws [(227, 0, 1243)] p2_s246_C93.2.1.2.2) = true := by decide +kernel
set_option maxRecDepth 100000 in
theorem p2_s246_t93 : cp_tc p2_O 227 229 0 0 1244 = true := by decide +kernel
theorem p2_s246_y93 {X : Int → Int} {LX : Nat} {σ σ0 : Nat → Int} {K0 : gm_K} {R0 : gm_R} {M0 : gm_M} (hσ : ∀ s, s < 100 → σ s = σ0 s) : ck_Hy p2_O X LX 242 p2_s246.1.1 p2_s246.2.2.2.2.1 p2_s246.2.1 K0 R0 M0 (ck_Q p2_O σ0 p2_s246.2.2.2.2.1 p2_s246.2.1 K0 R0 M0 p2_s246.2.2.2.2.2) σ (93, p2_s246_C93, 0, 0, 245) := by
  refine ck_cpH (v := 2) (A := 227) (B := 229) (N := 1244) (wa := 0) (wb := 1243) (pc' := 118) p2_s246_u p2_s246_h hσ ⟨by decide, by decide⟩ (by decide +kernel) (fun bc bs L K R M hS => ?_) p2_s246_g93 (fun _ h => nomatch h)
  · obtain ⟨hF, hl, -, hf, -⟩ := hS
    obtain ⟨u0, l0, g0⟩ := hl.2 0 (.inr (.inr (.inl 226))) rfl
    cases g0
    obtain ⟨u1, lv, x1, rfl, -, e1, e2, -⟩ := hl.2 2 (.inl (ck_one 0)) rfl
    have e1 : (0 : Int) ≤ x1 := e1
    have e2 : x1 ≤ (0 : Int) := e2
    have e3 : x1 = 0 := by omega
    subst e3
    obtain ⟨u2, l2, y2, rfl, -⟩ := hl.2 1 (.inl ((-1), 14, [])) rfl
    have kA : (K 227).2 = 2093 := (md_kd hF md_o.1.2).2
    have kB : (K 229).2 = 1244 := (md_kd hF md_o.2.1.2).2
    refine ⟨0, 0, ⟨by omega, by omega⟩, gm_Fx_cpy hF (cp_tc_s hF p2_s246_t93) (jj_again (K := K) hF.2.2.2.2), fun Q hx => ?_⟩
    exact cp_lp (iv := .iload_n 2) (v := 2) (ixA := 13) (ixB := 20) (jA := 1) (jB := 3) (A := 227) (B := 229) (mo := 226) (p := 93) (qA := 105) (qB := 110) (N := 1244) (offe := 21) (offb := (-22)) (by decide) (md_mo hF) (md_kd hF md_o.1.2).1 (md_kd hF md_o.2.1.2).1 (md_rf hF md_r.1.1) (md_rf hF md_r.2.1) (by decide +kernel) (by decide +kernel) (by decide +kernel) (by decide +kernel) ⟨by omega, ⟨by omega, by omega⟩, ⟨by omega, by omega⟩, by omega, by omega⟩ (fun e => absurd e (by decide)) (by decide) (by decide +kernel) l0 lv ⟨rfl, rfl⟩ ⟨gm_vi y2, l2, by simp [gm_sort]⟩ (by decide +kernel) (by decide +kernel) (by decide +kernel) (by decide) (by decide +kernel) (by decide +kernel) (cp_sg_i (iv := .iload_n 2) lv ⟨rfl, rfl⟩ (by decide +kernel)) (by decide +kernel) (by decide +kernel) (cp_sg_i (iv := .iload_n 2) lv ⟨rfl, rfl⟩ (by decide +kernel)) (by decide +kernel) (by decide +kernel) (by decide +kernel) (by decide +kernel) (by decide) (by decide) hx
set_option maxRecDepth 100000 in
theorem p2_s246_g2 : ck_go p2_O none [] p2_s246_E 242 p2_s246.1.1 p2_s246.2.1 p2_s246.2.2.2.2.1 p2_s246.2.2.2.2.2 p2_s246_Z 386 false [(93, p2_s246_C93, 0, 0, 245)] 0 0 27 (p2_s246_C2.1.set 1 (some (.inl (ck_one 1244)))) [] 245 (p2_s246_C2.2.1.1, p2_s246_C2.2.1.2.1, ck_cws [(229, 0, 1243)] p2_s246_C2.2.1.2.2) = true := by decide +kernel
set_option maxRecDepth 100000 in
theorem p2_s246_t2 : cp_tc p2_O 229 227 0 0 1244 = true := by decide +kernel
theorem p2_s246_y2 {X : Int → Int} {LX : Nat} {σ σ0 : Nat → Int} {K0 : gm_K} {R0 : gm_R} {M0 : gm_M} (hσ : ∀ s, s < 100 → σ s = σ0 s) : ck_Hy p2_O X LX 242 p2_s246.1.1 p2_s246.2.2.2.2.1 p2_s246.2.1 K0 R0 M0 (ck_Q p2_O σ0 p2_s246.2.2.2.2.1 p2_s246.2.1 K0 R0 M0 p2_s246.2.2.2.2.2) σ (2, p2_s246_C2, 0, 0, 245) := by
  refine ck_cpH (v := 1) (A := 229) (B := 227) (N := 1244) (wa := 0) (wb := 1243) (pc' := 27) p2_s246_u p2_s246_h hσ ⟨by decide, by decide⟩ (by decide +kernel) (fun bc bs L K R M hS => ?_) p2_s246_g2 (fun h hm => by
      rcases List.mem_cons.mp hm with rfl | hm
      · exact ⟨by unfold p2_s246_Z; exact List.mem_cons_self, p2_s246_y93 hσ⟩
      · cases hm)
  · obtain ⟨hF, hl, -, hf, -⟩ := hS
    obtain ⟨u0, l0, g0⟩ := hl.2 0 (.inr (.inr (.inl 226))) rfl
    cases g0
    obtain ⟨u1, lv, x1, rfl, -, e1, e2, -⟩ := hl.2 1 (.inl (ck_one 0)) rfl
    have e1 : (0 : Int) ≤ x1 := e1
    have e2 : x1 ≤ (0 : Int) := e2
    have e3 : x1 = 0 := by omega
    subst e3
    have kA : (K 229).2 = 1244 := (md_kd hF md_o.2.1.2).2
    have kB : (K 227).2 = 2093 := (md_kd hF md_o.1.2).2
    refine ⟨0, 0, ⟨by omega, by omega⟩, gm_Fx_cpy hF (cp_tc_s hF p2_s246_t2) (jj_before (K := K) hF.2.2.2.2), fun Q hx => ?_⟩
    exact cp_lp (iv := .iload_n 1) (v := 1) (ixA := 20) (ixB := 13) (jA := 3) (jB := 1) (A := 229) (B := 227) (mo := 226) (p := 2) (qA := 14) (qB := 19) (N := 1244) (offe := 21) (offb := (-22)) (by decide) (md_mo hF) (md_kd hF md_o.2.1.2).1 (md_kd hF md_o.1.2).1 (md_rf hF md_r.2.1) (md_rf hF md_r.1.1) (by decide +kernel) (by decide +kernel) (by decide +kernel) (by decide +kernel) ⟨by omega, ⟨by omega, by omega⟩, ⟨by omega, by omega⟩, by omega, by omega⟩ (fun e => absurd e (by decide)) (by decide) (by decide +kernel) l0 lv ⟨rfl, rfl⟩ ⟨gm_vr 226, l0, by simp [gm_sort]⟩ (by decide +kernel) (by decide +kernel) (by decide +kernel) (by decide) (by decide +kernel) (by decide +kernel) (cp_sg_i (iv := .iload_n 1) lv ⟨rfl, rfl⟩ (by decide +kernel)) (by decide +kernel) (by decide +kernel) (cp_sg_i (iv := .iload_n 1) lv ⟨rfl, rfl⟩ (by decide +kernel)) (by decide +kernel) (by decide +kernel) (by decide +kernel) (by decide +kernel) (by decide) (by decide) hx
theorem p2_s246_s {X : Int → Int} {LX : Nat} : ck_Ok p2_O X LX 242 p2_s246 := by
  refine ck_ok_st (cuts := p2_s246_Z) p2_s246_u p2_s246_h p2_s246_a (fun h hm => ?_)
  rcases List.mem_cons.mp hm with rfl | hm
  · exact ⟨by unfold p2_s246_Z; exact List.mem_cons_self, fun σ K0 R0 M0 => p2_s246_y93 (fun _ _ => rfl)⟩
  rcases List.mem_cons.mp hm with rfl | hm
  · exact ⟨by unfold p2_s246_Z; exact List.mem_cons_of_mem _ (List.mem_cons_self), fun σ K0 R0 M0 => p2_s246_y2 (fun _ _ => rfl)⟩
  cases hm
set_option maxRecDepth 100000 in
/-- GlacierMail.fault -/
noncomputable def p2_s247 : ck_Sum := ((0, 0, 0), 245, [.inr (.inr (.inl 1))], ([], [], []), ([], []), [(.inr (some (.inl (ck_one (-1)))), 245, ([], [], [(1, 2, 2, ck_one (-1))])), (.inr (some (.inl (0, 400, []))), 245, ([], [], [(1, 2, 2, (0, 400, []))]))])
set_option maxRecDepth 100000 in
theorem p2_s247_s {X : Int → Int} {LX : Nat} : ck_Ok p2_O X LX 22 p2_s247 := ck_ok_s (O := p2_O) (X := X) (LX := LX) (E := []) (mi := 22) (cuts := []) (f := 76) (S := p2_s247) (lx := none) (XF := []) ⟨p2_nmu, ck_E0⟩ ck_X0 ck_l0 (by decide +kernel)
set_option maxRecDepth 100000 in
/-- GlacierMailModel.fault -/
noncomputable def p2_s248 : ck_Sum := ((0, 0, 0), 245, [.inr (.inr (.inl 226))], ([], [], []), ([(226, 0, 0)], []), [(.inr (some (.inl (ck_one (-1)))), 245, ([], [], [(226, 13, 13, ck_one (-1)), (226, 0, 0, ck_one 0)])), (.inr (some (.inl (0, 400, []))), 245, ([], [], [(226, 13, 13, (0, 400, [])), (226, 0, 0, ck_one 0)]))])
set_option maxRecDepth 100000 in
theorem p2_s248_s {X : Int → Int} {LX : Nat} : ck_Ok p2_O X LX 241 p2_s248 := ck_ok_s (O := p2_O) (X := X) (LX := LX) (E := []) (mi := 241) (cuts := []) (f := 82) (S := p2_s248) (lx := none) (XF := []) ⟨p2_nmu, ck_E0⟩ ck_X0 ck_l0 (by decide +kernel)
set_option maxRecDepth 100000 in
/-- GlacierMail.needYear -/
noncomputable def p2_s249 : ck_Sum := ((6, 1, 6), 245, [.inr (.inr (.inl 1)), .inl ((-2147483648), (-1), [])], ([], [], []), ([], []), [(.inl 0, 245, ([], [], []))])
set_option maxRecDepth 100000 in
theorem p2_s249_s {X : Int → Int} {LX : Nat} : ck_Ok p2_O X LX 129 p2_s249 := ck_ok_s (O := p2_O) (X := X) (LX := LX) (E := []) (mi := 129) (cuts := []) (f := 76) (S := p2_s249) (lx := none) (XF := []) ⟨p2_nmu, ck_E0⟩ ck_X0 ck_l0 (by decide +kernel)
set_option maxRecDepth 100000 in
/-- GlacierMail.heat -/
noncomputable def p2_s250 : ck_Sum := ((7, 1, 6), 245, [.inr (.inr (.inl 1)), .inl ((-2147483648), (-1), [])], ([], [], []), ([], []), [(.inl 0, 245, ([], [], []))])
set_option maxRecDepth 100000 in
theorem p2_s250_s {X : Int → Int} {LX : Nat} : ck_Ok p2_O X LX 128 p2_s250 := ck_ok_s (O := p2_O) (X := X) (LX := LX) (E := [(129, [p2_s249])]) (mi := 128) (cuts := []) (f := 76) (S := p2_s250) (lx := none) (XF := []) ⟨p2_nmu, ck_E1 (ck_S1 p2_s249_s ck_S0) ck_E0⟩ ck_X0 ck_l0 (by decide +kernel)
set_option maxRecDepth 100000 in
/-- GlacierMail.needYear -/
noncomputable def p2_s251 : ck_Sum := ((6, 1, 6), 245, [.inr (.inr (.inl 1)), .inl (300, 2147483647, [])], ([], [], []), ([], []), [(.inl 0, 245, ([], [], []))])
set_option maxRecDepth 100000 in
theorem p2_s251_s {X : Int → Int} {LX : Nat} : ck_Ok p2_O X LX 129 p2_s251 := ck_ok_s (O := p2_O) (X := X) (LX := LX) (E := []) (mi := 129) (cuts := []) (f := 82) (S := p2_s251) (lx := none) (XF := []) ⟨p2_nmu, ck_E0⟩ ck_X0 ck_l0 (by decide +kernel)
set_option maxRecDepth 100000 in
/-- GlacierMail.heat -/
noncomputable def p2_s252 : ck_Sum := ((7, 1, 6), 245, [.inr (.inr (.inl 1)), .inl (300, 2147483647, [])], ([], [], []), ([], []), [(.inl 0, 245, ([], [], []))])
set_option maxRecDepth 100000 in
theorem p2_s252_s {X : Int → Int} {LX : Nat} : ck_Ok p2_O X LX 128 p2_s252 := ck_ok_s (O := p2_O) (X := X) (LX := LX) (E := [(129, [p2_s251])]) (mi := 128) (cuts := []) (f := 76) (S := p2_s252) (lx := none) (XF := []) ⟨p2_nmu, ck_E1 (ck_S1 p2_s251_s ck_S0) ck_E0⟩ ck_X0 ck_l0 (by decide +kernel)
set_option maxRecDepth 100000 in
/-- GlacierMail.needYear -/
noncomputable def p2_s253 : ck_Sum := ((0, 0, 0), 245, [.inr (.inr (.inl 1)), .inl (0, 299, [])], ([], [], []), ([], []), [(.inr none, 245, ([], [], []))])
set_option maxRecDepth 100000 in
theorem p2_s253_s {X : Int → Int} {LX : Nat} : ck_Ok p2_O X LX 129 p2_s253 := ck_ok_s (O := p2_O) (X := X) (LX := LX) (E := []) (mi := 129) (cuts := []) (f := 82) (S := p2_s253) (lx := none) (XF := []) ⟨p2_nmu, ck_E0⟩ ck_X0 ck_l0 (by decide +kernel)
set_option maxRecDepth 100000 in
/-- GlacierMail$Ice.heatIn -/
noncomputable def p2_s254 : ck_Sum := ((0, 0, 0), 245, [.inr (.inr (.inl 200)), .inl (0, 299, [])], ([], [], []), ([], []), [(.inr (some (.inl (0, 9, []))), 245, ([], [], []))])
set_option maxRecDepth 100000 in
theorem p2_s254_s {X : Int → Int} {LX : Nat} : ck_Ok p2_O X LX 34 p2_s254 := ck_ok_s (O := p2_O) (X := X) (LX := LX) (E := []) (mi := 34) (cuts := []) (f := 92) (S := p2_s254) (lx := none) (XF := []) ⟨p2_nmu, ck_E0⟩ ck_X0 ck_l0 (by decide +kernel)
set_option maxRecDepth 100000 in
/-- GlacierMail.heat -/
noncomputable def p2_s255 : ck_Sum := ((1, 0, 0), 245, [.inr (.inr (.inl 1)), .inl (0, 299, [])], ([], [], []), ([], []), [(.inr (some (.inl (0, 9, []))), 245, ([], [], []))])
set_option maxRecDepth 100000 in
theorem p2_s255_s {X : Int → Int} {LX : Nat} : ck_Ok p2_O X LX 128 p2_s255 := ck_ok_s (O := p2_O) (X := X) (LX := LX) (E := [(129, [p2_s253]), (34, [p2_s254])]) (mi := 128) (cuts := []) (f := 86) (S := p2_s255) (lx := none) (XF := []) ⟨p2_nmu, ck_E1 (ck_S1 p2_s253_s ck_S0) (ck_E1 (ck_S1 p2_s254_s ck_S0) ck_E0)⟩ ck_X0 ck_l0 (by decide +kernel)
set_option maxRecDepth 100000 in
/-- GlacierMailModel.in -/
noncomputable def p2_s256 : ck_Sum := ((0, 0, 0), 245, [.inl ((-2147483648), (-1), []), .inl (ck_one 0), .inl (ck_one 299)], ([], [], []), ([], []), [(.inr (some (.inl (ck_one 0))), 245, ([], [], []))])
set_option maxRecDepth 100000 in
theorem p2_s256_s {X : Int → Int} {LX : Nat} : ck_Ok p2_O X LX 286 p2_s256 := ck_ok_s (O := p2_O) (X := X) (LX := LX) (E := []) (mi := 286) (cuts := []) (f := 80) (S := p2_s256) (lx := none) (XF := []) ⟨p2_nmu, ck_E0⟩ ck_X0 ck_l0 (by decide +kernel)
set_option maxRecDepth 100000 in
/-- GlacierMailModel.noYear -/
noncomputable def p2_s257 : ck_Sum := ((1, 0, 0), 245, [.inl ((-2147483648), (-1), [])], ([], [], []), ([], []), [(.inr (some (.inl (ck_one 1))), 245, ([], [], []))])
set_option maxRecDepth 100000 in
theorem p2_s257_s {X : Int → Int} {LX : Nat} : ck_Ok p2_O X LX 285 p2_s257 := ck_ok_s (O := p2_O) (X := X) (LX := LX) (E := [(286, [p2_s256])]) (mi := 285) (cuts := []) (f := 86) (S := p2_s257) (lx := none) (XF := []) ⟨p2_nmu, ck_E1 (ck_S1 p2_s256_s ck_S0) ck_E0⟩ ck_X0 ck_l0 (by decide +kernel)
set_option maxRecDepth 100000 in
/-- GlacierMailModel.heat -/
noncomputable def p2_s258 : ck_Sum := ((2, 0, 0), 245, [.inr (.inr (.inl 226)), .inl ((-2147483648), (-1), [])], ([], [], []), ([(226, 0, 0)], []), [(.inr (some (.inl (ck_one 0))), 245, ([], [], [(226, 0, 0, ck_one 1)]))])
set_option maxRecDepth 100000 in
theorem p2_s258_s {X : Int → Int} {LX : Nat} : ck_Ok p2_O X LX 284 p2_s258 := ck_ok_s (O := p2_O) (X := X) (LX := LX) (E := [(285, [p2_s257]), (282, [p2_s241])]) (mi := 284) (cuts := []) (f := 94) (S := p2_s258) (lx := none) (XF := []) ⟨p2_nmu, ck_E1 (ck_S1 p2_s257_s ck_S0) (ck_E1 (ck_S1 p2_s241_s ck_S0) ck_E0)⟩ ck_X0 ck_l0 (by decide +kernel)
set_option maxRecDepth 100000 in
/-- GlacierMailModel.in -/
noncomputable def p2_s259 : ck_Sum := ((0, 0, 0), 245, [.inl (300, 2147483647, []), .inl (ck_one 0), .inl (ck_one 299)], ([], [], []), ([], []), [(.inr (some (.inl (ck_one 0))), 245, ([], [], []))])
set_option maxRecDepth 100000 in
theorem p2_s259_s {X : Int → Int} {LX : Nat} : ck_Ok p2_O X LX 286 p2_s259 := ck_ok_s (O := p2_O) (X := X) (LX := LX) (E := []) (mi := 286) (cuts := []) (f := 86) (S := p2_s259) (lx := none) (XF := []) ⟨p2_nmu, ck_E0⟩ ck_X0 ck_l0 (by decide +kernel)
set_option maxRecDepth 100000 in
/-- GlacierMailModel.noYear -/
noncomputable def p2_s260 : ck_Sum := ((1, 0, 0), 245, [.inl (300, 2147483647, [])], ([], [], []), ([], []), [(.inr (some (.inl (ck_one 1))), 245, ([], [], []))])
set_option maxRecDepth 100000 in
theorem p2_s260_s {X : Int → Int} {LX : Nat} : ck_Ok p2_O X LX 285 p2_s260 := ck_ok_s (O := p2_O) (X := X) (LX := LX) (E := [(286, [p2_s259])]) (mi := 285) (cuts := []) (f := 86) (S := p2_s260) (lx := none) (XF := []) ⟨p2_nmu, ck_E1 (ck_S1 p2_s259_s ck_S0) ck_E0⟩ ck_X0 ck_l0 (by decide +kernel)
set_option maxRecDepth 100000 in
/-- GlacierMailModel.heat -/
noncomputable def p2_s261 : ck_Sum := ((2, 0, 0), 245, [.inr (.inr (.inl 226)), .inl (300, 2147483647, [])], ([], [], []), ([(226, 0, 0)], []), [(.inr (some (.inl (ck_one 0))), 245, ([], [], [(226, 0, 0, ck_one 1)]))])
set_option maxRecDepth 100000 in
theorem p2_s261_s {X : Int → Int} {LX : Nat} : ck_Ok p2_O X LX 284 p2_s261 := ck_ok_s (O := p2_O) (X := X) (LX := LX) (E := [(285, [p2_s260]), (282, [p2_s241])]) (mi := 284) (cuts := []) (f := 94) (S := p2_s261) (lx := none) (XF := []) ⟨p2_nmu, ck_E1 (ck_S1 p2_s260_s ck_S0) (ck_E1 (ck_S1 p2_s241_s ck_S0) ck_E0)⟩ ck_X0 ck_l0 (by decide +kernel)
set_option maxRecDepth 100000 in
/-- GlacierMailModel.in -/
noncomputable def p2_s262 : ck_Sum := ((0, 0, 0), 245, [.inl (0, 299, []), .inl (ck_one 0), .inl (ck_one 299)], ([], [], []), ([], []), [(.inr (some (.inl (ck_one 1))), 245, ([], [], []))])
set_option maxRecDepth 100000 in
theorem p2_s262_s {X : Int → Int} {LX : Nat} : ck_Ok p2_O X LX 286 p2_s262 := ck_ok_s (O := p2_O) (X := X) (LX := LX) (E := []) (mi := 286) (cuts := []) (f := 88) (S := p2_s262) (lx := none) (XF := []) ⟨p2_nmu, ck_E0⟩ ck_X0 ck_l0 (by decide +kernel)
set_option maxRecDepth 100000 in
/-- GlacierMailModel.noYear -/
noncomputable def p2_s263 : ck_Sum := ((1, 0, 0), 245, [.inl (0, 299, [])], ([], [], []), ([], []), [(.inr (some (.inl (ck_one 0))), 245, ([], [], []))])
set_option maxRecDepth 100000 in
theorem p2_s263_s {X : Int → Int} {LX : Nat} : ck_Ok p2_O X LX 285 p2_s263 := ck_ok_s (O := p2_O) (X := X) (LX := LX) (E := [(286, [p2_s262])]) (mi := 285) (cuts := []) (f := 84) (S := p2_s263) (lx := none) (XF := []) ⟨p2_nmu, ck_E1 (ck_S1 p2_s262_s ck_S0) ck_E0⟩ ck_X0 ck_l0 (by decide +kernel)
set_option maxRecDepth 100000 in
/-- GlacierMailModel.heat -/
noncomputable def p2_s264 : ck_Sum := ((2, 0, 0), 245, [.inr (.inr (.inl 226)), .inl (0, 299, [])], ([], [], []), ([(226, 0, 0)], []), [(.inr (some (.inl (0, 9, []))), 245, ([], [], [(226, 0, 0, ck_one 0)]))])
set_option maxRecDepth 100000 in
theorem p2_s264_s {X : Int → Int} {LX : Nat} : ck_Ok p2_O X LX 284 p2_s264 := ck_ok_s (O := p2_O) (X := X) (LX := LX) (E := [(285, [p2_s263]), (282, [p2_s242])]) (mi := 284) (cuts := []) (f := 98) (S := p2_s264) (lx := none) (XF := []) ⟨p2_nmu, ck_E1 (ck_S1 p2_s263_s ck_S0) (ck_E1 (ck_S1 p2_s242_s ck_S0) ck_E0)⟩ ck_X0 ck_l0 (by decide +kernel)
set_option maxRecDepth 100000 in
/-- GlacierMail.need -/
noncomputable def p2_s265 : ck_Sum := ((6, 1, 6), 245, [.inr (.inr (.inl 1)), .inl ((-2147483648), (-1), []), .inl (1, 6, [])], ([], [], []), ([], []), [(.inl 3, 245, ([], [], []))])
set_option maxRecDepth 100000 in
theorem p2_s265_s {X : Int → Int} {LX : Nat} : ck_Ok p2_O X LX 133 p2_s265 := ck_ok_s (O := p2_O) (X := X) (LX := LX) (E := []) (mi := 133) (cuts := []) (f := 76) (S := p2_s265) (lx := none) (XF := []) ⟨p2_nmu, ck_E0⟩ ck_X0 ck_l0 (by decide +kernel)
set_option maxRecDepth 100000 in
/-- GlacierMail.needLane -/
noncomputable def p2_s266 : ck_Sum := ((7, 1, 6), 245, [.inr (.inr (.inl 1)), .inl ((-2147483648), (-1), [])], ([], [], []), ([], []), [(.inl 3, 245, ([], [], []))])
set_option maxRecDepth 100000 in
theorem p2_s266_s {X : Int → Int} {LX : Nat} : ck_Ok p2_O X LX 132 p2_s266 := ck_ok_s (O := p2_O) (X := X) (LX := LX) (E := [(133, [p2_s265])]) (mi := 132) (cuts := []) (f := 82) (S := p2_s266) (lx := none) (XF := []) ⟨p2_nmu, ck_E1 (ck_S1 p2_s265_s ck_S0) ck_E0⟩ ck_X0 ck_l0 (by decide +kernel)
set_option maxRecDepth 100000 in
/-- GlacierMail.speed -/
noncomputable def p2_s267 : ck_Sum := ((8, 1, 6), 245, [.inr (.inr (.inl 1)), .inl ((-2147483648), (-1), []), .inl ((-2147483648), 2147483647, [])], ([], [], []), ([], []), [(.inl 3, 245, ([], [], []))])
set_option maxRecDepth 100000 in
theorem p2_s267_s {X : Int → Int} {LX : Nat} : ck_Ok p2_O X LX 131 p2_s267 := ck_ok_s (O := p2_O) (X := X) (LX := LX) (E := [(132, [p2_s266])]) (mi := 131) (cuts := []) (f := 76) (S := p2_s267) (lx := none) (XF := []) ⟨p2_nmu, ck_E1 (ck_S1 p2_s266_s ck_S0) ck_E0⟩ ck_X0 ck_l0 (by decide +kernel)
set_option maxRecDepth 100000 in
/-- GlacierMail.need -/
noncomputable def p2_s268 : ck_Sum := ((6, 1, 6), 245, [.inr (.inr (.inl 1)), .inl (6, 2147483647, []), .inl (1, 6, [])], ([], [], []), ([], []), [(.inl 3, 245, ([], [], []))])
set_option maxRecDepth 100000 in
theorem p2_s268_s {X : Int → Int} {LX : Nat} : ck_Ok p2_O X LX 133 p2_s268 := ck_ok_s (O := p2_O) (X := X) (LX := LX) (E := []) (mi := 133) (cuts := []) (f := 82) (S := p2_s268) (lx := none) (XF := []) ⟨p2_nmu, ck_E0⟩ ck_X0 ck_l0 (by decide +kernel)
set_option maxRecDepth 100000 in
/-- GlacierMail.needLane -/
noncomputable def p2_s269 : ck_Sum := ((7, 1, 6), 245, [.inr (.inr (.inl 1)), .inl (6, 2147483647, [])], ([], [], []), ([], []), [(.inl 3, 245, ([], [], []))])
set_option maxRecDepth 100000 in
theorem p2_s269_s {X : Int → Int} {LX : Nat} : ck_Ok p2_O X LX 132 p2_s269 := ck_ok_s (O := p2_O) (X := X) (LX := LX) (E := [(133, [p2_s268])]) (mi := 132) (cuts := []) (f := 82) (S := p2_s269) (lx := none) (XF := []) ⟨p2_nmu, ck_E1 (ck_S1 p2_s268_s ck_S0) ck_E0⟩ ck_X0 ck_l0 (by decide +kernel)
end
/-! 78r80a03.sf -/
section
/-! EVERY CALL ENDS, whatever was done before (laid by wip/am/p2k.py). -/
set_option maxRecDepth 100000 in
/-- GlacierMail.speed -/
noncomputable def p2_s270 : ck_Sum := ((8, 1, 6), 245, [.inr (.inr (.inl 1)), .inl (6, 2147483647, []), .inl ((-2147483648), 2147483647, [])], ([], [], []), ([], []), [(.inl 3, 245, ([], [], []))])
set_option maxRecDepth 100000 in
theorem p2_s270_s {X : Int → Int} {LX : Nat} : ck_Ok p2_O X LX 131 p2_s270 := ck_ok_s (O := p2_O) (X := X) (LX := LX) (E := [(132, [p2_s269])]) (mi := 131) (cuts := []) (f := 76) (S := p2_s270) (lx := none) (XF := []) ⟨p2_nmu, ck_E1 (ck_S1 p2_s269_s ck_S0) ck_E0⟩ ck_X0 ck_l0 (by decide +kernel)
set_option maxRecDepth 100000 in
/-- GlacierMail.need -/
noncomputable def p2_s271 : ck_Sum := ((6, 1, 6), 245, [.inr (.inr (.inl 1)), .inl (0, 5, []), .inl (1, 6, [])], ([], [], []), ([], []), [(.inr none, 245, ([], [], [])), (.inl 3, 245, ([], [], []))])
set_option maxRecDepth 100000 in
theorem p2_s271_s {X : Int → Int} {LX : Nat} : ck_Ok p2_O X LX 133 p2_s271 := ck_ok_s (O := p2_O) (X := X) (LX := LX) (E := []) (mi := 133) (cuts := []) (f := 82) (S := p2_s271) (lx := none) (XF := []) ⟨p2_nmu, ck_E0⟩ ck_X0 ck_l0 (by decide +kernel)
set_option maxRecDepth 100000 in
/-- GlacierMail.needLane -/
noncomputable def p2_s272 : ck_Sum := ((7, 1, 6), 245, [.inr (.inr (.inl 1)), .inl (0, 5, [])], ([], [], []), ([], []), [(.inl 3, 245, ([], [], [])), (.inr none, 245, ([], [], []))])
set_option maxRecDepth 100000 in
theorem p2_s272_s {X : Int → Int} {LX : Nat} : ck_Ok p2_O X LX 132 p2_s272 := ck_ok_s (O := p2_O) (X := X) (LX := LX) (E := [(133, [p2_s271])]) (mi := 132) (cuts := []) (f := 84) (S := p2_s272) (lx := none) (XF := []) ⟨p2_nmu, ck_E1 (ck_S1 p2_s271_s ck_S0) ck_E0⟩ ck_X0 ck_l0 (by decide +kernel)
set_option maxRecDepth 100000 in
/-- GlacierMail.need -/
noncomputable def p2_s273 : ck_Sum := ((6, 1, 6), 245, [.inr (.inr (.inl 1)), .inl ((-2147483648), (-1), []), .inl (10, 99, [])], ([], [], []), ([], []), [(.inl 3, 245, ([], [], []))])
set_option maxRecDepth 100000 in
theorem p2_s273_s {X : Int → Int} {LX : Nat} : ck_Ok p2_O X LX 133 p2_s273 := ck_ok_s (O := p2_O) (X := X) (LX := LX) (E := []) (mi := 133) (cuts := []) (f := 76) (S := p2_s273) (lx := none) (XF := []) ⟨p2_nmu, ck_E0⟩ ck_X0 ck_l0 (by decide +kernel)
set_option maxRecDepth 100000 in
/-- GlacierMail.needRow -/
noncomputable def p2_s274 : ck_Sum := ((7, 1, 6), 245, [.inr (.inr (.inl 1)), .inl ((-2147483648), (-1), [])], ([], [], []), ([], []), [(.inl 3, 245, ([], [], []))])
set_option maxRecDepth 100000 in
theorem p2_s274_s {X : Int → Int} {LX : Nat} : ck_Ok p2_O X LX 134 p2_s274 := ck_ok_s (O := p2_O) (X := X) (LX := LX) (E := [(133, [p2_s273])]) (mi := 134) (cuts := []) (f := 82) (S := p2_s274) (lx := none) (XF := []) ⟨p2_nmu, ck_E1 (ck_S1 p2_s273_s ck_S0) ck_E0⟩ ck_X0 ck_l0 (by decide +kernel)
set_option maxRecDepth 100000 in
/-- GlacierMail.speed -/
noncomputable def p2_s275 : ck_Sum := ((8, 2, 12), 245, [.inr (.inr (.inl 1)), .inl (0, 5, []), .inl ((-2147483648), (-1), [])], ([], [], []), ([], []), [(.inl 3, 245, ([], [], []))])
set_option maxRecDepth 100000 in
theorem p2_s275_s {X : Int → Int} {LX : Nat} : ck_Ok p2_O X LX 131 p2_s275 := ck_ok_s (O := p2_O) (X := X) (LX := LX) (E := [(132, [p2_s272]), (134, [p2_s274])]) (mi := 131) (cuts := []) (f := 82) (S := p2_s275) (lx := none) (XF := []) ⟨p2_nmu, ck_E1 (ck_S1 p2_s272_s ck_S0) (ck_E1 (ck_S1 p2_s274_s ck_S0) ck_E0)⟩ ck_X0 ck_l0 (by decide +kernel)
set_option maxRecDepth 100000 in
/-- GlacierMail.need -/
noncomputable def p2_s276 : ck_Sum := ((6, 1, 6), 245, [.inr (.inr (.inl 1)), .inl (99, 2147483647, []), .inl (10, 99, [])], ([], [], []), ([], []), [(.inl 3, 245, ([], [], []))])
set_option maxRecDepth 100000 in
theorem p2_s276_s {X : Int → Int} {LX : Nat} : ck_Ok p2_O X LX 133 p2_s276 := ck_ok_s (O := p2_O) (X := X) (LX := LX) (E := []) (mi := 133) (cuts := []) (f := 82) (S := p2_s276) (lx := none) (XF := []) ⟨p2_nmu, ck_E0⟩ ck_X0 ck_l0 (by decide +kernel)
set_option maxRecDepth 100000 in
/-- GlacierMail.needRow -/
noncomputable def p2_s277 : ck_Sum := ((7, 1, 6), 245, [.inr (.inr (.inl 1)), .inl (99, 2147483647, [])], ([], [], []), ([], []), [(.inl 3, 245, ([], [], []))])
set_option maxRecDepth 100000 in
theorem p2_s277_s {X : Int → Int} {LX : Nat} : ck_Ok p2_O X LX 134 p2_s277 := ck_ok_s (O := p2_O) (X := X) (LX := LX) (E := [(133, [p2_s276])]) (mi := 134) (cuts := []) (f := 82) (S := p2_s277) (lx := none) (XF := []) ⟨p2_nmu, ck_E1 (ck_S1 p2_s276_s ck_S0) ck_E0⟩ ck_X0 ck_l0 (by decide +kernel)
set_option maxRecDepth 100000 in
/-- GlacierMail.speed -/
noncomputable def p2_s278 : ck_Sum := ((8, 2, 12), 245, [.inr (.inr (.inl 1)), .inl (0, 5, []), .inl (99, 2147483647, [])], ([], [], []), ([], []), [(.inl 3, 245, ([], [], []))])
set_option maxRecDepth 100000 in
theorem p2_s278_s {X : Int → Int} {LX : Nat} : ck_Ok p2_O X LX 131 p2_s278 := ck_ok_s (O := p2_O) (X := X) (LX := LX) (E := [(132, [p2_s272]), (134, [p2_s277])]) (mi := 131) (cuts := []) (f := 82) (S := p2_s278) (lx := none) (XF := []) ⟨p2_nmu, ck_E1 (ck_S1 p2_s272_s ck_S0) (ck_E1 (ck_S1 p2_s277_s ck_S0) ck_E0)⟩ ck_X0 ck_l0 (by decide +kernel)
set_option maxRecDepth 100000 in
/-- GlacierMail.need -/
noncomputable def p2_s279 : ck_Sum := ((6, 1, 6), 245, [.inr (.inr (.inl 1)), .inl (0, 98, []), .inl (10, 99, [])], ([], [], []), ([], []), [(.inr none, 245, ([], [], [])), (.inl 3, 245, ([], [], []))])
set_option maxRecDepth 100000 in
theorem p2_s279_s {X : Int → Int} {LX : Nat} : ck_Ok p2_O X LX 133 p2_s279 := ck_ok_s (O := p2_O) (X := X) (LX := LX) (E := []) (mi := 133) (cuts := []) (f := 82) (S := p2_s279) (lx := none) (XF := []) ⟨p2_nmu, ck_E0⟩ ck_X0 ck_l0 (by decide +kernel)
set_option maxRecDepth 100000 in
/-- GlacierMail.needRow -/
noncomputable def p2_s280 : ck_Sum := ((7, 1, 6), 245, [.inr (.inr (.inl 1)), .inl (0, 98, [])], ([], [], []), ([], []), [(.inl 3, 245, ([], [], [])), (.inr none, 245, ([], [], []))])
set_option maxRecDepth 100000 in
theorem p2_s280_s {X : Int → Int} {LX : Nat} : ck_Ok p2_O X LX 134 p2_s280 := ck_ok_s (O := p2_O) (X := X) (LX := LX) (E := [(133, [p2_s279])]) (mi := 134) (cuts := []) (f := 84) (S := p2_s280) (lx := none) (XF := []) ⟨p2_nmu, ck_E1 (ck_S1 p2_s279_s ck_S0) ck_E0⟩ ck_X0 ck_l0 (by decide +kernel)
set_option maxRecDepth 100000 in
/-- GlacierMail$Ice.speedAt -/
noncomputable def p2_s281 : ck_Sum := ((0, 0, 0), 245, [.inr (.inr (.inl 200)), .inl (0, 5, []), .inl (0, 98, [])], ([], [], []), ([], []), [(.inr (some (.inl ((-1), 98, []))), 245, ([], [], []))])
set_option maxRecDepth 100000 in
theorem p2_s281_s {X : Int → Int} {LX : Nat} : ck_Ok p2_O X LX 36 p2_s281 := ck_ok_s (O := p2_O) (X := X) (LX := LX) (E := []) (mi := 36) (cuts := []) (f := 108) (S := p2_s281) (lx := none) (XF := []) ⟨p2_nmu, ck_E0⟩ ck_X0 ck_l0 (by decide +kernel)
set_option maxRecDepth 100000 in
/-- GlacierMail.speed -/
noncomputable def p2_s282 : ck_Sum := ((8, 2, 12), 245, [.inr (.inr (.inl 1)), .inl (0, 5, []), .inl (0, 98, [])], ([], [], []), ([], []), [(.inl 3, 245, ([], [], [])), (.inr (some (.inl ((-1), 98, []))), 245, ([], [], []))])
set_option maxRecDepth 100000 in
theorem p2_s282_s {X : Int → Int} {LX : Nat} : ck_Ok p2_O X LX 131 p2_s282 := ck_ok_s (O := p2_O) (X := X) (LX := LX) (E := [(132, [p2_s272]), (134, [p2_s280]), (36, [p2_s281])]) (mi := 131) (cuts := []) (f := 94) (S := p2_s282) (lx := none) (XF := []) ⟨p2_nmu, ck_E1 (ck_S1 p2_s272_s ck_S0) (ck_E1 (ck_S1 p2_s280_s ck_S0) (ck_E1 (ck_S1 p2_s281_s ck_S0) ck_E0))⟩ ck_X0 ck_l0 (by decide +kernel)
set_option maxRecDepth 100000 in
/-- GlacierMailModel.in -/
noncomputable def p2_s283 : ck_Sum := ((0, 0, 0), 245, [.inl ((-2147483648), (-1), []), .inl (ck_one 0), .inl ((-1), 5, [])], ([], [], []), ([], []), [(.inr (some (.inl (ck_one 0))), 245, ([], [], []))])
set_option maxRecDepth 100000 in
theorem p2_s283_s {X : Int → Int} {LX : Nat} : ck_Ok p2_O X LX 286 p2_s283 := ck_ok_s (O := p2_O) (X := X) (LX := LX) (E := []) (mi := 286) (cuts := []) (f := 80) (S := p2_s283) (lx := none) (XF := []) ⟨p2_nmu, ck_E0⟩ ck_X0 ck_l0 (by decide +kernel)
set_option maxRecDepth 100000 in
/-- GlacierMailModel.noLane -/
noncomputable def p2_s284 : ck_Sum := ((1, 0, 0), 245, [.inr (.inr (.inl 226)), .inl ((-2147483648), (-1), [])], ([], [], []), ([], []), [(.inr (some (.inl (ck_one 1))), 245, ([], [], []))])
set_option maxRecDepth 100000 in
theorem p2_s284_s {X : Int → Int} {LX : Nat} : ck_Ok p2_O X LX 288 p2_s284 := ck_ok_s (O := p2_O) (X := X) (LX := LX) (E := [(261, [p2_s166]), (286, [p2_s283])]) (mi := 288) (cuts := []) (f := 92) (S := p2_s284) (lx := none) (XF := []) ⟨p2_nmu, ck_E1 (ck_S1 p2_s166_s ck_S0) (ck_E1 (ck_S1 p2_s283_s ck_S0) ck_E0)⟩ ck_X0 ck_l0 (by decide +kernel)
set_option maxRecDepth 100000 in
/-- GlacierMailModel.speed -/
noncomputable def p2_s285 : ck_Sum := ((2, 0, 0), 245, [.inr (.inr (.inl 226)), .inl ((-2147483648), (-1), []), .inl ((-2147483648), 2147483647, [])], ([], [], []), ([(226, 0, 0)], []), [(.inr (some (.inl (ck_one 0))), 245, ([], [], [(226, 0, 0, ck_one 1)]))])
set_option maxRecDepth 100000 in
theorem p2_s285_s {X : Int → Int} {LX : Nat} : ck_Ok p2_O X LX 287 p2_s285 := ck_ok_s (O := p2_O) (X := X) (LX := LX) (E := [(288, [p2_s284]), (282, [p2_s241])]) (mi := 287) (cuts := []) (f := 102) (S := p2_s285) (lx := none) (XF := []) ⟨p2_nmu, ck_E1 (ck_S1 p2_s284_s ck_S0) (ck_E1 (ck_S1 p2_s241_s ck_S0) ck_E0)⟩ ck_X0 ck_l0 (by decide +kernel)
set_option maxRecDepth 100000 in
/-- GlacierMailModel.in -/
noncomputable def p2_s286 : ck_Sum := ((0, 0, 0), 245, [.inl (6, 2147483647, []), .inl (ck_one 0), .inl ((-1), 5, [])], ([], [], []), ([], []), [(.inr (some (.inl (ck_one 0))), 245, ([], [], []))])
set_option maxRecDepth 100000 in
theorem p2_s286_s {X : Int → Int} {LX : Nat} : ck_Ok p2_O X LX 286 p2_s286 := ck_ok_s (O := p2_O) (X := X) (LX := LX) (E := []) (mi := 286) (cuts := []) (f := 86) (S := p2_s286) (lx := none) (XF := []) ⟨p2_nmu, ck_E0⟩ ck_X0 ck_l0 (by decide +kernel)
set_option maxRecDepth 100000 in
/-- GlacierMailModel.noLane -/
noncomputable def p2_s287 : ck_Sum := ((1, 0, 0), 245, [.inr (.inr (.inl 226)), .inl (6, 2147483647, [])], ([], [], []), ([], []), [(.inr (some (.inl (ck_one 1))), 245, ([], [], []))])
set_option maxRecDepth 100000 in
theorem p2_s287_s {X : Int → Int} {LX : Nat} : ck_Ok p2_O X LX 288 p2_s287 := ck_ok_s (O := p2_O) (X := X) (LX := LX) (E := [(261, [p2_s166]), (286, [p2_s286])]) (mi := 288) (cuts := []) (f := 92) (S := p2_s287) (lx := none) (XF := []) ⟨p2_nmu, ck_E1 (ck_S1 p2_s166_s ck_S0) (ck_E1 (ck_S1 p2_s286_s ck_S0) ck_E0)⟩ ck_X0 ck_l0 (by decide +kernel)
set_option maxRecDepth 100000 in
/-- GlacierMailModel.speed -/
noncomputable def p2_s288 : ck_Sum := ((2, 0, 0), 245, [.inr (.inr (.inl 226)), .inl (6, 2147483647, []), .inl ((-2147483648), 2147483647, [])], ([], [], []), ([(226, 0, 0)], []), [(.inr (some (.inl (ck_one 0))), 245, ([], [], [(226, 0, 0, ck_one 1)]))])
set_option maxRecDepth 100000 in
theorem p2_s288_s {X : Int → Int} {LX : Nat} : ck_Ok p2_O X LX 287 p2_s288 := ck_ok_s (O := p2_O) (X := X) (LX := LX) (E := [(288, [p2_s287]), (282, [p2_s241])]) (mi := 287) (cuts := []) (f := 102) (S := p2_s288) (lx := none) (XF := []) ⟨p2_nmu, ck_E1 (ck_S1 p2_s287_s ck_S0) (ck_E1 (ck_S1 p2_s241_s ck_S0) ck_E0)⟩ ck_X0 ck_l0 (by decide +kernel)
set_option maxRecDepth 100000 in
/-- GlacierMailModel.in -/
noncomputable def p2_s289 : ck_Sum := ((0, 0, 0), 245, [.inl (0, 5, []), .inl (ck_one 0), .inl ((-1), 5, [])], ([], [], []), ([], []), [(.inr (some (.inl (ck_one 0))), 245, ([], [], [])), (.inr (some (.inl (ck_one 1))), 245, ([], [], []))])
set_option maxRecDepth 100000 in
theorem p2_s289_s {X : Int → Int} {LX : Nat} : ck_Ok p2_O X LX 286 p2_s289 := ck_ok_s (O := p2_O) (X := X) (LX := LX) (E := []) (mi := 286) (cuts := []) (f := 88) (S := p2_s289) (lx := none) (XF := []) ⟨p2_nmu, ck_E0⟩ ck_X0 ck_l0 (by decide +kernel)
set_option maxRecDepth 100000 in
/-- GlacierMailModel.noLane -/
noncomputable def p2_s290 : ck_Sum := ((1, 0, 0), 245, [.inr (.inr (.inl 226)), .inl (0, 5, [])], ([], [], []), ([], []), [(.inr (some (.inl (ck_one 1))), 245, ([], [], [])), (.inr (some (.inl (ck_one 0))), 245, ([], [], []))])
set_option maxRecDepth 100000 in
theorem p2_s290_s {X : Int → Int} {LX : Nat} : ck_Ok p2_O X LX 288 p2_s290 := ck_ok_s (O := p2_O) (X := X) (LX := LX) (E := [(261, [p2_s166]), (286, [p2_s289])]) (mi := 288) (cuts := []) (f := 92) (S := p2_s290) (lx := none) (XF := []) ⟨p2_nmu, ck_E1 (ck_S1 p2_s166_s ck_S0) (ck_E1 (ck_S1 p2_s289_s ck_S0) ck_E0)⟩ ck_X0 ck_l0 (by decide +kernel)
set_option maxRecDepth 100000 in
/-- GlacierMailModel.in -/
noncomputable def p2_s291 : ck_Sum := ((0, 0, 0), 245, [.inl ((-2147483648), (-1), []), .inl (ck_one 0), .inl ((-1), 98, [])], ([], [], []), ([], []), [(.inr (some (.inl (ck_one 0))), 245, ([], [], []))])
set_option maxRecDepth 100000 in
theorem p2_s291_s {X : Int → Int} {LX : Nat} : ck_Ok p2_O X LX 286 p2_s291 := ck_ok_s (O := p2_O) (X := X) (LX := LX) (E := []) (mi := 286) (cuts := []) (f := 80) (S := p2_s291) (lx := none) (XF := []) ⟨p2_nmu, ck_E0⟩ ck_X0 ck_l0 (by decide +kernel)
set_option maxRecDepth 100000 in
/-- GlacierMailModel.noRow -/
noncomputable def p2_s292 : ck_Sum := ((1, 0, 0), 245, [.inr (.inr (.inl 226)), .inl ((-2147483648), (-1), [])], ([], [], []), ([], []), [(.inr (some (.inl (ck_one 1))), 245, ([], [], []))])
set_option maxRecDepth 100000 in
theorem p2_s292_s {X : Int → Int} {LX : Nat} : ck_Ok p2_O X LX 289 p2_s292 := ck_ok_s (O := p2_O) (X := X) (LX := LX) (E := [(259, [p2_s180]), (286, [p2_s291])]) (mi := 289) (cuts := []) (f := 92) (S := p2_s292) (lx := none) (XF := []) ⟨p2_nmu, ck_E1 (ck_S1 p2_s180_s ck_S0) (ck_E1 (ck_S1 p2_s291_s ck_S0) ck_E0)⟩ ck_X0 ck_l0 (by decide +kernel)
set_option maxRecDepth 100000 in
/-- GlacierMailModel.speed -/
noncomputable def p2_s293 : ck_Sum := ((2, 0, 0), 245, [.inr (.inr (.inl 226)), .inl (0, 5, []), .inl ((-2147483648), (-1), [])], ([], [], []), ([(226, 0, 0)], []), [(.inr (some (.inl (ck_one 0))), 245, ([], [], [(226, 0, 0, ck_one 1)]))])
set_option maxRecDepth 100000 in
theorem p2_s293_s {X : Int → Int} {LX : Nat} : ck_Ok p2_O X LX 287 p2_s293 := ck_ok_s (O := p2_O) (X := X) (LX := LX) (E := [(288, [p2_s290]), (282, [p2_s241]), (289, [p2_s292])]) (mi := 287) (cuts := []) (f := 110) (S := p2_s293) (lx := none) (XF := []) ⟨p2_nmu, ck_E1 (ck_S1 p2_s290_s ck_S0) (ck_E1 (ck_S1 p2_s241_s ck_S0) (ck_E1 (ck_S1 p2_s292_s ck_S0) ck_E0))⟩ ck_X0 ck_l0 (by decide +kernel)
set_option maxRecDepth 100000 in
/-- GlacierMailModel.in -/
noncomputable def p2_s294 : ck_Sum := ((0, 0, 0), 245, [.inl (99, 2147483647, []), .inl (ck_one 0), .inl ((-1), 98, [])], ([], [], []), ([], []), [(.inr (some (.inl (ck_one 0))), 245, ([], [], []))])
set_option maxRecDepth 100000 in
theorem p2_s294_s {X : Int → Int} {LX : Nat} : ck_Ok p2_O X LX 286 p2_s294 := ck_ok_s (O := p2_O) (X := X) (LX := LX) (E := []) (mi := 286) (cuts := []) (f := 86) (S := p2_s294) (lx := none) (XF := []) ⟨p2_nmu, ck_E0⟩ ck_X0 ck_l0 (by decide +kernel)
set_option maxRecDepth 100000 in
/-- GlacierMailModel.noRow -/
noncomputable def p2_s295 : ck_Sum := ((1, 0, 0), 245, [.inr (.inr (.inl 226)), .inl (99, 2147483647, [])], ([], [], []), ([], []), [(.inr (some (.inl (ck_one 1))), 245, ([], [], []))])
set_option maxRecDepth 100000 in
theorem p2_s295_s {X : Int → Int} {LX : Nat} : ck_Ok p2_O X LX 289 p2_s295 := ck_ok_s (O := p2_O) (X := X) (LX := LX) (E := [(259, [p2_s180]), (286, [p2_s294])]) (mi := 289) (cuts := []) (f := 92) (S := p2_s295) (lx := none) (XF := []) ⟨p2_nmu, ck_E1 (ck_S1 p2_s180_s ck_S0) (ck_E1 (ck_S1 p2_s294_s ck_S0) ck_E0)⟩ ck_X0 ck_l0 (by decide +kernel)
set_option maxRecDepth 100000 in
/-- GlacierMailModel.speed -/
noncomputable def p2_s296 : ck_Sum := ((2, 0, 0), 245, [.inr (.inr (.inl 226)), .inl (0, 5, []), .inl (99, 2147483647, [])], ([], [], []), ([(226, 0, 0)], []), [(.inr (some (.inl (ck_one 0))), 245, ([], [], [(226, 0, 0, ck_one 1)]))])
set_option maxRecDepth 100000 in
theorem p2_s296_s {X : Int → Int} {LX : Nat} : ck_Ok p2_O X LX 287 p2_s296 := ck_ok_s (O := p2_O) (X := X) (LX := LX) (E := [(288, [p2_s290]), (282, [p2_s241]), (289, [p2_s295])]) (mi := 287) (cuts := []) (f := 110) (S := p2_s296) (lx := none) (XF := []) ⟨p2_nmu, ck_E1 (ck_S1 p2_s290_s ck_S0) (ck_E1 (ck_S1 p2_s241_s ck_S0) (ck_E1 (ck_S1 p2_s295_s ck_S0) ck_E0))⟩ ck_X0 ck_l0 (by decide +kernel)
set_option maxRecDepth 100000 in
/-- GlacierMailModel.in -/
noncomputable def p2_s297 : ck_Sum := ((0, 0, 0), 245, [.inl (0, 98, []), .inl (ck_one 0), .inl ((-1), 98, [])], ([], [], []), ([], []), [(.inr (some (.inl (ck_one 0))), 245, ([], [], [])), (.inr (some (.inl (ck_one 1))), 245, ([], [], []))])
set_option maxRecDepth 100000 in
theorem p2_s297_s {X : Int → Int} {LX : Nat} : ck_Ok p2_O X LX 286 p2_s297 := ck_ok_s (O := p2_O) (X := X) (LX := LX) (E := []) (mi := 286) (cuts := []) (f := 88) (S := p2_s297) (lx := none) (XF := []) ⟨p2_nmu, ck_E0⟩ ck_X0 ck_l0 (by decide +kernel)
set_option maxRecDepth 100000 in
/-- GlacierMailModel.noRow -/
noncomputable def p2_s298 : ck_Sum := ((1, 0, 0), 245, [.inr (.inr (.inl 226)), .inl (0, 98, [])], ([], [], []), ([], []), [(.inr (some (.inl (ck_one 1))), 245, ([], [], [])), (.inr (some (.inl (ck_one 0))), 245, ([], [], []))])
set_option maxRecDepth 100000 in
theorem p2_s298_s {X : Int → Int} {LX : Nat} : ck_Ok p2_O X LX 289 p2_s298 := ck_ok_s (O := p2_O) (X := X) (LX := LX) (E := [(259, [p2_s180]), (286, [p2_s297])]) (mi := 289) (cuts := []) (f := 92) (S := p2_s298) (lx := none) (XF := []) ⟨p2_nmu, ck_E1 (ck_S1 p2_s180_s ck_S0) (ck_E1 (ck_S1 p2_s297_s ck_S0) ck_E0)⟩ ck_X0 ck_l0 (by decide +kernel)
set_option maxRecDepth 100000 in
/-- GlacierMailModel.speedAt -/
noncomputable def p2_s299 : ck_Sum := ((0, 0, 0), 245, [.inr (.inr (.inl 226)), .inl (0, 6, []), .inl (0, 98, [])], ([], [], [(227, 2, 2, (0, 8, [(20, 0)]))]), ([], []), [(.inr (some (.inl (0, 299, []))), 245, ([], [], []))])
set_option maxRecDepth 100000 in
theorem p2_s299_s {X : Int → Int} {LX : Nat} : ck_Ok p2_O X LX 290 p2_s299 := ck_ok_s (O := p2_O) (X := X) (LX := LX) (E := []) (mi := 290) (cuts := [(5, [some (.inr (.inr (.inl 226))), some (.inl (0, 6, [])), some (.inl (0, 98, [])), some (.inl (0, 299, [])), some (.inl (0, 8, []))], ([], [], [(227, 2, 2, (0, 8, [(20, 0)]))]), 100, .inl 4, true)]) (f := 222) (S := p2_s299) (lx := none) (XF := []) ⟨p2_nmu, ck_E0⟩ ck_X0 ck_l0 (by decide +kernel)
set_option maxRecDepth 100000 in
/-- GlacierMailModel.speed -/
noncomputable def p2_s300 : ck_Sum := ((2, 0, 0), 245, [.inr (.inr (.inl 226)), .inl (0, 5, []), .inl (0, 98, [])], ([], [], [(227, 2, 2, (0, 8, [(20, 0)]))]), ([(226, 0, 0)], []), [(.inr (some (.inl (0, 299, []))), 245, ([], [], [(226, 0, 0, (0, 1, []))]))])
set_option maxRecDepth 100000 in
theorem p2_s300_s {X : Int → Int} {LX : Nat} : ck_Ok p2_O X LX 287 p2_s300 := ck_ok_s (O := p2_O) (X := X) (LX := LX) (E := [(288, [p2_s290]), (282, [p2_s241, p2_s242]), (289, [p2_s298]), (290, [p2_s299])]) (mi := 287) (cuts := []) (f := 112) (S := p2_s300) (lx := none) (XF := []) ⟨p2_nmu, ck_E1 (ck_S1 p2_s290_s ck_S0) (ck_E1 (ck_S1 p2_s241_s (ck_S1 p2_s242_s ck_S0)) (ck_E1 (ck_S1 p2_s298_s ck_S0) (ck_E1 (ck_S1 p2_s299_s ck_S0) ck_E0)))⟩ ck_X0 ck_l0 (by decide +kernel)
set_option maxRecDepth 100000 in
/-- GlacierMail.flow -/
noncomputable def p2_s301 : ck_Sum := ((8, 1, 6), 245, [.inr (.inr (.inl 1)), .inl ((-2147483648), (-1), []), .inl ((-2147483648), 2147483647, []), .inl ((-2147483648), 2147483647, [])], ([], [], []), ([], []), [(.inl 3, 245, ([], [], []))])
set_option maxRecDepth 100000 in
theorem p2_s301_s {X : Int → Int} {LX : Nat} : ck_Ok p2_O X LX 136 p2_s301 := ck_ok_s (O := p2_O) (X := X) (LX := LX) (E := [(132, [p2_s266])]) (mi := 136) (cuts := []) (f := 76) (S := p2_s301) (lx := none) (XF := []) ⟨p2_nmu, ck_E1 (ck_S1 p2_s266_s ck_S0) ck_E0⟩ ck_X0 ck_l0 (by decide +kernel)
set_option maxRecDepth 100000 in
/-- GlacierMail.flow -/
noncomputable def p2_s302 : ck_Sum := ((8, 1, 6), 245, [.inr (.inr (.inl 1)), .inl (6, 2147483647, []), .inl ((-2147483648), 2147483647, []), .inl ((-2147483648), 2147483647, [])], ([], [], []), ([], []), [(.inl 3, 245, ([], [], []))])
set_option maxRecDepth 100000 in
theorem p2_s302_s {X : Int → Int} {LX : Nat} : ck_Ok p2_O X LX 136 p2_s302 := ck_ok_s (O := p2_O) (X := X) (LX := LX) (E := [(132, [p2_s269])]) (mi := 136) (cuts := []) (f := 76) (S := p2_s302) (lx := none) (XF := []) ⟨p2_nmu, ck_E1 (ck_S1 p2_s269_s ck_S0) ck_E0⟩ ck_X0 ck_l0 (by decide +kernel)
set_option maxRecDepth 100000 in
/-- GlacierMail.flow -/
noncomputable def p2_s303 : ck_Sum := ((8, 2, 12), 245, [.inr (.inr (.inl 1)), .inl (0, 5, []), .inl ((-2147483648), (-1), []), .inl ((-2147483648), 2147483647, [])], ([], [], []), ([], []), [(.inl 3, 245, ([], [], []))])
set_option maxRecDepth 100000 in
theorem p2_s303_s {X : Int → Int} {LX : Nat} : ck_Ok p2_O X LX 136 p2_s303 := ck_ok_s (O := p2_O) (X := X) (LX := LX) (E := [(132, [p2_s272]), (134, [p2_s274])]) (mi := 136) (cuts := []) (f := 82) (S := p2_s303) (lx := none) (XF := []) ⟨p2_nmu, ck_E1 (ck_S1 p2_s272_s ck_S0) (ck_E1 (ck_S1 p2_s274_s ck_S0) ck_E0)⟩ ck_X0 ck_l0 (by decide +kernel)
set_option maxRecDepth 100000 in
/-- GlacierMail.flow -/
noncomputable def p2_s304 : ck_Sum := ((8, 2, 12), 245, [.inr (.inr (.inl 1)), .inl (0, 5, []), .inl (99, 2147483647, []), .inl ((-2147483648), 2147483647, [])], ([], [], []), ([], []), [(.inl 3, 245, ([], [], []))])
set_option maxRecDepth 100000 in
theorem p2_s304_s {X : Int → Int} {LX : Nat} : ck_Ok p2_O X LX 136 p2_s304 := ck_ok_s (O := p2_O) (X := X) (LX := LX) (E := [(132, [p2_s272]), (134, [p2_s277])]) (mi := 136) (cuts := []) (f := 82) (S := p2_s304) (lx := none) (XF := []) ⟨p2_nmu, ck_E1 (ck_S1 p2_s272_s ck_S0) (ck_E1 (ck_S1 p2_s277_s ck_S0) ck_E0)⟩ ck_X0 ck_l0 (by decide +kernel)
set_option maxRecDepth 100000 in
/-- GlacierMail.flow -/
noncomputable def p2_s305 : ck_Sum := ((8, 3, 18), 245, [.inr (.inr (.inl 1)), .inl (0, 5, []), .inl (0, 98, []), .inl ((-2147483648), (-1), [])], ([], [], []), ([], []), [(.inl 3, 245, ([], [], [])), (.inl 0, 245, ([], [], []))])
set_option maxRecDepth 100000 in
theorem p2_s305_s {X : Int → Int} {LX : Nat} : ck_Ok p2_O X LX 136 p2_s305 := ck_ok_s (O := p2_O) (X := X) (LX := LX) (E := [(132, [p2_s272]), (134, [p2_s280]), (129, [p2_s249])]) (mi := 136) (cuts := []) (f := 88) (S := p2_s305) (lx := none) (XF := []) ⟨p2_nmu, ck_E1 (ck_S1 p2_s272_s ck_S0) (ck_E1 (ck_S1 p2_s280_s ck_S0) (ck_E1 (ck_S1 p2_s249_s ck_S0) ck_E0))⟩ ck_X0 ck_l0 (by decide +kernel)
set_option maxRecDepth 100000 in
/-- GlacierMail.flow -/
noncomputable def p2_s306 : ck_Sum := ((8, 3, 18), 245, [.inr (.inr (.inl 1)), .inl (0, 5, []), .inl (0, 98, []), .inl (300, 2147483647, [])], ([], [], []), ([], []), [(.inl 3, 245, ([], [], [])), (.inl 0, 245, ([], [], []))])
set_option maxRecDepth 100000 in
theorem p2_s306_s {X : Int → Int} {LX : Nat} : ck_Ok p2_O X LX 136 p2_s306 := ck_ok_s (O := p2_O) (X := X) (LX := LX) (E := [(132, [p2_s272]), (134, [p2_s280]), (129, [p2_s251])]) (mi := 136) (cuts := []) (f := 88) (S := p2_s306) (lx := none) (XF := []) ⟨p2_nmu, ck_E1 (ck_S1 p2_s272_s ck_S0) (ck_E1 (ck_S1 p2_s280_s ck_S0) (ck_E1 (ck_S1 p2_s251_s ck_S0) ck_E0))⟩ ck_X0 ck_l0 (by decide +kernel)
set_option maxRecDepth 100000 in
/-- GlacierMail$Ice.speedAt -/
noncomputable def p2_s307 : ck_Sum := ((0, 0, 0), 245, [.inr (.inr (.inl 200)), .inl ((-2147483648), 2147483647, []), .inl ((-2147483648), 2147483647, [])], ([], [], []), ([], []), [(.inr (some (.inl (ck_one 0))), 245, ([], [], [])), (.inr (some (.inl ((-1), 98, []))), 245, ([], [], []))])
set_option maxRecDepth 100000 in
theorem p2_s307_s {X : Int → Int} {LX : Nat} : ck_Ok p2_O X LX 36 p2_s307 := ck_ok_s (O := p2_O) (X := X) (LX := LX) (E := []) (mi := 36) (cuts := []) (f := 108) (S := p2_s307) (lx := none) (XF := []) ⟨p2_nmu, ck_E0⟩ ck_X0 ck_l0 (by decide +kernel)
set_option maxRecDepth 100000 in
/-- GlacierMail$Ice.flowAt -/
noncomputable def p2_s308 : ck_Sum := ((1, 0, 0), 245, [.inr (.inr (.inl 200)), .inl ((-2147483648), 2147483647, []), .inl ((-2147483648), 2147483647, []), .inl ((-2147483648), 2147483647, [])], ([], [(3, 8, 0)], []), ([], []), [(.inr (some (.inl (ck_one 0))), 245, ([], [], [])), (.inr (some (.inl ((-1), 98, []))), 245, ([], [], []))])
set_option maxRecDepth 100000 in
theorem p2_s308_s {X : Int → Int} {LX : Nat} : ck_Ok p2_O X LX 35 p2_s308 := ck_ok_s (O := p2_O) (X := X) (LX := LX) (E := [(36, [p2_s307])]) (mi := 35) (cuts := []) (f := 92) (S := p2_s308) (lx := none) (XF := []) ⟨p2_nmu, ck_E1 (ck_S1 p2_s307_s ck_S0) ck_E0⟩ ck_X0 ck_l0 (by decide +kernel)
set_option maxRecDepth 100000 in
/-- GlacierMail.flow -/
noncomputable def p2_s309 : ck_Sum := ((8, 2, 12), 245, [.inr (.inr (.inl 1)), .inl (0, 5, []), .inl (0, 98, []), .inl (0, 299, [])], ([], [(3, 8, 0)], []), ([], []), [(.inl 3, 245, ([], [], [])), (.inr (some (.inl (ck_one 0))), 245, ([], [], [])), (.inr (some (.inl ((-1), 98, []))), 245, ([], [], []))])
set_option maxRecDepth 100000 in
theorem p2_s309_s {X : Int → Int} {LX : Nat} : ck_Ok p2_O X LX 136 p2_s309 := ck_ok_s (O := p2_O) (X := X) (LX := LX) (E := [(132, [p2_s272]), (134, [p2_s280]), (129, [p2_s253]), (35, [p2_s308])]) (mi := 136) (cuts := []) (f := 102) (S := p2_s309) (lx := none) (XF := []) ⟨p2_nmu, ck_E1 (ck_S1 p2_s272_s ck_S0) (ck_E1 (ck_S1 p2_s280_s ck_S0) (ck_E1 (ck_S1 p2_s253_s ck_S0) (ck_E1 (ck_S1 p2_s308_s ck_S0) ck_E0)))⟩ ck_X0 ck_l0 (by decide +kernel)
set_option maxRecDepth 100000 in
/-- GlacierMailModel.flow -/
noncomputable def p2_s310 : ck_Sum := ((2, 0, 0), 245, [.inr (.inr (.inl 226)), .inl ((-2147483648), (-1), []), .inl ((-2147483648), 2147483647, []), .inl ((-2147483648), 2147483647, [])], ([], [], []), ([(226, 0, 0)], []), [(.inr (some (.inl (ck_one 0))), 245, ([], [], [(226, 0, 0, ck_one 1)]))])
set_option maxRecDepth 100000 in
theorem p2_s310_s {X : Int → Int} {LX : Nat} : ck_Ok p2_O X LX 291 p2_s310 := ck_ok_s (O := p2_O) (X := X) (LX := LX) (E := [(288, [p2_s284]), (282, [p2_s241])]) (mi := 291) (cuts := []) (f := 102) (S := p2_s310) (lx := none) (XF := []) ⟨p2_nmu, ck_E1 (ck_S1 p2_s284_s ck_S0) (ck_E1 (ck_S1 p2_s241_s ck_S0) ck_E0)⟩ ck_X0 ck_l0 (by decide +kernel)
set_option maxRecDepth 100000 in
/-- GlacierMailModel.flow -/
noncomputable def p2_s311 : ck_Sum := ((2, 0, 0), 245, [.inr (.inr (.inl 226)), .inl (6, 2147483647, []), .inl ((-2147483648), 2147483647, []), .inl ((-2147483648), 2147483647, [])], ([], [], []), ([(226, 0, 0)], []), [(.inr (some (.inl (ck_one 0))), 245, ([], [], [(226, 0, 0, ck_one 1)]))])
set_option maxRecDepth 100000 in
theorem p2_s311_s {X : Int → Int} {LX : Nat} : ck_Ok p2_O X LX 291 p2_s311 := ck_ok_s (O := p2_O) (X := X) (LX := LX) (E := [(288, [p2_s287]), (282, [p2_s241])]) (mi := 291) (cuts := []) (f := 102) (S := p2_s311) (lx := none) (XF := []) ⟨p2_nmu, ck_E1 (ck_S1 p2_s287_s ck_S0) (ck_E1 (ck_S1 p2_s241_s ck_S0) ck_E0)⟩ ck_X0 ck_l0 (by decide +kernel)
set_option maxRecDepth 100000 in
/-- GlacierMailModel.flow -/
noncomputable def p2_s312 : ck_Sum := ((2, 0, 0), 245, [.inr (.inr (.inl 226)), .inl (0, 5, []), .inl ((-2147483648), (-1), []), .inl ((-2147483648), 2147483647, [])], ([], [], []), ([(226, 0, 0)], []), [(.inr (some (.inl (ck_one 0))), 245, ([], [], [(226, 0, 0, ck_one 1)]))])
set_option maxRecDepth 100000 in
theorem p2_s312_s {X : Int → Int} {LX : Nat} : ck_Ok p2_O X LX 291 p2_s312 := ck_ok_s (O := p2_O) (X := X) (LX := LX) (E := [(288, [p2_s290]), (282, [p2_s241]), (289, [p2_s292])]) (mi := 291) (cuts := []) (f := 110) (S := p2_s312) (lx := none) (XF := []) ⟨p2_nmu, ck_E1 (ck_S1 p2_s290_s ck_S0) (ck_E1 (ck_S1 p2_s241_s ck_S0) (ck_E1 (ck_S1 p2_s292_s ck_S0) ck_E0))⟩ ck_X0 ck_l0 (by decide +kernel)
set_option maxRecDepth 100000 in
/-- GlacierMailModel.flow -/
noncomputable def p2_s313 : ck_Sum := ((2, 0, 0), 245, [.inr (.inr (.inl 226)), .inl (0, 5, []), .inl (99, 2147483647, []), .inl ((-2147483648), 2147483647, [])], ([], [], []), ([(226, 0, 0)], []), [(.inr (some (.inl (ck_one 0))), 245, ([], [], [(226, 0, 0, ck_one 1)]))])
set_option maxRecDepth 100000 in
theorem p2_s313_s {X : Int → Int} {LX : Nat} : ck_Ok p2_O X LX 291 p2_s313 := ck_ok_s (O := p2_O) (X := X) (LX := LX) (E := [(288, [p2_s290]), (282, [p2_s241]), (289, [p2_s295])]) (mi := 291) (cuts := []) (f := 110) (S := p2_s313) (lx := none) (XF := []) ⟨p2_nmu, ck_E1 (ck_S1 p2_s290_s ck_S0) (ck_E1 (ck_S1 p2_s241_s ck_S0) (ck_E1 (ck_S1 p2_s295_s ck_S0) ck_E0))⟩ ck_X0 ck_l0 (by decide +kernel)
set_option maxRecDepth 100000 in
/-- GlacierMailModel.flow -/
noncomputable def p2_s314 : ck_Sum := ((2, 0, 0), 245, [.inr (.inr (.inl 226)), .inl (0, 5, []), .inl (0, 98, []), .inl ((-2147483648), (-1), [])], ([], [], []), ([(226, 0, 0)], []), [(.inr (some (.inl (ck_one 0))), 245, ([], [], [(226, 0, 0, (1, 2, []))]))])
set_option maxRecDepth 100000 in
theorem p2_s314_s {X : Int → Int} {LX : Nat} : ck_Ok p2_O X LX 291 p2_s314 := ck_ok_s (O := p2_O) (X := X) (LX := LX) (E := [(288, [p2_s290]), (282, [p2_s241, p2_s242, p2_s244]), (289, [p2_s298]), (285, [p2_s257])]) (mi := 291) (cuts := []) (f := 120) (S := p2_s314) (lx := none) (XF := []) ⟨p2_nmu, ck_E1 (ck_S1 p2_s290_s ck_S0) (ck_E1 (ck_S1 p2_s241_s (ck_S1 p2_s242_s (ck_S1 p2_s244_s ck_S0))) (ck_E1 (ck_S1 p2_s298_s ck_S0) (ck_E1 (ck_S1 p2_s257_s ck_S0) ck_E0)))⟩ ck_X0 ck_l0 (by decide +kernel)
set_option maxRecDepth 100000 in
/-- GlacierMailModel.flow -/
noncomputable def p2_s315 : ck_Sum := ((2, 0, 0), 245, [.inr (.inr (.inl 226)), .inl (0, 5, []), .inl (0, 98, []), .inl (300, 2147483647, [])], ([], [], []), ([(226, 0, 0)], []), [(.inr (some (.inl (ck_one 0))), 245, ([], [], [(226, 0, 0, (1, 2, []))]))])
set_option maxRecDepth 100000 in
theorem p2_s315_s {X : Int → Int} {LX : Nat} : ck_Ok p2_O X LX 291 p2_s315 := ck_ok_s (O := p2_O) (X := X) (LX := LX) (E := [(288, [p2_s290]), (282, [p2_s241, p2_s242, p2_s244]), (289, [p2_s298]), (285, [p2_s260])]) (mi := 291) (cuts := []) (f := 120) (S := p2_s315) (lx := none) (XF := []) ⟨p2_nmu, ck_E1 (ck_S1 p2_s290_s ck_S0) (ck_E1 (ck_S1 p2_s241_s (ck_S1 p2_s242_s (ck_S1 p2_s244_s ck_S0))) (ck_E1 (ck_S1 p2_s298_s ck_S0) (ck_E1 (ck_S1 p2_s260_s ck_S0) ck_E0)))⟩ ck_X0 ck_l0 (by decide +kernel)
set_option maxRecDepth 100000 in
/-- GlacierMailModel.turnsTo -/
noncomputable def p2_s316 : ck_Sum := ((0, 0, 0), 245, [.inr (.inr (.inl 226)), .inl (0, 6, [])], ([], [], []), ([(226, 26, 26), (235, 0, 29699)], []), [(.inr none, 245, ([], [], [(226, 26, 26, (0, 6, []))]))])
set_option maxRecDepth 100000 in
theorem p2_s316_s {X : Int → Int} {LX : Nat} : ck_Ok p2_O X LX 293 p2_s316 := ck_ok_s (O := p2_O) (X := X) (LX := LX) (E := []) (mi := 293) (cuts := [(16, [some (.inr (.inr (.inl 226))), some (.inl (0, 6, [])), some (.inl (0, 29700, []))], ([], [], [(226, 26, 26, (0, 6, []))]), 100, .inl 2, true)]) (f := 142) (S := p2_s316) (lx := none) (XF := []) ⟨p2_nmu, ck_E0⟩ ck_X0 ck_l0 (by decide +kernel)
set_option maxRecDepth 100000 in
noncomputable def p2_s318 : ck_Sum := ((4, 0, 0), 245, [.inr (.inr (.inl 226)), .inl (0, 6, []), .inl (0, 98, []), .inl (0, 299, [])], ([], [], [(227, 2, 2, (0, 8, [(20, 0)]))]), ([(226, 17, 23), (226, 26, 26), (233, 0, 399), (235, 0, 29699)], []), [(.inr (some (.inl (0, 30, []))), 245, ([], [], [(226, 26, 26, (0, 6, []))]))])
noncomputable def p2_s318_E : List (Nat × List ck_Sum) := [(293, [p2_s316]), (290, [p2_s299]), (294, [sl_S])]
noncomputable def p2_s318_L : ck_AL := [some (.inr (.inr (.inl 226))), some (.inl (0, 6, [])), some (.inl (0, 98, [])), some (.inl (0, 299, [])), some (.inl (0, 29699, [])), none]
set_option maxRecDepth 100000 in
noncomputable def p2_s318_F : ck_F := ([], [], [(226, 26, 26, (0, 6, [])), (227, 2, 2, (0, 8, [(20, 0)]))])
noncomputable def p2_s318_C : ck_C := (p2_s318_L, p2_s318_F, 0, .inl 4, true)
set_option maxRecDepth 100000 in
theorem p2_s318_a : (decide (p2_s318.2.2.1.length ≤ gm_ml 292) && ck_go p2_O none [] p2_s318_E 292 p2_s318.1.1 p2_s318.2.1 p2_s318.2.2.2.2.1 p2_s318.2.2.2.2.2 [(14, p2_s318_C)] 900 false [(14, p2_s318_C, 0, 0, 245)] p2_s318.1.2.1 p2_s318.1.2.2 0 (p2_s318.2.2.1.map some ++ List.replicate (gm_ml 292 - p2_s318.2.2.1.length) none) [] p2_s318.2.1 p2_s318.2.2.2.1) = true := by decide +kernel
set_option maxRecDepth 100000 in
theorem p2_s318_b : ck_go p2_O none [] p2_s318_E 292 p2_s318.1.1 p2_s318.2.1 p2_s318.2.2.2.2.1 p2_s318.2.2.2.2.2 [] 900 true [] 0 0 34 p2_s318_L [] 245 p2_s318_F = true := by decide +kernel
set_option maxRecDepth 100000 in
theorem p2_s318_f : gm_tyr p2_O 235 0 29699 = some (0, 31) := by decide +kernel
set_option maxRecDepth 100000 in
theorem p2_s318_g : ck_leF p2_O p2_s318_F (([], [], [(226, 26, 26, (0, 6, []))])) = true := by decide +kernel
theorem p2_s318_h {X : Int → Int} {LX : Nat} : ck_nmu p2_O ∧ ck_OkE p2_O X LX p2_s318_E := ⟨p2_nmu, ck_E1 (ck_S1 p2_s316_s ck_S0) (ck_E1 (ck_S1 p2_s299_s ck_S0) (ck_E1 (ck_S1 sl_S_s ck_S0) ck_E0))⟩
theorem p2_s318_s {X : Int → Int} {LX : Nat} : ck_Ok p2_O X LX 292 p2_s318 := by
  refine ck_ok_st (cuts := [(14, p2_s318_C)]) (by decide) p2_s318_h p2_s318_a (fun h hm => ?_)
  rw [List.mem_singleton.mp hm]
  refine ⟨List.mem_singleton.mpr rfl, fun σ K0 R0 M0 v _ bc bs L K R M hb1 hb2 hS _ => ?_⟩
  obtain ⟨hF, hl, hs, hf, hfr⟩ := hS
  obtain ⟨u0, e0, g0⟩ := hl.2 0 (.inr (.inr (.inl 226))) rfl
  cases g0
  obtain ⟨u4, e4, t, rfl, ht1, ht2, ht3, -⟩ := hl.2 4 (.inl (0, 29699, [])) rfl
  have ht2 : (0 : Int) ≤ t := ht2
  have ht3 : t ≤ (29699 : Int) := ht3
  obtain ⟨-, hM1, hM2⟩ := (gm_tyr_s hF p2_s318_f).2 t (by omega) (by omega)
  have hM1 : (0 : Int) ≤ M 235 t := hM1
  have hM2 : M 235 t ≤ (31 : Int) := hM2
  refine ck_flow (O := p2_O) hF (k := 226) (fl := 235) (by decide +kernel) (by decide +kernel) (by decide +kernel) e0 e4 ⟨by omega, by omega⟩ ⟨by omega, by omega⟩ (fun hp => ?_) ?_
  · exact ⟨hF, hfr, _, List.mem_cons_self, ⟨_, rfl, ⟨by omega, by omega⟩, by show (0 : Int) ≤ M 235 t - 1; omega, by show M 235 t - 1 ≤ (30 : Int); omega, fun _ h => nomatch h⟩, rfl, ck_leF_s hF hf p2_s318_g⟩
  · exact gm_Wp_wk (Nat.le_refl _) hb1 hb2 (ck_go_s (σ0 := σ) (cuts := []) (by decide) p2_s318_h ck_X0 ck_l0 900 true [] _ _ 34 _ [] _ _ σ L [] K R M (fun _ _ => rfl) (fun _ h => nomatch h) ⟨hF, hl, rfl, hf, hfr⟩ p2_s318_b)
set_option maxRecDepth 100000 in
/-- GlacierMail$Rows.size -/
noncomputable def p2_s320 : ck_Sum := ((0, 0, 0), 245, [.inr (.inr (.inl 8))], ([], [], []), ([], []), [(.inr (some (.inl (0, 8, []))), 245, ([], [], []))])
set_option maxRecDepth 100000 in
theorem p2_s320_s {X : Int → Int} {LX : Nat} : ck_Ok p2_O X LX 9 p2_s320 := ck_ok_s (O := p2_O) (X := X) (LX := LX) (E := []) (mi := 9) (cuts := []) (f := 76) (S := p2_s320) (lx := none) (XF := []) ⟨p2_nmu, ck_E0⟩ ck_X0 ck_l0 (by decide +kernel)
set_option maxRecDepth 100000 in
/-- GlacierMail.need -/
noncomputable def p2_s321 : ck_Sum := ((6, 1, 6), 245, [.inr (.inr (.inl 1)), .inl ((-2147483648), (-1), []), .inl (0, 8, [])], ([], [], []), ([], []), [(.inl 3, 245, ([], [], []))])
set_option maxRecDepth 100000 in
theorem p2_s321_s {X : Int → Int} {LX : Nat} : ck_Ok p2_O X LX 133 p2_s321 := ck_ok_s (O := p2_O) (X := X) (LX := LX) (E := []) (mi := 133) (cuts := []) (f := 76) (S := p2_s321) (lx := none) (XF := []) ⟨p2_nmu, ck_E0⟩ ck_X0 ck_l0 (by decide +kernel)
set_option maxRecDepth 100000 in
/-- GlacierMail.needPerson -/
noncomputable def p2_s322 : ck_Sum := ((7, 1, 6), 245, [.inr (.inr (.inl 1)), .inl ((-2147483648), (-1), [])], ([], [], []), ([], []), [(.inl 3, 245, ([], [], []))])
set_option maxRecDepth 100000 in
theorem p2_s322_s {X : Int → Int} {LX : Nat} : ck_Ok p2_O X LX 139 p2_s322 := ck_ok_s (O := p2_O) (X := X) (LX := LX) (E := [(9, [p2_s320]), (133, [p2_s321])]) (mi := 139) (cuts := []) (f := 84) (S := p2_s322) (lx := none) (XF := []) ⟨p2_nmu, ck_E1 (ck_S1 p2_s320_s ck_S0) (ck_E1 (ck_S1 p2_s321_s ck_S0) ck_E0)⟩ ck_X0 ck_l0 (by decide +kernel)
set_option maxRecDepth 100000 in
/-- GlacierMail.person -/
noncomputable def p2_s323 : ck_Sum := ((8, 1, 6), 245, [.inr (.inr (.inl 1)), .inl ((-2147483648), (-1), []), .inl ((-2147483648), 2147483647, [])], ([], [], []), ([], []), [(.inl 3, 245, ([], [], []))])
set_option maxRecDepth 100000 in
theorem p2_s323_s {X : Int → Int} {LX : Nat} : ck_Ok p2_O X LX 138 p2_s323 := ck_ok_s (O := p2_O) (X := X) (LX := LX) (E := [(139, [p2_s322])]) (mi := 138) (cuts := []) (f := 76) (S := p2_s323) (lx := none) (XF := []) ⟨p2_nmu, ck_E1 (ck_S1 p2_s322_s ck_S0) ck_E0⟩ ck_X0 ck_l0 (by decide +kernel)
set_option maxRecDepth 100000 in
/-- GlacierMail.need -/
noncomputable def p2_s324 : ck_Sum := ((6, 1, 6), 245, [.inr (.inr (.inl 1)), .inl (8, 2147483647, []), .inl (0, 8, [])], ([], [], []), ([], []), [(.inl 3, 245, ([], [], []))])
set_option maxRecDepth 100000 in
theorem p2_s324_s {X : Int → Int} {LX : Nat} : ck_Ok p2_O X LX 133 p2_s324 := ck_ok_s (O := p2_O) (X := X) (LX := LX) (E := []) (mi := 133) (cuts := []) (f := 82) (S := p2_s324) (lx := none) (XF := []) ⟨p2_nmu, ck_E0⟩ ck_X0 ck_l0 (by decide +kernel)
set_option maxRecDepth 100000 in
/-- GlacierMail.needPerson -/
noncomputable def p2_s325 : ck_Sum := ((7, 1, 6), 245, [.inr (.inr (.inl 1)), .inl (8, 2147483647, [])], ([], [], []), ([], []), [(.inl 3, 245, ([], [], []))])
set_option maxRecDepth 100000 in
theorem p2_s325_s {X : Int → Int} {LX : Nat} : ck_Ok p2_O X LX 139 p2_s325 := ck_ok_s (O := p2_O) (X := X) (LX := LX) (E := [(9, [p2_s320]), (133, [p2_s324])]) (mi := 139) (cuts := []) (f := 84) (S := p2_s325) (lx := none) (XF := []) ⟨p2_nmu, ck_E1 (ck_S1 p2_s320_s ck_S0) (ck_E1 (ck_S1 p2_s324_s ck_S0) ck_E0)⟩ ck_X0 ck_l0 (by decide +kernel)
set_option maxRecDepth 100000 in
/-- GlacierMail.person -/
noncomputable def p2_s326 : ck_Sum := ((8, 1, 6), 245, [.inr (.inr (.inl 1)), .inl (8, 2147483647, []), .inl ((-2147483648), 2147483647, [])], ([], [], []), ([], []), [(.inl 3, 245, ([], [], []))])
set_option maxRecDepth 100000 in
theorem p2_s326_s {X : Int → Int} {LX : Nat} : ck_Ok p2_O X LX 138 p2_s326 := ck_ok_s (O := p2_O) (X := X) (LX := LX) (E := [(139, [p2_s325])]) (mi := 138) (cuts := []) (f := 76) (S := p2_s326) (lx := none) (XF := []) ⟨p2_nmu, ck_E1 (ck_S1 p2_s325_s ck_S0) ck_E0⟩ ck_X0 ck_l0 (by decide +kernel)
set_option maxRecDepth 100000 in
/-- GlacierMail.need -/
noncomputable def p2_s327 : ck_Sum := ((6, 1, 6), 245, [.inr (.inr (.inl 1)), .inl (0, 7, []), .inl (0, 8, [])], ([], [], []), ([], []), [(.inr none, 245, ([], [], [])), (.inl 3, 245, ([], [], []))])
set_option maxRecDepth 100000 in
theorem p2_s327_s {X : Int → Int} {LX : Nat} : ck_Ok p2_O X LX 133 p2_s327 := ck_ok_s (O := p2_O) (X := X) (LX := LX) (E := []) (mi := 133) (cuts := []) (f := 82) (S := p2_s327) (lx := none) (XF := []) ⟨p2_nmu, ck_E0⟩ ck_X0 ck_l0 (by decide +kernel)
set_option maxRecDepth 100000 in
/-- GlacierMail.needPerson -/
noncomputable def p2_s328 : ck_Sum := ((7, 1, 6), 245, [.inr (.inr (.inl 1)), .inl (0, 7, [])], ([], [], []), ([], []), [(.inl 3, 245, ([], [], [])), (.inr none, 245, ([], [], []))])
set_option maxRecDepth 100000 in
theorem p2_s328_s {X : Int → Int} {LX : Nat} : ck_Ok p2_O X LX 139 p2_s328 := ck_ok_s (O := p2_O) (X := X) (LX := LX) (E := [(9, [p2_s320]), (133, [p2_s327])]) (mi := 139) (cuts := []) (f := 86) (S := p2_s328) (lx := none) (XF := []) ⟨p2_nmu, ck_E1 (ck_S1 p2_s320_s ck_S0) (ck_E1 (ck_S1 p2_s327_s ck_S0) ck_E0)⟩ ck_X0 ck_l0 (by decide +kernel)
set_option maxRecDepth 100000 in
/-- GlacierMail.person -/
noncomputable def p2_s329 : ck_Sum := ((8, 2, 12), 245, [.inr (.inr (.inl 1)), .inl (0, 7, []), .inl ((-2147483648), (-1), [])], ([], [], []), ([], []), [(.inl 3, 245, ([], [], [])), (.inl 4, 245, ([], [], []))])
set_option maxRecDepth 100000 in
theorem p2_s329_s {X : Int → Int} {LX : Nat} : ck_Ok p2_O X LX 138 p2_s329 := ck_ok_s (O := p2_O) (X := X) (LX := LX) (E := [(139, [p2_s328])]) (mi := 138) (cuts := []) (f := 82) (S := p2_s329) (lx := none) (XF := []) ⟨p2_nmu, ck_E1 (ck_S1 p2_s328_s ck_S0) ck_E0⟩ ck_X0 ck_l0 (by decide +kernel)
set_option maxRecDepth 100000 in
/-- GlacierMail.person -/
noncomputable def p2_s330 : ck_Sum := ((8, 2, 12), 245, [.inr (.inr (.inl 1)), .inl (0, 7, []), .inl (10, 2147483647, [])], ([], [], []), ([], []), [(.inl 3, 245, ([], [], [])), (.inl 4, 245, ([], [], []))])
set_option maxRecDepth 100000 in
theorem p2_s330_s {X : Int → Int} {LX : Nat} : ck_Ok p2_O X LX 138 p2_s330 := ck_ok_s (O := p2_O) (X := X) (LX := LX) (E := [(139, [p2_s328])]) (mi := 138) (cuts := []) (f := 82) (S := p2_s330) (lx := none) (XF := []) ⟨p2_nmu, ck_E1 (ck_S1 p2_s328_s ck_S0) ck_E0⟩ ck_X0 ck_l0 (by decide +kernel)
set_option maxRecDepth 100000 in
/-- GlacierMail$Rows.size -/
noncomputable def p2_s331 : ck_Sum := ((0, 0, 0), 245, [.inr (.inr (.inl 10))], ([], [], []), ([], []), [(.inr (some (.inl (0, 24, []))), 245, ([], [], []))])
set_option maxRecDepth 100000 in
theorem p2_s331_s {X : Int → Int} {LX : Nat} : ck_Ok p2_O X LX 9 p2_s331 := ck_ok_s (O := p2_O) (X := X) (LX := LX) (E := []) (mi := 9) (cuts := []) (f := 76) (S := p2_s331) (lx := none) (XF := []) ⟨p2_nmu, ck_E0⟩ ck_X0 ck_l0 (by decide +kernel)
set_option maxRecDepth 100000 in
/-- GlacierMail$Rows.size -/
noncomputable def p2_s332 : ck_Sum := ((0, 0, 0), 245, [.inr (.inr (.inl 220))], ([], [], []), ([], []), [(.inr (some (.inl (0, 24, []))), 245, ([], [], []))])
set_option maxRecDepth 100000 in
theorem p2_s332_s {X : Int → Int} {LX : Nat} : ck_Ok p2_O X LX 9 p2_s332 := ck_ok_s (O := p2_O) (X := X) (LX := LX) (E := []) (mi := 9) (cuts := []) (f := 76) (S := p2_s332) (lx := none) (XF := []) ⟨p2_nmu, ck_E0⟩ ck_X0 ck_l0 (by decide +kernel)
set_option maxRecDepth 100000 in
/-- java/util/Arrays.fill -/
noncomputable def p2_s333 : ck_Sum := ((0, 0, 0), 245, [.inr (.inr (.inl 221)), .inl (ck_one 0)], ([], [], []), ([(221, 0, 47)], []), [(.inr none, 245, ([], [], []))])
set_option maxRecDepth 100000 in
theorem p2_s333_s {X : Int → Int} {LX : Nat} : ck_Ok p2_O X LX 8 p2_s333 := ck_ok_s (O := p2_O) (X := X) (LX := LX) (E := []) (mi := 8) (cuts := [(5, [some (.inr (.inr (.inl 221))), some (.inl (ck_one 0)), some (.inl (0, 48, [])), some (.inl (ck_one 48))], ([], [], []), 100, .inl 2, true)]) (f := 130) (S := p2_s333) (lx := none) (XF := []) ⟨p2_nmu, ck_E0⟩ ck_X0 ck_l0 (by decide +kernel)
set_option maxRecDepth 100000 in
/-- GlacierMail$Rows.reset -/
noncomputable def p2_s334 : ck_Sum := ((1, 0, 0), 245, [.inr (.inr (.inl 220)), .inl (0, 24, [])], ([], [], []), ([(220, 3, 3), (221, 0, 47)], []), [(.inr none, 245, ([], [], []))])
set_option maxRecDepth 100000 in
theorem p2_s334_s {X : Int → Int} {LX : Nat} : ck_Ok p2_O X LX 25 p2_s334 := ck_ok_s (O := p2_O) (X := X) (LX := LX) (E := [(8, [p2_s333])]) (mi := 25) (cuts := []) (f := 96) (S := p2_s334) (lx := none) (XF := []) ⟨p2_nmu, ck_E1 (ck_S1 p2_s333_s ck_S0) ck_E0⟩ ck_X0 ck_l0 (by decide +kernel)
set_option maxRecDepth 100000 in
/-- GlacierMail$Rows.get -/
noncomputable def p2_s335 : ck_Sum := ((0, 0, 0), 245, [.inr (.inr (.inl 10)), .inl ((-2147483648), 2147483647, []), .inl ((-2147483648), 2147483647, [])], ([], [], []), ([], []), [(.inr (some (.inl ((-1), 299, []))), 245, ([], [], []))])
set_option maxRecDepth 100000 in
theorem p2_s335_s {X : Int → Int} {LX : Nat} : ck_Ok p2_O X LX 10 p2_s335 := ck_ok_s (O := p2_O) (X := X) (LX := LX) (E := []) (mi := 10) (cuts := []) (f := 114) (S := p2_s335) (lx := none) (XF := []) ⟨p2_nmu, ck_E0⟩ ck_X0 ck_l0 (by decide +kernel)
set_option maxRecDepth 100000 in
/-- GlacierMail$State.isRock -/
noncomputable def p2_s336 : ck_Sum := ((1, 0, 0), 245, [.inr (.inr (.inl 3)), .inl (0, 23, [])], ([], [], []), ([], []), [(.inr (some (.inl (ck_one 0))), 245, ([], [], [])), (.inr (some (.inl (ck_one 1))), 245, ([], [], []))])
set_option maxRecDepth 100000 in
theorem p2_s336_s {X : Int → Int} {LX : Nat} : ck_Ok p2_O X LX 28 p2_s336 := ck_ok_s (O := p2_O) (X := X) (LX := LX) (E := [(10, [p2_s335])]) (mi := 28) (cuts := []) (f := 90) (S := p2_s336) (lx := none) (XF := []) ⟨p2_nmu, ck_E1 (ck_S1 p2_s335_s ck_S0) ck_E0⟩ ck_X0 ck_l0 (by decide +kernel)
set_option maxRecDepth 100000 in
/-- GlacierMail$Way.start -/
noncomputable def p2_s337 : ck_Sum := ((0, 0, 0), 245, [.inr (.inr (.inl 206)), .inl ((-1), 299, []), .inl ((-1), 299, []), .inl ((-1), 299, []), .inl (ck_one 0)], ([], [], []), ([(206, 2, 8)], []), [(.inr none, 245, ([], [], zl74))])
set_option maxRecDepth 100000 in
theorem p2_s337_s {X : Int → Int} {LX : Nat} : ck_Ok p2_O X LX 29 p2_s337 := ck_ok_s (O := p2_O) (X := X) (LX := LX) (E := []) (mi := 29) (cuts := []) (f := 114) (S := p2_s337) (lx := none) (XF := []) ⟨p2_nmu, ck_E0⟩ ck_X0 ck_l0 (by decide +kernel)
set_option maxRecDepth 100000 in
/-- GlacierMail$Way.start -/
noncomputable def p2_s338 : ck_Sum := ((0, 0, 0), 245, [.inr (.inr (.inl 206)), .inl ((-1), 299, []), .inl ((-1), 299, []), .inl ((-1), 299, []), .inl (ck_one 1)], ([], [], []), ([(206, 2, 8)], []), [(.inr none, 245, ([], [], zl75))])
set_option maxRecDepth 100000 in
theorem p2_s338_s {X : Int → Int} {LX : Nat} : ck_Ok p2_O X LX 29 p2_s338 := ck_ok_s (O := p2_O) (X := X) (LX := LX) (E := []) (mi := 29) (cuts := []) (f := 114) (S := p2_s338) (lx := none) (XF := []) ⟨p2_nmu, ck_E0⟩ ck_X0 ck_l0 (by decide +kernel)
set_option maxRecDepth 100000 in
/-- GlacierMail$Way.startLetter -/
noncomputable def p2_s339 : ck_Sum := ((2, 0, 0), 245, [.inr (.inr (.inl 206)), .inl (0, 23, [])], ([], [], []), ([(206, 2, 8)], []), [(.inr none, 245, ([], [], zl76))])
set_option maxRecDepth 100000 in
theorem p2_s339_s {X : Int → Int} {LX : Nat} : ck_Ok p2_O X LX 27 p2_s339 := ck_ok_s (O := p2_O) (X := X) (LX := LX) (E := [(10, [p2_s335]), (28, [p2_s336]), (29, [p2_s337, p2_s338])]) (mi := 27) (cuts := []) (f := 116) (S := p2_s339) (lx := none) (XF := []) ⟨p2_nmu, ck_E1 (ck_S1 p2_s335_s ck_S0) (ck_E1 (ck_S1 p2_s336_s ck_S0) (ck_E1 (ck_S1 p2_s337_s (ck_S1 p2_s338_s ck_S0)) ck_E0))⟩ ck_X0 ck_l0 (by decide +kernel)
set_option maxRecDepth 100000 in
/-- GlacierMail$Way.isOut -/
noncomputable def p2_s340 : ck_Sum := ((0, 0, 0), 245, [.inr (.inr (.inl 206))], ([], [], []), ([], []), [(.inr (some (.inl (ck_one 0))), 245, ([], [], [(206, 5, 5, ((-2147483648), 98, []))])), (.inr (some (.inl (ck_one 1))), 245, ([], [], [(206, 5, 5, (10, 2147483647, []))]))])
set_option maxRecDepth 100000 in
theorem p2_s340_s {X : Int → Int} {LX : Nat} : ck_Ok p2_O X LX 31 p2_s340 := ck_ok_s (O := p2_O) (X := X) (LX := LX) (E := []) (mi := 31) (cuts := []) (f := 88) (S := p2_s340) (lx := none) (XF := []) ⟨p2_nmu, ck_E0⟩ ck_X0 ck_l0 (by decide +kernel)
set_option maxRecDepth 100000 in
/-- GlacierMail$Ice.heatIn -/
noncomputable def p2_s341 : ck_Sum := ((0, 0, 0), 245, [.inr (.inr (.inl 200)), .inl ((-2147483648), 2147483647, [])], ([], [], []), ([], []), [(.inr (some (.inl (0, 9, []))), 245, ([], [], []))])
set_option maxRecDepth 100000 in
theorem p2_s341_s {X : Int → Int} {LX : Nat} : ck_Ok p2_O X LX 34 p2_s341 := ck_ok_s (O := p2_O) (X := X) (LX := LX) (E := []) (mi := 34) (cuts := []) (f := 92) (S := p2_s341) (lx := none) (XF := []) ⟨p2_nmu, ck_E0⟩ ck_X0 ck_l0 (by decide +kernel)
set_option maxRecDepth 100000 in
/-- GlacierMail$Way.deepAfter -/
noncomputable def p2_s342 : ck_Sum := ((1, 0, 0), 245, [.inr (.inr (.inl 206))], ([], [], []), ([], []), [(.inr (some (.inl (0, 99, []))), 245, ([], [], []))])
set_option maxRecDepth 100000 in
theorem p2_s342_s {X : Int → Int} {LX : Nat} : ck_Ok p2_O X LX 33 p2_s342 := ck_ok_s (O := p2_O) (X := X) (LX := LX) (E := [(34, [p2_s341])]) (mi := 33) (cuts := []) (f := 110) (S := p2_s342) (lx := none) (XF := []) ⟨p2_nmu, ck_E1 (ck_S1 p2_s341_s ck_S0) ck_E0⟩ ck_X0 ck_l0 (by decide +kernel)
set_option maxRecDepth 100000 in
/-- GlacierMail$Ice.floodsIn -/
noncomputable def p2_s343 : ck_Sum := ((0, 0, 0), 245, [.inr (.inr (.inl 200)), .inl ((-2147483648), 2147483647, [])], ([], [], []), ([], []), [(.inr (some (.inl (ck_one 0))), 245, ([], [], [])), (.inr (some (.inl ((-2147483648), 2147483647, []))), 245, ([], [], []))])
set_option maxRecDepth 100000 in
theorem p2_s343_s {X : Int → Int} {LX : Nat} : ck_Ok p2_O X LX 44 p2_s343 := ck_ok_s (O := p2_O) (X := X) (LX := LX) (E := []) (mi := 44) (cuts := []) (f := 92) (S := p2_s343) (lx := none) (XF := []) ⟨p2_nmu, ck_E0⟩ ck_X0 ck_l0 (by decide +kernel)
set_option maxRecDepth 100000 in
/-- GlacierMail$Way.takeFloods -/
noncomputable def p2_s344 : ck_Sum := ((1, 0, 0), 245, [.inr (.inr (.inl 206))], ([], [], []), ([(206, 5, 5), (206, 8, 8)], []), [(.inr none, 245, ([], [], []))])
set_option maxRecDepth 100000 in
theorem p2_s344_s {X : Int → Int} {LX : Nat} : ck_Ok p2_O X LX 43 p2_s344 := ck_ok_s (O := p2_O) (X := X) (LX := LX) (E := [(44, [p2_s343]), (9, [p2_s139]), (10, [p2_s140])]) (mi := 43) (cuts := [(22, [some (.inr (.inr (.inl 206))), some (.inr (.inr (.inl 6))), some (.inl ((-2147483648), 2147483647, [])), some (.inl (0, 9, [])), none], ([], [], []), 100, .inl 3, true)]) (f := 290) (S := p2_s344) (lx := none) (XF := []) ⟨p2_nmu, ck_E1 (ck_S1 p2_s343_s ck_S0) (ck_E1 (ck_S1 p2_s139_s ck_S0) (ck_E1 (ck_S1 p2_s140_s ck_S0) ck_E0))⟩ ck_X0 ck_l0 (by decide +kernel)
set_option maxRecDepth 100000 in
/-- GlacierMail$Way.step -/
noncomputable def p2_s345 : ck_Sum := ((2, 0, 0), 245, [.inr (.inr (.inl 206))], ([], [(3, 8, 0)], []), ([(206, 5, 8)], []), [(.inr none, 245, ([], [], []))])
set_option maxRecDepth 100000 in
theorem p2_s345_s {X : Int → Int} {LX : Nat} : ck_Ok p2_O X LX 32 p2_s345 := ck_ok_s (O := p2_O) (X := X) (LX := LX) (E := [(31, [p2_s340]), (33, [p2_s342]), (35, [p2_s308]), (43, [p2_s344])]) (mi := 32) (cuts := []) (f := 134) (S := p2_s345) (lx := none) (XF := []) ⟨p2_nmu, ck_E1 (ck_S1 p2_s340_s ck_S0) (ck_E1 (ck_S1 p2_s342_s ck_S0) (ck_E1 (ck_S1 p2_s308_s ck_S0) (ck_E1 (ck_S1 p2_s344_s ck_S0) ck_E0)))⟩ ck_X0 ck_l0 (by decide +kernel)
set_option maxRecDepth 100000 in
/-- GlacierMail$Way.runOut -/
noncomputable def p2_s346 : ck_Sum := ((3, 0, 0), 245, [.inr (.inr (.inl 206)), .inl (0, 299, [])], ([], [(3, 8, 0)], []), ([(206, 5, 8)], []), [(.inr (some (.inl ((-2147483648), 299, []))), 245, ([], [], []))])
set_option maxRecDepth 100000 in
theorem p2_s346_s {X : Int → Int} {LX : Nat} : ck_Ok p2_O X LX 30 p2_s346 := ck_ok_s (O := p2_O) (X := X) (LX := LX) (E := [(31, [p2_s340]), (32, [p2_s345])]) (mi := 30) (cuts := [(5, [some (.inr (.inr (.inl 206))), some (.inl (0, 299, [])), some (.inl ((-2147483648), 2147483647, []))], ([], [(3, 8, 0)], []), 100, .inl 2, true)]) (f := 134) (S := p2_s346) (lx := none) (XF := []) ⟨p2_nmu, ck_E1 (ck_S1 p2_s340_s ck_S0) (ck_E1 (ck_S1 p2_s345_s ck_S0) ck_E0)⟩ ck_X0 ck_l0 (by decide +kernel)
set_option maxRecDepth 100000 in
/-- GlacierMail$Rows.put -/
noncomputable def p2_s347 : ck_Sum := ((0, 0, 0), 245, [.inr (.inr (.inl 220)), .inl (0, 23, []), .inl (ck_one 0), .inl ((-2147483648), 299, [])], ([], [], []), (zl77, []), [(.inr none, 245, ([], [], []))])
set_option maxRecDepth 100000 in
theorem p2_s347_s {X : Int → Int} {LX : Nat} : ck_Ok p2_O X LX 45 p2_s347 := ck_ok_s (O := p2_O) (X := X) (LX := LX) (E := []) (mi := 45) (cuts := []) (f := 116) (S := p2_s347) (lx := none) (XF := []) ⟨p2_nmu, ck_E0⟩ ck_X0 ck_l0 (by decide +kernel)
set_option maxRecDepth 100000 in
/-- GlacierMail$Rows.put -/
noncomputable def p2_s348 : ck_Sum := ((0, 0, 0), 245, [.inr (.inr (.inl 220)), .inl (0, 23, []), .inl (ck_one 1), .inl (0, 99, [])], ([], [], []), (zl78, []), [(.inr none, 245, ([], [], []))])
set_option maxRecDepth 100000 in
theorem p2_s348_s {X : Int → Int} {LX : Nat} : ck_Ok p2_O X LX 45 p2_s348 := ck_ok_s (O := p2_O) (X := X) (LX := LX) (E := []) (mi := 45) (cuts := []) (f := 116) (S := p2_s348) (lx := none) (XF := []) ⟨p2_nmu, ck_E0⟩ ck_X0 ck_l0 (by decide +kernel)
set_option maxRecDepth 100000 in
/-- GlacierMail.reckonEnds -/
noncomputable def p2_s349 : ck_Sum := ((4, 0, 0), 245, [.inr (.inr (.inl 1))], ([], [(3, 8, 0)], []), (zl79, []), [(.inr none, 245, ([], [], [(1, 15, 15, ck_one 1)]))])
set_option maxRecDepth 100000 in
theorem p2_s349_s {X : Int → Int} {LX : Nat} : ck_Ok p2_O X LX 24 p2_s349 := ck_ok_s (O := p2_O) (X := X) (LX := LX) (E := [(9, [p2_s331, p2_s332]), (25, [p2_s334]), (27, [p2_s339]), (30, [p2_s346]), (45, [p2_s347, p2_s348])]) (mi := 24) (cuts := [(27, [some (.inr (.inr (.inl 1))), some (.inl (0, 24, []))], ([], [(3, 8, 0)], [(1, 15, 15, ck_one 0)]), 100, .inl 1, true)]) (f := 206) (S := p2_s349) (lx := none) (XF := []) ⟨p2_nmu, ck_E1 (ck_S1 p2_s331_s (ck_S1 p2_s332_s ck_S0)) (ck_E1 (ck_S1 p2_s334_s ck_S0) (ck_E1 (ck_S1 p2_s339_s ck_S0) (ck_E1 (ck_S1 p2_s346_s ck_S0) (ck_E1 (ck_S1 p2_s347_s (ck_S1 p2_s348_s ck_S0)) ck_E0))))⟩ ck_X0 ck_l0 (by decide +kernel)
set_option maxRecDepth 100000 in
/-- GlacierMail$Rows.get -/
noncomputable def p2_s350 : ck_Sum := ((0, 0, 0), 245, [.inr (.inr (.inl 220)), .inl ((-2147483648), 2147483647, []), .inl ((-2147483648), 2147483647, [])], ([], [], []), ([], []), [(.inr (some (.inl ((-2147483648), 299, []))), 245, ([], [], []))])
set_option maxRecDepth 100000 in
theorem p2_s350_s {X : Int → Int} {LX : Nat} : ck_Ok p2_O X LX 10 p2_s350 := ck_ok_s (O := p2_O) (X := X) (LX := LX) (E := []) (mi := 10) (cuts := []) (f := 114) (S := p2_s350) (lx := none) (XF := []) ⟨p2_nmu, ck_E0⟩ ck_X0 ck_l0 (by decide +kernel)
set_option maxRecDepth 100000 in
/-- GlacierMail.isOutBy -/
noncomputable def p2_s351 : ck_Sum := ((0, 0, 0), 245, [.inr (.inr (.inl 1)), .inl ((-2147483648), 299, []), .inl (0, 299, [])], ([], [], []), ([], []), [(.inr (some (.inl (ck_one 0))), 245, ([], [], [])), (.inr (some (.inl (ck_one 1))), 245, ([], [], []))])
set_option maxRecDepth 100000 in
theorem p2_s351_s {X : Int → Int} {LX : Nat} : ck_Ok p2_O X LX 67 p2_s351 := ck_ok_s (O := p2_O) (X := X) (LX := LX) (E := []) (mi := 67) (cuts := []) (f := 88) (S := p2_s351) (lx := none) (XF := []) ⟨p2_nmu, ck_E0⟩ ck_X0 ck_l0 (by decide +kernel)
set_option maxRecDepth 100000 in
/-- GlacierMail.waits -/
noncomputable def p2_s352 : ck_Sum := ((2, 0, 0), 245, [.inr (.inr (.inl 1)), .inl (0, 23, [])], ([], [], [(3, 6, 6, (0, 299, [(10, 0)]))]), ([], []), [(.inr (some (.inl (ck_one 0))), 245, ([], [], [])), (.inr (some (.inl (ck_one 1))), 245, ([], [], []))])
set_option maxRecDepth 100000 in
theorem p2_s352_s {X : Int → Int} {LX : Nat} : ck_Ok p2_O X LX 66 p2_s352 := ck_ok_s (O := p2_O) (X := X) (LX := LX) (E := [(28, [p2_s336]), (10, [p2_s335, p2_s350]), (67, [p2_s351])]) (mi := 66) (cuts := []) (f := 134) (S := p2_s352) (lx := none) (XF := []) ⟨p2_nmu, ck_E1 (ck_S1 p2_s336_s ck_S0) (ck_E1 (ck_S1 p2_s335_s (ck_S1 p2_s350_s ck_S0)) (ck_E1 (ck_S1 p2_s351_s ck_S0) ck_E0))⟩ ck_X0 ck_l0 (by decide +kernel)
set_option maxRecDepth 100000 in
/-- GlacierMail.lettersWith -/
noncomputable def p2_s354 : ck_Sum := ((1, 0, 0), 245, [.inr (.inr (.inl 1)), .inl (ck_one 5), .inl (0, 7, [])], ([], [], []), ([], []), [(.inr (some (.inl ((-2147483648), 2147483647, []))), 245, ([], [], []))])
set_option maxRecDepth 100000 in
theorem p2_s354_s {X : Int → Int} {LX : Nat} : ck_Ok p2_O X LX 140 p2_s354 := ck_ok_s (O := p2_O) (X := X) (LX := LX) (E := [(9, [p2_s331]), (10, [p2_s335])]) (mi := 140) (cuts := [(5, [some (.inr (.inr (.inl 1))), some (.inl (ck_one 5)), some (.inl (0, 7, [])), some (.inl ((-2147483648), 2147483647, [])), some (.inl (0, 24, []))], ([], [], []), 100, .inl 4, true)]) (f := 162) (S := p2_s354) (lx := none) (XF := []) ⟨p2_nmu, ck_E1 (ck_S1 p2_s331_s ck_S0) (ck_E1 (ck_S1 p2_s335_s ck_S0) ck_E0)⟩ ck_X0 ck_l0 (by decide +kernel)
set_option maxRecDepth 100000 in
/-- GlacierMail.lettersWith -/
noncomputable def p2_s355 : ck_Sum := ((1, 0, 0), 245, [.inr (.inr (.inl 1)), .inl (ck_one 0), .inl (0, 7, [])], ([], [], []), ([], []), [(.inr (some (.inl ((-2147483648), 2147483647, []))), 245, ([], [], []))])
set_option maxRecDepth 100000 in
theorem p2_s355_s {X : Int → Int} {LX : Nat} : ck_Ok p2_O X LX 140 p2_s355 := ck_ok_s (O := p2_O) (X := X) (LX := LX) (E := [(9, [p2_s331]), (10, [p2_s335])]) (mi := 140) (cuts := [(5, [some (.inr (.inr (.inl 1))), some (.inl (ck_one 0)), some (.inl (0, 7, [])), some (.inl ((-2147483648), 2147483647, [])), some (.inl (0, 24, []))], ([], [], []), 100, .inl 4, true)]) (f := 162) (S := p2_s355) (lx := none) (XF := []) ⟨p2_nmu, ck_E1 (ck_S1 p2_s331_s ck_S0) (ck_E1 (ck_S1 p2_s335_s ck_S0) ck_E0)⟩ ck_X0 ck_l0 (by decide +kernel)
set_option maxRecDepth 100000 in
/-- GlacierMail$Rows.get -/
noncomputable def p2_s356 : ck_Sum := ((0, 0, 0), 245, [.inr (.inr (.inl 8)), .inl ((-2147483648), 2147483647, []), .inl ((-2147483648), 2147483647, [])], ([], [], []), ([], []), [(.inr (some (.inl ((-1), 98, []))), 245, ([], [], []))])
set_option maxRecDepth 100000 in
theorem p2_s356_s {X : Int → Int} {LX : Nat} : ck_Ok p2_O X LX 10 p2_s356 := ck_ok_s (O := p2_O) (X := X) (LX := LX) (E := []) (mi := 10) (cuts := []) (f := 114) (S := p2_s356) (lx := none) (XF := []) ⟨p2_nmu, ck_E0⟩ ck_X0 ck_l0 (by decide +kernel)
set_option maxRecDepth 100000 in
/-- GlacierMailModel.in -/
noncomputable def p2_s358 : ck_Sum := ((0, 0, 0), 245, [.inl ((-2147483648), (-1), []), .inl (ck_one 0), .inl ((-1), 7, [])], ([], [], []), ([], []), [(.inr (some (.inl (ck_one 0))), 245, ([], [], []))])
set_option maxRecDepth 100000 in
theorem p2_s358_s {X : Int → Int} {LX : Nat} : ck_Ok p2_O X LX 286 p2_s358 := ck_ok_s (O := p2_O) (X := X) (LX := LX) (E := []) (mi := 286) (cuts := []) (f := 80) (S := p2_s358) (lx := none) (XF := []) ⟨p2_nmu, ck_E0⟩ ck_X0 ck_l0 (by decide +kernel)
set_option maxRecDepth 100000 in
/-- GlacierMailModel.noPerson -/
noncomputable def p2_s359 : ck_Sum := ((1, 0, 0), 245, [.inr (.inr (.inl 226)), .inl ((-2147483648), (-1), [])], ([], [], [(227, 3, 3, (0, 8, [(21, 0)]))]), ([], []), [(.inr (some (.inl (ck_one 1))), 245, ([], [], []))])
set_option maxRecDepth 100000 in
theorem p2_s359_s {X : Int → Int} {LX : Nat} : ck_Ok p2_O X LX 298 p2_s359 := ck_ok_s (O := p2_O) (X := X) (LX := LX) (E := [(253, [p2_s186]), (286, [p2_s358])]) (mi := 298) (cuts := []) (f := 92) (S := p2_s359) (lx := none) (XF := []) ⟨p2_nmu, ck_E1 (ck_S1 p2_s186_s ck_S0) (ck_E1 (ck_S1 p2_s358_s ck_S0) ck_E0)⟩ ck_X0 ck_l0 (by decide +kernel)
set_option maxRecDepth 100000 in
/-- GlacierMailModel.person -/
noncomputable def p2_s360 : ck_Sum := ((2, 0, 0), 245, [.inr (.inr (.inl 226)), .inl ((-2147483648), (-1), []), .inl ((-2147483648), 2147483647, [])], ([], [], [(227, 3, 3, (0, 8, [(21, 0)]))]), ([(226, 0, 0)], []), [(.inr (some (.inl (ck_one 0))), 245, ([], [], [(226, 0, 0, ck_one 1)]))])
set_option maxRecDepth 100000 in
theorem p2_s360_s {X : Int → Int} {LX : Nat} : ck_Ok p2_O X LX 297 p2_s360 := ck_ok_s (O := p2_O) (X := X) (LX := LX) (E := [(298, [p2_s359]), (282, [p2_s241])]) (mi := 297) (cuts := []) (f := 94) (S := p2_s360) (lx := none) (XF := []) ⟨p2_nmu, ck_E1 (ck_S1 p2_s359_s ck_S0) (ck_E1 (ck_S1 p2_s241_s ck_S0) ck_E0)⟩ ck_X0 ck_l0 (by decide +kernel)
end
/-! 78r80a04.sf -/
section
/-! EVERY CALL ENDS, whatever was done before (laid by wip/am/p2k.py). -/
set_option maxRecDepth 100000 in
/-- GlacierMailModel.in -/
noncomputable def p2_s361 : ck_Sum := ((0, 0, 0), 245, [.inl (8, 2147483647, []), .inl (ck_one 0), .inl ((-1), 7, [])], ([], [], []), ([], []), [(.inr (some (.inl (ck_one 0))), 245, ([], [], []))])
set_option maxRecDepth 100000 in
theorem p2_s361_s {X : Int → Int} {LX : Nat} : ck_Ok p2_O X LX 286 p2_s361 := ck_ok_s (O := p2_O) (X := X) (LX := LX) (E := []) (mi := 286) (cuts := []) (f := 86) (S := p2_s361) (lx := none) (XF := []) ⟨p2_nmu, ck_E0⟩ ck_X0 ck_l0 (by decide +kernel)
set_option maxRecDepth 100000 in
/-- GlacierMailModel.noPerson -/
noncomputable def p2_s362 : ck_Sum := ((1, 0, 0), 245, [.inr (.inr (.inl 226)), .inl (8, 2147483647, [])], ([], [], [(227, 3, 3, (0, 8, [(21, 0)]))]), ([], []), [(.inr (some (.inl (ck_one 1))), 245, ([], [], []))])
set_option maxRecDepth 100000 in
theorem p2_s362_s {X : Int → Int} {LX : Nat} : ck_Ok p2_O X LX 298 p2_s362 := ck_ok_s (O := p2_O) (X := X) (LX := LX) (E := [(253, [p2_s186]), (286, [p2_s361])]) (mi := 298) (cuts := []) (f := 92) (S := p2_s362) (lx := none) (XF := []) ⟨p2_nmu, ck_E1 (ck_S1 p2_s186_s ck_S0) (ck_E1 (ck_S1 p2_s361_s ck_S0) ck_E0)⟩ ck_X0 ck_l0 (by decide +kernel)
set_option maxRecDepth 100000 in
/-- GlacierMailModel.person -/
noncomputable def p2_s363 : ck_Sum := ((2, 0, 0), 245, [.inr (.inr (.inl 226)), .inl (8, 2147483647, []), .inl ((-2147483648), 2147483647, [])], ([], [], [(227, 3, 3, (0, 8, [(21, 0)]))]), ([(226, 0, 0)], []), [(.inr (some (.inl (ck_one 0))), 245, ([], [], [(226, 0, 0, ck_one 1)]))])
set_option maxRecDepth 100000 in
theorem p2_s363_s {X : Int → Int} {LX : Nat} : ck_Ok p2_O X LX 297 p2_s363 := ck_ok_s (O := p2_O) (X := X) (LX := LX) (E := [(298, [p2_s362]), (282, [p2_s241])]) (mi := 297) (cuts := []) (f := 94) (S := p2_s363) (lx := none) (XF := []) ⟨p2_nmu, ck_E1 (ck_S1 p2_s362_s ck_S0) (ck_E1 (ck_S1 p2_s241_s ck_S0) ck_E0)⟩ ck_X0 ck_l0 (by decide +kernel)
set_option maxRecDepth 100000 in
/-- GlacierMailModel.in -/
noncomputable def p2_s364 : ck_Sum := ((0, 0, 0), 245, [.inl (0, 7, []), .inl (ck_one 0), .inl ((-1), 7, [])], ([], [], []), ([], []), [(.inr (some (.inl (ck_one 0))), 245, ([], [], [])), (.inr (some (.inl (ck_one 1))), 245, ([], [], []))])
set_option maxRecDepth 100000 in
theorem p2_s364_s {X : Int → Int} {LX : Nat} : ck_Ok p2_O X LX 286 p2_s364 := ck_ok_s (O := p2_O) (X := X) (LX := LX) (E := []) (mi := 286) (cuts := []) (f := 88) (S := p2_s364) (lx := none) (XF := []) ⟨p2_nmu, ck_E0⟩ ck_X0 ck_l0 (by decide +kernel)
set_option maxRecDepth 100000 in
/-- GlacierMailModel.noPerson -/
noncomputable def p2_s365 : ck_Sum := ((1, 0, 0), 245, [.inr (.inr (.inl 226)), .inl (0, 7, [])], ([], [], [(227, 3, 3, (0, 8, [(21, 0)]))]), ([], []), [(.inr (some (.inl (ck_one 1))), 245, ([], [], [])), (.inr (some (.inl (ck_one 0))), 245, ([], [], []))])
set_option maxRecDepth 100000 in
theorem p2_s365_s {X : Int → Int} {LX : Nat} : ck_Ok p2_O X LX 298 p2_s365 := ck_ok_s (O := p2_O) (X := X) (LX := LX) (E := [(253, [p2_s186]), (286, [p2_s364])]) (mi := 298) (cuts := []) (f := 92) (S := p2_s365) (lx := none) (XF := []) ⟨p2_nmu, ck_E1 (ck_S1 p2_s186_s ck_S0) (ck_E1 (ck_S1 p2_s364_s ck_S0) ck_E0)⟩ ck_X0 ck_l0 (by decide +kernel)
set_option maxRecDepth 100000 in
/-- GlacierMailModel.in -/
noncomputable def p2_s366 : ck_Sum := ((0, 0, 0), 245, [.inl ((-2147483648), (-1), []), .inl (ck_one 0), .inl (ck_one 5)], ([], [], []), ([], []), [(.inr (some (.inl (ck_one 0))), 245, ([], [], []))])
set_option maxRecDepth 100000 in
theorem p2_s366_s {X : Int → Int} {LX : Nat} : ck_Ok p2_O X LX 286 p2_s366 := ck_ok_s (O := p2_O) (X := X) (LX := LX) (E := []) (mi := 286) (cuts := []) (f := 80) (S := p2_s366) (lx := none) (XF := []) ⟨p2_nmu, ck_E0⟩ ck_X0 ck_l0 (by decide +kernel)
set_option maxRecDepth 100000 in
/-- GlacierMailModel.person -/
noncomputable def p2_s367 : ck_Sum := ((2, 0, 0), 245, [.inr (.inr (.inl 226)), .inl (0, 7, []), .inl ((-2147483648), (-1), [])], ([], [], [(227, 3, 3, (0, 8, [(21, 0)]))]), ([(226, 0, 0)], []), [(.inr (some (.inl (ck_one 0))), 245, ([], [], [(226, 0, 0, (1, 2, []))]))])
set_option maxRecDepth 100000 in
theorem p2_s367_s {X : Int → Int} {LX : Nat} : ck_Ok p2_O X LX 297 p2_s367 := ck_ok_s (O := p2_O) (X := X) (LX := LX) (E := [(298, [p2_s365]), (282, [p2_s241, p2_s242, p2_s244]), (286, [p2_s366])]) (mi := 297) (cuts := []) (f := 116) (S := p2_s367) (lx := none) (XF := []) ⟨p2_nmu, ck_E1 (ck_S1 p2_s365_s ck_S0) (ck_E1 (ck_S1 p2_s241_s (ck_S1 p2_s242_s (ck_S1 p2_s244_s ck_S0))) (ck_E1 (ck_S1 p2_s366_s ck_S0) ck_E0))⟩ ck_X0 ck_l0 (by decide +kernel)
set_option maxRecDepth 100000 in
/-- GlacierMailModel.in -/
noncomputable def p2_s368 : ck_Sum := ((0, 0, 0), 245, [.inl (10, 2147483647, []), .inl (ck_one 0), .inl (ck_one 5)], ([], [], []), ([], []), [(.inr (some (.inl (ck_one 0))), 245, ([], [], []))])
set_option maxRecDepth 100000 in
theorem p2_s368_s {X : Int → Int} {LX : Nat} : ck_Ok p2_O X LX 286 p2_s368 := ck_ok_s (O := p2_O) (X := X) (LX := LX) (E := []) (mi := 286) (cuts := []) (f := 86) (S := p2_s368) (lx := none) (XF := []) ⟨p2_nmu, ck_E0⟩ ck_X0 ck_l0 (by decide +kernel)
set_option maxRecDepth 100000 in
/-- GlacierMailModel.person -/
noncomputable def p2_s369 : ck_Sum := ((2, 0, 0), 245, [.inr (.inr (.inl 226)), .inl (0, 7, []), .inl (10, 2147483647, [])], ([], [], [(227, 3, 3, (0, 8, [(21, 0)]))]), ([(226, 0, 0)], []), [(.inr (some (.inl (ck_one 0))), 245, ([], [], [(226, 0, 0, (1, 2, []))]))])
set_option maxRecDepth 100000 in
theorem p2_s369_s {X : Int → Int} {LX : Nat} : ck_Ok p2_O X LX 297 p2_s369 := ck_ok_s (O := p2_O) (X := X) (LX := LX) (E := [(298, [p2_s365]), (282, [p2_s241, p2_s242, p2_s244]), (286, [p2_s368])]) (mi := 297) (cuts := []) (f := 116) (S := p2_s369) (lx := none) (XF := []) ⟨p2_nmu, ck_E1 (ck_S1 p2_s365_s ck_S0) (ck_E1 (ck_S1 p2_s241_s (ck_S1 p2_s242_s (ck_S1 p2_s244_s ck_S0))) (ck_E1 (ck_S1 p2_s368_s ck_S0) ck_E0))⟩ ck_X0 ck_l0 (by decide +kernel)
set_option maxRecDepth 100000 in
/-- GlacierMailModel.in -/
noncomputable def p2_s370 : ck_Sum := ((0, 0, 0), 245, [.inl (0, 9, []), .inl (ck_one 0), .inl (ck_one 5)], ([], [], []), ([], []), [(.inr (some (.inl (ck_one 0))), 245, ([], [], [])), (.inr (some (.inl (ck_one 1))), 245, ([], [], []))])
set_option maxRecDepth 100000 in
theorem p2_s370_s {X : Int → Int} {LX : Nat} : ck_Ok p2_O X LX 286 p2_s370 := ck_ok_s (O := p2_O) (X := X) (LX := LX) (E := []) (mi := 286) (cuts := []) (f := 88) (S := p2_s370) (lx := none) (XF := []) ⟨p2_nmu, ck_E0⟩ ck_X0 ck_l0 (by decide +kernel)
set_option maxRecDepth 100000 in
/-- GlacierMailModel.ofLetter -/
noncomputable def p2_s371 : ck_Sum := ((0, 0, 0), 245, [.inr (.inr (.inl 226)), .inl (0, 23, []), .inl (ck_one 1)], ([], [], []), ([], []), [(.inr (some (.inl (ck_one (-1)))), 245, ([], [], [])), (.inr (some (.inl (0, 7, []))), 245, ([], [], []))])
set_option maxRecDepth 100000 in
theorem p2_s371_s {X : Int → Int} {LX : Nat} : ck_Ok p2_O X LX 301 p2_s371 := ck_ok_s (O := p2_O) (X := X) (LX := LX) (E := []) (mi := 301) (cuts := []) (f := 92) (S := p2_s371) (lx := none) (XF := []) ⟨p2_nmu, ck_E0⟩ ck_X0 ck_l0 (by decide +kernel)
set_option maxRecDepth 100000 in
/-- GlacierMailModel.ofLetter -/
noncomputable def p2_s372 : ck_Sum := ((0, 0, 0), 245, [.inr (.inr (.inl 226)), .inl (0, 23, []), .inl (ck_one 5)], ([], [], []), ([], []), [(.inr (some (.inl (ck_one (-1)))), 245, ([], [], [])), (.inr (some (.inl (0, 7, []))), 245, ([], [], []))])
set_option maxRecDepth 100000 in
theorem p2_s372_s {X : Int → Int} {LX : Nat} : ck_Ok p2_O X LX 301 p2_s372 := ck_ok_s (O := p2_O) (X := X) (LX := LX) (E := []) (mi := 301) (cuts := []) (f := 92) (S := p2_s372) (lx := none) (XF := []) ⟨p2_nmu, ck_E0⟩ ck_X0 ck_l0 (by decide +kernel)
set_option maxRecDepth 100000 in
/-- GlacierMailModel.ofLetter -/
noncomputable def p2_s373 : ck_Sum := ((0, 0, 0), 245, [.inr (.inr (.inl 226)), .inl (0, 23, []), .inl (ck_one 0)], ([], [], []), ([], []), [(.inr (some (.inl (ck_one (-1)))), 245, ([], [], [])), (.inr (some (.inl (0, 7, []))), 245, ([], [], []))])
set_option maxRecDepth 100000 in
theorem p2_s373_s {X : Int → Int} {LX : Nat} : ck_Ok p2_O X LX 301 p2_s373 := ck_ok_s (O := p2_O) (X := X) (LX := LX) (E := []) (mi := 301) (cuts := []) (f := 92) (S := p2_s373) (lx := none) (XF := []) ⟨p2_nmu, ck_E0⟩ ck_X0 ck_l0 (by decide +kernel)
set_option maxRecDepth 100000 in
/-- GlacierMailModel.isRock -/
noncomputable def p2_s374 : ck_Sum := ((1, 0, 0), 245, [.inr (.inr (.inl 226)), .inl (0, 23, [])], ([], [], []), ([], []), [(.inr (some (.inl (ck_one 1))), 245, ([], [], [])), (.inr (some (.inl (ck_one 0))), 245, ([], [], []))])
set_option maxRecDepth 100000 in
theorem p2_s374_s {X : Int → Int} {LX : Nat} : ck_Ok p2_O X LX 303 p2_s374 := ck_ok_s (O := p2_O) (X := X) (LX := LX) (E := [(301, [p2_s373])]) (mi := 303) (cuts := []) (f := 86) (S := p2_s374) (lx := none) (XF := []) ⟨p2_nmu, ck_E1 (ck_S1 p2_s373_s ck_S0) ck_E0⟩ ck_X0 ck_l0 (by decide +kernel)
set_option maxRecDepth 100000 in
/-- GlacierMailModel.ofLetter -/
noncomputable def p2_s375 : ck_Sum := ((0, 0, 0), 245, [.inr (.inr (.inl 226)), .inl (0, 23, []), .inl (ck_one 2)], ([], [], []), ([], []), [(.inr (some (.inl (0, 6, []))), 245, ([], [], []))])
set_option maxRecDepth 100000 in
theorem p2_s375_s {X : Int → Int} {LX : Nat} : ck_Ok p2_O X LX 301 p2_s375 := ck_ok_s (O := p2_O) (X := X) (LX := LX) (E := []) (mi := 301) (cuts := []) (f := 92) (S := p2_s375) (lx := none) (XF := []) ⟨p2_nmu, ck_E0⟩ ck_X0 ck_l0 (by decide +kernel)
set_option maxRecDepth 100000 in
/-- GlacierMailModel.ofLetter -/
noncomputable def p2_s376 : ck_Sum := ((0, 0, 0), 245, [.inr (.inr (.inl 226)), .inl (0, 23, []), .inl (ck_one 4)], ([], [], []), ([], []), [(.inr (some (.inl (0, 98, []))), 245, ([], [], []))])
set_option maxRecDepth 100000 in
theorem p2_s376_s {X : Int → Int} {LX : Nat} : ck_Ok p2_O X LX 301 p2_s376 := ck_ok_s (O := p2_O) (X := X) (LX := LX) (E := []) (mi := 301) (cuts := []) (f := 92) (S := p2_s376) (lx := none) (XF := []) ⟨p2_nmu, ck_E0⟩ ck_X0 ck_l0 (by decide +kernel)
set_option maxRecDepth 100000 in
/-- GlacierMailModel.ofLetter -/
noncomputable def p2_s377 : ck_Sum := ((0, 0, 0), 245, [.inr (.inr (.inl 226)), .inl (0, 23, []), .inl (ck_one 3)], ([], [], []), ([], []), [(.inr (some (.inl (0, 299, []))), 245, ([], [], []))])
set_option maxRecDepth 100000 in
theorem p2_s377_s {X : Int → Int} {LX : Nat} : ck_Ok p2_O X LX 301 p2_s377 := ck_ok_s (O := p2_O) (X := X) (LX := LX) (E := []) (mi := 301) (cuts := []) (f := 92) (S := p2_s377) (lx := none) (XF := []) ⟨p2_nmu, ck_E0⟩ ck_X0 ck_l0 (by decide +kernel)
set_option maxRecDepth 100000 in
/-- GlacierMailModel.floods -/
noncomputable def p2_s378 : ck_Sum := ((0, 0, 0), 245, [.inr (.inr (.inl 226)), .inl (0, 128, []), .inl (0, 299, []), .inl ((-1), 7, [])], ([], [], [(227, 5, 5, (0, 8, [(23, 0)]))]), ([(226, 30, 30)], []), [(.inr (some (.inl (0, 288, []))), 245, ([], [], []))])
noncomputable def p2_s378_E : List (Nat × List ck_Sum) := []
noncomputable def p2_s378_i : List (Nat × ck_C) := []
set_option maxRecDepth 100000 in
noncomputable def p2_s378_l : List ck_H := [(6, ([some (.inr (.inr (.inl 226))), some (.inl (0, 128, [])), some (.inl (0, 299, [])), some (.inl ((-1), 7, [])), some (.inl (0, 288, [])), some (.inl (ck_one 8)), some (.inl (ck_one 92))], ([], [], [(227, 5, 5, (8, 8, [(23, 0)]))]), 2000000, .inl 4, true), 0, 0, 245), (6, ([some (.inr (.inr (.inl 226))), some (.inl (0, 128, [])), some (.inl (0, 299, [])), some (.inl ((-1), 7, [])), some (.inl (0, 268, [])), some (.inl (ck_one 7)), some (.inl (ck_one 89))], ([], [], [(227, 5, 5, (7, 8, [(23, 0)]))]), 2000001, .inl 4, true), 0, 0, 245), (6, ([some (.inr (.inr (.inl 226))), some (.inl (0, 128, [])), some (.inl (0, 299, [])), some (.inl ((-1), 7, [])), some (.inl (0, 248, [])), some (.inl (ck_one 6)), some (.inl (ck_one 86))], ([], [], [(227, 5, 5, (6, 8, [(23, 0)]))]), 2000002, .inl 4, true), 0, 0, 245), (6, ([some (.inr (.inr (.inl 226))), some (.inl (0, 128, [])), some (.inl (0, 299, [])), some (.inl ((-1), 7, [])), some (.inl (0, 228, [])), some (.inl (ck_one 5)), some (.inl (ck_one 83))], ([], [], [(227, 5, 5, (5, 8, [(23, 0)]))]), 2000003, .inl 4, true), 0, 0, 245), (6, ([some (.inr (.inr (.inl 226))), some (.inl (0, 128, [])), some (.inl (0, 299, [])), some (.inl ((-1), 7, [])), some (.inl (0, 208, [])), some (.inl (ck_one 4)), some (.inl (ck_one 80))], ([], [], [(227, 5, 5, (4, 8, [(23, 0)]))]), 2000004, .inl 4, true), 0, 0, 245), (6, ([some (.inr (.inr (.inl 226))), some (.inl (0, 128, [])), some (.inl (0, 299, [])), some (.inl ((-1), 7, [])), some (.inl (0, 188, [])), some (.inl (ck_one 3)), some (.inl (ck_one 77))], ([], [], [(227, 5, 5, (3, 8, [(23, 0)]))]), 2000005, .inl 4, true), 0, 0, 245), (6, ([some (.inr (.inr (.inl 226))), some (.inl (0, 128, [])), some (.inl (0, 299, [])), some (.inl ((-1), 7, [])), some (.inl (0, 168, [])), some (.inl (ck_one 2)), some (.inl (ck_one 74))], ([], [], [(227, 5, 5, (2, 8, [(23, 0)]))]), 2000006, .inl 4, true), 0, 0, 245), (6, ([some (.inr (.inr (.inl 226))), some (.inl (0, 128, [])), some (.inl (0, 299, [])), some (.inl ((-1), 7, [])), some (.inl (0, 148, [])), some (.inl (ck_one 1)), some (.inl (ck_one 71))], ([], [], [(227, 5, 5, (1, 8, [(23, 0)]))]), 2000007, .inl 4, true), 0, 0, 245), (6, ([some (.inr (.inr (.inl 226))), some (.inl (0, 128, [])), some (.inl (0, 299, [])), some (.inl ((-1), 7, [])), some (.inl (0, 128, [])), some (.inl (ck_one 0)), none], ([], [], [(227, 5, 5, (0, 8, [(23, 0)]))]), 2000008, .inl 4, true), 0, 0, 245)]
set_option maxRecDepth 100000 in
theorem p2_s378_a : (decide (p2_s378.2.2.1.length ≤ gm_ml 307) && ck_cu (p2_s378_l.map (fun h => (h.1, h.2.1)) ++ p2_s378_i)) = true := by decide +kernel
set_option maxRecDepth 100000 in
theorem p2_s378_e0 : ck_stpi p2_O p2_s378_E 307 p2_s378.1.1 p2_s378.2.1 p2_s378.2.2.2.2.1 p2_s378.2.2.2.2.2 (p2_s378_l.map (fun h => (h.1, h.2.1)) ++ p2_s378_i) 1290 p2_s378_l 0 = true := by decide +kernel
set_option maxRecDepth 100000 in
theorem p2_s378_e1 : ck_stpi p2_O p2_s378_E 307 p2_s378.1.1 p2_s378.2.1 p2_s378.2.2.2.2.1 p2_s378.2.2.2.2.2 (p2_s378_l.map (fun h => (h.1, h.2.1)) ++ p2_s378_i) 1290 p2_s378_l 1 = true := by decide +kernel
set_option maxRecDepth 100000 in
theorem p2_s378_e2 : ck_stpi p2_O p2_s378_E 307 p2_s378.1.1 p2_s378.2.1 p2_s378.2.2.2.2.1 p2_s378.2.2.2.2.2 (p2_s378_l.map (fun h => (h.1, h.2.1)) ++ p2_s378_i) 1290 p2_s378_l 2 = true := by decide +kernel
set_option maxRecDepth 100000 in
theorem p2_s378_e3 : ck_stpi p2_O p2_s378_E 307 p2_s378.1.1 p2_s378.2.1 p2_s378.2.2.2.2.1 p2_s378.2.2.2.2.2 (p2_s378_l.map (fun h => (h.1, h.2.1)) ++ p2_s378_i) 1290 p2_s378_l 3 = true := by decide +kernel
set_option maxRecDepth 100000 in
theorem p2_s378_e4 : ck_stpi p2_O p2_s378_E 307 p2_s378.1.1 p2_s378.2.1 p2_s378.2.2.2.2.1 p2_s378.2.2.2.2.2 (p2_s378_l.map (fun h => (h.1, h.2.1)) ++ p2_s378_i) 1290 p2_s378_l 4 = true := by decide +kernel
set_option maxRecDepth 100000 in
theorem p2_s378_e5 : ck_stpi p2_O p2_s378_E 307 p2_s378.1.1 p2_s378.2.1 p2_s378.2.2.2.2.1 p2_s378.2.2.2.2.2 (p2_s378_l.map (fun h => (h.1, h.2.1)) ++ p2_s378_i) 1290 p2_s378_l 5 = true := by decide +kernel
set_option maxRecDepth 100000 in
theorem p2_s378_e6 : ck_stpi p2_O p2_s378_E 307 p2_s378.1.1 p2_s378.2.1 p2_s378.2.2.2.2.1 p2_s378.2.2.2.2.2 (p2_s378_l.map (fun h => (h.1, h.2.1)) ++ p2_s378_i) 1290 p2_s378_l 6 = true := by decide +kernel
set_option maxRecDepth 100000 in
theorem p2_s378_e7 : ck_stpi p2_O p2_s378_E 307 p2_s378.1.1 p2_s378.2.1 p2_s378.2.2.2.2.1 p2_s378.2.2.2.2.2 (p2_s378_l.map (fun h => (h.1, h.2.1)) ++ p2_s378_i) 1290 p2_s378_l 7 = true := by decide +kernel
set_option maxRecDepth 100000 in
theorem p2_s378_e8 : ck_stpi p2_O p2_s378_E 307 p2_s378.1.1 p2_s378.2.1 p2_s378.2.2.2.2.1 p2_s378.2.2.2.2.2 (p2_s378_l.map (fun h => (h.1, h.2.1)) ++ p2_s378_i) 1290 p2_s378_l 8 = true := by decide +kernel
set_option maxRecDepth 100000 in
theorem p2_s378_z : ck_go p2_O none [] p2_s378_E 307 p2_s378.1.1 p2_s378.2.1 p2_s378.2.2.2.2.1 p2_s378.2.2.2.2.2 (p2_s378_l.map (fun h => (h.1, h.2.1)) ++ p2_s378_i) 1290 false p2_s378_l p2_s378.1.2.1 p2_s378.1.2.2 0 (p2_s378.2.2.1.map some ++ List.replicate (gm_ml 307 - p2_s378.2.2.1.length) none) [] p2_s378.2.1 p2_s378.2.2.2.1 = true := by decide +kernel
theorem p2_s378_s {X : Int → Int} {LX : Nat} : ck_Ok p2_O X LX 307 p2_s378 := by
  refine ck_okp_i (cuts := p2_s378_i) (l := p2_s378_l) (f := 1290) ⟨p2_nmu, ck_E0⟩ p2_s378_a (fun i hi => ?_) p2_s378_z
  have hi : i < 9 := hi
  have : i = 0 ∨ i = 1 ∨ i = 2 ∨ i = 3 ∨ i = 4 ∨ i = 5 ∨ i = 6 ∨ i = 7 ∨ i = 8 := by omega
  rcases this with rfl | rfl | rfl | rfl | rfl | rfl | rfl | rfl | rfl
  · exact p2_s378_e0
  · exact p2_s378_e1
  · exact p2_s378_e2
  · exact p2_s378_e3
  · exact p2_s378_e4
  · exact p2_s378_e5
  · exact p2_s378_e6
  · exact p2_s378_e7
  · exact p2_s378_e8
set_option maxRecDepth 100000 in
/-- GlacierMailModel.runs -/
noncomputable def p2_s379 : ck_Sum := ((5, 0, 0), 245, [.inr (.inr (.inl 226)), .inl (0, 6, []), .inl (0, 98, []), .inl (0, 299, []), .inl (0, 1, []), .inl ((-1), 7, [])], ([], [], zl80), (zl81, []), [(.inr none, 245, ([], [], []))])
set_option maxRecDepth 100000 in
theorem p2_s379_s {X : Int → Int} {LX : Nat} : ck_Ok p2_O X LX 306 p2_s379 := ck_ok_s (O := p2_O) (X := X) (LX := LX) (E := [(259, [p2_s180]), (292, [p2_s318]), (307, [p2_s378])]) (mi := 306) (cuts := [(3, [some (.inr (.inr (.inl 226))), some (.inl (0, 6, [])), some (.inl (0, 98, [])), some (.inl (0, 299, [])), some (.inl (0, 1, [])), some (.inl ((-1), 7, [])), some (.inl (0, 299, [])), none, none], ([], [], [(227, 2, 2, (0, 8, [(20, 0)])), (227, 5, 5, (0, 8, [(23, 0)]))]), 100, .inl 6, true), (50, [some (.inr (.inr (.inl 226))), some (.inl (0, 6, [])), some (.inl (0, 98, [])), some (.inl (0, 299, [])), some (.inl (0, 1, [])), some (.inl ((-1), 7, [])), some (.inl (0, 288, [])), some (.inl (0, 99, [])), some (.inl (0, 300, []))], ([], [], [(226, 29, 29, ((-1), 299, [])), (227, 2, 2, (0, 8, [(20, 0)])), (227, 5, 5, (0, 8, [(23, 0)]))]), 300, .inl 8, true)]) (f := 506) (S := p2_s379) (lx := none) (XF := []) ⟨p2_nmu, ck_E1 (ck_S1 p2_s180_s ck_S0) (ck_E1 (ck_S1 p2_s318_s ck_S0) (ck_E1 (ck_S1 p2_s378_s ck_S0) ck_E0))⟩ ck_X0 ck_l0 (by decide +kernel)
set_option maxRecDepth 100000 in
/-- GlacierMailModel.runsLetter -/
noncomputable def p2_s380 : ck_Sum := ((6, 0, 0), 245, [.inr (.inr (.inl 226)), .inl (0, 23, []), .inl ((-1), 7, [])], ([], [], zl80), (zl81, []), [(.inr none, 245, ([], [], []))])
set_option maxRecDepth 100000 in
theorem p2_s380_s {X : Int → Int} {LX : Nat} : ck_Ok p2_O X LX 305 p2_s380 := ck_ok_s (O := p2_O) (X := X) (LX := LX) (E := [(301, [p2_s375, p2_s376, p2_s377]), (303, [p2_s374]), (306, [p2_s379])]) (mi := 305) (cuts := []) (f := 108) (S := p2_s380) (lx := none) (XF := []) ⟨p2_nmu, ck_E1 (ck_S1 p2_s375_s (ck_S1 p2_s376_s (ck_S1 p2_s377_s ck_S0))) (ck_E1 (ck_S1 p2_s374_s ck_S0) (ck_E1 (ck_S1 p2_s379_s ck_S0) ck_E0))⟩ ck_X0 ck_l0 (by decide +kernel)
set_option maxRecDepth 100000 in
/-- GlacierMailModel.outOf -/
noncomputable def p2_s381 : ck_Sum := ((7, 0, 0), 245, [.inr (.inr (.inl 226)), .inl (0, 23, [])], ([], [], zl80), (zl81, []), zl82)
set_option maxRecDepth 100000 in
theorem p2_s381_s {X : Int → Int} {LX : Nat} : ck_Ok p2_O X LX 304 p2_s381 := ck_ok_s (O := p2_O) (X := X) (LX := LX) (E := [(305, [p2_s380])]) (mi := 304) (cuts := []) (f := 84) (S := p2_s381) (lx := none) (XF := []) ⟨p2_nmu, ck_E1 (ck_S1 p2_s380_s ck_S0) ck_E0⟩ ck_X0 ck_l0 (by decide +kernel)
set_option maxRecDepth 100000 in
/-- GlacierMailModel.of -/
noncomputable def p2_s384 : ck_Sum := ((0, 0, 0), 245, [.inr (.inr (.inl 226)), .inl (0, 7, []), .inl (0, 2, [])], ([], [], []), ([], []), [(.inr (some (.inl ((-1), 98, []))), 245, ([], [], []))])
set_option maxRecDepth 100000 in
theorem p2_s384_s {X : Int → Int} {LX : Nat} : ck_Ok p2_O X LX 299 p2_s384 := ck_ok_s (O := p2_O) (X := X) (LX := LX) (E := []) (mi := 299) (cuts := []) (f := 92) (S := p2_s384) (lx := none) (XF := []) ⟨p2_nmu, ck_E0⟩ ck_X0 ck_l0 (by decide +kernel)
set_option maxRecDepth 100000 in
/-- GlacierMail.need -/
noncomputable def p2_s386 : ck_Sum := ((6, 1, 6), 245, [.inr (.inr (.inl 1)), .inl ((-2147483648), (-1), []), .inl (0, 24, [])], ([], [], []), ([], []), [(.inl 3, 245, ([], [], []))])
set_option maxRecDepth 100000 in
theorem p2_s386_s {X : Int → Int} {LX : Nat} : ck_Ok p2_O X LX 133 p2_s386 := ck_ok_s (O := p2_O) (X := X) (LX := LX) (E := []) (mi := 133) (cuts := []) (f := 76) (S := p2_s386) (lx := none) (XF := []) ⟨p2_nmu, ck_E0⟩ ck_X0 ck_l0 (by decide +kernel)
set_option maxRecDepth 100000 in
/-- GlacierMail.needLetter -/
noncomputable def p2_s387 : ck_Sum := ((7, 1, 6), 245, [.inr (.inr (.inl 1)), .inl ((-2147483648), (-1), [])], ([], [], []), ([], []), [(.inl 3, 245, ([], [], []))])
set_option maxRecDepth 100000 in
theorem p2_s387_s {X : Int → Int} {LX : Nat} : ck_Ok p2_O X LX 143 p2_s387 := ck_ok_s (O := p2_O) (X := X) (LX := LX) (E := [(9, [p2_s331]), (133, [p2_s386])]) (mi := 143) (cuts := []) (f := 84) (S := p2_s387) (lx := none) (XF := []) ⟨p2_nmu, ck_E1 (ck_S1 p2_s331_s ck_S0) (ck_E1 (ck_S1 p2_s386_s ck_S0) ck_E0)⟩ ck_X0 ck_l0 (by decide +kernel)
set_option maxRecDepth 100000 in
/-- GlacierMail.letter -/
noncomputable def p2_s388 : ck_Sum := ((8, 1, 6), 245, [.inr (.inr (.inl 1)), .inl ((-2147483648), (-1), []), .inl ((-2147483648), 2147483647, [])], ([], [], []), ([], []), [(.inl 3, 245, ([], [], []))])
set_option maxRecDepth 100000 in
theorem p2_s388_s {X : Int → Int} {LX : Nat} : ck_Ok p2_O X LX 142 p2_s388 := ck_ok_s (O := p2_O) (X := X) (LX := LX) (E := [(143, [p2_s387])]) (mi := 142) (cuts := []) (f := 76) (S := p2_s388) (lx := none) (XF := []) ⟨p2_nmu, ck_E1 (ck_S1 p2_s387_s ck_S0) ck_E0⟩ ck_X0 ck_l0 (by decide +kernel)
set_option maxRecDepth 100000 in
/-- GlacierMail.need -/
noncomputable def p2_s389 : ck_Sum := ((6, 1, 6), 245, [.inr (.inr (.inl 1)), .inl (24, 2147483647, []), .inl (0, 24, [])], ([], [], []), ([], []), [(.inl 3, 245, ([], [], []))])
set_option maxRecDepth 100000 in
theorem p2_s389_s {X : Int → Int} {LX : Nat} : ck_Ok p2_O X LX 133 p2_s389 := ck_ok_s (O := p2_O) (X := X) (LX := LX) (E := []) (mi := 133) (cuts := []) (f := 82) (S := p2_s389) (lx := none) (XF := []) ⟨p2_nmu, ck_E0⟩ ck_X0 ck_l0 (by decide +kernel)
set_option maxRecDepth 100000 in
/-- GlacierMail.needLetter -/
noncomputable def p2_s390 : ck_Sum := ((7, 1, 6), 245, [.inr (.inr (.inl 1)), .inl (24, 2147483647, [])], ([], [], []), ([], []), [(.inl 3, 245, ([], [], []))])
set_option maxRecDepth 100000 in
theorem p2_s390_s {X : Int → Int} {LX : Nat} : ck_Ok p2_O X LX 143 p2_s390 := ck_ok_s (O := p2_O) (X := X) (LX := LX) (E := [(9, [p2_s331]), (133, [p2_s389])]) (mi := 143) (cuts := []) (f := 84) (S := p2_s390) (lx := none) (XF := []) ⟨p2_nmu, ck_E1 (ck_S1 p2_s331_s ck_S0) (ck_E1 (ck_S1 p2_s389_s ck_S0) ck_E0)⟩ ck_X0 ck_l0 (by decide +kernel)
set_option maxRecDepth 100000 in
/-- GlacierMail.letter -/
noncomputable def p2_s391 : ck_Sum := ((8, 1, 6), 245, [.inr (.inr (.inl 1)), .inl (24, 2147483647, []), .inl ((-2147483648), 2147483647, [])], ([], [], []), ([], []), [(.inl 3, 245, ([], [], []))])
set_option maxRecDepth 100000 in
theorem p2_s391_s {X : Int → Int} {LX : Nat} : ck_Ok p2_O X LX 142 p2_s391 := ck_ok_s (O := p2_O) (X := X) (LX := LX) (E := [(143, [p2_s390])]) (mi := 142) (cuts := []) (f := 76) (S := p2_s391) (lx := none) (XF := []) ⟨p2_nmu, ck_E1 (ck_S1 p2_s390_s ck_S0) ck_E0⟩ ck_X0 ck_l0 (by decide +kernel)
set_option maxRecDepth 100000 in
/-- GlacierMail.need -/
noncomputable def p2_s392 : ck_Sum := ((6, 1, 6), 245, [.inr (.inr (.inl 1)), .inl (0, 23, []), .inl (0, 24, [])], ([], [], []), ([], []), [(.inr none, 245, ([], [], [])), (.inl 3, 245, ([], [], []))])
set_option maxRecDepth 100000 in
theorem p2_s392_s {X : Int → Int} {LX : Nat} : ck_Ok p2_O X LX 133 p2_s392 := ck_ok_s (O := p2_O) (X := X) (LX := LX) (E := []) (mi := 133) (cuts := []) (f := 82) (S := p2_s392) (lx := none) (XF := []) ⟨p2_nmu, ck_E0⟩ ck_X0 ck_l0 (by decide +kernel)
set_option maxRecDepth 100000 in
/-- GlacierMail.needLetter -/
noncomputable def p2_s393 : ck_Sum := ((7, 1, 6), 245, [.inr (.inr (.inl 1)), .inl (0, 23, [])], ([], [], []), ([], []), [(.inl 3, 245, ([], [], [])), (.inr none, 245, ([], [], []))])
set_option maxRecDepth 100000 in
theorem p2_s393_s {X : Int → Int} {LX : Nat} : ck_Ok p2_O X LX 143 p2_s393 := ck_ok_s (O := p2_O) (X := X) (LX := LX) (E := [(9, [p2_s331]), (133, [p2_s392])]) (mi := 143) (cuts := []) (f := 86) (S := p2_s393) (lx := none) (XF := []) ⟨p2_nmu, ck_E1 (ck_S1 p2_s331_s ck_S0) (ck_E1 (ck_S1 p2_s392_s ck_S0) ck_E0)⟩ ck_X0 ck_l0 (by decide +kernel)
set_option maxRecDepth 100000 in
/-- GlacierMail.letter -/
noncomputable def p2_s394 : ck_Sum := ((8, 2, 12), 245, [.inr (.inr (.inl 1)), .inl (0, 23, []), .inl ((-2147483648), (-1), [])], ([], [], []), ([], []), [(.inl 3, 245, ([], [], [])), (.inl 4, 245, ([], [], []))])
set_option maxRecDepth 100000 in
theorem p2_s394_s {X : Int → Int} {LX : Nat} : ck_Ok p2_O X LX 142 p2_s394 := ck_ok_s (O := p2_O) (X := X) (LX := LX) (E := [(143, [p2_s393])]) (mi := 142) (cuts := []) (f := 82) (S := p2_s394) (lx := none) (XF := []) ⟨p2_nmu, ck_E1 (ck_S1 p2_s393_s ck_S0) ck_E0⟩ ck_X0 ck_l0 (by decide +kernel)
set_option maxRecDepth 100000 in
/-- GlacierMail.letter -/
noncomputable def p2_s395 : ck_Sum := ((8, 2, 12), 245, [.inr (.inr (.inl 1)), .inl (0, 23, []), .inl (10, 2147483647, [])], ([], [], []), ([], []), [(.inl 3, 245, ([], [], [])), (.inl 4, 245, ([], [], []))])
set_option maxRecDepth 100000 in
theorem p2_s395_s {X : Int → Int} {LX : Nat} : ck_Ok p2_O X LX 142 p2_s395 := ck_ok_s (O := p2_O) (X := X) (LX := LX) (E := [(143, [p2_s393])]) (mi := 142) (cuts := []) (f := 82) (S := p2_s395) (lx := none) (XF := []) ⟨p2_nmu, ck_E1 (ck_S1 p2_s393_s ck_S0) ck_E0⟩ ck_X0 ck_l0 (by decide +kernel)
set_option maxRecDepth 100000 in
/-- GlacierMail.firstBare -/
noncomputable def p2_s396 : ck_Sum := ((3, 0, 0), 245, [.inr (.inr (.inl 1)), .inl (0, 23, [])], ([], [(3, 8, 0)], []), ([(206, 2, 8)], []), [(.inr (some (.inl (ck_one (-1)))), 245, ([], [], zl86)), (.inr (some (.inl (0, 299, []))), 245, ([], [], zl87))])
set_option maxRecDepth 100000 in
theorem p2_s396_s {X : Int → Int} {LX : Nat} : ck_Ok p2_O X LX 145 p2_s396 := ck_ok_s (O := p2_O) (X := X) (LX := LX) (E := [(27, [p2_s339]), (32, [p2_s345]), (31, [p2_s340])]) (mi := 145) (cuts := [(18, [some (.inr (.inr (.inl 1))), some (.inl (0, 23, [])), some (.inl (0, 300, []))], ([], [(3, 8, 0)], [(206, 6, 6, (0, 99, [])), (206, 4, 4, ck_one (-1)), (206, 5, 5, ((-2147483648), 299, [])), (206, 2, 2, ((-1), 299, []))]), 100, .inl 2, true)]) (f := 158) (S := p2_s396) (lx := none) (XF := []) ⟨p2_nmu, ck_E1 (ck_S1 p2_s339_s ck_S0) (ck_E1 (ck_S1 p2_s345_s ck_S0) (ck_E1 (ck_S1 p2_s340_s ck_S0) ck_E0))⟩ ck_X0 ck_l0 (by decide +kernel)
set_option maxRecDepth 100000 in
/-- GlacierMail.outOf -/
noncomputable def p2_s397 : ck_Sum := ((4, 0, 0), 245, [.inr (.inr (.inl 1)), .inl (0, 23, [])], ([], [(3, 8, 0)], []), ([(206, 2, 8)], []), [(.inr (some (.inl ((-2147483648), 299, []))), 245, ([], [], zl86))])
set_option maxRecDepth 100000 in
theorem p2_s397_s {X : Int → Int} {LX : Nat} : ck_Ok p2_O X LX 144 p2_s397 := ck_ok_s (O := p2_O) (X := X) (LX := LX) (E := [(27, [p2_s339]), (30, [p2_s346])]) (mi := 144) (cuts := []) (f := 88) (S := p2_s397) (lx := none) (XF := []) ⟨p2_nmu, ck_E1 (ck_S1 p2_s339_s ck_S0) (ck_E1 (ck_S1 p2_s346_s ck_S0) ck_E0)⟩ ck_X0 ck_l0 (by decide +kernel)
set_option maxRecDepth 100000 in
/-- GlacierMail.letter -/
noncomputable def p2_s398 : ck_Sum := ((8, 1, 6), 245, [.inr (.inr (.inl 1)), .inl (0, 23, []), .inl (0, 9, [])], ([], [(3, 8, 0)], []), ([(206, 2, 8)], []), [(.inl 3, 245, ([], [], [])), (.inr (some (.inl ((-2147483648), 299, []))), 245, ([], [], [])), (.inr (some (.inl (0, 299, []))), 245, ([], [], zl86))])
set_option maxRecDepth 100000 in
theorem p2_s398_s {X : Int → Int} {LX : Nat} : ck_Ok p2_O X LX 142 p2_s398 := ck_ok_s (O := p2_O) (X := X) (LX := LX) (E := [(143, [p2_s393]), (10, [p2_s335]), (145, [p2_s396]), (144, [p2_s397])]) (mi := 142) (cuts := []) (f := 98) (S := p2_s398) (lx := none) (XF := []) ⟨p2_nmu, ck_E1 (ck_S1 p2_s393_s ck_S0) (ck_E1 (ck_S1 p2_s335_s ck_S0) (ck_E1 (ck_S1 p2_s396_s ck_S0) (ck_E1 (ck_S1 p2_s397_s ck_S0) ck_E0)))⟩ ck_X0 ck_l0 (by decide +kernel)
set_option maxRecDepth 100000 in
/-- GlacierMailModel.in -/
noncomputable def p2_s399 : ck_Sum := ((0, 0, 0), 245, [.inl ((-2147483648), (-1), []), .inl (ck_one 0), .inl ((-1), 23, [])], ([], [], []), ([], []), [(.inr (some (.inl (ck_one 0))), 245, ([], [], []))])
set_option maxRecDepth 100000 in
theorem p2_s399_s {X : Int → Int} {LX : Nat} : ck_Ok p2_O X LX 286 p2_s399 := ck_ok_s (O := p2_O) (X := X) (LX := LX) (E := []) (mi := 286) (cuts := []) (f := 80) (S := p2_s399) (lx := none) (XF := []) ⟨p2_nmu, ck_E0⟩ ck_X0 ck_l0 (by decide +kernel)
set_option maxRecDepth 100000 in
/-- GlacierMailModel.noLetter -/
noncomputable def p2_s400 : ck_Sum := ((1, 0, 0), 245, [.inr (.inr (.inl 226)), .inl ((-2147483648), (-1), [])], ([], [], [(227, 4, 4, (0, 24, [(22, 0)]))]), ([], []), [(.inr (some (.inl (ck_one 1))), 245, ([], [], []))])
set_option maxRecDepth 100000 in
theorem p2_s400_s {X : Int → Int} {LX : Nat} : ck_Ok p2_O X LX 309 p2_s400 := ck_ok_s (O := p2_O) (X := X) (LX := LX) (E := [(254, [p2_s176]), (286, [p2_s399])]) (mi := 309) (cuts := []) (f := 92) (S := p2_s400) (lx := none) (XF := []) ⟨p2_nmu, ck_E1 (ck_S1 p2_s176_s ck_S0) (ck_E1 (ck_S1 p2_s399_s ck_S0) ck_E0)⟩ ck_X0 ck_l0 (by decide +kernel)
set_option maxRecDepth 100000 in
/-- GlacierMailModel.letter -/
noncomputable def p2_s401 : ck_Sum := ((2, 0, 0), 245, [.inr (.inr (.inl 226)), .inl ((-2147483648), (-1), []), .inl ((-2147483648), 2147483647, [])], ([], [], [(227, 4, 4, (0, 24, [(22, 0)]))]), ([(226, 0, 0)], []), [(.inr (some (.inl (ck_one 0))), 245, ([], [], [(226, 0, 0, ck_one 1)]))])
set_option maxRecDepth 100000 in
theorem p2_s401_s {X : Int → Int} {LX : Nat} : ck_Ok p2_O X LX 308 p2_s401 := ck_ok_s (O := p2_O) (X := X) (LX := LX) (E := [(309, [p2_s400]), (282, [p2_s241])]) (mi := 308) (cuts := []) (f := 94) (S := p2_s401) (lx := none) (XF := []) ⟨p2_nmu, ck_E1 (ck_S1 p2_s400_s ck_S0) (ck_E1 (ck_S1 p2_s241_s ck_S0) ck_E0)⟩ ck_X0 ck_l0 (by decide +kernel)
set_option maxRecDepth 100000 in
/-- GlacierMailModel.in -/
noncomputable def p2_s402 : ck_Sum := ((0, 0, 0), 245, [.inl (24, 2147483647, []), .inl (ck_one 0), .inl ((-1), 23, [])], ([], [], []), ([], []), [(.inr (some (.inl (ck_one 0))), 245, ([], [], []))])
set_option maxRecDepth 100000 in
theorem p2_s402_s {X : Int → Int} {LX : Nat} : ck_Ok p2_O X LX 286 p2_s402 := ck_ok_s (O := p2_O) (X := X) (LX := LX) (E := []) (mi := 286) (cuts := []) (f := 86) (S := p2_s402) (lx := none) (XF := []) ⟨p2_nmu, ck_E0⟩ ck_X0 ck_l0 (by decide +kernel)
set_option maxRecDepth 100000 in
/-- GlacierMailModel.noLetter -/
noncomputable def p2_s403 : ck_Sum := ((1, 0, 0), 245, [.inr (.inr (.inl 226)), .inl (24, 2147483647, [])], ([], [], [(227, 4, 4, (0, 24, [(22, 0)]))]), ([], []), [(.inr (some (.inl (ck_one 1))), 245, ([], [], []))])
set_option maxRecDepth 100000 in
theorem p2_s403_s {X : Int → Int} {LX : Nat} : ck_Ok p2_O X LX 309 p2_s403 := ck_ok_s (O := p2_O) (X := X) (LX := LX) (E := [(254, [p2_s176]), (286, [p2_s402])]) (mi := 309) (cuts := []) (f := 92) (S := p2_s403) (lx := none) (XF := []) ⟨p2_nmu, ck_E1 (ck_S1 p2_s176_s ck_S0) (ck_E1 (ck_S1 p2_s402_s ck_S0) ck_E0)⟩ ck_X0 ck_l0 (by decide +kernel)
set_option maxRecDepth 100000 in
/-- GlacierMailModel.letter -/
noncomputable def p2_s404 : ck_Sum := ((2, 0, 0), 245, [.inr (.inr (.inl 226)), .inl (24, 2147483647, []), .inl ((-2147483648), 2147483647, [])], ([], [], [(227, 4, 4, (0, 24, [(22, 0)]))]), ([(226, 0, 0)], []), [(.inr (some (.inl (ck_one 0))), 245, ([], [], [(226, 0, 0, ck_one 1)]))])
set_option maxRecDepth 100000 in
theorem p2_s404_s {X : Int → Int} {LX : Nat} : ck_Ok p2_O X LX 308 p2_s404 := ck_ok_s (O := p2_O) (X := X) (LX := LX) (E := [(309, [p2_s403]), (282, [p2_s241])]) (mi := 308) (cuts := []) (f := 94) (S := p2_s404) (lx := none) (XF := []) ⟨p2_nmu, ck_E1 (ck_S1 p2_s403_s ck_S0) (ck_E1 (ck_S1 p2_s241_s ck_S0) ck_E0)⟩ ck_X0 ck_l0 (by decide +kernel)
set_option maxRecDepth 100000 in
/-- GlacierMailModel.in -/
noncomputable def p2_s405 : ck_Sum := ((0, 0, 0), 245, [.inl (0, 23, []), .inl (ck_one 0), .inl ((-1), 23, [])], ([], [], []), ([], []), [(.inr (some (.inl (ck_one 0))), 245, ([], [], [])), (.inr (some (.inl (ck_one 1))), 245, ([], [], []))])
set_option maxRecDepth 100000 in
theorem p2_s405_s {X : Int → Int} {LX : Nat} : ck_Ok p2_O X LX 286 p2_s405 := ck_ok_s (O := p2_O) (X := X) (LX := LX) (E := []) (mi := 286) (cuts := []) (f := 88) (S := p2_s405) (lx := none) (XF := []) ⟨p2_nmu, ck_E0⟩ ck_X0 ck_l0 (by decide +kernel)
set_option maxRecDepth 100000 in
/-- GlacierMailModel.noLetter -/
noncomputable def p2_s406 : ck_Sum := ((1, 0, 0), 245, [.inr (.inr (.inl 226)), .inl (0, 23, [])], ([], [], [(227, 4, 4, (0, 24, [(22, 0)]))]), ([], []), [(.inr (some (.inl (ck_one 1))), 245, ([], [], [])), (.inr (some (.inl (ck_one 0))), 245, ([], [], []))])
set_option maxRecDepth 100000 in
theorem p2_s406_s {X : Int → Int} {LX : Nat} : ck_Ok p2_O X LX 309 p2_s406 := ck_ok_s (O := p2_O) (X := X) (LX := LX) (E := [(254, [p2_s176]), (286, [p2_s405])]) (mi := 309) (cuts := []) (f := 92) (S := p2_s406) (lx := none) (XF := []) ⟨p2_nmu, ck_E1 (ck_S1 p2_s176_s ck_S0) (ck_E1 (ck_S1 p2_s405_s ck_S0) ck_E0)⟩ ck_X0 ck_l0 (by decide +kernel)
set_option maxRecDepth 100000 in
/-- GlacierMailModel.in -/
noncomputable def p2_s407 : ck_Sum := ((0, 0, 0), 245, [.inl ((-2147483648), (-1), []), .inl (ck_one 0), .inl (ck_one 9)], ([], [], []), ([], []), [(.inr (some (.inl (ck_one 0))), 245, ([], [], []))])
set_option maxRecDepth 100000 in
theorem p2_s407_s {X : Int → Int} {LX : Nat} : ck_Ok p2_O X LX 286 p2_s407 := ck_ok_s (O := p2_O) (X := X) (LX := LX) (E := []) (mi := 286) (cuts := []) (f := 80) (S := p2_s407) (lx := none) (XF := []) ⟨p2_nmu, ck_E0⟩ ck_X0 ck_l0 (by decide +kernel)
set_option maxRecDepth 100000 in
/-- GlacierMailModel.letter -/
noncomputable def p2_s408 : ck_Sum := ((2, 0, 0), 245, [.inr (.inr (.inl 226)), .inl (0, 23, []), .inl ((-2147483648), (-1), [])], ([], [], [(227, 4, 4, (0, 24, [(22, 0)]))]), ([(226, 0, 0)], []), [(.inr (some (.inl (ck_one 0))), 245, ([], [], [(226, 0, 0, (1, 2, []))]))])
set_option maxRecDepth 100000 in
theorem p2_s408_s {X : Int → Int} {LX : Nat} : ck_Ok p2_O X LX 308 p2_s408 := ck_ok_s (O := p2_O) (X := X) (LX := LX) (E := [(309, [p2_s406]), (282, [p2_s241, p2_s242, p2_s244]), (286, [p2_s407])]) (mi := 308) (cuts := []) (f := 116) (S := p2_s408) (lx := none) (XF := []) ⟨p2_nmu, ck_E1 (ck_S1 p2_s406_s ck_S0) (ck_E1 (ck_S1 p2_s241_s (ck_S1 p2_s242_s (ck_S1 p2_s244_s ck_S0))) (ck_E1 (ck_S1 p2_s407_s ck_S0) ck_E0))⟩ ck_X0 ck_l0 (by decide +kernel)
set_option maxRecDepth 100000 in
/-- GlacierMailModel.in -/
noncomputable def p2_s409 : ck_Sum := ((0, 0, 0), 245, [.inl (10, 2147483647, []), .inl (ck_one 0), .inl (ck_one 9)], ([], [], []), ([], []), [(.inr (some (.inl (ck_one 0))), 245, ([], [], []))])
set_option maxRecDepth 100000 in
theorem p2_s409_s {X : Int → Int} {LX : Nat} : ck_Ok p2_O X LX 286 p2_s409 := ck_ok_s (O := p2_O) (X := X) (LX := LX) (E := []) (mi := 286) (cuts := []) (f := 86) (S := p2_s409) (lx := none) (XF := []) ⟨p2_nmu, ck_E0⟩ ck_X0 ck_l0 (by decide +kernel)
set_option maxRecDepth 100000 in
/-- GlacierMailModel.letter -/
noncomputable def p2_s410 : ck_Sum := ((2, 0, 0), 245, [.inr (.inr (.inl 226)), .inl (0, 23, []), .inl (10, 2147483647, [])], ([], [], [(227, 4, 4, (0, 24, [(22, 0)]))]), ([(226, 0, 0)], []), [(.inr (some (.inl (ck_one 0))), 245, ([], [], [(226, 0, 0, (1, 2, []))]))])
set_option maxRecDepth 100000 in
theorem p2_s410_s {X : Int → Int} {LX : Nat} : ck_Ok p2_O X LX 308 p2_s410 := ck_ok_s (O := p2_O) (X := X) (LX := LX) (E := [(309, [p2_s406]), (282, [p2_s241, p2_s242, p2_s244]), (286, [p2_s409])]) (mi := 308) (cuts := []) (f := 116) (S := p2_s410) (lx := none) (XF := []) ⟨p2_nmu, ck_E1 (ck_S1 p2_s406_s ck_S0) (ck_E1 (ck_S1 p2_s241_s (ck_S1 p2_s242_s (ck_S1 p2_s244_s ck_S0))) (ck_E1 (ck_S1 p2_s409_s ck_S0) ck_E0))⟩ ck_X0 ck_l0 (by decide +kernel)
set_option maxRecDepth 100000 in
/-- GlacierMailModel.in -/
noncomputable def p2_s411 : ck_Sum := ((0, 0, 0), 245, [.inl (0, 9, []), .inl (ck_one 0), .inl (ck_one 9)], ([], [], []), ([], []), [(.inr (some (.inl (ck_one 1))), 245, ([], [], []))])
set_option maxRecDepth 100000 in
theorem p2_s411_s {X : Int → Int} {LX : Nat} : ck_Ok p2_O X LX 286 p2_s411 := ck_ok_s (O := p2_O) (X := X) (LX := LX) (E := []) (mi := 286) (cuts := []) (f := 88) (S := p2_s411) (lx := none) (XF := []) ⟨p2_nmu, ck_E0⟩ ck_X0 ck_l0 (by decide +kernel)
set_option maxRecDepth 100000 in
/-- GlacierMailModel.isInIce -/
noncomputable def p2_s412 : ck_Sum := ((1, 0, 0), 245, [.inr (.inr (.inl 226)), .inl (0, 299, [])], ([], [], []), ([], []), [(.inr (some (.inl (ck_one 0))), 245, ([], [], [])), (.inr (some (.inl (ck_one 1))), 245, ([], [], []))])
set_option maxRecDepth 100000 in
theorem p2_s412_s {X : Int → Int} {LX : Nat} : ck_Ok p2_O X LX 312 p2_s412 := ck_ok_s (O := p2_O) (X := X) (LX := LX) (E := [(259, [p2_s180])]) (mi := 312) (cuts := []) (f := 100) (S := p2_s412) (lx := none) (XF := []) ⟨p2_nmu, ck_E1 (ck_S1 p2_s180_s ck_S0) ck_E0⟩ ck_X0 ck_l0 (by decide +kernel)
set_option maxRecDepth 100000 in
/-- GlacierMailModel.isBare -/
noncomputable def p2_s413 : ck_Sum := ((2, 0, 0), 245, [.inr (.inr (.inl 226)), .inl (0, 23, []), .inl (0, 299, [])], ([], [], []), ([], []), [(.inr (some (.inl (ck_one 0))), 245, ([], [], [])), (.inr (some (.inl (ck_one 1))), 245, ([], [], []))])
set_option maxRecDepth 100000 in
theorem p2_s413_s {X : Int → Int} {LX : Nat} : ck_Ok p2_O X LX 311 p2_s413 := ck_ok_s (O := p2_O) (X := X) (LX := LX) (E := [(301, [p2_s377]), (312, [p2_s412])]) (mi := 311) (cuts := []) (f := 106) (S := p2_s413) (lx := none) (XF := []) ⟨p2_nmu, ck_E1 (ck_S1 p2_s377_s ck_S0) (ck_E1 (ck_S1 p2_s412_s ck_S0) ck_E0)⟩ ck_X0 ck_l0 (by decide +kernel)
set_option maxRecDepth 100000 in
/-- GlacierMailModel.bareFrom -/
noncomputable def p2_s414 : ck_Sum := ((3, 0, 0), 245, [.inr (.inr (.inl 226)), .inl (0, 23, [])], ([], [], []), ([], []), [(.inr (some (.inl (ck_one (-1)))), 245, ([], [], [])), (.inr (some (.inl (0, 299, []))), 245, ([], [], []))])
set_option maxRecDepth 100000 in
theorem p2_s414_s {X : Int → Int} {LX : Nat} : ck_Ok p2_O X LX 310 p2_s414 := ck_ok_s (O := p2_O) (X := X) (LX := LX) (E := [(311, [p2_s413])]) (mi := 310) (cuts := [(2, [some (.inr (.inr (.inl 226))), some (.inl (0, 23, [])), some (.inl (0, 300, []))], ([], [], []), 100, .inl 2, true)]) (f := 134) (S := p2_s414) (lx := none) (XF := []) ⟨p2_nmu, ck_E1 (ck_S1 p2_s413_s ck_S0) ck_E0⟩ ck_X0 ck_l0 (by decide +kernel)
set_option maxRecDepth 100000 in
/-- GlacierMailModel.ofLetter -/
noncomputable def p2_s415 : ck_Sum := ((0, 0, 0), 245, [.inr (.inr (.inl 226)), .inl (0, 23, []), .inl (0, 6, [])], ([], [], []), ([], []), [(.inr (some (.inl ((-1), 299, []))), 245, ([], [], []))])
set_option maxRecDepth 100000 in
theorem p2_s415_s {X : Int → Int} {LX : Nat} : ck_Ok p2_O X LX 301 p2_s415 := ck_ok_s (O := p2_O) (X := X) (LX := LX) (E := []) (mi := 301) (cuts := []) (f := 92) (S := p2_s415) (lx := none) (XF := []) ⟨p2_nmu, ck_E0⟩ ck_X0 ck_l0 (by decide +kernel)
set_option maxRecDepth 100000 in
/-- GlacierMail.where -/
noncomputable def p2_s417 : ck_Sum := ((8, 1, 6), 245, [.inr (.inr (.inl 1)), .inl ((-2147483648), (-1), []), .inl ((-2147483648), 2147483647, [])], ([], [], []), ([], []), [(.inl 3, 245, ([], [], []))])
set_option maxRecDepth 100000 in
theorem p2_s417_s {X : Int → Int} {LX : Nat} : ck_Ok p2_O X LX 147 p2_s417 := ck_ok_s (O := p2_O) (X := X) (LX := LX) (E := [(143, [p2_s387])]) (mi := 147) (cuts := []) (f := 76) (S := p2_s417) (lx := none) (XF := []) ⟨p2_nmu, ck_E1 (ck_S1 p2_s387_s ck_S0) ck_E0⟩ ck_X0 ck_l0 (by decide +kernel)
set_option maxRecDepth 100000 in
/-- GlacierMail.where -/
noncomputable def p2_s418 : ck_Sum := ((8, 1, 6), 245, [.inr (.inr (.inl 1)), .inl (24, 2147483647, []), .inl ((-2147483648), 2147483647, [])], ([], [], []), ([], []), [(.inl 3, 245, ([], [], []))])
set_option maxRecDepth 100000 in
theorem p2_s418_s {X : Int → Int} {LX : Nat} : ck_Ok p2_O X LX 147 p2_s418 := ck_ok_s (O := p2_O) (X := X) (LX := LX) (E := [(143, [p2_s390])]) (mi := 147) (cuts := []) (f := 76) (S := p2_s418) (lx := none) (XF := []) ⟨p2_nmu, ck_E1 (ck_S1 p2_s390_s ck_S0) ck_E0⟩ ck_X0 ck_l0 (by decide +kernel)
set_option maxRecDepth 100000 in
/-- GlacierMail.where -/
noncomputable def p2_s419 : ck_Sum := ((8, 2, 12), 245, [.inr (.inr (.inl 1)), .inl (0, 23, []), .inl ((-2147483648), (-1), [])], ([], [], []), ([], []), [(.inl 3, 245, ([], [], [])), (.inl 0, 245, ([], [], []))])
set_option maxRecDepth 100000 in
theorem p2_s419_s {X : Int → Int} {LX : Nat} : ck_Ok p2_O X LX 147 p2_s419 := ck_ok_s (O := p2_O) (X := X) (LX := LX) (E := [(143, [p2_s393]), (129, [p2_s249])]) (mi := 147) (cuts := []) (f := 82) (S := p2_s419) (lx := none) (XF := []) ⟨p2_nmu, ck_E1 (ck_S1 p2_s393_s ck_S0) (ck_E1 (ck_S1 p2_s249_s ck_S0) ck_E0)⟩ ck_X0 ck_l0 (by decide +kernel)
set_option maxRecDepth 100000 in
/-- GlacierMail.where -/
noncomputable def p2_s420 : ck_Sum := ((8, 2, 12), 245, [.inr (.inr (.inl 1)), .inl (0, 23, []), .inl (300, 2147483647, [])], ([], [], []), ([], []), [(.inl 3, 245, ([], [], [])), (.inl 0, 245, ([], [], []))])
set_option maxRecDepth 100000 in
theorem p2_s420_s {X : Int → Int} {LX : Nat} : ck_Ok p2_O X LX 147 p2_s420 := ck_ok_s (O := p2_O) (X := X) (LX := LX) (E := [(143, [p2_s393]), (129, [p2_s251])]) (mi := 147) (cuts := []) (f := 82) (S := p2_s420) (lx := none) (XF := []) ⟨p2_nmu, ck_E1 (ck_S1 p2_s393_s ck_S0) (ck_E1 (ck_S1 p2_s251_s ck_S0) ck_E0)⟩ ck_X0 ck_l0 (by decide +kernel)
set_option maxRecDepth 100000 in
/-- GlacierMail$Way.goOnTo -/
noncomputable def p2_s421 : ck_Sum := ((3, 0, 0), 245, [.inr (.inr (.inl 206)), .inl (0, 299, [])], ([], [(3, 8, 0)], []), ([(206, 5, 8)], []), [(.inr none, 245, ([], [], []))])
set_option maxRecDepth 100000 in
theorem p2_s421_s {X : Int → Int} {LX : Nat} : ck_Ok p2_O X LX 148 p2_s421 := ck_ok_s (O := p2_O) (X := X) (LX := LX) (E := [(32, [p2_s345])]) (mi := 148) (cuts := [(5, [some (.inr (.inr (.inl 206))), some (.inl (0, 299, [])), some (.inl ((-2147483648), 2147483647, []))], ([], [(3, 8, 0)], []), 100, .inl 2, true)]) (f := 122) (S := p2_s421) (lx := none) (XF := []) ⟨p2_nmu, ck_E1 (ck_S1 p2_s345_s ck_S0) ck_E0⟩ ck_X0 ck_l0 (by decide +kernel)
set_option maxRecDepth 100000 in
/-- GlacierMail.where -/
noncomputable def p2_s422 : ck_Sum := ((8, 1, 6), 245, [.inr (.inr (.inl 1)), .inl (0, 23, []), .inl (0, 299, [])], ([], [(3, 8, 0)], []), ([(206, 2, 8)], []), [(.inl 3, 245, ([], [], [])), (.inr (some (.inl ((-2147483648), 99, []))), 245, ([], [], []))])
set_option maxRecDepth 100000 in
theorem p2_s422_s {X : Int → Int} {LX : Nat} : ck_Ok p2_O X LX 147 p2_s422 := ck_ok_s (O := p2_O) (X := X) (LX := LX) (E := [(143, [p2_s393]), (129, [p2_s253]), (10, [p2_s335]), (27, [p2_s339]), (148, [p2_s421])]) (mi := 147) (cuts := []) (f := 130) (S := p2_s422) (lx := none) (XF := []) ⟨p2_nmu, ck_E1 (ck_S1 p2_s393_s ck_S0) (ck_E1 (ck_S1 p2_s253_s ck_S0) (ck_E1 (ck_S1 p2_s335_s ck_S0) (ck_E1 (ck_S1 p2_s339_s ck_S0) (ck_E1 (ck_S1 p2_s421_s ck_S0) ck_E0))))⟩ ck_X0 ck_l0 (by decide +kernel)
set_option maxRecDepth 100000 in
/-- GlacierMailModel.where -/
noncomputable def p2_s423 : ck_Sum := ((2, 0, 0), 245, [.inr (.inr (.inl 226)), .inl ((-2147483648), (-1), []), .inl ((-2147483648), 2147483647, [])], ([], [], [(227, 4, 4, (0, 24, [(22, 0)]))]), ([(226, 0, 0)], []), [(.inr (some (.inl (ck_one 0))), 245, ([], [], [(226, 0, 0, ck_one 1)]))])
set_option maxRecDepth 100000 in
theorem p2_s423_s {X : Int → Int} {LX : Nat} : ck_Ok p2_O X LX 313 p2_s423 := ck_ok_s (O := p2_O) (X := X) (LX := LX) (E := [(309, [p2_s400]), (282, [p2_s241])]) (mi := 313) (cuts := []) (f := 94) (S := p2_s423) (lx := none) (XF := []) ⟨p2_nmu, ck_E1 (ck_S1 p2_s400_s ck_S0) (ck_E1 (ck_S1 p2_s241_s ck_S0) ck_E0)⟩ ck_X0 ck_l0 (by decide +kernel)
set_option maxRecDepth 100000 in
/-- GlacierMailModel.where -/
noncomputable def p2_s424 : ck_Sum := ((2, 0, 0), 245, [.inr (.inr (.inl 226)), .inl (24, 2147483647, []), .inl ((-2147483648), 2147483647, [])], ([], [], [(227, 4, 4, (0, 24, [(22, 0)]))]), ([(226, 0, 0)], []), [(.inr (some (.inl (ck_one 0))), 245, ([], [], [(226, 0, 0, ck_one 1)]))])
set_option maxRecDepth 100000 in
theorem p2_s424_s {X : Int → Int} {LX : Nat} : ck_Ok p2_O X LX 313 p2_s424 := ck_ok_s (O := p2_O) (X := X) (LX := LX) (E := [(309, [p2_s403]), (282, [p2_s241])]) (mi := 313) (cuts := []) (f := 94) (S := p2_s424) (lx := none) (XF := []) ⟨p2_nmu, ck_E1 (ck_S1 p2_s403_s ck_S0) (ck_E1 (ck_S1 p2_s241_s ck_S0) ck_E0)⟩ ck_X0 ck_l0 (by decide +kernel)
set_option maxRecDepth 100000 in
/-- GlacierMailModel.where -/
noncomputable def p2_s425 : ck_Sum := ((2, 0, 0), 245, [.inr (.inr (.inl 226)), .inl (0, 23, []), .inl ((-2147483648), (-1), [])], ([], [], [(227, 4, 4, (0, 24, [(22, 0)]))]), ([(226, 0, 0)], []), [(.inr (some (.inl (ck_one 0))), 245, ([], [], [(226, 0, 0, (1, 2, []))]))])
set_option maxRecDepth 100000 in
theorem p2_s425_s {X : Int → Int} {LX : Nat} : ck_Ok p2_O X LX 313 p2_s425 := ck_ok_s (O := p2_O) (X := X) (LX := LX) (E := [(309, [p2_s406]), (282, [p2_s241, p2_s242, p2_s244]), (285, [p2_s257])]) (mi := 313) (cuts := []) (f := 106) (S := p2_s425) (lx := none) (XF := []) ⟨p2_nmu, ck_E1 (ck_S1 p2_s406_s ck_S0) (ck_E1 (ck_S1 p2_s241_s (ck_S1 p2_s242_s (ck_S1 p2_s244_s ck_S0))) (ck_E1 (ck_S1 p2_s257_s ck_S0) ck_E0))⟩ ck_X0 ck_l0 (by decide +kernel)
set_option maxRecDepth 100000 in
/-- GlacierMailModel.where -/
noncomputable def p2_s426 : ck_Sum := ((2, 0, 0), 245, [.inr (.inr (.inl 226)), .inl (0, 23, []), .inl (300, 2147483647, [])], ([], [], [(227, 4, 4, (0, 24, [(22, 0)]))]), ([(226, 0, 0)], []), [(.inr (some (.inl (ck_one 0))), 245, ([], [], [(226, 0, 0, (1, 2, []))]))])
set_option maxRecDepth 100000 in
theorem p2_s426_s {X : Int → Int} {LX : Nat} : ck_Ok p2_O X LX 313 p2_s426 := ck_ok_s (O := p2_O) (X := X) (LX := LX) (E := [(309, [p2_s406]), (282, [p2_s241, p2_s242, p2_s244]), (285, [p2_s260])]) (mi := 313) (cuts := []) (f := 106) (S := p2_s426) (lx := none) (XF := []) ⟨p2_nmu, ck_E1 (ck_S1 p2_s406_s ck_S0) (ck_E1 (ck_S1 p2_s241_s (ck_S1 p2_s242_s (ck_S1 p2_s244_s ck_S0))) (ck_E1 (ck_S1 p2_s260_s ck_S0) ck_E0))⟩ ck_X0 ck_l0 (by decide +kernel)
set_option maxRecDepth 100000 in
/-- GlacierMail.deep -/
noncomputable def p2_s428 : ck_Sum := ((8, 1, 6), 245, [.inr (.inr (.inl 1)), .inl ((-2147483648), (-1), []), .inl ((-2147483648), 2147483647, [])], ([], [], []), ([], []), [(.inl 3, 245, ([], [], []))])
set_option maxRecDepth 100000 in
theorem p2_s428_s {X : Int → Int} {LX : Nat} : ck_Ok p2_O X LX 150 p2_s428 := ck_ok_s (O := p2_O) (X := X) (LX := LX) (E := [(143, [p2_s387])]) (mi := 150) (cuts := []) (f := 76) (S := p2_s428) (lx := none) (XF := []) ⟨p2_nmu, ck_E1 (ck_S1 p2_s387_s ck_S0) ck_E0⟩ ck_X0 ck_l0 (by decide +kernel)
set_option maxRecDepth 100000 in
/-- GlacierMail.deep -/
noncomputable def p2_s429 : ck_Sum := ((8, 1, 6), 245, [.inr (.inr (.inl 1)), .inl (24, 2147483647, []), .inl ((-2147483648), 2147483647, [])], ([], [], []), ([], []), [(.inl 3, 245, ([], [], []))])
set_option maxRecDepth 100000 in
theorem p2_s429_s {X : Int → Int} {LX : Nat} : ck_Ok p2_O X LX 150 p2_s429 := ck_ok_s (O := p2_O) (X := X) (LX := LX) (E := [(143, [p2_s390])]) (mi := 150) (cuts := []) (f := 76) (S := p2_s429) (lx := none) (XF := []) ⟨p2_nmu, ck_E1 (ck_S1 p2_s390_s ck_S0) ck_E0⟩ ck_X0 ck_l0 (by decide +kernel)
set_option maxRecDepth 100000 in
/-- GlacierMail.deep -/
noncomputable def p2_s430 : ck_Sum := ((8, 2, 12), 245, [.inr (.inr (.inl 1)), .inl (0, 23, []), .inl ((-2147483648), (-1), [])], ([], [], []), ([], []), [(.inl 3, 245, ([], [], [])), (.inl 0, 245, ([], [], []))])
set_option maxRecDepth 100000 in
theorem p2_s430_s {X : Int → Int} {LX : Nat} : ck_Ok p2_O X LX 150 p2_s430 := ck_ok_s (O := p2_O) (X := X) (LX := LX) (E := [(143, [p2_s393]), (129, [p2_s249])]) (mi := 150) (cuts := []) (f := 82) (S := p2_s430) (lx := none) (XF := []) ⟨p2_nmu, ck_E1 (ck_S1 p2_s393_s ck_S0) (ck_E1 (ck_S1 p2_s249_s ck_S0) ck_E0)⟩ ck_X0 ck_l0 (by decide +kernel)
set_option maxRecDepth 100000 in
/-- GlacierMail.deep -/
noncomputable def p2_s431 : ck_Sum := ((8, 2, 12), 245, [.inr (.inr (.inl 1)), .inl (0, 23, []), .inl (300, 2147483647, [])], ([], [], []), ([], []), [(.inl 3, 245, ([], [], [])), (.inl 0, 245, ([], [], []))])
set_option maxRecDepth 100000 in
theorem p2_s431_s {X : Int → Int} {LX : Nat} : ck_Ok p2_O X LX 150 p2_s431 := ck_ok_s (O := p2_O) (X := X) (LX := LX) (E := [(143, [p2_s393]), (129, [p2_s251])]) (mi := 150) (cuts := []) (f := 82) (S := p2_s431) (lx := none) (XF := []) ⟨p2_nmu, ck_E1 (ck_S1 p2_s393_s ck_S0) (ck_E1 (ck_S1 p2_s251_s ck_S0) ck_E0)⟩ ck_X0 ck_l0 (by decide +kernel)
set_option maxRecDepth 100000 in
/-- GlacierMail.deep -/
noncomputable def p2_s432 : ck_Sum := ((8, 1, 6), 245, [.inr (.inr (.inl 1)), .inl (0, 23, []), .inl (0, 299, [])], ([], [(3, 8, 0)], []), ([(206, 2, 8)], []), [(.inl 3, 245, ([], [], [])), (.inr (some (.inl (0, 99, []))), 245, ([], [], zl86)), (.inr (some (.inl (ck_one (-1)))), 245, ([], [], []))])
set_option maxRecDepth 100000 in
theorem p2_s432_s {X : Int → Int} {LX : Nat} : ck_Ok p2_O X LX 150 p2_s432 := ck_ok_s (O := p2_O) (X := X) (LX := LX) (E := [(143, [p2_s393]), (129, [p2_s253]), (10, [p2_s335]), (27, [p2_s339]), (148, [p2_s421])]) (mi := 150) (cuts := []) (f := 122) (S := p2_s432) (lx := none) (XF := []) ⟨p2_nmu, ck_E1 (ck_S1 p2_s393_s ck_S0) (ck_E1 (ck_S1 p2_s253_s ck_S0) (ck_E1 (ck_S1 p2_s335_s ck_S0) (ck_E1 (ck_S1 p2_s339_s ck_S0) (ck_E1 (ck_S1 p2_s421_s ck_S0) ck_E0))))⟩ ck_X0 ck_l0 (by decide +kernel)
set_option maxRecDepth 100000 in
/-- GlacierMailModel.deep -/
noncomputable def p2_s433 : ck_Sum := ((2, 0, 0), 245, [.inr (.inr (.inl 226)), .inl ((-2147483648), (-1), []), .inl ((-2147483648), 2147483647, [])], ([], [], [(227, 4, 4, (0, 24, [(22, 0)]))]), ([(226, 0, 0)], []), [(.inr (some (.inl (ck_one 0))), 245, ([], [], [(226, 0, 0, ck_one 1)]))])
set_option maxRecDepth 100000 in
theorem p2_s433_s {X : Int → Int} {LX : Nat} : ck_Ok p2_O X LX 314 p2_s433 := ck_ok_s (O := p2_O) (X := X) (LX := LX) (E := [(309, [p2_s400]), (282, [p2_s241])]) (mi := 314) (cuts := []) (f := 94) (S := p2_s433) (lx := none) (XF := []) ⟨p2_nmu, ck_E1 (ck_S1 p2_s400_s ck_S0) (ck_E1 (ck_S1 p2_s241_s ck_S0) ck_E0)⟩ ck_X0 ck_l0 (by decide +kernel)
set_option maxRecDepth 100000 in
/-- GlacierMailModel.deep -/
noncomputable def p2_s434 : ck_Sum := ((2, 0, 0), 245, [.inr (.inr (.inl 226)), .inl (24, 2147483647, []), .inl ((-2147483648), 2147483647, [])], ([], [], [(227, 4, 4, (0, 24, [(22, 0)]))]), ([(226, 0, 0)], []), [(.inr (some (.inl (ck_one 0))), 245, ([], [], [(226, 0, 0, ck_one 1)]))])
set_option maxRecDepth 100000 in
theorem p2_s434_s {X : Int → Int} {LX : Nat} : ck_Ok p2_O X LX 314 p2_s434 := ck_ok_s (O := p2_O) (X := X) (LX := LX) (E := [(309, [p2_s403]), (282, [p2_s241])]) (mi := 314) (cuts := []) (f := 94) (S := p2_s434) (lx := none) (XF := []) ⟨p2_nmu, ck_E1 (ck_S1 p2_s403_s ck_S0) (ck_E1 (ck_S1 p2_s241_s ck_S0) ck_E0)⟩ ck_X0 ck_l0 (by decide +kernel)
set_option maxRecDepth 100000 in
/-- GlacierMailModel.deep -/
noncomputable def p2_s435 : ck_Sum := ((2, 0, 0), 245, [.inr (.inr (.inl 226)), .inl (0, 23, []), .inl ((-2147483648), (-1), [])], ([], [], [(227, 4, 4, (0, 24, [(22, 0)]))]), ([(226, 0, 0)], []), [(.inr (some (.inl (ck_one 0))), 245, ([], [], [(226, 0, 0, (1, 2, []))]))])
set_option maxRecDepth 100000 in
theorem p2_s435_s {X : Int → Int} {LX : Nat} : ck_Ok p2_O X LX 314 p2_s435 := ck_ok_s (O := p2_O) (X := X) (LX := LX) (E := [(309, [p2_s406]), (282, [p2_s241, p2_s242, p2_s244]), (285, [p2_s257])]) (mi := 314) (cuts := []) (f := 106) (S := p2_s435) (lx := none) (XF := []) ⟨p2_nmu, ck_E1 (ck_S1 p2_s406_s ck_S0) (ck_E1 (ck_S1 p2_s241_s (ck_S1 p2_s242_s (ck_S1 p2_s244_s ck_S0))) (ck_E1 (ck_S1 p2_s257_s ck_S0) ck_E0))⟩ ck_X0 ck_l0 (by decide +kernel)
set_option maxRecDepth 100000 in
/-- GlacierMailModel.deep -/
noncomputable def p2_s436 : ck_Sum := ((2, 0, 0), 245, [.inr (.inr (.inl 226)), .inl (0, 23, []), .inl (300, 2147483647, [])], ([], [], [(227, 4, 4, (0, 24, [(22, 0)]))]), ([(226, 0, 0)], []), [(.inr (some (.inl (ck_one 0))), 245, ([], [], [(226, 0, 0, (1, 2, []))]))])
set_option maxRecDepth 100000 in
theorem p2_s436_s {X : Int → Int} {LX : Nat} : ck_Ok p2_O X LX 314 p2_s436 := ck_ok_s (O := p2_O) (X := X) (LX := LX) (E := [(309, [p2_s406]), (282, [p2_s241, p2_s242, p2_s244]), (285, [p2_s260])]) (mi := 314) (cuts := []) (f := 106) (S := p2_s436) (lx := none) (XF := []) ⟨p2_nmu, ck_E1 (ck_S1 p2_s406_s ck_S0) (ck_E1 (ck_S1 p2_s241_s (ck_S1 p2_s242_s (ck_S1 p2_s244_s ck_S0))) (ck_E1 (ck_S1 p2_s260_s ck_S0) ck_E0))⟩ ck_X0 ck_l0 (by decide +kernel)
set_option maxRecDepth 100000 in
/-- GlacierMail.post -/
noncomputable def p2_s438 : ck_Sum := ((8, 1, 6), 245, [.inr (.inr (.inl 1)), .inl ((-2147483648), (-1), []), .inl ((-2147483648), 2147483647, [])], ([], [], []), ([], []), [(.inl 3, 245, ([], [], []))])
set_option maxRecDepth 100000 in
theorem p2_s438_s {X : Int → Int} {LX : Nat} : ck_Ok p2_O X LX 152 p2_s438 := ck_ok_s (O := p2_O) (X := X) (LX := LX) (E := [(139, [p2_s322])]) (mi := 152) (cuts := []) (f := 76) (S := p2_s438) (lx := none) (XF := []) ⟨p2_nmu, ck_E1 (ck_S1 p2_s322_s ck_S0) ck_E0⟩ ck_X0 ck_l0 (by decide +kernel)
set_option maxRecDepth 100000 in
/-- GlacierMail.post -/
noncomputable def p2_s439 : ck_Sum := ((8, 1, 6), 245, [.inr (.inr (.inl 1)), .inl (8, 2147483647, []), .inl ((-2147483648), 2147483647, [])], ([], [], []), ([], []), [(.inl 3, 245, ([], [], []))])
set_option maxRecDepth 100000 in
theorem p2_s439_s {X : Int → Int} {LX : Nat} : ck_Ok p2_O X LX 152 p2_s439 := ck_ok_s (O := p2_O) (X := X) (LX := LX) (E := [(139, [p2_s325])]) (mi := 152) (cuts := []) (f := 76) (S := p2_s439) (lx := none) (XF := []) ⟨p2_nmu, ck_E1 (ck_S1 p2_s325_s ck_S0) ck_E0⟩ ck_X0 ck_l0 (by decide +kernel)
set_option maxRecDepth 100000 in
/-- GlacierMail.post -/
noncomputable def p2_s440 : ck_Sum := ((8, 2, 12), 245, [.inr (.inr (.inl 1)), .inl (0, 7, []), .inl ((-2147483648), (-1), [])], ([], [], []), ([], []), [(.inl 3, 245, ([], [], []))])
set_option maxRecDepth 100000 in
theorem p2_s440_s {X : Int → Int} {LX : Nat} : ck_Ok p2_O X LX 152 p2_s440 := ck_ok_s (O := p2_O) (X := X) (LX := LX) (E := [(139, [p2_s328, p2_s322])]) (mi := 152) (cuts := []) (f := 82) (S := p2_s440) (lx := none) (XF := []) ⟨p2_nmu, ck_E1 (ck_S1 p2_s328_s (ck_S1 p2_s322_s ck_S0)) ck_E0⟩ ck_X0 ck_l0 (by decide +kernel)
set_option maxRecDepth 100000 in
/-- GlacierMail.post -/
noncomputable def p2_s441 : ck_Sum := ((8, 2, 12), 245, [.inr (.inr (.inl 1)), .inl (0, 7, []), .inl (8, 2147483647, [])], ([], [], []), ([], []), [(.inl 3, 245, ([], [], []))])
set_option maxRecDepth 100000 in
theorem p2_s441_s {X : Int → Int} {LX : Nat} : ck_Ok p2_O X LX 152 p2_s441 := ck_ok_s (O := p2_O) (X := X) (LX := LX) (E := [(139, [p2_s328, p2_s325])]) (mi := 152) (cuts := []) (f := 82) (S := p2_s441) (lx := none) (XF := []) ⟨p2_nmu, ck_E1 (ck_S1 p2_s328_s (ck_S1 p2_s325_s ck_S0)) ck_E0⟩ ck_X0 ck_l0 (by decide +kernel)
set_option maxRecDepth 100000 in
/-- GlacierMail.needUnlike -/
noncomputable def p2_s442 : ck_Sum := ((6, 1, 6), 245, [.inr (.inr (.inl 1)), .inl (0, 7, []), .inl (0, 7, [])], ([], [], []), ([], []), [(.inr none, 245, ([], [], [])), (.inl 0, 245, ([], [], []))])
set_option maxRecDepth 100000 in
theorem p2_s442_s {X : Int → Int} {LX : Nat} : ck_Ok p2_O X LX 153 p2_s442 := ck_ok_s (O := p2_O) (X := X) (LX := LX) (E := []) (mi := 153) (cuts := []) (f := 78) (S := p2_s442) (lx := none) (XF := []) ⟨p2_nmu, ck_E0⟩ ck_X0 ck_l0 (by decide +kernel)
set_option maxRecDepth 100000 in
/-- GlacierMail$Rows.isFull -/
noncomputable def p2_s443 : ck_Sum := ((0, 0, 0), 245, [.inr (.inr (.inl 10))], ([], [], []), ([], []), [(.inr (some (.inl (ck_one 0))), 245, ([], [], [(10, 3, 3, (0, 23, []))])), (.inr (some (.inl (ck_one 1))), 245, ([], [], [(10, 3, 3, ck_one 24)]))])
set_option maxRecDepth 100000 in
theorem p2_s443_s {X : Int → Int} {LX : Nat} : ck_Ok p2_O X LX 108 p2_s443 := ck_ok_s (O := p2_O) (X := X) (LX := LX) (E := []) (mi := 108) (cuts := []) (f := 86) (S := p2_s443) (lx := none) (XF := []) ⟨p2_nmu, ck_E0⟩ ck_X0 ck_l0 (by decide +kernel)
set_option maxRecDepth 100000 in
/-- GlacierMail$History.at -/
noncomputable def p2_s444 : ck_Sum := ((0, 0, 0), 245, [.inr (.inr (.inl 42)), .inl (0, 12, [])], ([], [], []), ([], []), [(.inr (some (.inr (.inr (.inl 0)))), 245, ([], [], [])), (.inr (some (.inr (.inr (.inl 44)))), 245, ([], [], [])), (.inr (some (.inr (.inr (.inl 187)))), 245, ([], [], [])), (.inr (some (.inr (.inr (.inl 174)))), 245, ([], [], [])), (.inr (some (.inr (.inr (.inl 161)))), 245, ([], [], [])), (.inr (some (.inr (.inr (.inl 148)))), 245, ([], [], [])), (.inr (some (.inr (.inr (.inl 135)))), 245, ([], [], [])), (.inr (some (.inr (.inr (.inl 122)))), 245, ([], [], [])), (.inr (some (.inr (.inr (.inl 109)))), 245, ([], [], [])), (.inr (some (.inr (.inr (.inl 96)))), 245, ([], [], [])), (.inr (some (.inr (.inr (.inl 83)))), 245, ([], [], [])), (.inr (some (.inr (.inr (.inl 70)))), 245, ([], [], [])), (.inr (some (.inr (.inr (.inl 57)))), 245, ([], [], []))])
set_option maxRecDepth 100000 in
theorem p2_s444_s {X : Int → Int} {LX : Nat} : ck_Ok p2_O X LX 56 p2_s444 := ck_ok_s (O := p2_O) (X := X) (LX := LX) (E := []) (mi := 56) (cuts := []) (f := 96) (S := p2_s444) (lx := none) (XF := []) ⟨p2_nmu, ck_E0⟩ ck_X0 ck_l0 (by decide +kernel)
set_option maxRecDepth 100000 in
/-- GlacierMail$Rows.copyFrom -/
noncomputable def p2_s445 : ck_Sum := ((1, 0, 0), 245, [.inr (.inr (.inl 58)), .inr (.inr (.inl 4))], ([], [], []), ([(58, 3, 3), (59, 0, 55)], []), [(.inr none, 245, ([], [], []))])
set_option maxRecDepth 100000 in
theorem p2_s445_s {X : Int → Int} {LX : Nat} : ck_Ok p2_O X LX 58 p2_s445 := ck_ok_s (O := p2_O) (X := X) (LX := LX) (E := []) (mi := 58) (cuts := []) (f := 114) (S := p2_s445) (lx := none) (XF := []) ⟨p2_nmu, ck_E0⟩ ck_X0 ck_l0 (by decide +kernel)
set_option maxRecDepth 100000 in
/-- GlacierMail$Rows.copyFrom -/
noncomputable def p2_s446 : ck_Sum := ((1, 0, 0), 245, [.inr (.inr (.inl 60)), .inr (.inr (.inl 6))], ([], [], []), ([(60, 3, 3), (61, 0, 23)], []), [(.inr none, 245, ([], [], []))])
set_option maxRecDepth 100000 in
theorem p2_s446_s {X : Int → Int} {LX : Nat} : ck_Ok p2_O X LX 58 p2_s446 := ck_ok_s (O := p2_O) (X := X) (LX := LX) (E := []) (mi := 58) (cuts := []) (f := 114) (S := p2_s446) (lx := none) (XF := []) ⟨p2_nmu, ck_E0⟩ ck_X0 ck_l0 (by decide +kernel)
set_option maxRecDepth 100000 in
/-- GlacierMail$Rows.copyFrom -/
noncomputable def p2_s447 : ck_Sum := ((1, 0, 0), 245, [.inr (.inr (.inl 62)), .inr (.inr (.inl 8))], ([], [], []), ([(62, 3, 3), (63, 0, 23)], []), [(.inr none, 245, ([], [], []))])
set_option maxRecDepth 100000 in
theorem p2_s447_s {X : Int → Int} {LX : Nat} : ck_Ok p2_O X LX 58 p2_s447 := ck_ok_s (O := p2_O) (X := X) (LX := LX) (E := []) (mi := 58) (cuts := []) (f := 114) (S := p2_s447) (lx := none) (XF := []) ⟨p2_nmu, ck_E0⟩ ck_X0 ck_l0 (by decide +kernel)
set_option maxRecDepth 100000 in
/-- GlacierMail$Rows.copyFrom -/
noncomputable def p2_s448 : ck_Sum := ((1, 0, 0), 245, [.inr (.inr (.inl 64)), .inr (.inr (.inl 10))], ([], [], []), ([(64, 3, 3), (65, 0, 167)], []), [(.inr none, 245, ([], [], []))])
set_option maxRecDepth 100000 in
theorem p2_s448_s {X : Int → Int} {LX : Nat} : ck_Ok p2_O X LX 58 p2_s448 := ck_ok_s (O := p2_O) (X := X) (LX := LX) (E := []) (mi := 58) (cuts := []) (f := 114) (S := p2_s448) (lx := none) (XF := []) ⟨p2_nmu, ck_E0⟩ ck_X0 ck_l0 (by decide +kernel)
set_option maxRecDepth 100000 in
/-- GlacierMail$Rows.copyFrom -/
noncomputable def p2_s449 : ck_Sum := ((1, 0, 0), 245, [.inr (.inr (.inl 66)), .inr (.inr (.inl 12))], ([], [], []), ([(66, 3, 3), (67, 0, 35)], []), [(.inr none, 245, ([], [], []))])
set_option maxRecDepth 100000 in
theorem p2_s449_s {X : Int → Int} {LX : Nat} : ck_Ok p2_O X LX 58 p2_s449 := ck_ok_s (O := p2_O) (X := X) (LX := LX) (E := []) (mi := 58) (cuts := []) (f := 114) (S := p2_s449) (lx := none) (XF := []) ⟨p2_nmu, ck_E0⟩ ck_X0 ck_l0 (by decide +kernel)
set_option maxRecDepth 100000 in
/-- GlacierMail$Rows.copyFrom -/
noncomputable def p2_s450 : ck_Sum := ((1, 0, 0), 245, [.inr (.inr (.inl 68)), .inr (.inr (.inl 14))], ([], [], []), ([(68, 3, 3), (69, 0, 71)], []), [(.inr none, 245, ([], [], []))])
set_option maxRecDepth 100000 in
theorem p2_s450_s {X : Int → Int} {LX : Nat} : ck_Ok p2_O X LX 58 p2_s450 := ck_ok_s (O := p2_O) (X := X) (LX := LX) (E := []) (mi := 58) (cuts := []) (f := 114) (S := p2_s450) (lx := none) (XF := []) ⟨p2_nmu, ck_E0⟩ ck_X0 ck_l0 (by decide +kernel)
end
