/-! EVERY CALL ENDS, whatever was done before (laid by wip/am/p2k.py). -/
set_option maxRecDepth 100000 in
/-- GlacierMail.putNumber -/
noncomputable def p2_s0 : ck_Sum := ((0, 0, 0), 245, [.inr (.inr (.inl 1)), .inl ((-2147483648), 2147483647, [])], ([], [], [(1, 1, 1, (0, 380, [(6, 0)]))]), ([(1, 1, 1), (2, 0, 383)], []), [(.inr none, 245, ([], [], [(1, 1, 1, (4, 384, [(6, 4)]))]))])
set_option maxRecDepth 100000 in
theorem p2_s0_s {X : Int → Int} {LX : Nat} : ck_Ok p2_O X LX 20 p2_s0 := ck_ok_s (O := p2_O) (X := X) (LX := LX) (E := []) (mi := 20) (cuts := []) (f := 280) (S := p2_s0) (lx := none) (XF := []) ⟨p2_nmu, ck_E0⟩ ck_X0 ck_l0 (by decide +kernel)
set_option maxRecDepth 100000 in
/-- GlacierMail.putNumber -/
noncomputable def p2_s1 : ck_Sum := ((0, 0, 0), 245, [.inr (.inr (.inl 1)), .inl ((-2147483648), 2147483647, [])], ([], [], [(1, 1, 1, (4, 384, [(6, 0)]))]), ([(1, 1, 1), (2, 4, 387)], []), [(.inr none, 245, ([], [], [(1, 1, 1, (8, 388, [(6, 4)]))]))])
set_option maxRecDepth 100000 in
theorem p2_s1_s {X : Int → Int} {LX : Nat} : ck_Ok p2_O X LX 20 p2_s1 := ck_ok_s (O := p2_O) (X := X) (LX := LX) (E := []) (mi := 20) (cuts := []) (f := 280) (S := p2_s1) (lx := none) (XF := []) ⟨p2_nmu, ck_E0⟩ ck_X0 ck_l0 (by decide +kernel)
set_option maxRecDepth 100000 in
/-- GlacierMail.putNumber -/
noncomputable def p2_s2 : ck_Sum := ((0, 0, 0), 245, [.inr (.inr (.inl 1)), .inl ((-2147483648), 2147483647, [])], ([], [], [(1, 1, 1, (8, 388, [(6, 0)]))]), ([(1, 1, 1), (2, 8, 391)], []), [(.inr none, 245, ([], [], [(1, 1, 1, (12, 392, [(6, 4)]))]))])
set_option maxRecDepth 100000 in
theorem p2_s2_s {X : Int → Int} {LX : Nat} : ck_Ok p2_O X LX 20 p2_s2 := ck_ok_s (O := p2_O) (X := X) (LX := LX) (E := []) (mi := 20) (cuts := []) (f := 280) (S := p2_s2) (lx := none) (XF := []) ⟨p2_nmu, ck_E0⟩ ck_X0 ck_l0 (by decide +kernel)
set_option maxRecDepth 100000 in
/-- GlacierMail.putNumber -/
noncomputable def p2_s3 : ck_Sum := ((0, 0, 0), 245, [.inr (.inr (.inl 1)), .inl ((-2147483648), 2147483647, [])], ([], [], [(1, 1, 1, (12, 392, [(6, 0)]))]), ([(1, 1, 1), (2, 12, 395)], []), [(.inr none, 245, ([], [], [(1, 1, 1, (16, 396, [(6, 4)]))]))])
set_option maxRecDepth 100000 in
theorem p2_s3_s {X : Int → Int} {LX : Nat} : ck_Ok p2_O X LX 20 p2_s3 := ck_ok_s (O := p2_O) (X := X) (LX := LX) (E := []) (mi := 20) (cuts := []) (f := 280) (S := p2_s3) (lx := none) (XF := []) ⟨p2_nmu, ck_E0⟩ ck_X0 ck_l0 (by decide +kernel)
set_option maxRecDepth 100000 in
/-- GlacierMail.putNumber -/
noncomputable def p2_s4 : ck_Sum := ((0, 0, 0), 245, [.inr (.inr (.inl 1)), .inl ((-2147483648), 2147483647, [])], ([], [], [(1, 1, 1, (16, 396, [(6, 0)]))]), ([(1, 1, 1), (2, 16, 399)], []), [(.inr none, 245, ([], [], [(1, 1, 1, (20, 400, [(6, 4)]))]))])
set_option maxRecDepth 100000 in
theorem p2_s4_s {X : Int → Int} {LX : Nat} : ck_Ok p2_O X LX 20 p2_s4 := ck_ok_s (O := p2_O) (X := X) (LX := LX) (E := []) (mi := 20) (cuts := []) (f := 280) (S := p2_s4) (lx := none) (XF := []) ⟨p2_nmu, ck_E0⟩ ck_X0 ck_l0 (by decide +kernel)
set_option maxRecDepth 100000 in
/-- GlacierMail.feed -/
noncomputable def p2_s5 : ck_Sum := ((1, 0, 0), 245, [.inr (.inr (.inl 1)), .inl ((-2147483648), 2147483647, []), .inl ((-2147483648), 2147483647, []), .inl ((-2147483648), 2147483647, []), .inl ((-2147483648), 2147483647, []), .inl ((-2147483648), 2147483647, [])], ([], [], [(1, 1, 1, (0, 400, [(6, 0)]))]), ([(1, 1, 1), (2, 0, 399)], []), [(.inr (some (.inl (20, 400, [(6, 20)]))), 245, ([], [], [(1, 1, 1, (20, 400, [(6, 20)]))])), (.inr (some (.inl (ck_one (-1)))), 245, ([], [], [(1, 1, 1, (381, 400, [(6, 0)]))]))])
set_option maxRecDepth 100000 in
theorem p2_s5_s {X : Int → Int} {LX : Nat} : ck_Ok p2_O X LX 19 p2_s5 := ck_ok_s (O := p2_O) (X := X) (LX := LX) (E := [(20, [p2_s0, p2_s1, p2_s2, p2_s3, p2_s4])]) (mi := 19) (cuts := []) (f := 118) (S := p2_s5) (lx := none) (XF := []) ⟨p2_nmu, ck_E1 (ck_S1 p2_s0_s (ck_S1 p2_s1_s (ck_S1 p2_s2_s (ck_S1 p2_s3_s (ck_S1 p2_s4_s ck_S0))))) ck_E0⟩ ck_X0 ck_l0 (by decide +kernel)
set_option maxRecDepth 100000 in
/-- GlacierMailModel.feed -/
noncomputable def p2_s6 : ck_Sum := ((0, 0, 0), 245, [.inr (.inr (.inl 226)), .inl ((-2147483648), 2147483647, []), .inl ((-2147483648), 2147483647, []), .inl ((-2147483648), 2147483647, []), .inl ((-2147483648), 2147483647, []), .inl ((-2147483648), 2147483647, [])], ([], [], [(226, 8, 8, (0, 400, [(7, 0)]))]), ([(226, 0, 0), (226, 8, 8), (231, 0, 399), (232, 0, 4)], []), [(.inr (some (.inl (20, 400, [(7, 20)]))), 245, ([], [], [(226, 8, 8, (20, 400, [(7, 20)])), (226, 0, 0, ck_one 0)])), (.inr (some (.inl (ck_one (-1)))), 245, ([], [], [(226, 8, 8, (381, 400, [(7, 0)])), (226, 0, 0, ck_one 0)]))])
set_option maxRecDepth 100000 in
theorem p2_s6_s {X : Int → Int} {LX : Nat} : ck_Ok p2_O X LX 239 p2_s6 := ck_ok_s (O := p2_O) (X := X) (LX := LX) (E := []) (mi := 239) (cuts := []) (f := 1246) (S := p2_s6) (lx := none) (XF := []) ⟨p2_nmu, ck_E0⟩ ck_X0 ck_l0 (by decide +kernel)
set_option maxRecDepth 100000 in
/-- GlacierMail$Rows.copyFrom -/
noncomputable def p2_s9 : ck_Sum := ((1, 0, 0), 245, [.inr (.inr (.inl 17)), .inr (.inr (.inl 4))], ([], [], []), ([(17, 3, 3), (18, 0, 55)], []), [(.inr none, 245, ([], [], []))])
set_option maxRecDepth 100000 in
theorem p2_s9_s {X : Int → Int} {LX : Nat} : ck_Ok p2_O X LX 58 p2_s9 := ck_ok_s (O := p2_O) (X := X) (LX := LX) (E := []) (mi := 58) (cuts := []) (f := 114) (S := p2_s9) (lx := none) (XF := []) ⟨p2_nmu, ck_E0⟩ ck_X0 ck_l0 (by decide +kernel)
set_option maxRecDepth 100000 in
/-- GlacierMail$Rows.copyFrom -/
noncomputable def p2_s10 : ck_Sum := ((1, 0, 0), 245, [.inr (.inr (.inl 19)), .inr (.inr (.inl 6))], ([], [], []), ([(19, 3, 3), (20, 0, 23)], []), [(.inr none, 245, ([], [], []))])
set_option maxRecDepth 100000 in
theorem p2_s10_s {X : Int → Int} {LX : Nat} : ck_Ok p2_O X LX 58 p2_s10 := ck_ok_s (O := p2_O) (X := X) (LX := LX) (E := []) (mi := 58) (cuts := []) (f := 114) (S := p2_s10) (lx := none) (XF := []) ⟨p2_nmu, ck_E0⟩ ck_X0 ck_l0 (by decide +kernel)
set_option maxRecDepth 100000 in
/-- GlacierMail$Rows.copyFrom -/
noncomputable def p2_s11 : ck_Sum := ((1, 0, 0), 245, [.inr (.inr (.inl 21)), .inr (.inr (.inl 8))], ([], [], []), ([(21, 3, 3), (22, 0, 23)], []), [(.inr none, 245, ([], [], []))])
set_option maxRecDepth 100000 in
theorem p2_s11_s {X : Int → Int} {LX : Nat} : ck_Ok p2_O X LX 58 p2_s11 := ck_ok_s (O := p2_O) (X := X) (LX := LX) (E := []) (mi := 58) (cuts := []) (f := 114) (S := p2_s11) (lx := none) (XF := []) ⟨p2_nmu, ck_E0⟩ ck_X0 ck_l0 (by decide +kernel)
set_option maxRecDepth 100000 in
/-- GlacierMail$Rows.copyFrom -/
noncomputable def p2_s12 : ck_Sum := ((1, 0, 0), 245, [.inr (.inr (.inl 23)), .inr (.inr (.inl 10))], ([], [], []), ([(23, 3, 3), (24, 0, 167)], []), [(.inr none, 245, ([], [], []))])
set_option maxRecDepth 100000 in
theorem p2_s12_s {X : Int → Int} {LX : Nat} : ck_Ok p2_O X LX 58 p2_s12 := ck_ok_s (O := p2_O) (X := X) (LX := LX) (E := []) (mi := 58) (cuts := []) (f := 114) (S := p2_s12) (lx := none) (XF := []) ⟨p2_nmu, ck_E0⟩ ck_X0 ck_l0 (by decide +kernel)
set_option maxRecDepth 100000 in
/-- GlacierMail$Rows.copyFrom -/
noncomputable def p2_s13 : ck_Sum := ((1, 0, 0), 245, [.inr (.inr (.inl 25)), .inr (.inr (.inl 12))], ([], [], []), ([(25, 3, 3), (26, 0, 35)], []), [(.inr none, 245, ([], [], []))])
set_option maxRecDepth 100000 in
theorem p2_s13_s {X : Int → Int} {LX : Nat} : ck_Ok p2_O X LX 58 p2_s13 := ck_ok_s (O := p2_O) (X := X) (LX := LX) (E := []) (mi := 58) (cuts := []) (f := 114) (S := p2_s13) (lx := none) (XF := []) ⟨p2_nmu, ck_E0⟩ ck_X0 ck_l0 (by decide +kernel)
set_option maxRecDepth 100000 in
/-- GlacierMail$Rows.copyFrom -/
noncomputable def p2_s14 : ck_Sum := ((1, 0, 0), 245, [.inr (.inr (.inl 27)), .inr (.inr (.inl 14))], ([], [], []), ([(27, 3, 3), (28, 0, 71)], []), [(.inr none, 245, ([], [], []))])
set_option maxRecDepth 100000 in
theorem p2_s14_s {X : Int → Int} {LX : Nat} : ck_Ok p2_O X LX 58 p2_s14 := ck_ok_s (O := p2_O) (X := X) (LX := LX) (E := []) (mi := 58) (cuts := []) (f := 114) (S := p2_s14) (lx := none) (XF := []) ⟨p2_nmu, ck_E0⟩ ck_X0 ck_l0 (by decide +kernel)
set_option maxRecDepth 100000 in
/-- GlacierMail$State.copyFrom -/
noncomputable def p2_s15 : ck_Sum := ((2, 0, 0), 245, [.inr (.inr (.inl 16)), .inr (.inr (.inl 3))], ([], [(3, 8, 0), (16, 8, 100016)], [(3, 6, 6, (0, 299, [(10, 0)]))]), (zl0, [(16, 8)]), [(.inr none, 245, ([], [(16, 8, 0)], [(16, 6, 6, (0, 299, [(10, 0)]))]))])
set_option maxRecDepth 100000 in
theorem p2_s15_s {X : Int → Int} {LX : Nat} : ck_Ok p2_O X LX 57 p2_s15 := ck_ok_s (O := p2_O) (X := X) (LX := LX) (E := [(58, [p2_s9, p2_s10, p2_s11, p2_s12, p2_s13, p2_s14])]) (mi := 57) (cuts := []) (f := 204) (S := p2_s15) (lx := none) (XF := []) ⟨p2_nmu, ck_E1 (ck_S1 p2_s9_s (ck_S1 p2_s10_s (ck_S1 p2_s11_s (ck_S1 p2_s12_s (ck_S1 p2_s13_s (ck_S1 p2_s14_s ck_S0)))))) ck_E0⟩ ck_X0 ck_l0 (by decide +kernel)
set_option maxRecDepth 100000 in
/-- GlacierMail$Rows.copyFrom -/
noncomputable def p2_s16 : ck_Sum := ((1, 0, 0), 245, [.inr (.inr (.inl 4)), .inr (.inr (.inl 17))], ([], [], []), ([(4, 3, 3), (5, 0, 55)], []), [(.inr none, 245, ([], [], []))])
set_option maxRecDepth 100000 in
theorem p2_s16_s {X : Int → Int} {LX : Nat} : ck_Ok p2_O X LX 58 p2_s16 := ck_ok_s (O := p2_O) (X := X) (LX := LX) (E := []) (mi := 58) (cuts := []) (f := 114) (S := p2_s16) (lx := none) (XF := []) ⟨p2_nmu, ck_E0⟩ ck_X0 ck_l0 (by decide +kernel)
set_option maxRecDepth 100000 in
/-- GlacierMail$Rows.copyFrom -/
noncomputable def p2_s17 : ck_Sum := ((1, 0, 0), 245, [.inr (.inr (.inl 6)), .inr (.inr (.inl 19))], ([], [], []), ([(6, 3, 3), (7, 0, 23)], []), [(.inr none, 245, ([], [], []))])
set_option maxRecDepth 100000 in
theorem p2_s17_s {X : Int → Int} {LX : Nat} : ck_Ok p2_O X LX 58 p2_s17 := ck_ok_s (O := p2_O) (X := X) (LX := LX) (E := []) (mi := 58) (cuts := []) (f := 114) (S := p2_s17) (lx := none) (XF := []) ⟨p2_nmu, ck_E0⟩ ck_X0 ck_l0 (by decide +kernel)
set_option maxRecDepth 100000 in
/-- GlacierMail$Rows.copyFrom -/
noncomputable def p2_s18 : ck_Sum := ((1, 0, 0), 245, [.inr (.inr (.inl 8)), .inr (.inr (.inl 21))], ([], [], []), ([(8, 3, 3), (9, 0, 23)], []), [(.inr none, 245, ([], [], []))])
set_option maxRecDepth 100000 in
theorem p2_s18_s {X : Int → Int} {LX : Nat} : ck_Ok p2_O X LX 58 p2_s18 := ck_ok_s (O := p2_O) (X := X) (LX := LX) (E := []) (mi := 58) (cuts := []) (f := 114) (S := p2_s18) (lx := none) (XF := []) ⟨p2_nmu, ck_E0⟩ ck_X0 ck_l0 (by decide +kernel)
set_option maxRecDepth 100000 in
/-- GlacierMail$Rows.copyFrom -/
noncomputable def p2_s19 : ck_Sum := ((1, 0, 0), 245, [.inr (.inr (.inl 10)), .inr (.inr (.inl 23))], ([], [], []), ([(10, 3, 3), (11, 0, 167)], []), [(.inr none, 245, ([], [], []))])
set_option maxRecDepth 100000 in
theorem p2_s19_s {X : Int → Int} {LX : Nat} : ck_Ok p2_O X LX 58 p2_s19 := ck_ok_s (O := p2_O) (X := X) (LX := LX) (E := []) (mi := 58) (cuts := []) (f := 114) (S := p2_s19) (lx := none) (XF := []) ⟨p2_nmu, ck_E0⟩ ck_X0 ck_l0 (by decide +kernel)
set_option maxRecDepth 100000 in
/-- GlacierMail$Rows.copyFrom -/
noncomputable def p2_s20 : ck_Sum := ((1, 0, 0), 245, [.inr (.inr (.inl 12)), .inr (.inr (.inl 25))], ([], [], []), ([(12, 3, 3), (13, 0, 35)], []), [(.inr none, 245, ([], [], []))])
set_option maxRecDepth 100000 in
theorem p2_s20_s {X : Int → Int} {LX : Nat} : ck_Ok p2_O X LX 58 p2_s20 := ck_ok_s (O := p2_O) (X := X) (LX := LX) (E := []) (mi := 58) (cuts := []) (f := 114) (S := p2_s20) (lx := none) (XF := []) ⟨p2_nmu, ck_E0⟩ ck_X0 ck_l0 (by decide +kernel)
set_option maxRecDepth 100000 in
/-- GlacierMail$Rows.copyFrom -/
noncomputable def p2_s21 : ck_Sum := ((1, 0, 0), 245, [.inr (.inr (.inl 14)), .inr (.inr (.inl 27))], ([], [], []), ([(14, 3, 3), (15, 0, 71)], []), [(.inr none, 245, ([], [], []))])
set_option maxRecDepth 100000 in
theorem p2_s21_s {X : Int → Int} {LX : Nat} : ck_Ok p2_O X LX 58 p2_s21 := ck_ok_s (O := p2_O) (X := X) (LX := LX) (E := []) (mi := 58) (cuts := []) (f := 114) (S := p2_s21) (lx := none) (XF := []) ⟨p2_nmu, ck_E0⟩ ck_X0 ck_l0 (by decide +kernel)
set_option maxRecDepth 100000 in
/-- GlacierMail$State.copyFrom -/
noncomputable def p2_s22 : ck_Sum := ((2, 0, 0), 245, [.inr (.inr (.inl 3)), .inr (.inr (.inl 16))], ([], [(3, 8, 0), (16, 8, 0)], []), (zl1, [(3, 8)]), [(.inr none, 245, ([], [(3, 8, 0)], []))])
set_option maxRecDepth 100000 in
theorem p2_s22_s {X : Int → Int} {LX : Nat} : ck_Ok p2_O X LX 57 p2_s22 := ck_ok_s (O := p2_O) (X := X) (LX := LX) (E := [(58, [p2_s16, p2_s17, p2_s18, p2_s19, p2_s20, p2_s21])]) (mi := 57) (cuts := []) (f := 204) (S := p2_s22) (lx := none) (XF := []) ⟨p2_nmu, ck_E1 (ck_S1 p2_s16_s (ck_S1 p2_s17_s (ck_S1 p2_s18_s (ck_S1 p2_s19_s (ck_S1 p2_s20_s (ck_S1 p2_s21_s ck_S0)))))) ck_E0⟩ ck_X0 ck_l0 (by decide +kernel)
set_option maxRecDepth 100000 in
/-- GlacierMail$ValleyReader.clear -/
noncomputable def p2_s23 : ck_Sum := ((0, 0, 0), 245, [.inr (.inr (.inl 213))], ([], [], []), ([], []), [(.inr none, 245, ([], [], []))])
set_option maxRecDepth 100000 in
theorem p2_s23_s {X : Int → Int} {LX : Nat} : ck_Ok p2_O X LX 74 p2_s23 := ck_ok_s (O := p2_O) (X := X) (LX := LX) (E := []) (mi := 74) (cuts := []) (f := 72) (S := p2_s23) (lx := none) (XF := []) ⟨p2_nmu, ck_E0⟩ ck_X0 ck_l0 (by decide +kernel)
set_option maxRecDepth 100000 in
/-- GlacierMail$Words.isSmall -/
noncomputable def p2_s24 : ck_Sum := ((0, 0, 0), 245, [.inl ((-128), 127, [])], ([], [], []), ([], []), [(.inr (some (.inl (ck_one 0))), 245, ([], [], [])), (.inr (some (.inl (ck_one 1))), 245, ([], [], []))])
set_option maxRecDepth 100000 in
theorem p2_s24_s {X : Int → Int} {LX : Nat} : ck_Ok p2_O X LX 77 p2_s24 := ck_ok_s (O := p2_O) (X := X) (LX := LX) (E := []) (mi := 77) (cuts := []) (f := 88) (S := p2_s24) (lx := none) (XF := []) ⟨p2_nmu, ck_E0⟩ ck_X0 ck_l0 (by decide +kernel)
set_option maxRecDepth 100000 in
/-- GlacierMail$Words.isDigit -/
noncomputable def p2_s25 : ck_Sum := ((0, 0, 0), 245, [.inl ((-128), 127, [])], ([], [], []), ([], []), [(.inr (some (.inl (ck_one 0))), 245, ([], [], [])), (.inr (some (.inl (ck_one 1))), 245, ([], [], []))])
set_option maxRecDepth 100000 in
theorem p2_s25_s {X : Int → Int} {LX : Nat} : ck_Ok p2_O X LX 78 p2_s25 := ck_ok_s (O := p2_O) (X := X) (LX := LX) (E := []) (mi := 78) (cuts := []) (f := 88) (S := p2_s25) (lx := none) (XF := []) ⟨p2_nmu, ck_E0⟩ ck_X0 ck_l0 (by decide +kernel)
set_option maxRecDepth 100000 in
/-- GlacierMail$Words.next -/
noncomputable def p2_s26 : ck_Sum := ((1, 0, 0), 245, [.inr (.inr (.inl 214))], ([], [], [(214, 3, 3, (0, 400, [(12, 0)]))]), ([(214, 3, 4), (214, 6, 7)], []), [(.inr none, 245, ([], [], [(214, 3, 3, (0, 400, [(1000012, 0)]))]))])
set_option maxRecDepth 100000 in
theorem p2_s26_s {X : Int → Int} {LX : Nat} : ck_Ok p2_O X LX 76 p2_s26 := ck_ok_s (O := p2_O) (X := X) (LX := LX) (E := [(77, [p2_s24]), (78, [p2_s25])]) (mi := 76) (cuts := [(0, [some (.inr (.inr (.inl 214))), none], ([], [], [(214, 3, 3, (0, 400, [(1000012, 0)]))]), 100, .inr (214, 3), true), (160, [some (.inr (.inr (.inl 214))), none], ([], [], [(214, 6, 6, ck_one 258), (214, 2, 2, (1, 400, [])), (214, 3, 3, (0, 400, [(1000100, 0), (1000012, 0)])), (214, 4, 4, (0, 400, [(100, 0)]))]), 300, .inr (214, 3), true), (94, [some (.inr (.inr (.inl 214))), none], ([], [], [(214, 6, 6, ck_one 257), (214, 2, 2, (1, 400, [])), (214, 3, 3, (0, 400, [(1000100, 0), (1000012, 0)])), (214, 7, 7, ck_one (-1)), (214, 4, 4, (0, 400, [(100, 0), (1000012, 0)]))]), 500, .inr (214, 3), true)]) (f := 562) (S := p2_s26) (lx := none) (XF := []) ⟨p2_nmu, ck_E1 (ck_S1 p2_s24_s ck_S0) (ck_E1 (ck_S1 p2_s25_s ck_S0) ck_E0)⟩ ck_X0 ck_l0 (by decide +kernel)
set_option maxRecDepth 100000 in
/-- GlacierMail$Words.start -/
noncomputable def p2_s27 : ck_Sum := ((2, 0, 0), 245, [.inr (.inr (.inl 214)), .inl (0, 400, [])], ([], [], [(214, 3, 3, (0, 400, [(12, 0)]))]), ([(214, 2, 7)], []), [(.inr none, 245, ([], [], [(214, 5, 5, ck_one (-1))]))])
set_option maxRecDepth 100000 in
theorem p2_s27_s {X : Int → Int} {LX : Nat} : ck_Ok p2_O X LX 75 p2_s27 := ck_ok_s (O := p2_O) (X := X) (LX := LX) (E := [(76, [p2_s26])]) (mi := 75) (cuts := []) (f := 102) (S := p2_s27) (lx := none) (XF := []) ⟨p2_nmu, ck_E1 (ck_S1 p2_s26_s ck_S0) ck_E0⟩ ck_X0 ck_l0 (by decide +kernel)
set_option maxRecDepth 100000 in
/-- GlacierMail$Words.refuse -/
noncomputable def p2_s28 : ck_Sum := ((0, 0, 0), 245, [.inr (.inr (.inl 214))], ([], [], []), ([(214, 5, 5)], []), [(.inr (some (.inl (ck_one 0))), 245, ([], [], [(214, 5, 5, (0, 400, []))]))])
set_option maxRecDepth 100000 in
theorem p2_s28_s {X : Int → Int} {LX : Nat} : ck_Ok p2_O X LX 93 p2_s28 := ck_ok_s (O := p2_O) (X := X) (LX := LX) (E := []) (mi := 93) (cuts := []) (f := 90) (S := p2_s28) (lx := none) (XF := []) ⟨p2_nmu, ck_E0⟩ ck_X0 ck_l0 (by decide +kernel)
set_option maxRecDepth 100000 in
/-- GlacierMail$Words.wrong -/
noncomputable def p2_s29 : ck_Sum := ((0, 0, 0), 245, [.inr (.inr (.inl 214))], ([], [], []), ([], []), zl2)
set_option maxRecDepth 100000 in
theorem p2_s29_s {X : Int → Int} {LX : Nat} : ck_Ok p2_O X LX 121 p2_s29 := ck_ok_s (O := p2_O) (X := X) (LX := LX) (E := []) (mi := 121) (cuts := []) (f := 76) (S := p2_s29) (lx := none) (XF := []) ⟨p2_nmu, ck_E0⟩ ck_X0 ck_l0 (by decide +kernel)
set_option maxRecDepth 100000 in
/-- GlacierMail$Words.isWord -/
noncomputable def p2_s30 : ck_Sum := ((6, 0, 0), 245, [.inr (.inr (.inl 214)), .inr (.inr (.inr 17))], ([], [], [(214, 3, 3, (0, 400, [(12, 0)]))]), ([], []), zl3)
set_option maxRecDepth 100000 in
theorem p2_s30_s {X : Int → Int} {LX : Nat} : ck_Ok p2_O X LX 81 p2_s30 := ck_ok_s (O := p2_O) (X := X) (LX := LX) (E := []) (mi := 81) (cuts := []) (f := 360) (S := p2_s30) (lx := none) (XF := []) ⟨p2_nmu, ck_E0⟩ ck_X0 ck_l0 (by decide +kernel)
set_option maxRecDepth 100000 in
/-- GlacierMail$Words.isWord -/
noncomputable def p2_s31 : ck_Sum := ((6, 0, 0), 245, [.inr (.inr (.inl 214)), .inr (.inr (.inr 18))], ([], [], [(214, 3, 3, (0, 400, [(12, 0)]))]), ([], []), zl4)
set_option maxRecDepth 100000 in
theorem p2_s31_s {X : Int → Int} {LX : Nat} : ck_Ok p2_O X LX 81 p2_s31 := ck_ok_s (O := p2_O) (X := X) (LX := LX) (E := []) (mi := 81) (cuts := []) (f := 310) (S := p2_s31) (lx := none) (XF := []) ⟨p2_nmu, ck_E0⟩ ck_X0 ck_l0 (by decide +kernel)
set_option maxRecDepth 100000 in
/-- GlacierMail$Words.isWord -/
noncomputable def p2_s32 : ck_Sum := ((6, 0, 0), 245, [.inr (.inr (.inl 214)), .inr (.inr (.inr 19))], ([], [], [(214, 3, 3, (0, 400, [(12, 0)]))]), ([], []), [(.inr (some (.inl (ck_one 0))), 245, ([], [], [])), (.inr (some (.inl (ck_one 1))), 245, ([], [], zl5))])
set_option maxRecDepth 100000 in
theorem p2_s32_s {X : Int → Int} {LX : Nat} : ck_Ok p2_O X LX 81 p2_s32 := ck_ok_s (O := p2_O) (X := X) (LX := LX) (E := []) (mi := 81) (cuts := []) (f := 460) (S := p2_s32) (lx := none) (XF := []) ⟨p2_nmu, ck_E0⟩ ck_X0 ck_l0 (by decide +kernel)
set_option maxRecDepth 100000 in
/-- GlacierMail$Words.isWord -/
noncomputable def p2_s33 : ck_Sum := ((6, 0, 0), 245, [.inr (.inr (.inl 214)), .inr (.inr (.inr 20))], ([], [], [(214, 3, 3, (0, 400, [(12, 0)]))]), ([], []), zl4)
set_option maxRecDepth 100000 in
theorem p2_s33_s {X : Int → Int} {LX : Nat} : ck_Ok p2_O X LX 81 p2_s33 := ck_ok_s (O := p2_O) (X := X) (LX := LX) (E := []) (mi := 81) (cuts := []) (f := 310) (S := p2_s33) (lx := none) (XF := []) ⟨p2_nmu, ck_E0⟩ ck_X0 ck_l0 (by decide +kernel)
set_option maxRecDepth 100000 in
/-- GlacierMail$Words.isWord -/
noncomputable def p2_s34 : ck_Sum := ((6, 0, 0), 245, [.inr (.inr (.inl 214)), .inr (.inr (.inr 22))], ([], [], [(214, 3, 3, (0, 400, [(12, 0)]))]), ([], []), zl6)
set_option maxRecDepth 100000 in
theorem p2_s34_s {X : Int → Int} {LX : Nat} : ck_Ok p2_O X LX 81 p2_s34 := ck_ok_s (O := p2_O) (X := X) (LX := LX) (E := []) (mi := 81) (cuts := []) (f := 410) (S := p2_s34) (lx := none) (XF := []) ⟨p2_nmu, ck_E0⟩ ck_X0 ck_l0 (by decide +kernel)
set_option maxRecDepth 100000 in
/-- GlacierMail$Words.isWord -/
noncomputable def p2_s35 : ck_Sum := ((6, 0, 0), 245, [.inr (.inr (.inl 214)), .inr (.inr (.inr 23))], ([], [], [(214, 3, 3, (0, 400, [(12, 0)]))]), ([], []), zl4)
set_option maxRecDepth 100000 in
theorem p2_s35_s {X : Int → Int} {LX : Nat} : ck_Ok p2_O X LX 81 p2_s35 := ck_ok_s (O := p2_O) (X := X) (LX := LX) (E := []) (mi := 81) (cuts := []) (f := 310) (S := p2_s35) (lx := none) (XF := []) ⟨p2_nmu, ck_E0⟩ ck_X0 ck_l0 (by decide +kernel)
set_option maxRecDepth 100000 in
/-- GlacierMail$Words.isWord -/
noncomputable def p2_s36 : ck_Sum := ((6, 0, 0), 245, [.inr (.inr (.inl 214)), .inr (.inr (.inr 24))], ([], [], [(214, 3, 3, (0, 400, [(12, 0)]))]), ([], []), zl3)
set_option maxRecDepth 100000 in
theorem p2_s36_s {X : Int → Int} {LX : Nat} : ck_Ok p2_O X LX 81 p2_s36 := ck_ok_s (O := p2_O) (X := X) (LX := LX) (E := []) (mi := 81) (cuts := []) (f := 360) (S := p2_s36) (lx := none) (XF := []) ⟨p2_nmu, ck_E0⟩ ck_X0 ck_l0 (by decide +kernel)
set_option maxRecDepth 100000 in
/-- GlacierMail$Words.isWord -/
noncomputable def p2_s37 : ck_Sum := ((6, 0, 0), 245, [.inr (.inr (.inl 214)), .inr (.inr (.inr 25))], ([], [], [(214, 3, 3, (0, 400, [(12, 0)]))]), ([], []), zl6)
set_option maxRecDepth 100000 in
theorem p2_s37_s {X : Int → Int} {LX : Nat} : ck_Ok p2_O X LX 81 p2_s37 := ck_ok_s (O := p2_O) (X := X) (LX := LX) (E := []) (mi := 81) (cuts := []) (f := 410) (S := p2_s37) (lx := none) (XF := []) ⟨p2_nmu, ck_E0⟩ ck_X0 ck_l0 (by decide +kernel)
set_option maxRecDepth 100000 in
/-- GlacierMail$Words.isWord -/
noncomputable def p2_s38 : ck_Sum := ((6, 0, 0), 245, [.inr (.inr (.inl 214)), .inr (.inr (.inr 27))], ([], [], [(214, 3, 3, (0, 400, [(12, 0)]))]), ([], []), zl4)
set_option maxRecDepth 100000 in
theorem p2_s38_s {X : Int → Int} {LX : Nat} : ck_Ok p2_O X LX 81 p2_s38 := ck_ok_s (O := p2_O) (X := X) (LX := LX) (E := []) (mi := 81) (cuts := []) (f := 310) (S := p2_s38) (lx := none) (XF := []) ⟨p2_nmu, ck_E0⟩ ck_X0 ck_l0 (by decide +kernel)
set_option maxRecDepth 100000 in
/-- GlacierMail$Words.isWord -/
noncomputable def p2_s39 : ck_Sum := ((6, 0, 0), 245, [.inr (.inr (.inl 214)), .inr (.inr (.inr 28))], ([], [], [(214, 3, 3, (0, 400, [(12, 0)]))]), ([], []), zl3)
set_option maxRecDepth 100000 in
theorem p2_s39_s {X : Int → Int} {LX : Nat} : ck_Ok p2_O X LX 81 p2_s39 := ck_ok_s (O := p2_O) (X := X) (LX := LX) (E := []) (mi := 81) (cuts := []) (f := 360) (S := p2_s39) (lx := none) (XF := []) ⟨p2_nmu, ck_E0⟩ ck_X0 ck_l0 (by decide +kernel)
set_option maxRecDepth 100000 in
/-- GlacierMail$Rows.isFull -/
noncomputable def p2_s40 : ck_Sum := ((0, 0, 0), 245, [.inr (.inr (.inl 25))], ([], [], []), ([], []), [(.inr (some (.inl (ck_one 0))), 245, ([], [], [(25, 3, 3, (0, 5, []))])), (.inr (some (.inl (ck_one 1))), 245, ([], [], [(25, 3, 3, ck_one 6)]))])
set_option maxRecDepth 100000 in
theorem p2_s40_s {X : Int → Int} {LX : Nat} : ck_Ok p2_O X LX 108 p2_s40 := ck_ok_s (O := p2_O) (X := X) (LX := LX) (E := []) (mi := 108) (cuts := []) (f := 86) (S := p2_s40) (lx := none) (XF := []) ⟨p2_nmu, ck_E0⟩ ck_X0 ck_l0 (by decide +kernel)
set_option maxRecDepth 100000 in
/-- GlacierMail$Rows.add -/
noncomputable def p2_s41 : ck_Sum := ((0, 0, 0), 245, [.inr (.inr (.inl 25))], ([], [], []), ([(25, 3, 3)], []), [(.inr (some (.inl (0, 5, []))), 245, ([], [], [(25, 3, 3, (1, 6, []))])), (.inr (some (.inl (ck_one (-1)))), 245, ([], [], [(25, 3, 3, ck_one 6)]))])
set_option maxRecDepth 100000 in
theorem p2_s41_s {X : Int → Int} {LX : Nat} : ck_Ok p2_O X LX 102 p2_s41 := ck_ok_s (O := p2_O) (X := X) (LX := LX) (E := []) (mi := 102) (cuts := []) (f := 102) (S := p2_s41) (lx := none) (XF := []) ⟨p2_nmu, ck_E0⟩ ck_X0 ck_l0 (by decide +kernel)
set_option maxRecDepth 100000 in
/-- GlacierMail$Words.needNumber -/
noncomputable def p2_s42 : ck_Sum := ((2, 0, 0), 245, [.inr (.inr (.inl 214)), .inl (ck_one 0), .inl (ck_one 20)], ([], [], [(214, 3, 3, (0, 400, [(12, 0)]))]), ([(214, 3, 7)], []), [(.inr (some (.inl (ck_one (-1)))), 245, ([], [], zl7)), (.inr (some (.inl (0, 20, []))), 245, ([], [], [(214, 3, 3, (0, 400, [(1000012, 0)]))]))])
set_option maxRecDepth 100000 in
theorem p2_s42_s {X : Int → Int} {LX : Nat} : ck_Ok p2_O X LX 94 p2_s42 := ck_ok_s (O := p2_O) (X := X) (LX := LX) (E := [(93, [p2_s28]), (76, [p2_s26])]) (mi := 94) (cuts := []) (f := 106) (S := p2_s42) (lx := none) (XF := []) ⟨p2_nmu, ck_E1 (ck_S1 p2_s28_s ck_S0) (ck_E1 (ck_S1 p2_s26_s ck_S0) ck_E0)⟩ ck_X0 ck_l0 (by decide +kernel)
set_option maxRecDepth 100000 in
/-- GlacierMail$Rows.put -/
noncomputable def p2_s43 : ck_Sum := ((0, 0, 0), 245, [.inr (.inr (.inl 25)), .inl (0, 5, []), .inl (0, 5, []), .inl (0, 20, [])], ([], [], []), ([(26, 0, 35)], []), [(.inr none, 245, ([], [], []))])
set_option maxRecDepth 100000 in
theorem p2_s43_s {X : Int → Int} {LX : Nat} : ck_Ok p2_O X LX 45 p2_s43 := ck_ok_s (O := p2_O) (X := X) (LX := LX) (E := []) (mi := 45) (cuts := []) (f := 116) (S := p2_s43) (lx := none) (XF := []) ⟨p2_nmu, ck_E0⟩ ck_X0 ck_l0 (by decide +kernel)
set_option maxRecDepth 100000 in
/-- GlacierMail$ValleyReader.readSpeeds -/
noncomputable def p2_s44 : ck_Sum := ((3, 0, 0), 245, [.inr (.inr (.inl 213)), .inr (.inr (.inl 25)), .inl (0, 5, []), .inl (ck_one 0)], ([], [], [(214, 3, 3, (0, 400, [(12, 0)]))]), ([(26, 0, 35), (214, 3, 7)], []), zl8)
set_option maxRecDepth 100000 in
theorem p2_s44_s {X : Int → Int} {LX : Nat} : ck_Ok p2_O X LX 109 p2_s44 := ck_ok_s (O := p2_O) (X := X) (LX := LX) (E := [(94, [p2_s42]), (45, [p2_s43])]) (mi := 109) (cuts := [(3, [some (.inr (.inr (.inl 213))), some (.inr (.inr (.inl 25))), some (.inl (0, 5, [])), some (.inl (ck_one 0)), some (.inl (0, 6, [])), none], ([], [], [(214, 3, 3, (0, 400, [(1000012, 0)]))]), 100, .inl 4, true)]) (f := 186) (S := p2_s44) (lx := none) (XF := []) ⟨p2_nmu, ck_E1 (ck_S1 p2_s42_s ck_S0) (ck_E1 (ck_S1 p2_s43_s ck_S0) ck_E0)⟩ ck_X0 ck_l0 (by decide +kernel)
set_option maxRecDepth 100000 in
/-- GlacierMail$Rows.put -/
noncomputable def p2_s45 : ck_Sum := ((0, 0, 0), 245, [.inr (.inr (.inl 25)), .inl (ck_one (-1)), .inl (0, 5, []), .inl (0, 20, [])], ([], [], []), ([], []), [(.inr none, 245, ([], [], []))])
set_option maxRecDepth 100000 in
theorem p2_s45_s {X : Int → Int} {LX : Nat} : ck_Ok p2_O X LX 45 p2_s45 := ck_ok_s (O := p2_O) (X := X) (LX := LX) (E := []) (mi := 45) (cuts := []) (f := 76) (S := p2_s45) (lx := none) (XF := []) ⟨p2_nmu, ck_E0⟩ ck_X0 ck_l0 (by decide +kernel)
set_option maxRecDepth 100000 in
/-- GlacierMail$ValleyReader.readSpeeds -/
noncomputable def p2_s46 : ck_Sum := ((3, 0, 0), 245, [.inr (.inr (.inl 213)), .inr (.inr (.inl 25)), .inl (ck_one (-1)), .inl (ck_one 0)], ([], [], [(214, 3, 3, (0, 400, [(12, 0)]))]), ([(214, 3, 7)], []), zl8)
set_option maxRecDepth 100000 in
theorem p2_s46_s {X : Int → Int} {LX : Nat} : ck_Ok p2_O X LX 109 p2_s46 := ck_ok_s (O := p2_O) (X := X) (LX := LX) (E := [(94, [p2_s42]), (45, [p2_s45])]) (mi := 109) (cuts := [(3, [some (.inr (.inr (.inl 213))), some (.inr (.inr (.inl 25))), some (.inl (ck_one (-1))), some (.inl (ck_one 0)), some (.inl (0, 6, [])), none], ([], [], [(214, 3, 3, (0, 400, [(1000012, 0)]))]), 100, .inl 4, true)]) (f := 186) (S := p2_s46) (lx := none) (XF := []) ⟨p2_nmu, ck_E1 (ck_S1 p2_s42_s ck_S0) (ck_E1 (ck_S1 p2_s45_s ck_S0) ck_E0)⟩ ck_X0 ck_l0 (by decide +kernel)
set_option maxRecDepth 100000 in
/-- GlacierMail$ValleyReader.readTable -/
noncomputable def p2_s47 : ck_Sum := ((4, 0, 0), 245, [.inr (.inr (.inl 213))], ([], [], [(214, 3, 3, (0, 400, [(12, 0)]))]), ([(25, 3, 3), (26, 0, 35), (214, 3, 7)], []), [(.inr (some (.inl (ck_one 1))), 245, ([], [], zl9)), (.inr (some (.inl (ck_one 0))), 245, ([], [], zl10))])
set_option maxRecDepth 100000 in
theorem p2_s47_s {X : Int → Int} {LX : Nat} : ck_Ok p2_O X LX 120 p2_s47 := ck_ok_s (O := p2_O) (X := X) (LX := LX) (E := [(108, [p2_s40]), (76, [p2_s26]), (102, [p2_s41]), (109, [p2_s44, p2_s46]), (93, [p2_s28])]) (mi := 120) (cuts := []) (f := 108) (S := p2_s47) (lx := none) (XF := []) ⟨p2_nmu, ck_E1 (ck_S1 p2_s40_s ck_S0) (ck_E1 (ck_S1 p2_s26_s ck_S0) (ck_E1 (ck_S1 p2_s41_s ck_S0) (ck_E1 (ck_S1 p2_s44_s (ck_S1 p2_s46_s ck_S0)) (ck_E1 (ck_S1 p2_s28_s ck_S0) ck_E0))))⟩ ck_X0 ck_l0 (by decide +kernel)
set_option maxRecDepth 100000 in
/-- GlacierMail$Rows.isFull -/
noncomputable def p2_s48 : ck_Sum := ((0, 0, 0), 245, [.inr (.inr (.inl 23))], ([], [], []), ([], []), [(.inr (some (.inl (ck_one 0))), 245, ([], [], [(23, 3, 3, (0, 23, []))])), (.inr (some (.inl (ck_one 1))), 245, ([], [], [(23, 3, 3, ck_one 24)]))])
set_option maxRecDepth 100000 in
theorem p2_s48_s {X : Int → Int} {LX : Nat} : ck_Ok p2_O X LX 108 p2_s48 := ck_ok_s (O := p2_O) (X := X) (LX := LX) (E := []) (mi := 108) (cuts := []) (f := 86) (S := p2_s48) (lx := none) (XF := []) ⟨p2_nmu, ck_E0⟩ ck_X0 ck_l0 (by decide +kernel)
set_option maxRecDepth 100000 in
/-- GlacierMail$Words.needNumber -/
noncomputable def p2_s49 : ck_Sum := ((2, 0, 0), 245, [.inr (.inr (.inl 214)), .inl (ck_one 0), .inl (0, 5, [])], ([], [], [(214, 3, 3, (0, 400, [(12, 0)]))]), ([(214, 3, 7)], []), zl11)
set_option maxRecDepth 100000 in
theorem p2_s49_s {X : Int → Int} {LX : Nat} : ck_Ok p2_O X LX 94 p2_s49 := ck_ok_s (O := p2_O) (X := X) (LX := LX) (E := [(93, [p2_s28]), (76, [p2_s26])]) (mi := 94) (cuts := []) (f := 106) (S := p2_s49) (lx := none) (XF := []) ⟨p2_nmu, ck_E1 (ck_S1 p2_s28_s ck_S0) (ck_E1 (ck_S1 p2_s26_s ck_S0) ck_E0)⟩ ck_X0 ck_l0 (by decide +kernel)
set_option maxRecDepth 100000 in
/-- GlacierMail$ValleyReader.readLane -/
noncomputable def p2_s50 : ck_Sum := ((3, 0, 0), 245, [.inr (.inr (.inl 213))], ([], [], [(214, 3, 3, (0, 400, [(12, 0)]))]), ([(214, 3, 7)], []), zl11)
set_option maxRecDepth 100000 in
theorem p2_s50_s {X : Int → Int} {LX : Nat} : ck_Ok p2_O X LX 117 p2_s50 := ck_ok_s (O := p2_O) (X := X) (LX := LX) (E := [(94, [p2_s49])]) (mi := 117) (cuts := []) (f := 90) (S := p2_s50) (lx := none) (XF := []) ⟨p2_nmu, ck_E1 (ck_S1 p2_s49_s ck_S0) ck_E0⟩ ck_X0 ck_l0 (by decide +kernel)
set_option maxRecDepth 100000 in
/-- GlacierMail$Words.needNumber -/
noncomputable def p2_s51 : ck_Sum := ((2, 0, 0), 245, [.inr (.inr (.inl 214)), .inl (ck_one 0), .inl (9, 98, [])], ([], [], [(214, 3, 3, (0, 400, [(12, 0)]))]), ([(214, 3, 7)], []), zl12)
set_option maxRecDepth 100000 in
theorem p2_s51_s {X : Int → Int} {LX : Nat} : ck_Ok p2_O X LX 94 p2_s51 := ck_ok_s (O := p2_O) (X := X) (LX := LX) (E := [(93, [p2_s28]), (76, [p2_s26])]) (mi := 94) (cuts := []) (f := 106) (S := p2_s51) (lx := none) (XF := []) ⟨p2_nmu, ck_E1 (ck_S1 p2_s28_s ck_S0) (ck_E1 (ck_S1 p2_s26_s ck_S0) ck_E0)⟩ ck_X0 ck_l0 (by decide +kernel)
set_option maxRecDepth 100000 in
/-- GlacierMail$ValleyReader.readRow -/
noncomputable def p2_s52 : ck_Sum := ((3, 0, 0), 245, [.inr (.inr (.inl 213))], ([], [], [(214, 3, 3, (0, 400, [(12, 0)]))]), ([(214, 3, 7)], []), zl12)
set_option maxRecDepth 100000 in
theorem p2_s52_s {X : Int → Int} {LX : Nat} : ck_Ok p2_O X LX 111 p2_s52 := ck_ok_s (O := p2_O) (X := X) (LX := LX) (E := [(94, [p2_s51])]) (mi := 111) (cuts := []) (f := 90) (S := p2_s52) (lx := none) (XF := []) ⟨p2_nmu, ck_E1 (ck_S1 p2_s51_s ck_S0) ck_E0⟩ ck_X0 ck_l0 (by decide +kernel)
set_option maxRecDepth 100000 in
/-- GlacierMail$Rows.add -/
noncomputable def p2_s53 : ck_Sum := ((0, 0, 0), 245, [.inr (.inr (.inl 23))], ([], [], []), ([(23, 3, 3)], []), zl13)
set_option maxRecDepth 100000 in
theorem p2_s53_s {X : Int → Int} {LX : Nat} : ck_Ok p2_O X LX 102 p2_s53 := ck_ok_s (O := p2_O) (X := X) (LX := LX) (E := []) (mi := 102) (cuts := []) (f := 102) (S := p2_s53) (lx := none) (XF := []) ⟨p2_nmu, ck_E0⟩ ck_X0 ck_l0 (by decide +kernel)
set_option maxRecDepth 100000 in
/-- GlacierMail$Rows.put -/
noncomputable def p2_s54 : ck_Sum := ((0, 0, 0), 245, [.inr (.inr (.inl 23)), .inl (0, 23, []), .inl (ck_one 0), .inl (ck_one (-1))], ([], [], []), (zl14, []), [(.inr none, 245, ([], [], []))])
set_option maxRecDepth 100000 in
theorem p2_s54_s {X : Int → Int} {LX : Nat} : ck_Ok p2_O X LX 45 p2_s54 := ck_ok_s (O := p2_O) (X := X) (LX := LX) (E := []) (mi := 45) (cuts := []) (f := 116) (S := p2_s54) (lx := none) (XF := []) ⟨p2_nmu, ck_E0⟩ ck_X0 ck_l0 (by decide +kernel)
set_option maxRecDepth 100000 in
/-- GlacierMail$Rows.put -/
noncomputable def p2_s55 : ck_Sum := ((0, 0, 0), 245, [.inr (.inr (.inl 23)), .inl (0, 23, []), .inl (ck_one 1), .inl (ck_one (-1))], ([], [], []), (zl15, []), [(.inr none, 245, ([], [], []))])
set_option maxRecDepth 100000 in
theorem p2_s55_s {X : Int → Int} {LX : Nat} : ck_Ok p2_O X LX 45 p2_s55 := ck_ok_s (O := p2_O) (X := X) (LX := LX) (E := []) (mi := 45) (cuts := []) (f := 116) (S := p2_s55) (lx := none) (XF := []) ⟨p2_nmu, ck_E0⟩ ck_X0 ck_l0 (by decide +kernel)
set_option maxRecDepth 100000 in
/-- GlacierMail$Rows.put -/
noncomputable def p2_s56 : ck_Sum := ((0, 0, 0), 245, [.inr (.inr (.inl 23)), .inl (0, 23, []), .inl (ck_one 2), .inl (0, 5, [])], ([], [], []), (zl16, []), [(.inr none, 245, ([], [], []))])
set_option maxRecDepth 100000 in
theorem p2_s56_s {X : Int → Int} {LX : Nat} : ck_Ok p2_O X LX 45 p2_s56 := ck_ok_s (O := p2_O) (X := X) (LX := LX) (E := []) (mi := 45) (cuts := []) (f := 116) (S := p2_s56) (lx := none) (XF := []) ⟨p2_nmu, ck_E0⟩ ck_X0 ck_l0 (by decide +kernel)
set_option maxRecDepth 100000 in
/-- GlacierMail$Rows.put -/
noncomputable def p2_s57 : ck_Sum := ((0, 0, 0), 245, [.inr (.inr (.inl 23)), .inl (0, 23, []), .inl (ck_one 3), .inl (0, 299, [])], ([], [], []), (zl17, []), [(.inr none, 245, ([], [], []))])
set_option maxRecDepth 100000 in
theorem p2_s57_s {X : Int → Int} {LX : Nat} : ck_Ok p2_O X LX 45 p2_s57 := ck_ok_s (O := p2_O) (X := X) (LX := LX) (E := []) (mi := 45) (cuts := []) (f := 116) (S := p2_s57) (lx := none) (XF := []) ⟨p2_nmu, ck_E0⟩ ck_X0 ck_l0 (by decide +kernel)
set_option maxRecDepth 100000 in
/-- GlacierMail$Rows.put -/
noncomputable def p2_s58 : ck_Sum := ((0, 0, 0), 245, [.inr (.inr (.inl 23)), .inl (0, 23, []), .inl (ck_one 4), .inl (0, 98, [])], ([], [], []), (zl18, []), [(.inr none, 245, ([], [], []))])
set_option maxRecDepth 100000 in
theorem p2_s58_s {X : Int → Int} {LX : Nat} : ck_Ok p2_O X LX 45 p2_s58 := ck_ok_s (O := p2_O) (X := X) (LX := LX) (E := []) (mi := 45) (cuts := []) (f := 116) (S := p2_s58) (lx := none) (XF := []) ⟨p2_nmu, ck_E0⟩ ck_X0 ck_l0 (by decide +kernel)
set_option maxRecDepth 100000 in
/-- GlacierMail$Rows.put -/
noncomputable def p2_s59 : ck_Sum := ((0, 0, 0), 245, [.inr (.inr (.inl 23)), .inl (0, 23, []), .inl (ck_one 5), .inl (ck_one (-1))], ([], [], []), (zl19, []), [(.inr none, 245, ([], [], []))])
set_option maxRecDepth 100000 in
theorem p2_s59_s {X : Int → Int} {LX : Nat} : ck_Ok p2_O X LX 45 p2_s59 := ck_ok_s (O := p2_O) (X := X) (LX := LX) (E := []) (mi := 45) (cuts := []) (f := 116) (S := p2_s59) (lx := none) (XF := []) ⟨p2_nmu, ck_E0⟩ ck_X0 ck_l0 (by decide +kernel)
set_option maxRecDepth 100000 in
/-- GlacierMail$Rows.put -/
noncomputable def p2_s60 : ck_Sum := ((0, 0, 0), 245, [.inr (.inr (.inl 23)), .inl (0, 23, []), .inl (ck_one 6), .inl (ck_one (-1))], ([], [], []), (zl20, []), [(.inr none, 245, ([], [], []))])
set_option maxRecDepth 100000 in
theorem p2_s60_s {X : Int → Int} {LX : Nat} : ck_Ok p2_O X LX 45 p2_s60 := ck_ok_s (O := p2_O) (X := X) (LX := LX) (E := []) (mi := 45) (cuts := []) (f := 116) (S := p2_s60) (lx := none) (XF := []) ⟨p2_nmu, ck_E0⟩ ck_X0 ck_l0 (by decide +kernel)
set_option maxRecDepth 100000 in
/-- GlacierMail$Rows.put -/
noncomputable def p2_s61 : ck_Sum := ((0, 0, 0), 245, [.inr (.inr (.inl 23)), .inl (ck_one (-1)), .inl (ck_one 0), .inl (ck_one (-1))], ([], [], []), ([], []), [(.inr none, 245, ([], [], []))])
set_option maxRecDepth 100000 in
theorem p2_s61_s {X : Int → Int} {LX : Nat} : ck_Ok p2_O X LX 45 p2_s61 := ck_ok_s (O := p2_O) (X := X) (LX := LX) (E := []) (mi := 45) (cuts := []) (f := 76) (S := p2_s61) (lx := none) (XF := []) ⟨p2_nmu, ck_E0⟩ ck_X0 ck_l0 (by decide +kernel)
set_option maxRecDepth 100000 in
/-- GlacierMail$Rows.put -/
noncomputable def p2_s62 : ck_Sum := ((0, 0, 0), 245, [.inr (.inr (.inl 23)), .inl (ck_one (-1)), .inl (ck_one 1), .inl (ck_one (-1))], ([], [], []), ([], []), [(.inr none, 245, ([], [], []))])
set_option maxRecDepth 100000 in
theorem p2_s62_s {X : Int → Int} {LX : Nat} : ck_Ok p2_O X LX 45 p2_s62 := ck_ok_s (O := p2_O) (X := X) (LX := LX) (E := []) (mi := 45) (cuts := []) (f := 76) (S := p2_s62) (lx := none) (XF := []) ⟨p2_nmu, ck_E0⟩ ck_X0 ck_l0 (by decide +kernel)
set_option maxRecDepth 100000 in
/-- GlacierMail$Rows.put -/
noncomputable def p2_s63 : ck_Sum := ((0, 0, 0), 245, [.inr (.inr (.inl 23)), .inl (ck_one (-1)), .inl (ck_one 2), .inl (0, 5, [])], ([], [], []), ([], []), [(.inr none, 245, ([], [], []))])
set_option maxRecDepth 100000 in
theorem p2_s63_s {X : Int → Int} {LX : Nat} : ck_Ok p2_O X LX 45 p2_s63 := ck_ok_s (O := p2_O) (X := X) (LX := LX) (E := []) (mi := 45) (cuts := []) (f := 76) (S := p2_s63) (lx := none) (XF := []) ⟨p2_nmu, ck_E0⟩ ck_X0 ck_l0 (by decide +kernel)
set_option maxRecDepth 100000 in
/-- GlacierMail$Rows.put -/
noncomputable def p2_s64 : ck_Sum := ((0, 0, 0), 245, [.inr (.inr (.inl 23)), .inl (ck_one (-1)), .inl (ck_one 3), .inl (0, 299, [])], ([], [], []), ([], []), [(.inr none, 245, ([], [], []))])
set_option maxRecDepth 100000 in
theorem p2_s64_s {X : Int → Int} {LX : Nat} : ck_Ok p2_O X LX 45 p2_s64 := ck_ok_s (O := p2_O) (X := X) (LX := LX) (E := []) (mi := 45) (cuts := []) (f := 76) (S := p2_s64) (lx := none) (XF := []) ⟨p2_nmu, ck_E0⟩ ck_X0 ck_l0 (by decide +kernel)
set_option maxRecDepth 100000 in
/-- GlacierMail$Rows.put -/
noncomputable def p2_s65 : ck_Sum := ((0, 0, 0), 245, [.inr (.inr (.inl 23)), .inl (ck_one (-1)), .inl (ck_one 4), .inl (0, 98, [])], ([], [], []), ([], []), [(.inr none, 245, ([], [], []))])
set_option maxRecDepth 100000 in
theorem p2_s65_s {X : Int → Int} {LX : Nat} : ck_Ok p2_O X LX 45 p2_s65 := ck_ok_s (O := p2_O) (X := X) (LX := LX) (E := []) (mi := 45) (cuts := []) (f := 76) (S := p2_s65) (lx := none) (XF := []) ⟨p2_nmu, ck_E0⟩ ck_X0 ck_l0 (by decide +kernel)
set_option maxRecDepth 100000 in
/-- GlacierMail$Rows.put -/
noncomputable def p2_s66 : ck_Sum := ((0, 0, 0), 245, [.inr (.inr (.inl 23)), .inl (ck_one (-1)), .inl (ck_one 5), .inl (ck_one (-1))], ([], [], []), ([], []), [(.inr none, 245, ([], [], []))])
set_option maxRecDepth 100000 in
theorem p2_s66_s {X : Int → Int} {LX : Nat} : ck_Ok p2_O X LX 45 p2_s66 := ck_ok_s (O := p2_O) (X := X) (LX := LX) (E := []) (mi := 45) (cuts := []) (f := 76) (S := p2_s66) (lx := none) (XF := []) ⟨p2_nmu, ck_E0⟩ ck_X0 ck_l0 (by decide +kernel)
set_option maxRecDepth 100000 in
/-- GlacierMail$Rows.put -/
noncomputable def p2_s67 : ck_Sum := ((0, 0, 0), 245, [.inr (.inr (.inl 23)), .inl (ck_one (-1)), .inl (ck_one 6), .inl (ck_one (-1))], ([], [], []), ([], []), [(.inr none, 245, ([], [], []))])
set_option maxRecDepth 100000 in
theorem p2_s67_s {X : Int → Int} {LX : Nat} : ck_Ok p2_O X LX 45 p2_s67 := ck_ok_s (O := p2_O) (X := X) (LX := LX) (E := []) (mi := 45) (cuts := []) (f := 76) (S := p2_s67) (lx := none) (XF := []) ⟨p2_nmu, ck_E0⟩ ck_X0 ck_l0 (by decide +kernel)
set_option maxRecDepth 100000 in
/-- GlacierMail$State.throwIn -/
noncomputable def p2_s68 : ck_Sum := ((1, 0, 0), 245, [.inr (.inr (.inl 16)), .inl (ck_one (-1)), .inl (ck_one (-1)), .inl (0, 5, []), .inl (0, 98, [])], ([], [], []), ([(23, 3, 3), (24, 0, 167)], []), zl13)
set_option maxRecDepth 100000 in
theorem p2_s68_s {X : Int → Int} {LX : Nat} : ck_Ok p2_O X LX 119 p2_s68 := ck_ok_s (O := p2_O) (X := X) (LX := LX) (E := [(102, [p2_s53]), (45, [p2_s54, p2_s55, p2_s56, p2_s57, p2_s58, p2_s59, p2_s60, p2_s61, p2_s62, p2_s63, p2_s64, p2_s65, p2_s66, p2_s67])]) (mi := 119) (cuts := []) (f := 168) (S := p2_s68) (lx := none) (XF := []) ⟨p2_nmu, ck_E1 (ck_S1 p2_s53_s ck_S0) (ck_E1 (ck_S1 p2_s54_s (ck_S1 p2_s55_s (ck_S1 p2_s56_s (ck_S1 p2_s57_s (ck_S1 p2_s58_s (ck_S1 p2_s59_s (ck_S1 p2_s60_s (ck_S1 p2_s61_s (ck_S1 p2_s62_s (ck_S1 p2_s63_s (ck_S1 p2_s64_s (ck_S1 p2_s65_s (ck_S1 p2_s66_s (ck_S1 p2_s67_s ck_S0)))))))))))))) ck_E0)⟩ ck_X0 ck_l0 (by decide +kernel)
set_option maxRecDepth 100000 in
/-- GlacierMail$ValleyReader.readRock -/
noncomputable def p2_s69 : ck_Sum := ((4, 0, 0), 245, [.inr (.inr (.inl 213))], ([], [], [(214, 3, 3, (0, 400, [(12, 0)]))]), ([(23, 3, 3), (24, 0, 167), (214, 3, 7)], []), [(.inr (some (.inl (ck_one 0))), 245, ([], [], zl21)), (.inr (some (.inl (ck_one 1))), 245, ([], [], zl22))])
set_option maxRecDepth 100000 in
theorem p2_s69_s {X : Int → Int} {LX : Nat} : ck_Ok p2_O X LX 118 p2_s69 := ck_ok_s (O := p2_O) (X := X) (LX := LX) (E := [(108, [p2_s48]), (76, [p2_s26]), (117, [p2_s50]), (111, [p2_s52]), (119, [p2_s68]), (93, [p2_s28])]) (mi := 118) (cuts := []) (f := 130) (S := p2_s69) (lx := none) (XF := []) ⟨p2_nmu, ck_E1 (ck_S1 p2_s48_s ck_S0) (ck_E1 (ck_S1 p2_s26_s ck_S0) (ck_E1 (ck_S1 p2_s50_s ck_S0) (ck_E1 (ck_S1 p2_s52_s ck_S0) (ck_E1 (ck_S1 p2_s68_s ck_S0) (ck_E1 (ck_S1 p2_s28_s ck_S0) ck_E0)))))⟩ ck_X0 ck_l0 (by decide +kernel)
set_option maxRecDepth 100000 in
/-- GlacierMail$Rows.isFull -/
noncomputable def p2_s70 : ck_Sum := ((0, 0, 0), 245, [.inr (.inr (.inl 21))], ([], [], []), ([], []), [(.inr (some (.inl (ck_one 0))), 245, ([], [], [(21, 3, 3, (0, 7, []))])), (.inr (some (.inl (ck_one 1))), 245, ([], [], [(21, 3, 3, ck_one 8)]))])
set_option maxRecDepth 100000 in
theorem p2_s70_s {X : Int → Int} {LX : Nat} : ck_Ok p2_O X LX 108 p2_s70 := ck_ok_s (O := p2_O) (X := X) (LX := LX) (E := []) (mi := 108) (cuts := []) (f := 86) (S := p2_s70) (lx := none) (XF := []) ⟨p2_nmu, ck_E0⟩ ck_X0 ck_l0 (by decide +kernel)
set_option maxRecDepth 100000 in
/-- GlacierMail$Words.isWord -/
noncomputable def p2_s71 : ck_Sum := ((6, 0, 0), 245, [.inr (.inr (.inl 214)), .inr (.inr (.inr 26))], ([], [], [(214, 3, 3, (0, 400, [(12, 0)]))]), ([], []), zl3)
set_option maxRecDepth 100000 in
theorem p2_s71_s {X : Int → Int} {LX : Nat} : ck_Ok p2_O X LX 81 p2_s71 := ck_ok_s (O := p2_O) (X := X) (LX := LX) (E := []) (mi := 81) (cuts := []) (f := 360) (S := p2_s71) (lx := none) (XF := []) ⟨p2_nmu, ck_E0⟩ ck_X0 ck_l0 (by decide +kernel)
set_option maxRecDepth 100000 in
/-- GlacierMail$Words.takeWord -/
noncomputable def p2_s72 : ck_Sum := ((7, 0, 0), 245, [.inr (.inr (.inl 214)), .inr (.inr (.inr 26))], ([], [], [(214, 3, 3, (0, 400, [(12, 0)]))]), ([(214, 3, 4), (214, 6, 7)], []), [(.inr (some (.inl (ck_one 0))), 245, ([], [], [(214, 3, 3, (0, 400, [(12, 0)]))])), (.inr (some (.inl (ck_one 1))), 245, ([], [], [(214, 3, 3, (5, 400, [(1000012, 0)]))]))])
set_option maxRecDepth 100000 in
theorem p2_s72_s {X : Int → Int} {LX : Nat} : ck_Ok p2_O X LX 95 p2_s72 := ck_ok_s (O := p2_O) (X := X) (LX := LX) (E := [(81, [p2_s71]), (76, [p2_s26])]) (mi := 95) (cuts := []) (f := 90) (S := p2_s72) (lx := none) (XF := []) ⟨p2_nmu, ck_E1 (ck_S1 p2_s71_s ck_S0) (ck_E1 (ck_S1 p2_s26_s ck_S0) ck_E0)⟩ ck_X0 ck_l0 (by decide +kernel)
set_option maxRecDepth 100000 in
/-- GlacierMail$Rows.add -/
noncomputable def p2_s73 : ck_Sum := ((0, 0, 0), 245, [.inr (.inr (.inl 21))], ([], [], []), ([(21, 3, 3)], []), [(.inr (some (.inl (0, 7, []))), 245, ([], [], [(21, 3, 3, (1, 8, []))])), (.inr (some (.inl (ck_one (-1)))), 245, ([], [], [(21, 3, 3, ck_one 8)]))])
set_option maxRecDepth 100000 in
theorem p2_s73_s {X : Int → Int} {LX : Nat} : ck_Ok p2_O X LX 102 p2_s73 := ck_ok_s (O := p2_O) (X := X) (LX := LX) (E := []) (mi := 102) (cuts := []) (f := 102) (S := p2_s73) (lx := none) (XF := []) ⟨p2_nmu, ck_E0⟩ ck_X0 ck_l0 (by decide +kernel)
set_option maxRecDepth 100000 in
/-- GlacierMail$Rows.put -/
noncomputable def p2_s74 : ck_Sum := ((0, 0, 0), 245, [.inr (.inr (.inl 21)), .inl (0, 7, []), .inl (ck_one 0), .inl (0, 5, [])], ([], [], []), (zl23, []), [(.inr none, 245, ([], [], []))])
set_option maxRecDepth 100000 in
theorem p2_s74_s {X : Int → Int} {LX : Nat} : ck_Ok p2_O X LX 45 p2_s74 := ck_ok_s (O := p2_O) (X := X) (LX := LX) (E := []) (mi := 45) (cuts := []) (f := 116) (S := p2_s74) (lx := none) (XF := []) ⟨p2_nmu, ck_E0⟩ ck_X0 ck_l0 (by decide +kernel)
set_option maxRecDepth 100000 in
/-- GlacierMail$Rows.put -/
noncomputable def p2_s75 : ck_Sum := ((0, 0, 0), 245, [.inr (.inr (.inl 21)), .inl (0, 7, []), .inl (ck_one 1), .inl (0, 98, [])], ([], [], []), (zl24, []), [(.inr none, 245, ([], [], []))])
set_option maxRecDepth 100000 in
theorem p2_s75_s {X : Int → Int} {LX : Nat} : ck_Ok p2_O X LX 45 p2_s75 := ck_ok_s (O := p2_O) (X := X) (LX := LX) (E := []) (mi := 45) (cuts := []) (f := 116) (S := p2_s75) (lx := none) (XF := []) ⟨p2_nmu, ck_E0⟩ ck_X0 ck_l0 (by decide +kernel)
set_option maxRecDepth 100000 in
/-- GlacierMail$Rows.put -/
noncomputable def p2_s76 : ck_Sum := ((0, 0, 0), 245, [.inr (.inr (.inl 21)), .inl (0, 7, []), .inl (ck_one 2), .inl (ck_one (-1))], ([], [], []), (zl25, []), [(.inr none, 245, ([], [], []))])
set_option maxRecDepth 100000 in
theorem p2_s76_s {X : Int → Int} {LX : Nat} : ck_Ok p2_O X LX 45 p2_s76 := ck_ok_s (O := p2_O) (X := X) (LX := LX) (E := []) (mi := 45) (cuts := []) (f := 116) (S := p2_s76) (lx := none) (XF := []) ⟨p2_nmu, ck_E0⟩ ck_X0 ck_l0 (by decide +kernel)
set_option maxRecDepth 100000 in
/-- GlacierMail$Rows.put -/
noncomputable def p2_s77 : ck_Sum := ((0, 0, 0), 245, [.inr (.inr (.inl 21)), .inl (ck_one (-1)), .inl (ck_one 0), .inl (0, 5, [])], ([], [], []), ([], []), [(.inr none, 245, ([], [], []))])
set_option maxRecDepth 100000 in
theorem p2_s77_s {X : Int → Int} {LX : Nat} : ck_Ok p2_O X LX 45 p2_s77 := ck_ok_s (O := p2_O) (X := X) (LX := LX) (E := []) (mi := 45) (cuts := []) (f := 76) (S := p2_s77) (lx := none) (XF := []) ⟨p2_nmu, ck_E0⟩ ck_X0 ck_l0 (by decide +kernel)
set_option maxRecDepth 100000 in
/-- GlacierMail$Rows.put -/
noncomputable def p2_s78 : ck_Sum := ((0, 0, 0), 245, [.inr (.inr (.inl 21)), .inl (ck_one (-1)), .inl (ck_one 1), .inl (0, 98, [])], ([], [], []), ([], []), [(.inr none, 245, ([], [], []))])
set_option maxRecDepth 100000 in
theorem p2_s78_s {X : Int → Int} {LX : Nat} : ck_Ok p2_O X LX 45 p2_s78 := ck_ok_s (O := p2_O) (X := X) (LX := LX) (E := []) (mi := 45) (cuts := []) (f := 76) (S := p2_s78) (lx := none) (XF := []) ⟨p2_nmu, ck_E0⟩ ck_X0 ck_l0 (by decide +kernel)
set_option maxRecDepth 100000 in
/-- GlacierMail$Rows.put -/
noncomputable def p2_s79 : ck_Sum := ((0, 0, 0), 245, [.inr (.inr (.inl 21)), .inl (ck_one (-1)), .inl (ck_one 2), .inl (ck_one (-1))], ([], [], []), ([], []), [(.inr none, 245, ([], [], []))])
set_option maxRecDepth 100000 in
theorem p2_s79_s {X : Int → Int} {LX : Nat} : ck_Ok p2_O X LX 45 p2_s79 := ck_ok_s (O := p2_O) (X := X) (LX := LX) (E := []) (mi := 45) (cuts := []) (f := 76) (S := p2_s79) (lx := none) (XF := []) ⟨p2_nmu, ck_E0⟩ ck_X0 ck_l0 (by decide +kernel)
set_option maxRecDepth 100000 in
/-- GlacierMail$Rows.put -/
noncomputable def p2_s80 : ck_Sum := ((0, 0, 0), 245, [.inr (.inr (.inl 21)), .inl (0, 7, []), .inl (ck_one 2), .inl (0, 5, [])], ([], [], []), (zl25, []), [(.inr none, 245, ([], [], []))])
set_option maxRecDepth 100000 in
theorem p2_s80_s {X : Int → Int} {LX : Nat} : ck_Ok p2_O X LX 45 p2_s80 := ck_ok_s (O := p2_O) (X := X) (LX := LX) (E := []) (mi := 45) (cuts := []) (f := 116) (S := p2_s80) (lx := none) (XF := []) ⟨p2_nmu, ck_E0⟩ ck_X0 ck_l0 (by decide +kernel)
set_option maxRecDepth 100000 in
/-- GlacierMail$Rows.put -/
noncomputable def p2_s81 : ck_Sum := ((0, 0, 0), 245, [.inr (.inr (.inl 21)), .inl (ck_one (-1)), .inl (ck_one 2), .inl (0, 5, [])], ([], [], []), ([], []), [(.inr none, 245, ([], [], []))])
set_option maxRecDepth 100000 in
theorem p2_s81_s {X : Int → Int} {LX : Nat} : ck_Ok p2_O X LX 45 p2_s81 := ck_ok_s (O := p2_O) (X := X) (LX := LX) (E := []) (mi := 45) (cuts := []) (f := 76) (S := p2_s81) (lx := none) (XF := []) ⟨p2_nmu, ck_E0⟩ ck_X0 ck_l0 (by decide +kernel)
set_option maxRecDepth 100000 in
/-- GlacierMail$ValleyReader.readPerson -/
noncomputable def p2_s82 : ck_Sum := ((8, 0, 0), 245, [.inr (.inr (.inl 213))], ([], [], [(214, 3, 3, (0, 400, [(12, 0)]))]), ([(21, 3, 3), (22, 0, 23), (214, 3, 7)], []), [(.inr (some (.inl (ck_one 0))), 245, ([], [], zl21)), (.inr (some (.inl (ck_one 1))), 245, ([], [], zl26))])
set_option maxRecDepth 100000 in
theorem p2_s82_s {X : Int → Int} {LX : Nat} : ck_Ok p2_O X LX 116 p2_s82 := ck_ok_s (O := p2_O) (X := X) (LX := LX) (E := [(108, [p2_s70]), (76, [p2_s26]), (117, [p2_s50]), (111, [p2_s52]), (95, [p2_s72]), (102, [p2_s73]), (45, [p2_s74, p2_s75, p2_s76, p2_s77, p2_s78, p2_s79, p2_s80, p2_s81]), (93, [p2_s28])]) (mi := 116) (cuts := []) (f := 192) (S := p2_s82) (lx := none) (XF := []) ⟨p2_nmu, ck_E1 (ck_S1 p2_s70_s ck_S0) (ck_E1 (ck_S1 p2_s26_s ck_S0) (ck_E1 (ck_S1 p2_s50_s ck_S0) (ck_E1 (ck_S1 p2_s52_s ck_S0) (ck_E1 (ck_S1 p2_s72_s ck_S0) (ck_E1 (ck_S1 p2_s73_s ck_S0) (ck_E1 (ck_S1 p2_s74_s (ck_S1 p2_s75_s (ck_S1 p2_s76_s (ck_S1 p2_s77_s (ck_S1 p2_s78_s (ck_S1 p2_s79_s (ck_S1 p2_s80_s (ck_S1 p2_s81_s ck_S0)))))))) (ck_E1 (ck_S1 p2_s28_s ck_S0) ck_E0)))))))⟩ ck_X0 ck_l0 (by decide +kernel)
set_option maxRecDepth 100000 in
/-- GlacierMail$Rows.isFull -/
noncomputable def p2_s83 : ck_Sum := ((0, 0, 0), 245, [.inr (.inr (.inl 19))], ([], [], []), ([], []), [(.inr (some (.inl (ck_one 0))), 245, ([], [], [(19, 3, 3, (0, 7, []))])), (.inr (some (.inl (ck_one 1))), 245, ([], [], [(19, 3, 3, ck_one 8)]))])
set_option maxRecDepth 100000 in
theorem p2_s83_s {X : Int → Int} {LX : Nat} : ck_Ok p2_O X LX 108 p2_s83 := ck_ok_s (O := p2_O) (X := X) (LX := LX) (E := []) (mi := 108) (cuts := []) (f := 86) (S := p2_s83) (lx := none) (XF := []) ⟨p2_nmu, ck_E0⟩ ck_X0 ck_l0 (by decide +kernel)
set_option maxRecDepth 100000 in
/-- GlacierMail$Words.needNumber -/
noncomputable def p2_s84 : ck_Sum := ((2, 0, 0), 245, [.inr (.inr (.inl 214)), .inl (0, 299, []), .inl (ck_one 299)], ([], [], [(214, 3, 3, (0, 400, [(12, 0)]))]), ([(214, 3, 7)], []), [(.inr (some (.inl (ck_one (-1)))), 245, ([], [], zl7)), (.inr (some (.inl (0, 299, []))), 245, ([], [], [(214, 3, 3, (0, 400, [(1000012, 0)]))]))])
set_option maxRecDepth 100000 in
theorem p2_s84_s {X : Int → Int} {LX : Nat} : ck_Ok p2_O X LX 94 p2_s84 := ck_ok_s (O := p2_O) (X := X) (LX := LX) (E := [(93, [p2_s28]), (76, [p2_s26])]) (mi := 94) (cuts := []) (f := 106) (S := p2_s84) (lx := none) (XF := []) ⟨p2_nmu, ck_E1 (ck_S1 p2_s28_s ck_S0) (ck_E1 (ck_S1 p2_s26_s ck_S0) ck_E0)⟩ ck_X0 ck_l0 (by decide +kernel)
set_option maxRecDepth 100000 in
/-- GlacierMail$Words.needNumber -/
noncomputable def p2_s85 : ck_Sum := ((2, 0, 0), 245, [.inr (.inr (.inl 214)), .inl (ck_one 1), .inl (ck_one 20)], ([], [], [(214, 3, 3, (0, 400, [(12, 0)]))]), ([(214, 3, 7)], []), [(.inr (some (.inl (ck_one (-1)))), 245, ([], [], zl7)), (.inr (some (.inl (1, 20, []))), 245, ([], [], [(214, 3, 3, (0, 400, [(1000012, 0)]))]))])
set_option maxRecDepth 100000 in
theorem p2_s85_s {X : Int → Int} {LX : Nat} : ck_Ok p2_O X LX 94 p2_s85 := ck_ok_s (O := p2_O) (X := X) (LX := LX) (E := [(93, [p2_s28]), (76, [p2_s26])]) (mi := 94) (cuts := []) (f := 106) (S := p2_s85) (lx := none) (XF := []) ⟨p2_nmu, ck_E1 (ck_S1 p2_s28_s ck_S0) (ck_E1 (ck_S1 p2_s26_s ck_S0) ck_E0)⟩ ck_X0 ck_l0 (by decide +kernel)
set_option maxRecDepth 100000 in
/-- GlacierMail$Rows.add -/
noncomputable def p2_s86 : ck_Sum := ((0, 0, 0), 245, [.inr (.inr (.inl 19))], ([], [], []), ([(19, 3, 3)], []), [(.inr (some (.inl (0, 7, []))), 245, ([], [], [(19, 3, 3, (1, 8, []))])), (.inr (some (.inl (ck_one (-1)))), 245, ([], [], [(19, 3, 3, ck_one 8)]))])
set_option maxRecDepth 100000 in
theorem p2_s86_s {X : Int → Int} {LX : Nat} : ck_Ok p2_O X LX 102 p2_s86 := ck_ok_s (O := p2_O) (X := X) (LX := LX) (E := []) (mi := 102) (cuts := []) (f := 102) (S := p2_s86) (lx := none) (XF := []) ⟨p2_nmu, ck_E0⟩ ck_X0 ck_l0 (by decide +kernel)
set_option maxRecDepth 100000 in
/-- GlacierMail$Rows.put -/
noncomputable def p2_s87 : ck_Sum := ((0, 0, 0), 245, [.inr (.inr (.inl 19)), .inl (0, 7, []), .inl (ck_one 0), .inl (0, 299, [])], ([], [], []), (zl27, []), [(.inr none, 245, ([], [], []))])
set_option maxRecDepth 100000 in
theorem p2_s87_s {X : Int → Int} {LX : Nat} : ck_Ok p2_O X LX 45 p2_s87 := ck_ok_s (O := p2_O) (X := X) (LX := LX) (E := []) (mi := 45) (cuts := []) (f := 116) (S := p2_s87) (lx := none) (XF := []) ⟨p2_nmu, ck_E0⟩ ck_X0 ck_l0 (by decide +kernel)
set_option maxRecDepth 100000 in
/-- GlacierMail$Rows.put -/
noncomputable def p2_s88 : ck_Sum := ((0, 0, 0), 245, [.inr (.inr (.inl 19)), .inl (0, 7, []), .inl (ck_one 1), .inl (0, 98, [])], ([], [], []), (zl28, []), [(.inr none, 245, ([], [], []))])
set_option maxRecDepth 100000 in
theorem p2_s88_s {X : Int → Int} {LX : Nat} : ck_Ok p2_O X LX 45 p2_s88 := ck_ok_s (O := p2_O) (X := X) (LX := LX) (E := []) (mi := 45) (cuts := []) (f := 116) (S := p2_s88) (lx := none) (XF := []) ⟨p2_nmu, ck_E0⟩ ck_X0 ck_l0 (by decide +kernel)
set_option maxRecDepth 100000 in
/-- GlacierMail$Rows.put -/
noncomputable def p2_s89 : ck_Sum := ((0, 0, 0), 245, [.inr (.inr (.inl 19)), .inl (0, 7, []), .inl (ck_one 2), .inl (1, 20, [])], ([], [], []), (zl29, []), [(.inr none, 245, ([], [], []))])
set_option maxRecDepth 100000 in
theorem p2_s89_s {X : Int → Int} {LX : Nat} : ck_Ok p2_O X LX 45 p2_s89 := ck_ok_s (O := p2_O) (X := X) (LX := LX) (E := []) (mi := 45) (cuts := []) (f := 116) (S := p2_s89) (lx := none) (XF := []) ⟨p2_nmu, ck_E0⟩ ck_X0 ck_l0 (by decide +kernel)
