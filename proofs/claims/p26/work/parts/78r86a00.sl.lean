/-! 78r86a00.sl -/
section
/-! EVERY CALL OF THE CLASS ENDS, under a law (laid by wip/am/p2l.py). -/
set_option maxRecDepth 100000 in
/-- GlacierMail.putNumber -/
def pl_s0 : ck_Sum := ((0, 0, 0), 249, [.inr (.inr (.inl 1)), .inl ((-2147483648), 2147483647, [])], ([], [], [(1, 1, 1, (0, 380, [(6, 0)]))]), ([(1, 1, 1), (2, 0, 383)], []), [(.inr none, 249, ([], [], [(1, 1, 1, (4, 384, [(6, 4)]))]))])
set_option maxRecDepth 100000 in
theorem pl_s0_s {X : Int → Int} {LX : Nat} : ck_Ok p2_OL X LX 20 pl_s0 := ck_ok_s (O := p2_OL) (X := X) (LX := LX) (E := []) (mi := 20) (cuts := []) (f := 280) (S := pl_s0) (lx := none) (XF := []) ⟨pl_nmu, ck_E0⟩ ck_X0 ck_l0 (by decide +kernel)
set_option maxRecDepth 100000 in
/-- GlacierMail.putNumber -/
def pl_s1 : ck_Sum := ((0, 0, 0), 249, [.inr (.inr (.inl 1)), .inl ((-2147483648), 2147483647, [])], ([], [], [(1, 1, 1, (4, 384, [(6, 0)]))]), ([(1, 1, 1), (2, 4, 387)], []), [(.inr none, 249, ([], [], [(1, 1, 1, (8, 388, [(6, 4)]))]))])
set_option maxRecDepth 100000 in
theorem pl_s1_s {X : Int → Int} {LX : Nat} : ck_Ok p2_OL X LX 20 pl_s1 := ck_ok_s (O := p2_OL) (X := X) (LX := LX) (E := []) (mi := 20) (cuts := []) (f := 280) (S := pl_s1) (lx := none) (XF := []) ⟨pl_nmu, ck_E0⟩ ck_X0 ck_l0 (by decide +kernel)
set_option maxRecDepth 100000 in
/-- GlacierMail.putNumber -/
def pl_s2 : ck_Sum := ((0, 0, 0), 249, [.inr (.inr (.inl 1)), .inl ((-2147483648), 2147483647, [])], ([], [], [(1, 1, 1, (8, 388, [(6, 0)]))]), ([(1, 1, 1), (2, 8, 391)], []), [(.inr none, 249, ([], [], [(1, 1, 1, (12, 392, [(6, 4)]))]))])
set_option maxRecDepth 100000 in
theorem pl_s2_s {X : Int → Int} {LX : Nat} : ck_Ok p2_OL X LX 20 pl_s2 := ck_ok_s (O := p2_OL) (X := X) (LX := LX) (E := []) (mi := 20) (cuts := []) (f := 280) (S := pl_s2) (lx := none) (XF := []) ⟨pl_nmu, ck_E0⟩ ck_X0 ck_l0 (by decide +kernel)
set_option maxRecDepth 100000 in
/-- GlacierMail.putNumber -/
def pl_s3 : ck_Sum := ((0, 0, 0), 249, [.inr (.inr (.inl 1)), .inl ((-2147483648), 2147483647, [])], ([], [], [(1, 1, 1, (12, 392, [(6, 0)]))]), ([(1, 1, 1), (2, 12, 395)], []), [(.inr none, 249, ([], [], [(1, 1, 1, (16, 396, [(6, 4)]))]))])
set_option maxRecDepth 100000 in
theorem pl_s3_s {X : Int → Int} {LX : Nat} : ck_Ok p2_OL X LX 20 pl_s3 := ck_ok_s (O := p2_OL) (X := X) (LX := LX) (E := []) (mi := 20) (cuts := []) (f := 280) (S := pl_s3) (lx := none) (XF := []) ⟨pl_nmu, ck_E0⟩ ck_X0 ck_l0 (by decide +kernel)
set_option maxRecDepth 100000 in
/-- GlacierMail.putNumber -/
def pl_s4 : ck_Sum := ((0, 0, 0), 249, [.inr (.inr (.inl 1)), .inl ((-2147483648), 2147483647, [])], ([], [], [(1, 1, 1, (16, 396, [(6, 0)]))]), ([(1, 1, 1), (2, 16, 399)], []), [(.inr none, 249, ([], [], [(1, 1, 1, (20, 400, [(6, 4)]))]))])
set_option maxRecDepth 100000 in
theorem pl_s4_s {X : Int → Int} {LX : Nat} : ck_Ok p2_OL X LX 20 pl_s4 := ck_ok_s (O := p2_OL) (X := X) (LX := LX) (E := []) (mi := 20) (cuts := []) (f := 280) (S := pl_s4) (lx := none) (XF := []) ⟨pl_nmu, ck_E0⟩ ck_X0 ck_l0 (by decide +kernel)
set_option maxRecDepth 100000 in
/-- GlacierMail.feed -/
def pl_s5 : ck_Sum := ((1, 0, 0), 249, [.inr (.inr (.inl 1)), .inl ((-2147483648), 2147483647, []), .inl ((-2147483648), 2147483647, []), .inl ((-2147483648), 2147483647, []), .inl ((-2147483648), 2147483647, []), .inl ((-2147483648), 2147483647, [])], ([], [], [(1, 1, 1, (0, 400, [(6, 0)]))]), ([(1, 1, 1), (2, 0, 399)], []), [(.inr (some (.inl (20, 400, [(6, 20)]))), 249, ([], [], [(1, 1, 1, (20, 400, [(6, 20)]))])), (.inr (some (.inl (ck_one (-1)))), 249, ([], [], [(1, 1, 1, (381, 400, [(6, 0)]))]))])
set_option maxRecDepth 100000 in
theorem pl_s5_s {X : Int → Int} {LX : Nat} : ck_Ok p2_OL X LX 19 pl_s5 := ck_ok_s (O := p2_OL) (X := X) (LX := LX) (E := [(20, [pl_s0, pl_s1, pl_s2, pl_s3, pl_s4])]) (mi := 19) (cuts := []) (f := 118) (S := pl_s5) (lx := none) (XF := []) ⟨pl_nmu, ck_E1 (ck_S1 pl_s0_s (ck_S1 pl_s1_s (ck_S1 pl_s2_s (ck_S1 pl_s3_s (ck_S1 pl_s4_s ck_S0))))) ck_E0⟩ ck_X0 ck_l0 (by decide +kernel)
set_option maxRecDepth 100000 in
/-- GlacierMail.end -/
def pl_s6 : ck_Sum := ((0, 0, 0), 249, [.inr (.inr (.inl 1)), .inl ((-2147483648), 2147483647, [])], ([], [], [(1, 1, 1, (0, 400, [(6, 0)]))]), ([(1, 1, 1)], []), [(.inr (some (.inl (ck_one 0))), 249, ([], [], [(1, 1, 1, (0, 400, [(6, 0)]))])), (.inr (some (.inl (ck_one 1))), 249, ([], [], []))])
set_option maxRecDepth 100000 in
theorem pl_s6_s {X : Int → Int} {LX : Nat} : ck_Ok p2_OL X LX 21 pl_s6 := ck_ok_s (O := p2_OL) (X := X) (LX := LX) (E := []) (mi := 21) (cuts := []) (f := 92) (S := pl_s6) (lx := none) (XF := []) ⟨pl_nmu, ck_E0⟩ ck_X0 ck_l0 (by decide +kernel)
set_option maxRecDepth 100000 in
/-- GlacierMail$Rows.copyFrom -/
def pl_s7 : ck_Sum := ((1, 0, 0), 249, [.inr (.inr (.inl 17)), .inr (.inr (.inl 4))], ([], [], []), ([(17, 3, 3), (18, 0, 55)], []), [(.inr none, 249, ([], [], []))])
set_option maxRecDepth 100000 in
theorem pl_s7_s {X : Int → Int} {LX : Nat} : ck_Ok p2_OL X LX 58 pl_s7 := ck_ok_s (O := p2_OL) (X := X) (LX := LX) (E := []) (mi := 58) (cuts := []) (f := 114) (S := pl_s7) (lx := none) (XF := []) ⟨pl_nmu, ck_E0⟩ ck_X0 ck_l0 (by decide +kernel)
set_option maxRecDepth 100000 in
/-- GlacierMail$Rows.copyFrom -/
def pl_s8 : ck_Sum := ((1, 0, 0), 249, [.inr (.inr (.inl 19)), .inr (.inr (.inl 6))], ([], [], []), ([(19, 3, 3), (20, 0, 23)], []), [(.inr none, 249, ([], [], []))])
set_option maxRecDepth 100000 in
theorem pl_s8_s {X : Int → Int} {LX : Nat} : ck_Ok p2_OL X LX 58 pl_s8 := ck_ok_s (O := p2_OL) (X := X) (LX := LX) (E := []) (mi := 58) (cuts := []) (f := 114) (S := pl_s8) (lx := none) (XF := []) ⟨pl_nmu, ck_E0⟩ ck_X0 ck_l0 (by decide +kernel)
set_option maxRecDepth 100000 in
/-- GlacierMail$Rows.copyFrom -/
def pl_s9 : ck_Sum := ((1, 0, 0), 249, [.inr (.inr (.inl 21)), .inr (.inr (.inl 8))], ([], [], []), ([(21, 3, 3), (22, 0, 23)], []), [(.inr none, 249, ([], [], []))])
set_option maxRecDepth 100000 in
theorem pl_s9_s {X : Int → Int} {LX : Nat} : ck_Ok p2_OL X LX 58 pl_s9 := ck_ok_s (O := p2_OL) (X := X) (LX := LX) (E := []) (mi := 58) (cuts := []) (f := 114) (S := pl_s9) (lx := none) (XF := []) ⟨pl_nmu, ck_E0⟩ ck_X0 ck_l0 (by decide +kernel)
set_option maxRecDepth 100000 in
/-- GlacierMail$Rows.copyFrom -/
def pl_s10 : ck_Sum := ((1, 0, 0), 249, [.inr (.inr (.inl 23)), .inr (.inr (.inl 10))], ([], [], []), ([(23, 3, 3), (24, 0, 167)], []), [(.inr none, 249, ([], [], []))])
set_option maxRecDepth 100000 in
theorem pl_s10_s {X : Int → Int} {LX : Nat} : ck_Ok p2_OL X LX 58 pl_s10 := ck_ok_s (O := p2_OL) (X := X) (LX := LX) (E := []) (mi := 58) (cuts := []) (f := 114) (S := pl_s10) (lx := none) (XF := []) ⟨pl_nmu, ck_E0⟩ ck_X0 ck_l0 (by decide +kernel)
set_option maxRecDepth 100000 in
/-- GlacierMail$Rows.copyFrom -/
def pl_s11 : ck_Sum := ((1, 0, 0), 249, [.inr (.inr (.inl 25)), .inr (.inr (.inl 12))], ([], [], []), ([(25, 3, 3), (26, 0, 35)], []), [(.inr none, 249, ([], [], []))])
set_option maxRecDepth 100000 in
theorem pl_s11_s {X : Int → Int} {LX : Nat} : ck_Ok p2_OL X LX 58 pl_s11 := ck_ok_s (O := p2_OL) (X := X) (LX := LX) (E := []) (mi := 58) (cuts := []) (f := 114) (S := pl_s11) (lx := none) (XF := []) ⟨pl_nmu, ck_E0⟩ ck_X0 ck_l0 (by decide +kernel)
set_option maxRecDepth 100000 in
/-- GlacierMail$Rows.copyFrom -/
def pl_s12 : ck_Sum := ((1, 0, 0), 249, [.inr (.inr (.inl 27)), .inr (.inr (.inl 14))], ([], [], []), ([(27, 3, 3), (28, 0, 71)], []), [(.inr none, 249, ([], [], []))])
set_option maxRecDepth 100000 in
theorem pl_s12_s {X : Int → Int} {LX : Nat} : ck_Ok p2_OL X LX 58 pl_s12 := ck_ok_s (O := p2_OL) (X := X) (LX := LX) (E := []) (mi := 58) (cuts := []) (f := 114) (S := pl_s12) (lx := none) (XF := []) ⟨pl_nmu, ck_E0⟩ ck_X0 ck_l0 (by decide +kernel)
set_option maxRecDepth 100000 in
/-- GlacierMail$State.copyFrom -/
def pl_s13 : ck_Sum := ((2, 0, 0), 249, [.inr (.inr (.inl 16)), .inr (.inr (.inl 3))], ([], [(3, 8, 246), (16, 8, 100016)], [(3, 6, 6, (0, 299, [(10, 0)]))]), (zl0, [(16, 8)]), [(.inr none, 249, ([], [(16, 8, 246)], [(16, 6, 6, (0, 299, [(10, 0)]))]))])
set_option maxRecDepth 100000 in
theorem pl_s13_s {X : Int → Int} {LX : Nat} : ck_Ok p2_OL X LX 57 pl_s13 := ck_ok_s (O := p2_OL) (X := X) (LX := LX) (E := [(58, [pl_s7, pl_s8, pl_s9, pl_s10, pl_s11, pl_s12])]) (mi := 57) (cuts := []) (f := 204) (S := pl_s13) (lx := none) (XF := []) ⟨pl_nmu, ck_E1 (ck_S1 pl_s7_s (ck_S1 pl_s8_s (ck_S1 pl_s9_s (ck_S1 pl_s10_s (ck_S1 pl_s11_s (ck_S1 pl_s12_s ck_S0)))))) ck_E0⟩ ck_X0 ck_l0 (by decide +kernel)
set_option maxRecDepth 100000 in
/-- GlacierMail$Rows.copyFrom -/
def pl_s14 : ck_Sum := ((1, 0, 0), 249, [.inr (.inr (.inl 4)), .inr (.inr (.inl 17))], ([], [], []), ([(4, 3, 3), (5, 0, 55)], []), [(.inr none, 249, ([], [], []))])
set_option maxRecDepth 100000 in
theorem pl_s14_s {X : Int → Int} {LX : Nat} : ck_Ok p2_OL X LX 58 pl_s14 := ck_ok_s (O := p2_OL) (X := X) (LX := LX) (E := []) (mi := 58) (cuts := []) (f := 114) (S := pl_s14) (lx := none) (XF := []) ⟨pl_nmu, ck_E0⟩ ck_X0 ck_l0 (by decide +kernel)
set_option maxRecDepth 100000 in
/-- GlacierMail$Rows.copyFrom -/
def pl_s15 : ck_Sum := ((1, 0, 0), 249, [.inr (.inr (.inl 6)), .inr (.inr (.inl 19))], ([], [], []), ([(6, 3, 3), (7, 0, 23)], []), [(.inr none, 249, ([], [], []))])
set_option maxRecDepth 100000 in
theorem pl_s15_s {X : Int → Int} {LX : Nat} : ck_Ok p2_OL X LX 58 pl_s15 := ck_ok_s (O := p2_OL) (X := X) (LX := LX) (E := []) (mi := 58) (cuts := []) (f := 114) (S := pl_s15) (lx := none) (XF := []) ⟨pl_nmu, ck_E0⟩ ck_X0 ck_l0 (by decide +kernel)
set_option maxRecDepth 100000 in
/-- GlacierMail$Rows.copyFrom -/
def pl_s16 : ck_Sum := ((1, 0, 0), 249, [.inr (.inr (.inl 8)), .inr (.inr (.inl 21))], ([], [], []), ([(8, 3, 3), (9, 0, 23)], []), [(.inr none, 249, ([], [], []))])
set_option maxRecDepth 100000 in
theorem pl_s16_s {X : Int → Int} {LX : Nat} : ck_Ok p2_OL X LX 58 pl_s16 := ck_ok_s (O := p2_OL) (X := X) (LX := LX) (E := []) (mi := 58) (cuts := []) (f := 114) (S := pl_s16) (lx := none) (XF := []) ⟨pl_nmu, ck_E0⟩ ck_X0 ck_l0 (by decide +kernel)
set_option maxRecDepth 100000 in
/-- GlacierMail$Rows.copyFrom -/
def pl_s17 : ck_Sum := ((1, 0, 0), 249, [.inr (.inr (.inl 10)), .inr (.inr (.inl 23))], ([], [], []), ([(10, 3, 3), (11, 0, 167)], []), [(.inr none, 249, ([], [], []))])
set_option maxRecDepth 100000 in
theorem pl_s17_s {X : Int → Int} {LX : Nat} : ck_Ok p2_OL X LX 58 pl_s17 := ck_ok_s (O := p2_OL) (X := X) (LX := LX) (E := []) (mi := 58) (cuts := []) (f := 114) (S := pl_s17) (lx := none) (XF := []) ⟨pl_nmu, ck_E0⟩ ck_X0 ck_l0 (by decide +kernel)
set_option maxRecDepth 100000 in
/-- GlacierMail$Rows.copyFrom -/
def pl_s18 : ck_Sum := ((1, 0, 0), 249, [.inr (.inr (.inl 12)), .inr (.inr (.inl 25))], ([], [], []), ([(12, 3, 3), (13, 0, 35)], []), [(.inr none, 249, ([], [], []))])
set_option maxRecDepth 100000 in
theorem pl_s18_s {X : Int → Int} {LX : Nat} : ck_Ok p2_OL X LX 58 pl_s18 := ck_ok_s (O := p2_OL) (X := X) (LX := LX) (E := []) (mi := 58) (cuts := []) (f := 114) (S := pl_s18) (lx := none) (XF := []) ⟨pl_nmu, ck_E0⟩ ck_X0 ck_l0 (by decide +kernel)
set_option maxRecDepth 100000 in
/-- GlacierMail$Rows.copyFrom -/
def pl_s19 : ck_Sum := ((1, 0, 0), 249, [.inr (.inr (.inl 14)), .inr (.inr (.inl 27))], ([], [], []), ([(14, 3, 3), (15, 0, 71)], []), [(.inr none, 249, ([], [], []))])
set_option maxRecDepth 100000 in
theorem pl_s19_s {X : Int → Int} {LX : Nat} : ck_Ok p2_OL X LX 58 pl_s19 := ck_ok_s (O := p2_OL) (X := X) (LX := LX) (E := []) (mi := 58) (cuts := []) (f := 114) (S := pl_s19) (lx := none) (XF := []) ⟨pl_nmu, ck_E0⟩ ck_X0 ck_l0 (by decide +kernel)
set_option maxRecDepth 100000 in
/-- GlacierMail$State.copyFrom -/
def pl_s20 : ck_Sum := ((2, 0, 0), 249, [.inr (.inr (.inl 3)), .inr (.inr (.inl 16))], ([], [(3, 8, 246), (16, 8, 246)], []), (zl1, [(3, 8)]), [(.inr none, 249, ([], [(3, 8, 246)], []))])
set_option maxRecDepth 100000 in
theorem pl_s20_s {X : Int → Int} {LX : Nat} : ck_Ok p2_OL X LX 57 pl_s20 := ck_ok_s (O := p2_OL) (X := X) (LX := LX) (E := [(58, [pl_s14, pl_s15, pl_s16, pl_s17, pl_s18, pl_s19])]) (mi := 57) (cuts := []) (f := 204) (S := pl_s20) (lx := none) (XF := []) ⟨pl_nmu, ck_E1 (ck_S1 pl_s14_s (ck_S1 pl_s15_s (ck_S1 pl_s16_s (ck_S1 pl_s17_s (ck_S1 pl_s18_s (ck_S1 pl_s19_s ck_S0)))))) ck_E0⟩ ck_X0 ck_l0 (by decide +kernel)
set_option maxRecDepth 100000 in
/-- GlacierMail$ValleyReader.clear -/
def pl_s21 : ck_Sum := ((0, 0, 0), 249, [.inr (.inr (.inl 213))], ([], [], []), ([], []), [(.inr none, 249, ([], [], []))])
set_option maxRecDepth 100000 in
theorem pl_s21_s {X : Int → Int} {LX : Nat} : ck_Ok p2_OL X LX 74 pl_s21 := ck_ok_s (O := p2_OL) (X := X) (LX := LX) (E := []) (mi := 74) (cuts := []) (f := 72) (S := pl_s21) (lx := none) (XF := []) ⟨pl_nmu, ck_E0⟩ ck_X0 ck_l0 (by decide +kernel)
set_option maxRecDepth 100000 in
/-- GlacierMail$Words.isSmall -/
def pl_s22 : ck_Sum := ((0, 0, 0), 249, [.inl ((-128), 127, [])], ([], [], []), ([], []), [(.inr (some (.inl (ck_one 0))), 249, ([], [], [])), (.inr (some (.inl (ck_one 1))), 249, ([], [], []))])
set_option maxRecDepth 100000 in
theorem pl_s22_s {X : Int → Int} {LX : Nat} : ck_Ok p2_OL X LX 77 pl_s22 := ck_ok_s (O := p2_OL) (X := X) (LX := LX) (E := []) (mi := 77) (cuts := []) (f := 88) (S := pl_s22) (lx := none) (XF := []) ⟨pl_nmu, ck_E0⟩ ck_X0 ck_l0 (by decide +kernel)
set_option maxRecDepth 100000 in
/-- GlacierMail$Words.isDigit -/
def pl_s23 : ck_Sum := ((0, 0, 0), 249, [.inl ((-128), 127, [])], ([], [], []), ([], []), [(.inr (some (.inl (ck_one 0))), 249, ([], [], [])), (.inr (some (.inl (ck_one 1))), 249, ([], [], []))])
set_option maxRecDepth 100000 in
theorem pl_s23_s {X : Int → Int} {LX : Nat} : ck_Ok p2_OL X LX 78 pl_s23 := ck_ok_s (O := p2_OL) (X := X) (LX := LX) (E := []) (mi := 78) (cuts := []) (f := 88) (S := pl_s23) (lx := none) (XF := []) ⟨pl_nmu, ck_E0⟩ ck_X0 ck_l0 (by decide +kernel)
set_option maxRecDepth 100000 in
/-- GlacierMail$Words.next -/
def pl_s24 : ck_Sum := ((1, 0, 0), 249, [.inr (.inr (.inl 214))], ([], [], [(214, 3, 3, (0, 400, [(12, 0)]))]), ([(214, 3, 4), (214, 6, 7)], []), [(.inr none, 249, ([], [], [(214, 3, 3, (0, 400, [(1000012, 0)]))]))])
set_option maxRecDepth 100000 in
theorem pl_s24_e : ck_ok p2_OL none [] [(77, [pl_s22]), (78, [pl_s23])] 76 [(0, [some (.inr (.inr (.inl 214))), none], ([], [], [(214, 3, 3, (0, 400, [(1000012, 0)]))]), 100, .inr (214, 3), true), (160, [some (.inr (.inr (.inl 214))), none], ([], [], [(214, 6, 6, ck_one 258), (214, 2, 2, (1, 400, [])), (214, 3, 3, (0, 400, [(1000100, 0), (1000012, 0)])), (214, 4, 4, (0, 400, [(100, 0)]))]), 300, .inr (214, 3), true), (94, [some (.inr (.inr (.inl 214))), none], ([], [], [(214, 6, 6, ck_one 257), (214, 2, 2, (1, 400, [])), (214, 3, 3, (0, 400, [(1000100, 0), (1000012, 0)])), (214, 7, 7, ck_one (-1)), (214, 4, 4, (0, 400, [(100, 0), (1000012, 0)]))]), 500, .inr (214, 3), true)] 562 pl_s24 = true := by decide +kernel
theorem pl_s24_s {X : Int → Int} {LX : Nat} : ck_Ok p2_OL X LX 76 pl_s24 := ck_ok_s ⟨pl_nmu, ck_E1 (ck_S1 pl_s22_s ck_S0) (ck_E1 (ck_S1 pl_s23_s ck_S0) ck_E0)⟩ ck_X0 ck_l0 pl_s24_e
set_option maxRecDepth 100000 in
/-- GlacierMail$Words.start -/
def pl_s25 : ck_Sum := ((2, 0, 0), 249, [.inr (.inr (.inl 214)), .inl (0, 400, [])], ([], [], [(214, 3, 3, (0, 400, [(12, 0)]))]), ([(214, 2, 7)], []), [(.inr none, 249, ([], [], [(214, 5, 5, ck_one (-1))]))])
set_option maxRecDepth 100000 in
theorem pl_s25_s {X : Int → Int} {LX : Nat} : ck_Ok p2_OL X LX 75 pl_s25 := ck_ok_s (O := p2_OL) (X := X) (LX := LX) (E := [(76, [pl_s24])]) (mi := 75) (cuts := []) (f := 102) (S := pl_s25) (lx := none) (XF := []) ⟨pl_nmu, ck_E1 (ck_S1 pl_s24_s ck_S0) ck_E0⟩ ck_X0 ck_l0 (by decide +kernel)
set_option maxRecDepth 100000 in
/-- GlacierMail$Words.refuse -/
def pl_s26 : ck_Sum := ((0, 0, 0), 249, [.inr (.inr (.inl 214))], ([], [], []), ([(214, 5, 5)], []), [(.inr (some (.inl (ck_one 0))), 249, ([], [], [(214, 5, 5, (0, 400, []))]))])
set_option maxRecDepth 100000 in
theorem pl_s26_s {X : Int → Int} {LX : Nat} : ck_Ok p2_OL X LX 93 pl_s26 := ck_ok_s (O := p2_OL) (X := X) (LX := LX) (E := []) (mi := 93) (cuts := []) (f := 90) (S := pl_s26) (lx := none) (XF := []) ⟨pl_nmu, ck_E0⟩ ck_X0 ck_l0 (by decide +kernel)
set_option maxRecDepth 100000 in
/-- GlacierMail$Words.wrong -/
def pl_s27 : ck_Sum := ((0, 0, 0), 249, [.inr (.inr (.inl 214))], ([], [], []), ([], []), zl217)
set_option maxRecDepth 100000 in
theorem pl_s27_s {X : Int → Int} {LX : Nat} : ck_Ok p2_OL X LX 121 pl_s27 := ck_ok_s (O := p2_OL) (X := X) (LX := LX) (E := []) (mi := 121) (cuts := []) (f := 76) (S := pl_s27) (lx := none) (XF := []) ⟨pl_nmu, ck_E0⟩ ck_X0 ck_l0 (by decide +kernel)
set_option maxRecDepth 100000 in
/-- GlacierMail$Words.isWord -/
def pl_s28 : ck_Sum := ((6, 0, 0), 249, [.inr (.inr (.inl 214)), .inr (.inr (.inr 17))], ([], [], [(214, 3, 3, (0, 400, [(12, 0)]))]), ([], []), zl218)
set_option maxRecDepth 100000 in
theorem pl_s28_s {X : Int → Int} {LX : Nat} : ck_Ok p2_OL X LX 81 pl_s28 := ck_ok_s (O := p2_OL) (X := X) (LX := LX) (E := []) (mi := 81) (cuts := []) (f := 360) (S := pl_s28) (lx := none) (XF := []) ⟨pl_nmu, ck_E0⟩ ck_X0 ck_l0 (by decide +kernel)
set_option maxRecDepth 100000 in
/-- GlacierMail$Words.isWord -/
def pl_s29 : ck_Sum := ((6, 0, 0), 249, [.inr (.inr (.inl 214)), .inr (.inr (.inr 18))], ([], [], [(214, 3, 3, (0, 400, [(12, 0)]))]), ([], []), zl219)
set_option maxRecDepth 100000 in
theorem pl_s29_s {X : Int → Int} {LX : Nat} : ck_Ok p2_OL X LX 81 pl_s29 := ck_ok_s (O := p2_OL) (X := X) (LX := LX) (E := []) (mi := 81) (cuts := []) (f := 310) (S := pl_s29) (lx := none) (XF := []) ⟨pl_nmu, ck_E0⟩ ck_X0 ck_l0 (by decide +kernel)
set_option maxRecDepth 100000 in
/-- GlacierMail$Words.isWord -/
def pl_s30 : ck_Sum := ((6, 0, 0), 249, [.inr (.inr (.inl 214)), .inr (.inr (.inr 19))], ([], [], [(214, 3, 3, (0, 400, [(12, 0)]))]), ([], []), [(.inr (some (.inl (ck_one 0))), 249, ([], [], [])), (.inr (some (.inl (ck_one 1))), 249, ([], [], zl5))])
set_option maxRecDepth 100000 in
theorem pl_s30_s {X : Int → Int} {LX : Nat} : ck_Ok p2_OL X LX 81 pl_s30 := ck_ok_s (O := p2_OL) (X := X) (LX := LX) (E := []) (mi := 81) (cuts := []) (f := 460) (S := pl_s30) (lx := none) (XF := []) ⟨pl_nmu, ck_E0⟩ ck_X0 ck_l0 (by decide +kernel)
set_option maxRecDepth 100000 in
/-- GlacierMail$Words.isWord -/
def pl_s31 : ck_Sum := ((6, 0, 0), 249, [.inr (.inr (.inl 214)), .inr (.inr (.inr 20))], ([], [], [(214, 3, 3, (0, 400, [(12, 0)]))]), ([], []), zl219)
set_option maxRecDepth 100000 in
theorem pl_s31_s {X : Int → Int} {LX : Nat} : ck_Ok p2_OL X LX 81 pl_s31 := ck_ok_s (O := p2_OL) (X := X) (LX := LX) (E := []) (mi := 81) (cuts := []) (f := 310) (S := pl_s31) (lx := none) (XF := []) ⟨pl_nmu, ck_E0⟩ ck_X0 ck_l0 (by decide +kernel)
set_option maxRecDepth 100000 in
/-- GlacierMail$Words.isWord -/
def pl_s32 : ck_Sum := ((6, 0, 0), 249, [.inr (.inr (.inl 214)), .inr (.inr (.inr 22))], ([], [], [(214, 3, 3, (0, 400, [(12, 0)]))]), ([], []), zl220)
set_option maxRecDepth 100000 in
theorem pl_s32_s {X : Int → Int} {LX : Nat} : ck_Ok p2_OL X LX 81 pl_s32 := ck_ok_s (O := p2_OL) (X := X) (LX := LX) (E := []) (mi := 81) (cuts := []) (f := 410) (S := pl_s32) (lx := none) (XF := []) ⟨pl_nmu, ck_E0⟩ ck_X0 ck_l0 (by decide +kernel)
set_option maxRecDepth 100000 in
/-- GlacierMail$Words.isWord -/
def pl_s33 : ck_Sum := ((6, 0, 0), 249, [.inr (.inr (.inl 214)), .inr (.inr (.inr 23))], ([], [], [(214, 3, 3, (0, 400, [(12, 0)]))]), ([], []), zl219)
set_option maxRecDepth 100000 in
theorem pl_s33_s {X : Int → Int} {LX : Nat} : ck_Ok p2_OL X LX 81 pl_s33 := ck_ok_s (O := p2_OL) (X := X) (LX := LX) (E := []) (mi := 81) (cuts := []) (f := 310) (S := pl_s33) (lx := none) (XF := []) ⟨pl_nmu, ck_E0⟩ ck_X0 ck_l0 (by decide +kernel)
set_option maxRecDepth 100000 in
/-- GlacierMail$Words.isWord -/
def pl_s34 : ck_Sum := ((6, 0, 0), 249, [.inr (.inr (.inl 214)), .inr (.inr (.inr 24))], ([], [], [(214, 3, 3, (0, 400, [(12, 0)]))]), ([], []), zl218)
set_option maxRecDepth 100000 in
theorem pl_s34_s {X : Int → Int} {LX : Nat} : ck_Ok p2_OL X LX 81 pl_s34 := ck_ok_s (O := p2_OL) (X := X) (LX := LX) (E := []) (mi := 81) (cuts := []) (f := 360) (S := pl_s34) (lx := none) (XF := []) ⟨pl_nmu, ck_E0⟩ ck_X0 ck_l0 (by decide +kernel)
set_option maxRecDepth 100000 in
/-- GlacierMail$Words.isWord -/
def pl_s35 : ck_Sum := ((6, 0, 0), 249, [.inr (.inr (.inl 214)), .inr (.inr (.inr 25))], ([], [], [(214, 3, 3, (0, 400, [(12, 0)]))]), ([], []), zl220)
set_option maxRecDepth 100000 in
theorem pl_s35_s {X : Int → Int} {LX : Nat} : ck_Ok p2_OL X LX 81 pl_s35 := ck_ok_s (O := p2_OL) (X := X) (LX := LX) (E := []) (mi := 81) (cuts := []) (f := 410) (S := pl_s35) (lx := none) (XF := []) ⟨pl_nmu, ck_E0⟩ ck_X0 ck_l0 (by decide +kernel)
set_option maxRecDepth 100000 in
/-- GlacierMail$Words.isWord -/
def pl_s36 : ck_Sum := ((6, 0, 0), 249, [.inr (.inr (.inl 214)), .inr (.inr (.inr 27))], ([], [], [(214, 3, 3, (0, 400, [(12, 0)]))]), ([], []), zl219)
set_option maxRecDepth 100000 in
theorem pl_s36_s {X : Int → Int} {LX : Nat} : ck_Ok p2_OL X LX 81 pl_s36 := ck_ok_s (O := p2_OL) (X := X) (LX := LX) (E := []) (mi := 81) (cuts := []) (f := 310) (S := pl_s36) (lx := none) (XF := []) ⟨pl_nmu, ck_E0⟩ ck_X0 ck_l0 (by decide +kernel)
set_option maxRecDepth 100000 in
/-- GlacierMail$Words.isWord -/
def pl_s37 : ck_Sum := ((6, 0, 0), 249, [.inr (.inr (.inl 214)), .inr (.inr (.inr 28))], ([], [], [(214, 3, 3, (0, 400, [(12, 0)]))]), ([], []), zl218)
set_option maxRecDepth 100000 in
theorem pl_s37_s {X : Int → Int} {LX : Nat} : ck_Ok p2_OL X LX 81 pl_s37 := ck_ok_s (O := p2_OL) (X := X) (LX := LX) (E := []) (mi := 81) (cuts := []) (f := 360) (S := pl_s37) (lx := none) (XF := []) ⟨pl_nmu, ck_E0⟩ ck_X0 ck_l0 (by decide +kernel)
set_option maxRecDepth 100000 in
/-- GlacierMail$Rows.isFull -/
def pl_s38 : ck_Sum := ((0, 0, 0), 249, [.inr (.inr (.inl 25))], ([], [], []), ([], []), [(.inr (some (.inl (ck_one 0))), 249, ([], [], [(25, 3, 3, (0, 5, []))])), (.inr (some (.inl (ck_one 1))), 249, ([], [], [(25, 3, 3, ck_one 6)]))])
set_option maxRecDepth 100000 in
theorem pl_s38_s {X : Int → Int} {LX : Nat} : ck_Ok p2_OL X LX 108 pl_s38 := ck_ok_s (O := p2_OL) (X := X) (LX := LX) (E := []) (mi := 108) (cuts := []) (f := 86) (S := pl_s38) (lx := none) (XF := []) ⟨pl_nmu, ck_E0⟩ ck_X0 ck_l0 (by decide +kernel)
set_option maxRecDepth 100000 in
/-- GlacierMail$Rows.add -/
def pl_s39 : ck_Sum := ((0, 0, 0), 249, [.inr (.inr (.inl 25))], ([], [], []), ([(25, 3, 3)], []), [(.inr (some (.inl (0, 5, []))), 249, ([], [], [(25, 3, 3, (1, 6, []))])), (.inr (some (.inl (ck_one (-1)))), 249, ([], [], [(25, 3, 3, ck_one 6)]))])
set_option maxRecDepth 100000 in
theorem pl_s39_s {X : Int → Int} {LX : Nat} : ck_Ok p2_OL X LX 102 pl_s39 := ck_ok_s (O := p2_OL) (X := X) (LX := LX) (E := []) (mi := 102) (cuts := []) (f := 102) (S := pl_s39) (lx := none) (XF := []) ⟨pl_nmu, ck_E0⟩ ck_X0 ck_l0 (by decide +kernel)
set_option maxRecDepth 100000 in
/-- GlacierMail$Words.needNumber -/
def pl_s40 : ck_Sum := ((2, 0, 0), 249, [.inr (.inr (.inl 214)), .inl (ck_one 0), .inl (ck_one 20)], ([], [], [(214, 3, 3, (0, 400, [(12, 0)]))]), ([(214, 3, 7)], []), [(.inr (some (.inl (ck_one (-1)))), 249, ([], [], zl7)), (.inr (some (.inl (0, 20, []))), 249, ([], [], [(214, 3, 3, (0, 400, [(1000012, 0)]))]))])
set_option maxRecDepth 100000 in
theorem pl_s40_s {X : Int → Int} {LX : Nat} : ck_Ok p2_OL X LX 94 pl_s40 := ck_ok_s (O := p2_OL) (X := X) (LX := LX) (E := [(93, [pl_s26]), (76, [pl_s24])]) (mi := 94) (cuts := []) (f := 106) (S := pl_s40) (lx := none) (XF := []) ⟨pl_nmu, ck_E1 (ck_S1 pl_s26_s ck_S0) (ck_E1 (ck_S1 pl_s24_s ck_S0) ck_E0)⟩ ck_X0 ck_l0 (by decide +kernel)
set_option maxRecDepth 100000 in
/-- GlacierMail$Rows.put -/
def pl_s41 : ck_Sum := ((0, 0, 0), 249, [.inr (.inr (.inl 25)), .inl (0, 5, []), .inl (0, 5, []), .inl (0, 20, [])], ([], [], []), ([(26, 0, 35)], []), [(.inr none, 249, ([], [], []))])
set_option maxRecDepth 100000 in
theorem pl_s41_s {X : Int → Int} {LX : Nat} : ck_Ok p2_OL X LX 45 pl_s41 := ck_ok_s (O := p2_OL) (X := X) (LX := LX) (E := []) (mi := 45) (cuts := []) (f := 116) (S := pl_s41) (lx := none) (XF := []) ⟨pl_nmu, ck_E0⟩ ck_X0 ck_l0 (by decide +kernel)
set_option maxRecDepth 100000 in
/-- GlacierMail$ValleyReader.readSpeeds -/
def pl_s42 : ck_Sum := ((3, 0, 0), 249, [.inr (.inr (.inl 213)), .inr (.inr (.inl 25)), .inl (0, 5, []), .inl (ck_one 0)], ([], [], [(214, 3, 3, (0, 400, [(12, 0)]))]), ([(26, 0, 35), (214, 3, 7)], []), zl221)
set_option maxRecDepth 100000 in
theorem pl_s42_e : ck_ok p2_OL none [] [(94, [pl_s40]), (45, [pl_s41])] 109 [(3, [some (.inr (.inr (.inl 213))), some (.inr (.inr (.inl 25))), some (.inl (0, 5, [])), some (.inl (ck_one 0)), some (.inl (0, 6, [])), none], ([], [], [(214, 3, 3, (0, 400, [(1000012, 0)]))]), 100, .inl 4, true)] 186 pl_s42 = true := by decide +kernel
theorem pl_s42_s {X : Int → Int} {LX : Nat} : ck_Ok p2_OL X LX 109 pl_s42 := ck_ok_s ⟨pl_nmu, ck_E1 (ck_S1 pl_s40_s ck_S0) (ck_E1 (ck_S1 pl_s41_s ck_S0) ck_E0)⟩ ck_X0 ck_l0 pl_s42_e
set_option maxRecDepth 100000 in
/-- GlacierMail$Rows.put -/
def pl_s43 : ck_Sum := ((0, 0, 0), 249, [.inr (.inr (.inl 25)), .inl (ck_one (-1)), .inl (0, 5, []), .inl (0, 20, [])], ([], [], []), ([], []), [(.inr none, 249, ([], [], []))])
set_option maxRecDepth 100000 in
theorem pl_s43_s {X : Int → Int} {LX : Nat} : ck_Ok p2_OL X LX 45 pl_s43 := ck_ok_s (O := p2_OL) (X := X) (LX := LX) (E := []) (mi := 45) (cuts := []) (f := 76) (S := pl_s43) (lx := none) (XF := []) ⟨pl_nmu, ck_E0⟩ ck_X0 ck_l0 (by decide +kernel)
set_option maxRecDepth 100000 in
/-- GlacierMail$ValleyReader.readSpeeds -/
def pl_s44 : ck_Sum := ((3, 0, 0), 249, [.inr (.inr (.inl 213)), .inr (.inr (.inl 25)), .inl (ck_one (-1)), .inl (ck_one 0)], ([], [], [(214, 3, 3, (0, 400, [(12, 0)]))]), ([(214, 3, 7)], []), zl221)
set_option maxRecDepth 100000 in
theorem pl_s44_e : ck_ok p2_OL none [] [(94, [pl_s40]), (45, [pl_s43])] 109 [(3, [some (.inr (.inr (.inl 213))), some (.inr (.inr (.inl 25))), some (.inl (ck_one (-1))), some (.inl (ck_one 0)), some (.inl (0, 6, [])), none], ([], [], [(214, 3, 3, (0, 400, [(1000012, 0)]))]), 100, .inl 4, true)] 186 pl_s44 = true := by decide +kernel
theorem pl_s44_s {X : Int → Int} {LX : Nat} : ck_Ok p2_OL X LX 109 pl_s44 := ck_ok_s ⟨pl_nmu, ck_E1 (ck_S1 pl_s40_s ck_S0) (ck_E1 (ck_S1 pl_s43_s ck_S0) ck_E0)⟩ ck_X0 ck_l0 pl_s44_e
set_option maxRecDepth 100000 in
/-- GlacierMail$ValleyReader.readTable -/
def pl_s45 : ck_Sum := ((4, 0, 0), 249, [.inr (.inr (.inl 213))], ([], [], [(214, 3, 3, (0, 400, [(12, 0)]))]), ([(25, 3, 3), (26, 0, 35), (214, 3, 7)], []), [(.inr (some (.inl (ck_one 1))), 249, ([], [], zl9)), (.inr (some (.inl (ck_one 0))), 249, ([], [], zl10))])
set_option maxRecDepth 100000 in
theorem pl_s45_s {X : Int → Int} {LX : Nat} : ck_Ok p2_OL X LX 120 pl_s45 := ck_ok_s (O := p2_OL) (X := X) (LX := LX) (E := [(108, [pl_s38]), (76, [pl_s24]), (102, [pl_s39]), (109, [pl_s42, pl_s44]), (93, [pl_s26])]) (mi := 120) (cuts := []) (f := 108) (S := pl_s45) (lx := none) (XF := []) ⟨pl_nmu, ck_E1 (ck_S1 pl_s38_s ck_S0) (ck_E1 (ck_S1 pl_s24_s ck_S0) (ck_E1 (ck_S1 pl_s39_s ck_S0) (ck_E1 (ck_S1 pl_s42_s (ck_S1 pl_s44_s ck_S0)) (ck_E1 (ck_S1 pl_s26_s ck_S0) ck_E0))))⟩ ck_X0 ck_l0 (by decide +kernel)
set_option maxRecDepth 100000 in
/-- GlacierMail$Rows.isFull -/
def pl_s46 : ck_Sum := ((0, 0, 0), 249, [.inr (.inr (.inl 23))], ([], [], []), ([], []), [(.inr (some (.inl (ck_one 0))), 249, ([], [], [(23, 3, 3, (0, 23, []))])), (.inr (some (.inl (ck_one 1))), 249, ([], [], [(23, 3, 3, ck_one 24)]))])
set_option maxRecDepth 100000 in
theorem pl_s46_s {X : Int → Int} {LX : Nat} : ck_Ok p2_OL X LX 108 pl_s46 := ck_ok_s (O := p2_OL) (X := X) (LX := LX) (E := []) (mi := 108) (cuts := []) (f := 86) (S := pl_s46) (lx := none) (XF := []) ⟨pl_nmu, ck_E0⟩ ck_X0 ck_l0 (by decide +kernel)
set_option maxRecDepth 100000 in
/-- GlacierMail$Words.needNumber -/
def pl_s47 : ck_Sum := ((2, 0, 0), 249, [.inr (.inr (.inl 214)), .inl (ck_one 0), .inl (0, 5, [])], ([], [], [(214, 3, 3, (0, 400, [(12, 0)]))]), ([(214, 3, 7)], []), zl222)
set_option maxRecDepth 100000 in
theorem pl_s47_s {X : Int → Int} {LX : Nat} : ck_Ok p2_OL X LX 94 pl_s47 := ck_ok_s (O := p2_OL) (X := X) (LX := LX) (E := [(93, [pl_s26]), (76, [pl_s24])]) (mi := 94) (cuts := []) (f := 106) (S := pl_s47) (lx := none) (XF := []) ⟨pl_nmu, ck_E1 (ck_S1 pl_s26_s ck_S0) (ck_E1 (ck_S1 pl_s24_s ck_S0) ck_E0)⟩ ck_X0 ck_l0 (by decide +kernel)
set_option maxRecDepth 100000 in
/-- GlacierMail$ValleyReader.readLane -/
def pl_s48 : ck_Sum := ((3, 0, 0), 249, [.inr (.inr (.inl 213))], ([], [], [(214, 3, 3, (0, 400, [(12, 0)]))]), ([(214, 3, 7)], []), zl222)
set_option maxRecDepth 100000 in
theorem pl_s48_s {X : Int → Int} {LX : Nat} : ck_Ok p2_OL X LX 117 pl_s48 := ck_ok_s (O := p2_OL) (X := X) (LX := LX) (E := [(94, [pl_s47])]) (mi := 117) (cuts := []) (f := 90) (S := pl_s48) (lx := none) (XF := []) ⟨pl_nmu, ck_E1 (ck_S1 pl_s47_s ck_S0) ck_E0⟩ ck_X0 ck_l0 (by decide +kernel)
set_option maxRecDepth 100000 in
/-- GlacierMail$Words.needNumber -/
def pl_s49 : ck_Sum := ((2, 0, 0), 249, [.inr (.inr (.inl 214)), .inl (ck_one 0), .inl (9, 98, [])], ([], [], [(214, 3, 3, (0, 400, [(12, 0)]))]), ([(214, 3, 7)], []), zl223)
set_option maxRecDepth 100000 in
theorem pl_s49_s {X : Int → Int} {LX : Nat} : ck_Ok p2_OL X LX 94 pl_s49 := ck_ok_s (O := p2_OL) (X := X) (LX := LX) (E := [(93, [pl_s26]), (76, [pl_s24])]) (mi := 94) (cuts := []) (f := 106) (S := pl_s49) (lx := none) (XF := []) ⟨pl_nmu, ck_E1 (ck_S1 pl_s26_s ck_S0) (ck_E1 (ck_S1 pl_s24_s ck_S0) ck_E0)⟩ ck_X0 ck_l0 (by decide +kernel)
set_option maxRecDepth 100000 in
/-- GlacierMail$ValleyReader.readRow -/
def pl_s50 : ck_Sum := ((3, 0, 0), 249, [.inr (.inr (.inl 213))], ([], [], [(214, 3, 3, (0, 400, [(12, 0)]))]), ([(214, 3, 7)], []), zl223)
set_option maxRecDepth 100000 in
theorem pl_s50_s {X : Int → Int} {LX : Nat} : ck_Ok p2_OL X LX 111 pl_s50 := ck_ok_s (O := p2_OL) (X := X) (LX := LX) (E := [(94, [pl_s49])]) (mi := 111) (cuts := []) (f := 90) (S := pl_s50) (lx := none) (XF := []) ⟨pl_nmu, ck_E1 (ck_S1 pl_s49_s ck_S0) ck_E0⟩ ck_X0 ck_l0 (by decide +kernel)
set_option maxRecDepth 100000 in
/-- GlacierMail$Rows.add -/
def pl_s51 : ck_Sum := ((0, 0, 0), 249, [.inr (.inr (.inl 23))], ([], [], []), ([(23, 3, 3)], []), zl224)
set_option maxRecDepth 100000 in
theorem pl_s51_s {X : Int → Int} {LX : Nat} : ck_Ok p2_OL X LX 102 pl_s51 := ck_ok_s (O := p2_OL) (X := X) (LX := LX) (E := []) (mi := 102) (cuts := []) (f := 102) (S := pl_s51) (lx := none) (XF := []) ⟨pl_nmu, ck_E0⟩ ck_X0 ck_l0 (by decide +kernel)
set_option maxRecDepth 100000 in
/-- GlacierMail$Rows.put -/
def pl_s52 : ck_Sum := ((0, 0, 0), 249, [.inr (.inr (.inl 23)), .inl (0, 23, []), .inl (ck_one 0), .inl (ck_one (-1))], ([], [], []), (zl14, []), [(.inr none, 249, ([], [], []))])
set_option maxRecDepth 100000 in
theorem pl_s52_s {X : Int → Int} {LX : Nat} : ck_Ok p2_OL X LX 45 pl_s52 := ck_ok_s (O := p2_OL) (X := X) (LX := LX) (E := []) (mi := 45) (cuts := []) (f := 116) (S := pl_s52) (lx := none) (XF := []) ⟨pl_nmu, ck_E0⟩ ck_X0 ck_l0 (by decide +kernel)
set_option maxRecDepth 100000 in
/-- GlacierMail$Rows.put -/
def pl_s53 : ck_Sum := ((0, 0, 0), 249, [.inr (.inr (.inl 23)), .inl (0, 23, []), .inl (ck_one 1), .inl (ck_one (-1))], ([], [], []), (zl15, []), [(.inr none, 249, ([], [], []))])
set_option maxRecDepth 100000 in
theorem pl_s53_s {X : Int → Int} {LX : Nat} : ck_Ok p2_OL X LX 45 pl_s53 := ck_ok_s (O := p2_OL) (X := X) (LX := LX) (E := []) (mi := 45) (cuts := []) (f := 116) (S := pl_s53) (lx := none) (XF := []) ⟨pl_nmu, ck_E0⟩ ck_X0 ck_l0 (by decide +kernel)
set_option maxRecDepth 100000 in
/-- GlacierMail$Rows.put -/
def pl_s54 : ck_Sum := ((0, 0, 0), 249, [.inr (.inr (.inl 23)), .inl (0, 23, []), .inl (ck_one 2), .inl (0, 5, [])], ([], [], []), (zl16, []), [(.inr none, 249, ([], [], []))])
set_option maxRecDepth 100000 in
theorem pl_s54_s {X : Int → Int} {LX : Nat} : ck_Ok p2_OL X LX 45 pl_s54 := ck_ok_s (O := p2_OL) (X := X) (LX := LX) (E := []) (mi := 45) (cuts := []) (f := 116) (S := pl_s54) (lx := none) (XF := []) ⟨pl_nmu, ck_E0⟩ ck_X0 ck_l0 (by decide +kernel)
set_option maxRecDepth 100000 in
/-- GlacierMail$Rows.put -/
def pl_s55 : ck_Sum := ((0, 0, 0), 249, [.inr (.inr (.inl 23)), .inl (0, 23, []), .inl (ck_one 3), .inl (0, 299, [])], ([], [], []), (zl17, []), [(.inr none, 249, ([], [], []))])
set_option maxRecDepth 100000 in
theorem pl_s55_s {X : Int → Int} {LX : Nat} : ck_Ok p2_OL X LX 45 pl_s55 := ck_ok_s (O := p2_OL) (X := X) (LX := LX) (E := []) (mi := 45) (cuts := []) (f := 116) (S := pl_s55) (lx := none) (XF := []) ⟨pl_nmu, ck_E0⟩ ck_X0 ck_l0 (by decide +kernel)
set_option maxRecDepth 100000 in
/-- GlacierMail$Rows.put -/
def pl_s56 : ck_Sum := ((0, 0, 0), 249, [.inr (.inr (.inl 23)), .inl (0, 23, []), .inl (ck_one 4), .inl (0, 98, [])], ([], [], []), (zl18, []), [(.inr none, 249, ([], [], []))])
set_option maxRecDepth 100000 in
theorem pl_s56_s {X : Int → Int} {LX : Nat} : ck_Ok p2_OL X LX 45 pl_s56 := ck_ok_s (O := p2_OL) (X := X) (LX := LX) (E := []) (mi := 45) (cuts := []) (f := 116) (S := pl_s56) (lx := none) (XF := []) ⟨pl_nmu, ck_E0⟩ ck_X0 ck_l0 (by decide +kernel)
set_option maxRecDepth 100000 in
/-- GlacierMail$Rows.put -/
def pl_s57 : ck_Sum := ((0, 0, 0), 249, [.inr (.inr (.inl 23)), .inl (0, 23, []), .inl (ck_one 5), .inl (ck_one (-1))], ([], [], []), (zl19, []), [(.inr none, 249, ([], [], []))])
set_option maxRecDepth 100000 in
theorem pl_s57_s {X : Int → Int} {LX : Nat} : ck_Ok p2_OL X LX 45 pl_s57 := ck_ok_s (O := p2_OL) (X := X) (LX := LX) (E := []) (mi := 45) (cuts := []) (f := 116) (S := pl_s57) (lx := none) (XF := []) ⟨pl_nmu, ck_E0⟩ ck_X0 ck_l0 (by decide +kernel)
set_option maxRecDepth 100000 in
/-- GlacierMail$Rows.put -/
def pl_s58 : ck_Sum := ((0, 0, 0), 249, [.inr (.inr (.inl 23)), .inl (0, 23, []), .inl (ck_one 6), .inl (ck_one (-1))], ([], [], []), (zl20, []), [(.inr none, 249, ([], [], []))])
set_option maxRecDepth 100000 in
theorem pl_s58_s {X : Int → Int} {LX : Nat} : ck_Ok p2_OL X LX 45 pl_s58 := ck_ok_s (O := p2_OL) (X := X) (LX := LX) (E := []) (mi := 45) (cuts := []) (f := 116) (S := pl_s58) (lx := none) (XF := []) ⟨pl_nmu, ck_E0⟩ ck_X0 ck_l0 (by decide +kernel)
set_option maxRecDepth 100000 in
/-- GlacierMail$Rows.put -/
def pl_s59 : ck_Sum := ((0, 0, 0), 249, [.inr (.inr (.inl 23)), .inl (ck_one (-1)), .inl (ck_one 0), .inl (ck_one (-1))], ([], [], []), ([], []), [(.inr none, 249, ([], [], []))])
set_option maxRecDepth 100000 in
theorem pl_s59_s {X : Int → Int} {LX : Nat} : ck_Ok p2_OL X LX 45 pl_s59 := ck_ok_s (O := p2_OL) (X := X) (LX := LX) (E := []) (mi := 45) (cuts := []) (f := 76) (S := pl_s59) (lx := none) (XF := []) ⟨pl_nmu, ck_E0⟩ ck_X0 ck_l0 (by decide +kernel)
set_option maxRecDepth 100000 in
/-- GlacierMail$Rows.put -/
def pl_s60 : ck_Sum := ((0, 0, 0), 249, [.inr (.inr (.inl 23)), .inl (ck_one (-1)), .inl (ck_one 1), .inl (ck_one (-1))], ([], [], []), ([], []), [(.inr none, 249, ([], [], []))])
set_option maxRecDepth 100000 in
theorem pl_s60_s {X : Int → Int} {LX : Nat} : ck_Ok p2_OL X LX 45 pl_s60 := ck_ok_s (O := p2_OL) (X := X) (LX := LX) (E := []) (mi := 45) (cuts := []) (f := 76) (S := pl_s60) (lx := none) (XF := []) ⟨pl_nmu, ck_E0⟩ ck_X0 ck_l0 (by decide +kernel)
set_option maxRecDepth 100000 in
/-- GlacierMail$Rows.put -/
def pl_s61 : ck_Sum := ((0, 0, 0), 249, [.inr (.inr (.inl 23)), .inl (ck_one (-1)), .inl (ck_one 2), .inl (0, 5, [])], ([], [], []), ([], []), [(.inr none, 249, ([], [], []))])
set_option maxRecDepth 100000 in
theorem pl_s61_s {X : Int → Int} {LX : Nat} : ck_Ok p2_OL X LX 45 pl_s61 := ck_ok_s (O := p2_OL) (X := X) (LX := LX) (E := []) (mi := 45) (cuts := []) (f := 76) (S := pl_s61) (lx := none) (XF := []) ⟨pl_nmu, ck_E0⟩ ck_X0 ck_l0 (by decide +kernel)
set_option maxRecDepth 100000 in
/-- GlacierMail$Rows.put -/
def pl_s62 : ck_Sum := ((0, 0, 0), 249, [.inr (.inr (.inl 23)), .inl (ck_one (-1)), .inl (ck_one 3), .inl (0, 299, [])], ([], [], []), ([], []), [(.inr none, 249, ([], [], []))])
set_option maxRecDepth 100000 in
theorem pl_s62_s {X : Int → Int} {LX : Nat} : ck_Ok p2_OL X LX 45 pl_s62 := ck_ok_s (O := p2_OL) (X := X) (LX := LX) (E := []) (mi := 45) (cuts := []) (f := 76) (S := pl_s62) (lx := none) (XF := []) ⟨pl_nmu, ck_E0⟩ ck_X0 ck_l0 (by decide +kernel)
set_option maxRecDepth 100000 in
/-- GlacierMail$Rows.put -/
def pl_s63 : ck_Sum := ((0, 0, 0), 249, [.inr (.inr (.inl 23)), .inl (ck_one (-1)), .inl (ck_one 4), .inl (0, 98, [])], ([], [], []), ([], []), [(.inr none, 249, ([], [], []))])
set_option maxRecDepth 100000 in
theorem pl_s63_s {X : Int → Int} {LX : Nat} : ck_Ok p2_OL X LX 45 pl_s63 := ck_ok_s (O := p2_OL) (X := X) (LX := LX) (E := []) (mi := 45) (cuts := []) (f := 76) (S := pl_s63) (lx := none) (XF := []) ⟨pl_nmu, ck_E0⟩ ck_X0 ck_l0 (by decide +kernel)
set_option maxRecDepth 100000 in
/-- GlacierMail$Rows.put -/
def pl_s64 : ck_Sum := ((0, 0, 0), 249, [.inr (.inr (.inl 23)), .inl (ck_one (-1)), .inl (ck_one 5), .inl (ck_one (-1))], ([], [], []), ([], []), [(.inr none, 249, ([], [], []))])
set_option maxRecDepth 100000 in
theorem pl_s64_s {X : Int → Int} {LX : Nat} : ck_Ok p2_OL X LX 45 pl_s64 := ck_ok_s (O := p2_OL) (X := X) (LX := LX) (E := []) (mi := 45) (cuts := []) (f := 76) (S := pl_s64) (lx := none) (XF := []) ⟨pl_nmu, ck_E0⟩ ck_X0 ck_l0 (by decide +kernel)
set_option maxRecDepth 100000 in
/-- GlacierMail$Rows.put -/
def pl_s65 : ck_Sum := ((0, 0, 0), 249, [.inr (.inr (.inl 23)), .inl (ck_one (-1)), .inl (ck_one 6), .inl (ck_one (-1))], ([], [], []), ([], []), [(.inr none, 249, ([], [], []))])
set_option maxRecDepth 100000 in
theorem pl_s65_s {X : Int → Int} {LX : Nat} : ck_Ok p2_OL X LX 45 pl_s65 := ck_ok_s (O := p2_OL) (X := X) (LX := LX) (E := []) (mi := 45) (cuts := []) (f := 76) (S := pl_s65) (lx := none) (XF := []) ⟨pl_nmu, ck_E0⟩ ck_X0 ck_l0 (by decide +kernel)
set_option maxRecDepth 100000 in
/-- GlacierMail$State.throwIn -/
def pl_s66 : ck_Sum := ((1, 0, 0), 249, [.inr (.inr (.inl 16)), .inl (ck_one (-1)), .inl (ck_one (-1)), .inl (0, 5, []), .inl (0, 98, [])], ([], [], []), ([(23, 3, 3), (24, 0, 167)], []), zl224)
set_option maxRecDepth 100000 in
theorem pl_s66_s {X : Int → Int} {LX : Nat} : ck_Ok p2_OL X LX 119 pl_s66 := ck_ok_s (O := p2_OL) (X := X) (LX := LX) (E := [(102, [pl_s51]), (45, [pl_s52, pl_s53, pl_s54, pl_s55, pl_s56, pl_s57, pl_s58, pl_s59, pl_s60, pl_s61, pl_s62, pl_s63, pl_s64, pl_s65])]) (mi := 119) (cuts := []) (f := 168) (S := pl_s66) (lx := none) (XF := []) ⟨pl_nmu, ck_E1 (ck_S1 pl_s51_s ck_S0) (ck_E1 (ck_S1 pl_s52_s (ck_S1 pl_s53_s (ck_S1 pl_s54_s (ck_S1 pl_s55_s (ck_S1 pl_s56_s (ck_S1 pl_s57_s (ck_S1 pl_s58_s (ck_S1 pl_s59_s (ck_S1 pl_s60_s (ck_S1 pl_s61_s (ck_S1 pl_s62_s (ck_S1 pl_s63_s (ck_S1 pl_s64_s (ck_S1 pl_s65_s ck_S0)))))))))))))) ck_E0)⟩ ck_X0 ck_l0 (by decide +kernel)
set_option maxRecDepth 100000 in
/-- GlacierMail$ValleyReader.readRock -/
def pl_s67 : ck_Sum := ((4, 0, 0), 249, [.inr (.inr (.inl 213))], ([], [], [(214, 3, 3, (0, 400, [(12, 0)]))]), ([(23, 3, 3), (24, 0, 167), (214, 3, 7)], []), [(.inr (some (.inl (ck_one 0))), 249, ([], [], zl21)), (.inr (some (.inl (ck_one 1))), 249, ([], [], zl22))])
set_option maxRecDepth 100000 in
theorem pl_s67_s {X : Int → Int} {LX : Nat} : ck_Ok p2_OL X LX 118 pl_s67 := ck_ok_s (O := p2_OL) (X := X) (LX := LX) (E := [(108, [pl_s46]), (76, [pl_s24]), (117, [pl_s48]), (111, [pl_s50]), (119, [pl_s66]), (93, [pl_s26])]) (mi := 118) (cuts := []) (f := 130) (S := pl_s67) (lx := none) (XF := []) ⟨pl_nmu, ck_E1 (ck_S1 pl_s46_s ck_S0) (ck_E1 (ck_S1 pl_s24_s ck_S0) (ck_E1 (ck_S1 pl_s48_s ck_S0) (ck_E1 (ck_S1 pl_s50_s ck_S0) (ck_E1 (ck_S1 pl_s66_s ck_S0) (ck_E1 (ck_S1 pl_s26_s ck_S0) ck_E0)))))⟩ ck_X0 ck_l0 (by decide +kernel)
set_option maxRecDepth 100000 in
/-- GlacierMail$Rows.isFull -/
def pl_s68 : ck_Sum := ((0, 0, 0), 249, [.inr (.inr (.inl 21))], ([], [], []), ([], []), [(.inr (some (.inl (ck_one 0))), 249, ([], [], [(21, 3, 3, (0, 7, []))])), (.inr (some (.inl (ck_one 1))), 249, ([], [], [(21, 3, 3, ck_one 8)]))])
set_option maxRecDepth 100000 in
theorem pl_s68_s {X : Int → Int} {LX : Nat} : ck_Ok p2_OL X LX 108 pl_s68 := ck_ok_s (O := p2_OL) (X := X) (LX := LX) (E := []) (mi := 108) (cuts := []) (f := 86) (S := pl_s68) (lx := none) (XF := []) ⟨pl_nmu, ck_E0⟩ ck_X0 ck_l0 (by decide +kernel)
set_option maxRecDepth 100000 in
/-- GlacierMail$Words.isWord -/
def pl_s69 : ck_Sum := ((6, 0, 0), 249, [.inr (.inr (.inl 214)), .inr (.inr (.inr 26))], ([], [], [(214, 3, 3, (0, 400, [(12, 0)]))]), ([], []), zl218)
set_option maxRecDepth 100000 in
theorem pl_s69_s {X : Int → Int} {LX : Nat} : ck_Ok p2_OL X LX 81 pl_s69 := ck_ok_s (O := p2_OL) (X := X) (LX := LX) (E := []) (mi := 81) (cuts := []) (f := 360) (S := pl_s69) (lx := none) (XF := []) ⟨pl_nmu, ck_E0⟩ ck_X0 ck_l0 (by decide +kernel)
set_option maxRecDepth 100000 in
/-- GlacierMail$Words.takeWord -/
def pl_s70 : ck_Sum := ((7, 0, 0), 249, [.inr (.inr (.inl 214)), .inr (.inr (.inr 26))], ([], [], [(214, 3, 3, (0, 400, [(12, 0)]))]), ([(214, 3, 4), (214, 6, 7)], []), [(.inr (some (.inl (ck_one 0))), 249, ([], [], [(214, 3, 3, (0, 400, [(12, 0)]))])), (.inr (some (.inl (ck_one 1))), 249, ([], [], [(214, 3, 3, (5, 400, [(1000012, 0)]))]))])
set_option maxRecDepth 100000 in
theorem pl_s70_s {X : Int → Int} {LX : Nat} : ck_Ok p2_OL X LX 95 pl_s70 := ck_ok_s (O := p2_OL) (X := X) (LX := LX) (E := [(81, [pl_s69]), (76, [pl_s24])]) (mi := 95) (cuts := []) (f := 90) (S := pl_s70) (lx := none) (XF := []) ⟨pl_nmu, ck_E1 (ck_S1 pl_s69_s ck_S0) (ck_E1 (ck_S1 pl_s24_s ck_S0) ck_E0)⟩ ck_X0 ck_l0 (by decide +kernel)
set_option maxRecDepth 100000 in
/-- GlacierMail$Rows.add -/
def pl_s71 : ck_Sum := ((0, 0, 0), 249, [.inr (.inr (.inl 21))], ([], [], []), ([(21, 3, 3)], []), [(.inr (some (.inl (0, 7, []))), 249, ([], [], [(21, 3, 3, (1, 8, []))])), (.inr (some (.inl (ck_one (-1)))), 249, ([], [], [(21, 3, 3, ck_one 8)]))])
set_option maxRecDepth 100000 in
theorem pl_s71_s {X : Int → Int} {LX : Nat} : ck_Ok p2_OL X LX 102 pl_s71 := ck_ok_s (O := p2_OL) (X := X) (LX := LX) (E := []) (mi := 102) (cuts := []) (f := 102) (S := pl_s71) (lx := none) (XF := []) ⟨pl_nmu, ck_E0⟩ ck_X0 ck_l0 (by decide +kernel)
set_option maxRecDepth 100000 in
/-- GlacierMail$Rows.put -/
def pl_s72 : ck_Sum := ((0, 0, 0), 249, [.inr (.inr (.inl 21)), .inl (0, 7, []), .inl (ck_one 0), .inl (0, 5, [])], ([], [], []), (zl23, []), [(.inr none, 249, ([], [], []))])
set_option maxRecDepth 100000 in
theorem pl_s72_s {X : Int → Int} {LX : Nat} : ck_Ok p2_OL X LX 45 pl_s72 := ck_ok_s (O := p2_OL) (X := X) (LX := LX) (E := []) (mi := 45) (cuts := []) (f := 116) (S := pl_s72) (lx := none) (XF := []) ⟨pl_nmu, ck_E0⟩ ck_X0 ck_l0 (by decide +kernel)
set_option maxRecDepth 100000 in
/-- GlacierMail$Rows.put -/
def pl_s73 : ck_Sum := ((0, 0, 0), 249, [.inr (.inr (.inl 21)), .inl (0, 7, []), .inl (ck_one 1), .inl (0, 98, [])], ([], [], []), (zl24, []), [(.inr none, 249, ([], [], []))])
set_option maxRecDepth 100000 in
theorem pl_s73_s {X : Int → Int} {LX : Nat} : ck_Ok p2_OL X LX 45 pl_s73 := ck_ok_s (O := p2_OL) (X := X) (LX := LX) (E := []) (mi := 45) (cuts := []) (f := 116) (S := pl_s73) (lx := none) (XF := []) ⟨pl_nmu, ck_E0⟩ ck_X0 ck_l0 (by decide +kernel)
set_option maxRecDepth 100000 in
/-- GlacierMail$Rows.put -/
def pl_s74 : ck_Sum := ((0, 0, 0), 249, [.inr (.inr (.inl 21)), .inl (0, 7, []), .inl (ck_one 2), .inl (ck_one (-1))], ([], [], []), (zl25, []), [(.inr none, 249, ([], [], []))])
set_option maxRecDepth 100000 in
theorem pl_s74_s {X : Int → Int} {LX : Nat} : ck_Ok p2_OL X LX 45 pl_s74 := ck_ok_s (O := p2_OL) (X := X) (LX := LX) (E := []) (mi := 45) (cuts := []) (f := 116) (S := pl_s74) (lx := none) (XF := []) ⟨pl_nmu, ck_E0⟩ ck_X0 ck_l0 (by decide +kernel)
set_option maxRecDepth 100000 in
/-- GlacierMail$Rows.put -/
def pl_s75 : ck_Sum := ((0, 0, 0), 249, [.inr (.inr (.inl 21)), .inl (ck_one (-1)), .inl (ck_one 0), .inl (0, 5, [])], ([], [], []), ([], []), [(.inr none, 249, ([], [], []))])
set_option maxRecDepth 100000 in
theorem pl_s75_s {X : Int → Int} {LX : Nat} : ck_Ok p2_OL X LX 45 pl_s75 := ck_ok_s (O := p2_OL) (X := X) (LX := LX) (E := []) (mi := 45) (cuts := []) (f := 76) (S := pl_s75) (lx := none) (XF := []) ⟨pl_nmu, ck_E0⟩ ck_X0 ck_l0 (by decide +kernel)
set_option maxRecDepth 100000 in
/-- GlacierMail$Rows.put -/
def pl_s76 : ck_Sum := ((0, 0, 0), 249, [.inr (.inr (.inl 21)), .inl (ck_one (-1)), .inl (ck_one 1), .inl (0, 98, [])], ([], [], []), ([], []), [(.inr none, 249, ([], [], []))])
set_option maxRecDepth 100000 in
theorem pl_s76_s {X : Int → Int} {LX : Nat} : ck_Ok p2_OL X LX 45 pl_s76 := ck_ok_s (O := p2_OL) (X := X) (LX := LX) (E := []) (mi := 45) (cuts := []) (f := 76) (S := pl_s76) (lx := none) (XF := []) ⟨pl_nmu, ck_E0⟩ ck_X0 ck_l0 (by decide +kernel)
set_option maxRecDepth 100000 in
/-- GlacierMail$Rows.put -/
def pl_s77 : ck_Sum := ((0, 0, 0), 249, [.inr (.inr (.inl 21)), .inl (ck_one (-1)), .inl (ck_one 2), .inl (ck_one (-1))], ([], [], []), ([], []), [(.inr none, 249, ([], [], []))])
set_option maxRecDepth 100000 in
theorem pl_s77_s {X : Int → Int} {LX : Nat} : ck_Ok p2_OL X LX 45 pl_s77 := ck_ok_s (O := p2_OL) (X := X) (LX := LX) (E := []) (mi := 45) (cuts := []) (f := 76) (S := pl_s77) (lx := none) (XF := []) ⟨pl_nmu, ck_E0⟩ ck_X0 ck_l0 (by decide +kernel)
set_option maxRecDepth 100000 in
/-- GlacierMail$Rows.put -/
def pl_s78 : ck_Sum := ((0, 0, 0), 249, [.inr (.inr (.inl 21)), .inl (0, 7, []), .inl (ck_one 2), .inl (0, 5, [])], ([], [], []), (zl25, []), [(.inr none, 249, ([], [], []))])
set_option maxRecDepth 100000 in
theorem pl_s78_s {X : Int → Int} {LX : Nat} : ck_Ok p2_OL X LX 45 pl_s78 := ck_ok_s (O := p2_OL) (X := X) (LX := LX) (E := []) (mi := 45) (cuts := []) (f := 116) (S := pl_s78) (lx := none) (XF := []) ⟨pl_nmu, ck_E0⟩ ck_X0 ck_l0 (by decide +kernel)
set_option maxRecDepth 100000 in
/-- GlacierMail$Rows.put -/
def pl_s79 : ck_Sum := ((0, 0, 0), 249, [.inr (.inr (.inl 21)), .inl (ck_one (-1)), .inl (ck_one 2), .inl (0, 5, [])], ([], [], []), ([], []), [(.inr none, 249, ([], [], []))])
set_option maxRecDepth 100000 in
theorem pl_s79_s {X : Int → Int} {LX : Nat} : ck_Ok p2_OL X LX 45 pl_s79 := ck_ok_s (O := p2_OL) (X := X) (LX := LX) (E := []) (mi := 45) (cuts := []) (f := 76) (S := pl_s79) (lx := none) (XF := []) ⟨pl_nmu, ck_E0⟩ ck_X0 ck_l0 (by decide +kernel)
set_option maxRecDepth 100000 in
/-- GlacierMail$ValleyReader.readPerson -/
def pl_s80 : ck_Sum := ((8, 0, 0), 249, [.inr (.inr (.inl 213))], ([], [], [(214, 3, 3, (0, 400, [(12, 0)]))]), ([(21, 3, 3), (22, 0, 23), (214, 3, 7)], []), [(.inr (some (.inl (ck_one 0))), 249, ([], [], zl21)), (.inr (some (.inl (ck_one 1))), 249, ([], [], zl26))])
set_option maxRecDepth 100000 in
theorem pl_s80_s {X : Int → Int} {LX : Nat} : ck_Ok p2_OL X LX 116 pl_s80 := ck_ok_s (O := p2_OL) (X := X) (LX := LX) (E := [(108, [pl_s68]), (76, [pl_s24]), (117, [pl_s48]), (111, [pl_s50]), (95, [pl_s70]), (102, [pl_s71]), (45, [pl_s72, pl_s73, pl_s74, pl_s75, pl_s76, pl_s77, pl_s78, pl_s79]), (93, [pl_s26])]) (mi := 116) (cuts := []) (f := 192) (S := pl_s80) (lx := none) (XF := []) ⟨pl_nmu, ck_E1 (ck_S1 pl_s68_s ck_S0) (ck_E1 (ck_S1 pl_s24_s ck_S0) (ck_E1 (ck_S1 pl_s48_s ck_S0) (ck_E1 (ck_S1 pl_s50_s ck_S0) (ck_E1 (ck_S1 pl_s70_s ck_S0) (ck_E1 (ck_S1 pl_s71_s ck_S0) (ck_E1 (ck_S1 pl_s72_s (ck_S1 pl_s73_s (ck_S1 pl_s74_s (ck_S1 pl_s75_s (ck_S1 pl_s76_s (ck_S1 pl_s77_s (ck_S1 pl_s78_s (ck_S1 pl_s79_s ck_S0)))))))) (ck_E1 (ck_S1 pl_s26_s ck_S0) ck_E0)))))))⟩ ck_X0 ck_l0 (by decide +kernel)
set_option maxRecDepth 100000 in
/-- GlacierMail$Rows.isFull -/
def pl_s81 : ck_Sum := ((0, 0, 0), 249, [.inr (.inr (.inl 19))], ([], [], []), ([], []), [(.inr (some (.inl (ck_one 0))), 249, ([], [], [(19, 3, 3, (0, 7, []))])), (.inr (some (.inl (ck_one 1))), 249, ([], [], [(19, 3, 3, ck_one 8)]))])
set_option maxRecDepth 100000 in
theorem pl_s81_s {X : Int → Int} {LX : Nat} : ck_Ok p2_OL X LX 108 pl_s81 := ck_ok_s (O := p2_OL) (X := X) (LX := LX) (E := []) (mi := 108) (cuts := []) (f := 86) (S := pl_s81) (lx := none) (XF := []) ⟨pl_nmu, ck_E0⟩ ck_X0 ck_l0 (by decide +kernel)
set_option maxRecDepth 100000 in
/-- GlacierMail$Words.needNumber -/
def pl_s82 : ck_Sum := ((2, 0, 0), 249, [.inr (.inr (.inl 214)), .inl (0, 299, []), .inl (ck_one 299)], ([], [], [(214, 3, 3, (0, 400, [(12, 0)]))]), ([(214, 3, 7)], []), [(.inr (some (.inl (ck_one (-1)))), 249, ([], [], zl7)), (.inr (some (.inl (0, 299, []))), 249, ([], [], [(214, 3, 3, (0, 400, [(1000012, 0)]))]))])
set_option maxRecDepth 100000 in
theorem pl_s82_s {X : Int → Int} {LX : Nat} : ck_Ok p2_OL X LX 94 pl_s82 := ck_ok_s (O := p2_OL) (X := X) (LX := LX) (E := [(93, [pl_s26]), (76, [pl_s24])]) (mi := 94) (cuts := []) (f := 106) (S := pl_s82) (lx := none) (XF := []) ⟨pl_nmu, ck_E1 (ck_S1 pl_s26_s ck_S0) (ck_E1 (ck_S1 pl_s24_s ck_S0) ck_E0)⟩ ck_X0 ck_l0 (by decide +kernel)
set_option maxRecDepth 100000 in
/-- GlacierMail$Words.needNumber -/
def pl_s83 : ck_Sum := ((2, 0, 0), 249, [.inr (.inr (.inl 214)), .inl (ck_one 1), .inl (ck_one 20)], ([], [], [(214, 3, 3, (0, 400, [(12, 0)]))]), ([(214, 3, 7)], []), [(.inr (some (.inl (ck_one (-1)))), 249, ([], [], zl7)), (.inr (some (.inl (1, 20, []))), 249, ([], [], [(214, 3, 3, (0, 400, [(1000012, 0)]))]))])
set_option maxRecDepth 100000 in
theorem pl_s83_s {X : Int → Int} {LX : Nat} : ck_Ok p2_OL X LX 94 pl_s83 := ck_ok_s (O := p2_OL) (X := X) (LX := LX) (E := [(93, [pl_s26]), (76, [pl_s24])]) (mi := 94) (cuts := []) (f := 106) (S := pl_s83) (lx := none) (XF := []) ⟨pl_nmu, ck_E1 (ck_S1 pl_s26_s ck_S0) (ck_E1 (ck_S1 pl_s24_s ck_S0) ck_E0)⟩ ck_X0 ck_l0 (by decide +kernel)
set_option maxRecDepth 100000 in
/-- GlacierMail$Rows.add -/
def pl_s84 : ck_Sum := ((0, 0, 0), 249, [.inr (.inr (.inl 19))], ([], [], []), ([(19, 3, 3)], []), [(.inr (some (.inl (0, 7, []))), 249, ([], [], [(19, 3, 3, (1, 8, []))])), (.inr (some (.inl (ck_one (-1)))), 249, ([], [], [(19, 3, 3, ck_one 8)]))])
set_option maxRecDepth 100000 in
theorem pl_s84_s {X : Int → Int} {LX : Nat} : ck_Ok p2_OL X LX 102 pl_s84 := ck_ok_s (O := p2_OL) (X := X) (LX := LX) (E := []) (mi := 102) (cuts := []) (f := 102) (S := pl_s84) (lx := none) (XF := []) ⟨pl_nmu, ck_E0⟩ ck_X0 ck_l0 (by decide +kernel)
set_option maxRecDepth 100000 in
/-- GlacierMail$Rows.put -/
def pl_s85 : ck_Sum := ((0, 0, 0), 249, [.inr (.inr (.inl 19)), .inl (0, 7, []), .inl (ck_one 0), .inl (0, 299, [])], ([], [], []), (zl27, []), [(.inr none, 249, ([], [], []))])
set_option maxRecDepth 100000 in
theorem pl_s85_s {X : Int → Int} {LX : Nat} : ck_Ok p2_OL X LX 45 pl_s85 := ck_ok_s (O := p2_OL) (X := X) (LX := LX) (E := []) (mi := 45) (cuts := []) (f := 116) (S := pl_s85) (lx := none) (XF := []) ⟨pl_nmu, ck_E0⟩ ck_X0 ck_l0 (by decide +kernel)
set_option maxRecDepth 100000 in
/-- GlacierMail$Rows.put -/
def pl_s86 : ck_Sum := ((0, 0, 0), 249, [.inr (.inr (.inl 19)), .inl (0, 7, []), .inl (ck_one 1), .inl (0, 98, [])], ([], [], []), (zl28, []), [(.inr none, 249, ([], [], []))])
set_option maxRecDepth 100000 in
theorem pl_s86_s {X : Int → Int} {LX : Nat} : ck_Ok p2_OL X LX 45 pl_s86 := ck_ok_s (O := p2_OL) (X := X) (LX := LX) (E := []) (mi := 45) (cuts := []) (f := 116) (S := pl_s86) (lx := none) (XF := []) ⟨pl_nmu, ck_E0⟩ ck_X0 ck_l0 (by decide +kernel)
set_option maxRecDepth 100000 in
/-- GlacierMail$Rows.put -/
def pl_s87 : ck_Sum := ((0, 0, 0), 249, [.inr (.inr (.inl 19)), .inl (0, 7, []), .inl (ck_one 2), .inl (1, 20, [])], ([], [], []), (zl29, []), [(.inr none, 249, ([], [], []))])
set_option maxRecDepth 100000 in
theorem pl_s87_s {X : Int → Int} {LX : Nat} : ck_Ok p2_OL X LX 45 pl_s87 := ck_ok_s (O := p2_OL) (X := X) (LX := LX) (E := []) (mi := 45) (cuts := []) (f := 116) (S := pl_s87) (lx := none) (XF := []) ⟨pl_nmu, ck_E0⟩ ck_X0 ck_l0 (by decide +kernel)
set_option maxRecDepth 100000 in
/-- GlacierMail$Rows.put -/
def pl_s88 : ck_Sum := ((0, 0, 0), 249, [.inr (.inr (.inl 19)), .inl (ck_one (-1)), .inl (ck_one 0), .inl (0, 299, [])], ([], [], []), ([], []), [(.inr none, 249, ([], [], []))])
set_option maxRecDepth 100000 in
theorem pl_s88_s {X : Int → Int} {LX : Nat} : ck_Ok p2_OL X LX 45 pl_s88 := ck_ok_s (O := p2_OL) (X := X) (LX := LX) (E := []) (mi := 45) (cuts := []) (f := 76) (S := pl_s88) (lx := none) (XF := []) ⟨pl_nmu, ck_E0⟩ ck_X0 ck_l0 (by decide +kernel)
set_option maxRecDepth 100000 in
/-- GlacierMail$Rows.put -/
def pl_s89 : ck_Sum := ((0, 0, 0), 249, [.inr (.inr (.inl 19)), .inl (ck_one (-1)), .inl (ck_one 1), .inl (0, 98, [])], ([], [], []), ([], []), [(.inr none, 249, ([], [], []))])
set_option maxRecDepth 100000 in
theorem pl_s89_s {X : Int → Int} {LX : Nat} : ck_Ok p2_OL X LX 45 pl_s89 := ck_ok_s (O := p2_OL) (X := X) (LX := LX) (E := []) (mi := 45) (cuts := []) (f := 76) (S := pl_s89) (lx := none) (XF := []) ⟨pl_nmu, ck_E0⟩ ck_X0 ck_l0 (by decide +kernel)
end
/-! 78r86a01.sl -/
section
/-! EVERY CALL OF THE CLASS ENDS, under a law (laid by wip/am/p2l.py). -/
set_option maxRecDepth 100000 in
/-- GlacierMail$Rows.put -/
def pl_s90 : ck_Sum := ((0, 0, 0), 249, [.inr (.inr (.inl 19)), .inl (ck_one (-1)), .inl (ck_one 2), .inl (1, 20, [])], ([], [], []), ([], []), [(.inr none, 249, ([], [], []))])
set_option maxRecDepth 100000 in
theorem pl_s90_s {X : Int → Int} {LX : Nat} : ck_Ok p2_OL X LX 45 pl_s90 := ck_ok_s (O := p2_OL) (X := X) (LX := LX) (E := []) (mi := 45) (cuts := []) (f := 76) (S := pl_s90) (lx := none) (XF := []) ⟨pl_nmu, ck_E0⟩ ck_X0 ck_l0 (by decide +kernel)
set_option maxRecDepth 100000 in
/-- GlacierMail$ValleyReader.readFlood -/
def pl_s91 : ck_Sum := ((4, 0, 0), 249, [.inr (.inr (.inl 213))], ([], [], [(214, 3, 3, (0, 400, [(12, 0)]))]), ([(19, 3, 3), (20, 0, 23), (214, 3, 7)], []), [(.inr (some (.inl (ck_one 0))), 249, ([], [], zl21)), (.inr (some (.inl (ck_one 1))), 249, ([], [], zl30))])
set_option maxRecDepth 100000 in
theorem pl_s91_s {X : Int → Int} {LX : Nat} : ck_Ok p2_OL X LX 115 pl_s91 := ck_ok_s (O := p2_OL) (X := X) (LX := LX) (E := [(108, [pl_s81]), (76, [pl_s24]), (94, [pl_s82, pl_s83]), (111, [pl_s50]), (102, [pl_s84]), (45, [pl_s85, pl_s86, pl_s87, pl_s88, pl_s89, pl_s90]), (93, [pl_s26])]) (mi := 115) (cuts := []) (f := 194) (S := pl_s91) (lx := none) (XF := []) ⟨pl_nmu, ck_E1 (ck_S1 pl_s81_s ck_S0) (ck_E1 (ck_S1 pl_s24_s ck_S0) (ck_E1 (ck_S1 pl_s82_s (ck_S1 pl_s83_s ck_S0)) (ck_E1 (ck_S1 pl_s50_s ck_S0) (ck_E1 (ck_S1 pl_s84_s ck_S0) (ck_E1 (ck_S1 pl_s85_s (ck_S1 pl_s86_s (ck_S1 pl_s87_s (ck_S1 pl_s88_s (ck_S1 pl_s89_s (ck_S1 pl_s90_s ck_S0)))))) (ck_E1 (ck_S1 pl_s26_s ck_S0) ck_E0))))))⟩ ck_X0 ck_l0 (by decide +kernel)
set_option maxRecDepth 100000 in
/-- GlacierMail$Words.needNumber -/
def pl_s92 : ck_Sum := ((2, 0, 0), 249, [.inr (.inr (.inl 214)), .inl (ck_one 0), .inl (ck_one 9999)], ([], [], [(214, 3, 3, (0, 400, [(12, 0)]))]), ([(214, 3, 7)], []), [(.inr (some (.inl (ck_one (-1)))), 249, ([], [], zl7)), (.inr (some (.inl (0, 9999, []))), 249, ([], [], [(214, 3, 3, (0, 400, [(1000012, 0)]))]))])
set_option maxRecDepth 100000 in
theorem pl_s92_s {X : Int → Int} {LX : Nat} : ck_Ok p2_OL X LX 94 pl_s92 := ck_ok_s (O := p2_OL) (X := X) (LX := LX) (E := [(93, [pl_s26]), (76, [pl_s24])]) (mi := 94) (cuts := []) (f := 106) (S := pl_s92) (lx := none) (XF := []) ⟨pl_nmu, ck_E1 (ck_S1 pl_s26_s ck_S0) (ck_E1 (ck_S1 pl_s24_s ck_S0) ck_E0)⟩ ck_X0 ck_l0 (by decide +kernel)
set_option maxRecDepth 100000 in
/-- GlacierMail$ValleyReader.readSeed -/
def pl_s93 : ck_Sum := ((3, 0, 0), 249, [.inr (.inr (.inl 213))], ([], [], [(214, 3, 3, (0, 400, [(12, 0)]))]), ([(16, 5, 5), (214, 3, 7)], []), zl225)
set_option maxRecDepth 100000 in
theorem pl_s93_s {X : Int → Int} {LX : Nat} : ck_Ok p2_OL X LX 114 pl_s93 := ck_ok_s (O := p2_OL) (X := X) (LX := LX) (E := [(76, [pl_s24]), (94, [pl_s92])]) (mi := 114) (cuts := []) (f := 106) (S := pl_s93) (lx := none) (XF := []) ⟨pl_nmu, ck_E1 (ck_S1 pl_s24_s ck_S0) (ck_E1 (ck_S1 pl_s92_s ck_S0) ck_E0)⟩ ck_X0 ck_l0 (by decide +kernel)
set_option maxRecDepth 100000 in
/-- GlacierMail$Words.needNumber -/
def pl_s94 : ck_Sum := ((2, 0, 0), 249, [.inr (.inr (.inl 214)), .inl (ck_one 0), .inl (1, 6, [])], ([], [], [(214, 3, 3, (0, 400, [(12, 0)]))]), ([(214, 3, 7)], []), [(.inr (some (.inl (ck_one (-1)))), 249, ([], [], zl7)), (.inr (some (.inl (0, 6, []))), 249, ([], [], [(214, 3, 3, (0, 400, [(1000012, 0)]))]))])
set_option maxRecDepth 100000 in
theorem pl_s94_s {X : Int → Int} {LX : Nat} : ck_Ok p2_OL X LX 94 pl_s94 := ck_ok_s (O := p2_OL) (X := X) (LX := LX) (E := [(93, [pl_s26]), (76, [pl_s24])]) (mi := 94) (cuts := []) (f := 106) (S := pl_s94) (lx := none) (XF := []) ⟨pl_nmu, ck_E1 (ck_S1 pl_s26_s ck_S0) (ck_E1 (ck_S1 pl_s24_s ck_S0) ck_E0)⟩ ck_X0 ck_l0 (by decide +kernel)
set_option maxRecDepth 100000 in
/-- GlacierMail$ValleyReader.readStripe -/
def pl_s95 : ck_Sum := ((3, 0, 0), 249, [.inr (.inr (.inl 213))], ([], [], [(214, 3, 3, (0, 400, [(12, 0)]))]), ([(16, 4, 4), (214, 3, 7)], []), zl225)
set_option maxRecDepth 100000 in
theorem pl_s95_s {X : Int → Int} {LX : Nat} : ck_Ok p2_OL X LX 113 pl_s95 := ck_ok_s (O := p2_OL) (X := X) (LX := LX) (E := [(76, [pl_s24]), (94, [pl_s94])]) (mi := 113) (cuts := []) (f := 110) (S := pl_s95) (lx := none) (XF := []) ⟨pl_nmu, ck_E1 (ck_S1 pl_s24_s ck_S0) (ck_E1 (ck_S1 pl_s94_s ck_S0) ck_E0)⟩ ck_X0 ck_l0 (by decide +kernel)
set_option maxRecDepth 100000 in
/-- GlacierMail$Words.isWord -/
def pl_s96 : ck_Sum := ((6, 0, 0), 249, [.inr (.inr (.inl 214)), .inr (.inr (.inr 21))], ([], [], [(214, 3, 3, (0, 400, [(12, 0)]))]), ([], []), zl219)
set_option maxRecDepth 100000 in
theorem pl_s96_s {X : Int → Int} {LX : Nat} : ck_Ok p2_OL X LX 81 pl_s96 := ck_ok_s (O := p2_OL) (X := X) (LX := LX) (E := []) (mi := 81) (cuts := []) (f := 310) (S := pl_s96) (lx := none) (XF := []) ⟨pl_nmu, ck_E0⟩ ck_X0 ck_l0 (by decide +kernel)
set_option maxRecDepth 100000 in
/-- GlacierMail$Words.takeWord -/
def pl_s97 : ck_Sum := ((7, 0, 0), 249, [.inr (.inr (.inl 214)), .inr (.inr (.inr 21))], ([], [], [(214, 3, 3, (0, 400, [(12, 0)]))]), ([(214, 3, 4), (214, 6, 7)], []), [(.inr (some (.inl (ck_one 0))), 249, ([], [], [(214, 3, 3, (0, 400, [(12, 0)]))])), (.inr (some (.inl (ck_one 1))), 249, ([], [], [(214, 3, 3, (4, 400, [(1000012, 0)]))]))])
set_option maxRecDepth 100000 in
theorem pl_s97_s {X : Int → Int} {LX : Nat} : ck_Ok p2_OL X LX 95 pl_s97 := ck_ok_s (O := p2_OL) (X := X) (LX := LX) (E := [(81, [pl_s96]), (76, [pl_s24])]) (mi := 95) (cuts := []) (f := 90) (S := pl_s97) (lx := none) (XF := []) ⟨pl_nmu, ck_E1 (ck_S1 pl_s96_s ck_S0) (ck_E1 (ck_S1 pl_s24_s ck_S0) ck_E0)⟩ ck_X0 ck_l0 (by decide +kernel)
set_option maxRecDepth 100000 in
/-- GlacierMail$Words.needWord -/
def pl_s98 : ck_Sum := ((8, 0, 0), 249, [.inr (.inr (.inl 214)), .inr (.inr (.inr 21))], ([], [], [(214, 3, 3, (0, 400, [(12, 0)]))]), ([(214, 3, 7)], []), [(.inr (some (.inl (ck_one 0))), 249, ([], [], zl7)), (.inr (some (.inl (ck_one 1))), 249, ([], [], [(214, 3, 3, (4, 400, [(1000012, 0)]))]))])
set_option maxRecDepth 100000 in
theorem pl_s98_s {X : Int → Int} {LX : Nat} : ck_Ok p2_OL X LX 112 pl_s98 := ck_ok_s (O := p2_OL) (X := X) (LX := LX) (E := [(95, [pl_s97]), (93, [pl_s26])]) (mi := 112) (cuts := []) (f := 88) (S := pl_s98) (lx := none) (XF := []) ⟨pl_nmu, ck_E1 (ck_S1 pl_s97_s ck_S0) (ck_E1 (ck_S1 pl_s26_s ck_S0) ck_E0)⟩ ck_X0 ck_l0 (by decide +kernel)
set_option maxRecDepth 100000 in
/-- GlacierMail$Words.needNumber -/
def pl_s99 : ck_Sum := ((2, 0, 0), 249, [.inr (.inr (.inl 214)), .inl (ck_one 0), .inl (ck_one 9)], ([], [], [(214, 3, 3, (0, 400, [(12, 0)]))]), ([(214, 3, 7)], []), [(.inr (some (.inl (ck_one (-1)))), 249, ([], [], zl7)), (.inr (some (.inl (0, 9, []))), 249, ([], [], [(214, 3, 3, (0, 400, [(1000012, 0)]))]))])
set_option maxRecDepth 100000 in
theorem pl_s99_s {X : Int → Int} {LX : Nat} : ck_Ok p2_OL X LX 94 pl_s99 := ck_ok_s (O := p2_OL) (X := X) (LX := LX) (E := [(93, [pl_s26]), (76, [pl_s24])]) (mi := 94) (cuts := []) (f := 106) (S := pl_s99) (lx := none) (XF := []) ⟨pl_nmu, ck_E1 (ck_S1 pl_s26_s ck_S0) (ck_E1 (ck_S1 pl_s24_s ck_S0) ck_E0)⟩ ck_X0 ck_l0 (by decide +kernel)
set_option maxRecDepth 100000 in
/-- GlacierMail$ValleyReader.readSnow -/
def pl_s100 : ck_Sum := ((9, 0, 0), 249, [.inr (.inr (.inl 213))], ([], [], [(214, 3, 3, (0, 400, [(12, 0)]))]), ([(16, 2, 3), (214, 3, 7)], []), zl226)
set_option maxRecDepth 100000 in
theorem pl_s100_s {X : Int → Int} {LX : Nat} : ck_Ok p2_OL X LX 110 pl_s100 := ck_ok_s (O := p2_OL) (X := X) (LX := LX) (E := [(76, [pl_s24]), (111, [pl_s50]), (112, [pl_s98]), (94, [pl_s99])]) (mi := 110) (cuts := []) (f := 136) (S := pl_s100) (lx := none) (XF := []) ⟨pl_nmu, ck_E1 (ck_S1 pl_s24_s ck_S0) (ck_E1 (ck_S1 pl_s50_s ck_S0) (ck_E1 (ck_S1 pl_s98_s ck_S0) (ck_E1 (ck_S1 pl_s99_s ck_S0) ck_E0)))⟩ ck_X0 ck_l0 (by decide +kernel)
set_option maxRecDepth 100000 in
/-- GlacierMail$Rows.isFull -/
def pl_s101 : ck_Sum := ((0, 0, 0), 249, [.inr (.inr (.inl 17))], ([], [], []), ([], []), [(.inr (some (.inl (ck_one 0))), 249, ([], [], [(17, 3, 3, (0, 7, []))])), (.inr (some (.inl (ck_one 1))), 249, ([], [], [(17, 3, 3, ck_one 8)]))])
set_option maxRecDepth 100000 in
theorem pl_s101_s {X : Int → Int} {LX : Nat} : ck_Ok p2_OL X LX 108 pl_s101 := ck_ok_s (O := p2_OL) (X := X) (LX := LX) (E := []) (mi := 108) (cuts := []) (f := 86) (S := pl_s101) (lx := none) (XF := []) ⟨pl_nmu, ck_E0⟩ ck_X0 ck_l0 (by decide +kernel)
set_option maxRecDepth 100000 in
/-- GlacierMail$Rows.size -/
def pl_s102 : ck_Sum := ((0, 0, 0), 249, [.inr (.inr (.inl 17))], ([], [], []), ([], []), [(.inr (some (.inl (0, 8, []))), 249, ([], [], []))])
set_option maxRecDepth 100000 in
theorem pl_s102_s {X : Int → Int} {LX : Nat} : ck_Ok p2_OL X LX 9 pl_s102 := ck_ok_s (O := p2_OL) (X := X) (LX := LX) (E := []) (mi := 9) (cuts := []) (f := 76) (S := pl_s102) (lx := none) (XF := []) ⟨pl_nmu, ck_E0⟩ ck_X0 ck_l0 (by decide +kernel)
set_option maxRecDepth 100000 in
/-- GlacierMail$Rows.get -/
def pl_s103 : ck_Sum := ((0, 0, 0), 249, [.inr (.inr (.inl 17)), .inl ((-2147483648), 2147483647, []), .inl ((-2147483648), 2147483647, [])], ([], [], []), ([], []), [(.inr (some (.inl (ck_one (-1)))), 249, ([], [], [])), (.inr (some (.inl (0, 98, []))), 249, ([], [], [(17, 3, 3, (1, 8, []))]))])
set_option maxRecDepth 100000 in
theorem pl_s103_s {X : Int → Int} {LX : Nat} : ck_Ok p2_OL X LX 10 pl_s103 := ck_ok_s (O := p2_OL) (X := X) (LX := LX) (E := []) (mi := 10) (cuts := []) (f := 114) (S := pl_s103) (lx := none) (XF := []) ⟨pl_nmu, ck_E0⟩ ck_X0 ck_l0 (by decide +kernel)
set_option maxRecDepth 100000 in
/-- GlacierMail$Words.needNumber -/
def pl_s104 : ck_Sum := ((2, 0, 0), 249, [.inr (.inr (.inl 214)), .inl (ck_one 0), .inl (ck_one 0)], ([], [], [(214, 3, 3, (0, 400, [(12, 0)]))]), ([(214, 3, 7)], []), [(.inr (some (.inl (ck_one (-1)))), 249, ([], [], zl7)), (.inr (some (.inl (ck_one 0))), 249, ([], [], [(214, 3, 3, (0, 400, [(1000012, 0)]))]))])
set_option maxRecDepth 100000 in
theorem pl_s104_s {X : Int → Int} {LX : Nat} : ck_Ok p2_OL X LX 94 pl_s104 := ck_ok_s (O := p2_OL) (X := X) (LX := LX) (E := [(93, [pl_s26]), (76, [pl_s24])]) (mi := 94) (cuts := []) (f := 106) (S := pl_s104) (lx := none) (XF := []) ⟨pl_nmu, ck_E1 (ck_S1 pl_s26_s ck_S0) (ck_E1 (ck_S1 pl_s24_s ck_S0) ck_E0)⟩ ck_X0 ck_l0 (by decide +kernel)
set_option maxRecDepth 100000 in
/-- GlacierMail$Words.needNumber -/
def pl_s105 : ck_Sum := ((2, 0, 0), 249, [.inr (.inr (.inl 214)), .inl (1, 99, []), .inl (9, 98, [])], ([], [], [(214, 3, 3, (0, 400, [(12, 0)]))]), ([(214, 3, 7)], []), [(.inr (some (.inl (ck_one (-1)))), 249, ([], [], zl7)), (.inr (some (.inl (1, 98, []))), 249, ([], [], [(214, 3, 3, (0, 400, [(1000012, 0)]))]))])
set_option maxRecDepth 100000 in
theorem pl_s105_s {X : Int → Int} {LX : Nat} : ck_Ok p2_OL X LX 94 pl_s105 := ck_ok_s (O := p2_OL) (X := X) (LX := LX) (E := [(93, [pl_s26]), (76, [pl_s24])]) (mi := 94) (cuts := []) (f := 106) (S := pl_s105) (lx := none) (XF := []) ⟨pl_nmu, ck_E1 (ck_S1 pl_s26_s ck_S0) (ck_E1 (ck_S1 pl_s24_s ck_S0) ck_E0)⟩ ck_X0 ck_l0 (by decide +kernel)
set_option maxRecDepth 100000 in
/-- GlacierMail$Words.needNumber -/
def pl_s106 : ck_Sum := ((1, 0, 0), 249, [.inr (.inr (.inl 214)), .inl (1, 99, []), .inl (ck_one 0)], ([], [], []), ([(214, 5, 5)], []), [(.inr (some (.inl (ck_one (-1)))), 249, ([], [], [(214, 5, 5, (0, 400, []))]))])
set_option maxRecDepth 100000 in
theorem pl_s106_s {X : Int → Int} {LX : Nat} : ck_Ok p2_OL X LX 94 pl_s106 := ck_ok_s (O := p2_OL) (X := X) (LX := LX) (E := [(93, [pl_s26])]) (mi := 94) (cuts := []) (f := 106) (S := pl_s106) (lx := none) (XF := []) ⟨pl_nmu, ck_E1 (ck_S1 pl_s26_s ck_S0) ck_E0⟩ ck_X0 ck_l0 (by decide +kernel)
set_option maxRecDepth 100000 in
/-- GlacierMail$Rows.add -/
def pl_s107 : ck_Sum := ((0, 0, 0), 249, [.inr (.inr (.inl 17))], ([], [], []), ([(17, 3, 3)], []), [(.inr (some (.inl (0, 7, []))), 249, ([], [], [(17, 3, 3, (1, 8, []))])), (.inr (some (.inl (ck_one (-1)))), 249, ([], [], [(17, 3, 3, ck_one 8)]))])
set_option maxRecDepth 100000 in
theorem pl_s107_s {X : Int → Int} {LX : Nat} : ck_Ok p2_OL X LX 102 pl_s107 := ck_ok_s (O := p2_OL) (X := X) (LX := LX) (E := []) (mi := 102) (cuts := []) (f := 102) (S := pl_s107) (lx := none) (XF := []) ⟨pl_nmu, ck_E0⟩ ck_X0 ck_l0 (by decide +kernel)
set_option maxRecDepth 100000 in
/-- GlacierMail$Rows.put -/
def pl_s108 : ck_Sum := ((0, 0, 0), 249, [.inr (.inr (.inl 17)), .inl (0, 7, []), .inl (ck_one 0), .inl (0, 98, [])], ([], [], []), (zl33, []), [(.inr none, 249, ([], [], []))])
set_option maxRecDepth 100000 in
theorem pl_s108_s {X : Int → Int} {LX : Nat} : ck_Ok p2_OL X LX 45 pl_s108 := ck_ok_s (O := p2_OL) (X := X) (LX := LX) (E := []) (mi := 45) (cuts := []) (f := 116) (S := pl_s108) (lx := none) (XF := []) ⟨pl_nmu, ck_E0⟩ ck_X0 ck_l0 (by decide +kernel)
set_option maxRecDepth 100000 in
/-- GlacierMail$Rows.put -/
def pl_s109 : ck_Sum := ((0, 0, 0), 249, [.inr (.inr (.inl 17)), .inl (ck_one (-1)), .inl (ck_one 0), .inl (0, 98, [])], ([], [], []), ([], []), [(.inr none, 249, ([], [], []))])
set_option maxRecDepth 100000 in
theorem pl_s109_s {X : Int → Int} {LX : Nat} : ck_Ok p2_OL X LX 45 pl_s109 := ck_ok_s (O := p2_OL) (X := X) (LX := LX) (E := []) (mi := 45) (cuts := []) (f := 76) (S := pl_s109) (lx := none) (XF := []) ⟨pl_nmu, ck_E0⟩ ck_X0 ck_l0 (by decide +kernel)
set_option maxRecDepth 100000 in
/-- GlacierMail$Rows.put -/
def pl_s110 : ck_Sum := ((0, 0, 0), 249, [.inr (.inr (.inl 17)), .inl (0, 7, []), .inl (ck_one 0), .inl (ck_one 0)], ([], [], []), (zl33, []), [(.inr none, 249, ([], [], []))])
set_option maxRecDepth 100000 in
theorem pl_s110_s {X : Int → Int} {LX : Nat} : ck_Ok p2_OL X LX 45 pl_s110 := ck_ok_s (O := p2_OL) (X := X) (LX := LX) (E := []) (mi := 45) (cuts := []) (f := 116) (S := pl_s110) (lx := none) (XF := []) ⟨pl_nmu, ck_E0⟩ ck_X0 ck_l0 (by decide +kernel)
set_option maxRecDepth 100000 in
/-- GlacierMail$Rows.put -/
def pl_s111 : ck_Sum := ((0, 0, 0), 249, [.inr (.inr (.inl 17)), .inl (ck_one (-1)), .inl (ck_one 0), .inl (ck_one 0)], ([], [], []), ([], []), [(.inr none, 249, ([], [], []))])
set_option maxRecDepth 100000 in
theorem pl_s111_s {X : Int → Int} {LX : Nat} : ck_Ok p2_OL X LX 45 pl_s111 := ck_ok_s (O := p2_OL) (X := X) (LX := LX) (E := []) (mi := 45) (cuts := []) (f := 76) (S := pl_s111) (lx := none) (XF := []) ⟨pl_nmu, ck_E0⟩ ck_X0 ck_l0 (by decide +kernel)
set_option maxRecDepth 100000 in
/-- GlacierMail$Rows.put -/
def pl_s112 : ck_Sum := ((0, 0, 0), 249, [.inr (.inr (.inl 17)), .inl (0, 7, []), .inl (ck_one 0), .inl (1, 98, [])], ([], [], []), (zl33, []), [(.inr none, 249, ([], [], []))])
set_option maxRecDepth 100000 in
theorem pl_s112_s {X : Int → Int} {LX : Nat} : ck_Ok p2_OL X LX 45 pl_s112 := ck_ok_s (O := p2_OL) (X := X) (LX := LX) (E := []) (mi := 45) (cuts := []) (f := 116) (S := pl_s112) (lx := none) (XF := []) ⟨pl_nmu, ck_E0⟩ ck_X0 ck_l0 (by decide +kernel)
set_option maxRecDepth 100000 in
/-- GlacierMail$Rows.put -/
def pl_s113 : ck_Sum := ((0, 0, 0), 249, [.inr (.inr (.inl 17)), .inl (ck_one (-1)), .inl (ck_one 0), .inl (1, 98, [])], ([], [], []), ([], []), [(.inr none, 249, ([], [], []))])
set_option maxRecDepth 100000 in
theorem pl_s113_s {X : Int → Int} {LX : Nat} : ck_Ok p2_OL X LX 45 pl_s113 := ck_ok_s (O := p2_OL) (X := X) (LX := LX) (E := []) (mi := 45) (cuts := []) (f := 76) (S := pl_s113) (lx := none) (XF := []) ⟨pl_nmu, ck_E0⟩ ck_X0 ck_l0 (by decide +kernel)
set_option maxRecDepth 100000 in
/-- GlacierMail$Rows.put -/
def pl_s114 : ck_Sum := ((0, 0, 0), 249, [.inr (.inr (.inl 17)), .inl (0, 7, []), .inl (1, 6, []), .inl (0, 20, [])], ([], [], []), (zl34, []), [(.inr none, 249, ([], [], []))])
set_option maxRecDepth 100000 in
theorem pl_s114_s {X : Int → Int} {LX : Nat} : ck_Ok p2_OL X LX 45 pl_s114 := ck_ok_s (O := p2_OL) (X := X) (LX := LX) (E := []) (mi := 45) (cuts := []) (f := 116) (S := pl_s114) (lx := none) (XF := []) ⟨pl_nmu, ck_E0⟩ ck_X0 ck_l0 (by decide +kernel)
set_option maxRecDepth 100000 in
/-- GlacierMail$ValleyReader.readSpeeds -/
def pl_s115 : ck_Sum := ((3, 0, 0), 249, [.inr (.inr (.inl 213)), .inr (.inr (.inl 17)), .inl (0, 7, []), .inl (ck_one 1)], ([], [], [(214, 3, 3, (0, 400, [(12, 0)]))]), (zl35, []), zl221)
set_option maxRecDepth 100000 in
theorem pl_s115_e : ck_ok p2_OL none [] [(94, [pl_s40]), (45, [pl_s114])] 109 [(3, [some (.inr (.inr (.inl 213))), some (.inr (.inr (.inl 17))), some (.inl (0, 7, [])), some (.inl (ck_one 1)), some (.inl (0, 6, [])), none], ([], [], [(214, 3, 3, (0, 400, [(1000012, 0)]))]), 100, .inl 4, true)] 186 pl_s115 = true := by decide +kernel
theorem pl_s115_s {X : Int → Int} {LX : Nat} : ck_Ok p2_OL X LX 109 pl_s115 := ck_ok_s ⟨pl_nmu, ck_E1 (ck_S1 pl_s40_s ck_S0) (ck_E1 (ck_S1 pl_s114_s ck_S0) ck_E0)⟩ ck_X0 ck_l0 pl_s115_e
set_option maxRecDepth 100000 in
/-- GlacierMail$Rows.put -/
def pl_s116 : ck_Sum := ((0, 0, 0), 249, [.inr (.inr (.inl 17)), .inl (ck_one (-1)), .inl (1, 6, []), .inl (0, 20, [])], ([], [], []), ([], []), [(.inr none, 249, ([], [], []))])
set_option maxRecDepth 100000 in
theorem pl_s116_s {X : Int → Int} {LX : Nat} : ck_Ok p2_OL X LX 45 pl_s116 := ck_ok_s (O := p2_OL) (X := X) (LX := LX) (E := []) (mi := 45) (cuts := []) (f := 76) (S := pl_s116) (lx := none) (XF := []) ⟨pl_nmu, ck_E0⟩ ck_X0 ck_l0 (by decide +kernel)
set_option maxRecDepth 100000 in
/-- GlacierMail$ValleyReader.readSpeeds -/
def pl_s117 : ck_Sum := ((3, 0, 0), 249, [.inr (.inr (.inl 213)), .inr (.inr (.inl 17)), .inl (ck_one (-1)), .inl (ck_one 1)], ([], [], [(214, 3, 3, (0, 400, [(12, 0)]))]), ([(214, 3, 7)], []), zl221)
set_option maxRecDepth 100000 in
theorem pl_s117_e : ck_ok p2_OL none [] [(94, [pl_s40]), (45, [pl_s116])] 109 [(3, [some (.inr (.inr (.inl 213))), some (.inr (.inr (.inl 17))), some (.inl (ck_one (-1))), some (.inl (ck_one 1)), some (.inl (0, 6, [])), none], ([], [], [(214, 3, 3, (0, 400, [(1000012, 0)]))]), 100, .inl 4, true)] 186 pl_s117 = true := by decide +kernel
theorem pl_s117_s {X : Int → Int} {LX : Nat} : ck_Ok p2_OL X LX 109 pl_s117 := ck_ok_s ⟨pl_nmu, ck_E1 (ck_S1 pl_s40_s ck_S0) (ck_E1 (ck_S1 pl_s116_s ck_S0) ck_E0)⟩ ck_X0 ck_l0 pl_s117_e
set_option maxRecDepth 100000 in
/-- GlacierMail$ValleyReader.readSection -/
def pl_s118 : ck_Sum := ((4, 0, 0), 249, [.inr (.inr (.inl 213))], ([], [], [(214, 3, 3, (0, 400, [(12, 0)]))]), ([(17, 3, 3), (18, 0, 55), (214, 3, 7)], []), [(.inr (some (.inl (ck_one 0))), 249, ([], [], zl21)), (.inr (some (.inl (ck_one 1))), 249, ([], [], zl36))])
set_option maxRecDepth 100000 in
theorem pl_s118_s {X : Int → Int} {LX : Nat} : ck_Ok p2_OL X LX 107 pl_s118 := ck_ok_s (O := p2_OL) (X := X) (LX := LX) (E := [(108, [pl_s101]), (76, [pl_s24]), (9, [pl_s102]), (10, [pl_s103]), (94, [pl_s49, pl_s104, pl_s105, pl_s106]), (102, [pl_s107]), (45, [pl_s108, pl_s109, pl_s110, pl_s111, pl_s112, pl_s113]), (109, [pl_s115, pl_s117]), (93, [pl_s26])]) (mi := 107) (cuts := []) (f := 188) (S := pl_s118) (lx := none) (XF := []) ⟨pl_nmu, ck_E1 (ck_S1 pl_s101_s ck_S0) (ck_E1 (ck_S1 pl_s24_s ck_S0) (ck_E1 (ck_S1 pl_s102_s ck_S0) (ck_E1 (ck_S1 pl_s103_s ck_S0) (ck_E1 (ck_S1 pl_s49_s (ck_S1 pl_s104_s (ck_S1 pl_s105_s (ck_S1 pl_s106_s ck_S0)))) (ck_E1 (ck_S1 pl_s107_s ck_S0) (ck_E1 (ck_S1 pl_s108_s (ck_S1 pl_s109_s (ck_S1 pl_s110_s (ck_S1 pl_s111_s (ck_S1 pl_s112_s (ck_S1 pl_s113_s ck_S0)))))) (ck_E1 (ck_S1 pl_s115_s (ck_S1 pl_s117_s ck_S0)) (ck_E1 (ck_S1 pl_s26_s ck_S0) ck_E0))))))))⟩ ck_X0 ck_l0 (by decide +kernel)
set_option maxRecDepth 100000 in
/-- GlacierMail$Rows.size -/
def pl_s119 : ck_Sum := ((0, 0, 0), 249, [.inr (.inr (.inl 19))], ([], [], []), ([], []), [(.inr (some (.inl (0, 8, []))), 249, ([], [], []))])
set_option maxRecDepth 100000 in
theorem pl_s119_s {X : Int → Int} {LX : Nat} : ck_Ok p2_OL X LX 9 pl_s119 := ck_ok_s (O := p2_OL) (X := X) (LX := LX) (E := []) (mi := 9) (cuts := []) (f := 76) (S := pl_s119) (lx := none) (XF := []) ⟨pl_nmu, ck_E0⟩ ck_X0 ck_l0 (by decide +kernel)
set_option maxRecDepth 100000 in
/-- GlacierMail$Rows.size -/
def pl_s120 : ck_Sum := ((0, 0, 0), 249, [.inr (.inr (.inl 21))], ([], [], []), ([], []), [(.inr (some (.inl (0, 8, []))), 249, ([], [], []))])
set_option maxRecDepth 100000 in
theorem pl_s120_s {X : Int → Int} {LX : Nat} : ck_Ok p2_OL X LX 9 pl_s120 := ck_ok_s (O := p2_OL) (X := X) (LX := LX) (E := []) (mi := 9) (cuts := []) (f := 76) (S := pl_s120) (lx := none) (XF := []) ⟨pl_nmu, ck_E0⟩ ck_X0 ck_l0 (by decide +kernel)
set_option maxRecDepth 100000 in
/-- GlacierMail$Rows.size -/
def pl_s121 : ck_Sum := ((0, 0, 0), 249, [.inr (.inr (.inl 23))], ([], [], []), ([], []), [(.inr (some (.inl (0, 24, []))), 249, ([], [], []))])
set_option maxRecDepth 100000 in
theorem pl_s121_s {X : Int → Int} {LX : Nat} : ck_Ok p2_OL X LX 9 pl_s121 := ck_ok_s (O := p2_OL) (X := X) (LX := LX) (E := []) (mi := 9) (cuts := []) (f := 76) (S := pl_s121) (lx := none) (XF := []) ⟨pl_nmu, ck_E0⟩ ck_X0 ck_l0 (by decide +kernel)
set_option maxRecDepth 100000 in
/-- GlacierMail$Rows.size -/
def pl_s122 : ck_Sum := ((0, 0, 0), 249, [.inr (.inr (.inl 25))], ([], [], []), ([], []), [(.inr (some (.inl (0, 6, []))), 249, ([], [], []))])
set_option maxRecDepth 100000 in
theorem pl_s122_s {X : Int → Int} {LX : Nat} : ck_Ok p2_OL X LX 9 pl_s122 := ck_ok_s (O := p2_OL) (X := X) (LX := LX) (E := []) (mi := 9) (cuts := []) (f := 76) (S := pl_s122) (lx := none) (XF := []) ⟨pl_nmu, ck_E0⟩ ck_X0 ck_l0 (by decide +kernel)
set_option maxRecDepth 100000 in
/-- GlacierMail$State.isEmpty -/
def pl_s123 : ck_Sum := ((1, 0, 0), 249, [.inr (.inr (.inl 16))], ([], [], []), ([], []), [(.inr (some (.inl (ck_one 0))), 249, ([], [], [])), (.inr (some (.inl (ck_one 1))), 249, ([], [], []))])
set_option maxRecDepth 100000 in
theorem pl_s123_s {X : Int → Int} {LX : Nat} : ck_Ok p2_OL X LX 105 pl_s123 := ck_ok_s (O := p2_OL) (X := X) (LX := LX) (E := [(9, [pl_s102, pl_s119, pl_s120, pl_s121, pl_s122])]) (mi := 105) (cuts := []) (f := 116) (S := pl_s123) (lx := none) (XF := []) ⟨pl_nmu, ck_E1 (ck_S1 pl_s102_s (ck_S1 pl_s119_s (ck_S1 pl_s120_s (ck_S1 pl_s121_s (ck_S1 pl_s122_s ck_S0))))) ck_E0⟩ ck_X0 ck_l0 (by decide +kernel)
set_option maxRecDepth 100000 in
/-- GlacierMail$Words.needNumber -/
def pl_s124 : ck_Sum := ((2, 0, 0), 249, [.inr (.inr (.inl 214)), .inl (ck_one 10), .inl (ck_one 99)], ([], [], [(214, 3, 3, (0, 400, [(12, 0)]))]), ([(214, 3, 7)], []), [(.inr (some (.inl (ck_one (-1)))), 249, ([], [], zl7)), (.inr (some (.inl (10, 99, []))), 249, ([], [], [(214, 3, 3, (0, 400, [(1000012, 0)]))]))])
set_option maxRecDepth 100000 in
theorem pl_s124_s {X : Int → Int} {LX : Nat} : ck_Ok p2_OL X LX 94 pl_s124 := ck_ok_s (O := p2_OL) (X := X) (LX := LX) (E := [(93, [pl_s26]), (76, [pl_s24])]) (mi := 94) (cuts := []) (f := 106) (S := pl_s124) (lx := none) (XF := []) ⟨pl_nmu, ck_E1 (ck_S1 pl_s26_s ck_S0) (ck_E1 (ck_S1 pl_s24_s ck_S0) ck_E0)⟩ ck_X0 ck_l0 (by decide +kernel)
set_option maxRecDepth 100000 in
/-- GlacierMail$ValleyReader.readLast -/
def pl_s125 : ck_Sum := ((3, 0, 0), 249, [.inr (.inr (.inl 213))], ([], [], [(214, 3, 3, (0, 400, [(12, 0)]))]), ([(16, 1, 2), (214, 3, 7)], []), [(.inr (some (.inl (ck_one 0))), 249, ([], [], zl21)), (.inr (some (.inl (ck_one 1))), 249, ([], [], zl37))])
set_option maxRecDepth 100000 in
theorem pl_s125_s {X : Int → Int} {LX : Nat} : ck_Ok p2_OL X LX 106 pl_s125 := ck_ok_s (O := p2_OL) (X := X) (LX := LX) (E := [(105, [pl_s123]), (93, [pl_s26]), (76, [pl_s24]), (94, [pl_s124])]) (mi := 106) (cuts := []) (f := 122) (S := pl_s125) (lx := none) (XF := []) ⟨pl_nmu, ck_E1 (ck_S1 pl_s123_s ck_S0) (ck_E1 (ck_S1 pl_s26_s ck_S0) (ck_E1 (ck_S1 pl_s24_s ck_S0) (ck_E1 (ck_S1 pl_s124_s ck_S0) ck_E0)))⟩ ck_X0 ck_l0 (by decide +kernel)
set_option maxRecDepth 100000 in
/-- GlacierMail$Words.needNumber -/
def pl_s126 : ck_Sum := ((2, 0, 0), 249, [.inr (.inr (.inl 214)), .inl (ck_one 1), .inl (ck_one 6)], ([], [], [(214, 3, 3, (0, 400, [(12, 0)]))]), ([(214, 3, 7)], []), [(.inr (some (.inl (ck_one (-1)))), 249, ([], [], zl7)), (.inr (some (.inl (1, 6, []))), 249, ([], [], [(214, 3, 3, (0, 400, [(1000012, 0)]))]))])
set_option maxRecDepth 100000 in
theorem pl_s126_s {X : Int → Int} {LX : Nat} : ck_Ok p2_OL X LX 94 pl_s126 := ck_ok_s (O := p2_OL) (X := X) (LX := LX) (E := [(93, [pl_s26]), (76, [pl_s24])]) (mi := 94) (cuts := []) (f := 106) (S := pl_s126) (lx := none) (XF := []) ⟨pl_nmu, ck_E1 (ck_S1 pl_s26_s ck_S0) (ck_E1 (ck_S1 pl_s24_s ck_S0) ck_E0)⟩ ck_X0 ck_l0 (by decide +kernel)
set_option maxRecDepth 100000 in
/-- GlacierMail$ValleyReader.readLanes -/
def pl_s127 : ck_Sum := ((3, 0, 0), 249, [.inr (.inr (.inl 213))], ([], [], [(214, 3, 3, (0, 400, [(12, 0)]))]), ([(16, 0, 0), (16, 4, 4), (214, 3, 7)], []), [(.inr (some (.inl (ck_one 0))), 249, ([], [], zl21)), (.inr (some (.inl (ck_one 1))), 249, ([], [], zl38))])
set_option maxRecDepth 100000 in
theorem pl_s127_s {X : Int → Int} {LX : Nat} : ck_Ok p2_OL X LX 104 pl_s127 := ck_ok_s (O := p2_OL) (X := X) (LX := LX) (E := [(105, [pl_s123]), (93, [pl_s26]), (76, [pl_s24]), (94, [pl_s126])]) (mi := 104) (cuts := []) (f := 122) (S := pl_s127) (lx := none) (XF := []) ⟨pl_nmu, ck_E1 (ck_S1 pl_s123_s ck_S0) (ck_E1 (ck_S1 pl_s26_s ck_S0) (ck_E1 (ck_S1 pl_s24_s ck_S0) (ck_E1 (ck_S1 pl_s126_s ck_S0) ck_E0)))⟩ ck_X0 ck_l0 (by decide +kernel)
set_option maxRecDepth 100000 in
/-- GlacierMail$ValleyReader.readLine -/
def pl_s128 : ck_Sum := ((10, 0, 0), 249, [.inr (.inr (.inl 213))], ([], [], [(214, 3, 3, (0, 400, [(12, 0)]))]), (zl39, []), zl226)
set_option maxRecDepth 100000 in
theorem pl_s128_s {X : Int → Int} {LX : Nat} : ck_Ok p2_OL X LX 103 pl_s128 := ck_ok_s (O := p2_OL) (X := X) (LX := LX) (E := [(81, [pl_s28, pl_s29, pl_s30, pl_s31, pl_s32, pl_s33, pl_s34, pl_s35, pl_s36, pl_s37]), (93, [pl_s26]), (120, [pl_s45]), (118, [pl_s67]), (116, [pl_s80]), (115, [pl_s91]), (114, [pl_s93]), (113, [pl_s95]), (110, [pl_s100]), (107, [pl_s118]), (106, [pl_s125]), (104, [pl_s127])]) (mi := 103) (cuts := []) (f := 178) (S := pl_s128) (lx := none) (XF := []) ⟨pl_nmu, ck_E1 (ck_S1 pl_s28_s (ck_S1 pl_s29_s (ck_S1 pl_s30_s (ck_S1 pl_s31_s (ck_S1 pl_s32_s (ck_S1 pl_s33_s (ck_S1 pl_s34_s (ck_S1 pl_s35_s (ck_S1 pl_s36_s (ck_S1 pl_s37_s ck_S0)))))))))) (ck_E1 (ck_S1 pl_s26_s ck_S0) (ck_E1 (ck_S1 pl_s45_s ck_S0) (ck_E1 (ck_S1 pl_s67_s ck_S0) (ck_E1 (ck_S1 pl_s80_s ck_S0) (ck_E1 (ck_S1 pl_s91_s ck_S0) (ck_E1 (ck_S1 pl_s93_s ck_S0) (ck_E1 (ck_S1 pl_s95_s ck_S0) (ck_E1 (ck_S1 pl_s100_s ck_S0) (ck_E1 (ck_S1 pl_s118_s ck_S0) (ck_E1 (ck_S1 pl_s125_s ck_S0) (ck_E1 (ck_S1 pl_s127_s ck_S0) ck_E0)))))))))))⟩ ck_X0 ck_l0 (by decide +kernel)
set_option maxRecDepth 100000 in
/-- GlacierMail$Words.needSign -/
def pl_s129 : ck_Sum := ((2, 0, 0), 249, [.inr (.inr (.inl 214)), .inl (ck_one 59)], ([], [], [(214, 3, 3, (0, 400, [(12, 0)]))]), ([(214, 3, 7)], []), [(.inr (some (.inl (ck_one 1))), 249, ([], [], [(214, 3, 3, (0, 400, [(1000012, 0)]))])), (.inr (some (.inl (ck_one 0))), 249, ([], [], zl7))])
set_option maxRecDepth 100000 in
theorem pl_s129_s {X : Int → Int} {LX : Nat} : ck_Ok p2_OL X LX 98 pl_s129 := ck_ok_s (O := p2_OL) (X := X) (LX := LX) (E := [(76, [pl_s24]), (93, [pl_s26])]) (mi := 98) (cuts := []) (f := 86) (S := pl_s129) (lx := none) (XF := []) ⟨pl_nmu, ck_E1 (ck_S1 pl_s24_s ck_S0) (ck_E1 (ck_S1 pl_s26_s ck_S0) ck_E0)⟩ ck_X0 ck_l0 (by decide +kernel)
set_option maxRecDepth 100000 in
/-- GlacierMail$TextReader.readText -/
def pl_s130 : ck_Sum := ((11, 0, 0), 249, [.inr (.inr (.inl 213)), .inl (0, 400, [])], ([], [], [(214, 3, 3, (0, 400, [(12, 0)]))]), (zl40, []), zl217)
set_option maxRecDepth 100000 in
theorem pl_s130_e : ck_ok p2_OL none [] [(74, [pl_s21]), (75, [pl_s25]), (93, [pl_s26]), (121, [pl_s27]), (103, [pl_s128]), (98, [pl_s129])] 72 [(29, [some (.inr (.inr (.inl 213))), some (.inl (0, 400, [])), some (.inl (0, 23, []))], ([], [], []), 100, .inl 2, true)] 174 pl_s130 = true := by decide +kernel
theorem pl_s130_s {X : Int → Int} {LX : Nat} : ck_Ok p2_OL X LX 72 pl_s130 := ck_ok_s ⟨pl_nmu, ck_E1 (ck_S1 pl_s21_s ck_S0) (ck_E1 (ck_S1 pl_s25_s ck_S0) (ck_E1 (ck_S1 pl_s26_s ck_S0) (ck_E1 (ck_S1 pl_s27_s ck_S0) (ck_E1 (ck_S1 pl_s128_s ck_S0) (ck_E1 (ck_S1 pl_s129_s ck_S0) ck_E0)))))⟩ ck_X0 ck_l0 pl_s130_e
set_option maxRecDepth 100000 in
/-- GlacierMail$Ice.reckonHeats -/
def pl_s131 : ck_Sum := ((0, 0, 0), 249, [.inr (.inr (.inl 200))], ([], [], []), ([(201, 0, 299)], []), [(.inr none, 249, ([], [], []))])
set_option maxRecDepth 100000 in
theorem pl_s131_e : ck_ok p2_OL none [] [] 6 [(10, [some (.inr (.inr (.inl 200))), some (.inl ((-2147483648), 2147483647, [])), some (.inl (0, 300, []))], ([], [], []), 100, .inl 2, true)] 182 pl_s131 = true := by decide +kernel
theorem pl_s131_s {X : Int → Int} {LX : Nat} : ck_Ok p2_OL X LX 6 pl_s131 := ck_ok_s ⟨pl_nmu, ck_E0⟩ ck_X0 ck_l0 pl_s131_e
set_option maxRecDepth 100000 in
/-- java/util/Arrays.fill -/
def pl_s132 : ck_Sum := ((0, 0, 0), 249, [.inr (.inr (.inl 202)), .inl (ck_one 0)], ([], [], []), ([(202, 0, 593)], []), [(.inr none, 249, ([], [], []))])
set_option maxRecDepth 100000 in
theorem pl_s132_e : ck_ok p2_OL none [] [] 8 [(5, [some (.inr (.inr (.inl 202))), some (.inl (ck_one 0)), some (.inl (0, 594, [])), some (.inl (ck_one 594))], ([], [], []), 100, .inl 2, true)] 130 pl_s132 = true := by decide +kernel
theorem pl_s132_s {X : Int → Int} {LX : Nat} : ck_Ok p2_OL X LX 8 pl_s132 := ck_ok_s ⟨pl_nmu, ck_E0⟩ ck_X0 ck_l0 pl_s132_e
set_option maxRecDepth 100000 in
/-- GlacierMail$Rows.size -/
def pl_s133 : ck_Sum := ((0, 0, 0), 249, [.inr (.inr (.inl 4))], ([], [], []), ([], []), [(.inr (some (.inl (0, 8, []))), 249, ([], [], []))])
set_option maxRecDepth 100000 in
theorem pl_s133_s {X : Int → Int} {LX : Nat} : ck_Ok p2_OL X LX 9 pl_s133 := ck_ok_s (O := p2_OL) (X := X) (LX := LX) (E := []) (mi := 9) (cuts := []) (f := 76) (S := pl_s133) (lx := none) (XF := []) ⟨pl_nmu, ck_E0⟩ ck_X0 ck_l0 (by decide +kernel)
set_option maxRecDepth 100000 in
/-- GlacierMail$Rows.get -/
def pl_s134 : ck_Sum := ((0, 0, 0), 249, [.inr (.inr (.inl 4)), .inl ((-2147483648), 2147483647, []), .inl ((-2147483648), 2147483647, [])], ([], [], []), ([], []), [(.inr (some (.inl (ck_one (-1)))), 249, ([], [], [])), (.inr (some (.inl (0, 98, []))), 249, ([], [], [(4, 3, 3, (1, 8, []))]))])
set_option maxRecDepth 100000 in
theorem pl_s134_s {X : Int → Int} {LX : Nat} : ck_Ok p2_OL X LX 10 pl_s134 := ck_ok_s (O := p2_OL) (X := X) (LX := LX) (E := []) (mi := 10) (cuts := []) (f := 114) (S := pl_s134) (lx := none) (XF := []) ⟨pl_nmu, ck_E0⟩ ck_X0 ck_l0 (by decide +kernel)
set_option maxRecDepth 100000 in
/-- GlacierMail$Ice.reckonSpeeds -/
def pl_s135 : ck_Sum := ((1, 0, 0), 249, [.inr (.inr (.inl 200))], ([], [], []), ([(202, 0, 593)], []), [(.inr none, 249, ([], [], []))])
set_option maxRecDepth 100000 in
theorem pl_s135_e : ck_ok p2_OL none [] [(8, [pl_s132]), (9, [pl_s133]), (10, [pl_s134])] 7 [(10, [some (.inr (.inr (.inl 200))), some (.inl (0, 9, [])), none, none, none, none], ([], [], []), 100, .inl 1, true), (43, [some (.inr (.inr (.inl 200))), some (.inl (0, 7, [(100, 0)])), some (.inl (0, 98, [])), some (.inl (0, 6, [])), none, none], ([], [], []), 300, .inl 3, true), (79, [some (.inr (.inr (.inl 200))), some (.inl (0, 7, [(100, 0)])), some (.inl (0, 98, [])), some (.inl (0, 5, [(300, 0)])), some (.inl ((-1), 98, [])), some (.inl (0, 99, []))], ([], [], []), 500, .inl 5, true)] 290 pl_s135 = true := by decide +kernel
theorem pl_s135_s {X : Int → Int} {LX : Nat} : ck_Ok p2_OL X LX 7 pl_s135 := ck_ok_s ⟨pl_nmu, ck_E1 (ck_S1 pl_s132_s ck_S0) (ck_E1 (ck_S1 pl_s133_s ck_S0) (ck_E1 (ck_S1 pl_s134_s ck_S0) ck_E0))⟩ ck_X0 ck_l0 pl_s135_e
set_option maxRecDepth 100000 in
/-- java/util/Arrays.fill -/
def pl_s136 : ck_Sum := ((0, 0, 0), 249, [.inr (.inr (.inl 203)), .inl (ck_one 0)], ([], [], []), ([(203, 0, 299)], []), [(.inr none, 249, ([], [], []))])
set_option maxRecDepth 100000 in
theorem pl_s136_e : ck_ok p2_OL none [] [] 8 [(5, [some (.inr (.inr (.inl 203))), some (.inl (ck_one 0)), some (.inl (0, 300, [])), some (.inl (ck_one 300))], ([], [], []), 100, .inl 2, true)] 130 pl_s136 = true := by decide +kernel
theorem pl_s136_s {X : Int → Int} {LX : Nat} : ck_Ok p2_OL X LX 8 pl_s136 := ck_ok_s ⟨pl_nmu, ck_E0⟩ ck_X0 ck_l0 pl_s136_e
set_option maxRecDepth 100000 in
/-- GlacierMail$Rows.size -/
def pl_s137 : ck_Sum := ((0, 0, 0), 249, [.inr (.inr (.inl 6))], ([], [], []), ([], []), [(.inr (some (.inl (0, 8, []))), 249, ([], [], []))])
set_option maxRecDepth 100000 in
theorem pl_s137_s {X : Int → Int} {LX : Nat} : ck_Ok p2_OL X LX 9 pl_s137 := ck_ok_s (O := p2_OL) (X := X) (LX := LX) (E := []) (mi := 9) (cuts := []) (f := 76) (S := pl_s137) (lx := none) (XF := []) ⟨pl_nmu, ck_E0⟩ ck_X0 ck_l0 (by decide +kernel)
set_option maxRecDepth 100000 in
/-- GlacierMail$Rows.get -/
def pl_s138 : ck_Sum := ((0, 0, 0), 249, [.inr (.inr (.inl 6)), .inl ((-2147483648), 2147483647, []), .inl ((-2147483648), 2147483647, [])], ([], [], []), ([], []), [(.inr (some (.inl (ck_one (-1)))), 249, ([], [], [])), (.inr (some (.inl (0, 299, []))), 249, ([], [], [(6, 3, 3, (1, 8, []))]))])
set_option maxRecDepth 100000 in
theorem pl_s138_s {X : Int → Int} {LX : Nat} : ck_Ok p2_OL X LX 10 pl_s138 := ck_ok_s (O := p2_OL) (X := X) (LX := LX) (E := []) (mi := 10) (cuts := []) (f := 114) (S := pl_s138) (lx := none) (XF := []) ⟨pl_nmu, ck_E0⟩ ck_X0 ck_l0 (by decide +kernel)
set_option maxRecDepth 100000 in
/-- GlacierMail$Ice.reckonFloods -/
def pl_s139 : ck_Sum := ((1, 0, 0), 249, [.inr (.inr (.inl 200))], ([], [], []), ([(203, 0, 299)], []), [(.inr none, 249, ([], [], []))])
set_option maxRecDepth 100000 in
theorem pl_s139_e : ck_ok p2_OL none [] [(8, [pl_s136]), (9, [pl_s137]), (10, [pl_s138])] 12 [(10, [some (.inr (.inr (.inl 200))), some (.inl (0, 9, [])), none], ([], [], []), 100, .inl 1, true)] 214 pl_s139 = true := by decide +kernel
theorem pl_s139_s {X : Int → Int} {LX : Nat} : ck_Ok p2_OL X LX 12 pl_s139 := ck_ok_s ⟨pl_nmu, ck_E1 (ck_S1 pl_s136_s ck_S0) (ck_E1 (ck_S1 pl_s137_s ck_S0) (ck_E1 (ck_S1 pl_s138_s ck_S0) ck_E0))⟩ ck_X0 ck_l0 pl_s139_e
set_option maxRecDepth 100000 in
/-- GlacierMail$Ice.renew -/
def pl_s140 : ck_Sum := ((2, 0, 0), 249, [.inr (.inr (.inl 200))], ([], [], []), (zl41, []), [(.inr none, 249, ([], [], [(200, 6, 6, ck_one 1)]))])
set_option maxRecDepth 100000 in
theorem pl_s140_s {X : Int → Int} {LX : Nat} : ck_Ok p2_OL X LX 5 pl_s140 := ck_ok_s (O := p2_OL) (X := X) (LX := LX) (E := [(6, [pl_s131]), (7, [pl_s135]), (12, [pl_s139])]) (mi := 5) (cuts := []) (f := 90) (S := pl_s140) (lx := none) (XF := []) ⟨pl_nmu, ck_E1 (ck_S1 pl_s131_s ck_S0) (ck_E1 (ck_S1 pl_s135_s ck_S0) (ck_E1 (ck_S1 pl_s139_s ck_S0) ck_E0))⟩ ck_X0 ck_l0 (by decide +kernel)
set_option maxRecDepth 100000 in
/-- GlacierMail$History.forget -/
def pl_s141 : ck_Sum := ((0, 0, 0), 249, [.inr (.inr (.inl 42))], ([], [], []), ([(42, 2, 2)], []), [(.inr none, 249, ([], [], [(42, 2, 2, ck_one 0)]))])
set_option maxRecDepth 100000 in
theorem pl_s141_s {X : Int → Int} {LX : Nat} : ck_Ok p2_OL X LX 62 pl_s141 := ck_ok_s (O := p2_OL) (X := X) (LX := LX) (E := []) (mi := 62) (cuts := []) (f := 78) (S := pl_s141) (lx := none) (XF := []) ⟨pl_nmu, ck_E0⟩ ck_X0 ck_l0 (by decide +kernel)
set_option maxRecDepth 100000 in
/-- GlacierMail.forgetWays -/
def pl_s142 : ck_Sum := ((3, 0, 0), 249, [.inr (.inr (.inl 1))], ([], [], []), (zl42, []), [(.inr none, 249, ([], [], zl43))])
set_option maxRecDepth 100000 in
theorem pl_s142_s {X : Int → Int} {LX : Nat} : ck_Ok p2_OL X LX 61 pl_s142 := ck_ok_s (O := p2_OL) (X := X) (LX := LX) (E := [(5, [pl_s140]), (62, [pl_s141])]) (mi := 61) (cuts := []) (f := 90) (S := pl_s142) (lx := none) (XF := []) ⟨pl_nmu, ck_E1 (ck_S1 pl_s140_s ck_S0) (ck_E1 (ck_S1 pl_s141_s ck_S0) ck_E0)⟩ ck_X0 ck_l0 (by decide +kernel)
set_option maxRecDepth 100000 in
/-- GlacierMail.valley -/
def pl_s143 : ck_Sum := ((12, 1, 6), 249, [.inr (.inr (.inl 1))], ([], [(3, 8, 246), (16, 8, 100016)], zl44), (zl45, [(3, 8), (16, 8)]), [(.inr (some (.inl ((-2147483648), (-1), []))), 249, ([], [(3, 8, 246), (16, 8, 246)], zl46)), (.inr (some (.inl (0, 2147483647, []))), 249, ([], [(3, 8, 246), (16, 8, 246)], zl47)), (.inl 1, 249, ([], [(3, 8, 246), (16, 8, 246)], zl48)), (.inl 0, 249, ([], [(3, 8, 246), (16, 8, 246)], zl49))])
set_option maxRecDepth 100000 in
theorem pl_s143_s {X : Int → Int} {LX : Nat} : ck_Ok p2_OL X LX 71 pl_s143 := ck_ok_s (O := p2_OL) (X := X) (LX := LX) (E := [(57, [pl_s13, pl_s20]), (72, [pl_s130]), (61, [pl_s142])]) (mi := 71) (cuts := []) (f := 154) (S := pl_s143) (lx := none) (XF := []) ⟨pl_nmu, ck_E1 (ck_S1 pl_s13_s (ck_S1 pl_s20_s ck_S0)) (ck_E1 (ck_S1 pl_s130_s ck_S0) (ck_E1 (ck_S1 pl_s142_s ck_S0) ck_E0))⟩ ck_X0 ck_l0 (by decide +kernel)
set_option maxRecDepth 100000 in
/-- GlacierMail.fault -/
def pl_s144 : ck_Sum := ((0, 0, 0), 249, [.inr (.inr (.inl 1))], ([], [], []), ([], []), [(.inr (some (.inl (ck_one (-1)))), 249, ([], [], [(1, 2, 2, ck_one (-1))])), (.inr (some (.inl (0, 400, []))), 249, ([], [], [(1, 2, 2, (0, 400, []))]))])
set_option maxRecDepth 100000 in
theorem pl_s144_s {X : Int → Int} {LX : Nat} : ck_Ok p2_OL X LX 22 pl_s144 := ck_ok_s (O := p2_OL) (X := X) (LX := LX) (E := []) (mi := 22) (cuts := []) (f := 76) (S := pl_s144) (lx := none) (XF := []) ⟨pl_nmu, ck_E0⟩ ck_X0 ck_l0 (by decide +kernel)
set_option maxRecDepth 100000 in
/-- GlacierMail.needYear -/
def pl_s145 : ck_Sum := ((6, 1, 6), 249, [.inr (.inr (.inl 1)), .inl ((-2147483648), (-1), [])], ([], [], []), ([], []), [(.inl 0, 249, ([], [], []))])
set_option maxRecDepth 100000 in
theorem pl_s145_s {X : Int → Int} {LX : Nat} : ck_Ok p2_OL X LX 129 pl_s145 := ck_ok_s (O := p2_OL) (X := X) (LX := LX) (E := []) (mi := 129) (cuts := []) (f := 76) (S := pl_s145) (lx := none) (XF := []) ⟨pl_nmu, ck_E0⟩ ck_X0 ck_l0 (by decide +kernel)
set_option maxRecDepth 100000 in
/-- GlacierMail.heat -/
def pl_s146 : ck_Sum := ((7, 1, 6), 249, [.inr (.inr (.inl 1)), .inl ((-2147483648), (-1), [])], ([], [], []), ([], []), [(.inl 0, 249, ([], [], []))])
set_option maxRecDepth 100000 in
theorem pl_s146_s {X : Int → Int} {LX : Nat} : ck_Ok p2_OL X LX 128 pl_s146 := ck_ok_s (O := p2_OL) (X := X) (LX := LX) (E := [(129, [pl_s145])]) (mi := 128) (cuts := []) (f := 76) (S := pl_s146) (lx := none) (XF := []) ⟨pl_nmu, ck_E1 (ck_S1 pl_s145_s ck_S0) ck_E0⟩ ck_X0 ck_l0 (by decide +kernel)
set_option maxRecDepth 100000 in
/-- GlacierMail.needYear -/
def pl_s147 : ck_Sum := ((6, 1, 6), 249, [.inr (.inr (.inl 1)), .inl (300, 2147483647, [])], ([], [], []), ([], []), [(.inl 0, 249, ([], [], []))])
set_option maxRecDepth 100000 in
theorem pl_s147_s {X : Int → Int} {LX : Nat} : ck_Ok p2_OL X LX 129 pl_s147 := ck_ok_s (O := p2_OL) (X := X) (LX := LX) (E := []) (mi := 129) (cuts := []) (f := 82) (S := pl_s147) (lx := none) (XF := []) ⟨pl_nmu, ck_E0⟩ ck_X0 ck_l0 (by decide +kernel)
set_option maxRecDepth 100000 in
/-- GlacierMail.heat -/
def pl_s148 : ck_Sum := ((7, 1, 6), 249, [.inr (.inr (.inl 1)), .inl (300, 2147483647, [])], ([], [], []), ([], []), [(.inl 0, 249, ([], [], []))])
set_option maxRecDepth 100000 in
theorem pl_s148_s {X : Int → Int} {LX : Nat} : ck_Ok p2_OL X LX 128 pl_s148 := ck_ok_s (O := p2_OL) (X := X) (LX := LX) (E := [(129, [pl_s147])]) (mi := 128) (cuts := []) (f := 76) (S := pl_s148) (lx := none) (XF := []) ⟨pl_nmu, ck_E1 (ck_S1 pl_s147_s ck_S0) ck_E0⟩ ck_X0 ck_l0 (by decide +kernel)
set_option maxRecDepth 100000 in
/-- GlacierMail.needYear -/
def pl_s149 : ck_Sum := ((0, 0, 0), 249, [.inr (.inr (.inl 1)), .inl (0, 299, [])], ([], [], []), ([], []), [(.inr none, 249, ([], [], []))])
set_option maxRecDepth 100000 in
theorem pl_s149_s {X : Int → Int} {LX : Nat} : ck_Ok p2_OL X LX 129 pl_s149 := ck_ok_s (O := p2_OL) (X := X) (LX := LX) (E := []) (mi := 129) (cuts := []) (f := 82) (S := pl_s149) (lx := none) (XF := []) ⟨pl_nmu, ck_E0⟩ ck_X0 ck_l0 (by decide +kernel)
set_option maxRecDepth 100000 in
/-- GlacierMail$Ice.heatIn -/
def pl_s150 : ck_Sum := ((0, 0, 0), 249, [.inr (.inr (.inl 200)), .inl (0, 299, [])], ([], [], []), ([], []), [(.inr (some (.inl (0, 9, []))), 249, ([], [], []))])
set_option maxRecDepth 100000 in
theorem pl_s150_s {X : Int → Int} {LX : Nat} : ck_Ok p2_OL X LX 34 pl_s150 := ck_ok_s (O := p2_OL) (X := X) (LX := LX) (E := []) (mi := 34) (cuts := []) (f := 92) (S := pl_s150) (lx := none) (XF := []) ⟨pl_nmu, ck_E0⟩ ck_X0 ck_l0 (by decide +kernel)
set_option maxRecDepth 100000 in
/-- GlacierMail.heat -/
def pl_s151 : ck_Sum := ((1, 0, 0), 249, [.inr (.inr (.inl 1)), .inl (0, 299, [])], ([], [], []), ([], []), [(.inr (some (.inl (0, 9, []))), 249, ([], [], []))])
set_option maxRecDepth 100000 in
theorem pl_s151_s {X : Int → Int} {LX : Nat} : ck_Ok p2_OL X LX 128 pl_s151 := ck_ok_s (O := p2_OL) (X := X) (LX := LX) (E := [(129, [pl_s149]), (34, [pl_s150])]) (mi := 128) (cuts := []) (f := 86) (S := pl_s151) (lx := none) (XF := []) ⟨pl_nmu, ck_E1 (ck_S1 pl_s149_s ck_S0) (ck_E1 (ck_S1 pl_s150_s ck_S0) ck_E0)⟩ ck_X0 ck_l0 (by decide +kernel)
set_option maxRecDepth 100000 in
/-- GlacierMail.need -/
def pl_s152 : ck_Sum := ((6, 1, 6), 249, [.inr (.inr (.inl 1)), .inl ((-2147483648), (-1), []), .inl (1, 6, [])], ([], [], []), ([], []), [(.inl 3, 249, ([], [], []))])
set_option maxRecDepth 100000 in
theorem pl_s152_s {X : Int → Int} {LX : Nat} : ck_Ok p2_OL X LX 133 pl_s152 := ck_ok_s (O := p2_OL) (X := X) (LX := LX) (E := []) (mi := 133) (cuts := []) (f := 76) (S := pl_s152) (lx := none) (XF := []) ⟨pl_nmu, ck_E0⟩ ck_X0 ck_l0 (by decide +kernel)
set_option maxRecDepth 100000 in
/-- GlacierMail.needLane -/
def pl_s153 : ck_Sum := ((7, 1, 6), 249, [.inr (.inr (.inl 1)), .inl ((-2147483648), (-1), [])], ([], [], []), ([], []), [(.inl 3, 249, ([], [], []))])
set_option maxRecDepth 100000 in
theorem pl_s153_s {X : Int → Int} {LX : Nat} : ck_Ok p2_OL X LX 132 pl_s153 := ck_ok_s (O := p2_OL) (X := X) (LX := LX) (E := [(133, [pl_s152])]) (mi := 132) (cuts := []) (f := 82) (S := pl_s153) (lx := none) (XF := []) ⟨pl_nmu, ck_E1 (ck_S1 pl_s152_s ck_S0) ck_E0⟩ ck_X0 ck_l0 (by decide +kernel)
set_option maxRecDepth 100000 in
/-- GlacierMail.speed -/
def pl_s154 : ck_Sum := ((8, 1, 6), 249, [.inr (.inr (.inl 1)), .inl ((-2147483648), (-1), []), .inl ((-2147483648), 2147483647, [])], ([], [], []), ([], []), [(.inl 3, 249, ([], [], []))])
set_option maxRecDepth 100000 in
theorem pl_s154_s {X : Int → Int} {LX : Nat} : ck_Ok p2_OL X LX 131 pl_s154 := ck_ok_s (O := p2_OL) (X := X) (LX := LX) (E := [(132, [pl_s153])]) (mi := 131) (cuts := []) (f := 76) (S := pl_s154) (lx := none) (XF := []) ⟨pl_nmu, ck_E1 (ck_S1 pl_s153_s ck_S0) ck_E0⟩ ck_X0 ck_l0 (by decide +kernel)
set_option maxRecDepth 100000 in
/-- GlacierMail.need -/
def pl_s155 : ck_Sum := ((6, 1, 6), 249, [.inr (.inr (.inl 1)), .inl (6, 2147483647, []), .inl (1, 6, [])], ([], [], []), ([], []), [(.inl 3, 249, ([], [], []))])
set_option maxRecDepth 100000 in
theorem pl_s155_s {X : Int → Int} {LX : Nat} : ck_Ok p2_OL X LX 133 pl_s155 := ck_ok_s (O := p2_OL) (X := X) (LX := LX) (E := []) (mi := 133) (cuts := []) (f := 82) (S := pl_s155) (lx := none) (XF := []) ⟨pl_nmu, ck_E0⟩ ck_X0 ck_l0 (by decide +kernel)
set_option maxRecDepth 100000 in
/-- GlacierMail.needLane -/
def pl_s156 : ck_Sum := ((7, 1, 6), 249, [.inr (.inr (.inl 1)), .inl (6, 2147483647, [])], ([], [], []), ([], []), [(.inl 3, 249, ([], [], []))])
set_option maxRecDepth 100000 in
theorem pl_s156_s {X : Int → Int} {LX : Nat} : ck_Ok p2_OL X LX 132 pl_s156 := ck_ok_s (O := p2_OL) (X := X) (LX := LX) (E := [(133, [pl_s155])]) (mi := 132) (cuts := []) (f := 82) (S := pl_s156) (lx := none) (XF := []) ⟨pl_nmu, ck_E1 (ck_S1 pl_s155_s ck_S0) ck_E0⟩ ck_X0 ck_l0 (by decide +kernel)
set_option maxRecDepth 100000 in
/-- GlacierMail.speed -/
def pl_s157 : ck_Sum := ((8, 1, 6), 249, [.inr (.inr (.inl 1)), .inl (6, 2147483647, []), .inl ((-2147483648), 2147483647, [])], ([], [], []), ([], []), [(.inl 3, 249, ([], [], []))])
set_option maxRecDepth 100000 in
theorem pl_s157_s {X : Int → Int} {LX : Nat} : ck_Ok p2_OL X LX 131 pl_s157 := ck_ok_s (O := p2_OL) (X := X) (LX := LX) (E := [(132, [pl_s156])]) (mi := 131) (cuts := []) (f := 76) (S := pl_s157) (lx := none) (XF := []) ⟨pl_nmu, ck_E1 (ck_S1 pl_s156_s ck_S0) ck_E0⟩ ck_X0 ck_l0 (by decide +kernel)
set_option maxRecDepth 100000 in
/-- GlacierMail.need -/
def pl_s158 : ck_Sum := ((6, 1, 6), 249, [.inr (.inr (.inl 1)), .inl (0, 5, []), .inl (1, 6, [])], ([], [], []), ([], []), [(.inr none, 249, ([], [], [])), (.inl 3, 249, ([], [], []))])
set_option maxRecDepth 100000 in
theorem pl_s158_s {X : Int → Int} {LX : Nat} : ck_Ok p2_OL X LX 133 pl_s158 := ck_ok_s (O := p2_OL) (X := X) (LX := LX) (E := []) (mi := 133) (cuts := []) (f := 82) (S := pl_s158) (lx := none) (XF := []) ⟨pl_nmu, ck_E0⟩ ck_X0 ck_l0 (by decide +kernel)
set_option maxRecDepth 100000 in
/-- GlacierMail.needLane -/
def pl_s159 : ck_Sum := ((7, 1, 6), 249, [.inr (.inr (.inl 1)), .inl (0, 5, [])], ([], [], []), ([], []), [(.inl 3, 249, ([], [], [])), (.inr none, 249, ([], [], []))])
set_option maxRecDepth 100000 in
theorem pl_s159_s {X : Int → Int} {LX : Nat} : ck_Ok p2_OL X LX 132 pl_s159 := ck_ok_s (O := p2_OL) (X := X) (LX := LX) (E := [(133, [pl_s158])]) (mi := 132) (cuts := []) (f := 84) (S := pl_s159) (lx := none) (XF := []) ⟨pl_nmu, ck_E1 (ck_S1 pl_s158_s ck_S0) ck_E0⟩ ck_X0 ck_l0 (by decide +kernel)
set_option maxRecDepth 100000 in
/-- GlacierMail.need -/
def pl_s160 : ck_Sum := ((6, 1, 6), 249, [.inr (.inr (.inl 1)), .inl ((-2147483648), (-1), []), .inl (10, 99, [])], ([], [], []), ([], []), [(.inl 3, 249, ([], [], []))])
set_option maxRecDepth 100000 in
theorem pl_s160_s {X : Int → Int} {LX : Nat} : ck_Ok p2_OL X LX 133 pl_s160 := ck_ok_s (O := p2_OL) (X := X) (LX := LX) (E := []) (mi := 133) (cuts := []) (f := 76) (S := pl_s160) (lx := none) (XF := []) ⟨pl_nmu, ck_E0⟩ ck_X0 ck_l0 (by decide +kernel)
set_option maxRecDepth 100000 in
/-- GlacierMail.needRow -/
def pl_s161 : ck_Sum := ((7, 1, 6), 249, [.inr (.inr (.inl 1)), .inl ((-2147483648), (-1), [])], ([], [], []), ([], []), [(.inl 3, 249, ([], [], []))])
set_option maxRecDepth 100000 in
theorem pl_s161_s {X : Int → Int} {LX : Nat} : ck_Ok p2_OL X LX 134 pl_s161 := ck_ok_s (O := p2_OL) (X := X) (LX := LX) (E := [(133, [pl_s160])]) (mi := 134) (cuts := []) (f := 82) (S := pl_s161) (lx := none) (XF := []) ⟨pl_nmu, ck_E1 (ck_S1 pl_s160_s ck_S0) ck_E0⟩ ck_X0 ck_l0 (by decide +kernel)
set_option maxRecDepth 100000 in
/-- GlacierMail.speed -/
def pl_s162 : ck_Sum := ((8, 2, 12), 249, [.inr (.inr (.inl 1)), .inl (0, 5, []), .inl ((-2147483648), (-1), [])], ([], [], []), ([], []), [(.inl 3, 249, ([], [], []))])
set_option maxRecDepth 100000 in
theorem pl_s162_s {X : Int → Int} {LX : Nat} : ck_Ok p2_OL X LX 131 pl_s162 := ck_ok_s (O := p2_OL) (X := X) (LX := LX) (E := [(132, [pl_s159]), (134, [pl_s161])]) (mi := 131) (cuts := []) (f := 82) (S := pl_s162) (lx := none) (XF := []) ⟨pl_nmu, ck_E1 (ck_S1 pl_s159_s ck_S0) (ck_E1 (ck_S1 pl_s161_s ck_S0) ck_E0)⟩ ck_X0 ck_l0 (by decide +kernel)
set_option maxRecDepth 100000 in
/-- GlacierMail.need -/
def pl_s163 : ck_Sum := ((6, 1, 6), 249, [.inr (.inr (.inl 1)), .inl (99, 2147483647, []), .inl (10, 99, [])], ([], [], []), ([], []), [(.inl 3, 249, ([], [], []))])
set_option maxRecDepth 100000 in
theorem pl_s163_s {X : Int → Int} {LX : Nat} : ck_Ok p2_OL X LX 133 pl_s163 := ck_ok_s (O := p2_OL) (X := X) (LX := LX) (E := []) (mi := 133) (cuts := []) (f := 82) (S := pl_s163) (lx := none) (XF := []) ⟨pl_nmu, ck_E0⟩ ck_X0 ck_l0 (by decide +kernel)
set_option maxRecDepth 100000 in
/-- GlacierMail.needRow -/
def pl_s164 : ck_Sum := ((7, 1, 6), 249, [.inr (.inr (.inl 1)), .inl (99, 2147483647, [])], ([], [], []), ([], []), [(.inl 3, 249, ([], [], []))])
set_option maxRecDepth 100000 in
theorem pl_s164_s {X : Int → Int} {LX : Nat} : ck_Ok p2_OL X LX 134 pl_s164 := ck_ok_s (O := p2_OL) (X := X) (LX := LX) (E := [(133, [pl_s163])]) (mi := 134) (cuts := []) (f := 82) (S := pl_s164) (lx := none) (XF := []) ⟨pl_nmu, ck_E1 (ck_S1 pl_s163_s ck_S0) ck_E0⟩ ck_X0 ck_l0 (by decide +kernel)
set_option maxRecDepth 100000 in
/-- GlacierMail.speed -/
def pl_s165 : ck_Sum := ((8, 2, 12), 249, [.inr (.inr (.inl 1)), .inl (0, 5, []), .inl (99, 2147483647, [])], ([], [], []), ([], []), [(.inl 3, 249, ([], [], []))])
set_option maxRecDepth 100000 in
theorem pl_s165_s {X : Int → Int} {LX : Nat} : ck_Ok p2_OL X LX 131 pl_s165 := ck_ok_s (O := p2_OL) (X := X) (LX := LX) (E := [(132, [pl_s159]), (134, [pl_s164])]) (mi := 131) (cuts := []) (f := 82) (S := pl_s165) (lx := none) (XF := []) ⟨pl_nmu, ck_E1 (ck_S1 pl_s159_s ck_S0) (ck_E1 (ck_S1 pl_s164_s ck_S0) ck_E0)⟩ ck_X0 ck_l0 (by decide +kernel)
set_option maxRecDepth 100000 in
/-- GlacierMail.need -/
def pl_s166 : ck_Sum := ((6, 1, 6), 249, [.inr (.inr (.inl 1)), .inl (0, 98, []), .inl (10, 99, [])], ([], [], []), ([], []), [(.inr none, 249, ([], [], [])), (.inl 3, 249, ([], [], []))])
set_option maxRecDepth 100000 in
theorem pl_s166_s {X : Int → Int} {LX : Nat} : ck_Ok p2_OL X LX 133 pl_s166 := ck_ok_s (O := p2_OL) (X := X) (LX := LX) (E := []) (mi := 133) (cuts := []) (f := 82) (S := pl_s166) (lx := none) (XF := []) ⟨pl_nmu, ck_E0⟩ ck_X0 ck_l0 (by decide +kernel)
set_option maxRecDepth 100000 in
/-- GlacierMail.needRow -/
def pl_s167 : ck_Sum := ((7, 1, 6), 249, [.inr (.inr (.inl 1)), .inl (0, 98, [])], ([], [], []), ([], []), [(.inl 3, 249, ([], [], [])), (.inr none, 249, ([], [], []))])
set_option maxRecDepth 100000 in
theorem pl_s167_s {X : Int → Int} {LX : Nat} : ck_Ok p2_OL X LX 134 pl_s167 := ck_ok_s (O := p2_OL) (X := X) (LX := LX) (E := [(133, [pl_s166])]) (mi := 134) (cuts := []) (f := 84) (S := pl_s167) (lx := none) (XF := []) ⟨pl_nmu, ck_E1 (ck_S1 pl_s166_s ck_S0) ck_E0⟩ ck_X0 ck_l0 (by decide +kernel)
set_option maxRecDepth 100000 in
/-- GlacierMail$Ice.speedAt -/
def pl_s168 : ck_Sum := ((0, 0, 0), 249, [.inr (.inr (.inl 200)), .inl (0, 5, []), .inl (0, 98, [])], ([], [], []), ([], []), [(.inr (some (.inl ((-1), 98, []))), 249, ([], [], []))])
set_option maxRecDepth 100000 in
theorem pl_s168_s {X : Int → Int} {LX : Nat} : ck_Ok p2_OL X LX 36 pl_s168 := ck_ok_s (O := p2_OL) (X := X) (LX := LX) (E := []) (mi := 36) (cuts := []) (f := 108) (S := pl_s168) (lx := none) (XF := []) ⟨pl_nmu, ck_E0⟩ ck_X0 ck_l0 (by decide +kernel)
set_option maxRecDepth 100000 in
/-- GlacierMail.speed -/
def pl_s169 : ck_Sum := ((8, 2, 12), 249, [.inr (.inr (.inl 1)), .inl (0, 5, []), .inl (0, 98, [])], ([], [], []), ([], []), [(.inl 3, 249, ([], [], [])), (.inr (some (.inl ((-1), 98, []))), 249, ([], [], []))])
set_option maxRecDepth 100000 in
theorem pl_s169_s {X : Int → Int} {LX : Nat} : ck_Ok p2_OL X LX 131 pl_s169 := ck_ok_s (O := p2_OL) (X := X) (LX := LX) (E := [(132, [pl_s159]), (134, [pl_s167]), (36, [pl_s168])]) (mi := 131) (cuts := []) (f := 94) (S := pl_s169) (lx := none) (XF := []) ⟨pl_nmu, ck_E1 (ck_S1 pl_s159_s ck_S0) (ck_E1 (ck_S1 pl_s167_s ck_S0) (ck_E1 (ck_S1 pl_s168_s ck_S0) ck_E0))⟩ ck_X0 ck_l0 (by decide +kernel)
set_option maxRecDepth 100000 in
/-- GlacierMail.flow -/
def pl_s170 : ck_Sum := ((8, 1, 6), 249, [.inr (.inr (.inl 1)), .inl ((-2147483648), (-1), []), .inl ((-2147483648), 2147483647, []), .inl ((-2147483648), 2147483647, [])], ([], [], []), ([], []), [(.inl 3, 249, ([], [], []))])
set_option maxRecDepth 100000 in
theorem pl_s170_s {X : Int → Int} {LX : Nat} : ck_Ok p2_OL X LX 136 pl_s170 := ck_ok_s (O := p2_OL) (X := X) (LX := LX) (E := [(132, [pl_s153])]) (mi := 136) (cuts := []) (f := 76) (S := pl_s170) (lx := none) (XF := []) ⟨pl_nmu, ck_E1 (ck_S1 pl_s153_s ck_S0) ck_E0⟩ ck_X0 ck_l0 (by decide +kernel)
set_option maxRecDepth 100000 in
/-- GlacierMail.flow -/
def pl_s171 : ck_Sum := ((8, 1, 6), 249, [.inr (.inr (.inl 1)), .inl (6, 2147483647, []), .inl ((-2147483648), 2147483647, []), .inl ((-2147483648), 2147483647, [])], ([], [], []), ([], []), [(.inl 3, 249, ([], [], []))])
set_option maxRecDepth 100000 in
theorem pl_s171_s {X : Int → Int} {LX : Nat} : ck_Ok p2_OL X LX 136 pl_s171 := ck_ok_s (O := p2_OL) (X := X) (LX := LX) (E := [(132, [pl_s156])]) (mi := 136) (cuts := []) (f := 76) (S := pl_s171) (lx := none) (XF := []) ⟨pl_nmu, ck_E1 (ck_S1 pl_s156_s ck_S0) ck_E0⟩ ck_X0 ck_l0 (by decide +kernel)
set_option maxRecDepth 100000 in
/-- GlacierMail.flow -/
def pl_s172 : ck_Sum := ((8, 2, 12), 249, [.inr (.inr (.inl 1)), .inl (0, 5, []), .inl ((-2147483648), (-1), []), .inl ((-2147483648), 2147483647, [])], ([], [], []), ([], []), [(.inl 3, 249, ([], [], []))])
set_option maxRecDepth 100000 in
theorem pl_s172_s {X : Int → Int} {LX : Nat} : ck_Ok p2_OL X LX 136 pl_s172 := ck_ok_s (O := p2_OL) (X := X) (LX := LX) (E := [(132, [pl_s159]), (134, [pl_s161])]) (mi := 136) (cuts := []) (f := 82) (S := pl_s172) (lx := none) (XF := []) ⟨pl_nmu, ck_E1 (ck_S1 pl_s159_s ck_S0) (ck_E1 (ck_S1 pl_s161_s ck_S0) ck_E0)⟩ ck_X0 ck_l0 (by decide +kernel)
set_option maxRecDepth 100000 in
/-- GlacierMail.flow -/
def pl_s173 : ck_Sum := ((8, 2, 12), 249, [.inr (.inr (.inl 1)), .inl (0, 5, []), .inl (99, 2147483647, []), .inl ((-2147483648), 2147483647, [])], ([], [], []), ([], []), [(.inl 3, 249, ([], [], []))])
set_option maxRecDepth 100000 in
theorem pl_s173_s {X : Int → Int} {LX : Nat} : ck_Ok p2_OL X LX 136 pl_s173 := ck_ok_s (O := p2_OL) (X := X) (LX := LX) (E := [(132, [pl_s159]), (134, [pl_s164])]) (mi := 136) (cuts := []) (f := 82) (S := pl_s173) (lx := none) (XF := []) ⟨pl_nmu, ck_E1 (ck_S1 pl_s159_s ck_S0) (ck_E1 (ck_S1 pl_s164_s ck_S0) ck_E0)⟩ ck_X0 ck_l0 (by decide +kernel)
set_option maxRecDepth 100000 in
/-- GlacierMail.flow -/
def pl_s174 : ck_Sum := ((8, 3, 18), 249, [.inr (.inr (.inl 1)), .inl (0, 5, []), .inl (0, 98, []), .inl ((-2147483648), (-1), [])], ([], [], []), ([], []), [(.inl 3, 249, ([], [], [])), (.inl 0, 249, ([], [], []))])
set_option maxRecDepth 100000 in
theorem pl_s174_s {X : Int → Int} {LX : Nat} : ck_Ok p2_OL X LX 136 pl_s174 := ck_ok_s (O := p2_OL) (X := X) (LX := LX) (E := [(132, [pl_s159]), (134, [pl_s167]), (129, [pl_s145])]) (mi := 136) (cuts := []) (f := 88) (S := pl_s174) (lx := none) (XF := []) ⟨pl_nmu, ck_E1 (ck_S1 pl_s159_s ck_S0) (ck_E1 (ck_S1 pl_s167_s ck_S0) (ck_E1 (ck_S1 pl_s145_s ck_S0) ck_E0))⟩ ck_X0 ck_l0 (by decide +kernel)
set_option maxRecDepth 100000 in
/-- GlacierMail.flow -/
def pl_s175 : ck_Sum := ((8, 3, 18), 249, [.inr (.inr (.inl 1)), .inl (0, 5, []), .inl (0, 98, []), .inl (300, 2147483647, [])], ([], [], []), ([], []), [(.inl 3, 249, ([], [], [])), (.inl 0, 249, ([], [], []))])
set_option maxRecDepth 100000 in
theorem pl_s175_s {X : Int → Int} {LX : Nat} : ck_Ok p2_OL X LX 136 pl_s175 := ck_ok_s (O := p2_OL) (X := X) (LX := LX) (E := [(132, [pl_s159]), (134, [pl_s167]), (129, [pl_s147])]) (mi := 136) (cuts := []) (f := 88) (S := pl_s175) (lx := none) (XF := []) ⟨pl_nmu, ck_E1 (ck_S1 pl_s159_s ck_S0) (ck_E1 (ck_S1 pl_s167_s ck_S0) (ck_E1 (ck_S1 pl_s147_s ck_S0) ck_E0))⟩ ck_X0 ck_l0 (by decide +kernel)
set_option maxRecDepth 100000 in
/-- GlacierMail$Ice.speedAt -/
def pl_s176 : ck_Sum := ((0, 0, 0), 249, [.inr (.inr (.inl 200)), .inl ((-2147483648), 2147483647, []), .inl ((-2147483648), 2147483647, [])], ([], [], []), ([], []), [(.inr (some (.inl (ck_one 0))), 249, ([], [], [])), (.inr (some (.inl ((-1), 98, []))), 249, ([], [], []))])
set_option maxRecDepth 100000 in
theorem pl_s176_s {X : Int → Int} {LX : Nat} : ck_Ok p2_OL X LX 36 pl_s176 := ck_ok_s (O := p2_OL) (X := X) (LX := LX) (E := []) (mi := 36) (cuts := []) (f := 108) (S := pl_s176) (lx := none) (XF := []) ⟨pl_nmu, ck_E0⟩ ck_X0 ck_l0 (by decide +kernel)
set_option maxRecDepth 100000 in
/-- java/util/Arrays.fill -/
def pl_s177 : ck_Sum := ((0, 0, 0), 249, [.inr (.inr (.inl 205)), .inr (.inl (ck_one (-1)))], ([], [], []), ([(205, 0, 14849)], []), [(.inr none, 249, ([], [], []))])
set_option maxRecDepth 100000 in
theorem pl_s177_e : ck_ok p2_OL none [] [] 38 [(6, [some (.inr (.inr (.inl 205))), some (.inr (.inl (ck_one (-1)))), none, some (.inl (0, 14850, [])), some (.inl (ck_one 14850))], ([], [], []), 100, .inl 3, true)] 130 pl_s177 = true := by decide +kernel
theorem pl_s177_s {X : Int → Int} {LX : Nat} : ck_Ok p2_OL X LX 38 pl_s177 := ck_ok_s ⟨pl_nmu, ck_E0⟩ ck_X0 ck_l0 pl_s177_e
set_option maxRecDepth 100000 in
/-- GlacierMail$Ice.recalledFlow -/
def pl_s178 : ck_Sum := ((1, 0, 0), 249, [.inr (.inr (.inl 200)), .inl ((-2147483648), 2147483647, [])], ([], [], []), ([(200, 6, 6), (205, 0, 14849)], []), [(.inr (some (.inl (0, 31, []))), 249, ([], [], [(200, 6, 6, ck_one 0)]))])
set_option maxRecDepth 100000 in
def pl_s178a : ck_Sum := ((1, 0, 0), 249, [.inr (.inr (.inl 200)), .inl ((-2147483648), (-1), [])], ([], [], []), ([(200, 6, 6), (205, 0, 14849)], []), [(.inr (some (.inl (0, 31, []))), 249, ([], [], [(200, 6, 6, ck_one 0)]))])
set_option maxRecDepth 100000 in
def pl_s178b : ck_Sum := ((1, 0, 0), 249, [.inr (.inr (.inl 200)), .inl (0, 2147483647, [])], ([], [], []), ([(200, 6, 6), (205, 0, 14849)], []), [(.inr (some (.inl (0, 31, []))), 249, ([], [], [(200, 6, 6, ck_one 0)]))])
def rf_W : List (Nat × Int × Int) × List (Nat × Int) := ([(200, 6, 6), (205, 0, 14849)], [])
def rf_o : List ck_Oc := [(.inr (some (.inl (0, 31, []))), 249, ([], [], [(200, 6, 6, ck_one 0)]))]
set_option maxRecDepth 100000 in
theorem rf_a17 : ck_go p2_OL none [] [] 37 1 249 rf_W rf_o [] 200 true [] 0 0 17 [some (.inr (.inr (.inl 200))), some (.inl ((-2147483648), (-1), [])), none] [] 249 ([], [], []) = true := by decide +kernel
set_option maxRecDepth 100000 in
theorem rf_a22 : ck_go p2_OL none [] [] 37 1 249 rf_W rf_o [] 200 true [] 0 0 22 [some (.inr (.inr (.inl 200))), some (.inl ((-2147483648), (-1), [])), none] [] 249 ([], [], [(200, 6, 6, ck_one 0)]) = true := by decide +kernel
set_option maxRecDepth 100000 in
theorem rf_b17 : ck_go p2_OL none [] [] 37 1 249 rf_W rf_o [] 200 true [] 0 0 17 [some (.inr (.inr (.inl 200))), some (.inl (0, 2147483647, [])), none] [] 249 ([], [], []) = true := by decide +kernel
set_option maxRecDepth 100000 in
theorem rf_b22 : ck_go p2_OL none [] [] 37 1 249 rf_W rf_o [] 200 true [] 0 0 22 [some (.inr (.inr (.inl 200))), some (.inl (0, 2147483647, [])), none] [] 249 ([], [], [(200, 6, 6, ck_one 0)]) = true := by decide +kernel
/-- the flows are forgotten by hand: a call with a long -/
theorem rf_s {X : Int → Int} {LX : Nat} {a : ck_I} (g17 : ck_go p2_OL none [] [] 37 1 249 rf_W rf_o [] 200 true [] 0 0 17 [some (.inr (.inr (.inl 200))), some (.inl a), none] [] 249 ([], [], []) = true) (g22 : ck_go p2_OL none [] [] 37 1 249 rf_W rf_o [] 200 true [] 0 0 22 [some (.inr (.inr (.inl 200))), some (.inl a), none] [] 249 ([], [], [(200, 6, 6, ck_one 0)]) = true) : ck_Ok p2_OL X LX 37 ((1, 0, 0), 249, [.inr (.inr (.inl 200)), .inl a], ([], [], []), rf_W, rf_o) := by
  intro d σ vs n K R M hd hn hvs hnm hF _
  have hd : 1 ≤ d := hd
  have hn : n = 249 := hn
  subst hn
  refine gm_Wp_wk hd (Nat.le_refl 0) (Nat.le_refl 0) ?_
  obtain ⟨v0, w0, rfl, g0, g1⟩ : ∃ v ws, vs = v :: ws ∧ ck_ga σ (.inr (.inr (.inl 200))) v ∧ ck_gas σ [.inl a] ws := hvs
  obtain ⟨v1, w1, rfl, g2, g3⟩ : ∃ v ws, w0 = v :: ws ∧ ck_ga σ (.inl a) v ∧ ck_gas σ [] ws := g1
  have g0 : v0 = gm_vr 200 := g0
  have g3 : w1 = [] := g3
  subst g0
  subst g3
  obtain ⟨x, rfl, rx, gx⟩ := g2
  have l0 : (gm_ent 37 [gm_vr 200, gm_vi x])[0]? = some (some (gm_vr 200)) := rfl
  have l1 : (gm_ent 37 [gm_vr 200, gm_vi x])[1]? = some (some (gm_vi x)) := rfl
  have hL : ck_gl σ [some (.inr (.inr (.inl 200))), some (.inl a), none] (gm_ent 37 [gm_vr 200, gm_vi x]) := by
    refine ⟨by unfold gm_ent; simp [show gm_ml 37 = 3 by decide +kernel], fun j b hb => ?_⟩
    rcases j with _ | _ | _ | j
    · have hb : some (some (.inr (.inr (.inl 200)))) = some (some b) := hb
      cases hb
      exact ⟨_, l0, rfl⟩
    · have hb : some (some (.inl a)) = some (some b) := hb
      cases hb
      exact ⟨_, l1, x, rfl, rx, gx⟩
    · have hb : some none = some (some b) := hb
      cases hb
    · have hb : none = some (some b) := hb
      cases hb
  generalize gm_ent 37 [gm_vr 200, gm_vi x] = L at l0 l1 hL ⊢
  show gm_Wp X LX 1 0 0 37 0 L [] 249 K R M (ck_Q p2_OL σ rf_W 249 K R M rf_o)
  obtain ⟨k1, k2, k3⟩ := hF.1 200 (8, 0) (by decide +kernel)
  have r5 : R 200 ((5 : Nat) : Int) = 205 := (hF.2.1 200 5 205 (by decide +kernel)).2
  refine gm_sz (gm_p_load (pc := 0) (i := .aload_n 0) (sr := 2) (j := 0) (by decide +kernel) rfl l0 rfl) ?_
  refine gm_sz (gm_p_get (pc := 1) (ix := 30) (ci := 4) (j := 6) (by decide +kernel) ⟨k1, k2⟩ (by rw [k3]) (by decide +kernel)) ?_
  rw [if_neg (show ¬ gm_isr 4 6 = true by decide +kernel)]
  obtain ⟨t1, t2⟩ := (gm_tyr_s hF (show gm_tyr p2_OL 200 6 6 = some (0, 1) by decide +kernel)).2 6 (Int.le_refl _) (Int.le_refl _)
  refine gm_b_if (cc := .eq) (pc := 4) (off := 18) (by decide +kernel) (by decide) (fun hp => ?_) (fun _ => ?_)
  · have t3 : gm_ir (M 200 ((6 : Nat) : Int)) := t1
    rw [gm_cm_w t3 (show gm_ir 0 from ⟨by decide, by decide⟩)] at hp
    have hp : M 200 6 = 0 := hp
    refine ck_go_s (σ0 := σ) (cuts := []) (by decide) ⟨pl_nmu, ck_E0⟩ ck_X0 ck_l0 200 true [] 0 0 22 [some (.inr (.inr (.inl 200))), some (.inl a), none] [] 249 ([], [], [(200, 6, 6, ck_one 0)]) σ L [] K R M (fun _ _ => rfl) (fun _ h => nomatch h) ⟨hF, hL, rfl, ⟨(fun q hq => nomatch hq), (fun q hq => nomatch hq), fun q hq => ?_⟩, ck_fr_0⟩ g22
    rw [List.mem_singleton.mp hq]
    refine ⟨by show 200 ≤ 249; decide, fun j j1 j2 => ?_⟩
    have j1 : (6 : Int) ≤ j := j1
    have j2 : j ≤ (6 : Int) := j2
    have j3 : j = 6 := by omega
    subst j3
    exact ⟨t1, by show 0 ≤ M 200 6; omega, by show M 200 6 ≤ 0; omega, fun q hq => nomatch hq⟩
  · refine gm_sz (gm_p_load (pc := 7) (i := .aload_n 0) (sr := 2) (j := 0) (by decide +kernel) rfl l0 rfl) ?_
    refine gm_sz (gm_p_get (pc := 8) (ix := 26) (ci := 4) (j := 5) (by decide +kernel) ⟨k1, k2⟩ (by rw [k3]) (by decide +kernel)) ?_
    rw [if_pos (show gm_isr 4 5 = true by decide +kernel), r5]
    refine gm_sz (gm_p_ldcl (pc := 11) (ix := 116) (v := -1) (by decide +kernel) (by decide +kernel)) ?_
    refine gm_c_stat2 (mj := 38) (ix := 118) (pc := 14) (u0 := gm_vr 205) (u1 := gm_vl (-1)) (st := []) (d' := 0) (bc' := 0) (bs' := 0) (by decide +kernel) (by decide +kernel) (by decide +kernel) (by decide +kernel) (show 2 = gm_na 38 by decide +kernel) (by simp [gm_sort]) (show 3 ≤ gm_ml 38 by decide +kernel) (by decide) (by decide) (Nat.le_refl _) (Nat.le_refl _) ?_
    have c0 : ck_gi σ (ck_one (-1)) (-1) := ⟨Int.le_refl (-1), Int.le_refl (-1), fun q hq => nomatch hq⟩
    have c1 : ck_ga σ (.inr (.inl (ck_one (-1)))) (gm_vl (-1)) := ⟨-1, rfl, (show ck_r6 (-1) from ⟨by decide, by decide⟩), c0⟩
    have c2 : ck_gas σ [.inr (.inl (ck_one (-1)))] [gm_vl (-1)] := ⟨gm_vl (-1), [], rfl, c1, rfl⟩
    have c3 : ck_gas σ pl_s177.2.2.1 [gm_vr 205, gm_vl (-1)] := (show ck_gas σ [.inr (.inr (.inl 205)), .inr (.inl (ck_one (-1)))] [gm_vr 205, gm_vl (-1)] from ⟨gm_vr 205, [gm_vl (-1)], rfl, rfl, c2⟩)
    refine gm_Wp_mono (fun o n1 K1 R1 M1 h => ?_) (pl_s177_s 0 σ [gm_vr 205, gm_vl (-1)] 249 K R M (Nat.le_refl _) rfl c3 hnm hF ⟨(fun q hq => nomatch hq), (fun q hq => nomatch hq), fun q hq => nomatch hq⟩)
    obtain ⟨f1, f2, oc, f3, f4, f5, -⟩ := h
    rw [List.mem_singleton.mp f3] at f4 f5
    have f5 : n1 = 249 := f5
    subst f5
    have f2 : ck_fr ([(205, 0, 14849)], []) 249 K R M 249 K1 R1 M1 := f2
    rcases o with (_ | v) | x
    · show gm_Wp X LX 1 0 0 37 17 L [] 249 K1 R1 M1 (ck_Q p2_OL σ rf_W 249 K R M rf_o)
      exact ck_go_s (σ0 := σ) (cuts := []) (by decide) ⟨pl_nmu, ck_E0⟩ ck_X0 ck_l0 200 true [] 0 0 17 [some (.inr (.inr (.inl 200))), some (.inl a), none] [] 249 ([], [], []) σ L [] K1 R1 M1 (fun _ _ => rfl) (fun _ h => nomatch h) ⟨f1, hL, rfl, ⟨(fun q hq => nomatch hq), (fun q hq => nomatch hq), fun q hq => nomatch hq⟩, ck_fr_tr ck_fr_0 f2 (by decide) (by decide)⟩ g17
    · exact absurd f4 id
    · exact absurd f4 id
/-- a number below 0, or not: its quotient is looked at in both -/
theorem pl_s178_s {X : Int → Int} {LX : Nat} : ck_Ok p2_OL X LX 37 pl_s178 := by
  have ha : ck_Ok p2_OL X LX 37 pl_s178a := rf_s rf_a17 rf_a22
  have hb : ck_Ok p2_OL X LX 37 pl_s178b := rf_s rf_b17 rf_b22
  intro d σ vs n K R M hd hn hvs hnm hF hf
  have hs : ck_gas σ pl_s178a.2.2.1 vs ∨ ck_gas σ pl_s178b.2.2.1 vs := by
    obtain ⟨v0, w0, rfl, g0, g1⟩ : ∃ v ws, vs = v :: ws ∧ ck_ga σ (.inr (.inr (.inl 200))) v ∧ ck_gas σ (.inl ((-2147483648), 2147483647, []) :: []) ws := hvs
    obtain ⟨v1, w1, rfl, ⟨x, rfl, rx, x1, x2, x3⟩, g2⟩ : ∃ v ws, w0 = v :: ws ∧ ck_ga σ (.inl ((-2147483648), 2147483647, [])) v ∧ ck_gas σ [] ws := g1
    by_cases hx : x < 0
    · have h1 : ∃ v ws, gm_vi x :: w1 = v :: ws ∧ ck_ga σ (.inl ((-2147483648), (-1), [])) v ∧ ck_gas σ [] ws := ⟨_, _, rfl, ⟨x, rfl, rx, x1, by show x ≤ -1; omega, x3⟩, g2⟩
      have h2 : ∃ v ws, v0 :: gm_vi x :: w1 = v :: ws ∧ ck_ga σ (.inr (.inr (.inl 200))) v ∧ ck_gas σ (.inl ((-2147483648), (-1), []) :: []) ws := ⟨_, _, rfl, g0, h1⟩
      exact Or.inl h2
    · have h1 : ∃ v ws, gm_vi x :: w1 = v :: ws ∧ ck_ga σ (.inl (0, 2147483647, [])) v ∧ ck_gas σ [] ws := ⟨_, _, rfl, ⟨x, rfl, rx, by show 0 ≤ x; omega, x2, x3⟩, g2⟩
      have h2 : ∃ v ws, v0 :: gm_vi x :: w1 = v :: ws ∧ ck_ga σ (.inr (.inr (.inl 200))) v ∧ ck_gas σ (.inl (0, 2147483647, []) :: []) ws := ⟨_, _, rfl, g0, h1⟩
      exact Or.inr h2
  rcases hs with h | h
  · exact ha d σ vs n K R M hd hn h hnm hF hf
  · exact hb d σ vs n K R M hd hn h hnm hF hf
set_option maxRecDepth 100000 in
/-- GlacierMail$Ice.heatIn -/
def pl_s179 : ck_Sum := ((0, 0, 0), 249, [.inr (.inr (.inl 200)), .inl ((-2147483648), 2147483647, [])], ([], [], []), ([], []), [(.inr (some (.inl (0, 9, []))), 249, ([], [], []))])
set_option maxRecDepth 100000 in
theorem pl_s179_s {X : Int → Int} {LX : Nat} : ck_Ok p2_OL X LX 34 pl_s179 := ck_ok_s (O := p2_OL) (X := X) (LX := LX) (E := []) (mi := 34) (cuts := []) (f := 92) (S := pl_s179) (lx := none) (XF := []) ⟨pl_nmu, ck_E0⟩ ck_X0 ck_l0 (by decide +kernel)
end
