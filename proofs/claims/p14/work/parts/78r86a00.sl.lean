/-! EVERY CALL OF THE CLASS ENDS, under a law (laid by wip/am/p2l.py). -/
set_option maxRecDepth 100000 in
/-- GlacierMail.putNumber -/
def pl_s0 : ck_Sum := ((0, 0, 0), 249, [.inr (.inr (.inl 1)), .inl ((-2147483648), 2147483647, [])], ([], [], [(1, 1, 1, (0, 380, [(6, 0)]))]), ([(1, 1, 1), (2, 0, 383)], []), [(.inr none, 249, ([], [], [(1, 1, 1, (4, 384, [(6, 4)]))]))])
set_option maxRecDepth 100000 in
theorem pl_s0_e : ck_ok p2_OL none [] [] 20 [] 280 pl_s0 = true := by decide +kernel
theorem pl_s0_s {X : Int → Int} {LX : Nat} : ck_Ok p2_OL X LX 20 pl_s0 := ck_ok_s ⟨pl_nmu, ck_E0⟩ ck_X0 ck_l0 pl_s0_e
set_option maxRecDepth 100000 in
/-- GlacierMail.putNumber -/
def pl_s1 : ck_Sum := ((0, 0, 0), 249, [.inr (.inr (.inl 1)), .inl ((-2147483648), 2147483647, [])], ([], [], [(1, 1, 1, (4, 384, [(6, 0)]))]), ([(1, 1, 1), (2, 4, 387)], []), [(.inr none, 249, ([], [], [(1, 1, 1, (8, 388, [(6, 4)]))]))])
set_option maxRecDepth 100000 in
theorem pl_s1_e : ck_ok p2_OL none [] [] 20 [] 280 pl_s1 = true := by decide +kernel
theorem pl_s1_s {X : Int → Int} {LX : Nat} : ck_Ok p2_OL X LX 20 pl_s1 := ck_ok_s ⟨pl_nmu, ck_E0⟩ ck_X0 ck_l0 pl_s1_e
set_option maxRecDepth 100000 in
/-- GlacierMail.putNumber -/
def pl_s2 : ck_Sum := ((0, 0, 0), 249, [.inr (.inr (.inl 1)), .inl ((-2147483648), 2147483647, [])], ([], [], [(1, 1, 1, (8, 388, [(6, 0)]))]), ([(1, 1, 1), (2, 8, 391)], []), [(.inr none, 249, ([], [], [(1, 1, 1, (12, 392, [(6, 4)]))]))])
set_option maxRecDepth 100000 in
theorem pl_s2_e : ck_ok p2_OL none [] [] 20 [] 280 pl_s2 = true := by decide +kernel
theorem pl_s2_s {X : Int → Int} {LX : Nat} : ck_Ok p2_OL X LX 20 pl_s2 := ck_ok_s ⟨pl_nmu, ck_E0⟩ ck_X0 ck_l0 pl_s2_e
set_option maxRecDepth 100000 in
/-- GlacierMail.putNumber -/
def pl_s3 : ck_Sum := ((0, 0, 0), 249, [.inr (.inr (.inl 1)), .inl ((-2147483648), 2147483647, [])], ([], [], [(1, 1, 1, (12, 392, [(6, 0)]))]), ([(1, 1, 1), (2, 12, 395)], []), [(.inr none, 249, ([], [], [(1, 1, 1, (16, 396, [(6, 4)]))]))])
set_option maxRecDepth 100000 in
theorem pl_s3_e : ck_ok p2_OL none [] [] 20 [] 280 pl_s3 = true := by decide +kernel
theorem pl_s3_s {X : Int → Int} {LX : Nat} : ck_Ok p2_OL X LX 20 pl_s3 := ck_ok_s ⟨pl_nmu, ck_E0⟩ ck_X0 ck_l0 pl_s3_e
set_option maxRecDepth 100000 in
/-- GlacierMail.putNumber -/
def pl_s4 : ck_Sum := ((0, 0, 0), 249, [.inr (.inr (.inl 1)), .inl ((-2147483648), 2147483647, [])], ([], [], [(1, 1, 1, (16, 396, [(6, 0)]))]), ([(1, 1, 1), (2, 16, 399)], []), [(.inr none, 249, ([], [], [(1, 1, 1, (20, 400, [(6, 4)]))]))])
set_option maxRecDepth 100000 in
theorem pl_s4_e : ck_ok p2_OL none [] [] 20 [] 280 pl_s4 = true := by decide +kernel
theorem pl_s4_s {X : Int → Int} {LX : Nat} : ck_Ok p2_OL X LX 20 pl_s4 := ck_ok_s ⟨pl_nmu, ck_E0⟩ ck_X0 ck_l0 pl_s4_e
set_option maxRecDepth 100000 in
/-- GlacierMail.feed -/
def pl_s5 : ck_Sum := ((1, 0, 0), 249, [.inr (.inr (.inl 1)), .inl ((-2147483648), 2147483647, []), .inl ((-2147483648), 2147483647, []), .inl ((-2147483648), 2147483647, []), .inl ((-2147483648), 2147483647, []), .inl ((-2147483648), 2147483647, [])], ([], [], [(1, 1, 1, (0, 400, [(6, 0)]))]), ([(1, 1, 1), (2, 0, 399)], []), [(.inr (some (.inl (20, 400, [(6, 20)]))), 249, ([], [], [(1, 1, 1, (20, 400, [(6, 20)]))])), (.inr (some (.inl (ck_one (-1)))), 249, ([], [], [(1, 1, 1, (381, 400, [(6, 0)]))]))])
set_option maxRecDepth 100000 in
theorem pl_s5_e : ck_ok p2_OL none [] [(20, [pl_s0, pl_s1, pl_s2, pl_s3, pl_s4])] 19 [] 118 pl_s5 = true := by decide +kernel
theorem pl_s5_s {X : Int → Int} {LX : Nat} : ck_Ok p2_OL X LX 19 pl_s5 := ck_ok_s ⟨pl_nmu, ck_E1 (ck_S1 pl_s0_s (ck_S1 pl_s1_s (ck_S1 pl_s2_s (ck_S1 pl_s3_s (ck_S1 pl_s4_s ck_S0))))) ck_E0⟩ ck_X0 ck_l0 pl_s5_e
set_option maxRecDepth 100000 in
/-- GlacierMail.end -/
def pl_s6 : ck_Sum := ((0, 0, 0), 249, [.inr (.inr (.inl 1)), .inl ((-2147483648), 2147483647, [])], ([], [], [(1, 1, 1, (0, 400, [(6, 0)]))]), ([(1, 1, 1)], []), [(.inr (some (.inl (ck_one 0))), 249, ([], [], [(1, 1, 1, (0, 400, [(6, 0)]))])), (.inr (some (.inl (ck_one 1))), 249, ([], [], []))])
set_option maxRecDepth 100000 in
theorem pl_s6_e : ck_ok p2_OL none [] [] 21 [] 92 pl_s6 = true := by decide +kernel
theorem pl_s6_s {X : Int → Int} {LX : Nat} : ck_Ok p2_OL X LX 21 pl_s6 := ck_ok_s ⟨pl_nmu, ck_E0⟩ ck_X0 ck_l0 pl_s6_e
set_option maxRecDepth 100000 in
/-- GlacierMail$Rows.copyFrom -/
def pl_s7 : ck_Sum := ((1, 0, 0), 249, [.inr (.inr (.inl 17)), .inr (.inr (.inl 4))], ([], [], []), ([(17, 3, 3), (18, 0, 55)], []), [(.inr none, 249, ([], [], []))])
set_option maxRecDepth 100000 in
theorem pl_s7_e : ck_ok p2_OL none [] [] 58 [] 114 pl_s7 = true := by decide +kernel
theorem pl_s7_s {X : Int → Int} {LX : Nat} : ck_Ok p2_OL X LX 58 pl_s7 := ck_ok_s ⟨pl_nmu, ck_E0⟩ ck_X0 ck_l0 pl_s7_e
set_option maxRecDepth 100000 in
/-- GlacierMail$Rows.copyFrom -/
def pl_s8 : ck_Sum := ((1, 0, 0), 249, [.inr (.inr (.inl 19)), .inr (.inr (.inl 6))], ([], [], []), ([(19, 3, 3), (20, 0, 23)], []), [(.inr none, 249, ([], [], []))])
set_option maxRecDepth 100000 in
theorem pl_s8_e : ck_ok p2_OL none [] [] 58 [] 114 pl_s8 = true := by decide +kernel
theorem pl_s8_s {X : Int → Int} {LX : Nat} : ck_Ok p2_OL X LX 58 pl_s8 := ck_ok_s ⟨pl_nmu, ck_E0⟩ ck_X0 ck_l0 pl_s8_e
set_option maxRecDepth 100000 in
/-- GlacierMail$Rows.copyFrom -/
def pl_s9 : ck_Sum := ((1, 0, 0), 249, [.inr (.inr (.inl 21)), .inr (.inr (.inl 8))], ([], [], []), ([(21, 3, 3), (22, 0, 23)], []), [(.inr none, 249, ([], [], []))])
set_option maxRecDepth 100000 in
theorem pl_s9_e : ck_ok p2_OL none [] [] 58 [] 114 pl_s9 = true := by decide +kernel
theorem pl_s9_s {X : Int → Int} {LX : Nat} : ck_Ok p2_OL X LX 58 pl_s9 := ck_ok_s ⟨pl_nmu, ck_E0⟩ ck_X0 ck_l0 pl_s9_e
set_option maxRecDepth 100000 in
/-- GlacierMail$Rows.copyFrom -/
def pl_s10 : ck_Sum := ((1, 0, 0), 249, [.inr (.inr (.inl 23)), .inr (.inr (.inl 10))], ([], [], []), ([(23, 3, 3), (24, 0, 167)], []), [(.inr none, 249, ([], [], []))])
set_option maxRecDepth 100000 in
theorem pl_s10_e : ck_ok p2_OL none [] [] 58 [] 114 pl_s10 = true := by decide +kernel
theorem pl_s10_s {X : Int → Int} {LX : Nat} : ck_Ok p2_OL X LX 58 pl_s10 := ck_ok_s ⟨pl_nmu, ck_E0⟩ ck_X0 ck_l0 pl_s10_e
set_option maxRecDepth 100000 in
/-- GlacierMail$Rows.copyFrom -/
def pl_s11 : ck_Sum := ((1, 0, 0), 249, [.inr (.inr (.inl 25)), .inr (.inr (.inl 12))], ([], [], []), ([(25, 3, 3), (26, 0, 35)], []), [(.inr none, 249, ([], [], []))])
set_option maxRecDepth 100000 in
theorem pl_s11_e : ck_ok p2_OL none [] [] 58 [] 114 pl_s11 = true := by decide +kernel
theorem pl_s11_s {X : Int → Int} {LX : Nat} : ck_Ok p2_OL X LX 58 pl_s11 := ck_ok_s ⟨pl_nmu, ck_E0⟩ ck_X0 ck_l0 pl_s11_e
set_option maxRecDepth 100000 in
/-- GlacierMail$Rows.copyFrom -/
def pl_s12 : ck_Sum := ((1, 0, 0), 249, [.inr (.inr (.inl 27)), .inr (.inr (.inl 14))], ([], [], []), ([(27, 3, 3), (28, 0, 71)], []), [(.inr none, 249, ([], [], []))])
set_option maxRecDepth 100000 in
theorem pl_s12_e : ck_ok p2_OL none [] [] 58 [] 114 pl_s12 = true := by decide +kernel
theorem pl_s12_s {X : Int → Int} {LX : Nat} : ck_Ok p2_OL X LX 58 pl_s12 := ck_ok_s ⟨pl_nmu, ck_E0⟩ ck_X0 ck_l0 pl_s12_e
set_option maxRecDepth 100000 in
/-- GlacierMail$State.copyFrom -/
def pl_s13 : ck_Sum := ((2, 0, 0), 249, [.inr (.inr (.inl 16)), .inr (.inr (.inl 3))], ([], [(3, 8, 246), (16, 8, 100016)], [(3, 6, 6, (0, 299, [(10, 0)]))]), ([(16, 0, 7), (17, 3, 3), (18, 0, 55), (19, 3, 3), (20, 0, 23), (21, 3, 3), (22, 0, 23), (23, 3, 3), (24, 0, 167), (25, 3, 3), (26, 0, 35), (27, 3, 3), (28, 0, 71)], [(16, 8)]), [(.inr none, 249, ([], [(16, 8, 246)], [(16, 6, 6, (0, 299, [(10, 0)]))]))])
set_option maxRecDepth 100000 in
theorem pl_s13_e : ck_ok p2_OL none [] [(58, [pl_s7, pl_s8, pl_s9, pl_s10, pl_s11, pl_s12])] 57 [] 204 pl_s13 = true := by decide +kernel
theorem pl_s13_s {X : Int → Int} {LX : Nat} : ck_Ok p2_OL X LX 57 pl_s13 := ck_ok_s ⟨pl_nmu, ck_E1 (ck_S1 pl_s7_s (ck_S1 pl_s8_s (ck_S1 pl_s9_s (ck_S1 pl_s10_s (ck_S1 pl_s11_s (ck_S1 pl_s12_s ck_S0)))))) ck_E0⟩ ck_X0 ck_l0 pl_s13_e
set_option maxRecDepth 100000 in
/-- GlacierMail$Rows.copyFrom -/
def pl_s14 : ck_Sum := ((1, 0, 0), 249, [.inr (.inr (.inl 4)), .inr (.inr (.inl 17))], ([], [], []), ([(4, 3, 3), (5, 0, 55)], []), [(.inr none, 249, ([], [], []))])
set_option maxRecDepth 100000 in
theorem pl_s14_e : ck_ok p2_OL none [] [] 58 [] 114 pl_s14 = true := by decide +kernel
theorem pl_s14_s {X : Int → Int} {LX : Nat} : ck_Ok p2_OL X LX 58 pl_s14 := ck_ok_s ⟨pl_nmu, ck_E0⟩ ck_X0 ck_l0 pl_s14_e
set_option maxRecDepth 100000 in
/-- GlacierMail$Rows.copyFrom -/
def pl_s15 : ck_Sum := ((1, 0, 0), 249, [.inr (.inr (.inl 6)), .inr (.inr (.inl 19))], ([], [], []), ([(6, 3, 3), (7, 0, 23)], []), [(.inr none, 249, ([], [], []))])
set_option maxRecDepth 100000 in
theorem pl_s15_e : ck_ok p2_OL none [] [] 58 [] 114 pl_s15 = true := by decide +kernel
theorem pl_s15_s {X : Int → Int} {LX : Nat} : ck_Ok p2_OL X LX 58 pl_s15 := ck_ok_s ⟨pl_nmu, ck_E0⟩ ck_X0 ck_l0 pl_s15_e
set_option maxRecDepth 100000 in
/-- GlacierMail$Rows.copyFrom -/
def pl_s16 : ck_Sum := ((1, 0, 0), 249, [.inr (.inr (.inl 8)), .inr (.inr (.inl 21))], ([], [], []), ([(8, 3, 3), (9, 0, 23)], []), [(.inr none, 249, ([], [], []))])
set_option maxRecDepth 100000 in
theorem pl_s16_e : ck_ok p2_OL none [] [] 58 [] 114 pl_s16 = true := by decide +kernel
theorem pl_s16_s {X : Int → Int} {LX : Nat} : ck_Ok p2_OL X LX 58 pl_s16 := ck_ok_s ⟨pl_nmu, ck_E0⟩ ck_X0 ck_l0 pl_s16_e
set_option maxRecDepth 100000 in
/-- GlacierMail$Rows.copyFrom -/
def pl_s17 : ck_Sum := ((1, 0, 0), 249, [.inr (.inr (.inl 10)), .inr (.inr (.inl 23))], ([], [], []), ([(10, 3, 3), (11, 0, 167)], []), [(.inr none, 249, ([], [], []))])
set_option maxRecDepth 100000 in
theorem pl_s17_e : ck_ok p2_OL none [] [] 58 [] 114 pl_s17 = true := by decide +kernel
theorem pl_s17_s {X : Int → Int} {LX : Nat} : ck_Ok p2_OL X LX 58 pl_s17 := ck_ok_s ⟨pl_nmu, ck_E0⟩ ck_X0 ck_l0 pl_s17_e
set_option maxRecDepth 100000 in
/-- GlacierMail$Rows.copyFrom -/
def pl_s18 : ck_Sum := ((1, 0, 0), 249, [.inr (.inr (.inl 12)), .inr (.inr (.inl 25))], ([], [], []), ([(12, 3, 3), (13, 0, 35)], []), [(.inr none, 249, ([], [], []))])
set_option maxRecDepth 100000 in
theorem pl_s18_e : ck_ok p2_OL none [] [] 58 [] 114 pl_s18 = true := by decide +kernel
theorem pl_s18_s {X : Int → Int} {LX : Nat} : ck_Ok p2_OL X LX 58 pl_s18 := ck_ok_s ⟨pl_nmu, ck_E0⟩ ck_X0 ck_l0 pl_s18_e
set_option maxRecDepth 100000 in
/-- GlacierMail$Rows.copyFrom -/
def pl_s19 : ck_Sum := ((1, 0, 0), 249, [.inr (.inr (.inl 14)), .inr (.inr (.inl 27))], ([], [], []), ([(14, 3, 3), (15, 0, 71)], []), [(.inr none, 249, ([], [], []))])
set_option maxRecDepth 100000 in
theorem pl_s19_e : ck_ok p2_OL none [] [] 58 [] 114 pl_s19 = true := by decide +kernel
theorem pl_s19_s {X : Int → Int} {LX : Nat} : ck_Ok p2_OL X LX 58 pl_s19 := ck_ok_s ⟨pl_nmu, ck_E0⟩ ck_X0 ck_l0 pl_s19_e
set_option maxRecDepth 100000 in
/-- GlacierMail$State.copyFrom -/
def pl_s20 : ck_Sum := ((2, 0, 0), 249, [.inr (.inr (.inl 3)), .inr (.inr (.inl 16))], ([], [(3, 8, 246), (16, 8, 246)], []), ([(3, 0, 7), (4, 3, 3), (5, 0, 55), (6, 3, 3), (7, 0, 23), (8, 3, 3), (9, 0, 23), (10, 3, 3), (11, 0, 167), (12, 3, 3), (13, 0, 35), (14, 3, 3), (15, 0, 71)], [(3, 8)]), [(.inr none, 249, ([], [(3, 8, 246)], []))])
set_option maxRecDepth 100000 in
theorem pl_s20_e : ck_ok p2_OL none [] [(58, [pl_s14, pl_s15, pl_s16, pl_s17, pl_s18, pl_s19])] 57 [] 204 pl_s20 = true := by decide +kernel
theorem pl_s20_s {X : Int → Int} {LX : Nat} : ck_Ok p2_OL X LX 57 pl_s20 := ck_ok_s ⟨pl_nmu, ck_E1 (ck_S1 pl_s14_s (ck_S1 pl_s15_s (ck_S1 pl_s16_s (ck_S1 pl_s17_s (ck_S1 pl_s18_s (ck_S1 pl_s19_s ck_S0)))))) ck_E0⟩ ck_X0 ck_l0 pl_s20_e
set_option maxRecDepth 100000 in
/-- GlacierMail$ValleyReader.clear -/
def pl_s21 : ck_Sum := ((0, 0, 0), 249, [.inr (.inr (.inl 213))], ([], [], []), ([], []), [(.inr none, 249, ([], [], []))])
set_option maxRecDepth 100000 in
theorem pl_s21_e : ck_ok p2_OL none [] [] 74 [] 72 pl_s21 = true := by decide +kernel
theorem pl_s21_s {X : Int → Int} {LX : Nat} : ck_Ok p2_OL X LX 74 pl_s21 := ck_ok_s ⟨pl_nmu, ck_E0⟩ ck_X0 ck_l0 pl_s21_e
set_option maxRecDepth 100000 in
/-- GlacierMail$Words.isSmall -/
def pl_s22 : ck_Sum := ((0, 0, 0), 249, [.inl ((-128), 127, [])], ([], [], []), ([], []), [(.inr (some (.inl (ck_one 0))), 249, ([], [], [])), (.inr (some (.inl (ck_one 1))), 249, ([], [], []))])
set_option maxRecDepth 100000 in
theorem pl_s22_e : ck_ok p2_OL none [] [] 77 [] 88 pl_s22 = true := by decide +kernel
theorem pl_s22_s {X : Int → Int} {LX : Nat} : ck_Ok p2_OL X LX 77 pl_s22 := ck_ok_s ⟨pl_nmu, ck_E0⟩ ck_X0 ck_l0 pl_s22_e
set_option maxRecDepth 100000 in
/-- GlacierMail$Words.isDigit -/
def pl_s23 : ck_Sum := ((0, 0, 0), 249, [.inl ((-128), 127, [])], ([], [], []), ([], []), [(.inr (some (.inl (ck_one 0))), 249, ([], [], [])), (.inr (some (.inl (ck_one 1))), 249, ([], [], []))])
set_option maxRecDepth 100000 in
theorem pl_s23_e : ck_ok p2_OL none [] [] 78 [] 88 pl_s23 = true := by decide +kernel
theorem pl_s23_s {X : Int → Int} {LX : Nat} : ck_Ok p2_OL X LX 78 pl_s23 := ck_ok_s ⟨pl_nmu, ck_E0⟩ ck_X0 ck_l0 pl_s23_e
set_option maxRecDepth 100000 in
/-- GlacierMail$Words.next -/
def pl_s24 : ck_Sum := ((1, 0, 0), 249, [.inr (.inr (.inl 214))], ([], [], [(214, 3, 3, (0, 400, [(12, 0)]))]), ([(214, 3, 4), (214, 6, 7)], []), [(.inr none, 249, ([], [], [(214, 3, 3, (0, 400, [(1000012, 0)]))]))])
set_option maxRecDepth 100000 in
theorem pl_s24_e : ck_ok p2_OL none [] [(77, [pl_s22]), (78, [pl_s23])] 76 [(0, [some (.inr (.inr (.inl 214))), none], ([], [], [(214, 3, 3, (0, 400, [(1000012, 0)]))]), 100, .inr (214, 3), true), (160, [some (.inr (.inr (.inl 214))), none], ([], [], [(214, 6, 6, ck_one 258), (214, 2, 2, (1, 400, [])), (214, 3, 3, (0, 400, [(1000100, 0), (1000012, 0)])), (214, 4, 4, (0, 400, [(100, 0)]))]), 300, .inr (214, 3), true), (94, [some (.inr (.inr (.inl 214))), none], ([], [], [(214, 6, 6, ck_one 257), (214, 2, 2, (1, 400, [])), (214, 3, 3, (0, 400, [(1000100, 0), (1000012, 0)])), (214, 7, 7, ck_one (-1)), (214, 4, 4, (0, 400, [(100, 0), (1000012, 0)]))]), 500, .inr (214, 3), true)] 562 pl_s24 = true := by decide +kernel
theorem pl_s24_s {X : Int → Int} {LX : Nat} : ck_Ok p2_OL X LX 76 pl_s24 := ck_ok_s ⟨pl_nmu, ck_E1 (ck_S1 pl_s22_s ck_S0) (ck_E1 (ck_S1 pl_s23_s ck_S0) ck_E0)⟩ ck_X0 ck_l0 pl_s24_e
set_option maxRecDepth 100000 in
/-- GlacierMail$Words.start -/
def pl_s25 : ck_Sum := ((2, 0, 0), 249, [.inr (.inr (.inl 214)), .inl (0, 400, [])], ([], [], [(214, 3, 3, (0, 400, [(12, 0)]))]), ([(214, 2, 7)], []), [(.inr none, 249, ([], [], [(214, 5, 5, ck_one (-1))]))])
set_option maxRecDepth 100000 in
theorem pl_s25_e : ck_ok p2_OL none [] [(76, [pl_s24])] 75 [] 102 pl_s25 = true := by decide +kernel
theorem pl_s25_s {X : Int → Int} {LX : Nat} : ck_Ok p2_OL X LX 75 pl_s25 := ck_ok_s ⟨pl_nmu, ck_E1 (ck_S1 pl_s24_s ck_S0) ck_E0⟩ ck_X0 ck_l0 pl_s25_e
set_option maxRecDepth 100000 in
/-- GlacierMail$Words.refuse -/
def pl_s26 : ck_Sum := ((0, 0, 0), 249, [.inr (.inr (.inl 214))], ([], [], []), ([(214, 5, 5)], []), [(.inr (some (.inl (ck_one 0))), 249, ([], [], [(214, 5, 5, (0, 400, []))]))])
set_option maxRecDepth 100000 in
theorem pl_s26_e : ck_ok p2_OL none [] [] 93 [] 90 pl_s26 = true := by decide +kernel
theorem pl_s26_s {X : Int → Int} {LX : Nat} : ck_Ok p2_OL X LX 93 pl_s26 := ck_ok_s ⟨pl_nmu, ck_E0⟩ ck_X0 ck_l0 pl_s26_e
set_option maxRecDepth 100000 in
/-- GlacierMail$Words.wrong -/
def pl_s27 : ck_Sum := ((0, 0, 0), 249, [.inr (.inr (.inl 214))], ([], [], []), ([], []), [(.inr (some (.inl (ck_one (-1)))), 249, ([], [], [(214, 5, 5, ck_one (-1))])), (.inr (some (.inl (0, 400, []))), 249, ([], [], [(214, 5, 5, (0, 400, []))]))])
set_option maxRecDepth 100000 in
theorem pl_s27_e : ck_ok p2_OL none [] [] 121 [] 76 pl_s27 = true := by decide +kernel
theorem pl_s27_s {X : Int → Int} {LX : Nat} : ck_Ok p2_OL X LX 121 pl_s27 := ck_ok_s ⟨pl_nmu, ck_E0⟩ ck_X0 ck_l0 pl_s27_e
set_option maxRecDepth 100000 in
/-- GlacierMail$Words.isWord -/
def pl_s28 : ck_Sum := ((6, 0, 0), 249, [.inr (.inr (.inl 214)), .inr (.inr (.inr 17))], ([], [], [(214, 3, 3, (0, 400, [(12, 0)]))]), ([], []), [(.inr (some (.inl (ck_one 0))), 249, ([], [], [])), (.inr (some (.inl (ck_one 1))), 249, ([], [], [(214, 3, 3, (5, 400, [(12, 0)])), (214, 4, 4, (0, 395, [])), (214, 6, 6, ck_one 257)]))])
set_option maxRecDepth 100000 in
theorem pl_s28_e : ck_ok p2_OL none [] [] 81 [] 360 pl_s28 = true := by decide +kernel
theorem pl_s28_s {X : Int → Int} {LX : Nat} : ck_Ok p2_OL X LX 81 pl_s28 := ck_ok_s ⟨pl_nmu, ck_E0⟩ ck_X0 ck_l0 pl_s28_e
set_option maxRecDepth 100000 in
/-- GlacierMail$Words.isWord -/
def pl_s29 : ck_Sum := ((6, 0, 0), 249, [.inr (.inr (.inl 214)), .inr (.inr (.inr 18))], ([], [], [(214, 3, 3, (0, 400, [(12, 0)]))]), ([], []), [(.inr (some (.inl (ck_one 0))), 249, ([], [], [])), (.inr (some (.inl (ck_one 1))), 249, ([], [], [(214, 3, 3, (4, 400, [(12, 0)])), (214, 4, 4, (0, 396, [])), (214, 6, 6, ck_one 257)]))])
set_option maxRecDepth 100000 in
theorem pl_s29_e : ck_ok p2_OL none [] [] 81 [] 310 pl_s29 = true := by decide +kernel
theorem pl_s29_s {X : Int → Int} {LX : Nat} : ck_Ok p2_OL X LX 81 pl_s29 := ck_ok_s ⟨pl_nmu, ck_E0⟩ ck_X0 ck_l0 pl_s29_e
set_option maxRecDepth 100000 in
/-- GlacierMail$Words.isWord -/
def pl_s30 : ck_Sum := ((6, 0, 0), 249, [.inr (.inr (.inl 214)), .inr (.inr (.inr 19))], ([], [], [(214, 3, 3, (0, 400, [(12, 0)]))]), ([], []), [(.inr (some (.inl (ck_one 0))), 249, ([], [], [])), (.inr (some (.inl (ck_one 1))), 249, ([], [], [(214, 3, 3, (7, 400, [(12, 0)])), (214, 4, 4, (0, 393, [])), (214, 6, 6, ck_one 257)]))])
set_option maxRecDepth 100000 in
theorem pl_s30_e : ck_ok p2_OL none [] [] 81 [] 460 pl_s30 = true := by decide +kernel
theorem pl_s30_s {X : Int → Int} {LX : Nat} : ck_Ok p2_OL X LX 81 pl_s30 := ck_ok_s ⟨pl_nmu, ck_E0⟩ ck_X0 ck_l0 pl_s30_e
set_option maxRecDepth 100000 in
/-- GlacierMail$Words.isWord -/
def pl_s31 : ck_Sum := ((6, 0, 0), 249, [.inr (.inr (.inl 214)), .inr (.inr (.inr 20))], ([], [], [(214, 3, 3, (0, 400, [(12, 0)]))]), ([], []), [(.inr (some (.inl (ck_one 0))), 249, ([], [], [])), (.inr (some (.inl (ck_one 1))), 249, ([], [], [(214, 3, 3, (4, 400, [(12, 0)])), (214, 4, 4, (0, 396, [])), (214, 6, 6, ck_one 257)]))])
set_option maxRecDepth 100000 in
theorem pl_s31_e : ck_ok p2_OL none [] [] 81 [] 310 pl_s31 = true := by decide +kernel
theorem pl_s31_s {X : Int → Int} {LX : Nat} : ck_Ok p2_OL X LX 81 pl_s31 := ck_ok_s ⟨pl_nmu, ck_E0⟩ ck_X0 ck_l0 pl_s31_e
set_option maxRecDepth 100000 in
/-- GlacierMail$Words.isWord -/
def pl_s32 : ck_Sum := ((6, 0, 0), 249, [.inr (.inr (.inl 214)), .inr (.inr (.inr 22))], ([], [], [(214, 3, 3, (0, 400, [(12, 0)]))]), ([], []), [(.inr (some (.inl (ck_one 0))), 249, ([], [], [])), (.inr (some (.inl (ck_one 1))), 249, ([], [], [(214, 3, 3, (6, 400, [(12, 0)])), (214, 4, 4, (0, 394, [])), (214, 6, 6, ck_one 257)]))])
set_option maxRecDepth 100000 in
theorem pl_s32_e : ck_ok p2_OL none [] [] 81 [] 410 pl_s32 = true := by decide +kernel
theorem pl_s32_s {X : Int → Int} {LX : Nat} : ck_Ok p2_OL X LX 81 pl_s32 := ck_ok_s ⟨pl_nmu, ck_E0⟩ ck_X0 ck_l0 pl_s32_e
set_option maxRecDepth 100000 in
/-- GlacierMail$Words.isWord -/
def pl_s33 : ck_Sum := ((6, 0, 0), 249, [.inr (.inr (.inl 214)), .inr (.inr (.inr 23))], ([], [], [(214, 3, 3, (0, 400, [(12, 0)]))]), ([], []), [(.inr (some (.inl (ck_one 0))), 249, ([], [], [])), (.inr (some (.inl (ck_one 1))), 249, ([], [], [(214, 3, 3, (4, 400, [(12, 0)])), (214, 4, 4, (0, 396, [])), (214, 6, 6, ck_one 257)]))])
set_option maxRecDepth 100000 in
theorem pl_s33_e : ck_ok p2_OL none [] [] 81 [] 310 pl_s33 = true := by decide +kernel
theorem pl_s33_s {X : Int → Int} {LX : Nat} : ck_Ok p2_OL X LX 81 pl_s33 := ck_ok_s ⟨pl_nmu, ck_E0⟩ ck_X0 ck_l0 pl_s33_e
set_option maxRecDepth 100000 in
/-- GlacierMail$Words.isWord -/
def pl_s34 : ck_Sum := ((6, 0, 0), 249, [.inr (.inr (.inl 214)), .inr (.inr (.inr 24))], ([], [], [(214, 3, 3, (0, 400, [(12, 0)]))]), ([], []), [(.inr (some (.inl (ck_one 0))), 249, ([], [], [])), (.inr (some (.inl (ck_one 1))), 249, ([], [], [(214, 3, 3, (5, 400, [(12, 0)])), (214, 4, 4, (0, 395, [])), (214, 6, 6, ck_one 257)]))])
set_option maxRecDepth 100000 in
theorem pl_s34_e : ck_ok p2_OL none [] [] 81 [] 360 pl_s34 = true := by decide +kernel
theorem pl_s34_s {X : Int → Int} {LX : Nat} : ck_Ok p2_OL X LX 81 pl_s34 := ck_ok_s ⟨pl_nmu, ck_E0⟩ ck_X0 ck_l0 pl_s34_e
set_option maxRecDepth 100000 in
/-- GlacierMail$Words.isWord -/
def pl_s35 : ck_Sum := ((6, 0, 0), 249, [.inr (.inr (.inl 214)), .inr (.inr (.inr 25))], ([], [], [(214, 3, 3, (0, 400, [(12, 0)]))]), ([], []), [(.inr (some (.inl (ck_one 0))), 249, ([], [], [])), (.inr (some (.inl (ck_one 1))), 249, ([], [], [(214, 3, 3, (6, 400, [(12, 0)])), (214, 4, 4, (0, 394, [])), (214, 6, 6, ck_one 257)]))])
set_option maxRecDepth 100000 in
theorem pl_s35_e : ck_ok p2_OL none [] [] 81 [] 410 pl_s35 = true := by decide +kernel
theorem pl_s35_s {X : Int → Int} {LX : Nat} : ck_Ok p2_OL X LX 81 pl_s35 := ck_ok_s ⟨pl_nmu, ck_E0⟩ ck_X0 ck_l0 pl_s35_e
set_option maxRecDepth 100000 in
/-- GlacierMail$Words.isWord -/
def pl_s36 : ck_Sum := ((6, 0, 0), 249, [.inr (.inr (.inl 214)), .inr (.inr (.inr 27))], ([], [], [(214, 3, 3, (0, 400, [(12, 0)]))]), ([], []), [(.inr (some (.inl (ck_one 0))), 249, ([], [], [])), (.inr (some (.inl (ck_one 1))), 249, ([], [], [(214, 3, 3, (4, 400, [(12, 0)])), (214, 4, 4, (0, 396, [])), (214, 6, 6, ck_one 257)]))])
set_option maxRecDepth 100000 in
theorem pl_s36_e : ck_ok p2_OL none [] [] 81 [] 310 pl_s36 = true := by decide +kernel
theorem pl_s36_s {X : Int → Int} {LX : Nat} : ck_Ok p2_OL X LX 81 pl_s36 := ck_ok_s ⟨pl_nmu, ck_E0⟩ ck_X0 ck_l0 pl_s36_e
set_option maxRecDepth 100000 in
/-- GlacierMail$Words.isWord -/
def pl_s37 : ck_Sum := ((6, 0, 0), 249, [.inr (.inr (.inl 214)), .inr (.inr (.inr 28))], ([], [], [(214, 3, 3, (0, 400, [(12, 0)]))]), ([], []), [(.inr (some (.inl (ck_one 0))), 249, ([], [], [])), (.inr (some (.inl (ck_one 1))), 249, ([], [], [(214, 3, 3, (5, 400, [(12, 0)])), (214, 4, 4, (0, 395, [])), (214, 6, 6, ck_one 257)]))])
set_option maxRecDepth 100000 in
theorem pl_s37_e : ck_ok p2_OL none [] [] 81 [] 360 pl_s37 = true := by decide +kernel
theorem pl_s37_s {X : Int → Int} {LX : Nat} : ck_Ok p2_OL X LX 81 pl_s37 := ck_ok_s ⟨pl_nmu, ck_E0⟩ ck_X0 ck_l0 pl_s37_e
set_option maxRecDepth 100000 in
/-- GlacierMail$Rows.isFull -/
def pl_s38 : ck_Sum := ((0, 0, 0), 249, [.inr (.inr (.inl 25))], ([], [], []), ([], []), [(.inr (some (.inl (ck_one 0))), 249, ([], [], [(25, 3, 3, (0, 5, []))])), (.inr (some (.inl (ck_one 1))), 249, ([], [], [(25, 3, 3, ck_one 6)]))])
set_option maxRecDepth 100000 in
theorem pl_s38_e : ck_ok p2_OL none [] [] 108 [] 86 pl_s38 = true := by decide +kernel
theorem pl_s38_s {X : Int → Int} {LX : Nat} : ck_Ok p2_OL X LX 108 pl_s38 := ck_ok_s ⟨pl_nmu, ck_E0⟩ ck_X0 ck_l0 pl_s38_e
set_option maxRecDepth 100000 in
/-- GlacierMail$Rows.add -/
def pl_s39 : ck_Sum := ((0, 0, 0), 249, [.inr (.inr (.inl 25))], ([], [], []), ([(25, 3, 3)], []), [(.inr (some (.inl (0, 5, []))), 249, ([], [], [(25, 3, 3, (1, 6, []))])), (.inr (some (.inl (ck_one (-1)))), 249, ([], [], [(25, 3, 3, ck_one 6)]))])
set_option maxRecDepth 100000 in
theorem pl_s39_e : ck_ok p2_OL none [] [] 102 [] 102 pl_s39 = true := by decide +kernel
theorem pl_s39_s {X : Int → Int} {LX : Nat} : ck_Ok p2_OL X LX 102 pl_s39 := ck_ok_s ⟨pl_nmu, ck_E0⟩ ck_X0 ck_l0 pl_s39_e
set_option maxRecDepth 100000 in
/-- GlacierMail$Words.needNumber -/
def pl_s40 : ck_Sum := ((2, 0, 0), 249, [.inr (.inr (.inl 214)), .inl (ck_one 0), .inl (ck_one 20)], ([], [], [(214, 3, 3, (0, 400, [(12, 0)]))]), ([(214, 3, 7)], []), [(.inr (some (.inl (ck_one (-1)))), 249, ([], [], [(214, 5, 5, (0, 400, [])), (214, 3, 3, (0, 400, [(12, 0)]))])), (.inr (some (.inl (0, 20, []))), 249, ([], [], [(214, 3, 3, (0, 400, [(1000012, 0)]))]))])
set_option maxRecDepth 100000 in
theorem pl_s40_e : ck_ok p2_OL none [] [(93, [pl_s26]), (76, [pl_s24])] 94 [] 106 pl_s40 = true := by decide +kernel
theorem pl_s40_s {X : Int → Int} {LX : Nat} : ck_Ok p2_OL X LX 94 pl_s40 := ck_ok_s ⟨pl_nmu, ck_E1 (ck_S1 pl_s26_s ck_S0) (ck_E1 (ck_S1 pl_s24_s ck_S0) ck_E0)⟩ ck_X0 ck_l0 pl_s40_e
set_option maxRecDepth 100000 in
/-- GlacierMail$Rows.put -/
def pl_s41 : ck_Sum := ((0, 0, 0), 249, [.inr (.inr (.inl 25)), .inl (0, 5, []), .inl (0, 5, []), .inl (0, 20, [])], ([], [], []), ([(26, 0, 35)], []), [(.inr none, 249, ([], [], []))])
set_option maxRecDepth 100000 in
theorem pl_s41_e : ck_ok p2_OL none [] [] 45 [] 116 pl_s41 = true := by decide +kernel
theorem pl_s41_s {X : Int → Int} {LX : Nat} : ck_Ok p2_OL X LX 45 pl_s41 := ck_ok_s ⟨pl_nmu, ck_E0⟩ ck_X0 ck_l0 pl_s41_e
set_option maxRecDepth 100000 in
/-- GlacierMail$ValleyReader.readSpeeds -/
def pl_s42 : ck_Sum := ((3, 0, 0), 249, [.inr (.inr (.inl 213)), .inr (.inr (.inl 25)), .inl (0, 5, []), .inl (ck_one 0)], ([], [], [(214, 3, 3, (0, 400, [(12, 0)]))]), ([(26, 0, 35), (214, 3, 7)], []), [(.inr (some (.inl (ck_one 1))), 249, ([], [], [(214, 3, 3, (0, 400, [(1000012, 0)]))])), (.inr (some (.inl (ck_one 0))), 249, ([], [], [(214, 5, 5, (0, 400, [])), (214, 3, 3, (0, 400, [(1000012, 0)]))]))])
set_option maxRecDepth 100000 in
theorem pl_s42_e : ck_ok p2_OL none [] [(94, [pl_s40]), (45, [pl_s41])] 109 [(3, [some (.inr (.inr (.inl 213))), some (.inr (.inr (.inl 25))), some (.inl (0, 5, [])), some (.inl (ck_one 0)), some (.inl (0, 6, [])), none], ([], [], [(214, 3, 3, (0, 400, [(1000012, 0)]))]), 100, .inl 4, true)] 186 pl_s42 = true := by decide +kernel
theorem pl_s42_s {X : Int → Int} {LX : Nat} : ck_Ok p2_OL X LX 109 pl_s42 := ck_ok_s ⟨pl_nmu, ck_E1 (ck_S1 pl_s40_s ck_S0) (ck_E1 (ck_S1 pl_s41_s ck_S0) ck_E0)⟩ ck_X0 ck_l0 pl_s42_e
set_option maxRecDepth 100000 in
/-- GlacierMail$Rows.put -/
def pl_s43 : ck_Sum := ((0, 0, 0), 249, [.inr (.inr (.inl 25)), .inl (ck_one (-1)), .inl (0, 5, []), .inl (0, 20, [])], ([], [], []), ([], []), [(.inr none, 249, ([], [], []))])
set_option maxRecDepth 100000 in
theorem pl_s43_e : ck_ok p2_OL none [] [] 45 [] 76 pl_s43 = true := by decide +kernel
theorem pl_s43_s {X : Int → Int} {LX : Nat} : ck_Ok p2_OL X LX 45 pl_s43 := ck_ok_s ⟨pl_nmu, ck_E0⟩ ck_X0 ck_l0 pl_s43_e
set_option maxRecDepth 100000 in
/-- GlacierMail$ValleyReader.readSpeeds -/
def pl_s44 : ck_Sum := ((3, 0, 0), 249, [.inr (.inr (.inl 213)), .inr (.inr (.inl 25)), .inl (ck_one (-1)), .inl (ck_one 0)], ([], [], [(214, 3, 3, (0, 400, [(12, 0)]))]), ([(214, 3, 7)], []), [(.inr (some (.inl (ck_one 1))), 249, ([], [], [(214, 3, 3, (0, 400, [(1000012, 0)]))])), (.inr (some (.inl (ck_one 0))), 249, ([], [], [(214, 5, 5, (0, 400, [])), (214, 3, 3, (0, 400, [(1000012, 0)]))]))])
set_option maxRecDepth 100000 in
theorem pl_s44_e : ck_ok p2_OL none [] [(94, [pl_s40]), (45, [pl_s43])] 109 [(3, [some (.inr (.inr (.inl 213))), some (.inr (.inr (.inl 25))), some (.inl (ck_one (-1))), some (.inl (ck_one 0)), some (.inl (0, 6, [])), none], ([], [], [(214, 3, 3, (0, 400, [(1000012, 0)]))]), 100, .inl 4, true)] 186 pl_s44 = true := by decide +kernel
theorem pl_s44_s {X : Int → Int} {LX : Nat} : ck_Ok p2_OL X LX 109 pl_s44 := ck_ok_s ⟨pl_nmu, ck_E1 (ck_S1 pl_s40_s ck_S0) (ck_E1 (ck_S1 pl_s43_s ck_S0) ck_E0)⟩ ck_X0 ck_l0 pl_s44_e
set_option maxRecDepth 100000 in
/-- GlacierMail$ValleyReader.readTable -/
def pl_s45 : ck_Sum := ((4, 0, 0), 249, [.inr (.inr (.inl 213))], ([], [], [(214, 3, 3, (0, 400, [(12, 0)]))]), ([(25, 3, 3), (26, 0, 35), (214, 3, 7)], []), [(.inr (some (.inl (ck_one 1))), 249, ([], [], [(214, 3, 3, (0, 400, [(1000012, 0)])), (25, 3, 3, (1, 6, []))])), (.inr (some (.inl (ck_one 0))), 249, ([], [], [(214, 5, 5, (0, 400, [])), (214, 3, 3, (0, 400, [(1000012, 0)])), (25, 3, 3, (1, 6, []))]))])
set_option maxRecDepth 100000 in
theorem pl_s45_e : ck_ok p2_OL none [] [(108, [pl_s38]), (76, [pl_s24]), (102, [pl_s39]), (109, [pl_s42, pl_s44]), (93, [pl_s26])] 120 [] 108 pl_s45 = true := by decide +kernel
theorem pl_s45_s {X : Int → Int} {LX : Nat} : ck_Ok p2_OL X LX 120 pl_s45 := ck_ok_s ⟨pl_nmu, ck_E1 (ck_S1 pl_s38_s ck_S0) (ck_E1 (ck_S1 pl_s24_s ck_S0) (ck_E1 (ck_S1 pl_s39_s ck_S0) (ck_E1 (ck_S1 pl_s42_s (ck_S1 pl_s44_s ck_S0)) (ck_E1 (ck_S1 pl_s26_s ck_S0) ck_E0))))⟩ ck_X0 ck_l0 pl_s45_e
set_option maxRecDepth 100000 in
/-- GlacierMail$Rows.isFull -/
def pl_s46 : ck_Sum := ((0, 0, 0), 249, [.inr (.inr (.inl 23))], ([], [], []), ([], []), [(.inr (some (.inl (ck_one 0))), 249, ([], [], [(23, 3, 3, (0, 23, []))])), (.inr (some (.inl (ck_one 1))), 249, ([], [], [(23, 3, 3, ck_one 24)]))])
set_option maxRecDepth 100000 in
theorem pl_s46_e : ck_ok p2_OL none [] [] 108 [] 86 pl_s46 = true := by decide +kernel
theorem pl_s46_s {X : Int → Int} {LX : Nat} : ck_Ok p2_OL X LX 108 pl_s46 := ck_ok_s ⟨pl_nmu, ck_E0⟩ ck_X0 ck_l0 pl_s46_e
set_option maxRecDepth 100000 in
/-- GlacierMail$Words.needNumber -/
def pl_s47 : ck_Sum := ((2, 0, 0), 249, [.inr (.inr (.inl 214)), .inl (ck_one 0), .inl (0, 5, [])], ([], [], [(214, 3, 3, (0, 400, [(12, 0)]))]), ([(214, 3, 7)], []), [(.inr (some (.inl (ck_one (-1)))), 249, ([], [], [(214, 5, 5, (0, 400, [])), (214, 3, 3, (0, 400, [(12, 0)]))])), (.inr (some (.inl (0, 5, []))), 249, ([], [], [(214, 3, 3, (0, 400, [(1000012, 0)]))]))])
set_option maxRecDepth 100000 in
theorem pl_s47_e : ck_ok p2_OL none [] [(93, [pl_s26]), (76, [pl_s24])] 94 [] 106 pl_s47 = true := by decide +kernel
theorem pl_s47_s {X : Int → Int} {LX : Nat} : ck_Ok p2_OL X LX 94 pl_s47 := ck_ok_s ⟨pl_nmu, ck_E1 (ck_S1 pl_s26_s ck_S0) (ck_E1 (ck_S1 pl_s24_s ck_S0) ck_E0)⟩ ck_X0 ck_l0 pl_s47_e
set_option maxRecDepth 100000 in
/-- GlacierMail$ValleyReader.readLane -/
def pl_s48 : ck_Sum := ((3, 0, 0), 249, [.inr (.inr (.inl 213))], ([], [], [(214, 3, 3, (0, 400, [(12, 0)]))]), ([(214, 3, 7)], []), [(.inr (some (.inl (ck_one (-1)))), 249, ([], [], [(214, 5, 5, (0, 400, [])), (214, 3, 3, (0, 400, [(12, 0)]))])), (.inr (some (.inl (0, 5, []))), 249, ([], [], [(214, 3, 3, (0, 400, [(1000012, 0)]))]))])
set_option maxRecDepth 100000 in
theorem pl_s48_e : ck_ok p2_OL none [] [(94, [pl_s47])] 117 [] 90 pl_s48 = true := by decide +kernel
theorem pl_s48_s {X : Int → Int} {LX : Nat} : ck_Ok p2_OL X LX 117 pl_s48 := ck_ok_s ⟨pl_nmu, ck_E1 (ck_S1 pl_s47_s ck_S0) ck_E0⟩ ck_X0 ck_l0 pl_s48_e
set_option maxRecDepth 100000 in
/-- GlacierMail$Words.needNumber -/
def pl_s49 : ck_Sum := ((2, 0, 0), 249, [.inr (.inr (.inl 214)), .inl (ck_one 0), .inl (9, 98, [])], ([], [], [(214, 3, 3, (0, 400, [(12, 0)]))]), ([(214, 3, 7)], []), [(.inr (some (.inl (ck_one (-1)))), 249, ([], [], [(214, 5, 5, (0, 400, [])), (214, 3, 3, (0, 400, [(12, 0)]))])), (.inr (some (.inl (0, 98, []))), 249, ([], [], [(214, 3, 3, (0, 400, [(1000012, 0)]))]))])
set_option maxRecDepth 100000 in
theorem pl_s49_e : ck_ok p2_OL none [] [(93, [pl_s26]), (76, [pl_s24])] 94 [] 106 pl_s49 = true := by decide +kernel
theorem pl_s49_s {X : Int → Int} {LX : Nat} : ck_Ok p2_OL X LX 94 pl_s49 := ck_ok_s ⟨pl_nmu, ck_E1 (ck_S1 pl_s26_s ck_S0) (ck_E1 (ck_S1 pl_s24_s ck_S0) ck_E0)⟩ ck_X0 ck_l0 pl_s49_e
set_option maxRecDepth 100000 in
/-- GlacierMail$ValleyReader.readRow -/
def pl_s50 : ck_Sum := ((3, 0, 0), 249, [.inr (.inr (.inl 213))], ([], [], [(214, 3, 3, (0, 400, [(12, 0)]))]), ([(214, 3, 7)], []), [(.inr (some (.inl (ck_one (-1)))), 249, ([], [], [(214, 5, 5, (0, 400, [])), (214, 3, 3, (0, 400, [(12, 0)]))])), (.inr (some (.inl (0, 98, []))), 249, ([], [], [(214, 3, 3, (0, 400, [(1000012, 0)]))]))])
set_option maxRecDepth 100000 in
theorem pl_s50_e : ck_ok p2_OL none [] [(94, [pl_s49])] 111 [] 90 pl_s50 = true := by decide +kernel
theorem pl_s50_s {X : Int → Int} {LX : Nat} : ck_Ok p2_OL X LX 111 pl_s50 := ck_ok_s ⟨pl_nmu, ck_E1 (ck_S1 pl_s49_s ck_S0) ck_E0⟩ ck_X0 ck_l0 pl_s50_e
set_option maxRecDepth 100000 in
/-- GlacierMail$Rows.add -/
def pl_s51 : ck_Sum := ((0, 0, 0), 249, [.inr (.inr (.inl 23))], ([], [], []), ([(23, 3, 3)], []), [(.inr (some (.inl (0, 23, []))), 249, ([], [], [(23, 3, 3, (1, 24, []))])), (.inr (some (.inl (ck_one (-1)))), 249, ([], [], [(23, 3, 3, ck_one 24)]))])
set_option maxRecDepth 100000 in
theorem pl_s51_e : ck_ok p2_OL none [] [] 102 [] 102 pl_s51 = true := by decide +kernel
theorem pl_s51_s {X : Int → Int} {LX : Nat} : ck_Ok p2_OL X LX 102 pl_s51 := ck_ok_s ⟨pl_nmu, ck_E0⟩ ck_X0 ck_l0 pl_s51_e
set_option maxRecDepth 100000 in
/-- GlacierMail$Rows.put -/
def pl_s52 : ck_Sum := ((0, 0, 0), 249, [.inr (.inr (.inl 23)), .inl (0, 23, []), .inl (ck_one 0), .inl (ck_one (-1))], ([], [], []), ([(24, 0, 0), (24, 7, 7), (24, 14, 14), (24, 21, 21), (24, 28, 28), (24, 35, 35), (24, 42, 42), (24, 49, 49), (24, 56, 56), (24, 63, 63), (24, 70, 70), (24, 77, 77), (24, 84, 84), (24, 91, 91), (24, 98, 98), (24, 105, 105), (24, 112, 112), (24, 119, 119), (24, 126, 126), (24, 133, 133), (24, 140, 140), (24, 147, 147), (24, 154, 154), (24, 161, 161)], []), [(.inr none, 249, ([], [], []))])
set_option maxRecDepth 100000 in
theorem pl_s52_e : ck_ok p2_OL none [] [] 45 [] 116 pl_s52 = true := by decide +kernel
theorem pl_s52_s {X : Int → Int} {LX : Nat} : ck_Ok p2_OL X LX 45 pl_s52 := ck_ok_s ⟨pl_nmu, ck_E0⟩ ck_X0 ck_l0 pl_s52_e
set_option maxRecDepth 100000 in
/-- GlacierMail$Rows.put -/
def pl_s53 : ck_Sum := ((0, 0, 0), 249, [.inr (.inr (.inl 23)), .inl (0, 23, []), .inl (ck_one 1), .inl (ck_one (-1))], ([], [], []), ([(24, 1, 1), (24, 8, 8), (24, 15, 15), (24, 22, 22), (24, 29, 29), (24, 36, 36), (24, 43, 43), (24, 50, 50), (24, 57, 57), (24, 64, 64), (24, 71, 71), (24, 78, 78), (24, 85, 85), (24, 92, 92), (24, 99, 99), (24, 106, 106), (24, 113, 113), (24, 120, 120), (24, 127, 127), (24, 134, 134), (24, 141, 141), (24, 148, 148), (24, 155, 155), (24, 162, 162)], []), [(.inr none, 249, ([], [], []))])
set_option maxRecDepth 100000 in
theorem pl_s53_e : ck_ok p2_OL none [] [] 45 [] 116 pl_s53 = true := by decide +kernel
theorem pl_s53_s {X : Int → Int} {LX : Nat} : ck_Ok p2_OL X LX 45 pl_s53 := ck_ok_s ⟨pl_nmu, ck_E0⟩ ck_X0 ck_l0 pl_s53_e
set_option maxRecDepth 100000 in
/-- GlacierMail$Rows.put -/
def pl_s54 : ck_Sum := ((0, 0, 0), 249, [.inr (.inr (.inl 23)), .inl (0, 23, []), .inl (ck_one 2), .inl (0, 5, [])], ([], [], []), ([(24, 2, 2), (24, 9, 9), (24, 16, 16), (24, 23, 23), (24, 30, 30), (24, 37, 37), (24, 44, 44), (24, 51, 51), (24, 58, 58), (24, 65, 65), (24, 72, 72), (24, 79, 79), (24, 86, 86), (24, 93, 93), (24, 100, 100), (24, 107, 107), (24, 114, 114), (24, 121, 121), (24, 128, 128), (24, 135, 135), (24, 142, 142), (24, 149, 149), (24, 156, 156), (24, 163, 163)], []), [(.inr none, 249, ([], [], []))])
set_option maxRecDepth 100000 in
theorem pl_s54_e : ck_ok p2_OL none [] [] 45 [] 116 pl_s54 = true := by decide +kernel
theorem pl_s54_s {X : Int → Int} {LX : Nat} : ck_Ok p2_OL X LX 45 pl_s54 := ck_ok_s ⟨pl_nmu, ck_E0⟩ ck_X0 ck_l0 pl_s54_e
set_option maxRecDepth 100000 in
/-- GlacierMail$Rows.put -/
def pl_s55 : ck_Sum := ((0, 0, 0), 249, [.inr (.inr (.inl 23)), .inl (0, 23, []), .inl (ck_one 3), .inl (0, 299, [])], ([], [], []), ([(24, 3, 3), (24, 10, 10), (24, 17, 17), (24, 24, 24), (24, 31, 31), (24, 38, 38), (24, 45, 45), (24, 52, 52), (24, 59, 59), (24, 66, 66), (24, 73, 73), (24, 80, 80), (24, 87, 87), (24, 94, 94), (24, 101, 101), (24, 108, 108), (24, 115, 115), (24, 122, 122), (24, 129, 129), (24, 136, 136), (24, 143, 143), (24, 150, 150), (24, 157, 157), (24, 164, 164)], []), [(.inr none, 249, ([], [], []))])
set_option maxRecDepth 100000 in
theorem pl_s55_e : ck_ok p2_OL none [] [] 45 [] 116 pl_s55 = true := by decide +kernel
theorem pl_s55_s {X : Int → Int} {LX : Nat} : ck_Ok p2_OL X LX 45 pl_s55 := ck_ok_s ⟨pl_nmu, ck_E0⟩ ck_X0 ck_l0 pl_s55_e
set_option maxRecDepth 100000 in
/-- GlacierMail$Rows.put -/
def pl_s56 : ck_Sum := ((0, 0, 0), 249, [.inr (.inr (.inl 23)), .inl (0, 23, []), .inl (ck_one 4), .inl (0, 98, [])], ([], [], []), ([(24, 4, 4), (24, 11, 11), (24, 18, 18), (24, 25, 25), (24, 32, 32), (24, 39, 39), (24, 46, 46), (24, 53, 53), (24, 60, 60), (24, 67, 67), (24, 74, 74), (24, 81, 81), (24, 88, 88), (24, 95, 95), (24, 102, 102), (24, 109, 109), (24, 116, 116), (24, 123, 123), (24, 130, 130), (24, 137, 137), (24, 144, 144), (24, 151, 151), (24, 158, 158), (24, 165, 165)], []), [(.inr none, 249, ([], [], []))])
set_option maxRecDepth 100000 in
theorem pl_s56_e : ck_ok p2_OL none [] [] 45 [] 116 pl_s56 = true := by decide +kernel
theorem pl_s56_s {X : Int → Int} {LX : Nat} : ck_Ok p2_OL X LX 45 pl_s56 := ck_ok_s ⟨pl_nmu, ck_E0⟩ ck_X0 ck_l0 pl_s56_e
set_option maxRecDepth 100000 in
/-- GlacierMail$Rows.put -/
def pl_s57 : ck_Sum := ((0, 0, 0), 249, [.inr (.inr (.inl 23)), .inl (0, 23, []), .inl (ck_one 5), .inl (ck_one (-1))], ([], [], []), ([(24, 5, 5), (24, 12, 12), (24, 19, 19), (24, 26, 26), (24, 33, 33), (24, 40, 40), (24, 47, 47), (24, 54, 54), (24, 61, 61), (24, 68, 68), (24, 75, 75), (24, 82, 82), (24, 89, 89), (24, 96, 96), (24, 103, 103), (24, 110, 110), (24, 117, 117), (24, 124, 124), (24, 131, 131), (24, 138, 138), (24, 145, 145), (24, 152, 152), (24, 159, 159), (24, 166, 166)], []), [(.inr none, 249, ([], [], []))])
set_option maxRecDepth 100000 in
theorem pl_s57_e : ck_ok p2_OL none [] [] 45 [] 116 pl_s57 = true := by decide +kernel
theorem pl_s57_s {X : Int → Int} {LX : Nat} : ck_Ok p2_OL X LX 45 pl_s57 := ck_ok_s ⟨pl_nmu, ck_E0⟩ ck_X0 ck_l0 pl_s57_e
set_option maxRecDepth 100000 in
/-- GlacierMail$Rows.put -/
def pl_s58 : ck_Sum := ((0, 0, 0), 249, [.inr (.inr (.inl 23)), .inl (0, 23, []), .inl (ck_one 6), .inl (ck_one (-1))], ([], [], []), ([(24, 6, 6), (24, 13, 13), (24, 20, 20), (24, 27, 27), (24, 34, 34), (24, 41, 41), (24, 48, 48), (24, 55, 55), (24, 62, 62), (24, 69, 69), (24, 76, 76), (24, 83, 83), (24, 90, 90), (24, 97, 97), (24, 104, 104), (24, 111, 111), (24, 118, 118), (24, 125, 125), (24, 132, 132), (24, 139, 139), (24, 146, 146), (24, 153, 153), (24, 160, 160), (24, 167, 167)], []), [(.inr none, 249, ([], [], []))])
set_option maxRecDepth 100000 in
theorem pl_s58_e : ck_ok p2_OL none [] [] 45 [] 116 pl_s58 = true := by decide +kernel
theorem pl_s58_s {X : Int → Int} {LX : Nat} : ck_Ok p2_OL X LX 45 pl_s58 := ck_ok_s ⟨pl_nmu, ck_E0⟩ ck_X0 ck_l0 pl_s58_e
set_option maxRecDepth 100000 in
/-- GlacierMail$Rows.put -/
def pl_s59 : ck_Sum := ((0, 0, 0), 249, [.inr (.inr (.inl 23)), .inl (ck_one (-1)), .inl (ck_one 0), .inl (ck_one (-1))], ([], [], []), ([], []), [(.inr none, 249, ([], [], []))])
set_option maxRecDepth 100000 in
theorem pl_s59_e : ck_ok p2_OL none [] [] 45 [] 76 pl_s59 = true := by decide +kernel
theorem pl_s59_s {X : Int → Int} {LX : Nat} : ck_Ok p2_OL X LX 45 pl_s59 := ck_ok_s ⟨pl_nmu, ck_E0⟩ ck_X0 ck_l0 pl_s59_e
set_option maxRecDepth 100000 in
/-- GlacierMail$Rows.put -/
def pl_s60 : ck_Sum := ((0, 0, 0), 249, [.inr (.inr (.inl 23)), .inl (ck_one (-1)), .inl (ck_one 1), .inl (ck_one (-1))], ([], [], []), ([], []), [(.inr none, 249, ([], [], []))])
set_option maxRecDepth 100000 in
theorem pl_s60_e : ck_ok p2_OL none [] [] 45 [] 76 pl_s60 = true := by decide +kernel
theorem pl_s60_s {X : Int → Int} {LX : Nat} : ck_Ok p2_OL X LX 45 pl_s60 := ck_ok_s ⟨pl_nmu, ck_E0⟩ ck_X0 ck_l0 pl_s60_e
set_option maxRecDepth 100000 in
/-- GlacierMail$Rows.put -/
def pl_s61 : ck_Sum := ((0, 0, 0), 249, [.inr (.inr (.inl 23)), .inl (ck_one (-1)), .inl (ck_one 2), .inl (0, 5, [])], ([], [], []), ([], []), [(.inr none, 249, ([], [], []))])
set_option maxRecDepth 100000 in
theorem pl_s61_e : ck_ok p2_OL none [] [] 45 [] 76 pl_s61 = true := by decide +kernel
theorem pl_s61_s {X : Int → Int} {LX : Nat} : ck_Ok p2_OL X LX 45 pl_s61 := ck_ok_s ⟨pl_nmu, ck_E0⟩ ck_X0 ck_l0 pl_s61_e
set_option maxRecDepth 100000 in
/-- GlacierMail$Rows.put -/
def pl_s62 : ck_Sum := ((0, 0, 0), 249, [.inr (.inr (.inl 23)), .inl (ck_one (-1)), .inl (ck_one 3), .inl (0, 299, [])], ([], [], []), ([], []), [(.inr none, 249, ([], [], []))])
set_option maxRecDepth 100000 in
theorem pl_s62_e : ck_ok p2_OL none [] [] 45 [] 76 pl_s62 = true := by decide +kernel
theorem pl_s62_s {X : Int → Int} {LX : Nat} : ck_Ok p2_OL X LX 45 pl_s62 := ck_ok_s ⟨pl_nmu, ck_E0⟩ ck_X0 ck_l0 pl_s62_e
set_option maxRecDepth 100000 in
/-- GlacierMail$Rows.put -/
def pl_s63 : ck_Sum := ((0, 0, 0), 249, [.inr (.inr (.inl 23)), .inl (ck_one (-1)), .inl (ck_one 4), .inl (0, 98, [])], ([], [], []), ([], []), [(.inr none, 249, ([], [], []))])
set_option maxRecDepth 100000 in
theorem pl_s63_e : ck_ok p2_OL none [] [] 45 [] 76 pl_s63 = true := by decide +kernel
theorem pl_s63_s {X : Int → Int} {LX : Nat} : ck_Ok p2_OL X LX 45 pl_s63 := ck_ok_s ⟨pl_nmu, ck_E0⟩ ck_X0 ck_l0 pl_s63_e
set_option maxRecDepth 100000 in
/-- GlacierMail$Rows.put -/
def pl_s64 : ck_Sum := ((0, 0, 0), 249, [.inr (.inr (.inl 23)), .inl (ck_one (-1)), .inl (ck_one 5), .inl (ck_one (-1))], ([], [], []), ([], []), [(.inr none, 249, ([], [], []))])
set_option maxRecDepth 100000 in
theorem pl_s64_e : ck_ok p2_OL none [] [] 45 [] 76 pl_s64 = true := by decide +kernel
theorem pl_s64_s {X : Int → Int} {LX : Nat} : ck_Ok p2_OL X LX 45 pl_s64 := ck_ok_s ⟨pl_nmu, ck_E0⟩ ck_X0 ck_l0 pl_s64_e
set_option maxRecDepth 100000 in
/-- GlacierMail$Rows.put -/
def pl_s65 : ck_Sum := ((0, 0, 0), 249, [.inr (.inr (.inl 23)), .inl (ck_one (-1)), .inl (ck_one 6), .inl (ck_one (-1))], ([], [], []), ([], []), [(.inr none, 249, ([], [], []))])
set_option maxRecDepth 100000 in
theorem pl_s65_e : ck_ok p2_OL none [] [] 45 [] 76 pl_s65 = true := by decide +kernel
theorem pl_s65_s {X : Int → Int} {LX : Nat} : ck_Ok p2_OL X LX 45 pl_s65 := ck_ok_s ⟨pl_nmu, ck_E0⟩ ck_X0 ck_l0 pl_s65_e
set_option maxRecDepth 100000 in
/-- GlacierMail$State.throwIn -/
def pl_s66 : ck_Sum := ((1, 0, 0), 249, [.inr (.inr (.inl 16)), .inl (ck_one (-1)), .inl (ck_one (-1)), .inl (0, 5, []), .inl (0, 98, [])], ([], [], []), ([(23, 3, 3), (24, 0, 167)], []), [(.inr (some (.inl (0, 23, []))), 249, ([], [], [(23, 3, 3, (1, 24, []))])), (.inr (some (.inl (ck_one (-1)))), 249, ([], [], [(23, 3, 3, ck_one 24)]))])
set_option maxRecDepth 100000 in
theorem pl_s66_e : ck_ok p2_OL none [] [(102, [pl_s51]), (45, [pl_s52, pl_s53, pl_s54, pl_s55, pl_s56, pl_s57, pl_s58, pl_s59, pl_s60, pl_s61, pl_s62, pl_s63, pl_s64, pl_s65])] 119 [] 168 pl_s66 = true := by decide +kernel
theorem pl_s66_s {X : Int → Int} {LX : Nat} : ck_Ok p2_OL X LX 119 pl_s66 := ck_ok_s ⟨pl_nmu, ck_E1 (ck_S1 pl_s51_s ck_S0) (ck_E1 (ck_S1 pl_s52_s (ck_S1 pl_s53_s (ck_S1 pl_s54_s (ck_S1 pl_s55_s (ck_S1 pl_s56_s (ck_S1 pl_s57_s (ck_S1 pl_s58_s (ck_S1 pl_s59_s (ck_S1 pl_s60_s (ck_S1 pl_s61_s (ck_S1 pl_s62_s (ck_S1 pl_s63_s (ck_S1 pl_s64_s (ck_S1 pl_s65_s ck_S0)))))))))))))) ck_E0)⟩ ck_X0 ck_l0 pl_s66_e
set_option maxRecDepth 100000 in
/-- GlacierMail$ValleyReader.readRock -/
def pl_s67 : ck_Sum := ((4, 0, 0), 249, [.inr (.inr (.inl 213))], ([], [], [(214, 3, 3, (0, 400, [(12, 0)]))]), ([(23, 3, 3), (24, 0, 167), (214, 3, 7)], []), [(.inr (some (.inl (ck_one 0))), 249, ([], [], [(214, 5, 5, (0, 400, [])), (214, 3, 3, (0, 400, [(1000012, 0)]))])), (.inr (some (.inl (ck_one 1))), 249, ([], [], [(23, 3, 3, (1, 24, [])), (214, 3, 3, (0, 400, [(1000012, 0)]))]))])
set_option maxRecDepth 100000 in
theorem pl_s67_e : ck_ok p2_OL none [] [(108, [pl_s46]), (76, [pl_s24]), (117, [pl_s48]), (111, [pl_s50]), (119, [pl_s66]), (93, [pl_s26])] 118 [] 130 pl_s67 = true := by decide +kernel
theorem pl_s67_s {X : Int → Int} {LX : Nat} : ck_Ok p2_OL X LX 118 pl_s67 := ck_ok_s ⟨pl_nmu, ck_E1 (ck_S1 pl_s46_s ck_S0) (ck_E1 (ck_S1 pl_s24_s ck_S0) (ck_E1 (ck_S1 pl_s48_s ck_S0) (ck_E1 (ck_S1 pl_s50_s ck_S0) (ck_E1 (ck_S1 pl_s66_s ck_S0) (ck_E1 (ck_S1 pl_s26_s ck_S0) ck_E0)))))⟩ ck_X0 ck_l0 pl_s67_e
set_option maxRecDepth 100000 in
/-- GlacierMail$Rows.isFull -/
def pl_s68 : ck_Sum := ((0, 0, 0), 249, [.inr (.inr (.inl 21))], ([], [], []), ([], []), [(.inr (some (.inl (ck_one 0))), 249, ([], [], [(21, 3, 3, (0, 7, []))])), (.inr (some (.inl (ck_one 1))), 249, ([], [], [(21, 3, 3, ck_one 8)]))])
set_option maxRecDepth 100000 in
theorem pl_s68_e : ck_ok p2_OL none [] [] 108 [] 86 pl_s68 = true := by decide +kernel
theorem pl_s68_s {X : Int → Int} {LX : Nat} : ck_Ok p2_OL X LX 108 pl_s68 := ck_ok_s ⟨pl_nmu, ck_E0⟩ ck_X0 ck_l0 pl_s68_e
set_option maxRecDepth 100000 in
/-- GlacierMail$Words.isWord -/
def pl_s69 : ck_Sum := ((6, 0, 0), 249, [.inr (.inr (.inl 214)), .inr (.inr (.inr 26))], ([], [], [(214, 3, 3, (0, 400, [(12, 0)]))]), ([], []), [(.inr (some (.inl (ck_one 0))), 249, ([], [], [])), (.inr (some (.inl (ck_one 1))), 249, ([], [], [(214, 3, 3, (5, 400, [(12, 0)])), (214, 4, 4, (0, 395, [])), (214, 6, 6, ck_one 257)]))])
set_option maxRecDepth 100000 in
theorem pl_s69_e : ck_ok p2_OL none [] [] 81 [] 360 pl_s69 = true := by decide +kernel
theorem pl_s69_s {X : Int → Int} {LX : Nat} : ck_Ok p2_OL X LX 81 pl_s69 := ck_ok_s ⟨pl_nmu, ck_E0⟩ ck_X0 ck_l0 pl_s69_e
set_option maxRecDepth 100000 in
/-- GlacierMail$Words.takeWord -/
def pl_s70 : ck_Sum := ((7, 0, 0), 249, [.inr (.inr (.inl 214)), .inr (.inr (.inr 26))], ([], [], [(214, 3, 3, (0, 400, [(12, 0)]))]), ([(214, 3, 4), (214, 6, 7)], []), [(.inr (some (.inl (ck_one 0))), 249, ([], [], [(214, 3, 3, (0, 400, [(12, 0)]))])), (.inr (some (.inl (ck_one 1))), 249, ([], [], [(214, 3, 3, (5, 400, [(1000012, 0)]))]))])
set_option maxRecDepth 100000 in
theorem pl_s70_e : ck_ok p2_OL none [] [(81, [pl_s69]), (76, [pl_s24])] 95 [] 90 pl_s70 = true := by decide +kernel
theorem pl_s70_s {X : Int → Int} {LX : Nat} : ck_Ok p2_OL X LX 95 pl_s70 := ck_ok_s ⟨pl_nmu, ck_E1 (ck_S1 pl_s69_s ck_S0) (ck_E1 (ck_S1 pl_s24_s ck_S0) ck_E0)⟩ ck_X0 ck_l0 pl_s70_e
set_option maxRecDepth 100000 in
/-- GlacierMail$Rows.add -/
def pl_s71 : ck_Sum := ((0, 0, 0), 249, [.inr (.inr (.inl 21))], ([], [], []), ([(21, 3, 3)], []), [(.inr (some (.inl (0, 7, []))), 249, ([], [], [(21, 3, 3, (1, 8, []))])), (.inr (some (.inl (ck_one (-1)))), 249, ([], [], [(21, 3, 3, ck_one 8)]))])
set_option maxRecDepth 100000 in
theorem pl_s71_e : ck_ok p2_OL none [] [] 102 [] 102 pl_s71 = true := by decide +kernel
theorem pl_s71_s {X : Int → Int} {LX : Nat} : ck_Ok p2_OL X LX 102 pl_s71 := ck_ok_s ⟨pl_nmu, ck_E0⟩ ck_X0 ck_l0 pl_s71_e
set_option maxRecDepth 100000 in
/-- GlacierMail$Rows.put -/
def pl_s72 : ck_Sum := ((0, 0, 0), 249, [.inr (.inr (.inl 21)), .inl (0, 7, []), .inl (ck_one 0), .inl (0, 5, [])], ([], [], []), ([(22, 0, 0), (22, 3, 3), (22, 6, 6), (22, 9, 9), (22, 12, 12), (22, 15, 15), (22, 18, 18), (22, 21, 21)], []), [(.inr none, 249, ([], [], []))])
set_option maxRecDepth 100000 in
theorem pl_s72_e : ck_ok p2_OL none [] [] 45 [] 116 pl_s72 = true := by decide +kernel
theorem pl_s72_s {X : Int → Int} {LX : Nat} : ck_Ok p2_OL X LX 45 pl_s72 := ck_ok_s ⟨pl_nmu, ck_E0⟩ ck_X0 ck_l0 pl_s72_e
set_option maxRecDepth 100000 in
/-- GlacierMail$Rows.put -/
def pl_s73 : ck_Sum := ((0, 0, 0), 249, [.inr (.inr (.inl 21)), .inl (0, 7, []), .inl (ck_one 1), .inl (0, 98, [])], ([], [], []), ([(22, 1, 1), (22, 4, 4), (22, 7, 7), (22, 10, 10), (22, 13, 13), (22, 16, 16), (22, 19, 19), (22, 22, 22)], []), [(.inr none, 249, ([], [], []))])
set_option maxRecDepth 100000 in
theorem pl_s73_e : ck_ok p2_OL none [] [] 45 [] 116 pl_s73 = true := by decide +kernel
theorem pl_s73_s {X : Int → Int} {LX : Nat} : ck_Ok p2_OL X LX 45 pl_s73 := ck_ok_s ⟨pl_nmu, ck_E0⟩ ck_X0 ck_l0 pl_s73_e
set_option maxRecDepth 100000 in
/-- GlacierMail$Rows.put -/
def pl_s74 : ck_Sum := ((0, 0, 0), 249, [.inr (.inr (.inl 21)), .inl (0, 7, []), .inl (ck_one 2), .inl (ck_one (-1))], ([], [], []), ([(22, 2, 2), (22, 5, 5), (22, 8, 8), (22, 11, 11), (22, 14, 14), (22, 17, 17), (22, 20, 20), (22, 23, 23)], []), [(.inr none, 249, ([], [], []))])
set_option maxRecDepth 100000 in
theorem pl_s74_e : ck_ok p2_OL none [] [] 45 [] 116 pl_s74 = true := by decide +kernel
theorem pl_s74_s {X : Int → Int} {LX : Nat} : ck_Ok p2_OL X LX 45 pl_s74 := ck_ok_s ⟨pl_nmu, ck_E0⟩ ck_X0 ck_l0 pl_s74_e
set_option maxRecDepth 100000 in
/-- GlacierMail$Rows.put -/
def pl_s75 : ck_Sum := ((0, 0, 0), 249, [.inr (.inr (.inl 21)), .inl (ck_one (-1)), .inl (ck_one 0), .inl (0, 5, [])], ([], [], []), ([], []), [(.inr none, 249, ([], [], []))])
set_option maxRecDepth 100000 in
theorem pl_s75_e : ck_ok p2_OL none [] [] 45 [] 76 pl_s75 = true := by decide +kernel
theorem pl_s75_s {X : Int → Int} {LX : Nat} : ck_Ok p2_OL X LX 45 pl_s75 := ck_ok_s ⟨pl_nmu, ck_E0⟩ ck_X0 ck_l0 pl_s75_e
set_option maxRecDepth 100000 in
/-- GlacierMail$Rows.put -/
def pl_s76 : ck_Sum := ((0, 0, 0), 249, [.inr (.inr (.inl 21)), .inl (ck_one (-1)), .inl (ck_one 1), .inl (0, 98, [])], ([], [], []), ([], []), [(.inr none, 249, ([], [], []))])
set_option maxRecDepth 100000 in
theorem pl_s76_e : ck_ok p2_OL none [] [] 45 [] 76 pl_s76 = true := by decide +kernel
theorem pl_s76_s {X : Int → Int} {LX : Nat} : ck_Ok p2_OL X LX 45 pl_s76 := ck_ok_s ⟨pl_nmu, ck_E0⟩ ck_X0 ck_l0 pl_s76_e
set_option maxRecDepth 100000 in
/-- GlacierMail$Rows.put -/
def pl_s77 : ck_Sum := ((0, 0, 0), 249, [.inr (.inr (.inl 21)), .inl (ck_one (-1)), .inl (ck_one 2), .inl (ck_one (-1))], ([], [], []), ([], []), [(.inr none, 249, ([], [], []))])
set_option maxRecDepth 100000 in
theorem pl_s77_e : ck_ok p2_OL none [] [] 45 [] 76 pl_s77 = true := by decide +kernel
theorem pl_s77_s {X : Int → Int} {LX : Nat} : ck_Ok p2_OL X LX 45 pl_s77 := ck_ok_s ⟨pl_nmu, ck_E0⟩ ck_X0 ck_l0 pl_s77_e
set_option maxRecDepth 100000 in
/-- GlacierMail$Rows.put -/
def pl_s78 : ck_Sum := ((0, 0, 0), 249, [.inr (.inr (.inl 21)), .inl (0, 7, []), .inl (ck_one 2), .inl (0, 5, [])], ([], [], []), ([(22, 2, 2), (22, 5, 5), (22, 8, 8), (22, 11, 11), (22, 14, 14), (22, 17, 17), (22, 20, 20), (22, 23, 23)], []), [(.inr none, 249, ([], [], []))])
set_option maxRecDepth 100000 in
theorem pl_s78_e : ck_ok p2_OL none [] [] 45 [] 116 pl_s78 = true := by decide +kernel
theorem pl_s78_s {X : Int → Int} {LX : Nat} : ck_Ok p2_OL X LX 45 pl_s78 := ck_ok_s ⟨pl_nmu, ck_E0⟩ ck_X0 ck_l0 pl_s78_e
set_option maxRecDepth 100000 in
/-- GlacierMail$Rows.put -/
def pl_s79 : ck_Sum := ((0, 0, 0), 249, [.inr (.inr (.inl 21)), .inl (ck_one (-1)), .inl (ck_one 2), .inl (0, 5, [])], ([], [], []), ([], []), [(.inr none, 249, ([], [], []))])
set_option maxRecDepth 100000 in
theorem pl_s79_e : ck_ok p2_OL none [] [] 45 [] 76 pl_s79 = true := by decide +kernel
theorem pl_s79_s {X : Int → Int} {LX : Nat} : ck_Ok p2_OL X LX 45 pl_s79 := ck_ok_s ⟨pl_nmu, ck_E0⟩ ck_X0 ck_l0 pl_s79_e
set_option maxRecDepth 100000 in
/-- GlacierMail$ValleyReader.readPerson -/
def pl_s80 : ck_Sum := ((8, 0, 0), 249, [.inr (.inr (.inl 213))], ([], [], [(214, 3, 3, (0, 400, [(12, 0)]))]), ([(21, 3, 3), (22, 0, 23), (214, 3, 7)], []), [(.inr (some (.inl (ck_one 0))), 249, ([], [], [(214, 5, 5, (0, 400, [])), (214, 3, 3, (0, 400, [(1000012, 0)]))])), (.inr (some (.inl (ck_one 1))), 249, ([], [], [(21, 3, 3, (1, 8, [])), (214, 3, 3, (0, 400, [(1000012, 0)]))]))])
set_option maxRecDepth 100000 in
theorem pl_s80_e : ck_ok p2_OL none [] [(108, [pl_s68]), (76, [pl_s24]), (117, [pl_s48]), (111, [pl_s50]), (95, [pl_s70]), (102, [pl_s71]), (45, [pl_s72, pl_s73, pl_s74, pl_s75, pl_s76, pl_s77, pl_s78, pl_s79]), (93, [pl_s26])] 116 [] 192 pl_s80 = true := by decide +kernel
theorem pl_s80_s {X : Int → Int} {LX : Nat} : ck_Ok p2_OL X LX 116 pl_s80 := ck_ok_s ⟨pl_nmu, ck_E1 (ck_S1 pl_s68_s ck_S0) (ck_E1 (ck_S1 pl_s24_s ck_S0) (ck_E1 (ck_S1 pl_s48_s ck_S0) (ck_E1 (ck_S1 pl_s50_s ck_S0) (ck_E1 (ck_S1 pl_s70_s ck_S0) (ck_E1 (ck_S1 pl_s71_s ck_S0) (ck_E1 (ck_S1 pl_s72_s (ck_S1 pl_s73_s (ck_S1 pl_s74_s (ck_S1 pl_s75_s (ck_S1 pl_s76_s (ck_S1 pl_s77_s (ck_S1 pl_s78_s (ck_S1 pl_s79_s ck_S0)))))))) (ck_E1 (ck_S1 pl_s26_s ck_S0) ck_E0)))))))⟩ ck_X0 ck_l0 pl_s80_e
set_option maxRecDepth 100000 in
/-- GlacierMail$Rows.isFull -/
def pl_s81 : ck_Sum := ((0, 0, 0), 249, [.inr (.inr (.inl 19))], ([], [], []), ([], []), [(.inr (some (.inl (ck_one 0))), 249, ([], [], [(19, 3, 3, (0, 7, []))])), (.inr (some (.inl (ck_one 1))), 249, ([], [], [(19, 3, 3, ck_one 8)]))])
set_option maxRecDepth 100000 in
theorem pl_s81_e : ck_ok p2_OL none [] [] 108 [] 86 pl_s81 = true := by decide +kernel
theorem pl_s81_s {X : Int → Int} {LX : Nat} : ck_Ok p2_OL X LX 108 pl_s81 := ck_ok_s ⟨pl_nmu, ck_E0⟩ ck_X0 ck_l0 pl_s81_e
set_option maxRecDepth 100000 in
/-- GlacierMail$Words.needNumber -/
def pl_s82 : ck_Sum := ((2, 0, 0), 249, [.inr (.inr (.inl 214)), .inl (0, 299, []), .inl (ck_one 299)], ([], [], [(214, 3, 3, (0, 400, [(12, 0)]))]), ([(214, 3, 7)], []), [(.inr (some (.inl (ck_one (-1)))), 249, ([], [], [(214, 5, 5, (0, 400, [])), (214, 3, 3, (0, 400, [(12, 0)]))])), (.inr (some (.inl (0, 299, []))), 249, ([], [], [(214, 3, 3, (0, 400, [(1000012, 0)]))]))])
set_option maxRecDepth 100000 in
theorem pl_s82_e : ck_ok p2_OL none [] [(93, [pl_s26]), (76, [pl_s24])] 94 [] 106 pl_s82 = true := by decide +kernel
theorem pl_s82_s {X : Int → Int} {LX : Nat} : ck_Ok p2_OL X LX 94 pl_s82 := ck_ok_s ⟨pl_nmu, ck_E1 (ck_S1 pl_s26_s ck_S0) (ck_E1 (ck_S1 pl_s24_s ck_S0) ck_E0)⟩ ck_X0 ck_l0 pl_s82_e
set_option maxRecDepth 100000 in
/-- GlacierMail$Words.needNumber -/
def pl_s83 : ck_Sum := ((2, 0, 0), 249, [.inr (.inr (.inl 214)), .inl (ck_one 1), .inl (ck_one 20)], ([], [], [(214, 3, 3, (0, 400, [(12, 0)]))]), ([(214, 3, 7)], []), [(.inr (some (.inl (ck_one (-1)))), 249, ([], [], [(214, 5, 5, (0, 400, [])), (214, 3, 3, (0, 400, [(12, 0)]))])), (.inr (some (.inl (1, 20, []))), 249, ([], [], [(214, 3, 3, (0, 400, [(1000012, 0)]))]))])
set_option maxRecDepth 100000 in
theorem pl_s83_e : ck_ok p2_OL none [] [(93, [pl_s26]), (76, [pl_s24])] 94 [] 106 pl_s83 = true := by decide +kernel
theorem pl_s83_s {X : Int → Int} {LX : Nat} : ck_Ok p2_OL X LX 94 pl_s83 := ck_ok_s ⟨pl_nmu, ck_E1 (ck_S1 pl_s26_s ck_S0) (ck_E1 (ck_S1 pl_s24_s ck_S0) ck_E0)⟩ ck_X0 ck_l0 pl_s83_e
set_option maxRecDepth 100000 in
/-- GlacierMail$Rows.add -/
def pl_s84 : ck_Sum := ((0, 0, 0), 249, [.inr (.inr (.inl 19))], ([], [], []), ([(19, 3, 3)], []), [(.inr (some (.inl (0, 7, []))), 249, ([], [], [(19, 3, 3, (1, 8, []))])), (.inr (some (.inl (ck_one (-1)))), 249, ([], [], [(19, 3, 3, ck_one 8)]))])
set_option maxRecDepth 100000 in
theorem pl_s84_e : ck_ok p2_OL none [] [] 102 [] 102 pl_s84 = true := by decide +kernel
theorem pl_s84_s {X : Int → Int} {LX : Nat} : ck_Ok p2_OL X LX 102 pl_s84 := ck_ok_s ⟨pl_nmu, ck_E0⟩ ck_X0 ck_l0 pl_s84_e
set_option maxRecDepth 100000 in
/-- GlacierMail$Rows.put -/
def pl_s85 : ck_Sum := ((0, 0, 0), 249, [.inr (.inr (.inl 19)), .inl (0, 7, []), .inl (ck_one 0), .inl (0, 299, [])], ([], [], []), ([(20, 0, 0), (20, 3, 3), (20, 6, 6), (20, 9, 9), (20, 12, 12), (20, 15, 15), (20, 18, 18), (20, 21, 21)], []), [(.inr none, 249, ([], [], []))])
set_option maxRecDepth 100000 in
theorem pl_s85_e : ck_ok p2_OL none [] [] 45 [] 116 pl_s85 = true := by decide +kernel
theorem pl_s85_s {X : Int → Int} {LX : Nat} : ck_Ok p2_OL X LX 45 pl_s85 := ck_ok_s ⟨pl_nmu, ck_E0⟩ ck_X0 ck_l0 pl_s85_e
set_option maxRecDepth 100000 in
/-- GlacierMail$Rows.put -/
def pl_s86 : ck_Sum := ((0, 0, 0), 249, [.inr (.inr (.inl 19)), .inl (0, 7, []), .inl (ck_one 1), .inl (0, 98, [])], ([], [], []), ([(20, 1, 1), (20, 4, 4), (20, 7, 7), (20, 10, 10), (20, 13, 13), (20, 16, 16), (20, 19, 19), (20, 22, 22)], []), [(.inr none, 249, ([], [], []))])
set_option maxRecDepth 100000 in
theorem pl_s86_e : ck_ok p2_OL none [] [] 45 [] 116 pl_s86 = true := by decide +kernel
theorem pl_s86_s {X : Int → Int} {LX : Nat} : ck_Ok p2_OL X LX 45 pl_s86 := ck_ok_s ⟨pl_nmu, ck_E0⟩ ck_X0 ck_l0 pl_s86_e
set_option maxRecDepth 100000 in
/-- GlacierMail$Rows.put -/
def pl_s87 : ck_Sum := ((0, 0, 0), 249, [.inr (.inr (.inl 19)), .inl (0, 7, []), .inl (ck_one 2), .inl (1, 20, [])], ([], [], []), ([(20, 2, 2), (20, 5, 5), (20, 8, 8), (20, 11, 11), (20, 14, 14), (20, 17, 17), (20, 20, 20), (20, 23, 23)], []), [(.inr none, 249, ([], [], []))])
set_option maxRecDepth 100000 in
theorem pl_s87_e : ck_ok p2_OL none [] [] 45 [] 116 pl_s87 = true := by decide +kernel
theorem pl_s87_s {X : Int → Int} {LX : Nat} : ck_Ok p2_OL X LX 45 pl_s87 := ck_ok_s ⟨pl_nmu, ck_E0⟩ ck_X0 ck_l0 pl_s87_e
set_option maxRecDepth 100000 in
/-- GlacierMail$Rows.put -/
def pl_s88 : ck_Sum := ((0, 0, 0), 249, [.inr (.inr (.inl 19)), .inl (ck_one (-1)), .inl (ck_one 0), .inl (0, 299, [])], ([], [], []), ([], []), [(.inr none, 249, ([], [], []))])
set_option maxRecDepth 100000 in
theorem pl_s88_e : ck_ok p2_OL none [] [] 45 [] 76 pl_s88 = true := by decide +kernel
theorem pl_s88_s {X : Int → Int} {LX : Nat} : ck_Ok p2_OL X LX 45 pl_s88 := ck_ok_s ⟨pl_nmu, ck_E0⟩ ck_X0 ck_l0 pl_s88_e
set_option maxRecDepth 100000 in
/-- GlacierMail$Rows.put -/
def pl_s89 : ck_Sum := ((0, 0, 0), 249, [.inr (.inr (.inl 19)), .inl (ck_one (-1)), .inl (ck_one 1), .inl (0, 98, [])], ([], [], []), ([], []), [(.inr none, 249, ([], [], []))])
set_option maxRecDepth 100000 in
theorem pl_s89_e : ck_ok p2_OL none [] [] 45 [] 76 pl_s89 = true := by decide +kernel
theorem pl_s89_s {X : Int → Int} {LX : Nat} : ck_Ok p2_OL X LX 45 pl_s89 := ck_ok_s ⟨pl_nmu, ck_E0⟩ ck_X0 ck_l0 pl_s89_e
