/-! THE CLASS'S law(): reading, and a new Law (laid by wip/am/p2m.py). -/
set_option maxRecDepth 100000 in
/-- java/util/Arrays.fill -/
def pm_s0 : ck_Sum := ((0, 0, 0), 245, [.inr (.inr (.inl 218)), .inl (ck_one 0)], ([], [], []), ([(218, 0, 47)], []), [(.inr none, 245, ([], [], []))])
set_option maxRecDepth 100000 in
theorem pm_s0_e : ck_ok p2_O none [] [] 8 [(5, [some (.inr (.inr (.inl 218))), some (.inl (ck_one 0)), some (.inl (0, 48, [])), some (.inl (ck_one 48))], ([], [], []), 100, .inl 2, true)] 130 pm_s0 = true := by decide +kernel
theorem pm_s0_s {X : Int → Int} {LX : Nat} : ck_Ok p2_O X LX 8 pm_s0 := ck_ok_s ⟨p2_nmu, ck_E0⟩ ck_X0 ck_l0 pm_s0_e
set_option maxRecDepth 100000 in
/-- GlacierMail$Rows.reset -/
def pm_s1 : ck_Sum := ((1, 0, 0), 245, [.inr (.inr (.inl 217)), .inl (ck_one 0)], ([], [], []), ([(217, 3, 3), (218, 0, 47)], []), [(.inr none, 245, ([], [], [(217, 3, 3, ck_one 0)]))])
set_option maxRecDepth 100000 in
theorem pm_s1_e : ck_ok p2_O none [] [(8, [pm_s0])] 25 [] 96 pm_s1 = true := by decide +kernel
theorem pm_s1_s {X : Int → Int} {LX : Nat} : ck_Ok p2_O X LX 25 pm_s1 := ck_ok_s ⟨p2_nmu, ck_E1 (ck_S1 pm_s0_s ck_S0) ck_E0⟩ ck_X0 ck_l0 pm_s1_e
set_option maxRecDepth 100000 in
/-- GlacierMail$LawReader.clear -/
def pm_s2 : ck_Sum := ((2, 0, 0), 245, [.inr (.inr (.inl 215))], ([], [], []), ([(215, 4, 4), (217, 3, 3), (218, 0, 47)], []), [(.inr none, 245, ([], [], [(215, 4, 4, ck_one 0), (217, 3, 3, ck_one 0)]))])
set_option maxRecDepth 100000 in
theorem pm_s2_e : ck_ok p2_O none [] [(25, [pm_s1])] 73 [] 86 pm_s2 = true := by decide +kernel
theorem pm_s2_s {X : Int → Int} {LX : Nat} : ck_Ok p2_O X LX 73 pm_s2 := ck_ok_s ⟨p2_nmu, ck_E1 (ck_S1 pm_s1_s ck_S0) ck_E0⟩ ck_X0 ck_l0 pm_s2_e
set_option maxRecDepth 100000 in
/-- GlacierMail$Words.isSmall -/
def pm_s3 : ck_Sum := ((0, 0, 0), 245, [.inl ((-128), 127, [])], ([], [], []), ([], []), [(.inr (some (.inl (ck_one 0))), 245, ([], [], [])), (.inr (some (.inl (ck_one 1))), 245, ([], [], []))])
set_option maxRecDepth 100000 in
theorem pm_s3_e : ck_ok p2_O none [] [] 77 [] 88 pm_s3 = true := by decide +kernel
theorem pm_s3_s {X : Int → Int} {LX : Nat} : ck_Ok p2_O X LX 77 pm_s3 := ck_ok_s ⟨p2_nmu, ck_E0⟩ ck_X0 ck_l0 pm_s3_e
set_option maxRecDepth 100000 in
/-- GlacierMail$Words.isDigit -/
def pm_s4 : ck_Sum := ((0, 0, 0), 245, [.inl ((-128), 127, [])], ([], [], []), ([], []), [(.inr (some (.inl (ck_one 0))), 245, ([], [], [])), (.inr (some (.inl (ck_one 1))), 245, ([], [], []))])
set_option maxRecDepth 100000 in
theorem pm_s4_e : ck_ok p2_O none [] [] 78 [] 88 pm_s4 = true := by decide +kernel
theorem pm_s4_s {X : Int → Int} {LX : Nat} : ck_Ok p2_O X LX 78 pm_s4 := ck_ok_s ⟨p2_nmu, ck_E0⟩ ck_X0 ck_l0 pm_s4_e
set_option maxRecDepth 100000 in
/-- GlacierMail$Words.next -/
def pm_s5 : ck_Sum := ((1, 0, 0), 245, [.inr (.inr (.inl 216))], ([], [], [(216, 3, 3, (0, 400, [(13, 0)]))]), ([(216, 3, 4), (216, 6, 7)], []), [(.inr none, 245, ([], [], [(216, 3, 3, (0, 400, [(1000013, 0)]))]))])
set_option maxRecDepth 100000 in
theorem pm_s5_e : ck_ok p2_O none [] [(77, [pm_s3]), (78, [pm_s4])] 76 [(0, [some (.inr (.inr (.inl 216))), none], ([], [], [(216, 3, 3, (0, 400, [(1000013, 0)]))]), 100, .inr (216, 3), true), (160, [some (.inr (.inr (.inl 216))), none], ([], [], [(216, 6, 6, ck_one 258), (216, 2, 2, (1, 400, [])), (216, 3, 3, (0, 400, [(1000100, 0), (1000013, 0)])), (216, 4, 4, (0, 400, [(100, 0)]))]), 300, .inr (216, 3), true), (94, [some (.inr (.inr (.inl 216))), none], ([], [], [(216, 6, 6, ck_one 257), (216, 2, 2, (1, 400, [])), (216, 3, 3, (0, 400, [(1000100, 0), (1000013, 0)])), (216, 7, 7, ck_one (-1)), (216, 4, 4, (0, 400, [(100, 0), (1000013, 0)]))]), 500, .inr (216, 3), true)] 562 pm_s5 = true := by decide +kernel
theorem pm_s5_s {X : Int → Int} {LX : Nat} : ck_Ok p2_O X LX 76 pm_s5 := ck_ok_s ⟨p2_nmu, ck_E1 (ck_S1 pm_s3_s ck_S0) (ck_E1 (ck_S1 pm_s4_s ck_S0) ck_E0)⟩ ck_X0 ck_l0 pm_s5_e
set_option maxRecDepth 100000 in
/-- GlacierMail$Words.start -/
def pm_s6 : ck_Sum := ((2, 0, 0), 245, [.inr (.inr (.inl 216)), .inl (0, 400, [])], ([], [], [(216, 3, 3, (0, 400, [(13, 0)]))]), ([(216, 2, 7)], []), [(.inr none, 245, ([], [], [(216, 5, 5, ck_one (-1))]))])
set_option maxRecDepth 100000 in
theorem pm_s6_e : ck_ok p2_O none [] [(76, [pm_s5])] 75 [] 102 pm_s6 = true := by decide +kernel
theorem pm_s6_s {X : Int → Int} {LX : Nat} : ck_Ok p2_O X LX 75 pm_s6 := ck_ok_s ⟨p2_nmu, ck_E1 (ck_S1 pm_s5_s ck_S0) ck_E0⟩ ck_X0 ck_l0 pm_s6_e
set_option maxRecDepth 100000 in
/-- GlacierMail$Words.refuse -/
def pm_s7 : ck_Sum := ((0, 0, 0), 245, [.inr (.inr (.inl 216))], ([], [], []), ([(216, 5, 5)], []), [(.inr (some (.inl (ck_one 0))), 245, ([], [], [(216, 5, 5, (0, 400, []))]))])
set_option maxRecDepth 100000 in
theorem pm_s7_e : ck_ok p2_O none [] [] 93 [] 90 pm_s7 = true := by decide +kernel
theorem pm_s7_s {X : Int → Int} {LX : Nat} : ck_Ok p2_O X LX 93 pm_s7 := ck_ok_s ⟨p2_nmu, ck_E0⟩ ck_X0 ck_l0 pm_s7_e
set_option maxRecDepth 100000 in
/-- GlacierMail$Words.wrong -/
def pm_s8 : ck_Sum := ((0, 0, 0), 245, [.inr (.inr (.inl 216))], ([], [], []), ([], []), [(.inr (some (.inl (ck_one (-1)))), 245, ([], [], [(216, 5, 5, ck_one (-1))])), (.inr (some (.inl (0, 400, []))), 245, ([], [], [(216, 5, 5, (0, 400, []))]))])
set_option maxRecDepth 100000 in
theorem pm_s8_e : ck_ok p2_O none [] [] 121 [] 76 pm_s8 = true := by decide +kernel
theorem pm_s8_s {X : Int → Int} {LX : Nat} : ck_Ok p2_O X LX 121 pm_s8 := ck_ok_s ⟨p2_nmu, ck_E0⟩ ck_X0 ck_l0 pm_s8_e
set_option maxRecDepth 100000 in
/-- GlacierMail$Words.isWord -/
def pm_s9 : ck_Sum := ((6, 0, 0), 245, [.inr (.inr (.inl 216)), .inr (.inr (.inr 0))], ([], [], [(216, 3, 3, (0, 400, [(13, 0)]))]), ([], []), [(.inr (some (.inl (ck_one 0))), 245, ([], [], [])), (.inr (some (.inl (ck_one 1))), 245, ([], [], [(216, 3, 3, (4, 400, [(13, 0)])), (216, 4, 4, (0, 396, [])), (216, 6, 6, ck_one 257)]))])
set_option maxRecDepth 100000 in
theorem pm_s9_e : ck_ok p2_O none [] [] 81 [] 310 pm_s9 = true := by decide +kernel
theorem pm_s9_s {X : Int → Int} {LX : Nat} : ck_Ok p2_O X LX 81 pm_s9 := ck_ok_s ⟨p2_nmu, ck_E0⟩ ck_X0 ck_l0 pm_s9_e
set_option maxRecDepth 100000 in
/-- GlacierMail$Words.isWord -/
def pm_s10 : ck_Sum := ((6, 0, 0), 245, [.inr (.inr (.inl 216)), .inr (.inr (.inr 1))], ([], [], [(216, 3, 3, (0, 400, [(13, 0)]))]), ([], []), [(.inr (some (.inl (ck_one 0))), 245, ([], [], [])), (.inr (some (.inl (ck_one 1))), 245, ([], [], [(216, 3, 3, (4, 400, [(13, 0)])), (216, 4, 4, (0, 396, [])), (216, 6, 6, ck_one 257)]))])
set_option maxRecDepth 100000 in
theorem pm_s10_e : ck_ok p2_O none [] [] 81 [] 310 pm_s10 = true := by decide +kernel
theorem pm_s10_s {X : Int → Int} {LX : Nat} : ck_Ok p2_O X LX 81 pm_s10 := ck_ok_s ⟨p2_nmu, ck_E0⟩ ck_X0 ck_l0 pm_s10_e
set_option maxRecDepth 100000 in
/-- GlacierMail$Words.isWord -/
def pm_s11 : ck_Sum := ((6, 0, 0), 245, [.inr (.inr (.inl 216)), .inr (.inr (.inr 2))], ([], [], [(216, 3, 3, (0, 400, [(13, 0)]))]), ([], []), [(.inr (some (.inl (ck_one 0))), 245, ([], [], [])), (.inr (some (.inl (ck_one 1))), 245, ([], [], [(216, 3, 3, (4, 400, [(13, 0)])), (216, 4, 4, (0, 396, [])), (216, 6, 6, ck_one 257)]))])
set_option maxRecDepth 100000 in
theorem pm_s11_e : ck_ok p2_O none [] [] 81 [] 310 pm_s11 = true := by decide +kernel
theorem pm_s11_s {X : Int → Int} {LX : Nat} : ck_Ok p2_O X LX 81 pm_s11 := ck_ok_s ⟨p2_nmu, ck_E0⟩ ck_X0 ck_l0 pm_s11_e
set_option maxRecDepth 100000 in
/-- GlacierMail$LawReader.readKind -/
def pm_s12 : ck_Sum := ((7, 0, 0), 245, [.inr (.inr (.inl 215))], ([], [], [(216, 3, 3, (0, 400, [(13, 0)]))]), ([], []), [(.inr (some (.inl (ck_one (-1)))), 245, ([], [], [])), (.inr (some (.inl (ck_one 2))), 245, ([], [], [(216, 3, 3, (4, 400, [(13, 0)])), (216, 4, 4, (0, 396, [])), (216, 6, 6, ck_one 257)])), (.inr (some (.inl (ck_one 1))), 245, ([], [], [(216, 3, 3, (4, 400, [(13, 0)])), (216, 4, 4, (0, 396, [])), (216, 6, 6, ck_one 257)])), (.inr (some (.inl (ck_one 0))), 245, ([], [], [(216, 3, 3, (4, 400, [(13, 0)])), (216, 4, 4, (0, 396, [])), (216, 6, 6, ck_one 257)]))])
set_option maxRecDepth 100000 in
theorem pm_s12_e : ck_ok p2_O none [] [(81, [pm_s9, pm_s10, pm_s11])] 80 [] 106 pm_s12 = true := by decide +kernel
theorem pm_s12_s {X : Int → Int} {LX : Nat} : ck_Ok p2_O X LX 80 pm_s12 := ck_ok_s ⟨p2_nmu, ck_E1 (ck_S1 pm_s9_s (ck_S1 pm_s10_s (ck_S1 pm_s11_s ck_S0))) ck_E0⟩ ck_X0 ck_l0 pm_s12_e
set_option maxRecDepth 100000 in
/-- GlacierMail$Words.needNumber -/
def pm_s13 : ck_Sum := ((2, 0, 0), 245, [.inr (.inr (.inl 216)), .inl (ck_one 0), .inl (ck_one 20)], ([], [], [(216, 3, 3, (0, 400, [(13, 0)]))]), ([(216, 3, 7)], []), [(.inr (some (.inl (ck_one (-1)))), 245, ([], [], [(216, 5, 5, (0, 400, [])), (216, 3, 3, (0, 400, [(13, 0)]))])), (.inr (some (.inl (0, 20, []))), 245, ([], [], [(216, 3, 3, (0, 400, [(1000013, 0)]))]))])
set_option maxRecDepth 100000 in
theorem pm_s13_e : ck_ok p2_O none [] [(93, [pm_s7]), (76, [pm_s5])] 94 [] 106 pm_s13 = true := by decide +kernel
theorem pm_s13_s {X : Int → Int} {LX : Nat} : ck_Ok p2_O X LX 94 pm_s13 := ck_ok_s ⟨p2_nmu, ck_E1 (ck_S1 pm_s7_s ck_S0) (ck_E1 (ck_S1 pm_s5_s ck_S0) ck_E0)⟩ ck_X0 ck_l0 pm_s13_e
set_option maxRecDepth 100000 in
/-- GlacierMail$Words.isWord -/
def pm_s14 : ck_Sum := ((6, 0, 0), 245, [.inr (.inr (.inl 216)), .inr (.inr (.inr 3))], ([], [], [(216, 3, 3, (0, 400, [(13, 0)]))]), ([], []), [(.inr (some (.inl (ck_one 0))), 245, ([], [], [])), (.inr (some (.inl (ck_one 1))), 245, ([], [], [(216, 3, 3, (2, 400, [(13, 0)])), (216, 4, 4, (0, 398, [])), (216, 6, 6, ck_one 257)]))])
set_option maxRecDepth 100000 in
theorem pm_s14_e : ck_ok p2_O none [] [] 81 [] 210 pm_s14 = true := by decide +kernel
theorem pm_s14_s {X : Int → Int} {LX : Nat} : ck_Ok p2_O X LX 81 pm_s14 := ck_ok_s ⟨p2_nmu, ck_E0⟩ ck_X0 ck_l0 pm_s14_e
set_option maxRecDepth 100000 in
/-- GlacierMail$Words.takeWord -/
def pm_s15 : ck_Sum := ((7, 0, 0), 245, [.inr (.inr (.inl 216)), .inr (.inr (.inr 3))], ([], [], [(216, 3, 3, (0, 400, [(13, 0)]))]), ([(216, 3, 4), (216, 6, 7)], []), [(.inr (some (.inl (ck_one 0))), 245, ([], [], [(216, 3, 3, (0, 400, [(13, 0)]))])), (.inr (some (.inl (ck_one 1))), 245, ([], [], [(216, 3, 3, (2, 400, [(1000013, 0)]))]))])
set_option maxRecDepth 100000 in
theorem pm_s15_e : ck_ok p2_O none [] [(81, [pm_s14]), (76, [pm_s5])] 95 [] 90 pm_s15 = true := by decide +kernel
theorem pm_s15_s {X : Int → Int} {LX : Nat} : ck_Ok p2_O X LX 95 pm_s15 := ck_ok_s ⟨p2_nmu, ck_E1 (ck_S1 pm_s14_s ck_S0) (ck_E1 (ck_S1 pm_s5_s ck_S0) ck_E0)⟩ ck_X0 ck_l0 pm_s15_e
set_option maxRecDepth 100000 in
/-- GlacierMail$Rows.add -/
def pm_s16 : ck_Sum := ((0, 0, 0), 245, [.inr (.inr (.inl 217))], ([], [], []), ([(217, 3, 3)], []), [(.inr (some (.inl (0, 11, []))), 245, ([], [], [(217, 3, 3, (1, 12, []))])), (.inr (some (.inl (ck_one (-1)))), 245, ([], [], [(217, 3, 3, ck_one 12)]))])
set_option maxRecDepth 100000 in
theorem pm_s16_e : ck_ok p2_O none [] [] 102 [] 102 pm_s16 = true := by decide +kernel
theorem pm_s16_s {X : Int → Int} {LX : Nat} : ck_Ok p2_O X LX 102 pm_s16 := ck_ok_s ⟨p2_nmu, ck_E0⟩ ck_X0 ck_l0 pm_s16_e
set_option maxRecDepth 100000 in
/-- GlacierMail$Rows.put -/
def pm_s17 : ck_Sum := ((0, 0, 0), 245, [.inr (.inr (.inl 217)), .inl (0, 11, []), .inl (ck_one 0), .inl (ck_one 0)], ([], [], []), ([(218, 0, 0), (218, 4, 4), (218, 8, 8), (218, 12, 12), (218, 16, 16), (218, 20, 20), (218, 24, 24), (218, 28, 28), (218, 32, 32), (218, 36, 36), (218, 40, 40), (218, 44, 44)], []), [(.inr none, 245, ([], [], []))])
set_option maxRecDepth 100000 in
theorem pm_s17_e : ck_ok p2_O none [] [] 45 [] 116 pm_s17 = true := by decide +kernel
theorem pm_s17_s {X : Int → Int} {LX : Nat} : ck_Ok p2_O X LX 45 pm_s17 := ck_ok_s ⟨p2_nmu, ck_E0⟩ ck_X0 ck_l0 pm_s17_e
set_option maxRecDepth 100000 in
/-- GlacierMail$Rows.put -/
def pm_s18 : ck_Sum := ((0, 0, 0), 245, [.inr (.inr (.inl 217)), .inl (0, 11, []), .inl (ck_one 1), .inl (0, 20, [])], ([], [], []), ([(218, 1, 1), (218, 5, 5), (218, 9, 9), (218, 13, 13), (218, 17, 17), (218, 21, 21), (218, 25, 25), (218, 29, 29), (218, 33, 33), (218, 37, 37), (218, 41, 41), (218, 45, 45)], []), [(.inr none, 245, ([], [], []))])
set_option maxRecDepth 100000 in
theorem pm_s18_e : ck_ok p2_O none [] [] 45 [] 116 pm_s18 = true := by decide +kernel
theorem pm_s18_s {X : Int → Int} {LX : Nat} : ck_Ok p2_O X LX 45 pm_s18 := ck_ok_s ⟨p2_nmu, ck_E0⟩ ck_X0 ck_l0 pm_s18_e
set_option maxRecDepth 100000 in
/-- GlacierMail$Rows.put -/
def pm_s19 : ck_Sum := ((0, 0, 0), 245, [.inr (.inr (.inl 217)), .inl (0, 11, []), .inl (ck_one 2), .inl (0, 400, [])], ([], [], []), ([(218, 2, 2), (218, 6, 6), (218, 10, 10), (218, 14, 14), (218, 18, 18), (218, 22, 22), (218, 26, 26), (218, 30, 30), (218, 34, 34), (218, 38, 38), (218, 42, 42), (218, 46, 46)], []), [(.inr none, 245, ([], [], []))])
set_option maxRecDepth 100000 in
theorem pm_s19_e : ck_ok p2_O none [] [] 45 [] 116 pm_s19 = true := by decide +kernel
theorem pm_s19_s {X : Int → Int} {LX : Nat} : ck_Ok p2_O X LX 45 pm_s19 := ck_ok_s ⟨p2_nmu, ck_E0⟩ ck_X0 ck_l0 pm_s19_e
set_option maxRecDepth 100000 in
/-- GlacierMail$Rows.put -/
def pm_s20 : ck_Sum := ((0, 0, 0), 245, [.inr (.inr (.inl 217)), .inl (0, 11, []), .inl (ck_one 3), .inl (0, 400, [])], ([], [], []), ([(218, 3, 3), (218, 7, 7), (218, 11, 11), (218, 15, 15), (218, 19, 19), (218, 23, 23), (218, 27, 27), (218, 31, 31), (218, 35, 35), (218, 39, 39), (218, 43, 43), (218, 47, 47)], []), [(.inr none, 245, ([], [], []))])
set_option maxRecDepth 100000 in
theorem pm_s20_e : ck_ok p2_O none [] [] 45 [] 116 pm_s20 = true := by decide +kernel
theorem pm_s20_s {X : Int → Int} {LX : Nat} : ck_Ok p2_O X LX 45 pm_s20 := ck_ok_s ⟨p2_nmu, ck_E0⟩ ck_X0 ck_l0 pm_s20_e
set_option maxRecDepth 100000 in
/-- GlacierMail$Rows.put -/
def pm_s21 : ck_Sum := ((0, 0, 0), 245, [.inr (.inr (.inl 217)), .inl (ck_one (-1)), .inl (ck_one 0), .inl (ck_one 0)], ([], [], []), ([], []), [(.inr none, 245, ([], [], []))])
set_option maxRecDepth 100000 in
theorem pm_s21_e : ck_ok p2_O none [] [] 45 [] 76 pm_s21 = true := by decide +kernel
theorem pm_s21_s {X : Int → Int} {LX : Nat} : ck_Ok p2_O X LX 45 pm_s21 := ck_ok_s ⟨p2_nmu, ck_E0⟩ ck_X0 ck_l0 pm_s21_e
set_option maxRecDepth 100000 in
/-- GlacierMail$Rows.put -/
def pm_s22 : ck_Sum := ((0, 0, 0), 245, [.inr (.inr (.inl 217)), .inl (ck_one (-1)), .inl (ck_one 1), .inl (0, 20, [])], ([], [], []), ([], []), [(.inr none, 245, ([], [], []))])
set_option maxRecDepth 100000 in
theorem pm_s22_e : ck_ok p2_O none [] [] 45 [] 76 pm_s22 = true := by decide +kernel
theorem pm_s22_s {X : Int → Int} {LX : Nat} : ck_Ok p2_O X LX 45 pm_s22 := ck_ok_s ⟨p2_nmu, ck_E0⟩ ck_X0 ck_l0 pm_s22_e
set_option maxRecDepth 100000 in
/-- GlacierMail$Rows.put -/
def pm_s23 : ck_Sum := ((0, 0, 0), 245, [.inr (.inr (.inl 217)), .inl (ck_one (-1)), .inl (ck_one 2), .inl (0, 400, [])], ([], [], []), ([], []), [(.inr none, 245, ([], [], []))])
set_option maxRecDepth 100000 in
theorem pm_s23_e : ck_ok p2_O none [] [] 45 [] 76 pm_s23 = true := by decide +kernel
theorem pm_s23_s {X : Int → Int} {LX : Nat} : ck_Ok p2_O X LX 45 pm_s23 := ck_ok_s ⟨p2_nmu, ck_E0⟩ ck_X0 ck_l0 pm_s23_e
set_option maxRecDepth 100000 in
/-- GlacierMail$Rows.put -/
def pm_s24 : ck_Sum := ((0, 0, 0), 245, [.inr (.inr (.inl 217)), .inl (ck_one (-1)), .inl (ck_one 3), .inl (0, 400, [])], ([], [], []), ([], []), [(.inr none, 245, ([], [], []))])
set_option maxRecDepth 100000 in
theorem pm_s24_e : ck_ok p2_O none [] [] 45 [] 76 pm_s24 = true := by decide +kernel
theorem pm_s24_s {X : Int → Int} {LX : Nat} : ck_Ok p2_O X LX 45 pm_s24 := ck_ok_s ⟨p2_nmu, ck_E0⟩ ck_X0 ck_l0 pm_s24_e
set_option maxRecDepth 100000 in
/-- GlacierMail$Rows.put -/
def pm_s25 : ck_Sum := ((0, 0, 0), 245, [.inr (.inr (.inl 217)), .inl (0, 11, []), .inl (ck_one 0), .inl (ck_one 1)], ([], [], []), ([(218, 0, 0), (218, 4, 4), (218, 8, 8), (218, 12, 12), (218, 16, 16), (218, 20, 20), (218, 24, 24), (218, 28, 28), (218, 32, 32), (218, 36, 36), (218, 40, 40), (218, 44, 44)], []), [(.inr none, 245, ([], [], []))])
set_option maxRecDepth 100000 in
theorem pm_s25_e : ck_ok p2_O none [] [] 45 [] 116 pm_s25 = true := by decide +kernel
theorem pm_s25_s {X : Int → Int} {LX : Nat} : ck_Ok p2_O X LX 45 pm_s25 := ck_ok_s ⟨p2_nmu, ck_E0⟩ ck_X0 ck_l0 pm_s25_e
set_option maxRecDepth 100000 in
/-- GlacierMail$Rows.put -/
def pm_s26 : ck_Sum := ((0, 0, 0), 245, [.inr (.inr (.inl 217)), .inl (ck_one (-1)), .inl (ck_one 0), .inl (ck_one 1)], ([], [], []), ([], []), [(.inr none, 245, ([], [], []))])
set_option maxRecDepth 100000 in
theorem pm_s26_e : ck_ok p2_O none [] [] 45 [] 76 pm_s26 = true := by decide +kernel
theorem pm_s26_s {X : Int → Int} {LX : Nat} : ck_Ok p2_O X LX 45 pm_s26 := ck_ok_s ⟨p2_nmu, ck_E0⟩ ck_X0 ck_l0 pm_s26_e
set_option maxRecDepth 100000 in
/-- GlacierMail$Rows.put -/
def pm_s27 : ck_Sum := ((0, 0, 0), 245, [.inr (.inr (.inl 217)), .inl (0, 11, []), .inl (ck_one 0), .inl (ck_one 2)], ([], [], []), ([(218, 0, 0), (218, 4, 4), (218, 8, 8), (218, 12, 12), (218, 16, 16), (218, 20, 20), (218, 24, 24), (218, 28, 28), (218, 32, 32), (218, 36, 36), (218, 40, 40), (218, 44, 44)], []), [(.inr none, 245, ([], [], []))])
set_option maxRecDepth 100000 in
theorem pm_s27_e : ck_ok p2_O none [] [] 45 [] 116 pm_s27 = true := by decide +kernel
theorem pm_s27_s {X : Int → Int} {LX : Nat} : ck_Ok p2_O X LX 45 pm_s27 := ck_ok_s ⟨p2_nmu, ck_E0⟩ ck_X0 ck_l0 pm_s27_e
set_option maxRecDepth 100000 in
/-- GlacierMail$Rows.put -/
def pm_s28 : ck_Sum := ((0, 0, 0), 245, [.inr (.inr (.inl 217)), .inl (0, 11, []), .inl (ck_one 1), .inl (ck_one 0)], ([], [], []), ([(218, 1, 1), (218, 5, 5), (218, 9, 9), (218, 13, 13), (218, 17, 17), (218, 21, 21), (218, 25, 25), (218, 29, 29), (218, 33, 33), (218, 37, 37), (218, 41, 41), (218, 45, 45)], []), [(.inr none, 245, ([], [], []))])
set_option maxRecDepth 100000 in
theorem pm_s28_e : ck_ok p2_O none [] [] 45 [] 116 pm_s28 = true := by decide +kernel
theorem pm_s28_s {X : Int → Int} {LX : Nat} : ck_Ok p2_O X LX 45 pm_s28 := ck_ok_s ⟨p2_nmu, ck_E0⟩ ck_X0 ck_l0 pm_s28_e
set_option maxRecDepth 100000 in
/-- GlacierMail$Rows.put -/
def pm_s29 : ck_Sum := ((0, 0, 0), 245, [.inr (.inr (.inl 217)), .inl (ck_one (-1)), .inl (ck_one 0), .inl (ck_one 2)], ([], [], []), ([], []), [(.inr none, 245, ([], [], []))])
set_option maxRecDepth 100000 in
theorem pm_s29_e : ck_ok p2_O none [] [] 45 [] 76 pm_s29 = true := by decide +kernel
theorem pm_s29_s {X : Int → Int} {LX : Nat} : ck_Ok p2_O X LX 45 pm_s29 := ck_ok_s ⟨p2_nmu, ck_E0⟩ ck_X0 ck_l0 pm_s29_e
set_option maxRecDepth 100000 in
/-- GlacierMail$Rows.put -/
def pm_s30 : ck_Sum := ((0, 0, 0), 245, [.inr (.inr (.inl 217)), .inl (ck_one (-1)), .inl (ck_one 1), .inl (ck_one 0)], ([], [], []), ([], []), [(.inr none, 245, ([], [], []))])
set_option maxRecDepth 100000 in
theorem pm_s30_e : ck_ok p2_O none [] [] 45 [] 76 pm_s30 = true := by decide +kernel
theorem pm_s30_s {X : Int → Int} {LX : Nat} : ck_Ok p2_O X LX 45 pm_s30 := ck_ok_s ⟨p2_nmu, ck_E0⟩ ck_X0 ck_l0 pm_s30_e
set_option maxRecDepth 100000 in
/-- GlacierMail$Words.isWord -/
def pm_s31 : ck_Sum := ((6, 0, 0), 245, [.inr (.inr (.inl 216)), .inr (.inr (.inr 16))], ([], [], [(216, 3, 3, (0, 400, [(13, 0)]))]), ([], []), [(.inr (some (.inl (ck_one 0))), 245, ([], [], [])), (.inr (some (.inl (ck_one 1))), 245, ([], [], [(216, 3, 3, (2, 400, [(13, 0)])), (216, 4, 4, (0, 398, [])), (216, 6, 6, ck_one 257)]))])
set_option maxRecDepth 100000 in
theorem pm_s31_e : ck_ok p2_O none [] [] 81 [] 210 pm_s31 = true := by decide +kernel
theorem pm_s31_s {X : Int → Int} {LX : Nat} : ck_Ok p2_O X LX 81 pm_s31 := ck_ok_s ⟨p2_nmu, ck_E0⟩ ck_X0 ck_l0 pm_s31_e
set_option maxRecDepth 100000 in
/-- GlacierMail$Words.takeWord -/
def pm_s32 : ck_Sum := ((7, 0, 0), 245, [.inr (.inr (.inl 216)), .inr (.inr (.inr 16))], ([], [], [(216, 3, 3, (0, 400, [(13, 0)]))]), ([(216, 3, 4), (216, 6, 7)], []), [(.inr (some (.inl (ck_one 0))), 245, ([], [], [(216, 3, 3, (0, 400, [(13, 0)]))])), (.inr (some (.inl (ck_one 1))), 245, ([], [], [(216, 3, 3, (2, 400, [(1000013, 0)]))]))])
set_option maxRecDepth 100000 in
theorem pm_s32_e : ck_ok p2_O none [] [(81, [pm_s31]), (76, [pm_s5])] 95 [] 90 pm_s32 = true := by decide +kernel
theorem pm_s32_s {X : Int → Int} {LX : Nat} : ck_Ok p2_O X LX 95 pm_s32 := ck_ok_s ⟨p2_nmu, ck_E1 (ck_S1 pm_s31_s ck_S0) (ck_E1 (ck_S1 pm_s5_s ck_S0) ck_E0)⟩ ck_X0 ck_l0 pm_s32_e
set_option maxRecDepth 100000 in
/-- GlacierMail$Words.isWord -/
def pm_s33 : ck_Sum := ((6, 0, 0), 245, [.inr (.inr (.inl 216)), .inr (.inr (.inr 15))], ([], [], [(216, 3, 3, (0, 400, [(13, 0)]))]), ([], []), [(.inr (some (.inl (ck_one 0))), 245, ([], [], [])), (.inr (some (.inl (ck_one 1))), 245, ([], [], [(216, 3, 3, (3, 400, [(13, 0)])), (216, 4, 4, (0, 397, [])), (216, 6, 6, ck_one 257)]))])
set_option maxRecDepth 100000 in
theorem pm_s33_e : ck_ok p2_O none [] [] 81 [] 260 pm_s33 = true := by decide +kernel
theorem pm_s33_s {X : Int → Int} {LX : Nat} : ck_Ok p2_O X LX 81 pm_s33 := ck_ok_s ⟨p2_nmu, ck_E0⟩ ck_X0 ck_l0 pm_s33_e
set_option maxRecDepth 100000 in
/-- GlacierMail$Words.takeWord -/
def pm_s34 : ck_Sum := ((7, 0, 0), 245, [.inr (.inr (.inl 216)), .inr (.inr (.inr 15))], ([], [], [(216, 3, 3, (0, 400, [(13, 0)]))]), ([(216, 3, 4), (216, 6, 7)], []), [(.inr (some (.inl (ck_one 0))), 245, ([], [], [(216, 3, 3, (0, 400, [(13, 0)]))])), (.inr (some (.inl (ck_one 1))), 245, ([], [], [(216, 3, 3, (3, 400, [(1000013, 0)]))]))])
set_option maxRecDepth 100000 in
theorem pm_s34_e : ck_ok p2_O none [] [(81, [pm_s33]), (76, [pm_s5])] 95 [] 90 pm_s34 = true := by decide +kernel
theorem pm_s34_s {X : Int → Int} {LX : Nat} : ck_Ok p2_O X LX 95 pm_s34 := ck_ok_s ⟨p2_nmu, ck_E1 (ck_S1 pm_s33_s ck_S0) (ck_E1 (ck_S1 pm_s5_s ck_S0) ck_E0)⟩ ck_X0 ck_l0 pm_s34_e
set_option maxRecDepth 100000 in
/-- GlacierMail$LawReader.put -/
def pm_s35 : ck_Sum := ((0, 0, 0), 245, [.inr (.inr (.inl 215)), .inl (ck_one (-17))], ([], [], []), ([(215, 4, 4), (219, 0, 399)], []), [(.inr none, 245, ([], [], [(215, 4, 4, (1, 400, []))]))])
set_option maxRecDepth 100000 in
theorem pm_s35_e : ck_ok p2_O none [] [] 99 [] 108 pm_s35 = true := by decide +kernel
theorem pm_s35_s {X : Int → Int} {LX : Nat} : ck_Ok p2_O X LX 99 pm_s35 := ck_ok_s ⟨p2_nmu, ck_E0⟩ ck_X0 ck_l0 pm_s35_e
set_option maxRecDepth 100000 in
/-- GlacierMail$LawReader.put -/
def pm_s36 : ck_Sum := ((0, 0, 0), 245, [.inr (.inr (.inl 215)), .inl (ck_one (-16))], ([], [], []), ([(215, 4, 4), (219, 0, 399)], []), [(.inr none, 245, ([], [], [(215, 4, 4, (1, 400, []))]))])
set_option maxRecDepth 100000 in
theorem pm_s36_e : ck_ok p2_O none [] [] 99 [] 108 pm_s36 = true := by decide +kernel
theorem pm_s36_s {X : Int → Int} {LX : Nat} : ck_Ok p2_O X LX 99 pm_s36 := ck_ok_s ⟨p2_nmu, ck_E0⟩ ck_X0 ck_l0 pm_s36_e
set_option maxRecDepth 100000 in
/-- GlacierMail$Words.isWord -/
def pm_s37 : ck_Sum := ((6, 0, 0), 245, [.inr (.inr (.inl 216)), .inr (.inr (.inr 4))], ([], [], [(216, 3, 3, (0, 400, [(13, 0)]))]), ([], []), [(.inr (some (.inl (ck_one 0))), 245, ([], [], [])), (.inr (some (.inl (ck_one 1))), 245, ([], [], [(216, 3, 3, (3, 400, [(13, 0)])), (216, 4, 4, (0, 397, [])), (216, 6, 6, ck_one 257)]))])
set_option maxRecDepth 100000 in
theorem pm_s37_e : ck_ok p2_O none [] [] 81 [] 260 pm_s37 = true := by decide +kernel
theorem pm_s37_s {X : Int → Int} {LX : Nat} : ck_Ok p2_O X LX 81 pm_s37 := ck_ok_s ⟨p2_nmu, ck_E0⟩ ck_X0 ck_l0 pm_s37_e
set_option maxRecDepth 100000 in
/-- GlacierMail$Words.isWord -/
def pm_s38 : ck_Sum := ((6, 0, 0), 245, [.inr (.inr (.inl 216)), .inr (.inr (.inr 5))], ([], [], [(216, 3, 3, (0, 400, [(13, 0)]))]), ([], []), [(.inr (some (.inl (ck_one 0))), 245, ([], [], [])), (.inr (some (.inl (ck_one 1))), 245, ([], [], [(216, 3, 3, (4, 400, [(13, 0)])), (216, 4, 4, (0, 396, [])), (216, 6, 6, ck_one 257)]))])
set_option maxRecDepth 100000 in
theorem pm_s38_e : ck_ok p2_O none [] [] 81 [] 310 pm_s38 = true := by decide +kernel
theorem pm_s38_s {X : Int → Int} {LX : Nat} : ck_Ok p2_O X LX 81 pm_s38 := ck_ok_s ⟨p2_nmu, ck_E0⟩ ck_X0 ck_l0 pm_s38_e
set_option maxRecDepth 100000 in
/-- GlacierMail$Words.takeWord -/
def pm_s39 : ck_Sum := ((7, 0, 0), 245, [.inr (.inr (.inl 216)), .inr (.inr (.inr 5))], ([], [], [(216, 3, 3, (0, 400, [(13, 0)]))]), ([(216, 3, 4), (216, 6, 7)], []), [(.inr (some (.inl (ck_one 0))), 245, ([], [], [(216, 3, 3, (0, 400, [(13, 0)]))])), (.inr (some (.inl (ck_one 1))), 245, ([], [], [(216, 3, 3, (4, 400, [(1000013, 0)]))]))])
set_option maxRecDepth 100000 in
theorem pm_s39_e : ck_ok p2_O none [] [(81, [pm_s38]), (76, [pm_s5])] 95 [] 90 pm_s39 = true := by decide +kernel
theorem pm_s39_s {X : Int → Int} {LX : Nat} : ck_Ok p2_O X LX 95 pm_s39 := ck_ok_s ⟨p2_nmu, ck_E1 (ck_S1 pm_s38_s ck_S0) (ck_E1 (ck_S1 pm_s5_s ck_S0) ck_E0)⟩ ck_X0 ck_l0 pm_s39_e
set_option maxRecDepth 100000 in
/-- GlacierMail$Words.isWord -/
def pm_s40 : ck_Sum := ((6, 0, 0), 245, [.inr (.inr (.inl 216)), .inr (.inr (.inr 6))], ([], [], [(216, 3, 3, (0, 400, [(13, 0)]))]), ([], []), [(.inr (some (.inl (ck_one 0))), 245, ([], [], [])), (.inr (some (.inl (ck_one 1))), 245, ([], [], [(216, 3, 3, (5, 400, [(13, 0)])), (216, 4, 4, (0, 395, [])), (216, 6, 6, ck_one 257)]))])
set_option maxRecDepth 100000 in
theorem pm_s40_e : ck_ok p2_O none [] [] 81 [] 360 pm_s40 = true := by decide +kernel
theorem pm_s40_s {X : Int → Int} {LX : Nat} : ck_Ok p2_O X LX 81 pm_s40 := ck_ok_s ⟨p2_nmu, ck_E0⟩ ck_X0 ck_l0 pm_s40_e
set_option maxRecDepth 100000 in
/-- GlacierMail$Words.takeWord -/
def pm_s41 : ck_Sum := ((7, 0, 0), 245, [.inr (.inr (.inl 216)), .inr (.inr (.inr 6))], ([], [], [(216, 3, 3, (0, 400, [(13, 0)]))]), ([(216, 3, 4), (216, 6, 7)], []), [(.inr (some (.inl (ck_one 0))), 245, ([], [], [(216, 3, 3, (0, 400, [(13, 0)]))])), (.inr (some (.inl (ck_one 1))), 245, ([], [], [(216, 3, 3, (5, 400, [(1000013, 0)]))]))])
set_option maxRecDepth 100000 in
theorem pm_s41_e : ck_ok p2_O none [] [(81, [pm_s40]), (76, [pm_s5])] 95 [] 90 pm_s41 = true := by decide +kernel
theorem pm_s41_s {X : Int → Int} {LX : Nat} : ck_Ok p2_O X LX 95 pm_s41 := ck_ok_s ⟨p2_nmu, ck_E1 (ck_S1 pm_s40_s ck_S0) (ck_E1 (ck_S1 pm_s5_s ck_S0) ck_E0)⟩ ck_X0 ck_l0 pm_s41_e
set_option maxRecDepth 100000 in
/-- GlacierMail$Words.isWord -/
def pm_s42 : ck_Sum := ((6, 0, 0), 245, [.inr (.inr (.inl 216)), .inr (.inr (.inr 7))], ([], [], [(216, 3, 3, (0, 400, [(13, 0)]))]), ([], []), [(.inr (some (.inl (ck_one 0))), 245, ([], [], [])), (.inr (some (.inl (ck_one 1))), 245, ([], [], [(216, 3, 3, (4, 400, [(13, 0)])), (216, 4, 4, (0, 396, [])), (216, 6, 6, ck_one 257)]))])
set_option maxRecDepth 100000 in
theorem pm_s42_e : ck_ok p2_O none [] [] 81 [] 310 pm_s42 = true := by decide +kernel
theorem pm_s42_s {X : Int → Int} {LX : Nat} : ck_Ok p2_O X LX 81 pm_s42 := ck_ok_s ⟨p2_nmu, ck_E0⟩ ck_X0 ck_l0 pm_s42_e
set_option maxRecDepth 100000 in
/-- GlacierMail$Words.isWord -/
def pm_s43 : ck_Sum := ((6, 0, 0), 245, [.inr (.inr (.inl 216)), .inr (.inr (.inr 8))], ([], [], [(216, 3, 3, (0, 400, [(13, 0)]))]), ([], []), [(.inr (some (.inl (ck_one 0))), 245, ([], [], [])), (.inr (some (.inl (ck_one 1))), 245, ([], [], [(216, 3, 3, (3, 400, [(13, 0)])), (216, 4, 4, (0, 397, [])), (216, 6, 6, ck_one 257)]))])
set_option maxRecDepth 100000 in
theorem pm_s43_e : ck_ok p2_O none [] [] 81 [] 260 pm_s43 = true := by decide +kernel
theorem pm_s43_s {X : Int → Int} {LX : Nat} : ck_Ok p2_O X LX 81 pm_s43 := ck_ok_s ⟨p2_nmu, ck_E0⟩ ck_X0 ck_l0 pm_s43_e
set_option maxRecDepth 100000 in
/-- GlacierMail$Words.isWord -/
def pm_s44 : ck_Sum := ((6, 0, 0), 245, [.inr (.inr (.inl 216)), .inr (.inr (.inr 9))], ([], [], [(216, 3, 3, (0, 400, [(13, 0)]))]), ([], []), [(.inr (some (.inl (ck_one 0))), 245, ([], [], [])), (.inr (some (.inl (ck_one 1))), 245, ([], [], [(216, 3, 3, (4, 400, [(13, 0)])), (216, 4, 4, (0, 396, [])), (216, 6, 6, ck_one 257)]))])
set_option maxRecDepth 100000 in
theorem pm_s44_e : ck_ok p2_O none [] [] 81 [] 310 pm_s44 = true := by decide +kernel
theorem pm_s44_s {X : Int → Int} {LX : Nat} : ck_Ok p2_O X LX 81 pm_s44 := ck_ok_s ⟨p2_nmu, ck_E0⟩ ck_X0 ck_l0 pm_s44_e
set_option maxRecDepth 100000 in
/-- GlacierMail$Words.isWord -/
def pm_s45 : ck_Sum := ((6, 0, 0), 245, [.inr (.inr (.inl 216)), .inr (.inr (.inr 10))], ([], [], [(216, 3, 3, (0, 400, [(13, 0)]))]), ([], []), [(.inr (some (.inl (ck_one 0))), 245, ([], [], [])), (.inr (some (.inl (ck_one 1))), 245, ([], [], [(216, 3, 3, (4, 400, [(13, 0)])), (216, 4, 4, (0, 396, [])), (216, 6, 6, ck_one 257)]))])
set_option maxRecDepth 100000 in
theorem pm_s45_e : ck_ok p2_O none [] [] 81 [] 310 pm_s45 = true := by decide +kernel
theorem pm_s45_s {X : Int → Int} {LX : Nat} : ck_Ok p2_O X LX 81 pm_s45 := ck_ok_s ⟨p2_nmu, ck_E0⟩ ck_X0 ck_l0 pm_s45_e
set_option maxRecDepth 100000 in
/-- GlacierMail$Words.isWord -/
def pm_s46 : ck_Sum := ((6, 0, 0), 245, [.inr (.inr (.inl 216)), .inr (.inr (.inr 11))], ([], [], [(216, 3, 3, (0, 400, [(13, 0)]))]), ([], []), [(.inr (some (.inl (ck_one 0))), 245, ([], [], [])), (.inr (some (.inl (ck_one 1))), 245, ([], [], [(216, 3, 3, (5, 400, [(13, 0)])), (216, 4, 4, (0, 395, [])), (216, 6, 6, ck_one 257)]))])
set_option maxRecDepth 100000 in
theorem pm_s46_e : ck_ok p2_O none [] [] 81 [] 360 pm_s46 = true := by decide +kernel
theorem pm_s46_s {X : Int → Int} {LX : Nat} : ck_Ok p2_O X LX 81 pm_s46 := ck_ok_s ⟨p2_nmu, ck_E0⟩ ck_X0 ck_l0 pm_s46_e
set_option maxRecDepth 100000 in
/-- GlacierMail$Words.isWord -/
def pm_s47 : ck_Sum := ((6, 0, 0), 245, [.inr (.inr (.inl 216)), .inr (.inr (.inr 12))], ([], [], [(216, 3, 3, (0, 400, [(13, 0)]))]), ([], []), [(.inr (some (.inl (ck_one 0))), 245, ([], [], [])), (.inr (some (.inl (ck_one 1))), 245, ([], [], [(216, 3, 3, (6, 400, [(13, 0)])), (216, 4, 4, (0, 394, [])), (216, 6, 6, ck_one 257)]))])
set_option maxRecDepth 100000 in
theorem pm_s47_e : ck_ok p2_O none [] [] 81 [] 410 pm_s47 = true := by decide +kernel
theorem pm_s47_s {X : Int → Int} {LX : Nat} : ck_Ok p2_O X LX 81 pm_s47 := ck_ok_s ⟨p2_nmu, ck_E0⟩ ck_X0 ck_l0 pm_s47_e
set_option maxRecDepth 100000 in
/-- GlacierMail$Words.isWord -/
def pm_s48 : ck_Sum := ((6, 0, 0), 245, [.inr (.inr (.inl 216)), .inr (.inr (.inr 13))], ([], [], [(216, 3, 3, (0, 400, [(13, 0)]))]), ([], []), [(.inr (some (.inl (ck_one 0))), 245, ([], [], [])), (.inr (some (.inl (ck_one 1))), 245, ([], [], [(216, 3, 3, (3, 400, [(13, 0)])), (216, 4, 4, (0, 397, [])), (216, 6, 6, ck_one 257)]))])
set_option maxRecDepth 100000 in
theorem pm_s48_e : ck_ok p2_O none [] [] 81 [] 260 pm_s48 = true := by decide +kernel
theorem pm_s48_s {X : Int → Int} {LX : Nat} : ck_Ok p2_O X LX 81 pm_s48 := ck_ok_s ⟨p2_nmu, ck_E0⟩ ck_X0 ck_l0 pm_s48_e
set_option maxRecDepth 100000 in
/-- GlacierMail$Words.isWord -/
def pm_s49 : ck_Sum := ((6, 0, 0), 245, [.inr (.inr (.inl 216)), .inr (.inr (.inr 14))], ([], [], [(216, 3, 3, (0, 400, [(13, 0)]))]), ([], []), [(.inr (some (.inl (ck_one 0))), 245, ([], [], [])), (.inr (some (.inl (ck_one 1))), 245, ([], [], [(216, 3, 3, (4, 400, [(13, 0)])), (216, 4, 4, (0, 396, [])), (216, 6, 6, ck_one 257)]))])
set_option maxRecDepth 100000 in
theorem pm_s49_e : ck_ok p2_O none [] [] 81 [] 310 pm_s49 = true := by decide +kernel
theorem pm_s49_s {X : Int → Int} {LX : Nat} : ck_Ok p2_O X LX 81 pm_s49 := ck_ok_s ⟨p2_nmu, ck_E0⟩ ck_X0 ck_l0 pm_s49_e
set_option maxRecDepth 100000 in
/-- GlacierMail$LawReader.factCode -/
def pm_s50 : ck_Sum := ((7, 0, 0), 245, [.inr (.inr (.inl 215))], ([], [], [(216, 3, 3, (0, 400, [(13, 0)]))]), ([], []), [(.inr (some (.inl ((-9), (-1), []))), 245, ([], [], []))])
set_option maxRecDepth 100000 in
theorem pm_s50_e : ck_ok p2_O none [] [(81, [pm_s42, pm_s43, pm_s44, pm_s45, pm_s46, pm_s47, pm_s48, pm_s49])] 101 [] 156 pm_s50 = true := by decide +kernel
theorem pm_s50_s {X : Int → Int} {LX : Nat} : ck_Ok p2_O X LX 101 pm_s50 := ck_ok_s ⟨p2_nmu, ck_E1 (ck_S1 pm_s42_s (ck_S1 pm_s43_s (ck_S1 pm_s44_s (ck_S1 pm_s45_s (ck_S1 pm_s46_s (ck_S1 pm_s47_s (ck_S1 pm_s48_s (ck_S1 pm_s49_s ck_S0)))))))) ck_E0⟩ ck_X0 ck_l0 pm_s50_e
set_option maxRecDepth 100000 in
/-- GlacierMail$LawReader.put -/
def pm_s51 : ck_Sum := ((0, 0, 0), 245, [.inr (.inr (.inl 215)), .inl ((-9), (-2), [])], ([], [], []), ([(215, 4, 4), (219, 0, 399)], []), [(.inr none, 245, ([], [], [(215, 4, 4, (1, 400, []))]))])
set_option maxRecDepth 100000 in
theorem pm_s51_e : ck_ok p2_O none [] [] 99 [] 108 pm_s51 = true := by decide +kernel
theorem pm_s51_s {X : Int → Int} {LX : Nat} : ck_Ok p2_O X LX 99 pm_s51 := ck_ok_s ⟨p2_nmu, ck_E0⟩ ck_X0 ck_l0 pm_s51_e
set_option maxRecDepth 100000 in
/-- GlacierMail$LawReader.put -/
def pm_s52 : ck_Sum := ((0, 0, 0), 245, [.inr (.inr (.inl 215)), .inl ((-2147483648), 2147483647, [])], ([], [], []), ([(215, 4, 4), (219, 0, 399)], []), [(.inr none, 245, ([], [], [(215, 4, 4, (1, 400, []))]))])
set_option maxRecDepth 100000 in
theorem pm_s52_e : ck_ok p2_O none [] [] 99 [] 108 pm_s52 = true := by decide +kernel
theorem pm_s52_s {X : Int → Int} {LX : Nat} : ck_Ok p2_O X LX 99 pm_s52 := ck_ok_s ⟨p2_nmu, ck_E0⟩ ck_X0 ck_l0 pm_s52_e
set_option maxRecDepth 100000 in
/-- GlacierMail$LawReader.readSum -/
def pm_s53 : ck_Sum := ((8, 0, 0), 245, [.inr (.inr (.inl 215))], ([], [], [(216, 3, 3, (0, 400, [(13, 0)]))]), ([(215, 4, 4), (216, 3, 7), (219, 0, 399)], []), [(.inr (some (.inl (ck_one 0))), 245, ([], [], [(216, 5, 5, (0, 400, [])), (216, 3, 3, (0, 400, [(1000013, 0)]))])), (.inr (some (.inl (ck_one 1))), 245, ([], [], [(216, 3, 3, (0, 400, [(1000013, 0)])), (215, 4, 4, (1, 400, []))]))])
set_option maxRecDepth 100000 in
theorem pm_s53_e : ck_ok p2_O none [] [(93, [pm_s7]), (101, [pm_s50]), (99, [pm_s51, pm_s52]), (76, [pm_s5])] 100 [(2, [some (.inr (.inr (.inl 215))), some (.inl (0, 400, [])), none], ([], [], [(216, 3, 3, (0, 400, [(1000013, 0)]))]), 100, .inl 1, true)] 222 pm_s53 = true := by decide +kernel
theorem pm_s53_s {X : Int → Int} {LX : Nat} : ck_Ok p2_O X LX 100 pm_s53 := ck_ok_s ⟨p2_nmu, ck_E1 (ck_S1 pm_s7_s ck_S0) (ck_E1 (ck_S1 pm_s50_s ck_S0) (ck_E1 (ck_S1 pm_s51_s (ck_S1 pm_s52_s ck_S0)) (ck_E1 (ck_S1 pm_s5_s ck_S0) ck_E0)))⟩ ck_X0 ck_l0 pm_s53_e
set_option maxRecDepth 100000 in
/-- GlacierMail$LawReader.put -/
def pm_s54 : ck_Sum := ((0, 0, 0), 245, [.inr (.inr (.inl 215)), .inl (ck_one (-12))], ([], [], []), ([(215, 4, 4), (219, 0, 399)], []), [(.inr none, 245, ([], [], [(215, 4, 4, (1, 400, []))]))])
set_option maxRecDepth 100000 in
theorem pm_s54_e : ck_ok p2_O none [] [] 99 [] 108 pm_s54 = true := by decide +kernel
theorem pm_s54_s {X : Int → Int} {LX : Nat} : ck_Ok p2_O X LX 99 pm_s54 := ck_ok_s ⟨p2_nmu, ck_E0⟩ ck_X0 ck_l0 pm_s54_e
set_option maxRecDepth 100000 in
/-- GlacierMail$LawReader.put -/
def pm_s55 : ck_Sum := ((0, 0, 0), 245, [.inr (.inr (.inl 215)), .inl (ck_one (-13))], ([], [], []), ([(215, 4, 4), (219, 0, 399)], []), [(.inr none, 245, ([], [], [(215, 4, 4, (1, 400, []))]))])
set_option maxRecDepth 100000 in
theorem pm_s55_e : ck_ok p2_O none [] [] 99 [] 108 pm_s55 = true := by decide +kernel
theorem pm_s55_s {X : Int → Int} {LX : Nat} : ck_Ok p2_O X LX 99 pm_s55 := ck_ok_s ⟨p2_nmu, ck_E0⟩ ck_X0 ck_l0 pm_s55_e
set_option maxRecDepth 100000 in
/-- GlacierMail$LawReader.put -/
def pm_s56 : ck_Sum := ((0, 0, 0), 245, [.inr (.inr (.inl 215)), .inl (ck_one (-14))], ([], [], []), ([(215, 4, 4), (219, 0, 399)], []), [(.inr none, 245, ([], [], [(215, 4, 4, (1, 400, []))]))])
set_option maxRecDepth 100000 in
theorem pm_s56_e : ck_ok p2_O none [] [] 99 [] 108 pm_s56 = true := by decide +kernel
theorem pm_s56_s {X : Int → Int} {LX : Nat} : ck_Ok p2_O X LX 99 pm_s56 := ck_ok_s ⟨p2_nmu, ck_E0⟩ ck_X0 ck_l0 pm_s56_e
set_option maxRecDepth 100000 in
/-- GlacierMail$LawReader.put -/
def pm_s57 : ck_Sum := ((0, 0, 0), 245, [.inr (.inr (.inl 215)), .inl (ck_one (-11))], ([], [], []), ([(215, 4, 4), (219, 0, 399)], []), [(.inr none, 245, ([], [], [(215, 4, 4, (1, 400, []))]))])
set_option maxRecDepth 100000 in
theorem pm_s57_e : ck_ok p2_O none [] [] 99 [] 108 pm_s57 = true := by decide +kernel
theorem pm_s57_s {X : Int → Int} {LX : Nat} : ck_Ok p2_O X LX 99 pm_s57 := ck_ok_s ⟨p2_nmu, ck_E0⟩ ck_X0 ck_l0 pm_s57_e
set_option maxRecDepth 100000 in
/-- GlacierMail$LawReader.put -/
def pm_s58 : ck_Sum := ((0, 0, 0), 245, [.inr (.inr (.inl 215)), .inl (ck_one (-10))], ([], [], []), ([(215, 4, 4), (219, 0, 399)], []), [(.inr none, 245, ([], [], [(215, 4, 4, (1, 400, []))]))])
set_option maxRecDepth 100000 in
theorem pm_s58_e : ck_ok p2_O none [] [] 99 [] 108 pm_s58 = true := by decide +kernel
theorem pm_s58_s {X : Int → Int} {LX : Nat} : ck_Ok p2_O X LX 99 pm_s58 := ck_ok_s ⟨p2_nmu, ck_E0⟩ ck_X0 ck_l0 pm_s58_e
set_option maxRecDepth 100000 in
/-- GlacierMail$LawReader.put -/
def pm_s59 : ck_Sum := ((0, 0, 0), 245, [.inr (.inr (.inl 215)), .inl (ck_one (-15))], ([], [], []), ([(215, 4, 4), (219, 0, 399)], []), [(.inr none, 245, ([], [], [(215, 4, 4, (1, 400, []))]))])
set_option maxRecDepth 100000 in
theorem pm_s59_e : ck_ok p2_O none [] [] 99 [] 108 pm_s59 = true := by decide +kernel
theorem pm_s59_s {X : Int → Int} {LX : Nat} : ck_Ok p2_O X LX 99 pm_s59 := ck_ok_s ⟨p2_nmu, ck_E0⟩ ck_X0 ck_l0 pm_s59_e
set_option maxRecDepth 100000 in
/-- GlacierMail$LawReader.readAtom -/
def pm_s60 : ck_Sum := ((9, 0, 0), 245, [.inr (.inr (.inl 215)), .inl (ck_one 6)], ([], [], [(216, 3, 3, (0, 400, [(13, 0)]))]), ([(215, 4, 4), (216, 3, 7), (219, 0, 399)], []), [(.inr (some (.inl (ck_one 0))), 245, ([], [], [(216, 5, 5, (0, 400, [])), (216, 3, 3, (0, 400, [(1000013, 0)]))])), (.inr (some (.inl (ck_one 1))), 245, ([], [], [(215, 4, 4, (1, 400, [])), (216, 3, 3, (0, 400, [(1000013, 0)]))]))])
set_option maxRecDepth 100000 in
theorem pm_s60_e : ck_ok p2_O none [] [(81, [pm_s37]), (95, [pm_s39, pm_s41]), (100, [pm_s53]), (76, [pm_s5]), (99, [pm_s54, pm_s55, pm_s56, pm_s57, pm_s58]), (93, [pm_s7])] 97 [] 174 pm_s60 = true := by decide +kernel
theorem pm_s60_s {X : Int → Int} {LX : Nat} : ck_Ok p2_O X LX 97 pm_s60 := ck_ok_s ⟨p2_nmu, ck_E1 (ck_S1 pm_s37_s ck_S0) (ck_E1 (ck_S1 pm_s39_s (ck_S1 pm_s41_s ck_S0)) (ck_E1 (ck_S1 pm_s53_s ck_S0) (ck_E1 (ck_S1 pm_s5_s ck_S0) (ck_E1 (ck_S1 pm_s54_s (ck_S1 pm_s55_s (ck_S1 pm_s56_s (ck_S1 pm_s57_s (ck_S1 pm_s58_s ck_S0))))) (ck_E1 (ck_S1 pm_s7_s ck_S0) ck_E0)))))⟩ ck_X0 ck_l0 pm_s60_e
set_option maxRecDepth 100000 in
/-- GlacierMail$LawReader.readCondition -/
def pm_s61 : ck_Sum := ((10, 0, 0), 245, [.inr (.inr (.inl 215)), .inl (ck_one 6)], ([], [], [(216, 3, 3, (0, 400, [(13, 0)]))]), ([(215, 4, 4), (216, 3, 7), (219, 0, 399)], []), [(.inr (some (.inl (ck_one 0))), 245, ([], [], [(216, 5, 5, (0, 400, [])), (216, 3, 3, (0, 400, [(1000013, 0)]))])), (.inr (some (.inl (ck_one 1))), 245, ([], [], [(216, 3, 3, (0, 400, [(1000013, 0)]))]))])
set_option maxRecDepth 100000 in
theorem pm_s61_e : ck_ok p2_O none [] [(93, [pm_s7]), (95, [pm_s32, pm_s34]), (99, [pm_s35, pm_s36]), (97, [pm_s60])] 96 [(2, [some (.inr (.inr (.inl 215))), some (.inl (ck_one 6)), some (.inl (0, 400, [])), none], ([], [], [(216, 3, 3, (0, 400, [(1000013, 0)]))]), 100, .inl 2, true), (11, [some (.inr (.inr (.inl 215))), some (.inl (ck_one 6)), some (.inl (0, 399, [(100, 0)])), some (.inl (0, 400, []))], ([], [], [(216, 3, 3, (0, 400, [(1000013, 0)]))]), 300, .inl 3, true)] 296 pm_s61 = true := by decide +kernel
theorem pm_s61_s {X : Int → Int} {LX : Nat} : ck_Ok p2_O X LX 96 pm_s61 := ck_ok_s ⟨p2_nmu, ck_E1 (ck_S1 pm_s7_s ck_S0) (ck_E1 (ck_S1 pm_s32_s (ck_S1 pm_s34_s ck_S0)) (ck_E1 (ck_S1 pm_s35_s (ck_S1 pm_s36_s ck_S0)) (ck_E1 (ck_S1 pm_s60_s ck_S0) ck_E0)))⟩ ck_X0 ck_l0 pm_s61_e
set_option maxRecDepth 100000 in
/-- GlacierMail$Words.needSign -/
def pm_s62 : ck_Sum := ((2, 0, 0), 245, [.inr (.inr (.inl 216)), .inl (ck_one 41)], ([], [], [(216, 3, 3, (0, 400, [(13, 0)]))]), ([(216, 3, 7)], []), [(.inr (some (.inl (ck_one 1))), 245, ([], [], [(216, 3, 3, (0, 400, [(1000013, 0)]))])), (.inr (some (.inl (ck_one 0))), 245, ([], [], [(216, 5, 5, (0, 400, [])), (216, 3, 3, (0, 400, [(13, 0)]))]))])
set_option maxRecDepth 100000 in
theorem pm_s62_e : ck_ok p2_O none [] [(76, [pm_s5]), (93, [pm_s7])] 98 [] 86 pm_s62 = true := by decide +kernel
theorem pm_s62_s {X : Int → Int} {LX : Nat} : ck_Ok p2_O X LX 98 pm_s62 := ck_ok_s ⟨p2_nmu, ck_E1 (ck_S1 pm_s5_s ck_S0) (ck_E1 (ck_S1 pm_s7_s ck_S0) ck_E0)⟩ ck_X0 ck_l0 pm_s62_e
set_option maxRecDepth 100000 in
/-- GlacierMail$LawReader.readAtom -/
def pm_s63 : ck_Sum := ((11, 0, 0), 245, [.inr (.inr (.inl 215)), .inl (ck_one 5)], ([], [], [(216, 3, 3, (0, 400, [(13, 0)]))]), ([(215, 4, 4), (216, 3, 7), (219, 0, 399)], []), [(.inr (some (.inl (ck_one 0))), 245, ([], [], [(216, 5, 5, (0, 400, [])), (216, 3, 3, (0, 400, [(1000013, 0)]))])), (.inr (some (.inl (ck_one 1))), 245, ([], [], [(216, 3, 3, (0, 400, [(1000013, 0)]))]))])
set_option maxRecDepth 100000 in
theorem pm_s63_e : ck_ok p2_O none [] [(81, [pm_s37]), (95, [pm_s39, pm_s41]), (100, [pm_s53]), (76, [pm_s5]), (99, [pm_s54, pm_s55, pm_s56, pm_s57, pm_s58, pm_s59]), (93, [pm_s7]), (96, [pm_s61]), (98, [pm_s62]), (97, [pm_s60])] 97 [] 174 pm_s63 = true := by decide +kernel
theorem pm_s63_s {X : Int → Int} {LX : Nat} : ck_Ok p2_O X LX 97 pm_s63 := ck_ok_s ⟨p2_nmu, ck_E1 (ck_S1 pm_s37_s ck_S0) (ck_E1 (ck_S1 pm_s39_s (ck_S1 pm_s41_s ck_S0)) (ck_E1 (ck_S1 pm_s53_s ck_S0) (ck_E1 (ck_S1 pm_s5_s ck_S0) (ck_E1 (ck_S1 pm_s54_s (ck_S1 pm_s55_s (ck_S1 pm_s56_s (ck_S1 pm_s57_s (ck_S1 pm_s58_s (ck_S1 pm_s59_s ck_S0)))))) (ck_E1 (ck_S1 pm_s7_s ck_S0) (ck_E1 (ck_S1 pm_s61_s ck_S0) (ck_E1 (ck_S1 pm_s62_s ck_S0) (ck_E1 (ck_S1 pm_s60_s ck_S0) ck_E0))))))))⟩ ck_X0 ck_l0 pm_s63_e
set_option maxRecDepth 100000 in
/-- GlacierMail$LawReader.readCondition -/
def pm_s64 : ck_Sum := ((12, 0, 0), 245, [.inr (.inr (.inl 215)), .inl (ck_one 5)], ([], [], [(216, 3, 3, (0, 400, [(13, 0)]))]), ([(215, 4, 4), (216, 3, 7), (219, 0, 399)], []), [(.inr (some (.inl (ck_one 0))), 245, ([], [], [(216, 5, 5, (0, 400, [])), (216, 3, 3, (0, 400, [(1000013, 0)]))])), (.inr (some (.inl (ck_one 1))), 245, ([], [], [(216, 3, 3, (0, 400, [(1000013, 0)]))]))])
set_option maxRecDepth 100000 in
theorem pm_s64_e : ck_ok p2_O none [] [(93, [pm_s7]), (95, [pm_s32, pm_s34]), (99, [pm_s35, pm_s36]), (97, [pm_s63])] 96 [(2, [some (.inr (.inr (.inl 215))), some (.inl (ck_one 5)), some (.inl (0, 400, [])), none], ([], [], [(216, 3, 3, (0, 400, [(1000013, 0)]))]), 100, .inl 2, true), (11, [some (.inr (.inr (.inl 215))), some (.inl (ck_one 5)), some (.inl (0, 399, [(100, 0)])), some (.inl (0, 400, []))], ([], [], [(216, 3, 3, (0, 400, [(1000013, 0)]))]), 300, .inl 3, true)] 296 pm_s64 = true := by decide +kernel
theorem pm_s64_s {X : Int → Int} {LX : Nat} : ck_Ok p2_O X LX 96 pm_s64 := ck_ok_s ⟨p2_nmu, ck_E1 (ck_S1 pm_s7_s ck_S0) (ck_E1 (ck_S1 pm_s32_s (ck_S1 pm_s34_s ck_S0)) (ck_E1 (ck_S1 pm_s35_s (ck_S1 pm_s36_s ck_S0)) (ck_E1 (ck_S1 pm_s63_s ck_S0) ck_E0)))⟩ ck_X0 ck_l0 pm_s64_e
set_option maxRecDepth 100000 in
/-- GlacierMail$LawReader.readAtom -/
def pm_s65 : ck_Sum := ((13, 0, 0), 245, [.inr (.inr (.inl 215)), .inl (ck_one 4)], ([], [], [(216, 3, 3, (0, 400, [(13, 0)]))]), ([(215, 4, 4), (216, 3, 7), (219, 0, 399)], []), [(.inr (some (.inl (ck_one 0))), 245, ([], [], [(216, 5, 5, (0, 400, [])), (216, 3, 3, (0, 400, [(1000013, 0)]))])), (.inr (some (.inl (ck_one 1))), 245, ([], [], [(216, 3, 3, (0, 400, [(1000013, 0)]))]))])
set_option maxRecDepth 100000 in
theorem pm_s65_e : ck_ok p2_O none [] [(81, [pm_s37]), (95, [pm_s39, pm_s41]), (100, [pm_s53]), (76, [pm_s5]), (99, [pm_s54, pm_s55, pm_s56, pm_s57, pm_s58, pm_s59]), (93, [pm_s7]), (96, [pm_s64]), (98, [pm_s62]), (97, [pm_s63])] 97 [] 174 pm_s65 = true := by decide +kernel
theorem pm_s65_s {X : Int → Int} {LX : Nat} : ck_Ok p2_O X LX 97 pm_s65 := ck_ok_s ⟨p2_nmu, ck_E1 (ck_S1 pm_s37_s ck_S0) (ck_E1 (ck_S1 pm_s39_s (ck_S1 pm_s41_s ck_S0)) (ck_E1 (ck_S1 pm_s53_s ck_S0) (ck_E1 (ck_S1 pm_s5_s ck_S0) (ck_E1 (ck_S1 pm_s54_s (ck_S1 pm_s55_s (ck_S1 pm_s56_s (ck_S1 pm_s57_s (ck_S1 pm_s58_s (ck_S1 pm_s59_s ck_S0)))))) (ck_E1 (ck_S1 pm_s7_s ck_S0) (ck_E1 (ck_S1 pm_s64_s ck_S0) (ck_E1 (ck_S1 pm_s62_s ck_S0) (ck_E1 (ck_S1 pm_s63_s ck_S0) ck_E0))))))))⟩ ck_X0 ck_l0 pm_s65_e
set_option maxRecDepth 100000 in
/-- GlacierMail$LawReader.readCondition -/
def pm_s66 : ck_Sum := ((14, 0, 0), 245, [.inr (.inr (.inl 215)), .inl (ck_one 4)], ([], [], [(216, 3, 3, (0, 400, [(13, 0)]))]), ([(215, 4, 4), (216, 3, 7), (219, 0, 399)], []), [(.inr (some (.inl (ck_one 0))), 245, ([], [], [(216, 5, 5, (0, 400, [])), (216, 3, 3, (0, 400, [(1000013, 0)]))])), (.inr (some (.inl (ck_one 1))), 245, ([], [], [(216, 3, 3, (0, 400, [(1000013, 0)]))]))])
set_option maxRecDepth 100000 in
theorem pm_s66_e : ck_ok p2_O none [] [(93, [pm_s7]), (95, [pm_s32, pm_s34]), (99, [pm_s35, pm_s36]), (97, [pm_s65])] 96 [(2, [some (.inr (.inr (.inl 215))), some (.inl (ck_one 4)), some (.inl (0, 400, [])), none], ([], [], [(216, 3, 3, (0, 400, [(1000013, 0)]))]), 100, .inl 2, true), (11, [some (.inr (.inr (.inl 215))), some (.inl (ck_one 4)), some (.inl (0, 399, [(100, 0)])), some (.inl (0, 400, []))], ([], [], [(216, 3, 3, (0, 400, [(1000013, 0)]))]), 300, .inl 3, true)] 296 pm_s66 = true := by decide +kernel
theorem pm_s66_s {X : Int → Int} {LX : Nat} : ck_Ok p2_O X LX 96 pm_s66 := ck_ok_s ⟨p2_nmu, ck_E1 (ck_S1 pm_s7_s ck_S0) (ck_E1 (ck_S1 pm_s32_s (ck_S1 pm_s34_s ck_S0)) (ck_E1 (ck_S1 pm_s35_s (ck_S1 pm_s36_s ck_S0)) (ck_E1 (ck_S1 pm_s65_s ck_S0) ck_E0)))⟩ ck_X0 ck_l0 pm_s66_e
set_option maxRecDepth 100000 in
/-- GlacierMail$LawReader.readAtom -/
def pm_s67 : ck_Sum := ((15, 0, 0), 245, [.inr (.inr (.inl 215)), .inl (ck_one 3)], ([], [], [(216, 3, 3, (0, 400, [(13, 0)]))]), ([(215, 4, 4), (216, 3, 7), (219, 0, 399)], []), [(.inr (some (.inl (ck_one 0))), 245, ([], [], [(216, 5, 5, (0, 400, [])), (216, 3, 3, (0, 400, [(1000013, 0)]))])), (.inr (some (.inl (ck_one 1))), 245, ([], [], [(216, 3, 3, (0, 400, [(1000013, 0)]))]))])
set_option maxRecDepth 100000 in
theorem pm_s67_e : ck_ok p2_O none [] [(81, [pm_s37]), (95, [pm_s39, pm_s41]), (100, [pm_s53]), (76, [pm_s5]), (99, [pm_s54, pm_s55, pm_s56, pm_s57, pm_s58, pm_s59]), (93, [pm_s7]), (96, [pm_s66]), (98, [pm_s62]), (97, [pm_s65])] 97 [] 174 pm_s67 = true := by decide +kernel
theorem pm_s67_s {X : Int → Int} {LX : Nat} : ck_Ok p2_O X LX 97 pm_s67 := ck_ok_s ⟨p2_nmu, ck_E1 (ck_S1 pm_s37_s ck_S0) (ck_E1 (ck_S1 pm_s39_s (ck_S1 pm_s41_s ck_S0)) (ck_E1 (ck_S1 pm_s53_s ck_S0) (ck_E1 (ck_S1 pm_s5_s ck_S0) (ck_E1 (ck_S1 pm_s54_s (ck_S1 pm_s55_s (ck_S1 pm_s56_s (ck_S1 pm_s57_s (ck_S1 pm_s58_s (ck_S1 pm_s59_s ck_S0)))))) (ck_E1 (ck_S1 pm_s7_s ck_S0) (ck_E1 (ck_S1 pm_s66_s ck_S0) (ck_E1 (ck_S1 pm_s62_s ck_S0) (ck_E1 (ck_S1 pm_s65_s ck_S0) ck_E0))))))))⟩ ck_X0 ck_l0 pm_s67_e
set_option maxRecDepth 100000 in
/-- GlacierMail$LawReader.readCondition -/
def pm_s68 : ck_Sum := ((16, 0, 0), 245, [.inr (.inr (.inl 215)), .inl (ck_one 3)], ([], [], [(216, 3, 3, (0, 400, [(13, 0)]))]), ([(215, 4, 4), (216, 3, 7), (219, 0, 399)], []), [(.inr (some (.inl (ck_one 0))), 245, ([], [], [(216, 5, 5, (0, 400, [])), (216, 3, 3, (0, 400, [(1000013, 0)]))])), (.inr (some (.inl (ck_one 1))), 245, ([], [], [(216, 3, 3, (0, 400, [(1000013, 0)]))]))])
set_option maxRecDepth 100000 in
theorem pm_s68_e : ck_ok p2_O none [] [(93, [pm_s7]), (95, [pm_s32, pm_s34]), (99, [pm_s35, pm_s36]), (97, [pm_s67])] 96 [(2, [some (.inr (.inr (.inl 215))), some (.inl (ck_one 3)), some (.inl (0, 400, [])), none], ([], [], [(216, 3, 3, (0, 400, [(1000013, 0)]))]), 100, .inl 2, true), (11, [some (.inr (.inr (.inl 215))), some (.inl (ck_one 3)), some (.inl (0, 399, [(100, 0)])), some (.inl (0, 400, []))], ([], [], [(216, 3, 3, (0, 400, [(1000013, 0)]))]), 300, .inl 3, true)] 296 pm_s68 = true := by decide +kernel
theorem pm_s68_s {X : Int → Int} {LX : Nat} : ck_Ok p2_O X LX 96 pm_s68 := ck_ok_s ⟨p2_nmu, ck_E1 (ck_S1 pm_s7_s ck_S0) (ck_E1 (ck_S1 pm_s32_s (ck_S1 pm_s34_s ck_S0)) (ck_E1 (ck_S1 pm_s35_s (ck_S1 pm_s36_s ck_S0)) (ck_E1 (ck_S1 pm_s67_s ck_S0) ck_E0)))⟩ ck_X0 ck_l0 pm_s68_e
set_option maxRecDepth 100000 in
/-- GlacierMail$LawReader.readAtom -/
def pm_s69 : ck_Sum := ((17, 0, 0), 245, [.inr (.inr (.inl 215)), .inl (ck_one 2)], ([], [], [(216, 3, 3, (0, 400, [(13, 0)]))]), ([(215, 4, 4), (216, 3, 7), (219, 0, 399)], []), [(.inr (some (.inl (ck_one 0))), 245, ([], [], [(216, 5, 5, (0, 400, [])), (216, 3, 3, (0, 400, [(1000013, 0)]))])), (.inr (some (.inl (ck_one 1))), 245, ([], [], [(216, 3, 3, (0, 400, [(1000013, 0)]))]))])
set_option maxRecDepth 100000 in
theorem pm_s69_e : ck_ok p2_O none [] [(81, [pm_s37]), (95, [pm_s39, pm_s41]), (100, [pm_s53]), (76, [pm_s5]), (99, [pm_s54, pm_s55, pm_s56, pm_s57, pm_s58, pm_s59]), (93, [pm_s7]), (96, [pm_s68]), (98, [pm_s62]), (97, [pm_s67])] 97 [] 174 pm_s69 = true := by decide +kernel
theorem pm_s69_s {X : Int → Int} {LX : Nat} : ck_Ok p2_O X LX 97 pm_s69 := ck_ok_s ⟨p2_nmu, ck_E1 (ck_S1 pm_s37_s ck_S0) (ck_E1 (ck_S1 pm_s39_s (ck_S1 pm_s41_s ck_S0)) (ck_E1 (ck_S1 pm_s53_s ck_S0) (ck_E1 (ck_S1 pm_s5_s ck_S0) (ck_E1 (ck_S1 pm_s54_s (ck_S1 pm_s55_s (ck_S1 pm_s56_s (ck_S1 pm_s57_s (ck_S1 pm_s58_s (ck_S1 pm_s59_s ck_S0)))))) (ck_E1 (ck_S1 pm_s7_s ck_S0) (ck_E1 (ck_S1 pm_s68_s ck_S0) (ck_E1 (ck_S1 pm_s62_s ck_S0) (ck_E1 (ck_S1 pm_s67_s ck_S0) ck_E0))))))))⟩ ck_X0 ck_l0 pm_s69_e
set_option maxRecDepth 100000 in
/-- GlacierMail$LawReader.readCondition -/
def pm_s70 : ck_Sum := ((18, 0, 0), 245, [.inr (.inr (.inl 215)), .inl (ck_one 2)], ([], [], [(216, 3, 3, (0, 400, [(13, 0)]))]), ([(215, 4, 4), (216, 3, 7), (219, 0, 399)], []), [(.inr (some (.inl (ck_one 0))), 245, ([], [], [(216, 5, 5, (0, 400, [])), (216, 3, 3, (0, 400, [(1000013, 0)]))])), (.inr (some (.inl (ck_one 1))), 245, ([], [], [(216, 3, 3, (0, 400, [(1000013, 0)]))]))])
set_option maxRecDepth 100000 in
theorem pm_s70_e : ck_ok p2_O none [] [(93, [pm_s7]), (95, [pm_s32, pm_s34]), (99, [pm_s35, pm_s36]), (97, [pm_s69])] 96 [(2, [some (.inr (.inr (.inl 215))), some (.inl (ck_one 2)), some (.inl (0, 400, [])), none], ([], [], [(216, 3, 3, (0, 400, [(1000013, 0)]))]), 100, .inl 2, true), (11, [some (.inr (.inr (.inl 215))), some (.inl (ck_one 2)), some (.inl (0, 399, [(100, 0)])), some (.inl (0, 400, []))], ([], [], [(216, 3, 3, (0, 400, [(1000013, 0)]))]), 300, .inl 3, true)] 296 pm_s70 = true := by decide +kernel
theorem pm_s70_s {X : Int → Int} {LX : Nat} : ck_Ok p2_O X LX 96 pm_s70 := ck_ok_s ⟨p2_nmu, ck_E1 (ck_S1 pm_s7_s ck_S0) (ck_E1 (ck_S1 pm_s32_s (ck_S1 pm_s34_s ck_S0)) (ck_E1 (ck_S1 pm_s35_s (ck_S1 pm_s36_s ck_S0)) (ck_E1 (ck_S1 pm_s69_s ck_S0) ck_E0)))⟩ ck_X0 ck_l0 pm_s70_e
set_option maxRecDepth 100000 in
/-- GlacierMail$LawReader.readAtom -/
def pm_s71 : ck_Sum := ((19, 0, 0), 245, [.inr (.inr (.inl 215)), .inl (ck_one 1)], ([], [], [(216, 3, 3, (0, 400, [(13, 0)]))]), ([(215, 4, 4), (216, 3, 7), (219, 0, 399)], []), [(.inr (some (.inl (ck_one 0))), 245, ([], [], [(216, 5, 5, (0, 400, [])), (216, 3, 3, (0, 400, [(1000013, 0)]))])), (.inr (some (.inl (ck_one 1))), 245, ([], [], [(216, 3, 3, (0, 400, [(1000013, 0)]))]))])
set_option maxRecDepth 100000 in
theorem pm_s71_e : ck_ok p2_O none [] [(81, [pm_s37]), (95, [pm_s39, pm_s41]), (100, [pm_s53]), (76, [pm_s5]), (99, [pm_s54, pm_s55, pm_s56, pm_s57, pm_s58, pm_s59]), (93, [pm_s7]), (96, [pm_s70]), (98, [pm_s62]), (97, [pm_s69])] 97 [] 174 pm_s71 = true := by decide +kernel
theorem pm_s71_s {X : Int → Int} {LX : Nat} : ck_Ok p2_O X LX 97 pm_s71 := ck_ok_s ⟨p2_nmu, ck_E1 (ck_S1 pm_s37_s ck_S0) (ck_E1 (ck_S1 pm_s39_s (ck_S1 pm_s41_s ck_S0)) (ck_E1 (ck_S1 pm_s53_s ck_S0) (ck_E1 (ck_S1 pm_s5_s ck_S0) (ck_E1 (ck_S1 pm_s54_s (ck_S1 pm_s55_s (ck_S1 pm_s56_s (ck_S1 pm_s57_s (ck_S1 pm_s58_s (ck_S1 pm_s59_s ck_S0)))))) (ck_E1 (ck_S1 pm_s7_s ck_S0) (ck_E1 (ck_S1 pm_s70_s ck_S0) (ck_E1 (ck_S1 pm_s62_s ck_S0) (ck_E1 (ck_S1 pm_s69_s ck_S0) ck_E0))))))))⟩ ck_X0 ck_l0 pm_s71_e
set_option maxRecDepth 100000 in
/-- GlacierMail$LawReader.readCondition -/
def pm_s72 : ck_Sum := ((20, 0, 0), 245, [.inr (.inr (.inl 215)), .inl (ck_one 1)], ([], [], [(216, 3, 3, (0, 400, [(13, 0)]))]), ([(215, 4, 4), (216, 3, 7), (219, 0, 399)], []), [(.inr (some (.inl (ck_one 0))), 245, ([], [], [(216, 5, 5, (0, 400, [])), (216, 3, 3, (0, 400, [(1000013, 0)]))])), (.inr (some (.inl (ck_one 1))), 245, ([], [], [(216, 3, 3, (0, 400, [(1000013, 0)]))]))])
set_option maxRecDepth 100000 in
theorem pm_s72_e : ck_ok p2_O none [] [(93, [pm_s7]), (95, [pm_s32, pm_s34]), (99, [pm_s35, pm_s36]), (97, [pm_s71])] 96 [(2, [some (.inr (.inr (.inl 215))), some (.inl (ck_one 1)), some (.inl (0, 400, [])), none], ([], [], [(216, 3, 3, (0, 400, [(1000013, 0)]))]), 100, .inl 2, true), (11, [some (.inr (.inr (.inl 215))), some (.inl (ck_one 1)), some (.inl (0, 399, [(100, 0)])), some (.inl (0, 400, []))], ([], [], [(216, 3, 3, (0, 400, [(1000013, 0)]))]), 300, .inl 3, true)] 296 pm_s72 = true := by decide +kernel
theorem pm_s72_s {X : Int → Int} {LX : Nat} : ck_Ok p2_O X LX 96 pm_s72 := ck_ok_s ⟨p2_nmu, ck_E1 (ck_S1 pm_s7_s ck_S0) (ck_E1 (ck_S1 pm_s32_s (ck_S1 pm_s34_s ck_S0)) (ck_E1 (ck_S1 pm_s35_s (ck_S1 pm_s36_s ck_S0)) (ck_E1 (ck_S1 pm_s71_s ck_S0) ck_E0)))⟩ ck_X0 ck_l0 pm_s72_e
set_option maxRecDepth 100000 in
/-- GlacierMail$LawReader.readAtom -/
def pm_s73 : ck_Sum := ((21, 0, 0), 245, [.inr (.inr (.inl 215)), .inl (ck_one 0)], ([], [], [(216, 3, 3, (0, 400, [(13, 0)]))]), ([(215, 4, 4), (216, 3, 7), (219, 0, 399)], []), [(.inr (some (.inl (ck_one 0))), 245, ([], [], [(216, 5, 5, (0, 400, [])), (216, 3, 3, (0, 400, [(1000013, 0)]))])), (.inr (some (.inl (ck_one 1))), 245, ([], [], [(216, 3, 3, (0, 400, [(1000013, 0)]))]))])
set_option maxRecDepth 100000 in
theorem pm_s73_e : ck_ok p2_O none [] [(81, [pm_s37]), (95, [pm_s39, pm_s41]), (100, [pm_s53]), (76, [pm_s5]), (99, [pm_s54, pm_s55, pm_s56, pm_s57, pm_s58, pm_s59]), (93, [pm_s7]), (96, [pm_s72]), (98, [pm_s62]), (97, [pm_s71])] 97 [] 174 pm_s73 = true := by decide +kernel
theorem pm_s73_s {X : Int → Int} {LX : Nat} : ck_Ok p2_O X LX 97 pm_s73 := ck_ok_s ⟨p2_nmu, ck_E1 (ck_S1 pm_s37_s ck_S0) (ck_E1 (ck_S1 pm_s39_s (ck_S1 pm_s41_s ck_S0)) (ck_E1 (ck_S1 pm_s53_s ck_S0) (ck_E1 (ck_S1 pm_s5_s ck_S0) (ck_E1 (ck_S1 pm_s54_s (ck_S1 pm_s55_s (ck_S1 pm_s56_s (ck_S1 pm_s57_s (ck_S1 pm_s58_s (ck_S1 pm_s59_s ck_S0)))))) (ck_E1 (ck_S1 pm_s7_s ck_S0) (ck_E1 (ck_S1 pm_s72_s ck_S0) (ck_E1 (ck_S1 pm_s62_s ck_S0) (ck_E1 (ck_S1 pm_s71_s ck_S0) ck_E0))))))))⟩ ck_X0 ck_l0 pm_s73_e
set_option maxRecDepth 100000 in
/-- GlacierMail$LawReader.readCondition -/
def pm_s74 : ck_Sum := ((22, 0, 0), 245, [.inr (.inr (.inl 215)), .inl (ck_one 0)], ([], [], [(216, 3, 3, (0, 400, [(13, 0)]))]), ([(215, 4, 4), (216, 3, 7), (219, 0, 399)], []), [(.inr (some (.inl (ck_one 0))), 245, ([], [], [(216, 5, 5, (0, 400, [])), (216, 3, 3, (0, 400, [(1000013, 0)]))])), (.inr (some (.inl (ck_one 1))), 245, ([], [], [(216, 3, 3, (0, 400, [(1000013, 0)]))]))])
set_option maxRecDepth 100000 in
theorem pm_s74_e : ck_ok p2_O none [] [(93, [pm_s7]), (95, [pm_s32, pm_s34]), (99, [pm_s35, pm_s36]), (97, [pm_s73])] 96 [(2, [some (.inr (.inr (.inl 215))), some (.inl (ck_one 0)), some (.inl (0, 400, [])), none], ([], [], [(216, 3, 3, (0, 400, [(1000013, 0)]))]), 100, .inl 2, true), (11, [some (.inr (.inr (.inl 215))), some (.inl (ck_one 0)), some (.inl (0, 399, [(100, 0)])), some (.inl (0, 400, []))], ([], [], [(216, 3, 3, (0, 400, [(1000013, 0)]))]), 300, .inl 3, true)] 296 pm_s74 = true := by decide +kernel
theorem pm_s74_s {X : Int → Int} {LX : Nat} : ck_Ok p2_O X LX 96 pm_s74 := ck_ok_s ⟨p2_nmu, ck_E1 (ck_S1 pm_s7_s ck_S0) (ck_E1 (ck_S1 pm_s32_s (ck_S1 pm_s34_s ck_S0)) (ck_E1 (ck_S1 pm_s35_s (ck_S1 pm_s36_s ck_S0)) (ck_E1 (ck_S1 pm_s73_s ck_S0) ck_E0)))⟩ ck_X0 ck_l0 pm_s74_e
set_option maxRecDepth 100000 in
/-- GlacierMail$LawReader.readLine -/
def pm_s75 : ck_Sum := ((23, 0, 0), 245, [.inr (.inr (.inl 215))], ([], [], [(216, 3, 3, (0, 400, [(13, 0)]))]), ([(215, 4, 4), (216, 3, 7), (217, 3, 3), (218, 0, 47), (219, 0, 399)], []), [(.inr (some (.inl (ck_one 0))), 245, ([], [], [(216, 5, 5, (0, 400, [])), (216, 3, 3, (0, 400, [(1000013, 0)]))])), (.inr (some (.inl (ck_one 1))), 245, ([], [], [(217, 3, 3, (1, 12, [])), (216, 3, 3, (4, 400, [(1000013, 0)]))]))])
set_option maxRecDepth 100000 in
theorem pm_s75_e : ck_ok p2_O none [] [(80, [pm_s12]), (93, [pm_s7]), (76, [pm_s5]), (94, [pm_s13]), (95, [pm_s15]), (102, [pm_s16]), (45, [pm_s17, pm_s18, pm_s19, pm_s20, pm_s21, pm_s22, pm_s23, pm_s24, pm_s25, pm_s26, pm_s27, pm_s28, pm_s29, pm_s30]), (96, [pm_s74])] 79 [] 198 pm_s75 = true := by decide +kernel
theorem pm_s75_s {X : Int → Int} {LX : Nat} : ck_Ok p2_O X LX 79 pm_s75 := ck_ok_s ⟨p2_nmu, ck_E1 (ck_S1 pm_s12_s ck_S0) (ck_E1 (ck_S1 pm_s7_s ck_S0) (ck_E1 (ck_S1 pm_s5_s ck_S0) (ck_E1 (ck_S1 pm_s13_s ck_S0) (ck_E1 (ck_S1 pm_s15_s ck_S0) (ck_E1 (ck_S1 pm_s16_s ck_S0) (ck_E1 (ck_S1 pm_s17_s (ck_S1 pm_s18_s (ck_S1 pm_s19_s (ck_S1 pm_s20_s (ck_S1 pm_s21_s (ck_S1 pm_s22_s (ck_S1 pm_s23_s (ck_S1 pm_s24_s (ck_S1 pm_s25_s (ck_S1 pm_s26_s (ck_S1 pm_s27_s (ck_S1 pm_s28_s (ck_S1 pm_s29_s (ck_S1 pm_s30_s ck_S0)))))))))))))) (ck_E1 (ck_S1 pm_s74_s ck_S0) ck_E0)))))))⟩ ck_X0 ck_l0 pm_s75_e
set_option maxRecDepth 100000 in
/-- GlacierMail$Words.needSign -/
def pm_s76 : ck_Sum := ((2, 0, 0), 245, [.inr (.inr (.inl 216)), .inl (ck_one 59)], ([], [], [(216, 3, 3, (0, 400, [(13, 0)]))]), ([(216, 3, 7)], []), [(.inr (some (.inl (ck_one 1))), 245, ([], [], [(216, 3, 3, (0, 400, [(1000013, 0)]))])), (.inr (some (.inl (ck_one 0))), 245, ([], [], [(216, 5, 5, (0, 400, [])), (216, 3, 3, (0, 400, [(13, 0)]))]))])
set_option maxRecDepth 100000 in
theorem pm_s76_e : ck_ok p2_O none [] [(76, [pm_s5]), (93, [pm_s7])] 98 [] 86 pm_s76 = true := by decide +kernel
theorem pm_s76_s {X : Int → Int} {LX : Nat} : ck_Ok p2_O X LX 98 pm_s76 := ck_ok_s ⟨p2_nmu, ck_E1 (ck_S1 pm_s5_s ck_S0) (ck_E1 (ck_S1 pm_s7_s ck_S0) ck_E0)⟩ ck_X0 ck_l0 pm_s76_e
set_option maxRecDepth 100000 in
/-- GlacierMail$TextReader.readText -/
def pm_s77 : ck_Sum := ((24, 0, 0), 245, [.inr (.inr (.inl 215)), .inl (0, 400, [])], ([], [], [(216, 3, 3, (0, 400, [(13, 0)]))]), ([(215, 4, 4), (216, 2, 7), (217, 3, 3), (218, 0, 47), (219, 0, 399)], []), [(.inr (some (.inl (ck_one (-1)))), 245, ([], [], [(216, 5, 5, ck_one (-1))])), (.inr (some (.inl (0, 400, []))), 245, ([], [], [(216, 5, 5, (0, 400, []))]))])
set_option maxRecDepth 100000 in
theorem pm_s77_e : ck_ok p2_O none [] [(73, [pm_s2]), (75, [pm_s6]), (93, [pm_s7]), (121, [pm_s8]), (79, [pm_s75]), (98, [pm_s76])] 72 [(29, [some (.inr (.inr (.inl 215))), some (.inl (0, 400, [])), some (.inl (0, 12, []))], ([], [], [(217, 3, 3, (0, 12, []))]), 100, .inl 2, true)] 174 pm_s77 = true := by decide +kernel
theorem pm_s77_s {X : Int → Int} {LX : Nat} : ck_Ok p2_O X LX 72 pm_s77 := ck_ok_s ⟨p2_nmu, ck_E1 (ck_S1 pm_s2_s ck_S0) (ck_E1 (ck_S1 pm_s6_s ck_S0) (ck_E1 (ck_S1 pm_s7_s ck_S0) (ck_E1 (ck_S1 pm_s8_s ck_S0) (ck_E1 (ck_S1 pm_s75_s ck_S0) (ck_E1 (ck_S1 pm_s76_s ck_S0) ck_E0)))))⟩ ck_X0 ck_l0 pm_s77_e
set_option maxRecDepth 100000 in
/-- GlacierMail$Rows.<init> -/
def pm_s79 : ck_Sum := ((1, 1, 48), 248, [.inr (.inr (.inl 248)), .inl (ck_one 12), .inl (ck_one 4)], ([(248, 6, 0)], [], []), ([(248, 0, 1), (248, 3, 3)], [(248, 2)]), [(.inr none, 249, ([(249, 0, 48)], [(248, 2, 249)], [(248, 1, 1, ck_one 4), (248, 0, 0, ck_one 12), (248, 3, 3, ck_one 0), (249, 0, 47, ck_one 0)]))])
set_option maxRecDepth 100000 in
theorem pm_s79_e : ck_ok p2_O none [] [] 2 [] 106 pm_s79 = true := by decide +kernel
theorem pm_s79_s {X : Int → Int} {LX : Nat} : ck_Ok p2_O X LX 2 pm_s79 := ck_ok_s ⟨p2_nmu, ck_E0⟩ ck_X0 ck_l0 pm_s79_e
set_option maxRecDepth 100000 in
/-- GlacierMail$Rows.copyFrom -/
def pm_s80 : ck_Sum := ((1, 0, 0), 249, [.inr (.inr (.inl 248)), .inr (.inr (.inl 217))], ([(248, 6, 0), (249, 0, 48)], [(248, 2, 249)], [(248, 0, 0, ck_one 12)]), ([(248, 3, 3), (249, 0, 47)], []), [(.inr none, 249, ([], [], [(248, 3, 3, (0, 12, []))]))])
set_option maxRecDepth 100000 in
theorem pm_s80_e : ck_ok p2_O none [] [] 58 [] 114 pm_s80 = true := by decide +kernel
theorem pm_s80_s {X : Int → Int} {LX : Nat} : ck_Ok p2_O X LX 58 pm_s80 := ck_ok_s ⟨p2_nmu, ck_E0⟩ ck_X0 ck_l0 pm_s80_e
set_option maxRecDepth 100000 in
/-- GlacierMail$Law.<init> -/
def lq_init : ck_Sum := ((2, 2, 52), 247, [.inr (.inr (.inl 246)), .inr (.inr (.inl 217)), .inr (.inr (.inl 247))], ([(246, 14, 0)], [], []), ([], [(246, 0), (246, 1)]), [(.inr none, 249, ([(248, 6, 0), (249, 0, 48)], [(246, 0, 248), (246, 1, 247), (248, 2, 249)], [(248, 3, 3, (0, 12, [])), (248, 1, 1, ck_one 4), (248, 0, 0, ck_one 12), (248, 2, 2, ck_one 0)]))])
set_option maxRecDepth 100000 in
theorem lq_init_e : ck_ok p2_O none [] [(2, [pm_s79]), (58, [pm_s80])] 126 [] 104 lq_init = true := by decide +kernel
theorem lq_init_s {X : Int → Int} {LX : Nat} : ck_Ok p2_O X LX 126 lq_init := ck_ok_s ⟨p2_nmu, ck_E1 (ck_S1 pm_s79_s ck_S0) (ck_E1 (ck_S1 pm_s80_s ck_S0) ck_E0)⟩ ck_X0 ck_l0 lq_init_e
set_option maxRecDepth 100000 in
/-- GlacierMail$Ice.reckonHeats -/
def pm_s82 : ck_Sum := ((0, 0, 0), 249, [.inr (.inr (.inl 200))], ([], [], []), ([(201, 0, 299)], []), [(.inr none, 249, ([], [], []))])
set_option maxRecDepth 100000 in
theorem pm_s82_e : ck_ok p2_OL none [] [] 6 [(10, [some (.inr (.inr (.inl 200))), some (.inl ((-2147483648), 2147483647, [])), some (.inl (0, 300, []))], ([], [], []), 100, .inl 2, true)] 182 pm_s82 = true := by decide +kernel
theorem pm_s82_s {X : Int → Int} {LX : Nat} : ck_Ok p2_OL X LX 6 pm_s82 := ck_ok_s ⟨pl_nmu, ck_E0⟩ ck_X0 ck_l0 pm_s82_e
set_option maxRecDepth 100000 in
/-- java/util/Arrays.fill -/
def pm_s83 : ck_Sum := ((0, 0, 0), 249, [.inr (.inr (.inl 202)), .inl (ck_one 0)], ([], [], []), ([(202, 0, 593)], []), [(.inr none, 249, ([], [], []))])
set_option maxRecDepth 100000 in
theorem pm_s83_e : ck_ok p2_OL none [] [] 8 [(5, [some (.inr (.inr (.inl 202))), some (.inl (ck_one 0)), some (.inl (0, 594, [])), some (.inl (ck_one 594))], ([], [], []), 100, .inl 2, true)] 130 pm_s83 = true := by decide +kernel
theorem pm_s83_s {X : Int → Int} {LX : Nat} : ck_Ok p2_OL X LX 8 pm_s83 := ck_ok_s ⟨pl_nmu, ck_E0⟩ ck_X0 ck_l0 pm_s83_e
set_option maxRecDepth 100000 in
/-- GlacierMail$Rows.size -/
def pm_s84 : ck_Sum := ((0, 0, 0), 249, [.inr (.inr (.inl 4))], ([], [], []), ([], []), [(.inr (some (.inl (0, 8, []))), 249, ([], [], []))])
set_option maxRecDepth 100000 in
theorem pm_s84_e : ck_ok p2_OL none [] [] 9 [] 76 pm_s84 = true := by decide +kernel
theorem pm_s84_s {X : Int → Int} {LX : Nat} : ck_Ok p2_OL X LX 9 pm_s84 := ck_ok_s ⟨pl_nmu, ck_E0⟩ ck_X0 ck_l0 pm_s84_e
set_option maxRecDepth 100000 in
/-- GlacierMail$Rows.get -/
def pm_s85 : ck_Sum := ((0, 0, 0), 249, [.inr (.inr (.inl 4)), .inl ((-2147483648), 2147483647, []), .inl ((-2147483648), 2147483647, [])], ([], [], []), ([], []), [(.inr (some (.inl (ck_one (-1)))), 249, ([], [], [])), (.inr (some (.inl (0, 98, []))), 249, ([], [], [(4, 3, 3, (1, 8, []))]))])
set_option maxRecDepth 100000 in
theorem pm_s85_e : ck_ok p2_OL none [] [] 10 [] 114 pm_s85 = true := by decide +kernel
theorem pm_s85_s {X : Int → Int} {LX : Nat} : ck_Ok p2_OL X LX 10 pm_s85 := ck_ok_s ⟨pl_nmu, ck_E0⟩ ck_X0 ck_l0 pm_s85_e
set_option maxRecDepth 100000 in
/-- GlacierMail$Ice.reckonSpeeds -/
def pm_s86 : ck_Sum := ((1, 0, 0), 249, [.inr (.inr (.inl 200))], ([], [], []), ([(202, 0, 593)], []), [(.inr none, 249, ([], [], []))])
set_option maxRecDepth 100000 in
theorem pm_s86_e : ck_ok p2_OL none [] [(8, [pm_s83]), (9, [pm_s84]), (10, [pm_s85])] 7 [(10, [some (.inr (.inr (.inl 200))), some (.inl (0, 9, [])), none, none, none, none], ([], [], []), 100, .inl 1, true), (43, [some (.inr (.inr (.inl 200))), some (.inl (0, 7, [(100, 0)])), some (.inl (0, 98, [])), some (.inl (0, 6, [])), none, none], ([], [], []), 300, .inl 3, true), (79, [some (.inr (.inr (.inl 200))), some (.inl (0, 7, [(100, 0)])), some (.inl (0, 98, [])), some (.inl (0, 5, [(300, 0)])), some (.inl ((-1), 98, [])), some (.inl (0, 99, []))], ([], [], []), 500, .inl 5, true)] 290 pm_s86 = true := by decide +kernel
theorem pm_s86_s {X : Int → Int} {LX : Nat} : ck_Ok p2_OL X LX 7 pm_s86 := ck_ok_s ⟨pl_nmu, ck_E1 (ck_S1 pm_s83_s ck_S0) (ck_E1 (ck_S1 pm_s84_s ck_S0) (ck_E1 (ck_S1 pm_s85_s ck_S0) ck_E0))⟩ ck_X0 ck_l0 pm_s86_e
set_option maxRecDepth 100000 in
/-- java/util/Arrays.fill -/
def pm_s87 : ck_Sum := ((0, 0, 0), 249, [.inr (.inr (.inl 203)), .inl (ck_one 0)], ([], [], []), ([(203, 0, 299)], []), [(.inr none, 249, ([], [], []))])
set_option maxRecDepth 100000 in
theorem pm_s87_e : ck_ok p2_OL none [] [] 8 [(5, [some (.inr (.inr (.inl 203))), some (.inl (ck_one 0)), some (.inl (0, 300, [])), some (.inl (ck_one 300))], ([], [], []), 100, .inl 2, true)] 130 pm_s87 = true := by decide +kernel
theorem pm_s87_s {X : Int → Int} {LX : Nat} : ck_Ok p2_OL X LX 8 pm_s87 := ck_ok_s ⟨pl_nmu, ck_E0⟩ ck_X0 ck_l0 pm_s87_e
set_option maxRecDepth 100000 in
/-- GlacierMail$Rows.size -/
def pm_s88 : ck_Sum := ((0, 0, 0), 249, [.inr (.inr (.inl 6))], ([], [], []), ([], []), [(.inr (some (.inl (0, 8, []))), 249, ([], [], []))])
set_option maxRecDepth 100000 in
theorem pm_s88_e : ck_ok p2_OL none [] [] 9 [] 76 pm_s88 = true := by decide +kernel
theorem pm_s88_s {X : Int → Int} {LX : Nat} : ck_Ok p2_OL X LX 9 pm_s88 := ck_ok_s ⟨pl_nmu, ck_E0⟩ ck_X0 ck_l0 pm_s88_e
set_option maxRecDepth 100000 in
/-- GlacierMail$Rows.get -/
def pm_s89 : ck_Sum := ((0, 0, 0), 249, [.inr (.inr (.inl 6)), .inl ((-2147483648), 2147483647, []), .inl ((-2147483648), 2147483647, [])], ([], [], []), ([], []), [(.inr (some (.inl (ck_one (-1)))), 249, ([], [], [])), (.inr (some (.inl (0, 299, []))), 249, ([], [], [(6, 3, 3, (1, 8, []))]))])
set_option maxRecDepth 100000 in
theorem pm_s89_e : ck_ok p2_OL none [] [] 10 [] 114 pm_s89 = true := by decide +kernel
theorem pm_s89_s {X : Int → Int} {LX : Nat} : ck_Ok p2_OL X LX 10 pm_s89 := ck_ok_s ⟨pl_nmu, ck_E0⟩ ck_X0 ck_l0 pm_s89_e
set_option maxRecDepth 100000 in
/-- GlacierMail$Ice.reckonFloods -/
def pm_s90 : ck_Sum := ((1, 0, 0), 249, [.inr (.inr (.inl 200))], ([], [], []), ([(203, 0, 299)], []), [(.inr none, 249, ([], [], []))])
set_option maxRecDepth 100000 in
theorem pm_s90_e : ck_ok p2_OL none [] [(8, [pm_s87]), (9, [pm_s88]), (10, [pm_s89])] 12 [(10, [some (.inr (.inr (.inl 200))), some (.inl (0, 9, [])), none], ([], [], []), 100, .inl 1, true)] 214 pm_s90 = true := by decide +kernel
theorem pm_s90_s {X : Int → Int} {LX : Nat} : ck_Ok p2_OL X LX 12 pm_s90 := ck_ok_s ⟨pl_nmu, ck_E1 (ck_S1 pm_s87_s ck_S0) (ck_E1 (ck_S1 pm_s88_s ck_S0) (ck_E1 (ck_S1 pm_s89_s ck_S0) ck_E0))⟩ ck_X0 ck_l0 pm_s90_e
