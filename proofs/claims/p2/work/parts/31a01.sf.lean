/-! EVERY CALL ENDS, whatever was done before (laid by wip/am/p2g.py). -/
set_option maxRecDepth 100000 in
/-- GlacierMail$Rows.isFull -/
def p2_s85 : ck_Sum := ((0, 0, 0), 245, [.inr (.inr (.inl 19))], ([], [], []), ([], []), [(.inr (some (.inl (ck_one 0))), 245, ([], [], [(19, 3, 3, (0, 7, []))])), (.inr (some (.inl (ck_one 1))), 245, ([], [], [(19, 3, 3, ck_one 8)]))])
set_option maxRecDepth 100000 in
theorem p2_s85_e : ck_ok p2_O none [] [] 108 [] 86 p2_s85 = true := by decide +kernel
theorem p2_s85_s {X : Int → Int} {LX : Nat} : ck_Ok p2_O X LX 108 p2_s85 := ck_ok_s ⟨p2_nmu, ck_E0⟩ ck_X0 ck_l0 p2_s85_e
set_option maxRecDepth 100000 in
/-- GlacierMail$Words.needNumber -/
def p2_s86 : ck_Sum := ((2, 0, 0), 245, [.inr (.inr (.inl 214)), .inl (0, 299, []), .inl (ck_one 299)], ([], [], [(214, 3, 3, (0, 400, [(12, 0)]))]), ([(214, 3, 7)], []), [(.inr (some (.inl (ck_one (-1)))), 245, ([], [], [(214, 5, 5, (0, 400, [])), (214, 3, 3, (0, 400, [(12, 0)]))])), (.inr (some (.inl (0, 299, []))), 245, ([], [], [(214, 3, 3, (0, 400, [(1000012, 0)]))]))])
set_option maxRecDepth 100000 in
theorem p2_s86_e : ck_ok p2_O none [] [(93, [p2_s31]), (76, [p2_s19])] 94 [] 106 p2_s86 = true := by decide +kernel
theorem p2_s86_s {X : Int → Int} {LX : Nat} : ck_Ok p2_O X LX 94 p2_s86 := ck_ok_s ⟨p2_nmu, ck_E1 (ck_S1 p2_s31_s ck_S0) (ck_E1 (ck_S1 p2_s19_s ck_S0) ck_E0)⟩ ck_X0 ck_l0 p2_s86_e
set_option maxRecDepth 100000 in
/-- GlacierMail$Words.needNumber -/
def p2_s87 : ck_Sum := ((2, 0, 0), 245, [.inr (.inr (.inl 214)), .inl (ck_one 1), .inl (ck_one 20)], ([], [], [(214, 3, 3, (0, 400, [(12, 0)]))]), ([(214, 3, 7)], []), [(.inr (some (.inl (ck_one (-1)))), 245, ([], [], [(214, 5, 5, (0, 400, [])), (214, 3, 3, (0, 400, [(12, 0)]))])), (.inr (some (.inl (1, 20, []))), 245, ([], [], [(214, 3, 3, (0, 400, [(1000012, 0)]))]))])
set_option maxRecDepth 100000 in
theorem p2_s87_e : ck_ok p2_O none [] [(93, [p2_s31]), (76, [p2_s19])] 94 [] 106 p2_s87 = true := by decide +kernel
theorem p2_s87_s {X : Int → Int} {LX : Nat} : ck_Ok p2_O X LX 94 p2_s87 := ck_ok_s ⟨p2_nmu, ck_E1 (ck_S1 p2_s31_s ck_S0) (ck_E1 (ck_S1 p2_s19_s ck_S0) ck_E0)⟩ ck_X0 ck_l0 p2_s87_e
set_option maxRecDepth 100000 in
/-- GlacierMail$Rows.add -/
def p2_s88 : ck_Sum := ((0, 0, 0), 245, [.inr (.inr (.inl 19))], ([], [], []), ([(19, 3, 3)], []), [(.inr (some (.inl (0, 7, []))), 245, ([], [], [(19, 3, 3, (1, 8, []))])), (.inr (some (.inl (ck_one (-1)))), 245, ([], [], [(19, 3, 3, ck_one 8)]))])
set_option maxRecDepth 100000 in
theorem p2_s88_e : ck_ok p2_O none [] [] 102 [] 102 p2_s88 = true := by decide +kernel
theorem p2_s88_s {X : Int → Int} {LX : Nat} : ck_Ok p2_O X LX 102 p2_s88 := ck_ok_s ⟨p2_nmu, ck_E0⟩ ck_X0 ck_l0 p2_s88_e
set_option maxRecDepth 100000 in
/-- GlacierMail$Rows.put -/
def p2_s89 : ck_Sum := ((0, 0, 0), 245, [.inr (.inr (.inl 19)), .inl (0, 7, []), .inl (ck_one 0), .inl (0, 299, [])], ([], [], []), ([(20, 0, 0), (20, 3, 3), (20, 6, 6), (20, 9, 9), (20, 12, 12), (20, 15, 15), (20, 18, 18), (20, 21, 21)], []), [(.inr none, 245, ([], [], []))])
set_option maxRecDepth 100000 in
theorem p2_s89_e : ck_ok p2_O none [] [] 45 [] 116 p2_s89 = true := by decide +kernel
theorem p2_s89_s {X : Int → Int} {LX : Nat} : ck_Ok p2_O X LX 45 p2_s89 := ck_ok_s ⟨p2_nmu, ck_E0⟩ ck_X0 ck_l0 p2_s89_e
set_option maxRecDepth 100000 in
/-- GlacierMail$Rows.put -/
def p2_s90 : ck_Sum := ((0, 0, 0), 245, [.inr (.inr (.inl 19)), .inl (0, 7, []), .inl (ck_one 1), .inl (0, 98, [])], ([], [], []), ([(20, 1, 1), (20, 4, 4), (20, 7, 7), (20, 10, 10), (20, 13, 13), (20, 16, 16), (20, 19, 19), (20, 22, 22)], []), [(.inr none, 245, ([], [], []))])
set_option maxRecDepth 100000 in
theorem p2_s90_e : ck_ok p2_O none [] [] 45 [] 116 p2_s90 = true := by decide +kernel
theorem p2_s90_s {X : Int → Int} {LX : Nat} : ck_Ok p2_O X LX 45 p2_s90 := ck_ok_s ⟨p2_nmu, ck_E0⟩ ck_X0 ck_l0 p2_s90_e
set_option maxRecDepth 100000 in
/-- GlacierMail$Rows.put -/
def p2_s91 : ck_Sum := ((0, 0, 0), 245, [.inr (.inr (.inl 19)), .inl (0, 7, []), .inl (ck_one 2), .inl (1, 20, [])], ([], [], []), ([(20, 2, 2), (20, 5, 5), (20, 8, 8), (20, 11, 11), (20, 14, 14), (20, 17, 17), (20, 20, 20), (20, 23, 23)], []), [(.inr none, 245, ([], [], []))])
set_option maxRecDepth 100000 in
theorem p2_s91_e : ck_ok p2_O none [] [] 45 [] 116 p2_s91 = true := by decide +kernel
theorem p2_s91_s {X : Int → Int} {LX : Nat} : ck_Ok p2_O X LX 45 p2_s91 := ck_ok_s ⟨p2_nmu, ck_E0⟩ ck_X0 ck_l0 p2_s91_e
set_option maxRecDepth 100000 in
/-- GlacierMail$Rows.put -/
def p2_s92 : ck_Sum := ((0, 0, 0), 245, [.inr (.inr (.inl 19)), .inl (ck_one (-1)), .inl (ck_one 0), .inl (0, 299, [])], ([], [], []), ([], []), [(.inr none, 245, ([], [], []))])
set_option maxRecDepth 100000 in
theorem p2_s92_e : ck_ok p2_O none [] [] 45 [] 76 p2_s92 = true := by decide +kernel
theorem p2_s92_s {X : Int → Int} {LX : Nat} : ck_Ok p2_O X LX 45 p2_s92 := ck_ok_s ⟨p2_nmu, ck_E0⟩ ck_X0 ck_l0 p2_s92_e
set_option maxRecDepth 100000 in
/-- GlacierMail$Rows.put -/
def p2_s93 : ck_Sum := ((0, 0, 0), 245, [.inr (.inr (.inl 19)), .inl (ck_one (-1)), .inl (ck_one 1), .inl (0, 98, [])], ([], [], []), ([], []), [(.inr none, 245, ([], [], []))])
set_option maxRecDepth 100000 in
theorem p2_s93_e : ck_ok p2_O none [] [] 45 [] 76 p2_s93 = true := by decide +kernel
theorem p2_s93_s {X : Int → Int} {LX : Nat} : ck_Ok p2_O X LX 45 p2_s93 := ck_ok_s ⟨p2_nmu, ck_E0⟩ ck_X0 ck_l0 p2_s93_e
set_option maxRecDepth 100000 in
/-- GlacierMail$Rows.put -/
def p2_s94 : ck_Sum := ((0, 0, 0), 245, [.inr (.inr (.inl 19)), .inl (ck_one (-1)), .inl (ck_one 2), .inl (1, 20, [])], ([], [], []), ([], []), [(.inr none, 245, ([], [], []))])
set_option maxRecDepth 100000 in
theorem p2_s94_e : ck_ok p2_O none [] [] 45 [] 76 p2_s94 = true := by decide +kernel
theorem p2_s94_s {X : Int → Int} {LX : Nat} : ck_Ok p2_O X LX 45 p2_s94 := ck_ok_s ⟨p2_nmu, ck_E0⟩ ck_X0 ck_l0 p2_s94_e
set_option maxRecDepth 100000 in
/-- GlacierMail$ValleyReader.readFlood -/
def p2_s95 : ck_Sum := ((4, 0, 0), 245, [.inr (.inr (.inl 213))], ([], [], [(214, 3, 3, (0, 400, [(12, 0)]))]), ([(19, 3, 3), (20, 0, 23), (214, 3, 7)], []), [(.inr (some (.inl (ck_one 0))), 245, ([], [], [(214, 5, 5, (0, 400, [])), (214, 3, 3, (0, 400, [(1000012, 0)]))])), (.inr (some (.inl (ck_one 1))), 245, ([], [], [(19, 3, 3, (1, 8, [])), (214, 3, 3, (0, 400, [(1000012, 0)]))]))])
set_option maxRecDepth 100000 in
theorem p2_s95_e : ck_ok p2_O none [] [(108, [p2_s85]), (76, [p2_s19]), (94, [p2_s86, p2_s87]), (111, [p2_s54]), (102, [p2_s88]), (45, [p2_s89, p2_s90, p2_s91, p2_s92, p2_s93, p2_s94]), (93, [p2_s31])] 115 [] 194 p2_s95 = true := by decide +kernel
theorem p2_s95_s {X : Int → Int} {LX : Nat} : ck_Ok p2_O X LX 115 p2_s95 := ck_ok_s ⟨p2_nmu, ck_E1 (ck_S1 p2_s85_s ck_S0) (ck_E1 (ck_S1 p2_s19_s ck_S0) (ck_E1 (ck_S1 p2_s86_s (ck_S1 p2_s87_s ck_S0)) (ck_E1 (ck_S1 p2_s54_s ck_S0) (ck_E1 (ck_S1 p2_s88_s ck_S0) (ck_E1 (ck_S1 p2_s89_s (ck_S1 p2_s90_s (ck_S1 p2_s91_s (ck_S1 p2_s92_s (ck_S1 p2_s93_s (ck_S1 p2_s94_s ck_S0)))))) (ck_E1 (ck_S1 p2_s31_s ck_S0) ck_E0))))))⟩ ck_X0 ck_l0 p2_s95_e
set_option maxRecDepth 100000 in
/-- GlacierMail$Words.needNumber -/
def p2_s96 : ck_Sum := ((2, 0, 0), 245, [.inr (.inr (.inl 214)), .inl (ck_one 0), .inl (ck_one 9999)], ([], [], [(214, 3, 3, (0, 400, [(12, 0)]))]), ([(214, 3, 7)], []), [(.inr (some (.inl (ck_one (-1)))), 245, ([], [], [(214, 5, 5, (0, 400, [])), (214, 3, 3, (0, 400, [(12, 0)]))])), (.inr (some (.inl (0, 9999, []))), 245, ([], [], [(214, 3, 3, (0, 400, [(1000012, 0)]))]))])
set_option maxRecDepth 100000 in
theorem p2_s96_e : ck_ok p2_O none [] [(93, [p2_s31]), (76, [p2_s19])] 94 [] 106 p2_s96 = true := by decide +kernel
theorem p2_s96_s {X : Int → Int} {LX : Nat} : ck_Ok p2_O X LX 94 p2_s96 := ck_ok_s ⟨p2_nmu, ck_E1 (ck_S1 p2_s31_s ck_S0) (ck_E1 (ck_S1 p2_s19_s ck_S0) ck_E0)⟩ ck_X0 ck_l0 p2_s96_e
set_option maxRecDepth 100000 in
/-- GlacierMail$ValleyReader.readSeed -/
def p2_s97 : ck_Sum := ((3, 0, 0), 245, [.inr (.inr (.inl 213))], ([], [], [(214, 3, 3, (0, 400, [(12, 0)]))]), ([(16, 5, 5), (214, 3, 7)], []), [(.inr (some (.inl (ck_one 0))), 245, ([], [], [(214, 5, 5, (0, 400, [])), (214, 3, 3, (0, 400, [(1000012, 0)]))])), (.inr (some (.inl (ck_one 1))), 245, ([], [], [(214, 3, 3, (0, 400, [(1000012, 0)]))]))])
set_option maxRecDepth 100000 in
theorem p2_s97_e : ck_ok p2_O none [] [(76, [p2_s19]), (94, [p2_s96])] 114 [] 106 p2_s97 = true := by decide +kernel
theorem p2_s97_s {X : Int → Int} {LX : Nat} : ck_Ok p2_O X LX 114 p2_s97 := ck_ok_s ⟨p2_nmu, ck_E1 (ck_S1 p2_s19_s ck_S0) (ck_E1 (ck_S1 p2_s96_s ck_S0) ck_E0)⟩ ck_X0 ck_l0 p2_s97_e
set_option maxRecDepth 100000 in
/-- GlacierMail$Words.needNumber -/
def p2_s98 : ck_Sum := ((2, 0, 0), 245, [.inr (.inr (.inl 214)), .inl (ck_one 0), .inl (1, 6, [])], ([], [], [(214, 3, 3, (0, 400, [(12, 0)]))]), ([(214, 3, 7)], []), [(.inr (some (.inl (ck_one (-1)))), 245, ([], [], [(214, 5, 5, (0, 400, [])), (214, 3, 3, (0, 400, [(12, 0)]))])), (.inr (some (.inl (0, 6, []))), 245, ([], [], [(214, 3, 3, (0, 400, [(1000012, 0)]))]))])
set_option maxRecDepth 100000 in
theorem p2_s98_e : ck_ok p2_O none [] [(93, [p2_s31]), (76, [p2_s19])] 94 [] 106 p2_s98 = true := by decide +kernel
theorem p2_s98_s {X : Int → Int} {LX : Nat} : ck_Ok p2_O X LX 94 p2_s98 := ck_ok_s ⟨p2_nmu, ck_E1 (ck_S1 p2_s31_s ck_S0) (ck_E1 (ck_S1 p2_s19_s ck_S0) ck_E0)⟩ ck_X0 ck_l0 p2_s98_e
set_option maxRecDepth 100000 in
/-- GlacierMail$ValleyReader.readStripe -/
def p2_s99 : ck_Sum := ((3, 0, 0), 245, [.inr (.inr (.inl 213))], ([], [], [(214, 3, 3, (0, 400, [(12, 0)]))]), ([(16, 4, 4), (214, 3, 7)], []), [(.inr (some (.inl (ck_one 0))), 245, ([], [], [(214, 5, 5, (0, 400, [])), (214, 3, 3, (0, 400, [(1000012, 0)]))])), (.inr (some (.inl (ck_one 1))), 245, ([], [], [(214, 3, 3, (0, 400, [(1000012, 0)]))]))])
set_option maxRecDepth 100000 in
theorem p2_s99_e : ck_ok p2_O none [] [(76, [p2_s19]), (94, [p2_s98])] 113 [] 110 p2_s99 = true := by decide +kernel
theorem p2_s99_s {X : Int → Int} {LX : Nat} : ck_Ok p2_O X LX 113 p2_s99 := ck_ok_s ⟨p2_nmu, ck_E1 (ck_S1 p2_s19_s ck_S0) (ck_E1 (ck_S1 p2_s98_s ck_S0) ck_E0)⟩ ck_X0 ck_l0 p2_s99_e
set_option maxRecDepth 100000 in
/-- GlacierMail$Words.needNumber -/
def p2_s103 : ck_Sum := ((2, 0, 0), 245, [.inr (.inr (.inl 214)), .inl (ck_one 0), .inl (ck_one 9)], ([], [], [(214, 3, 3, (0, 400, [(12, 0)]))]), ([(214, 3, 7)], []), [(.inr (some (.inl (ck_one (-1)))), 245, ([], [], [(214, 5, 5, (0, 400, [])), (214, 3, 3, (0, 400, [(12, 0)]))])), (.inr (some (.inl (0, 9, []))), 245, ([], [], [(214, 3, 3, (0, 400, [(1000012, 0)]))]))])
set_option maxRecDepth 100000 in
theorem p2_s103_e : ck_ok p2_O none [] [(93, [p2_s31]), (76, [p2_s19])] 94 [] 106 p2_s103 = true := by decide +kernel
theorem p2_s103_s {X : Int → Int} {LX : Nat} : ck_Ok p2_O X LX 94 p2_s103 := ck_ok_s ⟨p2_nmu, ck_E1 (ck_S1 p2_s31_s ck_S0) (ck_E1 (ck_S1 p2_s19_s ck_S0) ck_E0)⟩ ck_X0 ck_l0 p2_s103_e
set_option maxRecDepth 100000 in
/-- GlacierMail$Rows.isFull -/
def p2_s105 : ck_Sum := ((0, 0, 0), 245, [.inr (.inr (.inl 17))], ([], [], []), ([], []), [(.inr (some (.inl (ck_one 0))), 245, ([], [], [(17, 3, 3, (0, 7, []))])), (.inr (some (.inl (ck_one 1))), 245, ([], [], [(17, 3, 3, ck_one 8)]))])
set_option maxRecDepth 100000 in
theorem p2_s105_e : ck_ok p2_O none [] [] 108 [] 86 p2_s105 = true := by decide +kernel
theorem p2_s105_s {X : Int → Int} {LX : Nat} : ck_Ok p2_O X LX 108 p2_s105 := ck_ok_s ⟨p2_nmu, ck_E0⟩ ck_X0 ck_l0 p2_s105_e
set_option maxRecDepth 100000 in
/-- GlacierMail$Rows.size -/
def p2_s106 : ck_Sum := ((0, 0, 0), 245, [.inr (.inr (.inl 17))], ([], [], []), ([], []), [(.inr (some (.inl (0, 8, []))), 245, ([], [], []))])
set_option maxRecDepth 100000 in
theorem p2_s106_e : ck_ok p2_O none [] [] 9 [] 76 p2_s106 = true := by decide +kernel
theorem p2_s106_s {X : Int → Int} {LX : Nat} : ck_Ok p2_O X LX 9 p2_s106 := ck_ok_s ⟨p2_nmu, ck_E0⟩ ck_X0 ck_l0 p2_s106_e
set_option maxRecDepth 100000 in
/-- GlacierMail$Rows.get -/
def p2_s107 : ck_Sum := ((0, 0, 0), 245, [.inr (.inr (.inl 17)), .inl ((-2147483648), 2147483647, []), .inl ((-2147483648), 2147483647, [])], ([], [], []), ([], []), [(.inr (some (.inl (ck_one (-1)))), 245, ([], [], [])), (.inr (some (.inl (0, 98, []))), 245, ([], [], [(17, 3, 3, (1, 8, []))]))])
set_option maxRecDepth 100000 in
theorem p2_s107_e : ck_ok p2_O none [] [] 10 [] 114 p2_s107 = true := by decide +kernel
theorem p2_s107_s {X : Int → Int} {LX : Nat} : ck_Ok p2_O X LX 10 p2_s107 := ck_ok_s ⟨p2_nmu, ck_E0⟩ ck_X0 ck_l0 p2_s107_e
set_option maxRecDepth 100000 in
/-- GlacierMail$Words.needNumber -/
def p2_s125 : ck_Sum := ((2, 0, 0), 245, [.inr (.inr (.inl 214)), .inl (ck_one 0), .inl (ck_one 0)], ([], [], [(214, 3, 3, (0, 400, [(12, 0)]))]), ([(214, 3, 7)], []), [(.inr (some (.inl (ck_one (-1)))), 245, ([], [], [(214, 5, 5, (0, 400, [])), (214, 3, 3, (0, 400, [(12, 0)]))])), (.inr (some (.inl (ck_one 0))), 245, ([], [], [(214, 3, 3, (0, 400, [(1000012, 0)]))]))])
set_option maxRecDepth 100000 in
theorem p2_s125_e : ck_ok p2_O none [] [(93, [p2_s31]), (76, [p2_s19])] 94 [] 106 p2_s125 = true := by decide +kernel
theorem p2_s125_s {X : Int → Int} {LX : Nat} : ck_Ok p2_O X LX 94 p2_s125 := ck_ok_s ⟨p2_nmu, ck_E1 (ck_S1 p2_s31_s ck_S0) (ck_E1 (ck_S1 p2_s19_s ck_S0) ck_E0)⟩ ck_X0 ck_l0 p2_s125_e
set_option maxRecDepth 100000 in
/-- GlacierMail$Words.needNumber -/
def p2_s128 : ck_Sum := ((2, 0, 0), 245, [.inr (.inr (.inl 214)), .inl (1, 99, []), .inl (9, 98, [])], ([], [], [(214, 3, 3, (0, 400, [(12, 0)]))]), ([(214, 3, 7)], []), [(.inr (some (.inl (ck_one (-1)))), 245, ([], [], [(214, 5, 5, (0, 400, [])), (214, 3, 3, (0, 400, [(12, 0)]))])), (.inr (some (.inl (1, 98, []))), 245, ([], [], [(214, 3, 3, (0, 400, [(1000012, 0)]))]))])
set_option maxRecDepth 100000 in
theorem p2_s128_e : ck_ok p2_O none [] [(93, [p2_s31]), (76, [p2_s19])] 94 [] 106 p2_s128 = true := by decide +kernel
theorem p2_s128_s {X : Int → Int} {LX : Nat} : ck_Ok p2_O X LX 94 p2_s128 := ck_ok_s ⟨p2_nmu, ck_E1 (ck_S1 p2_s31_s ck_S0) (ck_E1 (ck_S1 p2_s19_s ck_S0) ck_E0)⟩ ck_X0 ck_l0 p2_s128_e
set_option maxRecDepth 100000 in
/-- GlacierMail$Words.needNumber -/
def p2_s131 : ck_Sum := ((1, 0, 0), 245, [.inr (.inr (.inl 214)), .inl (1, 99, []), .inl (ck_one 0)], ([], [], []), ([(214, 5, 5)], []), [(.inr (some (.inl (ck_one (-1)))), 245, ([], [], [(214, 5, 5, (0, 400, []))]))])
set_option maxRecDepth 100000 in
theorem p2_s131_e : ck_ok p2_O none [] [(93, [p2_s31])] 94 [] 106 p2_s131 = true := by decide +kernel
theorem p2_s131_s {X : Int → Int} {LX : Nat} : ck_Ok p2_O X LX 94 p2_s131 := ck_ok_s ⟨p2_nmu, ck_E1 (ck_S1 p2_s31_s ck_S0) ck_E0⟩ ck_X0 ck_l0 p2_s131_e
set_option maxRecDepth 100000 in
/-- GlacierMail$Rows.add -/
def p2_s108 : ck_Sum := ((0, 0, 0), 245, [.inr (.inr (.inl 17))], ([], [], []), ([(17, 3, 3)], []), [(.inr (some (.inl (0, 7, []))), 245, ([], [], [(17, 3, 3, (1, 8, []))])), (.inr (some (.inl (ck_one (-1)))), 245, ([], [], [(17, 3, 3, ck_one 8)]))])
set_option maxRecDepth 100000 in
theorem p2_s108_e : ck_ok p2_O none [] [] 102 [] 102 p2_s108 = true := by decide +kernel
theorem p2_s108_s {X : Int → Int} {LX : Nat} : ck_Ok p2_O X LX 102 p2_s108 := ck_ok_s ⟨p2_nmu, ck_E0⟩ ck_X0 ck_l0 p2_s108_e
set_option maxRecDepth 100000 in
/-- GlacierMail$Rows.put -/
def p2_s109 : ck_Sum := ((0, 0, 0), 245, [.inr (.inr (.inl 17)), .inl (0, 7, []), .inl (ck_one 0), .inl (0, 98, [])], ([], [], []), ([(18, 0, 0), (18, 7, 7), (18, 14, 14), (18, 21, 21), (18, 28, 28), (18, 35, 35), (18, 42, 42), (18, 49, 49)], []), [(.inr none, 245, ([], [], []))])
set_option maxRecDepth 100000 in
theorem p2_s109_e : ck_ok p2_O none [] [] 45 [] 116 p2_s109 = true := by decide +kernel
theorem p2_s109_s {X : Int → Int} {LX : Nat} : ck_Ok p2_O X LX 45 p2_s109 := ck_ok_s ⟨p2_nmu, ck_E0⟩ ck_X0 ck_l0 p2_s109_e
set_option maxRecDepth 100000 in
/-- GlacierMail$Rows.put -/
def p2_s117 : ck_Sum := ((0, 0, 0), 245, [.inr (.inr (.inl 17)), .inl (ck_one (-1)), .inl (ck_one 0), .inl (0, 98, [])], ([], [], []), ([], []), [(.inr none, 245, ([], [], []))])
set_option maxRecDepth 100000 in
theorem p2_s117_e : ck_ok p2_O none [] [] 45 [] 76 p2_s117 = true := by decide +kernel
theorem p2_s117_s {X : Int → Int} {LX : Nat} : ck_Ok p2_O X LX 45 p2_s117 := ck_ok_s ⟨p2_nmu, ck_E0⟩ ck_X0 ck_l0 p2_s117_e
set_option maxRecDepth 100000 in
/-- GlacierMail$Rows.put -/
def p2_s126 : ck_Sum := ((0, 0, 0), 245, [.inr (.inr (.inl 17)), .inl (0, 7, []), .inl (ck_one 0), .inl (ck_one 0)], ([], [], []), ([(18, 0, 0), (18, 7, 7), (18, 14, 14), (18, 21, 21), (18, 28, 28), (18, 35, 35), (18, 42, 42), (18, 49, 49)], []), [(.inr none, 245, ([], [], []))])
set_option maxRecDepth 100000 in
theorem p2_s126_e : ck_ok p2_O none [] [] 45 [] 116 p2_s126 = true := by decide +kernel
theorem p2_s126_s {X : Int → Int} {LX : Nat} : ck_Ok p2_O X LX 45 p2_s126 := ck_ok_s ⟨p2_nmu, ck_E0⟩ ck_X0 ck_l0 p2_s126_e
set_option maxRecDepth 100000 in
/-- GlacierMail$Rows.put -/
def p2_s127 : ck_Sum := ((0, 0, 0), 245, [.inr (.inr (.inl 17)), .inl (ck_one (-1)), .inl (ck_one 0), .inl (ck_one 0)], ([], [], []), ([], []), [(.inr none, 245, ([], [], []))])
set_option maxRecDepth 100000 in
theorem p2_s127_e : ck_ok p2_O none [] [] 45 [] 76 p2_s127 = true := by decide +kernel
theorem p2_s127_s {X : Int → Int} {LX : Nat} : ck_Ok p2_O X LX 45 p2_s127 := ck_ok_s ⟨p2_nmu, ck_E0⟩ ck_X0 ck_l0 p2_s127_e
set_option maxRecDepth 100000 in
/-- GlacierMail$Rows.put -/
def p2_s129 : ck_Sum := ((0, 0, 0), 245, [.inr (.inr (.inl 17)), .inl (0, 7, []), .inl (ck_one 0), .inl (1, 98, [])], ([], [], []), ([(18, 0, 0), (18, 7, 7), (18, 14, 14), (18, 21, 21), (18, 28, 28), (18, 35, 35), (18, 42, 42), (18, 49, 49)], []), [(.inr none, 245, ([], [], []))])
set_option maxRecDepth 100000 in
theorem p2_s129_e : ck_ok p2_O none [] [] 45 [] 116 p2_s129 = true := by decide +kernel
theorem p2_s129_s {X : Int → Int} {LX : Nat} : ck_Ok p2_O X LX 45 p2_s129 := ck_ok_s ⟨p2_nmu, ck_E0⟩ ck_X0 ck_l0 p2_s129_e
set_option maxRecDepth 100000 in
/-- GlacierMail$Rows.put -/
def p2_s130 : ck_Sum := ((0, 0, 0), 245, [.inr (.inr (.inl 17)), .inl (ck_one (-1)), .inl (ck_one 0), .inl (1, 98, [])], ([], [], []), ([], []), [(.inr none, 245, ([], [], []))])
set_option maxRecDepth 100000 in
theorem p2_s130_e : ck_ok p2_O none [] [] 45 [] 76 p2_s130 = true := by decide +kernel
theorem p2_s130_s {X : Int → Int} {LX : Nat} : ck_Ok p2_O X LX 45 p2_s130 := ck_ok_s ⟨p2_nmu, ck_E0⟩ ck_X0 ck_l0 p2_s130_e
set_option maxRecDepth 100000 in
/-- GlacierMail$Rows.put -/
def p2_s115 : ck_Sum := ((0, 0, 0), 245, [.inr (.inr (.inl 17)), .inl (0, 7, []), .inl (1, 6, []), .inl (0, 20, [])], ([], [], []), ([(18, 1, 6), (18, 8, 13), (18, 15, 20), (18, 22, 27), (18, 29, 34), (18, 36, 41), (18, 43, 48), (18, 50, 55)], []), [(.inr none, 245, ([], [], []))])
set_option maxRecDepth 100000 in
theorem p2_s115_e : ck_ok p2_O none [] [] 45 [] 116 p2_s115 = true := by decide +kernel
theorem p2_s115_s {X : Int → Int} {LX : Nat} : ck_Ok p2_O X LX 45 p2_s115 := ck_ok_s ⟨p2_nmu, ck_E0⟩ ck_X0 ck_l0 p2_s115_e
set_option maxRecDepth 100000 in
/-- GlacierMail$ValleyReader.readSpeeds -/
def p2_s116 : ck_Sum := ((3, 0, 0), 245, [.inr (.inr (.inl 213)), .inr (.inr (.inl 17)), .inl (0, 7, []), .inl (ck_one 1)], ([], [], [(214, 3, 3, (0, 400, [(12, 0)]))]), ([(18, 1, 6), (18, 8, 13), (18, 15, 20), (18, 22, 27), (18, 29, 34), (18, 36, 41), (18, 43, 48), (18, 50, 55), (214, 3, 7)], []), [(.inr (some (.inl (ck_one 1))), 245, ([], [], [(214, 3, 3, (0, 400, [(1000012, 0)]))])), (.inr (some (.inl (ck_one 0))), 245, ([], [], [(214, 5, 5, (0, 400, [])), (214, 3, 3, (0, 400, [(1000012, 0)]))]))])
set_option maxRecDepth 100000 in
theorem p2_s116_e : ck_ok p2_O none [] [(94, [p2_s34]), (45, [p2_s115])] 109 [(3, [some (.inr (.inr (.inl 213))), some (.inr (.inr (.inl 17))), some (.inl (0, 7, [])), some (.inl (ck_one 1)), some (.inl (0, 6, [])), none], ([], [], [(214, 3, 3, (0, 400, [(1000012, 0)]))]), 100, .inl 4, true)] 186 p2_s116 = true := by decide +kernel
theorem p2_s116_s {X : Int → Int} {LX : Nat} : ck_Ok p2_O X LX 109 p2_s116 := ck_ok_s ⟨p2_nmu, ck_E1 (ck_S1 p2_s34_s ck_S0) (ck_E1 (ck_S1 p2_s115_s ck_S0) ck_E0)⟩ ck_X0 ck_l0 p2_s116_e
set_option maxRecDepth 100000 in
/-- GlacierMail$Rows.put -/
def p2_s123 : ck_Sum := ((0, 0, 0), 245, [.inr (.inr (.inl 17)), .inl (ck_one (-1)), .inl (1, 6, []), .inl (0, 20, [])], ([], [], []), ([], []), [(.inr none, 245, ([], [], []))])
set_option maxRecDepth 100000 in
theorem p2_s123_e : ck_ok p2_O none [] [] 45 [] 76 p2_s123 = true := by decide +kernel
theorem p2_s123_s {X : Int → Int} {LX : Nat} : ck_Ok p2_O X LX 45 p2_s123 := ck_ok_s ⟨p2_nmu, ck_E0⟩ ck_X0 ck_l0 p2_s123_e
set_option maxRecDepth 100000 in
/-- GlacierMail$ValleyReader.readSpeeds -/
def p2_s124 : ck_Sum := ((3, 0, 0), 245, [.inr (.inr (.inl 213)), .inr (.inr (.inl 17)), .inl (ck_one (-1)), .inl (ck_one 1)], ([], [], [(214, 3, 3, (0, 400, [(12, 0)]))]), ([(214, 3, 7)], []), [(.inr (some (.inl (ck_one 1))), 245, ([], [], [(214, 3, 3, (0, 400, [(1000012, 0)]))])), (.inr (some (.inl (ck_one 0))), 245, ([], [], [(214, 5, 5, (0, 400, [])), (214, 3, 3, (0, 400, [(1000012, 0)]))]))])
set_option maxRecDepth 100000 in
theorem p2_s124_e : ck_ok p2_O none [] [(94, [p2_s34]), (45, [p2_s123])] 109 [(3, [some (.inr (.inr (.inl 213))), some (.inr (.inr (.inl 17))), some (.inl (ck_one (-1))), some (.inl (ck_one 1)), some (.inl (0, 6, [])), none], ([], [], [(214, 3, 3, (0, 400, [(1000012, 0)]))]), 100, .inl 4, true)] 186 p2_s124 = true := by decide +kernel
theorem p2_s124_s {X : Int → Int} {LX : Nat} : ck_Ok p2_O X LX 109 p2_s124 := ck_ok_s ⟨p2_nmu, ck_E1 (ck_S1 p2_s34_s ck_S0) (ck_E1 (ck_S1 p2_s123_s ck_S0) ck_E0)⟩ ck_X0 ck_l0 p2_s124_e
set_option maxRecDepth 100000 in
/-- GlacierMail$ValleyReader.readSection -/
def p2_s132 : ck_Sum := ((4, 0, 0), 245, [.inr (.inr (.inl 213))], ([], [], [(214, 3, 3, (0, 400, [(12, 0)]))]), ([(17, 3, 3), (18, 0, 55), (214, 3, 7)], []), [(.inr (some (.inl (ck_one 0))), 245, ([], [], [(214, 5, 5, (0, 400, [])), (214, 3, 3, (0, 400, [(1000012, 0)]))])), (.inr (some (.inl (ck_one 1))), 245, ([], [], [(214, 3, 3, (0, 400, [(1000012, 0)])), (17, 3, 3, (1, 8, []))]))])
set_option maxRecDepth 100000 in
theorem p2_s132_e : ck_ok p2_O none [] [(108, [p2_s105]), (76, [p2_s19]), (9, [p2_s106]), (10, [p2_s107]), (94, [p2_s53, p2_s125, p2_s128, p2_s131]), (102, [p2_s108]), (45, [p2_s109, p2_s117, p2_s126, p2_s127, p2_s129, p2_s130]), (109, [p2_s116, p2_s124]), (93, [p2_s31])] 107 [] 188 p2_s132 = true := by decide +kernel
theorem p2_s132_s {X : Int → Int} {LX : Nat} : ck_Ok p2_O X LX 107 p2_s132 := ck_ok_s ⟨p2_nmu, ck_E1 (ck_S1 p2_s105_s ck_S0) (ck_E1 (ck_S1 p2_s19_s ck_S0) (ck_E1 (ck_S1 p2_s106_s ck_S0) (ck_E1 (ck_S1 p2_s107_s ck_S0) (ck_E1 (ck_S1 p2_s53_s (ck_S1 p2_s125_s (ck_S1 p2_s128_s (ck_S1 p2_s131_s ck_S0)))) (ck_E1 (ck_S1 p2_s108_s ck_S0) (ck_E1 (ck_S1 p2_s109_s (ck_S1 p2_s117_s (ck_S1 p2_s126_s (ck_S1 p2_s127_s (ck_S1 p2_s129_s (ck_S1 p2_s130_s ck_S0)))))) (ck_E1 (ck_S1 p2_s116_s (ck_S1 p2_s124_s ck_S0)) (ck_E1 (ck_S1 p2_s31_s ck_S0) ck_E0))))))))⟩ ck_X0 ck_l0 p2_s132_e
set_option maxRecDepth 100000 in
/-- GlacierMail$Rows.size -/
def p2_s133 : ck_Sum := ((0, 0, 0), 245, [.inr (.inr (.inl 19))], ([], [], []), ([], []), [(.inr (some (.inl (0, 8, []))), 245, ([], [], []))])
set_option maxRecDepth 100000 in
theorem p2_s133_e : ck_ok p2_O none [] [] 9 [] 76 p2_s133 = true := by decide +kernel
theorem p2_s133_s {X : Int → Int} {LX : Nat} : ck_Ok p2_O X LX 9 p2_s133 := ck_ok_s ⟨p2_nmu, ck_E0⟩ ck_X0 ck_l0 p2_s133_e
set_option maxRecDepth 100000 in
/-- GlacierMail$Rows.size -/
def p2_s134 : ck_Sum := ((0, 0, 0), 245, [.inr (.inr (.inl 21))], ([], [], []), ([], []), [(.inr (some (.inl (0, 8, []))), 245, ([], [], []))])
set_option maxRecDepth 100000 in
theorem p2_s134_e : ck_ok p2_O none [] [] 9 [] 76 p2_s134 = true := by decide +kernel
theorem p2_s134_s {X : Int → Int} {LX : Nat} : ck_Ok p2_O X LX 9 p2_s134 := ck_ok_s ⟨p2_nmu, ck_E0⟩ ck_X0 ck_l0 p2_s134_e
set_option maxRecDepth 100000 in
/-- GlacierMail$Rows.size -/
def p2_s135 : ck_Sum := ((0, 0, 0), 245, [.inr (.inr (.inl 23))], ([], [], []), ([], []), [(.inr (some (.inl (0, 24, []))), 245, ([], [], []))])
set_option maxRecDepth 100000 in
theorem p2_s135_e : ck_ok p2_O none [] [] 9 [] 76 p2_s135 = true := by decide +kernel
theorem p2_s135_s {X : Int → Int} {LX : Nat} : ck_Ok p2_O X LX 9 p2_s135 := ck_ok_s ⟨p2_nmu, ck_E0⟩ ck_X0 ck_l0 p2_s135_e
set_option maxRecDepth 100000 in
/-- GlacierMail$Rows.size -/
def p2_s136 : ck_Sum := ((0, 0, 0), 245, [.inr (.inr (.inl 25))], ([], [], []), ([], []), [(.inr (some (.inl (0, 6, []))), 245, ([], [], []))])
set_option maxRecDepth 100000 in
theorem p2_s136_e : ck_ok p2_O none [] [] 9 [] 76 p2_s136 = true := by decide +kernel
theorem p2_s136_s {X : Int → Int} {LX : Nat} : ck_Ok p2_O X LX 9 p2_s136 := ck_ok_s ⟨p2_nmu, ck_E0⟩ ck_X0 ck_l0 p2_s136_e
set_option maxRecDepth 100000 in
/-- GlacierMail$State.isEmpty -/
def p2_s137 : ck_Sum := ((1, 0, 0), 245, [.inr (.inr (.inl 16))], ([], [], []), ([], []), [(.inr (some (.inl (ck_one 0))), 245, ([], [], [])), (.inr (some (.inl (ck_one 1))), 245, ([], [], []))])
set_option maxRecDepth 100000 in
theorem p2_s137_e : ck_ok p2_O none [] [(9, [p2_s106, p2_s133, p2_s134, p2_s135, p2_s136])] 105 [] 116 p2_s137 = true := by decide +kernel
theorem p2_s137_s {X : Int → Int} {LX : Nat} : ck_Ok p2_O X LX 105 p2_s137 := ck_ok_s ⟨p2_nmu, ck_E1 (ck_S1 p2_s106_s (ck_S1 p2_s133_s (ck_S1 p2_s134_s (ck_S1 p2_s135_s (ck_S1 p2_s136_s ck_S0))))) ck_E0⟩ ck_X0 ck_l0 p2_s137_e
set_option maxRecDepth 100000 in
/-- GlacierMail$Words.needNumber -/
def p2_s138 : ck_Sum := ((2, 0, 0), 245, [.inr (.inr (.inl 214)), .inl (ck_one 10), .inl (ck_one 99)], ([], [], [(214, 3, 3, (0, 400, [(12, 0)]))]), ([(214, 3, 7)], []), [(.inr (some (.inl (ck_one (-1)))), 245, ([], [], [(214, 5, 5, (0, 400, [])), (214, 3, 3, (0, 400, [(12, 0)]))])), (.inr (some (.inl (10, 99, []))), 245, ([], [], [(214, 3, 3, (0, 400, [(1000012, 0)]))]))])
set_option maxRecDepth 100000 in
theorem p2_s138_e : ck_ok p2_O none [] [(93, [p2_s31]), (76, [p2_s19])] 94 [] 106 p2_s138 = true := by decide +kernel
theorem p2_s138_s {X : Int → Int} {LX : Nat} : ck_Ok p2_O X LX 94 p2_s138 := ck_ok_s ⟨p2_nmu, ck_E1 (ck_S1 p2_s31_s ck_S0) (ck_E1 (ck_S1 p2_s19_s ck_S0) ck_E0)⟩ ck_X0 ck_l0 p2_s138_e
set_option maxRecDepth 100000 in
/-- GlacierMail$ValleyReader.readLast -/
def p2_s139 : ck_Sum := ((3, 0, 0), 245, [.inr (.inr (.inl 213))], ([], [], [(214, 3, 3, (0, 400, [(12, 0)]))]), ([(16, 1, 2), (214, 3, 7)], []), [(.inr (some (.inl (ck_one 0))), 245, ([], [], [(214, 5, 5, (0, 400, [])), (214, 3, 3, (0, 400, [(1000012, 0)]))])), (.inr (some (.inl (ck_one 1))), 245, ([], [], [(16, 2, 2, ck_one 10), (214, 3, 3, (0, 400, [(1000012, 0)]))]))])
set_option maxRecDepth 100000 in
theorem p2_s139_e : ck_ok p2_O none [] [(105, [p2_s137]), (93, [p2_s31]), (76, [p2_s19]), (94, [p2_s138])] 106 [] 122 p2_s139 = true := by decide +kernel
theorem p2_s139_s {X : Int → Int} {LX : Nat} : ck_Ok p2_O X LX 106 p2_s139 := ck_ok_s ⟨p2_nmu, ck_E1 (ck_S1 p2_s137_s ck_S0) (ck_E1 (ck_S1 p2_s31_s ck_S0) (ck_E1 (ck_S1 p2_s19_s ck_S0) (ck_E1 (ck_S1 p2_s138_s ck_S0) ck_E0)))⟩ ck_X0 ck_l0 p2_s139_e
set_option maxRecDepth 100000 in
/-- GlacierMail$Words.needNumber -/
def p2_s140 : ck_Sum := ((2, 0, 0), 245, [.inr (.inr (.inl 214)), .inl (ck_one 1), .inl (ck_one 6)], ([], [], [(214, 3, 3, (0, 400, [(12, 0)]))]), ([(214, 3, 7)], []), [(.inr (some (.inl (ck_one (-1)))), 245, ([], [], [(214, 5, 5, (0, 400, [])), (214, 3, 3, (0, 400, [(12, 0)]))])), (.inr (some (.inl (1, 6, []))), 245, ([], [], [(214, 3, 3, (0, 400, [(1000012, 0)]))]))])
set_option maxRecDepth 100000 in
theorem p2_s140_e : ck_ok p2_O none [] [(93, [p2_s31]), (76, [p2_s19])] 94 [] 106 p2_s140 = true := by decide +kernel
theorem p2_s140_s {X : Int → Int} {LX : Nat} : ck_Ok p2_O X LX 94 p2_s140 := ck_ok_s ⟨p2_nmu, ck_E1 (ck_S1 p2_s31_s ck_S0) (ck_E1 (ck_S1 p2_s19_s ck_S0) ck_E0)⟩ ck_X0 ck_l0 p2_s140_e
set_option maxRecDepth 100000 in
/-- GlacierMail$ValleyReader.readLanes -/
def p2_s141 : ck_Sum := ((3, 0, 0), 245, [.inr (.inr (.inl 213))], ([], [], [(214, 3, 3, (0, 400, [(12, 0)]))]), ([(16, 0, 0), (16, 4, 4), (214, 3, 7)], []), [(.inr (some (.inl (ck_one 0))), 245, ([], [], [(214, 5, 5, (0, 400, [])), (214, 3, 3, (0, 400, [(1000012, 0)]))])), (.inr (some (.inl (ck_one 1))), 245, ([], [], [(16, 4, 4, (1, 6, [])), (214, 3, 3, (0, 400, [(1000012, 0)]))]))])
set_option maxRecDepth 100000 in
theorem p2_s141_e : ck_ok p2_O none [] [(105, [p2_s137]), (93, [p2_s31]), (76, [p2_s19]), (94, [p2_s140])] 104 [] 122 p2_s141 = true := by decide +kernel
theorem p2_s141_s {X : Int → Int} {LX : Nat} : ck_Ok p2_O X LX 104 p2_s141 := ck_ok_s ⟨p2_nmu, ck_E1 (ck_S1 p2_s137_s ck_S0) (ck_E1 (ck_S1 p2_s31_s ck_S0) (ck_E1 (ck_S1 p2_s19_s ck_S0) (ck_E1 (ck_S1 p2_s140_s ck_S0) ck_E0)))⟩ ck_X0 ck_l0 p2_s141_e
set_option maxRecDepth 100000 in
/-- GlacierMail$Words.needSign -/
def p2_s144 : ck_Sum := ((2, 0, 0), 245, [.inr (.inr (.inl 214)), .inl (ck_one 59)], ([], [], [(214, 3, 3, (0, 400, [(12, 0)]))]), ([(214, 3, 7)], []), [(.inr (some (.inl (ck_one 1))), 245, ([], [], [(214, 3, 3, (0, 400, [(1000012, 0)]))])), (.inr (some (.inl (ck_one 0))), 245, ([], [], [(214, 5, 5, (0, 400, [])), (214, 3, 3, (0, 400, [(12, 0)]))]))])
set_option maxRecDepth 100000 in
theorem p2_s144_e : ck_ok p2_O none [] [(76, [p2_s19]), (93, [p2_s31])] 98 [] 86 p2_s144 = true := by decide +kernel
theorem p2_s144_s {X : Int → Int} {LX : Nat} : ck_Ok p2_O X LX 98 p2_s144 := ck_ok_s ⟨p2_nmu, ck_E1 (ck_S1 p2_s19_s ck_S0) (ck_E1 (ck_S1 p2_s31_s ck_S0) ck_E0)⟩ ck_X0 ck_l0 p2_s144_e
set_option maxRecDepth 100000 in
/-- GlacierMail$Ice.reckonHeats -/
def p2_s153 : ck_Sum := ((0, 0, 0), 245, [.inr (.inr (.inl 200))], ([], [], []), ([(201, 0, 299)], []), [(.inr none, 245, ([], [], []))])
set_option maxRecDepth 100000 in
theorem p2_s153_e : ck_ok p2_O none [] [] 6 [(10, [some (.inr (.inr (.inl 200))), some (.inl ((-2147483648), 2147483647, [])), some (.inl (0, 300, []))], ([], [], []), 100, .inl 2, true)] 182 p2_s153 = true := by decide +kernel
theorem p2_s153_s {X : Int → Int} {LX : Nat} : ck_Ok p2_O X LX 6 p2_s153 := ck_ok_s ⟨p2_nmu, ck_E0⟩ ck_X0 ck_l0 p2_s153_e
set_option maxRecDepth 100000 in
/-- java/util/Arrays.fill -/
def p2_s154 : ck_Sum := ((0, 0, 0), 245, [.inr (.inr (.inl 202)), .inl (ck_one 0)], ([], [], []), ([(202, 0, 593)], []), [(.inr none, 245, ([], [], []))])
set_option maxRecDepth 100000 in
theorem p2_s154_e : ck_ok p2_O none [] [] 8 [(5, [some (.inr (.inr (.inl 202))), some (.inl (ck_one 0)), some (.inl (0, 594, [])), some (.inl (ck_one 594))], ([], [], []), 100, .inl 2, true)] 130 p2_s154 = true := by decide +kernel
theorem p2_s154_s {X : Int → Int} {LX : Nat} : ck_Ok p2_O X LX 8 p2_s154 := ck_ok_s ⟨p2_nmu, ck_E0⟩ ck_X0 ck_l0 p2_s154_e
set_option maxRecDepth 100000 in
/-- GlacierMail$Rows.size -/
def p2_s155 : ck_Sum := ((0, 0, 0), 245, [.inr (.inr (.inl 4))], ([], [], []), ([], []), [(.inr (some (.inl (0, 8, []))), 245, ([], [], []))])
set_option maxRecDepth 100000 in
theorem p2_s155_e : ck_ok p2_O none [] [] 9 [] 76 p2_s155 = true := by decide +kernel
theorem p2_s155_s {X : Int → Int} {LX : Nat} : ck_Ok p2_O X LX 9 p2_s155 := ck_ok_s ⟨p2_nmu, ck_E0⟩ ck_X0 ck_l0 p2_s155_e
set_option maxRecDepth 100000 in
/-- GlacierMail$Rows.get -/
def p2_s156 : ck_Sum := ((0, 0, 0), 245, [.inr (.inr (.inl 4)), .inl ((-2147483648), 2147483647, []), .inl ((-2147483648), 2147483647, [])], ([], [], []), ([], []), [(.inr (some (.inl (ck_one (-1)))), 245, ([], [], [])), (.inr (some (.inl (0, 98, []))), 245, ([], [], [(4, 3, 3, (1, 8, []))]))])
set_option maxRecDepth 100000 in
theorem p2_s156_e : ck_ok p2_O none [] [] 10 [] 114 p2_s156 = true := by decide +kernel
theorem p2_s156_s {X : Int → Int} {LX : Nat} : ck_Ok p2_O X LX 10 p2_s156 := ck_ok_s ⟨p2_nmu, ck_E0⟩ ck_X0 ck_l0 p2_s156_e
set_option maxRecDepth 100000 in
/-- GlacierMail$Ice.reckonSpeeds -/
def p2_s157 : ck_Sum := ((1, 0, 0), 245, [.inr (.inr (.inl 200))], ([], [], []), ([(202, 0, 593)], []), [(.inr none, 245, ([], [], []))])
set_option maxRecDepth 100000 in
theorem p2_s157_e : ck_ok p2_O none [] [(8, [p2_s154]), (9, [p2_s155]), (10, [p2_s156])] 7 [(10, [some (.inr (.inr (.inl 200))), some (.inl (0, 9, [])), none, none, none, none], ([], [], []), 100, .inl 1, true), (43, [some (.inr (.inr (.inl 200))), some (.inl (0, 7, [(100, 0)])), some (.inl (0, 98, [])), some (.inl (0, 6, [])), none, none], ([], [], []), 300, .inl 3, true), (79, [some (.inr (.inr (.inl 200))), some (.inl (0, 7, [(100, 0)])), some (.inl (0, 98, [])), some (.inl (0, 5, [(300, 0)])), some (.inl ((-1), 98, [])), some (.inl (0, 99, []))], ([], [], []), 500, .inl 5, true)] 290 p2_s157 = true := by decide +kernel
theorem p2_s157_s {X : Int → Int} {LX : Nat} : ck_Ok p2_O X LX 7 p2_s157 := ck_ok_s ⟨p2_nmu, ck_E1 (ck_S1 p2_s154_s ck_S0) (ck_E1 (ck_S1 p2_s155_s ck_S0) (ck_E1 (ck_S1 p2_s156_s ck_S0) ck_E0))⟩ ck_X0 ck_l0 p2_s157_e
set_option maxRecDepth 100000 in
/-- java/util/Arrays.fill -/
def p2_s158 : ck_Sum := ((0, 0, 0), 245, [.inr (.inr (.inl 203)), .inl (ck_one 0)], ([], [], []), ([(203, 0, 299)], []), [(.inr none, 245, ([], [], []))])
set_option maxRecDepth 100000 in
theorem p2_s158_e : ck_ok p2_O none [] [] 8 [(5, [some (.inr (.inr (.inl 203))), some (.inl (ck_one 0)), some (.inl (0, 300, [])), some (.inl (ck_one 300))], ([], [], []), 100, .inl 2, true)] 130 p2_s158 = true := by decide +kernel
theorem p2_s158_s {X : Int → Int} {LX : Nat} : ck_Ok p2_O X LX 8 p2_s158 := ck_ok_s ⟨p2_nmu, ck_E0⟩ ck_X0 ck_l0 p2_s158_e
set_option maxRecDepth 100000 in
/-- GlacierMail$Rows.size -/
def p2_s159 : ck_Sum := ((0, 0, 0), 245, [.inr (.inr (.inl 6))], ([], [], []), ([], []), [(.inr (some (.inl (0, 8, []))), 245, ([], [], []))])
set_option maxRecDepth 100000 in
theorem p2_s159_e : ck_ok p2_O none [] [] 9 [] 76 p2_s159 = true := by decide +kernel
theorem p2_s159_s {X : Int → Int} {LX : Nat} : ck_Ok p2_O X LX 9 p2_s159 := ck_ok_s ⟨p2_nmu, ck_E0⟩ ck_X0 ck_l0 p2_s159_e
set_option maxRecDepth 100000 in
/-- GlacierMail$Rows.get -/
def p2_s160 : ck_Sum := ((0, 0, 0), 245, [.inr (.inr (.inl 6)), .inl ((-2147483648), 2147483647, []), .inl ((-2147483648), 2147483647, [])], ([], [], []), ([], []), [(.inr (some (.inl (ck_one (-1)))), 245, ([], [], [])), (.inr (some (.inl (0, 299, []))), 245, ([], [], [(6, 3, 3, (1, 8, []))]))])
set_option maxRecDepth 100000 in
theorem p2_s160_e : ck_ok p2_O none [] [] 10 [] 114 p2_s160 = true := by decide +kernel
theorem p2_s160_s {X : Int → Int} {LX : Nat} : ck_Ok p2_O X LX 10 p2_s160 := ck_ok_s ⟨p2_nmu, ck_E0⟩ ck_X0 ck_l0 p2_s160_e
set_option maxRecDepth 100000 in
/-- GlacierMail$Ice.reckonFloods -/
def p2_s161 : ck_Sum := ((1, 0, 0), 245, [.inr (.inr (.inl 200))], ([], [], []), ([(203, 0, 299)], []), [(.inr none, 245, ([], [], []))])
set_option maxRecDepth 100000 in
theorem p2_s161_e : ck_ok p2_O none [] [(8, [p2_s158]), (9, [p2_s159]), (10, [p2_s160])] 12 [(10, [some (.inr (.inr (.inl 200))), some (.inl (0, 9, [])), none], ([], [], []), 100, .inl 1, true)] 214 p2_s161 = true := by decide +kernel
theorem p2_s161_s {X : Int → Int} {LX : Nat} : ck_Ok p2_O X LX 12 p2_s161 := ck_ok_s ⟨p2_nmu, ck_E1 (ck_S1 p2_s158_s ck_S0) (ck_E1 (ck_S1 p2_s159_s ck_S0) (ck_E1 (ck_S1 p2_s160_s ck_S0) ck_E0))⟩ ck_X0 ck_l0 p2_s161_e
set_option maxRecDepth 100000 in
/-- GlacierMail$Ice.renew -/
def p2_s162 : ck_Sum := ((2, 0, 0), 245, [.inr (.inr (.inl 200))], ([], [], []), ([(200, 6, 6), (201, 0, 299), (202, 0, 593), (203, 0, 299)], []), [(.inr none, 245, ([], [], []))])
set_option maxRecDepth 100000 in
theorem p2_s162_e : ck_ok p2_O none [] [(6, [p2_s153]), (7, [p2_s157]), (12, [p2_s161])] 5 [] 90 p2_s162 = true := by decide +kernel
theorem p2_s162_s {X : Int → Int} {LX : Nat} : ck_Ok p2_O X LX 5 p2_s162 := ck_ok_s ⟨p2_nmu, ck_E1 (ck_S1 p2_s153_s ck_S0) (ck_E1 (ck_S1 p2_s157_s ck_S0) (ck_E1 (ck_S1 p2_s161_s ck_S0) ck_E0))⟩ ck_X0 ck_l0 p2_s162_e
set_option maxRecDepth 100000 in
/-- GlacierMail$History.forget -/
def p2_s163 : ck_Sum := ((0, 0, 0), 245, [.inr (.inr (.inl 42))], ([], [], []), ([(42, 2, 2)], []), [(.inr none, 245, ([], [], [(42, 2, 2, ck_one 0)]))])
set_option maxRecDepth 100000 in
theorem p2_s163_e : ck_ok p2_O none [] [] 62 [] 78 p2_s163 = true := by decide +kernel
theorem p2_s163_s {X : Int → Int} {LX : Nat} : ck_Ok p2_O X LX 62 p2_s163 := ck_ok_s ⟨p2_nmu, ck_E0⟩ ck_X0 ck_l0 p2_s163_e
set_option maxRecDepth 100000 in
/-- GlacierMail.forgetWays -/
def p2_s164 : ck_Sum := ((3, 0, 0), 245, [.inr (.inr (.inl 1))], ([], [], []), ([(1, 15, 15), (42, 2, 2), (200, 6, 6), (201, 0, 299), (202, 0, 593), (203, 0, 299)], []), [(.inr none, 245, ([], [], [(1, 15, 15, ck_one 0), (42, 2, 2, ck_one 0)]))])
set_option maxRecDepth 100000 in
theorem p2_s164_e : ck_ok p2_O none [] [(5, [p2_s162]), (62, [p2_s163])] 61 [] 90 p2_s164 = true := by decide +kernel
theorem p2_s164_s {X : Int → Int} {LX : Nat} : ck_Ok p2_O X LX 61 p2_s164 := ck_ok_s ⟨p2_nmu, ck_E1 (ck_S1 p2_s162_s ck_S0) (ck_E1 (ck_S1 p2_s163_s ck_S0) ck_E0)⟩ ck_X0 ck_l0 p2_s164_e
set_option maxRecDepth 100000 in
/-- GlacierMailModel.uses -/
def p2_s166 : ck_Sum := ((0, 0, 0), 245, [.inr (.inr (.inl 226))], ([], [], [(226, 8, 8, (0, 400, [(7, 0)]))]), ([(226, 0, 0), (226, 8, 10)], []), [(.inr none, 245, ([], [], [(226, 9, 9, ck_one 0), (226, 8, 8, ck_one 0), (226, 10, 10, (0, 400, [(7, 0)])), (226, 0, 0, ck_one 0)]))])
set_option maxRecDepth 100000 in
theorem p2_s166_e : ck_ok p2_O none [] [] 244 [] 98 p2_s166 = true := by decide +kernel
theorem p2_s166_s {X : Int → Int} {LX : Nat} : ck_Ok p2_O X LX 244 p2_s166 := ck_ok_s ⟨p2_nmu, ck_E0⟩ ck_X0 ck_l0 p2_s166_e
set_option maxRecDepth 100000 in
/-- GlacierMailModel.isAt -/
def p2_s167 : ck_Sum := ((0, 0, 0), 245, [.inr (.inr (.inl 226)), .inl (ck_one 32), .inl (ck_one 32)], ([], [], [(226, 9, 9, (0, 400, [(1, 0)]))]), ([], []), [(.inr (some (.inl (ck_one 0))), 245, ([], [], [])), (.inr (some (.inl (ck_one 1))), 245, ([], [], [(226, 10, 10, (1, 400, [])), (226, 9, 9, (0, 399, [(1, 0)]))]))])
set_option maxRecDepth 100000 in
theorem p2_s167_e : ck_ok p2_O none [] [] 246 [] 114 p2_s167 = true := by decide +kernel
theorem p2_s167_s {X : Int → Int} {LX : Nat} : ck_Ok p2_O X LX 246 p2_s167 := ck_ok_s ⟨p2_nmu, ck_E0⟩ ck_X0 ck_l0 p2_s167_e
set_option maxRecDepth 100000 in
/-- GlacierMailModel.blanks -/
def p2_s168 : ck_Sum := ((1, 0, 0), 245, [.inr (.inr (.inl 226))], ([], [], [(226, 9, 9, (0, 400, [(1, 0)]))]), ([(226, 9, 9), (226, 11, 11)], []), [(.inr none, 245, ([], [], [(226, 11, 11, (0, 400, [(1000001, 0)])), (226, 9, 9, (0, 400, [(1000001, 0)]))]))])
set_option maxRecDepth 100000 in
theorem p2_s168_e : ck_ok p2_O none [] [(246, [p2_s167])] 245 [(0, [some (.inr (.inr (.inl 226)))], ([], [], [(226, 9, 9, (0, 400, [(1000001, 0)]))]), 100, .inr (226, 9), true)] 142 p2_s168 = true := by decide +kernel
theorem p2_s168_s {X : Int → Int} {LX : Nat} : ck_Ok p2_O X LX 245 p2_s168 := ck_ok_s ⟨p2_nmu, ck_E1 (ck_S1 p2_s167_s ck_S0) ck_E0⟩ ck_X0 ck_l0 p2_s168_e
set_option maxRecDepth 100000 in
/-- GlacierMailModel.isAt -/
def p2_s169 : ck_Sum := ((0, 0, 0), 245, [.inr (.inr (.inl 226)), .inl (ck_one 97), .inl (ck_one 122)], ([], [], [(226, 9, 9, (0, 400, [(1, 0)]))]), ([], []), [(.inr (some (.inl (ck_one 0))), 245, ([], [], [])), (.inr (some (.inl (ck_one 1))), 245, ([], [], [(226, 10, 10, (1, 400, [])), (226, 9, 9, (0, 399, [(1, 0)]))]))])
set_option maxRecDepth 100000 in
theorem p2_s169_e : ck_ok p2_O none [] [] 246 [] 114 p2_s169 = true := by decide +kernel
theorem p2_s169_s {X : Int → Int} {LX : Nat} : ck_Ok p2_O X LX 246 p2_s169 := ck_ok_s ⟨p2_nmu, ck_E0⟩ ck_X0 ck_l0 p2_s169_e
set_option maxRecDepth 100000 in
/-- GlacierMailModel.letterRow -/
def p2_s170 : ck_Sum := ((2, 0, 0), 245, [.inr (.inr (.inl 226))], ([], [], [(226, 9, 9, (0, 400, [(1, 0)]))]), ([(226, 9, 9), (226, 11, 11)], []), [(.inr none, 245, ([], [], [(226, 9, 9, (0, 400, [(1000001, 0)])), (226, 11, 11, (0, 400, [(1000001, 0)]))]))])
set_option maxRecDepth 100000 in
theorem p2_s170_e : ck_ok p2_O none [] [(245, [p2_s168]), (246, [p2_s169])] 248 [(4, [some (.inr (.inr (.inl 226)))], ([], [], [(226, 11, 11, (0, 400, [(1000001, 0)])), (226, 9, 9, (0, 400, [(1000001, 0)]))]), 100, .inr (226, 9), true)] 142 p2_s170 = true := by decide +kernel
theorem p2_s170_s {X : Int → Int} {LX : Nat} : ck_Ok p2_O X LX 248 p2_s170 := ck_ok_s ⟨p2_nmu, ck_E1 (ck_S1 p2_s168_s ck_S0) (ck_E1 (ck_S1 p2_s169_s ck_S0) ck_E0)⟩ ck_X0 ck_l0 p2_s170_e
set_option maxRecDepth 100000 in
/-- GlacierMailModel.isAt -/
def p2_s181 : ck_Sum := ((0, 0, 0), 245, [.inr (.inr (.inl 226)), .inl (ck_one 48), .inl (ck_one 57)], ([], [], [(226, 9, 9, (0, 400, [(1, 0)]))]), ([], []), [(.inr (some (.inl (ck_one 0))), 245, ([], [], [])), (.inr (some (.inl (ck_one 1))), 245, ([], [], [(226, 10, 10, (1, 400, [])), (226, 9, 9, (0, 399, [(1, 0)]))]))])
set_option maxRecDepth 100000 in
theorem p2_s181_e : ck_ok p2_O none [] [] 246 [] 114 p2_s181 = true := by decide +kernel
theorem p2_s181_s {X : Int → Int} {LX : Nat} : ck_Ok p2_O X LX 246 p2_s181 := ck_ok_s ⟨p2_nmu, ck_E0⟩ ck_X0 ck_l0 p2_s181_e
set_option maxRecDepth 100000 in
/-- GlacierMailModel.figures -/
def p2_s182 : ck_Sum := ((2, 0, 0), 245, [.inr (.inr (.inl 226)), .inl (ck_one 0), .inl (ck_one 9999), .inl (ck_one 4)], ([], [], [(226, 9, 9, (0, 400, [(1, 0)]))]), ([(226, 9, 9), (226, 11, 11)], []), [(.inr (some (.inl (ck_one (-1)))), 245, ([], [], [(226, 9, 9, (0, 400, [(1000001, 0)])), (226, 11, 11, (0, 400, [(1000001, 0)]))])), (.inr (some (.inl (0, 9999, []))), 245, ([], [], [(226, 9, 9, (0, 400, [(1000001, 0)])), (226, 11, 11, (0, 400, [(1000001, 0)]))]))])
set_option maxRecDepth 100000 in
theorem p2_s182_e : ck_ok p2_O none [] [(245, [p2_s168]), (246, [p2_s181])] 256 [(7, [some (.inr (.inr (.inl 226))), some (.inl (ck_one 0)), some (.inl (ck_one 9999)), some (.inl (ck_one 4)), some (.inl ((-2147483648), 2147483647, []))], ([], [], [(226, 11, 11, (0, 400, [(1000001, 0)])), (226, 9, 9, (0, 400, [(1000001, 0)]))]), 100, .inr (226, 9), true)] 222 p2_s182 = true := by decide +kernel
theorem p2_s182_s {X : Int → Int} {LX : Nat} : ck_Ok p2_O X LX 256 p2_s182 := ck_ok_s ⟨p2_nmu, ck_E1 (ck_S1 p2_s168_s ck_S0) (ck_E1 (ck_S1 p2_s181_s ck_S0) ck_E0)⟩ ck_X0 ck_l0 p2_s182_e
set_option maxRecDepth 100000 in
/-- GlacierMailModel.number -/
def p2_s183 : ck_Sum := ((3, 0, 0), 245, [.inr (.inr (.inl 226)), .inl (ck_one 0), .inl (ck_one 9999)], ([], [], [(226, 9, 9, (0, 400, [(1, 0)]))]), ([(226, 9, 9), (226, 11, 11)], []), [(.inr (some (.inl (ck_one (-1)))), 245, ([], [], [(226, 9, 9, (0, 400, [(1000001, 0)])), (226, 11, 11, (0, 400, [(1000001, 0)]))])), (.inr (some (.inl (0, 9999, []))), 245, ([], [], [(226, 9, 9, (0, 400, [(1000001, 0)])), (226, 11, 11, (0, 400, [(1000001, 0)]))]))])
set_option maxRecDepth 100000 in
theorem p2_s183_e : ck_ok p2_O none [] [(256, [p2_s182])] 255 [] 82 p2_s183 = true := by decide +kernel
theorem p2_s183_s {X : Int → Int} {LX : Nat} : ck_Ok p2_O X LX 255 p2_s183 := ck_ok_s ⟨p2_nmu, ck_E1 (ck_S1 p2_s182_s ck_S0) ck_E0⟩ ck_X0 ck_l0 p2_s183_e
set_option maxRecDepth 100000 in
/-- GlacierMailModel.figures -/
def p2_s185 : ck_Sum := ((2, 0, 0), 245, [.inr (.inr (.inl 226)), .inl (ck_one 0), .inl (1, 6, []), .inl (ck_one 4)], ([], [], [(226, 9, 9, (0, 400, [(1, 0)]))]), ([(226, 9, 9), (226, 11, 11)], []), [(.inr (some (.inl (ck_one (-1)))), 245, ([], [], [(226, 9, 9, (0, 400, [(1000001, 0)])), (226, 11, 11, (0, 400, [(1000001, 0)]))])), (.inr (some (.inl (0, 6, []))), 245, ([], [], [(226, 9, 9, (0, 400, [(1000001, 0)])), (226, 11, 11, (0, 400, [(1000001, 0)]))]))])
set_option maxRecDepth 100000 in
theorem p2_s185_e : ck_ok p2_O none [] [(245, [p2_s168]), (246, [p2_s181])] 256 [(7, [some (.inr (.inr (.inl 226))), some (.inl (ck_one 0)), some (.inl (1, 6, [])), some (.inl (ck_one 4)), some (.inl ((-2147483648), 2147483647, []))], ([], [], [(226, 11, 11, (0, 400, [(1000001, 0)])), (226, 9, 9, (0, 400, [(1000001, 0)]))]), 100, .inr (226, 9), true)] 222 p2_s185 = true := by decide +kernel
theorem p2_s185_s {X : Int → Int} {LX : Nat} : ck_Ok p2_O X LX 256 p2_s185 := ck_ok_s ⟨p2_nmu, ck_E1 (ck_S1 p2_s168_s ck_S0) (ck_E1 (ck_S1 p2_s181_s ck_S0) ck_E0)⟩ ck_X0 ck_l0 p2_s185_e
set_option maxRecDepth 100000 in
/-- GlacierMailModel.number -/
def p2_s186 : ck_Sum := ((3, 0, 0), 245, [.inr (.inr (.inl 226)), .inl (ck_one 0), .inl (1, 6, [])], ([], [], [(226, 9, 9, (0, 400, [(1, 0)]))]), ([(226, 9, 9), (226, 11, 11)], []), [(.inr (some (.inl (ck_one (-1)))), 245, ([], [], [(226, 9, 9, (0, 400, [(1000001, 0)])), (226, 11, 11, (0, 400, [(1000001, 0)]))])), (.inr (some (.inl (0, 6, []))), 245, ([], [], [(226, 9, 9, (0, 400, [(1000001, 0)])), (226, 11, 11, (0, 400, [(1000001, 0)]))]))])
set_option maxRecDepth 100000 in
theorem p2_s186_e : ck_ok p2_O none [] [(256, [p2_s185])] 255 [] 82 p2_s186 = true := by decide +kernel
theorem p2_s186_s {X : Int → Int} {LX : Nat} : ck_Ok p2_O X LX 255 p2_s186 := ck_ok_s ⟨p2_nmu, ck_E1 (ck_S1 p2_s185_s ck_S0) ck_E0⟩ ck_X0 ck_l0 p2_s186_e
set_option maxRecDepth 100000 in
/-- GlacierMailModel.lanes -/
def p2_s184 : ck_Sum := ((0, 0, 0), 245, [.inr (.inr (.inl 226))], ([], [], []), ([], []), [(.inr (some (.inl (1, 6, []))), 245, ([], [], []))])
set_option maxRecDepth 100000 in
theorem p2_s184_e : ck_ok p2_O none [] [] 261 [] 80 p2_s184 = true := by decide +kernel
theorem p2_s184_s {X : Int → Int} {LX : Nat} : ck_Ok p2_O X LX 261 p2_s184 := ck_ok_s ⟨p2_nmu, ck_E0⟩ ck_X0 ck_l0 p2_s184_e
set_option maxRecDepth 100000 in
/-- GlacierMailModel.figures -/
def p2_s187 : ck_Sum := ((2, 0, 0), 245, [.inr (.inr (.inl 226)), .inl (ck_one 0), .inl (ck_one 20), .inl (ck_one 4)], ([], [], [(226, 9, 9, (0, 400, [(1, 0)]))]), ([(226, 9, 9), (226, 11, 11)], []), [(.inr (some (.inl (ck_one (-1)))), 245, ([], [], [(226, 9, 9, (0, 400, [(1000001, 0)])), (226, 11, 11, (0, 400, [(1000001, 0)]))])), (.inr (some (.inl (0, 20, []))), 245, ([], [], [(226, 9, 9, (0, 400, [(1000001, 0)])), (226, 11, 11, (0, 400, [(1000001, 0)]))]))])
set_option maxRecDepth 100000 in
theorem p2_s187_e : ck_ok p2_O none [] [(245, [p2_s168]), (246, [p2_s181])] 256 [(7, [some (.inr (.inr (.inl 226))), some (.inl (ck_one 0)), some (.inl (ck_one 20)), some (.inl (ck_one 4)), some (.inl ((-2147483648), 2147483647, []))], ([], [], [(226, 11, 11, (0, 400, [(1000001, 0)])), (226, 9, 9, (0, 400, [(1000001, 0)]))]), 100, .inr (226, 9), true)] 222 p2_s187 = true := by decide +kernel
theorem p2_s187_s {X : Int → Int} {LX : Nat} : ck_Ok p2_O X LX 256 p2_s187 := ck_ok_s ⟨p2_nmu, ck_E1 (ck_S1 p2_s168_s ck_S0) (ck_E1 (ck_S1 p2_s181_s ck_S0) ck_E0)⟩ ck_X0 ck_l0 p2_s187_e
set_option maxRecDepth 100000 in
/-- GlacierMailModel.number -/
def p2_s188 : ck_Sum := ((3, 0, 0), 245, [.inr (.inr (.inl 226)), .inl (ck_one 0), .inl (ck_one 20)], ([], [], [(226, 9, 9, (0, 400, [(1, 0)]))]), ([(226, 9, 9), (226, 11, 11)], []), [(.inr (some (.inl (ck_one (-1)))), 245, ([], [], [(226, 9, 9, (0, 400, [(1000001, 0)])), (226, 11, 11, (0, 400, [(1000001, 0)]))])), (.inr (some (.inl (0, 20, []))), 245, ([], [], [(226, 9, 9, (0, 400, [(1000001, 0)])), (226, 11, 11, (0, 400, [(1000001, 0)]))]))])
set_option maxRecDepth 100000 in
theorem p2_s188_e : ck_ok p2_O none [] [(256, [p2_s187])] 255 [] 82 p2_s188 = true := by decide +kernel
theorem p2_s188_s {X : Int → Int} {LX : Nat} : ck_Ok p2_O X LX 255 p2_s188 := ck_ok_s ⟨p2_nmu, ck_E1 (ck_S1 p2_s187_s ck_S0) ck_E0⟩ ck_X0 ck_l0 p2_s188_e
set_option maxRecDepth 100000 in
/-- GlacierMailModel.readSpeeds -/
def p2_s189 : ck_Sum := ((4, 0, 0), 245, [.inr (.inr (.inl 226)), .inl (ck_one 287)], ([], [], [(226, 9, 9, (0, 400, [(1, 0)]))]), ([(226, 9, 9), (226, 11, 11), (227, 287, 292)], []), [(.inr (some (.inl (ck_one 1))), 245, ([], [], [(226, 9, 9, (0, 400, [(1000001, 0)]))])), (.inr (some (.inl (ck_one 0))), 245, ([], [], [(226, 9, 9, (0, 400, [(1000001, 0)])), (226, 11, 11, (0, 400, [(1000001, 0)]))]))])
set_option maxRecDepth 100000 in
theorem p2_s189_e : ck_ok p2_O none [] [(261, [p2_s184]), (255, [p2_s188])] 260 [(2, [some (.inr (.inr (.inl 226))), some (.inl (ck_one 287)), some (.inl (0, 6, [])), none], ([], [], [(226, 9, 9, (0, 400, [(1000001, 0)]))]), 100, .inl 2, true)] 174 p2_s189 = true := by decide +kernel
theorem p2_s189_s {X : Int → Int} {LX : Nat} : ck_Ok p2_O X LX 260 p2_s189 := ck_ok_s ⟨p2_nmu, ck_E1 (ck_S1 p2_s184_s ck_S0) (ck_E1 (ck_S1 p2_s188_s ck_S0) ck_E0)⟩ ck_X0 ck_l0 p2_s189_e
