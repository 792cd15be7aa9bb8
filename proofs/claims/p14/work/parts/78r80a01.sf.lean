/-! EVERY CALL ENDS, whatever was done before (laid by wip/am/p2k.py). -/
set_option maxRecDepth 100000 in
/-- GlacierMail$Rows.put -/
def p2_s90 : ck_Sum := ((0, 0, 0), 245, [.inr (.inr (.inl 19)), .inl (ck_one (-1)), .inl (ck_one 0), .inl (0, 299, [])], ([], [], []), ([], []), [(.inr none, 245, ([], [], []))])
set_option maxRecDepth 100000 in
theorem p2_s90_e : ck_ok p2_O none [] [] 45 [] 76 p2_s90 = true := by decide +kernel
theorem p2_s90_s {X : Int → Int} {LX : Nat} : ck_Ok p2_O X LX 45 p2_s90 := ck_ok_s ⟨p2_nmu, ck_E0⟩ ck_X0 ck_l0 p2_s90_e
set_option maxRecDepth 100000 in
/-- GlacierMail$Rows.put -/
def p2_s91 : ck_Sum := ((0, 0, 0), 245, [.inr (.inr (.inl 19)), .inl (ck_one (-1)), .inl (ck_one 1), .inl (0, 98, [])], ([], [], []), ([], []), [(.inr none, 245, ([], [], []))])
set_option maxRecDepth 100000 in
theorem p2_s91_e : ck_ok p2_O none [] [] 45 [] 76 p2_s91 = true := by decide +kernel
theorem p2_s91_s {X : Int → Int} {LX : Nat} : ck_Ok p2_O X LX 45 p2_s91 := ck_ok_s ⟨p2_nmu, ck_E0⟩ ck_X0 ck_l0 p2_s91_e
set_option maxRecDepth 100000 in
/-- GlacierMail$Rows.put -/
def p2_s92 : ck_Sum := ((0, 0, 0), 245, [.inr (.inr (.inl 19)), .inl (ck_one (-1)), .inl (ck_one 2), .inl (1, 20, [])], ([], [], []), ([], []), [(.inr none, 245, ([], [], []))])
set_option maxRecDepth 100000 in
theorem p2_s92_e : ck_ok p2_O none [] [] 45 [] 76 p2_s92 = true := by decide +kernel
theorem p2_s92_s {X : Int → Int} {LX : Nat} : ck_Ok p2_O X LX 45 p2_s92 := ck_ok_s ⟨p2_nmu, ck_E0⟩ ck_X0 ck_l0 p2_s92_e
set_option maxRecDepth 100000 in
/-- GlacierMail$ValleyReader.readFlood -/
def p2_s93 : ck_Sum := ((4, 0, 0), 245, [.inr (.inr (.inl 213))], ([], [], [(214, 3, 3, (0, 400, [(12, 0)]))]), ([(19, 3, 3), (20, 0, 23), (214, 3, 7)], []), [(.inr (some (.inl (ck_one 0))), 245, ([], [], [(214, 5, 5, (0, 400, [])), (214, 3, 3, (0, 400, [(1000012, 0)]))])), (.inr (some (.inl (ck_one 1))), 245, ([], [], [(19, 3, 3, (1, 8, [])), (214, 3, 3, (0, 400, [(1000012, 0)]))]))])
set_option maxRecDepth 100000 in
theorem p2_s93_e : ck_ok p2_O none [] [(108, [p2_s83]), (76, [p2_s26]), (94, [p2_s84, p2_s85]), (111, [p2_s52]), (102, [p2_s86]), (45, [p2_s87, p2_s88, p2_s89, p2_s90, p2_s91, p2_s92]), (93, [p2_s28])] 115 [] 194 p2_s93 = true := by decide +kernel
theorem p2_s93_s {X : Int → Int} {LX : Nat} : ck_Ok p2_O X LX 115 p2_s93 := ck_ok_s ⟨p2_nmu, ck_E1 (ck_S1 p2_s83_s ck_S0) (ck_E1 (ck_S1 p2_s26_s ck_S0) (ck_E1 (ck_S1 p2_s84_s (ck_S1 p2_s85_s ck_S0)) (ck_E1 (ck_S1 p2_s52_s ck_S0) (ck_E1 (ck_S1 p2_s86_s ck_S0) (ck_E1 (ck_S1 p2_s87_s (ck_S1 p2_s88_s (ck_S1 p2_s89_s (ck_S1 p2_s90_s (ck_S1 p2_s91_s (ck_S1 p2_s92_s ck_S0)))))) (ck_E1 (ck_S1 p2_s28_s ck_S0) ck_E0))))))⟩ ck_X0 ck_l0 p2_s93_e
set_option maxRecDepth 100000 in
/-- GlacierMail$Words.needNumber -/
def p2_s94 : ck_Sum := ((2, 0, 0), 245, [.inr (.inr (.inl 214)), .inl (ck_one 0), .inl (ck_one 9999)], ([], [], [(214, 3, 3, (0, 400, [(12, 0)]))]), ([(214, 3, 7)], []), [(.inr (some (.inl (ck_one (-1)))), 245, ([], [], [(214, 5, 5, (0, 400, [])), (214, 3, 3, (0, 400, [(12, 0)]))])), (.inr (some (.inl (0, 9999, []))), 245, ([], [], [(214, 3, 3, (0, 400, [(1000012, 0)]))]))])
set_option maxRecDepth 100000 in
theorem p2_s94_e : ck_ok p2_O none [] [(93, [p2_s28]), (76, [p2_s26])] 94 [] 106 p2_s94 = true := by decide +kernel
theorem p2_s94_s {X : Int → Int} {LX : Nat} : ck_Ok p2_O X LX 94 p2_s94 := ck_ok_s ⟨p2_nmu, ck_E1 (ck_S1 p2_s28_s ck_S0) (ck_E1 (ck_S1 p2_s26_s ck_S0) ck_E0)⟩ ck_X0 ck_l0 p2_s94_e
set_option maxRecDepth 100000 in
/-- GlacierMail$ValleyReader.readSeed -/
def p2_s95 : ck_Sum := ((3, 0, 0), 245, [.inr (.inr (.inl 213))], ([], [], [(214, 3, 3, (0, 400, [(12, 0)]))]), ([(16, 5, 5), (214, 3, 7)], []), [(.inr (some (.inl (ck_one 0))), 245, ([], [], [(214, 5, 5, (0, 400, [])), (214, 3, 3, (0, 400, [(1000012, 0)]))])), (.inr (some (.inl (ck_one 1))), 245, ([], [], [(214, 3, 3, (0, 400, [(1000012, 0)]))]))])
set_option maxRecDepth 100000 in
theorem p2_s95_e : ck_ok p2_O none [] [(76, [p2_s26]), (94, [p2_s94])] 114 [] 106 p2_s95 = true := by decide +kernel
theorem p2_s95_s {X : Int → Int} {LX : Nat} : ck_Ok p2_O X LX 114 p2_s95 := ck_ok_s ⟨p2_nmu, ck_E1 (ck_S1 p2_s26_s ck_S0) (ck_E1 (ck_S1 p2_s94_s ck_S0) ck_E0)⟩ ck_X0 ck_l0 p2_s95_e
set_option maxRecDepth 100000 in
/-- GlacierMail$Words.needNumber -/
def p2_s96 : ck_Sum := ((2, 0, 0), 245, [.inr (.inr (.inl 214)), .inl (ck_one 0), .inl (1, 6, [])], ([], [], [(214, 3, 3, (0, 400, [(12, 0)]))]), ([(214, 3, 7)], []), [(.inr (some (.inl (ck_one (-1)))), 245, ([], [], [(214, 5, 5, (0, 400, [])), (214, 3, 3, (0, 400, [(12, 0)]))])), (.inr (some (.inl (0, 6, []))), 245, ([], [], [(214, 3, 3, (0, 400, [(1000012, 0)]))]))])
set_option maxRecDepth 100000 in
theorem p2_s96_e : ck_ok p2_O none [] [(93, [p2_s28]), (76, [p2_s26])] 94 [] 106 p2_s96 = true := by decide +kernel
theorem p2_s96_s {X : Int → Int} {LX : Nat} : ck_Ok p2_O X LX 94 p2_s96 := ck_ok_s ⟨p2_nmu, ck_E1 (ck_S1 p2_s28_s ck_S0) (ck_E1 (ck_S1 p2_s26_s ck_S0) ck_E0)⟩ ck_X0 ck_l0 p2_s96_e
set_option maxRecDepth 100000 in
/-- GlacierMail$ValleyReader.readStripe -/
def p2_s97 : ck_Sum := ((3, 0, 0), 245, [.inr (.inr (.inl 213))], ([], [], [(214, 3, 3, (0, 400, [(12, 0)]))]), ([(16, 4, 4), (214, 3, 7)], []), [(.inr (some (.inl (ck_one 0))), 245, ([], [], [(214, 5, 5, (0, 400, [])), (214, 3, 3, (0, 400, [(1000012, 0)]))])), (.inr (some (.inl (ck_one 1))), 245, ([], [], [(214, 3, 3, (0, 400, [(1000012, 0)]))]))])
set_option maxRecDepth 100000 in
theorem p2_s97_e : ck_ok p2_O none [] [(76, [p2_s26]), (94, [p2_s96])] 113 [] 110 p2_s97 = true := by decide +kernel
theorem p2_s97_s {X : Int → Int} {LX : Nat} : ck_Ok p2_O X LX 113 p2_s97 := ck_ok_s ⟨p2_nmu, ck_E1 (ck_S1 p2_s26_s ck_S0) (ck_E1 (ck_S1 p2_s96_s ck_S0) ck_E0)⟩ ck_X0 ck_l0 p2_s97_e
set_option maxRecDepth 100000 in
/-- GlacierMail$Words.isWord -/
def p2_s98 : ck_Sum := ((6, 0, 0), 245, [.inr (.inr (.inl 214)), .inr (.inr (.inr 21))], ([], [], [(214, 3, 3, (0, 400, [(12, 0)]))]), ([], []), [(.inr (some (.inl (ck_one 0))), 245, ([], [], [])), (.inr (some (.inl (ck_one 1))), 245, ([], [], [(214, 3, 3, (4, 400, [(12, 0)])), (214, 4, 4, (0, 396, [])), (214, 6, 6, ck_one 257)]))])
set_option maxRecDepth 100000 in
theorem p2_s98_e : ck_ok p2_O none [] [] 81 [] 310 p2_s98 = true := by decide +kernel
theorem p2_s98_s {X : Int → Int} {LX : Nat} : ck_Ok p2_O X LX 81 p2_s98 := ck_ok_s ⟨p2_nmu, ck_E0⟩ ck_X0 ck_l0 p2_s98_e
set_option maxRecDepth 100000 in
/-- GlacierMail$Words.takeWord -/
def p2_s99 : ck_Sum := ((7, 0, 0), 245, [.inr (.inr (.inl 214)), .inr (.inr (.inr 21))], ([], [], [(214, 3, 3, (0, 400, [(12, 0)]))]), ([(214, 3, 4), (214, 6, 7)], []), [(.inr (some (.inl (ck_one 0))), 245, ([], [], [(214, 3, 3, (0, 400, [(12, 0)]))])), (.inr (some (.inl (ck_one 1))), 245, ([], [], [(214, 3, 3, (4, 400, [(1000012, 0)]))]))])
set_option maxRecDepth 100000 in
theorem p2_s99_e : ck_ok p2_O none [] [(81, [p2_s98]), (76, [p2_s26])] 95 [] 90 p2_s99 = true := by decide +kernel
theorem p2_s99_s {X : Int → Int} {LX : Nat} : ck_Ok p2_O X LX 95 p2_s99 := ck_ok_s ⟨p2_nmu, ck_E1 (ck_S1 p2_s98_s ck_S0) (ck_E1 (ck_S1 p2_s26_s ck_S0) ck_E0)⟩ ck_X0 ck_l0 p2_s99_e
set_option maxRecDepth 100000 in
/-- GlacierMail$Words.needWord -/
def p2_s100 : ck_Sum := ((8, 0, 0), 245, [.inr (.inr (.inl 214)), .inr (.inr (.inr 21))], ([], [], [(214, 3, 3, (0, 400, [(12, 0)]))]), ([(214, 3, 7)], []), [(.inr (some (.inl (ck_one 0))), 245, ([], [], [(214, 5, 5, (0, 400, [])), (214, 3, 3, (0, 400, [(12, 0)]))])), (.inr (some (.inl (ck_one 1))), 245, ([], [], [(214, 3, 3, (4, 400, [(1000012, 0)]))]))])
set_option maxRecDepth 100000 in
theorem p2_s100_e : ck_ok p2_O none [] [(95, [p2_s99]), (93, [p2_s28])] 112 [] 88 p2_s100 = true := by decide +kernel
theorem p2_s100_s {X : Int → Int} {LX : Nat} : ck_Ok p2_O X LX 112 p2_s100 := ck_ok_s ⟨p2_nmu, ck_E1 (ck_S1 p2_s99_s ck_S0) (ck_E1 (ck_S1 p2_s28_s ck_S0) ck_E0)⟩ ck_X0 ck_l0 p2_s100_e
set_option maxRecDepth 100000 in
/-- GlacierMail$Words.needNumber -/
def p2_s101 : ck_Sum := ((2, 0, 0), 245, [.inr (.inr (.inl 214)), .inl (ck_one 0), .inl (ck_one 9)], ([], [], [(214, 3, 3, (0, 400, [(12, 0)]))]), ([(214, 3, 7)], []), [(.inr (some (.inl (ck_one (-1)))), 245, ([], [], [(214, 5, 5, (0, 400, [])), (214, 3, 3, (0, 400, [(12, 0)]))])), (.inr (some (.inl (0, 9, []))), 245, ([], [], [(214, 3, 3, (0, 400, [(1000012, 0)]))]))])
set_option maxRecDepth 100000 in
theorem p2_s101_e : ck_ok p2_O none [] [(93, [p2_s28]), (76, [p2_s26])] 94 [] 106 p2_s101 = true := by decide +kernel
theorem p2_s101_s {X : Int → Int} {LX : Nat} : ck_Ok p2_O X LX 94 p2_s101 := ck_ok_s ⟨p2_nmu, ck_E1 (ck_S1 p2_s28_s ck_S0) (ck_E1 (ck_S1 p2_s26_s ck_S0) ck_E0)⟩ ck_X0 ck_l0 p2_s101_e
set_option maxRecDepth 100000 in
/-- GlacierMail$ValleyReader.readSnow -/
def p2_s102 : ck_Sum := ((9, 0, 0), 245, [.inr (.inr (.inl 213))], ([], [], [(214, 3, 3, (0, 400, [(12, 0)]))]), ([(16, 2, 3), (214, 3, 7)], []), [(.inr (some (.inl (ck_one 0))), 245, ([], [], [(214, 5, 5, (0, 400, [])), (214, 3, 3, (0, 400, [(1000012, 0)]))])), (.inr (some (.inl (ck_one 1))), 245, ([], [], [(214, 3, 3, (4, 400, [(1000012, 0)]))]))])
set_option maxRecDepth 100000 in
theorem p2_s102_e : ck_ok p2_O none [] [(76, [p2_s26]), (111, [p2_s52]), (112, [p2_s100]), (94, [p2_s101])] 110 [] 136 p2_s102 = true := by decide +kernel
theorem p2_s102_s {X : Int → Int} {LX : Nat} : ck_Ok p2_O X LX 110 p2_s102 := ck_ok_s ⟨p2_nmu, ck_E1 (ck_S1 p2_s26_s ck_S0) (ck_E1 (ck_S1 p2_s52_s ck_S0) (ck_E1 (ck_S1 p2_s100_s ck_S0) (ck_E1 (ck_S1 p2_s101_s ck_S0) ck_E0)))⟩ ck_X0 ck_l0 p2_s102_e
set_option maxRecDepth 100000 in
/-- GlacierMail$Rows.isFull -/
def p2_s103 : ck_Sum := ((0, 0, 0), 245, [.inr (.inr (.inl 17))], ([], [], []), ([], []), [(.inr (some (.inl (ck_one 0))), 245, ([], [], [(17, 3, 3, (0, 7, []))])), (.inr (some (.inl (ck_one 1))), 245, ([], [], [(17, 3, 3, ck_one 8)]))])
set_option maxRecDepth 100000 in
theorem p2_s103_e : ck_ok p2_O none [] [] 108 [] 86 p2_s103 = true := by decide +kernel
theorem p2_s103_s {X : Int → Int} {LX : Nat} : ck_Ok p2_O X LX 108 p2_s103 := ck_ok_s ⟨p2_nmu, ck_E0⟩ ck_X0 ck_l0 p2_s103_e
set_option maxRecDepth 100000 in
/-- GlacierMail$Rows.size -/
def p2_s104 : ck_Sum := ((0, 0, 0), 245, [.inr (.inr (.inl 17))], ([], [], []), ([], []), [(.inr (some (.inl (0, 8, []))), 245, ([], [], []))])
set_option maxRecDepth 100000 in
theorem p2_s104_e : ck_ok p2_O none [] [] 9 [] 76 p2_s104 = true := by decide +kernel
theorem p2_s104_s {X : Int → Int} {LX : Nat} : ck_Ok p2_O X LX 9 p2_s104 := ck_ok_s ⟨p2_nmu, ck_E0⟩ ck_X0 ck_l0 p2_s104_e
set_option maxRecDepth 100000 in
/-- GlacierMail$Rows.get -/
def p2_s105 : ck_Sum := ((0, 0, 0), 245, [.inr (.inr (.inl 17)), .inl ((-2147483648), 2147483647, []), .inl ((-2147483648), 2147483647, [])], ([], [], []), ([], []), [(.inr (some (.inl (ck_one (-1)))), 245, ([], [], [])), (.inr (some (.inl (0, 98, []))), 245, ([], [], [(17, 3, 3, (1, 8, []))]))])
set_option maxRecDepth 100000 in
theorem p2_s105_e : ck_ok p2_O none [] [] 10 [] 114 p2_s105 = true := by decide +kernel
theorem p2_s105_s {X : Int → Int} {LX : Nat} : ck_Ok p2_O X LX 10 p2_s105 := ck_ok_s ⟨p2_nmu, ck_E0⟩ ck_X0 ck_l0 p2_s105_e
set_option maxRecDepth 100000 in
/-- GlacierMail$Words.needNumber -/
def p2_s106 : ck_Sum := ((2, 0, 0), 245, [.inr (.inr (.inl 214)), .inl (ck_one 0), .inl (ck_one 0)], ([], [], [(214, 3, 3, (0, 400, [(12, 0)]))]), ([(214, 3, 7)], []), [(.inr (some (.inl (ck_one (-1)))), 245, ([], [], [(214, 5, 5, (0, 400, [])), (214, 3, 3, (0, 400, [(12, 0)]))])), (.inr (some (.inl (ck_one 0))), 245, ([], [], [(214, 3, 3, (0, 400, [(1000012, 0)]))]))])
set_option maxRecDepth 100000 in
theorem p2_s106_e : ck_ok p2_O none [] [(93, [p2_s28]), (76, [p2_s26])] 94 [] 106 p2_s106 = true := by decide +kernel
theorem p2_s106_s {X : Int → Int} {LX : Nat} : ck_Ok p2_O X LX 94 p2_s106 := ck_ok_s ⟨p2_nmu, ck_E1 (ck_S1 p2_s28_s ck_S0) (ck_E1 (ck_S1 p2_s26_s ck_S0) ck_E0)⟩ ck_X0 ck_l0 p2_s106_e
set_option maxRecDepth 100000 in
/-- GlacierMail$Words.needNumber -/
def p2_s107 : ck_Sum := ((2, 0, 0), 245, [.inr (.inr (.inl 214)), .inl (1, 99, []), .inl (9, 98, [])], ([], [], [(214, 3, 3, (0, 400, [(12, 0)]))]), ([(214, 3, 7)], []), [(.inr (some (.inl (ck_one (-1)))), 245, ([], [], [(214, 5, 5, (0, 400, [])), (214, 3, 3, (0, 400, [(12, 0)]))])), (.inr (some (.inl (1, 98, []))), 245, ([], [], [(214, 3, 3, (0, 400, [(1000012, 0)]))]))])
set_option maxRecDepth 100000 in
theorem p2_s107_e : ck_ok p2_O none [] [(93, [p2_s28]), (76, [p2_s26])] 94 [] 106 p2_s107 = true := by decide +kernel
theorem p2_s107_s {X : Int → Int} {LX : Nat} : ck_Ok p2_O X LX 94 p2_s107 := ck_ok_s ⟨p2_nmu, ck_E1 (ck_S1 p2_s28_s ck_S0) (ck_E1 (ck_S1 p2_s26_s ck_S0) ck_E0)⟩ ck_X0 ck_l0 p2_s107_e
set_option maxRecDepth 100000 in
/-- GlacierMail$Words.needNumber -/
def p2_s108 : ck_Sum := ((1, 0, 0), 245, [.inr (.inr (.inl 214)), .inl (1, 99, []), .inl (ck_one 0)], ([], [], []), ([(214, 5, 5)], []), [(.inr (some (.inl (ck_one (-1)))), 245, ([], [], [(214, 5, 5, (0, 400, []))]))])
set_option maxRecDepth 100000 in
theorem p2_s108_e : ck_ok p2_O none [] [(93, [p2_s28])] 94 [] 106 p2_s108 = true := by decide +kernel
theorem p2_s108_s {X : Int → Int} {LX : Nat} : ck_Ok p2_O X LX 94 p2_s108 := ck_ok_s ⟨p2_nmu, ck_E1 (ck_S1 p2_s28_s ck_S0) ck_E0⟩ ck_X0 ck_l0 p2_s108_e
set_option maxRecDepth 100000 in
/-- GlacierMail$Rows.add -/
def p2_s109 : ck_Sum := ((0, 0, 0), 245, [.inr (.inr (.inl 17))], ([], [], []), ([(17, 3, 3)], []), [(.inr (some (.inl (0, 7, []))), 245, ([], [], [(17, 3, 3, (1, 8, []))])), (.inr (some (.inl (ck_one (-1)))), 245, ([], [], [(17, 3, 3, ck_one 8)]))])
set_option maxRecDepth 100000 in
theorem p2_s109_e : ck_ok p2_O none [] [] 102 [] 102 p2_s109 = true := by decide +kernel
theorem p2_s109_s {X : Int → Int} {LX : Nat} : ck_Ok p2_O X LX 102 p2_s109 := ck_ok_s ⟨p2_nmu, ck_E0⟩ ck_X0 ck_l0 p2_s109_e
set_option maxRecDepth 100000 in
/-- GlacierMail$Rows.put -/
def p2_s110 : ck_Sum := ((0, 0, 0), 245, [.inr (.inr (.inl 17)), .inl (0, 7, []), .inl (ck_one 0), .inl (0, 98, [])], ([], [], []), ([(18, 0, 0), (18, 7, 7), (18, 14, 14), (18, 21, 21), (18, 28, 28), (18, 35, 35), (18, 42, 42), (18, 49, 49)], []), [(.inr none, 245, ([], [], []))])
set_option maxRecDepth 100000 in
theorem p2_s110_e : ck_ok p2_O none [] [] 45 [] 116 p2_s110 = true := by decide +kernel
theorem p2_s110_s {X : Int → Int} {LX : Nat} : ck_Ok p2_O X LX 45 p2_s110 := ck_ok_s ⟨p2_nmu, ck_E0⟩ ck_X0 ck_l0 p2_s110_e
set_option maxRecDepth 100000 in
/-- GlacierMail$Rows.put -/
def p2_s111 : ck_Sum := ((0, 0, 0), 245, [.inr (.inr (.inl 17)), .inl (ck_one (-1)), .inl (ck_one 0), .inl (0, 98, [])], ([], [], []), ([], []), [(.inr none, 245, ([], [], []))])
set_option maxRecDepth 100000 in
theorem p2_s111_e : ck_ok p2_O none [] [] 45 [] 76 p2_s111 = true := by decide +kernel
theorem p2_s111_s {X : Int → Int} {LX : Nat} : ck_Ok p2_O X LX 45 p2_s111 := ck_ok_s ⟨p2_nmu, ck_E0⟩ ck_X0 ck_l0 p2_s111_e
set_option maxRecDepth 100000 in
/-- GlacierMail$Rows.put -/
def p2_s112 : ck_Sum := ((0, 0, 0), 245, [.inr (.inr (.inl 17)), .inl (0, 7, []), .inl (ck_one 0), .inl (ck_one 0)], ([], [], []), ([(18, 0, 0), (18, 7, 7), (18, 14, 14), (18, 21, 21), (18, 28, 28), (18, 35, 35), (18, 42, 42), (18, 49, 49)], []), [(.inr none, 245, ([], [], []))])
set_option maxRecDepth 100000 in
theorem p2_s112_e : ck_ok p2_O none [] [] 45 [] 116 p2_s112 = true := by decide +kernel
theorem p2_s112_s {X : Int → Int} {LX : Nat} : ck_Ok p2_O X LX 45 p2_s112 := ck_ok_s ⟨p2_nmu, ck_E0⟩ ck_X0 ck_l0 p2_s112_e
set_option maxRecDepth 100000 in
/-- GlacierMail$Rows.put -/
def p2_s113 : ck_Sum := ((0, 0, 0), 245, [.inr (.inr (.inl 17)), .inl (ck_one (-1)), .inl (ck_one 0), .inl (ck_one 0)], ([], [], []), ([], []), [(.inr none, 245, ([], [], []))])
set_option maxRecDepth 100000 in
theorem p2_s113_e : ck_ok p2_O none [] [] 45 [] 76 p2_s113 = true := by decide +kernel
theorem p2_s113_s {X : Int → Int} {LX : Nat} : ck_Ok p2_O X LX 45 p2_s113 := ck_ok_s ⟨p2_nmu, ck_E0⟩ ck_X0 ck_l0 p2_s113_e
set_option maxRecDepth 100000 in
/-- GlacierMail$Rows.put -/
def p2_s114 : ck_Sum := ((0, 0, 0), 245, [.inr (.inr (.inl 17)), .inl (0, 7, []), .inl (ck_one 0), .inl (1, 98, [])], ([], [], []), ([(18, 0, 0), (18, 7, 7), (18, 14, 14), (18, 21, 21), (18, 28, 28), (18, 35, 35), (18, 42, 42), (18, 49, 49)], []), [(.inr none, 245, ([], [], []))])
set_option maxRecDepth 100000 in
theorem p2_s114_e : ck_ok p2_O none [] [] 45 [] 116 p2_s114 = true := by decide +kernel
theorem p2_s114_s {X : Int → Int} {LX : Nat} : ck_Ok p2_O X LX 45 p2_s114 := ck_ok_s ⟨p2_nmu, ck_E0⟩ ck_X0 ck_l0 p2_s114_e
set_option maxRecDepth 100000 in
/-- GlacierMail$Rows.put -/
def p2_s115 : ck_Sum := ((0, 0, 0), 245, [.inr (.inr (.inl 17)), .inl (ck_one (-1)), .inl (ck_one 0), .inl (1, 98, [])], ([], [], []), ([], []), [(.inr none, 245, ([], [], []))])
set_option maxRecDepth 100000 in
theorem p2_s115_e : ck_ok p2_O none [] [] 45 [] 76 p2_s115 = true := by decide +kernel
theorem p2_s115_s {X : Int → Int} {LX : Nat} : ck_Ok p2_O X LX 45 p2_s115 := ck_ok_s ⟨p2_nmu, ck_E0⟩ ck_X0 ck_l0 p2_s115_e
set_option maxRecDepth 100000 in
/-- GlacierMail$Rows.put -/
def p2_s116 : ck_Sum := ((0, 0, 0), 245, [.inr (.inr (.inl 17)), .inl (0, 7, []), .inl (1, 6, []), .inl (0, 20, [])], ([], [], []), ([(18, 1, 6), (18, 8, 13), (18, 15, 20), (18, 22, 27), (18, 29, 34), (18, 36, 41), (18, 43, 48), (18, 50, 55)], []), [(.inr none, 245, ([], [], []))])
set_option maxRecDepth 100000 in
theorem p2_s116_e : ck_ok p2_O none [] [] 45 [] 116 p2_s116 = true := by decide +kernel
theorem p2_s116_s {X : Int → Int} {LX : Nat} : ck_Ok p2_O X LX 45 p2_s116 := ck_ok_s ⟨p2_nmu, ck_E0⟩ ck_X0 ck_l0 p2_s116_e
set_option maxRecDepth 100000 in
/-- GlacierMail$ValleyReader.readSpeeds -/
def p2_s117 : ck_Sum := ((3, 0, 0), 245, [.inr (.inr (.inl 213)), .inr (.inr (.inl 17)), .inl (0, 7, []), .inl (ck_one 1)], ([], [], [(214, 3, 3, (0, 400, [(12, 0)]))]), ([(18, 1, 6), (18, 8, 13), (18, 15, 20), (18, 22, 27), (18, 29, 34), (18, 36, 41), (18, 43, 48), (18, 50, 55), (214, 3, 7)], []), [(.inr (some (.inl (ck_one 1))), 245, ([], [], [(214, 3, 3, (0, 400, [(1000012, 0)]))])), (.inr (some (.inl (ck_one 0))), 245, ([], [], [(214, 5, 5, (0, 400, [])), (214, 3, 3, (0, 400, [(1000012, 0)]))]))])
set_option maxRecDepth 100000 in
theorem p2_s117_e : ck_ok p2_O none [] [(94, [p2_s42]), (45, [p2_s116])] 109 [(3, [some (.inr (.inr (.inl 213))), some (.inr (.inr (.inl 17))), some (.inl (0, 7, [])), some (.inl (ck_one 1)), some (.inl (0, 6, [])), none], ([], [], [(214, 3, 3, (0, 400, [(1000012, 0)]))]), 100, .inl 4, true)] 186 p2_s117 = true := by decide +kernel
theorem p2_s117_s {X : Int → Int} {LX : Nat} : ck_Ok p2_O X LX 109 p2_s117 := ck_ok_s ⟨p2_nmu, ck_E1 (ck_S1 p2_s42_s ck_S0) (ck_E1 (ck_S1 p2_s116_s ck_S0) ck_E0)⟩ ck_X0 ck_l0 p2_s117_e
set_option maxRecDepth 100000 in
/-- GlacierMail$Rows.put -/
def p2_s118 : ck_Sum := ((0, 0, 0), 245, [.inr (.inr (.inl 17)), .inl (ck_one (-1)), .inl (1, 6, []), .inl (0, 20, [])], ([], [], []), ([], []), [(.inr none, 245, ([], [], []))])
set_option maxRecDepth 100000 in
theorem p2_s118_e : ck_ok p2_O none [] [] 45 [] 76 p2_s118 = true := by decide +kernel
theorem p2_s118_s {X : Int → Int} {LX : Nat} : ck_Ok p2_O X LX 45 p2_s118 := ck_ok_s ⟨p2_nmu, ck_E0⟩ ck_X0 ck_l0 p2_s118_e
set_option maxRecDepth 100000 in
/-- GlacierMail$ValleyReader.readSpeeds -/
def p2_s119 : ck_Sum := ((3, 0, 0), 245, [.inr (.inr (.inl 213)), .inr (.inr (.inl 17)), .inl (ck_one (-1)), .inl (ck_one 1)], ([], [], [(214, 3, 3, (0, 400, [(12, 0)]))]), ([(214, 3, 7)], []), [(.inr (some (.inl (ck_one 1))), 245, ([], [], [(214, 3, 3, (0, 400, [(1000012, 0)]))])), (.inr (some (.inl (ck_one 0))), 245, ([], [], [(214, 5, 5, (0, 400, [])), (214, 3, 3, (0, 400, [(1000012, 0)]))]))])
set_option maxRecDepth 100000 in
theorem p2_s119_e : ck_ok p2_O none [] [(94, [p2_s42]), (45, [p2_s118])] 109 [(3, [some (.inr (.inr (.inl 213))), some (.inr (.inr (.inl 17))), some (.inl (ck_one (-1))), some (.inl (ck_one 1)), some (.inl (0, 6, [])), none], ([], [], [(214, 3, 3, (0, 400, [(1000012, 0)]))]), 100, .inl 4, true)] 186 p2_s119 = true := by decide +kernel
theorem p2_s119_s {X : Int → Int} {LX : Nat} : ck_Ok p2_O X LX 109 p2_s119 := ck_ok_s ⟨p2_nmu, ck_E1 (ck_S1 p2_s42_s ck_S0) (ck_E1 (ck_S1 p2_s118_s ck_S0) ck_E0)⟩ ck_X0 ck_l0 p2_s119_e
set_option maxRecDepth 100000 in
/-- GlacierMail$ValleyReader.readSection -/
def p2_s120 : ck_Sum := ((4, 0, 0), 245, [.inr (.inr (.inl 213))], ([], [], [(214, 3, 3, (0, 400, [(12, 0)]))]), ([(17, 3, 3), (18, 0, 55), (214, 3, 7)], []), [(.inr (some (.inl (ck_one 0))), 245, ([], [], [(214, 5, 5, (0, 400, [])), (214, 3, 3, (0, 400, [(1000012, 0)]))])), (.inr (some (.inl (ck_one 1))), 245, ([], [], [(214, 3, 3, (0, 400, [(1000012, 0)])), (17, 3, 3, (1, 8, []))]))])
set_option maxRecDepth 100000 in
theorem p2_s120_e : ck_ok p2_O none [] [(108, [p2_s103]), (76, [p2_s26]), (9, [p2_s104]), (10, [p2_s105]), (94, [p2_s51, p2_s106, p2_s107, p2_s108]), (102, [p2_s109]), (45, [p2_s110, p2_s111, p2_s112, p2_s113, p2_s114, p2_s115]), (109, [p2_s117, p2_s119]), (93, [p2_s28])] 107 [] 188 p2_s120 = true := by decide +kernel
theorem p2_s120_s {X : Int → Int} {LX : Nat} : ck_Ok p2_O X LX 107 p2_s120 := ck_ok_s ⟨p2_nmu, ck_E1 (ck_S1 p2_s103_s ck_S0) (ck_E1 (ck_S1 p2_s26_s ck_S0) (ck_E1 (ck_S1 p2_s104_s ck_S0) (ck_E1 (ck_S1 p2_s105_s ck_S0) (ck_E1 (ck_S1 p2_s51_s (ck_S1 p2_s106_s (ck_S1 p2_s107_s (ck_S1 p2_s108_s ck_S0)))) (ck_E1 (ck_S1 p2_s109_s ck_S0) (ck_E1 (ck_S1 p2_s110_s (ck_S1 p2_s111_s (ck_S1 p2_s112_s (ck_S1 p2_s113_s (ck_S1 p2_s114_s (ck_S1 p2_s115_s ck_S0)))))) (ck_E1 (ck_S1 p2_s117_s (ck_S1 p2_s119_s ck_S0)) (ck_E1 (ck_S1 p2_s28_s ck_S0) ck_E0))))))))⟩ ck_X0 ck_l0 p2_s120_e
set_option maxRecDepth 100000 in
/-- GlacierMail$Rows.size -/
def p2_s121 : ck_Sum := ((0, 0, 0), 245, [.inr (.inr (.inl 19))], ([], [], []), ([], []), [(.inr (some (.inl (0, 8, []))), 245, ([], [], []))])
set_option maxRecDepth 100000 in
theorem p2_s121_e : ck_ok p2_O none [] [] 9 [] 76 p2_s121 = true := by decide +kernel
theorem p2_s121_s {X : Int → Int} {LX : Nat} : ck_Ok p2_O X LX 9 p2_s121 := ck_ok_s ⟨p2_nmu, ck_E0⟩ ck_X0 ck_l0 p2_s121_e
set_option maxRecDepth 100000 in
/-- GlacierMail$Rows.size -/
def p2_s122 : ck_Sum := ((0, 0, 0), 245, [.inr (.inr (.inl 21))], ([], [], []), ([], []), [(.inr (some (.inl (0, 8, []))), 245, ([], [], []))])
set_option maxRecDepth 100000 in
theorem p2_s122_e : ck_ok p2_O none [] [] 9 [] 76 p2_s122 = true := by decide +kernel
theorem p2_s122_s {X : Int → Int} {LX : Nat} : ck_Ok p2_O X LX 9 p2_s122 := ck_ok_s ⟨p2_nmu, ck_E0⟩ ck_X0 ck_l0 p2_s122_e
set_option maxRecDepth 100000 in
/-- GlacierMail$Rows.size -/
def p2_s123 : ck_Sum := ((0, 0, 0), 245, [.inr (.inr (.inl 23))], ([], [], []), ([], []), [(.inr (some (.inl (0, 24, []))), 245, ([], [], []))])
set_option maxRecDepth 100000 in
theorem p2_s123_e : ck_ok p2_O none [] [] 9 [] 76 p2_s123 = true := by decide +kernel
theorem p2_s123_s {X : Int → Int} {LX : Nat} : ck_Ok p2_O X LX 9 p2_s123 := ck_ok_s ⟨p2_nmu, ck_E0⟩ ck_X0 ck_l0 p2_s123_e
set_option maxRecDepth 100000 in
/-- GlacierMail$Rows.size -/
def p2_s124 : ck_Sum := ((0, 0, 0), 245, [.inr (.inr (.inl 25))], ([], [], []), ([], []), [(.inr (some (.inl (0, 6, []))), 245, ([], [], []))])
set_option maxRecDepth 100000 in
theorem p2_s124_e : ck_ok p2_O none [] [] 9 [] 76 p2_s124 = true := by decide +kernel
theorem p2_s124_s {X : Int → Int} {LX : Nat} : ck_Ok p2_O X LX 9 p2_s124 := ck_ok_s ⟨p2_nmu, ck_E0⟩ ck_X0 ck_l0 p2_s124_e
set_option maxRecDepth 100000 in
/-- GlacierMail$State.isEmpty -/
def p2_s125 : ck_Sum := ((1, 0, 0), 245, [.inr (.inr (.inl 16))], ([], [], []), ([], []), [(.inr (some (.inl (ck_one 0))), 245, ([], [], [])), (.inr (some (.inl (ck_one 1))), 245, ([], [], []))])
set_option maxRecDepth 100000 in
theorem p2_s125_e : ck_ok p2_O none [] [(9, [p2_s104, p2_s121, p2_s122, p2_s123, p2_s124])] 105 [] 116 p2_s125 = true := by decide +kernel
theorem p2_s125_s {X : Int → Int} {LX : Nat} : ck_Ok p2_O X LX 105 p2_s125 := ck_ok_s ⟨p2_nmu, ck_E1 (ck_S1 p2_s104_s (ck_S1 p2_s121_s (ck_S1 p2_s122_s (ck_S1 p2_s123_s (ck_S1 p2_s124_s ck_S0))))) ck_E0⟩ ck_X0 ck_l0 p2_s125_e
set_option maxRecDepth 100000 in
/-- GlacierMail$Words.needNumber -/
def p2_s126 : ck_Sum := ((2, 0, 0), 245, [.inr (.inr (.inl 214)), .inl (ck_one 10), .inl (ck_one 99)], ([], [], [(214, 3, 3, (0, 400, [(12, 0)]))]), ([(214, 3, 7)], []), [(.inr (some (.inl (ck_one (-1)))), 245, ([], [], [(214, 5, 5, (0, 400, [])), (214, 3, 3, (0, 400, [(12, 0)]))])), (.inr (some (.inl (10, 99, []))), 245, ([], [], [(214, 3, 3, (0, 400, [(1000012, 0)]))]))])
set_option maxRecDepth 100000 in
theorem p2_s126_e : ck_ok p2_O none [] [(93, [p2_s28]), (76, [p2_s26])] 94 [] 106 p2_s126 = true := by decide +kernel
theorem p2_s126_s {X : Int → Int} {LX : Nat} : ck_Ok p2_O X LX 94 p2_s126 := ck_ok_s ⟨p2_nmu, ck_E1 (ck_S1 p2_s28_s ck_S0) (ck_E1 (ck_S1 p2_s26_s ck_S0) ck_E0)⟩ ck_X0 ck_l0 p2_s126_e
set_option maxRecDepth 100000 in
/-- GlacierMail$ValleyReader.readLast -/
def p2_s127 : ck_Sum := ((3, 0, 0), 245, [.inr (.inr (.inl 213))], ([], [], [(214, 3, 3, (0, 400, [(12, 0)]))]), ([(16, 1, 2), (214, 3, 7)], []), [(.inr (some (.inl (ck_one 0))), 245, ([], [], [(214, 5, 5, (0, 400, [])), (214, 3, 3, (0, 400, [(1000012, 0)]))])), (.inr (some (.inl (ck_one 1))), 245, ([], [], [(16, 2, 2, ck_one 10), (214, 3, 3, (0, 400, [(1000012, 0)]))]))])
set_option maxRecDepth 100000 in
theorem p2_s127_e : ck_ok p2_O none [] [(105, [p2_s125]), (93, [p2_s28]), (76, [p2_s26]), (94, [p2_s126])] 106 [] 122 p2_s127 = true := by decide +kernel
theorem p2_s127_s {X : Int → Int} {LX : Nat} : ck_Ok p2_O X LX 106 p2_s127 := ck_ok_s ⟨p2_nmu, ck_E1 (ck_S1 p2_s125_s ck_S0) (ck_E1 (ck_S1 p2_s28_s ck_S0) (ck_E1 (ck_S1 p2_s26_s ck_S0) (ck_E1 (ck_S1 p2_s126_s ck_S0) ck_E0)))⟩ ck_X0 ck_l0 p2_s127_e
set_option maxRecDepth 100000 in
/-- GlacierMail$Words.needNumber -/
def p2_s128 : ck_Sum := ((2, 0, 0), 245, [.inr (.inr (.inl 214)), .inl (ck_one 1), .inl (ck_one 6)], ([], [], [(214, 3, 3, (0, 400, [(12, 0)]))]), ([(214, 3, 7)], []), [(.inr (some (.inl (ck_one (-1)))), 245, ([], [], [(214, 5, 5, (0, 400, [])), (214, 3, 3, (0, 400, [(12, 0)]))])), (.inr (some (.inl (1, 6, []))), 245, ([], [], [(214, 3, 3, (0, 400, [(1000012, 0)]))]))])
set_option maxRecDepth 100000 in
theorem p2_s128_e : ck_ok p2_O none [] [(93, [p2_s28]), (76, [p2_s26])] 94 [] 106 p2_s128 = true := by decide +kernel
theorem p2_s128_s {X : Int → Int} {LX : Nat} : ck_Ok p2_O X LX 94 p2_s128 := ck_ok_s ⟨p2_nmu, ck_E1 (ck_S1 p2_s28_s ck_S0) (ck_E1 (ck_S1 p2_s26_s ck_S0) ck_E0)⟩ ck_X0 ck_l0 p2_s128_e
set_option maxRecDepth 100000 in
/-- GlacierMail$ValleyReader.readLanes -/
def p2_s129 : ck_Sum := ((3, 0, 0), 245, [.inr (.inr (.inl 213))], ([], [], [(214, 3, 3, (0, 400, [(12, 0)]))]), ([(16, 0, 0), (16, 4, 4), (214, 3, 7)], []), [(.inr (some (.inl (ck_one 0))), 245, ([], [], [(214, 5, 5, (0, 400, [])), (214, 3, 3, (0, 400, [(1000012, 0)]))])), (.inr (some (.inl (ck_one 1))), 245, ([], [], [(16, 4, 4, (1, 6, [])), (214, 3, 3, (0, 400, [(1000012, 0)]))]))])
set_option maxRecDepth 100000 in
theorem p2_s129_e : ck_ok p2_O none [] [(105, [p2_s125]), (93, [p2_s28]), (76, [p2_s26]), (94, [p2_s128])] 104 [] 122 p2_s129 = true := by decide +kernel
theorem p2_s129_s {X : Int → Int} {LX : Nat} : ck_Ok p2_O X LX 104 p2_s129 := ck_ok_s ⟨p2_nmu, ck_E1 (ck_S1 p2_s125_s ck_S0) (ck_E1 (ck_S1 p2_s28_s ck_S0) (ck_E1 (ck_S1 p2_s26_s ck_S0) (ck_E1 (ck_S1 p2_s128_s ck_S0) ck_E0)))⟩ ck_X0 ck_l0 p2_s129_e
set_option maxRecDepth 100000 in
/-- GlacierMail$ValleyReader.readLine -/
def p2_s130 : ck_Sum := ((10, 0, 0), 245, [.inr (.inr (.inl 213))], ([], [], [(214, 3, 3, (0, 400, [(12, 0)]))]), ([(16, 0, 5), (17, 3, 3), (18, 0, 55), (19, 3, 3), (20, 0, 23), (21, 3, 3), (22, 0, 23), (23, 3, 3), (24, 0, 167), (25, 3, 3), (26, 0, 35), (214, 3, 7)], []), [(.inr (some (.inl (ck_one 0))), 245, ([], [], [(214, 5, 5, (0, 400, [])), (214, 3, 3, (0, 400, [(1000012, 0)]))])), (.inr (some (.inl (ck_one 1))), 245, ([], [], [(214, 3, 3, (4, 400, [(1000012, 0)]))]))])
set_option maxRecDepth 100000 in
theorem p2_s130_e : ck_ok p2_O none [] [(81, [p2_s30, p2_s31, p2_s32, p2_s33, p2_s34, p2_s35, p2_s36, p2_s37, p2_s38, p2_s39]), (93, [p2_s28]), (120, [p2_s47]), (118, [p2_s69]), (116, [p2_s82]), (115, [p2_s93]), (114, [p2_s95]), (113, [p2_s97]), (110, [p2_s102]), (107, [p2_s120]), (106, [p2_s127]), (104, [p2_s129])] 103 [] 178 p2_s130 = true := by decide +kernel
theorem p2_s130_s {X : Int → Int} {LX : Nat} : ck_Ok p2_O X LX 103 p2_s130 := ck_ok_s ⟨p2_nmu, ck_E1 (ck_S1 p2_s30_s (ck_S1 p2_s31_s (ck_S1 p2_s32_s (ck_S1 p2_s33_s (ck_S1 p2_s34_s (ck_S1 p2_s35_s (ck_S1 p2_s36_s (ck_S1 p2_s37_s (ck_S1 p2_s38_s (ck_S1 p2_s39_s ck_S0)))))))))) (ck_E1 (ck_S1 p2_s28_s ck_S0) (ck_E1 (ck_S1 p2_s47_s ck_S0) (ck_E1 (ck_S1 p2_s69_s ck_S0) (ck_E1 (ck_S1 p2_s82_s ck_S0) (ck_E1 (ck_S1 p2_s93_s ck_S0) (ck_E1 (ck_S1 p2_s95_s ck_S0) (ck_E1 (ck_S1 p2_s97_s ck_S0) (ck_E1 (ck_S1 p2_s102_s ck_S0) (ck_E1 (ck_S1 p2_s120_s ck_S0) (ck_E1 (ck_S1 p2_s127_s ck_S0) (ck_E1 (ck_S1 p2_s129_s ck_S0) ck_E0)))))))))))⟩ ck_X0 ck_l0 p2_s130_e
set_option maxRecDepth 100000 in
/-- GlacierMail$Words.needSign -/
def p2_s131 : ck_Sum := ((2, 0, 0), 245, [.inr (.inr (.inl 214)), .inl (ck_one 59)], ([], [], [(214, 3, 3, (0, 400, [(12, 0)]))]), ([(214, 3, 7)], []), [(.inr (some (.inl (ck_one 1))), 245, ([], [], [(214, 3, 3, (0, 400, [(1000012, 0)]))])), (.inr (some (.inl (ck_one 0))), 245, ([], [], [(214, 5, 5, (0, 400, [])), (214, 3, 3, (0, 400, [(12, 0)]))]))])
set_option maxRecDepth 100000 in
theorem p2_s131_e : ck_ok p2_O none [] [(76, [p2_s26]), (93, [p2_s28])] 98 [] 86 p2_s131 = true := by decide +kernel
theorem p2_s131_s {X : Int → Int} {LX : Nat} : ck_Ok p2_O X LX 98 p2_s131 := ck_ok_s ⟨p2_nmu, ck_E1 (ck_S1 p2_s26_s ck_S0) (ck_E1 (ck_S1 p2_s28_s ck_S0) ck_E0)⟩ ck_X0 ck_l0 p2_s131_e
set_option maxRecDepth 100000 in
/-- GlacierMail$TextReader.readText -/
def p2_s132 : ck_Sum := ((11, 0, 0), 245, [.inr (.inr (.inl 213)), .inl (0, 400, [])], ([], [], [(214, 3, 3, (0, 400, [(12, 0)]))]), ([(16, 0, 5), (17, 3, 3), (18, 0, 55), (19, 3, 3), (20, 0, 23), (21, 3, 3), (22, 0, 23), (23, 3, 3), (24, 0, 167), (25, 3, 3), (26, 0, 35), (214, 2, 7)], []), [(.inr (some (.inl (ck_one (-1)))), 245, ([], [], [(214, 5, 5, ck_one (-1))])), (.inr (some (.inl (0, 400, []))), 245, ([], [], [(214, 5, 5, (0, 400, []))]))])
set_option maxRecDepth 100000 in
theorem p2_s132_e : ck_ok p2_O none [] [(74, [p2_s23]), (75, [p2_s27]), (93, [p2_s28]), (121, [p2_s29]), (103, [p2_s130]), (98, [p2_s131])] 72 [(29, [some (.inr (.inr (.inl 213))), some (.inl (0, 400, [])), some (.inl (0, 23, []))], ([], [], []), 100, .inl 2, true)] 174 p2_s132 = true := by decide +kernel
theorem p2_s132_s {X : Int → Int} {LX : Nat} : ck_Ok p2_O X LX 72 p2_s132 := ck_ok_s ⟨p2_nmu, ck_E1 (ck_S1 p2_s23_s ck_S0) (ck_E1 (ck_S1 p2_s27_s ck_S0) (ck_E1 (ck_S1 p2_s28_s ck_S0) (ck_E1 (ck_S1 p2_s29_s ck_S0) (ck_E1 (ck_S1 p2_s130_s ck_S0) (ck_E1 (ck_S1 p2_s131_s ck_S0) ck_E0)))))⟩ ck_X0 ck_l0 p2_s132_e
set_option maxRecDepth 100000 in
/-- GlacierMail$Ice.reckonHeats -/
def p2_s133 : ck_Sum := ((0, 0, 0), 245, [.inr (.inr (.inl 200))], ([], [], []), ([(201, 0, 299)], []), [(.inr none, 245, ([], [], []))])
set_option maxRecDepth 100000 in
theorem p2_s133_e : ck_ok p2_O none [] [] 6 [(10, [some (.inr (.inr (.inl 200))), some (.inl ((-2147483648), 2147483647, [])), some (.inl (0, 300, []))], ([], [], []), 100, .inl 2, true)] 182 p2_s133 = true := by decide +kernel
theorem p2_s133_s {X : Int → Int} {LX : Nat} : ck_Ok p2_O X LX 6 p2_s133 := ck_ok_s ⟨p2_nmu, ck_E0⟩ ck_X0 ck_l0 p2_s133_e
set_option maxRecDepth 100000 in
/-- java/util/Arrays.fill -/
def p2_s134 : ck_Sum := ((0, 0, 0), 245, [.inr (.inr (.inl 202)), .inl (ck_one 0)], ([], [], []), ([(202, 0, 593)], []), [(.inr none, 245, ([], [], []))])
set_option maxRecDepth 100000 in
theorem p2_s134_e : ck_ok p2_O none [] [] 8 [(5, [some (.inr (.inr (.inl 202))), some (.inl (ck_one 0)), some (.inl (0, 594, [])), some (.inl (ck_one 594))], ([], [], []), 100, .inl 2, true)] 130 p2_s134 = true := by decide +kernel
theorem p2_s134_s {X : Int → Int} {LX : Nat} : ck_Ok p2_O X LX 8 p2_s134 := ck_ok_s ⟨p2_nmu, ck_E0⟩ ck_X0 ck_l0 p2_s134_e
set_option maxRecDepth 100000 in
/-- GlacierMail$Rows.size -/
def p2_s135 : ck_Sum := ((0, 0, 0), 245, [.inr (.inr (.inl 4))], ([], [], []), ([], []), [(.inr (some (.inl (0, 8, []))), 245, ([], [], []))])
set_option maxRecDepth 100000 in
theorem p2_s135_e : ck_ok p2_O none [] [] 9 [] 76 p2_s135 = true := by decide +kernel
theorem p2_s135_s {X : Int → Int} {LX : Nat} : ck_Ok p2_O X LX 9 p2_s135 := ck_ok_s ⟨p2_nmu, ck_E0⟩ ck_X0 ck_l0 p2_s135_e
set_option maxRecDepth 100000 in
/-- GlacierMail$Rows.get -/
def p2_s136 : ck_Sum := ((0, 0, 0), 245, [.inr (.inr (.inl 4)), .inl ((-2147483648), 2147483647, []), .inl ((-2147483648), 2147483647, [])], ([], [], []), ([], []), [(.inr (some (.inl (ck_one (-1)))), 245, ([], [], [])), (.inr (some (.inl (0, 98, []))), 245, ([], [], [(4, 3, 3, (1, 8, []))]))])
set_option maxRecDepth 100000 in
theorem p2_s136_e : ck_ok p2_O none [] [] 10 [] 114 p2_s136 = true := by decide +kernel
theorem p2_s136_s {X : Int → Int} {LX : Nat} : ck_Ok p2_O X LX 10 p2_s136 := ck_ok_s ⟨p2_nmu, ck_E0⟩ ck_X0 ck_l0 p2_s136_e
set_option maxRecDepth 100000 in
/-- GlacierMail$Ice.reckonSpeeds -/
def p2_s137 : ck_Sum := ((1, 0, 0), 245, [.inr (.inr (.inl 200))], ([], [], []), ([(202, 0, 593)], []), [(.inr none, 245, ([], [], []))])
set_option maxRecDepth 100000 in
theorem p2_s137_e : ck_ok p2_O none [] [(8, [p2_s134]), (9, [p2_s135]), (10, [p2_s136])] 7 [(10, [some (.inr (.inr (.inl 200))), some (.inl (0, 9, [])), none, none, none, none], ([], [], []), 100, .inl 1, true), (43, [some (.inr (.inr (.inl 200))), some (.inl (0, 7, [(100, 0)])), some (.inl (0, 98, [])), some (.inl (0, 6, [])), none, none], ([], [], []), 300, .inl 3, true), (79, [some (.inr (.inr (.inl 200))), some (.inl (0, 7, [(100, 0)])), some (.inl (0, 98, [])), some (.inl (0, 5, [(300, 0)])), some (.inl ((-1), 98, [])), some (.inl (0, 99, []))], ([], [], []), 500, .inl 5, true)] 290 p2_s137 = true := by decide +kernel
theorem p2_s137_s {X : Int → Int} {LX : Nat} : ck_Ok p2_O X LX 7 p2_s137 := ck_ok_s ⟨p2_nmu, ck_E1 (ck_S1 p2_s134_s ck_S0) (ck_E1 (ck_S1 p2_s135_s ck_S0) (ck_E1 (ck_S1 p2_s136_s ck_S0) ck_E0))⟩ ck_X0 ck_l0 p2_s137_e
set_option maxRecDepth 100000 in
/-- java/util/Arrays.fill -/
def p2_s138 : ck_Sum := ((0, 0, 0), 245, [.inr (.inr (.inl 203)), .inl (ck_one 0)], ([], [], []), ([(203, 0, 299)], []), [(.inr none, 245, ([], [], []))])
set_option maxRecDepth 100000 in
theorem p2_s138_e : ck_ok p2_O none [] [] 8 [(5, [some (.inr (.inr (.inl 203))), some (.inl (ck_one 0)), some (.inl (0, 300, [])), some (.inl (ck_one 300))], ([], [], []), 100, .inl 2, true)] 130 p2_s138 = true := by decide +kernel
theorem p2_s138_s {X : Int → Int} {LX : Nat} : ck_Ok p2_O X LX 8 p2_s138 := ck_ok_s ⟨p2_nmu, ck_E0⟩ ck_X0 ck_l0 p2_s138_e
set_option maxRecDepth 100000 in
/-- GlacierMail$Rows.size -/
def p2_s139 : ck_Sum := ((0, 0, 0), 245, [.inr (.inr (.inl 6))], ([], [], []), ([], []), [(.inr (some (.inl (0, 8, []))), 245, ([], [], []))])
set_option maxRecDepth 100000 in
theorem p2_s139_e : ck_ok p2_O none [] [] 9 [] 76 p2_s139 = true := by decide +kernel
theorem p2_s139_s {X : Int → Int} {LX : Nat} : ck_Ok p2_O X LX 9 p2_s139 := ck_ok_s ⟨p2_nmu, ck_E0⟩ ck_X0 ck_l0 p2_s139_e
set_option maxRecDepth 100000 in
/-- GlacierMail$Rows.get -/
def p2_s140 : ck_Sum := ((0, 0, 0), 245, [.inr (.inr (.inl 6)), .inl ((-2147483648), 2147483647, []), .inl ((-2147483648), 2147483647, [])], ([], [], []), ([], []), [(.inr (some (.inl (ck_one (-1)))), 245, ([], [], [])), (.inr (some (.inl (0, 299, []))), 245, ([], [], [(6, 3, 3, (1, 8, []))]))])
set_option maxRecDepth 100000 in
theorem p2_s140_e : ck_ok p2_O none [] [] 10 [] 114 p2_s140 = true := by decide +kernel
theorem p2_s140_s {X : Int → Int} {LX : Nat} : ck_Ok p2_O X LX 10 p2_s140 := ck_ok_s ⟨p2_nmu, ck_E0⟩ ck_X0 ck_l0 p2_s140_e
set_option maxRecDepth 100000 in
/-- GlacierMail$Ice.reckonFloods -/
def p2_s141 : ck_Sum := ((1, 0, 0), 245, [.inr (.inr (.inl 200))], ([], [], []), ([(203, 0, 299)], []), [(.inr none, 245, ([], [], []))])
set_option maxRecDepth 100000 in
theorem p2_s141_e : ck_ok p2_O none [] [(8, [p2_s138]), (9, [p2_s139]), (10, [p2_s140])] 12 [(10, [some (.inr (.inr (.inl 200))), some (.inl (0, 9, [])), none], ([], [], []), 100, .inl 1, true)] 214 p2_s141 = true := by decide +kernel
theorem p2_s141_s {X : Int → Int} {LX : Nat} : ck_Ok p2_O X LX 12 p2_s141 := ck_ok_s ⟨p2_nmu, ck_E1 (ck_S1 p2_s138_s ck_S0) (ck_E1 (ck_S1 p2_s139_s ck_S0) (ck_E1 (ck_S1 p2_s140_s ck_S0) ck_E0))⟩ ck_X0 ck_l0 p2_s141_e
set_option maxRecDepth 100000 in
/-- GlacierMail$Ice.renew -/
def p2_s142 : ck_Sum := ((2, 0, 0), 245, [.inr (.inr (.inl 200))], ([], [], []), ([(200, 6, 6), (201, 0, 299), (202, 0, 593), (203, 0, 299)], []), [(.inr none, 245, ([], [], [(200, 6, 6, ck_one 1)]))])
set_option maxRecDepth 100000 in
theorem p2_s142_e : ck_ok p2_O none [] [(6, [p2_s133]), (7, [p2_s137]), (12, [p2_s141])] 5 [] 90 p2_s142 = true := by decide +kernel
theorem p2_s142_s {X : Int → Int} {LX : Nat} : ck_Ok p2_O X LX 5 p2_s142 := ck_ok_s ⟨p2_nmu, ck_E1 (ck_S1 p2_s133_s ck_S0) (ck_E1 (ck_S1 p2_s137_s ck_S0) (ck_E1 (ck_S1 p2_s141_s ck_S0) ck_E0))⟩ ck_X0 ck_l0 p2_s142_e
set_option maxRecDepth 100000 in
/-- GlacierMail$History.forget -/
def p2_s143 : ck_Sum := ((0, 0, 0), 245, [.inr (.inr (.inl 42))], ([], [], []), ([(42, 2, 2)], []), [(.inr none, 245, ([], [], [(42, 2, 2, ck_one 0)]))])
set_option maxRecDepth 100000 in
theorem p2_s143_e : ck_ok p2_O none [] [] 62 [] 78 p2_s143 = true := by decide +kernel
theorem p2_s143_s {X : Int → Int} {LX : Nat} : ck_Ok p2_O X LX 62 p2_s143 := ck_ok_s ⟨p2_nmu, ck_E0⟩ ck_X0 ck_l0 p2_s143_e
set_option maxRecDepth 100000 in
/-- GlacierMail.forgetWays -/
def p2_s144 : ck_Sum := ((3, 0, 0), 245, [.inr (.inr (.inl 1))], ([], [], []), ([(1, 15, 15), (42, 2, 2), (200, 6, 6), (201, 0, 299), (202, 0, 593), (203, 0, 299)], []), [(.inr none, 245, ([], [], [(1, 15, 15, ck_one 0), (42, 2, 2, ck_one 0), (200, 6, 6, ck_one 1)]))])
set_option maxRecDepth 100000 in
theorem p2_s144_e : ck_ok p2_O none [] [(5, [p2_s142]), (62, [p2_s143])] 61 [] 90 p2_s144 = true := by decide +kernel
theorem p2_s144_s {X : Int → Int} {LX : Nat} : ck_Ok p2_O X LX 61 p2_s144 := ck_ok_s ⟨p2_nmu, ck_E1 (ck_S1 p2_s142_s ck_S0) (ck_E1 (ck_S1 p2_s143_s ck_S0) ck_E0)⟩ ck_X0 ck_l0 p2_s144_e
set_option maxRecDepth 100000 in
/-- GlacierMail.valley -/
def p2_s145 : ck_Sum := ((12, 1, 6), 245, [.inr (.inr (.inl 1))], ([], [(3, 8, 0), (16, 8, 100016)], [(214, 3, 3, (0, 400, [(12, 0)])), (1, 1, 1, (0, 400, [(6, 0)])), (3, 6, 6, (0, 299, [(10, 0)]))]), ([(1, 1, 2), (1, 15, 15), (3, 0, 7), (4, 3, 3), (5, 0, 55), (6, 3, 3), (7, 0, 23), (8, 3, 3), (9, 0, 23), (10, 3, 3), (11, 0, 167), (12, 3, 3), (13, 0, 35), (14, 3, 3), (15, 0, 71), (16, 0, 7), (17, 3, 3), (18, 0, 55), (19, 3, 3), (20, 0, 23), (21, 3, 3), (22, 0, 23), (23, 3, 3), (24, 0, 167), (25, 3, 3), (26, 0, 35), (27, 3, 3), (28, 0, 71), (42, 2, 2), (200, 6, 6), (201, 0, 299), (202, 0, 593), (203, 0, 299), (214, 2, 7)], [(3, 8), (16, 8)]), [(.inr (some (.inl ((-2147483648), (-1), []))), 245, ([], [(3, 8, 0), (16, 8, 0)], [(3, 7, 7, ((-2147483648), (-1), [])), (1, 15, 15, ck_one 0), (42, 2, 2, ck_one 0), (200, 6, 6, ck_one 1), (1, 1, 1, ck_one 0), (1, 2, 2, ck_one (-1)), (214, 5, 5, ck_one (-1)), (16, 6, 6, (0, 299, [(10, 0)]))])), (.inr (some (.inl (0, 2147483647, []))), 245, ([], [(3, 8, 0), (16, 8, 0)], [(3, 7, 7, (0, 2147483647, [])), (1, 15, 15, ck_one 0), (42, 2, 2, ck_one 0), (200, 6, 6, ck_one 1), (1, 1, 1, ck_one 0), (1, 2, 2, ck_one (-1)), (214, 5, 5, ck_one (-1)), (16, 6, 6, (0, 299, [(10, 0)]))])), (.inl 1, 245, ([], [(3, 8, 0), (16, 8, 0)], [(3, 7, 7, (12, 2147483647, [])), (1, 1, 1, ck_one 0), (1, 2, 2, ck_one (-1)), (214, 5, 5, ck_one (-1)), (16, 6, 6, (0, 299, [(10, 0)])), (3, 6, 6, (0, 299, [(10, 0)]))])), (.inl 0, 245, ([], [(3, 8, 0), (16, 8, 0)], [(1, 1, 1, ck_one 0), (1, 2, 2, (0, 400, [])), (214, 5, 5, (0, 400, [])), (16, 6, 6, (0, 299, [(10, 0)])), (3, 6, 6, (0, 299, [(10, 0)]))]))])
set_option maxRecDepth 100000 in
theorem p2_s145_e : ck_ok p2_O none [] [(57, [p2_s15, p2_s22]), (72, [p2_s132]), (61, [p2_s144])] 71 [] 154 p2_s145 = true := by decide +kernel
theorem p2_s145_s {X : Int → Int} {LX : Nat} : ck_Ok p2_O X LX 71 p2_s145 := ck_ok_s ⟨p2_nmu, ck_E1 (ck_S1 p2_s15_s (ck_S1 p2_s22_s ck_S0)) (ck_E1 (ck_S1 p2_s132_s ck_S0) (ck_E1 (ck_S1 p2_s144_s ck_S0) ck_E0))⟩ ck_X0 ck_l0 p2_s145_e
set_option maxRecDepth 100000 in
/-- GlacierMailModel.uses -/
def p2_s146 : ck_Sum := ((0, 0, 0), 245, [.inr (.inr (.inl 226))], ([], [], [(226, 8, 8, (0, 400, [(7, 0)]))]), ([(226, 0, 0), (226, 8, 10)], []), [(.inr none, 245, ([], [], [(226, 9, 9, ck_one 0), (226, 8, 8, ck_one 0), (226, 10, 10, (0, 400, [(7, 0)])), (226, 0, 0, ck_one 0)]))])
set_option maxRecDepth 100000 in
theorem p2_s146_e : ck_ok p2_O none [] [] 244 [] 98 p2_s146 = true := by decide +kernel
theorem p2_s146_s {X : Int → Int} {LX : Nat} : ck_Ok p2_O X LX 244 p2_s146 := ck_ok_s ⟨p2_nmu, ck_E0⟩ ck_X0 ck_l0 p2_s146_e
set_option maxRecDepth 100000 in
/-- GlacierMailModel.isAt -/
def p2_s147 : ck_Sum := ((0, 0, 0), 245, [.inr (.inr (.inl 226)), .inl (ck_one 32), .inl (ck_one 32)], ([], [], [(226, 9, 9, (0, 400, [(1, 0)]))]), ([], []), [(.inr (some (.inl (ck_one 0))), 245, ([], [], [])), (.inr (some (.inl (ck_one 1))), 245, ([], [], [(226, 10, 10, (1, 400, [])), (226, 9, 9, (0, 399, [(1, 0)]))]))])
set_option maxRecDepth 100000 in
theorem p2_s147_e : ck_ok p2_O none [] [] 246 [] 114 p2_s147 = true := by decide +kernel
theorem p2_s147_s {X : Int → Int} {LX : Nat} : ck_Ok p2_O X LX 246 p2_s147 := ck_ok_s ⟨p2_nmu, ck_E0⟩ ck_X0 ck_l0 p2_s147_e
set_option maxRecDepth 100000 in
/-- GlacierMailModel.blanks -/
def p2_s148 : ck_Sum := ((1, 0, 0), 245, [.inr (.inr (.inl 226))], ([], [], [(226, 9, 9, (0, 400, [(1, 0)]))]), ([(226, 9, 9), (226, 11, 11)], []), [(.inr none, 245, ([], [], [(226, 11, 11, (0, 400, [(1000001, 0)])), (226, 9, 9, (0, 400, [(1000001, 0)]))]))])
set_option maxRecDepth 100000 in
theorem p2_s148_e : ck_ok p2_O none [] [(246, [p2_s147])] 245 [(0, [some (.inr (.inr (.inl 226)))], ([], [], [(226, 9, 9, (0, 400, [(1000001, 0)]))]), 100, .inr (226, 9), true)] 142 p2_s148 = true := by decide +kernel
theorem p2_s148_s {X : Int → Int} {LX : Nat} : ck_Ok p2_O X LX 245 p2_s148 := ck_ok_s ⟨p2_nmu, ck_E1 (ck_S1 p2_s147_s ck_S0) ck_E0⟩ ck_X0 ck_l0 p2_s148_e
set_option maxRecDepth 100000 in
/-- GlacierMailModel.isAt -/
def p2_s149 : ck_Sum := ((0, 0, 0), 245, [.inr (.inr (.inl 226)), .inl (ck_one 97), .inl (ck_one 122)], ([], [], [(226, 9, 9, (0, 400, [(1, 0)]))]), ([], []), [(.inr (some (.inl (ck_one 0))), 245, ([], [], [])), (.inr (some (.inl (ck_one 1))), 245, ([], [], [(226, 10, 10, (1, 400, [])), (226, 9, 9, (0, 399, [(1, 0)]))]))])
set_option maxRecDepth 100000 in
theorem p2_s149_e : ck_ok p2_O none [] [] 246 [] 114 p2_s149 = true := by decide +kernel
theorem p2_s149_s {X : Int → Int} {LX : Nat} : ck_Ok p2_O X LX 246 p2_s149 := ck_ok_s ⟨p2_nmu, ck_E0⟩ ck_X0 ck_l0 p2_s149_e
set_option maxRecDepth 100000 in
/-- GlacierMailModel.letterRow -/
def p2_s150 : ck_Sum := ((2, 0, 0), 245, [.inr (.inr (.inl 226))], ([], [], [(226, 9, 9, (0, 400, [(1, 0)]))]), ([(226, 9, 9), (226, 11, 11)], []), [(.inr none, 245, ([], [], [(226, 9, 9, (0, 400, [(1000001, 0)])), (226, 11, 11, (0, 400, [(1000001, 0)]))]))])
set_option maxRecDepth 100000 in
theorem p2_s150_e : ck_ok p2_O none [] [(245, [p2_s148]), (246, [p2_s149])] 248 [(4, [some (.inr (.inr (.inl 226)))], ([], [], [(226, 11, 11, (0, 400, [(1000001, 0)])), (226, 9, 9, (0, 400, [(1000001, 0)]))]), 100, .inr (226, 9), true)] 142 p2_s150 = true := by decide +kernel
theorem p2_s150_s {X : Int → Int} {LX : Nat} : ck_Ok p2_O X LX 248 p2_s150 := ck_ok_s ⟨p2_nmu, ck_E1 (ck_S1 p2_s148_s ck_S0) (ck_E1 (ck_S1 p2_s149_s ck_S0) ck_E0)⟩ ck_X0 ck_l0 p2_s150_e
set_option maxRecDepth 100000 in
/-- GlacierMailModel.isWord -/
def p2_s151 : ck_Sum := ((6, 0, 0), 245, [.inr (.inr (.inl 226)), .inr (.inr (.inr 47))], ([], [], [(226, 9, 9, (0, 400, [(1, 0)]))]), ([], []), [(.inr (some (.inl (ck_one 0))), 245, ([], [], [])), (.inr (some (.inl (ck_one 1))), 245, ([], [], [(226, 9, 9, (5, 400, [(1, 0)])), (226, 11, 11, (0, 395, []))]))])
set_option maxRecDepth 100000 in
theorem p2_s151_e : ck_ok p2_O none [] [] 250 [] 332 p2_s151 = true := by decide +kernel
theorem p2_s151_s {X : Int → Int} {LX : Nat} : ck_Ok p2_O X LX 250 p2_s151 := ck_ok_s ⟨p2_nmu, ck_E0⟩ ck_X0 ck_l0 p2_s151_e
set_option maxRecDepth 100000 in
/-- GlacierMailModel.isWord -/
def p2_s152 : ck_Sum := ((6, 0, 0), 245, [.inr (.inr (.inl 226)), .inr (.inr (.inr 48))], ([], [], [(226, 9, 9, (0, 400, [(1, 0)]))]), ([], []), [(.inr (some (.inl (ck_one 0))), 245, ([], [], [])), (.inr (some (.inl (ck_one 1))), 245, ([], [], [(226, 9, 9, (4, 400, [(1, 0)])), (226, 11, 11, (0, 396, []))]))])
set_option maxRecDepth 100000 in
theorem p2_s152_e : ck_ok p2_O none [] [] 250 [] 288 p2_s152 = true := by decide +kernel
theorem p2_s152_s {X : Int → Int} {LX : Nat} : ck_Ok p2_O X LX 250 p2_s152 := ck_ok_s ⟨p2_nmu, ck_E0⟩ ck_X0 ck_l0 p2_s152_e
set_option maxRecDepth 100000 in
/-- GlacierMailModel.isWord -/
def p2_s153 : ck_Sum := ((6, 0, 0), 245, [.inr (.inr (.inl 226)), .inr (.inr (.inr 49))], ([], [], [(226, 9, 9, (0, 400, [(1, 0)]))]), ([], []), [(.inr (some (.inl (ck_one 0))), 245, ([], [], [])), (.inr (some (.inl (ck_one 1))), 245, ([], [], [(226, 9, 9, (7, 400, [(1, 0)])), (226, 11, 11, (0, 393, []))]))])
set_option maxRecDepth 100000 in
theorem p2_s153_e : ck_ok p2_O none [] [] 250 [] 420 p2_s153 = true := by decide +kernel
theorem p2_s153_s {X : Int → Int} {LX : Nat} : ck_Ok p2_O X LX 250 p2_s153 := ck_ok_s ⟨p2_nmu, ck_E0⟩ ck_X0 ck_l0 p2_s153_e
set_option maxRecDepth 100000 in
/-- GlacierMailModel.isWord -/
def p2_s154 : ck_Sum := ((6, 0, 0), 245, [.inr (.inr (.inl 226)), .inr (.inr (.inr 50))], ([], [], [(226, 9, 9, (0, 400, [(1, 0)]))]), ([], []), [(.inr (some (.inl (ck_one 0))), 245, ([], [], [])), (.inr (some (.inl (ck_one 1))), 245, ([], [], [(226, 9, 9, (4, 400, [(1, 0)])), (226, 11, 11, (0, 396, []))]))])
set_option maxRecDepth 100000 in
theorem p2_s154_e : ck_ok p2_O none [] [] 250 [] 288 p2_s154 = true := by decide +kernel
theorem p2_s154_s {X : Int → Int} {LX : Nat} : ck_Ok p2_O X LX 250 p2_s154 := ck_ok_s ⟨p2_nmu, ck_E0⟩ ck_X0 ck_l0 p2_s154_e
set_option maxRecDepth 100000 in
/-- GlacierMailModel.isWord -/
def p2_s155 : ck_Sum := ((6, 0, 0), 245, [.inr (.inr (.inl 226)), .inr (.inr (.inr 52))], ([], [], [(226, 9, 9, (0, 400, [(1, 0)]))]), ([], []), [(.inr (some (.inl (ck_one 0))), 245, ([], [], [])), (.inr (some (.inl (ck_one 1))), 245, ([], [], [(226, 9, 9, (5, 400, [(1, 0)])), (226, 11, 11, (0, 395, []))]))])
set_option maxRecDepth 100000 in
theorem p2_s155_e : ck_ok p2_O none [] [] 250 [] 332 p2_s155 = true := by decide +kernel
theorem p2_s155_s {X : Int → Int} {LX : Nat} : ck_Ok p2_O X LX 250 p2_s155 := ck_ok_s ⟨p2_nmu, ck_E0⟩ ck_X0 ck_l0 p2_s155_e
set_option maxRecDepth 100000 in
/-- GlacierMailModel.isWord -/
def p2_s156 : ck_Sum := ((6, 0, 0), 245, [.inr (.inr (.inl 226)), .inr (.inr (.inr 53))], ([], [], [(226, 9, 9, (0, 400, [(1, 0)]))]), ([], []), [(.inr (some (.inl (ck_one 0))), 245, ([], [], [])), (.inr (some (.inl (ck_one 1))), 245, ([], [], [(226, 9, 9, (6, 400, [(1, 0)])), (226, 11, 11, (0, 394, []))]))])
set_option maxRecDepth 100000 in
theorem p2_s156_e : ck_ok p2_O none [] [] 250 [] 376 p2_s156 = true := by decide +kernel
theorem p2_s156_s {X : Int → Int} {LX : Nat} : ck_Ok p2_O X LX 250 p2_s156 := ck_ok_s ⟨p2_nmu, ck_E0⟩ ck_X0 ck_l0 p2_s156_e
set_option maxRecDepth 100000 in
/-- GlacierMailModel.isWord -/
def p2_s157 : ck_Sum := ((6, 0, 0), 245, [.inr (.inr (.inl 226)), .inr (.inr (.inr 55))], ([], [], [(226, 9, 9, (0, 400, [(1, 0)]))]), ([], []), [(.inr (some (.inl (ck_one 0))), 245, ([], [], [])), (.inr (some (.inl (ck_one 1))), 245, ([], [], [(226, 9, 9, (4, 400, [(1, 0)])), (226, 11, 11, (0, 396, []))]))])
set_option maxRecDepth 100000 in
theorem p2_s157_e : ck_ok p2_O none [] [] 250 [] 288 p2_s157 = true := by decide +kernel
theorem p2_s157_s {X : Int → Int} {LX : Nat} : ck_Ok p2_O X LX 250 p2_s157 := ck_ok_s ⟨p2_nmu, ck_E0⟩ ck_X0 ck_l0 p2_s157_e
set_option maxRecDepth 100000 in
/-- GlacierMailModel.isWord -/
def p2_s158 : ck_Sum := ((6, 0, 0), 245, [.inr (.inr (.inl 226)), .inr (.inr (.inr 56))], ([], [], [(226, 9, 9, (0, 400, [(1, 0)]))]), ([], []), [(.inr (some (.inl (ck_one 0))), 245, ([], [], [])), (.inr (some (.inl (ck_one 1))), 245, ([], [], [(226, 9, 9, (5, 400, [(1, 0)])), (226, 11, 11, (0, 395, []))]))])
set_option maxRecDepth 100000 in
theorem p2_s158_e : ck_ok p2_O none [] [] 250 [] 332 p2_s158 = true := by decide +kernel
theorem p2_s158_s {X : Int → Int} {LX : Nat} : ck_Ok p2_O X LX 250 p2_s158 := ck_ok_s ⟨p2_nmu, ck_E0⟩ ck_X0 ck_l0 p2_s158_e
set_option maxRecDepth 100000 in
/-- GlacierMailModel.isWord -/
def p2_s159 : ck_Sum := ((6, 0, 0), 245, [.inr (.inr (.inl 226)), .inr (.inr (.inr 57))], ([], [], [(226, 9, 9, (0, 400, [(1, 0)]))]), ([], []), [(.inr (some (.inl (ck_one 0))), 245, ([], [], [])), (.inr (some (.inl (ck_one 1))), 245, ([], [], [(226, 9, 9, (6, 400, [(1, 0)])), (226, 11, 11, (0, 394, []))]))])
set_option maxRecDepth 100000 in
theorem p2_s159_e : ck_ok p2_O none [] [] 250 [] 376 p2_s159 = true := by decide +kernel
theorem p2_s159_s {X : Int → Int} {LX : Nat} : ck_Ok p2_O X LX 250 p2_s159 := ck_ok_s ⟨p2_nmu, ck_E0⟩ ck_X0 ck_l0 p2_s159_e
set_option maxRecDepth 100000 in
/-- GlacierMailModel.isWord -/
def p2_s160 : ck_Sum := ((6, 0, 0), 245, [.inr (.inr (.inl 226)), .inr (.inr (.inr 58))], ([], [], [(226, 9, 9, (0, 400, [(1, 0)]))]), ([], []), [(.inr (some (.inl (ck_one 0))), 245, ([], [], [])), (.inr (some (.inl (ck_one 1))), 245, ([], [], [(226, 9, 9, (4, 400, [(1, 0)])), (226, 11, 11, (0, 396, []))]))])
set_option maxRecDepth 100000 in
theorem p2_s160_e : ck_ok p2_O none [] [] 250 [] 288 p2_s160 = true := by decide +kernel
theorem p2_s160_s {X : Int → Int} {LX : Nat} : ck_Ok p2_O X LX 250 p2_s160 := ck_ok_s ⟨p2_nmu, ck_E0⟩ ck_X0 ck_l0 p2_s160_e
set_option maxRecDepth 100000 in
/-- GlacierMailModel.isAt -/
def p2_s161 : ck_Sum := ((0, 0, 0), 245, [.inr (.inr (.inl 226)), .inl (ck_one 48), .inl (ck_one 57)], ([], [], [(226, 9, 9, (0, 400, [(1, 0)]))]), ([], []), [(.inr (some (.inl (ck_one 0))), 245, ([], [], [])), (.inr (some (.inl (ck_one 1))), 245, ([], [], [(226, 10, 10, (1, 400, [])), (226, 9, 9, (0, 399, [(1, 0)]))]))])
set_option maxRecDepth 100000 in
theorem p2_s161_e : ck_ok p2_O none [] [] 246 [] 114 p2_s161 = true := by decide +kernel
theorem p2_s161_s {X : Int → Int} {LX : Nat} : ck_Ok p2_O X LX 246 p2_s161 := ck_ok_s ⟨p2_nmu, ck_E0⟩ ck_X0 ck_l0 p2_s161_e
set_option maxRecDepth 100000 in
/-- GlacierMailModel.figures -/
def p2_s162 : ck_Sum := ((2, 0, 0), 245, [.inr (.inr (.inl 226)), .inl (ck_one 0), .inl (ck_one 9999), .inl (ck_one 4)], ([], [], [(226, 9, 9, (0, 400, [(1, 0)]))]), ([(226, 9, 9), (226, 11, 11)], []), [(.inr (some (.inl (ck_one (-1)))), 245, ([], [], [(226, 9, 9, (0, 400, [(1000001, 0)])), (226, 11, 11, (0, 400, [(1000001, 0)]))])), (.inr (some (.inl (0, 9999, []))), 245, ([], [], [(226, 9, 9, (0, 400, [(1000001, 0)])), (226, 11, 11, (0, 400, [(1000001, 0)]))]))])
set_option maxRecDepth 100000 in
theorem p2_s162_e : ck_ok p2_O none [] [(245, [p2_s148]), (246, [p2_s161])] 256 [(7, [some (.inr (.inr (.inl 226))), some (.inl (ck_one 0)), some (.inl (ck_one 9999)), some (.inl (ck_one 4)), some (.inl ((-2147483648), 2147483647, []))], ([], [], [(226, 11, 11, (0, 400, [(1000001, 0)])), (226, 9, 9, (0, 400, [(1000001, 0)]))]), 100, .inr (226, 9), true)] 222 p2_s162 = true := by decide +kernel
theorem p2_s162_s {X : Int → Int} {LX : Nat} : ck_Ok p2_O X LX 256 p2_s162 := ck_ok_s ⟨p2_nmu, ck_E1 (ck_S1 p2_s148_s ck_S0) (ck_E1 (ck_S1 p2_s161_s ck_S0) ck_E0)⟩ ck_X0 ck_l0 p2_s162_e
set_option maxRecDepth 100000 in
/-- GlacierMailModel.number -/
def p2_s163 : ck_Sum := ((3, 0, 0), 245, [.inr (.inr (.inl 226)), .inl (ck_one 0), .inl (ck_one 9999)], ([], [], [(226, 9, 9, (0, 400, [(1, 0)]))]), ([(226, 9, 9), (226, 11, 11)], []), [(.inr (some (.inl (ck_one (-1)))), 245, ([], [], [(226, 9, 9, (0, 400, [(1000001, 0)])), (226, 11, 11, (0, 400, [(1000001, 0)]))])), (.inr (some (.inl (0, 9999, []))), 245, ([], [], [(226, 9, 9, (0, 400, [(1000001, 0)])), (226, 11, 11, (0, 400, [(1000001, 0)]))]))])
set_option maxRecDepth 100000 in
theorem p2_s163_e : ck_ok p2_O none [] [(256, [p2_s162])] 255 [] 82 p2_s163 = true := by decide +kernel
theorem p2_s163_s {X : Int → Int} {LX : Nat} : ck_Ok p2_O X LX 255 p2_s163 := ck_ok_s ⟨p2_nmu, ck_E1 (ck_S1 p2_s162_s ck_S0) ck_E0⟩ ck_X0 ck_l0 p2_s163_e
set_option maxRecDepth 100000 in
/-- GlacierMailModel.figures -/
def p2_s164 : ck_Sum := ((2, 0, 0), 245, [.inr (.inr (.inl 226)), .inl (ck_one 0), .inl (0, 6, []), .inl (ck_one 4)], ([], [], [(226, 9, 9, (0, 400, [(1, 0)]))]), ([(226, 9, 9), (226, 11, 11)], []), [(.inr (some (.inl (ck_one (-1)))), 245, ([], [], [(226, 9, 9, (0, 400, [(1000001, 0)])), (226, 11, 11, (0, 400, [(1000001, 0)]))])), (.inr (some (.inl (0, 6, []))), 245, ([], [], [(226, 9, 9, (0, 400, [(1000001, 0)])), (226, 11, 11, (0, 400, [(1000001, 0)]))]))])
set_option maxRecDepth 100000 in
theorem p2_s164_e : ck_ok p2_O none [] [(245, [p2_s148]), (246, [p2_s161])] 256 [(7, [some (.inr (.inr (.inl 226))), some (.inl (ck_one 0)), some (.inl (0, 6, [])), some (.inl (ck_one 4)), some (.inl ((-2147483648), 2147483647, []))], ([], [], [(226, 11, 11, (0, 400, [(1000001, 0)])), (226, 9, 9, (0, 400, [(1000001, 0)]))]), 100, .inr (226, 9), true)] 222 p2_s164 = true := by decide +kernel
theorem p2_s164_s {X : Int → Int} {LX : Nat} : ck_Ok p2_O X LX 256 p2_s164 := ck_ok_s ⟨p2_nmu, ck_E1 (ck_S1 p2_s148_s ck_S0) (ck_E1 (ck_S1 p2_s161_s ck_S0) ck_E0)⟩ ck_X0 ck_l0 p2_s164_e
set_option maxRecDepth 100000 in
/-- GlacierMailModel.number -/
def p2_s165 : ck_Sum := ((3, 0, 0), 245, [.inr (.inr (.inl 226)), .inl (ck_one 0), .inl (0, 6, [])], ([], [], [(226, 9, 9, (0, 400, [(1, 0)]))]), ([(226, 9, 9), (226, 11, 11)], []), [(.inr (some (.inl (ck_one (-1)))), 245, ([], [], [(226, 9, 9, (0, 400, [(1000001, 0)])), (226, 11, 11, (0, 400, [(1000001, 0)]))])), (.inr (some (.inl (0, 6, []))), 245, ([], [], [(226, 9, 9, (0, 400, [(1000001, 0)])), (226, 11, 11, (0, 400, [(1000001, 0)]))]))])
set_option maxRecDepth 100000 in
theorem p2_s165_e : ck_ok p2_O none [] [(256, [p2_s164])] 255 [] 82 p2_s165 = true := by decide +kernel
theorem p2_s165_s {X : Int → Int} {LX : Nat} : ck_Ok p2_O X LX 255 p2_s165 := ck_ok_s ⟨p2_nmu, ck_E1 (ck_S1 p2_s164_s ck_S0) ck_E0⟩ ck_X0 ck_l0 p2_s165_e
set_option maxRecDepth 100000 in
/-- GlacierMailModel.lanes -/
def p2_s166 : ck_Sum := ((0, 0, 0), 245, [.inr (.inr (.inl 226))], ([], [], []), ([], []), [(.inr (some (.inl (0, 6, []))), 245, ([], [], []))])
set_option maxRecDepth 100000 in
theorem p2_s166_e : ck_ok p2_O none [] [] 261 [] 80 p2_s166 = true := by decide +kernel
theorem p2_s166_s {X : Int → Int} {LX : Nat} : ck_Ok p2_O X LX 261 p2_s166 := ck_ok_s ⟨p2_nmu, ck_E0⟩ ck_X0 ck_l0 p2_s166_e
set_option maxRecDepth 100000 in
/-- GlacierMailModel.figures -/
def p2_s167 : ck_Sum := ((2, 0, 0), 245, [.inr (.inr (.inl 226)), .inl (ck_one 0), .inl (ck_one 20), .inl (ck_one 4)], ([], [], [(226, 9, 9, (0, 400, [(1, 0)]))]), ([(226, 9, 9), (226, 11, 11)], []), [(.inr (some (.inl (ck_one (-1)))), 245, ([], [], [(226, 9, 9, (0, 400, [(1000001, 0)])), (226, 11, 11, (0, 400, [(1000001, 0)]))])), (.inr (some (.inl (0, 20, []))), 245, ([], [], [(226, 9, 9, (0, 400, [(1000001, 0)])), (226, 11, 11, (0, 400, [(1000001, 0)]))]))])
set_option maxRecDepth 100000 in
theorem p2_s167_e : ck_ok p2_O none [] [(245, [p2_s148]), (246, [p2_s161])] 256 [(7, [some (.inr (.inr (.inl 226))), some (.inl (ck_one 0)), some (.inl (ck_one 20)), some (.inl (ck_one 4)), some (.inl ((-2147483648), 2147483647, []))], ([], [], [(226, 11, 11, (0, 400, [(1000001, 0)])), (226, 9, 9, (0, 400, [(1000001, 0)]))]), 100, .inr (226, 9), true)] 222 p2_s167 = true := by decide +kernel
theorem p2_s167_s {X : Int → Int} {LX : Nat} : ck_Ok p2_O X LX 256 p2_s167 := ck_ok_s ⟨p2_nmu, ck_E1 (ck_S1 p2_s148_s ck_S0) (ck_E1 (ck_S1 p2_s161_s ck_S0) ck_E0)⟩ ck_X0 ck_l0 p2_s167_e
set_option maxRecDepth 100000 in
/-- GlacierMailModel.number -/
def p2_s168 : ck_Sum := ((3, 0, 0), 245, [.inr (.inr (.inl 226)), .inl (ck_one 0), .inl (ck_one 20)], ([], [], [(226, 9, 9, (0, 400, [(1, 0)]))]), ([(226, 9, 9), (226, 11, 11)], []), [(.inr (some (.inl (ck_one (-1)))), 245, ([], [], [(226, 9, 9, (0, 400, [(1000001, 0)])), (226, 11, 11, (0, 400, [(1000001, 0)]))])), (.inr (some (.inl (0, 20, []))), 245, ([], [], [(226, 9, 9, (0, 400, [(1000001, 0)])), (226, 11, 11, (0, 400, [(1000001, 0)]))]))])
set_option maxRecDepth 100000 in
theorem p2_s168_e : ck_ok p2_O none [] [(256, [p2_s167])] 255 [] 82 p2_s168 = true := by decide +kernel
theorem p2_s168_s {X : Int → Int} {LX : Nat} : ck_Ok p2_O X LX 255 p2_s168 := ck_ok_s ⟨p2_nmu, ck_E1 (ck_S1 p2_s167_s ck_S0) ck_E0⟩ ck_X0 ck_l0 p2_s168_e
set_option maxRecDepth 100000 in
/-- GlacierMailModel.readSpeeds -/
def p2_s169 : ck_Sum := ((4, 0, 0), 245, [.inr (.inr (.inl 226)), .inl (ck_one 287)], ([], [], [(226, 9, 9, (0, 400, [(1, 0)]))]), ([(226, 9, 9), (226, 11, 11), (227, 287, 292)], []), [(.inr (some (.inl (ck_one 1))), 245, ([], [], [(226, 9, 9, (0, 400, [(1000001, 0)]))])), (.inr (some (.inl (ck_one 0))), 245, ([], [], [(226, 9, 9, (0, 400, [(1000001, 0)])), (226, 11, 11, (0, 400, [(1000001, 0)]))]))])
set_option maxRecDepth 100000 in
theorem p2_s169_e : ck_ok p2_O none [] [(261, [p2_s166]), (255, [p2_s168])] 260 [(2, [some (.inr (.inr (.inl 226))), some (.inl (ck_one 287)), some (.inl (0, 6, [])), none], ([], [], [(226, 9, 9, (0, 400, [(1000001, 0)]))]), 100, .inl 2, true)] 174 p2_s169 = true := by decide +kernel
theorem p2_s169_s {X : Int → Int} {LX : Nat} : ck_Ok p2_O X LX 260 p2_s169 := ck_ok_s ⟨p2_nmu, ck_E1 (ck_S1 p2_s166_s ck_S0) (ck_E1 (ck_S1 p2_s168_s ck_S0) ck_E0)⟩ ck_X0 ck_l0 p2_s169_e
set_option maxRecDepth 100000 in
/-- GlacierMailModel.readSpeeds -/
def p2_s170 : ck_Sum := ((4, 0, 0), 245, [.inr (.inr (.inl 226)), .inl (ck_one 317)], ([], [], [(226, 9, 9, (0, 400, [(1, 0)]))]), ([(226, 9, 9), (226, 11, 11), (227, 317, 322)], []), [(.inr (some (.inl (ck_one 1))), 245, ([], [], [(226, 9, 9, (0, 400, [(1000001, 0)]))])), (.inr (some (.inl (ck_one 0))), 245, ([], [], [(226, 9, 9, (0, 400, [(1000001, 0)])), (226, 11, 11, (0, 400, [(1000001, 0)]))]))])
set_option maxRecDepth 100000 in
theorem p2_s170_e : ck_ok p2_O none [] [(261, [p2_s166]), (255, [p2_s168])] 260 [(2, [some (.inr (.inr (.inl 226))), some (.inl (ck_one 317)), some (.inl (0, 6, [])), none], ([], [], [(226, 9, 9, (0, 400, [(1000001, 0)]))]), 100, .inl 2, true)] 174 p2_s170 = true := by decide +kernel
theorem p2_s170_s {X : Int → Int} {LX : Nat} : ck_Ok p2_O X LX 260 p2_s170 := ck_ok_s ⟨p2_nmu, ck_E1 (ck_S1 p2_s166_s ck_S0) (ck_E1 (ck_S1 p2_s168_s ck_S0) ck_E0)⟩ ck_X0 ck_l0 p2_s170_e
set_option maxRecDepth 100000 in
/-- GlacierMailModel.readSpeeds -/
def p2_s171 : ck_Sum := ((4, 0, 0), 245, [.inr (.inr (.inl 226)), .inl (ck_one 311)], ([], [], [(226, 9, 9, (0, 400, [(1, 0)]))]), ([(226, 9, 9), (226, 11, 11), (227, 311, 316)], []), [(.inr (some (.inl (ck_one 1))), 245, ([], [], [(226, 9, 9, (0, 400, [(1000001, 0)]))])), (.inr (some (.inl (ck_one 0))), 245, ([], [], [(226, 9, 9, (0, 400, [(1000001, 0)])), (226, 11, 11, (0, 400, [(1000001, 0)]))]))])
set_option maxRecDepth 100000 in
theorem p2_s171_e : ck_ok p2_O none [] [(261, [p2_s166]), (255, [p2_s168])] 260 [(2, [some (.inr (.inr (.inl 226))), some (.inl (ck_one 311)), some (.inl (0, 6, [])), none], ([], [], [(226, 9, 9, (0, 400, [(1000001, 0)]))]), 100, .inl 2, true)] 174 p2_s171 = true := by decide +kernel
theorem p2_s171_s {X : Int → Int} {LX : Nat} : ck_Ok p2_O X LX 260 p2_s171 := ck_ok_s ⟨p2_nmu, ck_E1 (ck_S1 p2_s166_s ck_S0) (ck_E1 (ck_S1 p2_s168_s ck_S0) ck_E0)⟩ ck_X0 ck_l0 p2_s171_e
set_option maxRecDepth 100000 in
/-- GlacierMailModel.readSpeeds -/
def p2_s172 : ck_Sum := ((4, 0, 0), 245, [.inr (.inr (.inl 226)), .inl (ck_one 305)], ([], [], [(226, 9, 9, (0, 400, [(1, 0)]))]), ([(226, 9, 9), (226, 11, 11), (227, 305, 310)], []), [(.inr (some (.inl (ck_one 1))), 245, ([], [], [(226, 9, 9, (0, 400, [(1000001, 0)]))])), (.inr (some (.inl (ck_one 0))), 245, ([], [], [(226, 9, 9, (0, 400, [(1000001, 0)])), (226, 11, 11, (0, 400, [(1000001, 0)]))]))])
set_option maxRecDepth 100000 in
theorem p2_s172_e : ck_ok p2_O none [] [(261, [p2_s166]), (255, [p2_s168])] 260 [(2, [some (.inr (.inr (.inl 226))), some (.inl (ck_one 305)), some (.inl (0, 6, [])), none], ([], [], [(226, 9, 9, (0, 400, [(1000001, 0)]))]), 100, .inl 2, true)] 174 p2_s172 = true := by decide +kernel
theorem p2_s172_s {X : Int → Int} {LX : Nat} : ck_Ok p2_O X LX 260 p2_s172 := ck_ok_s ⟨p2_nmu, ck_E1 (ck_S1 p2_s166_s ck_S0) (ck_E1 (ck_S1 p2_s168_s ck_S0) ck_E0)⟩ ck_X0 ck_l0 p2_s172_e
set_option maxRecDepth 100000 in
/-- GlacierMailModel.readSpeeds -/
def p2_s173 : ck_Sum := ((4, 0, 0), 245, [.inr (.inr (.inl 226)), .inl (ck_one 299)], ([], [], [(226, 9, 9, (0, 400, [(1, 0)]))]), ([(226, 9, 9), (226, 11, 11), (227, 299, 304)], []), [(.inr (some (.inl (ck_one 1))), 245, ([], [], [(226, 9, 9, (0, 400, [(1000001, 0)]))])), (.inr (some (.inl (ck_one 0))), 245, ([], [], [(226, 9, 9, (0, 400, [(1000001, 0)])), (226, 11, 11, (0, 400, [(1000001, 0)]))]))])
set_option maxRecDepth 100000 in
theorem p2_s173_e : ck_ok p2_O none [] [(261, [p2_s166]), (255, [p2_s168])] 260 [(2, [some (.inr (.inr (.inl 226))), some (.inl (ck_one 299)), some (.inl (0, 6, [])), none], ([], [], [(226, 9, 9, (0, 400, [(1000001, 0)]))]), 100, .inl 2, true)] 174 p2_s173 = true := by decide +kernel
theorem p2_s173_s {X : Int → Int} {LX : Nat} : ck_Ok p2_O X LX 260 p2_s173 := ck_ok_s ⟨p2_nmu, ck_E1 (ck_S1 p2_s166_s ck_S0) (ck_E1 (ck_S1 p2_s168_s ck_S0) ck_E0)⟩ ck_X0 ck_l0 p2_s173_e
set_option maxRecDepth 100000 in
/-- GlacierMailModel.readSpeeds -/
def p2_s174 : ck_Sum := ((4, 0, 0), 245, [.inr (.inr (.inl 226)), .inl (ck_one 293)], ([], [], [(226, 9, 9, (0, 400, [(1, 0)]))]), ([(226, 9, 9), (226, 11, 11), (227, 293, 298)], []), [(.inr (some (.inl (ck_one 1))), 245, ([], [], [(226, 9, 9, (0, 400, [(1000001, 0)]))])), (.inr (some (.inl (ck_one 0))), 245, ([], [], [(226, 9, 9, (0, 400, [(1000001, 0)])), (226, 11, 11, (0, 400, [(1000001, 0)]))]))])
set_option maxRecDepth 100000 in
theorem p2_s174_e : ck_ok p2_O none [] [(261, [p2_s166]), (255, [p2_s168])] 260 [(2, [some (.inr (.inr (.inl 226))), some (.inl (ck_one 293)), some (.inl (0, 6, [])), none], ([], [], [(226, 9, 9, (0, 400, [(1000001, 0)]))]), 100, .inl 2, true)] 174 p2_s174 = true := by decide +kernel
theorem p2_s174_s {X : Int → Int} {LX : Nat} : ck_Ok p2_O X LX 260 p2_s174 := ck_ok_s ⟨p2_nmu, ck_E1 (ck_S1 p2_s166_s ck_S0) (ck_E1 (ck_S1 p2_s168_s ck_S0) ck_E0)⟩ ck_X0 ck_l0 p2_s174_e
set_option maxRecDepth 100000 in
/-- GlacierMailModel.readTable -/
def p2_s175 : ck_Sum := ((5, 0, 0), 245, [.inr (.inr (.inl 226))], ([], [], [(227, 6, 6, (0, 6, [(24, 0)])), (226, 9, 9, (0, 400, [(1, 0)]))]), ([(226, 9, 9), (226, 11, 11), (227, 6, 6), (227, 287, 322)], []), [(.inr (some (.inl (ck_one 0))), 245, ([], [], [(227, 6, 6, (0, 6, [(24, 0)])), (226, 9, 9, (0, 400, [(1000001, 0)]))])), (.inr (some (.inl (ck_one 1))), 245, ([], [], [(227, 6, 6, (1, 6, [])), (226, 9, 9, (0, 400, [(1000001, 0)]))]))])
set_option maxRecDepth 100000 in
theorem p2_s175_e : ck_ok p2_O none [] [(260, [p2_s169, p2_s170, p2_s171, p2_s172, p2_s173, p2_s174])] 273 [] 122 p2_s175 = true := by decide +kernel
theorem p2_s175_s {X : Int → Int} {LX : Nat} : ck_Ok p2_O X LX 273 p2_s175 := ck_ok_s ⟨p2_nmu, ck_E1 (ck_S1 p2_s169_s (ck_S1 p2_s170_s (ck_S1 p2_s171_s (ck_S1 p2_s172_s (ck_S1 p2_s173_s (ck_S1 p2_s174_s ck_S0)))))) ck_E0⟩ ck_X0 ck_l0 p2_s175_e
set_option maxRecDepth 100000 in
/-- GlacierMailModel.letters -/
def p2_s176 : ck_Sum := ((0, 0, 0), 245, [.inr (.inr (.inl 226))], ([], [], [(227, 4, 4, (0, 24, [(22, 0)]))]), ([], []), [(.inr (some (.inl (0, 24, [(22, 0)]))), 245, ([], [], []))])
set_option maxRecDepth 100000 in
theorem p2_s176_e : ck_ok p2_O none [] [] 254 [] 80 p2_s176 = true := by decide +kernel
theorem p2_s176_s {X : Int → Int} {LX : Nat} : ck_Ok p2_O X LX 254 p2_s176 := ck_ok_s ⟨p2_nmu, ck_E0⟩ ck_X0 ck_l0 p2_s176_e
set_option maxRecDepth 100000 in
/-- GlacierMailModel.figures -/
def p2_s177 : ck_Sum := ((2, 0, 0), 245, [.inr (.inr (.inl 226)), .inl (ck_one 0), .inl ((-1), 5, []), .inl (ck_one 4)], ([], [], [(226, 9, 9, (0, 400, [(1, 0)]))]), ([(226, 9, 9), (226, 11, 11)], []), [(.inr (some (.inl (ck_one (-1)))), 245, ([], [], [(226, 9, 9, (0, 400, [(1000001, 0)])), (226, 11, 11, (0, 400, [(1000001, 0)]))])), (.inr (some (.inl (0, 5, []))), 245, ([], [], [(226, 9, 9, (0, 400, [(1000001, 0)])), (226, 11, 11, (0, 400, [(1000001, 0)]))]))])
set_option maxRecDepth 100000 in
theorem p2_s177_e : ck_ok p2_O none [] [(245, [p2_s148]), (246, [p2_s161])] 256 [(7, [some (.inr (.inr (.inl 226))), some (.inl (ck_one 0)), some (.inl ((-1), 5, [])), some (.inl (ck_one 4)), some (.inl ((-2147483648), 2147483647, []))], ([], [], [(226, 11, 11, (0, 400, [(1000001, 0)])), (226, 9, 9, (0, 400, [(1000001, 0)]))]), 100, .inr (226, 9), true)] 222 p2_s177 = true := by decide +kernel
theorem p2_s177_s {X : Int → Int} {LX : Nat} : ck_Ok p2_O X LX 256 p2_s177 := ck_ok_s ⟨p2_nmu, ck_E1 (ck_S1 p2_s148_s ck_S0) (ck_E1 (ck_S1 p2_s161_s ck_S0) ck_E0)⟩ ck_X0 ck_l0 p2_s177_e
set_option maxRecDepth 100000 in
/-- GlacierMailModel.number -/
def p2_s178 : ck_Sum := ((3, 0, 0), 245, [.inr (.inr (.inl 226)), .inl (ck_one 0), .inl ((-1), 5, [])], ([], [], [(226, 9, 9, (0, 400, [(1, 0)]))]), ([(226, 9, 9), (226, 11, 11)], []), [(.inr (some (.inl (ck_one (-1)))), 245, ([], [], [(226, 9, 9, (0, 400, [(1000001, 0)])), (226, 11, 11, (0, 400, [(1000001, 0)]))])), (.inr (some (.inl (0, 5, []))), 245, ([], [], [(226, 9, 9, (0, 400, [(1000001, 0)])), (226, 11, 11, (0, 400, [(1000001, 0)]))]))])
set_option maxRecDepth 100000 in
theorem p2_s178_e : ck_ok p2_O none [] [(256, [p2_s177])] 255 [] 82 p2_s178 = true := by decide +kernel
theorem p2_s178_s {X : Int → Int} {LX : Nat} : ck_Ok p2_O X LX 255 p2_s178 := ck_ok_s ⟨p2_nmu, ck_E1 (ck_S1 p2_s177_s ck_S0) ck_E0⟩ ck_X0 ck_l0 p2_s178_e
set_option maxRecDepth 100000 in
/-- GlacierMailModel.laneTold -/
def p2_s179 : ck_Sum := ((4, 0, 0), 245, [.inr (.inr (.inl 226))], ([], [], [(226, 9, 9, (0, 400, [(1, 0)]))]), ([(226, 9, 9), (226, 11, 11)], []), [(.inr (some (.inl (ck_one (-1)))), 245, ([], [], [(226, 9, 9, (0, 400, [(1000001, 0)])), (226, 11, 11, (0, 400, [(1000001, 0)]))])), (.inr (some (.inl (0, 5, []))), 245, ([], [], [(226, 9, 9, (0, 400, [(1000001, 0)])), (226, 11, 11, (0, 400, [(1000001, 0)]))]))])
set_option maxRecDepth 100000 in
theorem p2_s179_e : ck_ok p2_O none [] [(261, [p2_s166]), (255, [p2_s178])] 268 [] 86 p2_s179 = true := by decide +kernel
theorem p2_s179_s {X : Int → Int} {LX : Nat} : ck_Ok p2_O X LX 268 p2_s179 := ck_ok_s ⟨p2_nmu, ck_E1 (ck_S1 p2_s166_s ck_S0) (ck_E1 (ck_S1 p2_s178_s ck_S0) ck_E0)⟩ ck_X0 ck_l0 p2_s179_e
