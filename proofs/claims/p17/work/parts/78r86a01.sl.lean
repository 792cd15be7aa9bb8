/-! 78r86a01.sl -/
section
/-! EVERY CALL OF THE CLASS ENDS, under a law (laid by wip/am/p2l.py). -/
set_option maxRecDepth 100000 in
/-- GlacierMail$Rows.put -/
def pl_s90 : ck_Sum := ((0, 0, 0), 249, [.inr (.inr (.inl 19)), .inl (ck_one (-1)), .inl (ck_one 2), .inl (1, 20, [])], ([], [], []), ([], []), [(.inr none, 249, ([], [], []))])
set_option maxRecDepth 100000 in
theorem pl_s90_e : ck_ok p2_OL none [] [] 45 [] 76 pl_s90 = true := by decide +kernel
theorem pl_s90_s {X : Int → Int} {LX : Nat} : ck_Ok p2_OL X LX 45 pl_s90 := ck_ok_s ⟨pl_nmu, ck_E0⟩ ck_X0 ck_l0 pl_s90_e
set_option maxRecDepth 100000 in
/-- GlacierMail$ValleyReader.readFlood -/
def pl_s91 : ck_Sum := ((4, 0, 0), 249, [.inr (.inr (.inl 213))], ([], [], [(214, 3, 3, (0, 400, [(12, 0)]))]), ([(19, 3, 3), (20, 0, 23), (214, 3, 7)], []), [(.inr (some (.inl (ck_one 0))), 249, ([], [], zl21)), (.inr (some (.inl (ck_one 1))), 249, ([], [], zl30))])
set_option maxRecDepth 100000 in
theorem pl_s91_e : ck_ok p2_OL none [] [(108, [pl_s81]), (76, [pl_s24]), (94, [pl_s82, pl_s83]), (111, [pl_s50]), (102, [pl_s84]), (45, [pl_s85, pl_s86, pl_s87, pl_s88, pl_s89, pl_s90]), (93, [pl_s26])] 115 [] 194 pl_s91 = true := by decide +kernel
theorem pl_s91_s {X : Int → Int} {LX : Nat} : ck_Ok p2_OL X LX 115 pl_s91 := ck_ok_s ⟨pl_nmu, ck_E1 (ck_S1 pl_s81_s ck_S0) (ck_E1 (ck_S1 pl_s24_s ck_S0) (ck_E1 (ck_S1 pl_s82_s (ck_S1 pl_s83_s ck_S0)) (ck_E1 (ck_S1 pl_s50_s ck_S0) (ck_E1 (ck_S1 pl_s84_s ck_S0) (ck_E1 (ck_S1 pl_s85_s (ck_S1 pl_s86_s (ck_S1 pl_s87_s (ck_S1 pl_s88_s (ck_S1 pl_s89_s (ck_S1 pl_s90_s ck_S0)))))) (ck_E1 (ck_S1 pl_s26_s ck_S0) ck_E0))))))⟩ ck_X0 ck_l0 pl_s91_e
set_option maxRecDepth 100000 in
/-- GlacierMail$Words.needNumber -/
def pl_s92 : ck_Sum := ((2, 0, 0), 249, [.inr (.inr (.inl 214)), .inl (ck_one 0), .inl (ck_one 9999)], ([], [], [(214, 3, 3, (0, 400, [(12, 0)]))]), ([(214, 3, 7)], []), [(.inr (some (.inl (ck_one (-1)))), 249, ([], [], zl7)), (.inr (some (.inl (0, 9999, []))), 249, ([], [], [(214, 3, 3, (0, 400, [(1000012, 0)]))]))])
set_option maxRecDepth 100000 in
theorem pl_s92_e : ck_ok p2_OL none [] [(93, [pl_s26]), (76, [pl_s24])] 94 [] 106 pl_s92 = true := by decide +kernel
theorem pl_s92_s {X : Int → Int} {LX : Nat} : ck_Ok p2_OL X LX 94 pl_s92 := ck_ok_s ⟨pl_nmu, ck_E1 (ck_S1 pl_s26_s ck_S0) (ck_E1 (ck_S1 pl_s24_s ck_S0) ck_E0)⟩ ck_X0 ck_l0 pl_s92_e
set_option maxRecDepth 100000 in
/-- GlacierMail$ValleyReader.readSeed -/
def pl_s93 : ck_Sum := ((3, 0, 0), 249, [.inr (.inr (.inl 213))], ([], [], [(214, 3, 3, (0, 400, [(12, 0)]))]), ([(16, 5, 5), (214, 3, 7)], []), zl225)
set_option maxRecDepth 100000 in
theorem pl_s93_e : ck_ok p2_OL none [] [(76, [pl_s24]), (94, [pl_s92])] 114 [] 106 pl_s93 = true := by decide +kernel
theorem pl_s93_s {X : Int → Int} {LX : Nat} : ck_Ok p2_OL X LX 114 pl_s93 := ck_ok_s ⟨pl_nmu, ck_E1 (ck_S1 pl_s24_s ck_S0) (ck_E1 (ck_S1 pl_s92_s ck_S0) ck_E0)⟩ ck_X0 ck_l0 pl_s93_e
set_option maxRecDepth 100000 in
/-- GlacierMail$Words.needNumber -/
def pl_s94 : ck_Sum := ((2, 0, 0), 249, [.inr (.inr (.inl 214)), .inl (ck_one 0), .inl (1, 6, [])], ([], [], [(214, 3, 3, (0, 400, [(12, 0)]))]), ([(214, 3, 7)], []), [(.inr (some (.inl (ck_one (-1)))), 249, ([], [], zl7)), (.inr (some (.inl (0, 6, []))), 249, ([], [], [(214, 3, 3, (0, 400, [(1000012, 0)]))]))])
set_option maxRecDepth 100000 in
theorem pl_s94_e : ck_ok p2_OL none [] [(93, [pl_s26]), (76, [pl_s24])] 94 [] 106 pl_s94 = true := by decide +kernel
theorem pl_s94_s {X : Int → Int} {LX : Nat} : ck_Ok p2_OL X LX 94 pl_s94 := ck_ok_s ⟨pl_nmu, ck_E1 (ck_S1 pl_s26_s ck_S0) (ck_E1 (ck_S1 pl_s24_s ck_S0) ck_E0)⟩ ck_X0 ck_l0 pl_s94_e
set_option maxRecDepth 100000 in
/-- GlacierMail$ValleyReader.readStripe -/
def pl_s95 : ck_Sum := ((3, 0, 0), 249, [.inr (.inr (.inl 213))], ([], [], [(214, 3, 3, (0, 400, [(12, 0)]))]), ([(16, 4, 4), (214, 3, 7)], []), zl225)
set_option maxRecDepth 100000 in
theorem pl_s95_e : ck_ok p2_OL none [] [(76, [pl_s24]), (94, [pl_s94])] 113 [] 110 pl_s95 = true := by decide +kernel
theorem pl_s95_s {X : Int → Int} {LX : Nat} : ck_Ok p2_OL X LX 113 pl_s95 := ck_ok_s ⟨pl_nmu, ck_E1 (ck_S1 pl_s24_s ck_S0) (ck_E1 (ck_S1 pl_s94_s ck_S0) ck_E0)⟩ ck_X0 ck_l0 pl_s95_e
set_option maxRecDepth 100000 in
/-- GlacierMail$Words.isWord -/
def pl_s96 : ck_Sum := ((6, 0, 0), 249, [.inr (.inr (.inl 214)), .inr (.inr (.inr 21))], ([], [], [(214, 3, 3, (0, 400, [(12, 0)]))]), ([], []), zl219)
set_option maxRecDepth 100000 in
theorem pl_s96_e : ck_ok p2_OL none [] [] 81 [] 310 pl_s96 = true := by decide +kernel
theorem pl_s96_s {X : Int → Int} {LX : Nat} : ck_Ok p2_OL X LX 81 pl_s96 := ck_ok_s ⟨pl_nmu, ck_E0⟩ ck_X0 ck_l0 pl_s96_e
set_option maxRecDepth 100000 in
/-- GlacierMail$Words.takeWord -/
def pl_s97 : ck_Sum := ((7, 0, 0), 249, [.inr (.inr (.inl 214)), .inr (.inr (.inr 21))], ([], [], [(214, 3, 3, (0, 400, [(12, 0)]))]), ([(214, 3, 4), (214, 6, 7)], []), [(.inr (some (.inl (ck_one 0))), 249, ([], [], [(214, 3, 3, (0, 400, [(12, 0)]))])), (.inr (some (.inl (ck_one 1))), 249, ([], [], [(214, 3, 3, (4, 400, [(1000012, 0)]))]))])
set_option maxRecDepth 100000 in
theorem pl_s97_e : ck_ok p2_OL none [] [(81, [pl_s96]), (76, [pl_s24])] 95 [] 90 pl_s97 = true := by decide +kernel
theorem pl_s97_s {X : Int → Int} {LX : Nat} : ck_Ok p2_OL X LX 95 pl_s97 := ck_ok_s ⟨pl_nmu, ck_E1 (ck_S1 pl_s96_s ck_S0) (ck_E1 (ck_S1 pl_s24_s ck_S0) ck_E0)⟩ ck_X0 ck_l0 pl_s97_e
set_option maxRecDepth 100000 in
/-- GlacierMail$Words.needWord -/
def pl_s98 : ck_Sum := ((8, 0, 0), 249, [.inr (.inr (.inl 214)), .inr (.inr (.inr 21))], ([], [], [(214, 3, 3, (0, 400, [(12, 0)]))]), ([(214, 3, 7)], []), [(.inr (some (.inl (ck_one 0))), 249, ([], [], zl7)), (.inr (some (.inl (ck_one 1))), 249, ([], [], [(214, 3, 3, (4, 400, [(1000012, 0)]))]))])
set_option maxRecDepth 100000 in
theorem pl_s98_e : ck_ok p2_OL none [] [(95, [pl_s97]), (93, [pl_s26])] 112 [] 88 pl_s98 = true := by decide +kernel
theorem pl_s98_s {X : Int → Int} {LX : Nat} : ck_Ok p2_OL X LX 112 pl_s98 := ck_ok_s ⟨pl_nmu, ck_E1 (ck_S1 pl_s97_s ck_S0) (ck_E1 (ck_S1 pl_s26_s ck_S0) ck_E0)⟩ ck_X0 ck_l0 pl_s98_e
set_option maxRecDepth 100000 in
/-- GlacierMail$Words.needNumber -/
def pl_s99 : ck_Sum := ((2, 0, 0), 249, [.inr (.inr (.inl 214)), .inl (ck_one 0), .inl (ck_one 9)], ([], [], [(214, 3, 3, (0, 400, [(12, 0)]))]), ([(214, 3, 7)], []), [(.inr (some (.inl (ck_one (-1)))), 249, ([], [], zl7)), (.inr (some (.inl (0, 9, []))), 249, ([], [], [(214, 3, 3, (0, 400, [(1000012, 0)]))]))])
set_option maxRecDepth 100000 in
theorem pl_s99_e : ck_ok p2_OL none [] [(93, [pl_s26]), (76, [pl_s24])] 94 [] 106 pl_s99 = true := by decide +kernel
theorem pl_s99_s {X : Int → Int} {LX : Nat} : ck_Ok p2_OL X LX 94 pl_s99 := ck_ok_s ⟨pl_nmu, ck_E1 (ck_S1 pl_s26_s ck_S0) (ck_E1 (ck_S1 pl_s24_s ck_S0) ck_E0)⟩ ck_X0 ck_l0 pl_s99_e
set_option maxRecDepth 100000 in
/-- GlacierMail$ValleyReader.readSnow -/
def pl_s100 : ck_Sum := ((9, 0, 0), 249, [.inr (.inr (.inl 213))], ([], [], [(214, 3, 3, (0, 400, [(12, 0)]))]), ([(16, 2, 3), (214, 3, 7)], []), zl226)
set_option maxRecDepth 100000 in
theorem pl_s100_e : ck_ok p2_OL none [] [(76, [pl_s24]), (111, [pl_s50]), (112, [pl_s98]), (94, [pl_s99])] 110 [] 136 pl_s100 = true := by decide +kernel
theorem pl_s100_s {X : Int → Int} {LX : Nat} : ck_Ok p2_OL X LX 110 pl_s100 := ck_ok_s ⟨pl_nmu, ck_E1 (ck_S1 pl_s24_s ck_S0) (ck_E1 (ck_S1 pl_s50_s ck_S0) (ck_E1 (ck_S1 pl_s98_s ck_S0) (ck_E1 (ck_S1 pl_s99_s ck_S0) ck_E0)))⟩ ck_X0 ck_l0 pl_s100_e
set_option maxRecDepth 100000 in
/-- GlacierMail$Rows.isFull -/
def pl_s101 : ck_Sum := ((0, 0, 0), 249, [.inr (.inr (.inl 17))], ([], [], []), ([], []), [(.inr (some (.inl (ck_one 0))), 249, ([], [], [(17, 3, 3, (0, 7, []))])), (.inr (some (.inl (ck_one 1))), 249, ([], [], [(17, 3, 3, ck_one 8)]))])
set_option maxRecDepth 100000 in
theorem pl_s101_e : ck_ok p2_OL none [] [] 108 [] 86 pl_s101 = true := by decide +kernel
theorem pl_s101_s {X : Int → Int} {LX : Nat} : ck_Ok p2_OL X LX 108 pl_s101 := ck_ok_s ⟨pl_nmu, ck_E0⟩ ck_X0 ck_l0 pl_s101_e
set_option maxRecDepth 100000 in
/-- GlacierMail$Rows.size -/
def pl_s102 : ck_Sum := ((0, 0, 0), 249, [.inr (.inr (.inl 17))], ([], [], []), ([], []), [(.inr (some (.inl (0, 8, []))), 249, ([], [], []))])
set_option maxRecDepth 100000 in
theorem pl_s102_e : ck_ok p2_OL none [] [] 9 [] 76 pl_s102 = true := by decide +kernel
theorem pl_s102_s {X : Int → Int} {LX : Nat} : ck_Ok p2_OL X LX 9 pl_s102 := ck_ok_s ⟨pl_nmu, ck_E0⟩ ck_X0 ck_l0 pl_s102_e
set_option maxRecDepth 100000 in
/-- GlacierMail$Rows.get -/
def pl_s103 : ck_Sum := ((0, 0, 0), 249, [.inr (.inr (.inl 17)), .inl ((-2147483648), 2147483647, []), .inl ((-2147483648), 2147483647, [])], ([], [], []), ([], []), [(.inr (some (.inl (ck_one (-1)))), 249, ([], [], [])), (.inr (some (.inl (0, 98, []))), 249, ([], [], [(17, 3, 3, (1, 8, []))]))])
set_option maxRecDepth 100000 in
theorem pl_s103_e : ck_ok p2_OL none [] [] 10 [] 114 pl_s103 = true := by decide +kernel
theorem pl_s103_s {X : Int → Int} {LX : Nat} : ck_Ok p2_OL X LX 10 pl_s103 := ck_ok_s ⟨pl_nmu, ck_E0⟩ ck_X0 ck_l0 pl_s103_e
set_option maxRecDepth 100000 in
/-- GlacierMail$Words.needNumber -/
def pl_s104 : ck_Sum := ((2, 0, 0), 249, [.inr (.inr (.inl 214)), .inl (ck_one 0), .inl (ck_one 0)], ([], [], [(214, 3, 3, (0, 400, [(12, 0)]))]), ([(214, 3, 7)], []), [(.inr (some (.inl (ck_one (-1)))), 249, ([], [], zl7)), (.inr (some (.inl (ck_one 0))), 249, ([], [], [(214, 3, 3, (0, 400, [(1000012, 0)]))]))])
set_option maxRecDepth 100000 in
theorem pl_s104_e : ck_ok p2_OL none [] [(93, [pl_s26]), (76, [pl_s24])] 94 [] 106 pl_s104 = true := by decide +kernel
theorem pl_s104_s {X : Int → Int} {LX : Nat} : ck_Ok p2_OL X LX 94 pl_s104 := ck_ok_s ⟨pl_nmu, ck_E1 (ck_S1 pl_s26_s ck_S0) (ck_E1 (ck_S1 pl_s24_s ck_S0) ck_E0)⟩ ck_X0 ck_l0 pl_s104_e
set_option maxRecDepth 100000 in
/-- GlacierMail$Words.needNumber -/
def pl_s105 : ck_Sum := ((2, 0, 0), 249, [.inr (.inr (.inl 214)), .inl (1, 99, []), .inl (9, 98, [])], ([], [], [(214, 3, 3, (0, 400, [(12, 0)]))]), ([(214, 3, 7)], []), [(.inr (some (.inl (ck_one (-1)))), 249, ([], [], zl7)), (.inr (some (.inl (1, 98, []))), 249, ([], [], [(214, 3, 3, (0, 400, [(1000012, 0)]))]))])
set_option maxRecDepth 100000 in
theorem pl_s105_e : ck_ok p2_OL none [] [(93, [pl_s26]), (76, [pl_s24])] 94 [] 106 pl_s105 = true := by decide +kernel
theorem pl_s105_s {X : Int → Int} {LX : Nat} : ck_Ok p2_OL X LX 94 pl_s105 := ck_ok_s ⟨pl_nmu, ck_E1 (ck_S1 pl_s26_s ck_S0) (ck_E1 (ck_S1 pl_s24_s ck_S0) ck_E0)⟩ ck_X0 ck_l0 pl_s105_e
set_option maxRecDepth 100000 in
/-- GlacierMail$Words.needNumber -/
def pl_s106 : ck_Sum := ((1, 0, 0), 249, [.inr (.inr (.inl 214)), .inl (1, 99, []), .inl (ck_one 0)], ([], [], []), ([(214, 5, 5)], []), [(.inr (some (.inl (ck_one (-1)))), 249, ([], [], [(214, 5, 5, (0, 400, []))]))])
set_option maxRecDepth 100000 in
theorem pl_s106_e : ck_ok p2_OL none [] [(93, [pl_s26])] 94 [] 106 pl_s106 = true := by decide +kernel
theorem pl_s106_s {X : Int → Int} {LX : Nat} : ck_Ok p2_OL X LX 94 pl_s106 := ck_ok_s ⟨pl_nmu, ck_E1 (ck_S1 pl_s26_s ck_S0) ck_E0⟩ ck_X0 ck_l0 pl_s106_e
set_option maxRecDepth 100000 in
/-- GlacierMail$Rows.add -/
def pl_s107 : ck_Sum := ((0, 0, 0), 249, [.inr (.inr (.inl 17))], ([], [], []), ([(17, 3, 3)], []), [(.inr (some (.inl (0, 7, []))), 249, ([], [], [(17, 3, 3, (1, 8, []))])), (.inr (some (.inl (ck_one (-1)))), 249, ([], [], [(17, 3, 3, ck_one 8)]))])
set_option maxRecDepth 100000 in
theorem pl_s107_e : ck_ok p2_OL none [] [] 102 [] 102 pl_s107 = true := by decide +kernel
theorem pl_s107_s {X : Int → Int} {LX : Nat} : ck_Ok p2_OL X LX 102 pl_s107 := ck_ok_s ⟨pl_nmu, ck_E0⟩ ck_X0 ck_l0 pl_s107_e
set_option maxRecDepth 100000 in
/-- GlacierMail$Rows.put -/
def pl_s108 : ck_Sum := ((0, 0, 0), 249, [.inr (.inr (.inl 17)), .inl (0, 7, []), .inl (ck_one 0), .inl (0, 98, [])], ([], [], []), (zl33, []), [(.inr none, 249, ([], [], []))])
set_option maxRecDepth 100000 in
theorem pl_s108_e : ck_ok p2_OL none [] [] 45 [] 116 pl_s108 = true := by decide +kernel
theorem pl_s108_s {X : Int → Int} {LX : Nat} : ck_Ok p2_OL X LX 45 pl_s108 := ck_ok_s ⟨pl_nmu, ck_E0⟩ ck_X0 ck_l0 pl_s108_e
set_option maxRecDepth 100000 in
/-- GlacierMail$Rows.put -/
def pl_s109 : ck_Sum := ((0, 0, 0), 249, [.inr (.inr (.inl 17)), .inl (ck_one (-1)), .inl (ck_one 0), .inl (0, 98, [])], ([], [], []), ([], []), [(.inr none, 249, ([], [], []))])
set_option maxRecDepth 100000 in
theorem pl_s109_e : ck_ok p2_OL none [] [] 45 [] 76 pl_s109 = true := by decide +kernel
theorem pl_s109_s {X : Int → Int} {LX : Nat} : ck_Ok p2_OL X LX 45 pl_s109 := ck_ok_s ⟨pl_nmu, ck_E0⟩ ck_X0 ck_l0 pl_s109_e
set_option maxRecDepth 100000 in
/-- GlacierMail$Rows.put -/
def pl_s110 : ck_Sum := ((0, 0, 0), 249, [.inr (.inr (.inl 17)), .inl (0, 7, []), .inl (ck_one 0), .inl (ck_one 0)], ([], [], []), (zl33, []), [(.inr none, 249, ([], [], []))])
set_option maxRecDepth 100000 in
theorem pl_s110_e : ck_ok p2_OL none [] [] 45 [] 116 pl_s110 = true := by decide +kernel
theorem pl_s110_s {X : Int → Int} {LX : Nat} : ck_Ok p2_OL X LX 45 pl_s110 := ck_ok_s ⟨pl_nmu, ck_E0⟩ ck_X0 ck_l0 pl_s110_e
set_option maxRecDepth 100000 in
/-- GlacierMail$Rows.put -/
def pl_s111 : ck_Sum := ((0, 0, 0), 249, [.inr (.inr (.inl 17)), .inl (ck_one (-1)), .inl (ck_one 0), .inl (ck_one 0)], ([], [], []), ([], []), [(.inr none, 249, ([], [], []))])
set_option maxRecDepth 100000 in
theorem pl_s111_e : ck_ok p2_OL none [] [] 45 [] 76 pl_s111 = true := by decide +kernel
theorem pl_s111_s {X : Int → Int} {LX : Nat} : ck_Ok p2_OL X LX 45 pl_s111 := ck_ok_s ⟨pl_nmu, ck_E0⟩ ck_X0 ck_l0 pl_s111_e
set_option maxRecDepth 100000 in
/-- GlacierMail$Rows.put -/
def pl_s112 : ck_Sum := ((0, 0, 0), 249, [.inr (.inr (.inl 17)), .inl (0, 7, []), .inl (ck_one 0), .inl (1, 98, [])], ([], [], []), (zl33, []), [(.inr none, 249, ([], [], []))])
set_option maxRecDepth 100000 in
theorem pl_s112_e : ck_ok p2_OL none [] [] 45 [] 116 pl_s112 = true := by decide +kernel
theorem pl_s112_s {X : Int → Int} {LX : Nat} : ck_Ok p2_OL X LX 45 pl_s112 := ck_ok_s ⟨pl_nmu, ck_E0⟩ ck_X0 ck_l0 pl_s112_e
set_option maxRecDepth 100000 in
/-- GlacierMail$Rows.put -/
def pl_s113 : ck_Sum := ((0, 0, 0), 249, [.inr (.inr (.inl 17)), .inl (ck_one (-1)), .inl (ck_one 0), .inl (1, 98, [])], ([], [], []), ([], []), [(.inr none, 249, ([], [], []))])
set_option maxRecDepth 100000 in
theorem pl_s113_e : ck_ok p2_OL none [] [] 45 [] 76 pl_s113 = true := by decide +kernel
theorem pl_s113_s {X : Int → Int} {LX : Nat} : ck_Ok p2_OL X LX 45 pl_s113 := ck_ok_s ⟨pl_nmu, ck_E0⟩ ck_X0 ck_l0 pl_s113_e
set_option maxRecDepth 100000 in
/-- GlacierMail$Rows.put -/
def pl_s114 : ck_Sum := ((0, 0, 0), 249, [.inr (.inr (.inl 17)), .inl (0, 7, []), .inl (1, 6, []), .inl (0, 20, [])], ([], [], []), (zl34, []), [(.inr none, 249, ([], [], []))])
set_option maxRecDepth 100000 in
theorem pl_s114_e : ck_ok p2_OL none [] [] 45 [] 116 pl_s114 = true := by decide +kernel
theorem pl_s114_s {X : Int → Int} {LX : Nat} : ck_Ok p2_OL X LX 45 pl_s114 := ck_ok_s ⟨pl_nmu, ck_E0⟩ ck_X0 ck_l0 pl_s114_e
set_option maxRecDepth 100000 in
/-- GlacierMail$ValleyReader.readSpeeds -/
def pl_s115 : ck_Sum := ((3, 0, 0), 249, [.inr (.inr (.inl 213)), .inr (.inr (.inl 17)), .inl (0, 7, []), .inl (ck_one 1)], ([], [], [(214, 3, 3, (0, 400, [(12, 0)]))]), (zl35, []), zl221)
set_option maxRecDepth 100000 in
theorem pl_s115_e : ck_ok p2_OL none [] [(94, [pl_s40]), (45, [pl_s114])] 109 [(3, [some (.inr (.inr (.inl 213))), some (.inr (.inr (.inl 17))), some (.inl (0, 7, [])), some (.inl (ck_one 1)), some (.inl (0, 6, [])), none], ([], [], [(214, 3, 3, (0, 400, [(1000012, 0)]))]), 100, .inl 4, true)] 186 pl_s115 = true := by decide +kernel
theorem pl_s115_s {X : Int → Int} {LX : Nat} : ck_Ok p2_OL X LX 109 pl_s115 := ck_ok_s ⟨pl_nmu, ck_E1 (ck_S1 pl_s40_s ck_S0) (ck_E1 (ck_S1 pl_s114_s ck_S0) ck_E0)⟩ ck_X0 ck_l0 pl_s115_e
set_option maxRecDepth 100000 in
/-- GlacierMail$Rows.put -/
def pl_s116 : ck_Sum := ((0, 0, 0), 249, [.inr (.inr (.inl 17)), .inl (ck_one (-1)), .inl (1, 6, []), .inl (0, 20, [])], ([], [], []), ([], []), [(.inr none, 249, ([], [], []))])
set_option maxRecDepth 100000 in
theorem pl_s116_e : ck_ok p2_OL none [] [] 45 [] 76 pl_s116 = true := by decide +kernel
theorem pl_s116_s {X : Int → Int} {LX : Nat} : ck_Ok p2_OL X LX 45 pl_s116 := ck_ok_s ⟨pl_nmu, ck_E0⟩ ck_X0 ck_l0 pl_s116_e
set_option maxRecDepth 100000 in
/-- GlacierMail$ValleyReader.readSpeeds -/
def pl_s117 : ck_Sum := ((3, 0, 0), 249, [.inr (.inr (.inl 213)), .inr (.inr (.inl 17)), .inl (ck_one (-1)), .inl (ck_one 1)], ([], [], [(214, 3, 3, (0, 400, [(12, 0)]))]), ([(214, 3, 7)], []), zl221)
set_option maxRecDepth 100000 in
theorem pl_s117_e : ck_ok p2_OL none [] [(94, [pl_s40]), (45, [pl_s116])] 109 [(3, [some (.inr (.inr (.inl 213))), some (.inr (.inr (.inl 17))), some (.inl (ck_one (-1))), some (.inl (ck_one 1)), some (.inl (0, 6, [])), none], ([], [], [(214, 3, 3, (0, 400, [(1000012, 0)]))]), 100, .inl 4, true)] 186 pl_s117 = true := by decide +kernel
theorem pl_s117_s {X : Int → Int} {LX : Nat} : ck_Ok p2_OL X LX 109 pl_s117 := ck_ok_s ⟨pl_nmu, ck_E1 (ck_S1 pl_s40_s ck_S0) (ck_E1 (ck_S1 pl_s116_s ck_S0) ck_E0)⟩ ck_X0 ck_l0 pl_s117_e
set_option maxRecDepth 100000 in
/-- GlacierMail$ValleyReader.readSection -/
def pl_s118 : ck_Sum := ((4, 0, 0), 249, [.inr (.inr (.inl 213))], ([], [], [(214, 3, 3, (0, 400, [(12, 0)]))]), ([(17, 3, 3), (18, 0, 55), (214, 3, 7)], []), [(.inr (some (.inl (ck_one 0))), 249, ([], [], zl21)), (.inr (some (.inl (ck_one 1))), 249, ([], [], zl36))])
set_option maxRecDepth 100000 in
theorem pl_s118_e : ck_ok p2_OL none [] [(108, [pl_s101]), (76, [pl_s24]), (9, [pl_s102]), (10, [pl_s103]), (94, [pl_s49, pl_s104, pl_s105, pl_s106]), (102, [pl_s107]), (45, [pl_s108, pl_s109, pl_s110, pl_s111, pl_s112, pl_s113]), (109, [pl_s115, pl_s117]), (93, [pl_s26])] 107 [] 188 pl_s118 = true := by decide +kernel
theorem pl_s118_s {X : Int → Int} {LX : Nat} : ck_Ok p2_OL X LX 107 pl_s118 := ck_ok_s ⟨pl_nmu, ck_E1 (ck_S1 pl_s101_s ck_S0) (ck_E1 (ck_S1 pl_s24_s ck_S0) (ck_E1 (ck_S1 pl_s102_s ck_S0) (ck_E1 (ck_S1 pl_s103_s ck_S0) (ck_E1 (ck_S1 pl_s49_s (ck_S1 pl_s104_s (ck_S1 pl_s105_s (ck_S1 pl_s106_s ck_S0)))) (ck_E1 (ck_S1 pl_s107_s ck_S0) (ck_E1 (ck_S1 pl_s108_s (ck_S1 pl_s109_s (ck_S1 pl_s110_s (ck_S1 pl_s111_s (ck_S1 pl_s112_s (ck_S1 pl_s113_s ck_S0)))))) (ck_E1 (ck_S1 pl_s115_s (ck_S1 pl_s117_s ck_S0)) (ck_E1 (ck_S1 pl_s26_s ck_S0) ck_E0))))))))⟩ ck_X0 ck_l0 pl_s118_e
set_option maxRecDepth 100000 in
/-- GlacierMail$Rows.size -/
def pl_s119 : ck_Sum := ((0, 0, 0), 249, [.inr (.inr (.inl 19))], ([], [], []), ([], []), [(.inr (some (.inl (0, 8, []))), 249, ([], [], []))])
set_option maxRecDepth 100000 in
theorem pl_s119_e : ck_ok p2_OL none [] [] 9 [] 76 pl_s119 = true := by decide +kernel
theorem pl_s119_s {X : Int → Int} {LX : Nat} : ck_Ok p2_OL X LX 9 pl_s119 := ck_ok_s ⟨pl_nmu, ck_E0⟩ ck_X0 ck_l0 pl_s119_e
set_option maxRecDepth 100000 in
/-- GlacierMail$Rows.size -/
def pl_s120 : ck_Sum := ((0, 0, 0), 249, [.inr (.inr (.inl 21))], ([], [], []), ([], []), [(.inr (some (.inl (0, 8, []))), 249, ([], [], []))])
set_option maxRecDepth 100000 in
theorem pl_s120_e : ck_ok p2_OL none [] [] 9 [] 76 pl_s120 = true := by decide +kernel
theorem pl_s120_s {X : Int → Int} {LX : Nat} : ck_Ok p2_OL X LX 9 pl_s120 := ck_ok_s ⟨pl_nmu, ck_E0⟩ ck_X0 ck_l0 pl_s120_e
set_option maxRecDepth 100000 in
/-- GlacierMail$Rows.size -/
def pl_s121 : ck_Sum := ((0, 0, 0), 249, [.inr (.inr (.inl 23))], ([], [], []), ([], []), [(.inr (some (.inl (0, 24, []))), 249, ([], [], []))])
set_option maxRecDepth 100000 in
theorem pl_s121_e : ck_ok p2_OL none [] [] 9 [] 76 pl_s121 = true := by decide +kernel
theorem pl_s121_s {X : Int → Int} {LX : Nat} : ck_Ok p2_OL X LX 9 pl_s121 := ck_ok_s ⟨pl_nmu, ck_E0⟩ ck_X0 ck_l0 pl_s121_e
set_option maxRecDepth 100000 in
/-- GlacierMail$Rows.size -/
def pl_s122 : ck_Sum := ((0, 0, 0), 249, [.inr (.inr (.inl 25))], ([], [], []), ([], []), [(.inr (some (.inl (0, 6, []))), 249, ([], [], []))])
set_option maxRecDepth 100000 in
theorem pl_s122_e : ck_ok p2_OL none [] [] 9 [] 76 pl_s122 = true := by decide +kernel
theorem pl_s122_s {X : Int → Int} {LX : Nat} : ck_Ok p2_OL X LX 9 pl_s122 := ck_ok_s ⟨pl_nmu, ck_E0⟩ ck_X0 ck_l0 pl_s122_e
set_option maxRecDepth 100000 in
/-- GlacierMail$State.isEmpty -/
def pl_s123 : ck_Sum := ((1, 0, 0), 249, [.inr (.inr (.inl 16))], ([], [], []), ([], []), [(.inr (some (.inl (ck_one 0))), 249, ([], [], [])), (.inr (some (.inl (ck_one 1))), 249, ([], [], []))])
set_option maxRecDepth 100000 in
theorem pl_s123_e : ck_ok p2_OL none [] [(9, [pl_s102, pl_s119, pl_s120, pl_s121, pl_s122])] 105 [] 116 pl_s123 = true := by decide +kernel
theorem pl_s123_s {X : Int → Int} {LX : Nat} : ck_Ok p2_OL X LX 105 pl_s123 := ck_ok_s ⟨pl_nmu, ck_E1 (ck_S1 pl_s102_s (ck_S1 pl_s119_s (ck_S1 pl_s120_s (ck_S1 pl_s121_s (ck_S1 pl_s122_s ck_S0))))) ck_E0⟩ ck_X0 ck_l0 pl_s123_e
set_option maxRecDepth 100000 in
/-- GlacierMail$Words.needNumber -/
def pl_s124 : ck_Sum := ((2, 0, 0), 249, [.inr (.inr (.inl 214)), .inl (ck_one 10), .inl (ck_one 99)], ([], [], [(214, 3, 3, (0, 400, [(12, 0)]))]), ([(214, 3, 7)], []), [(.inr (some (.inl (ck_one (-1)))), 249, ([], [], zl7)), (.inr (some (.inl (10, 99, []))), 249, ([], [], [(214, 3, 3, (0, 400, [(1000012, 0)]))]))])
set_option maxRecDepth 100000 in
theorem pl_s124_e : ck_ok p2_OL none [] [(93, [pl_s26]), (76, [pl_s24])] 94 [] 106 pl_s124 = true := by decide +kernel
theorem pl_s124_s {X : Int → Int} {LX : Nat} : ck_Ok p2_OL X LX 94 pl_s124 := ck_ok_s ⟨pl_nmu, ck_E1 (ck_S1 pl_s26_s ck_S0) (ck_E1 (ck_S1 pl_s24_s ck_S0) ck_E0)⟩ ck_X0 ck_l0 pl_s124_e
set_option maxRecDepth 100000 in
/-- GlacierMail$ValleyReader.readLast -/
def pl_s125 : ck_Sum := ((3, 0, 0), 249, [.inr (.inr (.inl 213))], ([], [], [(214, 3, 3, (0, 400, [(12, 0)]))]), ([(16, 1, 2), (214, 3, 7)], []), [(.inr (some (.inl (ck_one 0))), 249, ([], [], zl21)), (.inr (some (.inl (ck_one 1))), 249, ([], [], zl37))])
set_option maxRecDepth 100000 in
theorem pl_s125_e : ck_ok p2_OL none [] [(105, [pl_s123]), (93, [pl_s26]), (76, [pl_s24]), (94, [pl_s124])] 106 [] 122 pl_s125 = true := by decide +kernel
theorem pl_s125_s {X : Int → Int} {LX : Nat} : ck_Ok p2_OL X LX 106 pl_s125 := ck_ok_s ⟨pl_nmu, ck_E1 (ck_S1 pl_s123_s ck_S0) (ck_E1 (ck_S1 pl_s26_s ck_S0) (ck_E1 (ck_S1 pl_s24_s ck_S0) (ck_E1 (ck_S1 pl_s124_s ck_S0) ck_E0)))⟩ ck_X0 ck_l0 pl_s125_e
set_option maxRecDepth 100000 in
/-- GlacierMail$Words.needNumber -/
def pl_s126 : ck_Sum := ((2, 0, 0), 249, [.inr (.inr (.inl 214)), .inl (ck_one 1), .inl (ck_one 6)], ([], [], [(214, 3, 3, (0, 400, [(12, 0)]))]), ([(214, 3, 7)], []), [(.inr (some (.inl (ck_one (-1)))), 249, ([], [], zl7)), (.inr (some (.inl (1, 6, []))), 249, ([], [], [(214, 3, 3, (0, 400, [(1000012, 0)]))]))])
set_option maxRecDepth 100000 in
theorem pl_s126_e : ck_ok p2_OL none [] [(93, [pl_s26]), (76, [pl_s24])] 94 [] 106 pl_s126 = true := by decide +kernel
theorem pl_s126_s {X : Int → Int} {LX : Nat} : ck_Ok p2_OL X LX 94 pl_s126 := ck_ok_s ⟨pl_nmu, ck_E1 (ck_S1 pl_s26_s ck_S0) (ck_E1 (ck_S1 pl_s24_s ck_S0) ck_E0)⟩ ck_X0 ck_l0 pl_s126_e
set_option maxRecDepth 100000 in
/-- GlacierMail$ValleyReader.readLanes -/
def pl_s127 : ck_Sum := ((3, 0, 0), 249, [.inr (.inr (.inl 213))], ([], [], [(214, 3, 3, (0, 400, [(12, 0)]))]), ([(16, 0, 0), (16, 4, 4), (214, 3, 7)], []), [(.inr (some (.inl (ck_one 0))), 249, ([], [], zl21)), (.inr (some (.inl (ck_one 1))), 249, ([], [], zl38))])
set_option maxRecDepth 100000 in
theorem pl_s127_e : ck_ok p2_OL none [] [(105, [pl_s123]), (93, [pl_s26]), (76, [pl_s24]), (94, [pl_s126])] 104 [] 122 pl_s127 = true := by decide +kernel
theorem pl_s127_s {X : Int → Int} {LX : Nat} : ck_Ok p2_OL X LX 104 pl_s127 := ck_ok_s ⟨pl_nmu, ck_E1 (ck_S1 pl_s123_s ck_S0) (ck_E1 (ck_S1 pl_s26_s ck_S0) (ck_E1 (ck_S1 pl_s24_s ck_S0) (ck_E1 (ck_S1 pl_s126_s ck_S0) ck_E0)))⟩ ck_X0 ck_l0 pl_s127_e
set_option maxRecDepth 100000 in
/-- GlacierMail$ValleyReader.readLine -/
def pl_s128 : ck_Sum := ((10, 0, 0), 249, [.inr (.inr (.inl 213))], ([], [], [(214, 3, 3, (0, 400, [(12, 0)]))]), (zl39, []), zl226)
set_option maxRecDepth 100000 in
theorem pl_s128_e : ck_ok p2_OL none [] [(81, [pl_s28, pl_s29, pl_s30, pl_s31, pl_s32, pl_s33, pl_s34, pl_s35, pl_s36, pl_s37]), (93, [pl_s26]), (120, [pl_s45]), (118, [pl_s67]), (116, [pl_s80]), (115, [pl_s91]), (114, [pl_s93]), (113, [pl_s95]), (110, [pl_s100]), (107, [pl_s118]), (106, [pl_s125]), (104, [pl_s127])] 103 [] 178 pl_s128 = true := by decide +kernel
theorem pl_s128_s {X : Int → Int} {LX : Nat} : ck_Ok p2_OL X LX 103 pl_s128 := ck_ok_s ⟨pl_nmu, ck_E1 (ck_S1 pl_s28_s (ck_S1 pl_s29_s (ck_S1 pl_s30_s (ck_S1 pl_s31_s (ck_S1 pl_s32_s (ck_S1 pl_s33_s (ck_S1 pl_s34_s (ck_S1 pl_s35_s (ck_S1 pl_s36_s (ck_S1 pl_s37_s ck_S0)))))))))) (ck_E1 (ck_S1 pl_s26_s ck_S0) (ck_E1 (ck_S1 pl_s45_s ck_S0) (ck_E1 (ck_S1 pl_s67_s ck_S0) (ck_E1 (ck_S1 pl_s80_s ck_S0) (ck_E1 (ck_S1 pl_s91_s ck_S0) (ck_E1 (ck_S1 pl_s93_s ck_S0) (ck_E1 (ck_S1 pl_s95_s ck_S0) (ck_E1 (ck_S1 pl_s100_s ck_S0) (ck_E1 (ck_S1 pl_s118_s ck_S0) (ck_E1 (ck_S1 pl_s125_s ck_S0) (ck_E1 (ck_S1 pl_s127_s ck_S0) ck_E0)))))))))))⟩ ck_X0 ck_l0 pl_s128_e
set_option maxRecDepth 100000 in
/-- GlacierMail$Words.needSign -/
def pl_s129 : ck_Sum := ((2, 0, 0), 249, [.inr (.inr (.inl 214)), .inl (ck_one 59)], ([], [], [(214, 3, 3, (0, 400, [(12, 0)]))]), ([(214, 3, 7)], []), [(.inr (some (.inl (ck_one 1))), 249, ([], [], [(214, 3, 3, (0, 400, [(1000012, 0)]))])), (.inr (some (.inl (ck_one 0))), 249, ([], [], zl7))])
set_option maxRecDepth 100000 in
theorem pl_s129_e : ck_ok p2_OL none [] [(76, [pl_s24]), (93, [pl_s26])] 98 [] 86 pl_s129 = true := by decide +kernel
theorem pl_s129_s {X : Int → Int} {LX : Nat} : ck_Ok p2_OL X LX 98 pl_s129 := ck_ok_s ⟨pl_nmu, ck_E1 (ck_S1 pl_s24_s ck_S0) (ck_E1 (ck_S1 pl_s26_s ck_S0) ck_E0)⟩ ck_X0 ck_l0 pl_s129_e
set_option maxRecDepth 100000 in
/-- GlacierMail$TextReader.readText -/
def pl_s130 : ck_Sum := ((11, 0, 0), 249, [.inr (.inr (.inl 213)), .inl (0, 400, [])], ([], [], [(214, 3, 3, (0, 400, [(12, 0)]))]), (zl40, []), zl217)
set_option maxRecDepth 100000 in
theorem pl_s130_e : ck_ok p2_OL none [] [(74, [pl_s21]), (75, [pl_s25]), (93, [pl_s26]), (121, [pl_s27]), (103, [pl_s128]), (98, [pl_s129])] 72 [(29, [some (.inr (.inr (.inl 213))), some (.inl (0, 400, [])), some (.inl (0, 23, []))], ([], [], []), 100, .inl 2, true)] 174 pl_s130 = true := by decide +kernel
theorem pl_s130_s {X : Int → Int} {LX : Nat} : ck_Ok p2_OL X LX 72 pl_s130 := ck_ok_s ⟨pl_nmu, ck_E1 (ck_S1 pl_s21_s ck_S0) (ck_E1 (ck_S1 pl_s25_s ck_S0) (ck_E1 (ck_S1 pl_s26_s ck_S0) (ck_E1 (ck_S1 pl_s27_s ck_S0) (ck_E1 (ck_S1 pl_s128_s ck_S0) (ck_E1 (ck_S1 pl_s129_s ck_S0) ck_E0)))))⟩ ck_X0 ck_l0 pl_s130_e
set_option maxRecDepth 100000 in
/-- GlacierMail$Ice.reckonHeats -/
def pl_s131 : ck_Sum := ((0, 0, 0), 249, [.inr (.inr (.inl 200))], ([], [], []), ([(201, 0, 299)], []), [(.inr none, 249, ([], [], []))])
set_option maxRecDepth 100000 in
theorem pl_s131_e : ck_ok p2_OL none [] [] 6 [(10, [some (.inr (.inr (.inl 200))), some (.inl ((-2147483648), 2147483647, [])), some (.inl (0, 300, []))], ([], [], []), 100, .inl 2, true)] 182 pl_s131 = true := by decide +kernel
theorem pl_s131_s {X : Int → Int} {LX : Nat} : ck_Ok p2_OL X LX 6 pl_s131 := ck_ok_s ⟨pl_nmu, ck_E0⟩ ck_X0 ck_l0 pl_s131_e
set_option maxRecDepth 100000 in
/-- java/util/Arrays.fill -/
def pl_s132 : ck_Sum := ((0, 0, 0), 249, [.inr (.inr (.inl 202)), .inl (ck_one 0)], ([], [], []), ([(202, 0, 593)], []), [(.inr none, 249, ([], [], []))])
set_option maxRecDepth 100000 in
theorem pl_s132_e : ck_ok p2_OL none [] [] 8 [(5, [some (.inr (.inr (.inl 202))), some (.inl (ck_one 0)), some (.inl (0, 594, [])), some (.inl (ck_one 594))], ([], [], []), 100, .inl 2, true)] 130 pl_s132 = true := by decide +kernel
theorem pl_s132_s {X : Int → Int} {LX : Nat} : ck_Ok p2_OL X LX 8 pl_s132 := ck_ok_s ⟨pl_nmu, ck_E0⟩ ck_X0 ck_l0 pl_s132_e
set_option maxRecDepth 100000 in
/-- GlacierMail$Rows.size -/
def pl_s133 : ck_Sum := ((0, 0, 0), 249, [.inr (.inr (.inl 4))], ([], [], []), ([], []), [(.inr (some (.inl (0, 8, []))), 249, ([], [], []))])
set_option maxRecDepth 100000 in
theorem pl_s133_e : ck_ok p2_OL none [] [] 9 [] 76 pl_s133 = true := by decide +kernel
theorem pl_s133_s {X : Int → Int} {LX : Nat} : ck_Ok p2_OL X LX 9 pl_s133 := ck_ok_s ⟨pl_nmu, ck_E0⟩ ck_X0 ck_l0 pl_s133_e
set_option maxRecDepth 100000 in
/-- GlacierMail$Rows.get -/
def pl_s134 : ck_Sum := ((0, 0, 0), 249, [.inr (.inr (.inl 4)), .inl ((-2147483648), 2147483647, []), .inl ((-2147483648), 2147483647, [])], ([], [], []), ([], []), [(.inr (some (.inl (ck_one (-1)))), 249, ([], [], [])), (.inr (some (.inl (0, 98, []))), 249, ([], [], [(4, 3, 3, (1, 8, []))]))])
set_option maxRecDepth 100000 in
theorem pl_s134_e : ck_ok p2_OL none [] [] 10 [] 114 pl_s134 = true := by decide +kernel
theorem pl_s134_s {X : Int → Int} {LX : Nat} : ck_Ok p2_OL X LX 10 pl_s134 := ck_ok_s ⟨pl_nmu, ck_E0⟩ ck_X0 ck_l0 pl_s134_e
set_option maxRecDepth 100000 in
/-- GlacierMail$Ice.reckonSpeeds -/
def pl_s135 : ck_Sum := ((1, 0, 0), 249, [.inr (.inr (.inl 200))], ([], [], []), ([(202, 0, 593)], []), [(.inr none, 249, ([], [], []))])
set_option maxRecDepth 100000 in
theorem pl_s135_e : ck_ok p2_OL none [] [(8, [pl_s132]), (9, [pl_s133]), (10, [pl_s134])] 7 [(10, [some (.inr (.inr (.inl 200))), some (.inl (0, 9, [])), none, none, none, none], ([], [], []), 100, .inl 1, true), (43, [some (.inr (.inr (.inl 200))), some (.inl (0, 7, [(100, 0)])), some (.inl (0, 98, [])), some (.inl (0, 6, [])), none, none], ([], [], []), 300, .inl 3, true), (79, [some (.inr (.inr (.inl 200))), some (.inl (0, 7, [(100, 0)])), some (.inl (0, 98, [])), some (.inl (0, 5, [(300, 0)])), some (.inl ((-1), 98, [])), some (.inl (0, 99, []))], ([], [], []), 500, .inl 5, true)] 290 pl_s135 = true := by decide +kernel
theorem pl_s135_s {X : Int → Int} {LX : Nat} : ck_Ok p2_OL X LX 7 pl_s135 := ck_ok_s ⟨pl_nmu, ck_E1 (ck_S1 pl_s132_s ck_S0) (ck_E1 (ck_S1 pl_s133_s ck_S0) (ck_E1 (ck_S1 pl_s134_s ck_S0) ck_E0))⟩ ck_X0 ck_l0 pl_s135_e
set_option maxRecDepth 100000 in
/-- java/util/Arrays.fill -/
def pl_s136 : ck_Sum := ((0, 0, 0), 249, [.inr (.inr (.inl 203)), .inl (ck_one 0)], ([], [], []), ([(203, 0, 299)], []), [(.inr none, 249, ([], [], []))])
set_option maxRecDepth 100000 in
theorem pl_s136_e : ck_ok p2_OL none [] [] 8 [(5, [some (.inr (.inr (.inl 203))), some (.inl (ck_one 0)), some (.inl (0, 300, [])), some (.inl (ck_one 300))], ([], [], []), 100, .inl 2, true)] 130 pl_s136 = true := by decide +kernel
theorem pl_s136_s {X : Int → Int} {LX : Nat} : ck_Ok p2_OL X LX 8 pl_s136 := ck_ok_s ⟨pl_nmu, ck_E0⟩ ck_X0 ck_l0 pl_s136_e
set_option maxRecDepth 100000 in
/-- GlacierMail$Rows.size -/
def pl_s137 : ck_Sum := ((0, 0, 0), 249, [.inr (.inr (.inl 6))], ([], [], []), ([], []), [(.inr (some (.inl (0, 8, []))), 249, ([], [], []))])
set_option maxRecDepth 100000 in
theorem pl_s137_e : ck_ok p2_OL none [] [] 9 [] 76 pl_s137 = true := by decide +kernel
theorem pl_s137_s {X : Int → Int} {LX : Nat} : ck_Ok p2_OL X LX 9 pl_s137 := ck_ok_s ⟨pl_nmu, ck_E0⟩ ck_X0 ck_l0 pl_s137_e
set_option maxRecDepth 100000 in
/-- GlacierMail$Rows.get -/
def pl_s138 : ck_Sum := ((0, 0, 0), 249, [.inr (.inr (.inl 6)), .inl ((-2147483648), 2147483647, []), .inl ((-2147483648), 2147483647, [])], ([], [], []), ([], []), [(.inr (some (.inl (ck_one (-1)))), 249, ([], [], [])), (.inr (some (.inl (0, 299, []))), 249, ([], [], [(6, 3, 3, (1, 8, []))]))])
set_option maxRecDepth 100000 in
theorem pl_s138_e : ck_ok p2_OL none [] [] 10 [] 114 pl_s138 = true := by decide +kernel
theorem pl_s138_s {X : Int → Int} {LX : Nat} : ck_Ok p2_OL X LX 10 pl_s138 := ck_ok_s ⟨pl_nmu, ck_E0⟩ ck_X0 ck_l0 pl_s138_e
set_option maxRecDepth 100000 in
/-- GlacierMail$Ice.reckonFloods -/
def pl_s139 : ck_Sum := ((1, 0, 0), 249, [.inr (.inr (.inl 200))], ([], [], []), ([(203, 0, 299)], []), [(.inr none, 249, ([], [], []))])
set_option maxRecDepth 100000 in
theorem pl_s139_e : ck_ok p2_OL none [] [(8, [pl_s136]), (9, [pl_s137]), (10, [pl_s138])] 12 [(10, [some (.inr (.inr (.inl 200))), some (.inl (0, 9, [])), none], ([], [], []), 100, .inl 1, true)] 214 pl_s139 = true := by decide +kernel
theorem pl_s139_s {X : Int → Int} {LX : Nat} : ck_Ok p2_OL X LX 12 pl_s139 := ck_ok_s ⟨pl_nmu, ck_E1 (ck_S1 pl_s136_s ck_S0) (ck_E1 (ck_S1 pl_s137_s ck_S0) (ck_E1 (ck_S1 pl_s138_s ck_S0) ck_E0))⟩ ck_X0 ck_l0 pl_s139_e
set_option maxRecDepth 100000 in
/-- GlacierMail$Ice.renew -/
def pl_s140 : ck_Sum := ((2, 0, 0), 249, [.inr (.inr (.inl 200))], ([], [], []), (zl41, []), [(.inr none, 249, ([], [], [(200, 6, 6, ck_one 1)]))])
set_option maxRecDepth 100000 in
theorem pl_s140_e : ck_ok p2_OL none [] [(6, [pl_s131]), (7, [pl_s135]), (12, [pl_s139])] 5 [] 90 pl_s140 = true := by decide +kernel
theorem pl_s140_s {X : Int → Int} {LX : Nat} : ck_Ok p2_OL X LX 5 pl_s140 := ck_ok_s ⟨pl_nmu, ck_E1 (ck_S1 pl_s131_s ck_S0) (ck_E1 (ck_S1 pl_s135_s ck_S0) (ck_E1 (ck_S1 pl_s139_s ck_S0) ck_E0))⟩ ck_X0 ck_l0 pl_s140_e
set_option maxRecDepth 100000 in
/-- GlacierMail$History.forget -/
def pl_s141 : ck_Sum := ((0, 0, 0), 249, [.inr (.inr (.inl 42))], ([], [], []), ([(42, 2, 2)], []), [(.inr none, 249, ([], [], [(42, 2, 2, ck_one 0)]))])
set_option maxRecDepth 100000 in
theorem pl_s141_e : ck_ok p2_OL none [] [] 62 [] 78 pl_s141 = true := by decide +kernel
theorem pl_s141_s {X : Int → Int} {LX : Nat} : ck_Ok p2_OL X LX 62 pl_s141 := ck_ok_s ⟨pl_nmu, ck_E0⟩ ck_X0 ck_l0 pl_s141_e
set_option maxRecDepth 100000 in
/-- GlacierMail.forgetWays -/
def pl_s142 : ck_Sum := ((3, 0, 0), 249, [.inr (.inr (.inl 1))], ([], [], []), (zl42, []), [(.inr none, 249, ([], [], zl43))])
set_option maxRecDepth 100000 in
theorem pl_s142_e : ck_ok p2_OL none [] [(5, [pl_s140]), (62, [pl_s141])] 61 [] 90 pl_s142 = true := by decide +kernel
theorem pl_s142_s {X : Int → Int} {LX : Nat} : ck_Ok p2_OL X LX 61 pl_s142 := ck_ok_s ⟨pl_nmu, ck_E1 (ck_S1 pl_s140_s ck_S0) (ck_E1 (ck_S1 pl_s141_s ck_S0) ck_E0)⟩ ck_X0 ck_l0 pl_s142_e
set_option maxRecDepth 100000 in
/-- GlacierMail.valley -/
def pl_s143 : ck_Sum := ((12, 1, 6), 249, [.inr (.inr (.inl 1))], ([], [(3, 8, 246), (16, 8, 100016)], zl44), (zl45, [(3, 8), (16, 8)]), [(.inr (some (.inl ((-2147483648), (-1), []))), 249, ([], [(3, 8, 246), (16, 8, 246)], zl46)), (.inr (some (.inl (0, 2147483647, []))), 249, ([], [(3, 8, 246), (16, 8, 246)], zl47)), (.inl 1, 249, ([], [(3, 8, 246), (16, 8, 246)], zl48)), (.inl 0, 249, ([], [(3, 8, 246), (16, 8, 246)], zl49))])
set_option maxRecDepth 100000 in
theorem pl_s143_e : ck_ok p2_OL none [] [(57, [pl_s13, pl_s20]), (72, [pl_s130]), (61, [pl_s142])] 71 [] 154 pl_s143 = true := by decide +kernel
theorem pl_s143_s {X : Int → Int} {LX : Nat} : ck_Ok p2_OL X LX 71 pl_s143 := ck_ok_s ⟨pl_nmu, ck_E1 (ck_S1 pl_s13_s (ck_S1 pl_s20_s ck_S0)) (ck_E1 (ck_S1 pl_s130_s ck_S0) (ck_E1 (ck_S1 pl_s142_s ck_S0) ck_E0))⟩ ck_X0 ck_l0 pl_s143_e
set_option maxRecDepth 100000 in
/-- GlacierMail.fault -/
def pl_s144 : ck_Sum := ((0, 0, 0), 249, [.inr (.inr (.inl 1))], ([], [], []), ([], []), [(.inr (some (.inl (ck_one (-1)))), 249, ([], [], [(1, 2, 2, ck_one (-1))])), (.inr (some (.inl (0, 400, []))), 249, ([], [], [(1, 2, 2, (0, 400, []))]))])
set_option maxRecDepth 100000 in
theorem pl_s144_e : ck_ok p2_OL none [] [] 22 [] 76 pl_s144 = true := by decide +kernel
theorem pl_s144_s {X : Int → Int} {LX : Nat} : ck_Ok p2_OL X LX 22 pl_s144 := ck_ok_s ⟨pl_nmu, ck_E0⟩ ck_X0 ck_l0 pl_s144_e
set_option maxRecDepth 100000 in
/-- GlacierMail.needYear -/
def pl_s145 : ck_Sum := ((6, 1, 6), 249, [.inr (.inr (.inl 1)), .inl ((-2147483648), (-1), [])], ([], [], []), ([], []), [(.inl 0, 249, ([], [], []))])
set_option maxRecDepth 100000 in
theorem pl_s145_e : ck_ok p2_OL none [] [] 129 [] 76 pl_s145 = true := by decide +kernel
theorem pl_s145_s {X : Int → Int} {LX : Nat} : ck_Ok p2_OL X LX 129 pl_s145 := ck_ok_s ⟨pl_nmu, ck_E0⟩ ck_X0 ck_l0 pl_s145_e
set_option maxRecDepth 100000 in
/-- GlacierMail.heat -/
def pl_s146 : ck_Sum := ((7, 1, 6), 249, [.inr (.inr (.inl 1)), .inl ((-2147483648), (-1), [])], ([], [], []), ([], []), [(.inl 0, 249, ([], [], []))])
set_option maxRecDepth 100000 in
theorem pl_s146_e : ck_ok p2_OL none [] [(129, [pl_s145])] 128 [] 76 pl_s146 = true := by decide +kernel
theorem pl_s146_s {X : Int → Int} {LX : Nat} : ck_Ok p2_OL X LX 128 pl_s146 := ck_ok_s ⟨pl_nmu, ck_E1 (ck_S1 pl_s145_s ck_S0) ck_E0⟩ ck_X0 ck_l0 pl_s146_e
set_option maxRecDepth 100000 in
/-- GlacierMail.needYear -/
def pl_s147 : ck_Sum := ((6, 1, 6), 249, [.inr (.inr (.inl 1)), .inl (300, 2147483647, [])], ([], [], []), ([], []), [(.inl 0, 249, ([], [], []))])
set_option maxRecDepth 100000 in
theorem pl_s147_e : ck_ok p2_OL none [] [] 129 [] 82 pl_s147 = true := by decide +kernel
theorem pl_s147_s {X : Int → Int} {LX : Nat} : ck_Ok p2_OL X LX 129 pl_s147 := ck_ok_s ⟨pl_nmu, ck_E0⟩ ck_X0 ck_l0 pl_s147_e
set_option maxRecDepth 100000 in
/-- GlacierMail.heat -/
def pl_s148 : ck_Sum := ((7, 1, 6), 249, [.inr (.inr (.inl 1)), .inl (300, 2147483647, [])], ([], [], []), ([], []), [(.inl 0, 249, ([], [], []))])
set_option maxRecDepth 100000 in
theorem pl_s148_e : ck_ok p2_OL none [] [(129, [pl_s147])] 128 [] 76 pl_s148 = true := by decide +kernel
theorem pl_s148_s {X : Int → Int} {LX : Nat} : ck_Ok p2_OL X LX 128 pl_s148 := ck_ok_s ⟨pl_nmu, ck_E1 (ck_S1 pl_s147_s ck_S0) ck_E0⟩ ck_X0 ck_l0 pl_s148_e
set_option maxRecDepth 100000 in
/-- GlacierMail.needYear -/
def pl_s149 : ck_Sum := ((0, 0, 0), 249, [.inr (.inr (.inl 1)), .inl (0, 299, [])], ([], [], []), ([], []), [(.inr none, 249, ([], [], []))])
set_option maxRecDepth 100000 in
theorem pl_s149_e : ck_ok p2_OL none [] [] 129 [] 82 pl_s149 = true := by decide +kernel
theorem pl_s149_s {X : Int → Int} {LX : Nat} : ck_Ok p2_OL X LX 129 pl_s149 := ck_ok_s ⟨pl_nmu, ck_E0⟩ ck_X0 ck_l0 pl_s149_e
set_option maxRecDepth 100000 in
/-- GlacierMail$Ice.heatIn -/
def pl_s150 : ck_Sum := ((0, 0, 0), 249, [.inr (.inr (.inl 200)), .inl (0, 299, [])], ([], [], []), ([], []), [(.inr (some (.inl (0, 9, []))), 249, ([], [], []))])
set_option maxRecDepth 100000 in
theorem pl_s150_e : ck_ok p2_OL none [] [] 34 [] 92 pl_s150 = true := by decide +kernel
theorem pl_s150_s {X : Int → Int} {LX : Nat} : ck_Ok p2_OL X LX 34 pl_s150 := ck_ok_s ⟨pl_nmu, ck_E0⟩ ck_X0 ck_l0 pl_s150_e
set_option maxRecDepth 100000 in
/-- GlacierMail.heat -/
def pl_s151 : ck_Sum := ((1, 0, 0), 249, [.inr (.inr (.inl 1)), .inl (0, 299, [])], ([], [], []), ([], []), [(.inr (some (.inl (0, 9, []))), 249, ([], [], []))])
set_option maxRecDepth 100000 in
theorem pl_s151_e : ck_ok p2_OL none [] [(129, [pl_s149]), (34, [pl_s150])] 128 [] 86 pl_s151 = true := by decide +kernel
theorem pl_s151_s {X : Int → Int} {LX : Nat} : ck_Ok p2_OL X LX 128 pl_s151 := ck_ok_s ⟨pl_nmu, ck_E1 (ck_S1 pl_s149_s ck_S0) (ck_E1 (ck_S1 pl_s150_s ck_S0) ck_E0)⟩ ck_X0 ck_l0 pl_s151_e
set_option maxRecDepth 100000 in
/-- GlacierMail.need -/
def pl_s152 : ck_Sum := ((6, 1, 6), 249, [.inr (.inr (.inl 1)), .inl ((-2147483648), (-1), []), .inl (1, 6, [])], ([], [], []), ([], []), [(.inl 3, 249, ([], [], []))])
set_option maxRecDepth 100000 in
theorem pl_s152_e : ck_ok p2_OL none [] [] 133 [] 76 pl_s152 = true := by decide +kernel
theorem pl_s152_s {X : Int → Int} {LX : Nat} : ck_Ok p2_OL X LX 133 pl_s152 := ck_ok_s ⟨pl_nmu, ck_E0⟩ ck_X0 ck_l0 pl_s152_e
set_option maxRecDepth 100000 in
/-- GlacierMail.needLane -/
def pl_s153 : ck_Sum := ((7, 1, 6), 249, [.inr (.inr (.inl 1)), .inl ((-2147483648), (-1), [])], ([], [], []), ([], []), [(.inl 3, 249, ([], [], []))])
set_option maxRecDepth 100000 in
theorem pl_s153_e : ck_ok p2_OL none [] [(133, [pl_s152])] 132 [] 82 pl_s153 = true := by decide +kernel
theorem pl_s153_s {X : Int → Int} {LX : Nat} : ck_Ok p2_OL X LX 132 pl_s153 := ck_ok_s ⟨pl_nmu, ck_E1 (ck_S1 pl_s152_s ck_S0) ck_E0⟩ ck_X0 ck_l0 pl_s153_e
set_option maxRecDepth 100000 in
/-- GlacierMail.speed -/
def pl_s154 : ck_Sum := ((8, 1, 6), 249, [.inr (.inr (.inl 1)), .inl ((-2147483648), (-1), []), .inl ((-2147483648), 2147483647, [])], ([], [], []), ([], []), [(.inl 3, 249, ([], [], []))])
set_option maxRecDepth 100000 in
theorem pl_s154_e : ck_ok p2_OL none [] [(132, [pl_s153])] 131 [] 76 pl_s154 = true := by decide +kernel
theorem pl_s154_s {X : Int → Int} {LX : Nat} : ck_Ok p2_OL X LX 131 pl_s154 := ck_ok_s ⟨pl_nmu, ck_E1 (ck_S1 pl_s153_s ck_S0) ck_E0⟩ ck_X0 ck_l0 pl_s154_e
set_option maxRecDepth 100000 in
/-- GlacierMail.need -/
def pl_s155 : ck_Sum := ((6, 1, 6), 249, [.inr (.inr (.inl 1)), .inl (6, 2147483647, []), .inl (1, 6, [])], ([], [], []), ([], []), [(.inl 3, 249, ([], [], []))])
set_option maxRecDepth 100000 in
theorem pl_s155_e : ck_ok p2_OL none [] [] 133 [] 82 pl_s155 = true := by decide +kernel
theorem pl_s155_s {X : Int → Int} {LX : Nat} : ck_Ok p2_OL X LX 133 pl_s155 := ck_ok_s ⟨pl_nmu, ck_E0⟩ ck_X0 ck_l0 pl_s155_e
set_option maxRecDepth 100000 in
/-- GlacierMail.needLane -/
def pl_s156 : ck_Sum := ((7, 1, 6), 249, [.inr (.inr (.inl 1)), .inl (6, 2147483647, [])], ([], [], []), ([], []), [(.inl 3, 249, ([], [], []))])
set_option maxRecDepth 100000 in
theorem pl_s156_e : ck_ok p2_OL none [] [(133, [pl_s155])] 132 [] 82 pl_s156 = true := by decide +kernel
theorem pl_s156_s {X : Int → Int} {LX : Nat} : ck_Ok p2_OL X LX 132 pl_s156 := ck_ok_s ⟨pl_nmu, ck_E1 (ck_S1 pl_s155_s ck_S0) ck_E0⟩ ck_X0 ck_l0 pl_s156_e
set_option maxRecDepth 100000 in
/-- GlacierMail.speed -/
def pl_s157 : ck_Sum := ((8, 1, 6), 249, [.inr (.inr (.inl 1)), .inl (6, 2147483647, []), .inl ((-2147483648), 2147483647, [])], ([], [], []), ([], []), [(.inl 3, 249, ([], [], []))])
set_option maxRecDepth 100000 in
theorem pl_s157_e : ck_ok p2_OL none [] [(132, [pl_s156])] 131 [] 76 pl_s157 = true := by decide +kernel
theorem pl_s157_s {X : Int → Int} {LX : Nat} : ck_Ok p2_OL X LX 131 pl_s157 := ck_ok_s ⟨pl_nmu, ck_E1 (ck_S1 pl_s156_s ck_S0) ck_E0⟩ ck_X0 ck_l0 pl_s157_e
set_option maxRecDepth 100000 in
/-- GlacierMail.need -/
def pl_s158 : ck_Sum := ((6, 1, 6), 249, [.inr (.inr (.inl 1)), .inl (0, 5, []), .inl (1, 6, [])], ([], [], []), ([], []), [(.inr none, 249, ([], [], [])), (.inl 3, 249, ([], [], []))])
set_option maxRecDepth 100000 in
theorem pl_s158_e : ck_ok p2_OL none [] [] 133 [] 82 pl_s158 = true := by decide +kernel
theorem pl_s158_s {X : Int → Int} {LX : Nat} : ck_Ok p2_OL X LX 133 pl_s158 := ck_ok_s ⟨pl_nmu, ck_E0⟩ ck_X0 ck_l0 pl_s158_e
set_option maxRecDepth 100000 in
/-- GlacierMail.needLane -/
def pl_s159 : ck_Sum := ((7, 1, 6), 249, [.inr (.inr (.inl 1)), .inl (0, 5, [])], ([], [], []), ([], []), [(.inl 3, 249, ([], [], [])), (.inr none, 249, ([], [], []))])
set_option maxRecDepth 100000 in
theorem pl_s159_e : ck_ok p2_OL none [] [(133, [pl_s158])] 132 [] 84 pl_s159 = true := by decide +kernel
theorem pl_s159_s {X : Int → Int} {LX : Nat} : ck_Ok p2_OL X LX 132 pl_s159 := ck_ok_s ⟨pl_nmu, ck_E1 (ck_S1 pl_s158_s ck_S0) ck_E0⟩ ck_X0 ck_l0 pl_s159_e
set_option maxRecDepth 100000 in
/-- GlacierMail.need -/
def pl_s160 : ck_Sum := ((6, 1, 6), 249, [.inr (.inr (.inl 1)), .inl ((-2147483648), (-1), []), .inl (10, 99, [])], ([], [], []), ([], []), [(.inl 3, 249, ([], [], []))])
set_option maxRecDepth 100000 in
theorem pl_s160_e : ck_ok p2_OL none [] [] 133 [] 76 pl_s160 = true := by decide +kernel
theorem pl_s160_s {X : Int → Int} {LX : Nat} : ck_Ok p2_OL X LX 133 pl_s160 := ck_ok_s ⟨pl_nmu, ck_E0⟩ ck_X0 ck_l0 pl_s160_e
set_option maxRecDepth 100000 in
/-- GlacierMail.needRow -/
def pl_s161 : ck_Sum := ((7, 1, 6), 249, [.inr (.inr (.inl 1)), .inl ((-2147483648), (-1), [])], ([], [], []), ([], []), [(.inl 3, 249, ([], [], []))])
set_option maxRecDepth 100000 in
theorem pl_s161_e : ck_ok p2_OL none [] [(133, [pl_s160])] 134 [] 82 pl_s161 = true := by decide +kernel
theorem pl_s161_s {X : Int → Int} {LX : Nat} : ck_Ok p2_OL X LX 134 pl_s161 := ck_ok_s ⟨pl_nmu, ck_E1 (ck_S1 pl_s160_s ck_S0) ck_E0⟩ ck_X0 ck_l0 pl_s161_e
set_option maxRecDepth 100000 in
/-- GlacierMail.speed -/
def pl_s162 : ck_Sum := ((8, 2, 12), 249, [.inr (.inr (.inl 1)), .inl (0, 5, []), .inl ((-2147483648), (-1), [])], ([], [], []), ([], []), [(.inl 3, 249, ([], [], []))])
set_option maxRecDepth 100000 in
theorem pl_s162_e : ck_ok p2_OL none [] [(132, [pl_s159]), (134, [pl_s161])] 131 [] 82 pl_s162 = true := by decide +kernel
theorem pl_s162_s {X : Int → Int} {LX : Nat} : ck_Ok p2_OL X LX 131 pl_s162 := ck_ok_s ⟨pl_nmu, ck_E1 (ck_S1 pl_s159_s ck_S0) (ck_E1 (ck_S1 pl_s161_s ck_S0) ck_E0)⟩ ck_X0 ck_l0 pl_s162_e
set_option maxRecDepth 100000 in
/-- GlacierMail.need -/
def pl_s163 : ck_Sum := ((6, 1, 6), 249, [.inr (.inr (.inl 1)), .inl (99, 2147483647, []), .inl (10, 99, [])], ([], [], []), ([], []), [(.inl 3, 249, ([], [], []))])
set_option maxRecDepth 100000 in
theorem pl_s163_e : ck_ok p2_OL none [] [] 133 [] 82 pl_s163 = true := by decide +kernel
theorem pl_s163_s {X : Int → Int} {LX : Nat} : ck_Ok p2_OL X LX 133 pl_s163 := ck_ok_s ⟨pl_nmu, ck_E0⟩ ck_X0 ck_l0 pl_s163_e
set_option maxRecDepth 100000 in
/-- GlacierMail.needRow -/
def pl_s164 : ck_Sum := ((7, 1, 6), 249, [.inr (.inr (.inl 1)), .inl (99, 2147483647, [])], ([], [], []), ([], []), [(.inl 3, 249, ([], [], []))])
set_option maxRecDepth 100000 in
theorem pl_s164_e : ck_ok p2_OL none [] [(133, [pl_s163])] 134 [] 82 pl_s164 = true := by decide +kernel
theorem pl_s164_s {X : Int → Int} {LX : Nat} : ck_Ok p2_OL X LX 134 pl_s164 := ck_ok_s ⟨pl_nmu, ck_E1 (ck_S1 pl_s163_s ck_S0) ck_E0⟩ ck_X0 ck_l0 pl_s164_e
set_option maxRecDepth 100000 in
/-- GlacierMail.speed -/
def pl_s165 : ck_Sum := ((8, 2, 12), 249, [.inr (.inr (.inl 1)), .inl (0, 5, []), .inl (99, 2147483647, [])], ([], [], []), ([], []), [(.inl 3, 249, ([], [], []))])
set_option maxRecDepth 100000 in
theorem pl_s165_e : ck_ok p2_OL none [] [(132, [pl_s159]), (134, [pl_s164])] 131 [] 82 pl_s165 = true := by decide +kernel
theorem pl_s165_s {X : Int → Int} {LX : Nat} : ck_Ok p2_OL X LX 131 pl_s165 := ck_ok_s ⟨pl_nmu, ck_E1 (ck_S1 pl_s159_s ck_S0) (ck_E1 (ck_S1 pl_s164_s ck_S0) ck_E0)⟩ ck_X0 ck_l0 pl_s165_e
set_option maxRecDepth 100000 in
/-- GlacierMail.need -/
def pl_s166 : ck_Sum := ((6, 1, 6), 249, [.inr (.inr (.inl 1)), .inl (0, 98, []), .inl (10, 99, [])], ([], [], []), ([], []), [(.inr none, 249, ([], [], [])), (.inl 3, 249, ([], [], []))])
set_option maxRecDepth 100000 in
theorem pl_s166_e : ck_ok p2_OL none [] [] 133 [] 82 pl_s166 = true := by decide +kernel
theorem pl_s166_s {X : Int → Int} {LX : Nat} : ck_Ok p2_OL X LX 133 pl_s166 := ck_ok_s ⟨pl_nmu, ck_E0⟩ ck_X0 ck_l0 pl_s166_e
set_option maxRecDepth 100000 in
/-- GlacierMail.needRow -/
def pl_s167 : ck_Sum := ((7, 1, 6), 249, [.inr (.inr (.inl 1)), .inl (0, 98, [])], ([], [], []), ([], []), [(.inl 3, 249, ([], [], [])), (.inr none, 249, ([], [], []))])
set_option maxRecDepth 100000 in
theorem pl_s167_e : ck_ok p2_OL none [] [(133, [pl_s166])] 134 [] 84 pl_s167 = true := by decide +kernel
theorem pl_s167_s {X : Int → Int} {LX : Nat} : ck_Ok p2_OL X LX 134 pl_s167 := ck_ok_s ⟨pl_nmu, ck_E1 (ck_S1 pl_s166_s ck_S0) ck_E0⟩ ck_X0 ck_l0 pl_s167_e
set_option maxRecDepth 100000 in
/-- GlacierMail$Ice.speedAt -/
def pl_s168 : ck_Sum := ((0, 0, 0), 249, [.inr (.inr (.inl 200)), .inl (0, 5, []), .inl (0, 98, [])], ([], [], []), ([], []), [(.inr (some (.inl ((-1), 98, []))), 249, ([], [], []))])
set_option maxRecDepth 100000 in
theorem pl_s168_e : ck_ok p2_OL none [] [] 36 [] 108 pl_s168 = true := by decide +kernel
theorem pl_s168_s {X : Int → Int} {LX : Nat} : ck_Ok p2_OL X LX 36 pl_s168 := ck_ok_s ⟨pl_nmu, ck_E0⟩ ck_X0 ck_l0 pl_s168_e
set_option maxRecDepth 100000 in
/-- GlacierMail.speed -/
def pl_s169 : ck_Sum := ((8, 2, 12), 249, [.inr (.inr (.inl 1)), .inl (0, 5, []), .inl (0, 98, [])], ([], [], []), ([], []), [(.inl 3, 249, ([], [], [])), (.inr (some (.inl ((-1), 98, []))), 249, ([], [], []))])
set_option maxRecDepth 100000 in
theorem pl_s169_e : ck_ok p2_OL none [] [(132, [pl_s159]), (134, [pl_s167]), (36, [pl_s168])] 131 [] 94 pl_s169 = true := by decide +kernel
theorem pl_s169_s {X : Int → Int} {LX : Nat} : ck_Ok p2_OL X LX 131 pl_s169 := ck_ok_s ⟨pl_nmu, ck_E1 (ck_S1 pl_s159_s ck_S0) (ck_E1 (ck_S1 pl_s167_s ck_S0) (ck_E1 (ck_S1 pl_s168_s ck_S0) ck_E0))⟩ ck_X0 ck_l0 pl_s169_e
set_option maxRecDepth 100000 in
/-- GlacierMail.flow -/
def pl_s170 : ck_Sum := ((8, 1, 6), 249, [.inr (.inr (.inl 1)), .inl ((-2147483648), (-1), []), .inl ((-2147483648), 2147483647, []), .inl ((-2147483648), 2147483647, [])], ([], [], []), ([], []), [(.inl 3, 249, ([], [], []))])
set_option maxRecDepth 100000 in
theorem pl_s170_e : ck_ok p2_OL none [] [(132, [pl_s153])] 136 [] 76 pl_s170 = true := by decide +kernel
theorem pl_s170_s {X : Int → Int} {LX : Nat} : ck_Ok p2_OL X LX 136 pl_s170 := ck_ok_s ⟨pl_nmu, ck_E1 (ck_S1 pl_s153_s ck_S0) ck_E0⟩ ck_X0 ck_l0 pl_s170_e
set_option maxRecDepth 100000 in
/-- GlacierMail.flow -/
def pl_s171 : ck_Sum := ((8, 1, 6), 249, [.inr (.inr (.inl 1)), .inl (6, 2147483647, []), .inl ((-2147483648), 2147483647, []), .inl ((-2147483648), 2147483647, [])], ([], [], []), ([], []), [(.inl 3, 249, ([], [], []))])
set_option maxRecDepth 100000 in
theorem pl_s171_e : ck_ok p2_OL none [] [(132, [pl_s156])] 136 [] 76 pl_s171 = true := by decide +kernel
theorem pl_s171_s {X : Int → Int} {LX : Nat} : ck_Ok p2_OL X LX 136 pl_s171 := ck_ok_s ⟨pl_nmu, ck_E1 (ck_S1 pl_s156_s ck_S0) ck_E0⟩ ck_X0 ck_l0 pl_s171_e
set_option maxRecDepth 100000 in
/-- GlacierMail.flow -/
def pl_s172 : ck_Sum := ((8, 2, 12), 249, [.inr (.inr (.inl 1)), .inl (0, 5, []), .inl ((-2147483648), (-1), []), .inl ((-2147483648), 2147483647, [])], ([], [], []), ([], []), [(.inl 3, 249, ([], [], []))])
set_option maxRecDepth 100000 in
theorem pl_s172_e : ck_ok p2_OL none [] [(132, [pl_s159]), (134, [pl_s161])] 136 [] 82 pl_s172 = true := by decide +kernel
theorem pl_s172_s {X : Int → Int} {LX : Nat} : ck_Ok p2_OL X LX 136 pl_s172 := ck_ok_s ⟨pl_nmu, ck_E1 (ck_S1 pl_s159_s ck_S0) (ck_E1 (ck_S1 pl_s161_s ck_S0) ck_E0)⟩ ck_X0 ck_l0 pl_s172_e
set_option maxRecDepth 100000 in
/-- GlacierMail.flow -/
def pl_s173 : ck_Sum := ((8, 2, 12), 249, [.inr (.inr (.inl 1)), .inl (0, 5, []), .inl (99, 2147483647, []), .inl ((-2147483648), 2147483647, [])], ([], [], []), ([], []), [(.inl 3, 249, ([], [], []))])
set_option maxRecDepth 100000 in
theorem pl_s173_e : ck_ok p2_OL none [] [(132, [pl_s159]), (134, [pl_s164])] 136 [] 82 pl_s173 = true := by decide +kernel
theorem pl_s173_s {X : Int → Int} {LX : Nat} : ck_Ok p2_OL X LX 136 pl_s173 := ck_ok_s ⟨pl_nmu, ck_E1 (ck_S1 pl_s159_s ck_S0) (ck_E1 (ck_S1 pl_s164_s ck_S0) ck_E0)⟩ ck_X0 ck_l0 pl_s173_e
set_option maxRecDepth 100000 in
/-- GlacierMail.flow -/
def pl_s174 : ck_Sum := ((8, 3, 18), 249, [.inr (.inr (.inl 1)), .inl (0, 5, []), .inl (0, 98, []), .inl ((-2147483648), (-1), [])], ([], [], []), ([], []), [(.inl 3, 249, ([], [], [])), (.inl 0, 249, ([], [], []))])
set_option maxRecDepth 100000 in
theorem pl_s174_e : ck_ok p2_OL none [] [(132, [pl_s159]), (134, [pl_s167]), (129, [pl_s145])] 136 [] 88 pl_s174 = true := by decide +kernel
theorem pl_s174_s {X : Int → Int} {LX : Nat} : ck_Ok p2_OL X LX 136 pl_s174 := ck_ok_s ⟨pl_nmu, ck_E1 (ck_S1 pl_s159_s ck_S0) (ck_E1 (ck_S1 pl_s167_s ck_S0) (ck_E1 (ck_S1 pl_s145_s ck_S0) ck_E0))⟩ ck_X0 ck_l0 pl_s174_e
set_option maxRecDepth 100000 in
/-- GlacierMail.flow -/
def pl_s175 : ck_Sum := ((8, 3, 18), 249, [.inr (.inr (.inl 1)), .inl (0, 5, []), .inl (0, 98, []), .inl (300, 2147483647, [])], ([], [], []), ([], []), [(.inl 3, 249, ([], [], [])), (.inl 0, 249, ([], [], []))])
set_option maxRecDepth 100000 in
theorem pl_s175_e : ck_ok p2_OL none [] [(132, [pl_s159]), (134, [pl_s167]), (129, [pl_s147])] 136 [] 88 pl_s175 = true := by decide +kernel
theorem pl_s175_s {X : Int → Int} {LX : Nat} : ck_Ok p2_OL X LX 136 pl_s175 := ck_ok_s ⟨pl_nmu, ck_E1 (ck_S1 pl_s159_s ck_S0) (ck_E1 (ck_S1 pl_s167_s ck_S0) (ck_E1 (ck_S1 pl_s147_s ck_S0) ck_E0))⟩ ck_X0 ck_l0 pl_s175_e
set_option maxRecDepth 100000 in
/-- GlacierMail$Ice.speedAt -/
def pl_s176 : ck_Sum := ((0, 0, 0), 249, [.inr (.inr (.inl 200)), .inl ((-2147483648), 2147483647, []), .inl ((-2147483648), 2147483647, [])], ([], [], []), ([], []), [(.inr (some (.inl (ck_one 0))), 249, ([], [], [])), (.inr (some (.inl ((-1), 98, []))), 249, ([], [], []))])
set_option maxRecDepth 100000 in
theorem pl_s176_e : ck_ok p2_OL none [] [] 36 [] 108 pl_s176 = true := by decide +kernel
theorem pl_s176_s {X : Int → Int} {LX : Nat} : ck_Ok p2_OL X LX 36 pl_s176 := ck_ok_s ⟨pl_nmu, ck_E0⟩ ck_X0 ck_l0 pl_s176_e
set_option maxRecDepth 100000 in
/-- java/util/Arrays.fill -/
def pl_s177 : ck_Sum := ((0, 0, 0), 249, [.inr (.inr (.inl 205)), .inr (.inl (ck_one (-1)))], ([], [], []), ([(205, 0, 14849)], []), [(.inr none, 249, ([], [], []))])
set_option maxRecDepth 100000 in
theorem pl_s177_e : ck_ok p2_OL none [] [] 38 [(6, [some (.inr (.inr (.inl 205))), some (.inr (.inl (ck_one (-1)))), none, some (.inl (0, 14850, [])), some (.inl (ck_one 14850))], ([], [], []), 100, .inl 3, true)] 130 pl_s177 = true := by decide +kernel
theorem pl_s177_s {X : Int → Int} {LX : Nat} : ck_Ok p2_OL X LX 38 pl_s177 := ck_ok_s ⟨pl_nmu, ck_E0⟩ ck_X0 ck_l0 pl_s177_e
set_option maxRecDepth 100000 in
/-- GlacierMail$Ice.recalledFlow -/
def pl_s178 : ck_Sum := ((1, 0, 0), 249, [.inr (.inr (.inl 200)), .inl ((-2147483648), 2147483647, [])], ([], [], []), ([(200, 6, 6), (205, 0, 14849)], []), [(.inr (some (.inl (0, 31, []))), 249, ([], [], [(200, 6, 6, ck_one 0)]))])
set_option maxRecDepth 100000 in
def pl_s178a : ck_Sum := ((1, 0, 0), 249, [.inr (.inr (.inl 200)), .inl ((-2147483648), (-1), [])], ([], [], []), ([(200, 6, 6), (205, 0, 14849)], []), [(.inr (some (.inl (0, 31, []))), 249, ([], [], [(200, 6, 6, ck_one 0)]))])
set_option maxRecDepth 100000 in
def pl_s178b : ck_Sum := ((1, 0, 0), 249, [.inr (.inr (.inl 200)), .inl (0, 2147483647, [])], ([], [], []), ([(200, 6, 6), (205, 0, 14849)], []), [(.inr (some (.inl (0, 31, []))), 249, ([], [], [(200, 6, 6, ck_one 0)]))])
def rf_W : List (Nat × Int × Int) × List (Nat × Int) := ([(200, 6, 6), (205, 0, 14849)], [])
def rf_o : List ck_Oc := [(.inr (some (.inl (0, 31, []))), 249, ([], [], [(200, 6, 6, ck_one 0)]))]
set_option maxRecDepth 100000 in
theorem rf_a17 : ck_go p2_OL none [] [] 37 1 249 rf_W rf_o [] 200 true [] 0 0 17 [some (.inr (.inr (.inl 200))), some (.inl ((-2147483648), (-1), [])), none] [] 249 ([], [], []) = true := by decide +kernel
set_option maxRecDepth 100000 in
theorem rf_a22 : ck_go p2_OL none [] [] 37 1 249 rf_W rf_o [] 200 true [] 0 0 22 [some (.inr (.inr (.inl 200))), some (.inl ((-2147483648), (-1), [])), none] [] 249 ([], [], [(200, 6, 6, ck_one 0)]) = true := by decide +kernel
set_option maxRecDepth 100000 in
theorem rf_b17 : ck_go p2_OL none [] [] 37 1 249 rf_W rf_o [] 200 true [] 0 0 17 [some (.inr (.inr (.inl 200))), some (.inl (0, 2147483647, [])), none] [] 249 ([], [], []) = true := by decide +kernel
set_option maxRecDepth 100000 in
theorem rf_b22 : ck_go p2_OL none [] [] 37 1 249 rf_W rf_o [] 200 true [] 0 0 22 [some (.inr (.inr (.inl 200))), some (.inl (0, 2147483647, [])), none] [] 249 ([], [], [(200, 6, 6, ck_one 0)]) = true := by decide +kernel
/-- the flows are forgotten by hand: a call with a long -/
theorem rf_s {X : Int → Int} {LX : Nat} {a : ck_I} (g17 : ck_go p2_OL none [] [] 37 1 249 rf_W rf_o [] 200 true [] 0 0 17 [some (.inr (.inr (.inl 200))), some (.inl a), none] [] 249 ([], [], []) = true) (g22 : ck_go p2_OL none [] [] 37 1 249 rf_W rf_o [] 200 true [] 0 0 22 [some (.inr (.inr (.inl 200))), some (.inl a), none] [] 249 ([], [], [(200, 6, 6, ck_one 0)]) = true) : ck_Ok p2_OL X LX 37 ((1, 0, 0), 249, [.inr (.inr (.inl 200)), .inl a], ([], [], []), rf_W, rf_o) := by
  intro d σ vs n K R M hd hn hvs hnm hF _
  have hd : 1 ≤ d := hd
  have hn : n = 249 := hn
  subst hn
  refine gm_Wp_wk hd (Nat.le_refl 0) (Nat.le_refl 0) ?_
  obtain ⟨v0, w0, rfl, g0, g1⟩ : ∃ v ws, vs = v :: ws ∧ ck_ga σ (.inr (.inr (.inl 200))) v ∧ ck_gas σ [.inl a] ws := hvs
  obtain ⟨v1, w1, rfl, g2, g3⟩ : ∃ v ws, w0 = v :: ws ∧ ck_ga σ (.inl a) v ∧ ck_gas σ [] ws := g1
  have g0 : v0 = gm_vr 200 := g0
  have g3 : w1 = [] := g3
  subst g0
  subst g3
  obtain ⟨x, rfl, rx, gx⟩ := g2
  have l0 : (gm_ent 37 [gm_vr 200, gm_vi x])[0]? = some (some (gm_vr 200)) := rfl
  have l1 : (gm_ent 37 [gm_vr 200, gm_vi x])[1]? = some (some (gm_vi x)) := rfl
  have hL : ck_gl σ [some (.inr (.inr (.inl 200))), some (.inl a), none] (gm_ent 37 [gm_vr 200, gm_vi x]) := by
    refine ⟨by unfold gm_ent; simp [show gm_ml 37 = 3 by decide +kernel], fun j b hb => ?_⟩
    rcases j with _ | _ | _ | j
    · have hb : some (some (.inr (.inr (.inl 200)))) = some (some b) := hb
      cases hb
      exact ⟨_, l0, rfl⟩
    · have hb : some (some (.inl a)) = some (some b) := hb
      cases hb
      exact ⟨_, l1, x, rfl, rx, gx⟩
    · have hb : some none = some (some b) := hb
      cases hb
    · have hb : none = some (some b) := hb
      cases hb
  generalize gm_ent 37 [gm_vr 200, gm_vi x] = L at l0 l1 hL ⊢
  show gm_Wp X LX 1 0 0 37 0 L [] 249 K R M (ck_Q p2_OL σ rf_W 249 K R M rf_o)
  obtain ⟨k1, k2, k3⟩ := hF.1 200 (8, 0) (by decide +kernel)
  have r5 : R 200 ((5 : Nat) : Int) = 205 := (hF.2.1 200 5 205 (by decide +kernel)).2
  refine gm_sz (gm_p_load (pc := 0) (i := .aload_n 0) (sr := 2) (j := 0) (by decide +kernel) rfl l0 rfl) ?_
  refine gm_sz (gm_p_get (pc := 1) (ix := 30) (ci := 4) (j := 6) (by decide +kernel) ⟨k1, k2⟩ (by rw [k3]) (by decide +kernel)) ?_
  rw [if_neg (show ¬ gm_isr 4 6 = true by decide +kernel)]
  obtain ⟨t1, t2⟩ := (gm_tyr_s hF (show gm_tyr p2_OL 200 6 6 = some (0, 1) by decide +kernel)).2 6 (Int.le_refl _) (Int.le_refl _)
  refine gm_b_if (cc := .eq) (pc := 4) (off := 18) (by decide +kernel) (by decide) (fun hp => ?_) (fun _ => ?_)
  · have t3 : gm_ir (M 200 ((6 : Nat) : Int)) := t1
    rw [gm_cm_w t3 (show gm_ir 0 from ⟨by decide, by decide⟩)] at hp
    have hp : M 200 6 = 0 := hp
    refine ck_go_s (σ0 := σ) (cuts := []) (by decide) ⟨pl_nmu, ck_E0⟩ ck_X0 ck_l0 200 true [] 0 0 22 [some (.inr (.inr (.inl 200))), some (.inl a), none] [] 249 ([], [], [(200, 6, 6, ck_one 0)]) σ L [] K R M (fun _ _ => rfl) (fun _ h => nomatch h) ⟨hF, hL, rfl, ⟨(fun q hq => nomatch hq), (fun q hq => nomatch hq), fun q hq => ?_⟩, ck_fr_0⟩ g22
    rw [List.mem_singleton.mp hq]
    refine ⟨by show 200 ≤ 249; decide, fun j j1 j2 => ?_⟩
    have j1 : (6 : Int) ≤ j := j1
    have j2 : j ≤ (6 : Int) := j2
    have j3 : j = 6 := by omega
    subst j3
    exact ⟨t1, by show 0 ≤ M 200 6; omega, by show M 200 6 ≤ 0; omega, fun q hq => nomatch hq⟩
  · refine gm_sz (gm_p_load (pc := 7) (i := .aload_n 0) (sr := 2) (j := 0) (by decide +kernel) rfl l0 rfl) ?_
    refine gm_sz (gm_p_get (pc := 8) (ix := 26) (ci := 4) (j := 5) (by decide +kernel) ⟨k1, k2⟩ (by rw [k3]) (by decide +kernel)) ?_
    rw [if_pos (show gm_isr 4 5 = true by decide +kernel), r5]
    refine gm_sz (gm_p_ldcl (pc := 11) (ix := 116) (v := -1) (by decide +kernel) (by decide +kernel)) ?_
    refine gm_c_stat2 (mj := 38) (ix := 118) (pc := 14) (u0 := gm_vr 205) (u1 := gm_vl (-1)) (st := []) (d' := 0) (bc' := 0) (bs' := 0) (by decide +kernel) (by decide +kernel) (by decide +kernel) (by decide +kernel) (show 2 = gm_na 38 by decide +kernel) (by simp [gm_sort]) (show 3 ≤ gm_ml 38 by decide +kernel) (by decide) (by decide) (Nat.le_refl _) (Nat.le_refl _) ?_
    have c0 : ck_gi σ (ck_one (-1)) (-1) := ⟨Int.le_refl (-1), Int.le_refl (-1), fun q hq => nomatch hq⟩
    have c1 : ck_ga σ (.inr (.inl (ck_one (-1)))) (gm_vl (-1)) := ⟨-1, rfl, (show ck_r6 (-1) from ⟨by decide, by decide⟩), c0⟩
    have c2 : ck_gas σ [.inr (.inl (ck_one (-1)))] [gm_vl (-1)] := ⟨gm_vl (-1), [], rfl, c1, rfl⟩
    have c3 : ck_gas σ pl_s177.2.2.1 [gm_vr 205, gm_vl (-1)] := (show ck_gas σ [.inr (.inr (.inl 205)), .inr (.inl (ck_one (-1)))] [gm_vr 205, gm_vl (-1)] from ⟨gm_vr 205, [gm_vl (-1)], rfl, rfl, c2⟩)
    refine gm_Wp_mono (fun o n1 K1 R1 M1 h => ?_) (pl_s177_s 0 σ [gm_vr 205, gm_vl (-1)] 249 K R M (Nat.le_refl _) rfl c3 hnm hF ⟨(fun q hq => nomatch hq), (fun q hq => nomatch hq), fun q hq => nomatch hq⟩)
    obtain ⟨f1, f2, oc, f3, f4, f5, -⟩ := h
    rw [List.mem_singleton.mp f3] at f4 f5
    have f5 : n1 = 249 := f5
    subst f5
    have f2 : ck_fr ([(205, 0, 14849)], []) 249 K R M 249 K1 R1 M1 := f2
    rcases o with (_ | v) | x
    · show gm_Wp X LX 1 0 0 37 17 L [] 249 K1 R1 M1 (ck_Q p2_OL σ rf_W 249 K R M rf_o)
      exact ck_go_s (σ0 := σ) (cuts := []) (by decide) ⟨pl_nmu, ck_E0⟩ ck_X0 ck_l0 200 true [] 0 0 17 [some (.inr (.inr (.inl 200))), some (.inl a), none] [] 249 ([], [], []) σ L [] K1 R1 M1 (fun _ _ => rfl) (fun _ h => nomatch h) ⟨f1, hL, rfl, ⟨(fun q hq => nomatch hq), (fun q hq => nomatch hq), fun q hq => nomatch hq⟩, ck_fr_tr ck_fr_0 f2 (by decide) (by decide)⟩ g17
    · exact absurd f4 id
    · exact absurd f4 id
/-- a number below 0, or not: its quotient is looked at in both -/
theorem pl_s178_s {X : Int → Int} {LX : Nat} : ck_Ok p2_OL X LX 37 pl_s178 := by
  have ha : ck_Ok p2_OL X LX 37 pl_s178a := rf_s rf_a17 rf_a22
  have hb : ck_Ok p2_OL X LX 37 pl_s178b := rf_s rf_b17 rf_b22
  intro d σ vs n K R M hd hn hvs hnm hF hf
  have hs : ck_gas σ pl_s178a.2.2.1 vs ∨ ck_gas σ pl_s178b.2.2.1 vs := by
    obtain ⟨v0, w0, rfl, g0, g1⟩ : ∃ v ws, vs = v :: ws ∧ ck_ga σ (.inr (.inr (.inl 200))) v ∧ ck_gas σ (.inl ((-2147483648), 2147483647, []) :: []) ws := hvs
    obtain ⟨v1, w1, rfl, ⟨x, rfl, rx, x1, x2, x3⟩, g2⟩ : ∃ v ws, w0 = v :: ws ∧ ck_ga σ (.inl ((-2147483648), 2147483647, [])) v ∧ ck_gas σ [] ws := g1
    by_cases hx : x < 0
    · have h1 : ∃ v ws, gm_vi x :: w1 = v :: ws ∧ ck_ga σ (.inl ((-2147483648), (-1), [])) v ∧ ck_gas σ [] ws := ⟨_, _, rfl, ⟨x, rfl, rx, x1, by show x ≤ -1; omega, x3⟩, g2⟩
      have h2 : ∃ v ws, v0 :: gm_vi x :: w1 = v :: ws ∧ ck_ga σ (.inr (.inr (.inl 200))) v ∧ ck_gas σ (.inl ((-2147483648), (-1), []) :: []) ws := ⟨_, _, rfl, g0, h1⟩
      exact Or.inl h2
    · have h1 : ∃ v ws, gm_vi x :: w1 = v :: ws ∧ ck_ga σ (.inl (0, 2147483647, [])) v ∧ ck_gas σ [] ws := ⟨_, _, rfl, ⟨x, rfl, rx, by show 0 ≤ x; omega, x2, x3⟩, g2⟩
      have h2 : ∃ v ws, v0 :: gm_vi x :: w1 = v :: ws ∧ ck_ga σ (.inr (.inr (.inl 200))) v ∧ ck_gas σ (.inl (0, 2147483647, []) :: []) ws := ⟨_, _, rfl, g0, h1⟩
      exact Or.inr h2
  rcases hs with h | h
  · exact ha d σ vs n K R M hd hn h hnm hF hf
  · exact hb d σ vs n K R M hd hn h hnm hF hf
set_option maxRecDepth 100000 in
/-- GlacierMail$Ice.heatIn -/
def pl_s179 : ck_Sum := ((0, 0, 0), 249, [.inr (.inr (.inl 200)), .inl ((-2147483648), 2147483647, [])], ([], [], []), ([], []), [(.inr (some (.inl (0, 9, []))), 249, ([], [], []))])
set_option maxRecDepth 100000 in
theorem pl_s179_e : ck_ok p2_OL none [] [] 34 [] 92 pl_s179 = true := by decide +kernel
theorem pl_s179_s {X : Int → Int} {LX : Nat} : ck_Ok p2_OL X LX 34 pl_s179 := ck_ok_s ⟨pl_nmu, ck_E0⟩ ck_X0 ck_l0 pl_s179_e
end
/-! 78r86a02.sl -/
section
/-! EVERY CALL OF THE CLASS ENDS, under a law (laid by wip/am/p2l.py). -/
set_option maxRecDepth 100000 in
/-- GlacierMail$Ice.setFacts -/
def pl_s180 : ck_Sum := ((1, 0, 0), 249, [.inr (.inr (.inl 200)), .inl ((-2147483648), 2147483647, []), .inl ((-2147483648), 2147483647, []), .inl ((-2147483648), 2147483647, []), .inl (ck_one 0)], ([], [], []), ([(204, 0, 9)], []), [(.inr none, 249, ([], [], [(204, 9, 9, (0, 1, [])), (204, 8, 8, (0, 1, [])), (204, 7, 7, ck_one 0), (204, 6, 6, ck_one 0), (204, 5, 5, ck_one 0), (204, 4, 4, ck_one 0), (204, 3, 3, (0, 9, []))]))])
set_option maxRecDepth 100000 in
theorem pl_s180_e : ck_ok p2_OL none [] [(34, [pl_s179])] 39 [] 208 pl_s180 = true := by decide +kernel
theorem pl_s180_s {X : Int → Int} {LX : Nat} : ck_Ok p2_OL X LX 39 pl_s180 := ck_ok_s ⟨pl_nmu, ck_E1 (ck_S1 pl_s179_s ck_S0) ck_E0⟩ ck_X0 ck_l0 pl_s180_e
set_option maxRecDepth 100000 in
/-- GlacierMail$Ice.setFacts -/
def pl_s181 : ck_Sum := ((1, 0, 0), 249, [.inr (.inr (.inl 200)), .inl ((-2147483648), 2147483647, []), .inl ((-2147483648), 2147483647, []), .inl ((-2147483648), 2147483647, []), .inl ((-1), 98, [])], ([], [], []), ([(204, 0, 9)], []), [(.inr none, 249, ([], [], [(204, 9, 9, (0, 1, [])), (204, 8, 8, (0, 1, [])), (204, 7, 7, ck_one 0), (204, 6, 6, ck_one 0), (204, 5, 5, ck_one 0), (204, 4, 4, ((-1), 98, [])), (204, 3, 3, (0, 9, []))]))])
set_option maxRecDepth 100000 in
theorem pl_s181_e : ck_ok p2_OL none [] [(34, [pl_s179])] 39 [] 208 pl_s181 = true := by decide +kernel
theorem pl_s181_s {X : Int → Int} {LX : Nat} : ck_Ok p2_OL X LX 39 pl_s181 := ck_ok_s ⟨pl_nmu, ck_E1 (ck_S1 pl_s179_s ck_S0) ck_E0⟩ ck_X0 ck_l0 pl_s181_e
set_option maxRecDepth 100000 in
/-- GlacierMail$Rows.size -/
def pl_s182 : ck_Sum := ((0, 0, 0), 249, [.inr (.inr (.inl 248))], ([], [], []), ([], []), [(.inr (some (.inl (0, 12, []))), 249, ([], [], []))])
set_option maxRecDepth 100000 in
theorem pl_s182_e : ck_ok p2_OL none [] [] 9 [] 76 pl_s182 = true := by decide +kernel
theorem pl_s182_s {X : Int → Int} {LX : Nat} : ck_Ok p2_OL X LX 9 pl_s182 := ck_ok_s ⟨pl_nmu, ck_E0⟩ ck_X0 ck_l0 pl_s182_e
set_option maxRecDepth 100000 in
/-- GlacierMail$Rows.get -/
def pl_s183 : ck_Sum := ((0, 0, 0), 249, [.inr (.inr (.inl 248)), .inl ((-2147483648), 2147483647, []), .inl ((-2147483648), 2147483647, [])], ([], [], []), ([], []), [(.inr (some (.inl ((-2147483648), 2147483647, []))), 249, ([], [], []))])
set_option maxRecDepth 100000 in
theorem pl_s183_e : ck_ok p2_OL none [] [] 10 [] 114 pl_s183 = true := by decide +kernel
theorem pl_s183_s {X : Int → Int} {LX : Nat} : ck_Ok p2_OL X LX 10 pl_s183 := ck_ok_s ⟨pl_nmu, ck_E0⟩ ck_X0 ck_l0 pl_s183_e
set_option maxRecDepth 100000 in
/-- GlacierMail$Law.faster -/
def pl_s185 : ck_Sum := ((1, 0, 0), 249, [.inr (.inr (.inl 246)), .inr (.inr (.inl 204))], ([], [], []), ([], []), [(.inr (some (.inl ((-2147483648), 2147483647, []))), 249, ([], [], []))])
set_option maxRecDepth 100000 in
theorem pl_s185_e : ck_ok p2_OL none [] [(9, [pl_s182]), (10, [pl_s183]), (41, [lh_S])] 40 [(4, [some (.inr (.inr (.inl 246))), some (.inr (.inr (.inl 204))), some (.inl ((-2147483648), 2147483647, [])), some (.inl (0, 12, [])), none], ([], [], []), 100, .inl 3, true)] 258 pl_s185 = true := by decide +kernel
theorem pl_s185_s {X : Int → Int} {LX : Nat} : ck_Ok p2_OL X LX 40 pl_s185 := ck_ok_s ⟨pl_nmu, ck_E1 (ck_S1 pl_s182_s ck_S0) (ck_E1 (ck_S1 pl_s183_s ck_S0) (ck_E1 (ck_S1 lh_S_s ck_S0) ck_E0))⟩ ck_X0 ck_l0 pl_s185_e
set_option maxRecDepth 100000 in
/-- GlacierMail$Ice.keepFlow -/
def pl_s186 : ck_Sum := ((0, 0, 0), 249, [.inr (.inr (.inl 200)), .inl ((-2147483648), 2147483647, []), .inl (0, 30, [])], ([], [], []), ([(205, 0, 14849)], []), [(.inr none, 249, ([], [], []))])
set_option maxRecDepth 100000 in
def pl_s186a : ck_Sum := ((0, 0, 0), 249, [.inr (.inr (.inl 200)), .inl ((-2147483648), (-1), []), .inl (0, 30, [])], ([], [], []), ([(205, 0, 14849)], []), [(.inr none, 249, ([], [], []))])
set_option maxRecDepth 100000 in
def pl_s186b : ck_Sum := ((0, 0, 0), 249, [.inr (.inr (.inl 200)), .inl (0, 2147483647, []), .inl (0, 30, [])], ([], [], []), ([(205, 0, 14849)], []), [(.inr none, 249, ([], [], []))])
set_option maxRecDepth 100000 in
theorem pl_s186a_e : ck_ok p2_OL none [] [] 42 [] 154 pl_s186a = true := by decide +kernel
set_option maxRecDepth 100000 in
theorem pl_s186b_e : ck_ok p2_OL none [] [] 42 [] 154 pl_s186b = true := by decide +kernel
/-- a number below 0, or not: its quotient is looked at in both -/
theorem pl_s186_s {X : Int → Int} {LX : Nat} : ck_Ok p2_OL X LX 42 pl_s186 := by
  have ha : ck_Ok p2_OL X LX 42 pl_s186a := ck_ok_s ⟨pl_nmu, ck_E0⟩ ck_X0 ck_l0 pl_s186a_e
  have hb : ck_Ok p2_OL X LX 42 pl_s186b := ck_ok_s ⟨pl_nmu, ck_E0⟩ ck_X0 ck_l0 pl_s186b_e
  intro d σ vs n K R M hd hn hvs hnm hF hf
  have hs : ck_gas σ pl_s186a.2.2.1 vs ∨ ck_gas σ pl_s186b.2.2.1 vs := by
    obtain ⟨v0, w0, rfl, g0, g1⟩ : ∃ v ws, vs = v :: ws ∧ ck_ga σ (.inr (.inr (.inl 200))) v ∧ ck_gas σ (.inl ((-2147483648), 2147483647, []) :: [.inl (0, 30, [])]) ws := hvs
    obtain ⟨v1, w1, rfl, ⟨x, rfl, rx, x1, x2, x3⟩, g2⟩ : ∃ v ws, w0 = v :: ws ∧ ck_ga σ (.inl ((-2147483648), 2147483647, [])) v ∧ ck_gas σ [.inl (0, 30, [])] ws := g1
    by_cases hx : x < 0
    · have h1 : ∃ v ws, gm_vi x :: w1 = v :: ws ∧ ck_ga σ (.inl ((-2147483648), (-1), [])) v ∧ ck_gas σ [.inl (0, 30, [])] ws := ⟨_, _, rfl, ⟨x, rfl, rx, x1, by show x ≤ -1; omega, x3⟩, g2⟩
      have h2 : ∃ v ws, v0 :: gm_vi x :: w1 = v :: ws ∧ ck_ga σ (.inr (.inr (.inl 200))) v ∧ ck_gas σ (.inl ((-2147483648), (-1), []) :: [.inl (0, 30, [])]) ws := ⟨_, _, rfl, g0, h1⟩
      exact Or.inl h2
    · have h1 : ∃ v ws, gm_vi x :: w1 = v :: ws ∧ ck_ga σ (.inl (0, 2147483647, [])) v ∧ ck_gas σ [.inl (0, 30, [])] ws := ⟨_, _, rfl, ⟨x, rfl, rx, by show 0 ≤ x; omega, x2, x3⟩, g2⟩
      have h2 : ∃ v ws, v0 :: gm_vi x :: w1 = v :: ws ∧ ck_ga σ (.inr (.inr (.inl 200))) v ∧ ck_gas σ (.inl (0, 2147483647, []) :: [.inl (0, 30, [])]) ws := ⟨_, _, rfl, g0, h1⟩
      exact Or.inr h2
  rcases hs with h | h
  · exact ha d σ vs n K R M hd hn h hnm hF hf
  · exact hb d σ vs n K R M hd hn h hnm hF hf
set_option maxRecDepth 100000 in
/-- GlacierMail$Ice.flowAt -/
def pl_s187 : ck_Sum := ((2, 0, 0), 249, [.inr (.inr (.inl 200)), .inl ((-2147483648), 2147483647, []), .inl ((-2147483648), 2147483647, []), .inl ((-2147483648), 2147483647, [])], ([], [(3, 8, 246)], []), ([(200, 6, 6), (204, 0, 9), (205, 0, 14849)], []), [(.inr (some (.inl (0, 30, []))), 249, ([], [], [(200, 6, 6, ck_one 0)]))])
set_option maxRecDepth 100000 in
theorem pl_s187_e : ck_ok p2_OL none [] [(36, [pl_s176]), (37, [pl_s178]), (39, [pl_s180, pl_s181]), (40, [pl_s185]), (42, [pl_s186])] 35 [] 172 pl_s187 = true := by decide +kernel
theorem pl_s187_s {X : Int → Int} {LX : Nat} : ck_Ok p2_OL X LX 35 pl_s187 := ck_ok_s ⟨pl_nmu, ck_E1 (ck_S1 pl_s176_s ck_S0) (ck_E1 (ck_S1 pl_s178_s ck_S0) (ck_E1 (ck_S1 pl_s180_s (ck_S1 pl_s181_s ck_S0)) (ck_E1 (ck_S1 pl_s185_s ck_S0) (ck_E1 (ck_S1 pl_s186_s ck_S0) ck_E0))))⟩ ck_X0 ck_l0 pl_s187_e
set_option maxRecDepth 100000 in
/-- GlacierMail.flow -/
def pl_s188 : ck_Sum := ((8, 2, 12), 249, [.inr (.inr (.inl 1)), .inl (0, 5, []), .inl (0, 98, []), .inl (0, 299, [])], ([], [(3, 8, 246)], []), ([(200, 6, 6), (204, 0, 9), (205, 0, 14849)], []), [(.inl 3, 249, ([], [], [])), (.inr (some (.inl (0, 30, []))), 249, ([], [], [(200, 6, 6, ck_one 0)]))])
set_option maxRecDepth 100000 in
theorem pl_s188_e : ck_ok p2_OL none [] [(132, [pl_s159]), (134, [pl_s167]), (129, [pl_s149]), (35, [pl_s187])] 136 [] 102 pl_s188 = true := by decide +kernel
theorem pl_s188_s {X : Int → Int} {LX : Nat} : ck_Ok p2_OL X LX 136 pl_s188 := ck_ok_s ⟨pl_nmu, ck_E1 (ck_S1 pl_s159_s ck_S0) (ck_E1 (ck_S1 pl_s167_s ck_S0) (ck_E1 (ck_S1 pl_s149_s ck_S0) (ck_E1 (ck_S1 pl_s187_s ck_S0) ck_E0)))⟩ ck_X0 ck_l0 pl_s188_e
set_option maxRecDepth 100000 in
/-- GlacierMail$Rows.size -/
def pl_s189 : ck_Sum := ((0, 0, 0), 249, [.inr (.inr (.inl 8))], ([], [], []), ([], []), [(.inr (some (.inl (0, 8, []))), 249, ([], [], []))])
set_option maxRecDepth 100000 in
theorem pl_s189_e : ck_ok p2_OL none [] [] 9 [] 76 pl_s189 = true := by decide +kernel
theorem pl_s189_s {X : Int → Int} {LX : Nat} : ck_Ok p2_OL X LX 9 pl_s189 := ck_ok_s ⟨pl_nmu, ck_E0⟩ ck_X0 ck_l0 pl_s189_e
set_option maxRecDepth 100000 in
/-- GlacierMail.need -/
def pl_s190 : ck_Sum := ((6, 1, 6), 249, [.inr (.inr (.inl 1)), .inl ((-2147483648), (-1), []), .inl (0, 8, [])], ([], [], []), ([], []), [(.inl 3, 249, ([], [], []))])
set_option maxRecDepth 100000 in
theorem pl_s190_e : ck_ok p2_OL none [] [] 133 [] 76 pl_s190 = true := by decide +kernel
theorem pl_s190_s {X : Int → Int} {LX : Nat} : ck_Ok p2_OL X LX 133 pl_s190 := ck_ok_s ⟨pl_nmu, ck_E0⟩ ck_X0 ck_l0 pl_s190_e
set_option maxRecDepth 100000 in
/-- GlacierMail.needPerson -/
def pl_s191 : ck_Sum := ((7, 1, 6), 249, [.inr (.inr (.inl 1)), .inl ((-2147483648), (-1), [])], ([], [], []), ([], []), [(.inl 3, 249, ([], [], []))])
set_option maxRecDepth 100000 in
theorem pl_s191_e : ck_ok p2_OL none [] [(9, [pl_s189]), (133, [pl_s190])] 139 [] 84 pl_s191 = true := by decide +kernel
theorem pl_s191_s {X : Int → Int} {LX : Nat} : ck_Ok p2_OL X LX 139 pl_s191 := ck_ok_s ⟨pl_nmu, ck_E1 (ck_S1 pl_s189_s ck_S0) (ck_E1 (ck_S1 pl_s190_s ck_S0) ck_E0)⟩ ck_X0 ck_l0 pl_s191_e
set_option maxRecDepth 100000 in
/-- GlacierMail.person -/
def pl_s192 : ck_Sum := ((8, 1, 6), 249, [.inr (.inr (.inl 1)), .inl ((-2147483648), (-1), []), .inl ((-2147483648), 2147483647, [])], ([], [], []), ([], []), [(.inl 3, 249, ([], [], []))])
set_option maxRecDepth 100000 in
theorem pl_s192_e : ck_ok p2_OL none [] [(139, [pl_s191])] 138 [] 76 pl_s192 = true := by decide +kernel
theorem pl_s192_s {X : Int → Int} {LX : Nat} : ck_Ok p2_OL X LX 138 pl_s192 := ck_ok_s ⟨pl_nmu, ck_E1 (ck_S1 pl_s191_s ck_S0) ck_E0⟩ ck_X0 ck_l0 pl_s192_e
set_option maxRecDepth 100000 in
/-- GlacierMail.need -/
def pl_s193 : ck_Sum := ((6, 1, 6), 249, [.inr (.inr (.inl 1)), .inl (8, 2147483647, []), .inl (0, 8, [])], ([], [], []), ([], []), [(.inl 3, 249, ([], [], []))])
set_option maxRecDepth 100000 in
theorem pl_s193_e : ck_ok p2_OL none [] [] 133 [] 82 pl_s193 = true := by decide +kernel
theorem pl_s193_s {X : Int → Int} {LX : Nat} : ck_Ok p2_OL X LX 133 pl_s193 := ck_ok_s ⟨pl_nmu, ck_E0⟩ ck_X0 ck_l0 pl_s193_e
set_option maxRecDepth 100000 in
/-- GlacierMail.needPerson -/
def pl_s194 : ck_Sum := ((7, 1, 6), 249, [.inr (.inr (.inl 1)), .inl (8, 2147483647, [])], ([], [], []), ([], []), [(.inl 3, 249, ([], [], []))])
set_option maxRecDepth 100000 in
theorem pl_s194_e : ck_ok p2_OL none [] [(9, [pl_s189]), (133, [pl_s193])] 139 [] 84 pl_s194 = true := by decide +kernel
theorem pl_s194_s {X : Int → Int} {LX : Nat} : ck_Ok p2_OL X LX 139 pl_s194 := ck_ok_s ⟨pl_nmu, ck_E1 (ck_S1 pl_s189_s ck_S0) (ck_E1 (ck_S1 pl_s193_s ck_S0) ck_E0)⟩ ck_X0 ck_l0 pl_s194_e
set_option maxRecDepth 100000 in
/-- GlacierMail.person -/
def pl_s195 : ck_Sum := ((8, 1, 6), 249, [.inr (.inr (.inl 1)), .inl (8, 2147483647, []), .inl ((-2147483648), 2147483647, [])], ([], [], []), ([], []), [(.inl 3, 249, ([], [], []))])
set_option maxRecDepth 100000 in
theorem pl_s195_e : ck_ok p2_OL none [] [(139, [pl_s194])] 138 [] 76 pl_s195 = true := by decide +kernel
theorem pl_s195_s {X : Int → Int} {LX : Nat} : ck_Ok p2_OL X LX 138 pl_s195 := ck_ok_s ⟨pl_nmu, ck_E1 (ck_S1 pl_s194_s ck_S0) ck_E0⟩ ck_X0 ck_l0 pl_s195_e
set_option maxRecDepth 100000 in
/-- GlacierMail.need -/
def pl_s196 : ck_Sum := ((6, 1, 6), 249, [.inr (.inr (.inl 1)), .inl (0, 7, []), .inl (0, 8, [])], ([], [], []), ([], []), [(.inr none, 249, ([], [], [])), (.inl 3, 249, ([], [], []))])
set_option maxRecDepth 100000 in
theorem pl_s196_e : ck_ok p2_OL none [] [] 133 [] 82 pl_s196 = true := by decide +kernel
theorem pl_s196_s {X : Int → Int} {LX : Nat} : ck_Ok p2_OL X LX 133 pl_s196 := ck_ok_s ⟨pl_nmu, ck_E0⟩ ck_X0 ck_l0 pl_s196_e
set_option maxRecDepth 100000 in
/-- GlacierMail.needPerson -/
def pl_s197 : ck_Sum := ((7, 1, 6), 249, [.inr (.inr (.inl 1)), .inl (0, 7, [])], ([], [], []), ([], []), [(.inl 3, 249, ([], [], [])), (.inr none, 249, ([], [], []))])
set_option maxRecDepth 100000 in
theorem pl_s197_e : ck_ok p2_OL none [] [(9, [pl_s189]), (133, [pl_s196])] 139 [] 86 pl_s197 = true := by decide +kernel
theorem pl_s197_s {X : Int → Int} {LX : Nat} : ck_Ok p2_OL X LX 139 pl_s197 := ck_ok_s ⟨pl_nmu, ck_E1 (ck_S1 pl_s189_s ck_S0) (ck_E1 (ck_S1 pl_s196_s ck_S0) ck_E0)⟩ ck_X0 ck_l0 pl_s197_e
set_option maxRecDepth 100000 in
/-- GlacierMail.person -/
def pl_s198 : ck_Sum := ((8, 2, 12), 249, [.inr (.inr (.inl 1)), .inl (0, 7, []), .inl ((-2147483648), (-1), [])], ([], [], []), ([], []), [(.inl 3, 249, ([], [], [])), (.inl 4, 249, ([], [], []))])
set_option maxRecDepth 100000 in
theorem pl_s198_e : ck_ok p2_OL none [] [(139, [pl_s197])] 138 [] 82 pl_s198 = true := by decide +kernel
theorem pl_s198_s {X : Int → Int} {LX : Nat} : ck_Ok p2_OL X LX 138 pl_s198 := ck_ok_s ⟨pl_nmu, ck_E1 (ck_S1 pl_s197_s ck_S0) ck_E0⟩ ck_X0 ck_l0 pl_s198_e
set_option maxRecDepth 100000 in
/-- GlacierMail.person -/
def pl_s199 : ck_Sum := ((8, 2, 12), 249, [.inr (.inr (.inl 1)), .inl (0, 7, []), .inl (10, 2147483647, [])], ([], [], []), ([], []), [(.inl 3, 249, ([], [], [])), (.inl 4, 249, ([], [], []))])
set_option maxRecDepth 100000 in
theorem pl_s199_e : ck_ok p2_OL none [] [(139, [pl_s197])] 138 [] 82 pl_s199 = true := by decide +kernel
theorem pl_s199_s {X : Int → Int} {LX : Nat} : ck_Ok p2_OL X LX 138 pl_s199 := ck_ok_s ⟨pl_nmu, ck_E1 (ck_S1 pl_s197_s ck_S0) ck_E0⟩ ck_X0 ck_l0 pl_s199_e
set_option maxRecDepth 100000 in
/-- GlacierMail$Rows.size -/
def pl_s200 : ck_Sum := ((0, 0, 0), 249, [.inr (.inr (.inl 10))], ([], [], []), ([], []), [(.inr (some (.inl (0, 24, []))), 249, ([], [], []))])
set_option maxRecDepth 100000 in
theorem pl_s200_e : ck_ok p2_OL none [] [] 9 [] 76 pl_s200 = true := by decide +kernel
theorem pl_s200_s {X : Int → Int} {LX : Nat} : ck_Ok p2_OL X LX 9 pl_s200 := ck_ok_s ⟨pl_nmu, ck_E0⟩ ck_X0 ck_l0 pl_s200_e
set_option maxRecDepth 100000 in
/-- GlacierMail$Rows.size -/
def pl_s201 : ck_Sum := ((0, 0, 0), 249, [.inr (.inr (.inl 220))], ([], [], []), ([], []), [(.inr (some (.inl (0, 24, []))), 249, ([], [], []))])
set_option maxRecDepth 100000 in
theorem pl_s201_e : ck_ok p2_OL none [] [] 9 [] 76 pl_s201 = true := by decide +kernel
theorem pl_s201_s {X : Int → Int} {LX : Nat} : ck_Ok p2_OL X LX 9 pl_s201 := ck_ok_s ⟨pl_nmu, ck_E0⟩ ck_X0 ck_l0 pl_s201_e
set_option maxRecDepth 100000 in
/-- java/util/Arrays.fill -/
def pl_s202 : ck_Sum := ((0, 0, 0), 249, [.inr (.inr (.inl 221)), .inl (ck_one 0)], ([], [], []), ([(221, 0, 47)], []), [(.inr none, 249, ([], [], []))])
set_option maxRecDepth 100000 in
theorem pl_s202_e : ck_ok p2_OL none [] [] 8 [(5, [some (.inr (.inr (.inl 221))), some (.inl (ck_one 0)), some (.inl (0, 48, [])), some (.inl (ck_one 48))], ([], [], []), 100, .inl 2, true)] 130 pl_s202 = true := by decide +kernel
theorem pl_s202_s {X : Int → Int} {LX : Nat} : ck_Ok p2_OL X LX 8 pl_s202 := ck_ok_s ⟨pl_nmu, ck_E0⟩ ck_X0 ck_l0 pl_s202_e
set_option maxRecDepth 100000 in
/-- GlacierMail$Rows.reset -/
def pl_s203 : ck_Sum := ((1, 0, 0), 249, [.inr (.inr (.inl 220)), .inl (0, 24, [])], ([], [], []), ([(220, 3, 3), (221, 0, 47)], []), [(.inr none, 249, ([], [], []))])
set_option maxRecDepth 100000 in
theorem pl_s203_e : ck_ok p2_OL none [] [(8, [pl_s202])] 25 [] 96 pl_s203 = true := by decide +kernel
theorem pl_s203_s {X : Int → Int} {LX : Nat} : ck_Ok p2_OL X LX 25 pl_s203 := ck_ok_s ⟨pl_nmu, ck_E1 (ck_S1 pl_s202_s ck_S0) ck_E0⟩ ck_X0 ck_l0 pl_s203_e
set_option maxRecDepth 100000 in
/-- GlacierMail$Rows.get -/
def pl_s204 : ck_Sum := ((0, 0, 0), 249, [.inr (.inr (.inl 10)), .inl ((-2147483648), 2147483647, []), .inl ((-2147483648), 2147483647, [])], ([], [], []), ([], []), [(.inr (some (.inl ((-1), 299, []))), 249, ([], [], []))])
set_option maxRecDepth 100000 in
theorem pl_s204_e : ck_ok p2_OL none [] [] 10 [] 114 pl_s204 = true := by decide +kernel
theorem pl_s204_s {X : Int → Int} {LX : Nat} : ck_Ok p2_OL X LX 10 pl_s204 := ck_ok_s ⟨pl_nmu, ck_E0⟩ ck_X0 ck_l0 pl_s204_e
set_option maxRecDepth 100000 in
/-- GlacierMail$State.isRock -/
def pl_s205 : ck_Sum := ((1, 0, 0), 249, [.inr (.inr (.inl 3)), .inl (0, 23, [])], ([], [], []), ([], []), [(.inr (some (.inl (ck_one 0))), 249, ([], [], [])), (.inr (some (.inl (ck_one 1))), 249, ([], [], []))])
set_option maxRecDepth 100000 in
theorem pl_s205_e : ck_ok p2_OL none [] [(10, [pl_s204])] 28 [] 90 pl_s205 = true := by decide +kernel
theorem pl_s205_s {X : Int → Int} {LX : Nat} : ck_Ok p2_OL X LX 28 pl_s205 := ck_ok_s ⟨pl_nmu, ck_E1 (ck_S1 pl_s204_s ck_S0) ck_E0⟩ ck_X0 ck_l0 pl_s205_e
set_option maxRecDepth 100000 in
/-- GlacierMail$Way.start -/
def pl_s206 : ck_Sum := ((0, 0, 0), 249, [.inr (.inr (.inl 206)), .inl ((-1), 299, []), .inl ((-1), 299, []), .inl ((-1), 299, []), .inl (ck_one 0)], ([], [], []), ([(206, 2, 8)], []), [(.inr none, 249, ([], [], zl74))])
set_option maxRecDepth 100000 in
theorem pl_s206_e : ck_ok p2_OL none [] [] 29 [] 114 pl_s206 = true := by decide +kernel
theorem pl_s206_s {X : Int → Int} {LX : Nat} : ck_Ok p2_OL X LX 29 pl_s206 := ck_ok_s ⟨pl_nmu, ck_E0⟩ ck_X0 ck_l0 pl_s206_e
set_option maxRecDepth 100000 in
/-- GlacierMail$Way.start -/
def pl_s207 : ck_Sum := ((0, 0, 0), 249, [.inr (.inr (.inl 206)), .inl ((-1), 299, []), .inl ((-1), 299, []), .inl ((-1), 299, []), .inl (ck_one 1)], ([], [], []), ([(206, 2, 8)], []), [(.inr none, 249, ([], [], zl75))])
set_option maxRecDepth 100000 in
theorem pl_s207_e : ck_ok p2_OL none [] [] 29 [] 114 pl_s207 = true := by decide +kernel
theorem pl_s207_s {X : Int → Int} {LX : Nat} : ck_Ok p2_OL X LX 29 pl_s207 := ck_ok_s ⟨pl_nmu, ck_E0⟩ ck_X0 ck_l0 pl_s207_e
set_option maxRecDepth 100000 in
/-- GlacierMail$Way.startLetter -/
def pl_s208 : ck_Sum := ((2, 0, 0), 249, [.inr (.inr (.inl 206)), .inl (0, 23, [])], ([], [], []), ([(206, 2, 8)], []), [(.inr none, 249, ([], [], zl76))])
set_option maxRecDepth 100000 in
theorem pl_s208_e : ck_ok p2_OL none [] [(10, [pl_s204]), (28, [pl_s205]), (29, [pl_s206, pl_s207])] 27 [] 116 pl_s208 = true := by decide +kernel
theorem pl_s208_s {X : Int → Int} {LX : Nat} : ck_Ok p2_OL X LX 27 pl_s208 := ck_ok_s ⟨pl_nmu, ck_E1 (ck_S1 pl_s204_s ck_S0) (ck_E1 (ck_S1 pl_s205_s ck_S0) (ck_E1 (ck_S1 pl_s206_s (ck_S1 pl_s207_s ck_S0)) ck_E0))⟩ ck_X0 ck_l0 pl_s208_e
set_option maxRecDepth 100000 in
/-- GlacierMail$Way.isOut -/
def pl_s209 : ck_Sum := ((0, 0, 0), 249, [.inr (.inr (.inl 206))], ([], [], []), ([], []), [(.inr (some (.inl (ck_one 0))), 249, ([], [], [(206, 5, 5, ((-2147483648), 98, []))])), (.inr (some (.inl (ck_one 1))), 249, ([], [], [(206, 5, 5, (10, 2147483647, []))]))])
set_option maxRecDepth 100000 in
theorem pl_s209_e : ck_ok p2_OL none [] [] 31 [] 88 pl_s209 = true := by decide +kernel
theorem pl_s209_s {X : Int → Int} {LX : Nat} : ck_Ok p2_OL X LX 31 pl_s209 := ck_ok_s ⟨pl_nmu, ck_E0⟩ ck_X0 ck_l0 pl_s209_e
set_option maxRecDepth 100000 in
/-- GlacierMail$Way.deepAfter -/
def pl_s210 : ck_Sum := ((1, 0, 0), 249, [.inr (.inr (.inl 206))], ([], [], []), ([], []), [(.inr (some (.inl (0, 99, []))), 249, ([], [], []))])
set_option maxRecDepth 100000 in
theorem pl_s210_e : ck_ok p2_OL none [] [(34, [pl_s179])] 33 [] 110 pl_s210 = true := by decide +kernel
theorem pl_s210_s {X : Int → Int} {LX : Nat} : ck_Ok p2_OL X LX 33 pl_s210 := ck_ok_s ⟨pl_nmu, ck_E1 (ck_S1 pl_s179_s ck_S0) ck_E0⟩ ck_X0 ck_l0 pl_s210_e
set_option maxRecDepth 100000 in
/-- GlacierMail$Ice.floodsIn -/
def pl_s211 : ck_Sum := ((0, 0, 0), 249, [.inr (.inr (.inl 200)), .inl ((-2147483648), 2147483647, [])], ([], [], []), ([], []), [(.inr (some (.inl (ck_one 0))), 249, ([], [], [])), (.inr (some (.inl ((-2147483648), 2147483647, []))), 249, ([], [], []))])
set_option maxRecDepth 100000 in
theorem pl_s211_e : ck_ok p2_OL none [] [] 44 [] 92 pl_s211 = true := by decide +kernel
theorem pl_s211_s {X : Int → Int} {LX : Nat} : ck_Ok p2_OL X LX 44 pl_s211 := ck_ok_s ⟨pl_nmu, ck_E0⟩ ck_X0 ck_l0 pl_s211_e
set_option maxRecDepth 100000 in
/-- GlacierMail$Way.takeFloods -/
def pl_s212 : ck_Sum := ((1, 0, 0), 249, [.inr (.inr (.inl 206))], ([], [], []), ([(206, 5, 5), (206, 8, 8)], []), [(.inr none, 249, ([], [], []))])
set_option maxRecDepth 100000 in
theorem pl_s212_e : ck_ok p2_OL none [] [(44, [pl_s211]), (9, [pl_s137]), (10, [pl_s138])] 43 [(22, [some (.inr (.inr (.inl 206))), some (.inr (.inr (.inl 6))), some (.inl ((-2147483648), 2147483647, [])), some (.inl (0, 9, [])), none], ([], [], []), 100, .inl 3, true)] 290 pl_s212 = true := by decide +kernel
theorem pl_s212_s {X : Int → Int} {LX : Nat} : ck_Ok p2_OL X LX 43 pl_s212 := ck_ok_s ⟨pl_nmu, ck_E1 (ck_S1 pl_s211_s ck_S0) (ck_E1 (ck_S1 pl_s137_s ck_S0) (ck_E1 (ck_S1 pl_s138_s ck_S0) ck_E0))⟩ ck_X0 ck_l0 pl_s212_e
set_option maxRecDepth 100000 in
/-- GlacierMail$Way.step -/
def pl_s213 : ck_Sum := ((3, 0, 0), 249, [.inr (.inr (.inl 206))], ([], [(3, 8, 246)], []), (zl227, []), [(.inr none, 249, ([], [], []))])
set_option maxRecDepth 100000 in
theorem pl_s213_e : ck_ok p2_OL none [] [(31, [pl_s209]), (33, [pl_s210]), (35, [pl_s187]), (43, [pl_s212])] 32 [] 134 pl_s213 = true := by decide +kernel
theorem pl_s213_s {X : Int → Int} {LX : Nat} : ck_Ok p2_OL X LX 32 pl_s213 := ck_ok_s ⟨pl_nmu, ck_E1 (ck_S1 pl_s209_s ck_S0) (ck_E1 (ck_S1 pl_s210_s ck_S0) (ck_E1 (ck_S1 pl_s187_s ck_S0) (ck_E1 (ck_S1 pl_s212_s ck_S0) ck_E0)))⟩ ck_X0 ck_l0 pl_s213_e
set_option maxRecDepth 100000 in
/-- GlacierMail$Way.runOut -/
def pl_s214 : ck_Sum := ((4, 0, 0), 249, [.inr (.inr (.inl 206)), .inl (0, 299, [])], ([], [(3, 8, 246)], []), (zl227, []), [(.inr (some (.inl ((-2147483648), 299, []))), 249, ([], [], []))])
set_option maxRecDepth 100000 in
theorem pl_s214_e : ck_ok p2_OL none [] [(31, [pl_s209]), (32, [pl_s213])] 30 [(5, [some (.inr (.inr (.inl 206))), some (.inl (0, 299, [])), some (.inl ((-2147483648), 2147483647, []))], ([], [(3, 8, 246)], []), 100, .inl 2, true)] 134 pl_s214 = true := by decide +kernel
theorem pl_s214_s {X : Int → Int} {LX : Nat} : ck_Ok p2_OL X LX 30 pl_s214 := ck_ok_s ⟨pl_nmu, ck_E1 (ck_S1 pl_s209_s ck_S0) (ck_E1 (ck_S1 pl_s213_s ck_S0) ck_E0)⟩ ck_X0 ck_l0 pl_s214_e
set_option maxRecDepth 100000 in
/-- GlacierMail$Rows.put -/
def pl_s215 : ck_Sum := ((0, 0, 0), 249, [.inr (.inr (.inl 220)), .inl (0, 23, []), .inl (ck_one 0), .inl ((-2147483648), 299, [])], ([], [], []), (zl77, []), [(.inr none, 249, ([], [], []))])
set_option maxRecDepth 100000 in
theorem pl_s215_e : ck_ok p2_OL none [] [] 45 [] 116 pl_s215 = true := by decide +kernel
theorem pl_s215_s {X : Int → Int} {LX : Nat} : ck_Ok p2_OL X LX 45 pl_s215 := ck_ok_s ⟨pl_nmu, ck_E0⟩ ck_X0 ck_l0 pl_s215_e
set_option maxRecDepth 100000 in
/-- GlacierMail$Rows.put -/
def pl_s216 : ck_Sum := ((0, 0, 0), 249, [.inr (.inr (.inl 220)), .inl (0, 23, []), .inl (ck_one 1), .inl (0, 99, [])], ([], [], []), (zl78, []), [(.inr none, 249, ([], [], []))])
set_option maxRecDepth 100000 in
theorem pl_s216_e : ck_ok p2_OL none [] [] 45 [] 116 pl_s216 = true := by decide +kernel
theorem pl_s216_s {X : Int → Int} {LX : Nat} : ck_Ok p2_OL X LX 45 pl_s216 := ck_ok_s ⟨pl_nmu, ck_E0⟩ ck_X0 ck_l0 pl_s216_e
set_option maxRecDepth 100000 in
/-- GlacierMail.reckonEnds -/
def pl_s217 : ck_Sum := ((5, 0, 0), 249, [.inr (.inr (.inl 1))], ([], [(3, 8, 246)], []), (zl228, []), [(.inr none, 249, ([], [], [(1, 15, 15, ck_one 1)]))])
set_option maxRecDepth 100000 in
theorem pl_s217_e : ck_ok p2_OL none [] [(9, [pl_s200, pl_s201]), (25, [pl_s203]), (27, [pl_s208]), (30, [pl_s214]), (45, [pl_s215, pl_s216])] 24 [(27, [some (.inr (.inr (.inl 1))), some (.inl (0, 24, []))], ([], [(3, 8, 246)], [(1, 15, 15, ck_one 0)]), 100, .inl 1, true)] 206 pl_s217 = true := by decide +kernel
theorem pl_s217_s {X : Int → Int} {LX : Nat} : ck_Ok p2_OL X LX 24 pl_s217 := ck_ok_s ⟨pl_nmu, ck_E1 (ck_S1 pl_s200_s (ck_S1 pl_s201_s ck_S0)) (ck_E1 (ck_S1 pl_s203_s ck_S0) (ck_E1 (ck_S1 pl_s208_s ck_S0) (ck_E1 (ck_S1 pl_s214_s ck_S0) (ck_E1 (ck_S1 pl_s215_s (ck_S1 pl_s216_s ck_S0)) ck_E0))))⟩ ck_X0 ck_l0 pl_s217_e
set_option maxRecDepth 100000 in
/-- GlacierMail$Rows.get -/
def pl_s218 : ck_Sum := ((0, 0, 0), 249, [.inr (.inr (.inl 220)), .inl ((-2147483648), 2147483647, []), .inl ((-2147483648), 2147483647, [])], ([], [], []), ([], []), [(.inr (some (.inl ((-2147483648), 299, []))), 249, ([], [], []))])
set_option maxRecDepth 100000 in
theorem pl_s218_e : ck_ok p2_OL none [] [] 10 [] 114 pl_s218 = true := by decide +kernel
theorem pl_s218_s {X : Int → Int} {LX : Nat} : ck_Ok p2_OL X LX 10 pl_s218 := ck_ok_s ⟨pl_nmu, ck_E0⟩ ck_X0 ck_l0 pl_s218_e
set_option maxRecDepth 100000 in
/-- GlacierMail.isOutBy -/
def pl_s219 : ck_Sum := ((0, 0, 0), 249, [.inr (.inr (.inl 1)), .inl ((-2147483648), 299, []), .inl (0, 299, [])], ([], [], []), ([], []), [(.inr (some (.inl (ck_one 0))), 249, ([], [], [])), (.inr (some (.inl (ck_one 1))), 249, ([], [], []))])
set_option maxRecDepth 100000 in
theorem pl_s219_e : ck_ok p2_OL none [] [] 67 [] 88 pl_s219 = true := by decide +kernel
theorem pl_s219_s {X : Int → Int} {LX : Nat} : ck_Ok p2_OL X LX 67 pl_s219 := ck_ok_s ⟨pl_nmu, ck_E0⟩ ck_X0 ck_l0 pl_s219_e
set_option maxRecDepth 100000 in
/-- GlacierMail.waits -/
def pl_s220 : ck_Sum := ((2, 0, 0), 249, [.inr (.inr (.inl 1)), .inl (0, 23, [])], ([], [], [(3, 6, 6, (0, 299, [(10, 0)]))]), ([], []), [(.inr (some (.inl (ck_one 0))), 249, ([], [], [])), (.inr (some (.inl (ck_one 1))), 249, ([], [], []))])
set_option maxRecDepth 100000 in
theorem pl_s220_e : ck_ok p2_OL none [] [(28, [pl_s205]), (10, [pl_s204, pl_s218]), (67, [pl_s219])] 66 [] 134 pl_s220 = true := by decide +kernel
theorem pl_s220_s {X : Int → Int} {LX : Nat} : ck_Ok p2_OL X LX 66 pl_s220 := ck_ok_s ⟨pl_nmu, ck_E1 (ck_S1 pl_s205_s ck_S0) (ck_E1 (ck_S1 pl_s204_s (ck_S1 pl_s218_s ck_S0)) (ck_E1 (ck_S1 pl_s219_s ck_S0) ck_E0))⟩ ck_X0 ck_l0 pl_s220_e
set_option maxRecDepth 100000 in
/-- GlacierMail.waiting -/
def pl_s221 : ck_Sum := ((6, 0, 0), 249, [.inr (.inr (.inl 1)), .inl (0, 7, [])], ([], [(3, 8, 246)], [(3, 6, 6, (0, 299, [(10, 0)]))]), (zl228, []), [(.inr (some (.inl ((-2147483648), 2147483647, []))), 249, ([], [], [(1, 15, 15, ck_one 1)]))])
set_option maxRecDepth 100000 in
theorem pl_s221_e : ck_ok p2_OL none [] [(24, [pl_s217]), (9, [pl_s200]), (10, [pl_s204]), (66, [pl_s220])] 65 [(8, [some (.inr (.inr (.inl 1))), some (.inl (0, 7, [])), some (.inl ((-2147483648), 2147483647, [])), some (.inl (0, 24, [])), none], ([], [(3, 8, 246)], [(1, 15, 15, ck_one 1), (3, 6, 6, (0, 299, [(10, 0)]))]), 100, .inl 3, true)] 210 pl_s221 = true := by decide +kernel
theorem pl_s221_s {X : Int → Int} {LX : Nat} : ck_Ok p2_OL X LX 65 pl_s221 := ck_ok_s ⟨pl_nmu, ck_E1 (ck_S1 pl_s217_s ck_S0) (ck_E1 (ck_S1 pl_s200_s ck_S0) (ck_E1 (ck_S1 pl_s204_s ck_S0) (ck_E1 (ck_S1 pl_s220_s ck_S0) ck_E0)))⟩ ck_X0 ck_l0 pl_s221_e
set_option maxRecDepth 100000 in
/-- GlacierMail.lettersWith -/
def pl_s222 : ck_Sum := ((1, 0, 0), 249, [.inr (.inr (.inl 1)), .inl (ck_one 5), .inl (0, 7, [])], ([], [], []), ([], []), [(.inr (some (.inl ((-2147483648), 2147483647, []))), 249, ([], [], []))])
set_option maxRecDepth 100000 in
theorem pl_s222_e : ck_ok p2_OL none [] [(9, [pl_s200]), (10, [pl_s204])] 140 [(5, [some (.inr (.inr (.inl 1))), some (.inl (ck_one 5)), some (.inl (0, 7, [])), some (.inl ((-2147483648), 2147483647, [])), some (.inl (0, 24, []))], ([], [], []), 100, .inl 4, true)] 162 pl_s222 = true := by decide +kernel
theorem pl_s222_s {X : Int → Int} {LX : Nat} : ck_Ok p2_OL X LX 140 pl_s222 := ck_ok_s ⟨pl_nmu, ck_E1 (ck_S1 pl_s200_s ck_S0) (ck_E1 (ck_S1 pl_s204_s ck_S0) ck_E0)⟩ ck_X0 ck_l0 pl_s222_e
set_option maxRecDepth 100000 in
/-- GlacierMail.lettersWith -/
def pl_s223 : ck_Sum := ((1, 0, 0), 249, [.inr (.inr (.inl 1)), .inl (ck_one 0), .inl (0, 7, [])], ([], [], []), ([], []), [(.inr (some (.inl ((-2147483648), 2147483647, []))), 249, ([], [], []))])
set_option maxRecDepth 100000 in
theorem pl_s223_e : ck_ok p2_OL none [] [(9, [pl_s200]), (10, [pl_s204])] 140 [(5, [some (.inr (.inr (.inl 1))), some (.inl (ck_one 0)), some (.inl (0, 7, [])), some (.inl ((-2147483648), 2147483647, [])), some (.inl (0, 24, []))], ([], [], []), 100, .inl 4, true)] 162 pl_s223 = true := by decide +kernel
theorem pl_s223_s {X : Int → Int} {LX : Nat} : ck_Ok p2_OL X LX 140 pl_s223 := ck_ok_s ⟨pl_nmu, ck_E1 (ck_S1 pl_s200_s ck_S0) (ck_E1 (ck_S1 pl_s204_s ck_S0) ck_E0)⟩ ck_X0 ck_l0 pl_s223_e
set_option maxRecDepth 100000 in
/-- GlacierMail$Rows.get -/
def pl_s224 : ck_Sum := ((0, 0, 0), 249, [.inr (.inr (.inl 8)), .inl ((-2147483648), 2147483647, []), .inl ((-2147483648), 2147483647, [])], ([], [], []), ([], []), [(.inr (some (.inl ((-1), 98, []))), 249, ([], [], []))])
set_option maxRecDepth 100000 in
theorem pl_s224_e : ck_ok p2_OL none [] [] 10 [] 114 pl_s224 = true := by decide +kernel
theorem pl_s224_s {X : Int → Int} {LX : Nat} : ck_Ok p2_OL X LX 10 pl_s224 := ck_ok_s ⟨pl_nmu, ck_E0⟩ ck_X0 ck_l0 pl_s224_e
set_option maxRecDepth 100000 in
/-- GlacierMail.person -/
def pl_s225 : ck_Sum := ((8, 2, 12), 249, [.inr (.inr (.inl 1)), .inl (0, 7, []), .inl (0, 9, [])], ([], [(3, 8, 246)], [(3, 6, 6, (0, 299, [(10, 0)]))]), (zl228, []), [(.inl 3, 249, ([], [], [])), (.inl 4, 249, ([], [], [])), (.inr (some (.inl ((-2147483648), 2147483647, []))), 249, ([], [], []))])
set_option maxRecDepth 100000 in
theorem pl_s225_e : ck_ok p2_OL none [] [(139, [pl_s197]), (65, [pl_s221]), (140, [pl_s222, pl_s223]), (10, [pl_s224])] 138 [] 94 pl_s225 = true := by decide +kernel
theorem pl_s225_s {X : Int → Int} {LX : Nat} : ck_Ok p2_OL X LX 138 pl_s225 := ck_ok_s ⟨pl_nmu, ck_E1 (ck_S1 pl_s197_s ck_S0) (ck_E1 (ck_S1 pl_s221_s ck_S0) (ck_E1 (ck_S1 pl_s222_s (ck_S1 pl_s223_s ck_S0)) (ck_E1 (ck_S1 pl_s224_s ck_S0) ck_E0)))⟩ ck_X0 ck_l0 pl_s225_e
set_option maxRecDepth 100000 in
/-- GlacierMail.need -/
def pl_s226 : ck_Sum := ((6, 1, 6), 249, [.inr (.inr (.inl 1)), .inl ((-2147483648), (-1), []), .inl (0, 24, [])], ([], [], []), ([], []), [(.inl 3, 249, ([], [], []))])
set_option maxRecDepth 100000 in
theorem pl_s226_e : ck_ok p2_OL none [] [] 133 [] 76 pl_s226 = true := by decide +kernel
theorem pl_s226_s {X : Int → Int} {LX : Nat} : ck_Ok p2_OL X LX 133 pl_s226 := ck_ok_s ⟨pl_nmu, ck_E0⟩ ck_X0 ck_l0 pl_s226_e
set_option maxRecDepth 100000 in
/-- GlacierMail.needLetter -/
def pl_s227 : ck_Sum := ((7, 1, 6), 249, [.inr (.inr (.inl 1)), .inl ((-2147483648), (-1), [])], ([], [], []), ([], []), [(.inl 3, 249, ([], [], []))])
set_option maxRecDepth 100000 in
theorem pl_s227_e : ck_ok p2_OL none [] [(9, [pl_s200]), (133, [pl_s226])] 143 [] 84 pl_s227 = true := by decide +kernel
theorem pl_s227_s {X : Int → Int} {LX : Nat} : ck_Ok p2_OL X LX 143 pl_s227 := ck_ok_s ⟨pl_nmu, ck_E1 (ck_S1 pl_s200_s ck_S0) (ck_E1 (ck_S1 pl_s226_s ck_S0) ck_E0)⟩ ck_X0 ck_l0 pl_s227_e
set_option maxRecDepth 100000 in
/-- GlacierMail.letter -/
def pl_s228 : ck_Sum := ((8, 1, 6), 249, [.inr (.inr (.inl 1)), .inl ((-2147483648), (-1), []), .inl ((-2147483648), 2147483647, [])], ([], [], []), ([], []), [(.inl 3, 249, ([], [], []))])
set_option maxRecDepth 100000 in
theorem pl_s228_e : ck_ok p2_OL none [] [(143, [pl_s227])] 142 [] 76 pl_s228 = true := by decide +kernel
theorem pl_s228_s {X : Int → Int} {LX : Nat} : ck_Ok p2_OL X LX 142 pl_s228 := ck_ok_s ⟨pl_nmu, ck_E1 (ck_S1 pl_s227_s ck_S0) ck_E0⟩ ck_X0 ck_l0 pl_s228_e
set_option maxRecDepth 100000 in
/-- GlacierMail.need -/
def pl_s229 : ck_Sum := ((6, 1, 6), 249, [.inr (.inr (.inl 1)), .inl (24, 2147483647, []), .inl (0, 24, [])], ([], [], []), ([], []), [(.inl 3, 249, ([], [], []))])
set_option maxRecDepth 100000 in
theorem pl_s229_e : ck_ok p2_OL none [] [] 133 [] 82 pl_s229 = true := by decide +kernel
theorem pl_s229_s {X : Int → Int} {LX : Nat} : ck_Ok p2_OL X LX 133 pl_s229 := ck_ok_s ⟨pl_nmu, ck_E0⟩ ck_X0 ck_l0 pl_s229_e
set_option maxRecDepth 100000 in
/-- GlacierMail.needLetter -/
def pl_s230 : ck_Sum := ((7, 1, 6), 249, [.inr (.inr (.inl 1)), .inl (24, 2147483647, [])], ([], [], []), ([], []), [(.inl 3, 249, ([], [], []))])
set_option maxRecDepth 100000 in
theorem pl_s230_e : ck_ok p2_OL none [] [(9, [pl_s200]), (133, [pl_s229])] 143 [] 84 pl_s230 = true := by decide +kernel
theorem pl_s230_s {X : Int → Int} {LX : Nat} : ck_Ok p2_OL X LX 143 pl_s230 := ck_ok_s ⟨pl_nmu, ck_E1 (ck_S1 pl_s200_s ck_S0) (ck_E1 (ck_S1 pl_s229_s ck_S0) ck_E0)⟩ ck_X0 ck_l0 pl_s230_e
set_option maxRecDepth 100000 in
/-- GlacierMail.letter -/
def pl_s231 : ck_Sum := ((8, 1, 6), 249, [.inr (.inr (.inl 1)), .inl (24, 2147483647, []), .inl ((-2147483648), 2147483647, [])], ([], [], []), ([], []), [(.inl 3, 249, ([], [], []))])
set_option maxRecDepth 100000 in
theorem pl_s231_e : ck_ok p2_OL none [] [(143, [pl_s230])] 142 [] 76 pl_s231 = true := by decide +kernel
theorem pl_s231_s {X : Int → Int} {LX : Nat} : ck_Ok p2_OL X LX 142 pl_s231 := ck_ok_s ⟨pl_nmu, ck_E1 (ck_S1 pl_s230_s ck_S0) ck_E0⟩ ck_X0 ck_l0 pl_s231_e
set_option maxRecDepth 100000 in
/-- GlacierMail.need -/
def pl_s232 : ck_Sum := ((6, 1, 6), 249, [.inr (.inr (.inl 1)), .inl (0, 23, []), .inl (0, 24, [])], ([], [], []), ([], []), [(.inr none, 249, ([], [], [])), (.inl 3, 249, ([], [], []))])
set_option maxRecDepth 100000 in
theorem pl_s232_e : ck_ok p2_OL none [] [] 133 [] 82 pl_s232 = true := by decide +kernel
theorem pl_s232_s {X : Int → Int} {LX : Nat} : ck_Ok p2_OL X LX 133 pl_s232 := ck_ok_s ⟨pl_nmu, ck_E0⟩ ck_X0 ck_l0 pl_s232_e
set_option maxRecDepth 100000 in
/-- GlacierMail.needLetter -/
def pl_s233 : ck_Sum := ((7, 1, 6), 249, [.inr (.inr (.inl 1)), .inl (0, 23, [])], ([], [], []), ([], []), [(.inl 3, 249, ([], [], [])), (.inr none, 249, ([], [], []))])
set_option maxRecDepth 100000 in
theorem pl_s233_e : ck_ok p2_OL none [] [(9, [pl_s200]), (133, [pl_s232])] 143 [] 86 pl_s233 = true := by decide +kernel
theorem pl_s233_s {X : Int → Int} {LX : Nat} : ck_Ok p2_OL X LX 143 pl_s233 := ck_ok_s ⟨pl_nmu, ck_E1 (ck_S1 pl_s200_s ck_S0) (ck_E1 (ck_S1 pl_s232_s ck_S0) ck_E0)⟩ ck_X0 ck_l0 pl_s233_e
set_option maxRecDepth 100000 in
/-- GlacierMail.letter -/
def pl_s234 : ck_Sum := ((8, 2, 12), 249, [.inr (.inr (.inl 1)), .inl (0, 23, []), .inl ((-2147483648), (-1), [])], ([], [], []), ([], []), [(.inl 3, 249, ([], [], [])), (.inl 4, 249, ([], [], []))])
set_option maxRecDepth 100000 in
theorem pl_s234_e : ck_ok p2_OL none [] [(143, [pl_s233])] 142 [] 82 pl_s234 = true := by decide +kernel
theorem pl_s234_s {X : Int → Int} {LX : Nat} : ck_Ok p2_OL X LX 142 pl_s234 := ck_ok_s ⟨pl_nmu, ck_E1 (ck_S1 pl_s233_s ck_S0) ck_E0⟩ ck_X0 ck_l0 pl_s234_e
set_option maxRecDepth 100000 in
/-- GlacierMail.letter -/
def pl_s235 : ck_Sum := ((8, 2, 12), 249, [.inr (.inr (.inl 1)), .inl (0, 23, []), .inl (10, 2147483647, [])], ([], [], []), ([], []), [(.inl 3, 249, ([], [], [])), (.inl 4, 249, ([], [], []))])
set_option maxRecDepth 100000 in
theorem pl_s235_e : ck_ok p2_OL none [] [(143, [pl_s233])] 142 [] 82 pl_s235 = true := by decide +kernel
theorem pl_s235_s {X : Int → Int} {LX : Nat} : ck_Ok p2_OL X LX 142 pl_s235 := ck_ok_s ⟨pl_nmu, ck_E1 (ck_S1 pl_s233_s ck_S0) ck_E0⟩ ck_X0 ck_l0 pl_s235_e
set_option maxRecDepth 100000 in
/-- GlacierMail.firstBare -/
def pl_s236 : ck_Sum := ((4, 0, 0), 249, [.inr (.inr (.inl 1)), .inl (0, 23, [])], ([], [(3, 8, 246)], []), (zl229, []), [(.inr (some (.inl (ck_one (-1)))), 249, ([], [], zl86)), (.inr (some (.inl (0, 299, []))), 249, ([], [], zl87))])
set_option maxRecDepth 100000 in
theorem pl_s236_e : ck_ok p2_OL none [] [(27, [pl_s208]), (32, [pl_s213]), (31, [pl_s209])] 145 [(18, [some (.inr (.inr (.inl 1))), some (.inl (0, 23, [])), some (.inl (0, 300, []))], ([], [(3, 8, 246)], [(206, 6, 6, (0, 99, [])), (206, 4, 4, ck_one (-1)), (206, 5, 5, ((-2147483648), 299, [])), (206, 2, 2, ((-1), 299, []))]), 100, .inl 2, true)] 158 pl_s236 = true := by decide +kernel
theorem pl_s236_s {X : Int → Int} {LX : Nat} : ck_Ok p2_OL X LX 145 pl_s236 := ck_ok_s ⟨pl_nmu, ck_E1 (ck_S1 pl_s208_s ck_S0) (ck_E1 (ck_S1 pl_s213_s ck_S0) (ck_E1 (ck_S1 pl_s209_s ck_S0) ck_E0))⟩ ck_X0 ck_l0 pl_s236_e
set_option maxRecDepth 100000 in
/-- GlacierMail.outOf -/
def pl_s237 : ck_Sum := ((5, 0, 0), 249, [.inr (.inr (.inl 1)), .inl (0, 23, [])], ([], [(3, 8, 246)], []), (zl229, []), [(.inr (some (.inl ((-2147483648), 299, []))), 249, ([], [], zl86))])
set_option maxRecDepth 100000 in
theorem pl_s237_e : ck_ok p2_OL none [] [(27, [pl_s208]), (30, [pl_s214])] 144 [] 88 pl_s237 = true := by decide +kernel
theorem pl_s237_s {X : Int → Int} {LX : Nat} : ck_Ok p2_OL X LX 144 pl_s237 := ck_ok_s ⟨pl_nmu, ck_E1 (ck_S1 pl_s208_s ck_S0) (ck_E1 (ck_S1 pl_s214_s ck_S0) ck_E0)⟩ ck_X0 ck_l0 pl_s237_e
set_option maxRecDepth 100000 in
/-- GlacierMail.letter -/
def pl_s238 : ck_Sum := ((8, 1, 6), 249, [.inr (.inr (.inl 1)), .inl (0, 23, []), .inl (0, 9, [])], ([], [(3, 8, 246)], []), (zl229, []), [(.inl 3, 249, ([], [], [])), (.inr (some (.inl ((-2147483648), 299, []))), 249, ([], [], [])), (.inr (some (.inl (0, 299, []))), 249, ([], [], zl86))])
set_option maxRecDepth 100000 in
theorem pl_s238_e : ck_ok p2_OL none [] [(143, [pl_s233]), (10, [pl_s204]), (145, [pl_s236]), (144, [pl_s237])] 142 [] 98 pl_s238 = true := by decide +kernel
theorem pl_s238_s {X : Int → Int} {LX : Nat} : ck_Ok p2_OL X LX 142 pl_s238 := ck_ok_s ⟨pl_nmu, ck_E1 (ck_S1 pl_s233_s ck_S0) (ck_E1 (ck_S1 pl_s204_s ck_S0) (ck_E1 (ck_S1 pl_s236_s ck_S0) (ck_E1 (ck_S1 pl_s237_s ck_S0) ck_E0)))⟩ ck_X0 ck_l0 pl_s238_e
set_option maxRecDepth 100000 in
/-- GlacierMail.where -/
def pl_s239 : ck_Sum := ((8, 1, 6), 249, [.inr (.inr (.inl 1)), .inl ((-2147483648), (-1), []), .inl ((-2147483648), 2147483647, [])], ([], [], []), ([], []), [(.inl 3, 249, ([], [], []))])
set_option maxRecDepth 100000 in
theorem pl_s239_e : ck_ok p2_OL none [] [(143, [pl_s227])] 147 [] 76 pl_s239 = true := by decide +kernel
theorem pl_s239_s {X : Int → Int} {LX : Nat} : ck_Ok p2_OL X LX 147 pl_s239 := ck_ok_s ⟨pl_nmu, ck_E1 (ck_S1 pl_s227_s ck_S0) ck_E0⟩ ck_X0 ck_l0 pl_s239_e
set_option maxRecDepth 100000 in
/-- GlacierMail.where -/
def pl_s240 : ck_Sum := ((8, 1, 6), 249, [.inr (.inr (.inl 1)), .inl (24, 2147483647, []), .inl ((-2147483648), 2147483647, [])], ([], [], []), ([], []), [(.inl 3, 249, ([], [], []))])
set_option maxRecDepth 100000 in
theorem pl_s240_e : ck_ok p2_OL none [] [(143, [pl_s230])] 147 [] 76 pl_s240 = true := by decide +kernel
theorem pl_s240_s {X : Int → Int} {LX : Nat} : ck_Ok p2_OL X LX 147 pl_s240 := ck_ok_s ⟨pl_nmu, ck_E1 (ck_S1 pl_s230_s ck_S0) ck_E0⟩ ck_X0 ck_l0 pl_s240_e
set_option maxRecDepth 100000 in
/-- GlacierMail.where -/
def pl_s241 : ck_Sum := ((8, 2, 12), 249, [.inr (.inr (.inl 1)), .inl (0, 23, []), .inl ((-2147483648), (-1), [])], ([], [], []), ([], []), [(.inl 3, 249, ([], [], [])), (.inl 0, 249, ([], [], []))])
set_option maxRecDepth 100000 in
theorem pl_s241_e : ck_ok p2_OL none [] [(143, [pl_s233]), (129, [pl_s145])] 147 [] 82 pl_s241 = true := by decide +kernel
theorem pl_s241_s {X : Int → Int} {LX : Nat} : ck_Ok p2_OL X LX 147 pl_s241 := ck_ok_s ⟨pl_nmu, ck_E1 (ck_S1 pl_s233_s ck_S0) (ck_E1 (ck_S1 pl_s145_s ck_S0) ck_E0)⟩ ck_X0 ck_l0 pl_s241_e
set_option maxRecDepth 100000 in
/-- GlacierMail.where -/
def pl_s242 : ck_Sum := ((8, 2, 12), 249, [.inr (.inr (.inl 1)), .inl (0, 23, []), .inl (300, 2147483647, [])], ([], [], []), ([], []), [(.inl 3, 249, ([], [], [])), (.inl 0, 249, ([], [], []))])
set_option maxRecDepth 100000 in
theorem pl_s242_e : ck_ok p2_OL none [] [(143, [pl_s233]), (129, [pl_s147])] 147 [] 82 pl_s242 = true := by decide +kernel
theorem pl_s242_s {X : Int → Int} {LX : Nat} : ck_Ok p2_OL X LX 147 pl_s242 := ck_ok_s ⟨pl_nmu, ck_E1 (ck_S1 pl_s233_s ck_S0) (ck_E1 (ck_S1 pl_s147_s ck_S0) ck_E0)⟩ ck_X0 ck_l0 pl_s242_e
set_option maxRecDepth 100000 in
/-- GlacierMail$Way.goOnTo -/
def pl_s243 : ck_Sum := ((4, 0, 0), 249, [.inr (.inr (.inl 206)), .inl (0, 299, [])], ([], [(3, 8, 246)], []), (zl227, []), [(.inr none, 249, ([], [], []))])
set_option maxRecDepth 100000 in
theorem pl_s243_e : ck_ok p2_OL none [] [(32, [pl_s213])] 148 [(5, [some (.inr (.inr (.inl 206))), some (.inl (0, 299, [])), some (.inl ((-2147483648), 2147483647, []))], ([], [(3, 8, 246)], []), 100, .inl 2, true)] 122 pl_s243 = true := by decide +kernel
theorem pl_s243_s {X : Int → Int} {LX : Nat} : ck_Ok p2_OL X LX 148 pl_s243 := ck_ok_s ⟨pl_nmu, ck_E1 (ck_S1 pl_s213_s ck_S0) ck_E0⟩ ck_X0 ck_l0 pl_s243_e
set_option maxRecDepth 100000 in
/-- GlacierMail.where -/
def pl_s244 : ck_Sum := ((8, 1, 6), 249, [.inr (.inr (.inl 1)), .inl (0, 23, []), .inl (0, 299, [])], ([], [(3, 8, 246)], []), (zl229, []), [(.inl 3, 249, ([], [], [])), (.inr (some (.inl ((-2147483648), 99, []))), 249, ([], [], []))])
set_option maxRecDepth 100000 in
theorem pl_s244_e : ck_ok p2_OL none [] [(143, [pl_s233]), (129, [pl_s149]), (10, [pl_s204]), (27, [pl_s208]), (148, [pl_s243])] 147 [] 130 pl_s244 = true := by decide +kernel
theorem pl_s244_s {X : Int → Int} {LX : Nat} : ck_Ok p2_OL X LX 147 pl_s244 := ck_ok_s ⟨pl_nmu, ck_E1 (ck_S1 pl_s233_s ck_S0) (ck_E1 (ck_S1 pl_s149_s ck_S0) (ck_E1 (ck_S1 pl_s204_s ck_S0) (ck_E1 (ck_S1 pl_s208_s ck_S0) (ck_E1 (ck_S1 pl_s243_s ck_S0) ck_E0))))⟩ ck_X0 ck_l0 pl_s244_e
set_option maxRecDepth 100000 in
/-- GlacierMail.deep -/
def pl_s245 : ck_Sum := ((8, 1, 6), 249, [.inr (.inr (.inl 1)), .inl ((-2147483648), (-1), []), .inl ((-2147483648), 2147483647, [])], ([], [], []), ([], []), [(.inl 3, 249, ([], [], []))])
set_option maxRecDepth 100000 in
theorem pl_s245_e : ck_ok p2_OL none [] [(143, [pl_s227])] 150 [] 76 pl_s245 = true := by decide +kernel
theorem pl_s245_s {X : Int → Int} {LX : Nat} : ck_Ok p2_OL X LX 150 pl_s245 := ck_ok_s ⟨pl_nmu, ck_E1 (ck_S1 pl_s227_s ck_S0) ck_E0⟩ ck_X0 ck_l0 pl_s245_e
set_option maxRecDepth 100000 in
/-- GlacierMail.deep -/
def pl_s246 : ck_Sum := ((8, 1, 6), 249, [.inr (.inr (.inl 1)), .inl (24, 2147483647, []), .inl ((-2147483648), 2147483647, [])], ([], [], []), ([], []), [(.inl 3, 249, ([], [], []))])
set_option maxRecDepth 100000 in
theorem pl_s246_e : ck_ok p2_OL none [] [(143, [pl_s230])] 150 [] 76 pl_s246 = true := by decide +kernel
theorem pl_s246_s {X : Int → Int} {LX : Nat} : ck_Ok p2_OL X LX 150 pl_s246 := ck_ok_s ⟨pl_nmu, ck_E1 (ck_S1 pl_s230_s ck_S0) ck_E0⟩ ck_X0 ck_l0 pl_s246_e
set_option maxRecDepth 100000 in
/-- GlacierMail.deep -/
def pl_s247 : ck_Sum := ((8, 2, 12), 249, [.inr (.inr (.inl 1)), .inl (0, 23, []), .inl ((-2147483648), (-1), [])], ([], [], []), ([], []), [(.inl 3, 249, ([], [], [])), (.inl 0, 249, ([], [], []))])
set_option maxRecDepth 100000 in
theorem pl_s247_e : ck_ok p2_OL none [] [(143, [pl_s233]), (129, [pl_s145])] 150 [] 82 pl_s247 = true := by decide +kernel
theorem pl_s247_s {X : Int → Int} {LX : Nat} : ck_Ok p2_OL X LX 150 pl_s247 := ck_ok_s ⟨pl_nmu, ck_E1 (ck_S1 pl_s233_s ck_S0) (ck_E1 (ck_S1 pl_s145_s ck_S0) ck_E0)⟩ ck_X0 ck_l0 pl_s247_e
set_option maxRecDepth 100000 in
/-- GlacierMail.deep -/
def pl_s248 : ck_Sum := ((8, 2, 12), 249, [.inr (.inr (.inl 1)), .inl (0, 23, []), .inl (300, 2147483647, [])], ([], [], []), ([], []), [(.inl 3, 249, ([], [], [])), (.inl 0, 249, ([], [], []))])
set_option maxRecDepth 100000 in
theorem pl_s248_e : ck_ok p2_OL none [] [(143, [pl_s233]), (129, [pl_s147])] 150 [] 82 pl_s248 = true := by decide +kernel
theorem pl_s248_s {X : Int → Int} {LX : Nat} : ck_Ok p2_OL X LX 150 pl_s248 := ck_ok_s ⟨pl_nmu, ck_E1 (ck_S1 pl_s233_s ck_S0) (ck_E1 (ck_S1 pl_s147_s ck_S0) ck_E0)⟩ ck_X0 ck_l0 pl_s248_e
set_option maxRecDepth 100000 in
/-- GlacierMail.deep -/
def pl_s249 : ck_Sum := ((8, 1, 6), 249, [.inr (.inr (.inl 1)), .inl (0, 23, []), .inl (0, 299, [])], ([], [(3, 8, 246)], []), (zl229, []), [(.inl 3, 249, ([], [], [])), (.inr (some (.inl (0, 99, []))), 249, ([], [], zl86)), (.inr (some (.inl (ck_one (-1)))), 249, ([], [], []))])
set_option maxRecDepth 100000 in
theorem pl_s249_e : ck_ok p2_OL none [] [(143, [pl_s233]), (129, [pl_s149]), (10, [pl_s204]), (27, [pl_s208]), (148, [pl_s243])] 150 [] 122 pl_s249 = true := by decide +kernel
theorem pl_s249_s {X : Int → Int} {LX : Nat} : ck_Ok p2_OL X LX 150 pl_s249 := ck_ok_s ⟨pl_nmu, ck_E1 (ck_S1 pl_s233_s ck_S0) (ck_E1 (ck_S1 pl_s149_s ck_S0) (ck_E1 (ck_S1 pl_s204_s ck_S0) (ck_E1 (ck_S1 pl_s208_s ck_S0) (ck_E1 (ck_S1 pl_s243_s ck_S0) ck_E0))))⟩ ck_X0 ck_l0 pl_s249_e
set_option maxRecDepth 100000 in
/-- GlacierMail.post -/
def pl_s250 : ck_Sum := ((8, 1, 6), 249, [.inr (.inr (.inl 1)), .inl ((-2147483648), (-1), []), .inl ((-2147483648), 2147483647, [])], ([], [], []), ([], []), [(.inl 3, 249, ([], [], []))])
set_option maxRecDepth 100000 in
theorem pl_s250_e : ck_ok p2_OL none [] [(139, [pl_s191])] 152 [] 76 pl_s250 = true := by decide +kernel
theorem pl_s250_s {X : Int → Int} {LX : Nat} : ck_Ok p2_OL X LX 152 pl_s250 := ck_ok_s ⟨pl_nmu, ck_E1 (ck_S1 pl_s191_s ck_S0) ck_E0⟩ ck_X0 ck_l0 pl_s250_e
set_option maxRecDepth 100000 in
/-- GlacierMail.post -/
def pl_s251 : ck_Sum := ((8, 1, 6), 249, [.inr (.inr (.inl 1)), .inl (8, 2147483647, []), .inl ((-2147483648), 2147483647, [])], ([], [], []), ([], []), [(.inl 3, 249, ([], [], []))])
set_option maxRecDepth 100000 in
theorem pl_s251_e : ck_ok p2_OL none [] [(139, [pl_s194])] 152 [] 76 pl_s251 = true := by decide +kernel
theorem pl_s251_s {X : Int → Int} {LX : Nat} : ck_Ok p2_OL X LX 152 pl_s251 := ck_ok_s ⟨pl_nmu, ck_E1 (ck_S1 pl_s194_s ck_S0) ck_E0⟩ ck_X0 ck_l0 pl_s251_e
set_option maxRecDepth 100000 in
/-- GlacierMail.post -/
def pl_s252 : ck_Sum := ((8, 2, 12), 249, [.inr (.inr (.inl 1)), .inl (0, 7, []), .inl ((-2147483648), (-1), [])], ([], [], []), ([], []), [(.inl 3, 249, ([], [], []))])
set_option maxRecDepth 100000 in
theorem pl_s252_e : ck_ok p2_OL none [] [(139, [pl_s197, pl_s191])] 152 [] 82 pl_s252 = true := by decide +kernel
theorem pl_s252_s {X : Int → Int} {LX : Nat} : ck_Ok p2_OL X LX 152 pl_s252 := ck_ok_s ⟨pl_nmu, ck_E1 (ck_S1 pl_s197_s (ck_S1 pl_s191_s ck_S0)) ck_E0⟩ ck_X0 ck_l0 pl_s252_e
set_option maxRecDepth 100000 in
/-- GlacierMail.post -/
def pl_s253 : ck_Sum := ((8, 2, 12), 249, [.inr (.inr (.inl 1)), .inl (0, 7, []), .inl (8, 2147483647, [])], ([], [], []), ([], []), [(.inl 3, 249, ([], [], []))])
set_option maxRecDepth 100000 in
theorem pl_s253_e : ck_ok p2_OL none [] [(139, [pl_s197, pl_s194])] 152 [] 82 pl_s253 = true := by decide +kernel
theorem pl_s253_s {X : Int → Int} {LX : Nat} : ck_Ok p2_OL X LX 152 pl_s253 := ck_ok_s ⟨pl_nmu, ck_E1 (ck_S1 pl_s197_s (ck_S1 pl_s194_s ck_S0)) ck_E0⟩ ck_X0 ck_l0 pl_s253_e
set_option maxRecDepth 100000 in
/-- GlacierMail.needUnlike -/
def pl_s254 : ck_Sum := ((6, 1, 6), 249, [.inr (.inr (.inl 1)), .inl (0, 7, []), .inl (0, 7, [])], ([], [], []), ([], []), [(.inr none, 249, ([], [], [])), (.inl 0, 249, ([], [], []))])
set_option maxRecDepth 100000 in
theorem pl_s254_e : ck_ok p2_OL none [] [] 153 [] 78 pl_s254 = true := by decide +kernel
theorem pl_s254_s {X : Int → Int} {LX : Nat} : ck_Ok p2_OL X LX 153 pl_s254 := ck_ok_s ⟨pl_nmu, ck_E0⟩ ck_X0 ck_l0 pl_s254_e
set_option maxRecDepth 100000 in
/-- GlacierMail$Rows.isFull -/
def pl_s255 : ck_Sum := ((0, 0, 0), 249, [.inr (.inr (.inl 10))], ([], [], []), ([], []), [(.inr (some (.inl (ck_one 0))), 249, ([], [], [(10, 3, 3, (0, 23, []))])), (.inr (some (.inl (ck_one 1))), 249, ([], [], [(10, 3, 3, ck_one 24)]))])
set_option maxRecDepth 100000 in
theorem pl_s255_e : ck_ok p2_OL none [] [] 108 [] 86 pl_s255 = true := by decide +kernel
theorem pl_s255_s {X : Int → Int} {LX : Nat} : ck_Ok p2_OL X LX 108 pl_s255 := ck_ok_s ⟨pl_nmu, ck_E0⟩ ck_X0 ck_l0 pl_s255_e
set_option maxRecDepth 100000 in
/-- GlacierMail$History.at -/
def pl_s256 : ck_Sum := ((0, 0, 0), 249, [.inr (.inr (.inl 42)), .inl (0, 12, [])], ([], [], []), ([], []), [(.inr (some (.inr (.inr (.inl 0)))), 249, ([], [], [])), (.inr (some (.inr (.inr (.inl 44)))), 249, ([], [], [])), (.inr (some (.inr (.inr (.inl 187)))), 249, ([], [], [])), (.inr (some (.inr (.inr (.inl 174)))), 249, ([], [], [])), (.inr (some (.inr (.inr (.inl 161)))), 249, ([], [], [])), (.inr (some (.inr (.inr (.inl 148)))), 249, ([], [], [])), (.inr (some (.inr (.inr (.inl 135)))), 249, ([], [], [])), (.inr (some (.inr (.inr (.inl 122)))), 249, ([], [], [])), (.inr (some (.inr (.inr (.inl 109)))), 249, ([], [], [])), (.inr (some (.inr (.inr (.inl 96)))), 249, ([], [], [])), (.inr (some (.inr (.inr (.inl 83)))), 249, ([], [], [])), (.inr (some (.inr (.inr (.inl 70)))), 249, ([], [], [])), (.inr (some (.inr (.inr (.inl 57)))), 249, ([], [], []))])
set_option maxRecDepth 100000 in
theorem pl_s256_e : ck_ok p2_OL none [] [] 56 [] 96 pl_s256 = true := by decide +kernel
theorem pl_s256_s {X : Int → Int} {LX : Nat} : ck_Ok p2_OL X LX 56 pl_s256 := ck_ok_s ⟨pl_nmu, ck_E0⟩ ck_X0 ck_l0 pl_s256_e
set_option maxRecDepth 100000 in
/-- GlacierMail$Rows.copyFrom -/
def pl_s257 : ck_Sum := ((1, 0, 0), 249, [.inr (.inr (.inl 58)), .inr (.inr (.inl 4))], ([], [], []), ([(58, 3, 3), (59, 0, 55)], []), [(.inr none, 249, ([], [], []))])
set_option maxRecDepth 100000 in
theorem pl_s257_e : ck_ok p2_OL none [] [] 58 [] 114 pl_s257 = true := by decide +kernel
theorem pl_s257_s {X : Int → Int} {LX : Nat} : ck_Ok p2_OL X LX 58 pl_s257 := ck_ok_s ⟨pl_nmu, ck_E0⟩ ck_X0 ck_l0 pl_s257_e
set_option maxRecDepth 100000 in
/-- GlacierMail$Rows.copyFrom -/
def pl_s258 : ck_Sum := ((1, 0, 0), 249, [.inr (.inr (.inl 60)), .inr (.inr (.inl 6))], ([], [], []), ([(60, 3, 3), (61, 0, 23)], []), [(.inr none, 249, ([], [], []))])
set_option maxRecDepth 100000 in
theorem pl_s258_e : ck_ok p2_OL none [] [] 58 [] 114 pl_s258 = true := by decide +kernel
theorem pl_s258_s {X : Int → Int} {LX : Nat} : ck_Ok p2_OL X LX 58 pl_s258 := ck_ok_s ⟨pl_nmu, ck_E0⟩ ck_X0 ck_l0 pl_s258_e
set_option maxRecDepth 100000 in
/-- GlacierMail$Rows.copyFrom -/
def pl_s259 : ck_Sum := ((1, 0, 0), 249, [.inr (.inr (.inl 62)), .inr (.inr (.inl 8))], ([], [], []), ([(62, 3, 3), (63, 0, 23)], []), [(.inr none, 249, ([], [], []))])
set_option maxRecDepth 100000 in
theorem pl_s259_e : ck_ok p2_OL none [] [] 58 [] 114 pl_s259 = true := by decide +kernel
theorem pl_s259_s {X : Int → Int} {LX : Nat} : ck_Ok p2_OL X LX 58 pl_s259 := ck_ok_s ⟨pl_nmu, ck_E0⟩ ck_X0 ck_l0 pl_s259_e
set_option maxRecDepth 100000 in
/-- GlacierMail$Rows.copyFrom -/
def pl_s260 : ck_Sum := ((1, 0, 0), 249, [.inr (.inr (.inl 64)), .inr (.inr (.inl 10))], ([], [], []), ([(64, 3, 3), (65, 0, 167)], []), [(.inr none, 249, ([], [], []))])
set_option maxRecDepth 100000 in
theorem pl_s260_e : ck_ok p2_OL none [] [] 58 [] 114 pl_s260 = true := by decide +kernel
theorem pl_s260_s {X : Int → Int} {LX : Nat} : ck_Ok p2_OL X LX 58 pl_s260 := ck_ok_s ⟨pl_nmu, ck_E0⟩ ck_X0 ck_l0 pl_s260_e
set_option maxRecDepth 100000 in
/-- GlacierMail$Rows.copyFrom -/
def pl_s261 : ck_Sum := ((1, 0, 0), 249, [.inr (.inr (.inl 66)), .inr (.inr (.inl 12))], ([], [], []), ([(66, 3, 3), (67, 0, 35)], []), [(.inr none, 249, ([], [], []))])
set_option maxRecDepth 100000 in
theorem pl_s261_e : ck_ok p2_OL none [] [] 58 [] 114 pl_s261 = true := by decide +kernel
theorem pl_s261_s {X : Int → Int} {LX : Nat} : ck_Ok p2_OL X LX 58 pl_s261 := ck_ok_s ⟨pl_nmu, ck_E0⟩ ck_X0 ck_l0 pl_s261_e
set_option maxRecDepth 100000 in
/-- GlacierMail$Rows.copyFrom -/
def pl_s262 : ck_Sum := ((1, 0, 0), 249, [.inr (.inr (.inl 68)), .inr (.inr (.inl 14))], ([], [], []), ([(68, 3, 3), (69, 0, 71)], []), [(.inr none, 249, ([], [], []))])
set_option maxRecDepth 100000 in
theorem pl_s262_e : ck_ok p2_OL none [] [] 58 [] 114 pl_s262 = true := by decide +kernel
theorem pl_s262_s {X : Int → Int} {LX : Nat} : ck_Ok p2_OL X LX 58 pl_s262 := ck_ok_s ⟨pl_nmu, ck_E0⟩ ck_X0 ck_l0 pl_s262_e
set_option maxRecDepth 100000 in
/-- GlacierMail$State.copyFrom -/
def pl_s263 : ck_Sum := ((2, 0, 0), 249, [.inr (.inr (.inl 57)), .inr (.inr (.inl 3))], ([], [(3, 8, 246), (57, 8, 100057)], [(3, 6, 6, (0, 299, [(10, 0)]))]), (zl90, [(57, 8)]), [(.inr none, 249, ([], [(57, 8, 246)], [(57, 6, 6, (0, 299, [(10, 0)]))]))])
set_option maxRecDepth 100000 in
theorem pl_s263_e : ck_ok p2_OL none [] [(58, [pl_s257, pl_s258, pl_s259, pl_s260, pl_s261, pl_s262])] 57 [] 204 pl_s263 = true := by decide +kernel
theorem pl_s263_s {X : Int → Int} {LX : Nat} : ck_Ok p2_OL X LX 57 pl_s263 := ck_ok_s ⟨pl_nmu, ck_E1 (ck_S1 pl_s257_s (ck_S1 pl_s258_s (ck_S1 pl_s259_s (ck_S1 pl_s260_s (ck_S1 pl_s261_s (ck_S1 pl_s262_s ck_S0)))))) ck_E0⟩ ck_X0 ck_l0 pl_s263_e
set_option maxRecDepth 100000 in
/-- GlacierMail$Rows.copyFrom -/
def pl_s264 : ck_Sum := ((1, 0, 0), 249, [.inr (.inr (.inl 71)), .inr (.inr (.inl 4))], ([], [], []), ([(71, 3, 3), (72, 0, 55)], []), [(.inr none, 249, ([], [], []))])
set_option maxRecDepth 100000 in
theorem pl_s264_e : ck_ok p2_OL none [] [] 58 [] 114 pl_s264 = true := by decide +kernel
theorem pl_s264_s {X : Int → Int} {LX : Nat} : ck_Ok p2_OL X LX 58 pl_s264 := ck_ok_s ⟨pl_nmu, ck_E0⟩ ck_X0 ck_l0 pl_s264_e
set_option maxRecDepth 100000 in
/-- GlacierMail$Rows.copyFrom -/
def pl_s265 : ck_Sum := ((1, 0, 0), 249, [.inr (.inr (.inl 73)), .inr (.inr (.inl 6))], ([], [], []), ([(73, 3, 3), (74, 0, 23)], []), [(.inr none, 249, ([], [], []))])
set_option maxRecDepth 100000 in
theorem pl_s265_e : ck_ok p2_OL none [] [] 58 [] 114 pl_s265 = true := by decide +kernel
theorem pl_s265_s {X : Int → Int} {LX : Nat} : ck_Ok p2_OL X LX 58 pl_s265 := ck_ok_s ⟨pl_nmu, ck_E0⟩ ck_X0 ck_l0 pl_s265_e
set_option maxRecDepth 100000 in
/-- GlacierMail$Rows.copyFrom -/
def pl_s266 : ck_Sum := ((1, 0, 0), 249, [.inr (.inr (.inl 75)), .inr (.inr (.inl 8))], ([], [], []), ([(75, 3, 3), (76, 0, 23)], []), [(.inr none, 249, ([], [], []))])
set_option maxRecDepth 100000 in
theorem pl_s266_e : ck_ok p2_OL none [] [] 58 [] 114 pl_s266 = true := by decide +kernel
theorem pl_s266_s {X : Int → Int} {LX : Nat} : ck_Ok p2_OL X LX 58 pl_s266 := ck_ok_s ⟨pl_nmu, ck_E0⟩ ck_X0 ck_l0 pl_s266_e
set_option maxRecDepth 100000 in
/-- GlacierMail$Rows.copyFrom -/
def pl_s267 : ck_Sum := ((1, 0, 0), 249, [.inr (.inr (.inl 77)), .inr (.inr (.inl 10))], ([], [], []), ([(77, 3, 3), (78, 0, 167)], []), [(.inr none, 249, ([], [], []))])
set_option maxRecDepth 100000 in
theorem pl_s267_e : ck_ok p2_OL none [] [] 58 [] 114 pl_s267 = true := by decide +kernel
theorem pl_s267_s {X : Int → Int} {LX : Nat} : ck_Ok p2_OL X LX 58 pl_s267 := ck_ok_s ⟨pl_nmu, ck_E0⟩ ck_X0 ck_l0 pl_s267_e
set_option maxRecDepth 100000 in
/-- GlacierMail$Rows.copyFrom -/
def pl_s268 : ck_Sum := ((1, 0, 0), 249, [.inr (.inr (.inl 79)), .inr (.inr (.inl 12))], ([], [], []), ([(79, 3, 3), (80, 0, 35)], []), [(.inr none, 249, ([], [], []))])
set_option maxRecDepth 100000 in
theorem pl_s268_e : ck_ok p2_OL none [] [] 58 [] 114 pl_s268 = true := by decide +kernel
theorem pl_s268_s {X : Int → Int} {LX : Nat} : ck_Ok p2_OL X LX 58 pl_s268 := ck_ok_s ⟨pl_nmu, ck_E0⟩ ck_X0 ck_l0 pl_s268_e
set_option maxRecDepth 100000 in
/-- GlacierMail$Rows.copyFrom -/
def pl_s269 : ck_Sum := ((1, 0, 0), 249, [.inr (.inr (.inl 81)), .inr (.inr (.inl 14))], ([], [], []), ([(81, 3, 3), (82, 0, 71)], []), [(.inr none, 249, ([], [], []))])
set_option maxRecDepth 100000 in
theorem pl_s269_e : ck_ok p2_OL none [] [] 58 [] 114 pl_s269 = true := by decide +kernel
theorem pl_s269_s {X : Int → Int} {LX : Nat} : ck_Ok p2_OL X LX 58 pl_s269 := ck_ok_s ⟨pl_nmu, ck_E0⟩ ck_X0 ck_l0 pl_s269_e
set_option maxRecDepth 100000 in
/-- GlacierMail$State.copyFrom -/
def pl_s270 : ck_Sum := ((2, 0, 0), 249, [.inr (.inr (.inl 70)), .inr (.inr (.inl 3))], ([], [(3, 8, 246), (70, 8, 100070)], [(3, 6, 6, (0, 299, [(10, 0)]))]), (zl91, [(70, 8)]), [(.inr none, 249, ([], [(70, 8, 246)], [(70, 6, 6, (0, 299, [(10, 0)]))]))])
set_option maxRecDepth 100000 in
theorem pl_s270_e : ck_ok p2_OL none [] [(58, [pl_s264, pl_s265, pl_s266, pl_s267, pl_s268, pl_s269])] 57 [] 204 pl_s270 = true := by decide +kernel
theorem pl_s270_s {X : Int → Int} {LX : Nat} : ck_Ok p2_OL X LX 57 pl_s270 := ck_ok_s ⟨pl_nmu, ck_E1 (ck_S1 pl_s264_s (ck_S1 pl_s265_s (ck_S1 pl_s266_s (ck_S1 pl_s267_s (ck_S1 pl_s268_s (ck_S1 pl_s269_s ck_S0)))))) ck_E0⟩ ck_X0 ck_l0 pl_s270_e
end
