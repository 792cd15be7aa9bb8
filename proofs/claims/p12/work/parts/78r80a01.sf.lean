/-! 78r80a01.sf -/
section
/-! EVERY CALL ENDS, whatever was done before (laid by wip/am/p2k.py). -/
set_option maxRecDepth 100000 in
/-- GlacierMail$Rows.put -/
noncomputable def p2_s90 : ck_Sum := ((0, 0, 0), 245, [.inr (.inr (.inl 19)), .inl (ck_one (-1)), .inl (ck_one 0), .inl (0, 299, [])], ([], [], []), ([], []), [(.inr none, 245, ([], [], []))])
set_option maxRecDepth 100000 in
theorem p2_s90_s {X : Int → Int} {LX : Nat} : ck_Ok p2_O X LX 45 p2_s90 := ck_okq (cuts := []) (f := 76) ⟨p2_nmu, ck_E0⟩ (by decide +kernel)
set_option maxRecDepth 100000 in
/-- GlacierMail$Rows.put -/
noncomputable def p2_s91 : ck_Sum := ((0, 0, 0), 245, [.inr (.inr (.inl 19)), .inl (ck_one (-1)), .inl (ck_one 1), .inl (0, 98, [])], ([], [], []), ([], []), [(.inr none, 245, ([], [], []))])
set_option maxRecDepth 100000 in
theorem p2_s91_s {X : Int → Int} {LX : Nat} : ck_Ok p2_O X LX 45 p2_s91 := ck_okq (cuts := []) (f := 76) ⟨p2_nmu, ck_E0⟩ (by decide +kernel)
set_option maxRecDepth 100000 in
/-- GlacierMail$Rows.put -/
noncomputable def p2_s92 : ck_Sum := ((0, 0, 0), 245, [.inr (.inr (.inl 19)), .inl (ck_one (-1)), .inl (ck_one 2), .inl (1, 20, [])], ([], [], []), ([], []), [(.inr none, 245, ([], [], []))])
set_option maxRecDepth 100000 in
theorem p2_s92_s {X : Int → Int} {LX : Nat} : ck_Ok p2_O X LX 45 p2_s92 := ck_okq (cuts := []) (f := 76) ⟨p2_nmu, ck_E0⟩ (by decide +kernel)
set_option maxRecDepth 100000 in
/-- GlacierMail$ValleyReader.readFlood -/
noncomputable def p2_s93 : ck_Sum := ((4, 0, 0), 245, [.inr (.inr (.inl 213))], ([], [], [(214, 3, 3, (0, 400, [(12, 0)]))]), ([(19, 3, 3), (20, 0, 23), (214, 3, 7)], []), [(.inr (some (.inl (ck_one 0))), 245, ([], [], zl21)), (.inr (some (.inl (ck_one 1))), 245, ([], [], zl30))])
set_option maxRecDepth 100000 in
theorem p2_s93_s {X : Int → Int} {LX : Nat} : ck_Ok p2_O X LX 115 p2_s93 := ck_okq (cuts := []) (f := 194) ⟨p2_nmu, ck_E1 (ck_S1 p2_s83_s ck_S0) (ck_E1 (ck_S1 p2_s26_s ck_S0) (ck_E1 (ck_S1 p2_s84_s (ck_S1 p2_s85_s ck_S0)) (ck_E1 (ck_S1 p2_s52_s ck_S0) (ck_E1 (ck_S1 p2_s86_s ck_S0) (ck_E1 (ck_S1 p2_s87_s (ck_S1 p2_s88_s (ck_S1 p2_s89_s (ck_S1 p2_s90_s (ck_S1 p2_s91_s (ck_S1 p2_s92_s ck_S0)))))) (ck_E1 (ck_S1 p2_s28_s ck_S0) ck_E0))))))⟩ (by decide +kernel)
set_option maxRecDepth 100000 in
/-- GlacierMail$Words.needNumber -/
noncomputable def p2_s94 : ck_Sum := ((2, 0, 0), 245, [.inr (.inr (.inl 214)), .inl (ck_one 0), .inl (ck_one 9999)], ([], [], [(214, 3, 3, (0, 400, [(12, 0)]))]), ([(214, 3, 7)], []), [(.inr (some (.inl (ck_one (-1)))), 245, ([], [], zl7)), (.inr (some (.inl (0, 9999, []))), 245, ([], [], [(214, 3, 3, (0, 400, [(1000012, 0)]))]))])
set_option maxRecDepth 100000 in
theorem p2_s94_s {X : Int → Int} {LX : Nat} : ck_Ok p2_O X LX 94 p2_s94 := ck_okq (cuts := []) (f := 106) ⟨p2_nmu, ck_E1 (ck_S1 p2_s28_s ck_S0) (ck_E1 (ck_S1 p2_s26_s ck_S0) ck_E0)⟩ (by decide +kernel)
set_option maxRecDepth 100000 in
/-- GlacierMail$ValleyReader.readSeed -/
noncomputable def p2_s95 : ck_Sum := ((3, 0, 0), 245, [.inr (.inr (.inl 213))], ([], [], [(214, 3, 3, (0, 400, [(12, 0)]))]), ([(16, 5, 5), (214, 3, 7)], []), zl31)
set_option maxRecDepth 100000 in
theorem p2_s95_s {X : Int → Int} {LX : Nat} : ck_Ok p2_O X LX 114 p2_s95 := ck_okq (cuts := []) (f := 106) ⟨p2_nmu, ck_E1 (ck_S1 p2_s26_s ck_S0) (ck_E1 (ck_S1 p2_s94_s ck_S0) ck_E0)⟩ (by decide +kernel)
set_option maxRecDepth 100000 in
/-- GlacierMail$Words.needNumber -/
noncomputable def p2_s96 : ck_Sum := ((2, 0, 0), 245, [.inr (.inr (.inl 214)), .inl (ck_one 0), .inl (1, 6, [])], ([], [], [(214, 3, 3, (0, 400, [(12, 0)]))]), ([(214, 3, 7)], []), [(.inr (some (.inl (ck_one (-1)))), 245, ([], [], zl7)), (.inr (some (.inl (0, 6, []))), 245, ([], [], [(214, 3, 3, (0, 400, [(1000012, 0)]))]))])
set_option maxRecDepth 100000 in
theorem p2_s96_s {X : Int → Int} {LX : Nat} : ck_Ok p2_O X LX 94 p2_s96 := ck_okq (cuts := []) (f := 106) ⟨p2_nmu, ck_E1 (ck_S1 p2_s28_s ck_S0) (ck_E1 (ck_S1 p2_s26_s ck_S0) ck_E0)⟩ (by decide +kernel)
set_option maxRecDepth 100000 in
/-- GlacierMail$ValleyReader.readStripe -/
noncomputable def p2_s97 : ck_Sum := ((3, 0, 0), 245, [.inr (.inr (.inl 213))], ([], [], [(214, 3, 3, (0, 400, [(12, 0)]))]), ([(16, 4, 4), (214, 3, 7)], []), zl31)
set_option maxRecDepth 100000 in
theorem p2_s97_s {X : Int → Int} {LX : Nat} : ck_Ok p2_O X LX 113 p2_s97 := ck_okq (cuts := []) (f := 110) ⟨p2_nmu, ck_E1 (ck_S1 p2_s26_s ck_S0) (ck_E1 (ck_S1 p2_s96_s ck_S0) ck_E0)⟩ (by decide +kernel)
set_option maxRecDepth 100000 in
/-- GlacierMail$Words.isWord -/
noncomputable def p2_s98 : ck_Sum := ((6, 0, 0), 245, [.inr (.inr (.inl 214)), .inr (.inr (.inr 21))], ([], [], [(214, 3, 3, (0, 400, [(12, 0)]))]), ([], []), zl4)
set_option maxRecDepth 100000 in
theorem p2_s98_s {X : Int → Int} {LX : Nat} : ck_Ok p2_O X LX 81 p2_s98 := ck_okq (cuts := []) (f := 310) ⟨p2_nmu, ck_E0⟩ (by decide +kernel)
set_option maxRecDepth 100000 in
/-- GlacierMail$Words.takeWord -/
noncomputable def p2_s99 : ck_Sum := ((7, 0, 0), 245, [.inr (.inr (.inl 214)), .inr (.inr (.inr 21))], ([], [], [(214, 3, 3, (0, 400, [(12, 0)]))]), ([(214, 3, 4), (214, 6, 7)], []), [(.inr (some (.inl (ck_one 0))), 245, ([], [], [(214, 3, 3, (0, 400, [(12, 0)]))])), (.inr (some (.inl (ck_one 1))), 245, ([], [], [(214, 3, 3, (4, 400, [(1000012, 0)]))]))])
set_option maxRecDepth 100000 in
theorem p2_s99_s {X : Int → Int} {LX : Nat} : ck_Ok p2_O X LX 95 p2_s99 := ck_okq (cuts := []) (f := 90) ⟨p2_nmu, ck_E1 (ck_S1 p2_s98_s ck_S0) (ck_E1 (ck_S1 p2_s26_s ck_S0) ck_E0)⟩ (by decide +kernel)
set_option maxRecDepth 100000 in
/-- GlacierMail$Words.needWord -/
noncomputable def p2_s100 : ck_Sum := ((8, 0, 0), 245, [.inr (.inr (.inl 214)), .inr (.inr (.inr 21))], ([], [], [(214, 3, 3, (0, 400, [(12, 0)]))]), ([(214, 3, 7)], []), [(.inr (some (.inl (ck_one 0))), 245, ([], [], zl7)), (.inr (some (.inl (ck_one 1))), 245, ([], [], [(214, 3, 3, (4, 400, [(1000012, 0)]))]))])
set_option maxRecDepth 100000 in
theorem p2_s100_s {X : Int → Int} {LX : Nat} : ck_Ok p2_O X LX 112 p2_s100 := ck_okq (cuts := []) (f := 88) ⟨p2_nmu, ck_E1 (ck_S1 p2_s99_s ck_S0) (ck_E1 (ck_S1 p2_s28_s ck_S0) ck_E0)⟩ (by decide +kernel)
set_option maxRecDepth 100000 in
/-- GlacierMail$Words.needNumber -/
noncomputable def p2_s101 : ck_Sum := ((2, 0, 0), 245, [.inr (.inr (.inl 214)), .inl (ck_one 0), .inl (ck_one 9)], ([], [], [(214, 3, 3, (0, 400, [(12, 0)]))]), ([(214, 3, 7)], []), [(.inr (some (.inl (ck_one (-1)))), 245, ([], [], zl7)), (.inr (some (.inl (0, 9, []))), 245, ([], [], [(214, 3, 3, (0, 400, [(1000012, 0)]))]))])
set_option maxRecDepth 100000 in
theorem p2_s101_s {X : Int → Int} {LX : Nat} : ck_Ok p2_O X LX 94 p2_s101 := ck_okq (cuts := []) (f := 106) ⟨p2_nmu, ck_E1 (ck_S1 p2_s28_s ck_S0) (ck_E1 (ck_S1 p2_s26_s ck_S0) ck_E0)⟩ (by decide +kernel)
set_option maxRecDepth 100000 in
/-- GlacierMail$ValleyReader.readSnow -/
noncomputable def p2_s102 : ck_Sum := ((9, 0, 0), 245, [.inr (.inr (.inl 213))], ([], [], [(214, 3, 3, (0, 400, [(12, 0)]))]), ([(16, 2, 3), (214, 3, 7)], []), zl32)
set_option maxRecDepth 100000 in
theorem p2_s102_s {X : Int → Int} {LX : Nat} : ck_Ok p2_O X LX 110 p2_s102 := ck_okq (cuts := []) (f := 136) ⟨p2_nmu, ck_E1 (ck_S1 p2_s26_s ck_S0) (ck_E1 (ck_S1 p2_s52_s ck_S0) (ck_E1 (ck_S1 p2_s100_s ck_S0) (ck_E1 (ck_S1 p2_s101_s ck_S0) ck_E0)))⟩ (by decide +kernel)
set_option maxRecDepth 100000 in
/-- GlacierMail$Rows.isFull -/
noncomputable def p2_s103 : ck_Sum := ((0, 0, 0), 245, [.inr (.inr (.inl 17))], ([], [], []), ([], []), [(.inr (some (.inl (ck_one 0))), 245, ([], [], [(17, 3, 3, (0, 7, []))])), (.inr (some (.inl (ck_one 1))), 245, ([], [], [(17, 3, 3, ck_one 8)]))])
set_option maxRecDepth 100000 in
theorem p2_s103_s {X : Int → Int} {LX : Nat} : ck_Ok p2_O X LX 108 p2_s103 := ck_okq (cuts := []) (f := 86) ⟨p2_nmu, ck_E0⟩ (by decide +kernel)
set_option maxRecDepth 100000 in
/-- GlacierMail$Rows.size -/
noncomputable def p2_s104 : ck_Sum := ((0, 0, 0), 245, [.inr (.inr (.inl 17))], ([], [], []), ([], []), [(.inr (some (.inl (0, 8, []))), 245, ([], [], []))])
set_option maxRecDepth 100000 in
theorem p2_s104_s {X : Int → Int} {LX : Nat} : ck_Ok p2_O X LX 9 p2_s104 := ck_okq (cuts := []) (f := 76) ⟨p2_nmu, ck_E0⟩ (by decide +kernel)
set_option maxRecDepth 100000 in
/-- GlacierMail$Rows.get -/
noncomputable def p2_s105 : ck_Sum := ((0, 0, 0), 245, [.inr (.inr (.inl 17)), .inl ((-2147483648), 2147483647, []), .inl ((-2147483648), 2147483647, [])], ([], [], []), ([], []), [(.inr (some (.inl (ck_one (-1)))), 245, ([], [], [])), (.inr (some (.inl (0, 98, []))), 245, ([], [], [(17, 3, 3, (1, 8, []))]))])
set_option maxRecDepth 100000 in
theorem p2_s105_s {X : Int → Int} {LX : Nat} : ck_Ok p2_O X LX 10 p2_s105 := ck_okq (cuts := []) (f := 114) ⟨p2_nmu, ck_E0⟩ (by decide +kernel)
set_option maxRecDepth 100000 in
/-- GlacierMail$Words.needNumber -/
noncomputable def p2_s106 : ck_Sum := ((2, 0, 0), 245, [.inr (.inr (.inl 214)), .inl (ck_one 0), .inl (ck_one 0)], ([], [], [(214, 3, 3, (0, 400, [(12, 0)]))]), ([(214, 3, 7)], []), [(.inr (some (.inl (ck_one (-1)))), 245, ([], [], zl7)), (.inr (some (.inl (ck_one 0))), 245, ([], [], [(214, 3, 3, (0, 400, [(1000012, 0)]))]))])
set_option maxRecDepth 100000 in
theorem p2_s106_s {X : Int → Int} {LX : Nat} : ck_Ok p2_O X LX 94 p2_s106 := ck_okq (cuts := []) (f := 106) ⟨p2_nmu, ck_E1 (ck_S1 p2_s28_s ck_S0) (ck_E1 (ck_S1 p2_s26_s ck_S0) ck_E0)⟩ (by decide +kernel)
set_option maxRecDepth 100000 in
/-- GlacierMail$Words.needNumber -/
noncomputable def p2_s107 : ck_Sum := ((2, 0, 0), 245, [.inr (.inr (.inl 214)), .inl (1, 99, []), .inl (9, 98, [])], ([], [], [(214, 3, 3, (0, 400, [(12, 0)]))]), ([(214, 3, 7)], []), [(.inr (some (.inl (ck_one (-1)))), 245, ([], [], zl7)), (.inr (some (.inl (1, 98, []))), 245, ([], [], [(214, 3, 3, (0, 400, [(1000012, 0)]))]))])
set_option maxRecDepth 100000 in
theorem p2_s107_s {X : Int → Int} {LX : Nat} : ck_Ok p2_O X LX 94 p2_s107 := ck_okq (cuts := []) (f := 106) ⟨p2_nmu, ck_E1 (ck_S1 p2_s28_s ck_S0) (ck_E1 (ck_S1 p2_s26_s ck_S0) ck_E0)⟩ (by decide +kernel)
set_option maxRecDepth 100000 in
/-- GlacierMail$Words.needNumber -/
noncomputable def p2_s108 : ck_Sum := ((1, 0, 0), 245, [.inr (.inr (.inl 214)), .inl (1, 99, []), .inl (ck_one 0)], ([], [], []), ([(214, 5, 5)], []), [(.inr (some (.inl (ck_one (-1)))), 245, ([], [], [(214, 5, 5, (0, 400, []))]))])
set_option maxRecDepth 100000 in
theorem p2_s108_s {X : Int → Int} {LX : Nat} : ck_Ok p2_O X LX 94 p2_s108 := ck_okq (cuts := []) (f := 106) ⟨p2_nmu, ck_E1 (ck_S1 p2_s28_s ck_S0) ck_E0⟩ (by decide +kernel)
set_option maxRecDepth 100000 in
/-- GlacierMail$Rows.add -/
noncomputable def p2_s109 : ck_Sum := ((0, 0, 0), 245, [.inr (.inr (.inl 17))], ([], [], []), ([(17, 3, 3)], []), [(.inr (some (.inl (0, 7, []))), 245, ([], [], [(17, 3, 3, (1, 8, []))])), (.inr (some (.inl (ck_one (-1)))), 245, ([], [], [(17, 3, 3, ck_one 8)]))])
set_option maxRecDepth 100000 in
theorem p2_s109_s {X : Int → Int} {LX : Nat} : ck_Ok p2_O X LX 102 p2_s109 := ck_okq (cuts := []) (f := 102) ⟨p2_nmu, ck_E0⟩ (by decide +kernel)
set_option maxRecDepth 100000 in
/-- GlacierMail$Rows.put -/
noncomputable def p2_s110 : ck_Sum := ((0, 0, 0), 245, [.inr (.inr (.inl 17)), .inl (0, 7, []), .inl (ck_one 0), .inl (0, 98, [])], ([], [], []), (zl33, []), [(.inr none, 245, ([], [], []))])
set_option maxRecDepth 100000 in
theorem p2_s110_s {X : Int → Int} {LX : Nat} : ck_Ok p2_O X LX 45 p2_s110 := ck_okq (cuts := []) (f := 116) ⟨p2_nmu, ck_E0⟩ (by decide +kernel)
set_option maxRecDepth 100000 in
/-- GlacierMail$Rows.put -/
noncomputable def p2_s111 : ck_Sum := ((0, 0, 0), 245, [.inr (.inr (.inl 17)), .inl (ck_one (-1)), .inl (ck_one 0), .inl (0, 98, [])], ([], [], []), ([], []), [(.inr none, 245, ([], [], []))])
set_option maxRecDepth 100000 in
theorem p2_s111_s {X : Int → Int} {LX : Nat} : ck_Ok p2_O X LX 45 p2_s111 := ck_okq (cuts := []) (f := 76) ⟨p2_nmu, ck_E0⟩ (by decide +kernel)
set_option maxRecDepth 100000 in
/-- GlacierMail$Rows.put -/
noncomputable def p2_s112 : ck_Sum := ((0, 0, 0), 245, [.inr (.inr (.inl 17)), .inl (0, 7, []), .inl (ck_one 0), .inl (ck_one 0)], ([], [], []), (zl33, []), [(.inr none, 245, ([], [], []))])
set_option maxRecDepth 100000 in
theorem p2_s112_s {X : Int → Int} {LX : Nat} : ck_Ok p2_O X LX 45 p2_s112 := ck_okq (cuts := []) (f := 116) ⟨p2_nmu, ck_E0⟩ (by decide +kernel)
set_option maxRecDepth 100000 in
/-- GlacierMail$Rows.put -/
noncomputable def p2_s113 : ck_Sum := ((0, 0, 0), 245, [.inr (.inr (.inl 17)), .inl (ck_one (-1)), .inl (ck_one 0), .inl (ck_one 0)], ([], [], []), ([], []), [(.inr none, 245, ([], [], []))])
set_option maxRecDepth 100000 in
theorem p2_s113_s {X : Int → Int} {LX : Nat} : ck_Ok p2_O X LX 45 p2_s113 := ck_okq (cuts := []) (f := 76) ⟨p2_nmu, ck_E0⟩ (by decide +kernel)
set_option maxRecDepth 100000 in
/-- GlacierMail$Rows.put -/
noncomputable def p2_s114 : ck_Sum := ((0, 0, 0), 245, [.inr (.inr (.inl 17)), .inl (0, 7, []), .inl (ck_one 0), .inl (1, 98, [])], ([], [], []), (zl33, []), [(.inr none, 245, ([], [], []))])
set_option maxRecDepth 100000 in
theorem p2_s114_s {X : Int → Int} {LX : Nat} : ck_Ok p2_O X LX 45 p2_s114 := ck_okq (cuts := []) (f := 116) ⟨p2_nmu, ck_E0⟩ (by decide +kernel)
set_option maxRecDepth 100000 in
/-- GlacierMail$Rows.put -/
noncomputable def p2_s115 : ck_Sum := ((0, 0, 0), 245, [.inr (.inr (.inl 17)), .inl (ck_one (-1)), .inl (ck_one 0), .inl (1, 98, [])], ([], [], []), ([], []), [(.inr none, 245, ([], [], []))])
set_option maxRecDepth 100000 in
theorem p2_s115_s {X : Int → Int} {LX : Nat} : ck_Ok p2_O X LX 45 p2_s115 := ck_okq (cuts := []) (f := 76) ⟨p2_nmu, ck_E0⟩ (by decide +kernel)
set_option maxRecDepth 100000 in
/-- GlacierMail$Rows.put -/
noncomputable def p2_s116 : ck_Sum := ((0, 0, 0), 245, [.inr (.inr (.inl 17)), .inl (0, 7, []), .inl (1, 6, []), .inl (0, 20, [])], ([], [], []), (zl34, []), [(.inr none, 245, ([], [], []))])
set_option maxRecDepth 100000 in
theorem p2_s116_s {X : Int → Int} {LX : Nat} : ck_Ok p2_O X LX 45 p2_s116 := ck_okq (cuts := []) (f := 116) ⟨p2_nmu, ck_E0⟩ (by decide +kernel)
set_option maxRecDepth 100000 in
/-- GlacierMail$ValleyReader.readSpeeds -/
noncomputable def p2_s117 : ck_Sum := ((3, 0, 0), 245, [.inr (.inr (.inl 213)), .inr (.inr (.inl 17)), .inl (0, 7, []), .inl (ck_one 1)], ([], [], [(214, 3, 3, (0, 400, [(12, 0)]))]), (zl35, []), zl8)
set_option maxRecDepth 100000 in
theorem p2_s117_s {X : Int → Int} {LX : Nat} : ck_Ok p2_O X LX 109 p2_s117 := ck_okq (cuts := [(3, [some (.inr (.inr (.inl 213))), some (.inr (.inr (.inl 17))), some (.inl (0, 7, [])), some (.inl (ck_one 1)), some (.inl (0, 6, [])), none], ([], [], [(214, 3, 3, (0, 400, [(1000012, 0)]))]), 100, .inl 4, true)]) (f := 186) ⟨p2_nmu, ck_E1 (ck_S1 p2_s42_s ck_S0) (ck_E1 (ck_S1 p2_s116_s ck_S0) ck_E0)⟩ (by decide +kernel)
set_option maxRecDepth 100000 in
/-- GlacierMail$Rows.put -/
noncomputable def p2_s118 : ck_Sum := ((0, 0, 0), 245, [.inr (.inr (.inl 17)), .inl (ck_one (-1)), .inl (1, 6, []), .inl (0, 20, [])], ([], [], []), ([], []), [(.inr none, 245, ([], [], []))])
set_option maxRecDepth 100000 in
theorem p2_s118_s {X : Int → Int} {LX : Nat} : ck_Ok p2_O X LX 45 p2_s118 := ck_okq (cuts := []) (f := 76) ⟨p2_nmu, ck_E0⟩ (by decide +kernel)
set_option maxRecDepth 100000 in
/-- GlacierMail$ValleyReader.readSpeeds -/
noncomputable def p2_s119 : ck_Sum := ((3, 0, 0), 245, [.inr (.inr (.inl 213)), .inr (.inr (.inl 17)), .inl (ck_one (-1)), .inl (ck_one 1)], ([], [], [(214, 3, 3, (0, 400, [(12, 0)]))]), ([(214, 3, 7)], []), zl8)
set_option maxRecDepth 100000 in
theorem p2_s119_s {X : Int → Int} {LX : Nat} : ck_Ok p2_O X LX 109 p2_s119 := ck_okq (cuts := [(3, [some (.inr (.inr (.inl 213))), some (.inr (.inr (.inl 17))), some (.inl (ck_one (-1))), some (.inl (ck_one 1)), some (.inl (0, 6, [])), none], ([], [], [(214, 3, 3, (0, 400, [(1000012, 0)]))]), 100, .inl 4, true)]) (f := 186) ⟨p2_nmu, ck_E1 (ck_S1 p2_s42_s ck_S0) (ck_E1 (ck_S1 p2_s118_s ck_S0) ck_E0)⟩ (by decide +kernel)
set_option maxRecDepth 100000 in
/-- GlacierMail$ValleyReader.readSection -/
noncomputable def p2_s120 : ck_Sum := ((4, 0, 0), 245, [.inr (.inr (.inl 213))], ([], [], [(214, 3, 3, (0, 400, [(12, 0)]))]), ([(17, 3, 3), (18, 0, 55), (214, 3, 7)], []), [(.inr (some (.inl (ck_one 0))), 245, ([], [], zl21)), (.inr (some (.inl (ck_one 1))), 245, ([], [], zl36))])
set_option maxRecDepth 100000 in
theorem p2_s120_s {X : Int → Int} {LX : Nat} : ck_Ok p2_O X LX 107 p2_s120 := ck_okq (cuts := []) (f := 188) ⟨p2_nmu, ck_E1 (ck_S1 p2_s103_s ck_S0) (ck_E1 (ck_S1 p2_s26_s ck_S0) (ck_E1 (ck_S1 p2_s104_s ck_S0) (ck_E1 (ck_S1 p2_s105_s ck_S0) (ck_E1 (ck_S1 p2_s51_s (ck_S1 p2_s106_s (ck_S1 p2_s107_s (ck_S1 p2_s108_s ck_S0)))) (ck_E1 (ck_S1 p2_s109_s ck_S0) (ck_E1 (ck_S1 p2_s110_s (ck_S1 p2_s111_s (ck_S1 p2_s112_s (ck_S1 p2_s113_s (ck_S1 p2_s114_s (ck_S1 p2_s115_s ck_S0)))))) (ck_E1 (ck_S1 p2_s117_s (ck_S1 p2_s119_s ck_S0)) (ck_E1 (ck_S1 p2_s28_s ck_S0) ck_E0))))))))⟩ (by decide +kernel)
set_option maxRecDepth 100000 in
/-- GlacierMail$Rows.size -/
noncomputable def p2_s121 : ck_Sum := ((0, 0, 0), 245, [.inr (.inr (.inl 19))], ([], [], []), ([], []), [(.inr (some (.inl (0, 8, []))), 245, ([], [], []))])
set_option maxRecDepth 100000 in
theorem p2_s121_s {X : Int → Int} {LX : Nat} : ck_Ok p2_O X LX 9 p2_s121 := ck_okq (cuts := []) (f := 76) ⟨p2_nmu, ck_E0⟩ (by decide +kernel)
set_option maxRecDepth 100000 in
/-- GlacierMail$Rows.size -/
noncomputable def p2_s122 : ck_Sum := ((0, 0, 0), 245, [.inr (.inr (.inl 21))], ([], [], []), ([], []), [(.inr (some (.inl (0, 8, []))), 245, ([], [], []))])
set_option maxRecDepth 100000 in
theorem p2_s122_s {X : Int → Int} {LX : Nat} : ck_Ok p2_O X LX 9 p2_s122 := ck_okq (cuts := []) (f := 76) ⟨p2_nmu, ck_E0⟩ (by decide +kernel)
set_option maxRecDepth 100000 in
/-- GlacierMail$Rows.size -/
noncomputable def p2_s123 : ck_Sum := ((0, 0, 0), 245, [.inr (.inr (.inl 23))], ([], [], []), ([], []), [(.inr (some (.inl (0, 24, []))), 245, ([], [], []))])
set_option maxRecDepth 100000 in
theorem p2_s123_s {X : Int → Int} {LX : Nat} : ck_Ok p2_O X LX 9 p2_s123 := ck_okq (cuts := []) (f := 76) ⟨p2_nmu, ck_E0⟩ (by decide +kernel)
set_option maxRecDepth 100000 in
/-- GlacierMail$Rows.size -/
noncomputable def p2_s124 : ck_Sum := ((0, 0, 0), 245, [.inr (.inr (.inl 25))], ([], [], []), ([], []), [(.inr (some (.inl (0, 6, []))), 245, ([], [], []))])
set_option maxRecDepth 100000 in
theorem p2_s124_s {X : Int → Int} {LX : Nat} : ck_Ok p2_O X LX 9 p2_s124 := ck_okq (cuts := []) (f := 76) ⟨p2_nmu, ck_E0⟩ (by decide +kernel)
set_option maxRecDepth 100000 in
/-- GlacierMail$State.isEmpty -/
noncomputable def p2_s125 : ck_Sum := ((1, 0, 0), 245, [.inr (.inr (.inl 16))], ([], [], []), ([], []), [(.inr (some (.inl (ck_one 0))), 245, ([], [], [])), (.inr (some (.inl (ck_one 1))), 245, ([], [], []))])
set_option maxRecDepth 100000 in
theorem p2_s125_s {X : Int → Int} {LX : Nat} : ck_Ok p2_O X LX 105 p2_s125 := ck_okq (cuts := []) (f := 116) ⟨p2_nmu, ck_E1 (ck_S1 p2_s104_s (ck_S1 p2_s121_s (ck_S1 p2_s122_s (ck_S1 p2_s123_s (ck_S1 p2_s124_s ck_S0))))) ck_E0⟩ (by decide +kernel)
set_option maxRecDepth 100000 in
/-- GlacierMail$Words.needNumber -/
noncomputable def p2_s126 : ck_Sum := ((2, 0, 0), 245, [.inr (.inr (.inl 214)), .inl (ck_one 10), .inl (ck_one 99)], ([], [], [(214, 3, 3, (0, 400, [(12, 0)]))]), ([(214, 3, 7)], []), [(.inr (some (.inl (ck_one (-1)))), 245, ([], [], zl7)), (.inr (some (.inl (10, 99, []))), 245, ([], [], [(214, 3, 3, (0, 400, [(1000012, 0)]))]))])
set_option maxRecDepth 100000 in
theorem p2_s126_s {X : Int → Int} {LX : Nat} : ck_Ok p2_O X LX 94 p2_s126 := ck_okq (cuts := []) (f := 106) ⟨p2_nmu, ck_E1 (ck_S1 p2_s28_s ck_S0) (ck_E1 (ck_S1 p2_s26_s ck_S0) ck_E0)⟩ (by decide +kernel)
set_option maxRecDepth 100000 in
/-- GlacierMail$ValleyReader.readLast -/
noncomputable def p2_s127 : ck_Sum := ((3, 0, 0), 245, [.inr (.inr (.inl 213))], ([], [], [(214, 3, 3, (0, 400, [(12, 0)]))]), ([(16, 1, 2), (214, 3, 7)], []), [(.inr (some (.inl (ck_one 0))), 245, ([], [], zl21)), (.inr (some (.inl (ck_one 1))), 245, ([], [], zl37))])
set_option maxRecDepth 100000 in
theorem p2_s127_s {X : Int → Int} {LX : Nat} : ck_Ok p2_O X LX 106 p2_s127 := ck_okq (cuts := []) (f := 122) ⟨p2_nmu, ck_E1 (ck_S1 p2_s125_s ck_S0) (ck_E1 (ck_S1 p2_s28_s ck_S0) (ck_E1 (ck_S1 p2_s26_s ck_S0) (ck_E1 (ck_S1 p2_s126_s ck_S0) ck_E0)))⟩ (by decide +kernel)
set_option maxRecDepth 100000 in
/-- GlacierMail$Words.needNumber -/
noncomputable def p2_s128 : ck_Sum := ((2, 0, 0), 245, [.inr (.inr (.inl 214)), .inl (ck_one 1), .inl (ck_one 6)], ([], [], [(214, 3, 3, (0, 400, [(12, 0)]))]), ([(214, 3, 7)], []), [(.inr (some (.inl (ck_one (-1)))), 245, ([], [], zl7)), (.inr (some (.inl (1, 6, []))), 245, ([], [], [(214, 3, 3, (0, 400, [(1000012, 0)]))]))])
set_option maxRecDepth 100000 in
theorem p2_s128_s {X : Int → Int} {LX : Nat} : ck_Ok p2_O X LX 94 p2_s128 := ck_okq (cuts := []) (f := 106) ⟨p2_nmu, ck_E1 (ck_S1 p2_s28_s ck_S0) (ck_E1 (ck_S1 p2_s26_s ck_S0) ck_E0)⟩ (by decide +kernel)
set_option maxRecDepth 100000 in
/-- GlacierMail$ValleyReader.readLanes -/
noncomputable def p2_s129 : ck_Sum := ((3, 0, 0), 245, [.inr (.inr (.inl 213))], ([], [], [(214, 3, 3, (0, 400, [(12, 0)]))]), ([(16, 0, 0), (16, 4, 4), (214, 3, 7)], []), [(.inr (some (.inl (ck_one 0))), 245, ([], [], zl21)), (.inr (some (.inl (ck_one 1))), 245, ([], [], zl38))])
set_option maxRecDepth 100000 in
theorem p2_s129_s {X : Int → Int} {LX : Nat} : ck_Ok p2_O X LX 104 p2_s129 := ck_okq (cuts := []) (f := 122) ⟨p2_nmu, ck_E1 (ck_S1 p2_s125_s ck_S0) (ck_E1 (ck_S1 p2_s28_s ck_S0) (ck_E1 (ck_S1 p2_s26_s ck_S0) (ck_E1 (ck_S1 p2_s128_s ck_S0) ck_E0)))⟩ (by decide +kernel)
set_option maxRecDepth 100000 in
/-- GlacierMail$ValleyReader.readLine -/
noncomputable def p2_s130 : ck_Sum := ((10, 0, 0), 245, [.inr (.inr (.inl 213))], ([], [], [(214, 3, 3, (0, 400, [(12, 0)]))]), (zl39, []), zl32)
set_option maxRecDepth 100000 in
theorem p2_s130_s {X : Int → Int} {LX : Nat} : ck_Ok p2_O X LX 103 p2_s130 := ck_okq (cuts := []) (f := 178) ⟨p2_nmu, ck_E1 (ck_S1 p2_s30_s (ck_S1 p2_s31_s (ck_S1 p2_s32_s (ck_S1 p2_s33_s (ck_S1 p2_s34_s (ck_S1 p2_s35_s (ck_S1 p2_s36_s (ck_S1 p2_s37_s (ck_S1 p2_s38_s (ck_S1 p2_s39_s ck_S0)))))))))) (ck_E1 (ck_S1 p2_s28_s ck_S0) (ck_E1 (ck_S1 p2_s47_s ck_S0) (ck_E1 (ck_S1 p2_s69_s ck_S0) (ck_E1 (ck_S1 p2_s82_s ck_S0) (ck_E1 (ck_S1 p2_s93_s ck_S0) (ck_E1 (ck_S1 p2_s95_s ck_S0) (ck_E1 (ck_S1 p2_s97_s ck_S0) (ck_E1 (ck_S1 p2_s102_s ck_S0) (ck_E1 (ck_S1 p2_s120_s ck_S0) (ck_E1 (ck_S1 p2_s127_s ck_S0) (ck_E1 (ck_S1 p2_s129_s ck_S0) ck_E0)))))))))))⟩ (by decide +kernel)
set_option maxRecDepth 100000 in
/-- GlacierMail$Words.needSign -/
noncomputable def p2_s131 : ck_Sum := ((2, 0, 0), 245, [.inr (.inr (.inl 214)), .inl (ck_one 59)], ([], [], [(214, 3, 3, (0, 400, [(12, 0)]))]), ([(214, 3, 7)], []), [(.inr (some (.inl (ck_one 1))), 245, ([], [], [(214, 3, 3, (0, 400, [(1000012, 0)]))])), (.inr (some (.inl (ck_one 0))), 245, ([], [], zl7))])
set_option maxRecDepth 100000 in
theorem p2_s131_s {X : Int → Int} {LX : Nat} : ck_Ok p2_O X LX 98 p2_s131 := ck_okq (cuts := []) (f := 86) ⟨p2_nmu, ck_E1 (ck_S1 p2_s26_s ck_S0) (ck_E1 (ck_S1 p2_s28_s ck_S0) ck_E0)⟩ (by decide +kernel)
set_option maxRecDepth 100000 in
/-- GlacierMail$TextReader.readText -/
noncomputable def p2_s132 : ck_Sum := ((11, 0, 0), 245, [.inr (.inr (.inl 213)), .inl (0, 400, [])], ([], [], [(214, 3, 3, (0, 400, [(12, 0)]))]), (zl40, []), zl2)
set_option maxRecDepth 100000 in
theorem p2_s132_s {X : Int → Int} {LX : Nat} : ck_Ok p2_O X LX 72 p2_s132 := ck_okq (cuts := [(29, [some (.inr (.inr (.inl 213))), some (.inl (0, 400, [])), some (.inl (0, 23, []))], ([], [], []), 100, .inl 2, true)]) (f := 174) ⟨p2_nmu, ck_E1 (ck_S1 p2_s23_s ck_S0) (ck_E1 (ck_S1 p2_s27_s ck_S0) (ck_E1 (ck_S1 p2_s28_s ck_S0) (ck_E1 (ck_S1 p2_s29_s ck_S0) (ck_E1 (ck_S1 p2_s130_s ck_S0) (ck_E1 (ck_S1 p2_s131_s ck_S0) ck_E0)))))⟩ (by decide +kernel)
set_option maxRecDepth 100000 in
/-- GlacierMail$Ice.reckonHeats -/
noncomputable def p2_s133 : ck_Sum := ((0, 0, 0), 245, [.inr (.inr (.inl 200))], ([], [], []), ([(201, 0, 299)], []), [(.inr none, 245, ([], [], []))])
set_option maxRecDepth 100000 in
theorem p2_s133_s {X : Int → Int} {LX : Nat} : ck_Ok p2_O X LX 6 p2_s133 := ck_okq (cuts := [(10, [some (.inr (.inr (.inl 200))), some (.inl ((-2147483648), 2147483647, [])), some (.inl (0, 300, []))], ([], [], []), 100, .inl 2, true)]) (f := 182) ⟨p2_nmu, ck_E0⟩ (by decide +kernel)
set_option maxRecDepth 100000 in
/-- java/util/Arrays.fill -/
noncomputable def p2_s134 : ck_Sum := ((0, 0, 0), 245, [.inr (.inr (.inl 202)), .inl (ck_one 0)], ([], [], []), ([(202, 0, 593)], []), [(.inr none, 245, ([], [], []))])
set_option maxRecDepth 100000 in
theorem p2_s134_s {X : Int → Int} {LX : Nat} : ck_Ok p2_O X LX 8 p2_s134 := ck_okq (cuts := [(5, [some (.inr (.inr (.inl 202))), some (.inl (ck_one 0)), some (.inl (0, 594, [])), some (.inl (ck_one 594))], ([], [], []), 100, .inl 2, true)]) (f := 130) ⟨p2_nmu, ck_E0⟩ (by decide +kernel)
set_option maxRecDepth 100000 in
/-- GlacierMail$Rows.size -/
noncomputable def p2_s135 : ck_Sum := ((0, 0, 0), 245, [.inr (.inr (.inl 4))], ([], [], []), ([], []), [(.inr (some (.inl (0, 8, []))), 245, ([], [], []))])
set_option maxRecDepth 100000 in
theorem p2_s135_s {X : Int → Int} {LX : Nat} : ck_Ok p2_O X LX 9 p2_s135 := ck_okq (cuts := []) (f := 76) ⟨p2_nmu, ck_E0⟩ (by decide +kernel)
set_option maxRecDepth 100000 in
/-- GlacierMail$Rows.get -/
noncomputable def p2_s136 : ck_Sum := ((0, 0, 0), 245, [.inr (.inr (.inl 4)), .inl ((-2147483648), 2147483647, []), .inl ((-2147483648), 2147483647, [])], ([], [], []), ([], []), [(.inr (some (.inl (ck_one (-1)))), 245, ([], [], [])), (.inr (some (.inl (0, 98, []))), 245, ([], [], [(4, 3, 3, (1, 8, []))]))])
set_option maxRecDepth 100000 in
theorem p2_s136_s {X : Int → Int} {LX : Nat} : ck_Ok p2_O X LX 10 p2_s136 := ck_okq (cuts := []) (f := 114) ⟨p2_nmu, ck_E0⟩ (by decide +kernel)
set_option maxRecDepth 100000 in
/-- GlacierMail$Ice.reckonSpeeds -/
noncomputable def p2_s137 : ck_Sum := ((1, 0, 0), 245, [.inr (.inr (.inl 200))], ([], [], []), ([(202, 0, 593)], []), [(.inr none, 245, ([], [], []))])
set_option maxRecDepth 100000 in
theorem p2_s137_s {X : Int → Int} {LX : Nat} : ck_Ok p2_O X LX 7 p2_s137 := ck_okq (cuts := [(10, [some (.inr (.inr (.inl 200))), some (.inl (0, 9, [])), none, none, none, none], ([], [], []), 100, .inl 1, true), (43, [some (.inr (.inr (.inl 200))), some (.inl (0, 7, [(100, 0)])), some (.inl (0, 98, [])), some (.inl (0, 6, [])), none, none], ([], [], []), 300, .inl 3, true), (79, [some (.inr (.inr (.inl 200))), some (.inl (0, 7, [(100, 0)])), some (.inl (0, 98, [])), some (.inl (0, 5, [(300, 0)])), some (.inl ((-1), 98, [])), some (.inl (0, 99, []))], ([], [], []), 500, .inl 5, true)]) (f := 290) ⟨p2_nmu, ck_E1 (ck_S1 p2_s134_s ck_S0) (ck_E1 (ck_S1 p2_s135_s ck_S0) (ck_E1 (ck_S1 p2_s136_s ck_S0) ck_E0))⟩ (by decide +kernel)
set_option maxRecDepth 100000 in
/-- java/util/Arrays.fill -/
noncomputable def p2_s138 : ck_Sum := ((0, 0, 0), 245, [.inr (.inr (.inl 203)), .inl (ck_one 0)], ([], [], []), ([(203, 0, 299)], []), [(.inr none, 245, ([], [], []))])
set_option maxRecDepth 100000 in
theorem p2_s138_s {X : Int → Int} {LX : Nat} : ck_Ok p2_O X LX 8 p2_s138 := ck_okq (cuts := [(5, [some (.inr (.inr (.inl 203))), some (.inl (ck_one 0)), some (.inl (0, 300, [])), some (.inl (ck_one 300))], ([], [], []), 100, .inl 2, true)]) (f := 130) ⟨p2_nmu, ck_E0⟩ (by decide +kernel)
set_option maxRecDepth 100000 in
/-- GlacierMail$Rows.size -/
noncomputable def p2_s139 : ck_Sum := ((0, 0, 0), 245, [.inr (.inr (.inl 6))], ([], [], []), ([], []), [(.inr (some (.inl (0, 8, []))), 245, ([], [], []))])
set_option maxRecDepth 100000 in
theorem p2_s139_s {X : Int → Int} {LX : Nat} : ck_Ok p2_O X LX 9 p2_s139 := ck_okq (cuts := []) (f := 76) ⟨p2_nmu, ck_E0⟩ (by decide +kernel)
set_option maxRecDepth 100000 in
/-- GlacierMail$Rows.get -/
noncomputable def p2_s140 : ck_Sum := ((0, 0, 0), 245, [.inr (.inr (.inl 6)), .inl ((-2147483648), 2147483647, []), .inl ((-2147483648), 2147483647, [])], ([], [], []), ([], []), [(.inr (some (.inl (ck_one (-1)))), 245, ([], [], [])), (.inr (some (.inl (0, 299, []))), 245, ([], [], [(6, 3, 3, (1, 8, []))]))])
set_option maxRecDepth 100000 in
theorem p2_s140_s {X : Int → Int} {LX : Nat} : ck_Ok p2_O X LX 10 p2_s140 := ck_okq (cuts := []) (f := 114) ⟨p2_nmu, ck_E0⟩ (by decide +kernel)
set_option maxRecDepth 100000 in
/-- GlacierMail$Ice.reckonFloods -/
noncomputable def p2_s141 : ck_Sum := ((1, 0, 0), 245, [.inr (.inr (.inl 200))], ([], [], []), ([(203, 0, 299)], []), [(.inr none, 245, ([], [], []))])
set_option maxRecDepth 100000 in
theorem p2_s141_s {X : Int → Int} {LX : Nat} : ck_Ok p2_O X LX 12 p2_s141 := ck_okq (cuts := [(10, [some (.inr (.inr (.inl 200))), some (.inl (0, 9, [])), none], ([], [], []), 100, .inl 1, true)]) (f := 214) ⟨p2_nmu, ck_E1 (ck_S1 p2_s138_s ck_S0) (ck_E1 (ck_S1 p2_s139_s ck_S0) (ck_E1 (ck_S1 p2_s140_s ck_S0) ck_E0))⟩ (by decide +kernel)
set_option maxRecDepth 100000 in
/-- GlacierMail$Ice.renew -/
noncomputable def p2_s142 : ck_Sum := ((2, 0, 0), 245, [.inr (.inr (.inl 200))], ([], [], []), (zl41, []), [(.inr none, 245, ([], [], [(200, 6, 6, ck_one 1)]))])
set_option maxRecDepth 100000 in
theorem p2_s142_s {X : Int → Int} {LX : Nat} : ck_Ok p2_O X LX 5 p2_s142 := ck_okq (cuts := []) (f := 90) ⟨p2_nmu, ck_E1 (ck_S1 p2_s133_s ck_S0) (ck_E1 (ck_S1 p2_s137_s ck_S0) (ck_E1 (ck_S1 p2_s141_s ck_S0) ck_E0))⟩ (by decide +kernel)
set_option maxRecDepth 100000 in
/-- GlacierMail$History.forget -/
noncomputable def p2_s143 : ck_Sum := ((0, 0, 0), 245, [.inr (.inr (.inl 42))], ([], [], []), ([(42, 2, 2)], []), [(.inr none, 245, ([], [], [(42, 2, 2, ck_one 0)]))])
set_option maxRecDepth 100000 in
theorem p2_s143_s {X : Int → Int} {LX : Nat} : ck_Ok p2_O X LX 62 p2_s143 := ck_okq (cuts := []) (f := 78) ⟨p2_nmu, ck_E0⟩ (by decide +kernel)
set_option maxRecDepth 100000 in
/-- GlacierMail.forgetWays -/
noncomputable def p2_s144 : ck_Sum := ((3, 0, 0), 245, [.inr (.inr (.inl 1))], ([], [], []), (zl42, []), [(.inr none, 245, ([], [], zl43))])
set_option maxRecDepth 100000 in
theorem p2_s144_s {X : Int → Int} {LX : Nat} : ck_Ok p2_O X LX 61 p2_s144 := ck_okq (cuts := []) (f := 90) ⟨p2_nmu, ck_E1 (ck_S1 p2_s142_s ck_S0) (ck_E1 (ck_S1 p2_s143_s ck_S0) ck_E0)⟩ (by decide +kernel)
set_option maxRecDepth 100000 in
/-- GlacierMail.valley -/
noncomputable def p2_s145 : ck_Sum := ((12, 1, 6), 245, [.inr (.inr (.inl 1))], ([], [(3, 8, 0), (16, 8, 100016)], zl44), (zl45, [(3, 8), (16, 8)]), [(.inr (some (.inl ((-2147483648), (-1), []))), 245, ([], [(3, 8, 0), (16, 8, 0)], zl46)), (.inr (some (.inl (0, 2147483647, []))), 245, ([], [(3, 8, 0), (16, 8, 0)], zl47)), (.inl 1, 245, ([], [(3, 8, 0), (16, 8, 0)], zl48)), (.inl 0, 245, ([], [(3, 8, 0), (16, 8, 0)], zl49))])
set_option maxRecDepth 100000 in
theorem p2_s145_s {X : Int → Int} {LX : Nat} : ck_Ok p2_O X LX 71 p2_s145 := ck_okq (cuts := []) (f := 154) ⟨p2_nmu, ck_E1 (ck_S1 p2_s15_s (ck_S1 p2_s22_s ck_S0)) (ck_E1 (ck_S1 p2_s132_s ck_S0) (ck_E1 (ck_S1 p2_s144_s ck_S0) ck_E0))⟩ (by decide +kernel)
set_option maxRecDepth 100000 in
/-- GlacierMailModel.uses -/
noncomputable def p2_s146 : ck_Sum := ((0, 0, 0), 245, [.inr (.inr (.inl 226))], ([], [], [(226, 8, 8, (0, 400, [(7, 0)]))]), ([(226, 0, 0), (226, 8, 10)], []), [(.inr none, 245, ([], [], [(226, 9, 9, ck_one 0), (226, 8, 8, ck_one 0), (226, 10, 10, (0, 400, [(7, 0)])), (226, 0, 0, ck_one 0)]))])
set_option maxRecDepth 100000 in
theorem p2_s146_s {X : Int → Int} {LX : Nat} : ck_Ok p2_O X LX 244 p2_s146 := ck_okq (cuts := []) (f := 98) ⟨p2_nmu, ck_E0⟩ (by decide +kernel)
set_option maxRecDepth 100000 in
/-- GlacierMailModel.isAt -/
noncomputable def p2_s147 : ck_Sum := ((0, 0, 0), 245, [.inr (.inr (.inl 226)), .inl (ck_one 32), .inl (ck_one 32)], ([], [], [(226, 9, 9, (0, 400, [(1, 0)]))]), ([], []), zl50)
set_option maxRecDepth 100000 in
theorem p2_s147_s {X : Int → Int} {LX : Nat} : ck_Ok p2_O X LX 246 p2_s147 := ck_okq (cuts := []) (f := 114) ⟨p2_nmu, ck_E0⟩ (by decide +kernel)
set_option maxRecDepth 100000 in
/-- GlacierMailModel.blanks -/
noncomputable def p2_s148 : ck_Sum := ((1, 0, 0), 245, [.inr (.inr (.inl 226))], ([], [], [(226, 9, 9, (0, 400, [(1, 0)]))]), ([(226, 9, 9), (226, 11, 11)], []), [(.inr none, 245, ([], [], [(226, 11, 11, (0, 400, [(1000001, 0)])), (226, 9, 9, (0, 400, [(1000001, 0)]))]))])
set_option maxRecDepth 100000 in
theorem p2_s148_s {X : Int → Int} {LX : Nat} : ck_Ok p2_O X LX 245 p2_s148 := ck_okq (cuts := [(0, [some (.inr (.inr (.inl 226)))], ([], [], [(226, 9, 9, (0, 400, [(1000001, 0)]))]), 100, .inr (226, 9), true)]) (f := 142) ⟨p2_nmu, ck_E1 (ck_S1 p2_s147_s ck_S0) ck_E0⟩ (by decide +kernel)
set_option maxRecDepth 100000 in
/-- GlacierMailModel.isAt -/
noncomputable def p2_s149 : ck_Sum := ((0, 0, 0), 245, [.inr (.inr (.inl 226)), .inl (ck_one 97), .inl (ck_one 122)], ([], [], [(226, 9, 9, (0, 400, [(1, 0)]))]), ([], []), zl50)
set_option maxRecDepth 100000 in
theorem p2_s149_s {X : Int → Int} {LX : Nat} : ck_Ok p2_O X LX 246 p2_s149 := ck_okq (cuts := []) (f := 114) ⟨p2_nmu, ck_E0⟩ (by decide +kernel)
set_option maxRecDepth 100000 in
/-- GlacierMailModel.letterRow -/
noncomputable def p2_s150 : ck_Sum := ((2, 0, 0), 245, [.inr (.inr (.inl 226))], ([], [], [(226, 9, 9, (0, 400, [(1, 0)]))]), ([(226, 9, 9), (226, 11, 11)], []), [(.inr none, 245, ([], [], zl51))])
set_option maxRecDepth 100000 in
theorem p2_s150_s {X : Int → Int} {LX : Nat} : ck_Ok p2_O X LX 248 p2_s150 := ck_okq (cuts := [(4, [some (.inr (.inr (.inl 226)))], ([], [], [(226, 11, 11, (0, 400, [(1000001, 0)])), (226, 9, 9, (0, 400, [(1000001, 0)]))]), 100, .inr (226, 9), true)]) (f := 142) ⟨p2_nmu, ck_E1 (ck_S1 p2_s148_s ck_S0) (ck_E1 (ck_S1 p2_s149_s ck_S0) ck_E0)⟩ (by decide +kernel)
set_option maxRecDepth 100000 in
/-- GlacierMailModel.isWord -/
noncomputable def p2_s151 : ck_Sum := ((6, 0, 0), 245, [.inr (.inr (.inl 226)), .inr (.inr (.inr 47))], ([], [], [(226, 9, 9, (0, 400, [(1, 0)]))]), ([], []), zl52)
set_option maxRecDepth 100000 in
theorem p2_s151_s {X : Int → Int} {LX : Nat} : ck_Ok p2_O X LX 250 p2_s151 := ck_okq (cuts := []) (f := 332) ⟨p2_nmu, ck_E0⟩ (by decide +kernel)
set_option maxRecDepth 100000 in
/-- GlacierMailModel.isWord -/
noncomputable def p2_s152 : ck_Sum := ((6, 0, 0), 245, [.inr (.inr (.inl 226)), .inr (.inr (.inr 48))], ([], [], [(226, 9, 9, (0, 400, [(1, 0)]))]), ([], []), zl53)
set_option maxRecDepth 100000 in
theorem p2_s152_s {X : Int → Int} {LX : Nat} : ck_Ok p2_O X LX 250 p2_s152 := ck_okq (cuts := []) (f := 288) ⟨p2_nmu, ck_E0⟩ (by decide +kernel)
set_option maxRecDepth 100000 in
/-- GlacierMailModel.isWord -/
noncomputable def p2_s153 : ck_Sum := ((6, 0, 0), 245, [.inr (.inr (.inl 226)), .inr (.inr (.inr 49))], ([], [], [(226, 9, 9, (0, 400, [(1, 0)]))]), ([], []), [(.inr (some (.inl (ck_one 0))), 245, ([], [], [])), (.inr (some (.inl (ck_one 1))), 245, ([], [], [(226, 9, 9, (7, 400, [(1, 0)])), (226, 11, 11, (0, 393, []))]))])
set_option maxRecDepth 100000 in
theorem p2_s153_s {X : Int → Int} {LX : Nat} : ck_Ok p2_O X LX 250 p2_s153 := ck_okq (cuts := []) (f := 420) ⟨p2_nmu, ck_E0⟩ (by decide +kernel)
set_option maxRecDepth 100000 in
/-- GlacierMailModel.isWord -/
noncomputable def p2_s154 : ck_Sum := ((6, 0, 0), 245, [.inr (.inr (.inl 226)), .inr (.inr (.inr 50))], ([], [], [(226, 9, 9, (0, 400, [(1, 0)]))]), ([], []), zl53)
set_option maxRecDepth 100000 in
theorem p2_s154_s {X : Int → Int} {LX : Nat} : ck_Ok p2_O X LX 250 p2_s154 := ck_okq (cuts := []) (f := 288) ⟨p2_nmu, ck_E0⟩ (by decide +kernel)
set_option maxRecDepth 100000 in
/-- GlacierMailModel.isWord -/
noncomputable def p2_s155 : ck_Sum := ((6, 0, 0), 245, [.inr (.inr (.inl 226)), .inr (.inr (.inr 52))], ([], [], [(226, 9, 9, (0, 400, [(1, 0)]))]), ([], []), zl52)
set_option maxRecDepth 100000 in
theorem p2_s155_s {X : Int → Int} {LX : Nat} : ck_Ok p2_O X LX 250 p2_s155 := ck_okq (cuts := []) (f := 332) ⟨p2_nmu, ck_E0⟩ (by decide +kernel)
set_option maxRecDepth 100000 in
/-- GlacierMailModel.isWord -/
noncomputable def p2_s156 : ck_Sum := ((6, 0, 0), 245, [.inr (.inr (.inl 226)), .inr (.inr (.inr 53))], ([], [], [(226, 9, 9, (0, 400, [(1, 0)]))]), ([], []), zl54)
set_option maxRecDepth 100000 in
theorem p2_s156_s {X : Int → Int} {LX : Nat} : ck_Ok p2_O X LX 250 p2_s156 := ck_okq (cuts := []) (f := 376) ⟨p2_nmu, ck_E0⟩ (by decide +kernel)
set_option maxRecDepth 100000 in
/-- GlacierMailModel.isWord -/
noncomputable def p2_s157 : ck_Sum := ((6, 0, 0), 245, [.inr (.inr (.inl 226)), .inr (.inr (.inr 55))], ([], [], [(226, 9, 9, (0, 400, [(1, 0)]))]), ([], []), zl53)
set_option maxRecDepth 100000 in
theorem p2_s157_s {X : Int → Int} {LX : Nat} : ck_Ok p2_O X LX 250 p2_s157 := ck_okq (cuts := []) (f := 288) ⟨p2_nmu, ck_E0⟩ (by decide +kernel)
set_option maxRecDepth 100000 in
/-- GlacierMailModel.isWord -/
noncomputable def p2_s158 : ck_Sum := ((6, 0, 0), 245, [.inr (.inr (.inl 226)), .inr (.inr (.inr 56))], ([], [], [(226, 9, 9, (0, 400, [(1, 0)]))]), ([], []), zl52)
set_option maxRecDepth 100000 in
theorem p2_s158_s {X : Int → Int} {LX : Nat} : ck_Ok p2_O X LX 250 p2_s158 := ck_okq (cuts := []) (f := 332) ⟨p2_nmu, ck_E0⟩ (by decide +kernel)
set_option maxRecDepth 100000 in
/-- GlacierMailModel.isWord -/
noncomputable def p2_s159 : ck_Sum := ((6, 0, 0), 245, [.inr (.inr (.inl 226)), .inr (.inr (.inr 57))], ([], [], [(226, 9, 9, (0, 400, [(1, 0)]))]), ([], []), zl54)
set_option maxRecDepth 100000 in
theorem p2_s159_s {X : Int → Int} {LX : Nat} : ck_Ok p2_O X LX 250 p2_s159 := ck_okq (cuts := []) (f := 376) ⟨p2_nmu, ck_E0⟩ (by decide +kernel)
set_option maxRecDepth 100000 in
/-- GlacierMailModel.isWord -/
noncomputable def p2_s160 : ck_Sum := ((6, 0, 0), 245, [.inr (.inr (.inl 226)), .inr (.inr (.inr 58))], ([], [], [(226, 9, 9, (0, 400, [(1, 0)]))]), ([], []), zl53)
set_option maxRecDepth 100000 in
theorem p2_s160_s {X : Int → Int} {LX : Nat} : ck_Ok p2_O X LX 250 p2_s160 := ck_okq (cuts := []) (f := 288) ⟨p2_nmu, ck_E0⟩ (by decide +kernel)
set_option maxRecDepth 100000 in
/-- GlacierMailModel.isAt -/
noncomputable def p2_s161 : ck_Sum := ((0, 0, 0), 245, [.inr (.inr (.inl 226)), .inl (ck_one 48), .inl (ck_one 57)], ([], [], [(226, 9, 9, (0, 400, [(1, 0)]))]), ([], []), zl50)
set_option maxRecDepth 100000 in
theorem p2_s161_s {X : Int → Int} {LX : Nat} : ck_Ok p2_O X LX 246 p2_s161 := ck_okq (cuts := []) (f := 114) ⟨p2_nmu, ck_E0⟩ (by decide +kernel)
set_option maxRecDepth 100000 in
/-- GlacierMailModel.figures -/
noncomputable def p2_s162 : ck_Sum := ((2, 0, 0), 245, [.inr (.inr (.inl 226)), .inl (ck_one 0), .inl (ck_one 9999), .inl (ck_one 4)], ([], [], [(226, 9, 9, (0, 400, [(1, 0)]))]), ([(226, 9, 9), (226, 11, 11)], []), zl55)
set_option maxRecDepth 100000 in
theorem p2_s162_s {X : Int → Int} {LX : Nat} : ck_Ok p2_O X LX 256 p2_s162 := ck_okq (cuts := [(7, [some (.inr (.inr (.inl 226))), some (.inl (ck_one 0)), some (.inl (ck_one 9999)), some (.inl (ck_one 4)), some (.inl ((-2147483648), 2147483647, []))], ([], [], [(226, 11, 11, (0, 400, [(1000001, 0)])), (226, 9, 9, (0, 400, [(1000001, 0)]))]), 100, .inr (226, 9), true)]) (f := 222) ⟨p2_nmu, ck_E1 (ck_S1 p2_s148_s ck_S0) (ck_E1 (ck_S1 p2_s161_s ck_S0) ck_E0)⟩ (by decide +kernel)
set_option maxRecDepth 100000 in
/-- GlacierMailModel.number -/
noncomputable def p2_s163 : ck_Sum := ((3, 0, 0), 245, [.inr (.inr (.inl 226)), .inl (ck_one 0), .inl (ck_one 9999)], ([], [], [(226, 9, 9, (0, 400, [(1, 0)]))]), ([(226, 9, 9), (226, 11, 11)], []), zl55)
set_option maxRecDepth 100000 in
theorem p2_s163_s {X : Int → Int} {LX : Nat} : ck_Ok p2_O X LX 255 p2_s163 := ck_okq (cuts := []) (f := 82) ⟨p2_nmu, ck_E1 (ck_S1 p2_s162_s ck_S0) ck_E0⟩ (by decide +kernel)
set_option maxRecDepth 100000 in
/-- GlacierMailModel.figures -/
noncomputable def p2_s164 : ck_Sum := ((2, 0, 0), 245, [.inr (.inr (.inl 226)), .inl (ck_one 0), .inl (0, 6, []), .inl (ck_one 4)], ([], [], [(226, 9, 9, (0, 400, [(1, 0)]))]), ([(226, 9, 9), (226, 11, 11)], []), zl56)
set_option maxRecDepth 100000 in
theorem p2_s164_s {X : Int → Int} {LX : Nat} : ck_Ok p2_O X LX 256 p2_s164 := ck_okq (cuts := [(7, [some (.inr (.inr (.inl 226))), some (.inl (ck_one 0)), some (.inl (0, 6, [])), some (.inl (ck_one 4)), some (.inl ((-2147483648), 2147483647, []))], ([], [], [(226, 11, 11, (0, 400, [(1000001, 0)])), (226, 9, 9, (0, 400, [(1000001, 0)]))]), 100, .inr (226, 9), true)]) (f := 222) ⟨p2_nmu, ck_E1 (ck_S1 p2_s148_s ck_S0) (ck_E1 (ck_S1 p2_s161_s ck_S0) ck_E0)⟩ (by decide +kernel)
set_option maxRecDepth 100000 in
/-- GlacierMailModel.number -/
noncomputable def p2_s165 : ck_Sum := ((3, 0, 0), 245, [.inr (.inr (.inl 226)), .inl (ck_one 0), .inl (0, 6, [])], ([], [], [(226, 9, 9, (0, 400, [(1, 0)]))]), ([(226, 9, 9), (226, 11, 11)], []), zl56)
set_option maxRecDepth 100000 in
theorem p2_s165_s {X : Int → Int} {LX : Nat} : ck_Ok p2_O X LX 255 p2_s165 := ck_okq (cuts := []) (f := 82) ⟨p2_nmu, ck_E1 (ck_S1 p2_s164_s ck_S0) ck_E0⟩ (by decide +kernel)
set_option maxRecDepth 100000 in
/-- GlacierMailModel.lanes -/
noncomputable def p2_s166 : ck_Sum := ((0, 0, 0), 245, [.inr (.inr (.inl 226))], ([], [], []), ([], []), [(.inr (some (.inl (0, 6, []))), 245, ([], [], []))])
set_option maxRecDepth 100000 in
theorem p2_s166_s {X : Int → Int} {LX : Nat} : ck_Ok p2_O X LX 261 p2_s166 := ck_okq (cuts := []) (f := 80) ⟨p2_nmu, ck_E0⟩ (by decide +kernel)
set_option maxRecDepth 100000 in
/-- GlacierMailModel.figures -/
noncomputable def p2_s167 : ck_Sum := ((2, 0, 0), 245, [.inr (.inr (.inl 226)), .inl (ck_one 0), .inl (ck_one 20), .inl (ck_one 4)], ([], [], [(226, 9, 9, (0, 400, [(1, 0)]))]), ([(226, 9, 9), (226, 11, 11)], []), zl57)
set_option maxRecDepth 100000 in
theorem p2_s167_s {X : Int → Int} {LX : Nat} : ck_Ok p2_O X LX 256 p2_s167 := ck_okq (cuts := [(7, [some (.inr (.inr (.inl 226))), some (.inl (ck_one 0)), some (.inl (ck_one 20)), some (.inl (ck_one 4)), some (.inl ((-2147483648), 2147483647, []))], ([], [], [(226, 11, 11, (0, 400, [(1000001, 0)])), (226, 9, 9, (0, 400, [(1000001, 0)]))]), 100, .inr (226, 9), true)]) (f := 222) ⟨p2_nmu, ck_E1 (ck_S1 p2_s148_s ck_S0) (ck_E1 (ck_S1 p2_s161_s ck_S0) ck_E0)⟩ (by decide +kernel)
set_option maxRecDepth 100000 in
/-- GlacierMailModel.number -/
noncomputable def p2_s168 : ck_Sum := ((3, 0, 0), 245, [.inr (.inr (.inl 226)), .inl (ck_one 0), .inl (ck_one 20)], ([], [], [(226, 9, 9, (0, 400, [(1, 0)]))]), ([(226, 9, 9), (226, 11, 11)], []), zl57)
set_option maxRecDepth 100000 in
theorem p2_s168_s {X : Int → Int} {LX : Nat} : ck_Ok p2_O X LX 255 p2_s168 := ck_okq (cuts := []) (f := 82) ⟨p2_nmu, ck_E1 (ck_S1 p2_s167_s ck_S0) ck_E0⟩ (by decide +kernel)
set_option maxRecDepth 100000 in
/-- GlacierMailModel.readSpeeds -/
noncomputable def p2_s169 : ck_Sum := ((4, 0, 0), 245, [.inr (.inr (.inl 226)), .inl (ck_one 287)], ([], [], [(226, 9, 9, (0, 400, [(1, 0)]))]), ([(226, 9, 9), (226, 11, 11), (227, 287, 292)], []), zl58)
set_option maxRecDepth 100000 in
theorem p2_s169_s {X : Int → Int} {LX : Nat} : ck_Ok p2_O X LX 260 p2_s169 := ck_okq (cuts := [(2, [some (.inr (.inr (.inl 226))), some (.inl (ck_one 287)), some (.inl (0, 6, [])), none], ([], [], [(226, 9, 9, (0, 400, [(1000001, 0)]))]), 100, .inl 2, true)]) (f := 174) ⟨p2_nmu, ck_E1 (ck_S1 p2_s166_s ck_S0) (ck_E1 (ck_S1 p2_s168_s ck_S0) ck_E0)⟩ (by decide +kernel)
set_option maxRecDepth 100000 in
/-- GlacierMailModel.readSpeeds -/
noncomputable def p2_s170 : ck_Sum := ((4, 0, 0), 245, [.inr (.inr (.inl 226)), .inl (ck_one 317)], ([], [], [(226, 9, 9, (0, 400, [(1, 0)]))]), ([(226, 9, 9), (226, 11, 11), (227, 317, 322)], []), zl58)
set_option maxRecDepth 100000 in
theorem p2_s170_s {X : Int → Int} {LX : Nat} : ck_Ok p2_O X LX 260 p2_s170 := ck_okq (cuts := [(2, [some (.inr (.inr (.inl 226))), some (.inl (ck_one 317)), some (.inl (0, 6, [])), none], ([], [], [(226, 9, 9, (0, 400, [(1000001, 0)]))]), 100, .inl 2, true)]) (f := 174) ⟨p2_nmu, ck_E1 (ck_S1 p2_s166_s ck_S0) (ck_E1 (ck_S1 p2_s168_s ck_S0) ck_E0)⟩ (by decide +kernel)
set_option maxRecDepth 100000 in
/-- GlacierMailModel.readSpeeds -/
noncomputable def p2_s171 : ck_Sum := ((4, 0, 0), 245, [.inr (.inr (.inl 226)), .inl (ck_one 311)], ([], [], [(226, 9, 9, (0, 400, [(1, 0)]))]), ([(226, 9, 9), (226, 11, 11), (227, 311, 316)], []), zl58)
set_option maxRecDepth 100000 in
theorem p2_s171_s {X : Int → Int} {LX : Nat} : ck_Ok p2_O X LX 260 p2_s171 := ck_okq (cuts := [(2, [some (.inr (.inr (.inl 226))), some (.inl (ck_one 311)), some (.inl (0, 6, [])), none], ([], [], [(226, 9, 9, (0, 400, [(1000001, 0)]))]), 100, .inl 2, true)]) (f := 174) ⟨p2_nmu, ck_E1 (ck_S1 p2_s166_s ck_S0) (ck_E1 (ck_S1 p2_s168_s ck_S0) ck_E0)⟩ (by decide +kernel)
set_option maxRecDepth 100000 in
/-- GlacierMailModel.readSpeeds -/
noncomputable def p2_s172 : ck_Sum := ((4, 0, 0), 245, [.inr (.inr (.inl 226)), .inl (ck_one 305)], ([], [], [(226, 9, 9, (0, 400, [(1, 0)]))]), ([(226, 9, 9), (226, 11, 11), (227, 305, 310)], []), zl58)
set_option maxRecDepth 100000 in
theorem p2_s172_s {X : Int → Int} {LX : Nat} : ck_Ok p2_O X LX 260 p2_s172 := ck_okq (cuts := [(2, [some (.inr (.inr (.inl 226))), some (.inl (ck_one 305)), some (.inl (0, 6, [])), none], ([], [], [(226, 9, 9, (0, 400, [(1000001, 0)]))]), 100, .inl 2, true)]) (f := 174) ⟨p2_nmu, ck_E1 (ck_S1 p2_s166_s ck_S0) (ck_E1 (ck_S1 p2_s168_s ck_S0) ck_E0)⟩ (by decide +kernel)
set_option maxRecDepth 100000 in
/-- GlacierMailModel.readSpeeds -/
noncomputable def p2_s173 : ck_Sum := ((4, 0, 0), 245, [.inr (.inr (.inl 226)), .inl (ck_one 299)], ([], [], [(226, 9, 9, (0, 400, [(1, 0)]))]), ([(226, 9, 9), (226, 11, 11), (227, 299, 304)], []), zl58)
set_option maxRecDepth 100000 in
theorem p2_s173_s {X : Int → Int} {LX : Nat} : ck_Ok p2_O X LX 260 p2_s173 := ck_okq (cuts := [(2, [some (.inr (.inr (.inl 226))), some (.inl (ck_one 299)), some (.inl (0, 6, [])), none], ([], [], [(226, 9, 9, (0, 400, [(1000001, 0)]))]), 100, .inl 2, true)]) (f := 174) ⟨p2_nmu, ck_E1 (ck_S1 p2_s166_s ck_S0) (ck_E1 (ck_S1 p2_s168_s ck_S0) ck_E0)⟩ (by decide +kernel)
set_option maxRecDepth 100000 in
/-- GlacierMailModel.readSpeeds -/
noncomputable def p2_s174 : ck_Sum := ((4, 0, 0), 245, [.inr (.inr (.inl 226)), .inl (ck_one 293)], ([], [], [(226, 9, 9, (0, 400, [(1, 0)]))]), ([(226, 9, 9), (226, 11, 11), (227, 293, 298)], []), zl58)
set_option maxRecDepth 100000 in
theorem p2_s174_s {X : Int → Int} {LX : Nat} : ck_Ok p2_O X LX 260 p2_s174 := ck_okq (cuts := [(2, [some (.inr (.inr (.inl 226))), some (.inl (ck_one 293)), some (.inl (0, 6, [])), none], ([], [], [(226, 9, 9, (0, 400, [(1000001, 0)]))]), 100, .inl 2, true)]) (f := 174) ⟨p2_nmu, ck_E1 (ck_S1 p2_s166_s ck_S0) (ck_E1 (ck_S1 p2_s168_s ck_S0) ck_E0)⟩ (by decide +kernel)
set_option maxRecDepth 100000 in
/-- GlacierMailModel.readTable -/
noncomputable def p2_s175 : ck_Sum := ((5, 0, 0), 245, [.inr (.inr (.inl 226))], ([], [], [(227, 6, 6, (0, 6, [(24, 0)])), (226, 9, 9, (0, 400, [(1, 0)]))]), ([(226, 9, 9), (226, 11, 11), (227, 6, 6), (227, 287, 322)], []), [(.inr (some (.inl (ck_one 0))), 245, ([], [], [(227, 6, 6, (0, 6, [(24, 0)])), (226, 9, 9, (0, 400, [(1000001, 0)]))])), (.inr (some (.inl (ck_one 1))), 245, ([], [], [(227, 6, 6, (1, 6, [])), (226, 9, 9, (0, 400, [(1000001, 0)]))]))])
set_option maxRecDepth 100000 in
theorem p2_s175_s {X : Int → Int} {LX : Nat} : ck_Ok p2_O X LX 273 p2_s175 := ck_okq (cuts := []) (f := 122) ⟨p2_nmu, ck_E1 (ck_S1 p2_s169_s (ck_S1 p2_s170_s (ck_S1 p2_s171_s (ck_S1 p2_s172_s (ck_S1 p2_s173_s (ck_S1 p2_s174_s ck_S0)))))) ck_E0⟩ (by decide +kernel)
set_option maxRecDepth 100000 in
/-- GlacierMailModel.letters -/
noncomputable def p2_s176 : ck_Sum := ((0, 0, 0), 245, [.inr (.inr (.inl 226))], ([], [], [(227, 4, 4, (0, 24, [(22, 0)]))]), ([], []), [(.inr (some (.inl (0, 24, [(22, 0)]))), 245, ([], [], []))])
set_option maxRecDepth 100000 in
theorem p2_s176_s {X : Int → Int} {LX : Nat} : ck_Ok p2_O X LX 254 p2_s176 := ck_okq (cuts := []) (f := 80) ⟨p2_nmu, ck_E0⟩ (by decide +kernel)
set_option maxRecDepth 100000 in
/-- GlacierMailModel.figures -/
noncomputable def p2_s177 : ck_Sum := ((2, 0, 0), 245, [.inr (.inr (.inl 226)), .inl (ck_one 0), .inl ((-1), 5, []), .inl (ck_one 4)], ([], [], [(226, 9, 9, (0, 400, [(1, 0)]))]), ([(226, 9, 9), (226, 11, 11)], []), zl59)
set_option maxRecDepth 100000 in
theorem p2_s177_s {X : Int → Int} {LX : Nat} : ck_Ok p2_O X LX 256 p2_s177 := ck_okq (cuts := [(7, [some (.inr (.inr (.inl 226))), some (.inl (ck_one 0)), some (.inl ((-1), 5, [])), some (.inl (ck_one 4)), some (.inl ((-2147483648), 2147483647, []))], ([], [], [(226, 11, 11, (0, 400, [(1000001, 0)])), (226, 9, 9, (0, 400, [(1000001, 0)]))]), 100, .inr (226, 9), true)]) (f := 222) ⟨p2_nmu, ck_E1 (ck_S1 p2_s148_s ck_S0) (ck_E1 (ck_S1 p2_s161_s ck_S0) ck_E0)⟩ (by decide +kernel)
set_option maxRecDepth 100000 in
/-- GlacierMailModel.number -/
noncomputable def p2_s178 : ck_Sum := ((3, 0, 0), 245, [.inr (.inr (.inl 226)), .inl (ck_one 0), .inl ((-1), 5, [])], ([], [], [(226, 9, 9, (0, 400, [(1, 0)]))]), ([(226, 9, 9), (226, 11, 11)], []), zl59)
set_option maxRecDepth 100000 in
theorem p2_s178_s {X : Int → Int} {LX : Nat} : ck_Ok p2_O X LX 255 p2_s178 := ck_okq (cuts := []) (f := 82) ⟨p2_nmu, ck_E1 (ck_S1 p2_s177_s ck_S0) ck_E0⟩ (by decide +kernel)
set_option maxRecDepth 100000 in
/-- GlacierMailModel.laneTold -/
noncomputable def p2_s179 : ck_Sum := ((4, 0, 0), 245, [.inr (.inr (.inl 226))], ([], [], [(226, 9, 9, (0, 400, [(1, 0)]))]), ([(226, 9, 9), (226, 11, 11)], []), zl59)
set_option maxRecDepth 100000 in
theorem p2_s179_s {X : Int → Int} {LX : Nat} : ck_Ok p2_O X LX 268 p2_s179 := ck_okq (cuts := []) (f := 86) ⟨p2_nmu, ck_E1 (ck_S1 p2_s166_s ck_S0) (ck_E1 (ck_S1 p2_s178_s ck_S0) ck_E0)⟩ (by decide +kernel)
end
/-! 78r80a02.sf -/
section
/-! EVERY CALL ENDS, whatever was done before (laid by wip/am/p2k.py). -/
set_option maxRecDepth 100000 in
/-- GlacierMailModel.lip -/
noncomputable def p2_s180 : ck_Sum := ((0, 0, 0), 245, [.inr (.inr (.inl 226))], ([], [], []), ([], []), [(.inr (some (.inl (0, 99, []))), 245, ([], [], []))])
set_option maxRecDepth 100000 in
theorem p2_s180_s {X : Int → Int} {LX : Nat} : ck_Ok p2_O X LX 259 p2_s180 := ck_okq (cuts := []) (f := 80) ⟨p2_nmu, ck_E0⟩ (by decide +kernel)
set_option maxRecDepth 100000 in
/-- GlacierMailModel.figures -/
noncomputable def p2_s181 : ck_Sum := ((2, 0, 0), 245, [.inr (.inr (.inl 226)), .inl (ck_one 0), .inl ((-1), 98, []), .inl (ck_one 4)], ([], [], [(226, 9, 9, (0, 400, [(1, 0)]))]), ([(226, 9, 9), (226, 11, 11)], []), zl60)
set_option maxRecDepth 100000 in
theorem p2_s181_s {X : Int → Int} {LX : Nat} : ck_Ok p2_O X LX 256 p2_s181 := ck_okq (cuts := [(7, [some (.inr (.inr (.inl 226))), some (.inl (ck_one 0)), some (.inl ((-1), 98, [])), some (.inl (ck_one 4)), some (.inl ((-2147483648), 2147483647, []))], ([], [], [(226, 11, 11, (0, 400, [(1000001, 0)])), (226, 9, 9, (0, 400, [(1000001, 0)]))]), 100, .inr (226, 9), true)]) (f := 222) ⟨p2_nmu, ck_E1 (ck_S1 p2_s148_s ck_S0) (ck_E1 (ck_S1 p2_s161_s ck_S0) ck_E0)⟩ (by decide +kernel)
set_option maxRecDepth 100000 in
/-- GlacierMailModel.number -/
noncomputable def p2_s182 : ck_Sum := ((3, 0, 0), 245, [.inr (.inr (.inl 226)), .inl (ck_one 0), .inl ((-1), 98, [])], ([], [], [(226, 9, 9, (0, 400, [(1, 0)]))]), ([(226, 9, 9), (226, 11, 11)], []), zl60)
set_option maxRecDepth 100000 in
theorem p2_s182_s {X : Int → Int} {LX : Nat} : ck_Ok p2_O X LX 255 p2_s182 := ck_okq (cuts := []) (f := 82) ⟨p2_nmu, ck_E1 (ck_S1 p2_s181_s ck_S0) ck_E0⟩ (by decide +kernel)
set_option maxRecDepth 100000 in
/-- GlacierMailModel.rowTold -/
noncomputable def p2_s183 : ck_Sum := ((4, 0, 0), 245, [.inr (.inr (.inl 226))], ([], [], [(226, 9, 9, (0, 400, [(1, 0)]))]), ([(226, 9, 9), (226, 11, 11)], []), zl60)
set_option maxRecDepth 100000 in
theorem p2_s183_s {X : Int → Int} {LX : Nat} : ck_Ok p2_O X LX 263 p2_s183 := ck_okq (cuts := []) (f := 86) ⟨p2_nmu, ck_E1 (ck_S1 p2_s180_s ck_S0) (ck_E1 (ck_S1 p2_s182_s ck_S0) ck_E0)⟩ (by decide +kernel)
/-- GlacierMailModel.throwsIn -/
noncomputable def p2_s184 : ck_Sum := op_ts (-1) (-1) (-1) (-1) 0 5 0 98
theorem p2_s184_s {X : Int → Int} {LX : Nat} : ck_Ok p2_O X LX 271 p2_s184 := op_throw (by decide +kernel) (by decide)
set_option maxRecDepth 100000 in
/-- GlacierMailModel.readRock -/
noncomputable def p2_s185 : ck_Sum := ((5, 0, 0), 245, [.inr (.inr (.inl 226))], ([], [], [(227, 4, 4, (0, 24, [(22, 0)])), (226, 9, 9, (0, 400, [(1, 0)])), (227, 9, 9, (0, 299, [(11, 0)]))]), ([(226, 9, 9), (226, 11, 11), (227, 4, 4), (227, 119, 286)], []), [(.inr (some (.inl (ck_one 0))), 245, ([], [], [(226, 9, 9, (0, 400, [(1000001, 0)])), (227, 4, 4, (0, 24, [(22, 0)]))])), (.inr (some (.inl (ck_one 1))), 245, ([], [], [(227, 4, 4, (1, 24, [(22, 1)])), (226, 9, 9, (0, 400, [(1000001, 0)])), (226, 11, 11, (0, 400, [(1000001, 0)]))]))])
set_option maxRecDepth 100000 in
theorem p2_s185_s {X : Int → Int} {LX : Nat} : ck_Ok p2_O X LX 270 p2_s185 := ck_okq (cuts := []) (f := 120) ⟨p2_nmu, ck_E1 (ck_S1 p2_s176_s ck_S0) (ck_E1 (ck_S1 p2_s179_s ck_S0) (ck_E1 (ck_S1 p2_s183_s ck_S0) (ck_E1 (ck_S1 p2_s184_s ck_S0) ck_E0)))⟩ (by decide +kernel)
set_option maxRecDepth 100000 in
/-- GlacierMailModel.people -/
noncomputable def p2_s186 : ck_Sum := ((0, 0, 0), 245, [.inr (.inr (.inl 226))], ([], [], [(227, 3, 3, (0, 8, [(21, 0)]))]), ([], []), [(.inr (some (.inl (0, 8, [(21, 0)]))), 245, ([], [], []))])
set_option maxRecDepth 100000 in
theorem p2_s186_s {X : Int → Int} {LX : Nat} : ck_Ok p2_O X LX 253 p2_s186 := ck_okq (cuts := []) (f := 80) ⟨p2_nmu, ck_E0⟩ (by decide +kernel)
set_option maxRecDepth 100000 in
/-- GlacierMailModel.isWord -/
noncomputable def p2_s187 : ck_Sum := ((6, 0, 0), 245, [.inr (.inr (.inl 226)), .inr (.inr (.inr 54))], ([], [], [(226, 9, 9, (0, 400, [(1, 0)]))]), ([], []), zl52)
set_option maxRecDepth 100000 in
theorem p2_s187_s {X : Int → Int} {LX : Nat} : ck_Ok p2_O X LX 250 p2_s187 := ck_okq (cuts := []) (f := 332) ⟨p2_nmu, ck_E0⟩ (by decide +kernel)
set_option maxRecDepth 100000 in
/-- GlacierMailModel.isNext -/
noncomputable def p2_s188 : ck_Sum := ((7, 0, 0), 245, [.inr (.inr (.inl 226)), .inr (.inr (.inr 54))], ([], [], [(226, 9, 9, (0, 400, [(1, 0)]))]), ([(226, 9, 9), (226, 11, 11)], []), [(.inr (some (.inl (ck_one 0))), 245, ([], [], zl51)), (.inr (some (.inl (ck_one 1))), 245, ([], [], [(226, 9, 9, (5, 400, [(1000001, 0)])), (226, 11, 11, (0, 395, []))]))])
set_option maxRecDepth 100000 in
theorem p2_s188_s {X : Int → Int} {LX : Nat} : ck_Ok p2_O X LX 269 p2_s188 := ck_okq (cuts := []) (f := 94) ⟨p2_nmu, ck_E1 (ck_S1 p2_s150_s ck_S0) (ck_E1 (ck_S1 p2_s187_s ck_S0) ck_E0)⟩ (by decide +kernel)
set_option maxRecDepth 100000 in
/-- GlacierMailModel.readPerson -/
noncomputable def p2_s189 : ck_Sum := ((8, 0, 0), 245, [.inr (.inr (.inl 226))], ([], [], [(227, 3, 3, (0, 8, [(21, 0)])), (226, 9, 9, (0, 400, [(1, 0)]))]), ([(226, 9, 9), (226, 11, 11), (227, 3, 3), (227, 95, 118)], []), [(.inr (some (.inl (ck_one 0))), 245, ([], [], [(226, 9, 9, (0, 400, [(1000001, 0)])), (227, 3, 3, (0, 8, [(21, 0)]))])), (.inr (some (.inl (ck_one 1))), 245, ([], [], [(227, 3, 3, (1, 8, [])), (226, 9, 9, (0, 400, [(1000001, 0)])), (226, 11, 11, (0, 400, [(1000001, 0)]))]))])
set_option maxRecDepth 100000 in
theorem p2_s189_s {X : Int → Int} {LX : Nat} : ck_Ok p2_O X LX 267 p2_s189 := ck_okq (cuts := []) (f := 192) ⟨p2_nmu, ck_E1 (ck_S1 p2_s186_s ck_S0) (ck_E1 (ck_S1 p2_s179_s ck_S0) (ck_E1 (ck_S1 p2_s183_s ck_S0) (ck_E1 (ck_S1 p2_s188_s ck_S0) ck_E0)))⟩ (by decide +kernel)
set_option maxRecDepth 100000 in
/-- GlacierMailModel.now -/
noncomputable def p2_s190 : ck_Sum := ((0, 0, 0), 245, [.inr (.inr (.inl 226))], ([], [], [(227, 9, 9, (0, 299, [(11, 0)]))]), ([], []), [(.inr (some (.inl (0, 299, [(11, 0)]))), 245, ([], [], []))])
set_option maxRecDepth 100000 in
theorem p2_s190_s {X : Int → Int} {LX : Nat} : ck_Ok p2_O X LX 266 p2_s190 := ck_okq (cuts := []) (f := 80) ⟨p2_nmu, ck_E0⟩ (by decide +kernel)
set_option maxRecDepth 100000 in
/-- GlacierMailModel.figures -/
noncomputable def p2_s191 : ck_Sum := ((2, 0, 0), 245, [.inr (.inr (.inl 226)), .inl (0, 299, []), .inl (ck_one 299), .inl (ck_one 4)], ([], [], [(226, 9, 9, (0, 400, [(1, 0)]))]), ([(226, 9, 9), (226, 11, 11)], []), zl61)
set_option maxRecDepth 100000 in
theorem p2_s191_s {X : Int → Int} {LX : Nat} : ck_Ok p2_O X LX 256 p2_s191 := ck_okq (cuts := [(7, [some (.inr (.inr (.inl 226))), some (.inl (0, 299, [])), some (.inl (ck_one 299)), some (.inl (ck_one 4)), some (.inl ((-2147483648), 2147483647, []))], ([], [], [(226, 11, 11, (0, 400, [(1000001, 0)])), (226, 9, 9, (0, 400, [(1000001, 0)]))]), 100, .inr (226, 9), true)]) (f := 222) ⟨p2_nmu, ck_E1 (ck_S1 p2_s148_s ck_S0) (ck_E1 (ck_S1 p2_s161_s ck_S0) ck_E0)⟩ (by decide +kernel)
set_option maxRecDepth 100000 in
/-- GlacierMailModel.number -/
noncomputable def p2_s192 : ck_Sum := ((3, 0, 0), 245, [.inr (.inr (.inl 226)), .inl (0, 299, []), .inl (ck_one 299)], ([], [], [(226, 9, 9, (0, 400, [(1, 0)]))]), ([(226, 9, 9), (226, 11, 11)], []), zl61)
set_option maxRecDepth 100000 in
theorem p2_s192_s {X : Int → Int} {LX : Nat} : ck_Ok p2_O X LX 255 p2_s192 := ck_okq (cuts := []) (f := 82) ⟨p2_nmu, ck_E1 (ck_S1 p2_s191_s ck_S0) ck_E0⟩ (by decide +kernel)
set_option maxRecDepth 100000 in
/-- GlacierMailModel.figures -/
noncomputable def p2_s193 : ck_Sum := ((2, 0, 0), 245, [.inr (.inr (.inl 226)), .inl (ck_one 1), .inl (ck_one 20), .inl (ck_one 4)], ([], [], [(226, 9, 9, (0, 400, [(1, 0)]))]), ([(226, 9, 9), (226, 11, 11)], []), zl62)
set_option maxRecDepth 100000 in
theorem p2_s193_s {X : Int → Int} {LX : Nat} : ck_Ok p2_O X LX 256 p2_s193 := ck_okq (cuts := [(7, [some (.inr (.inr (.inl 226))), some (.inl (ck_one 1)), some (.inl (ck_one 20)), some (.inl (ck_one 4)), some (.inl ((-2147483648), 2147483647, []))], ([], [], [(226, 11, 11, (0, 400, [(1000001, 0)])), (226, 9, 9, (0, 400, [(1000001, 0)]))]), 100, .inr (226, 9), true)]) (f := 222) ⟨p2_nmu, ck_E1 (ck_S1 p2_s148_s ck_S0) (ck_E1 (ck_S1 p2_s161_s ck_S0) ck_E0)⟩ (by decide +kernel)
set_option maxRecDepth 100000 in
/-- GlacierMailModel.number -/
noncomputable def p2_s194 : ck_Sum := ((3, 0, 0), 245, [.inr (.inr (.inl 226)), .inl (ck_one 1), .inl (ck_one 20)], ([], [], [(226, 9, 9, (0, 400, [(1, 0)]))]), ([(226, 9, 9), (226, 11, 11)], []), zl62)
set_option maxRecDepth 100000 in
theorem p2_s194_s {X : Int → Int} {LX : Nat} : ck_Ok p2_O X LX 255 p2_s194 := ck_okq (cuts := []) (f := 82) ⟨p2_nmu, ck_E1 (ck_S1 p2_s193_s ck_S0) ck_E0⟩ (by decide +kernel)
set_option maxRecDepth 100000 in
/-- GlacierMailModel.readFlood -/
noncomputable def p2_s195 : ck_Sum := ((5, 0, 0), 245, [.inr (.inr (.inl 226))], ([], [], [(227, 5, 5, (0, 8, [(23, 0)])), (226, 9, 9, (0, 400, [(1, 0)])), (227, 9, 9, (0, 299, [(11, 0)]))]), ([(226, 9, 9), (226, 11, 11), (227, 5, 5), (227, 71, 94)], []), [(.inr (some (.inl (ck_one 0))), 245, ([], [], [(226, 9, 9, (0, 400, [(1000001, 0)])), (227, 5, 5, (0, 8, [(23, 0)]))])), (.inr (some (.inl (ck_one 1))), 245, ([], [], [(227, 5, 5, (1, 8, [])), (226, 9, 9, (0, 400, [(1000001, 0)])), (226, 11, 11, (0, 400, [(1000001, 0)]))]))])
set_option maxRecDepth 100000 in
theorem p2_s195_s {X : Int → Int} {LX : Nat} : ck_Ok p2_O X LX 265 p2_s195 := ck_okq (cuts := []) (f := 198) ⟨p2_nmu, ck_E1 (ck_S1 p2_s190_s ck_S0) (ck_E1 (ck_S1 p2_s192_s (ck_S1 p2_s194_s ck_S0)) (ck_E1 (ck_S1 p2_s183_s ck_S0) ck_E0))⟩ (by decide +kernel)
set_option maxRecDepth 100000 in
/-- GlacierMailModel.isWord -/
noncomputable def p2_s196 : ck_Sum := ((6, 0, 0), 245, [.inr (.inr (.inl 226)), .inr (.inr (.inr 51))], ([], [], [(226, 9, 9, (0, 400, [(1, 0)]))]), ([], []), zl53)
set_option maxRecDepth 100000 in
theorem p2_s196_s {X : Int → Int} {LX : Nat} : ck_Ok p2_O X LX 250 p2_s196 := ck_okq (cuts := []) (f := 288) ⟨p2_nmu, ck_E0⟩ (by decide +kernel)
set_option maxRecDepth 100000 in
/-- GlacierMailModel.figures -/
noncomputable def p2_s197 : ck_Sum := ((2, 0, 0), 245, [.inr (.inr (.inl 226)), .inl (ck_one 0), .inl (ck_one 9), .inl (ck_one 4)], ([], [], [(226, 9, 9, (0, 400, [(1, 0)]))]), ([(226, 9, 9), (226, 11, 11)], []), zl63)
set_option maxRecDepth 100000 in
theorem p2_s197_s {X : Int → Int} {LX : Nat} : ck_Ok p2_O X LX 256 p2_s197 := ck_okq (cuts := [(7, [some (.inr (.inr (.inl 226))), some (.inl (ck_one 0)), some (.inl (ck_one 9)), some (.inl (ck_one 4)), some (.inl ((-2147483648), 2147483647, []))], ([], [], [(226, 11, 11, (0, 400, [(1000001, 0)])), (226, 9, 9, (0, 400, [(1000001, 0)]))]), 100, .inr (226, 9), true)]) (f := 222) ⟨p2_nmu, ck_E1 (ck_S1 p2_s148_s ck_S0) (ck_E1 (ck_S1 p2_s161_s ck_S0) ck_E0)⟩ (by decide +kernel)
set_option maxRecDepth 100000 in
/-- GlacierMailModel.number -/
noncomputable def p2_s198 : ck_Sum := ((3, 0, 0), 245, [.inr (.inr (.inl 226)), .inl (ck_one 0), .inl (ck_one 9)], ([], [], [(226, 9, 9, (0, 400, [(1, 0)]))]), ([(226, 9, 9), (226, 11, 11)], []), zl63)
set_option maxRecDepth 100000 in
theorem p2_s198_s {X : Int → Int} {LX : Nat} : ck_Ok p2_O X LX 255 p2_s198 := ck_okq (cuts := []) (f := 82) ⟨p2_nmu, ck_E1 (ck_S1 p2_s197_s ck_S0) ck_E0⟩ (by decide +kernel)
set_option maxRecDepth 100000 in
/-- GlacierMailModel.after -/
noncomputable def p2_s199 : ck_Sum := ((7, 0, 0), 245, [.inr (.inr (.inl 226)), .inr (.inr (.inr 51)), .inl (ck_one 0), .inl (ck_one 9)], ([], [], [(226, 9, 9, (0, 400, [(1, 0)]))]), ([(226, 9, 9), (226, 11, 11)], []), [(.inr (some (.inl (ck_one (-1)))), 245, ([], [], zl51)), (.inr (some (.inl (0, 9, []))), 245, ([], [], zl64))])
set_option maxRecDepth 100000 in
theorem p2_s199_s {X : Int → Int} {LX : Nat} : ck_Ok p2_O X LX 264 p2_s199 := ck_okq (cuts := []) (f := 94) ⟨p2_nmu, ck_E1 (ck_S1 p2_s150_s ck_S0) (ck_E1 (ck_S1 p2_s196_s ck_S0) (ck_E1 (ck_S1 p2_s198_s ck_S0) ck_E0))⟩ (by decide +kernel)
set_option maxRecDepth 100000 in
/-- GlacierMailModel.readSnow -/
noncomputable def p2_s200 : ck_Sum := ((8, 0, 0), 245, [.inr (.inr (.inl 226))], ([], [], [(226, 9, 9, (0, 400, [(1, 0)]))]), ([(226, 9, 9), (226, 11, 11), (227, 10, 11)], []), [(.inr (some (.inl (ck_one 0))), 245, ([], [], zl51)), (.inr (some (.inl (ck_one 1))), 245, ([], [], zl64))])
set_option maxRecDepth 100000 in
theorem p2_s200_s {X : Int → Int} {LX : Nat} : ck_Ok p2_O X LX 262 p2_s200 := ck_okq (cuts := []) (f := 120) ⟨p2_nmu, ck_E1 (ck_S1 p2_s183_s ck_S0) (ck_E1 (ck_S1 p2_s199_s ck_S0) ck_E0)⟩ (by decide +kernel)
set_option maxRecDepth 100000 in
/-- GlacierMailModel.figures -/
noncomputable def p2_s201 : ck_Sum := ((2, 0, 0), 245, [.inr (.inr (.inl 226)), .inl (ck_one 0), .inl (ck_one 0), .inl (ck_one 4)], ([], [], [(226, 9, 9, (0, 400, [(1, 0)]))]), ([(226, 9, 9), (226, 11, 11)], []), zl65)
set_option maxRecDepth 100000 in
theorem p2_s201_s {X : Int → Int} {LX : Nat} : ck_Ok p2_O X LX 256 p2_s201 := ck_okq (cuts := [(7, [some (.inr (.inr (.inl 226))), some (.inl (ck_one 0)), some (.inl (ck_one 0)), some (.inl (ck_one 4)), some (.inl ((-2147483648), 2147483647, []))], ([], [], [(226, 11, 11, (0, 400, [(1000001, 0)])), (226, 9, 9, (0, 400, [(1000001, 0)]))]), 100, .inr (226, 9), true)]) (f := 222) ⟨p2_nmu, ck_E1 (ck_S1 p2_s148_s ck_S0) (ck_E1 (ck_S1 p2_s161_s ck_S0) ck_E0)⟩ (by decide +kernel)
set_option maxRecDepth 100000 in
/-- GlacierMailModel.number -/
noncomputable def p2_s202 : ck_Sum := ((3, 0, 0), 245, [.inr (.inr (.inl 226)), .inl (ck_one 0), .inl (ck_one 0)], ([], [], [(226, 9, 9, (0, 400, [(1, 0)]))]), ([(226, 9, 9), (226, 11, 11)], []), zl65)
set_option maxRecDepth 100000 in
theorem p2_s202_s {X : Int → Int} {LX : Nat} : ck_Ok p2_O X LX 255 p2_s202 := ck_okq (cuts := []) (f := 82) ⟨p2_nmu, ck_E1 (ck_S1 p2_s201_s ck_S0) ck_E0⟩ (by decide +kernel)
set_option maxRecDepth 100000 in
/-- GlacierMailModel.figures -/
noncomputable def p2_s203 : ck_Sum := ((2, 0, 0), 245, [.inr (.inr (.inl 226)), .inl (1, 99, []), .inl ((-1), 98, []), .inl (ck_one 4)], ([], [], [(226, 9, 9, (0, 400, [(1, 0)]))]), ([(226, 9, 9), (226, 11, 11)], []), zl66)
set_option maxRecDepth 100000 in
theorem p2_s203_s {X : Int → Int} {LX : Nat} : ck_Ok p2_O X LX 256 p2_s203 := ck_okq (cuts := [(7, [some (.inr (.inr (.inl 226))), some (.inl (1, 99, [])), some (.inl ((-1), 98, [])), some (.inl (ck_one 4)), some (.inl ((-2147483648), 2147483647, []))], ([], [], [(226, 11, 11, (0, 400, [(1000001, 0)])), (226, 9, 9, (0, 400, [(1000001, 0)]))]), 100, .inr (226, 9), true)]) (f := 222) ⟨p2_nmu, ck_E1 (ck_S1 p2_s148_s ck_S0) (ck_E1 (ck_S1 p2_s161_s ck_S0) ck_E0)⟩ (by decide +kernel)
set_option maxRecDepth 100000 in
/-- GlacierMailModel.number -/
noncomputable def p2_s204 : ck_Sum := ((3, 0, 0), 245, [.inr (.inr (.inl 226)), .inl (1, 99, []), .inl ((-1), 98, [])], ([], [], [(226, 9, 9, (0, 400, [(1, 0)]))]), ([(226, 9, 9), (226, 11, 11)], []), zl66)
set_option maxRecDepth 100000 in
theorem p2_s204_s {X : Int → Int} {LX : Nat} : ck_Ok p2_O X LX 255 p2_s204 := ck_okq (cuts := []) (f := 82) ⟨p2_nmu, ck_E1 (ck_S1 p2_s203_s ck_S0) ck_E0⟩ (by decide +kernel)
set_option maxRecDepth 100000 in
/-- GlacierMailModel.figures -/
noncomputable def p2_s205 : ck_Sum := ((2, 0, 0), 245, [.inr (.inr (.inl 226)), .inl (ck_one 1), .inl ((-1), 98, []), .inl (ck_one 4)], ([], [], [(226, 9, 9, (0, 400, [(1, 0)]))]), ([(226, 9, 9), (226, 11, 11)], []), zl66)
set_option maxRecDepth 100000 in
theorem p2_s205_s {X : Int → Int} {LX : Nat} : ck_Ok p2_O X LX 256 p2_s205 := ck_okq (cuts := [(7, [some (.inr (.inr (.inl 226))), some (.inl (ck_one 1)), some (.inl ((-1), 98, [])), some (.inl (ck_one 4)), some (.inl ((-2147483648), 2147483647, []))], ([], [], [(226, 11, 11, (0, 400, [(1000001, 0)])), (226, 9, 9, (0, 400, [(1000001, 0)]))]), 100, .inr (226, 9), true)]) (f := 222) ⟨p2_nmu, ck_E1 (ck_S1 p2_s148_s ck_S0) (ck_E1 (ck_S1 p2_s161_s ck_S0) ck_E0)⟩ (by decide +kernel)
set_option maxRecDepth 100000 in
/-- GlacierMailModel.number -/
noncomputable def p2_s206 : ck_Sum := ((3, 0, 0), 245, [.inr (.inr (.inl 226)), .inl (ck_one 1), .inl ((-1), 98, [])], ([], [], [(226, 9, 9, (0, 400, [(1, 0)]))]), ([(226, 9, 9), (226, 11, 11)], []), zl66)
set_option maxRecDepth 100000 in
theorem p2_s206_s {X : Int → Int} {LX : Nat} : ck_Ok p2_O X LX 255 p2_s206 := ck_okq (cuts := []) (f := 82) ⟨p2_nmu, ck_E1 (ck_S1 p2_s205_s ck_S0) ck_E0⟩ (by decide +kernel)
set_option maxRecDepth 100000 in
/-- GlacierMailModel.readSpeeds -/
noncomputable def p2_s207 : ck_Sum := ((4, 0, 0), 245, [.inr (.inr (.inl 226)), .inl (ck_one 16)], ([], [], [(226, 9, 9, (0, 400, [(1, 0)]))]), ([(226, 9, 9), (226, 11, 11), (227, 16, 21)], []), zl58)
set_option maxRecDepth 100000 in
theorem p2_s207_s {X : Int → Int} {LX : Nat} : ck_Ok p2_O X LX 260 p2_s207 := ck_okq (cuts := [(2, [some (.inr (.inr (.inl 226))), some (.inl (ck_one 16)), some (.inl (0, 6, [])), none], ([], [], [(226, 9, 9, (0, 400, [(1000001, 0)]))]), 100, .inl 2, true)]) (f := 174) ⟨p2_nmu, ck_E1 (ck_S1 p2_s166_s ck_S0) (ck_E1 (ck_S1 p2_s168_s ck_S0) ck_E0)⟩ (by decide +kernel)
set_option maxRecDepth 100000 in
/-- GlacierMailModel.readSpeeds -/
noncomputable def p2_s208 : ck_Sum := ((4, 0, 0), 245, [.inr (.inr (.inl 226)), .inl (ck_one 65)], ([], [], [(226, 9, 9, (0, 400, [(1, 0)]))]), ([(226, 9, 9), (226, 11, 11), (227, 65, 70)], []), zl58)
set_option maxRecDepth 100000 in
theorem p2_s208_s {X : Int → Int} {LX : Nat} : ck_Ok p2_O X LX 260 p2_s208 := ck_okq (cuts := [(2, [some (.inr (.inr (.inl 226))), some (.inl (ck_one 65)), some (.inl (0, 6, [])), none], ([], [], [(226, 9, 9, (0, 400, [(1000001, 0)]))]), 100, .inl 2, true)]) (f := 174) ⟨p2_nmu, ck_E1 (ck_S1 p2_s166_s ck_S0) (ck_E1 (ck_S1 p2_s168_s ck_S0) ck_E0)⟩ (by decide +kernel)
set_option maxRecDepth 100000 in
/-- GlacierMailModel.readSpeeds -/
noncomputable def p2_s209 : ck_Sum := ((4, 0, 0), 245, [.inr (.inr (.inl 226)), .inl (ck_one 58)], ([], [], [(226, 9, 9, (0, 400, [(1, 0)]))]), ([(226, 9, 9), (226, 11, 11), (227, 58, 63)], []), zl58)
set_option maxRecDepth 100000 in
theorem p2_s209_s {X : Int → Int} {LX : Nat} : ck_Ok p2_O X LX 260 p2_s209 := ck_okq (cuts := [(2, [some (.inr (.inr (.inl 226))), some (.inl (ck_one 58)), some (.inl (0, 6, [])), none], ([], [], [(226, 9, 9, (0, 400, [(1000001, 0)]))]), 100, .inl 2, true)]) (f := 174) ⟨p2_nmu, ck_E1 (ck_S1 p2_s166_s ck_S0) (ck_E1 (ck_S1 p2_s168_s ck_S0) ck_E0)⟩ (by decide +kernel)
set_option maxRecDepth 100000 in
/-- GlacierMailModel.readSpeeds -/
noncomputable def p2_s210 : ck_Sum := ((4, 0, 0), 245, [.inr (.inr (.inl 226)), .inl (ck_one 51)], ([], [], [(226, 9, 9, (0, 400, [(1, 0)]))]), ([(226, 9, 9), (226, 11, 11), (227, 51, 56)], []), zl58)
set_option maxRecDepth 100000 in
theorem p2_s210_s {X : Int → Int} {LX : Nat} : ck_Ok p2_O X LX 260 p2_s210 := ck_okq (cuts := [(2, [some (.inr (.inr (.inl 226))), some (.inl (ck_one 51)), some (.inl (0, 6, [])), none], ([], [], [(226, 9, 9, (0, 400, [(1000001, 0)]))]), 100, .inl 2, true)]) (f := 174) ⟨p2_nmu, ck_E1 (ck_S1 p2_s166_s ck_S0) (ck_E1 (ck_S1 p2_s168_s ck_S0) ck_E0)⟩ (by decide +kernel)
set_option maxRecDepth 100000 in
/-- GlacierMailModel.readSpeeds -/
noncomputable def p2_s211 : ck_Sum := ((4, 0, 0), 245, [.inr (.inr (.inl 226)), .inl (ck_one 44)], ([], [], [(226, 9, 9, (0, 400, [(1, 0)]))]), ([(226, 9, 9), (226, 11, 11), (227, 44, 49)], []), zl58)
set_option maxRecDepth 100000 in
theorem p2_s211_s {X : Int → Int} {LX : Nat} : ck_Ok p2_O X LX 260 p2_s211 := ck_okq (cuts := [(2, [some (.inr (.inr (.inl 226))), some (.inl (ck_one 44)), some (.inl (0, 6, [])), none], ([], [], [(226, 9, 9, (0, 400, [(1000001, 0)]))]), 100, .inl 2, true)]) (f := 174) ⟨p2_nmu, ck_E1 (ck_S1 p2_s166_s ck_S0) (ck_E1 (ck_S1 p2_s168_s ck_S0) ck_E0)⟩ (by decide +kernel)
set_option maxRecDepth 100000 in
/-- GlacierMailModel.readSpeeds -/
noncomputable def p2_s212 : ck_Sum := ((4, 0, 0), 245, [.inr (.inr (.inl 226)), .inl (ck_one 37)], ([], [], [(226, 9, 9, (0, 400, [(1, 0)]))]), ([(226, 9, 9), (226, 11, 11), (227, 37, 42)], []), zl58)
set_option maxRecDepth 100000 in
theorem p2_s212_s {X : Int → Int} {LX : Nat} : ck_Ok p2_O X LX 260 p2_s212 := ck_okq (cuts := [(2, [some (.inr (.inr (.inl 226))), some (.inl (ck_one 37)), some (.inl (0, 6, [])), none], ([], [], [(226, 9, 9, (0, 400, [(1000001, 0)]))]), 100, .inl 2, true)]) (f := 174) ⟨p2_nmu, ck_E1 (ck_S1 p2_s166_s ck_S0) (ck_E1 (ck_S1 p2_s168_s ck_S0) ck_E0)⟩ (by decide +kernel)
set_option maxRecDepth 100000 in
/-- GlacierMailModel.readSpeeds -/
noncomputable def p2_s213 : ck_Sum := ((4, 0, 0), 245, [.inr (.inr (.inl 226)), .inl (ck_one 30)], ([], [], [(226, 9, 9, (0, 400, [(1, 0)]))]), ([(226, 9, 9), (226, 11, 11), (227, 30, 35)], []), zl58)
set_option maxRecDepth 100000 in
theorem p2_s213_s {X : Int → Int} {LX : Nat} : ck_Ok p2_O X LX 260 p2_s213 := ck_okq (cuts := [(2, [some (.inr (.inr (.inl 226))), some (.inl (ck_one 30)), some (.inl (0, 6, [])), none], ([], [], [(226, 9, 9, (0, 400, [(1000001, 0)]))]), 100, .inl 2, true)]) (f := 174) ⟨p2_nmu, ck_E1 (ck_S1 p2_s166_s ck_S0) (ck_E1 (ck_S1 p2_s168_s ck_S0) ck_E0)⟩ (by decide +kernel)
set_option maxRecDepth 100000 in
/-- GlacierMailModel.readSpeeds -/
noncomputable def p2_s214 : ck_Sum := ((4, 0, 0), 245, [.inr (.inr (.inl 226)), .inl (ck_one 23)], ([], [], [(226, 9, 9, (0, 400, [(1, 0)]))]), ([(226, 9, 9), (226, 11, 11), (227, 23, 28)], []), zl58)
set_option maxRecDepth 100000 in
theorem p2_s214_s {X : Int → Int} {LX : Nat} : ck_Ok p2_O X LX 260 p2_s214 := ck_okq (cuts := [(2, [some (.inr (.inr (.inl 226))), some (.inl (ck_one 23)), some (.inl (0, 6, [])), none], ([], [], [(226, 9, 9, (0, 400, [(1000001, 0)]))]), 100, .inl 2, true)]) (f := 174) ⟨p2_nmu, ck_E1 (ck_S1 p2_s166_s ck_S0) (ck_E1 (ck_S1 p2_s168_s ck_S0) ck_E0)⟩ (by decide +kernel)
set_option maxRecDepth 100000 in
/-- GlacierMailModel.readSection -/
noncomputable def p2_s215 : ck_Sum := ((5, 0, 0), 245, [.inr (.inr (.inl 226))], ([], [], [(227, 2, 2, (0, 8, [(20, 0)])), (226, 9, 9, (0, 400, [(1, 0)]))]), ([(226, 9, 9), (226, 11, 11), (227, 2, 2), (227, 15, 70)], []), [(.inr (some (.inl (ck_one 0))), 245, ([], [], [(226, 9, 9, (0, 400, [(1000001, 0)])), (227, 2, 2, (0, 8, [(20, 0)]))])), (.inr (some (.inl (ck_one 1))), 245, ([], [], [(227, 2, 2, (1, 8, [])), (226, 9, 9, (0, 400, [(1000001, 0)]))]))])
set_option maxRecDepth 100000 in
theorem p2_s215_s {X : Int → Int} {LX : Nat} : ck_Ok p2_O X LX 258 p2_s215 := ck_okq (cuts := []) (f := 178) ⟨p2_nmu, ck_E1 (ck_S1 p2_s202_s (ck_S1 p2_s204_s (ck_S1 p2_s206_s ck_S0))) (ck_E1 (ck_S1 p2_s207_s (ck_S1 p2_s208_s (ck_S1 p2_s209_s (ck_S1 p2_s210_s (ck_S1 p2_s211_s (ck_S1 p2_s212_s (ck_S1 p2_s213_s (ck_S1 p2_s214_s ck_S0)))))))) (ck_E1 (ck_S1 p2_s180_s ck_S0) ck_E0))⟩ (by decide +kernel)
set_option maxRecDepth 100000 in
/-- GlacierMailModel.isEmpty -/
noncomputable def p2_s216 : ck_Sum := ((1, 0, 0), 245, [.inr (.inr (.inl 226))], ([], [], [(227, 2, 2, (0, 8, [(20, 0)])), (227, 3, 3, (0, 8, [(21, 0)])), (227, 4, 4, (0, 24, [(22, 0)])), (227, 5, 5, (0, 8, [(23, 0)])), (227, 6, 6, (0, 6, [(24, 0)]))]), ([], []), [(.inr (some (.inl (ck_one 0))), 245, ([], [], [])), (.inr (some (.inl (ck_one 1))), 245, ([], [], []))])
set_option maxRecDepth 100000 in
theorem p2_s216_s {X : Int → Int} {LX : Nat} : ck_Ok p2_O X LX 252 p2_s216 := ck_okq (cuts := []) (f := 118) ⟨p2_nmu, ck_E1 (ck_S1 p2_s186_s ck_S0) (ck_E1 (ck_S1 p2_s176_s ck_S0) ck_E0)⟩ (by decide +kernel)
set_option maxRecDepth 100000 in
/-- GlacierMailModel.figures -/
noncomputable def p2_s217 : ck_Sum := ((2, 0, 0), 245, [.inr (.inr (.inl 226)), .inl (ck_one 10), .inl (ck_one 99), .inl (ck_one 4)], ([], [], [(226, 9, 9, (0, 400, [(1, 0)]))]), ([(226, 9, 9), (226, 11, 11)], []), zl67)
set_option maxRecDepth 100000 in
theorem p2_s217_s {X : Int → Int} {LX : Nat} : ck_Ok p2_O X LX 256 p2_s217 := ck_okq (cuts := [(7, [some (.inr (.inr (.inl 226))), some (.inl (ck_one 10)), some (.inl (ck_one 99)), some (.inl (ck_one 4)), some (.inl ((-2147483648), 2147483647, []))], ([], [], [(226, 11, 11, (0, 400, [(1000001, 0)])), (226, 9, 9, (0, 400, [(1000001, 0)]))]), 100, .inr (226, 9), true)]) (f := 222) ⟨p2_nmu, ck_E1 (ck_S1 p2_s148_s ck_S0) (ck_E1 (ck_S1 p2_s161_s ck_S0) ck_E0)⟩ (by decide +kernel)
set_option maxRecDepth 100000 in
/-- GlacierMailModel.number -/
noncomputable def p2_s218 : ck_Sum := ((3, 0, 0), 245, [.inr (.inr (.inl 226)), .inl (ck_one 10), .inl (ck_one 99)], ([], [], [(226, 9, 9, (0, 400, [(1, 0)]))]), ([(226, 9, 9), (226, 11, 11)], []), zl67)
set_option maxRecDepth 100000 in
theorem p2_s218_s {X : Int → Int} {LX : Nat} : ck_Ok p2_O X LX 255 p2_s218 := ck_okq (cuts := []) (f := 82) ⟨p2_nmu, ck_E1 (ck_S1 p2_s217_s ck_S0) ck_E0⟩ (by decide +kernel)
set_option maxRecDepth 100000 in
/-- GlacierMailModel.readLast -/
noncomputable def p2_s219 : ck_Sum := ((4, 0, 0), 245, [.inr (.inr (.inl 226))], ([], [], zl68), ([(226, 9, 9), (226, 11, 11), (227, 1, 1), (227, 10, 10)], []), [(.inr (some (.inl (ck_one 0))), 245, ([], [], [(226, 9, 9, (0, 400, [(1000001, 0)]))])), (.inr (some (.inl (ck_one 1))), 245, ([], [], [(227, 10, 10, ck_one 10), (227, 1, 1, (10, 99, [])), (226, 9, 9, (0, 400, [(1000001, 0)])), (226, 11, 11, (0, 400, [(1000001, 0)]))]))])
set_option maxRecDepth 100000 in
theorem p2_s219_s {X : Int → Int} {LX : Nat} : ck_Ok p2_O X LX 257 p2_s219 := ck_okq (cuts := []) (f := 114) ⟨p2_nmu, ck_E1 (ck_S1 p2_s216_s ck_S0) (ck_E1 (ck_S1 p2_s218_s ck_S0) ck_E0)⟩ (by decide +kernel)
set_option maxRecDepth 100000 in
/-- GlacierMailModel.figures -/
noncomputable def p2_s220 : ck_Sum := ((2, 0, 0), 245, [.inr (.inr (.inl 226)), .inl (ck_one 1), .inl (ck_one 6), .inl (ck_one 4)], ([], [], [(226, 9, 9, (0, 400, [(1, 0)]))]), ([(226, 9, 9), (226, 11, 11)], []), zl69)
set_option maxRecDepth 100000 in
theorem p2_s220_s {X : Int → Int} {LX : Nat} : ck_Ok p2_O X LX 256 p2_s220 := ck_okq (cuts := [(7, [some (.inr (.inr (.inl 226))), some (.inl (ck_one 1)), some (.inl (ck_one 6)), some (.inl (ck_one 4)), some (.inl ((-2147483648), 2147483647, []))], ([], [], [(226, 11, 11, (0, 400, [(1000001, 0)])), (226, 9, 9, (0, 400, [(1000001, 0)]))]), 100, .inr (226, 9), true)]) (f := 222) ⟨p2_nmu, ck_E1 (ck_S1 p2_s148_s ck_S0) (ck_E1 (ck_S1 p2_s161_s ck_S0) ck_E0)⟩ (by decide +kernel)
set_option maxRecDepth 100000 in
/-- GlacierMailModel.number -/
noncomputable def p2_s221 : ck_Sum := ((3, 0, 0), 245, [.inr (.inr (.inl 226)), .inl (ck_one 1), .inl (ck_one 6)], ([], [], [(226, 9, 9, (0, 400, [(1, 0)]))]), ([(226, 9, 9), (226, 11, 11)], []), zl69)
set_option maxRecDepth 100000 in
theorem p2_s221_s {X : Int → Int} {LX : Nat} : ck_Ok p2_O X LX 255 p2_s221 := ck_okq (cuts := []) (f := 82) ⟨p2_nmu, ck_E1 (ck_S1 p2_s220_s ck_S0) ck_E0⟩ (by decide +kernel)
set_option maxRecDepth 100000 in
/-- GlacierMailModel.readLanes -/
noncomputable def p2_s222 : ck_Sum := ((4, 0, 0), 245, [.inr (.inr (.inl 226))], ([], [], zl68), ([(226, 9, 9), (226, 11, 11), (227, 0, 0), (227, 12, 12)], []), [(.inr (some (.inl (ck_one 0))), 245, ([], [], [(226, 9, 9, (0, 400, [(1000001, 0)]))])), (.inr (some (.inl (ck_one 1))), 245, ([], [], [(227, 12, 12, (1, 6, [])), (227, 0, 0, (1, 6, [])), (226, 9, 9, (0, 400, [(1000001, 0)])), (226, 11, 11, (0, 400, [(1000001, 0)]))]))])
set_option maxRecDepth 100000 in
theorem p2_s222_s {X : Int → Int} {LX : Nat} : ck_Ok p2_O X LX 251 p2_s222 := ck_okq (cuts := []) (f := 114) ⟨p2_nmu, ck_E1 (ck_S1 p2_s216_s ck_S0) (ck_E1 (ck_S1 p2_s221_s ck_S0) ck_E0)⟩ (by decide +kernel)
set_option maxRecDepth 100000 in
/-- GlacierMailModel.readValleyLine -/
noncomputable def p2_s223 : ck_Sum := ((9, 0, 0), 245, [.inr (.inr (.inl 226))], ([], [], zl70), (zl71, []), zl72)
set_option maxRecDepth 100000 in
theorem p2_s223_s {X : Int → Int} {LX : Nat} : ck_Ok p2_O X LX 249 p2_s223 := ck_okq (cuts := []) (f := 192) ⟨p2_nmu, ck_E1 (ck_S1 p2_s151_s (ck_S1 p2_s152_s (ck_S1 p2_s153_s (ck_S1 p2_s154_s (ck_S1 p2_s155_s (ck_S1 p2_s156_s (ck_S1 p2_s157_s (ck_S1 p2_s158_s (ck_S1 p2_s159_s (ck_S1 p2_s160_s ck_S0)))))))))) (ck_E1 (ck_S1 p2_s163_s (ck_S1 p2_s165_s ck_S0)) (ck_E1 (ck_S1 p2_s166_s ck_S0) (ck_E1 (ck_S1 p2_s175_s ck_S0) (ck_E1 (ck_S1 p2_s185_s ck_S0) (ck_E1 (ck_S1 p2_s189_s ck_S0) (ck_E1 (ck_S1 p2_s195_s ck_S0) (ck_E1 (ck_S1 p2_s200_s ck_S0) (ck_E1 (ck_S1 p2_s215_s ck_S0) (ck_E1 (ck_S1 p2_s219_s ck_S0) (ck_E1 (ck_S1 p2_s222_s ck_S0) ck_E0))))))))))⟩ (by decide +kernel)
set_option maxRecDepth 100000 in
/-- GlacierMailModel.readLine -/
noncomputable def p2_s224 : ck_Sum := ((10, 0, 0), 245, [.inr (.inr (.inl 226)), .inl (ck_one 1), .inl (ck_one 0)], ([], [], zl70), (zl71, []), zl72)
set_option maxRecDepth 100000 in
theorem p2_s224_s {X : Int → Int} {LX : Nat} : ck_Ok p2_O X LX 247 p2_s224 := ck_okq (cuts := []) (f := 104) ⟨p2_nmu, ck_E1 (ck_S1 p2_s150_s ck_S0) (ck_E1 (ck_S1 p2_s223_s ck_S0) ck_E0)⟩ (by decide +kernel)
set_option maxRecDepth 100000 in
/-- GlacierMailModel.readLine -/
noncomputable def p2_s225 : ck_Sum := ((10, 0, 0), 245, [.inr (.inr (.inl 226)), .inl (ck_one 1), .inl (ck_one 1)], ([], [], zl70), (zl71, []), zl72)
set_option maxRecDepth 100000 in
theorem p2_s225_s {X : Int → Int} {LX : Nat} : ck_Ok p2_O X LX 247 p2_s225 := ck_okq (cuts := []) (f := 104) ⟨p2_nmu, ck_E1 (ck_S1 p2_s150_s ck_S0) (ck_E1 (ck_S1 p2_s223_s ck_S0) ck_E0)⟩ (by decide +kernel)
set_option maxRecDepth 100000 in
/-- GlacierMailModel.readLine -/
noncomputable def p2_s226 : ck_Sum := ((10, 0, 0), 245, [.inr (.inr (.inl 226)), .inl (ck_one 1), .inl (ck_one 2)], ([], [], zl70), (zl71, []), zl72)
set_option maxRecDepth 100000 in
theorem p2_s226_s {X : Int → Int} {LX : Nat} : ck_Ok p2_O X LX 247 p2_s226 := ck_okq (cuts := []) (f := 104) ⟨p2_nmu, ck_E1 (ck_S1 p2_s150_s ck_S0) (ck_E1 (ck_S1 p2_s223_s ck_S0) ck_E0)⟩ (by decide +kernel)
set_option maxRecDepth 100000 in
/-- GlacierMailModel.readLine -/
noncomputable def p2_s227 : ck_Sum := ((10, 0, 0), 245, [.inr (.inr (.inl 226)), .inl (ck_one 1), .inl (ck_one 3)], ([], [], zl70), (zl71, []), zl72)
set_option maxRecDepth 100000 in
theorem p2_s227_s {X : Int → Int} {LX : Nat} : ck_Ok p2_O X LX 247 p2_s227 := ck_okq (cuts := []) (f := 104) ⟨p2_nmu, ck_E1 (ck_S1 p2_s150_s ck_S0) (ck_E1 (ck_S1 p2_s223_s ck_S0) ck_E0)⟩ (by decide +kernel)
set_option maxRecDepth 100000 in
/-- GlacierMailModel.readLine -/
noncomputable def p2_s228 : ck_Sum := ((10, 0, 0), 245, [.inr (.inr (.inl 226)), .inl (ck_one 1), .inl (ck_one 4)], ([], [], zl70), (zl71, []), zl72)
set_option maxRecDepth 100000 in
theorem p2_s228_s {X : Int → Int} {LX : Nat} : ck_Ok p2_O X LX 247 p2_s228 := ck_okq (cuts := []) (f := 104) ⟨p2_nmu, ck_E1 (ck_S1 p2_s150_s ck_S0) (ck_E1 (ck_S1 p2_s223_s ck_S0) ck_E0)⟩ (by decide +kernel)
set_option maxRecDepth 100000 in
/-- GlacierMailModel.readLine -/
noncomputable def p2_s229 : ck_Sum := ((10, 0, 0), 245, [.inr (.inr (.inl 226)), .inl (ck_one 1), .inl (ck_one 5)], ([], [], zl70), (zl71, []), zl72)
set_option maxRecDepth 100000 in
theorem p2_s229_s {X : Int → Int} {LX : Nat} : ck_Ok p2_O X LX 247 p2_s229 := ck_okq (cuts := []) (f := 104) ⟨p2_nmu, ck_E1 (ck_S1 p2_s150_s ck_S0) (ck_E1 (ck_S1 p2_s223_s ck_S0) ck_E0)⟩ (by decide +kernel)
set_option maxRecDepth 100000 in
/-- GlacierMailModel.readLine -/
noncomputable def p2_s230 : ck_Sum := ((10, 0, 0), 245, [.inr (.inr (.inl 226)), .inl (ck_one 1), .inl (ck_one 6)], ([], [], zl70), (zl71, []), zl72)
set_option maxRecDepth 100000 in
theorem p2_s230_s {X : Int → Int} {LX : Nat} : ck_Ok p2_O X LX 247 p2_s230 := ck_okq (cuts := []) (f := 104) ⟨p2_nmu, ck_E1 (ck_S1 p2_s150_s ck_S0) (ck_E1 (ck_S1 p2_s223_s ck_S0) ck_E0)⟩ (by decide +kernel)
set_option maxRecDepth 100000 in
/-- GlacierMailModel.readLine -/
noncomputable def p2_s231 : ck_Sum := ((10, 0, 0), 245, [.inr (.inr (.inl 226)), .inl (ck_one 1), .inl (ck_one 7)], ([], [], zl70), (zl71, []), zl72)
set_option maxRecDepth 100000 in
theorem p2_s231_s {X : Int → Int} {LX : Nat} : ck_Ok p2_O X LX 247 p2_s231 := ck_okq (cuts := []) (f := 104) ⟨p2_nmu, ck_E1 (ck_S1 p2_s150_s ck_S0) (ck_E1 (ck_S1 p2_s223_s ck_S0) ck_E0)⟩ (by decide +kernel)
set_option maxRecDepth 100000 in
/-- GlacierMailModel.readLine -/
noncomputable def p2_s232 : ck_Sum := ((10, 0, 0), 245, [.inr (.inr (.inl 226)), .inl (ck_one 1), .inl (ck_one 8)], ([], [], zl70), (zl71, []), zl72)
set_option maxRecDepth 100000 in
theorem p2_s232_s {X : Int → Int} {LX : Nat} : ck_Ok p2_O X LX 247 p2_s232 := ck_okq (cuts := []) (f := 104) ⟨p2_nmu, ck_E1 (ck_S1 p2_s150_s ck_S0) (ck_E1 (ck_S1 p2_s223_s ck_S0) ck_E0)⟩ (by decide +kernel)
set_option maxRecDepth 100000 in
/-- GlacierMailModel.readLine -/
noncomputable def p2_s233 : ck_Sum := ((10, 0, 0), 245, [.inr (.inr (.inl 226)), .inl (ck_one 1), .inl (ck_one 9)], ([], [], zl70), (zl71, []), zl72)
set_option maxRecDepth 100000 in
theorem p2_s233_s {X : Int → Int} {LX : Nat} : ck_Ok p2_O X LX 247 p2_s233 := ck_okq (cuts := []) (f := 104) ⟨p2_nmu, ck_E1 (ck_S1 p2_s150_s ck_S0) (ck_E1 (ck_S1 p2_s223_s ck_S0) ck_E0)⟩ (by decide +kernel)
set_option maxRecDepth 100000 in
/-- GlacierMailModel.readLine -/
noncomputable def p2_s234 : ck_Sum := ((10, 0, 0), 245, [.inr (.inr (.inl 226)), .inl (ck_one 1), .inl (ck_one 10)], ([], [], zl70), (zl71, []), zl72)
set_option maxRecDepth 100000 in
theorem p2_s234_s {X : Int → Int} {LX : Nat} : ck_Ok p2_O X LX 247 p2_s234 := ck_okq (cuts := []) (f := 104) ⟨p2_nmu, ck_E1 (ck_S1 p2_s150_s ck_S0) (ck_E1 (ck_S1 p2_s223_s ck_S0) ck_E0)⟩ (by decide +kernel)
set_option maxRecDepth 100000 in
/-- GlacierMailModel.readLine -/
noncomputable def p2_s235 : ck_Sum := ((10, 0, 0), 245, [.inr (.inr (.inl 226)), .inl (ck_one 1), .inl (ck_one 11)], ([], [], zl70), (zl71, []), zl72)
set_option maxRecDepth 100000 in
theorem p2_s235_s {X : Int → Int} {LX : Nat} : ck_Ok p2_O X LX 247 p2_s235 := ck_okq (cuts := []) (f := 104) ⟨p2_nmu, ck_E1 (ck_S1 p2_s150_s ck_S0) (ck_E1 (ck_S1 p2_s223_s ck_S0) ck_E0)⟩ (by decide +kernel)
set_option maxRecDepth 100000 in
/-- GlacierMailModel.readLine -/
noncomputable def p2_s236 : ck_Sum := ((10, 0, 0), 245, [.inr (.inr (.inl 226)), .inl (ck_one 1), .inl (ck_one 12)], ([], [], zl70), (zl71, []), zl72)
set_option maxRecDepth 100000 in
theorem p2_s236_s {X : Int → Int} {LX : Nat} : ck_Ok p2_O X LX 247 p2_s236 := ck_okq (cuts := []) (f := 104) ⟨p2_nmu, ck_E1 (ck_S1 p2_s150_s ck_S0) (ck_E1 (ck_S1 p2_s223_s ck_S0) ck_E0)⟩ (by decide +kernel)
set_option maxRecDepth 100000 in
/-- GlacierMailModel.readLine -/
noncomputable def p2_s237 : ck_Sum := ((10, 0, 0), 245, [.inr (.inr (.inl 226)), .inl (ck_one 1), .inl (ck_one 13)], ([], [], zl70), (zl71, []), zl72)
set_option maxRecDepth 100000 in
theorem p2_s237_s {X : Int → Int} {LX : Nat} : ck_Ok p2_O X LX 247 p2_s237 := ck_okq (cuts := []) (f := 104) ⟨p2_nmu, ck_E1 (ck_S1 p2_s150_s ck_S0) (ck_E1 (ck_S1 p2_s223_s ck_S0) ck_E0)⟩ (by decide +kernel)
set_option maxRecDepth 100000 in
/-- GlacierMailModel.readLine -/
noncomputable def p2_s238 : ck_Sum := ((3, 0, 0), 245, [.inr (.inr (.inl 226)), .inl (ck_one 1), .inl (ck_one 14)], ([], [], [(226, 9, 9, (0, 400, [(1, 0)]))]), ([(226, 9, 9), (226, 11, 11)], []), [(.inr (some (.inl (ck_one 0))), 245, ([], [], zl51))])
set_option maxRecDepth 100000 in
theorem p2_s238_s {X : Int → Int} {LX : Nat} : ck_Ok p2_O X LX 247 p2_s238 := ck_okq (cuts := []) (f := 90) ⟨p2_nmu, ck_E1 (ck_S1 p2_s150_s ck_S0) ck_E0⟩ (by decide +kernel)
set_option maxRecDepth 100000 in
/-- GlacierMailModel.isAt -/
noncomputable def p2_s239 : ck_Sum := ((0, 0, 0), 245, [.inr (.inr (.inl 226)), .inl (ck_one 59), .inl (ck_one 59)], ([], [], [(226, 9, 9, (0, 400, [(1, 0)]))]), ([], []), zl50)
set_option maxRecDepth 100000 in
theorem p2_s239_s {X : Int → Int} {LX : Nat} : ck_Ok p2_O X LX 246 p2_s239 := ck_okq (cuts := []) (f := 114) ⟨p2_nmu, ck_E0⟩ (by decide +kernel)
set_option maxRecDepth 100000 in
/-- GlacierMailModel.readAll -/
noncomputable def p2_s240 : ck_Sum := ((11, 0, 0), 245, [.inr (.inr (.inl 226)), .inl (ck_one 1)], ([], [], [(227, 2, 2, (0, 8, [(20, 0)])), (227, 3, 3, (0, 8, [(21, 0)])), (227, 4, 4, (0, 24, [(22, 0)])), (227, 5, 5, (0, 8, [(23, 0)])), (227, 6, 6, (0, 6, [(24, 0)])), (226, 9, 9, (0, 400, [(1, 0)])), (226, 8, 8, (0, 400, [(7, 0)])), (227, 9, 9, (0, 299, [(11, 0)]))]), ([(226, 0, 0), (226, 8, 11), (226, 15, 15), (227, 0, 6), (227, 10, 13), (227, 15, 322)], []), [(.inr (some (.inl (ck_one (-1)))), 245, ([], [], zl73)), (.inr (some (.inl (0, 14, []))), 245, ([], [], zl73))])
set_option maxRecDepth 100000 in
theorem p2_s240_s {X : Int → Int} {LX : Nat} : ck_Ok p2_O X LX 243 p2_s240 := ck_okq (cuts := []) (f := 812) ⟨p2_nmu, ck_E1 (ck_S1 p2_s146_s ck_S0) (ck_E1 (ck_S1 p2_s148_s ck_S0) (ck_E1 (ck_S1 p2_s224_s (ck_S1 p2_s225_s (ck_S1 p2_s226_s (ck_S1 p2_s227_s (ck_S1 p2_s228_s (ck_S1 p2_s229_s (ck_S1 p2_s230_s (ck_S1 p2_s231_s (ck_S1 p2_s232_s (ck_S1 p2_s233_s (ck_S1 p2_s234_s (ck_S1 p2_s235_s (ck_S1 p2_s236_s (ck_S1 p2_s237_s (ck_S1 p2_s238_s ck_S0))))))))))))))) (ck_E1 (ck_S1 p2_s239_s ck_S0) ck_E0)))⟩ (by decide +kernel)
set_option maxRecDepth 100000 in
/-- GlacierMailModel.throwsIf -/
noncomputable def p2_s241 : ck_Sum := ((0, 0, 0), 245, [.inr (.inr (.inl 226)), .inl (ck_one 1), .inl (ck_one 1)], ([], [], []), ([(226, 0, 0)], []), [(.inr (some (.inl (ck_one 1))), 245, ([], [], [(226, 0, 0, ck_one 1)]))])
set_option maxRecDepth 100000 in
theorem p2_s241_s {X : Int → Int} {LX : Nat} : ck_Ok p2_O X LX 282 p2_s241 := ck_okq (cuts := []) (f := 84) ⟨p2_nmu, ck_E0⟩ (by decide +kernel)
set_option maxRecDepth 100000 in
/-- GlacierMailModel.throwsIf -/
noncomputable def p2_s242 : ck_Sum := ((0, 0, 0), 245, [.inr (.inr (.inl 226)), .inl (ck_one 0), .inl (ck_one 1)], ([], [], []), ([], []), [(.inr (some (.inl (ck_one 0))), 245, ([], [], []))])
set_option maxRecDepth 100000 in
theorem p2_s242_s {X : Int → Int} {LX : Nat} : ck_Ok p2_O X LX 282 p2_s242 := ck_okq (cuts := []) (f := 78) ⟨p2_nmu, ck_E0⟩ (by decide +kernel)
set_option maxRecDepth 100000 in
/-- GlacierMailModel.throwsIf -/
noncomputable def p2_s243 : ck_Sum := ((0, 0, 0), 245, [.inr (.inr (.inl 226)), .inl (ck_one 0), .inl (ck_one 2)], ([], [], []), ([], []), [(.inr (some (.inl (ck_one 0))), 245, ([], [], []))])
set_option maxRecDepth 100000 in
theorem p2_s243_s {X : Int → Int} {LX : Nat} : ck_Ok p2_O X LX 282 p2_s243 := ck_okq (cuts := []) (f := 78) ⟨p2_nmu, ck_E0⟩ (by decide +kernel)
set_option maxRecDepth 100000 in
/-- GlacierMailModel.throwsIf -/
noncomputable def p2_s244 : ck_Sum := ((0, 0, 0), 245, [.inr (.inr (.inl 226)), .inl (ck_one 1), .inl (ck_one 2)], ([], [], []), ([(226, 0, 0)], []), [(.inr (some (.inl (ck_one 1))), 245, ([], [], [(226, 0, 0, ck_one 2)]))])
set_option maxRecDepth 100000 in
theorem p2_s244_s {X : Int → Int} {LX : Nat} : ck_Ok p2_O X LX 282 p2_s244 := ck_okq (cuts := []) (f := 84) ⟨p2_nmu, ck_E0⟩ (by decide +kernel)
set_option maxRecDepth 100000 in
/-- GlacierMailModel.warms -/
noncomputable def p2_s245 : ck_Sum := ((0, 0, 0), 245, [.inr (.inr (.inl 226))], ([], [], []), ([(226, 26, 26), (234, 0, 299)], []), [(.inr none, 245, ([], [], [(226, 26, 26, ck_one (-1))]))])
set_option maxRecDepth 100000 in
theorem p2_s245_s {X : Int → Int} {LX : Nat} : ck_Ok p2_O X LX 235 p2_s245 := ck_okq (cuts := [(10, [some (.inr (.inr (.inl 226))), some (.inl ((-2147483648), 2147483647, [])), some (.inl (0, 300, []))], ([], [], []), 100, .inl 2, true)]) (f := 182) ⟨p2_nmu, ck_E0⟩ (by decide +kernel)
set_option maxRecDepth 100000 in
/-- GlacierMailModel.valley -/
noncomputable def p2_s246 : ck_Sum := ((12, 0, 0), 245, [.inr (.inr (.inl 226))], ([], [], [(227, 2, 2, (0, 8, [(20, 0)])), (227, 3, 3, (0, 8, [(21, 0)])), (227, 4, 4, (0, 24, [(22, 0)])), (227, 5, 5, (0, 8, [(23, 0)])), (227, 6, 6, (0, 6, [(24, 0)])), (227, 7, 7, (0, 12, [(25, 0)])), (227, 14, 14, (0, 24, [(26, 0)])), (226, 6, 6, (0, 12, [(27, 0)])), (226, 9, 9, (0, 400, [(1, 0)])), (226, 15, 15, (0, 400, [(2, 0)])), (226, 8, 8, (0, 400, [(7, 0)])), (227, 9, 9, (0, 299, [(11, 0)]))]), ([(226, 0, 0), (226, 6, 6), (226, 8, 11), (226, 13, 13), (226, 15, 15), (226, 26, 26), (227, 0, 1243), (229, 0, 1243), (234, 0, 299)], []), [(.inr (some (.inl (0, 12, []))), 245, ([], [], [(226, 15, 15, ck_one 0), (226, 8, 8, ck_one 0), (226, 0, 0, (0, 2, []))]))])
noncomputable def p2_s246_E : List (Nat × List ck_Sum) := [(243, [p2_s240]), (282, [p2_s241, p2_s242, p2_s243, p2_s244]), (235, [p2_s245])]
set_option maxRecDepth 100000 in
noncomputable def p2_s246_C93 : ck_C := ([some (.inr (.inr (.inl 226))), some (.inl ((-1), 14, [])), some (.inl (ck_one 0))], ([], [], [(226, 0, 0, (1, 2, [])), (226, 13, 13, ((-1), 400, [])), (227, 4, 4, (0, 24, [(1000022, 0)])), (226, 15, 15, ck_one 0), (226, 8, 8, ck_one 0), (227, 7, 7, (0, 12, [(25, 0)])), (227, 14, 14, (0, 24, [(26, 0)])), (226, 6, 6, (0, 12, [(27, 0)])), (227, 9, 9, (0, 299, [(11, 0)]))]), 0, .inl 2, true)
set_option maxRecDepth 100000 in
noncomputable def p2_s246_C2 : ck_C := ([some (.inr (.inr (.inl 226))), some (.inl (ck_one 0)), none], ([], [], [(227, 2, 2, (0, 8, [(20, 0)])), (227, 3, 3, (0, 8, [(21, 0)])), (227, 4, 4, (0, 24, [(22, 0)])), (227, 5, 5, (0, 8, [(23, 0)])), (227, 6, 6, (0, 6, [(24, 0)])), (227, 7, 7, (0, 12, [(25, 0)])), (227, 14, 14, (0, 24, [(26, 0)])), (226, 6, 6, (0, 12, [(27, 0)])), (226, 9, 9, (0, 400, [(1, 0)])), (226, 15, 15, (0, 400, [(2, 0)])), (226, 8, 8, (0, 400, [(7, 0)])), (227, 9, 9, (0, 299, [(11, 0)]))]), 0, .inl 1, true)
set_option maxRecDepth 100000 in
noncomputable def p2_s246_Z : List (Nat × ck_C) := [(93, p2_s246_C93), (2, p2_s246_C2)]
set_option maxRecDepth 100000 in
theorem p2_s246_a : (decide (p2_s246.2.2.1.length ≤ gm_ml 242) && ck_go p2_O none [] p2_s246_E 242 p2_s246.1.1 p2_s246.2.1 p2_s246.2.2.2.2.1 p2_s246.2.2.2.2.2 p2_s246_Z 386 false [(93, p2_s246_C93, 0, 0, 245), (2, p2_s246_C2, 0, 0, 245)] p2_s246.1.2.1 p2_s246.1.2.2 0 (p2_s246.2.2.1.map some ++ List.replicate (gm_ml 242 - p2_s246.2.2.1.length) none) [] p2_s246.2.1 p2_s246.2.2.2.1) = true := by decide +kernel
theorem p2_s246_u : ck_cu p2_s246_Z = true := by decide +kernel
theorem p2_s246_h {X : Int → Int} {LX : Nat} : ck_nmu p2_O ∧ ck_OkE p2_O X LX p2_s246_E := ⟨p2_nmu, ck_E1 (ck_S1 p2_s240_s ck_S0) (ck_E1 (ck_S1 p2_s241_s (ck_S1 p2_s242_s (ck_S1 p2_s243_s (ck_S1 p2_s244_s ck_S0)))) (ck_E1 (ck_S1 p2_s245_s ck_S0) ck_E0))⟩
set_option maxRecDepth 100000 in
theorem p2_s246_g93 : ck_go p2_O none [] p2_s246_E 242 p2_s246.1.1 p2_s246.2.1 p2_s246.2.2.2.2.1 p2_s246.2.2.2.2.2 p2_s246_Z 386 false [] 0 0 118 (p2_s246_C93.1.set 2 (some (.inl (ck_one 1244)))) [] 245 (p2_s246_C93.2.1.1, p2_s246_C93.2.1.2.1, ck_cws [(227, 0, 1243)] p2_s246_C93.2.1.2.2) = true := by decide +kernel
set_option maxRecDepth 100000 in
theorem p2_s246_t93 : cp_tc p2_O 227 229 0 0 1244 = true := by decide +kernel
theorem p2_s246_y93 {X : Int → Int} {LX : Nat} {σ σ0 : Nat → Int} {K0 : gm_K} {R0 : gm_R} {M0 : gm_M} (hσ : ∀ s, s < 100 → σ s = σ0 s) : ck_Hy p2_O X LX 242 p2_s246.1.1 p2_s246.2.2.2.2.1 p2_s246.2.1 K0 R0 M0 (ck_Q p2_O σ0 p2_s246.2.2.2.2.1 p2_s246.2.1 K0 R0 M0 p2_s246.2.2.2.2.2) σ (93, p2_s246_C93, 0, 0, 245) := by
  refine ck_cpH (v := 2) (A := 227) (B := 229) (N := 1244) (wa := 0) (wb := 1243) (pc' := 118) p2_s246_u p2_s246_h hσ ⟨by decide, by decide⟩ (by decide +kernel) (fun bc bs L K R M hS => ?_) p2_s246_g93 (fun _ h => nomatch h)
  · obtain ⟨hF, hl, -, hf, -⟩ := hS
    obtain ⟨u0, l0, g0⟩ := hl.2 0 (.inr (.inr (.inl 226))) rfl
    cases g0
    obtain ⟨u1, lv, x1, rfl, -, e1, e2, -⟩ := hl.2 2 (.inl (ck_one 0)) rfl
    have e1 : (0 : Int) ≤ x1 := e1
    have e2 : x1 ≤ (0 : Int) := e2
    have e3 : x1 = 0 := by omega
    subst e3
    obtain ⟨u2, l2, y2, rfl, -⟩ := hl.2 1 (.inl ((-1), 14, [])) rfl
    have kA : (K 227).2 = 2093 := (md_kd hF md_o.1.2).2
    have kB : (K 229).2 = 1244 := (md_kd hF md_o.2.1.2).2
    refine ⟨0, 0, ⟨by omega, by omega⟩, gm_Fx_cpy hF (cp_tc_s hF p2_s246_t93) (jj_again (K := K) hF.2.2.2.2), fun Q hx => ?_⟩
    exact cp_lp (iv := .iload_n 2) (v := 2) (ixA := 13) (ixB := 20) (jA := 1) (jB := 3) (A := 227) (B := 229) (mo := 226) (p := 93) (qA := 105) (qB := 110) (N := 1244) (offe := 21) (offb := (-22)) (by decide) (md_mo hF) (md_kd hF md_o.1.2).1 (md_kd hF md_o.2.1.2).1 (md_rf hF md_r.1.1) (md_rf hF md_r.2.1) (by decide +kernel) (by decide +kernel) (by decide +kernel) (by decide +kernel) ⟨by omega, ⟨by omega, by omega⟩, ⟨by omega, by omega⟩, by omega, by omega⟩ (fun e => absurd e (by decide)) (by decide) (by decide +kernel) l0 lv ⟨rfl, rfl⟩ ⟨gm_vi y2, l2, by simp [gm_sort]⟩ (by decide +kernel) (by decide +kernel) (by decide +kernel) (by decide) (by decide +kernel) (by decide +kernel) (cp_sg_i (iv := .iload_n 2) lv ⟨rfl, rfl⟩ (by decide +kernel)) (by decide +kernel) (by decide +kernel) (cp_sg_i (iv := .iload_n 2) lv ⟨rfl, rfl⟩ (by decide +kernel)) (by decide +kernel) (by decide +kernel) (by decide +kernel) (by decide +kernel) (by decide) (by decide) hx
set_option maxRecDepth 100000 in
theorem p2_s246_g2 : ck_go p2_O none [] p2_s246_E 242 p2_s246.1.1 p2_s246.2.1 p2_s246.2.2.2.2.1 p2_s246.2.2.2.2.2 p2_s246_Z 386 false [(93, p2_s246_C93, 0, 0, 245)] 0 0 27 (p2_s246_C2.1.set 1 (some (.inl (ck_one 1244)))) [] 245 (p2_s246_C2.2.1.1, p2_s246_C2.2.1.2.1, ck_cws [(229, 0, 1243)] p2_s246_C2.2.1.2.2) = true := by decide +kernel
set_option maxRecDepth 100000 in
theorem p2_s246_t2 : cp_tc p2_O 229 227 0 0 1244 = true := by decide +kernel
theorem p2_s246_y2 {X : Int → Int} {LX : Nat} {σ σ0 : Nat → Int} {K0 : gm_K} {R0 : gm_R} {M0 : gm_M} (hσ : ∀ s, s < 100 → σ s = σ0 s) : ck_Hy p2_O X LX 242 p2_s246.1.1 p2_s246.2.2.2.2.1 p2_s246.2.1 K0 R0 M0 (ck_Q p2_O σ0 p2_s246.2.2.2.2.1 p2_s246.2.1 K0 R0 M0 p2_s246.2.2.2.2.2) σ (2, p2_s246_C2, 0, 0, 245) := by
  refine ck_cpH (v := 1) (A := 229) (B := 227) (N := 1244) (wa := 0) (wb := 1243) (pc' := 27) p2_s246_u p2_s246_h hσ ⟨by decide, by decide⟩ (by decide +kernel) (fun bc bs L K R M hS => ?_) p2_s246_g2 (fun h hm => by
      rcases List.mem_cons.mp hm with rfl | hm
      · exact ⟨by unfold p2_s246_Z; exact List.mem_cons_self, p2_s246_y93 hσ⟩
      · cases hm)
  · obtain ⟨hF, hl, -, hf, -⟩ := hS
    obtain ⟨u0, l0, g0⟩ := hl.2 0 (.inr (.inr (.inl 226))) rfl
    cases g0
    obtain ⟨u1, lv, x1, rfl, -, e1, e2, -⟩ := hl.2 1 (.inl (ck_one 0)) rfl
    have e1 : (0 : Int) ≤ x1 := e1
    have e2 : x1 ≤ (0 : Int) := e2
    have e3 : x1 = 0 := by omega
    subst e3
    have kA : (K 229).2 = 1244 := (md_kd hF md_o.2.1.2).2
    have kB : (K 227).2 = 2093 := (md_kd hF md_o.1.2).2
    refine ⟨0, 0, ⟨by omega, by omega⟩, gm_Fx_cpy hF (cp_tc_s hF p2_s246_t2) (jj_before (K := K) hF.2.2.2.2), fun Q hx => ?_⟩
    exact cp_lp (iv := .iload_n 1) (v := 1) (ixA := 20) (ixB := 13) (jA := 3) (jB := 1) (A := 229) (B := 227) (mo := 226) (p := 2) (qA := 14) (qB := 19) (N := 1244) (offe := 21) (offb := (-22)) (by decide) (md_mo hF) (md_kd hF md_o.2.1.2).1 (md_kd hF md_o.1.2).1 (md_rf hF md_r.2.1) (md_rf hF md_r.1.1) (by decide +kernel) (by decide +kernel) (by decide +kernel) (by decide +kernel) ⟨by omega, ⟨by omega, by omega⟩, ⟨by omega, by omega⟩, by omega, by omega⟩ (fun e => absurd e (by decide)) (by decide) (by decide +kernel) l0 lv ⟨rfl, rfl⟩ ⟨gm_vr 226, l0, by simp [gm_sort]⟩ (by decide +kernel) (by decide +kernel) (by decide +kernel) (by decide) (by decide +kernel) (by decide +kernel) (cp_sg_i (iv := .iload_n 1) lv ⟨rfl, rfl⟩ (by decide +kernel)) (by decide +kernel) (by decide +kernel) (cp_sg_i (iv := .iload_n 1) lv ⟨rfl, rfl⟩ (by decide +kernel)) (by decide +kernel) (by decide +kernel) (by decide +kernel) (by decide +kernel) (by decide) (by decide) hx
theorem p2_s246_s {X : Int → Int} {LX : Nat} : ck_Ok p2_O X LX 242 p2_s246 := by
  refine ck_ok_st (cuts := p2_s246_Z) p2_s246_u p2_s246_h p2_s246_a (fun h hm => ?_)
  rcases List.mem_cons.mp hm with rfl | hm
  · exact ⟨by unfold p2_s246_Z; exact List.mem_cons_self, fun σ K0 R0 M0 => p2_s246_y93 (fun _ _ => rfl)⟩
  rcases List.mem_cons.mp hm with rfl | hm
  · exact ⟨by unfold p2_s246_Z; exact List.mem_cons_of_mem _ (List.mem_cons_self), fun σ K0 R0 M0 => p2_s246_y2 (fun _ _ => rfl)⟩
  cases hm
set_option maxRecDepth 100000 in
/-- GlacierMail.fault -/
noncomputable def p2_s247 : ck_Sum := ((0, 0, 0), 245, [.inr (.inr (.inl 1))], ([], [], []), ([], []), [(.inr (some (.inl (ck_one (-1)))), 245, ([], [], [(1, 2, 2, ck_one (-1))])), (.inr (some (.inl (0, 400, []))), 245, ([], [], [(1, 2, 2, (0, 400, []))]))])
set_option maxRecDepth 100000 in
theorem p2_s247_s {X : Int → Int} {LX : Nat} : ck_Ok p2_O X LX 22 p2_s247 := ck_okq (cuts := []) (f := 76) ⟨p2_nmu, ck_E0⟩ (by decide +kernel)
set_option maxRecDepth 100000 in
/-- GlacierMailModel.fault -/
noncomputable def p2_s248 : ck_Sum := ((0, 0, 0), 245, [.inr (.inr (.inl 226))], ([], [], []), ([(226, 0, 0)], []), [(.inr (some (.inl (ck_one (-1)))), 245, ([], [], [(226, 13, 13, ck_one (-1)), (226, 0, 0, ck_one 0)])), (.inr (some (.inl (0, 400, []))), 245, ([], [], [(226, 13, 13, (0, 400, [])), (226, 0, 0, ck_one 0)]))])
set_option maxRecDepth 100000 in
theorem p2_s248_s {X : Int → Int} {LX : Nat} : ck_Ok p2_O X LX 241 p2_s248 := ck_okq (cuts := []) (f := 82) ⟨p2_nmu, ck_E0⟩ (by decide +kernel)
set_option maxRecDepth 100000 in
/-- GlacierMail.needYear -/
noncomputable def p2_s249 : ck_Sum := ((6, 1, 6), 245, [.inr (.inr (.inl 1)), .inl ((-2147483648), (-1), [])], ([], [], []), ([], []), [(.inl 0, 245, ([], [], []))])
set_option maxRecDepth 100000 in
theorem p2_s249_s {X : Int → Int} {LX : Nat} : ck_Ok p2_O X LX 129 p2_s249 := ck_okq (cuts := []) (f := 76) ⟨p2_nmu, ck_E0⟩ (by decide +kernel)
set_option maxRecDepth 100000 in
/-- GlacierMail.heat -/
noncomputable def p2_s250 : ck_Sum := ((7, 1, 6), 245, [.inr (.inr (.inl 1)), .inl ((-2147483648), (-1), [])], ([], [], []), ([], []), [(.inl 0, 245, ([], [], []))])
set_option maxRecDepth 100000 in
theorem p2_s250_s {X : Int → Int} {LX : Nat} : ck_Ok p2_O X LX 128 p2_s250 := ck_okq (cuts := []) (f := 76) ⟨p2_nmu, ck_E1 (ck_S1 p2_s249_s ck_S0) ck_E0⟩ (by decide +kernel)
set_option maxRecDepth 100000 in
/-- GlacierMail.needYear -/
noncomputable def p2_s251 : ck_Sum := ((6, 1, 6), 245, [.inr (.inr (.inl 1)), .inl (300, 2147483647, [])], ([], [], []), ([], []), [(.inl 0, 245, ([], [], []))])
set_option maxRecDepth 100000 in
theorem p2_s251_s {X : Int → Int} {LX : Nat} : ck_Ok p2_O X LX 129 p2_s251 := ck_okq (cuts := []) (f := 82) ⟨p2_nmu, ck_E0⟩ (by decide +kernel)
set_option maxRecDepth 100000 in
/-- GlacierMail.heat -/
noncomputable def p2_s252 : ck_Sum := ((7, 1, 6), 245, [.inr (.inr (.inl 1)), .inl (300, 2147483647, [])], ([], [], []), ([], []), [(.inl 0, 245, ([], [], []))])
set_option maxRecDepth 100000 in
theorem p2_s252_s {X : Int → Int} {LX : Nat} : ck_Ok p2_O X LX 128 p2_s252 := ck_okq (cuts := []) (f := 76) ⟨p2_nmu, ck_E1 (ck_S1 p2_s251_s ck_S0) ck_E0⟩ (by decide +kernel)
set_option maxRecDepth 100000 in
/-- GlacierMail.needYear -/
noncomputable def p2_s253 : ck_Sum := ((0, 0, 0), 245, [.inr (.inr (.inl 1)), .inl (0, 299, [])], ([], [], []), ([], []), [(.inr none, 245, ([], [], []))])
set_option maxRecDepth 100000 in
theorem p2_s253_s {X : Int → Int} {LX : Nat} : ck_Ok p2_O X LX 129 p2_s253 := ck_okq (cuts := []) (f := 82) ⟨p2_nmu, ck_E0⟩ (by decide +kernel)
set_option maxRecDepth 100000 in
/-- GlacierMail$Ice.heatIn -/
noncomputable def p2_s254 : ck_Sum := ((0, 0, 0), 245, [.inr (.inr (.inl 200)), .inl (0, 299, [])], ([], [], []), ([], []), [(.inr (some (.inl (0, 9, []))), 245, ([], [], []))])
set_option maxRecDepth 100000 in
theorem p2_s254_s {X : Int → Int} {LX : Nat} : ck_Ok p2_O X LX 34 p2_s254 := ck_okq (cuts := []) (f := 92) ⟨p2_nmu, ck_E0⟩ (by decide +kernel)
set_option maxRecDepth 100000 in
/-- GlacierMail.heat -/
noncomputable def p2_s255 : ck_Sum := ((1, 0, 0), 245, [.inr (.inr (.inl 1)), .inl (0, 299, [])], ([], [], []), ([], []), [(.inr (some (.inl (0, 9, []))), 245, ([], [], []))])
set_option maxRecDepth 100000 in
theorem p2_s255_s {X : Int → Int} {LX : Nat} : ck_Ok p2_O X LX 128 p2_s255 := ck_okq (cuts := []) (f := 86) ⟨p2_nmu, ck_E1 (ck_S1 p2_s253_s ck_S0) (ck_E1 (ck_S1 p2_s254_s ck_S0) ck_E0)⟩ (by decide +kernel)
set_option maxRecDepth 100000 in
/-- GlacierMailModel.in -/
noncomputable def p2_s256 : ck_Sum := ((0, 0, 0), 245, [.inl ((-2147483648), (-1), []), .inl (ck_one 0), .inl (ck_one 299)], ([], [], []), ([], []), [(.inr (some (.inl (ck_one 0))), 245, ([], [], []))])
set_option maxRecDepth 100000 in
theorem p2_s256_s {X : Int → Int} {LX : Nat} : ck_Ok p2_O X LX 286 p2_s256 := ck_okq (cuts := []) (f := 80) ⟨p2_nmu, ck_E0⟩ (by decide +kernel)
set_option maxRecDepth 100000 in
/-- GlacierMailModel.noYear -/
noncomputable def p2_s257 : ck_Sum := ((1, 0, 0), 245, [.inl ((-2147483648), (-1), [])], ([], [], []), ([], []), [(.inr (some (.inl (ck_one 1))), 245, ([], [], []))])
set_option maxRecDepth 100000 in
theorem p2_s257_s {X : Int → Int} {LX : Nat} : ck_Ok p2_O X LX 285 p2_s257 := ck_okq (cuts := []) (f := 86) ⟨p2_nmu, ck_E1 (ck_S1 p2_s256_s ck_S0) ck_E0⟩ (by decide +kernel)
set_option maxRecDepth 100000 in
/-- GlacierMailModel.heat -/
noncomputable def p2_s258 : ck_Sum := ((2, 0, 0), 245, [.inr (.inr (.inl 226)), .inl ((-2147483648), (-1), [])], ([], [], []), ([(226, 0, 0)], []), [(.inr (some (.inl (ck_one 0))), 245, ([], [], [(226, 0, 0, ck_one 1)]))])
set_option maxRecDepth 100000 in
theorem p2_s258_s {X : Int → Int} {LX : Nat} : ck_Ok p2_O X LX 284 p2_s258 := ck_okq (cuts := []) (f := 94) ⟨p2_nmu, ck_E1 (ck_S1 p2_s257_s ck_S0) (ck_E1 (ck_S1 p2_s241_s ck_S0) ck_E0)⟩ (by decide +kernel)
set_option maxRecDepth 100000 in
/-- GlacierMailModel.in -/
noncomputable def p2_s259 : ck_Sum := ((0, 0, 0), 245, [.inl (300, 2147483647, []), .inl (ck_one 0), .inl (ck_one 299)], ([], [], []), ([], []), [(.inr (some (.inl (ck_one 0))), 245, ([], [], []))])
set_option maxRecDepth 100000 in
theorem p2_s259_s {X : Int → Int} {LX : Nat} : ck_Ok p2_O X LX 286 p2_s259 := ck_okq (cuts := []) (f := 86) ⟨p2_nmu, ck_E0⟩ (by decide +kernel)
set_option maxRecDepth 100000 in
/-- GlacierMailModel.noYear -/
noncomputable def p2_s260 : ck_Sum := ((1, 0, 0), 245, [.inl (300, 2147483647, [])], ([], [], []), ([], []), [(.inr (some (.inl (ck_one 1))), 245, ([], [], []))])
set_option maxRecDepth 100000 in
theorem p2_s260_s {X : Int → Int} {LX : Nat} : ck_Ok p2_O X LX 285 p2_s260 := ck_okq (cuts := []) (f := 86) ⟨p2_nmu, ck_E1 (ck_S1 p2_s259_s ck_S0) ck_E0⟩ (by decide +kernel)
set_option maxRecDepth 100000 in
/-- GlacierMailModel.heat -/
noncomputable def p2_s261 : ck_Sum := ((2, 0, 0), 245, [.inr (.inr (.inl 226)), .inl (300, 2147483647, [])], ([], [], []), ([(226, 0, 0)], []), [(.inr (some (.inl (ck_one 0))), 245, ([], [], [(226, 0, 0, ck_one 1)]))])
set_option maxRecDepth 100000 in
theorem p2_s261_s {X : Int → Int} {LX : Nat} : ck_Ok p2_O X LX 284 p2_s261 := ck_okq (cuts := []) (f := 94) ⟨p2_nmu, ck_E1 (ck_S1 p2_s260_s ck_S0) (ck_E1 (ck_S1 p2_s241_s ck_S0) ck_E0)⟩ (by decide +kernel)
set_option maxRecDepth 100000 in
/-- GlacierMailModel.in -/
noncomputable def p2_s262 : ck_Sum := ((0, 0, 0), 245, [.inl (0, 299, []), .inl (ck_one 0), .inl (ck_one 299)], ([], [], []), ([], []), [(.inr (some (.inl (ck_one 1))), 245, ([], [], []))])
set_option maxRecDepth 100000 in
theorem p2_s262_s {X : Int → Int} {LX : Nat} : ck_Ok p2_O X LX 286 p2_s262 := ck_okq (cuts := []) (f := 88) ⟨p2_nmu, ck_E0⟩ (by decide +kernel)
set_option maxRecDepth 100000 in
/-- GlacierMailModel.noYear -/
noncomputable def p2_s263 : ck_Sum := ((1, 0, 0), 245, [.inl (0, 299, [])], ([], [], []), ([], []), [(.inr (some (.inl (ck_one 0))), 245, ([], [], []))])
set_option maxRecDepth 100000 in
theorem p2_s263_s {X : Int → Int} {LX : Nat} : ck_Ok p2_O X LX 285 p2_s263 := ck_okq (cuts := []) (f := 84) ⟨p2_nmu, ck_E1 (ck_S1 p2_s262_s ck_S0) ck_E0⟩ (by decide +kernel)
set_option maxRecDepth 100000 in
/-- GlacierMailModel.heat -/
noncomputable def p2_s264 : ck_Sum := ((2, 0, 0), 245, [.inr (.inr (.inl 226)), .inl (0, 299, [])], ([], [], []), ([(226, 0, 0)], []), [(.inr (some (.inl (0, 9, []))), 245, ([], [], [(226, 0, 0, ck_one 0)]))])
set_option maxRecDepth 100000 in
theorem p2_s264_s {X : Int → Int} {LX : Nat} : ck_Ok p2_O X LX 284 p2_s264 := ck_okq (cuts := []) (f := 98) ⟨p2_nmu, ck_E1 (ck_S1 p2_s263_s ck_S0) (ck_E1 (ck_S1 p2_s242_s ck_S0) ck_E0)⟩ (by decide +kernel)
set_option maxRecDepth 100000 in
/-- GlacierMail.need -/
noncomputable def p2_s265 : ck_Sum := ((6, 1, 6), 245, [.inr (.inr (.inl 1)), .inl ((-2147483648), (-1), []), .inl (1, 6, [])], ([], [], []), ([], []), [(.inl 3, 245, ([], [], []))])
set_option maxRecDepth 100000 in
theorem p2_s265_s {X : Int → Int} {LX : Nat} : ck_Ok p2_O X LX 133 p2_s265 := ck_okq (cuts := []) (f := 76) ⟨p2_nmu, ck_E0⟩ (by decide +kernel)
set_option maxRecDepth 100000 in
/-- GlacierMail.needLane -/
noncomputable def p2_s266 : ck_Sum := ((7, 1, 6), 245, [.inr (.inr (.inl 1)), .inl ((-2147483648), (-1), [])], ([], [], []), ([], []), [(.inl 3, 245, ([], [], []))])
set_option maxRecDepth 100000 in
theorem p2_s266_s {X : Int → Int} {LX : Nat} : ck_Ok p2_O X LX 132 p2_s266 := ck_okq (cuts := []) (f := 82) ⟨p2_nmu, ck_E1 (ck_S1 p2_s265_s ck_S0) ck_E0⟩ (by decide +kernel)
set_option maxRecDepth 100000 in
/-- GlacierMail.speed -/
noncomputable def p2_s267 : ck_Sum := ((8, 1, 6), 245, [.inr (.inr (.inl 1)), .inl ((-2147483648), (-1), []), .inl ((-2147483648), 2147483647, [])], ([], [], []), ([], []), [(.inl 3, 245, ([], [], []))])
set_option maxRecDepth 100000 in
theorem p2_s267_s {X : Int → Int} {LX : Nat} : ck_Ok p2_O X LX 131 p2_s267 := ck_okq (cuts := []) (f := 76) ⟨p2_nmu, ck_E1 (ck_S1 p2_s266_s ck_S0) ck_E0⟩ (by decide +kernel)
set_option maxRecDepth 100000 in
/-- GlacierMail.need -/
noncomputable def p2_s268 : ck_Sum := ((6, 1, 6), 245, [.inr (.inr (.inl 1)), .inl (6, 2147483647, []), .inl (1, 6, [])], ([], [], []), ([], []), [(.inl 3, 245, ([], [], []))])
set_option maxRecDepth 100000 in
theorem p2_s268_s {X : Int → Int} {LX : Nat} : ck_Ok p2_O X LX 133 p2_s268 := ck_okq (cuts := []) (f := 82) ⟨p2_nmu, ck_E0⟩ (by decide +kernel)
set_option maxRecDepth 100000 in
/-- GlacierMail.needLane -/
noncomputable def p2_s269 : ck_Sum := ((7, 1, 6), 245, [.inr (.inr (.inl 1)), .inl (6, 2147483647, [])], ([], [], []), ([], []), [(.inl 3, 245, ([], [], []))])
set_option maxRecDepth 100000 in
theorem p2_s269_s {X : Int → Int} {LX : Nat} : ck_Ok p2_O X LX 132 p2_s269 := ck_okq (cuts := []) (f := 82) ⟨p2_nmu, ck_E1 (ck_S1 p2_s268_s ck_S0) ck_E0⟩ (by decide +kernel)
end
/-! 78r80a03.sf -/
section
/-! EVERY CALL ENDS, whatever was done before (laid by wip/am/p2k.py). -/
set_option maxRecDepth 100000 in
/-- GlacierMail.speed -/
noncomputable def p2_s270 : ck_Sum := ((8, 1, 6), 245, [.inr (.inr (.inl 1)), .inl (6, 2147483647, []), .inl ((-2147483648), 2147483647, [])], ([], [], []), ([], []), [(.inl 3, 245, ([], [], []))])
set_option maxRecDepth 100000 in
theorem p2_s270_s {X : Int → Int} {LX : Nat} : ck_Ok p2_O X LX 131 p2_s270 := ck_okq (cuts := []) (f := 76) ⟨p2_nmu, ck_E1 (ck_S1 p2_s269_s ck_S0) ck_E0⟩ (by decide +kernel)
set_option maxRecDepth 100000 in
/-- GlacierMail.need -/
noncomputable def p2_s271 : ck_Sum := ((6, 1, 6), 245, [.inr (.inr (.inl 1)), .inl (0, 5, []), .inl (1, 6, [])], ([], [], []), ([], []), [(.inr none, 245, ([], [], [])), (.inl 3, 245, ([], [], []))])
set_option maxRecDepth 100000 in
theorem p2_s271_s {X : Int → Int} {LX : Nat} : ck_Ok p2_O X LX 133 p2_s271 := ck_okq (cuts := []) (f := 82) ⟨p2_nmu, ck_E0⟩ (by decide +kernel)
set_option maxRecDepth 100000 in
/-- GlacierMail.needLane -/
noncomputable def p2_s272 : ck_Sum := ((7, 1, 6), 245, [.inr (.inr (.inl 1)), .inl (0, 5, [])], ([], [], []), ([], []), [(.inl 3, 245, ([], [], [])), (.inr none, 245, ([], [], []))])
set_option maxRecDepth 100000 in
theorem p2_s272_s {X : Int → Int} {LX : Nat} : ck_Ok p2_O X LX 132 p2_s272 := ck_okq (cuts := []) (f := 84) ⟨p2_nmu, ck_E1 (ck_S1 p2_s271_s ck_S0) ck_E0⟩ (by decide +kernel)
set_option maxRecDepth 100000 in
/-- GlacierMail.need -/
noncomputable def p2_s273 : ck_Sum := ((6, 1, 6), 245, [.inr (.inr (.inl 1)), .inl ((-2147483648), (-1), []), .inl (10, 99, [])], ([], [], []), ([], []), [(.inl 3, 245, ([], [], []))])
set_option maxRecDepth 100000 in
theorem p2_s273_s {X : Int → Int} {LX : Nat} : ck_Ok p2_O X LX 133 p2_s273 := ck_okq (cuts := []) (f := 76) ⟨p2_nmu, ck_E0⟩ (by decide +kernel)
set_option maxRecDepth 100000 in
/-- GlacierMail.needRow -/
noncomputable def p2_s274 : ck_Sum := ((7, 1, 6), 245, [.inr (.inr (.inl 1)), .inl ((-2147483648), (-1), [])], ([], [], []), ([], []), [(.inl 3, 245, ([], [], []))])
set_option maxRecDepth 100000 in
theorem p2_s274_s {X : Int → Int} {LX : Nat} : ck_Ok p2_O X LX 134 p2_s274 := ck_okq (cuts := []) (f := 82) ⟨p2_nmu, ck_E1 (ck_S1 p2_s273_s ck_S0) ck_E0⟩ (by decide +kernel)
set_option maxRecDepth 100000 in
/-- GlacierMail.speed -/
noncomputable def p2_s275 : ck_Sum := ((8, 2, 12), 245, [.inr (.inr (.inl 1)), .inl (0, 5, []), .inl ((-2147483648), (-1), [])], ([], [], []), ([], []), [(.inl 3, 245, ([], [], []))])
set_option maxRecDepth 100000 in
theorem p2_s275_s {X : Int → Int} {LX : Nat} : ck_Ok p2_O X LX 131 p2_s275 := ck_okq (cuts := []) (f := 82) ⟨p2_nmu, ck_E1 (ck_S1 p2_s272_s ck_S0) (ck_E1 (ck_S1 p2_s274_s ck_S0) ck_E0)⟩ (by decide +kernel)
set_option maxRecDepth 100000 in
/-- GlacierMail.need -/
noncomputable def p2_s276 : ck_Sum := ((6, 1, 6), 245, [.inr (.inr (.inl 1)), .inl (99, 2147483647, []), .inl (10, 99, [])], ([], [], []), ([], []), [(.inl 3, 245, ([], [], []))])
set_option maxRecDepth 100000 in
theorem p2_s276_s {X : Int → Int} {LX : Nat} : ck_Ok p2_O X LX 133 p2_s276 := ck_okq (cuts := []) (f := 82) ⟨p2_nmu, ck_E0⟩ (by decide +kernel)
set_option maxRecDepth 100000 in
/-- GlacierMail.needRow -/
noncomputable def p2_s277 : ck_Sum := ((7, 1, 6), 245, [.inr (.inr (.inl 1)), .inl (99, 2147483647, [])], ([], [], []), ([], []), [(.inl 3, 245, ([], [], []))])
set_option maxRecDepth 100000 in
theorem p2_s277_s {X : Int → Int} {LX : Nat} : ck_Ok p2_O X LX 134 p2_s277 := ck_okq (cuts := []) (f := 82) ⟨p2_nmu, ck_E1 (ck_S1 p2_s276_s ck_S0) ck_E0⟩ (by decide +kernel)
set_option maxRecDepth 100000 in
/-- GlacierMail.speed -/
noncomputable def p2_s278 : ck_Sum := ((8, 2, 12), 245, [.inr (.inr (.inl 1)), .inl (0, 5, []), .inl (99, 2147483647, [])], ([], [], []), ([], []), [(.inl 3, 245, ([], [], []))])
set_option maxRecDepth 100000 in
theorem p2_s278_s {X : Int → Int} {LX : Nat} : ck_Ok p2_O X LX 131 p2_s278 := ck_okq (cuts := []) (f := 82) ⟨p2_nmu, ck_E1 (ck_S1 p2_s272_s ck_S0) (ck_E1 (ck_S1 p2_s277_s ck_S0) ck_E0)⟩ (by decide +kernel)
set_option maxRecDepth 100000 in
/-- GlacierMail.need -/
noncomputable def p2_s279 : ck_Sum := ((6, 1, 6), 245, [.inr (.inr (.inl 1)), .inl (0, 98, []), .inl (10, 99, [])], ([], [], []), ([], []), [(.inr none, 245, ([], [], [])), (.inl 3, 245, ([], [], []))])
set_option maxRecDepth 100000 in
theorem p2_s279_s {X : Int → Int} {LX : Nat} : ck_Ok p2_O X LX 133 p2_s279 := ck_okq (cuts := []) (f := 82) ⟨p2_nmu, ck_E0⟩ (by decide +kernel)
set_option maxRecDepth 100000 in
/-- GlacierMail.needRow -/
noncomputable def p2_s280 : ck_Sum := ((7, 1, 6), 245, [.inr (.inr (.inl 1)), .inl (0, 98, [])], ([], [], []), ([], []), [(.inl 3, 245, ([], [], [])), (.inr none, 245, ([], [], []))])
set_option maxRecDepth 100000 in
theorem p2_s280_s {X : Int → Int} {LX : Nat} : ck_Ok p2_O X LX 134 p2_s280 := ck_okq (cuts := []) (f := 84) ⟨p2_nmu, ck_E1 (ck_S1 p2_s279_s ck_S0) ck_E0⟩ (by decide +kernel)
set_option maxRecDepth 100000 in
/-- GlacierMail$Ice.speedAt -/
noncomputable def p2_s281 : ck_Sum := ((0, 0, 0), 245, [.inr (.inr (.inl 200)), .inl (0, 5, []), .inl (0, 98, [])], ([], [], []), ([], []), [(.inr (some (.inl ((-1), 98, []))), 245, ([], [], []))])
set_option maxRecDepth 100000 in
theorem p2_s281_s {X : Int → Int} {LX : Nat} : ck_Ok p2_O X LX 36 p2_s281 := ck_okq (cuts := []) (f := 108) ⟨p2_nmu, ck_E0⟩ (by decide +kernel)
set_option maxRecDepth 100000 in
/-- GlacierMail.speed -/
noncomputable def p2_s282 : ck_Sum := ((8, 2, 12), 245, [.inr (.inr (.inl 1)), .inl (0, 5, []), .inl (0, 98, [])], ([], [], []), ([], []), [(.inl 3, 245, ([], [], [])), (.inr (some (.inl ((-1), 98, []))), 245, ([], [], []))])
set_option maxRecDepth 100000 in
theorem p2_s282_s {X : Int → Int} {LX : Nat} : ck_Ok p2_O X LX 131 p2_s282 := ck_okq (cuts := []) (f := 94) ⟨p2_nmu, ck_E1 (ck_S1 p2_s272_s ck_S0) (ck_E1 (ck_S1 p2_s280_s ck_S0) (ck_E1 (ck_S1 p2_s281_s ck_S0) ck_E0))⟩ (by decide +kernel)
set_option maxRecDepth 100000 in
/-- GlacierMailModel.in -/
noncomputable def p2_s283 : ck_Sum := ((0, 0, 0), 245, [.inl ((-2147483648), (-1), []), .inl (ck_one 0), .inl ((-1), 5, [])], ([], [], []), ([], []), [(.inr (some (.inl (ck_one 0))), 245, ([], [], []))])
set_option maxRecDepth 100000 in
theorem p2_s283_s {X : Int → Int} {LX : Nat} : ck_Ok p2_O X LX 286 p2_s283 := ck_okq (cuts := []) (f := 80) ⟨p2_nmu, ck_E0⟩ (by decide +kernel)
set_option maxRecDepth 100000 in
/-- GlacierMailModel.noLane -/
noncomputable def p2_s284 : ck_Sum := ((1, 0, 0), 245, [.inr (.inr (.inl 226)), .inl ((-2147483648), (-1), [])], ([], [], []), ([], []), [(.inr (some (.inl (ck_one 1))), 245, ([], [], []))])
set_option maxRecDepth 100000 in
theorem p2_s284_s {X : Int → Int} {LX : Nat} : ck_Ok p2_O X LX 288 p2_s284 := ck_okq (cuts := []) (f := 92) ⟨p2_nmu, ck_E1 (ck_S1 p2_s166_s ck_S0) (ck_E1 (ck_S1 p2_s283_s ck_S0) ck_E0)⟩ (by decide +kernel)
set_option maxRecDepth 100000 in
/-- GlacierMailModel.speed -/
noncomputable def p2_s285 : ck_Sum := ((2, 0, 0), 245, [.inr (.inr (.inl 226)), .inl ((-2147483648), (-1), []), .inl ((-2147483648), 2147483647, [])], ([], [], []), ([(226, 0, 0)], []), [(.inr (some (.inl (ck_one 0))), 245, ([], [], [(226, 0, 0, ck_one 1)]))])
set_option maxRecDepth 100000 in
theorem p2_s285_s {X : Int → Int} {LX : Nat} : ck_Ok p2_O X LX 287 p2_s285 := ck_okq (cuts := []) (f := 102) ⟨p2_nmu, ck_E1 (ck_S1 p2_s284_s ck_S0) (ck_E1 (ck_S1 p2_s241_s ck_S0) ck_E0)⟩ (by decide +kernel)
set_option maxRecDepth 100000 in
/-- GlacierMailModel.in -/
noncomputable def p2_s286 : ck_Sum := ((0, 0, 0), 245, [.inl (6, 2147483647, []), .inl (ck_one 0), .inl ((-1), 5, [])], ([], [], []), ([], []), [(.inr (some (.inl (ck_one 0))), 245, ([], [], []))])
set_option maxRecDepth 100000 in
theorem p2_s286_s {X : Int → Int} {LX : Nat} : ck_Ok p2_O X LX 286 p2_s286 := ck_okq (cuts := []) (f := 86) ⟨p2_nmu, ck_E0⟩ (by decide +kernel)
set_option maxRecDepth 100000 in
/-- GlacierMailModel.noLane -/
noncomputable def p2_s287 : ck_Sum := ((1, 0, 0), 245, [.inr (.inr (.inl 226)), .inl (6, 2147483647, [])], ([], [], []), ([], []), [(.inr (some (.inl (ck_one 1))), 245, ([], [], []))])
set_option maxRecDepth 100000 in
theorem p2_s287_s {X : Int → Int} {LX : Nat} : ck_Ok p2_O X LX 288 p2_s287 := ck_okq (cuts := []) (f := 92) ⟨p2_nmu, ck_E1 (ck_S1 p2_s166_s ck_S0) (ck_E1 (ck_S1 p2_s286_s ck_S0) ck_E0)⟩ (by decide +kernel)
set_option maxRecDepth 100000 in
/-- GlacierMailModel.speed -/
noncomputable def p2_s288 : ck_Sum := ((2, 0, 0), 245, [.inr (.inr (.inl 226)), .inl (6, 2147483647, []), .inl ((-2147483648), 2147483647, [])], ([], [], []), ([(226, 0, 0)], []), [(.inr (some (.inl (ck_one 0))), 245, ([], [], [(226, 0, 0, ck_one 1)]))])
set_option maxRecDepth 100000 in
theorem p2_s288_s {X : Int → Int} {LX : Nat} : ck_Ok p2_O X LX 287 p2_s288 := ck_okq (cuts := []) (f := 102) ⟨p2_nmu, ck_E1 (ck_S1 p2_s287_s ck_S0) (ck_E1 (ck_S1 p2_s241_s ck_S0) ck_E0)⟩ (by decide +kernel)
set_option maxRecDepth 100000 in
/-- GlacierMailModel.in -/
noncomputable def p2_s289 : ck_Sum := ((0, 0, 0), 245, [.inl (0, 5, []), .inl (ck_one 0), .inl ((-1), 5, [])], ([], [], []), ([], []), [(.inr (some (.inl (ck_one 0))), 245, ([], [], [])), (.inr (some (.inl (ck_one 1))), 245, ([], [], []))])
set_option maxRecDepth 100000 in
theorem p2_s289_s {X : Int → Int} {LX : Nat} : ck_Ok p2_O X LX 286 p2_s289 := ck_okq (cuts := []) (f := 88) ⟨p2_nmu, ck_E0⟩ (by decide +kernel)
set_option maxRecDepth 100000 in
/-- GlacierMailModel.noLane -/
noncomputable def p2_s290 : ck_Sum := ((1, 0, 0), 245, [.inr (.inr (.inl 226)), .inl (0, 5, [])], ([], [], []), ([], []), [(.inr (some (.inl (ck_one 1))), 245, ([], [], [])), (.inr (some (.inl (ck_one 0))), 245, ([], [], []))])
set_option maxRecDepth 100000 in
theorem p2_s290_s {X : Int → Int} {LX : Nat} : ck_Ok p2_O X LX 288 p2_s290 := ck_okq (cuts := []) (f := 92) ⟨p2_nmu, ck_E1 (ck_S1 p2_s166_s ck_S0) (ck_E1 (ck_S1 p2_s289_s ck_S0) ck_E0)⟩ (by decide +kernel)
set_option maxRecDepth 100000 in
/-- GlacierMailModel.in -/
noncomputable def p2_s291 : ck_Sum := ((0, 0, 0), 245, [.inl ((-2147483648), (-1), []), .inl (ck_one 0), .inl ((-1), 98, [])], ([], [], []), ([], []), [(.inr (some (.inl (ck_one 0))), 245, ([], [], []))])
set_option maxRecDepth 100000 in
theorem p2_s291_s {X : Int → Int} {LX : Nat} : ck_Ok p2_O X LX 286 p2_s291 := ck_okq (cuts := []) (f := 80) ⟨p2_nmu, ck_E0⟩ (by decide +kernel)
set_option maxRecDepth 100000 in
/-- GlacierMailModel.noRow -/
noncomputable def p2_s292 : ck_Sum := ((1, 0, 0), 245, [.inr (.inr (.inl 226)), .inl ((-2147483648), (-1), [])], ([], [], []), ([], []), [(.inr (some (.inl (ck_one 1))), 245, ([], [], []))])
set_option maxRecDepth 100000 in
theorem p2_s292_s {X : Int → Int} {LX : Nat} : ck_Ok p2_O X LX 289 p2_s292 := ck_okq (cuts := []) (f := 92) ⟨p2_nmu, ck_E1 (ck_S1 p2_s180_s ck_S0) (ck_E1 (ck_S1 p2_s291_s ck_S0) ck_E0)⟩ (by decide +kernel)
set_option maxRecDepth 100000 in
/-- GlacierMailModel.speed -/
noncomputable def p2_s293 : ck_Sum := ((2, 0, 0), 245, [.inr (.inr (.inl 226)), .inl (0, 5, []), .inl ((-2147483648), (-1), [])], ([], [], []), ([(226, 0, 0)], []), [(.inr (some (.inl (ck_one 0))), 245, ([], [], [(226, 0, 0, ck_one 1)]))])
set_option maxRecDepth 100000 in
theorem p2_s293_s {X : Int → Int} {LX : Nat} : ck_Ok p2_O X LX 287 p2_s293 := ck_okq (cuts := []) (f := 110) ⟨p2_nmu, ck_E1 (ck_S1 p2_s290_s ck_S0) (ck_E1 (ck_S1 p2_s241_s ck_S0) (ck_E1 (ck_S1 p2_s292_s ck_S0) ck_E0))⟩ (by decide +kernel)
set_option maxRecDepth 100000 in
/-- GlacierMailModel.in -/
noncomputable def p2_s294 : ck_Sum := ((0, 0, 0), 245, [.inl (99, 2147483647, []), .inl (ck_one 0), .inl ((-1), 98, [])], ([], [], []), ([], []), [(.inr (some (.inl (ck_one 0))), 245, ([], [], []))])
set_option maxRecDepth 100000 in
theorem p2_s294_s {X : Int → Int} {LX : Nat} : ck_Ok p2_O X LX 286 p2_s294 := ck_okq (cuts := []) (f := 86) ⟨p2_nmu, ck_E0⟩ (by decide +kernel)
set_option maxRecDepth 100000 in
/-- GlacierMailModel.noRow -/
noncomputable def p2_s295 : ck_Sum := ((1, 0, 0), 245, [.inr (.inr (.inl 226)), .inl (99, 2147483647, [])], ([], [], []), ([], []), [(.inr (some (.inl (ck_one 1))), 245, ([], [], []))])
set_option maxRecDepth 100000 in
theorem p2_s295_s {X : Int → Int} {LX : Nat} : ck_Ok p2_O X LX 289 p2_s295 := ck_okq (cuts := []) (f := 92) ⟨p2_nmu, ck_E1 (ck_S1 p2_s180_s ck_S0) (ck_E1 (ck_S1 p2_s294_s ck_S0) ck_E0)⟩ (by decide +kernel)
set_option maxRecDepth 100000 in
/-- GlacierMailModel.speed -/
noncomputable def p2_s296 : ck_Sum := ((2, 0, 0), 245, [.inr (.inr (.inl 226)), .inl (0, 5, []), .inl (99, 2147483647, [])], ([], [], []), ([(226, 0, 0)], []), [(.inr (some (.inl (ck_one 0))), 245, ([], [], [(226, 0, 0, ck_one 1)]))])
set_option maxRecDepth 100000 in
theorem p2_s296_s {X : Int → Int} {LX : Nat} : ck_Ok p2_O X LX 287 p2_s296 := ck_okq (cuts := []) (f := 110) ⟨p2_nmu, ck_E1 (ck_S1 p2_s290_s ck_S0) (ck_E1 (ck_S1 p2_s241_s ck_S0) (ck_E1 (ck_S1 p2_s295_s ck_S0) ck_E0))⟩ (by decide +kernel)
set_option maxRecDepth 100000 in
/-- GlacierMailModel.in -/
noncomputable def p2_s297 : ck_Sum := ((0, 0, 0), 245, [.inl (0, 98, []), .inl (ck_one 0), .inl ((-1), 98, [])], ([], [], []), ([], []), [(.inr (some (.inl (ck_one 0))), 245, ([], [], [])), (.inr (some (.inl (ck_one 1))), 245, ([], [], []))])
set_option maxRecDepth 100000 in
theorem p2_s297_s {X : Int → Int} {LX : Nat} : ck_Ok p2_O X LX 286 p2_s297 := ck_okq (cuts := []) (f := 88) ⟨p2_nmu, ck_E0⟩ (by decide +kernel)
set_option maxRecDepth 100000 in
/-- GlacierMailModel.noRow -/
noncomputable def p2_s298 : ck_Sum := ((1, 0, 0), 245, [.inr (.inr (.inl 226)), .inl (0, 98, [])], ([], [], []), ([], []), [(.inr (some (.inl (ck_one 1))), 245, ([], [], [])), (.inr (some (.inl (ck_one 0))), 245, ([], [], []))])
set_option maxRecDepth 100000 in
theorem p2_s298_s {X : Int → Int} {LX : Nat} : ck_Ok p2_O X LX 289 p2_s298 := ck_okq (cuts := []) (f := 92) ⟨p2_nmu, ck_E1 (ck_S1 p2_s180_s ck_S0) (ck_E1 (ck_S1 p2_s297_s ck_S0) ck_E0)⟩ (by decide +kernel)
set_option maxRecDepth 100000 in
/-- GlacierMailModel.speedAt -/
noncomputable def p2_s299 : ck_Sum := ((0, 0, 0), 245, [.inr (.inr (.inl 226)), .inl (0, 6, []), .inl (0, 98, [])], ([], [], [(227, 2, 2, (0, 8, [(20, 0)]))]), ([], []), [(.inr (some (.inl (0, 299, []))), 245, ([], [], []))])
set_option maxRecDepth 100000 in
theorem p2_s299_s {X : Int → Int} {LX : Nat} : ck_Ok p2_O X LX 290 p2_s299 := ck_okq (cuts := [(5, [some (.inr (.inr (.inl 226))), some (.inl (0, 6, [])), some (.inl (0, 98, [])), some (.inl (0, 299, [])), some (.inl (0, 8, []))], ([], [], [(227, 2, 2, (0, 8, [(20, 0)]))]), 100, .inl 4, true)]) (f := 222) ⟨p2_nmu, ck_E0⟩ (by decide +kernel)
set_option maxRecDepth 100000 in
/-- GlacierMailModel.speed -/
noncomputable def p2_s300 : ck_Sum := ((2, 0, 0), 245, [.inr (.inr (.inl 226)), .inl (0, 5, []), .inl (0, 98, [])], ([], [], [(227, 2, 2, (0, 8, [(20, 0)]))]), ([(226, 0, 0)], []), [(.inr (some (.inl (0, 299, []))), 245, ([], [], [(226, 0, 0, (0, 1, []))]))])
set_option maxRecDepth 100000 in
theorem p2_s300_s {X : Int → Int} {LX : Nat} : ck_Ok p2_O X LX 287 p2_s300 := ck_okq (cuts := []) (f := 112) ⟨p2_nmu, ck_E1 (ck_S1 p2_s290_s ck_S0) (ck_E1 (ck_S1 p2_s241_s (ck_S1 p2_s242_s ck_S0)) (ck_E1 (ck_S1 p2_s298_s ck_S0) (ck_E1 (ck_S1 p2_s299_s ck_S0) ck_E0)))⟩ (by decide +kernel)
set_option maxRecDepth 100000 in
/-- GlacierMail.flow -/
noncomputable def p2_s301 : ck_Sum := ((8, 1, 6), 245, [.inr (.inr (.inl 1)), .inl ((-2147483648), (-1), []), .inl ((-2147483648), 2147483647, []), .inl ((-2147483648), 2147483647, [])], ([], [], []), ([], []), [(.inl 3, 245, ([], [], []))])
set_option maxRecDepth 100000 in
theorem p2_s301_s {X : Int → Int} {LX : Nat} : ck_Ok p2_O X LX 136 p2_s301 := ck_okq (cuts := []) (f := 76) ⟨p2_nmu, ck_E1 (ck_S1 p2_s266_s ck_S0) ck_E0⟩ (by decide +kernel)
set_option maxRecDepth 100000 in
/-- GlacierMail.flow -/
noncomputable def p2_s302 : ck_Sum := ((8, 1, 6), 245, [.inr (.inr (.inl 1)), .inl (6, 2147483647, []), .inl ((-2147483648), 2147483647, []), .inl ((-2147483648), 2147483647, [])], ([], [], []), ([], []), [(.inl 3, 245, ([], [], []))])
set_option maxRecDepth 100000 in
theorem p2_s302_s {X : Int → Int} {LX : Nat} : ck_Ok p2_O X LX 136 p2_s302 := ck_okq (cuts := []) (f := 76) ⟨p2_nmu, ck_E1 (ck_S1 p2_s269_s ck_S0) ck_E0⟩ (by decide +kernel)
set_option maxRecDepth 100000 in
/-- GlacierMail.flow -/
noncomputable def p2_s303 : ck_Sum := ((8, 2, 12), 245, [.inr (.inr (.inl 1)), .inl (0, 5, []), .inl ((-2147483648), (-1), []), .inl ((-2147483648), 2147483647, [])], ([], [], []), ([], []), [(.inl 3, 245, ([], [], []))])
set_option maxRecDepth 100000 in
theorem p2_s303_s {X : Int → Int} {LX : Nat} : ck_Ok p2_O X LX 136 p2_s303 := ck_okq (cuts := []) (f := 82) ⟨p2_nmu, ck_E1 (ck_S1 p2_s272_s ck_S0) (ck_E1 (ck_S1 p2_s274_s ck_S0) ck_E0)⟩ (by decide +kernel)
set_option maxRecDepth 100000 in
/-- GlacierMail.flow -/
noncomputable def p2_s304 : ck_Sum := ((8, 2, 12), 245, [.inr (.inr (.inl 1)), .inl (0, 5, []), .inl (99, 2147483647, []), .inl ((-2147483648), 2147483647, [])], ([], [], []), ([], []), [(.inl 3, 245, ([], [], []))])
set_option maxRecDepth 100000 in
theorem p2_s304_s {X : Int → Int} {LX : Nat} : ck_Ok p2_O X LX 136 p2_s304 := ck_okq (cuts := []) (f := 82) ⟨p2_nmu, ck_E1 (ck_S1 p2_s272_s ck_S0) (ck_E1 (ck_S1 p2_s277_s ck_S0) ck_E0)⟩ (by decide +kernel)
set_option maxRecDepth 100000 in
/-- GlacierMail.flow -/
noncomputable def p2_s305 : ck_Sum := ((8, 3, 18), 245, [.inr (.inr (.inl 1)), .inl (0, 5, []), .inl (0, 98, []), .inl ((-2147483648), (-1), [])], ([], [], []), ([], []), [(.inl 3, 245, ([], [], [])), (.inl 0, 245, ([], [], []))])
set_option maxRecDepth 100000 in
theorem p2_s305_s {X : Int → Int} {LX : Nat} : ck_Ok p2_O X LX 136 p2_s305 := ck_okq (cuts := []) (f := 88) ⟨p2_nmu, ck_E1 (ck_S1 p2_s272_s ck_S0) (ck_E1 (ck_S1 p2_s280_s ck_S0) (ck_E1 (ck_S1 p2_s249_s ck_S0) ck_E0))⟩ (by decide +kernel)
set_option maxRecDepth 100000 in
/-- GlacierMail.flow -/
noncomputable def p2_s306 : ck_Sum := ((8, 3, 18), 245, [.inr (.inr (.inl 1)), .inl (0, 5, []), .inl (0, 98, []), .inl (300, 2147483647, [])], ([], [], []), ([], []), [(.inl 3, 245, ([], [], [])), (.inl 0, 245, ([], [], []))])
set_option maxRecDepth 100000 in
theorem p2_s306_s {X : Int → Int} {LX : Nat} : ck_Ok p2_O X LX 136 p2_s306 := ck_okq (cuts := []) (f := 88) ⟨p2_nmu, ck_E1 (ck_S1 p2_s272_s ck_S0) (ck_E1 (ck_S1 p2_s280_s ck_S0) (ck_E1 (ck_S1 p2_s251_s ck_S0) ck_E0))⟩ (by decide +kernel)
set_option maxRecDepth 100000 in
/-- GlacierMail$Ice.speedAt -/
noncomputable def p2_s307 : ck_Sum := ((0, 0, 0), 245, [.inr (.inr (.inl 200)), .inl ((-2147483648), 2147483647, []), .inl ((-2147483648), 2147483647, [])], ([], [], []), ([], []), [(.inr (some (.inl (ck_one 0))), 245, ([], [], [])), (.inr (some (.inl ((-1), 98, []))), 245, ([], [], []))])
set_option maxRecDepth 100000 in
theorem p2_s307_s {X : Int → Int} {LX : Nat} : ck_Ok p2_O X LX 36 p2_s307 := ck_okq (cuts := []) (f := 108) ⟨p2_nmu, ck_E0⟩ (by decide +kernel)
set_option maxRecDepth 100000 in
/-- GlacierMail$Ice.flowAt -/
noncomputable def p2_s308 : ck_Sum := ((1, 0, 0), 245, [.inr (.inr (.inl 200)), .inl ((-2147483648), 2147483647, []), .inl ((-2147483648), 2147483647, []), .inl ((-2147483648), 2147483647, [])], ([], [(3, 8, 0)], []), ([], []), [(.inr (some (.inl (ck_one 0))), 245, ([], [], [])), (.inr (some (.inl ((-1), 98, []))), 245, ([], [], []))])
set_option maxRecDepth 100000 in
theorem p2_s308_s {X : Int → Int} {LX : Nat} : ck_Ok p2_O X LX 35 p2_s308 := ck_okq (cuts := []) (f := 92) ⟨p2_nmu, ck_E1 (ck_S1 p2_s307_s ck_S0) ck_E0⟩ (by decide +kernel)
set_option maxRecDepth 100000 in
/-- GlacierMail.flow -/
noncomputable def p2_s309 : ck_Sum := ((8, 2, 12), 245, [.inr (.inr (.inl 1)), .inl (0, 5, []), .inl (0, 98, []), .inl (0, 299, [])], ([], [(3, 8, 0)], []), ([], []), [(.inl 3, 245, ([], [], [])), (.inr (some (.inl (ck_one 0))), 245, ([], [], [])), (.inr (some (.inl ((-1), 98, []))), 245, ([], [], []))])
set_option maxRecDepth 100000 in
theorem p2_s309_s {X : Int → Int} {LX : Nat} : ck_Ok p2_O X LX 136 p2_s309 := ck_okq (cuts := []) (f := 102) ⟨p2_nmu, ck_E1 (ck_S1 p2_s272_s ck_S0) (ck_E1 (ck_S1 p2_s280_s ck_S0) (ck_E1 (ck_S1 p2_s253_s ck_S0) (ck_E1 (ck_S1 p2_s308_s ck_S0) ck_E0)))⟩ (by decide +kernel)
set_option maxRecDepth 100000 in
/-- GlacierMailModel.flow -/
noncomputable def p2_s310 : ck_Sum := ((2, 0, 0), 245, [.inr (.inr (.inl 226)), .inl ((-2147483648), (-1), []), .inl ((-2147483648), 2147483647, []), .inl ((-2147483648), 2147483647, [])], ([], [], []), ([(226, 0, 0)], []), [(.inr (some (.inl (ck_one 0))), 245, ([], [], [(226, 0, 0, ck_one 1)]))])
set_option maxRecDepth 100000 in
theorem p2_s310_s {X : Int → Int} {LX : Nat} : ck_Ok p2_O X LX 291 p2_s310 := ck_okq (cuts := []) (f := 102) ⟨p2_nmu, ck_E1 (ck_S1 p2_s284_s ck_S0) (ck_E1 (ck_S1 p2_s241_s ck_S0) ck_E0)⟩ (by decide +kernel)
set_option maxRecDepth 100000 in
/-- GlacierMailModel.flow -/
noncomputable def p2_s311 : ck_Sum := ((2, 0, 0), 245, [.inr (.inr (.inl 226)), .inl (6, 2147483647, []), .inl ((-2147483648), 2147483647, []), .inl ((-2147483648), 2147483647, [])], ([], [], []), ([(226, 0, 0)], []), [(.inr (some (.inl (ck_one 0))), 245, ([], [], [(226, 0, 0, ck_one 1)]))])
set_option maxRecDepth 100000 in
theorem p2_s311_s {X : Int → Int} {LX : Nat} : ck_Ok p2_O X LX 291 p2_s311 := ck_okq (cuts := []) (f := 102) ⟨p2_nmu, ck_E1 (ck_S1 p2_s287_s ck_S0) (ck_E1 (ck_S1 p2_s241_s ck_S0) ck_E0)⟩ (by decide +kernel)
set_option maxRecDepth 100000 in
/-- GlacierMailModel.flow -/
noncomputable def p2_s312 : ck_Sum := ((2, 0, 0), 245, [.inr (.inr (.inl 226)), .inl (0, 5, []), .inl ((-2147483648), (-1), []), .inl ((-2147483648), 2147483647, [])], ([], [], []), ([(226, 0, 0)], []), [(.inr (some (.inl (ck_one 0))), 245, ([], [], [(226, 0, 0, ck_one 1)]))])
set_option maxRecDepth 100000 in
theorem p2_s312_s {X : Int → Int} {LX : Nat} : ck_Ok p2_O X LX 291 p2_s312 := ck_okq (cuts := []) (f := 110) ⟨p2_nmu, ck_E1 (ck_S1 p2_s290_s ck_S0) (ck_E1 (ck_S1 p2_s241_s ck_S0) (ck_E1 (ck_S1 p2_s292_s ck_S0) ck_E0))⟩ (by decide +kernel)
set_option maxRecDepth 100000 in
/-- GlacierMailModel.flow -/
noncomputable def p2_s313 : ck_Sum := ((2, 0, 0), 245, [.inr (.inr (.inl 226)), .inl (0, 5, []), .inl (99, 2147483647, []), .inl ((-2147483648), 2147483647, [])], ([], [], []), ([(226, 0, 0)], []), [(.inr (some (.inl (ck_one 0))), 245, ([], [], [(226, 0, 0, ck_one 1)]))])
set_option maxRecDepth 100000 in
theorem p2_s313_s {X : Int → Int} {LX : Nat} : ck_Ok p2_O X LX 291 p2_s313 := ck_okq (cuts := []) (f := 110) ⟨p2_nmu, ck_E1 (ck_S1 p2_s290_s ck_S0) (ck_E1 (ck_S1 p2_s241_s ck_S0) (ck_E1 (ck_S1 p2_s295_s ck_S0) ck_E0))⟩ (by decide +kernel)
set_option maxRecDepth 100000 in
/-- GlacierMailModel.flow -/
noncomputable def p2_s314 : ck_Sum := ((2, 0, 0), 245, [.inr (.inr (.inl 226)), .inl (0, 5, []), .inl (0, 98, []), .inl ((-2147483648), (-1), [])], ([], [], []), ([(226, 0, 0)], []), [(.inr (some (.inl (ck_one 0))), 245, ([], [], [(226, 0, 0, (1, 2, []))]))])
set_option maxRecDepth 100000 in
theorem p2_s314_s {X : Int → Int} {LX : Nat} : ck_Ok p2_O X LX 291 p2_s314 := ck_okq (cuts := []) (f := 120) ⟨p2_nmu, ck_E1 (ck_S1 p2_s290_s ck_S0) (ck_E1 (ck_S1 p2_s241_s (ck_S1 p2_s242_s (ck_S1 p2_s244_s ck_S0))) (ck_E1 (ck_S1 p2_s298_s ck_S0) (ck_E1 (ck_S1 p2_s257_s ck_S0) ck_E0)))⟩ (by decide +kernel)
set_option maxRecDepth 100000 in
/-- GlacierMailModel.flow -/
noncomputable def p2_s315 : ck_Sum := ((2, 0, 0), 245, [.inr (.inr (.inl 226)), .inl (0, 5, []), .inl (0, 98, []), .inl (300, 2147483647, [])], ([], [], []), ([(226, 0, 0)], []), [(.inr (some (.inl (ck_one 0))), 245, ([], [], [(226, 0, 0, (1, 2, []))]))])
set_option maxRecDepth 100000 in
theorem p2_s315_s {X : Int → Int} {LX : Nat} : ck_Ok p2_O X LX 291 p2_s315 := ck_okq (cuts := []) (f := 120) ⟨p2_nmu, ck_E1 (ck_S1 p2_s290_s ck_S0) (ck_E1 (ck_S1 p2_s241_s (ck_S1 p2_s242_s (ck_S1 p2_s244_s ck_S0))) (ck_E1 (ck_S1 p2_s298_s ck_S0) (ck_E1 (ck_S1 p2_s260_s ck_S0) ck_E0)))⟩ (by decide +kernel)
set_option maxRecDepth 100000 in
/-- GlacierMailModel.turnsTo -/
noncomputable def p2_s316 : ck_Sum := ((0, 0, 0), 245, [.inr (.inr (.inl 226)), .inl (0, 6, [])], ([], [], []), ([(226, 26, 26), (235, 0, 29699)], []), [(.inr none, 245, ([], [], [(226, 26, 26, (0, 6, []))]))])
set_option maxRecDepth 100000 in
theorem p2_s316_s {X : Int → Int} {LX : Nat} : ck_Ok p2_O X LX 293 p2_s316 := ck_okq (cuts := [(16, [some (.inr (.inr (.inl 226))), some (.inl (0, 6, [])), some (.inl (0, 29700, []))], ([], [], [(226, 26, 26, (0, 6, []))]), 100, .inl 2, true)]) (f := 142) ⟨p2_nmu, ck_E0⟩ (by decide +kernel)
set_option maxRecDepth 100000 in
noncomputable def p2_s318 : ck_Sum := ((4, 0, 0), 245, [.inr (.inr (.inl 226)), .inl (0, 6, []), .inl (0, 98, []), .inl (0, 299, [])], ([], [], [(227, 2, 2, (0, 8, [(20, 0)]))]), ([(226, 17, 23), (226, 26, 26), (233, 0, 399), (235, 0, 29699)], []), [(.inr (some (.inl (0, 30, []))), 245, ([], [], [(226, 26, 26, (0, 6, []))]))])
noncomputable def p2_s318_E : List (Nat × List ck_Sum) := [(293, [p2_s316]), (290, [p2_s299]), (294, [sl_S])]
noncomputable def p2_s318_L : ck_AL := [some (.inr (.inr (.inl 226))), some (.inl (0, 6, [])), some (.inl (0, 98, [])), some (.inl (0, 299, [])), some (.inl (0, 29699, [])), none]
set_option maxRecDepth 100000 in
noncomputable def p2_s318_F : ck_F := ([], [], [(226, 26, 26, (0, 6, [])), (227, 2, 2, (0, 8, [(20, 0)]))])
noncomputable def p2_s318_C : ck_C := (p2_s318_L, p2_s318_F, 0, .inl 4, true)
set_option maxRecDepth 100000 in
theorem p2_s318_a : (decide (p2_s318.2.2.1.length ≤ gm_ml 292) && ck_go p2_O none [] p2_s318_E 292 p2_s318.1.1 p2_s318.2.1 p2_s318.2.2.2.2.1 p2_s318.2.2.2.2.2 [(14, p2_s318_C)] 900 false [(14, p2_s318_C, 0, 0, 245)] p2_s318.1.2.1 p2_s318.1.2.2 0 (p2_s318.2.2.1.map some ++ List.replicate (gm_ml 292 - p2_s318.2.2.1.length) none) [] p2_s318.2.1 p2_s318.2.2.2.1) = true := by decide +kernel
set_option maxRecDepth 100000 in
theorem p2_s318_b : ck_go p2_O none [] p2_s318_E 292 p2_s318.1.1 p2_s318.2.1 p2_s318.2.2.2.2.1 p2_s318.2.2.2.2.2 [] 900 true [] 0 0 34 p2_s318_L [] 245 p2_s318_F = true := by decide +kernel
set_option maxRecDepth 100000 in
theorem p2_s318_f : gm_tyr p2_O 235 0 29699 = some (0, 31) := by decide +kernel
set_option maxRecDepth 100000 in
theorem p2_s318_g : ck_leF p2_O p2_s318_F (([], [], [(226, 26, 26, (0, 6, []))])) = true := by decide +kernel
theorem p2_s318_h {X : Int → Int} {LX : Nat} : ck_nmu p2_O ∧ ck_OkE p2_O X LX p2_s318_E := ⟨p2_nmu, ck_E1 (ck_S1 p2_s316_s ck_S0) (ck_E1 (ck_S1 p2_s299_s ck_S0) (ck_E1 (ck_S1 sl_S_s ck_S0) ck_E0))⟩
theorem p2_s318_s {X : Int → Int} {LX : Nat} : ck_Ok p2_O X LX 292 p2_s318 := by
  refine ck_ok_st (cuts := [(14, p2_s318_C)]) (by decide) p2_s318_h p2_s318_a (fun h hm => ?_)
  rw [List.mem_singleton.mp hm]
  refine ⟨List.mem_singleton.mpr rfl, fun σ K0 R0 M0 v _ bc bs L K R M hb1 hb2 hS _ => ?_⟩
  obtain ⟨hF, hl, hs, hf, hfr⟩ := hS
  obtain ⟨u0, e0, g0⟩ := hl.2 0 (.inr (.inr (.inl 226))) rfl
  cases g0
  obtain ⟨u4, e4, t, rfl, ht1, ht2, ht3, -⟩ := hl.2 4 (.inl (0, 29699, [])) rfl
  have ht2 : (0 : Int) ≤ t := ht2
  have ht3 : t ≤ (29699 : Int) := ht3
  obtain ⟨-, hM1, hM2⟩ := (gm_tyr_s hF p2_s318_f).2 t (by omega) (by omega)
  have hM1 : (0 : Int) ≤ M 235 t := hM1
  have hM2 : M 235 t ≤ (31 : Int) := hM2
  refine ck_flow (O := p2_O) hF (k := 226) (fl := 235) (by decide +kernel) (by decide +kernel) (by decide +kernel) e0 e4 ⟨by omega, by omega⟩ ⟨by omega, by omega⟩ (fun hp => ?_) ?_
  · exact ⟨hF, hfr, _, List.mem_cons_self, ⟨_, rfl, ⟨by omega, by omega⟩, by show (0 : Int) ≤ M 235 t - 1; omega, by show M 235 t - 1 ≤ (30 : Int); omega, fun _ h => nomatch h⟩, rfl, ck_leF_s hF hf p2_s318_g⟩
  · exact gm_Wp_wk (Nat.le_refl _) hb1 hb2 (ck_go_s (σ0 := σ) (cuts := []) (by decide) p2_s318_h ck_X0 ck_l0 900 true [] _ _ 34 _ [] _ _ σ L [] K R M (fun _ _ => rfl) (fun _ h => nomatch h) ⟨hF, hl, rfl, hf, hfr⟩ p2_s318_b)
set_option maxRecDepth 100000 in
/-- GlacierMail$Rows.size -/
noncomputable def p2_s320 : ck_Sum := ((0, 0, 0), 245, [.inr (.inr (.inl 8))], ([], [], []), ([], []), [(.inr (some (.inl (0, 8, []))), 245, ([], [], []))])
set_option maxRecDepth 100000 in
theorem p2_s320_s {X : Int → Int} {LX : Nat} : ck_Ok p2_O X LX 9 p2_s320 := ck_okq (cuts := []) (f := 76) ⟨p2_nmu, ck_E0⟩ (by decide +kernel)
set_option maxRecDepth 100000 in
/-- GlacierMail.need -/
noncomputable def p2_s321 : ck_Sum := ((6, 1, 6), 245, [.inr (.inr (.inl 1)), .inl ((-2147483648), (-1), []), .inl (0, 8, [])], ([], [], []), ([], []), [(.inl 3, 245, ([], [], []))])
set_option maxRecDepth 100000 in
theorem p2_s321_s {X : Int → Int} {LX : Nat} : ck_Ok p2_O X LX 133 p2_s321 := ck_okq (cuts := []) (f := 76) ⟨p2_nmu, ck_E0⟩ (by decide +kernel)
set_option maxRecDepth 100000 in
/-- GlacierMail.needPerson -/
noncomputable def p2_s322 : ck_Sum := ((7, 1, 6), 245, [.inr (.inr (.inl 1)), .inl ((-2147483648), (-1), [])], ([], [], []), ([], []), [(.inl 3, 245, ([], [], []))])
set_option maxRecDepth 100000 in
theorem p2_s322_s {X : Int → Int} {LX : Nat} : ck_Ok p2_O X LX 139 p2_s322 := ck_okq (cuts := []) (f := 84) ⟨p2_nmu, ck_E1 (ck_S1 p2_s320_s ck_S0) (ck_E1 (ck_S1 p2_s321_s ck_S0) ck_E0)⟩ (by decide +kernel)
set_option maxRecDepth 100000 in
/-- GlacierMail.person -/
noncomputable def p2_s323 : ck_Sum := ((8, 1, 6), 245, [.inr (.inr (.inl 1)), .inl ((-2147483648), (-1), []), .inl ((-2147483648), 2147483647, [])], ([], [], []), ([], []), [(.inl 3, 245, ([], [], []))])
set_option maxRecDepth 100000 in
theorem p2_s323_s {X : Int → Int} {LX : Nat} : ck_Ok p2_O X LX 138 p2_s323 := ck_okq (cuts := []) (f := 76) ⟨p2_nmu, ck_E1 (ck_S1 p2_s322_s ck_S0) ck_E0⟩ (by decide +kernel)
set_option maxRecDepth 100000 in
/-- GlacierMail.need -/
noncomputable def p2_s324 : ck_Sum := ((6, 1, 6), 245, [.inr (.inr (.inl 1)), .inl (8, 2147483647, []), .inl (0, 8, [])], ([], [], []), ([], []), [(.inl 3, 245, ([], [], []))])
set_option maxRecDepth 100000 in
theorem p2_s324_s {X : Int → Int} {LX : Nat} : ck_Ok p2_O X LX 133 p2_s324 := ck_okq (cuts := []) (f := 82) ⟨p2_nmu, ck_E0⟩ (by decide +kernel)
set_option maxRecDepth 100000 in
/-- GlacierMail.needPerson -/
noncomputable def p2_s325 : ck_Sum := ((7, 1, 6), 245, [.inr (.inr (.inl 1)), .inl (8, 2147483647, [])], ([], [], []), ([], []), [(.inl 3, 245, ([], [], []))])
set_option maxRecDepth 100000 in
theorem p2_s325_s {X : Int → Int} {LX : Nat} : ck_Ok p2_O X LX 139 p2_s325 := ck_okq (cuts := []) (f := 84) ⟨p2_nmu, ck_E1 (ck_S1 p2_s320_s ck_S0) (ck_E1 (ck_S1 p2_s324_s ck_S0) ck_E0)⟩ (by decide +kernel)
set_option maxRecDepth 100000 in
/-- GlacierMail.person -/
noncomputable def p2_s326 : ck_Sum := ((8, 1, 6), 245, [.inr (.inr (.inl 1)), .inl (8, 2147483647, []), .inl ((-2147483648), 2147483647, [])], ([], [], []), ([], []), [(.inl 3, 245, ([], [], []))])
set_option maxRecDepth 100000 in
theorem p2_s326_s {X : Int → Int} {LX : Nat} : ck_Ok p2_O X LX 138 p2_s326 := ck_okq (cuts := []) (f := 76) ⟨p2_nmu, ck_E1 (ck_S1 p2_s325_s ck_S0) ck_E0⟩ (by decide +kernel)
set_option maxRecDepth 100000 in
/-- GlacierMail.need -/
noncomputable def p2_s327 : ck_Sum := ((6, 1, 6), 245, [.inr (.inr (.inl 1)), .inl (0, 7, []), .inl (0, 8, [])], ([], [], []), ([], []), [(.inr none, 245, ([], [], [])), (.inl 3, 245, ([], [], []))])
set_option maxRecDepth 100000 in
theorem p2_s327_s {X : Int → Int} {LX : Nat} : ck_Ok p2_O X LX 133 p2_s327 := ck_okq (cuts := []) (f := 82) ⟨p2_nmu, ck_E0⟩ (by decide +kernel)
set_option maxRecDepth 100000 in
/-- GlacierMail.needPerson -/
noncomputable def p2_s328 : ck_Sum := ((7, 1, 6), 245, [.inr (.inr (.inl 1)), .inl (0, 7, [])], ([], [], []), ([], []), [(.inl 3, 245, ([], [], [])), (.inr none, 245, ([], [], []))])
set_option maxRecDepth 100000 in
theorem p2_s328_s {X : Int → Int} {LX : Nat} : ck_Ok p2_O X LX 139 p2_s328 := ck_okq (cuts := []) (f := 86) ⟨p2_nmu, ck_E1 (ck_S1 p2_s320_s ck_S0) (ck_E1 (ck_S1 p2_s327_s ck_S0) ck_E0)⟩ (by decide +kernel)
set_option maxRecDepth 100000 in
/-- GlacierMail.person -/
noncomputable def p2_s329 : ck_Sum := ((8, 2, 12), 245, [.inr (.inr (.inl 1)), .inl (0, 7, []), .inl ((-2147483648), (-1), [])], ([], [], []), ([], []), [(.inl 3, 245, ([], [], [])), (.inl 4, 245, ([], [], []))])
set_option maxRecDepth 100000 in
theorem p2_s329_s {X : Int → Int} {LX : Nat} : ck_Ok p2_O X LX 138 p2_s329 := ck_okq (cuts := []) (f := 82) ⟨p2_nmu, ck_E1 (ck_S1 p2_s328_s ck_S0) ck_E0⟩ (by decide +kernel)
set_option maxRecDepth 100000 in
/-- GlacierMail.person -/
noncomputable def p2_s330 : ck_Sum := ((8, 2, 12), 245, [.inr (.inr (.inl 1)), .inl (0, 7, []), .inl (10, 2147483647, [])], ([], [], []), ([], []), [(.inl 3, 245, ([], [], [])), (.inl 4, 245, ([], [], []))])
set_option maxRecDepth 100000 in
theorem p2_s330_s {X : Int → Int} {LX : Nat} : ck_Ok p2_O X LX 138 p2_s330 := ck_okq (cuts := []) (f := 82) ⟨p2_nmu, ck_E1 (ck_S1 p2_s328_s ck_S0) ck_E0⟩ (by decide +kernel)
set_option maxRecDepth 100000 in
/-- GlacierMail$Rows.size -/
noncomputable def p2_s331 : ck_Sum := ((0, 0, 0), 245, [.inr (.inr (.inl 10))], ([], [], []), ([], []), [(.inr (some (.inl (0, 24, []))), 245, ([], [], []))])
set_option maxRecDepth 100000 in
theorem p2_s331_s {X : Int → Int} {LX : Nat} : ck_Ok p2_O X LX 9 p2_s331 := ck_okq (cuts := []) (f := 76) ⟨p2_nmu, ck_E0⟩ (by decide +kernel)
set_option maxRecDepth 100000 in
/-- GlacierMail$Rows.size -/
noncomputable def p2_s332 : ck_Sum := ((0, 0, 0), 245, [.inr (.inr (.inl 220))], ([], [], []), ([], []), [(.inr (some (.inl (0, 24, []))), 245, ([], [], []))])
set_option maxRecDepth 100000 in
theorem p2_s332_s {X : Int → Int} {LX : Nat} : ck_Ok p2_O X LX 9 p2_s332 := ck_okq (cuts := []) (f := 76) ⟨p2_nmu, ck_E0⟩ (by decide +kernel)
set_option maxRecDepth 100000 in
/-- java/util/Arrays.fill -/
noncomputable def p2_s333 : ck_Sum := ((0, 0, 0), 245, [.inr (.inr (.inl 221)), .inl (ck_one 0)], ([], [], []), ([(221, 0, 47)], []), [(.inr none, 245, ([], [], []))])
set_option maxRecDepth 100000 in
theorem p2_s333_s {X : Int → Int} {LX : Nat} : ck_Ok p2_O X LX 8 p2_s333 := ck_okq (cuts := [(5, [some (.inr (.inr (.inl 221))), some (.inl (ck_one 0)), some (.inl (0, 48, [])), some (.inl (ck_one 48))], ([], [], []), 100, .inl 2, true)]) (f := 130) ⟨p2_nmu, ck_E0⟩ (by decide +kernel)
set_option maxRecDepth 100000 in
/-- GlacierMail$Rows.reset -/
noncomputable def p2_s334 : ck_Sum := ((1, 0, 0), 245, [.inr (.inr (.inl 220)), .inl (0, 24, [])], ([], [], []), ([(220, 3, 3), (221, 0, 47)], []), [(.inr none, 245, ([], [], []))])
set_option maxRecDepth 100000 in
theorem p2_s334_s {X : Int → Int} {LX : Nat} : ck_Ok p2_O X LX 25 p2_s334 := ck_okq (cuts := []) (f := 96) ⟨p2_nmu, ck_E1 (ck_S1 p2_s333_s ck_S0) ck_E0⟩ (by decide +kernel)
set_option maxRecDepth 100000 in
/-- GlacierMail$Rows.get -/
noncomputable def p2_s335 : ck_Sum := ((0, 0, 0), 245, [.inr (.inr (.inl 10)), .inl ((-2147483648), 2147483647, []), .inl ((-2147483648), 2147483647, [])], ([], [], []), ([], []), [(.inr (some (.inl ((-1), 299, []))), 245, ([], [], []))])
set_option maxRecDepth 100000 in
theorem p2_s335_s {X : Int → Int} {LX : Nat} : ck_Ok p2_O X LX 10 p2_s335 := ck_okq (cuts := []) (f := 114) ⟨p2_nmu, ck_E0⟩ (by decide +kernel)
set_option maxRecDepth 100000 in
/-- GlacierMail$State.isRock -/
noncomputable def p2_s336 : ck_Sum := ((1, 0, 0), 245, [.inr (.inr (.inl 3)), .inl (0, 23, [])], ([], [], []), ([], []), [(.inr (some (.inl (ck_one 0))), 245, ([], [], [])), (.inr (some (.inl (ck_one 1))), 245, ([], [], []))])
set_option maxRecDepth 100000 in
theorem p2_s336_s {X : Int → Int} {LX : Nat} : ck_Ok p2_O X LX 28 p2_s336 := ck_okq (cuts := []) (f := 90) ⟨p2_nmu, ck_E1 (ck_S1 p2_s335_s ck_S0) ck_E0⟩ (by decide +kernel)
set_option maxRecDepth 100000 in
/-- GlacierMail$Way.start -/
noncomputable def p2_s337 : ck_Sum := ((0, 0, 0), 245, [.inr (.inr (.inl 206)), .inl ((-1), 299, []), .inl ((-1), 299, []), .inl ((-1), 299, []), .inl (ck_one 0)], ([], [], []), ([(206, 2, 8)], []), [(.inr none, 245, ([], [], zl74))])
set_option maxRecDepth 100000 in
theorem p2_s337_s {X : Int → Int} {LX : Nat} : ck_Ok p2_O X LX 29 p2_s337 := ck_okq (cuts := []) (f := 114) ⟨p2_nmu, ck_E0⟩ (by decide +kernel)
set_option maxRecDepth 100000 in
/-- GlacierMail$Way.start -/
noncomputable def p2_s338 : ck_Sum := ((0, 0, 0), 245, [.inr (.inr (.inl 206)), .inl ((-1), 299, []), .inl ((-1), 299, []), .inl ((-1), 299, []), .inl (ck_one 1)], ([], [], []), ([(206, 2, 8)], []), [(.inr none, 245, ([], [], zl75))])
set_option maxRecDepth 100000 in
theorem p2_s338_s {X : Int → Int} {LX : Nat} : ck_Ok p2_O X LX 29 p2_s338 := ck_okq (cuts := []) (f := 114) ⟨p2_nmu, ck_E0⟩ (by decide +kernel)
set_option maxRecDepth 100000 in
/-- GlacierMail$Way.startLetter -/
noncomputable def p2_s339 : ck_Sum := ((2, 0, 0), 245, [.inr (.inr (.inl 206)), .inl (0, 23, [])], ([], [], []), ([(206, 2, 8)], []), [(.inr none, 245, ([], [], zl76))])
set_option maxRecDepth 100000 in
theorem p2_s339_s {X : Int → Int} {LX : Nat} : ck_Ok p2_O X LX 27 p2_s339 := ck_okq (cuts := []) (f := 116) ⟨p2_nmu, ck_E1 (ck_S1 p2_s335_s ck_S0) (ck_E1 (ck_S1 p2_s336_s ck_S0) (ck_E1 (ck_S1 p2_s337_s (ck_S1 p2_s338_s ck_S0)) ck_E0))⟩ (by decide +kernel)
set_option maxRecDepth 100000 in
/-- GlacierMail$Way.isOut -/
noncomputable def p2_s340 : ck_Sum := ((0, 0, 0), 245, [.inr (.inr (.inl 206))], ([], [], []), ([], []), [(.inr (some (.inl (ck_one 0))), 245, ([], [], [(206, 5, 5, ((-2147483648), 98, []))])), (.inr (some (.inl (ck_one 1))), 245, ([], [], [(206, 5, 5, (10, 2147483647, []))]))])
set_option maxRecDepth 100000 in
theorem p2_s340_s {X : Int → Int} {LX : Nat} : ck_Ok p2_O X LX 31 p2_s340 := ck_okq (cuts := []) (f := 88) ⟨p2_nmu, ck_E0⟩ (by decide +kernel)
set_option maxRecDepth 100000 in
/-- GlacierMail$Ice.heatIn -/
noncomputable def p2_s341 : ck_Sum := ((0, 0, 0), 245, [.inr (.inr (.inl 200)), .inl ((-2147483648), 2147483647, [])], ([], [], []), ([], []), [(.inr (some (.inl (0, 9, []))), 245, ([], [], []))])
set_option maxRecDepth 100000 in
theorem p2_s341_s {X : Int → Int} {LX : Nat} : ck_Ok p2_O X LX 34 p2_s341 := ck_okq (cuts := []) (f := 92) ⟨p2_nmu, ck_E0⟩ (by decide +kernel)
set_option maxRecDepth 100000 in
/-- GlacierMail$Way.deepAfter -/
noncomputable def p2_s342 : ck_Sum := ((1, 0, 0), 245, [.inr (.inr (.inl 206))], ([], [], []), ([], []), [(.inr (some (.inl (0, 99, []))), 245, ([], [], []))])
set_option maxRecDepth 100000 in
theorem p2_s342_s {X : Int → Int} {LX : Nat} : ck_Ok p2_O X LX 33 p2_s342 := ck_okq (cuts := []) (f := 110) ⟨p2_nmu, ck_E1 (ck_S1 p2_s341_s ck_S0) ck_E0⟩ (by decide +kernel)
set_option maxRecDepth 100000 in
/-- GlacierMail$Ice.floodsIn -/
noncomputable def p2_s343 : ck_Sum := ((0, 0, 0), 245, [.inr (.inr (.inl 200)), .inl ((-2147483648), 2147483647, [])], ([], [], []), ([], []), [(.inr (some (.inl (ck_one 0))), 245, ([], [], [])), (.inr (some (.inl ((-2147483648), 2147483647, []))), 245, ([], [], []))])
set_option maxRecDepth 100000 in
theorem p2_s343_s {X : Int → Int} {LX : Nat} : ck_Ok p2_O X LX 44 p2_s343 := ck_okq (cuts := []) (f := 92) ⟨p2_nmu, ck_E0⟩ (by decide +kernel)
set_option maxRecDepth 100000 in
/-- GlacierMail$Way.takeFloods -/
noncomputable def p2_s344 : ck_Sum := ((1, 0, 0), 245, [.inr (.inr (.inl 206))], ([], [], []), ([(206, 5, 5), (206, 8, 8)], []), [(.inr none, 245, ([], [], []))])
set_option maxRecDepth 100000 in
theorem p2_s344_s {X : Int → Int} {LX : Nat} : ck_Ok p2_O X LX 43 p2_s344 := ck_okq (cuts := [(22, [some (.inr (.inr (.inl 206))), some (.inr (.inr (.inl 6))), some (.inl ((-2147483648), 2147483647, [])), some (.inl (0, 9, [])), none], ([], [], []), 100, .inl 3, true)]) (f := 290) ⟨p2_nmu, ck_E1 (ck_S1 p2_s343_s ck_S0) (ck_E1 (ck_S1 p2_s139_s ck_S0) (ck_E1 (ck_S1 p2_s140_s ck_S0) ck_E0))⟩ (by decide +kernel)
set_option maxRecDepth 100000 in
/-- GlacierMail$Way.step -/
noncomputable def p2_s345 : ck_Sum := ((2, 0, 0), 245, [.inr (.inr (.inl 206))], ([], [(3, 8, 0)], []), ([(206, 5, 8)], []), [(.inr none, 245, ([], [], []))])
set_option maxRecDepth 100000 in
theorem p2_s345_s {X : Int → Int} {LX : Nat} : ck_Ok p2_O X LX 32 p2_s345 := ck_okq (cuts := []) (f := 134) ⟨p2_nmu, ck_E1 (ck_S1 p2_s340_s ck_S0) (ck_E1 (ck_S1 p2_s342_s ck_S0) (ck_E1 (ck_S1 p2_s308_s ck_S0) (ck_E1 (ck_S1 p2_s344_s ck_S0) ck_E0)))⟩ (by decide +kernel)
set_option maxRecDepth 100000 in
/-- GlacierMail$Way.runOut -/
noncomputable def p2_s346 : ck_Sum := ((3, 0, 0), 245, [.inr (.inr (.inl 206)), .inl (0, 299, [])], ([], [(3, 8, 0)], []), ([(206, 5, 8)], []), [(.inr (some (.inl ((-2147483648), 299, []))), 245, ([], [], []))])
set_option maxRecDepth 100000 in
theorem p2_s346_s {X : Int → Int} {LX : Nat} : ck_Ok p2_O X LX 30 p2_s346 := ck_okq (cuts := [(5, [some (.inr (.inr (.inl 206))), some (.inl (0, 299, [])), some (.inl ((-2147483648), 2147483647, []))], ([], [(3, 8, 0)], []), 100, .inl 2, true)]) (f := 134) ⟨p2_nmu, ck_E1 (ck_S1 p2_s340_s ck_S0) (ck_E1 (ck_S1 p2_s345_s ck_S0) ck_E0)⟩ (by decide +kernel)
set_option maxRecDepth 100000 in
/-- GlacierMail$Rows.put -/
noncomputable def p2_s347 : ck_Sum := ((0, 0, 0), 245, [.inr (.inr (.inl 220)), .inl (0, 23, []), .inl (ck_one 0), .inl ((-2147483648), 299, [])], ([], [], []), (zl77, []), [(.inr none, 245, ([], [], []))])
set_option maxRecDepth 100000 in
theorem p2_s347_s {X : Int → Int} {LX : Nat} : ck_Ok p2_O X LX 45 p2_s347 := ck_okq (cuts := []) (f := 116) ⟨p2_nmu, ck_E0⟩ (by decide +kernel)
set_option maxRecDepth 100000 in
/-- GlacierMail$Rows.put -/
noncomputable def p2_s348 : ck_Sum := ((0, 0, 0), 245, [.inr (.inr (.inl 220)), .inl (0, 23, []), .inl (ck_one 1), .inl (0, 99, [])], ([], [], []), (zl78, []), [(.inr none, 245, ([], [], []))])
set_option maxRecDepth 100000 in
theorem p2_s348_s {X : Int → Int} {LX : Nat} : ck_Ok p2_O X LX 45 p2_s348 := ck_okq (cuts := []) (f := 116) ⟨p2_nmu, ck_E0⟩ (by decide +kernel)
set_option maxRecDepth 100000 in
/-- GlacierMail.reckonEnds -/
noncomputable def p2_s349 : ck_Sum := ((4, 0, 0), 245, [.inr (.inr (.inl 1))], ([], [(3, 8, 0)], []), (zl79, []), [(.inr none, 245, ([], [], [(1, 15, 15, ck_one 1)]))])
set_option maxRecDepth 100000 in
theorem p2_s349_s {X : Int → Int} {LX : Nat} : ck_Ok p2_O X LX 24 p2_s349 := ck_okq (cuts := [(27, [some (.inr (.inr (.inl 1))), some (.inl (0, 24, []))], ([], [(3, 8, 0)], [(1, 15, 15, ck_one 0)]), 100, .inl 1, true)]) (f := 206) ⟨p2_nmu, ck_E1 (ck_S1 p2_s331_s (ck_S1 p2_s332_s ck_S0)) (ck_E1 (ck_S1 p2_s334_s ck_S0) (ck_E1 (ck_S1 p2_s339_s ck_S0) (ck_E1 (ck_S1 p2_s346_s ck_S0) (ck_E1 (ck_S1 p2_s347_s (ck_S1 p2_s348_s ck_S0)) ck_E0))))⟩ (by decide +kernel)
set_option maxRecDepth 100000 in
/-- GlacierMail$Rows.get -/
noncomputable def p2_s350 : ck_Sum := ((0, 0, 0), 245, [.inr (.inr (.inl 220)), .inl ((-2147483648), 2147483647, []), .inl ((-2147483648), 2147483647, [])], ([], [], []), ([], []), [(.inr (some (.inl ((-2147483648), 299, []))), 245, ([], [], []))])
set_option maxRecDepth 100000 in
theorem p2_s350_s {X : Int → Int} {LX : Nat} : ck_Ok p2_O X LX 10 p2_s350 := ck_okq (cuts := []) (f := 114) ⟨p2_nmu, ck_E0⟩ (by decide +kernel)
set_option maxRecDepth 100000 in
/-- GlacierMail.isOutBy -/
noncomputable def p2_s351 : ck_Sum := ((0, 0, 0), 245, [.inr (.inr (.inl 1)), .inl ((-2147483648), 299, []), .inl (0, 299, [])], ([], [], []), ([], []), [(.inr (some (.inl (ck_one 0))), 245, ([], [], [])), (.inr (some (.inl (ck_one 1))), 245, ([], [], []))])
set_option maxRecDepth 100000 in
theorem p2_s351_s {X : Int → Int} {LX : Nat} : ck_Ok p2_O X LX 67 p2_s351 := ck_okq (cuts := []) (f := 88) ⟨p2_nmu, ck_E0⟩ (by decide +kernel)
set_option maxRecDepth 100000 in
/-- GlacierMail.waits -/
noncomputable def p2_s352 : ck_Sum := ((2, 0, 0), 245, [.inr (.inr (.inl 1)), .inl (0, 23, [])], ([], [], [(3, 6, 6, (0, 299, [(10, 0)]))]), ([], []), [(.inr (some (.inl (ck_one 0))), 245, ([], [], [])), (.inr (some (.inl (ck_one 1))), 245, ([], [], []))])
set_option maxRecDepth 100000 in
theorem p2_s352_s {X : Int → Int} {LX : Nat} : ck_Ok p2_O X LX 66 p2_s352 := ck_okq (cuts := []) (f := 134) ⟨p2_nmu, ck_E1 (ck_S1 p2_s336_s ck_S0) (ck_E1 (ck_S1 p2_s335_s (ck_S1 p2_s350_s ck_S0)) (ck_E1 (ck_S1 p2_s351_s ck_S0) ck_E0))⟩ (by decide +kernel)
set_option maxRecDepth 100000 in
/-- GlacierMail.lettersWith -/
noncomputable def p2_s354 : ck_Sum := ((1, 0, 0), 245, [.inr (.inr (.inl 1)), .inl (ck_one 5), .inl (0, 7, [])], ([], [], []), ([], []), [(.inr (some (.inl ((-2147483648), 2147483647, []))), 245, ([], [], []))])
set_option maxRecDepth 100000 in
theorem p2_s354_s {X : Int → Int} {LX : Nat} : ck_Ok p2_O X LX 140 p2_s354 := ck_okq (cuts := [(5, [some (.inr (.inr (.inl 1))), some (.inl (ck_one 5)), some (.inl (0, 7, [])), some (.inl ((-2147483648), 2147483647, [])), some (.inl (0, 24, []))], ([], [], []), 100, .inl 4, true)]) (f := 162) ⟨p2_nmu, ck_E1 (ck_S1 p2_s331_s ck_S0) (ck_E1 (ck_S1 p2_s335_s ck_S0) ck_E0)⟩ (by decide +kernel)
set_option maxRecDepth 100000 in
/-- GlacierMail.lettersWith -/
noncomputable def p2_s355 : ck_Sum := ((1, 0, 0), 245, [.inr (.inr (.inl 1)), .inl (ck_one 0), .inl (0, 7, [])], ([], [], []), ([], []), [(.inr (some (.inl ((-2147483648), 2147483647, []))), 245, ([], [], []))])
set_option maxRecDepth 100000 in
theorem p2_s355_s {X : Int → Int} {LX : Nat} : ck_Ok p2_O X LX 140 p2_s355 := ck_okq (cuts := [(5, [some (.inr (.inr (.inl 1))), some (.inl (ck_one 0)), some (.inl (0, 7, [])), some (.inl ((-2147483648), 2147483647, [])), some (.inl (0, 24, []))], ([], [], []), 100, .inl 4, true)]) (f := 162) ⟨p2_nmu, ck_E1 (ck_S1 p2_s331_s ck_S0) (ck_E1 (ck_S1 p2_s335_s ck_S0) ck_E0)⟩ (by decide +kernel)
set_option maxRecDepth 100000 in
/-- GlacierMail$Rows.get -/
noncomputable def p2_s356 : ck_Sum := ((0, 0, 0), 245, [.inr (.inr (.inl 8)), .inl ((-2147483648), 2147483647, []), .inl ((-2147483648), 2147483647, [])], ([], [], []), ([], []), [(.inr (some (.inl ((-1), 98, []))), 245, ([], [], []))])
set_option maxRecDepth 100000 in
theorem p2_s356_s {X : Int → Int} {LX : Nat} : ck_Ok p2_O X LX 10 p2_s356 := ck_okq (cuts := []) (f := 114) ⟨p2_nmu, ck_E0⟩ (by decide +kernel)
set_option maxRecDepth 100000 in
/-- GlacierMailModel.in -/
noncomputable def p2_s358 : ck_Sum := ((0, 0, 0), 245, [.inl ((-2147483648), (-1), []), .inl (ck_one 0), .inl ((-1), 7, [])], ([], [], []), ([], []), [(.inr (some (.inl (ck_one 0))), 245, ([], [], []))])
set_option maxRecDepth 100000 in
theorem p2_s358_s {X : Int → Int} {LX : Nat} : ck_Ok p2_O X LX 286 p2_s358 := ck_okq (cuts := []) (f := 80) ⟨p2_nmu, ck_E0⟩ (by decide +kernel)
set_option maxRecDepth 100000 in
/-- GlacierMailModel.noPerson -/
noncomputable def p2_s359 : ck_Sum := ((1, 0, 0), 245, [.inr (.inr (.inl 226)), .inl ((-2147483648), (-1), [])], ([], [], [(227, 3, 3, (0, 8, [(21, 0)]))]), ([], []), [(.inr (some (.inl (ck_one 1))), 245, ([], [], []))])
set_option maxRecDepth 100000 in
theorem p2_s359_s {X : Int → Int} {LX : Nat} : ck_Ok p2_O X LX 298 p2_s359 := ck_okq (cuts := []) (f := 92) ⟨p2_nmu, ck_E1 (ck_S1 p2_s186_s ck_S0) (ck_E1 (ck_S1 p2_s358_s ck_S0) ck_E0)⟩ (by decide +kernel)
set_option maxRecDepth 100000 in
/-- GlacierMailModel.person -/
noncomputable def p2_s360 : ck_Sum := ((2, 0, 0), 245, [.inr (.inr (.inl 226)), .inl ((-2147483648), (-1), []), .inl ((-2147483648), 2147483647, [])], ([], [], [(227, 3, 3, (0, 8, [(21, 0)]))]), ([(226, 0, 0)], []), [(.inr (some (.inl (ck_one 0))), 245, ([], [], [(226, 0, 0, ck_one 1)]))])
set_option maxRecDepth 100000 in
theorem p2_s360_s {X : Int → Int} {LX : Nat} : ck_Ok p2_O X LX 297 p2_s360 := ck_okq (cuts := []) (f := 94) ⟨p2_nmu, ck_E1 (ck_S1 p2_s359_s ck_S0) (ck_E1 (ck_S1 p2_s241_s ck_S0) ck_E0)⟩ (by decide +kernel)
end
/-! 78r80a04.sf -/
section
/-! EVERY CALL ENDS, whatever was done before (laid by wip/am/p2k.py). -/
set_option maxRecDepth 100000 in
/-- GlacierMailModel.in -/
noncomputable def p2_s361 : ck_Sum := ((0, 0, 0), 245, [.inl (8, 2147483647, []), .inl (ck_one 0), .inl ((-1), 7, [])], ([], [], []), ([], []), [(.inr (some (.inl (ck_one 0))), 245, ([], [], []))])
set_option maxRecDepth 100000 in
theorem p2_s361_s {X : Int → Int} {LX : Nat} : ck_Ok p2_O X LX 286 p2_s361 := ck_okq (cuts := []) (f := 86) ⟨p2_nmu, ck_E0⟩ (by decide +kernel)
set_option maxRecDepth 100000 in
/-- GlacierMailModel.noPerson -/
noncomputable def p2_s362 : ck_Sum := ((1, 0, 0), 245, [.inr (.inr (.inl 226)), .inl (8, 2147483647, [])], ([], [], [(227, 3, 3, (0, 8, [(21, 0)]))]), ([], []), [(.inr (some (.inl (ck_one 1))), 245, ([], [], []))])
set_option maxRecDepth 100000 in
theorem p2_s362_s {X : Int → Int} {LX : Nat} : ck_Ok p2_O X LX 298 p2_s362 := ck_okq (cuts := []) (f := 92) ⟨p2_nmu, ck_E1 (ck_S1 p2_s186_s ck_S0) (ck_E1 (ck_S1 p2_s361_s ck_S0) ck_E0)⟩ (by decide +kernel)
set_option maxRecDepth 100000 in
/-- GlacierMailModel.person -/
noncomputable def p2_s363 : ck_Sum := ((2, 0, 0), 245, [.inr (.inr (.inl 226)), .inl (8, 2147483647, []), .inl ((-2147483648), 2147483647, [])], ([], [], [(227, 3, 3, (0, 8, [(21, 0)]))]), ([(226, 0, 0)], []), [(.inr (some (.inl (ck_one 0))), 245, ([], [], [(226, 0, 0, ck_one 1)]))])
set_option maxRecDepth 100000 in
theorem p2_s363_s {X : Int → Int} {LX : Nat} : ck_Ok p2_O X LX 297 p2_s363 := ck_okq (cuts := []) (f := 94) ⟨p2_nmu, ck_E1 (ck_S1 p2_s362_s ck_S0) (ck_E1 (ck_S1 p2_s241_s ck_S0) ck_E0)⟩ (by decide +kernel)
set_option maxRecDepth 100000 in
/-- GlacierMailModel.in -/
noncomputable def p2_s364 : ck_Sum := ((0, 0, 0), 245, [.inl (0, 7, []), .inl (ck_one 0), .inl ((-1), 7, [])], ([], [], []), ([], []), [(.inr (some (.inl (ck_one 0))), 245, ([], [], [])), (.inr (some (.inl (ck_one 1))), 245, ([], [], []))])
set_option maxRecDepth 100000 in
theorem p2_s364_s {X : Int → Int} {LX : Nat} : ck_Ok p2_O X LX 286 p2_s364 := ck_okq (cuts := []) (f := 88) ⟨p2_nmu, ck_E0⟩ (by decide +kernel)
set_option maxRecDepth 100000 in
/-- GlacierMailModel.noPerson -/
noncomputable def p2_s365 : ck_Sum := ((1, 0, 0), 245, [.inr (.inr (.inl 226)), .inl (0, 7, [])], ([], [], [(227, 3, 3, (0, 8, [(21, 0)]))]), ([], []), [(.inr (some (.inl (ck_one 1))), 245, ([], [], [])), (.inr (some (.inl (ck_one 0))), 245, ([], [], []))])
set_option maxRecDepth 100000 in
theorem p2_s365_s {X : Int → Int} {LX : Nat} : ck_Ok p2_O X LX 298 p2_s365 := ck_okq (cuts := []) (f := 92) ⟨p2_nmu, ck_E1 (ck_S1 p2_s186_s ck_S0) (ck_E1 (ck_S1 p2_s364_s ck_S0) ck_E0)⟩ (by decide +kernel)
set_option maxRecDepth 100000 in
/-- GlacierMailModel.in -/
noncomputable def p2_s366 : ck_Sum := ((0, 0, 0), 245, [.inl ((-2147483648), (-1), []), .inl (ck_one 0), .inl (ck_one 5)], ([], [], []), ([], []), [(.inr (some (.inl (ck_one 0))), 245, ([], [], []))])
set_option maxRecDepth 100000 in
theorem p2_s366_s {X : Int → Int} {LX : Nat} : ck_Ok p2_O X LX 286 p2_s366 := ck_okq (cuts := []) (f := 80) ⟨p2_nmu, ck_E0⟩ (by decide +kernel)
set_option maxRecDepth 100000 in
/-- GlacierMailModel.person -/
noncomputable def p2_s367 : ck_Sum := ((2, 0, 0), 245, [.inr (.inr (.inl 226)), .inl (0, 7, []), .inl ((-2147483648), (-1), [])], ([], [], [(227, 3, 3, (0, 8, [(21, 0)]))]), ([(226, 0, 0)], []), [(.inr (some (.inl (ck_one 0))), 245, ([], [], [(226, 0, 0, (1, 2, []))]))])
set_option maxRecDepth 100000 in
theorem p2_s367_s {X : Int → Int} {LX : Nat} : ck_Ok p2_O X LX 297 p2_s367 := ck_okq (cuts := []) (f := 116) ⟨p2_nmu, ck_E1 (ck_S1 p2_s365_s ck_S0) (ck_E1 (ck_S1 p2_s241_s (ck_S1 p2_s242_s (ck_S1 p2_s244_s ck_S0))) (ck_E1 (ck_S1 p2_s366_s ck_S0) ck_E0))⟩ (by decide +kernel)
set_option maxRecDepth 100000 in
/-- GlacierMailModel.in -/
noncomputable def p2_s368 : ck_Sum := ((0, 0, 0), 245, [.inl (10, 2147483647, []), .inl (ck_one 0), .inl (ck_one 5)], ([], [], []), ([], []), [(.inr (some (.inl (ck_one 0))), 245, ([], [], []))])
set_option maxRecDepth 100000 in
theorem p2_s368_s {X : Int → Int} {LX : Nat} : ck_Ok p2_O X LX 286 p2_s368 := ck_okq (cuts := []) (f := 86) ⟨p2_nmu, ck_E0⟩ (by decide +kernel)
set_option maxRecDepth 100000 in
/-- GlacierMailModel.person -/
noncomputable def p2_s369 : ck_Sum := ((2, 0, 0), 245, [.inr (.inr (.inl 226)), .inl (0, 7, []), .inl (10, 2147483647, [])], ([], [], [(227, 3, 3, (0, 8, [(21, 0)]))]), ([(226, 0, 0)], []), [(.inr (some (.inl (ck_one 0))), 245, ([], [], [(226, 0, 0, (1, 2, []))]))])
set_option maxRecDepth 100000 in
theorem p2_s369_s {X : Int → Int} {LX : Nat} : ck_Ok p2_O X LX 297 p2_s369 := ck_okq (cuts := []) (f := 116) ⟨p2_nmu, ck_E1 (ck_S1 p2_s365_s ck_S0) (ck_E1 (ck_S1 p2_s241_s (ck_S1 p2_s242_s (ck_S1 p2_s244_s ck_S0))) (ck_E1 (ck_S1 p2_s368_s ck_S0) ck_E0))⟩ (by decide +kernel)
set_option maxRecDepth 100000 in
/-- GlacierMailModel.in -/
noncomputable def p2_s370 : ck_Sum := ((0, 0, 0), 245, [.inl (0, 9, []), .inl (ck_one 0), .inl (ck_one 5)], ([], [], []), ([], []), [(.inr (some (.inl (ck_one 0))), 245, ([], [], [])), (.inr (some (.inl (ck_one 1))), 245, ([], [], []))])
set_option maxRecDepth 100000 in
theorem p2_s370_s {X : Int → Int} {LX : Nat} : ck_Ok p2_O X LX 286 p2_s370 := ck_okq (cuts := []) (f := 88) ⟨p2_nmu, ck_E0⟩ (by decide +kernel)
set_option maxRecDepth 100000 in
/-- GlacierMailModel.ofLetter -/
noncomputable def p2_s371 : ck_Sum := ((0, 0, 0), 245, [.inr (.inr (.inl 226)), .inl (0, 23, []), .inl (ck_one 1)], ([], [], []), ([], []), [(.inr (some (.inl (ck_one (-1)))), 245, ([], [], [])), (.inr (some (.inl (0, 7, []))), 245, ([], [], []))])
set_option maxRecDepth 100000 in
theorem p2_s371_s {X : Int → Int} {LX : Nat} : ck_Ok p2_O X LX 301 p2_s371 := ck_okq (cuts := []) (f := 92) ⟨p2_nmu, ck_E0⟩ (by decide +kernel)
set_option maxRecDepth 100000 in
/-- GlacierMailModel.ofLetter -/
noncomputable def p2_s372 : ck_Sum := ((0, 0, 0), 245, [.inr (.inr (.inl 226)), .inl (0, 23, []), .inl (ck_one 5)], ([], [], []), ([], []), [(.inr (some (.inl (ck_one (-1)))), 245, ([], [], [])), (.inr (some (.inl (0, 7, []))), 245, ([], [], []))])
set_option maxRecDepth 100000 in
theorem p2_s372_s {X : Int → Int} {LX : Nat} : ck_Ok p2_O X LX 301 p2_s372 := ck_okq (cuts := []) (f := 92) ⟨p2_nmu, ck_E0⟩ (by decide +kernel)
set_option maxRecDepth 100000 in
/-- GlacierMailModel.ofLetter -/
noncomputable def p2_s373 : ck_Sum := ((0, 0, 0), 245, [.inr (.inr (.inl 226)), .inl (0, 23, []), .inl (ck_one 0)], ([], [], []), ([], []), [(.inr (some (.inl (ck_one (-1)))), 245, ([], [], [])), (.inr (some (.inl (0, 7, []))), 245, ([], [], []))])
set_option maxRecDepth 100000 in
theorem p2_s373_s {X : Int → Int} {LX : Nat} : ck_Ok p2_O X LX 301 p2_s373 := ck_okq (cuts := []) (f := 92) ⟨p2_nmu, ck_E0⟩ (by decide +kernel)
set_option maxRecDepth 100000 in
/-- GlacierMailModel.isRock -/
noncomputable def p2_s374 : ck_Sum := ((1, 0, 0), 245, [.inr (.inr (.inl 226)), .inl (0, 23, [])], ([], [], []), ([], []), [(.inr (some (.inl (ck_one 1))), 245, ([], [], [])), (.inr (some (.inl (ck_one 0))), 245, ([], [], []))])
set_option maxRecDepth 100000 in
theorem p2_s374_s {X : Int → Int} {LX : Nat} : ck_Ok p2_O X LX 303 p2_s374 := ck_okq (cuts := []) (f := 86) ⟨p2_nmu, ck_E1 (ck_S1 p2_s373_s ck_S0) ck_E0⟩ (by decide +kernel)
set_option maxRecDepth 100000 in
/-- GlacierMailModel.ofLetter -/
noncomputable def p2_s375 : ck_Sum := ((0, 0, 0), 245, [.inr (.inr (.inl 226)), .inl (0, 23, []), .inl (ck_one 2)], ([], [], []), ([], []), [(.inr (some (.inl (0, 6, []))), 245, ([], [], []))])
set_option maxRecDepth 100000 in
theorem p2_s375_s {X : Int → Int} {LX : Nat} : ck_Ok p2_O X LX 301 p2_s375 := ck_okq (cuts := []) (f := 92) ⟨p2_nmu, ck_E0⟩ (by decide +kernel)
set_option maxRecDepth 100000 in
/-- GlacierMailModel.ofLetter -/
noncomputable def p2_s376 : ck_Sum := ((0, 0, 0), 245, [.inr (.inr (.inl 226)), .inl (0, 23, []), .inl (ck_one 4)], ([], [], []), ([], []), [(.inr (some (.inl (0, 98, []))), 245, ([], [], []))])
set_option maxRecDepth 100000 in
theorem p2_s376_s {X : Int → Int} {LX : Nat} : ck_Ok p2_O X LX 301 p2_s376 := ck_okq (cuts := []) (f := 92) ⟨p2_nmu, ck_E0⟩ (by decide +kernel)
set_option maxRecDepth 100000 in
/-- GlacierMailModel.ofLetter -/
noncomputable def p2_s377 : ck_Sum := ((0, 0, 0), 245, [.inr (.inr (.inl 226)), .inl (0, 23, []), .inl (ck_one 3)], ([], [], []), ([], []), [(.inr (some (.inl (0, 299, []))), 245, ([], [], []))])
set_option maxRecDepth 100000 in
theorem p2_s377_s {X : Int → Int} {LX : Nat} : ck_Ok p2_O X LX 301 p2_s377 := ck_okq (cuts := []) (f := 92) ⟨p2_nmu, ck_E0⟩ (by decide +kernel)
set_option maxRecDepth 100000 in
/-- GlacierMailModel.floods -/
noncomputable def p2_s378 : ck_Sum := ((0, 0, 0), 245, [.inr (.inr (.inl 226)), .inl (0, 128, []), .inl (0, 299, []), .inl ((-1), 7, [])], ([], [], [(227, 5, 5, (0, 8, [(23, 0)]))]), ([(226, 30, 30)], []), [(.inr (some (.inl (0, 288, []))), 245, ([], [], []))])
noncomputable def p2_s378_E : List (Nat × List ck_Sum) := []
noncomputable def p2_s378_i : List (Nat × ck_C) := []
set_option maxRecDepth 100000 in
noncomputable def p2_s378_l : List ck_H := [(6, ([some (.inr (.inr (.inl 226))), some (.inl (0, 128, [])), some (.inl (0, 299, [])), some (.inl ((-1), 7, [])), some (.inl (0, 288, [])), some (.inl (ck_one 8)), some (.inl (ck_one 92))], ([], [], [(227, 5, 5, (8, 8, [(23, 0)]))]), 2000000, .inl 4, true), 0, 0, 245), (6, ([some (.inr (.inr (.inl 226))), some (.inl (0, 128, [])), some (.inl (0, 299, [])), some (.inl ((-1), 7, [])), some (.inl (0, 268, [])), some (.inl (ck_one 7)), some (.inl (ck_one 89))], ([], [], [(227, 5, 5, (7, 8, [(23, 0)]))]), 2000001, .inl 4, true), 0, 0, 245), (6, ([some (.inr (.inr (.inl 226))), some (.inl (0, 128, [])), some (.inl (0, 299, [])), some (.inl ((-1), 7, [])), some (.inl (0, 248, [])), some (.inl (ck_one 6)), some (.inl (ck_one 86))], ([], [], [(227, 5, 5, (6, 8, [(23, 0)]))]), 2000002, .inl 4, true), 0, 0, 245), (6, ([some (.inr (.inr (.inl 226))), some (.inl (0, 128, [])), some (.inl (0, 299, [])), some (.inl ((-1), 7, [])), some (.inl (0, 228, [])), some (.inl (ck_one 5)), some (.inl (ck_one 83))], ([], [], [(227, 5, 5, (5, 8, [(23, 0)]))]), 2000003, .inl 4, true), 0, 0, 245), (6, ([some (.inr (.inr (.inl 226))), some (.inl (0, 128, [])), some (.inl (0, 299, [])), some (.inl ((-1), 7, [])), some (.inl (0, 208, [])), some (.inl (ck_one 4)), some (.inl (ck_one 80))], ([], [], [(227, 5, 5, (4, 8, [(23, 0)]))]), 2000004, .inl 4, true), 0, 0, 245), (6, ([some (.inr (.inr (.inl 226))), some (.inl (0, 128, [])), some (.inl (0, 299, [])), some (.inl ((-1), 7, [])), some (.inl (0, 188, [])), some (.inl (ck_one 3)), some (.inl (ck_one 77))], ([], [], [(227, 5, 5, (3, 8, [(23, 0)]))]), 2000005, .inl 4, true), 0, 0, 245), (6, ([some (.inr (.inr (.inl 226))), some (.inl (0, 128, [])), some (.inl (0, 299, [])), some (.inl ((-1), 7, [])), some (.inl (0, 168, [])), some (.inl (ck_one 2)), some (.inl (ck_one 74))], ([], [], [(227, 5, 5, (2, 8, [(23, 0)]))]), 2000006, .inl 4, true), 0, 0, 245), (6, ([some (.inr (.inr (.inl 226))), some (.inl (0, 128, [])), some (.inl (0, 299, [])), some (.inl ((-1), 7, [])), some (.inl (0, 148, [])), some (.inl (ck_one 1)), some (.inl (ck_one 71))], ([], [], [(227, 5, 5, (1, 8, [(23, 0)]))]), 2000007, .inl 4, true), 0, 0, 245), (6, ([some (.inr (.inr (.inl 226))), some (.inl (0, 128, [])), some (.inl (0, 299, [])), some (.inl ((-1), 7, [])), some (.inl (0, 128, [])), some (.inl (ck_one 0)), none], ([], [], [(227, 5, 5, (0, 8, [(23, 0)]))]), 2000008, .inl 4, true), 0, 0, 245)]
set_option maxRecDepth 100000 in
theorem p2_s378_a : (decide (p2_s378.2.2.1.length ≤ gm_ml 307) && ck_cu (p2_s378_l.map (fun h => (h.1, h.2.1)) ++ p2_s378_i)) = true := by decide +kernel
set_option maxRecDepth 100000 in
theorem p2_s378_e0 : ck_stpi p2_O p2_s378_E 307 p2_s378.1.1 p2_s378.2.1 p2_s378.2.2.2.2.1 p2_s378.2.2.2.2.2 (p2_s378_l.map (fun h => (h.1, h.2.1)) ++ p2_s378_i) 1290 p2_s378_l 0 = true := by decide +kernel
set_option maxRecDepth 100000 in
theorem p2_s378_e1 : ck_stpi p2_O p2_s378_E 307 p2_s378.1.1 p2_s378.2.1 p2_s378.2.2.2.2.1 p2_s378.2.2.2.2.2 (p2_s378_l.map (fun h => (h.1, h.2.1)) ++ p2_s378_i) 1290 p2_s378_l 1 = true := by decide +kernel
set_option maxRecDepth 100000 in
theorem p2_s378_e2 : ck_stpi p2_O p2_s378_E 307 p2_s378.1.1 p2_s378.2.1 p2_s378.2.2.2.2.1 p2_s378.2.2.2.2.2 (p2_s378_l.map (fun h => (h.1, h.2.1)) ++ p2_s378_i) 1290 p2_s378_l 2 = true := by decide +kernel
set_option maxRecDepth 100000 in
theorem p2_s378_e3 : ck_stpi p2_O p2_s378_E 307 p2_s378.1.1 p2_s378.2.1 p2_s378.2.2.2.2.1 p2_s378.2.2.2.2.2 (p2_s378_l.map (fun h => (h.1, h.2.1)) ++ p2_s378_i) 1290 p2_s378_l 3 = true := by decide +kernel
set_option maxRecDepth 100000 in
theorem p2_s378_e4 : ck_stpi p2_O p2_s378_E 307 p2_s378.1.1 p2_s378.2.1 p2_s378.2.2.2.2.1 p2_s378.2.2.2.2.2 (p2_s378_l.map (fun h => (h.1, h.2.1)) ++ p2_s378_i) 1290 p2_s378_l 4 = true := by decide +kernel
set_option maxRecDepth 100000 in
theorem p2_s378_e5 : ck_stpi p2_O p2_s378_E 307 p2_s378.1.1 p2_s378.2.1 p2_s378.2.2.2.2.1 p2_s378.2.2.2.2.2 (p2_s378_l.map (fun h => (h.1, h.2.1)) ++ p2_s378_i) 1290 p2_s378_l 5 = true := by decide +kernel
set_option maxRecDepth 100000 in
theorem p2_s378_e6 : ck_stpi p2_O p2_s378_E 307 p2_s378.1.1 p2_s378.2.1 p2_s378.2.2.2.2.1 p2_s378.2.2.2.2.2 (p2_s378_l.map (fun h => (h.1, h.2.1)) ++ p2_s378_i) 1290 p2_s378_l 6 = true := by decide +kernel
set_option maxRecDepth 100000 in
theorem p2_s378_e7 : ck_stpi p2_O p2_s378_E 307 p2_s378.1.1 p2_s378.2.1 p2_s378.2.2.2.2.1 p2_s378.2.2.2.2.2 (p2_s378_l.map (fun h => (h.1, h.2.1)) ++ p2_s378_i) 1290 p2_s378_l 7 = true := by decide +kernel
set_option maxRecDepth 100000 in
theorem p2_s378_e8 : ck_stpi p2_O p2_s378_E 307 p2_s378.1.1 p2_s378.2.1 p2_s378.2.2.2.2.1 p2_s378.2.2.2.2.2 (p2_s378_l.map (fun h => (h.1, h.2.1)) ++ p2_s378_i) 1290 p2_s378_l 8 = true := by decide +kernel
set_option maxRecDepth 100000 in
theorem p2_s378_z : ck_go p2_O none [] p2_s378_E 307 p2_s378.1.1 p2_s378.2.1 p2_s378.2.2.2.2.1 p2_s378.2.2.2.2.2 (p2_s378_l.map (fun h => (h.1, h.2.1)) ++ p2_s378_i) 1290 false p2_s378_l p2_s378.1.2.1 p2_s378.1.2.2 0 (p2_s378.2.2.1.map some ++ List.replicate (gm_ml 307 - p2_s378.2.2.1.length) none) [] p2_s378.2.1 p2_s378.2.2.2.1 = true := by decide +kernel
theorem p2_s378_s {X : Int → Int} {LX : Nat} : ck_Ok p2_O X LX 307 p2_s378 := by
  refine ck_okp_i (cuts := p2_s378_i) (l := p2_s378_l) (f := 1290) ⟨p2_nmu, ck_E0⟩ p2_s378_a (fun i hi => ?_) p2_s378_z
  have hi : i < 9 := hi
  have : i = 0 ∨ i = 1 ∨ i = 2 ∨ i = 3 ∨ i = 4 ∨ i = 5 ∨ i = 6 ∨ i = 7 ∨ i = 8 := by omega
  rcases this with rfl | rfl | rfl | rfl | rfl | rfl | rfl | rfl | rfl
  · exact p2_s378_e0
  · exact p2_s378_e1
  · exact p2_s378_e2
  · exact p2_s378_e3
  · exact p2_s378_e4
  · exact p2_s378_e5
  · exact p2_s378_e6
  · exact p2_s378_e7
  · exact p2_s378_e8
set_option maxRecDepth 100000 in
/-- GlacierMailModel.runs -/
noncomputable def p2_s379 : ck_Sum := ((5, 0, 0), 245, [.inr (.inr (.inl 226)), .inl (0, 6, []), .inl (0, 98, []), .inl (0, 299, []), .inl (0, 1, []), .inl ((-1), 7, [])], ([], [], zl80), (zl81, []), [(.inr none, 245, ([], [], []))])
set_option maxRecDepth 100000 in
theorem p2_s379_s {X : Int → Int} {LX : Nat} : ck_Ok p2_O X LX 306 p2_s379 := ck_okq (cuts := [(3, [some (.inr (.inr (.inl 226))), some (.inl (0, 6, [])), some (.inl (0, 98, [])), some (.inl (0, 299, [])), some (.inl (0, 1, [])), some (.inl ((-1), 7, [])), some (.inl (0, 299, [])), none, none], ([], [], [(227, 2, 2, (0, 8, [(20, 0)])), (227, 5, 5, (0, 8, [(23, 0)]))]), 100, .inl 6, true), (50, [some (.inr (.inr (.inl 226))), some (.inl (0, 6, [])), some (.inl (0, 98, [])), some (.inl (0, 299, [])), some (.inl (0, 1, [])), some (.inl ((-1), 7, [])), some (.inl (0, 288, [])), some (.inl (0, 99, [])), some (.inl (0, 300, []))], ([], [], [(226, 29, 29, ((-1), 299, [])), (227, 2, 2, (0, 8, [(20, 0)])), (227, 5, 5, (0, 8, [(23, 0)]))]), 300, .inl 8, true)]) (f := 506) ⟨p2_nmu, ck_E1 (ck_S1 p2_s180_s ck_S0) (ck_E1 (ck_S1 p2_s318_s ck_S0) (ck_E1 (ck_S1 p2_s378_s ck_S0) ck_E0))⟩ (by decide +kernel)
set_option maxRecDepth 100000 in
/-- GlacierMailModel.runsLetter -/
noncomputable def p2_s380 : ck_Sum := ((6, 0, 0), 245, [.inr (.inr (.inl 226)), .inl (0, 23, []), .inl ((-1), 7, [])], ([], [], zl80), (zl81, []), [(.inr none, 245, ([], [], []))])
set_option maxRecDepth 100000 in
theorem p2_s380_s {X : Int → Int} {LX : Nat} : ck_Ok p2_O X LX 305 p2_s380 := ck_okq (cuts := []) (f := 108) ⟨p2_nmu, ck_E1 (ck_S1 p2_s375_s (ck_S1 p2_s376_s (ck_S1 p2_s377_s ck_S0))) (ck_E1 (ck_S1 p2_s374_s ck_S0) (ck_E1 (ck_S1 p2_s379_s ck_S0) ck_E0))⟩ (by decide +kernel)
set_option maxRecDepth 100000 in
/-- GlacierMailModel.outOf -/
noncomputable def p2_s381 : ck_Sum := ((7, 0, 0), 245, [.inr (.inr (.inl 226)), .inl (0, 23, [])], ([], [], zl80), (zl81, []), zl82)
set_option maxRecDepth 100000 in
theorem p2_s381_s {X : Int → Int} {LX : Nat} : ck_Ok p2_O X LX 304 p2_s381 := ck_okq (cuts := []) (f := 84) ⟨p2_nmu, ck_E1 (ck_S1 p2_s380_s ck_S0) ck_E0⟩ (by decide +kernel)
set_option maxRecDepth 100000 in
/-- GlacierMailModel.of -/
noncomputable def p2_s384 : ck_Sum := ((0, 0, 0), 245, [.inr (.inr (.inl 226)), .inl (0, 7, []), .inl (0, 2, [])], ([], [], []), ([], []), [(.inr (some (.inl ((-1), 98, []))), 245, ([], [], []))])
set_option maxRecDepth 100000 in
theorem p2_s384_s {X : Int → Int} {LX : Nat} : ck_Ok p2_O X LX 299 p2_s384 := ck_okq (cuts := []) (f := 92) ⟨p2_nmu, ck_E0⟩ (by decide +kernel)
set_option maxRecDepth 100000 in
/-- GlacierMail.need -/
noncomputable def p2_s386 : ck_Sum := ((6, 1, 6), 245, [.inr (.inr (.inl 1)), .inl ((-2147483648), (-1), []), .inl (0, 24, [])], ([], [], []), ([], []), [(.inl 3, 245, ([], [], []))])
set_option maxRecDepth 100000 in
theorem p2_s386_s {X : Int → Int} {LX : Nat} : ck_Ok p2_O X LX 133 p2_s386 := ck_okq (cuts := []) (f := 76) ⟨p2_nmu, ck_E0⟩ (by decide +kernel)
set_option maxRecDepth 100000 in
/-- GlacierMail.needLetter -/
noncomputable def p2_s387 : ck_Sum := ((7, 1, 6), 245, [.inr (.inr (.inl 1)), .inl ((-2147483648), (-1), [])], ([], [], []), ([], []), [(.inl 3, 245, ([], [], []))])
set_option maxRecDepth 100000 in
theorem p2_s387_s {X : Int → Int} {LX : Nat} : ck_Ok p2_O X LX 143 p2_s387 := ck_okq (cuts := []) (f := 84) ⟨p2_nmu, ck_E1 (ck_S1 p2_s331_s ck_S0) (ck_E1 (ck_S1 p2_s386_s ck_S0) ck_E0)⟩ (by decide +kernel)
set_option maxRecDepth 100000 in
/-- GlacierMail.letter -/
noncomputable def p2_s388 : ck_Sum := ((8, 1, 6), 245, [.inr (.inr (.inl 1)), .inl ((-2147483648), (-1), []), .inl ((-2147483648), 2147483647, [])], ([], [], []), ([], []), [(.inl 3, 245, ([], [], []))])
set_option maxRecDepth 100000 in
theorem p2_s388_s {X : Int → Int} {LX : Nat} : ck_Ok p2_O X LX 142 p2_s388 := ck_okq (cuts := []) (f := 76) ⟨p2_nmu, ck_E1 (ck_S1 p2_s387_s ck_S0) ck_E0⟩ (by decide +kernel)
set_option maxRecDepth 100000 in
/-- GlacierMail.need -/
noncomputable def p2_s389 : ck_Sum := ((6, 1, 6), 245, [.inr (.inr (.inl 1)), .inl (24, 2147483647, []), .inl (0, 24, [])], ([], [], []), ([], []), [(.inl 3, 245, ([], [], []))])
set_option maxRecDepth 100000 in
theorem p2_s389_s {X : Int → Int} {LX : Nat} : ck_Ok p2_O X LX 133 p2_s389 := ck_okq (cuts := []) (f := 82) ⟨p2_nmu, ck_E0⟩ (by decide +kernel)
set_option maxRecDepth 100000 in
/-- GlacierMail.needLetter -/
noncomputable def p2_s390 : ck_Sum := ((7, 1, 6), 245, [.inr (.inr (.inl 1)), .inl (24, 2147483647, [])], ([], [], []), ([], []), [(.inl 3, 245, ([], [], []))])
set_option maxRecDepth 100000 in
theorem p2_s390_s {X : Int → Int} {LX : Nat} : ck_Ok p2_O X LX 143 p2_s390 := ck_okq (cuts := []) (f := 84) ⟨p2_nmu, ck_E1 (ck_S1 p2_s331_s ck_S0) (ck_E1 (ck_S1 p2_s389_s ck_S0) ck_E0)⟩ (by decide +kernel)
set_option maxRecDepth 100000 in
/-- GlacierMail.letter -/
noncomputable def p2_s391 : ck_Sum := ((8, 1, 6), 245, [.inr (.inr (.inl 1)), .inl (24, 2147483647, []), .inl ((-2147483648), 2147483647, [])], ([], [], []), ([], []), [(.inl 3, 245, ([], [], []))])
set_option maxRecDepth 100000 in
theorem p2_s391_s {X : Int → Int} {LX : Nat} : ck_Ok p2_O X LX 142 p2_s391 := ck_okq (cuts := []) (f := 76) ⟨p2_nmu, ck_E1 (ck_S1 p2_s390_s ck_S0) ck_E0⟩ (by decide +kernel)
set_option maxRecDepth 100000 in
/-- GlacierMail.need -/
noncomputable def p2_s392 : ck_Sum := ((6, 1, 6), 245, [.inr (.inr (.inl 1)), .inl (0, 23, []), .inl (0, 24, [])], ([], [], []), ([], []), [(.inr none, 245, ([], [], [])), (.inl 3, 245, ([], [], []))])
set_option maxRecDepth 100000 in
theorem p2_s392_s {X : Int → Int} {LX : Nat} : ck_Ok p2_O X LX 133 p2_s392 := ck_okq (cuts := []) (f := 82) ⟨p2_nmu, ck_E0⟩ (by decide +kernel)
set_option maxRecDepth 100000 in
/-- GlacierMail.needLetter -/
noncomputable def p2_s393 : ck_Sum := ((7, 1, 6), 245, [.inr (.inr (.inl 1)), .inl (0, 23, [])], ([], [], []), ([], []), [(.inl 3, 245, ([], [], [])), (.inr none, 245, ([], [], []))])
set_option maxRecDepth 100000 in
theorem p2_s393_s {X : Int → Int} {LX : Nat} : ck_Ok p2_O X LX 143 p2_s393 := ck_okq (cuts := []) (f := 86) ⟨p2_nmu, ck_E1 (ck_S1 p2_s331_s ck_S0) (ck_E1 (ck_S1 p2_s392_s ck_S0) ck_E0)⟩ (by decide +kernel)
set_option maxRecDepth 100000 in
/-- GlacierMail.letter -/
noncomputable def p2_s394 : ck_Sum := ((8, 2, 12), 245, [.inr (.inr (.inl 1)), .inl (0, 23, []), .inl ((-2147483648), (-1), [])], ([], [], []), ([], []), [(.inl 3, 245, ([], [], [])), (.inl 4, 245, ([], [], []))])
set_option maxRecDepth 100000 in
theorem p2_s394_s {X : Int → Int} {LX : Nat} : ck_Ok p2_O X LX 142 p2_s394 := ck_okq (cuts := []) (f := 82) ⟨p2_nmu, ck_E1 (ck_S1 p2_s393_s ck_S0) ck_E0⟩ (by decide +kernel)
set_option maxRecDepth 100000 in
/-- GlacierMail.letter -/
noncomputable def p2_s395 : ck_Sum := ((8, 2, 12), 245, [.inr (.inr (.inl 1)), .inl (0, 23, []), .inl (10, 2147483647, [])], ([], [], []), ([], []), [(.inl 3, 245, ([], [], [])), (.inl 4, 245, ([], [], []))])
set_option maxRecDepth 100000 in
theorem p2_s395_s {X : Int → Int} {LX : Nat} : ck_Ok p2_O X LX 142 p2_s395 := ck_okq (cuts := []) (f := 82) ⟨p2_nmu, ck_E1 (ck_S1 p2_s393_s ck_S0) ck_E0⟩ (by decide +kernel)
set_option maxRecDepth 100000 in
/-- GlacierMail.firstBare -/
noncomputable def p2_s396 : ck_Sum := ((3, 0, 0), 245, [.inr (.inr (.inl 1)), .inl (0, 23, [])], ([], [(3, 8, 0)], []), ([(206, 2, 8)], []), [(.inr (some (.inl (ck_one (-1)))), 245, ([], [], zl86)), (.inr (some (.inl (0, 299, []))), 245, ([], [], zl87))])
set_option maxRecDepth 100000 in
theorem p2_s396_s {X : Int → Int} {LX : Nat} : ck_Ok p2_O X LX 145 p2_s396 := ck_okq (cuts := [(18, [some (.inr (.inr (.inl 1))), some (.inl (0, 23, [])), some (.inl (0, 300, []))], ([], [(3, 8, 0)], [(206, 6, 6, (0, 99, [])), (206, 4, 4, ck_one (-1)), (206, 5, 5, ((-2147483648), 299, [])), (206, 2, 2, ((-1), 299, []))]), 100, .inl 2, true)]) (f := 158) ⟨p2_nmu, ck_E1 (ck_S1 p2_s339_s ck_S0) (ck_E1 (ck_S1 p2_s345_s ck_S0) (ck_E1 (ck_S1 p2_s340_s ck_S0) ck_E0))⟩ (by decide +kernel)
set_option maxRecDepth 100000 in
/-- GlacierMail.outOf -/
noncomputable def p2_s397 : ck_Sum := ((4, 0, 0), 245, [.inr (.inr (.inl 1)), .inl (0, 23, [])], ([], [(3, 8, 0)], []), ([(206, 2, 8)], []), [(.inr (some (.inl ((-2147483648), 299, []))), 245, ([], [], zl86))])
set_option maxRecDepth 100000 in
theorem p2_s397_s {X : Int → Int} {LX : Nat} : ck_Ok p2_O X LX 144 p2_s397 := ck_okq (cuts := []) (f := 88) ⟨p2_nmu, ck_E1 (ck_S1 p2_s339_s ck_S0) (ck_E1 (ck_S1 p2_s346_s ck_S0) ck_E0)⟩ (by decide +kernel)
set_option maxRecDepth 100000 in
/-- GlacierMail.letter -/
noncomputable def p2_s398 : ck_Sum := ((8, 1, 6), 245, [.inr (.inr (.inl 1)), .inl (0, 23, []), .inl (0, 9, [])], ([], [(3, 8, 0)], []), ([(206, 2, 8)], []), [(.inl 3, 245, ([], [], [])), (.inr (some (.inl ((-2147483648), 299, []))), 245, ([], [], [])), (.inr (some (.inl (0, 299, []))), 245, ([], [], zl86))])
set_option maxRecDepth 100000 in
theorem p2_s398_s {X : Int → Int} {LX : Nat} : ck_Ok p2_O X LX 142 p2_s398 := ck_okq (cuts := []) (f := 98) ⟨p2_nmu, ck_E1 (ck_S1 p2_s393_s ck_S0) (ck_E1 (ck_S1 p2_s335_s ck_S0) (ck_E1 (ck_S1 p2_s396_s ck_S0) (ck_E1 (ck_S1 p2_s397_s ck_S0) ck_E0)))⟩ (by decide +kernel)
set_option maxRecDepth 100000 in
/-- GlacierMailModel.in -/
noncomputable def p2_s399 : ck_Sum := ((0, 0, 0), 245, [.inl ((-2147483648), (-1), []), .inl (ck_one 0), .inl ((-1), 23, [])], ([], [], []), ([], []), [(.inr (some (.inl (ck_one 0))), 245, ([], [], []))])
set_option maxRecDepth 100000 in
theorem p2_s399_s {X : Int → Int} {LX : Nat} : ck_Ok p2_O X LX 286 p2_s399 := ck_okq (cuts := []) (f := 80) ⟨p2_nmu, ck_E0⟩ (by decide +kernel)
set_option maxRecDepth 100000 in
/-- GlacierMailModel.noLetter -/
noncomputable def p2_s400 : ck_Sum := ((1, 0, 0), 245, [.inr (.inr (.inl 226)), .inl ((-2147483648), (-1), [])], ([], [], [(227, 4, 4, (0, 24, [(22, 0)]))]), ([], []), [(.inr (some (.inl (ck_one 1))), 245, ([], [], []))])
set_option maxRecDepth 100000 in
theorem p2_s400_s {X : Int → Int} {LX : Nat} : ck_Ok p2_O X LX 309 p2_s400 := ck_okq (cuts := []) (f := 92) ⟨p2_nmu, ck_E1 (ck_S1 p2_s176_s ck_S0) (ck_E1 (ck_S1 p2_s399_s ck_S0) ck_E0)⟩ (by decide +kernel)
set_option maxRecDepth 100000 in
/-- GlacierMailModel.letter -/
noncomputable def p2_s401 : ck_Sum := ((2, 0, 0), 245, [.inr (.inr (.inl 226)), .inl ((-2147483648), (-1), []), .inl ((-2147483648), 2147483647, [])], ([], [], [(227, 4, 4, (0, 24, [(22, 0)]))]), ([(226, 0, 0)], []), [(.inr (some (.inl (ck_one 0))), 245, ([], [], [(226, 0, 0, ck_one 1)]))])
set_option maxRecDepth 100000 in
theorem p2_s401_s {X : Int → Int} {LX : Nat} : ck_Ok p2_O X LX 308 p2_s401 := ck_okq (cuts := []) (f := 94) ⟨p2_nmu, ck_E1 (ck_S1 p2_s400_s ck_S0) (ck_E1 (ck_S1 p2_s241_s ck_S0) ck_E0)⟩ (by decide +kernel)
set_option maxRecDepth 100000 in
/-- GlacierMailModel.in -/
noncomputable def p2_s402 : ck_Sum := ((0, 0, 0), 245, [.inl (24, 2147483647, []), .inl (ck_one 0), .inl ((-1), 23, [])], ([], [], []), ([], []), [(.inr (some (.inl (ck_one 0))), 245, ([], [], []))])
set_option maxRecDepth 100000 in
theorem p2_s402_s {X : Int → Int} {LX : Nat} : ck_Ok p2_O X LX 286 p2_s402 := ck_okq (cuts := []) (f := 86) ⟨p2_nmu, ck_E0⟩ (by decide +kernel)
set_option maxRecDepth 100000 in
/-- GlacierMailModel.noLetter -/
noncomputable def p2_s403 : ck_Sum := ((1, 0, 0), 245, [.inr (.inr (.inl 226)), .inl (24, 2147483647, [])], ([], [], [(227, 4, 4, (0, 24, [(22, 0)]))]), ([], []), [(.inr (some (.inl (ck_one 1))), 245, ([], [], []))])
set_option maxRecDepth 100000 in
theorem p2_s403_s {X : Int → Int} {LX : Nat} : ck_Ok p2_O X LX 309 p2_s403 := ck_okq (cuts := []) (f := 92) ⟨p2_nmu, ck_E1 (ck_S1 p2_s176_s ck_S0) (ck_E1 (ck_S1 p2_s402_s ck_S0) ck_E0)⟩ (by decide +kernel)
set_option maxRecDepth 100000 in
/-- GlacierMailModel.letter -/
noncomputable def p2_s404 : ck_Sum := ((2, 0, 0), 245, [.inr (.inr (.inl 226)), .inl (24, 2147483647, []), .inl ((-2147483648), 2147483647, [])], ([], [], [(227, 4, 4, (0, 24, [(22, 0)]))]), ([(226, 0, 0)], []), [(.inr (some (.inl (ck_one 0))), 245, ([], [], [(226, 0, 0, ck_one 1)]))])
set_option maxRecDepth 100000 in
theorem p2_s404_s {X : Int → Int} {LX : Nat} : ck_Ok p2_O X LX 308 p2_s404 := ck_okq (cuts := []) (f := 94) ⟨p2_nmu, ck_E1 (ck_S1 p2_s403_s ck_S0) (ck_E1 (ck_S1 p2_s241_s ck_S0) ck_E0)⟩ (by decide +kernel)
set_option maxRecDepth 100000 in
/-- GlacierMailModel.in -/
noncomputable def p2_s405 : ck_Sum := ((0, 0, 0), 245, [.inl (0, 23, []), .inl (ck_one 0), .inl ((-1), 23, [])], ([], [], []), ([], []), [(.inr (some (.inl (ck_one 0))), 245, ([], [], [])), (.inr (some (.inl (ck_one 1))), 245, ([], [], []))])
set_option maxRecDepth 100000 in
theorem p2_s405_s {X : Int → Int} {LX : Nat} : ck_Ok p2_O X LX 286 p2_s405 := ck_okq (cuts := []) (f := 88) ⟨p2_nmu, ck_E0⟩ (by decide +kernel)
set_option maxRecDepth 100000 in
/-- GlacierMailModel.noLetter -/
noncomputable def p2_s406 : ck_Sum := ((1, 0, 0), 245, [.inr (.inr (.inl 226)), .inl (0, 23, [])], ([], [], [(227, 4, 4, (0, 24, [(22, 0)]))]), ([], []), [(.inr (some (.inl (ck_one 1))), 245, ([], [], [])), (.inr (some (.inl (ck_one 0))), 245, ([], [], []))])
set_option maxRecDepth 100000 in
theorem p2_s406_s {X : Int → Int} {LX : Nat} : ck_Ok p2_O X LX 309 p2_s406 := ck_okq (cuts := []) (f := 92) ⟨p2_nmu, ck_E1 (ck_S1 p2_s176_s ck_S0) (ck_E1 (ck_S1 p2_s405_s ck_S0) ck_E0)⟩ (by decide +kernel)
set_option maxRecDepth 100000 in
/-- GlacierMailModel.in -/
noncomputable def p2_s407 : ck_Sum := ((0, 0, 0), 245, [.inl ((-2147483648), (-1), []), .inl (ck_one 0), .inl (ck_one 9)], ([], [], []), ([], []), [(.inr (some (.inl (ck_one 0))), 245, ([], [], []))])
set_option maxRecDepth 100000 in
theorem p2_s407_s {X : Int → Int} {LX : Nat} : ck_Ok p2_O X LX 286 p2_s407 := ck_okq (cuts := []) (f := 80) ⟨p2_nmu, ck_E0⟩ (by decide +kernel)
set_option maxRecDepth 100000 in
/-- GlacierMailModel.letter -/
noncomputable def p2_s408 : ck_Sum := ((2, 0, 0), 245, [.inr (.inr (.inl 226)), .inl (0, 23, []), .inl ((-2147483648), (-1), [])], ([], [], [(227, 4, 4, (0, 24, [(22, 0)]))]), ([(226, 0, 0)], []), [(.inr (some (.inl (ck_one 0))), 245, ([], [], [(226, 0, 0, (1, 2, []))]))])
set_option maxRecDepth 100000 in
theorem p2_s408_s {X : Int → Int} {LX : Nat} : ck_Ok p2_O X LX 308 p2_s408 := ck_okq (cuts := []) (f := 116) ⟨p2_nmu, ck_E1 (ck_S1 p2_s406_s ck_S0) (ck_E1 (ck_S1 p2_s241_s (ck_S1 p2_s242_s (ck_S1 p2_s244_s ck_S0))) (ck_E1 (ck_S1 p2_s407_s ck_S0) ck_E0))⟩ (by decide +kernel)
set_option maxRecDepth 100000 in
/-- GlacierMailModel.in -/
noncomputable def p2_s409 : ck_Sum := ((0, 0, 0), 245, [.inl (10, 2147483647, []), .inl (ck_one 0), .inl (ck_one 9)], ([], [], []), ([], []), [(.inr (some (.inl (ck_one 0))), 245, ([], [], []))])
set_option maxRecDepth 100000 in
theorem p2_s409_s {X : Int → Int} {LX : Nat} : ck_Ok p2_O X LX 286 p2_s409 := ck_okq (cuts := []) (f := 86) ⟨p2_nmu, ck_E0⟩ (by decide +kernel)
set_option maxRecDepth 100000 in
/-- GlacierMailModel.letter -/
noncomputable def p2_s410 : ck_Sum := ((2, 0, 0), 245, [.inr (.inr (.inl 226)), .inl (0, 23, []), .inl (10, 2147483647, [])], ([], [], [(227, 4, 4, (0, 24, [(22, 0)]))]), ([(226, 0, 0)], []), [(.inr (some (.inl (ck_one 0))), 245, ([], [], [(226, 0, 0, (1, 2, []))]))])
set_option maxRecDepth 100000 in
theorem p2_s410_s {X : Int → Int} {LX : Nat} : ck_Ok p2_O X LX 308 p2_s410 := ck_okq (cuts := []) (f := 116) ⟨p2_nmu, ck_E1 (ck_S1 p2_s406_s ck_S0) (ck_E1 (ck_S1 p2_s241_s (ck_S1 p2_s242_s (ck_S1 p2_s244_s ck_S0))) (ck_E1 (ck_S1 p2_s409_s ck_S0) ck_E0))⟩ (by decide +kernel)
set_option maxRecDepth 100000 in
/-- GlacierMailModel.in -/
noncomputable def p2_s411 : ck_Sum := ((0, 0, 0), 245, [.inl (0, 9, []), .inl (ck_one 0), .inl (ck_one 9)], ([], [], []), ([], []), [(.inr (some (.inl (ck_one 1))), 245, ([], [], []))])
set_option maxRecDepth 100000 in
theorem p2_s411_s {X : Int → Int} {LX : Nat} : ck_Ok p2_O X LX 286 p2_s411 := ck_okq (cuts := []) (f := 88) ⟨p2_nmu, ck_E0⟩ (by decide +kernel)
set_option maxRecDepth 100000 in
/-- GlacierMailModel.isInIce -/
noncomputable def p2_s412 : ck_Sum := ((1, 0, 0), 245, [.inr (.inr (.inl 226)), .inl (0, 299, [])], ([], [], []), ([], []), [(.inr (some (.inl (ck_one 0))), 245, ([], [], [])), (.inr (some (.inl (ck_one 1))), 245, ([], [], []))])
set_option maxRecDepth 100000 in
theorem p2_s412_s {X : Int → Int} {LX : Nat} : ck_Ok p2_O X LX 312 p2_s412 := ck_okq (cuts := []) (f := 100) ⟨p2_nmu, ck_E1 (ck_S1 p2_s180_s ck_S0) ck_E0⟩ (by decide +kernel)
set_option maxRecDepth 100000 in
/-- GlacierMailModel.isBare -/
noncomputable def p2_s413 : ck_Sum := ((2, 0, 0), 245, [.inr (.inr (.inl 226)), .inl (0, 23, []), .inl (0, 299, [])], ([], [], []), ([], []), [(.inr (some (.inl (ck_one 0))), 245, ([], [], [])), (.inr (some (.inl (ck_one 1))), 245, ([], [], []))])
set_option maxRecDepth 100000 in
theorem p2_s413_s {X : Int → Int} {LX : Nat} : ck_Ok p2_O X LX 311 p2_s413 := ck_okq (cuts := []) (f := 106) ⟨p2_nmu, ck_E1 (ck_S1 p2_s377_s ck_S0) (ck_E1 (ck_S1 p2_s412_s ck_S0) ck_E0)⟩ (by decide +kernel)
set_option maxRecDepth 100000 in
/-- GlacierMailModel.bareFrom -/
noncomputable def p2_s414 : ck_Sum := ((3, 0, 0), 245, [.inr (.inr (.inl 226)), .inl (0, 23, [])], ([], [], []), ([], []), [(.inr (some (.inl (ck_one (-1)))), 245, ([], [], [])), (.inr (some (.inl (0, 299, []))), 245, ([], [], []))])
set_option maxRecDepth 100000 in
theorem p2_s414_s {X : Int → Int} {LX : Nat} : ck_Ok p2_O X LX 310 p2_s414 := ck_okq (cuts := [(2, [some (.inr (.inr (.inl 226))), some (.inl (0, 23, [])), some (.inl (0, 300, []))], ([], [], []), 100, .inl 2, true)]) (f := 134) ⟨p2_nmu, ck_E1 (ck_S1 p2_s413_s ck_S0) ck_E0⟩ (by decide +kernel)
set_option maxRecDepth 100000 in
/-- GlacierMailModel.ofLetter -/
noncomputable def p2_s415 : ck_Sum := ((0, 0, 0), 245, [.inr (.inr (.inl 226)), .inl (0, 23, []), .inl (0, 6, [])], ([], [], []), ([], []), [(.inr (some (.inl ((-1), 299, []))), 245, ([], [], []))])
set_option maxRecDepth 100000 in
theorem p2_s415_s {X : Int → Int} {LX : Nat} : ck_Ok p2_O X LX 301 p2_s415 := ck_okq (cuts := []) (f := 92) ⟨p2_nmu, ck_E0⟩ (by decide +kernel)
set_option maxRecDepth 100000 in
/-- GlacierMail.where -/
noncomputable def p2_s417 : ck_Sum := ((8, 1, 6), 245, [.inr (.inr (.inl 1)), .inl ((-2147483648), (-1), []), .inl ((-2147483648), 2147483647, [])], ([], [], []), ([], []), [(.inl 3, 245, ([], [], []))])
set_option maxRecDepth 100000 in
theorem p2_s417_s {X : Int → Int} {LX : Nat} : ck_Ok p2_O X LX 147 p2_s417 := ck_okq (cuts := []) (f := 76) ⟨p2_nmu, ck_E1 (ck_S1 p2_s387_s ck_S0) ck_E0⟩ (by decide +kernel)
set_option maxRecDepth 100000 in
/-- GlacierMail.where -/
noncomputable def p2_s418 : ck_Sum := ((8, 1, 6), 245, [.inr (.inr (.inl 1)), .inl (24, 2147483647, []), .inl ((-2147483648), 2147483647, [])], ([], [], []), ([], []), [(.inl 3, 245, ([], [], []))])
set_option maxRecDepth 100000 in
theorem p2_s418_s {X : Int → Int} {LX : Nat} : ck_Ok p2_O X LX 147 p2_s418 := ck_okq (cuts := []) (f := 76) ⟨p2_nmu, ck_E1 (ck_S1 p2_s390_s ck_S0) ck_E0⟩ (by decide +kernel)
set_option maxRecDepth 100000 in
/-- GlacierMail.where -/
noncomputable def p2_s419 : ck_Sum := ((8, 2, 12), 245, [.inr (.inr (.inl 1)), .inl (0, 23, []), .inl ((-2147483648), (-1), [])], ([], [], []), ([], []), [(.inl 3, 245, ([], [], [])), (.inl 0, 245, ([], [], []))])
set_option maxRecDepth 100000 in
theorem p2_s419_s {X : Int → Int} {LX : Nat} : ck_Ok p2_O X LX 147 p2_s419 := ck_okq (cuts := []) (f := 82) ⟨p2_nmu, ck_E1 (ck_S1 p2_s393_s ck_S0) (ck_E1 (ck_S1 p2_s249_s ck_S0) ck_E0)⟩ (by decide +kernel)
set_option maxRecDepth 100000 in
/-- GlacierMail.where -/
noncomputable def p2_s420 : ck_Sum := ((8, 2, 12), 245, [.inr (.inr (.inl 1)), .inl (0, 23, []), .inl (300, 2147483647, [])], ([], [], []), ([], []), [(.inl 3, 245, ([], [], [])), (.inl 0, 245, ([], [], []))])
set_option maxRecDepth 100000 in
theorem p2_s420_s {X : Int → Int} {LX : Nat} : ck_Ok p2_O X LX 147 p2_s420 := ck_okq (cuts := []) (f := 82) ⟨p2_nmu, ck_E1 (ck_S1 p2_s393_s ck_S0) (ck_E1 (ck_S1 p2_s251_s ck_S0) ck_E0)⟩ (by decide +kernel)
set_option maxRecDepth 100000 in
/-- GlacierMail$Way.goOnTo -/
noncomputable def p2_s421 : ck_Sum := ((3, 0, 0), 245, [.inr (.inr (.inl 206)), .inl (0, 299, [])], ([], [(3, 8, 0)], []), ([(206, 5, 8)], []), [(.inr none, 245, ([], [], []))])
set_option maxRecDepth 100000 in
theorem p2_s421_s {X : Int → Int} {LX : Nat} : ck_Ok p2_O X LX 148 p2_s421 := ck_okq (cuts := [(5, [some (.inr (.inr (.inl 206))), some (.inl (0, 299, [])), some (.inl ((-2147483648), 2147483647, []))], ([], [(3, 8, 0)], []), 100, .inl 2, true)]) (f := 122) ⟨p2_nmu, ck_E1 (ck_S1 p2_s345_s ck_S0) ck_E0⟩ (by decide +kernel)
set_option maxRecDepth 100000 in
/-- GlacierMail.where -/
noncomputable def p2_s422 : ck_Sum := ((8, 1, 6), 245, [.inr (.inr (.inl 1)), .inl (0, 23, []), .inl (0, 299, [])], ([], [(3, 8, 0)], []), ([(206, 2, 8)], []), [(.inl 3, 245, ([], [], [])), (.inr (some (.inl ((-2147483648), 99, []))), 245, ([], [], []))])
set_option maxRecDepth 100000 in
theorem p2_s422_s {X : Int → Int} {LX : Nat} : ck_Ok p2_O X LX 147 p2_s422 := ck_okq (cuts := []) (f := 130) ⟨p2_nmu, ck_E1 (ck_S1 p2_s393_s ck_S0) (ck_E1 (ck_S1 p2_s253_s ck_S0) (ck_E1 (ck_S1 p2_s335_s ck_S0) (ck_E1 (ck_S1 p2_s339_s ck_S0) (ck_E1 (ck_S1 p2_s421_s ck_S0) ck_E0))))⟩ (by decide +kernel)
set_option maxRecDepth 100000 in
/-- GlacierMailModel.where -/
noncomputable def p2_s423 : ck_Sum := ((2, 0, 0), 245, [.inr (.inr (.inl 226)), .inl ((-2147483648), (-1), []), .inl ((-2147483648), 2147483647, [])], ([], [], [(227, 4, 4, (0, 24, [(22, 0)]))]), ([(226, 0, 0)], []), [(.inr (some (.inl (ck_one 0))), 245, ([], [], [(226, 0, 0, ck_one 1)]))])
set_option maxRecDepth 100000 in
theorem p2_s423_s {X : Int → Int} {LX : Nat} : ck_Ok p2_O X LX 313 p2_s423 := ck_okq (cuts := []) (f := 94) ⟨p2_nmu, ck_E1 (ck_S1 p2_s400_s ck_S0) (ck_E1 (ck_S1 p2_s241_s ck_S0) ck_E0)⟩ (by decide +kernel)
set_option maxRecDepth 100000 in
/-- GlacierMailModel.where -/
noncomputable def p2_s424 : ck_Sum := ((2, 0, 0), 245, [.inr (.inr (.inl 226)), .inl (24, 2147483647, []), .inl ((-2147483648), 2147483647, [])], ([], [], [(227, 4, 4, (0, 24, [(22, 0)]))]), ([(226, 0, 0)], []), [(.inr (some (.inl (ck_one 0))), 245, ([], [], [(226, 0, 0, ck_one 1)]))])
set_option maxRecDepth 100000 in
theorem p2_s424_s {X : Int → Int} {LX : Nat} : ck_Ok p2_O X LX 313 p2_s424 := ck_okq (cuts := []) (f := 94) ⟨p2_nmu, ck_E1 (ck_S1 p2_s403_s ck_S0) (ck_E1 (ck_S1 p2_s241_s ck_S0) ck_E0)⟩ (by decide +kernel)
set_option maxRecDepth 100000 in
/-- GlacierMailModel.where -/
noncomputable def p2_s425 : ck_Sum := ((2, 0, 0), 245, [.inr (.inr (.inl 226)), .inl (0, 23, []), .inl ((-2147483648), (-1), [])], ([], [], [(227, 4, 4, (0, 24, [(22, 0)]))]), ([(226, 0, 0)], []), [(.inr (some (.inl (ck_one 0))), 245, ([], [], [(226, 0, 0, (1, 2, []))]))])
set_option maxRecDepth 100000 in
theorem p2_s425_s {X : Int → Int} {LX : Nat} : ck_Ok p2_O X LX 313 p2_s425 := ck_okq (cuts := []) (f := 106) ⟨p2_nmu, ck_E1 (ck_S1 p2_s406_s ck_S0) (ck_E1 (ck_S1 p2_s241_s (ck_S1 p2_s242_s (ck_S1 p2_s244_s ck_S0))) (ck_E1 (ck_S1 p2_s257_s ck_S0) ck_E0))⟩ (by decide +kernel)
set_option maxRecDepth 100000 in
/-- GlacierMailModel.where -/
noncomputable def p2_s426 : ck_Sum := ((2, 0, 0), 245, [.inr (.inr (.inl 226)), .inl (0, 23, []), .inl (300, 2147483647, [])], ([], [], [(227, 4, 4, (0, 24, [(22, 0)]))]), ([(226, 0, 0)], []), [(.inr (some (.inl (ck_one 0))), 245, ([], [], [(226, 0, 0, (1, 2, []))]))])
set_option maxRecDepth 100000 in
theorem p2_s426_s {X : Int → Int} {LX : Nat} : ck_Ok p2_O X LX 313 p2_s426 := ck_okq (cuts := []) (f := 106) ⟨p2_nmu, ck_E1 (ck_S1 p2_s406_s ck_S0) (ck_E1 (ck_S1 p2_s241_s (ck_S1 p2_s242_s (ck_S1 p2_s244_s ck_S0))) (ck_E1 (ck_S1 p2_s260_s ck_S0) ck_E0))⟩ (by decide +kernel)
set_option maxRecDepth 100000 in
/-- GlacierMail.deep -/
noncomputable def p2_s428 : ck_Sum := ((8, 1, 6), 245, [.inr (.inr (.inl 1)), .inl ((-2147483648), (-1), []), .inl ((-2147483648), 2147483647, [])], ([], [], []), ([], []), [(.inl 3, 245, ([], [], []))])
set_option maxRecDepth 100000 in
theorem p2_s428_s {X : Int → Int} {LX : Nat} : ck_Ok p2_O X LX 150 p2_s428 := ck_okq (cuts := []) (f := 76) ⟨p2_nmu, ck_E1 (ck_S1 p2_s387_s ck_S0) ck_E0⟩ (by decide +kernel)
set_option maxRecDepth 100000 in
/-- GlacierMail.deep -/
noncomputable def p2_s429 : ck_Sum := ((8, 1, 6), 245, [.inr (.inr (.inl 1)), .inl (24, 2147483647, []), .inl ((-2147483648), 2147483647, [])], ([], [], []), ([], []), [(.inl 3, 245, ([], [], []))])
set_option maxRecDepth 100000 in
theorem p2_s429_s {X : Int → Int} {LX : Nat} : ck_Ok p2_O X LX 150 p2_s429 := ck_okq (cuts := []) (f := 76) ⟨p2_nmu, ck_E1 (ck_S1 p2_s390_s ck_S0) ck_E0⟩ (by decide +kernel)
set_option maxRecDepth 100000 in
/-- GlacierMail.deep -/
noncomputable def p2_s430 : ck_Sum := ((8, 2, 12), 245, [.inr (.inr (.inl 1)), .inl (0, 23, []), .inl ((-2147483648), (-1), [])], ([], [], []), ([], []), [(.inl 3, 245, ([], [], [])), (.inl 0, 245, ([], [], []))])
set_option maxRecDepth 100000 in
theorem p2_s430_s {X : Int → Int} {LX : Nat} : ck_Ok p2_O X LX 150 p2_s430 := ck_okq (cuts := []) (f := 82) ⟨p2_nmu, ck_E1 (ck_S1 p2_s393_s ck_S0) (ck_E1 (ck_S1 p2_s249_s ck_S0) ck_E0)⟩ (by decide +kernel)
set_option maxRecDepth 100000 in
/-- GlacierMail.deep -/
noncomputable def p2_s431 : ck_Sum := ((8, 2, 12), 245, [.inr (.inr (.inl 1)), .inl (0, 23, []), .inl (300, 2147483647, [])], ([], [], []), ([], []), [(.inl 3, 245, ([], [], [])), (.inl 0, 245, ([], [], []))])
set_option maxRecDepth 100000 in
theorem p2_s431_s {X : Int → Int} {LX : Nat} : ck_Ok p2_O X LX 150 p2_s431 := ck_okq (cuts := []) (f := 82) ⟨p2_nmu, ck_E1 (ck_S1 p2_s393_s ck_S0) (ck_E1 (ck_S1 p2_s251_s ck_S0) ck_E0)⟩ (by decide +kernel)
set_option maxRecDepth 100000 in
/-- GlacierMail.deep -/
noncomputable def p2_s432 : ck_Sum := ((8, 1, 6), 245, [.inr (.inr (.inl 1)), .inl (0, 23, []), .inl (0, 299, [])], ([], [(3, 8, 0)], []), ([(206, 2, 8)], []), [(.inl 3, 245, ([], [], [])), (.inr (some (.inl (0, 99, []))), 245, ([], [], zl86)), (.inr (some (.inl (ck_one (-1)))), 245, ([], [], []))])
set_option maxRecDepth 100000 in
theorem p2_s432_s {X : Int → Int} {LX : Nat} : ck_Ok p2_O X LX 150 p2_s432 := ck_okq (cuts := []) (f := 122) ⟨p2_nmu, ck_E1 (ck_S1 p2_s393_s ck_S0) (ck_E1 (ck_S1 p2_s253_s ck_S0) (ck_E1 (ck_S1 p2_s335_s ck_S0) (ck_E1 (ck_S1 p2_s339_s ck_S0) (ck_E1 (ck_S1 p2_s421_s ck_S0) ck_E0))))⟩ (by decide +kernel)
set_option maxRecDepth 100000 in
/-- GlacierMailModel.deep -/
noncomputable def p2_s433 : ck_Sum := ((2, 0, 0), 245, [.inr (.inr (.inl 226)), .inl ((-2147483648), (-1), []), .inl ((-2147483648), 2147483647, [])], ([], [], [(227, 4, 4, (0, 24, [(22, 0)]))]), ([(226, 0, 0)], []), [(.inr (some (.inl (ck_one 0))), 245, ([], [], [(226, 0, 0, ck_one 1)]))])
set_option maxRecDepth 100000 in
theorem p2_s433_s {X : Int → Int} {LX : Nat} : ck_Ok p2_O X LX 314 p2_s433 := ck_okq (cuts := []) (f := 94) ⟨p2_nmu, ck_E1 (ck_S1 p2_s400_s ck_S0) (ck_E1 (ck_S1 p2_s241_s ck_S0) ck_E0)⟩ (by decide +kernel)
set_option maxRecDepth 100000 in
/-- GlacierMailModel.deep -/
noncomputable def p2_s434 : ck_Sum := ((2, 0, 0), 245, [.inr (.inr (.inl 226)), .inl (24, 2147483647, []), .inl ((-2147483648), 2147483647, [])], ([], [], [(227, 4, 4, (0, 24, [(22, 0)]))]), ([(226, 0, 0)], []), [(.inr (some (.inl (ck_one 0))), 245, ([], [], [(226, 0, 0, ck_one 1)]))])
set_option maxRecDepth 100000 in
theorem p2_s434_s {X : Int → Int} {LX : Nat} : ck_Ok p2_O X LX 314 p2_s434 := ck_okq (cuts := []) (f := 94) ⟨p2_nmu, ck_E1 (ck_S1 p2_s403_s ck_S0) (ck_E1 (ck_S1 p2_s241_s ck_S0) ck_E0)⟩ (by decide +kernel)
set_option maxRecDepth 100000 in
/-- GlacierMailModel.deep -/
noncomputable def p2_s435 : ck_Sum := ((2, 0, 0), 245, [.inr (.inr (.inl 226)), .inl (0, 23, []), .inl ((-2147483648), (-1), [])], ([], [], [(227, 4, 4, (0, 24, [(22, 0)]))]), ([(226, 0, 0)], []), [(.inr (some (.inl (ck_one 0))), 245, ([], [], [(226, 0, 0, (1, 2, []))]))])
set_option maxRecDepth 100000 in
theorem p2_s435_s {X : Int → Int} {LX : Nat} : ck_Ok p2_O X LX 314 p2_s435 := ck_okq (cuts := []) (f := 106) ⟨p2_nmu, ck_E1 (ck_S1 p2_s406_s ck_S0) (ck_E1 (ck_S1 p2_s241_s (ck_S1 p2_s242_s (ck_S1 p2_s244_s ck_S0))) (ck_E1 (ck_S1 p2_s257_s ck_S0) ck_E0))⟩ (by decide +kernel)
set_option maxRecDepth 100000 in
/-- GlacierMailModel.deep -/
noncomputable def p2_s436 : ck_Sum := ((2, 0, 0), 245, [.inr (.inr (.inl 226)), .inl (0, 23, []), .inl (300, 2147483647, [])], ([], [], [(227, 4, 4, (0, 24, [(22, 0)]))]), ([(226, 0, 0)], []), [(.inr (some (.inl (ck_one 0))), 245, ([], [], [(226, 0, 0, (1, 2, []))]))])
set_option maxRecDepth 100000 in
theorem p2_s436_s {X : Int → Int} {LX : Nat} : ck_Ok p2_O X LX 314 p2_s436 := ck_okq (cuts := []) (f := 106) ⟨p2_nmu, ck_E1 (ck_S1 p2_s406_s ck_S0) (ck_E1 (ck_S1 p2_s241_s (ck_S1 p2_s242_s (ck_S1 p2_s244_s ck_S0))) (ck_E1 (ck_S1 p2_s260_s ck_S0) ck_E0))⟩ (by decide +kernel)
set_option maxRecDepth 100000 in
/-- GlacierMail.post -/
noncomputable def p2_s438 : ck_Sum := ((8, 1, 6), 245, [.inr (.inr (.inl 1)), .inl ((-2147483648), (-1), []), .inl ((-2147483648), 2147483647, [])], ([], [], []), ([], []), [(.inl 3, 245, ([], [], []))])
set_option maxRecDepth 100000 in
theorem p2_s438_s {X : Int → Int} {LX : Nat} : ck_Ok p2_O X LX 152 p2_s438 := ck_okq (cuts := []) (f := 76) ⟨p2_nmu, ck_E1 (ck_S1 p2_s322_s ck_S0) ck_E0⟩ (by decide +kernel)
set_option maxRecDepth 100000 in
/-- GlacierMail.post -/
noncomputable def p2_s439 : ck_Sum := ((8, 1, 6), 245, [.inr (.inr (.inl 1)), .inl (8, 2147483647, []), .inl ((-2147483648), 2147483647, [])], ([], [], []), ([], []), [(.inl 3, 245, ([], [], []))])
set_option maxRecDepth 100000 in
theorem p2_s439_s {X : Int → Int} {LX : Nat} : ck_Ok p2_O X LX 152 p2_s439 := ck_okq (cuts := []) (f := 76) ⟨p2_nmu, ck_E1 (ck_S1 p2_s325_s ck_S0) ck_E0⟩ (by decide +kernel)
set_option maxRecDepth 100000 in
/-- GlacierMail.post -/
noncomputable def p2_s440 : ck_Sum := ((8, 2, 12), 245, [.inr (.inr (.inl 1)), .inl (0, 7, []), .inl ((-2147483648), (-1), [])], ([], [], []), ([], []), [(.inl 3, 245, ([], [], []))])
set_option maxRecDepth 100000 in
theorem p2_s440_s {X : Int → Int} {LX : Nat} : ck_Ok p2_O X LX 152 p2_s440 := ck_okq (cuts := []) (f := 82) ⟨p2_nmu, ck_E1 (ck_S1 p2_s328_s (ck_S1 p2_s322_s ck_S0)) ck_E0⟩ (by decide +kernel)
set_option maxRecDepth 100000 in
/-- GlacierMail.post -/
noncomputable def p2_s441 : ck_Sum := ((8, 2, 12), 245, [.inr (.inr (.inl 1)), .inl (0, 7, []), .inl (8, 2147483647, [])], ([], [], []), ([], []), [(.inl 3, 245, ([], [], []))])
set_option maxRecDepth 100000 in
theorem p2_s441_s {X : Int → Int} {LX : Nat} : ck_Ok p2_O X LX 152 p2_s441 := ck_okq (cuts := []) (f := 82) ⟨p2_nmu, ck_E1 (ck_S1 p2_s328_s (ck_S1 p2_s325_s ck_S0)) ck_E0⟩ (by decide +kernel)
set_option maxRecDepth 100000 in
/-- GlacierMail.needUnlike -/
noncomputable def p2_s442 : ck_Sum := ((6, 1, 6), 245, [.inr (.inr (.inl 1)), .inl (0, 7, []), .inl (0, 7, [])], ([], [], []), ([], []), [(.inr none, 245, ([], [], [])), (.inl 0, 245, ([], [], []))])
set_option maxRecDepth 100000 in
theorem p2_s442_s {X : Int → Int} {LX : Nat} : ck_Ok p2_O X LX 153 p2_s442 := ck_okq (cuts := []) (f := 78) ⟨p2_nmu, ck_E0⟩ (by decide +kernel)
set_option maxRecDepth 100000 in
/-- GlacierMail$Rows.isFull -/
noncomputable def p2_s443 : ck_Sum := ((0, 0, 0), 245, [.inr (.inr (.inl 10))], ([], [], []), ([], []), [(.inr (some (.inl (ck_one 0))), 245, ([], [], [(10, 3, 3, (0, 23, []))])), (.inr (some (.inl (ck_one 1))), 245, ([], [], [(10, 3, 3, ck_one 24)]))])
set_option maxRecDepth 100000 in
theorem p2_s443_s {X : Int → Int} {LX : Nat} : ck_Ok p2_O X LX 108 p2_s443 := ck_okq (cuts := []) (f := 86) ⟨p2_nmu, ck_E0⟩ (by decide +kernel)
set_option maxRecDepth 100000 in
/-- GlacierMail$History.at -/
noncomputable def p2_s444 : ck_Sum := ((0, 0, 0), 245, [.inr (.inr (.inl 42)), .inl (0, 12, [])], ([], [], []), ([], []), [(.inr (some (.inr (.inr (.inl 0)))), 245, ([], [], [])), (.inr (some (.inr (.inr (.inl 44)))), 245, ([], [], [])), (.inr (some (.inr (.inr (.inl 187)))), 245, ([], [], [])), (.inr (some (.inr (.inr (.inl 174)))), 245, ([], [], [])), (.inr (some (.inr (.inr (.inl 161)))), 245, ([], [], [])), (.inr (some (.inr (.inr (.inl 148)))), 245, ([], [], [])), (.inr (some (.inr (.inr (.inl 135)))), 245, ([], [], [])), (.inr (some (.inr (.inr (.inl 122)))), 245, ([], [], [])), (.inr (some (.inr (.inr (.inl 109)))), 245, ([], [], [])), (.inr (some (.inr (.inr (.inl 96)))), 245, ([], [], [])), (.inr (some (.inr (.inr (.inl 83)))), 245, ([], [], [])), (.inr (some (.inr (.inr (.inl 70)))), 245, ([], [], [])), (.inr (some (.inr (.inr (.inl 57)))), 245, ([], [], []))])
set_option maxRecDepth 100000 in
theorem p2_s444_s {X : Int → Int} {LX : Nat} : ck_Ok p2_O X LX 56 p2_s444 := ck_okq (cuts := []) (f := 96) ⟨p2_nmu, ck_E0⟩ (by decide +kernel)
set_option maxRecDepth 100000 in
/-- GlacierMail$Rows.copyFrom -/
noncomputable def p2_s445 : ck_Sum := ((1, 0, 0), 245, [.inr (.inr (.inl 58)), .inr (.inr (.inl 4))], ([], [], []), ([(58, 3, 3), (59, 0, 55)], []), [(.inr none, 245, ([], [], []))])
set_option maxRecDepth 100000 in
theorem p2_s445_s {X : Int → Int} {LX : Nat} : ck_Ok p2_O X LX 58 p2_s445 := ck_okq (cuts := []) (f := 114) ⟨p2_nmu, ck_E0⟩ (by decide +kernel)
set_option maxRecDepth 100000 in
/-- GlacierMail$Rows.copyFrom -/
noncomputable def p2_s446 : ck_Sum := ((1, 0, 0), 245, [.inr (.inr (.inl 60)), .inr (.inr (.inl 6))], ([], [], []), ([(60, 3, 3), (61, 0, 23)], []), [(.inr none, 245, ([], [], []))])
set_option maxRecDepth 100000 in
theorem p2_s446_s {X : Int → Int} {LX : Nat} : ck_Ok p2_O X LX 58 p2_s446 := ck_okq (cuts := []) (f := 114) ⟨p2_nmu, ck_E0⟩ (by decide +kernel)
set_option maxRecDepth 100000 in
/-- GlacierMail$Rows.copyFrom -/
noncomputable def p2_s447 : ck_Sum := ((1, 0, 0), 245, [.inr (.inr (.inl 62)), .inr (.inr (.inl 8))], ([], [], []), ([(62, 3, 3), (63, 0, 23)], []), [(.inr none, 245, ([], [], []))])
set_option maxRecDepth 100000 in
theorem p2_s447_s {X : Int → Int} {LX : Nat} : ck_Ok p2_O X LX 58 p2_s447 := ck_okq (cuts := []) (f := 114) ⟨p2_nmu, ck_E0⟩ (by decide +kernel)
set_option maxRecDepth 100000 in
/-- GlacierMail$Rows.copyFrom -/
noncomputable def p2_s448 : ck_Sum := ((1, 0, 0), 245, [.inr (.inr (.inl 64)), .inr (.inr (.inl 10))], ([], [], []), ([(64, 3, 3), (65, 0, 167)], []), [(.inr none, 245, ([], [], []))])
set_option maxRecDepth 100000 in
theorem p2_s448_s {X : Int → Int} {LX : Nat} : ck_Ok p2_O X LX 58 p2_s448 := ck_okq (cuts := []) (f := 114) ⟨p2_nmu, ck_E0⟩ (by decide +kernel)
set_option maxRecDepth 100000 in
/-- GlacierMail$Rows.copyFrom -/
noncomputable def p2_s449 : ck_Sum := ((1, 0, 0), 245, [.inr (.inr (.inl 66)), .inr (.inr (.inl 12))], ([], [], []), ([(66, 3, 3), (67, 0, 35)], []), [(.inr none, 245, ([], [], []))])
set_option maxRecDepth 100000 in
theorem p2_s449_s {X : Int → Int} {LX : Nat} : ck_Ok p2_O X LX 58 p2_s449 := ck_okq (cuts := []) (f := 114) ⟨p2_nmu, ck_E0⟩ (by decide +kernel)
set_option maxRecDepth 100000 in
/-- GlacierMail$Rows.copyFrom -/
noncomputable def p2_s450 : ck_Sum := ((1, 0, 0), 245, [.inr (.inr (.inl 68)), .inr (.inr (.inl 14))], ([], [], []), ([(68, 3, 3), (69, 0, 71)], []), [(.inr none, 245, ([], [], []))])
set_option maxRecDepth 100000 in
theorem p2_s450_s {X : Int → Int} {LX : Nat} : ck_Ok p2_O X LX 58 p2_s450 := ck_okq (cuts := []) (f := 114) ⟨p2_nmu, ck_E0⟩ (by decide +kernel)
end
/-! 78r80a05.sf -/
section
/-! EVERY CALL ENDS, whatever was done before (laid by wip/am/p2k.py). -/
set_option maxRecDepth 100000 in
/-- GlacierMail$State.copyFrom -/
noncomputable def p2_s451 : ck_Sum := ((2, 0, 0), 245, [.inr (.inr (.inl 57)), .inr (.inr (.inl 3))], ([], [(3, 8, 0), (57, 8, 100057)], [(3, 6, 6, (0, 299, [(10, 0)]))]), (zl90, [(57, 8)]), [(.inr none, 245, ([], [(57, 8, 0)], [(57, 6, 6, (0, 299, [(10, 0)]))]))])
set_option maxRecDepth 100000 in
theorem p2_s451_s {X : Int → Int} {LX : Nat} : ck_Ok p2_O X LX 57 p2_s451 := ck_okq (cuts := []) (f := 204) ⟨p2_nmu, ck_E1 (ck_S1 p2_s445_s (ck_S1 p2_s446_s (ck_S1 p2_s447_s (ck_S1 p2_s448_s (ck_S1 p2_s449_s (ck_S1 p2_s450_s ck_S0)))))) ck_E0⟩ (by decide +kernel)
set_option maxRecDepth 100000 in
/-- GlacierMail$Rows.copyFrom -/
noncomputable def p2_s452 : ck_Sum := ((1, 0, 0), 245, [.inr (.inr (.inl 71)), .inr (.inr (.inl 4))], ([], [], []), ([(71, 3, 3), (72, 0, 55)], []), [(.inr none, 245, ([], [], []))])
set_option maxRecDepth 100000 in
theorem p2_s452_s {X : Int → Int} {LX : Nat} : ck_Ok p2_O X LX 58 p2_s452 := ck_okq (cuts := []) (f := 114) ⟨p2_nmu, ck_E0⟩ (by decide +kernel)
set_option maxRecDepth 100000 in
/-- GlacierMail$Rows.copyFrom -/
noncomputable def p2_s453 : ck_Sum := ((1, 0, 0), 245, [.inr (.inr (.inl 73)), .inr (.inr (.inl 6))], ([], [], []), ([(73, 3, 3), (74, 0, 23)], []), [(.inr none, 245, ([], [], []))])
set_option maxRecDepth 100000 in
theorem p2_s453_s {X : Int → Int} {LX : Nat} : ck_Ok p2_O X LX 58 p2_s453 := ck_okq (cuts := []) (f := 114) ⟨p2_nmu, ck_E0⟩ (by decide +kernel)
set_option maxRecDepth 100000 in
/-- GlacierMail$Rows.copyFrom -/
noncomputable def p2_s454 : ck_Sum := ((1, 0, 0), 245, [.inr (.inr (.inl 75)), .inr (.inr (.inl 8))], ([], [], []), ([(75, 3, 3), (76, 0, 23)], []), [(.inr none, 245, ([], [], []))])
set_option maxRecDepth 100000 in
theorem p2_s454_s {X : Int → Int} {LX : Nat} : ck_Ok p2_O X LX 58 p2_s454 := ck_okq (cuts := []) (f := 114) ⟨p2_nmu, ck_E0⟩ (by decide +kernel)
set_option maxRecDepth 100000 in
/-- GlacierMail$Rows.copyFrom -/
noncomputable def p2_s455 : ck_Sum := ((1, 0, 0), 245, [.inr (.inr (.inl 77)), .inr (.inr (.inl 10))], ([], [], []), ([(77, 3, 3), (78, 0, 167)], []), [(.inr none, 245, ([], [], []))])
set_option maxRecDepth 100000 in
theorem p2_s455_s {X : Int → Int} {LX : Nat} : ck_Ok p2_O X LX 58 p2_s455 := ck_okq (cuts := []) (f := 114) ⟨p2_nmu, ck_E0⟩ (by decide +kernel)
set_option maxRecDepth 100000 in
/-- GlacierMail$Rows.copyFrom -/
noncomputable def p2_s456 : ck_Sum := ((1, 0, 0), 245, [.inr (.inr (.inl 79)), .inr (.inr (.inl 12))], ([], [], []), ([(79, 3, 3), (80, 0, 35)], []), [(.inr none, 245, ([], [], []))])
set_option maxRecDepth 100000 in
theorem p2_s456_s {X : Int → Int} {LX : Nat} : ck_Ok p2_O X LX 58 p2_s456 := ck_okq (cuts := []) (f := 114) ⟨p2_nmu, ck_E0⟩ (by decide +kernel)
set_option maxRecDepth 100000 in
/-- GlacierMail$Rows.copyFrom -/
noncomputable def p2_s457 : ck_Sum := ((1, 0, 0), 245, [.inr (.inr (.inl 81)), .inr (.inr (.inl 14))], ([], [], []), ([(81, 3, 3), (82, 0, 71)], []), [(.inr none, 245, ([], [], []))])
set_option maxRecDepth 100000 in
theorem p2_s457_s {X : Int → Int} {LX : Nat} : ck_Ok p2_O X LX 58 p2_s457 := ck_okq (cuts := []) (f := 114) ⟨p2_nmu, ck_E0⟩ (by decide +kernel)
set_option maxRecDepth 100000 in
/-- GlacierMail$State.copyFrom -/
noncomputable def p2_s458 : ck_Sum := ((2, 0, 0), 245, [.inr (.inr (.inl 70)), .inr (.inr (.inl 3))], ([], [(3, 8, 0), (70, 8, 100070)], [(3, 6, 6, (0, 299, [(10, 0)]))]), (zl91, [(70, 8)]), [(.inr none, 245, ([], [(70, 8, 0)], [(70, 6, 6, (0, 299, [(10, 0)]))]))])
set_option maxRecDepth 100000 in
theorem p2_s458_s {X : Int → Int} {LX : Nat} : ck_Ok p2_O X LX 57 p2_s458 := ck_okq (cuts := []) (f := 204) ⟨p2_nmu, ck_E1 (ck_S1 p2_s452_s (ck_S1 p2_s453_s (ck_S1 p2_s454_s (ck_S1 p2_s455_s (ck_S1 p2_s456_s (ck_S1 p2_s457_s ck_S0)))))) ck_E0⟩ (by decide +kernel)
set_option maxRecDepth 100000 in
/-- GlacierMail$Rows.copyFrom -/
noncomputable def p2_s459 : ck_Sum := ((1, 0, 0), 245, [.inr (.inr (.inl 84)), .inr (.inr (.inl 4))], ([], [], []), ([(84, 3, 3), (85, 0, 55)], []), [(.inr none, 245, ([], [], []))])
set_option maxRecDepth 100000 in
theorem p2_s459_s {X : Int → Int} {LX : Nat} : ck_Ok p2_O X LX 58 p2_s459 := ck_okq (cuts := []) (f := 114) ⟨p2_nmu, ck_E0⟩ (by decide +kernel)
set_option maxRecDepth 100000 in
/-- GlacierMail$Rows.copyFrom -/
noncomputable def p2_s460 : ck_Sum := ((1, 0, 0), 245, [.inr (.inr (.inl 86)), .inr (.inr (.inl 6))], ([], [], []), ([(86, 3, 3), (87, 0, 23)], []), [(.inr none, 245, ([], [], []))])
set_option maxRecDepth 100000 in
theorem p2_s460_s {X : Int → Int} {LX : Nat} : ck_Ok p2_O X LX 58 p2_s460 := ck_okq (cuts := []) (f := 114) ⟨p2_nmu, ck_E0⟩ (by decide +kernel)
set_option maxRecDepth 100000 in
/-- GlacierMail$Rows.copyFrom -/
noncomputable def p2_s461 : ck_Sum := ((1, 0, 0), 245, [.inr (.inr (.inl 88)), .inr (.inr (.inl 8))], ([], [], []), ([(88, 3, 3), (89, 0, 23)], []), [(.inr none, 245, ([], [], []))])
set_option maxRecDepth 100000 in
theorem p2_s461_s {X : Int → Int} {LX : Nat} : ck_Ok p2_O X LX 58 p2_s461 := ck_okq (cuts := []) (f := 114) ⟨p2_nmu, ck_E0⟩ (by decide +kernel)
set_option maxRecDepth 100000 in
/-- GlacierMail$Rows.copyFrom -/
noncomputable def p2_s462 : ck_Sum := ((1, 0, 0), 245, [.inr (.inr (.inl 90)), .inr (.inr (.inl 10))], ([], [], []), ([(90, 3, 3), (91, 0, 167)], []), [(.inr none, 245, ([], [], []))])
set_option maxRecDepth 100000 in
theorem p2_s462_s {X : Int → Int} {LX : Nat} : ck_Ok p2_O X LX 58 p2_s462 := ck_okq (cuts := []) (f := 114) ⟨p2_nmu, ck_E0⟩ (by decide +kernel)
set_option maxRecDepth 100000 in
/-- GlacierMail$Rows.copyFrom -/
noncomputable def p2_s463 : ck_Sum := ((1, 0, 0), 245, [.inr (.inr (.inl 92)), .inr (.inr (.inl 12))], ([], [], []), ([(92, 3, 3), (93, 0, 35)], []), [(.inr none, 245, ([], [], []))])
set_option maxRecDepth 100000 in
theorem p2_s463_s {X : Int → Int} {LX : Nat} : ck_Ok p2_O X LX 58 p2_s463 := ck_okq (cuts := []) (f := 114) ⟨p2_nmu, ck_E0⟩ (by decide +kernel)
set_option maxRecDepth 100000 in
/-- GlacierMail$Rows.copyFrom -/
noncomputable def p2_s464 : ck_Sum := ((1, 0, 0), 245, [.inr (.inr (.inl 94)), .inr (.inr (.inl 14))], ([], [], []), ([(94, 3, 3), (95, 0, 71)], []), [(.inr none, 245, ([], [], []))])
set_option maxRecDepth 100000 in
theorem p2_s464_s {X : Int → Int} {LX : Nat} : ck_Ok p2_O X LX 58 p2_s464 := ck_okq (cuts := []) (f := 114) ⟨p2_nmu, ck_E0⟩ (by decide +kernel)
set_option maxRecDepth 100000 in
/-- GlacierMail$State.copyFrom -/
noncomputable def p2_s465 : ck_Sum := ((2, 0, 0), 245, [.inr (.inr (.inl 83)), .inr (.inr (.inl 3))], ([], [(3, 8, 0), (83, 8, 100083)], [(3, 6, 6, (0, 299, [(10, 0)]))]), (zl92, [(83, 8)]), [(.inr none, 245, ([], [(83, 8, 0)], [(83, 6, 6, (0, 299, [(10, 0)]))]))])
set_option maxRecDepth 100000 in
theorem p2_s465_s {X : Int → Int} {LX : Nat} : ck_Ok p2_O X LX 57 p2_s465 := ck_okq (cuts := []) (f := 204) ⟨p2_nmu, ck_E1 (ck_S1 p2_s459_s (ck_S1 p2_s460_s (ck_S1 p2_s461_s (ck_S1 p2_s462_s (ck_S1 p2_s463_s (ck_S1 p2_s464_s ck_S0)))))) ck_E0⟩ (by decide +kernel)
set_option maxRecDepth 100000 in
/-- GlacierMail$Rows.copyFrom -/
noncomputable def p2_s466 : ck_Sum := ((1, 0, 0), 245, [.inr (.inr (.inl 97)), .inr (.inr (.inl 4))], ([], [], []), ([(97, 3, 3), (98, 0, 55)], []), [(.inr none, 245, ([], [], []))])
set_option maxRecDepth 100000 in
theorem p2_s466_s {X : Int → Int} {LX : Nat} : ck_Ok p2_O X LX 58 p2_s466 := ck_okq (cuts := []) (f := 114) ⟨p2_nmu, ck_E0⟩ (by decide +kernel)
set_option maxRecDepth 100000 in
/-- GlacierMail$Rows.copyFrom -/
noncomputable def p2_s467 : ck_Sum := ((1, 0, 0), 245, [.inr (.inr (.inl 99)), .inr (.inr (.inl 6))], ([], [], []), ([(99, 3, 3), (100, 0, 23)], []), [(.inr none, 245, ([], [], []))])
set_option maxRecDepth 100000 in
theorem p2_s467_s {X : Int → Int} {LX : Nat} : ck_Ok p2_O X LX 58 p2_s467 := ck_okq (cuts := []) (f := 114) ⟨p2_nmu, ck_E0⟩ (by decide +kernel)
set_option maxRecDepth 100000 in
/-- GlacierMail$Rows.copyFrom -/
noncomputable def p2_s468 : ck_Sum := ((1, 0, 0), 245, [.inr (.inr (.inl 101)), .inr (.inr (.inl 8))], ([], [], []), ([(101, 3, 3), (102, 0, 23)], []), [(.inr none, 245, ([], [], []))])
set_option maxRecDepth 100000 in
theorem p2_s468_s {X : Int → Int} {LX : Nat} : ck_Ok p2_O X LX 58 p2_s468 := ck_okq (cuts := []) (f := 114) ⟨p2_nmu, ck_E0⟩ (by decide +kernel)
set_option maxRecDepth 100000 in
/-- GlacierMail$Rows.copyFrom -/
noncomputable def p2_s469 : ck_Sum := ((1, 0, 0), 245, [.inr (.inr (.inl 103)), .inr (.inr (.inl 10))], ([], [], []), ([(103, 3, 3), (104, 0, 167)], []), [(.inr none, 245, ([], [], []))])
set_option maxRecDepth 100000 in
theorem p2_s469_s {X : Int → Int} {LX : Nat} : ck_Ok p2_O X LX 58 p2_s469 := ck_okq (cuts := []) (f := 114) ⟨p2_nmu, ck_E0⟩ (by decide +kernel)
set_option maxRecDepth 100000 in
/-- GlacierMail$Rows.copyFrom -/
noncomputable def p2_s470 : ck_Sum := ((1, 0, 0), 245, [.inr (.inr (.inl 105)), .inr (.inr (.inl 12))], ([], [], []), ([(105, 3, 3), (106, 0, 35)], []), [(.inr none, 245, ([], [], []))])
set_option maxRecDepth 100000 in
theorem p2_s470_s {X : Int → Int} {LX : Nat} : ck_Ok p2_O X LX 58 p2_s470 := ck_okq (cuts := []) (f := 114) ⟨p2_nmu, ck_E0⟩ (by decide +kernel)
set_option maxRecDepth 100000 in
/-- GlacierMail$Rows.copyFrom -/
noncomputable def p2_s471 : ck_Sum := ((1, 0, 0), 245, [.inr (.inr (.inl 107)), .inr (.inr (.inl 14))], ([], [], []), ([(107, 3, 3), (108, 0, 71)], []), [(.inr none, 245, ([], [], []))])
set_option maxRecDepth 100000 in
theorem p2_s471_s {X : Int → Int} {LX : Nat} : ck_Ok p2_O X LX 58 p2_s471 := ck_okq (cuts := []) (f := 114) ⟨p2_nmu, ck_E0⟩ (by decide +kernel)
set_option maxRecDepth 100000 in
/-- GlacierMail$State.copyFrom -/
noncomputable def p2_s472 : ck_Sum := ((2, 0, 0), 245, [.inr (.inr (.inl 96)), .inr (.inr (.inl 3))], ([], [(3, 8, 0), (96, 8, 100096)], [(3, 6, 6, (0, 299, [(10, 0)]))]), (zl93, [(96, 8)]), [(.inr none, 245, ([], [(96, 8, 0)], [(96, 6, 6, (0, 299, [(10, 0)]))]))])
set_option maxRecDepth 100000 in
theorem p2_s472_s {X : Int → Int} {LX : Nat} : ck_Ok p2_O X LX 57 p2_s472 := ck_okq (cuts := []) (f := 204) ⟨p2_nmu, ck_E1 (ck_S1 p2_s466_s (ck_S1 p2_s467_s (ck_S1 p2_s468_s (ck_S1 p2_s469_s (ck_S1 p2_s470_s (ck_S1 p2_s471_s ck_S0)))))) ck_E0⟩ (by decide +kernel)
set_option maxRecDepth 100000 in
/-- GlacierMail$Rows.copyFrom -/
noncomputable def p2_s473 : ck_Sum := ((1, 0, 0), 245, [.inr (.inr (.inl 110)), .inr (.inr (.inl 4))], ([], [], []), ([(110, 3, 3), (111, 0, 55)], []), [(.inr none, 245, ([], [], []))])
set_option maxRecDepth 100000 in
theorem p2_s473_s {X : Int → Int} {LX : Nat} : ck_Ok p2_O X LX 58 p2_s473 := ck_okq (cuts := []) (f := 114) ⟨p2_nmu, ck_E0⟩ (by decide +kernel)
set_option maxRecDepth 100000 in
/-- GlacierMail$Rows.copyFrom -/
noncomputable def p2_s474 : ck_Sum := ((1, 0, 0), 245, [.inr (.inr (.inl 112)), .inr (.inr (.inl 6))], ([], [], []), ([(112, 3, 3), (113, 0, 23)], []), [(.inr none, 245, ([], [], []))])
set_option maxRecDepth 100000 in
theorem p2_s474_s {X : Int → Int} {LX : Nat} : ck_Ok p2_O X LX 58 p2_s474 := ck_okq (cuts := []) (f := 114) ⟨p2_nmu, ck_E0⟩ (by decide +kernel)
set_option maxRecDepth 100000 in
/-- GlacierMail$Rows.copyFrom -/
noncomputable def p2_s475 : ck_Sum := ((1, 0, 0), 245, [.inr (.inr (.inl 114)), .inr (.inr (.inl 8))], ([], [], []), ([(114, 3, 3), (115, 0, 23)], []), [(.inr none, 245, ([], [], []))])
set_option maxRecDepth 100000 in
theorem p2_s475_s {X : Int → Int} {LX : Nat} : ck_Ok p2_O X LX 58 p2_s475 := ck_okq (cuts := []) (f := 114) ⟨p2_nmu, ck_E0⟩ (by decide +kernel)
set_option maxRecDepth 100000 in
/-- GlacierMail$Rows.copyFrom -/
noncomputable def p2_s476 : ck_Sum := ((1, 0, 0), 245, [.inr (.inr (.inl 116)), .inr (.inr (.inl 10))], ([], [], []), ([(116, 3, 3), (117, 0, 167)], []), [(.inr none, 245, ([], [], []))])
set_option maxRecDepth 100000 in
theorem p2_s476_s {X : Int → Int} {LX : Nat} : ck_Ok p2_O X LX 58 p2_s476 := ck_okq (cuts := []) (f := 114) ⟨p2_nmu, ck_E0⟩ (by decide +kernel)
set_option maxRecDepth 100000 in
/-- GlacierMail$Rows.copyFrom -/
noncomputable def p2_s477 : ck_Sum := ((1, 0, 0), 245, [.inr (.inr (.inl 118)), .inr (.inr (.inl 12))], ([], [], []), ([(118, 3, 3), (119, 0, 35)], []), [(.inr none, 245, ([], [], []))])
set_option maxRecDepth 100000 in
theorem p2_s477_s {X : Int → Int} {LX : Nat} : ck_Ok p2_O X LX 58 p2_s477 := ck_okq (cuts := []) (f := 114) ⟨p2_nmu, ck_E0⟩ (by decide +kernel)
set_option maxRecDepth 100000 in
/-- GlacierMail$Rows.copyFrom -/
noncomputable def p2_s478 : ck_Sum := ((1, 0, 0), 245, [.inr (.inr (.inl 120)), .inr (.inr (.inl 14))], ([], [], []), ([(120, 3, 3), (121, 0, 71)], []), [(.inr none, 245, ([], [], []))])
set_option maxRecDepth 100000 in
theorem p2_s478_s {X : Int → Int} {LX : Nat} : ck_Ok p2_O X LX 58 p2_s478 := ck_okq (cuts := []) (f := 114) ⟨p2_nmu, ck_E0⟩ (by decide +kernel)
set_option maxRecDepth 100000 in
/-- GlacierMail$State.copyFrom -/
noncomputable def p2_s479 : ck_Sum := ((2, 0, 0), 245, [.inr (.inr (.inl 109)), .inr (.inr (.inl 3))], ([], [(3, 8, 0), (109, 8, 100109)], [(3, 6, 6, (0, 299, [(10, 0)]))]), (zl94, [(109, 8)]), [(.inr none, 245, ([], [(109, 8, 0)], [(109, 6, 6, (0, 299, [(10, 0)]))]))])
set_option maxRecDepth 100000 in
theorem p2_s479_s {X : Int → Int} {LX : Nat} : ck_Ok p2_O X LX 57 p2_s479 := ck_okq (cuts := []) (f := 204) ⟨p2_nmu, ck_E1 (ck_S1 p2_s473_s (ck_S1 p2_s474_s (ck_S1 p2_s475_s (ck_S1 p2_s476_s (ck_S1 p2_s477_s (ck_S1 p2_s478_s ck_S0)))))) ck_E0⟩ (by decide +kernel)
set_option maxRecDepth 100000 in
/-- GlacierMail$Rows.copyFrom -/
noncomputable def p2_s480 : ck_Sum := ((1, 0, 0), 245, [.inr (.inr (.inl 123)), .inr (.inr (.inl 4))], ([], [], []), ([(123, 3, 3), (124, 0, 55)], []), [(.inr none, 245, ([], [], []))])
set_option maxRecDepth 100000 in
theorem p2_s480_s {X : Int → Int} {LX : Nat} : ck_Ok p2_O X LX 58 p2_s480 := ck_okq (cuts := []) (f := 114) ⟨p2_nmu, ck_E0⟩ (by decide +kernel)
set_option maxRecDepth 100000 in
/-- GlacierMail$Rows.copyFrom -/
noncomputable def p2_s481 : ck_Sum := ((1, 0, 0), 245, [.inr (.inr (.inl 125)), .inr (.inr (.inl 6))], ([], [], []), ([(125, 3, 3), (126, 0, 23)], []), [(.inr none, 245, ([], [], []))])
set_option maxRecDepth 100000 in
theorem p2_s481_s {X : Int → Int} {LX : Nat} : ck_Ok p2_O X LX 58 p2_s481 := ck_okq (cuts := []) (f := 114) ⟨p2_nmu, ck_E0⟩ (by decide +kernel)
set_option maxRecDepth 100000 in
/-- GlacierMail$Rows.copyFrom -/
noncomputable def p2_s482 : ck_Sum := ((1, 0, 0), 245, [.inr (.inr (.inl 127)), .inr (.inr (.inl 8))], ([], [], []), ([(127, 3, 3), (128, 0, 23)], []), [(.inr none, 245, ([], [], []))])
set_option maxRecDepth 100000 in
theorem p2_s482_s {X : Int → Int} {LX : Nat} : ck_Ok p2_O X LX 58 p2_s482 := ck_okq (cuts := []) (f := 114) ⟨p2_nmu, ck_E0⟩ (by decide +kernel)
set_option maxRecDepth 100000 in
/-- GlacierMail$Rows.copyFrom -/
noncomputable def p2_s483 : ck_Sum := ((1, 0, 0), 245, [.inr (.inr (.inl 129)), .inr (.inr (.inl 10))], ([], [], []), ([(129, 3, 3), (130, 0, 167)], []), [(.inr none, 245, ([], [], []))])
set_option maxRecDepth 100000 in
theorem p2_s483_s {X : Int → Int} {LX : Nat} : ck_Ok p2_O X LX 58 p2_s483 := ck_okq (cuts := []) (f := 114) ⟨p2_nmu, ck_E0⟩ (by decide +kernel)
set_option maxRecDepth 100000 in
/-- GlacierMail$Rows.copyFrom -/
noncomputable def p2_s484 : ck_Sum := ((1, 0, 0), 245, [.inr (.inr (.inl 131)), .inr (.inr (.inl 12))], ([], [], []), ([(131, 3, 3), (132, 0, 35)], []), [(.inr none, 245, ([], [], []))])
set_option maxRecDepth 100000 in
theorem p2_s484_s {X : Int → Int} {LX : Nat} : ck_Ok p2_O X LX 58 p2_s484 := ck_okq (cuts := []) (f := 114) ⟨p2_nmu, ck_E0⟩ (by decide +kernel)
set_option maxRecDepth 100000 in
/-- GlacierMail$Rows.copyFrom -/
noncomputable def p2_s485 : ck_Sum := ((1, 0, 0), 245, [.inr (.inr (.inl 133)), .inr (.inr (.inl 14))], ([], [], []), ([(133, 3, 3), (134, 0, 71)], []), [(.inr none, 245, ([], [], []))])
set_option maxRecDepth 100000 in
theorem p2_s485_s {X : Int → Int} {LX : Nat} : ck_Ok p2_O X LX 58 p2_s485 := ck_okq (cuts := []) (f := 114) ⟨p2_nmu, ck_E0⟩ (by decide +kernel)
set_option maxRecDepth 100000 in
/-- GlacierMail$State.copyFrom -/
noncomputable def p2_s486 : ck_Sum := ((2, 0, 0), 245, [.inr (.inr (.inl 122)), .inr (.inr (.inl 3))], ([], [(3, 8, 0), (122, 8, 100122)], [(3, 6, 6, (0, 299, [(10, 0)]))]), (zl95, [(122, 8)]), [(.inr none, 245, ([], [(122, 8, 0)], [(122, 6, 6, (0, 299, [(10, 0)]))]))])
set_option maxRecDepth 100000 in
theorem p2_s486_s {X : Int → Int} {LX : Nat} : ck_Ok p2_O X LX 57 p2_s486 := ck_okq (cuts := []) (f := 204) ⟨p2_nmu, ck_E1 (ck_S1 p2_s480_s (ck_S1 p2_s481_s (ck_S1 p2_s482_s (ck_S1 p2_s483_s (ck_S1 p2_s484_s (ck_S1 p2_s485_s ck_S0)))))) ck_E0⟩ (by decide +kernel)
set_option maxRecDepth 100000 in
/-- GlacierMail$Rows.copyFrom -/
noncomputable def p2_s487 : ck_Sum := ((1, 0, 0), 245, [.inr (.inr (.inl 136)), .inr (.inr (.inl 4))], ([], [], []), ([(136, 3, 3), (137, 0, 55)], []), [(.inr none, 245, ([], [], []))])
set_option maxRecDepth 100000 in
theorem p2_s487_s {X : Int → Int} {LX : Nat} : ck_Ok p2_O X LX 58 p2_s487 := ck_okq (cuts := []) (f := 114) ⟨p2_nmu, ck_E0⟩ (by decide +kernel)
set_option maxRecDepth 100000 in
/-- GlacierMail$Rows.copyFrom -/
noncomputable def p2_s488 : ck_Sum := ((1, 0, 0), 245, [.inr (.inr (.inl 138)), .inr (.inr (.inl 6))], ([], [], []), ([(138, 3, 3), (139, 0, 23)], []), [(.inr none, 245, ([], [], []))])
set_option maxRecDepth 100000 in
theorem p2_s488_s {X : Int → Int} {LX : Nat} : ck_Ok p2_O X LX 58 p2_s488 := ck_okq (cuts := []) (f := 114) ⟨p2_nmu, ck_E0⟩ (by decide +kernel)
set_option maxRecDepth 100000 in
/-- GlacierMail$Rows.copyFrom -/
noncomputable def p2_s489 : ck_Sum := ((1, 0, 0), 245, [.inr (.inr (.inl 140)), .inr (.inr (.inl 8))], ([], [], []), ([(140, 3, 3), (141, 0, 23)], []), [(.inr none, 245, ([], [], []))])
set_option maxRecDepth 100000 in
theorem p2_s489_s {X : Int → Int} {LX : Nat} : ck_Ok p2_O X LX 58 p2_s489 := ck_okq (cuts := []) (f := 114) ⟨p2_nmu, ck_E0⟩ (by decide +kernel)
set_option maxRecDepth 100000 in
/-- GlacierMail$Rows.copyFrom -/
noncomputable def p2_s490 : ck_Sum := ((1, 0, 0), 245, [.inr (.inr (.inl 142)), .inr (.inr (.inl 10))], ([], [], []), ([(142, 3, 3), (143, 0, 167)], []), [(.inr none, 245, ([], [], []))])
set_option maxRecDepth 100000 in
theorem p2_s490_s {X : Int → Int} {LX : Nat} : ck_Ok p2_O X LX 58 p2_s490 := ck_okq (cuts := []) (f := 114) ⟨p2_nmu, ck_E0⟩ (by decide +kernel)
set_option maxRecDepth 100000 in
/-- GlacierMail$Rows.copyFrom -/
noncomputable def p2_s491 : ck_Sum := ((1, 0, 0), 245, [.inr (.inr (.inl 144)), .inr (.inr (.inl 12))], ([], [], []), ([(144, 3, 3), (145, 0, 35)], []), [(.inr none, 245, ([], [], []))])
set_option maxRecDepth 100000 in
theorem p2_s491_s {X : Int → Int} {LX : Nat} : ck_Ok p2_O X LX 58 p2_s491 := ck_okq (cuts := []) (f := 114) ⟨p2_nmu, ck_E0⟩ (by decide +kernel)
set_option maxRecDepth 100000 in
/-- GlacierMail$Rows.copyFrom -/
noncomputable def p2_s492 : ck_Sum := ((1, 0, 0), 245, [.inr (.inr (.inl 146)), .inr (.inr (.inl 14))], ([], [], []), ([(146, 3, 3), (147, 0, 71)], []), [(.inr none, 245, ([], [], []))])
set_option maxRecDepth 100000 in
theorem p2_s492_s {X : Int → Int} {LX : Nat} : ck_Ok p2_O X LX 58 p2_s492 := ck_okq (cuts := []) (f := 114) ⟨p2_nmu, ck_E0⟩ (by decide +kernel)
set_option maxRecDepth 100000 in
/-- GlacierMail$State.copyFrom -/
noncomputable def p2_s493 : ck_Sum := ((2, 0, 0), 245, [.inr (.inr (.inl 135)), .inr (.inr (.inl 3))], ([], [(3, 8, 0), (135, 8, 100135)], [(3, 6, 6, (0, 299, [(10, 0)]))]), (zl96, [(135, 8)]), [(.inr none, 245, ([], [(135, 8, 0)], [(135, 6, 6, (0, 299, [(10, 0)]))]))])
set_option maxRecDepth 100000 in
theorem p2_s493_s {X : Int → Int} {LX : Nat} : ck_Ok p2_O X LX 57 p2_s493 := ck_okq (cuts := []) (f := 204) ⟨p2_nmu, ck_E1 (ck_S1 p2_s487_s (ck_S1 p2_s488_s (ck_S1 p2_s489_s (ck_S1 p2_s490_s (ck_S1 p2_s491_s (ck_S1 p2_s492_s ck_S0)))))) ck_E0⟩ (by decide +kernel)
set_option maxRecDepth 100000 in
/-- GlacierMail$Rows.copyFrom -/
noncomputable def p2_s494 : ck_Sum := ((1, 0, 0), 245, [.inr (.inr (.inl 149)), .inr (.inr (.inl 4))], ([], [], []), ([(149, 3, 3), (150, 0, 55)], []), [(.inr none, 245, ([], [], []))])
set_option maxRecDepth 100000 in
theorem p2_s494_s {X : Int → Int} {LX : Nat} : ck_Ok p2_O X LX 58 p2_s494 := ck_okq (cuts := []) (f := 114) ⟨p2_nmu, ck_E0⟩ (by decide +kernel)
set_option maxRecDepth 100000 in
/-- GlacierMail$Rows.copyFrom -/
noncomputable def p2_s495 : ck_Sum := ((1, 0, 0), 245, [.inr (.inr (.inl 151)), .inr (.inr (.inl 6))], ([], [], []), ([(151, 3, 3), (152, 0, 23)], []), [(.inr none, 245, ([], [], []))])
set_option maxRecDepth 100000 in
theorem p2_s495_s {X : Int → Int} {LX : Nat} : ck_Ok p2_O X LX 58 p2_s495 := ck_okq (cuts := []) (f := 114) ⟨p2_nmu, ck_E0⟩ (by decide +kernel)
set_option maxRecDepth 100000 in
/-- GlacierMail$Rows.copyFrom -/
noncomputable def p2_s496 : ck_Sum := ((1, 0, 0), 245, [.inr (.inr (.inl 153)), .inr (.inr (.inl 8))], ([], [], []), ([(153, 3, 3), (154, 0, 23)], []), [(.inr none, 245, ([], [], []))])
set_option maxRecDepth 100000 in
theorem p2_s496_s {X : Int → Int} {LX : Nat} : ck_Ok p2_O X LX 58 p2_s496 := ck_okq (cuts := []) (f := 114) ⟨p2_nmu, ck_E0⟩ (by decide +kernel)
set_option maxRecDepth 100000 in
/-- GlacierMail$Rows.copyFrom -/
noncomputable def p2_s497 : ck_Sum := ((1, 0, 0), 245, [.inr (.inr (.inl 155)), .inr (.inr (.inl 10))], ([], [], []), ([(155, 3, 3), (156, 0, 167)], []), [(.inr none, 245, ([], [], []))])
set_option maxRecDepth 100000 in
theorem p2_s497_s {X : Int → Int} {LX : Nat} : ck_Ok p2_O X LX 58 p2_s497 := ck_okq (cuts := []) (f := 114) ⟨p2_nmu, ck_E0⟩ (by decide +kernel)
set_option maxRecDepth 100000 in
/-- GlacierMail$Rows.copyFrom -/
noncomputable def p2_s498 : ck_Sum := ((1, 0, 0), 245, [.inr (.inr (.inl 157)), .inr (.inr (.inl 12))], ([], [], []), ([(157, 3, 3), (158, 0, 35)], []), [(.inr none, 245, ([], [], []))])
set_option maxRecDepth 100000 in
theorem p2_s498_s {X : Int → Int} {LX : Nat} : ck_Ok p2_O X LX 58 p2_s498 := ck_okq (cuts := []) (f := 114) ⟨p2_nmu, ck_E0⟩ (by decide +kernel)
set_option maxRecDepth 100000 in
/-- GlacierMail$Rows.copyFrom -/
noncomputable def p2_s499 : ck_Sum := ((1, 0, 0), 245, [.inr (.inr (.inl 159)), .inr (.inr (.inl 14))], ([], [], []), ([(159, 3, 3), (160, 0, 71)], []), [(.inr none, 245, ([], [], []))])
set_option maxRecDepth 100000 in
theorem p2_s499_s {X : Int → Int} {LX : Nat} : ck_Ok p2_O X LX 58 p2_s499 := ck_okq (cuts := []) (f := 114) ⟨p2_nmu, ck_E0⟩ (by decide +kernel)
set_option maxRecDepth 100000 in
/-- GlacierMail$State.copyFrom -/
noncomputable def p2_s500 : ck_Sum := ((2, 0, 0), 245, [.inr (.inr (.inl 148)), .inr (.inr (.inl 3))], ([], [(3, 8, 0), (148, 8, 100148)], [(3, 6, 6, (0, 299, [(10, 0)]))]), (zl97, [(148, 8)]), [(.inr none, 245, ([], [(148, 8, 0)], [(148, 6, 6, (0, 299, [(10, 0)]))]))])
set_option maxRecDepth 100000 in
theorem p2_s500_s {X : Int → Int} {LX : Nat} : ck_Ok p2_O X LX 57 p2_s500 := ck_okq (cuts := []) (f := 204) ⟨p2_nmu, ck_E1 (ck_S1 p2_s494_s (ck_S1 p2_s495_s (ck_S1 p2_s496_s (ck_S1 p2_s497_s (ck_S1 p2_s498_s (ck_S1 p2_s499_s ck_S0)))))) ck_E0⟩ (by decide +kernel)
set_option maxRecDepth 100000 in
/-- GlacierMail$Rows.copyFrom -/
noncomputable def p2_s501 : ck_Sum := ((1, 0, 0), 245, [.inr (.inr (.inl 162)), .inr (.inr (.inl 4))], ([], [], []), ([(162, 3, 3), (163, 0, 55)], []), [(.inr none, 245, ([], [], []))])
set_option maxRecDepth 100000 in
theorem p2_s501_s {X : Int → Int} {LX : Nat} : ck_Ok p2_O X LX 58 p2_s501 := ck_okq (cuts := []) (f := 114) ⟨p2_nmu, ck_E0⟩ (by decide +kernel)
set_option maxRecDepth 100000 in
/-- GlacierMail$Rows.copyFrom -/
noncomputable def p2_s502 : ck_Sum := ((1, 0, 0), 245, [.inr (.inr (.inl 164)), .inr (.inr (.inl 6))], ([], [], []), ([(164, 3, 3), (165, 0, 23)], []), [(.inr none, 245, ([], [], []))])
set_option maxRecDepth 100000 in
theorem p2_s502_s {X : Int → Int} {LX : Nat} : ck_Ok p2_O X LX 58 p2_s502 := ck_okq (cuts := []) (f := 114) ⟨p2_nmu, ck_E0⟩ (by decide +kernel)
set_option maxRecDepth 100000 in
/-- GlacierMail$Rows.copyFrom -/
noncomputable def p2_s503 : ck_Sum := ((1, 0, 0), 245, [.inr (.inr (.inl 166)), .inr (.inr (.inl 8))], ([], [], []), ([(166, 3, 3), (167, 0, 23)], []), [(.inr none, 245, ([], [], []))])
set_option maxRecDepth 100000 in
theorem p2_s503_s {X : Int → Int} {LX : Nat} : ck_Ok p2_O X LX 58 p2_s503 := ck_okq (cuts := []) (f := 114) ⟨p2_nmu, ck_E0⟩ (by decide +kernel)
set_option maxRecDepth 100000 in
/-- GlacierMail$Rows.copyFrom -/
noncomputable def p2_s504 : ck_Sum := ((1, 0, 0), 245, [.inr (.inr (.inl 168)), .inr (.inr (.inl 10))], ([], [], []), ([(168, 3, 3), (169, 0, 167)], []), [(.inr none, 245, ([], [], []))])
set_option maxRecDepth 100000 in
theorem p2_s504_s {X : Int → Int} {LX : Nat} : ck_Ok p2_O X LX 58 p2_s504 := ck_okq (cuts := []) (f := 114) ⟨p2_nmu, ck_E0⟩ (by decide +kernel)
set_option maxRecDepth 100000 in
/-- GlacierMail$Rows.copyFrom -/
noncomputable def p2_s505 : ck_Sum := ((1, 0, 0), 245, [.inr (.inr (.inl 170)), .inr (.inr (.inl 12))], ([], [], []), ([(170, 3, 3), (171, 0, 35)], []), [(.inr none, 245, ([], [], []))])
set_option maxRecDepth 100000 in
theorem p2_s505_s {X : Int → Int} {LX : Nat} : ck_Ok p2_O X LX 58 p2_s505 := ck_okq (cuts := []) (f := 114) ⟨p2_nmu, ck_E0⟩ (by decide +kernel)
set_option maxRecDepth 100000 in
/-- GlacierMail$Rows.copyFrom -/
noncomputable def p2_s506 : ck_Sum := ((1, 0, 0), 245, [.inr (.inr (.inl 172)), .inr (.inr (.inl 14))], ([], [], []), ([(172, 3, 3), (173, 0, 71)], []), [(.inr none, 245, ([], [], []))])
set_option maxRecDepth 100000 in
theorem p2_s506_s {X : Int → Int} {LX : Nat} : ck_Ok p2_O X LX 58 p2_s506 := ck_okq (cuts := []) (f := 114) ⟨p2_nmu, ck_E0⟩ (by decide +kernel)
set_option maxRecDepth 100000 in
/-- GlacierMail$State.copyFrom -/
noncomputable def p2_s507 : ck_Sum := ((2, 0, 0), 245, [.inr (.inr (.inl 161)), .inr (.inr (.inl 3))], ([], [(3, 8, 0), (161, 8, 100161)], [(3, 6, 6, (0, 299, [(10, 0)]))]), (zl98, [(161, 8)]), [(.inr none, 245, ([], [(161, 8, 0)], [(161, 6, 6, (0, 299, [(10, 0)]))]))])
set_option maxRecDepth 100000 in
theorem p2_s507_s {X : Int → Int} {LX : Nat} : ck_Ok p2_O X LX 57 p2_s507 := ck_okq (cuts := []) (f := 204) ⟨p2_nmu, ck_E1 (ck_S1 p2_s501_s (ck_S1 p2_s502_s (ck_S1 p2_s503_s (ck_S1 p2_s504_s (ck_S1 p2_s505_s (ck_S1 p2_s506_s ck_S0)))))) ck_E0⟩ (by decide +kernel)
set_option maxRecDepth 100000 in
/-- GlacierMail$Rows.copyFrom -/
noncomputable def p2_s508 : ck_Sum := ((1, 0, 0), 245, [.inr (.inr (.inl 175)), .inr (.inr (.inl 4))], ([], [], []), ([(175, 3, 3), (176, 0, 55)], []), [(.inr none, 245, ([], [], []))])
set_option maxRecDepth 100000 in
theorem p2_s508_s {X : Int → Int} {LX : Nat} : ck_Ok p2_O X LX 58 p2_s508 := ck_okq (cuts := []) (f := 114) ⟨p2_nmu, ck_E0⟩ (by decide +kernel)
set_option maxRecDepth 100000 in
/-- GlacierMail$Rows.copyFrom -/
noncomputable def p2_s509 : ck_Sum := ((1, 0, 0), 245, [.inr (.inr (.inl 177)), .inr (.inr (.inl 6))], ([], [], []), ([(177, 3, 3), (178, 0, 23)], []), [(.inr none, 245, ([], [], []))])
set_option maxRecDepth 100000 in
theorem p2_s509_s {X : Int → Int} {LX : Nat} : ck_Ok p2_O X LX 58 p2_s509 := ck_okq (cuts := []) (f := 114) ⟨p2_nmu, ck_E0⟩ (by decide +kernel)
set_option maxRecDepth 100000 in
/-- GlacierMail$Rows.copyFrom -/
noncomputable def p2_s510 : ck_Sum := ((1, 0, 0), 245, [.inr (.inr (.inl 179)), .inr (.inr (.inl 8))], ([], [], []), ([(179, 3, 3), (180, 0, 23)], []), [(.inr none, 245, ([], [], []))])
set_option maxRecDepth 100000 in
theorem p2_s510_s {X : Int → Int} {LX : Nat} : ck_Ok p2_O X LX 58 p2_s510 := ck_okq (cuts := []) (f := 114) ⟨p2_nmu, ck_E0⟩ (by decide +kernel)
set_option maxRecDepth 100000 in
/-- GlacierMail$Rows.copyFrom -/
noncomputable def p2_s511 : ck_Sum := ((1, 0, 0), 245, [.inr (.inr (.inl 181)), .inr (.inr (.inl 10))], ([], [], []), ([(181, 3, 3), (182, 0, 167)], []), [(.inr none, 245, ([], [], []))])
set_option maxRecDepth 100000 in
theorem p2_s511_s {X : Int → Int} {LX : Nat} : ck_Ok p2_O X LX 58 p2_s511 := ck_okq (cuts := []) (f := 114) ⟨p2_nmu, ck_E0⟩ (by decide +kernel)
set_option maxRecDepth 100000 in
/-- GlacierMail$Rows.copyFrom -/
noncomputable def p2_s512 : ck_Sum := ((1, 0, 0), 245, [.inr (.inr (.inl 183)), .inr (.inr (.inl 12))], ([], [], []), ([(183, 3, 3), (184, 0, 35)], []), [(.inr none, 245, ([], [], []))])
set_option maxRecDepth 100000 in
theorem p2_s512_s {X : Int → Int} {LX : Nat} : ck_Ok p2_O X LX 58 p2_s512 := ck_okq (cuts := []) (f := 114) ⟨p2_nmu, ck_E0⟩ (by decide +kernel)
set_option maxRecDepth 100000 in
/-- GlacierMail$Rows.copyFrom -/
noncomputable def p2_s513 : ck_Sum := ((1, 0, 0), 245, [.inr (.inr (.inl 185)), .inr (.inr (.inl 14))], ([], [], []), ([(185, 3, 3), (186, 0, 71)], []), [(.inr none, 245, ([], [], []))])
set_option maxRecDepth 100000 in
theorem p2_s513_s {X : Int → Int} {LX : Nat} : ck_Ok p2_O X LX 58 p2_s513 := ck_okq (cuts := []) (f := 114) ⟨p2_nmu, ck_E0⟩ (by decide +kernel)
set_option maxRecDepth 100000 in
/-- GlacierMail$State.copyFrom -/
noncomputable def p2_s514 : ck_Sum := ((2, 0, 0), 245, [.inr (.inr (.inl 174)), .inr (.inr (.inl 3))], ([], [(3, 8, 0), (174, 8, 100174)], [(3, 6, 6, (0, 299, [(10, 0)]))]), (zl99, [(174, 8)]), [(.inr none, 245, ([], [(174, 8, 0)], [(174, 6, 6, (0, 299, [(10, 0)]))]))])
set_option maxRecDepth 100000 in
theorem p2_s514_s {X : Int → Int} {LX : Nat} : ck_Ok p2_O X LX 57 p2_s514 := ck_okq (cuts := []) (f := 204) ⟨p2_nmu, ck_E1 (ck_S1 p2_s508_s (ck_S1 p2_s509_s (ck_S1 p2_s510_s (ck_S1 p2_s511_s (ck_S1 p2_s512_s (ck_S1 p2_s513_s ck_S0)))))) ck_E0⟩ (by decide +kernel)
set_option maxRecDepth 100000 in
/-- GlacierMail$Rows.copyFrom -/
noncomputable def p2_s515 : ck_Sum := ((1, 0, 0), 245, [.inr (.inr (.inl 188)), .inr (.inr (.inl 4))], ([], [], []), ([(188, 3, 3), (189, 0, 55)], []), [(.inr none, 245, ([], [], []))])
set_option maxRecDepth 100000 in
theorem p2_s515_s {X : Int → Int} {LX : Nat} : ck_Ok p2_O X LX 58 p2_s515 := ck_okq (cuts := []) (f := 114) ⟨p2_nmu, ck_E0⟩ (by decide +kernel)
set_option maxRecDepth 100000 in
/-- GlacierMail$Rows.copyFrom -/
noncomputable def p2_s516 : ck_Sum := ((1, 0, 0), 245, [.inr (.inr (.inl 190)), .inr (.inr (.inl 6))], ([], [], []), ([(190, 3, 3), (191, 0, 23)], []), [(.inr none, 245, ([], [], []))])
set_option maxRecDepth 100000 in
theorem p2_s516_s {X : Int → Int} {LX : Nat} : ck_Ok p2_O X LX 58 p2_s516 := ck_okq (cuts := []) (f := 114) ⟨p2_nmu, ck_E0⟩ (by decide +kernel)
set_option maxRecDepth 100000 in
/-- GlacierMail$Rows.copyFrom -/
noncomputable def p2_s517 : ck_Sum := ((1, 0, 0), 245, [.inr (.inr (.inl 192)), .inr (.inr (.inl 8))], ([], [], []), ([(192, 3, 3), (193, 0, 23)], []), [(.inr none, 245, ([], [], []))])
set_option maxRecDepth 100000 in
theorem p2_s517_s {X : Int → Int} {LX : Nat} : ck_Ok p2_O X LX 58 p2_s517 := ck_okq (cuts := []) (f := 114) ⟨p2_nmu, ck_E0⟩ (by decide +kernel)
set_option maxRecDepth 100000 in
/-- GlacierMail$Rows.copyFrom -/
noncomputable def p2_s518 : ck_Sum := ((1, 0, 0), 245, [.inr (.inr (.inl 194)), .inr (.inr (.inl 10))], ([], [], []), ([(194, 3, 3), (195, 0, 167)], []), [(.inr none, 245, ([], [], []))])
set_option maxRecDepth 100000 in
theorem p2_s518_s {X : Int → Int} {LX : Nat} : ck_Ok p2_O X LX 58 p2_s518 := ck_okq (cuts := []) (f := 114) ⟨p2_nmu, ck_E0⟩ (by decide +kernel)
set_option maxRecDepth 100000 in
/-- GlacierMail$Rows.copyFrom -/
noncomputable def p2_s519 : ck_Sum := ((1, 0, 0), 245, [.inr (.inr (.inl 196)), .inr (.inr (.inl 12))], ([], [], []), ([(196, 3, 3), (197, 0, 35)], []), [(.inr none, 245, ([], [], []))])
set_option maxRecDepth 100000 in
theorem p2_s519_s {X : Int → Int} {LX : Nat} : ck_Ok p2_O X LX 58 p2_s519 := ck_okq (cuts := []) (f := 114) ⟨p2_nmu, ck_E0⟩ (by decide +kernel)
set_option maxRecDepth 100000 in
/-- GlacierMail$Rows.copyFrom -/
noncomputable def p2_s520 : ck_Sum := ((1, 0, 0), 245, [.inr (.inr (.inl 198)), .inr (.inr (.inl 14))], ([], [], []), ([(198, 3, 3), (199, 0, 71)], []), [(.inr none, 245, ([], [], []))])
set_option maxRecDepth 100000 in
theorem p2_s520_s {X : Int → Int} {LX : Nat} : ck_Ok p2_O X LX 58 p2_s520 := ck_okq (cuts := []) (f := 114) ⟨p2_nmu, ck_E0⟩ (by decide +kernel)
set_option maxRecDepth 100000 in
/-- GlacierMail$State.copyFrom -/
noncomputable def p2_s521 : ck_Sum := ((2, 0, 0), 245, [.inr (.inr (.inl 187)), .inr (.inr (.inl 3))], ([], [(3, 8, 0), (187, 8, 100187)], [(3, 6, 6, (0, 299, [(10, 0)]))]), (zl100, [(187, 8)]), [(.inr none, 245, ([], [(187, 8, 0)], [(187, 6, 6, (0, 299, [(10, 0)]))]))])
set_option maxRecDepth 100000 in
theorem p2_s521_s {X : Int → Int} {LX : Nat} : ck_Ok p2_O X LX 57 p2_s521 := ck_okq (cuts := []) (f := 204) ⟨p2_nmu, ck_E1 (ck_S1 p2_s515_s (ck_S1 p2_s516_s (ck_S1 p2_s517_s (ck_S1 p2_s518_s (ck_S1 p2_s519_s (ck_S1 p2_s520_s ck_S0)))))) ck_E0⟩ (by decide +kernel)
set_option maxRecDepth 100000 in
/-- GlacierMail$Rows.copyFrom -/
noncomputable def p2_s522 : ck_Sum := ((1, 0, 0), 245, [.inr (.inr (.inl 45)), .inr (.inr (.inl 4))], ([], [], []), ([(45, 3, 3), (46, 0, 55)], []), [(.inr none, 245, ([], [], []))])
set_option maxRecDepth 100000 in
theorem p2_s522_s {X : Int → Int} {LX : Nat} : ck_Ok p2_O X LX 58 p2_s522 := ck_okq (cuts := []) (f := 114) ⟨p2_nmu, ck_E0⟩ (by decide +kernel)
set_option maxRecDepth 100000 in
/-- GlacierMail$Rows.copyFrom -/
noncomputable def p2_s523 : ck_Sum := ((1, 0, 0), 245, [.inr (.inr (.inl 47)), .inr (.inr (.inl 6))], ([], [], []), ([(47, 3, 3), (48, 0, 23)], []), [(.inr none, 245, ([], [], []))])
set_option maxRecDepth 100000 in
theorem p2_s523_s {X : Int → Int} {LX : Nat} : ck_Ok p2_O X LX 58 p2_s523 := ck_okq (cuts := []) (f := 114) ⟨p2_nmu, ck_E0⟩ (by decide +kernel)
set_option maxRecDepth 100000 in
/-- GlacierMail$Rows.copyFrom -/
noncomputable def p2_s524 : ck_Sum := ((1, 0, 0), 245, [.inr (.inr (.inl 49)), .inr (.inr (.inl 8))], ([], [], []), ([(49, 3, 3), (50, 0, 23)], []), [(.inr none, 245, ([], [], []))])
set_option maxRecDepth 100000 in
theorem p2_s524_s {X : Int → Int} {LX : Nat} : ck_Ok p2_O X LX 58 p2_s524 := ck_okq (cuts := []) (f := 114) ⟨p2_nmu, ck_E0⟩ (by decide +kernel)
set_option maxRecDepth 100000 in
/-- GlacierMail$Rows.copyFrom -/
noncomputable def p2_s525 : ck_Sum := ((1, 0, 0), 245, [.inr (.inr (.inl 51)), .inr (.inr (.inl 10))], ([], [], []), ([(51, 3, 3), (52, 0, 167)], []), [(.inr none, 245, ([], [], []))])
set_option maxRecDepth 100000 in
theorem p2_s525_s {X : Int → Int} {LX : Nat} : ck_Ok p2_O X LX 58 p2_s525 := ck_okq (cuts := []) (f := 114) ⟨p2_nmu, ck_E0⟩ (by decide +kernel)
set_option maxRecDepth 100000 in
/-- GlacierMail$Rows.copyFrom -/
noncomputable def p2_s526 : ck_Sum := ((1, 0, 0), 245, [.inr (.inr (.inl 53)), .inr (.inr (.inl 12))], ([], [], []), ([(53, 3, 3), (54, 0, 35)], []), [(.inr none, 245, ([], [], []))])
set_option maxRecDepth 100000 in
theorem p2_s526_s {X : Int → Int} {LX : Nat} : ck_Ok p2_O X LX 58 p2_s526 := ck_okq (cuts := []) (f := 114) ⟨p2_nmu, ck_E0⟩ (by decide +kernel)
set_option maxRecDepth 100000 in
/-- GlacierMail$Rows.copyFrom -/
noncomputable def p2_s527 : ck_Sum := ((1, 0, 0), 245, [.inr (.inr (.inl 55)), .inr (.inr (.inl 14))], ([], [], []), ([(55, 3, 3), (56, 0, 71)], []), [(.inr none, 245, ([], [], []))])
set_option maxRecDepth 100000 in
theorem p2_s527_s {X : Int → Int} {LX : Nat} : ck_Ok p2_O X LX 58 p2_s527 := ck_okq (cuts := []) (f := 114) ⟨p2_nmu, ck_E0⟩ (by decide +kernel)
set_option maxRecDepth 100000 in
/-- GlacierMail$State.copyFrom -/
noncomputable def p2_s528 : ck_Sum := ((2, 0, 0), 245, [.inr (.inr (.inl 44)), .inr (.inr (.inl 3))], ([], [(3, 8, 0), (44, 8, 100044)], [(3, 6, 6, (0, 299, [(10, 0)]))]), (zl101, [(44, 8)]), [(.inr none, 245, ([], [(44, 8, 0)], [(44, 6, 6, (0, 299, [(10, 0)]))]))])
set_option maxRecDepth 100000 in
theorem p2_s528_s {X : Int → Int} {LX : Nat} : ck_Ok p2_O X LX 57 p2_s528 := ck_okq (cuts := []) (f := 204) ⟨p2_nmu, ck_E1 (ck_S1 p2_s522_s (ck_S1 p2_s523_s (ck_S1 p2_s524_s (ck_S1 p2_s525_s (ck_S1 p2_s526_s (ck_S1 p2_s527_s ck_S0)))))) ck_E0⟩ (by decide +kernel)
set_option maxRecDepth 100000 in
/-- GlacierMail$History.remember -/
noncomputable def p2_s529 : ck_Sum := ((3, 0, 0), 245, [.inr (.inr (.inl 42)), .inr (.inr (.inl 3))], ([], zl102, [(3, 6, 6, (0, 299, [(10, 0)]))]), (zl103, zl104), [(.inr none, 245, ([], zl105, zl106)), (.inr none, 245, ([], zl107, zl108)), (.inr none, 245, ([], zl109, zl110)), (.inr none, 245, ([], zl111, zl112)), (.inr none, 245, ([], zl113, zl114)), (.inr none, 245, ([], zl115, zl116)), (.inr none, 245, ([], zl117, zl118)), (.inr none, 245, ([], zl119, zl120)), (.inr none, 245, ([], zl121, zl122)), (.inr none, 245, ([], zl123, zl124)), (.inr none, 245, ([], zl125, zl126)), (.inr none, 245, ([], zl127, zl128)), (.inr none, 245, ([], zl129, zl130))])
set_option maxRecDepth 100000 in
theorem p2_s529_s {X : Int → Int} {LX : Nat} : ck_Ok p2_O X LX 154 p2_s529 := ck_okq (cuts := []) (f := 124) ⟨p2_nmu, ck_E1 (ck_S1 p2_s444_s ck_S0) (ck_E1 (ck_S1 p2_s451_s (ck_S1 p2_s458_s (ck_S1 p2_s465_s (ck_S1 p2_s472_s (ck_S1 p2_s479_s (ck_S1 p2_s486_s (ck_S1 p2_s493_s (ck_S1 p2_s500_s (ck_S1 p2_s507_s (ck_S1 p2_s514_s (ck_S1 p2_s521_s (ck_S1 p2_s528_s ck_S0)))))))))))) ck_E0)⟩ (by decide +kernel)
set_option maxRecDepth 100000 in
/-- GlacierMail$Rows.add -/
noncomputable def p2_s530 : ck_Sum := ((0, 0, 0), 245, [.inr (.inr (.inl 10))], ([], [], []), ([(10, 3, 3)], []), zl131)
set_option maxRecDepth 100000 in
theorem p2_s530_s {X : Int → Int} {LX : Nat} : ck_Ok p2_O X LX 102 p2_s530 := ck_okq (cuts := []) (f := 102) ⟨p2_nmu, ck_E0⟩ (by decide +kernel)
set_option maxRecDepth 100000 in
/-- GlacierMail$Rows.put -/
noncomputable def p2_s531 : ck_Sum := ((0, 0, 0), 245, [.inr (.inr (.inl 10)), .inl (0, 23, []), .inl (ck_one 0), .inl (0, 7, [])], ([], [], []), (zl132, []), [(.inr none, 245, ([], [], []))])
set_option maxRecDepth 100000 in
theorem p2_s531_s {X : Int → Int} {LX : Nat} : ck_Ok p2_O X LX 45 p2_s531 := ck_okq (cuts := []) (f := 116) ⟨p2_nmu, ck_E0⟩ (by decide +kernel)
set_option maxRecDepth 100000 in
/-- GlacierMail$Rows.put -/
noncomputable def p2_s532 : ck_Sum := ((0, 0, 0), 245, [.inr (.inr (.inl 10)), .inl (0, 23, []), .inl (ck_one 1), .inl (0, 7, [])], ([], [], []), (zl133, []), [(.inr none, 245, ([], [], []))])
set_option maxRecDepth 100000 in
theorem p2_s532_s {X : Int → Int} {LX : Nat} : ck_Ok p2_O X LX 45 p2_s532 := ck_okq (cuts := []) (f := 116) ⟨p2_nmu, ck_E0⟩ (by decide +kernel)
set_option maxRecDepth 100000 in
/-- GlacierMail$Rows.put -/
noncomputable def p2_s533 : ck_Sum := ((0, 0, 0), 245, [.inr (.inr (.inl 10)), .inl (0, 23, []), .inl (ck_one 2), .inl ((-1), 98, [])], ([], [], []), (zl134, []), [(.inr none, 245, ([], [], []))])
set_option maxRecDepth 100000 in
theorem p2_s533_s {X : Int → Int} {LX : Nat} : ck_Ok p2_O X LX 45 p2_s533 := ck_okq (cuts := []) (f := 116) ⟨p2_nmu, ck_E0⟩ (by decide +kernel)
set_option maxRecDepth 100000 in
/-- GlacierMail$Rows.put -/
noncomputable def p2_s534 : ck_Sum := ((0, 0, 0), 245, [.inr (.inr (.inl 10)), .inl (0, 23, []), .inl (ck_one 3), .inl (0, 299, [])], ([], [], []), (zl135, []), [(.inr none, 245, ([], [], []))])
set_option maxRecDepth 100000 in
theorem p2_s534_s {X : Int → Int} {LX : Nat} : ck_Ok p2_O X LX 45 p2_s534 := ck_okq (cuts := []) (f := 116) ⟨p2_nmu, ck_E0⟩ (by decide +kernel)
set_option maxRecDepth 100000 in
/-- GlacierMail$Rows.put -/
noncomputable def p2_s535 : ck_Sum := ((0, 0, 0), 245, [.inr (.inr (.inl 10)), .inl (0, 23, []), .inl (ck_one 4), .inl ((-1), 98, [])], ([], [], []), (zl136, []), [(.inr none, 245, ([], [], []))])
set_option maxRecDepth 100000 in
theorem p2_s535_s {X : Int → Int} {LX : Nat} : ck_Ok p2_O X LX 45 p2_s535 := ck_okq (cuts := []) (f := 116) ⟨p2_nmu, ck_E0⟩ (by decide +kernel)
set_option maxRecDepth 100000 in
/-- GlacierMail$Rows.put -/
noncomputable def p2_s536 : ck_Sum := ((0, 0, 0), 245, [.inr (.inr (.inl 10)), .inl (0, 23, []), .inl (ck_one 5), .inl (ck_one (-1))], ([], [], []), (zl137, []), [(.inr none, 245, ([], [], []))])
set_option maxRecDepth 100000 in
theorem p2_s536_s {X : Int → Int} {LX : Nat} : ck_Ok p2_O X LX 45 p2_s536 := ck_okq (cuts := []) (f := 116) ⟨p2_nmu, ck_E0⟩ (by decide +kernel)
set_option maxRecDepth 100000 in
/-- GlacierMail$Rows.put -/
noncomputable def p2_s537 : ck_Sum := ((0, 0, 0), 245, [.inr (.inr (.inl 10)), .inl (0, 23, []), .inl (ck_one 6), .inl (ck_one (-1))], ([], [], []), (zl138, []), [(.inr none, 245, ([], [], []))])
set_option maxRecDepth 100000 in
theorem p2_s537_s {X : Int → Int} {LX : Nat} : ck_Ok p2_O X LX 45 p2_s537 := ck_okq (cuts := []) (f := 116) ⟨p2_nmu, ck_E0⟩ (by decide +kernel)
set_option maxRecDepth 100000 in
/-- GlacierMail$Rows.put -/
noncomputable def p2_s538 : ck_Sum := ((0, 0, 0), 245, [.inr (.inr (.inl 10)), .inl (ck_one (-1)), .inl (ck_one 0), .inl (0, 7, [])], ([], [], []), ([], []), [(.inr none, 245, ([], [], []))])
set_option maxRecDepth 100000 in
theorem p2_s538_s {X : Int → Int} {LX : Nat} : ck_Ok p2_O X LX 45 p2_s538 := ck_okq (cuts := []) (f := 76) ⟨p2_nmu, ck_E0⟩ (by decide +kernel)
set_option maxRecDepth 100000 in
/-- GlacierMail$Rows.put -/
noncomputable def p2_s539 : ck_Sum := ((0, 0, 0), 245, [.inr (.inr (.inl 10)), .inl (ck_one (-1)), .inl (ck_one 1), .inl (0, 7, [])], ([], [], []), ([], []), [(.inr none, 245, ([], [], []))])
set_option maxRecDepth 100000 in
theorem p2_s539_s {X : Int → Int} {LX : Nat} : ck_Ok p2_O X LX 45 p2_s539 := ck_okq (cuts := []) (f := 76) ⟨p2_nmu, ck_E0⟩ (by decide +kernel)
set_option maxRecDepth 100000 in
/-- GlacierMail$Rows.put -/
noncomputable def p2_s540 : ck_Sum := ((0, 0, 0), 245, [.inr (.inr (.inl 10)), .inl (ck_one (-1)), .inl (ck_one 2), .inl ((-1), 98, [])], ([], [], []), ([], []), [(.inr none, 245, ([], [], []))])
set_option maxRecDepth 100000 in
theorem p2_s540_s {X : Int → Int} {LX : Nat} : ck_Ok p2_O X LX 45 p2_s540 := ck_okq (cuts := []) (f := 76) ⟨p2_nmu, ck_E0⟩ (by decide +kernel)
end
/-! 78r80a06.sf -/
section
/-! EVERY CALL ENDS, whatever was done before (laid by wip/am/p2k.py). -/
set_option maxRecDepth 100000 in
/-- GlacierMail$Rows.put -/
noncomputable def p2_s541 : ck_Sum := ((0, 0, 0), 245, [.inr (.inr (.inl 10)), .inl (ck_one (-1)), .inl (ck_one 3), .inl (0, 299, [])], ([], [], []), ([], []), [(.inr none, 245, ([], [], []))])
set_option maxRecDepth 100000 in
theorem p2_s541_s {X : Int → Int} {LX : Nat} : ck_Ok p2_O X LX 45 p2_s541 := ck_okq (cuts := []) (f := 76) ⟨p2_nmu, ck_E0⟩ (by decide +kernel)
set_option maxRecDepth 100000 in
/-- GlacierMail$Rows.put -/
noncomputable def p2_s542 : ck_Sum := ((0, 0, 0), 245, [.inr (.inr (.inl 10)), .inl (ck_one (-1)), .inl (ck_one 4), .inl ((-1), 98, [])], ([], [], []), ([], []), [(.inr none, 245, ([], [], []))])
set_option maxRecDepth 100000 in
theorem p2_s542_s {X : Int → Int} {LX : Nat} : ck_Ok p2_O X LX 45 p2_s542 := ck_okq (cuts := []) (f := 76) ⟨p2_nmu, ck_E0⟩ (by decide +kernel)
set_option maxRecDepth 100000 in
/-- GlacierMail$Rows.put -/
noncomputable def p2_s543 : ck_Sum := ((0, 0, 0), 245, [.inr (.inr (.inl 10)), .inl (ck_one (-1)), .inl (ck_one 5), .inl (ck_one (-1))], ([], [], []), ([], []), [(.inr none, 245, ([], [], []))])
set_option maxRecDepth 100000 in
theorem p2_s543_s {X : Int → Int} {LX : Nat} : ck_Ok p2_O X LX 45 p2_s543 := ck_okq (cuts := []) (f := 76) ⟨p2_nmu, ck_E0⟩ (by decide +kernel)
set_option maxRecDepth 100000 in
/-- GlacierMail$Rows.put -/
noncomputable def p2_s544 : ck_Sum := ((0, 0, 0), 245, [.inr (.inr (.inl 10)), .inl (ck_one (-1)), .inl (ck_one 6), .inl (ck_one (-1))], ([], [], []), ([], []), [(.inr none, 245, ([], [], []))])
set_option maxRecDepth 100000 in
theorem p2_s544_s {X : Int → Int} {LX : Nat} : ck_Ok p2_O X LX 45 p2_s544 := ck_okq (cuts := []) (f := 76) ⟨p2_nmu, ck_E0⟩ (by decide +kernel)
set_option maxRecDepth 100000 in
/-- GlacierMail$State.throwIn -/
noncomputable def p2_s545 : ck_Sum := ((1, 0, 0), 245, [.inr (.inr (.inl 3)), .inl (0, 7, []), .inl (0, 7, []), .inl ((-1), 98, []), .inl ((-1), 98, [])], ([], [], [(3, 6, 6, (0, 299, [(10, 0)]))]), ([(10, 3, 3), (11, 0, 167)], []), zl131)
set_option maxRecDepth 100000 in
theorem p2_s545_s {X : Int → Int} {LX : Nat} : ck_Ok p2_O X LX 119 p2_s545 := ck_okq (cuts := []) (f := 168) ⟨p2_nmu, ck_E1 (ck_S1 p2_s530_s ck_S0) (ck_E1 (ck_S1 p2_s531_s (ck_S1 p2_s532_s (ck_S1 p2_s533_s (ck_S1 p2_s534_s (ck_S1 p2_s535_s (ck_S1 p2_s536_s (ck_S1 p2_s537_s (ck_S1 p2_s538_s (ck_S1 p2_s539_s (ck_S1 p2_s540_s (ck_S1 p2_s541_s (ck_S1 p2_s542_s (ck_S1 p2_s543_s (ck_S1 p2_s544_s ck_S0)))))))))))))) ck_E0)⟩ (by decide +kernel)
set_option maxRecDepth 100000 in
/-- GlacierMail.post -/
noncomputable def p2_s546 : ck_Sum := ((8, 4, 24), 245, [.inr (.inr (.inl 1)), .inl (0, 7, []), .inl (0, 7, [])], ([], zl102, [(3, 6, 6, (0, 299, [(10, 0)]))]), (zl139, zl104), [(.inl 3, 245, ([], zl105, [])), (.inl 0, 245, ([], zl105, [])), (.inr (some (.inl (0, 23, []))), 245, ([], zl105, zl140)), (.inr (some (.inl (ck_one (-1)))), 245, ([], zl105, zl141)), (.inr (some (.inl (0, 23, []))), 245, ([], zl129, zl142)), (.inr (some (.inl (ck_one (-1)))), 245, ([], zl129, zl143)), (.inr (some (.inl (0, 23, []))), 245, ([], zl127, zl144)), (.inr (some (.inl (ck_one (-1)))), 245, ([], zl127, zl145)), (.inr (some (.inl (0, 23, []))), 245, ([], zl125, zl146)), (.inr (some (.inl (ck_one (-1)))), 245, ([], zl125, zl147)), (.inr (some (.inl (0, 23, []))), 245, ([], zl123, zl148)), (.inr (some (.inl (ck_one (-1)))), 245, ([], zl123, zl149)), (.inr (some (.inl (0, 23, []))), 245, ([], zl121, zl150)), (.inr (some (.inl (ck_one (-1)))), 245, ([], zl121, zl151)), (.inr (some (.inl (0, 23, []))), 245, ([], zl119, zl152)), (.inr (some (.inl (ck_one (-1)))), 245, ([], zl119, zl153)), (.inr (some (.inl (0, 23, []))), 245, ([], zl117, zl154)), (.inr (some (.inl (ck_one (-1)))), 245, ([], zl117, zl155)), (.inr (some (.inl (0, 23, []))), 245, ([], zl115, zl156)), (.inr (some (.inl (ck_one (-1)))), 245, ([], zl115, zl157)), (.inr (some (.inl (0, 23, []))), 245, ([], zl113, zl158)), (.inr (some (.inl (ck_one (-1)))), 245, ([], zl113, zl159)), (.inr (some (.inl (0, 23, []))), 245, ([], zl111, zl160)), (.inr (some (.inl (ck_one (-1)))), 245, ([], zl111, zl161)), (.inr (some (.inl (0, 23, []))), 245, ([], zl109, zl162)), (.inr (some (.inl (ck_one (-1)))), 245, ([], zl109, zl163)), (.inr (some (.inl (0, 23, []))), 245, ([], zl107, zl164)), (.inr (some (.inl (ck_one (-1)))), 245, ([], zl107, zl165)), (.inl 1, 245, ([], zl105, [(10, 3, 3, ck_one 24)]))])
set_option maxRecDepth 100000 in
theorem p2_s546_s {X : Int → Int} {LX : Nat} : ck_Ok p2_O X LX 152 p2_s546 := ck_okq (cuts := []) (f := 152) ⟨p2_nmu, ck_E1 (ck_S1 p2_s328_s ck_S0) (ck_E1 (ck_S1 p2_s442_s ck_S0) (ck_E1 (ck_S1 p2_s443_s ck_S0) (ck_E1 (ck_S1 p2_s529_s ck_S0) (ck_E1 (ck_S1 p2_s356_s ck_S0) (ck_E1 (ck_S1 p2_s545_s ck_S0) ck_E0)))))⟩ (by decide +kernel)
set_option maxRecDepth 100000 in
/-- GlacierMailModel.post -/
noncomputable def p2_s547 : ck_Sum := ((2, 0, 0), 245, [.inr (.inr (.inl 226)), .inl ((-2147483648), (-1), []), .inl ((-2147483648), 2147483647, [])], ([], [], [(227, 3, 3, (0, 8, [(21, 0)]))]), ([(226, 0, 0)], []), [(.inr (some (.inl (ck_one 0))), 245, ([], [], [(226, 0, 0, ck_one 1)]))])
set_option maxRecDepth 100000 in
theorem p2_s547_s {X : Int → Int} {LX : Nat} : ck_Ok p2_O X LX 315 p2_s547 := ck_okq (cuts := []) (f := 100) ⟨p2_nmu, ck_E1 (ck_S1 p2_s359_s ck_S0) (ck_E1 (ck_S1 p2_s241_s ck_S0) ck_E0)⟩ (by decide +kernel)
set_option maxRecDepth 100000 in
/-- GlacierMailModel.post -/
noncomputable def p2_s548 : ck_Sum := ((2, 0, 0), 245, [.inr (.inr (.inl 226)), .inl (8, 2147483647, []), .inl ((-2147483648), 2147483647, [])], ([], [], [(227, 3, 3, (0, 8, [(21, 0)]))]), ([(226, 0, 0)], []), [(.inr (some (.inl (ck_one 0))), 245, ([], [], [(226, 0, 0, ck_one 1)]))])
set_option maxRecDepth 100000 in
theorem p2_s548_s {X : Int → Int} {LX : Nat} : ck_Ok p2_O X LX 315 p2_s548 := ck_okq (cuts := []) (f := 100) ⟨p2_nmu, ck_E1 (ck_S1 p2_s362_s ck_S0) (ck_E1 (ck_S1 p2_s241_s ck_S0) ck_E0)⟩ (by decide +kernel)
set_option maxRecDepth 100000 in
/-- GlacierMailModel.post -/
noncomputable def p2_s549 : ck_Sum := ((2, 0, 0), 245, [.inr (.inr (.inl 226)), .inl (0, 7, []), .inl ((-2147483648), (-1), [])], ([], [], [(227, 3, 3, (0, 8, [(21, 0)]))]), ([(226, 0, 0)], []), [(.inr (some (.inl (ck_one 0))), 245, ([], [], [(226, 0, 0, ck_one 1)]))])
set_option maxRecDepth 100000 in
theorem p2_s549_s {X : Int → Int} {LX : Nat} : ck_Ok p2_O X LX 315 p2_s549 := ck_okq (cuts := []) (f := 108) ⟨p2_nmu, ck_E1 (ck_S1 p2_s365_s (ck_S1 p2_s359_s ck_S0)) (ck_E1 (ck_S1 p2_s241_s ck_S0) ck_E0)⟩ (by decide +kernel)
set_option maxRecDepth 100000 in
/-- GlacierMailModel.post -/
noncomputable def p2_s550 : ck_Sum := ((2, 0, 0), 245, [.inr (.inr (.inl 226)), .inl (0, 7, []), .inl (8, 2147483647, [])], ([], [], [(227, 3, 3, (0, 8, [(21, 0)]))]), ([(226, 0, 0)], []), [(.inr (some (.inl (ck_one 0))), 245, ([], [], [(226, 0, 0, ck_one 1)]))])
set_option maxRecDepth 100000 in
theorem p2_s550_s {X : Int → Int} {LX : Nat} : ck_Ok p2_O X LX 315 p2_s550 := ck_okq (cuts := []) (f := 108) ⟨p2_nmu, ck_E1 (ck_S1 p2_s365_s (ck_S1 p2_s362_s ck_S0)) (ck_E1 (ck_S1 p2_s241_s ck_S0) ck_E0)⟩ (by decide +kernel)
set_option maxRecDepth 100000 in
/-- GlacierMailModel.throwsIf -/
noncomputable def p2_s551 : ck_Sum := ((0, 0, 0), 245, [.inr (.inr (.inl 226)), .inl (ck_one 0), .inl (ck_one 3)], ([], [], []), ([], []), [(.inr (some (.inl (ck_one 0))), 245, ([], [], []))])
set_option maxRecDepth 100000 in
theorem p2_s551_s {X : Int → Int} {LX : Nat} : ck_Ok p2_O X LX 282 p2_s551 := ck_okq (cuts := []) (f := 78) ⟨p2_nmu, ck_E0⟩ (by decide +kernel)
set_option maxRecDepth 100000 in
/-- GlacierMailModel.throwsIf -/
noncomputable def p2_s552 : ck_Sum := ((0, 0, 0), 245, [.inr (.inr (.inl 226)), .inl (ck_one 1), .inl (ck_one 3)], ([], [], []), ([(226, 0, 0)], []), [(.inr (some (.inl (ck_one 1))), 245, ([], [], [(226, 0, 0, ck_one 3)]))])
set_option maxRecDepth 100000 in
theorem p2_s552_s {X : Int → Int} {LX : Nat} : ck_Ok p2_O X LX 282 p2_s552 := ck_okq (cuts := []) (f := 84) ⟨p2_nmu, ck_E0⟩ (by decide +kernel)
set_option maxRecDepth 100000 in
/-- GlacierMailModel.remembers -/
noncomputable def p2_s553 : ck_Sum := ((0, 0, 0), 245, [.inr (.inr (.inl 226))], ([], [], [(226, 6, 6, (0, 12, [(27, 0)]))]), ([(226, 6, 6), (230, 0, 4739)], []), [(.inr none, 245, ([], [], [(226, 6, 6, (1, 12, [(1000027, 0)]))]))])
noncomputable def p2_s553_E : List (Nat × List ck_Sum) := []
set_option maxRecDepth 100000 in
noncomputable def p2_s553_C55 : ck_C := ([some (.inr (.inr (.inl 226))), some (.inl (ck_one 0))], ([], [], [(226, 6, 6, (1, 12, [(1000027, 0)]))]), 0, .inl 1, true)
set_option maxRecDepth 100000 in
noncomputable def p2_s553_C11 : ck_C := ([some (.inr (.inr (.inl 226))), some (.inl (ck_one 0))], ([], [], [(226, 6, 6, (12, 12, [(27, 0)]))]), 0, .inl 1, true)
set_option maxRecDepth 100000 in
noncomputable def p2_s553_Z : List (Nat × ck_C) := [(55, p2_s553_C55), (11, p2_s553_C11)]
set_option maxRecDepth 100000 in
theorem p2_s553_a : (decide (p2_s553.2.2.1.length ≤ gm_ml 316) && ck_go p2_O none [] p2_s553_E 316 p2_s553.1.1 p2_s553.2.1 p2_s553.2.2.2.2.1 p2_s553.2.2.2.2.2 p2_s553_Z 188 false [(55, p2_s553_C55, 0, 0, 245), (11, p2_s553_C11, 0, 0, 245)] p2_s553.1.2.1 p2_s553.1.2.2 0 (p2_s553.2.2.1.map some ++ List.replicate (gm_ml 316 - p2_s553.2.2.1.length) none) [] p2_s553.2.1 p2_s553.2.2.2.1) = true := by decide +kernel
theorem p2_s553_u : ck_cu p2_s553_Z = true := by decide +kernel
theorem p2_s553_h {X : Int → Int} {LX : Nat} : ck_nmu p2_O ∧ ck_OkE p2_O X LX p2_s553_E := ⟨p2_nmu, ck_E0⟩
set_option maxRecDepth 100000 in
theorem p2_s553_g55 : ck_go p2_O none [] p2_s553_E 316 p2_s553.1.1 p2_s553.2.1 p2_s553.2.2.2.2.1 p2_s553.2.2.2.2.2 p2_s553_Z 188 false [] 0 0 91 (p2_s553_C55.1.set 1 (some (.inl (ck_one 395)))) [] 245 (p2_s553_C55.2.1.1, p2_s553_C55.2.1.2.1, ck_cws [(230, 0, 4739)] p2_s553_C55.2.1.2.2) = true := by decide +kernel
theorem p2_s553_y55 {X : Int → Int} {LX : Nat} {σ σ0 : Nat → Int} {K0 : gm_K} {R0 : gm_R} {M0 : gm_M} (hσ : ∀ s, s < 100 → σ s = σ0 s) : ck_Hy p2_O X LX 316 p2_s553.1.1 p2_s553.2.2.2.2.1 p2_s553.2.1 K0 R0 M0 (ck_Q p2_O σ0 p2_s553.2.2.2.2.1 p2_s553.2.1 K0 R0 M0 p2_s553.2.2.2.2.2) σ (55, p2_s553_C55, 0, 0, 245) := by
  refine ck_cpH (v := 1) (A := 230) (B := 227) (N := 395) (wa := 0) (wb := 4739) (pc' := 91) p2_s553_u p2_s553_h hσ ⟨by decide, by decide⟩ (by decide +kernel) (fun bc bs L K R M hS => ?_) p2_s553_g55 (fun _ h => nomatch h)
  · obtain ⟨hF, hl, -, hf, -⟩ := hS
    obtain ⟨u0, l0, g0⟩ := hl.2 0 (.inr (.inr (.inl 226))) rfl
    cases g0
    obtain ⟨u1, lv, x1, rfl, -, e1, e2, -⟩ := hl.2 1 (.inl (ck_one 0)) rfl
    have e1 : (0 : Int) ≤ x1 := e1
    have e2 : x1 ≤ (0 : Int) := e2
    have e3 : x1 = 0 := by omega
    subst e3
    have h6 := (ck_fi_s hf (show ck_fi p2_s553_C55.2.1 226 6 6 = some (1, 12, [(1000027, 0)]) by decide +kernel)).2 6 (Int.le_refl _) (Int.le_refl _)
    have h61 : (1 : Int) ≤ M 226 6 := h6.2.1
    have h62 : M 226 6 ≤ (12 : Int) := h6.2.2.1
    have h63 : M 226 ((6 : Nat) : Int) = M 226 6 := rfl
    have kA : (K 230).2 = 4740 := (md_kd hF md_o.2.2).2
    have kB : (K 227).2 = 2093 := (md_kd hF md_o.1.2).2
    refine ⟨395 * (M 226 ((6 : Nat) : Int) - 1), 0, ⟨by omega, by omega⟩, gm_Fx_cpy hF (fun r hr => by rw [show p2_O.2.2.ty 230 = [] by decide +kernel] at hr; cases hr) (jj_store (K := K) hF.2.2.2.2 (by omega) (md_ty hF)), fun Q hx => ?_⟩
    exact cp_lp (iv := .iload_n 1) (v := 1) (ixA := 23) (ixB := 13) (jA := 4) (jB := 1) (A := 230) (B := 227) (mo := 226) (p := 55) (qA := 78) (qB := 83) (N := 395) (offe := 32) (offb := (-33)) (by decide) (md_mo hF) (md_kd hF md_o.2.2).1 (md_kd hF md_o.1.2).1 (md_rf hF md_r.2.2) (md_rf hF md_r.1.1) (by decide +kernel) (by decide +kernel) (by decide +kernel) (by decide +kernel) ⟨by omega, ⟨by omega, by omega⟩, ⟨by omega, by omega⟩, by omega, by omega⟩ (fun e => absurd e (by decide)) (by decide) (by decide +kernel) l0 lv ⟨rfl, rfl⟩ ⟨gm_vr 226, l0, by simp [gm_sort]⟩ (by decide +kernel) (by decide +kernel) (by decide +kernel) (by decide) (by decide +kernel) (by decide +kernel) (cp_sg_cr1 (iv := .iload_n 1) (c := 395) (ix := 79) (j := 6) (by decide) l0 lv ⟨rfl, rfl⟩ (by decide +kernel) (md_mo hF) (by decide +kernel) (by decide +kernel) (by decide +kernel) (by decide +kernel) (by decide +kernel) (by decide +kernel) (by decide +kernel) (by decide +kernel) (by decide +kernel) (by decide +kernel)) (by decide +kernel) (by decide +kernel) (cp_sg_i (iv := .iload_n 1) lv ⟨rfl, rfl⟩ (by decide +kernel)) (by decide +kernel) (by decide +kernel) (by decide +kernel) (by decide +kernel) (by decide) (by decide) hx
set_option maxRecDepth 100000 in
theorem p2_s553_g11 : ck_go p2_O none [] p2_s553_E 316 p2_s553.1.1 p2_s553.2.1 p2_s553.2.2.2.2.1 p2_s553.2.2.2.2.2 p2_s553_Z 188 false [(55, p2_s553_C55, 0, 0, 245)] 0 0 40 (p2_s553_C11.1.set 1 (some (.inl (ck_one 4345)))) [] 245 (p2_s553_C11.2.1.1, p2_s553_C11.2.1.2.1, ck_cws [(230, 0, 4344)] p2_s553_C11.2.1.2.2) = true := by decide +kernel
theorem p2_s553_y11 {X : Int → Int} {LX : Nat} {σ σ0 : Nat → Int} {K0 : gm_K} {R0 : gm_R} {M0 : gm_M} (hσ : ∀ s, s < 100 → σ s = σ0 s) : ck_Hy p2_O X LX 316 p2_s553.1.1 p2_s553.2.2.2.2.1 p2_s553.2.1 K0 R0 M0 (ck_Q p2_O σ0 p2_s553.2.2.2.2.1 p2_s553.2.1 K0 R0 M0 p2_s553.2.2.2.2.2) σ (11, p2_s553_C11, 0, 0, 245) := by
  refine ck_cpH (v := 1) (A := 230) (B := 230) (N := 4345) (wa := 0) (wb := 4344) (pc' := 40) p2_s553_u p2_s553_h hσ ⟨by decide, by decide⟩ (by decide +kernel) (fun bc bs L K R M hS => ?_) p2_s553_g11 (fun h hm => by
      rcases List.mem_cons.mp hm with rfl | hm
      · exact ⟨by unfold p2_s553_Z; exact List.mem_cons_self, p2_s553_y55 hσ⟩
      · cases hm)
  · obtain ⟨hF, hl, -, hf, -⟩ := hS
    obtain ⟨u0, l0, g0⟩ := hl.2 0 (.inr (.inr (.inl 226))) rfl
    cases g0
    obtain ⟨u1, lv, x1, rfl, -, e1, e2, -⟩ := hl.2 1 (.inl (ck_one 0)) rfl
    have e1 : (0 : Int) ≤ x1 := e1
    have e2 : x1 ≤ (0 : Int) := e2
    have e3 : x1 = 0 := by omega
    subst e3
    have kA : (K 230).2 = 4740 := (md_kd hF md_o.2.2).2
    have kB : (K 230).2 = 4740 := (md_kd hF md_o.2.2).2
    refine ⟨0, 395, ⟨by omega, by omega⟩, gm_Fx_cpy hF (fun r hr => by rw [show p2_O.2.2.ty 230 = [] by decide +kernel] at hr; cases hr) (jj_shift (K := K) hF.2.2.2.2), fun Q hx => ?_⟩
    exact cp_lp (iv := .iload_n 1) (v := 1) (ixA := 23) (ixB := 23) (jA := 4) (jB := 4) (A := 230) (B := 230) (mo := 226) (p := 11) (qA := 23) (qB := 32) (N := 4345) (offe := 25) (offb := (-26)) (by decide) (md_mo hF) (md_kd hF md_o.2.2).1 (md_kd hF md_o.2.2).1 (md_rf hF md_r.2.2) (md_rf hF md_r.2.2) (by decide +kernel) (by decide +kernel) (by decide +kernel) (by decide +kernel) ⟨by omega, ⟨by omega, by omega⟩, ⟨by omega, by omega⟩, by omega, by omega⟩ (fun _ => by omega) (by decide) (by decide +kernel) l0 lv ⟨rfl, rfl⟩ ⟨gm_vr 226, l0, by simp [gm_sort]⟩ (by decide +kernel) (by decide +kernel) (by decide +kernel) (by decide) (by decide +kernel) (by decide +kernel) (cp_sg_i (iv := .iload_n 1) lv ⟨rfl, rfl⟩ (by decide +kernel)) (by decide +kernel) (by decide +kernel) (cp_sg_ic (iv := .iload_n 1) (c := 395) lv ⟨rfl, rfl⟩ (by decide +kernel) (by decide +kernel) (by decide +kernel) (by decide +kernel)) (by decide +kernel) (by decide +kernel) (by decide +kernel) (by decide +kernel) (by decide) (by decide) hx
theorem p2_s553_s {X : Int → Int} {LX : Nat} : ck_Ok p2_O X LX 316 p2_s553 := by
  refine ck_ok_st (cuts := p2_s553_Z) p2_s553_u p2_s553_h p2_s553_a (fun h hm => ?_)
  rcases List.mem_cons.mp hm with rfl | hm
  · exact ⟨by unfold p2_s553_Z; exact List.mem_cons_self, fun σ K0 R0 M0 => p2_s553_y55 (fun _ _ => rfl)⟩
  rcases List.mem_cons.mp hm with rfl | hm
  · exact ⟨by unfold p2_s553_Z; exact List.mem_cons_of_mem _ (List.mem_cons_self), fun σ K0 R0 M0 => p2_s553_y11 (fun _ _ => rfl)⟩
  cases hm
set_option maxRecDepth 100000 in
/-- GlacierMailModel.of -/
noncomputable def p2_s554 : ck_Sum := ((0, 0, 0), 245, [.inr (.inr (.inl 226)), .inl (0, 7, []), .inl (ck_one 0)], ([], [], []), ([], []), [(.inr (some (.inl (0, 6, []))), 245, ([], [], []))])
set_option maxRecDepth 100000 in
theorem p2_s554_s {X : Int → Int} {LX : Nat} : ck_Ok p2_O X LX 299 p2_s554 := ck_okq (cuts := []) (f := 92) ⟨p2_nmu, ck_E0⟩ (by decide +kernel)
set_option maxRecDepth 100000 in
/-- GlacierMailModel.of -/
noncomputable def p2_s555 : ck_Sum := ((0, 0, 0), 245, [.inr (.inr (.inl 226)), .inl (0, 7, []), .inl (ck_one 1)], ([], [], []), ([], []), [(.inr (some (.inl (0, 98, []))), 245, ([], [], []))])
set_option maxRecDepth 100000 in
theorem p2_s555_s {X : Int → Int} {LX : Nat} : ck_Ok p2_O X LX 299 p2_s555 := ck_okq (cuts := []) (f := 92) ⟨p2_nmu, ck_E0⟩ (by decide +kernel)
/-- GlacierMailModel.throwsIn -/
noncomputable def p2_s556 : ck_Sum := op_ts 0 7 0 7 0 6 0 98
theorem p2_s556_s {X : Int → Int} {LX : Nat} : ck_Ok p2_O X LX 271 p2_s556 := op_throw (by decide +kernel) (by decide)
set_option maxRecDepth 100000 in
/-- GlacierMailModel.post -/
noncomputable def p2_s557 : ck_Sum := ((2, 0, 0), 245, [.inr (.inr (.inl 226)), .inl (0, 7, []), .inl (0, 7, [])], ([], [], [(227, 3, 3, (0, 8, [(21, 0)])), (227, 4, 4, (0, 24, [(22, 0)])), (226, 6, 6, (0, 12, [(27, 0)])), (227, 9, 9, (0, 299, [(11, 0)]))]), ([(226, 0, 0), (226, 6, 6), (227, 4, 4), (227, 119, 286), (230, 0, 4739)], []), [(.inr (some (.inl (0, 23, []))), 245, ([], [], [(227, 4, 4, (0, 24, [(1000022, 0)])), (226, 6, 6, (0, 12, [(1000027, 0)]))]))])
set_option maxRecDepth 100000 in
theorem p2_s557_s {X : Int → Int} {LX : Nat} : ck_Ok p2_O X LX 315 p2_s557 := ck_okq (cuts := []) (f := 174) ⟨p2_nmu, ck_E1 (ck_S1 p2_s365_s ck_S0) (ck_E1 (ck_S1 p2_s241_s (ck_S1 p2_s242_s (ck_S1 p2_s243_s (ck_S1 p2_s551_s (ck_S1 p2_s552_s (ck_S1 p2_s244_s ck_S0)))))) (ck_E1 (ck_S1 p2_s176_s ck_S0) (ck_E1 (ck_S1 p2_s553_s ck_S0) (ck_E1 (ck_S1 p2_s554_s (ck_S1 p2_s555_s ck_S0)) (ck_E1 (ck_S1 p2_s556_s ck_S0) ck_E0)))))⟩ (by decide +kernel)
set_option maxRecDepth 100000 in
/-- GlacierMail.watch -/
noncomputable def p2_s558 : ck_Sum := ((8, 1, 6), 245, [.inr (.inr (.inl 1)), .inl ((-2147483648), (-1), []), .inl ((-2147483648), 2147483647, [])], ([], [], []), ([], []), [(.inl 3, 245, ([], [], []))])
set_option maxRecDepth 100000 in
theorem p2_s558_s {X : Int → Int} {LX : Nat} : ck_Ok p2_O X LX 156 p2_s558 := ck_okq (cuts := []) (f := 76) ⟨p2_nmu, ck_E1 (ck_S1 p2_s322_s ck_S0) ck_E0⟩ (by decide +kernel)
set_option maxRecDepth 100000 in
/-- GlacierMail.watch -/
noncomputable def p2_s559 : ck_Sum := ((8, 1, 6), 245, [.inr (.inr (.inl 1)), .inl (8, 2147483647, []), .inl ((-2147483648), 2147483647, [])], ([], [], []), ([], []), [(.inl 3, 245, ([], [], []))])
set_option maxRecDepth 100000 in
theorem p2_s559_s {X : Int → Int} {LX : Nat} : ck_Ok p2_O X LX 156 p2_s559 := ck_okq (cuts := []) (f := 76) ⟨p2_nmu, ck_E1 (ck_S1 p2_s325_s ck_S0) ck_E0⟩ (by decide +kernel)
set_option maxRecDepth 100000 in
/-- GlacierMail$Rows.put -/
noncomputable def p2_s560 : ck_Sum := ((0, 0, 0), 245, [.inr (.inr (.inl 8)), .inl (0, 7, []), .inl (ck_one 2), .inl (ck_one (-1))], ([], [], []), (zl166, []), [(.inr none, 245, ([], [], []))])
set_option maxRecDepth 100000 in
theorem p2_s560_s {X : Int → Int} {LX : Nat} : ck_Ok p2_O X LX 45 p2_s560 := ck_okq (cuts := []) (f := 116) ⟨p2_nmu, ck_E0⟩ (by decide +kernel)
set_option maxRecDepth 100000 in
/-- GlacierMail.need -/
noncomputable def p2_s561 : ck_Sum := ((6, 1, 6), 245, [.inr (.inr (.inl 1)), .inl ((-2147483648), (-2), []), .inl (1, 6, [])], ([], [], []), ([], []), [(.inl 3, 245, ([], [], []))])
set_option maxRecDepth 100000 in
theorem p2_s561_s {X : Int → Int} {LX : Nat} : ck_Ok p2_O X LX 133 p2_s561 := ck_okq (cuts := []) (f := 76) ⟨p2_nmu, ck_E0⟩ (by decide +kernel)
set_option maxRecDepth 100000 in
/-- GlacierMail.needLane -/
noncomputable def p2_s562 : ck_Sum := ((7, 1, 6), 245, [.inr (.inr (.inl 1)), .inl ((-2147483648), (-2), [])], ([], [], []), ([], []), [(.inl 3, 245, ([], [], []))])
set_option maxRecDepth 100000 in
theorem p2_s562_s {X : Int → Int} {LX : Nat} : ck_Ok p2_O X LX 132 p2_s562 := ck_okq (cuts := []) (f := 82) ⟨p2_nmu, ck_E1 (ck_S1 p2_s561_s ck_S0) ck_E0⟩ (by decide +kernel)
set_option maxRecDepth 100000 in
/-- GlacierMail.watch -/
noncomputable def p2_s563 : ck_Sum := ((8, 2, 12), 245, [.inr (.inr (.inl 1)), .inl (0, 7, []), .inl ((-2147483648), (-1), [])], ([], zl102, [(3, 6, 6, (0, 299, [(10, 0)]))]), (zl167, zl104), zl168)
set_option maxRecDepth 100000 in
theorem p2_s563_s {X : Int → Int} {LX : Nat} : ck_Ok p2_O X LX 156 p2_s563 := ck_okq (cuts := []) (f := 124) ⟨p2_nmu, ck_E1 (ck_S1 p2_s328_s ck_S0) (ck_E1 (ck_S1 p2_s529_s ck_S0) (ck_E1 (ck_S1 p2_s356_s ck_S0) (ck_E1 (ck_S1 p2_s560_s ck_S0) (ck_E1 (ck_S1 p2_s562_s ck_S0) ck_E0))))⟩ (by decide +kernel)
set_option maxRecDepth 100000 in
/-- GlacierMail.watch -/
noncomputable def p2_s564 : ck_Sum := ((8, 2, 12), 245, [.inr (.inr (.inl 1)), .inl (0, 7, []), .inl (6, 2147483647, [])], ([], [], []), ([], []), [(.inl 3, 245, ([], [], []))])
set_option maxRecDepth 100000 in
theorem p2_s564_s {X : Int → Int} {LX : Nat} : ck_Ok p2_O X LX 156 p2_s564 := ck_okq (cuts := []) (f := 88) ⟨p2_nmu, ck_E1 (ck_S1 p2_s328_s ck_S0) (ck_E1 (ck_S1 p2_s269_s ck_S0) ck_E0)⟩ (by decide +kernel)
set_option maxRecDepth 100000 in
/-- GlacierMail$Rows.put -/
noncomputable def p2_s565 : ck_Sum := ((0, 0, 0), 245, [.inr (.inr (.inl 8)), .inl (0, 7, []), .inl (ck_one 2), .inl (0, 5, [])], ([], [], []), (zl166, []), [(.inr none, 245, ([], [], []))])
set_option maxRecDepth 100000 in
theorem p2_s565_s {X : Int → Int} {LX : Nat} : ck_Ok p2_O X LX 45 p2_s565 := ck_okq (cuts := []) (f := 116) ⟨p2_nmu, ck_E0⟩ (by decide +kernel)
set_option maxRecDepth 100000 in
/-- GlacierMail.watch -/
noncomputable def p2_s566 : ck_Sum := ((8, 2, 12), 245, [.inr (.inr (.inl 1)), .inl (0, 7, []), .inl (0, 5, [])], ([], zl102, [(3, 6, 6, (0, 299, [(10, 0)]))]), (zl167, zl104), zl168)
set_option maxRecDepth 100000 in
theorem p2_s566_s {X : Int → Int} {LX : Nat} : ck_Ok p2_O X LX 156 p2_s566 := ck_okq (cuts := []) (f := 130) ⟨p2_nmu, ck_E1 (ck_S1 p2_s328_s ck_S0) (ck_E1 (ck_S1 p2_s272_s ck_S0) (ck_E1 (ck_S1 p2_s529_s ck_S0) (ck_E1 (ck_S1 p2_s356_s ck_S0) (ck_E1 (ck_S1 p2_s565_s ck_S0) ck_E0))))⟩ (by decide +kernel)
set_option maxRecDepth 100000 in
/-- GlacierMailModel.watch -/
noncomputable def p2_s567 : ck_Sum := ((2, 0, 0), 245, [.inr (.inr (.inl 226)), .inl ((-2147483648), (-1), []), .inl ((-2147483648), 2147483647, [])], ([], [], [(227, 3, 3, (0, 8, [(21, 0)]))]), ([(226, 0, 0)], []), [(.inr (some (.inl (ck_one 0))), 245, ([], [], [(226, 0, 0, ck_one 1)]))])
set_option maxRecDepth 100000 in
theorem p2_s567_s {X : Int → Int} {LX : Nat} : ck_Ok p2_O X LX 317 p2_s567 := ck_okq (cuts := []) (f := 100) ⟨p2_nmu, ck_E1 (ck_S1 p2_s359_s ck_S0) (ck_E1 (ck_S1 p2_s241_s ck_S0) ck_E0)⟩ (by decide +kernel)
set_option maxRecDepth 100000 in
/-- GlacierMailModel.watch -/
noncomputable def p2_s568 : ck_Sum := ((2, 0, 0), 245, [.inr (.inr (.inl 226)), .inl (8, 2147483647, []), .inl ((-2147483648), 2147483647, [])], ([], [], [(227, 3, 3, (0, 8, [(21, 0)]))]), ([(226, 0, 0)], []), [(.inr (some (.inl (ck_one 0))), 245, ([], [], [(226, 0, 0, ck_one 1)]))])
set_option maxRecDepth 100000 in
theorem p2_s568_s {X : Int → Int} {LX : Nat} : ck_Ok p2_O X LX 317 p2_s568 := ck_okq (cuts := []) (f := 100) ⟨p2_nmu, ck_E1 (ck_S1 p2_s362_s ck_S0) (ck_E1 (ck_S1 p2_s241_s ck_S0) ck_E0)⟩ (by decide +kernel)
set_option maxRecDepth 100000 in
/-- GlacierMailModel.of -/
noncomputable def p2_s569 : ck_Sum := ((0, 0, 0), 245, [.inr (.inr (.inl 226)), .inl (0, 7, []), .inl (ck_one 2)], ([], [], []), ([], []), [(.inr (some (.inl (ck_one (-1)))), 245, ([], [], [])), (.inr (some (.inl (0, 6, []))), 245, ([], [], []))])
set_option maxRecDepth 100000 in
theorem p2_s569_s {X : Int → Int} {LX : Nat} : ck_Ok p2_O X LX 299 p2_s569 := ck_okq (cuts := []) (f := 92) ⟨p2_nmu, ck_E0⟩ (by decide +kernel)
set_option maxRecDepth 100000 in
/-- GlacierMailModel.in -/
noncomputable def p2_s570 : ck_Sum := ((0, 0, 0), 245, [.inl ((-2147483648), (-2), []), .inl (ck_one 0), .inl ((-1), 5, [])], ([], [], []), ([], []), [(.inr (some (.inl (ck_one 0))), 245, ([], [], []))])
set_option maxRecDepth 100000 in
theorem p2_s570_s {X : Int → Int} {LX : Nat} : ck_Ok p2_O X LX 286 p2_s570 := ck_okq (cuts := []) (f := 80) ⟨p2_nmu, ck_E0⟩ (by decide +kernel)
set_option maxRecDepth 100000 in
/-- GlacierMailModel.noLane -/
noncomputable def p2_s571 : ck_Sum := ((1, 0, 0), 245, [.inr (.inr (.inl 226)), .inl ((-2147483648), (-2), [])], ([], [], []), ([], []), [(.inr (some (.inl (ck_one 1))), 245, ([], [], []))])
set_option maxRecDepth 100000 in
theorem p2_s571_s {X : Int → Int} {LX : Nat} : ck_Ok p2_O X LX 288 p2_s571 := ck_okq (cuts := []) (f := 92) ⟨p2_nmu, ck_E1 (ck_S1 p2_s166_s ck_S0) (ck_E1 (ck_S1 p2_s570_s ck_S0) ck_E0)⟩ (by decide +kernel)
set_option maxRecDepth 100000 in
/-- GlacierMailModel.watch -/
noncomputable def p2_s572 : ck_Sum := ((2, 0, 0), 245, [.inr (.inr (.inl 226)), .inl (0, 7, []), .inl ((-2147483648), (-1), [])], ([], [], zl169), (zl170, []), zl171)
set_option maxRecDepth 100000 in
theorem p2_s572_s {X : Int → Int} {LX : Nat} : ck_Ok p2_O X LX 317 p2_s572 := ck_okq (cuts := []) (f := 140) ⟨p2_nmu, ck_E1 (ck_S1 p2_s365_s ck_S0) (ck_E1 (ck_S1 p2_s241_s (ck_S1 p2_s242_s ck_S0)) (ck_E1 (ck_S1 p2_s553_s ck_S0) (ck_E1 (ck_S1 p2_s569_s ck_S0) (ck_E1 (ck_S1 p2_s571_s ck_S0) ck_E0))))⟩ (by decide +kernel)
set_option maxRecDepth 100000 in
/-- GlacierMailModel.watch -/
noncomputable def p2_s573 : ck_Sum := ((2, 0, 0), 245, [.inr (.inr (.inl 226)), .inl (0, 7, []), .inl (6, 2147483647, [])], ([], [], [(227, 3, 3, (0, 8, [(21, 0)]))]), ([(226, 0, 0)], []), [(.inr (some (.inl (ck_one 0))), 245, ([], [], [(226, 0, 0, ck_one 1)]))])
set_option maxRecDepth 100000 in
theorem p2_s573_s {X : Int → Int} {LX : Nat} : ck_Ok p2_O X LX 317 p2_s573 := ck_okq (cuts := []) (f := 114) ⟨p2_nmu, ck_E1 (ck_S1 p2_s365_s ck_S0) (ck_E1 (ck_S1 p2_s241_s ck_S0) (ck_E1 (ck_S1 p2_s287_s ck_S0) ck_E0))⟩ (by decide +kernel)
set_option maxRecDepth 100000 in
/-- GlacierMailModel.watch -/
noncomputable def p2_s574 : ck_Sum := ((2, 0, 0), 245, [.inr (.inr (.inl 226)), .inl (0, 7, []), .inl (0, 5, [])], ([], [], zl169), (zl170, []), zl171)
set_option maxRecDepth 100000 in
theorem p2_s574_s {X : Int → Int} {LX : Nat} : ck_Ok p2_O X LX 317 p2_s574 := ck_okq (cuts := []) (f := 148) ⟨p2_nmu, ck_E1 (ck_S1 p2_s365_s ck_S0) (ck_E1 (ck_S1 p2_s241_s (ck_S1 p2_s242_s ck_S0)) (ck_E1 (ck_S1 p2_s290_s ck_S0) (ck_E1 (ck_S1 p2_s553_s ck_S0) (ck_E1 (ck_S1 p2_s569_s ck_S0) ck_E0))))⟩ (by decide +kernel)
set_option maxRecDepth 100000 in
/-- GlacierMail.open -/
noncomputable def p2_s575 : ck_Sum := ((8, 1, 6), 245, [.inr (.inr (.inl 1)), .inl ((-2147483648), (-1), [])], ([], [], []), ([], []), [(.inl 3, 245, ([], [], []))])
set_option maxRecDepth 100000 in
theorem p2_s575_s {X : Int → Int} {LX : Nat} : ck_Ok p2_O X LX 158 p2_s575 := ck_okq (cuts := []) (f := 76) ⟨p2_nmu, ck_E1 (ck_S1 p2_s387_s ck_S0) ck_E0⟩ (by decide +kernel)
set_option maxRecDepth 100000 in
/-- GlacierMail.open -/
noncomputable def p2_s576 : ck_Sum := ((8, 1, 6), 245, [.inr (.inr (.inl 1)), .inl (24, 2147483647, [])], ([], [], []), ([], []), [(.inl 3, 245, ([], [], []))])
set_option maxRecDepth 100000 in
theorem p2_s576_s {X : Int → Int} {LX : Nat} : ck_Ok p2_O X LX 158 p2_s576 := ck_okq (cuts := []) (f := 76) ⟨p2_nmu, ck_E1 (ck_S1 p2_s390_s ck_S0) ck_E0⟩ (by decide +kernel)
set_option maxRecDepth 100000 in
/-- GlacierMail.need -/
noncomputable def p2_s577 : ck_Sum := ((6, 1, 6), 245, [.inr (.inr (.inl 1)), .inl (ck_one 0), .inl (0, 24, [])], ([], [], []), ([], []), [(.inr none, 245, ([], [], [])), (.inl 3, 245, ([], [], []))])
set_option maxRecDepth 100000 in
theorem p2_s577_s {X : Int → Int} {LX : Nat} : ck_Ok p2_O X LX 133 p2_s577 := ck_okq (cuts := []) (f := 82) ⟨p2_nmu, ck_E0⟩ (by decide +kernel)
set_option maxRecDepth 100000 in
/-- GlacierMail.needLetter -/
noncomputable def p2_s578 : ck_Sum := ((7, 1, 6), 245, [.inr (.inr (.inl 1)), .inl (ck_one 0)], ([], [], []), ([], []), [(.inl 3, 245, ([], [], [])), (.inr none, 245, ([], [], []))])
set_option maxRecDepth 100000 in
theorem p2_s578_s {X : Int → Int} {LX : Nat} : ck_Ok p2_O X LX 143 p2_s578 := ck_okq (cuts := []) (f := 86) ⟨p2_nmu, ck_E1 (ck_S1 p2_s331_s ck_S0) (ck_E1 (ck_S1 p2_s577_s ck_S0) ck_E0)⟩ (by decide +kernel)
set_option maxRecDepth 100000 in
/-- GlacierMail$State.isRock -/
noncomputable def p2_s579 : ck_Sum := ((1, 0, 0), 245, [.inr (.inr (.inl 3)), .inl (ck_one 0)], ([], [], []), ([], []), [(.inr (some (.inl (ck_one 0))), 245, ([], [], [])), (.inr (some (.inl (ck_one 1))), 245, ([], [], []))])
set_option maxRecDepth 100000 in
theorem p2_s579_s {X : Int → Int} {LX : Nat} : ck_Ok p2_O X LX 28 p2_s579 := ck_okq (cuts := []) (f := 90) ⟨p2_nmu, ck_E1 (ck_S1 p2_s335_s ck_S0) ck_E0⟩ (by decide +kernel)
set_option maxRecDepth 100000 in
/-- GlacierMail.waits -/
noncomputable def p2_s580 : ck_Sum := ((2, 0, 0), 245, [.inr (.inr (.inl 1)), .inl (ck_one 0)], ([], [], [(3, 6, 6, (0, 299, [(10, 0)]))]), ([], []), [(.inr (some (.inl (ck_one 0))), 245, ([], [], [])), (.inr (some (.inl (ck_one 1))), 245, ([], [], []))])
set_option maxRecDepth 100000 in
theorem p2_s580_s {X : Int → Int} {LX : Nat} : ck_Ok p2_O X LX 66 p2_s580 := ck_okq (cuts := []) (f := 134) ⟨p2_nmu, ck_E1 (ck_S1 p2_s579_s ck_S0) (ck_E1 (ck_S1 p2_s335_s (ck_S1 p2_s350_s ck_S0)) (ck_E1 (ck_S1 p2_s351_s ck_S0) ck_E0))⟩ (by decide +kernel)
set_option maxRecDepth 100000 in
/-- GlacierMail$Rows.put -/
noncomputable def p2_s581 : ck_Sum := ((0, 0, 0), 245, [.inr (.inr (.inl 10)), .inl (ck_one 0), .inl (ck_one 5), .inl ((-1), 299, [])], ([], [], []), ([(11, 5, 5)], []), [(.inr none, 245, ([], [], []))])
set_option maxRecDepth 100000 in
theorem p2_s581_s {X : Int → Int} {LX : Nat} : ck_Ok p2_O X LX 45 p2_s581 := ck_okq (cuts := []) (f := 116) ⟨p2_nmu, ck_E0⟩ (by decide +kernel)
set_option maxRecDepth 100000 in
/-- GlacierMail$Rows.put -/
noncomputable def p2_s582 : ck_Sum := ((0, 0, 0), 245, [.inr (.inr (.inl 10)), .inl (ck_one 0), .inl (ck_one 6), .inl (0, 299, [])], ([], [], []), ([(11, 6, 6)], []), [(.inr none, 245, ([], [], []))])
set_option maxRecDepth 100000 in
theorem p2_s582_s {X : Int → Int} {LX : Nat} : ck_Ok p2_O X LX 45 p2_s582 := ck_okq (cuts := []) (f := 116) ⟨p2_nmu, ck_E0⟩ (by decide +kernel)
set_option maxRecDepth 100000 in
/-- GlacierMail$Rows.put -/
noncomputable def p2_s583 : ck_Sum := ((0, 0, 0), 245, [.inr (.inr (.inl 14)), .inl (0, 23, []), .inl (ck_one 0), .inl (0, 299, [])], ([], [], []), (zl172, []), [(.inr none, 245, ([], [], []))])
set_option maxRecDepth 100000 in
theorem p2_s583_s {X : Int → Int} {LX : Nat} : ck_Ok p2_O X LX 45 p2_s583 := ck_okq (cuts := []) (f := 116) ⟨p2_nmu, ck_E0⟩ (by decide +kernel)
set_option maxRecDepth 100000 in
/-- GlacierMail$Rows.put -/
noncomputable def p2_s584 : ck_Sum := ((0, 0, 0), 245, [.inr (.inr (.inl 14)), .inl (0, 23, []), .inl (ck_one 1), .inl (ck_one 0)], ([], [], []), (zl173, []), [(.inr none, 245, ([], [], []))])
set_option maxRecDepth 100000 in
theorem p2_s584_s {X : Int → Int} {LX : Nat} : ck_Ok p2_O X LX 45 p2_s584 := ck_okq (cuts := []) (f := 116) ⟨p2_nmu, ck_E0⟩ (by decide +kernel)
set_option maxRecDepth 100000 in
/-- GlacierMail$Rows.put -/
noncomputable def p2_s585 : ck_Sum := ((0, 0, 0), 245, [.inr (.inr (.inl 14)), .inl (0, 23, []), .inl (ck_one 2), .inl ((-1), 299, [])], ([], [], []), (zl174, []), [(.inr none, 245, ([], [], []))])
set_option maxRecDepth 100000 in
theorem p2_s585_s {X : Int → Int} {LX : Nat} : ck_Ok p2_O X LX 45 p2_s585 := ck_okq (cuts := []) (f := 116) ⟨p2_nmu, ck_E0⟩ (by decide +kernel)
set_option maxRecDepth 100000 in
/-- GlacierMail$Rows.put -/
noncomputable def p2_s586 : ck_Sum := ((0, 0, 0), 245, [.inr (.inr (.inl 14)), .inl (ck_one (-1)), .inl (ck_one 0), .inl (0, 299, [])], ([], [], []), ([], []), [(.inr none, 245, ([], [], []))])
set_option maxRecDepth 100000 in
theorem p2_s586_s {X : Int → Int} {LX : Nat} : ck_Ok p2_O X LX 45 p2_s586 := ck_okq (cuts := []) (f := 76) ⟨p2_nmu, ck_E0⟩ (by decide +kernel)
set_option maxRecDepth 100000 in
/-- GlacierMail$Rows.put -/
noncomputable def p2_s587 : ck_Sum := ((0, 0, 0), 245, [.inr (.inr (.inl 14)), .inl (ck_one (-1)), .inl (ck_one 1), .inl (ck_one 0)], ([], [], []), ([], []), [(.inr none, 245, ([], [], []))])
set_option maxRecDepth 100000 in
theorem p2_s587_s {X : Int → Int} {LX : Nat} : ck_Ok p2_O X LX 45 p2_s587 := ck_okq (cuts := []) (f := 76) ⟨p2_nmu, ck_E0⟩ (by decide +kernel)
set_option maxRecDepth 100000 in
/-- GlacierMail$Rows.put -/
noncomputable def p2_s588 : ck_Sum := ((0, 0, 0), 245, [.inr (.inr (.inl 14)), .inl (ck_one (-1)), .inl (ck_one 2), .inl ((-1), 299, [])], ([], [], []), ([], []), [(.inr none, 245, ([], [], []))])
set_option maxRecDepth 100000 in
theorem p2_s588_s {X : Int → Int} {LX : Nat} : ck_Ok p2_O X LX 45 p2_s588 := ck_okq (cuts := []) (f := 76) ⟨p2_nmu, ck_E0⟩ (by decide +kernel)
set_option maxRecDepth 100000 in
/-- GlacierMail$Rows.add -/
noncomputable def p2_s589 : ck_Sum := ((0, 0, 0), 245, [.inr (.inr (.inl 14))], ([], [], []), ([(14, 3, 3)], []), [(.inr (some (.inl (0, 23, []))), 245, ([], [], [(14, 3, 3, (1, 24, []))])), (.inr (some (.inl (ck_one (-1)))), 245, ([], [], [(14, 3, 3, ck_one 24)]))])
set_option maxRecDepth 100000 in
theorem p2_s589_s {X : Int → Int} {LX : Nat} : ck_Ok p2_O X LX 102 p2_s589 := ck_okq (cuts := []) (f := 102) ⟨p2_nmu, ck_E0⟩ (by decide +kernel)
set_option maxRecDepth 100000 in
/-- GlacierMail$State.openLetter -/
noncomputable def p2_s590 : ck_Sum := ((1, 0, 0), 245, [.inr (.inr (.inl 3)), .inl (ck_one 0), .inl ((-1), 299, [])], ([], [], [(3, 6, 6, (0, 299, [(10, 0)]))]), ([(11, 5, 6), (14, 3, 3), (15, 0, 71)], []), [(.inr none, 245, ([], [], [(14, 3, 3, (1, 24, []))]))])
set_option maxRecDepth 100000 in
theorem p2_s590_s {X : Int → Int} {LX : Nat} : ck_Ok p2_O X LX 159 p2_s590 := ck_okq (cuts := []) (f := 144) ⟨p2_nmu, ck_E1 (ck_S1 p2_s581_s (ck_S1 p2_s582_s (ck_S1 p2_s583_s (ck_S1 p2_s584_s (ck_S1 p2_s585_s (ck_S1 p2_s586_s (ck_S1 p2_s587_s (ck_S1 p2_s588_s ck_S0)))))))) (ck_E1 (ck_S1 p2_s589_s ck_S0) ck_E0)⟩ (by decide +kernel)
set_option maxRecDepth 100000 in
/-- GlacierMail.open -/
noncomputable def p2_s591 : ck_Sum := ((8, 2, 12), 245, [.inr (.inr (.inl 1)), .inl (ck_one 0)], ([], zl102, [(3, 6, 6, (0, 299, [(10, 0)]))]), ([(1, 15, 15), (11, 5, 6), (14, 3, 3), (15, 0, 71), (42, 1, 2), (44, 0, 7), (45, 3, 3), (46, 0, 55), (47, 3, 3), (48, 0, 23), (49, 3, 3), (50, 0, 23), (51, 3, 3), (52, 0, 167), (53, 3, 3), (54, 0, 35), (55, 3, 3), (56, 0, 71), (57, 0, 7), (58, 3, 3), (59, 0, 55), (60, 3, 3), (61, 0, 23), (62, 3, 3), (63, 0, 23), (64, 3, 3), (65, 0, 167), (66, 3, 3), (67, 0, 35), (68, 3, 3), (69, 0, 71), (70, 0, 7), (71, 3, 3), (72, 0, 55), (73, 3, 3), (74, 0, 23), (75, 3, 3), (76, 0, 23), (77, 3, 3), (78, 0, 167), (79, 3, 3), (80, 0, 35), (81, 3, 3), (82, 0, 71), (83, 0, 7), (84, 3, 3), (85, 0, 55), (86, 3, 3), (87, 0, 23), (88, 3, 3), (89, 0, 23), (90, 3, 3), (91, 0, 167), (92, 3, 3), (93, 0, 35), (94, 3, 3), (95, 0, 71), (96, 0, 7), (97, 3, 3), (98, 0, 55), (99, 3, 3), (100, 0, 23), (101, 3, 3), (102, 0, 23), (103, 3, 3), (104, 0, 167), (105, 3, 3), (106, 0, 35), (107, 3, 3), (108, 0, 71), (109, 0, 7), (110, 3, 3), (111, 0, 55), (112, 3, 3), (113, 0, 23), (114, 3, 3), (115, 0, 23), (116, 3, 3), (117, 0, 167), (118, 3, 3), (119, 0, 35), (120, 3, 3), (121, 0, 71), (122, 0, 7), (123, 3, 3), (124, 0, 55), (125, 3, 3), (126, 0, 23), (127, 3, 3), (128, 0, 23), (129, 3, 3), (130, 0, 167), (131, 3, 3), (132, 0, 35), (133, 3, 3), (134, 0, 71), (135, 0, 7), (136, 3, 3), (137, 0, 55), (138, 3, 3), (139, 0, 23), (140, 3, 3), (141, 0, 23), (142, 3, 3), (143, 0, 167), (144, 3, 3), (145, 0, 35), (146, 3, 3), (147, 0, 71), (148, 0, 7), (149, 3, 3), (150, 0, 55), (151, 3, 3), (152, 0, 23), (153, 3, 3), (154, 0, 23), (155, 3, 3), (156, 0, 167), (157, 3, 3), (158, 0, 35), (159, 3, 3), (160, 0, 71), (161, 0, 7), (162, 3, 3), (163, 0, 55), (164, 3, 3), (165, 0, 23), (166, 3, 3), (167, 0, 23), (168, 3, 3), (169, 0, 167), (170, 3, 3), (171, 0, 35), (172, 3, 3), (173, 0, 71), (174, 0, 7), (175, 3, 3), (176, 0, 55), (177, 3, 3), (178, 0, 23), (179, 3, 3), (180, 0, 23), (181, 3, 3), (182, 0, 167), (183, 3, 3), (184, 0, 35), (185, 3, 3), (186, 0, 71), (187, 0, 7), (188, 3, 3), (189, 0, 55), (190, 3, 3), (191, 0, 23), (192, 3, 3), (193, 0, 23), (194, 3, 3), (195, 0, 167), (196, 3, 3), (197, 0, 35), (198, 3, 3), (199, 0, 71), (206, 2, 8), (220, 3, 3), (221, 0, 47)], zl104), zl175)
set_option maxRecDepth 100000 in
theorem p2_s591_s {X : Int → Int} {LX : Nat} : ck_Ok p2_O X LX 158 p2_s591 := ck_okq (cuts := []) (f := 140) ⟨p2_nmu, ck_E1 (ck_S1 p2_s578_s ck_S0) (ck_E1 (ck_S1 p2_s349_s ck_S0) (ck_E1 (ck_S1 p2_s580_s ck_S0) (ck_E1 (ck_S1 p2_s529_s ck_S0) (ck_E1 (ck_S1 p2_s335_s ck_S0) (ck_E1 (ck_S1 p2_s590_s ck_S0) ck_E0)))))⟩ (by decide +kernel)
set_option maxRecDepth 100000 in
/-- GlacierMail.need -/
noncomputable def p2_s592 : ck_Sum := ((6, 1, 6), 245, [.inr (.inr (.inl 1)), .inl (ck_one 1), .inl (0, 24, [])], ([], [], []), ([], []), [(.inr none, 245, ([], [], [])), (.inl 3, 245, ([], [], []))])
set_option maxRecDepth 100000 in
theorem p2_s592_s {X : Int → Int} {LX : Nat} : ck_Ok p2_O X LX 133 p2_s592 := ck_okq (cuts := []) (f := 82) ⟨p2_nmu, ck_E0⟩ (by decide +kernel)
set_option maxRecDepth 100000 in
/-- GlacierMail.needLetter -/
noncomputable def p2_s593 : ck_Sum := ((7, 1, 6), 245, [.inr (.inr (.inl 1)), .inl (ck_one 1)], ([], [], []), ([], []), [(.inl 3, 245, ([], [], [])), (.inr none, 245, ([], [], []))])
set_option maxRecDepth 100000 in
theorem p2_s593_s {X : Int → Int} {LX : Nat} : ck_Ok p2_O X LX 143 p2_s593 := ck_okq (cuts := []) (f := 86) ⟨p2_nmu, ck_E1 (ck_S1 p2_s331_s ck_S0) (ck_E1 (ck_S1 p2_s592_s ck_S0) ck_E0)⟩ (by decide +kernel)
set_option maxRecDepth 100000 in
/-- GlacierMail$State.isRock -/
noncomputable def p2_s594 : ck_Sum := ((1, 0, 0), 245, [.inr (.inr (.inl 3)), .inl (ck_one 1)], ([], [], []), ([], []), [(.inr (some (.inl (ck_one 0))), 245, ([], [], [])), (.inr (some (.inl (ck_one 1))), 245, ([], [], []))])
set_option maxRecDepth 100000 in
theorem p2_s594_s {X : Int → Int} {LX : Nat} : ck_Ok p2_O X LX 28 p2_s594 := ck_okq (cuts := []) (f := 90) ⟨p2_nmu, ck_E1 (ck_S1 p2_s335_s ck_S0) ck_E0⟩ (by decide +kernel)
set_option maxRecDepth 100000 in
/-- GlacierMail.waits -/
noncomputable def p2_s595 : ck_Sum := ((2, 0, 0), 245, [.inr (.inr (.inl 1)), .inl (ck_one 1)], ([], [], [(3, 6, 6, (0, 299, [(10, 0)]))]), ([], []), [(.inr (some (.inl (ck_one 0))), 245, ([], [], [])), (.inr (some (.inl (ck_one 1))), 245, ([], [], []))])
set_option maxRecDepth 100000 in
theorem p2_s595_s {X : Int → Int} {LX : Nat} : ck_Ok p2_O X LX 66 p2_s595 := ck_okq (cuts := []) (f := 134) ⟨p2_nmu, ck_E1 (ck_S1 p2_s594_s ck_S0) (ck_E1 (ck_S1 p2_s335_s (ck_S1 p2_s350_s ck_S0)) (ck_E1 (ck_S1 p2_s351_s ck_S0) ck_E0))⟩ (by decide +kernel)
set_option maxRecDepth 100000 in
/-- GlacierMail$Rows.put -/
noncomputable def p2_s596 : ck_Sum := ((0, 0, 0), 245, [.inr (.inr (.inl 10)), .inl (ck_one 1), .inl (ck_one 5), .inl ((-1), 299, [])], ([], [], []), ([(11, 12, 12)], []), [(.inr none, 245, ([], [], []))])
set_option maxRecDepth 100000 in
theorem p2_s596_s {X : Int → Int} {LX : Nat} : ck_Ok p2_O X LX 45 p2_s596 := ck_okq (cuts := []) (f := 116) ⟨p2_nmu, ck_E0⟩ (by decide +kernel)
set_option maxRecDepth 100000 in
/-- GlacierMail$Rows.put -/
noncomputable def p2_s597 : ck_Sum := ((0, 0, 0), 245, [.inr (.inr (.inl 10)), .inl (ck_one 1), .inl (ck_one 6), .inl (0, 299, [])], ([], [], []), ([(11, 13, 13)], []), [(.inr none, 245, ([], [], []))])
set_option maxRecDepth 100000 in
theorem p2_s597_s {X : Int → Int} {LX : Nat} : ck_Ok p2_O X LX 45 p2_s597 := ck_okq (cuts := []) (f := 116) ⟨p2_nmu, ck_E0⟩ (by decide +kernel)
set_option maxRecDepth 100000 in
/-- GlacierMail$Rows.put -/
noncomputable def p2_s598 : ck_Sum := ((0, 0, 0), 245, [.inr (.inr (.inl 14)), .inl (0, 23, []), .inl (ck_one 1), .inl (ck_one 1)], ([], [], []), (zl173, []), [(.inr none, 245, ([], [], []))])
set_option maxRecDepth 100000 in
theorem p2_s598_s {X : Int → Int} {LX : Nat} : ck_Ok p2_O X LX 45 p2_s598 := ck_okq (cuts := []) (f := 116) ⟨p2_nmu, ck_E0⟩ (by decide +kernel)
set_option maxRecDepth 100000 in
/-- GlacierMail$Rows.put -/
noncomputable def p2_s599 : ck_Sum := ((0, 0, 0), 245, [.inr (.inr (.inl 14)), .inl (ck_one (-1)), .inl (ck_one 1), .inl (ck_one 1)], ([], [], []), ([], []), [(.inr none, 245, ([], [], []))])
set_option maxRecDepth 100000 in
theorem p2_s599_s {X : Int → Int} {LX : Nat} : ck_Ok p2_O X LX 45 p2_s599 := ck_okq (cuts := []) (f := 76) ⟨p2_nmu, ck_E0⟩ (by decide +kernel)
set_option maxRecDepth 100000 in
/-- GlacierMail$State.openLetter -/
noncomputable def p2_s600 : ck_Sum := ((1, 0, 0), 245, [.inr (.inr (.inl 3)), .inl (ck_one 1), .inl ((-1), 299, [])], ([], [], [(3, 6, 6, (0, 299, [(10, 0)]))]), ([(11, 12, 13), (14, 3, 3), (15, 0, 71)], []), [(.inr none, 245, ([], [], [(14, 3, 3, (1, 24, []))]))])
set_option maxRecDepth 100000 in
theorem p2_s600_s {X : Int → Int} {LX : Nat} : ck_Ok p2_O X LX 159 p2_s600 := ck_okq (cuts := []) (f := 144) ⟨p2_nmu, ck_E1 (ck_S1 p2_s596_s (ck_S1 p2_s597_s (ck_S1 p2_s583_s (ck_S1 p2_s598_s (ck_S1 p2_s585_s (ck_S1 p2_s586_s (ck_S1 p2_s599_s (ck_S1 p2_s588_s ck_S0)))))))) (ck_E1 (ck_S1 p2_s589_s ck_S0) ck_E0)⟩ (by decide +kernel)
set_option maxRecDepth 100000 in
/-- GlacierMail.open -/
noncomputable def p2_s601 : ck_Sum := ((8, 2, 12), 245, [.inr (.inr (.inl 1)), .inl (ck_one 1)], ([], zl102, [(3, 6, 6, (0, 299, [(10, 0)]))]), ([(1, 15, 15), (11, 12, 13), (14, 3, 3), (15, 0, 71), (42, 1, 2), (44, 0, 7), (45, 3, 3), (46, 0, 55), (47, 3, 3), (48, 0, 23), (49, 3, 3), (50, 0, 23), (51, 3, 3), (52, 0, 167), (53, 3, 3), (54, 0, 35), (55, 3, 3), (56, 0, 71), (57, 0, 7), (58, 3, 3), (59, 0, 55), (60, 3, 3), (61, 0, 23), (62, 3, 3), (63, 0, 23), (64, 3, 3), (65, 0, 167), (66, 3, 3), (67, 0, 35), (68, 3, 3), (69, 0, 71), (70, 0, 7), (71, 3, 3), (72, 0, 55), (73, 3, 3), (74, 0, 23), (75, 3, 3), (76, 0, 23), (77, 3, 3), (78, 0, 167), (79, 3, 3), (80, 0, 35), (81, 3, 3), (82, 0, 71), (83, 0, 7), (84, 3, 3), (85, 0, 55), (86, 3, 3), (87, 0, 23), (88, 3, 3), (89, 0, 23), (90, 3, 3), (91, 0, 167), (92, 3, 3), (93, 0, 35), (94, 3, 3), (95, 0, 71), (96, 0, 7), (97, 3, 3), (98, 0, 55), (99, 3, 3), (100, 0, 23), (101, 3, 3), (102, 0, 23), (103, 3, 3), (104, 0, 167), (105, 3, 3), (106, 0, 35), (107, 3, 3), (108, 0, 71), (109, 0, 7), (110, 3, 3), (111, 0, 55), (112, 3, 3), (113, 0, 23), (114, 3, 3), (115, 0, 23), (116, 3, 3), (117, 0, 167), (118, 3, 3), (119, 0, 35), (120, 3, 3), (121, 0, 71), (122, 0, 7), (123, 3, 3), (124, 0, 55), (125, 3, 3), (126, 0, 23), (127, 3, 3), (128, 0, 23), (129, 3, 3), (130, 0, 167), (131, 3, 3), (132, 0, 35), (133, 3, 3), (134, 0, 71), (135, 0, 7), (136, 3, 3), (137, 0, 55), (138, 3, 3), (139, 0, 23), (140, 3, 3), (141, 0, 23), (142, 3, 3), (143, 0, 167), (144, 3, 3), (145, 0, 35), (146, 3, 3), (147, 0, 71), (148, 0, 7), (149, 3, 3), (150, 0, 55), (151, 3, 3), (152, 0, 23), (153, 3, 3), (154, 0, 23), (155, 3, 3), (156, 0, 167), (157, 3, 3), (158, 0, 35), (159, 3, 3), (160, 0, 71), (161, 0, 7), (162, 3, 3), (163, 0, 55), (164, 3, 3), (165, 0, 23), (166, 3, 3), (167, 0, 23), (168, 3, 3), (169, 0, 167), (170, 3, 3), (171, 0, 35), (172, 3, 3), (173, 0, 71), (174, 0, 7), (175, 3, 3), (176, 0, 55), (177, 3, 3), (178, 0, 23), (179, 3, 3), (180, 0, 23), (181, 3, 3), (182, 0, 167), (183, 3, 3), (184, 0, 35), (185, 3, 3), (186, 0, 71), (187, 0, 7), (188, 3, 3), (189, 0, 55), (190, 3, 3), (191, 0, 23), (192, 3, 3), (193, 0, 23), (194, 3, 3), (195, 0, 167), (196, 3, 3), (197, 0, 35), (198, 3, 3), (199, 0, 71), (206, 2, 8), (220, 3, 3), (221, 0, 47)], zl104), zl175)
set_option maxRecDepth 100000 in
theorem p2_s601_s {X : Int → Int} {LX : Nat} : ck_Ok p2_O X LX 158 p2_s601 := ck_okq (cuts := []) (f := 140) ⟨p2_nmu, ck_E1 (ck_S1 p2_s593_s ck_S0) (ck_E1 (ck_S1 p2_s349_s ck_S0) (ck_E1 (ck_S1 p2_s595_s ck_S0) (ck_E1 (ck_S1 p2_s529_s ck_S0) (ck_E1 (ck_S1 p2_s335_s ck_S0) (ck_E1 (ck_S1 p2_s600_s ck_S0) ck_E0)))))⟩ (by decide +kernel)
set_option maxRecDepth 100000 in
/-- GlacierMail.need -/
noncomputable def p2_s602 : ck_Sum := ((6, 1, 6), 245, [.inr (.inr (.inl 1)), .inl (ck_one 2), .inl (0, 24, [])], ([], [], []), ([], []), [(.inr none, 245, ([], [], [])), (.inl 3, 245, ([], [], []))])
set_option maxRecDepth 100000 in
theorem p2_s602_s {X : Int → Int} {LX : Nat} : ck_Ok p2_O X LX 133 p2_s602 := ck_okq (cuts := []) (f := 82) ⟨p2_nmu, ck_E0⟩ (by decide +kernel)
set_option maxRecDepth 100000 in
/-- GlacierMail.needLetter -/
noncomputable def p2_s603 : ck_Sum := ((7, 1, 6), 245, [.inr (.inr (.inl 1)), .inl (ck_one 2)], ([], [], []), ([], []), [(.inl 3, 245, ([], [], [])), (.inr none, 245, ([], [], []))])
set_option maxRecDepth 100000 in
theorem p2_s603_s {X : Int → Int} {LX : Nat} : ck_Ok p2_O X LX 143 p2_s603 := ck_okq (cuts := []) (f := 86) ⟨p2_nmu, ck_E1 (ck_S1 p2_s331_s ck_S0) (ck_E1 (ck_S1 p2_s602_s ck_S0) ck_E0)⟩ (by decide +kernel)
set_option maxRecDepth 100000 in
/-- GlacierMail$State.isRock -/
noncomputable def p2_s604 : ck_Sum := ((1, 0, 0), 245, [.inr (.inr (.inl 3)), .inl (ck_one 2)], ([], [], []), ([], []), [(.inr (some (.inl (ck_one 0))), 245, ([], [], [])), (.inr (some (.inl (ck_one 1))), 245, ([], [], []))])
set_option maxRecDepth 100000 in
theorem p2_s604_s {X : Int → Int} {LX : Nat} : ck_Ok p2_O X LX 28 p2_s604 := ck_okq (cuts := []) (f := 90) ⟨p2_nmu, ck_E1 (ck_S1 p2_s335_s ck_S0) ck_E0⟩ (by decide +kernel)
set_option maxRecDepth 100000 in
/-- GlacierMail.waits -/
noncomputable def p2_s605 : ck_Sum := ((2, 0, 0), 245, [.inr (.inr (.inl 1)), .inl (ck_one 2)], ([], [], [(3, 6, 6, (0, 299, [(10, 0)]))]), ([], []), [(.inr (some (.inl (ck_one 0))), 245, ([], [], [])), (.inr (some (.inl (ck_one 1))), 245, ([], [], []))])
set_option maxRecDepth 100000 in
theorem p2_s605_s {X : Int → Int} {LX : Nat} : ck_Ok p2_O X LX 66 p2_s605 := ck_okq (cuts := []) (f := 134) ⟨p2_nmu, ck_E1 (ck_S1 p2_s604_s ck_S0) (ck_E1 (ck_S1 p2_s335_s (ck_S1 p2_s350_s ck_S0)) (ck_E1 (ck_S1 p2_s351_s ck_S0) ck_E0))⟩ (by decide +kernel)
set_option maxRecDepth 100000 in
/-- GlacierMail$Rows.put -/
noncomputable def p2_s606 : ck_Sum := ((0, 0, 0), 245, [.inr (.inr (.inl 10)), .inl (ck_one 2), .inl (ck_one 5), .inl ((-1), 299, [])], ([], [], []), ([(11, 19, 19)], []), [(.inr none, 245, ([], [], []))])
set_option maxRecDepth 100000 in
theorem p2_s606_s {X : Int → Int} {LX : Nat} : ck_Ok p2_O X LX 45 p2_s606 := ck_okq (cuts := []) (f := 116) ⟨p2_nmu, ck_E0⟩ (by decide +kernel)
set_option maxRecDepth 100000 in
/-- GlacierMail$Rows.put -/
noncomputable def p2_s607 : ck_Sum := ((0, 0, 0), 245, [.inr (.inr (.inl 10)), .inl (ck_one 2), .inl (ck_one 6), .inl (0, 299, [])], ([], [], []), ([(11, 20, 20)], []), [(.inr none, 245, ([], [], []))])
set_option maxRecDepth 100000 in
theorem p2_s607_s {X : Int → Int} {LX : Nat} : ck_Ok p2_O X LX 45 p2_s607 := ck_okq (cuts := []) (f := 116) ⟨p2_nmu, ck_E0⟩ (by decide +kernel)
set_option maxRecDepth 100000 in
/-- GlacierMail$Rows.put -/
noncomputable def p2_s608 : ck_Sum := ((0, 0, 0), 245, [.inr (.inr (.inl 14)), .inl (0, 23, []), .inl (ck_one 1), .inl (ck_one 2)], ([], [], []), (zl173, []), [(.inr none, 245, ([], [], []))])
set_option maxRecDepth 100000 in
theorem p2_s608_s {X : Int → Int} {LX : Nat} : ck_Ok p2_O X LX 45 p2_s608 := ck_okq (cuts := []) (f := 116) ⟨p2_nmu, ck_E0⟩ (by decide +kernel)
set_option maxRecDepth 100000 in
/-- GlacierMail$Rows.put -/
noncomputable def p2_s609 : ck_Sum := ((0, 0, 0), 245, [.inr (.inr (.inl 14)), .inl (ck_one (-1)), .inl (ck_one 1), .inl (ck_one 2)], ([], [], []), ([], []), [(.inr none, 245, ([], [], []))])
set_option maxRecDepth 100000 in
theorem p2_s609_s {X : Int → Int} {LX : Nat} : ck_Ok p2_O X LX 45 p2_s609 := ck_okq (cuts := []) (f := 76) ⟨p2_nmu, ck_E0⟩ (by decide +kernel)
set_option maxRecDepth 100000 in
/-- GlacierMail$State.openLetter -/
noncomputable def p2_s610 : ck_Sum := ((1, 0, 0), 245, [.inr (.inr (.inl 3)), .inl (ck_one 2), .inl ((-1), 299, [])], ([], [], [(3, 6, 6, (0, 299, [(10, 0)]))]), ([(11, 19, 20), (14, 3, 3), (15, 0, 71)], []), [(.inr none, 245, ([], [], [(14, 3, 3, (1, 24, []))]))])
set_option maxRecDepth 100000 in
theorem p2_s610_s {X : Int → Int} {LX : Nat} : ck_Ok p2_O X LX 159 p2_s610 := ck_okq (cuts := []) (f := 144) ⟨p2_nmu, ck_E1 (ck_S1 p2_s606_s (ck_S1 p2_s607_s (ck_S1 p2_s583_s (ck_S1 p2_s608_s (ck_S1 p2_s585_s (ck_S1 p2_s586_s (ck_S1 p2_s609_s (ck_S1 p2_s588_s ck_S0)))))))) (ck_E1 (ck_S1 p2_s589_s ck_S0) ck_E0)⟩ (by decide +kernel)
set_option maxRecDepth 100000 in
/-- GlacierMail.open -/
noncomputable def p2_s611 : ck_Sum := ((8, 2, 12), 245, [.inr (.inr (.inl 1)), .inl (ck_one 2)], ([], zl102, [(3, 6, 6, (0, 299, [(10, 0)]))]), ([(1, 15, 15), (11, 19, 20), (14, 3, 3), (15, 0, 71), (42, 1, 2), (44, 0, 7), (45, 3, 3), (46, 0, 55), (47, 3, 3), (48, 0, 23), (49, 3, 3), (50, 0, 23), (51, 3, 3), (52, 0, 167), (53, 3, 3), (54, 0, 35), (55, 3, 3), (56, 0, 71), (57, 0, 7), (58, 3, 3), (59, 0, 55), (60, 3, 3), (61, 0, 23), (62, 3, 3), (63, 0, 23), (64, 3, 3), (65, 0, 167), (66, 3, 3), (67, 0, 35), (68, 3, 3), (69, 0, 71), (70, 0, 7), (71, 3, 3), (72, 0, 55), (73, 3, 3), (74, 0, 23), (75, 3, 3), (76, 0, 23), (77, 3, 3), (78, 0, 167), (79, 3, 3), (80, 0, 35), (81, 3, 3), (82, 0, 71), (83, 0, 7), (84, 3, 3), (85, 0, 55), (86, 3, 3), (87, 0, 23), (88, 3, 3), (89, 0, 23), (90, 3, 3), (91, 0, 167), (92, 3, 3), (93, 0, 35), (94, 3, 3), (95, 0, 71), (96, 0, 7), (97, 3, 3), (98, 0, 55), (99, 3, 3), (100, 0, 23), (101, 3, 3), (102, 0, 23), (103, 3, 3), (104, 0, 167), (105, 3, 3), (106, 0, 35), (107, 3, 3), (108, 0, 71), (109, 0, 7), (110, 3, 3), (111, 0, 55), (112, 3, 3), (113, 0, 23), (114, 3, 3), (115, 0, 23), (116, 3, 3), (117, 0, 167), (118, 3, 3), (119, 0, 35), (120, 3, 3), (121, 0, 71), (122, 0, 7), (123, 3, 3), (124, 0, 55), (125, 3, 3), (126, 0, 23), (127, 3, 3), (128, 0, 23), (129, 3, 3), (130, 0, 167), (131, 3, 3), (132, 0, 35), (133, 3, 3), (134, 0, 71), (135, 0, 7), (136, 3, 3), (137, 0, 55), (138, 3, 3), (139, 0, 23), (140, 3, 3), (141, 0, 23), (142, 3, 3), (143, 0, 167), (144, 3, 3), (145, 0, 35), (146, 3, 3), (147, 0, 71), (148, 0, 7), (149, 3, 3), (150, 0, 55), (151, 3, 3), (152, 0, 23), (153, 3, 3), (154, 0, 23), (155, 3, 3), (156, 0, 167), (157, 3, 3), (158, 0, 35), (159, 3, 3), (160, 0, 71), (161, 0, 7), (162, 3, 3), (163, 0, 55), (164, 3, 3), (165, 0, 23), (166, 3, 3), (167, 0, 23), (168, 3, 3), (169, 0, 167), (170, 3, 3), (171, 0, 35), (172, 3, 3), (173, 0, 71), (174, 0, 7), (175, 3, 3), (176, 0, 55), (177, 3, 3), (178, 0, 23), (179, 3, 3), (180, 0, 23), (181, 3, 3), (182, 0, 167), (183, 3, 3), (184, 0, 35), (185, 3, 3), (186, 0, 71), (187, 0, 7), (188, 3, 3), (189, 0, 55), (190, 3, 3), (191, 0, 23), (192, 3, 3), (193, 0, 23), (194, 3, 3), (195, 0, 167), (196, 3, 3), (197, 0, 35), (198, 3, 3), (199, 0, 71), (206, 2, 8), (220, 3, 3), (221, 0, 47)], zl104), zl175)
set_option maxRecDepth 100000 in
theorem p2_s611_s {X : Int → Int} {LX : Nat} : ck_Ok p2_O X LX 158 p2_s611 := ck_okq (cuts := []) (f := 140) ⟨p2_nmu, ck_E1 (ck_S1 p2_s603_s ck_S0) (ck_E1 (ck_S1 p2_s349_s ck_S0) (ck_E1 (ck_S1 p2_s605_s ck_S0) (ck_E1 (ck_S1 p2_s529_s ck_S0) (ck_E1 (ck_S1 p2_s335_s ck_S0) (ck_E1 (ck_S1 p2_s610_s ck_S0) ck_E0)))))⟩ (by decide +kernel)
set_option maxRecDepth 100000 in
/-- GlacierMail.need -/
noncomputable def p2_s612 : ck_Sum := ((6, 1, 6), 245, [.inr (.inr (.inl 1)), .inl (ck_one 3), .inl (0, 24, [])], ([], [], []), ([], []), [(.inr none, 245, ([], [], [])), (.inl 3, 245, ([], [], []))])
set_option maxRecDepth 100000 in
theorem p2_s612_s {X : Int → Int} {LX : Nat} : ck_Ok p2_O X LX 133 p2_s612 := ck_okq (cuts := []) (f := 82) ⟨p2_nmu, ck_E0⟩ (by decide +kernel)
set_option maxRecDepth 100000 in
/-- GlacierMail.needLetter -/
noncomputable def p2_s613 : ck_Sum := ((7, 1, 6), 245, [.inr (.inr (.inl 1)), .inl (ck_one 3)], ([], [], []), ([], []), [(.inl 3, 245, ([], [], [])), (.inr none, 245, ([], [], []))])
set_option maxRecDepth 100000 in
theorem p2_s613_s {X : Int → Int} {LX : Nat} : ck_Ok p2_O X LX 143 p2_s613 := ck_okq (cuts := []) (f := 86) ⟨p2_nmu, ck_E1 (ck_S1 p2_s331_s ck_S0) (ck_E1 (ck_S1 p2_s612_s ck_S0) ck_E0)⟩ (by decide +kernel)
set_option maxRecDepth 100000 in
/-- GlacierMail$State.isRock -/
noncomputable def p2_s614 : ck_Sum := ((1, 0, 0), 245, [.inr (.inr (.inl 3)), .inl (ck_one 3)], ([], [], []), ([], []), [(.inr (some (.inl (ck_one 0))), 245, ([], [], [])), (.inr (some (.inl (ck_one 1))), 245, ([], [], []))])
set_option maxRecDepth 100000 in
theorem p2_s614_s {X : Int → Int} {LX : Nat} : ck_Ok p2_O X LX 28 p2_s614 := ck_okq (cuts := []) (f := 90) ⟨p2_nmu, ck_E1 (ck_S1 p2_s335_s ck_S0) ck_E0⟩ (by decide +kernel)
set_option maxRecDepth 100000 in
/-- GlacierMail.waits -/
noncomputable def p2_s615 : ck_Sum := ((2, 0, 0), 245, [.inr (.inr (.inl 1)), .inl (ck_one 3)], ([], [], [(3, 6, 6, (0, 299, [(10, 0)]))]), ([], []), [(.inr (some (.inl (ck_one 0))), 245, ([], [], [])), (.inr (some (.inl (ck_one 1))), 245, ([], [], []))])
set_option maxRecDepth 100000 in
theorem p2_s615_s {X : Int → Int} {LX : Nat} : ck_Ok p2_O X LX 66 p2_s615 := ck_okq (cuts := []) (f := 134) ⟨p2_nmu, ck_E1 (ck_S1 p2_s614_s ck_S0) (ck_E1 (ck_S1 p2_s335_s (ck_S1 p2_s350_s ck_S0)) (ck_E1 (ck_S1 p2_s351_s ck_S0) ck_E0))⟩ (by decide +kernel)
set_option maxRecDepth 100000 in
/-- GlacierMail$Rows.put -/
noncomputable def p2_s616 : ck_Sum := ((0, 0, 0), 245, [.inr (.inr (.inl 10)), .inl (ck_one 3), .inl (ck_one 5), .inl ((-1), 299, [])], ([], [], []), ([(11, 26, 26)], []), [(.inr none, 245, ([], [], []))])
set_option maxRecDepth 100000 in
theorem p2_s616_s {X : Int → Int} {LX : Nat} : ck_Ok p2_O X LX 45 p2_s616 := ck_okq (cuts := []) (f := 116) ⟨p2_nmu, ck_E0⟩ (by decide +kernel)
set_option maxRecDepth 100000 in
/-- GlacierMail$Rows.put -/
noncomputable def p2_s617 : ck_Sum := ((0, 0, 0), 245, [.inr (.inr (.inl 10)), .inl (ck_one 3), .inl (ck_one 6), .inl (0, 299, [])], ([], [], []), ([(11, 27, 27)], []), [(.inr none, 245, ([], [], []))])
set_option maxRecDepth 100000 in
theorem p2_s617_s {X : Int → Int} {LX : Nat} : ck_Ok p2_O X LX 45 p2_s617 := ck_okq (cuts := []) (f := 116) ⟨p2_nmu, ck_E0⟩ (by decide +kernel)
set_option maxRecDepth 100000 in
/-- GlacierMail$Rows.put -/
noncomputable def p2_s618 : ck_Sum := ((0, 0, 0), 245, [.inr (.inr (.inl 14)), .inl (0, 23, []), .inl (ck_one 1), .inl (ck_one 3)], ([], [], []), (zl173, []), [(.inr none, 245, ([], [], []))])
set_option maxRecDepth 100000 in
theorem p2_s618_s {X : Int → Int} {LX : Nat} : ck_Ok p2_O X LX 45 p2_s618 := ck_okq (cuts := []) (f := 116) ⟨p2_nmu, ck_E0⟩ (by decide +kernel)
set_option maxRecDepth 100000 in
/-- GlacierMail$Rows.put -/
noncomputable def p2_s619 : ck_Sum := ((0, 0, 0), 245, [.inr (.inr (.inl 14)), .inl (ck_one (-1)), .inl (ck_one 1), .inl (ck_one 3)], ([], [], []), ([], []), [(.inr none, 245, ([], [], []))])
set_option maxRecDepth 100000 in
theorem p2_s619_s {X : Int → Int} {LX : Nat} : ck_Ok p2_O X LX 45 p2_s619 := ck_okq (cuts := []) (f := 76) ⟨p2_nmu, ck_E0⟩ (by decide +kernel)
set_option maxRecDepth 100000 in
/-- GlacierMail$State.openLetter -/
noncomputable def p2_s620 : ck_Sum := ((1, 0, 0), 245, [.inr (.inr (.inl 3)), .inl (ck_one 3), .inl ((-1), 299, [])], ([], [], [(3, 6, 6, (0, 299, [(10, 0)]))]), ([(11, 26, 27), (14, 3, 3), (15, 0, 71)], []), [(.inr none, 245, ([], [], [(14, 3, 3, (1, 24, []))]))])
set_option maxRecDepth 100000 in
theorem p2_s620_s {X : Int → Int} {LX : Nat} : ck_Ok p2_O X LX 159 p2_s620 := ck_okq (cuts := []) (f := 144) ⟨p2_nmu, ck_E1 (ck_S1 p2_s616_s (ck_S1 p2_s617_s (ck_S1 p2_s583_s (ck_S1 p2_s618_s (ck_S1 p2_s585_s (ck_S1 p2_s586_s (ck_S1 p2_s619_s (ck_S1 p2_s588_s ck_S0)))))))) (ck_E1 (ck_S1 p2_s589_s ck_S0) ck_E0)⟩ (by decide +kernel)
set_option maxRecDepth 100000 in
/-- GlacierMail.open -/
noncomputable def p2_s621 : ck_Sum := ((8, 2, 12), 245, [.inr (.inr (.inl 1)), .inl (ck_one 3)], ([], zl102, [(3, 6, 6, (0, 299, [(10, 0)]))]), ([(1, 15, 15), (11, 26, 27), (14, 3, 3), (15, 0, 71), (42, 1, 2), (44, 0, 7), (45, 3, 3), (46, 0, 55), (47, 3, 3), (48, 0, 23), (49, 3, 3), (50, 0, 23), (51, 3, 3), (52, 0, 167), (53, 3, 3), (54, 0, 35), (55, 3, 3), (56, 0, 71), (57, 0, 7), (58, 3, 3), (59, 0, 55), (60, 3, 3), (61, 0, 23), (62, 3, 3), (63, 0, 23), (64, 3, 3), (65, 0, 167), (66, 3, 3), (67, 0, 35), (68, 3, 3), (69, 0, 71), (70, 0, 7), (71, 3, 3), (72, 0, 55), (73, 3, 3), (74, 0, 23), (75, 3, 3), (76, 0, 23), (77, 3, 3), (78, 0, 167), (79, 3, 3), (80, 0, 35), (81, 3, 3), (82, 0, 71), (83, 0, 7), (84, 3, 3), (85, 0, 55), (86, 3, 3), (87, 0, 23), (88, 3, 3), (89, 0, 23), (90, 3, 3), (91, 0, 167), (92, 3, 3), (93, 0, 35), (94, 3, 3), (95, 0, 71), (96, 0, 7), (97, 3, 3), (98, 0, 55), (99, 3, 3), (100, 0, 23), (101, 3, 3), (102, 0, 23), (103, 3, 3), (104, 0, 167), (105, 3, 3), (106, 0, 35), (107, 3, 3), (108, 0, 71), (109, 0, 7), (110, 3, 3), (111, 0, 55), (112, 3, 3), (113, 0, 23), (114, 3, 3), (115, 0, 23), (116, 3, 3), (117, 0, 167), (118, 3, 3), (119, 0, 35), (120, 3, 3), (121, 0, 71), (122, 0, 7), (123, 3, 3), (124, 0, 55), (125, 3, 3), (126, 0, 23), (127, 3, 3), (128, 0, 23), (129, 3, 3), (130, 0, 167), (131, 3, 3), (132, 0, 35), (133, 3, 3), (134, 0, 71), (135, 0, 7), (136, 3, 3), (137, 0, 55), (138, 3, 3), (139, 0, 23), (140, 3, 3), (141, 0, 23), (142, 3, 3), (143, 0, 167), (144, 3, 3), (145, 0, 35), (146, 3, 3), (147, 0, 71), (148, 0, 7), (149, 3, 3), (150, 0, 55), (151, 3, 3), (152, 0, 23), (153, 3, 3), (154, 0, 23), (155, 3, 3), (156, 0, 167), (157, 3, 3), (158, 0, 35), (159, 3, 3), (160, 0, 71), (161, 0, 7), (162, 3, 3), (163, 0, 55), (164, 3, 3), (165, 0, 23), (166, 3, 3), (167, 0, 23), (168, 3, 3), (169, 0, 167), (170, 3, 3), (171, 0, 35), (172, 3, 3), (173, 0, 71), (174, 0, 7), (175, 3, 3), (176, 0, 55), (177, 3, 3), (178, 0, 23), (179, 3, 3), (180, 0, 23), (181, 3, 3), (182, 0, 167), (183, 3, 3), (184, 0, 35), (185, 3, 3), (186, 0, 71), (187, 0, 7), (188, 3, 3), (189, 0, 55), (190, 3, 3), (191, 0, 23), (192, 3, 3), (193, 0, 23), (194, 3, 3), (195, 0, 167), (196, 3, 3), (197, 0, 35), (198, 3, 3), (199, 0, 71), (206, 2, 8), (220, 3, 3), (221, 0, 47)], zl104), zl175)
set_option maxRecDepth 100000 in
theorem p2_s621_s {X : Int → Int} {LX : Nat} : ck_Ok p2_O X LX 158 p2_s621 := ck_okq (cuts := []) (f := 140) ⟨p2_nmu, ck_E1 (ck_S1 p2_s613_s ck_S0) (ck_E1 (ck_S1 p2_s349_s ck_S0) (ck_E1 (ck_S1 p2_s615_s ck_S0) (ck_E1 (ck_S1 p2_s529_s ck_S0) (ck_E1 (ck_S1 p2_s335_s ck_S0) (ck_E1 (ck_S1 p2_s620_s ck_S0) ck_E0)))))⟩ (by decide +kernel)
set_option maxRecDepth 100000 in
/-- GlacierMail.need -/
noncomputable def p2_s622 : ck_Sum := ((6, 1, 6), 245, [.inr (.inr (.inl 1)), .inl (ck_one 4), .inl (0, 24, [])], ([], [], []), ([], []), [(.inr none, 245, ([], [], [])), (.inl 3, 245, ([], [], []))])
set_option maxRecDepth 100000 in
theorem p2_s622_s {X : Int → Int} {LX : Nat} : ck_Ok p2_O X LX 133 p2_s622 := ck_okq (cuts := []) (f := 82) ⟨p2_nmu, ck_E0⟩ (by decide +kernel)
set_option maxRecDepth 100000 in
/-- GlacierMail.needLetter -/
noncomputable def p2_s623 : ck_Sum := ((7, 1, 6), 245, [.inr (.inr (.inl 1)), .inl (ck_one 4)], ([], [], []), ([], []), [(.inl 3, 245, ([], [], [])), (.inr none, 245, ([], [], []))])
set_option maxRecDepth 100000 in
theorem p2_s623_s {X : Int → Int} {LX : Nat} : ck_Ok p2_O X LX 143 p2_s623 := ck_okq (cuts := []) (f := 86) ⟨p2_nmu, ck_E1 (ck_S1 p2_s331_s ck_S0) (ck_E1 (ck_S1 p2_s622_s ck_S0) ck_E0)⟩ (by decide +kernel)
set_option maxRecDepth 100000 in
/-- GlacierMail$State.isRock -/
noncomputable def p2_s624 : ck_Sum := ((1, 0, 0), 245, [.inr (.inr (.inl 3)), .inl (ck_one 4)], ([], [], []), ([], []), [(.inr (some (.inl (ck_one 0))), 245, ([], [], [])), (.inr (some (.inl (ck_one 1))), 245, ([], [], []))])
set_option maxRecDepth 100000 in
theorem p2_s624_s {X : Int → Int} {LX : Nat} : ck_Ok p2_O X LX 28 p2_s624 := ck_okq (cuts := []) (f := 90) ⟨p2_nmu, ck_E1 (ck_S1 p2_s335_s ck_S0) ck_E0⟩ (by decide +kernel)
set_option maxRecDepth 100000 in
/-- GlacierMail.waits -/
noncomputable def p2_s625 : ck_Sum := ((2, 0, 0), 245, [.inr (.inr (.inl 1)), .inl (ck_one 4)], ([], [], [(3, 6, 6, (0, 299, [(10, 0)]))]), ([], []), [(.inr (some (.inl (ck_one 0))), 245, ([], [], [])), (.inr (some (.inl (ck_one 1))), 245, ([], [], []))])
set_option maxRecDepth 100000 in
theorem p2_s625_s {X : Int → Int} {LX : Nat} : ck_Ok p2_O X LX 66 p2_s625 := ck_okq (cuts := []) (f := 134) ⟨p2_nmu, ck_E1 (ck_S1 p2_s624_s ck_S0) (ck_E1 (ck_S1 p2_s335_s (ck_S1 p2_s350_s ck_S0)) (ck_E1 (ck_S1 p2_s351_s ck_S0) ck_E0))⟩ (by decide +kernel)
set_option maxRecDepth 100000 in
/-- GlacierMail$Rows.put -/
noncomputable def p2_s626 : ck_Sum := ((0, 0, 0), 245, [.inr (.inr (.inl 10)), .inl (ck_one 4), .inl (ck_one 5), .inl ((-1), 299, [])], ([], [], []), ([(11, 33, 33)], []), [(.inr none, 245, ([], [], []))])
set_option maxRecDepth 100000 in
theorem p2_s626_s {X : Int → Int} {LX : Nat} : ck_Ok p2_O X LX 45 p2_s626 := ck_okq (cuts := []) (f := 116) ⟨p2_nmu, ck_E0⟩ (by decide +kernel)
set_option maxRecDepth 100000 in
/-- GlacierMail$Rows.put -/
noncomputable def p2_s627 : ck_Sum := ((0, 0, 0), 245, [.inr (.inr (.inl 10)), .inl (ck_one 4), .inl (ck_one 6), .inl (0, 299, [])], ([], [], []), ([(11, 34, 34)], []), [(.inr none, 245, ([], [], []))])
set_option maxRecDepth 100000 in
theorem p2_s627_s {X : Int → Int} {LX : Nat} : ck_Ok p2_O X LX 45 p2_s627 := ck_okq (cuts := []) (f := 116) ⟨p2_nmu, ck_E0⟩ (by decide +kernel)
set_option maxRecDepth 100000 in
/-- GlacierMail$Rows.put -/
noncomputable def p2_s628 : ck_Sum := ((0, 0, 0), 245, [.inr (.inr (.inl 14)), .inl (0, 23, []), .inl (ck_one 1), .inl (ck_one 4)], ([], [], []), (zl173, []), [(.inr none, 245, ([], [], []))])
set_option maxRecDepth 100000 in
theorem p2_s628_s {X : Int → Int} {LX : Nat} : ck_Ok p2_O X LX 45 p2_s628 := ck_okq (cuts := []) (f := 116) ⟨p2_nmu, ck_E0⟩ (by decide +kernel)
set_option maxRecDepth 100000 in
/-- GlacierMail$Rows.put -/
noncomputable def p2_s629 : ck_Sum := ((0, 0, 0), 245, [.inr (.inr (.inl 14)), .inl (ck_one (-1)), .inl (ck_one 1), .inl (ck_one 4)], ([], [], []), ([], []), [(.inr none, 245, ([], [], []))])
set_option maxRecDepth 100000 in
theorem p2_s629_s {X : Int → Int} {LX : Nat} : ck_Ok p2_O X LX 45 p2_s629 := ck_okq (cuts := []) (f := 76) ⟨p2_nmu, ck_E0⟩ (by decide +kernel)
set_option maxRecDepth 100000 in
/-- GlacierMail$State.openLetter -/
noncomputable def p2_s630 : ck_Sum := ((1, 0, 0), 245, [.inr (.inr (.inl 3)), .inl (ck_one 4), .inl ((-1), 299, [])], ([], [], [(3, 6, 6, (0, 299, [(10, 0)]))]), ([(11, 33, 34), (14, 3, 3), (15, 0, 71)], []), [(.inr none, 245, ([], [], [(14, 3, 3, (1, 24, []))]))])
set_option maxRecDepth 100000 in
theorem p2_s630_s {X : Int → Int} {LX : Nat} : ck_Ok p2_O X LX 159 p2_s630 := ck_okq (cuts := []) (f := 144) ⟨p2_nmu, ck_E1 (ck_S1 p2_s626_s (ck_S1 p2_s627_s (ck_S1 p2_s583_s (ck_S1 p2_s628_s (ck_S1 p2_s585_s (ck_S1 p2_s586_s (ck_S1 p2_s629_s (ck_S1 p2_s588_s ck_S0)))))))) (ck_E1 (ck_S1 p2_s589_s ck_S0) ck_E0)⟩ (by decide +kernel)
end
