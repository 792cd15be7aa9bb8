/-! 78r80a01.sf -/
section
/-! EVERY CALL ENDS, whatever was done before (laid by wip/am/p2k.py). -/
set_option maxRecDepth 100000 in
/-- GlacierMail$Rows.put -/
noncomputable def p2_s90 : ck_Sum := (((0 : Nat), (0 : Nat), (0 : Nat)), (245 : Nat), [.inr (.inr (.inl (19 : Nat))), .inl (ck_one (-1)), .inl (ck_one 0), .inl ((0 : Int), (299 : Int), [])], ([], [], []), ([], []), [(.inr none, (245 : Nat), ([], [], []))])
set_option maxRecDepth 100000 in
theorem p2_s90_s {X : Int → Int} {LX : Nat} : ck_Ok p2_O X LX 45 p2_s90 := ck_okq (cuts := []) (f := 76) ⟨p2_nmu, ck_E0⟩ (by decide +kernel)
set_option maxRecDepth 100000 in
/-- GlacierMail$Rows.put -/
noncomputable def p2_s91 : ck_Sum := (((0 : Nat), (0 : Nat), (0 : Nat)), (245 : Nat), [.inr (.inr (.inl (19 : Nat))), .inl (ck_one (-1)), .inl (ck_one 1), .inl ((0 : Int), (98 : Int), [])], ([], [], []), ([], []), [(.inr none, (245 : Nat), ([], [], []))])
set_option maxRecDepth 100000 in
theorem p2_s91_s {X : Int → Int} {LX : Nat} : ck_Ok p2_O X LX 45 p2_s91 := ck_okq (cuts := []) (f := 76) ⟨p2_nmu, ck_E0⟩ (by decide +kernel)
set_option maxRecDepth 100000 in
/-- GlacierMail$Rows.put -/
noncomputable def p2_s92 : ck_Sum := (((0 : Nat), (0 : Nat), (0 : Nat)), (245 : Nat), [.inr (.inr (.inl (19 : Nat))), .inl (ck_one (-1)), .inl (ck_one 2), .inl ((1 : Int), (20 : Int), [])], ([], [], []), ([], []), [(.inr none, (245 : Nat), ([], [], []))])
set_option maxRecDepth 100000 in
theorem p2_s92_s {X : Int → Int} {LX : Nat} : ck_Ok p2_O X LX 45 p2_s92 := ck_okq (cuts := []) (f := 76) ⟨p2_nmu, ck_E0⟩ (by decide +kernel)
set_option maxRecDepth 100000 in
/-- GlacierMail$ValleyReader.readFlood -/
noncomputable def p2_s93 : ck_Sum := (((4 : Nat), (0 : Nat), (0 : Nat)), (245 : Nat), [.inr (.inr (.inl (213 : Nat)))], ([], [], [((214 : Nat), (3 : Int), (3 : Int), ((0 : Int), (400 : Int), [((12 : Nat), (0 : Int))]))]), ([((19 : Nat), (3 : Int), (3 : Int)), ((20 : Nat), (0 : Int), (23 : Int)), ((214 : Nat), (3 : Int), (7 : Int))], []), [(.inr (some (.inl (ck_one 0))), (245 : Nat), ([], [], zl21)), (.inr (some (.inl (ck_one 1))), (245 : Nat), ([], [], zl30))])
set_option maxRecDepth 100000 in
theorem p2_s93_s {X : Int → Int} {LX : Nat} : ck_Ok p2_O X LX 115 p2_s93 := ck_okq (cuts := []) (f := 194) ⟨p2_nmu, ck_E1 (ck_S1 p2_s83_s ck_S0) (ck_E1 (ck_S1 p2_s26_s ck_S0) (ck_E1 (ck_S1 p2_s84_s (ck_S1 p2_s85_s ck_S0)) (ck_E1 (ck_S1 p2_s52_s ck_S0) (ck_E1 (ck_S1 p2_s86_s ck_S0) (ck_E1 (ck_S1 p2_s87_s (ck_S1 p2_s88_s (ck_S1 p2_s89_s (ck_S1 p2_s90_s (ck_S1 p2_s91_s (ck_S1 p2_s92_s ck_S0)))))) (ck_E1 (ck_S1 p2_s28_s ck_S0) ck_E0))))))⟩ (by decide +kernel)
set_option maxRecDepth 100000 in
/-- GlacierMail$Words.needNumber -/
noncomputable def p2_s94 : ck_Sum := (((2 : Nat), (0 : Nat), (0 : Nat)), (245 : Nat), [.inr (.inr (.inl (214 : Nat))), .inl (ck_one 0), .inl (ck_one 9999)], ([], [], [((214 : Nat), (3 : Int), (3 : Int), ((0 : Int), (400 : Int), [((12 : Nat), (0 : Int))]))]), ([((214 : Nat), (3 : Int), (7 : Int))], []), [(.inr (some (.inl (ck_one (-1)))), (245 : Nat), ([], [], zl7)), (.inr (some (.inl ((0 : Int), (9999 : Int), []))), (245 : Nat), ([], [], [((214 : Nat), (3 : Int), (3 : Int), ((0 : Int), (400 : Int), [((1000012 : Nat), (0 : Int))]))]))])
set_option maxRecDepth 100000 in
theorem p2_s94_s {X : Int → Int} {LX : Nat} : ck_Ok p2_O X LX 94 p2_s94 := ck_okq (cuts := []) (f := 106) ⟨p2_nmu, ck_E1 (ck_S1 p2_s28_s ck_S0) (ck_E1 (ck_S1 p2_s26_s ck_S0) ck_E0)⟩ (by decide +kernel)
set_option maxRecDepth 100000 in
/-- GlacierMail$ValleyReader.readSeed -/
noncomputable def p2_s95 : ck_Sum := (((3 : Nat), (0 : Nat), (0 : Nat)), (245 : Nat), [.inr (.inr (.inl (213 : Nat)))], ([], [], [((214 : Nat), (3 : Int), (3 : Int), ((0 : Int), (400 : Int), [((12 : Nat), (0 : Int))]))]), ([((16 : Nat), (5 : Int), (5 : Int)), ((214 : Nat), (3 : Int), (7 : Int))], []), zl31)
set_option maxRecDepth 100000 in
theorem p2_s95_s {X : Int → Int} {LX : Nat} : ck_Ok p2_O X LX 114 p2_s95 := ck_okq (cuts := []) (f := 106) ⟨p2_nmu, ck_E1 (ck_S1 p2_s26_s ck_S0) (ck_E1 (ck_S1 p2_s94_s ck_S0) ck_E0)⟩ (by decide +kernel)
set_option maxRecDepth 100000 in
/-- GlacierMail$Words.needNumber -/
noncomputable def p2_s96 : ck_Sum := (((2 : Nat), (0 : Nat), (0 : Nat)), (245 : Nat), [.inr (.inr (.inl (214 : Nat))), .inl (ck_one 0), .inl ((1 : Int), (6 : Int), [])], ([], [], [((214 : Nat), (3 : Int), (3 : Int), ((0 : Int), (400 : Int), [((12 : Nat), (0 : Int))]))]), ([((214 : Nat), (3 : Int), (7 : Int))], []), [(.inr (some (.inl (ck_one (-1)))), (245 : Nat), ([], [], zl7)), (.inr (some (.inl ((0 : Int), (6 : Int), []))), (245 : Nat), ([], [], [((214 : Nat), (3 : Int), (3 : Int), ((0 : Int), (400 : Int), [((1000012 : Nat), (0 : Int))]))]))])
set_option maxRecDepth 100000 in
theorem p2_s96_s {X : Int → Int} {LX : Nat} : ck_Ok p2_O X LX 94 p2_s96 := ck_okq (cuts := []) (f := 106) ⟨p2_nmu, ck_E1 (ck_S1 p2_s28_s ck_S0) (ck_E1 (ck_S1 p2_s26_s ck_S0) ck_E0)⟩ (by decide +kernel)
set_option maxRecDepth 100000 in
/-- GlacierMail$ValleyReader.readStripe -/
noncomputable def p2_s97 : ck_Sum := (((3 : Nat), (0 : Nat), (0 : Nat)), (245 : Nat), [.inr (.inr (.inl (213 : Nat)))], ([], [], [((214 : Nat), (3 : Int), (3 : Int), ((0 : Int), (400 : Int), [((12 : Nat), (0 : Int))]))]), ([((16 : Nat), (4 : Int), (4 : Int)), ((214 : Nat), (3 : Int), (7 : Int))], []), zl31)
set_option maxRecDepth 100000 in
theorem p2_s97_s {X : Int → Int} {LX : Nat} : ck_Ok p2_O X LX 113 p2_s97 := ck_okq (cuts := []) (f := 110) ⟨p2_nmu, ck_E1 (ck_S1 p2_s26_s ck_S0) (ck_E1 (ck_S1 p2_s96_s ck_S0) ck_E0)⟩ (by decide +kernel)
set_option maxRecDepth 100000 in
/-- GlacierMail$Words.isWord -/
noncomputable def p2_s98 : ck_Sum := (((6 : Nat), (0 : Nat), (0 : Nat)), (245 : Nat), [.inr (.inr (.inl (214 : Nat))), .inr (.inr (.inr (21 : Nat)))], ([], [], [((214 : Nat), (3 : Int), (3 : Int), ((0 : Int), (400 : Int), [((12 : Nat), (0 : Int))]))]), ([], []), zl4)
set_option maxRecDepth 100000 in
theorem p2_s98_s {X : Int → Int} {LX : Nat} : ck_Ok p2_O X LX 81 p2_s98 := ck_okq (cuts := []) (f := 310) ⟨p2_nmu, ck_E0⟩ (by decide +kernel)
set_option maxRecDepth 100000 in
/-- GlacierMail$Words.takeWord -/
noncomputable def p2_s99 : ck_Sum := (((7 : Nat), (0 : Nat), (0 : Nat)), (245 : Nat), [.inr (.inr (.inl (214 : Nat))), .inr (.inr (.inr (21 : Nat)))], ([], [], [((214 : Nat), (3 : Int), (3 : Int), ((0 : Int), (400 : Int), [((12 : Nat), (0 : Int))]))]), ([((214 : Nat), (3 : Int), (4 : Int)), ((214 : Nat), (6 : Int), (7 : Int))], []), [(.inr (some (.inl (ck_one 0))), (245 : Nat), ([], [], [((214 : Nat), (3 : Int), (3 : Int), ((0 : Int), (400 : Int), [((12 : Nat), (0 : Int))]))])), (.inr (some (.inl (ck_one 1))), (245 : Nat), ([], [], [((214 : Nat), (3 : Int), (3 : Int), ((4 : Int), (400 : Int), [((1000012 : Nat), (0 : Int))]))]))])
set_option maxRecDepth 100000 in
theorem p2_s99_s {X : Int → Int} {LX : Nat} : ck_Ok p2_O X LX 95 p2_s99 := ck_okq (cuts := []) (f := 90) ⟨p2_nmu, ck_E1 (ck_S1 p2_s98_s ck_S0) (ck_E1 (ck_S1 p2_s26_s ck_S0) ck_E0)⟩ (by decide +kernel)
set_option maxRecDepth 100000 in
/-- GlacierMail$Words.needWord -/
noncomputable def p2_s100 : ck_Sum := (((8 : Nat), (0 : Nat), (0 : Nat)), (245 : Nat), [.inr (.inr (.inl (214 : Nat))), .inr (.inr (.inr (21 : Nat)))], ([], [], [((214 : Nat), (3 : Int), (3 : Int), ((0 : Int), (400 : Int), [((12 : Nat), (0 : Int))]))]), ([((214 : Nat), (3 : Int), (7 : Int))], []), [(.inr (some (.inl (ck_one 0))), (245 : Nat), ([], [], zl7)), (.inr (some (.inl (ck_one 1))), (245 : Nat), ([], [], [((214 : Nat), (3 : Int), (3 : Int), ((4 : Int), (400 : Int), [((1000012 : Nat), (0 : Int))]))]))])
set_option maxRecDepth 100000 in
theorem p2_s100_s {X : Int → Int} {LX : Nat} : ck_Ok p2_O X LX 112 p2_s100 := ck_okq (cuts := []) (f := 88) ⟨p2_nmu, ck_E1 (ck_S1 p2_s99_s ck_S0) (ck_E1 (ck_S1 p2_s28_s ck_S0) ck_E0)⟩ (by decide +kernel)
set_option maxRecDepth 100000 in
/-- GlacierMail$Words.needNumber -/
noncomputable def p2_s101 : ck_Sum := (((2 : Nat), (0 : Nat), (0 : Nat)), (245 : Nat), [.inr (.inr (.inl (214 : Nat))), .inl (ck_one 0), .inl (ck_one 9)], ([], [], [((214 : Nat), (3 : Int), (3 : Int), ((0 : Int), (400 : Int), [((12 : Nat), (0 : Int))]))]), ([((214 : Nat), (3 : Int), (7 : Int))], []), [(.inr (some (.inl (ck_one (-1)))), (245 : Nat), ([], [], zl7)), (.inr (some (.inl ((0 : Int), (9 : Int), []))), (245 : Nat), ([], [], [((214 : Nat), (3 : Int), (3 : Int), ((0 : Int), (400 : Int), [((1000012 : Nat), (0 : Int))]))]))])
set_option maxRecDepth 100000 in
theorem p2_s101_s {X : Int → Int} {LX : Nat} : ck_Ok p2_O X LX 94 p2_s101 := ck_okq (cuts := []) (f := 106) ⟨p2_nmu, ck_E1 (ck_S1 p2_s28_s ck_S0) (ck_E1 (ck_S1 p2_s26_s ck_S0) ck_E0)⟩ (by decide +kernel)
set_option maxRecDepth 100000 in
/-- GlacierMail$ValleyReader.readSnow -/
noncomputable def p2_s102 : ck_Sum := (((9 : Nat), (0 : Nat), (0 : Nat)), (245 : Nat), [.inr (.inr (.inl (213 : Nat)))], ([], [], [((214 : Nat), (3 : Int), (3 : Int), ((0 : Int), (400 : Int), [((12 : Nat), (0 : Int))]))]), ([((16 : Nat), (2 : Int), (3 : Int)), ((214 : Nat), (3 : Int), (7 : Int))], []), zl32)
set_option maxRecDepth 100000 in
theorem p2_s102_s {X : Int → Int} {LX : Nat} : ck_Ok p2_O X LX 110 p2_s102 := ck_okq (cuts := []) (f := 136) ⟨p2_nmu, ck_E1 (ck_S1 p2_s26_s ck_S0) (ck_E1 (ck_S1 p2_s52_s ck_S0) (ck_E1 (ck_S1 p2_s100_s ck_S0) (ck_E1 (ck_S1 p2_s101_s ck_S0) ck_E0)))⟩ (by decide +kernel)
set_option maxRecDepth 100000 in
/-- GlacierMail$Rows.isFull -/
noncomputable def p2_s103 : ck_Sum := (((0 : Nat), (0 : Nat), (0 : Nat)), (245 : Nat), [.inr (.inr (.inl (17 : Nat)))], ([], [], []), ([], []), [(.inr (some (.inl (ck_one 0))), (245 : Nat), ([], [], [((17 : Nat), (3 : Int), (3 : Int), ((0 : Int), (7 : Int), []))])), (.inr (some (.inl (ck_one 1))), (245 : Nat), ([], [], [((17 : Nat), (3 : Int), (3 : Int), ck_one 8)]))])
set_option maxRecDepth 100000 in
theorem p2_s103_s {X : Int → Int} {LX : Nat} : ck_Ok p2_O X LX 108 p2_s103 := ck_okq (cuts := []) (f := 86) ⟨p2_nmu, ck_E0⟩ (by decide +kernel)
set_option maxRecDepth 100000 in
/-- GlacierMail$Rows.size -/
noncomputable def p2_s104 : ck_Sum := (((0 : Nat), (0 : Nat), (0 : Nat)), (245 : Nat), [.inr (.inr (.inl (17 : Nat)))], ([], [], []), ([], []), [(.inr (some (.inl ((0 : Int), (8 : Int), []))), (245 : Nat), ([], [], []))])
set_option maxRecDepth 100000 in
theorem p2_s104_s {X : Int → Int} {LX : Nat} : ck_Ok p2_O X LX 9 p2_s104 := ck_okq (cuts := []) (f := 76) ⟨p2_nmu, ck_E0⟩ (by decide +kernel)
set_option maxRecDepth 100000 in
/-- GlacierMail$Rows.get -/
noncomputable def p2_s105 : ck_Sum := (((0 : Nat), (0 : Nat), (0 : Nat)), (245 : Nat), [.inr (.inr (.inl (17 : Nat))), .inl ((-2147483648 : Int), (2147483647 : Int), []), .inl ((-2147483648 : Int), (2147483647 : Int), [])], ([], [], []), ([], []), [(.inr (some (.inl (ck_one (-1)))), (245 : Nat), ([], [], [])), (.inr (some (.inl ((0 : Int), (98 : Int), []))), (245 : Nat), ([], [], [((17 : Nat), (3 : Int), (3 : Int), ((1 : Int), (8 : Int), []))]))])
set_option maxRecDepth 100000 in
theorem p2_s105_s {X : Int → Int} {LX : Nat} : ck_Ok p2_O X LX 10 p2_s105 := ck_okq (cuts := []) (f := 114) ⟨p2_nmu, ck_E0⟩ (by decide +kernel)
set_option maxRecDepth 100000 in
/-- GlacierMail$Words.needNumber -/
noncomputable def p2_s106 : ck_Sum := (((2 : Nat), (0 : Nat), (0 : Nat)), (245 : Nat), [.inr (.inr (.inl (214 : Nat))), .inl (ck_one 0), .inl (ck_one 0)], ([], [], [((214 : Nat), (3 : Int), (3 : Int), ((0 : Int), (400 : Int), [((12 : Nat), (0 : Int))]))]), ([((214 : Nat), (3 : Int), (7 : Int))], []), [(.inr (some (.inl (ck_one (-1)))), (245 : Nat), ([], [], zl7)), (.inr (some (.inl (ck_one 0))), (245 : Nat), ([], [], [((214 : Nat), (3 : Int), (3 : Int), ((0 : Int), (400 : Int), [((1000012 : Nat), (0 : Int))]))]))])
set_option maxRecDepth 100000 in
theorem p2_s106_s {X : Int → Int} {LX : Nat} : ck_Ok p2_O X LX 94 p2_s106 := ck_okq (cuts := []) (f := 106) ⟨p2_nmu, ck_E1 (ck_S1 p2_s28_s ck_S0) (ck_E1 (ck_S1 p2_s26_s ck_S0) ck_E0)⟩ (by decide +kernel)
set_option maxRecDepth 100000 in
/-- GlacierMail$Words.needNumber -/
noncomputable def p2_s107 : ck_Sum := (((2 : Nat), (0 : Nat), (0 : Nat)), (245 : Nat), [.inr (.inr (.inl (214 : Nat))), .inl ((1 : Int), (99 : Int), []), .inl ((9 : Int), (98 : Int), [])], ([], [], [((214 : Nat), (3 : Int), (3 : Int), ((0 : Int), (400 : Int), [((12 : Nat), (0 : Int))]))]), ([((214 : Nat), (3 : Int), (7 : Int))], []), [(.inr (some (.inl (ck_one (-1)))), (245 : Nat), ([], [], zl7)), (.inr (some (.inl ((1 : Int), (98 : Int), []))), (245 : Nat), ([], [], [((214 : Nat), (3 : Int), (3 : Int), ((0 : Int), (400 : Int), [((1000012 : Nat), (0 : Int))]))]))])
set_option maxRecDepth 100000 in
theorem p2_s107_s {X : Int → Int} {LX : Nat} : ck_Ok p2_O X LX 94 p2_s107 := ck_okq (cuts := []) (f := 106) ⟨p2_nmu, ck_E1 (ck_S1 p2_s28_s ck_S0) (ck_E1 (ck_S1 p2_s26_s ck_S0) ck_E0)⟩ (by decide +kernel)
set_option maxRecDepth 100000 in
/-- GlacierMail$Words.needNumber -/
noncomputable def p2_s108 : ck_Sum := (((1 : Nat), (0 : Nat), (0 : Nat)), (245 : Nat), [.inr (.inr (.inl (214 : Nat))), .inl ((1 : Int), (99 : Int), []), .inl (ck_one 0)], ([], [], []), ([((214 : Nat), (5 : Int), (5 : Int))], []), [(.inr (some (.inl (ck_one (-1)))), (245 : Nat), ([], [], [((214 : Nat), (5 : Int), (5 : Int), ((0 : Int), (400 : Int), []))]))])
set_option maxRecDepth 100000 in
theorem p2_s108_s {X : Int → Int} {LX : Nat} : ck_Ok p2_O X LX 94 p2_s108 := ck_okq (cuts := []) (f := 106) ⟨p2_nmu, ck_E1 (ck_S1 p2_s28_s ck_S0) ck_E0⟩ (by decide +kernel)
set_option maxRecDepth 100000 in
/-- GlacierMail$Rows.add -/
noncomputable def p2_s109 : ck_Sum := (((0 : Nat), (0 : Nat), (0 : Nat)), (245 : Nat), [.inr (.inr (.inl (17 : Nat)))], ([], [], []), ([((17 : Nat), (3 : Int), (3 : Int))], []), [(.inr (some (.inl ((0 : Int), (7 : Int), []))), (245 : Nat), ([], [], [((17 : Nat), (3 : Int), (3 : Int), ((1 : Int), (8 : Int), []))])), (.inr (some (.inl (ck_one (-1)))), (245 : Nat), ([], [], [((17 : Nat), (3 : Int), (3 : Int), ck_one 8)]))])
set_option maxRecDepth 100000 in
theorem p2_s109_s {X : Int → Int} {LX : Nat} : ck_Ok p2_O X LX 102 p2_s109 := ck_okq (cuts := []) (f := 102) ⟨p2_nmu, ck_E0⟩ (by decide +kernel)
set_option maxRecDepth 100000 in
/-- GlacierMail$Rows.put -/
noncomputable def p2_s110 : ck_Sum := (((0 : Nat), (0 : Nat), (0 : Nat)), (245 : Nat), [.inr (.inr (.inl (17 : Nat))), .inl ((0 : Int), (7 : Int), []), .inl (ck_one 0), .inl ((0 : Int), (98 : Int), [])], ([], [], []), (zl33, []), [(.inr none, (245 : Nat), ([], [], []))])
set_option maxRecDepth 100000 in
theorem p2_s110_s {X : Int → Int} {LX : Nat} : ck_Ok p2_O X LX 45 p2_s110 := ck_okq (cuts := []) (f := 116) ⟨p2_nmu, ck_E0⟩ (by decide +kernel)
set_option maxRecDepth 100000 in
/-- GlacierMail$Rows.put -/
noncomputable def p2_s111 : ck_Sum := (((0 : Nat), (0 : Nat), (0 : Nat)), (245 : Nat), [.inr (.inr (.inl (17 : Nat))), .inl (ck_one (-1)), .inl (ck_one 0), .inl ((0 : Int), (98 : Int), [])], ([], [], []), ([], []), [(.inr none, (245 : Nat), ([], [], []))])
set_option maxRecDepth 100000 in
theorem p2_s111_s {X : Int → Int} {LX : Nat} : ck_Ok p2_O X LX 45 p2_s111 := ck_okq (cuts := []) (f := 76) ⟨p2_nmu, ck_E0⟩ (by decide +kernel)
set_option maxRecDepth 100000 in
/-- GlacierMail$Rows.put -/
noncomputable def p2_s112 : ck_Sum := (((0 : Nat), (0 : Nat), (0 : Nat)), (245 : Nat), [.inr (.inr (.inl (17 : Nat))), .inl ((0 : Int), (7 : Int), []), .inl (ck_one 0), .inl (ck_one 0)], ([], [], []), (zl33, []), [(.inr none, (245 : Nat), ([], [], []))])
set_option maxRecDepth 100000 in
theorem p2_s112_s {X : Int → Int} {LX : Nat} : ck_Ok p2_O X LX 45 p2_s112 := ck_okq (cuts := []) (f := 116) ⟨p2_nmu, ck_E0⟩ (by decide +kernel)
set_option maxRecDepth 100000 in
/-- GlacierMail$Rows.put -/
noncomputable def p2_s113 : ck_Sum := (((0 : Nat), (0 : Nat), (0 : Nat)), (245 : Nat), [.inr (.inr (.inl (17 : Nat))), .inl (ck_one (-1)), .inl (ck_one 0), .inl (ck_one 0)], ([], [], []), ([], []), [(.inr none, (245 : Nat), ([], [], []))])
set_option maxRecDepth 100000 in
theorem p2_s113_s {X : Int → Int} {LX : Nat} : ck_Ok p2_O X LX 45 p2_s113 := ck_okq (cuts := []) (f := 76) ⟨p2_nmu, ck_E0⟩ (by decide +kernel)
set_option maxRecDepth 100000 in
/-- GlacierMail$Rows.put -/
noncomputable def p2_s114 : ck_Sum := (((0 : Nat), (0 : Nat), (0 : Nat)), (245 : Nat), [.inr (.inr (.inl (17 : Nat))), .inl ((0 : Int), (7 : Int), []), .inl (ck_one 0), .inl ((1 : Int), (98 : Int), [])], ([], [], []), (zl33, []), [(.inr none, (245 : Nat), ([], [], []))])
set_option maxRecDepth 100000 in
theorem p2_s114_s {X : Int → Int} {LX : Nat} : ck_Ok p2_O X LX 45 p2_s114 := ck_okq (cuts := []) (f := 116) ⟨p2_nmu, ck_E0⟩ (by decide +kernel)
set_option maxRecDepth 100000 in
/-- GlacierMail$Rows.put -/
noncomputable def p2_s115 : ck_Sum := (((0 : Nat), (0 : Nat), (0 : Nat)), (245 : Nat), [.inr (.inr (.inl (17 : Nat))), .inl (ck_one (-1)), .inl (ck_one 0), .inl ((1 : Int), (98 : Int), [])], ([], [], []), ([], []), [(.inr none, (245 : Nat), ([], [], []))])
set_option maxRecDepth 100000 in
theorem p2_s115_s {X : Int → Int} {LX : Nat} : ck_Ok p2_O X LX 45 p2_s115 := ck_okq (cuts := []) (f := 76) ⟨p2_nmu, ck_E0⟩ (by decide +kernel)
set_option maxRecDepth 100000 in
/-- GlacierMail$Rows.put -/
noncomputable def p2_s116 : ck_Sum := (((0 : Nat), (0 : Nat), (0 : Nat)), (245 : Nat), [.inr (.inr (.inl (17 : Nat))), .inl ((0 : Int), (7 : Int), []), .inl ((1 : Int), (6 : Int), []), .inl ((0 : Int), (20 : Int), [])], ([], [], []), (zl34, []), [(.inr none, (245 : Nat), ([], [], []))])
set_option maxRecDepth 100000 in
theorem p2_s116_s {X : Int → Int} {LX : Nat} : ck_Ok p2_O X LX 45 p2_s116 := ck_okq (cuts := []) (f := 116) ⟨p2_nmu, ck_E0⟩ (by decide +kernel)
set_option maxRecDepth 100000 in
/-- GlacierMail$ValleyReader.readSpeeds -/
noncomputable def p2_s117 : ck_Sum := (((3 : Nat), (0 : Nat), (0 : Nat)), (245 : Nat), [.inr (.inr (.inl (213 : Nat))), .inr (.inr (.inl (17 : Nat))), .inl ((0 : Int), (7 : Int), []), .inl (ck_one 1)], ([], [], [((214 : Nat), (3 : Int), (3 : Int), ((0 : Int), (400 : Int), [((12 : Nat), (0 : Int))]))]), (zl35, []), zl8)
set_option maxRecDepth 100000 in
theorem p2_s117_s {X : Int → Int} {LX : Nat} : ck_Ok p2_O X LX 109 p2_s117 := ck_okq (cuts := [((3 : Nat), [some (.inr (.inr (.inl (213 : Nat)))), some (.inr (.inr (.inl (17 : Nat)))), some (.inl ((0 : Int), (7 : Int), [])), some (.inl (ck_one 1)), some (.inl ((0 : Int), (6 : Int), [])), none], ([], [], [((214 : Nat), (3 : Int), (3 : Int), ((0 : Int), (400 : Int), [((1000012 : Nat), (0 : Int))]))]), (100 : Nat), .inl (4 : Nat), true)]) (f := 186) ⟨p2_nmu, ck_E1 (ck_S1 p2_s42_s ck_S0) (ck_E1 (ck_S1 p2_s116_s ck_S0) ck_E0)⟩ (by decide +kernel)
set_option maxRecDepth 100000 in
/-- GlacierMail$Rows.put -/
noncomputable def p2_s118 : ck_Sum := (((0 : Nat), (0 : Nat), (0 : Nat)), (245 : Nat), [.inr (.inr (.inl (17 : Nat))), .inl (ck_one (-1)), .inl ((1 : Int), (6 : Int), []), .inl ((0 : Int), (20 : Int), [])], ([], [], []), ([], []), [(.inr none, (245 : Nat), ([], [], []))])
set_option maxRecDepth 100000 in
theorem p2_s118_s {X : Int → Int} {LX : Nat} : ck_Ok p2_O X LX 45 p2_s118 := ck_okq (cuts := []) (f := 76) ⟨p2_nmu, ck_E0⟩ (by decide +kernel)
set_option maxRecDepth 100000 in
/-- GlacierMail$ValleyReader.readSpeeds -/
noncomputable def p2_s119 : ck_Sum := (((3 : Nat), (0 : Nat), (0 : Nat)), (245 : Nat), [.inr (.inr (.inl (213 : Nat))), .inr (.inr (.inl (17 : Nat))), .inl (ck_one (-1)), .inl (ck_one 1)], ([], [], [((214 : Nat), (3 : Int), (3 : Int), ((0 : Int), (400 : Int), [((12 : Nat), (0 : Int))]))]), ([((214 : Nat), (3 : Int), (7 : Int))], []), zl8)
set_option maxRecDepth 100000 in
theorem p2_s119_s {X : Int → Int} {LX : Nat} : ck_Ok p2_O X LX 109 p2_s119 := ck_okq (cuts := [((3 : Nat), [some (.inr (.inr (.inl (213 : Nat)))), some (.inr (.inr (.inl (17 : Nat)))), some (.inl (ck_one (-1))), some (.inl (ck_one 1)), some (.inl ((0 : Int), (6 : Int), [])), none], ([], [], [((214 : Nat), (3 : Int), (3 : Int), ((0 : Int), (400 : Int), [((1000012 : Nat), (0 : Int))]))]), (100 : Nat), .inl (4 : Nat), true)]) (f := 186) ⟨p2_nmu, ck_E1 (ck_S1 p2_s42_s ck_S0) (ck_E1 (ck_S1 p2_s118_s ck_S0) ck_E0)⟩ (by decide +kernel)
set_option maxRecDepth 100000 in
/-- GlacierMail$ValleyReader.readSection -/
noncomputable def p2_s120 : ck_Sum := (((4 : Nat), (0 : Nat), (0 : Nat)), (245 : Nat), [.inr (.inr (.inl (213 : Nat)))], ([], [], [((214 : Nat), (3 : Int), (3 : Int), ((0 : Int), (400 : Int), [((12 : Nat), (0 : Int))]))]), ([((17 : Nat), (3 : Int), (3 : Int)), ((18 : Nat), (0 : Int), (55 : Int)), ((214 : Nat), (3 : Int), (7 : Int))], []), [(.inr (some (.inl (ck_one 0))), (245 : Nat), ([], [], zl21)), (.inr (some (.inl (ck_one 1))), (245 : Nat), ([], [], zl36))])
set_option maxRecDepth 100000 in
theorem p2_s120_s {X : Int → Int} {LX : Nat} : ck_Ok p2_O X LX 107 p2_s120 := ck_okq (cuts := []) (f := 188) ⟨p2_nmu, ck_E1 (ck_S1 p2_s103_s ck_S0) (ck_E1 (ck_S1 p2_s26_s ck_S0) (ck_E1 (ck_S1 p2_s104_s ck_S0) (ck_E1 (ck_S1 p2_s105_s ck_S0) (ck_E1 (ck_S1 p2_s51_s (ck_S1 p2_s106_s (ck_S1 p2_s107_s (ck_S1 p2_s108_s ck_S0)))) (ck_E1 (ck_S1 p2_s109_s ck_S0) (ck_E1 (ck_S1 p2_s110_s (ck_S1 p2_s111_s (ck_S1 p2_s112_s (ck_S1 p2_s113_s (ck_S1 p2_s114_s (ck_S1 p2_s115_s ck_S0)))))) (ck_E1 (ck_S1 p2_s117_s (ck_S1 p2_s119_s ck_S0)) (ck_E1 (ck_S1 p2_s28_s ck_S0) ck_E0))))))))⟩ (by decide +kernel)
set_option maxRecDepth 100000 in
/-- GlacierMail$Rows.size -/
noncomputable def p2_s121 : ck_Sum := (((0 : Nat), (0 : Nat), (0 : Nat)), (245 : Nat), [.inr (.inr (.inl (19 : Nat)))], ([], [], []), ([], []), [(.inr (some (.inl ((0 : Int), (8 : Int), []))), (245 : Nat), ([], [], []))])
set_option maxRecDepth 100000 in
theorem p2_s121_s {X : Int → Int} {LX : Nat} : ck_Ok p2_O X LX 9 p2_s121 := ck_okq (cuts := []) (f := 76) ⟨p2_nmu, ck_E0⟩ (by decide +kernel)
set_option maxRecDepth 100000 in
/-- GlacierMail$Rows.size -/
noncomputable def p2_s122 : ck_Sum := (((0 : Nat), (0 : Nat), (0 : Nat)), (245 : Nat), [.inr (.inr (.inl (21 : Nat)))], ([], [], []), ([], []), [(.inr (some (.inl ((0 : Int), (8 : Int), []))), (245 : Nat), ([], [], []))])
set_option maxRecDepth 100000 in
theorem p2_s122_s {X : Int → Int} {LX : Nat} : ck_Ok p2_O X LX 9 p2_s122 := ck_okq (cuts := []) (f := 76) ⟨p2_nmu, ck_E0⟩ (by decide +kernel)
set_option maxRecDepth 100000 in
/-- GlacierMail$Rows.size -/
noncomputable def p2_s123 : ck_Sum := (((0 : Nat), (0 : Nat), (0 : Nat)), (245 : Nat), [.inr (.inr (.inl (23 : Nat)))], ([], [], []), ([], []), [(.inr (some (.inl ((0 : Int), (24 : Int), []))), (245 : Nat), ([], [], []))])
set_option maxRecDepth 100000 in
theorem p2_s123_s {X : Int → Int} {LX : Nat} : ck_Ok p2_O X LX 9 p2_s123 := ck_okq (cuts := []) (f := 76) ⟨p2_nmu, ck_E0⟩ (by decide +kernel)
set_option maxRecDepth 100000 in
/-- GlacierMail$Rows.size -/
noncomputable def p2_s124 : ck_Sum := (((0 : Nat), (0 : Nat), (0 : Nat)), (245 : Nat), [.inr (.inr (.inl (25 : Nat)))], ([], [], []), ([], []), [(.inr (some (.inl ((0 : Int), (6 : Int), []))), (245 : Nat), ([], [], []))])
set_option maxRecDepth 100000 in
theorem p2_s124_s {X : Int → Int} {LX : Nat} : ck_Ok p2_O X LX 9 p2_s124 := ck_okq (cuts := []) (f := 76) ⟨p2_nmu, ck_E0⟩ (by decide +kernel)
set_option maxRecDepth 100000 in
/-- GlacierMail$State.isEmpty -/
noncomputable def p2_s125 : ck_Sum := (((1 : Nat), (0 : Nat), (0 : Nat)), (245 : Nat), [.inr (.inr (.inl (16 : Nat)))], ([], [], []), ([], []), [(.inr (some (.inl (ck_one 0))), (245 : Nat), ([], [], [])), (.inr (some (.inl (ck_one 1))), (245 : Nat), ([], [], []))])
set_option maxRecDepth 100000 in
theorem p2_s125_s {X : Int → Int} {LX : Nat} : ck_Ok p2_O X LX 105 p2_s125 := ck_okq (cuts := []) (f := 116) ⟨p2_nmu, ck_E1 (ck_S1 p2_s104_s (ck_S1 p2_s121_s (ck_S1 p2_s122_s (ck_S1 p2_s123_s (ck_S1 p2_s124_s ck_S0))))) ck_E0⟩ (by decide +kernel)
set_option maxRecDepth 100000 in
/-- GlacierMail$Words.needNumber -/
noncomputable def p2_s126 : ck_Sum := (((2 : Nat), (0 : Nat), (0 : Nat)), (245 : Nat), [.inr (.inr (.inl (214 : Nat))), .inl (ck_one 10), .inl (ck_one 99)], ([], [], [((214 : Nat), (3 : Int), (3 : Int), ((0 : Int), (400 : Int), [((12 : Nat), (0 : Int))]))]), ([((214 : Nat), (3 : Int), (7 : Int))], []), [(.inr (some (.inl (ck_one (-1)))), (245 : Nat), ([], [], zl7)), (.inr (some (.inl ((10 : Int), (99 : Int), []))), (245 : Nat), ([], [], [((214 : Nat), (3 : Int), (3 : Int), ((0 : Int), (400 : Int), [((1000012 : Nat), (0 : Int))]))]))])
set_option maxRecDepth 100000 in
theorem p2_s126_s {X : Int → Int} {LX : Nat} : ck_Ok p2_O X LX 94 p2_s126 := ck_okq (cuts := []) (f := 106) ⟨p2_nmu, ck_E1 (ck_S1 p2_s28_s ck_S0) (ck_E1 (ck_S1 p2_s26_s ck_S0) ck_E0)⟩ (by decide +kernel)
set_option maxRecDepth 100000 in
/-- GlacierMail$ValleyReader.readLast -/
noncomputable def p2_s127 : ck_Sum := (((3 : Nat), (0 : Nat), (0 : Nat)), (245 : Nat), [.inr (.inr (.inl (213 : Nat)))], ([], [], [((214 : Nat), (3 : Int), (3 : Int), ((0 : Int), (400 : Int), [((12 : Nat), (0 : Int))]))]), ([((16 : Nat), (1 : Int), (2 : Int)), ((214 : Nat), (3 : Int), (7 : Int))], []), [(.inr (some (.inl (ck_one 0))), (245 : Nat), ([], [], zl21)), (.inr (some (.inl (ck_one 1))), (245 : Nat), ([], [], zl37))])
set_option maxRecDepth 100000 in
theorem p2_s127_s {X : Int → Int} {LX : Nat} : ck_Ok p2_O X LX 106 p2_s127 := ck_okq (cuts := []) (f := 122) ⟨p2_nmu, ck_E1 (ck_S1 p2_s125_s ck_S0) (ck_E1 (ck_S1 p2_s28_s ck_S0) (ck_E1 (ck_S1 p2_s26_s ck_S0) (ck_E1 (ck_S1 p2_s126_s ck_S0) ck_E0)))⟩ (by decide +kernel)
set_option maxRecDepth 100000 in
/-- GlacierMail$Words.needNumber -/
noncomputable def p2_s128 : ck_Sum := (((2 : Nat), (0 : Nat), (0 : Nat)), (245 : Nat), [.inr (.inr (.inl (214 : Nat))), .inl (ck_one 1), .inl (ck_one 6)], ([], [], [((214 : Nat), (3 : Int), (3 : Int), ((0 : Int), (400 : Int), [((12 : Nat), (0 : Int))]))]), ([((214 : Nat), (3 : Int), (7 : Int))], []), [(.inr (some (.inl (ck_one (-1)))), (245 : Nat), ([], [], zl7)), (.inr (some (.inl ((1 : Int), (6 : Int), []))), (245 : Nat), ([], [], [((214 : Nat), (3 : Int), (3 : Int), ((0 : Int), (400 : Int), [((1000012 : Nat), (0 : Int))]))]))])
set_option maxRecDepth 100000 in
theorem p2_s128_s {X : Int → Int} {LX : Nat} : ck_Ok p2_O X LX 94 p2_s128 := ck_okq (cuts := []) (f := 106) ⟨p2_nmu, ck_E1 (ck_S1 p2_s28_s ck_S0) (ck_E1 (ck_S1 p2_s26_s ck_S0) ck_E0)⟩ (by decide +kernel)
set_option maxRecDepth 100000 in
/-- GlacierMail$ValleyReader.readLanes -/
noncomputable def p2_s129 : ck_Sum := (((3 : Nat), (0 : Nat), (0 : Nat)), (245 : Nat), [.inr (.inr (.inl (213 : Nat)))], ([], [], [((214 : Nat), (3 : Int), (3 : Int), ((0 : Int), (400 : Int), [((12 : Nat), (0 : Int))]))]), ([((16 : Nat), (0 : Int), (0 : Int)), ((16 : Nat), (4 : Int), (4 : Int)), ((214 : Nat), (3 : Int), (7 : Int))], []), [(.inr (some (.inl (ck_one 0))), (245 : Nat), ([], [], zl21)), (.inr (some (.inl (ck_one 1))), (245 : Nat), ([], [], zl38))])
set_option maxRecDepth 100000 in
theorem p2_s129_s {X : Int → Int} {LX : Nat} : ck_Ok p2_O X LX 104 p2_s129 := ck_okq (cuts := []) (f := 122) ⟨p2_nmu, ck_E1 (ck_S1 p2_s125_s ck_S0) (ck_E1 (ck_S1 p2_s28_s ck_S0) (ck_E1 (ck_S1 p2_s26_s ck_S0) (ck_E1 (ck_S1 p2_s128_s ck_S0) ck_E0)))⟩ (by decide +kernel)
set_option maxRecDepth 100000 in
/-- GlacierMail$ValleyReader.readLine -/
noncomputable def p2_s130 : ck_Sum := (((10 : Nat), (0 : Nat), (0 : Nat)), (245 : Nat), [.inr (.inr (.inl (213 : Nat)))], ([], [], [((214 : Nat), (3 : Int), (3 : Int), ((0 : Int), (400 : Int), [((12 : Nat), (0 : Int))]))]), (zl39, []), zl32)
set_option maxRecDepth 100000 in
theorem p2_s130_s {X : Int → Int} {LX : Nat} : ck_Ok p2_O X LX 103 p2_s130 := ck_okq (cuts := []) (f := 178) ⟨p2_nmu, ck_E1 (ck_S1 p2_s30_s (ck_S1 p2_s31_s (ck_S1 p2_s32_s (ck_S1 p2_s33_s (ck_S1 p2_s34_s (ck_S1 p2_s35_s (ck_S1 p2_s36_s (ck_S1 p2_s37_s (ck_S1 p2_s38_s (ck_S1 p2_s39_s ck_S0)))))))))) (ck_E1 (ck_S1 p2_s28_s ck_S0) (ck_E1 (ck_S1 p2_s47_s ck_S0) (ck_E1 (ck_S1 p2_s69_s ck_S0) (ck_E1 (ck_S1 p2_s82_s ck_S0) (ck_E1 (ck_S1 p2_s93_s ck_S0) (ck_E1 (ck_S1 p2_s95_s ck_S0) (ck_E1 (ck_S1 p2_s97_s ck_S0) (ck_E1 (ck_S1 p2_s102_s ck_S0) (ck_E1 (ck_S1 p2_s120_s ck_S0) (ck_E1 (ck_S1 p2_s127_s ck_S0) (ck_E1 (ck_S1 p2_s129_s ck_S0) ck_E0)))))))))))⟩ (by decide +kernel)
set_option maxRecDepth 100000 in
/-- GlacierMail$Words.needSign -/
noncomputable def p2_s131 : ck_Sum := (((2 : Nat), (0 : Nat), (0 : Nat)), (245 : Nat), [.inr (.inr (.inl (214 : Nat))), .inl (ck_one 59)], ([], [], [((214 : Nat), (3 : Int), (3 : Int), ((0 : Int), (400 : Int), [((12 : Nat), (0 : Int))]))]), ([((214 : Nat), (3 : Int), (7 : Int))], []), [(.inr (some (.inl (ck_one 1))), (245 : Nat), ([], [], [((214 : Nat), (3 : Int), (3 : Int), ((0 : Int), (400 : Int), [((1000012 : Nat), (0 : Int))]))])), (.inr (some (.inl (ck_one 0))), (245 : Nat), ([], [], zl7))])
set_option maxRecDepth 100000 in
theorem p2_s131_s {X : Int → Int} {LX : Nat} : ck_Ok p2_O X LX 98 p2_s131 := ck_okq (cuts := []) (f := 86) ⟨p2_nmu, ck_E1 (ck_S1 p2_s26_s ck_S0) (ck_E1 (ck_S1 p2_s28_s ck_S0) ck_E0)⟩ (by decide +kernel)
set_option maxRecDepth 100000 in
/-- GlacierMail$TextReader.readText -/
noncomputable def p2_s132 : ck_Sum := (((11 : Nat), (0 : Nat), (0 : Nat)), (245 : Nat), [.inr (.inr (.inl (213 : Nat))), .inl ((0 : Int), (400 : Int), [])], ([], [], [((214 : Nat), (3 : Int), (3 : Int), ((0 : Int), (400 : Int), [((12 : Nat), (0 : Int))]))]), (zl40, []), zl2)
set_option maxRecDepth 100000 in
theorem p2_s132_s {X : Int → Int} {LX : Nat} : ck_Ok p2_O X LX 72 p2_s132 := ck_okq (cuts := [((29 : Nat), [some (.inr (.inr (.inl (213 : Nat)))), some (.inl ((0 : Int), (400 : Int), [])), some (.inl ((0 : Int), (23 : Int), []))], ([], [], []), (100 : Nat), .inl (2 : Nat), true)]) (f := 174) ⟨p2_nmu, ck_E1 (ck_S1 p2_s23_s ck_S0) (ck_E1 (ck_S1 p2_s27_s ck_S0) (ck_E1 (ck_S1 p2_s28_s ck_S0) (ck_E1 (ck_S1 p2_s29_s ck_S0) (ck_E1 (ck_S1 p2_s130_s ck_S0) (ck_E1 (ck_S1 p2_s131_s ck_S0) ck_E0)))))⟩ (by decide +kernel)
set_option maxRecDepth 100000 in
/-- GlacierMail$Ice.reckonHeats -/
noncomputable def p2_s133 : ck_Sum := (((0 : Nat), (0 : Nat), (0 : Nat)), (245 : Nat), [.inr (.inr (.inl (200 : Nat)))], ([], [], []), ([((201 : Nat), (0 : Int), (299 : Int))], []), [(.inr none, (245 : Nat), ([], [], []))])
set_option maxRecDepth 100000 in
theorem p2_s133_s {X : Int → Int} {LX : Nat} : ck_Ok p2_O X LX 6 p2_s133 := ck_okq (cuts := [((10 : Nat), [some (.inr (.inr (.inl (200 : Nat)))), some (.inl ((-2147483648 : Int), (2147483647 : Int), [])), some (.inl ((0 : Int), (300 : Int), []))], ([], [], []), (100 : Nat), .inl (2 : Nat), true)]) (f := 182) ⟨p2_nmu, ck_E0⟩ (by decide +kernel)
set_option maxRecDepth 100000 in
/-- java/util/Arrays.fill -/
noncomputable def p2_s134 : ck_Sum := (((0 : Nat), (0 : Nat), (0 : Nat)), (245 : Nat), [.inr (.inr (.inl (202 : Nat))), .inl (ck_one 0)], ([], [], []), ([((202 : Nat), (0 : Int), (593 : Int))], []), [(.inr none, (245 : Nat), ([], [], []))])
set_option maxRecDepth 100000 in
theorem p2_s134_s {X : Int → Int} {LX : Nat} : ck_Ok p2_O X LX 8 p2_s134 := ck_okq (cuts := [((5 : Nat), [some (.inr (.inr (.inl (202 : Nat)))), some (.inl (ck_one 0)), some (.inl ((0 : Int), (594 : Int), [])), some (.inl (ck_one 594))], ([], [], []), (100 : Nat), .inl (2 : Nat), true)]) (f := 130) ⟨p2_nmu, ck_E0⟩ (by decide +kernel)
set_option maxRecDepth 100000 in
/-- GlacierMail$Rows.size -/
noncomputable def p2_s135 : ck_Sum := (((0 : Nat), (0 : Nat), (0 : Nat)), (245 : Nat), [.inr (.inr (.inl (4 : Nat)))], ([], [], []), ([], []), [(.inr (some (.inl ((0 : Int), (8 : Int), []))), (245 : Nat), ([], [], []))])
set_option maxRecDepth 100000 in
theorem p2_s135_s {X : Int → Int} {LX : Nat} : ck_Ok p2_O X LX 9 p2_s135 := ck_okq (cuts := []) (f := 76) ⟨p2_nmu, ck_E0⟩ (by decide +kernel)
set_option maxRecDepth 100000 in
/-- GlacierMail$Rows.get -/
noncomputable def p2_s136 : ck_Sum := (((0 : Nat), (0 : Nat), (0 : Nat)), (245 : Nat), [.inr (.inr (.inl (4 : Nat))), .inl ((-2147483648 : Int), (2147483647 : Int), []), .inl ((-2147483648 : Int), (2147483647 : Int), [])], ([], [], []), ([], []), [(.inr (some (.inl (ck_one (-1)))), (245 : Nat), ([], [], [])), (.inr (some (.inl ((0 : Int), (98 : Int), []))), (245 : Nat), ([], [], [((4 : Nat), (3 : Int), (3 : Int), ((1 : Int), (8 : Int), []))]))])
set_option maxRecDepth 100000 in
theorem p2_s136_s {X : Int → Int} {LX : Nat} : ck_Ok p2_O X LX 10 p2_s136 := ck_okq (cuts := []) (f := 114) ⟨p2_nmu, ck_E0⟩ (by decide +kernel)
set_option maxRecDepth 100000 in
/-- GlacierMail$Ice.reckonSpeeds -/
noncomputable def p2_s137 : ck_Sum := (((1 : Nat), (0 : Nat), (0 : Nat)), (245 : Nat), [.inr (.inr (.inl (200 : Nat)))], ([], [], []), ([((202 : Nat), (0 : Int), (593 : Int))], []), [(.inr none, (245 : Nat), ([], [], []))])
set_option maxRecDepth 100000 in
theorem p2_s137_s {X : Int → Int} {LX : Nat} : ck_Ok p2_O X LX 7 p2_s137 := ck_okq (cuts := [((10 : Nat), [some (.inr (.inr (.inl (200 : Nat)))), some (.inl ((0 : Int), (9 : Int), [])), none, none, none, none], ([], [], []), (100 : Nat), .inl (1 : Nat), true), ((43 : Nat), [some (.inr (.inr (.inl (200 : Nat)))), some (.inl ((0 : Int), (7 : Int), [((100 : Nat), (0 : Int))])), some (.inl ((0 : Int), (98 : Int), [])), some (.inl ((0 : Int), (6 : Int), [])), none, none], ([], [], []), (300 : Nat), .inl (3 : Nat), true), ((79 : Nat), [some (.inr (.inr (.inl (200 : Nat)))), some (.inl ((0 : Int), (7 : Int), [((100 : Nat), (0 : Int))])), some (.inl ((0 : Int), (98 : Int), [])), some (.inl ((0 : Int), (5 : Int), [((300 : Nat), (0 : Int))])), some (.inl ((-1 : Int), (98 : Int), [])), some (.inl ((0 : Int), (99 : Int), []))], ([], [], []), (500 : Nat), .inl (5 : Nat), true)]) (f := 290) ⟨p2_nmu, ck_E1 (ck_S1 p2_s134_s ck_S0) (ck_E1 (ck_S1 p2_s135_s ck_S0) (ck_E1 (ck_S1 p2_s136_s ck_S0) ck_E0))⟩ (by decide +kernel)
set_option maxRecDepth 100000 in
/-- java/util/Arrays.fill -/
noncomputable def p2_s138 : ck_Sum := (((0 : Nat), (0 : Nat), (0 : Nat)), (245 : Nat), [.inr (.inr (.inl (203 : Nat))), .inl (ck_one 0)], ([], [], []), ([((203 : Nat), (0 : Int), (299 : Int))], []), [(.inr none, (245 : Nat), ([], [], []))])
set_option maxRecDepth 100000 in
theorem p2_s138_s {X : Int → Int} {LX : Nat} : ck_Ok p2_O X LX 8 p2_s138 := ck_okq (cuts := [((5 : Nat), [some (.inr (.inr (.inl (203 : Nat)))), some (.inl (ck_one 0)), some (.inl ((0 : Int), (300 : Int), [])), some (.inl (ck_one 300))], ([], [], []), (100 : Nat), .inl (2 : Nat), true)]) (f := 130) ⟨p2_nmu, ck_E0⟩ (by decide +kernel)
set_option maxRecDepth 100000 in
/-- GlacierMail$Rows.size -/
noncomputable def p2_s139 : ck_Sum := (((0 : Nat), (0 : Nat), (0 : Nat)), (245 : Nat), [.inr (.inr (.inl (6 : Nat)))], ([], [], []), ([], []), [(.inr (some (.inl ((0 : Int), (8 : Int), []))), (245 : Nat), ([], [], []))])
set_option maxRecDepth 100000 in
theorem p2_s139_s {X : Int → Int} {LX : Nat} : ck_Ok p2_O X LX 9 p2_s139 := ck_okq (cuts := []) (f := 76) ⟨p2_nmu, ck_E0⟩ (by decide +kernel)
set_option maxRecDepth 100000 in
/-- GlacierMail$Rows.get -/
noncomputable def p2_s140 : ck_Sum := (((0 : Nat), (0 : Nat), (0 : Nat)), (245 : Nat), [.inr (.inr (.inl (6 : Nat))), .inl ((-2147483648 : Int), (2147483647 : Int), []), .inl ((-2147483648 : Int), (2147483647 : Int), [])], ([], [], []), ([], []), [(.inr (some (.inl (ck_one (-1)))), (245 : Nat), ([], [], [])), (.inr (some (.inl ((0 : Int), (299 : Int), []))), (245 : Nat), ([], [], [((6 : Nat), (3 : Int), (3 : Int), ((1 : Int), (8 : Int), []))]))])
set_option maxRecDepth 100000 in
theorem p2_s140_s {X : Int → Int} {LX : Nat} : ck_Ok p2_O X LX 10 p2_s140 := ck_okq (cuts := []) (f := 114) ⟨p2_nmu, ck_E0⟩ (by decide +kernel)
set_option maxRecDepth 100000 in
/-- GlacierMail$Ice.reckonFloods -/
noncomputable def p2_s141 : ck_Sum := (((1 : Nat), (0 : Nat), (0 : Nat)), (245 : Nat), [.inr (.inr (.inl (200 : Nat)))], ([], [], []), ([((203 : Nat), (0 : Int), (299 : Int))], []), [(.inr none, (245 : Nat), ([], [], []))])
set_option maxRecDepth 100000 in
theorem p2_s141_s {X : Int → Int} {LX : Nat} : ck_Ok p2_O X LX 12 p2_s141 := ck_okq (cuts := [((10 : Nat), [some (.inr (.inr (.inl (200 : Nat)))), some (.inl ((0 : Int), (9 : Int), [])), none], ([], [], []), (100 : Nat), .inl (1 : Nat), true)]) (f := 214) ⟨p2_nmu, ck_E1 (ck_S1 p2_s138_s ck_S0) (ck_E1 (ck_S1 p2_s139_s ck_S0) (ck_E1 (ck_S1 p2_s140_s ck_S0) ck_E0))⟩ (by decide +kernel)
set_option maxRecDepth 100000 in
/-- GlacierMail$Ice.renew -/
noncomputable def p2_s142 : ck_Sum := (((2 : Nat), (0 : Nat), (0 : Nat)), (245 : Nat), [.inr (.inr (.inl (200 : Nat)))], ([], [], []), (zl41, []), [(.inr none, (245 : Nat), ([], [], [((200 : Nat), (6 : Int), (6 : Int), ck_one 1)]))])
set_option maxRecDepth 100000 in
theorem p2_s142_s {X : Int → Int} {LX : Nat} : ck_Ok p2_O X LX 5 p2_s142 := ck_okq (cuts := []) (f := 90) ⟨p2_nmu, ck_E1 (ck_S1 p2_s133_s ck_S0) (ck_E1 (ck_S1 p2_s137_s ck_S0) (ck_E1 (ck_S1 p2_s141_s ck_S0) ck_E0))⟩ (by decide +kernel)
set_option maxRecDepth 100000 in
/-- GlacierMail$History.forget -/
noncomputable def p2_s143 : ck_Sum := (((0 : Nat), (0 : Nat), (0 : Nat)), (245 : Nat), [.inr (.inr (.inl (42 : Nat)))], ([], [], []), ([((42 : Nat), (2 : Int), (2 : Int))], []), [(.inr none, (245 : Nat), ([], [], [((42 : Nat), (2 : Int), (2 : Int), ck_one 0)]))])
set_option maxRecDepth 100000 in
theorem p2_s143_s {X : Int → Int} {LX : Nat} : ck_Ok p2_O X LX 62 p2_s143 := ck_okq (cuts := []) (f := 78) ⟨p2_nmu, ck_E0⟩ (by decide +kernel)
set_option maxRecDepth 100000 in
/-- GlacierMail.forgetWays -/
noncomputable def p2_s144 : ck_Sum := (((3 : Nat), (0 : Nat), (0 : Nat)), (245 : Nat), [.inr (.inr (.inl (1 : Nat)))], ([], [], []), (zl42, []), [(.inr none, (245 : Nat), ([], [], zl43))])
set_option maxRecDepth 100000 in
theorem p2_s144_s {X : Int → Int} {LX : Nat} : ck_Ok p2_O X LX 61 p2_s144 := ck_okq (cuts := []) (f := 90) ⟨p2_nmu, ck_E1 (ck_S1 p2_s142_s ck_S0) (ck_E1 (ck_S1 p2_s143_s ck_S0) ck_E0)⟩ (by decide +kernel)
set_option maxRecDepth 100000 in
/-- GlacierMail.valley -/
noncomputable def p2_s145 : ck_Sum := (((12 : Nat), (1 : Nat), (6 : Nat)), (245 : Nat), [.inr (.inr (.inl (1 : Nat)))], ([], [((3 : Nat), (8 : Int), (0 : Nat)), ((16 : Nat), (8 : Int), (100016 : Nat))], zl44), (zl45, [((3 : Nat), (8 : Int)), ((16 : Nat), (8 : Int))]), [(.inr (some (.inl ((-2147483648 : Int), (-1 : Int), []))), (245 : Nat), ([], [((3 : Nat), (8 : Int), (0 : Nat)), ((16 : Nat), (8 : Int), (0 : Nat))], zl46)), (.inr (some (.inl ((0 : Int), (2147483647 : Int), []))), (245 : Nat), ([], [((3 : Nat), (8 : Int), (0 : Nat)), ((16 : Nat), (8 : Int), (0 : Nat))], zl47)), (.inl (1 : Nat), (245 : Nat), ([], [((3 : Nat), (8 : Int), (0 : Nat)), ((16 : Nat), (8 : Int), (0 : Nat))], zl48)), (.inl (0 : Nat), (245 : Nat), ([], [((3 : Nat), (8 : Int), (0 : Nat)), ((16 : Nat), (8 : Int), (0 : Nat))], zl49))])
set_option maxRecDepth 100000 in
theorem p2_s145_s {X : Int → Int} {LX : Nat} : ck_Ok p2_O X LX 71 p2_s145 := ck_okq (cuts := []) (f := 154) ⟨p2_nmu, ck_E1 (ck_S1 p2_s15_s (ck_S1 p2_s22_s ck_S0)) (ck_E1 (ck_S1 p2_s132_s ck_S0) (ck_E1 (ck_S1 p2_s144_s ck_S0) ck_E0))⟩ (by decide +kernel)
set_option maxRecDepth 100000 in
/-- GlacierMailModel.uses -/
noncomputable def p2_s146 : ck_Sum := (((0 : Nat), (0 : Nat), (0 : Nat)), (245 : Nat), [.inr (.inr (.inl (226 : Nat)))], ([], [], [((226 : Nat), (8 : Int), (8 : Int), ((0 : Int), (400 : Int), [((7 : Nat), (0 : Int))]))]), ([((226 : Nat), (0 : Int), (0 : Int)), ((226 : Nat), (8 : Int), (10 : Int))], []), [(.inr none, (245 : Nat), ([], [], [((226 : Nat), (9 : Int), (9 : Int), ck_one 0), ((226 : Nat), (8 : Int), (8 : Int), ck_one 0), ((226 : Nat), (10 : Int), (10 : Int), ((0 : Int), (400 : Int), [((7 : Nat), (0 : Int))])), ((226 : Nat), (0 : Int), (0 : Int), ck_one 0)]))])
set_option maxRecDepth 100000 in
theorem p2_s146_s {X : Int → Int} {LX : Nat} : ck_Ok p2_O X LX 244 p2_s146 := ck_okq (cuts := []) (f := 98) ⟨p2_nmu, ck_E0⟩ (by decide +kernel)
set_option maxRecDepth 100000 in
/-- GlacierMailModel.isAt -/
noncomputable def p2_s147 : ck_Sum := (((0 : Nat), (0 : Nat), (0 : Nat)), (245 : Nat), [.inr (.inr (.inl (226 : Nat))), .inl (ck_one 32), .inl (ck_one 32)], ([], [], [((226 : Nat), (9 : Int), (9 : Int), ((0 : Int), (400 : Int), [((1 : Nat), (0 : Int))]))]), ([], []), zl50)
set_option maxRecDepth 100000 in
theorem p2_s147_s {X : Int → Int} {LX : Nat} : ck_Ok p2_O X LX 246 p2_s147 := ck_okq (cuts := []) (f := 114) ⟨p2_nmu, ck_E0⟩ (by decide +kernel)
set_option maxRecDepth 100000 in
/-- GlacierMailModel.blanks -/
noncomputable def p2_s148 : ck_Sum := (((1 : Nat), (0 : Nat), (0 : Nat)), (245 : Nat), [.inr (.inr (.inl (226 : Nat)))], ([], [], [((226 : Nat), (9 : Int), (9 : Int), ((0 : Int), (400 : Int), [((1 : Nat), (0 : Int))]))]), ([((226 : Nat), (9 : Int), (9 : Int)), ((226 : Nat), (11 : Int), (11 : Int))], []), [(.inr none, (245 : Nat), ([], [], [((226 : Nat), (11 : Int), (11 : Int), ((0 : Int), (400 : Int), [((1000001 : Nat), (0 : Int))])), ((226 : Nat), (9 : Int), (9 : Int), ((0 : Int), (400 : Int), [((1000001 : Nat), (0 : Int))]))]))])
set_option maxRecDepth 100000 in
theorem p2_s148_s {X : Int → Int} {LX : Nat} : ck_Ok p2_O X LX 245 p2_s148 := ck_okq (cuts := [((0 : Nat), [some (.inr (.inr (.inl (226 : Nat))))], ([], [], [((226 : Nat), (9 : Int), (9 : Int), ((0 : Int), (400 : Int), [((1000001 : Nat), (0 : Int))]))]), (100 : Nat), .inr ((226 : Nat), (9 : Int)), true)]) (f := 142) ⟨p2_nmu, ck_E1 (ck_S1 p2_s147_s ck_S0) ck_E0⟩ (by decide +kernel)
set_option maxRecDepth 100000 in
/-- GlacierMailModel.isAt -/
noncomputable def p2_s149 : ck_Sum := (((0 : Nat), (0 : Nat), (0 : Nat)), (245 : Nat), [.inr (.inr (.inl (226 : Nat))), .inl (ck_one 97), .inl (ck_one 122)], ([], [], [((226 : Nat), (9 : Int), (9 : Int), ((0 : Int), (400 : Int), [((1 : Nat), (0 : Int))]))]), ([], []), zl50)
set_option maxRecDepth 100000 in
theorem p2_s149_s {X : Int → Int} {LX : Nat} : ck_Ok p2_O X LX 246 p2_s149 := ck_okq (cuts := []) (f := 114) ⟨p2_nmu, ck_E0⟩ (by decide +kernel)
set_option maxRecDepth 100000 in
/-- GlacierMailModel.letterRow -/
noncomputable def p2_s150 : ck_Sum := (((2 : Nat), (0 : Nat), (0 : Nat)), (245 : Nat), [.inr (.inr (.inl (226 : Nat)))], ([], [], [((226 : Nat), (9 : Int), (9 : Int), ((0 : Int), (400 : Int), [((1 : Nat), (0 : Int))]))]), ([((226 : Nat), (9 : Int), (9 : Int)), ((226 : Nat), (11 : Int), (11 : Int))], []), [(.inr none, (245 : Nat), ([], [], zl51))])
set_option maxRecDepth 100000 in
theorem p2_s150_s {X : Int → Int} {LX : Nat} : ck_Ok p2_O X LX 248 p2_s150 := ck_okq (cuts := [((4 : Nat), [some (.inr (.inr (.inl (226 : Nat))))], ([], [], [((226 : Nat), (11 : Int), (11 : Int), ((0 : Int), (400 : Int), [((1000001 : Nat), (0 : Int))])), ((226 : Nat), (9 : Int), (9 : Int), ((0 : Int), (400 : Int), [((1000001 : Nat), (0 : Int))]))]), (100 : Nat), .inr ((226 : Nat), (9 : Int)), true)]) (f := 142) ⟨p2_nmu, ck_E1 (ck_S1 p2_s148_s ck_S0) (ck_E1 (ck_S1 p2_s149_s ck_S0) ck_E0)⟩ (by decide +kernel)
set_option maxRecDepth 100000 in
/-- GlacierMailModel.isWord -/
noncomputable def p2_s151 : ck_Sum := (((6 : Nat), (0 : Nat), (0 : Nat)), (245 : Nat), [.inr (.inr (.inl (226 : Nat))), .inr (.inr (.inr (47 : Nat)))], ([], [], [((226 : Nat), (9 : Int), (9 : Int), ((0 : Int), (400 : Int), [((1 : Nat), (0 : Int))]))]), ([], []), zl52)
set_option maxRecDepth 100000 in
theorem p2_s151_s {X : Int → Int} {LX : Nat} : ck_Ok p2_O X LX 250 p2_s151 := ck_okq (cuts := []) (f := 332) ⟨p2_nmu, ck_E0⟩ (by decide +kernel)
set_option maxRecDepth 100000 in
/-- GlacierMailModel.isWord -/
noncomputable def p2_s152 : ck_Sum := (((6 : Nat), (0 : Nat), (0 : Nat)), (245 : Nat), [.inr (.inr (.inl (226 : Nat))), .inr (.inr (.inr (48 : Nat)))], ([], [], [((226 : Nat), (9 : Int), (9 : Int), ((0 : Int), (400 : Int), [((1 : Nat), (0 : Int))]))]), ([], []), zl53)
set_option maxRecDepth 100000 in
theorem p2_s152_s {X : Int → Int} {LX : Nat} : ck_Ok p2_O X LX 250 p2_s152 := ck_okq (cuts := []) (f := 288) ⟨p2_nmu, ck_E0⟩ (by decide +kernel)
set_option maxRecDepth 100000 in
/-- GlacierMailModel.isWord -/
noncomputable def p2_s153 : ck_Sum := (((6 : Nat), (0 : Nat), (0 : Nat)), (245 : Nat), [.inr (.inr (.inl (226 : Nat))), .inr (.inr (.inr (49 : Nat)))], ([], [], [((226 : Nat), (9 : Int), (9 : Int), ((0 : Int), (400 : Int), [((1 : Nat), (0 : Int))]))]), ([], []), [(.inr (some (.inl (ck_one 0))), (245 : Nat), ([], [], [])), (.inr (some (.inl (ck_one 1))), (245 : Nat), ([], [], [((226 : Nat), (9 : Int), (9 : Int), ((7 : Int), (400 : Int), [((1 : Nat), (0 : Int))])), ((226 : Nat), (11 : Int), (11 : Int), ((0 : Int), (393 : Int), []))]))])
set_option maxRecDepth 100000 in
theorem p2_s153_s {X : Int → Int} {LX : Nat} : ck_Ok p2_O X LX 250 p2_s153 := ck_okq (cuts := []) (f := 420) ⟨p2_nmu, ck_E0⟩ (by decide +kernel)
set_option maxRecDepth 100000 in
/-- GlacierMailModel.isWord -/
noncomputable def p2_s154 : ck_Sum := (((6 : Nat), (0 : Nat), (0 : Nat)), (245 : Nat), [.inr (.inr (.inl (226 : Nat))), .inr (.inr (.inr (50 : Nat)))], ([], [], [((226 : Nat), (9 : Int), (9 : Int), ((0 : Int), (400 : Int), [((1 : Nat), (0 : Int))]))]), ([], []), zl53)
set_option maxRecDepth 100000 in
theorem p2_s154_s {X : Int → Int} {LX : Nat} : ck_Ok p2_O X LX 250 p2_s154 := ck_okq (cuts := []) (f := 288) ⟨p2_nmu, ck_E0⟩ (by decide +kernel)
set_option maxRecDepth 100000 in
/-- GlacierMailModel.isWord -/
noncomputable def p2_s155 : ck_Sum := (((6 : Nat), (0 : Nat), (0 : Nat)), (245 : Nat), [.inr (.inr (.inl (226 : Nat))), .inr (.inr (.inr (52 : Nat)))], ([], [], [((226 : Nat), (9 : Int), (9 : Int), ((0 : Int), (400 : Int), [((1 : Nat), (0 : Int))]))]), ([], []), zl52)
set_option maxRecDepth 100000 in
theorem p2_s155_s {X : Int → Int} {LX : Nat} : ck_Ok p2_O X LX 250 p2_s155 := ck_okq (cuts := []) (f := 332) ⟨p2_nmu, ck_E0⟩ (by decide +kernel)
set_option maxRecDepth 100000 in
/-- GlacierMailModel.isWord -/
noncomputable def p2_s156 : ck_Sum := (((6 : Nat), (0 : Nat), (0 : Nat)), (245 : Nat), [.inr (.inr (.inl (226 : Nat))), .inr (.inr (.inr (53 : Nat)))], ([], [], [((226 : Nat), (9 : Int), (9 : Int), ((0 : Int), (400 : Int), [((1 : Nat), (0 : Int))]))]), ([], []), zl54)
set_option maxRecDepth 100000 in
theorem p2_s156_s {X : Int → Int} {LX : Nat} : ck_Ok p2_O X LX 250 p2_s156 := ck_okq (cuts := []) (f := 376) ⟨p2_nmu, ck_E0⟩ (by decide +kernel)
set_option maxRecDepth 100000 in
/-- GlacierMailModel.isWord -/
noncomputable def p2_s157 : ck_Sum := (((6 : Nat), (0 : Nat), (0 : Nat)), (245 : Nat), [.inr (.inr (.inl (226 : Nat))), .inr (.inr (.inr (55 : Nat)))], ([], [], [((226 : Nat), (9 : Int), (9 : Int), ((0 : Int), (400 : Int), [((1 : Nat), (0 : Int))]))]), ([], []), zl53)
set_option maxRecDepth 100000 in
theorem p2_s157_s {X : Int → Int} {LX : Nat} : ck_Ok p2_O X LX 250 p2_s157 := ck_okq (cuts := []) (f := 288) ⟨p2_nmu, ck_E0⟩ (by decide +kernel)
set_option maxRecDepth 100000 in
/-- GlacierMailModel.isWord -/
noncomputable def p2_s158 : ck_Sum := (((6 : Nat), (0 : Nat), (0 : Nat)), (245 : Nat), [.inr (.inr (.inl (226 : Nat))), .inr (.inr (.inr (56 : Nat)))], ([], [], [((226 : Nat), (9 : Int), (9 : Int), ((0 : Int), (400 : Int), [((1 : Nat), (0 : Int))]))]), ([], []), zl52)
set_option maxRecDepth 100000 in
theorem p2_s158_s {X : Int → Int} {LX : Nat} : ck_Ok p2_O X LX 250 p2_s158 := ck_okq (cuts := []) (f := 332) ⟨p2_nmu, ck_E0⟩ (by decide +kernel)
set_option maxRecDepth 100000 in
/-- GlacierMailModel.isWord -/
noncomputable def p2_s159 : ck_Sum := (((6 : Nat), (0 : Nat), (0 : Nat)), (245 : Nat), [.inr (.inr (.inl (226 : Nat))), .inr (.inr (.inr (57 : Nat)))], ([], [], [((226 : Nat), (9 : Int), (9 : Int), ((0 : Int), (400 : Int), [((1 : Nat), (0 : Int))]))]), ([], []), zl54)
set_option maxRecDepth 100000 in
theorem p2_s159_s {X : Int → Int} {LX : Nat} : ck_Ok p2_O X LX 250 p2_s159 := ck_okq (cuts := []) (f := 376) ⟨p2_nmu, ck_E0⟩ (by decide +kernel)
set_option maxRecDepth 100000 in
/-- GlacierMailModel.isWord -/
noncomputable def p2_s160 : ck_Sum := (((6 : Nat), (0 : Nat), (0 : Nat)), (245 : Nat), [.inr (.inr (.inl (226 : Nat))), .inr (.inr (.inr (58 : Nat)))], ([], [], [((226 : Nat), (9 : Int), (9 : Int), ((0 : Int), (400 : Int), [((1 : Nat), (0 : Int))]))]), ([], []), zl53)
set_option maxRecDepth 100000 in
theorem p2_s160_s {X : Int → Int} {LX : Nat} : ck_Ok p2_O X LX 250 p2_s160 := ck_okq (cuts := []) (f := 288) ⟨p2_nmu, ck_E0⟩ (by decide +kernel)
set_option maxRecDepth 100000 in
/-- GlacierMailModel.isAt -/
noncomputable def p2_s161 : ck_Sum := (((0 : Nat), (0 : Nat), (0 : Nat)), (245 : Nat), [.inr (.inr (.inl (226 : Nat))), .inl (ck_one 48), .inl (ck_one 57)], ([], [], [((226 : Nat), (9 : Int), (9 : Int), ((0 : Int), (400 : Int), [((1 : Nat), (0 : Int))]))]), ([], []), zl50)
set_option maxRecDepth 100000 in
theorem p2_s161_s {X : Int → Int} {LX : Nat} : ck_Ok p2_O X LX 246 p2_s161 := ck_okq (cuts := []) (f := 114) ⟨p2_nmu, ck_E0⟩ (by decide +kernel)
set_option maxRecDepth 100000 in
/-- GlacierMailModel.figures -/
noncomputable def p2_s162 : ck_Sum := (((2 : Nat), (0 : Nat), (0 : Nat)), (245 : Nat), [.inr (.inr (.inl (226 : Nat))), .inl (ck_one 0), .inl (ck_one 9999), .inl (ck_one 4)], ([], [], [((226 : Nat), (9 : Int), (9 : Int), ((0 : Int), (400 : Int), [((1 : Nat), (0 : Int))]))]), ([((226 : Nat), (9 : Int), (9 : Int)), ((226 : Nat), (11 : Int), (11 : Int))], []), zl55)
set_option maxRecDepth 100000 in
theorem p2_s162_s {X : Int → Int} {LX : Nat} : ck_Ok p2_O X LX 256 p2_s162 := ck_okq (cuts := [((7 : Nat), [some (.inr (.inr (.inl (226 : Nat)))), some (.inl (ck_one 0)), some (.inl (ck_one 9999)), some (.inl (ck_one 4)), some (.inl ((-2147483648 : Int), (2147483647 : Int), []))], ([], [], [((226 : Nat), (11 : Int), (11 : Int), ((0 : Int), (400 : Int), [((1000001 : Nat), (0 : Int))])), ((226 : Nat), (9 : Int), (9 : Int), ((0 : Int), (400 : Int), [((1000001 : Nat), (0 : Int))]))]), (100 : Nat), .inr ((226 : Nat), (9 : Int)), true)]) (f := 222) ⟨p2_nmu, ck_E1 (ck_S1 p2_s148_s ck_S0) (ck_E1 (ck_S1 p2_s161_s ck_S0) ck_E0)⟩ (by decide +kernel)
set_option maxRecDepth 100000 in
/-- GlacierMailModel.number -/
noncomputable def p2_s163 : ck_Sum := (((3 : Nat), (0 : Nat), (0 : Nat)), (245 : Nat), [.inr (.inr (.inl (226 : Nat))), .inl (ck_one 0), .inl (ck_one 9999)], ([], [], [((226 : Nat), (9 : Int), (9 : Int), ((0 : Int), (400 : Int), [((1 : Nat), (0 : Int))]))]), ([((226 : Nat), (9 : Int), (9 : Int)), ((226 : Nat), (11 : Int), (11 : Int))], []), zl55)
set_option maxRecDepth 100000 in
theorem p2_s163_s {X : Int → Int} {LX : Nat} : ck_Ok p2_O X LX 255 p2_s163 := ck_okq (cuts := []) (f := 82) ⟨p2_nmu, ck_E1 (ck_S1 p2_s162_s ck_S0) ck_E0⟩ (by decide +kernel)
set_option maxRecDepth 100000 in
/-- GlacierMailModel.figures -/
noncomputable def p2_s164 : ck_Sum := (((2 : Nat), (0 : Nat), (0 : Nat)), (245 : Nat), [.inr (.inr (.inl (226 : Nat))), .inl (ck_one 0), .inl ((0 : Int), (6 : Int), []), .inl (ck_one 4)], ([], [], [((226 : Nat), (9 : Int), (9 : Int), ((0 : Int), (400 : Int), [((1 : Nat), (0 : Int))]))]), ([((226 : Nat), (9 : Int), (9 : Int)), ((226 : Nat), (11 : Int), (11 : Int))], []), zl56)
set_option maxRecDepth 100000 in
theorem p2_s164_s {X : Int → Int} {LX : Nat} : ck_Ok p2_O X LX 256 p2_s164 := ck_okq (cuts := [((7 : Nat), [some (.inr (.inr (.inl (226 : Nat)))), some (.inl (ck_one 0)), some (.inl ((0 : Int), (6 : Int), [])), some (.inl (ck_one 4)), some (.inl ((-2147483648 : Int), (2147483647 : Int), []))], ([], [], [((226 : Nat), (11 : Int), (11 : Int), ((0 : Int), (400 : Int), [((1000001 : Nat), (0 : Int))])), ((226 : Nat), (9 : Int), (9 : Int), ((0 : Int), (400 : Int), [((1000001 : Nat), (0 : Int))]))]), (100 : Nat), .inr ((226 : Nat), (9 : Int)), true)]) (f := 222) ⟨p2_nmu, ck_E1 (ck_S1 p2_s148_s ck_S0) (ck_E1 (ck_S1 p2_s161_s ck_S0) ck_E0)⟩ (by decide +kernel)
set_option maxRecDepth 100000 in
/-- GlacierMailModel.number -/
noncomputable def p2_s165 : ck_Sum := (((3 : Nat), (0 : Nat), (0 : Nat)), (245 : Nat), [.inr (.inr (.inl (226 : Nat))), .inl (ck_one 0), .inl ((0 : Int), (6 : Int), [])], ([], [], [((226 : Nat), (9 : Int), (9 : Int), ((0 : Int), (400 : Int), [((1 : Nat), (0 : Int))]))]), ([((226 : Nat), (9 : Int), (9 : Int)), ((226 : Nat), (11 : Int), (11 : Int))], []), zl56)
set_option maxRecDepth 100000 in
theorem p2_s165_s {X : Int → Int} {LX : Nat} : ck_Ok p2_O X LX 255 p2_s165 := ck_okq (cuts := []) (f := 82) ⟨p2_nmu, ck_E1 (ck_S1 p2_s164_s ck_S0) ck_E0⟩ (by decide +kernel)
set_option maxRecDepth 100000 in
/-- GlacierMailModel.lanes -/
noncomputable def p2_s166 : ck_Sum := (((0 : Nat), (0 : Nat), (0 : Nat)), (245 : Nat), [.inr (.inr (.inl (226 : Nat)))], ([], [], []), ([], []), [(.inr (some (.inl ((0 : Int), (6 : Int), []))), (245 : Nat), ([], [], []))])
set_option maxRecDepth 100000 in
theorem p2_s166_s {X : Int → Int} {LX : Nat} : ck_Ok p2_O X LX 261 p2_s166 := ck_okq (cuts := []) (f := 80) ⟨p2_nmu, ck_E0⟩ (by decide +kernel)
set_option maxRecDepth 100000 in
/-- GlacierMailModel.figures -/
noncomputable def p2_s167 : ck_Sum := (((2 : Nat), (0 : Nat), (0 : Nat)), (245 : Nat), [.inr (.inr (.inl (226 : Nat))), .inl (ck_one 0), .inl (ck_one 20), .inl (ck_one 4)], ([], [], [((226 : Nat), (9 : Int), (9 : Int), ((0 : Int), (400 : Int), [((1 : Nat), (0 : Int))]))]), ([((226 : Nat), (9 : Int), (9 : Int)), ((226 : Nat), (11 : Int), (11 : Int))], []), zl57)
set_option maxRecDepth 100000 in
theorem p2_s167_s {X : Int → Int} {LX : Nat} : ck_Ok p2_O X LX 256 p2_s167 := ck_okq (cuts := [((7 : Nat), [some (.inr (.inr (.inl (226 : Nat)))), some (.inl (ck_one 0)), some (.inl (ck_one 20)), some (.inl (ck_one 4)), some (.inl ((-2147483648 : Int), (2147483647 : Int), []))], ([], [], [((226 : Nat), (11 : Int), (11 : Int), ((0 : Int), (400 : Int), [((1000001 : Nat), (0 : Int))])), ((226 : Nat), (9 : Int), (9 : Int), ((0 : Int), (400 : Int), [((1000001 : Nat), (0 : Int))]))]), (100 : Nat), .inr ((226 : Nat), (9 : Int)), true)]) (f := 222) ⟨p2_nmu, ck_E1 (ck_S1 p2_s148_s ck_S0) (ck_E1 (ck_S1 p2_s161_s ck_S0) ck_E0)⟩ (by decide +kernel)
set_option maxRecDepth 100000 in
/-- GlacierMailModel.number -/
noncomputable def p2_s168 : ck_Sum := (((3 : Nat), (0 : Nat), (0 : Nat)), (245 : Nat), [.inr (.inr (.inl (226 : Nat))), .inl (ck_one 0), .inl (ck_one 20)], ([], [], [((226 : Nat), (9 : Int), (9 : Int), ((0 : Int), (400 : Int), [((1 : Nat), (0 : Int))]))]), ([((226 : Nat), (9 : Int), (9 : Int)), ((226 : Nat), (11 : Int), (11 : Int))], []), zl57)
set_option maxRecDepth 100000 in
theorem p2_s168_s {X : Int → Int} {LX : Nat} : ck_Ok p2_O X LX 255 p2_s168 := ck_okq (cuts := []) (f := 82) ⟨p2_nmu, ck_E1 (ck_S1 p2_s167_s ck_S0) ck_E0⟩ (by decide +kernel)
set_option maxRecDepth 100000 in
/-- GlacierMailModel.readSpeeds -/
noncomputable def p2_s169 : ck_Sum := (((4 : Nat), (0 : Nat), (0 : Nat)), (245 : Nat), [.inr (.inr (.inl (226 : Nat))), .inl (ck_one 287)], ([], [], [((226 : Nat), (9 : Int), (9 : Int), ((0 : Int), (400 : Int), [((1 : Nat), (0 : Int))]))]), ([((226 : Nat), (9 : Int), (9 : Int)), ((226 : Nat), (11 : Int), (11 : Int)), ((227 : Nat), (287 : Int), (292 : Int))], []), zl58)
set_option maxRecDepth 100000 in
theorem p2_s169_s {X : Int → Int} {LX : Nat} : ck_Ok p2_O X LX 260 p2_s169 := ck_okq (cuts := [((2 : Nat), [some (.inr (.inr (.inl (226 : Nat)))), some (.inl (ck_one 287)), some (.inl ((0 : Int), (6 : Int), [])), none], ([], [], [((226 : Nat), (9 : Int), (9 : Int), ((0 : Int), (400 : Int), [((1000001 : Nat), (0 : Int))]))]), (100 : Nat), .inl (2 : Nat), true)]) (f := 174) ⟨p2_nmu, ck_E1 (ck_S1 p2_s166_s ck_S0) (ck_E1 (ck_S1 p2_s168_s ck_S0) ck_E0)⟩ (by decide +kernel)
set_option maxRecDepth 100000 in
/-- GlacierMailModel.readSpeeds -/
noncomputable def p2_s170 : ck_Sum := (((4 : Nat), (0 : Nat), (0 : Nat)), (245 : Nat), [.inr (.inr (.inl (226 : Nat))), .inl (ck_one 317)], ([], [], [((226 : Nat), (9 : Int), (9 : Int), ((0 : Int), (400 : Int), [((1 : Nat), (0 : Int))]))]), ([((226 : Nat), (9 : Int), (9 : Int)), ((226 : Nat), (11 : Int), (11 : Int)), ((227 : Nat), (317 : Int), (322 : Int))], []), zl58)
set_option maxRecDepth 100000 in
theorem p2_s170_s {X : Int → Int} {LX : Nat} : ck_Ok p2_O X LX 260 p2_s170 := ck_okq (cuts := [((2 : Nat), [some (.inr (.inr (.inl (226 : Nat)))), some (.inl (ck_one 317)), some (.inl ((0 : Int), (6 : Int), [])), none], ([], [], [((226 : Nat), (9 : Int), (9 : Int), ((0 : Int), (400 : Int), [((1000001 : Nat), (0 : Int))]))]), (100 : Nat), .inl (2 : Nat), true)]) (f := 174) ⟨p2_nmu, ck_E1 (ck_S1 p2_s166_s ck_S0) (ck_E1 (ck_S1 p2_s168_s ck_S0) ck_E0)⟩ (by decide +kernel)
set_option maxRecDepth 100000 in
/-- GlacierMailModel.readSpeeds -/
noncomputable def p2_s171 : ck_Sum := (((4 : Nat), (0 : Nat), (0 : Nat)), (245 : Nat), [.inr (.inr (.inl (226 : Nat))), .inl (ck_one 311)], ([], [], [((226 : Nat), (9 : Int), (9 : Int), ((0 : Int), (400 : Int), [((1 : Nat), (0 : Int))]))]), ([((226 : Nat), (9 : Int), (9 : Int)), ((226 : Nat), (11 : Int), (11 : Int)), ((227 : Nat), (311 : Int), (316 : Int))], []), zl58)
set_option maxRecDepth 100000 in
theorem p2_s171_s {X : Int → Int} {LX : Nat} : ck_Ok p2_O X LX 260 p2_s171 := ck_okq (cuts := [((2 : Nat), [some (.inr (.inr (.inl (226 : Nat)))), some (.inl (ck_one 311)), some (.inl ((0 : Int), (6 : Int), [])), none], ([], [], [((226 : Nat), (9 : Int), (9 : Int), ((0 : Int), (400 : Int), [((1000001 : Nat), (0 : Int))]))]), (100 : Nat), .inl (2 : Nat), true)]) (f := 174) ⟨p2_nmu, ck_E1 (ck_S1 p2_s166_s ck_S0) (ck_E1 (ck_S1 p2_s168_s ck_S0) ck_E0)⟩ (by decide +kernel)
set_option maxRecDepth 100000 in
/-- GlacierMailModel.readSpeeds -/
noncomputable def p2_s172 : ck_Sum := (((4 : Nat), (0 : Nat), (0 : Nat)), (245 : Nat), [.inr (.inr (.inl (226 : Nat))), .inl (ck_one 305)], ([], [], [((226 : Nat), (9 : Int), (9 : Int), ((0 : Int), (400 : Int), [((1 : Nat), (0 : Int))]))]), ([((226 : Nat), (9 : Int), (9 : Int)), ((226 : Nat), (11 : Int), (11 : Int)), ((227 : Nat), (305 : Int), (310 : Int))], []), zl58)
set_option maxRecDepth 100000 in
theorem p2_s172_s {X : Int → Int} {LX : Nat} : ck_Ok p2_O X LX 260 p2_s172 := ck_okq (cuts := [((2 : Nat), [some (.inr (.inr (.inl (226 : Nat)))), some (.inl (ck_one 305)), some (.inl ((0 : Int), (6 : Int), [])), none], ([], [], [((226 : Nat), (9 : Int), (9 : Int), ((0 : Int), (400 : Int), [((1000001 : Nat), (0 : Int))]))]), (100 : Nat), .inl (2 : Nat), true)]) (f := 174) ⟨p2_nmu, ck_E1 (ck_S1 p2_s166_s ck_S0) (ck_E1 (ck_S1 p2_s168_s ck_S0) ck_E0)⟩ (by decide +kernel)
set_option maxRecDepth 100000 in
/-- GlacierMailModel.readSpeeds -/
noncomputable def p2_s173 : ck_Sum := (((4 : Nat), (0 : Nat), (0 : Nat)), (245 : Nat), [.inr (.inr (.inl (226 : Nat))), .inl (ck_one 299)], ([], [], [((226 : Nat), (9 : Int), (9 : Int), ((0 : Int), (400 : Int), [((1 : Nat), (0 : Int))]))]), ([((226 : Nat), (9 : Int), (9 : Int)), ((226 : Nat), (11 : Int), (11 : Int)), ((227 : Nat), (299 : Int), (304 : Int))], []), zl58)
set_option maxRecDepth 100000 in
theorem p2_s173_s {X : Int → Int} {LX : Nat} : ck_Ok p2_O X LX 260 p2_s173 := ck_okq (cuts := [((2 : Nat), [some (.inr (.inr (.inl (226 : Nat)))), some (.inl (ck_one 299)), some (.inl ((0 : Int), (6 : Int), [])), none], ([], [], [((226 : Nat), (9 : Int), (9 : Int), ((0 : Int), (400 : Int), [((1000001 : Nat), (0 : Int))]))]), (100 : Nat), .inl (2 : Nat), true)]) (f := 174) ⟨p2_nmu, ck_E1 (ck_S1 p2_s166_s ck_S0) (ck_E1 (ck_S1 p2_s168_s ck_S0) ck_E0)⟩ (by decide +kernel)
set_option maxRecDepth 100000 in
/-- GlacierMailModel.readSpeeds -/
noncomputable def p2_s174 : ck_Sum := (((4 : Nat), (0 : Nat), (0 : Nat)), (245 : Nat), [.inr (.inr (.inl (226 : Nat))), .inl (ck_one 293)], ([], [], [((226 : Nat), (9 : Int), (9 : Int), ((0 : Int), (400 : Int), [((1 : Nat), (0 : Int))]))]), ([((226 : Nat), (9 : Int), (9 : Int)), ((226 : Nat), (11 : Int), (11 : Int)), ((227 : Nat), (293 : Int), (298 : Int))], []), zl58)
set_option maxRecDepth 100000 in
theorem p2_s174_s {X : Int → Int} {LX : Nat} : ck_Ok p2_O X LX 260 p2_s174 := ck_okq (cuts := [((2 : Nat), [some (.inr (.inr (.inl (226 : Nat)))), some (.inl (ck_one 293)), some (.inl ((0 : Int), (6 : Int), [])), none], ([], [], [((226 : Nat), (9 : Int), (9 : Int), ((0 : Int), (400 : Int), [((1000001 : Nat), (0 : Int))]))]), (100 : Nat), .inl (2 : Nat), true)]) (f := 174) ⟨p2_nmu, ck_E1 (ck_S1 p2_s166_s ck_S0) (ck_E1 (ck_S1 p2_s168_s ck_S0) ck_E0)⟩ (by decide +kernel)
set_option maxRecDepth 100000 in
/-- GlacierMailModel.readTable -/
noncomputable def p2_s175 : ck_Sum := (((5 : Nat), (0 : Nat), (0 : Nat)), (245 : Nat), [.inr (.inr (.inl (226 : Nat)))], ([], [], [((227 : Nat), (6 : Int), (6 : Int), ((0 : Int), (6 : Int), [((24 : Nat), (0 : Int))])), ((226 : Nat), (9 : Int), (9 : Int), ((0 : Int), (400 : Int), [((1 : Nat), (0 : Int))]))]), ([((226 : Nat), (9 : Int), (9 : Int)), ((226 : Nat), (11 : Int), (11 : Int)), ((227 : Nat), (6 : Int), (6 : Int)), ((227 : Nat), (287 : Int), (322 : Int))], []), [(.inr (some (.inl (ck_one 0))), (245 : Nat), ([], [], [((227 : Nat), (6 : Int), (6 : Int), ((0 : Int), (6 : Int), [((24 : Nat), (0 : Int))])), ((226 : Nat), (9 : Int), (9 : Int), ((0 : Int), (400 : Int), [((1000001 : Nat), (0 : Int))]))])), (.inr (some (.inl (ck_one 1))), (245 : Nat), ([], [], [((227 : Nat), (6 : Int), (6 : Int), ((1 : Int), (6 : Int), [])), ((226 : Nat), (9 : Int), (9 : Int), ((0 : Int), (400 : Int), [((1000001 : Nat), (0 : Int))]))]))])
set_option maxRecDepth 100000 in
theorem p2_s175_s {X : Int → Int} {LX : Nat} : ck_Ok p2_O X LX 273 p2_s175 := ck_okq (cuts := []) (f := 122) ⟨p2_nmu, ck_E1 (ck_S1 p2_s169_s (ck_S1 p2_s170_s (ck_S1 p2_s171_s (ck_S1 p2_s172_s (ck_S1 p2_s173_s (ck_S1 p2_s174_s ck_S0)))))) ck_E0⟩ (by decide +kernel)
set_option maxRecDepth 100000 in
/-- GlacierMailModel.letters -/
noncomputable def p2_s176 : ck_Sum := (((0 : Nat), (0 : Nat), (0 : Nat)), (245 : Nat), [.inr (.inr (.inl (226 : Nat)))], ([], [], [((227 : Nat), (4 : Int), (4 : Int), ((0 : Int), (24 : Int), [((22 : Nat), (0 : Int))]))]), ([], []), [(.inr (some (.inl ((0 : Int), (24 : Int), [((22 : Nat), (0 : Int))]))), (245 : Nat), ([], [], []))])
set_option maxRecDepth 100000 in
theorem p2_s176_s {X : Int → Int} {LX : Nat} : ck_Ok p2_O X LX 254 p2_s176 := ck_okq (cuts := []) (f := 80) ⟨p2_nmu, ck_E0⟩ (by decide +kernel)
set_option maxRecDepth 100000 in
/-- GlacierMailModel.figures -/
noncomputable def p2_s177 : ck_Sum := (((2 : Nat), (0 : Nat), (0 : Nat)), (245 : Nat), [.inr (.inr (.inl (226 : Nat))), .inl (ck_one 0), .inl ((-1 : Int), (5 : Int), []), .inl (ck_one 4)], ([], [], [((226 : Nat), (9 : Int), (9 : Int), ((0 : Int), (400 : Int), [((1 : Nat), (0 : Int))]))]), ([((226 : Nat), (9 : Int), (9 : Int)), ((226 : Nat), (11 : Int), (11 : Int))], []), zl59)
set_option maxRecDepth 100000 in
theorem p2_s177_s {X : Int → Int} {LX : Nat} : ck_Ok p2_O X LX 256 p2_s177 := ck_okq (cuts := [((7 : Nat), [some (.inr (.inr (.inl (226 : Nat)))), some (.inl (ck_one 0)), some (.inl ((-1 : Int), (5 : Int), [])), some (.inl (ck_one 4)), some (.inl ((-2147483648 : Int), (2147483647 : Int), []))], ([], [], [((226 : Nat), (11 : Int), (11 : Int), ((0 : Int), (400 : Int), [((1000001 : Nat), (0 : Int))])), ((226 : Nat), (9 : Int), (9 : Int), ((0 : Int), (400 : Int), [((1000001 : Nat), (0 : Int))]))]), (100 : Nat), .inr ((226 : Nat), (9 : Int)), true)]) (f := 222) ⟨p2_nmu, ck_E1 (ck_S1 p2_s148_s ck_S0) (ck_E1 (ck_S1 p2_s161_s ck_S0) ck_E0)⟩ (by decide +kernel)
set_option maxRecDepth 100000 in
/-- GlacierMailModel.number -/
noncomputable def p2_s178 : ck_Sum := (((3 : Nat), (0 : Nat), (0 : Nat)), (245 : Nat), [.inr (.inr (.inl (226 : Nat))), .inl (ck_one 0), .inl ((-1 : Int), (5 : Int), [])], ([], [], [((226 : Nat), (9 : Int), (9 : Int), ((0 : Int), (400 : Int), [((1 : Nat), (0 : Int))]))]), ([((226 : Nat), (9 : Int), (9 : Int)), ((226 : Nat), (11 : Int), (11 : Int))], []), zl59)
set_option maxRecDepth 100000 in
theorem p2_s178_s {X : Int → Int} {LX : Nat} : ck_Ok p2_O X LX 255 p2_s178 := ck_okq (cuts := []) (f := 82) ⟨p2_nmu, ck_E1 (ck_S1 p2_s177_s ck_S0) ck_E0⟩ (by decide +kernel)
set_option maxRecDepth 100000 in
/-- GlacierMailModel.laneTold -/
noncomputable def p2_s179 : ck_Sum := (((4 : Nat), (0 : Nat), (0 : Nat)), (245 : Nat), [.inr (.inr (.inl (226 : Nat)))], ([], [], [((226 : Nat), (9 : Int), (9 : Int), ((0 : Int), (400 : Int), [((1 : Nat), (0 : Int))]))]), ([((226 : Nat), (9 : Int), (9 : Int)), ((226 : Nat), (11 : Int), (11 : Int))], []), zl59)
set_option maxRecDepth 100000 in
theorem p2_s179_s {X : Int → Int} {LX : Nat} : ck_Ok p2_O X LX 268 p2_s179 := ck_okq (cuts := []) (f := 86) ⟨p2_nmu, ck_E1 (ck_S1 p2_s166_s ck_S0) (ck_E1 (ck_S1 p2_s178_s ck_S0) ck_E0)⟩ (by decide +kernel)
end
/-! 78r80a02.sf -/
section
/-! EVERY CALL ENDS, whatever was done before (laid by wip/am/p2k.py). -/
set_option maxRecDepth 100000 in
/-- GlacierMailModel.lip -/
noncomputable def p2_s180 : ck_Sum := (((0 : Nat), (0 : Nat), (0 : Nat)), (245 : Nat), [.inr (.inr (.inl (226 : Nat)))], ([], [], []), ([], []), [(.inr (some (.inl ((0 : Int), (99 : Int), []))), (245 : Nat), ([], [], []))])
set_option maxRecDepth 100000 in
theorem p2_s180_s {X : Int → Int} {LX : Nat} : ck_Ok p2_O X LX 259 p2_s180 := ck_okq (cuts := []) (f := 80) ⟨p2_nmu, ck_E0⟩ (by decide +kernel)
set_option maxRecDepth 100000 in
/-- GlacierMailModel.figures -/
noncomputable def p2_s181 : ck_Sum := (((2 : Nat), (0 : Nat), (0 : Nat)), (245 : Nat), [.inr (.inr (.inl (226 : Nat))), .inl (ck_one 0), .inl ((-1 : Int), (98 : Int), []), .inl (ck_one 4)], ([], [], [((226 : Nat), (9 : Int), (9 : Int), ((0 : Int), (400 : Int), [((1 : Nat), (0 : Int))]))]), ([((226 : Nat), (9 : Int), (9 : Int)), ((226 : Nat), (11 : Int), (11 : Int))], []), zl60)
set_option maxRecDepth 100000 in
theorem p2_s181_s {X : Int → Int} {LX : Nat} : ck_Ok p2_O X LX 256 p2_s181 := ck_okq (cuts := [((7 : Nat), [some (.inr (.inr (.inl (226 : Nat)))), some (.inl (ck_one 0)), some (.inl ((-1 : Int), (98 : Int), [])), some (.inl (ck_one 4)), some (.inl ((-2147483648 : Int), (2147483647 : Int), []))], ([], [], [((226 : Nat), (11 : Int), (11 : Int), ((0 : Int), (400 : Int), [((1000001 : Nat), (0 : Int))])), ((226 : Nat), (9 : Int), (9 : Int), ((0 : Int), (400 : Int), [((1000001 : Nat), (0 : Int))]))]), (100 : Nat), .inr ((226 : Nat), (9 : Int)), true)]) (f := 222) ⟨p2_nmu, ck_E1 (ck_S1 p2_s148_s ck_S0) (ck_E1 (ck_S1 p2_s161_s ck_S0) ck_E0)⟩ (by decide +kernel)
set_option maxRecDepth 100000 in
/-- GlacierMailModel.number -/
noncomputable def p2_s182 : ck_Sum := (((3 : Nat), (0 : Nat), (0 : Nat)), (245 : Nat), [.inr (.inr (.inl (226 : Nat))), .inl (ck_one 0), .inl ((-1 : Int), (98 : Int), [])], ([], [], [((226 : Nat), (9 : Int), (9 : Int), ((0 : Int), (400 : Int), [((1 : Nat), (0 : Int))]))]), ([((226 : Nat), (9 : Int), (9 : Int)), ((226 : Nat), (11 : Int), (11 : Int))], []), zl60)
set_option maxRecDepth 100000 in
theorem p2_s182_s {X : Int → Int} {LX : Nat} : ck_Ok p2_O X LX 255 p2_s182 := ck_okq (cuts := []) (f := 82) ⟨p2_nmu, ck_E1 (ck_S1 p2_s181_s ck_S0) ck_E0⟩ (by decide +kernel)
set_option maxRecDepth 100000 in
/-- GlacierMailModel.rowTold -/
noncomputable def p2_s183 : ck_Sum := (((4 : Nat), (0 : Nat), (0 : Nat)), (245 : Nat), [.inr (.inr (.inl (226 : Nat)))], ([], [], [((226 : Nat), (9 : Int), (9 : Int), ((0 : Int), (400 : Int), [((1 : Nat), (0 : Int))]))]), ([((226 : Nat), (9 : Int), (9 : Int)), ((226 : Nat), (11 : Int), (11 : Int))], []), zl60)
set_option maxRecDepth 100000 in
theorem p2_s183_s {X : Int → Int} {LX : Nat} : ck_Ok p2_O X LX 263 p2_s183 := ck_okq (cuts := []) (f := 86) ⟨p2_nmu, ck_E1 (ck_S1 p2_s180_s ck_S0) (ck_E1 (ck_S1 p2_s182_s ck_S0) ck_E0)⟩ (by decide +kernel)
/-- GlacierMailModel.throwsIn -/
noncomputable def p2_s184 : ck_Sum := op_ts (-1) (-1) (-1) (-1) 0 5 0 98
theorem p2_s184_s {X : Int → Int} {LX : Nat} : ck_Ok p2_O X LX 271 p2_s184 := op_throw (by decide +kernel) (by decide)
set_option maxRecDepth 100000 in
/-- GlacierMailModel.readRock -/
noncomputable def p2_s185 : ck_Sum := (((5 : Nat), (0 : Nat), (0 : Nat)), (245 : Nat), [.inr (.inr (.inl (226 : Nat)))], ([], [], [((227 : Nat), (4 : Int), (4 : Int), ((0 : Int), (24 : Int), [((22 : Nat), (0 : Int))])), ((226 : Nat), (9 : Int), (9 : Int), ((0 : Int), (400 : Int), [((1 : Nat), (0 : Int))])), ((227 : Nat), (9 : Int), (9 : Int), ((0 : Int), (299 : Int), [((11 : Nat), (0 : Int))]))]), ([((226 : Nat), (9 : Int), (9 : Int)), ((226 : Nat), (11 : Int), (11 : Int)), ((227 : Nat), (4 : Int), (4 : Int)), ((227 : Nat), (119 : Int), (286 : Int))], []), [(.inr (some (.inl (ck_one 0))), (245 : Nat), ([], [], [((226 : Nat), (9 : Int), (9 : Int), ((0 : Int), (400 : Int), [((1000001 : Nat), (0 : Int))])), ((227 : Nat), (4 : Int), (4 : Int), ((0 : Int), (24 : Int), [((22 : Nat), (0 : Int))]))])), (.inr (some (.inl (ck_one 1))), (245 : Nat), ([], [], [((227 : Nat), (4 : Int), (4 : Int), ((1 : Int), (24 : Int), [((22 : Nat), (1 : Int))])), ((226 : Nat), (9 : Int), (9 : Int), ((0 : Int), (400 : Int), [((1000001 : Nat), (0 : Int))])), ((226 : Nat), (11 : Int), (11 : Int), ((0 : Int), (400 : Int), [((1000001 : Nat), (0 : Int))]))]))])
set_option maxRecDepth 100000 in
theorem p2_s185_s {X : Int → Int} {LX : Nat} : ck_Ok p2_O X LX 270 p2_s185 := ck_okq (cuts := []) (f := 120) ⟨p2_nmu, ck_E1 (ck_S1 p2_s176_s ck_S0) (ck_E1 (ck_S1 p2_s179_s ck_S0) (ck_E1 (ck_S1 p2_s183_s ck_S0) (ck_E1 (ck_S1 p2_s184_s ck_S0) ck_E0)))⟩ (by decide +kernel)
set_option maxRecDepth 100000 in
/-- GlacierMailModel.people -/
noncomputable def p2_s186 : ck_Sum := (((0 : Nat), (0 : Nat), (0 : Nat)), (245 : Nat), [.inr (.inr (.inl (226 : Nat)))], ([], [], [((227 : Nat), (3 : Int), (3 : Int), ((0 : Int), (8 : Int), [((21 : Nat), (0 : Int))]))]), ([], []), [(.inr (some (.inl ((0 : Int), (8 : Int), [((21 : Nat), (0 : Int))]))), (245 : Nat), ([], [], []))])
set_option maxRecDepth 100000 in
theorem p2_s186_s {X : Int → Int} {LX : Nat} : ck_Ok p2_O X LX 253 p2_s186 := ck_okq (cuts := []) (f := 80) ⟨p2_nmu, ck_E0⟩ (by decide +kernel)
set_option maxRecDepth 100000 in
/-- GlacierMailModel.isWord -/
noncomputable def p2_s187 : ck_Sum := (((6 : Nat), (0 : Nat), (0 : Nat)), (245 : Nat), [.inr (.inr (.inl (226 : Nat))), .inr (.inr (.inr (54 : Nat)))], ([], [], [((226 : Nat), (9 : Int), (9 : Int), ((0 : Int), (400 : Int), [((1 : Nat), (0 : Int))]))]), ([], []), zl52)
set_option maxRecDepth 100000 in
theorem p2_s187_s {X : Int → Int} {LX : Nat} : ck_Ok p2_O X LX 250 p2_s187 := ck_okq (cuts := []) (f := 332) ⟨p2_nmu, ck_E0⟩ (by decide +kernel)
set_option maxRecDepth 100000 in
/-- GlacierMailModel.isNext -/
noncomputable def p2_s188 : ck_Sum := (((7 : Nat), (0 : Nat), (0 : Nat)), (245 : Nat), [.inr (.inr (.inl (226 : Nat))), .inr (.inr (.inr (54 : Nat)))], ([], [], [((226 : Nat), (9 : Int), (9 : Int), ((0 : Int), (400 : Int), [((1 : Nat), (0 : Int))]))]), ([((226 : Nat), (9 : Int), (9 : Int)), ((226 : Nat), (11 : Int), (11 : Int))], []), [(.inr (some (.inl (ck_one 0))), (245 : Nat), ([], [], zl51)), (.inr (some (.inl (ck_one 1))), (245 : Nat), ([], [], [((226 : Nat), (9 : Int), (9 : Int), ((5 : Int), (400 : Int), [((1000001 : Nat), (0 : Int))])), ((226 : Nat), (11 : Int), (11 : Int), ((0 : Int), (395 : Int), []))]))])
set_option maxRecDepth 100000 in
theorem p2_s188_s {X : Int → Int} {LX : Nat} : ck_Ok p2_O X LX 269 p2_s188 := ck_okq (cuts := []) (f := 94) ⟨p2_nmu, ck_E1 (ck_S1 p2_s150_s ck_S0) (ck_E1 (ck_S1 p2_s187_s ck_S0) ck_E0)⟩ (by decide +kernel)
set_option maxRecDepth 100000 in
/-- GlacierMailModel.readPerson -/
noncomputable def p2_s189 : ck_Sum := (((8 : Nat), (0 : Nat), (0 : Nat)), (245 : Nat), [.inr (.inr (.inl (226 : Nat)))], ([], [], [((227 : Nat), (3 : Int), (3 : Int), ((0 : Int), (8 : Int), [((21 : Nat), (0 : Int))])), ((226 : Nat), (9 : Int), (9 : Int), ((0 : Int), (400 : Int), [((1 : Nat), (0 : Int))]))]), ([((226 : Nat), (9 : Int), (9 : Int)), ((226 : Nat), (11 : Int), (11 : Int)), ((227 : Nat), (3 : Int), (3 : Int)), ((227 : Nat), (95 : Int), (118 : Int))], []), [(.inr (some (.inl (ck_one 0))), (245 : Nat), ([], [], [((226 : Nat), (9 : Int), (9 : Int), ((0 : Int), (400 : Int), [((1000001 : Nat), (0 : Int))])), ((227 : Nat), (3 : Int), (3 : Int), ((0 : Int), (8 : Int), [((21 : Nat), (0 : Int))]))])), (.inr (some (.inl (ck_one 1))), (245 : Nat), ([], [], [((227 : Nat), (3 : Int), (3 : Int), ((1 : Int), (8 : Int), [])), ((226 : Nat), (9 : Int), (9 : Int), ((0 : Int), (400 : Int), [((1000001 : Nat), (0 : Int))])), ((226 : Nat), (11 : Int), (11 : Int), ((0 : Int), (400 : Int), [((1000001 : Nat), (0 : Int))]))]))])
set_option maxRecDepth 100000 in
theorem p2_s189_s {X : Int → Int} {LX : Nat} : ck_Ok p2_O X LX 267 p2_s189 := ck_okq (cuts := []) (f := 192) ⟨p2_nmu, ck_E1 (ck_S1 p2_s186_s ck_S0) (ck_E1 (ck_S1 p2_s179_s ck_S0) (ck_E1 (ck_S1 p2_s183_s ck_S0) (ck_E1 (ck_S1 p2_s188_s ck_S0) ck_E0)))⟩ (by decide +kernel)
set_option maxRecDepth 100000 in
/-- GlacierMailModel.now -/
noncomputable def p2_s190 : ck_Sum := (((0 : Nat), (0 : Nat), (0 : Nat)), (245 : Nat), [.inr (.inr (.inl (226 : Nat)))], ([], [], [((227 : Nat), (9 : Int), (9 : Int), ((0 : Int), (299 : Int), [((11 : Nat), (0 : Int))]))]), ([], []), [(.inr (some (.inl ((0 : Int), (299 : Int), [((11 : Nat), (0 : Int))]))), (245 : Nat), ([], [], []))])
set_option maxRecDepth 100000 in
theorem p2_s190_s {X : Int → Int} {LX : Nat} : ck_Ok p2_O X LX 266 p2_s190 := ck_okq (cuts := []) (f := 80) ⟨p2_nmu, ck_E0⟩ (by decide +kernel)
set_option maxRecDepth 100000 in
/-- GlacierMailModel.figures -/
noncomputable def p2_s191 : ck_Sum := (((2 : Nat), (0 : Nat), (0 : Nat)), (245 : Nat), [.inr (.inr (.inl (226 : Nat))), .inl ((0 : Int), (299 : Int), []), .inl (ck_one 299), .inl (ck_one 4)], ([], [], [((226 : Nat), (9 : Int), (9 : Int), ((0 : Int), (400 : Int), [((1 : Nat), (0 : Int))]))]), ([((226 : Nat), (9 : Int), (9 : Int)), ((226 : Nat), (11 : Int), (11 : Int))], []), zl61)
set_option maxRecDepth 100000 in
theorem p2_s191_s {X : Int → Int} {LX : Nat} : ck_Ok p2_O X LX 256 p2_s191 := ck_okq (cuts := [((7 : Nat), [some (.inr (.inr (.inl (226 : Nat)))), some (.inl ((0 : Int), (299 : Int), [])), some (.inl (ck_one 299)), some (.inl (ck_one 4)), some (.inl ((-2147483648 : Int), (2147483647 : Int), []))], ([], [], [((226 : Nat), (11 : Int), (11 : Int), ((0 : Int), (400 : Int), [((1000001 : Nat), (0 : Int))])), ((226 : Nat), (9 : Int), (9 : Int), ((0 : Int), (400 : Int), [((1000001 : Nat), (0 : Int))]))]), (100 : Nat), .inr ((226 : Nat), (9 : Int)), true)]) (f := 222) ⟨p2_nmu, ck_E1 (ck_S1 p2_s148_s ck_S0) (ck_E1 (ck_S1 p2_s161_s ck_S0) ck_E0)⟩ (by decide +kernel)
set_option maxRecDepth 100000 in
/-- GlacierMailModel.number -/
noncomputable def p2_s192 : ck_Sum := (((3 : Nat), (0 : Nat), (0 : Nat)), (245 : Nat), [.inr (.inr (.inl (226 : Nat))), .inl ((0 : Int), (299 : Int), []), .inl (ck_one 299)], ([], [], [((226 : Nat), (9 : Int), (9 : Int), ((0 : Int), (400 : Int), [((1 : Nat), (0 : Int))]))]), ([((226 : Nat), (9 : Int), (9 : Int)), ((226 : Nat), (11 : Int), (11 : Int))], []), zl61)
set_option maxRecDepth 100000 in
theorem p2_s192_s {X : Int → Int} {LX : Nat} : ck_Ok p2_O X LX 255 p2_s192 := ck_okq (cuts := []) (f := 82) ⟨p2_nmu, ck_E1 (ck_S1 p2_s191_s ck_S0) ck_E0⟩ (by decide +kernel)
set_option maxRecDepth 100000 in
/-- GlacierMailModel.figures -/
noncomputable def p2_s193 : ck_Sum := (((2 : Nat), (0 : Nat), (0 : Nat)), (245 : Nat), [.inr (.inr (.inl (226 : Nat))), .inl (ck_one 1), .inl (ck_one 20), .inl (ck_one 4)], ([], [], [((226 : Nat), (9 : Int), (9 : Int), ((0 : Int), (400 : Int), [((1 : Nat), (0 : Int))]))]), ([((226 : Nat), (9 : Int), (9 : Int)), ((226 : Nat), (11 : Int), (11 : Int))], []), zl62)
set_option maxRecDepth 100000 in
theorem p2_s193_s {X : Int → Int} {LX : Nat} : ck_Ok p2_O X LX 256 p2_s193 := ck_okq (cuts := [((7 : Nat), [some (.inr (.inr (.inl (226 : Nat)))), some (.inl (ck_one 1)), some (.inl (ck_one 20)), some (.inl (ck_one 4)), some (.inl ((-2147483648 : Int), (2147483647 : Int), []))], ([], [], [((226 : Nat), (11 : Int), (11 : Int), ((0 : Int), (400 : Int), [((1000001 : Nat), (0 : Int))])), ((226 : Nat), (9 : Int), (9 : Int), ((0 : Int), (400 : Int), [((1000001 : Nat), (0 : Int))]))]), (100 : Nat), .inr ((226 : Nat), (9 : Int)), true)]) (f := 222) ⟨p2_nmu, ck_E1 (ck_S1 p2_s148_s ck_S0) (ck_E1 (ck_S1 p2_s161_s ck_S0) ck_E0)⟩ (by decide +kernel)
set_option maxRecDepth 100000 in
/-- GlacierMailModel.number -/
noncomputable def p2_s194 : ck_Sum := (((3 : Nat), (0 : Nat), (0 : Nat)), (245 : Nat), [.inr (.inr (.inl (226 : Nat))), .inl (ck_one 1), .inl (ck_one 20)], ([], [], [((226 : Nat), (9 : Int), (9 : Int), ((0 : Int), (400 : Int), [((1 : Nat), (0 : Int))]))]), ([((226 : Nat), (9 : Int), (9 : Int)), ((226 : Nat), (11 : Int), (11 : Int))], []), zl62)
set_option maxRecDepth 100000 in
theorem p2_s194_s {X : Int → Int} {LX : Nat} : ck_Ok p2_O X LX 255 p2_s194 := ck_okq (cuts := []) (f := 82) ⟨p2_nmu, ck_E1 (ck_S1 p2_s193_s ck_S0) ck_E0⟩ (by decide +kernel)
set_option maxRecDepth 100000 in
/-- GlacierMailModel.readFlood -/
noncomputable def p2_s195 : ck_Sum := (((5 : Nat), (0 : Nat), (0 : Nat)), (245 : Nat), [.inr (.inr (.inl (226 : Nat)))], ([], [], [((227 : Nat), (5 : Int), (5 : Int), ((0 : Int), (8 : Int), [((23 : Nat), (0 : Int))])), ((226 : Nat), (9 : Int), (9 : Int), ((0 : Int), (400 : Int), [((1 : Nat), (0 : Int))])), ((227 : Nat), (9 : Int), (9 : Int), ((0 : Int), (299 : Int), [((11 : Nat), (0 : Int))]))]), ([((226 : Nat), (9 : Int), (9 : Int)), ((226 : Nat), (11 : Int), (11 : Int)), ((227 : Nat), (5 : Int), (5 : Int)), ((227 : Nat), (71 : Int), (94 : Int))], []), [(.inr (some (.inl (ck_one 0))), (245 : Nat), ([], [], [((226 : Nat), (9 : Int), (9 : Int), ((0 : Int), (400 : Int), [((1000001 : Nat), (0 : Int))])), ((227 : Nat), (5 : Int), (5 : Int), ((0 : Int), (8 : Int), [((23 : Nat), (0 : Int))]))])), (.inr (some (.inl (ck_one 1))), (245 : Nat), ([], [], [((227 : Nat), (5 : Int), (5 : Int), ((1 : Int), (8 : Int), [])), ((226 : Nat), (9 : Int), (9 : Int), ((0 : Int), (400 : Int), [((1000001 : Nat), (0 : Int))])), ((226 : Nat), (11 : Int), (11 : Int), ((0 : Int), (400 : Int), [((1000001 : Nat), (0 : Int))]))]))])
set_option maxRecDepth 100000 in
theorem p2_s195_s {X : Int → Int} {LX : Nat} : ck_Ok p2_O X LX 265 p2_s195 := ck_okq (cuts := []) (f := 198) ⟨p2_nmu, ck_E1 (ck_S1 p2_s190_s ck_S0) (ck_E1 (ck_S1 p2_s192_s (ck_S1 p2_s194_s ck_S0)) (ck_E1 (ck_S1 p2_s183_s ck_S0) ck_E0))⟩ (by decide +kernel)
set_option maxRecDepth 100000 in
/-- GlacierMailModel.isWord -/
noncomputable def p2_s196 : ck_Sum := (((6 : Nat), (0 : Nat), (0 : Nat)), (245 : Nat), [.inr (.inr (.inl (226 : Nat))), .inr (.inr (.inr (51 : Nat)))], ([], [], [((226 : Nat), (9 : Int), (9 : Int), ((0 : Int), (400 : Int), [((1 : Nat), (0 : Int))]))]), ([], []), zl53)
set_option maxRecDepth 100000 in
theorem p2_s196_s {X : Int → Int} {LX : Nat} : ck_Ok p2_O X LX 250 p2_s196 := ck_okq (cuts := []) (f := 288) ⟨p2_nmu, ck_E0⟩ (by decide +kernel)
set_option maxRecDepth 100000 in
/-- GlacierMailModel.figures -/
noncomputable def p2_s197 : ck_Sum := (((2 : Nat), (0 : Nat), (0 : Nat)), (245 : Nat), [.inr (.inr (.inl (226 : Nat))), .inl (ck_one 0), .inl (ck_one 9), .inl (ck_one 4)], ([], [], [((226 : Nat), (9 : Int), (9 : Int), ((0 : Int), (400 : Int), [((1 : Nat), (0 : Int))]))]), ([((226 : Nat), (9 : Int), (9 : Int)), ((226 : Nat), (11 : Int), (11 : Int))], []), zl63)
set_option maxRecDepth 100000 in
theorem p2_s197_s {X : Int → Int} {LX : Nat} : ck_Ok p2_O X LX 256 p2_s197 := ck_okq (cuts := [((7 : Nat), [some (.inr (.inr (.inl (226 : Nat)))), some (.inl (ck_one 0)), some (.inl (ck_one 9)), some (.inl (ck_one 4)), some (.inl ((-2147483648 : Int), (2147483647 : Int), []))], ([], [], [((226 : Nat), (11 : Int), (11 : Int), ((0 : Int), (400 : Int), [((1000001 : Nat), (0 : Int))])), ((226 : Nat), (9 : Int), (9 : Int), ((0 : Int), (400 : Int), [((1000001 : Nat), (0 : Int))]))]), (100 : Nat), .inr ((226 : Nat), (9 : Int)), true)]) (f := 222) ⟨p2_nmu, ck_E1 (ck_S1 p2_s148_s ck_S0) (ck_E1 (ck_S1 p2_s161_s ck_S0) ck_E0)⟩ (by decide +kernel)
set_option maxRecDepth 100000 in
/-- GlacierMailModel.number -/
noncomputable def p2_s198 : ck_Sum := (((3 : Nat), (0 : Nat), (0 : Nat)), (245 : Nat), [.inr (.inr (.inl (226 : Nat))), .inl (ck_one 0), .inl (ck_one 9)], ([], [], [((226 : Nat), (9 : Int), (9 : Int), ((0 : Int), (400 : Int), [((1 : Nat), (0 : Int))]))]), ([((226 : Nat), (9 : Int), (9 : Int)), ((226 : Nat), (11 : Int), (11 : Int))], []), zl63)
set_option maxRecDepth 100000 in
theorem p2_s198_s {X : Int → Int} {LX : Nat} : ck_Ok p2_O X LX 255 p2_s198 := ck_okq (cuts := []) (f := 82) ⟨p2_nmu, ck_E1 (ck_S1 p2_s197_s ck_S0) ck_E0⟩ (by decide +kernel)
set_option maxRecDepth 100000 in
/-- GlacierMailModel.after -/
noncomputable def p2_s199 : ck_Sum := (((7 : Nat), (0 : Nat), (0 : Nat)), (245 : Nat), [.inr (.inr (.inl (226 : Nat))), .inr (.inr (.inr (51 : Nat))), .inl (ck_one 0), .inl (ck_one 9)], ([], [], [((226 : Nat), (9 : Int), (9 : Int), ((0 : Int), (400 : Int), [((1 : Nat), (0 : Int))]))]), ([((226 : Nat), (9 : Int), (9 : Int)), ((226 : Nat), (11 : Int), (11 : Int))], []), [(.inr (some (.inl (ck_one (-1)))), (245 : Nat), ([], [], zl51)), (.inr (some (.inl ((0 : Int), (9 : Int), []))), (245 : Nat), ([], [], zl64))])
set_option maxRecDepth 100000 in
theorem p2_s199_s {X : Int → Int} {LX : Nat} : ck_Ok p2_O X LX 264 p2_s199 := ck_okq (cuts := []) (f := 94) ⟨p2_nmu, ck_E1 (ck_S1 p2_s150_s ck_S0) (ck_E1 (ck_S1 p2_s196_s ck_S0) (ck_E1 (ck_S1 p2_s198_s ck_S0) ck_E0))⟩ (by decide +kernel)
set_option maxRecDepth 100000 in
/-- GlacierMailModel.readSnow -/
noncomputable def p2_s200 : ck_Sum := (((8 : Nat), (0 : Nat), (0 : Nat)), (245 : Nat), [.inr (.inr (.inl (226 : Nat)))], ([], [], [((226 : Nat), (9 : Int), (9 : Int), ((0 : Int), (400 : Int), [((1 : Nat), (0 : Int))]))]), ([((226 : Nat), (9 : Int), (9 : Int)), ((226 : Nat), (11 : Int), (11 : Int)), ((227 : Nat), (10 : Int), (11 : Int))], []), [(.inr (some (.inl (ck_one 0))), (245 : Nat), ([], [], zl51)), (.inr (some (.inl (ck_one 1))), (245 : Nat), ([], [], zl64))])
set_option maxRecDepth 100000 in
theorem p2_s200_s {X : Int → Int} {LX : Nat} : ck_Ok p2_O X LX 262 p2_s200 := ck_okq (cuts := []) (f := 120) ⟨p2_nmu, ck_E1 (ck_S1 p2_s183_s ck_S0) (ck_E1 (ck_S1 p2_s199_s ck_S0) ck_E0)⟩ (by decide +kernel)
set_option maxRecDepth 100000 in
/-- GlacierMailModel.figures -/
noncomputable def p2_s201 : ck_Sum := (((2 : Nat), (0 : Nat), (0 : Nat)), (245 : Nat), [.inr (.inr (.inl (226 : Nat))), .inl (ck_one 0), .inl (ck_one 0), .inl (ck_one 4)], ([], [], [((226 : Nat), (9 : Int), (9 : Int), ((0 : Int), (400 : Int), [((1 : Nat), (0 : Int))]))]), ([((226 : Nat), (9 : Int), (9 : Int)), ((226 : Nat), (11 : Int), (11 : Int))], []), zl65)
set_option maxRecDepth 100000 in
theorem p2_s201_s {X : Int → Int} {LX : Nat} : ck_Ok p2_O X LX 256 p2_s201 := ck_okq (cuts := [((7 : Nat), [some (.inr (.inr (.inl (226 : Nat)))), some (.inl (ck_one 0)), some (.inl (ck_one 0)), some (.inl (ck_one 4)), some (.inl ((-2147483648 : Int), (2147483647 : Int), []))], ([], [], [((226 : Nat), (11 : Int), (11 : Int), ((0 : Int), (400 : Int), [((1000001 : Nat), (0 : Int))])), ((226 : Nat), (9 : Int), (9 : Int), ((0 : Int), (400 : Int), [((1000001 : Nat), (0 : Int))]))]), (100 : Nat), .inr ((226 : Nat), (9 : Int)), true)]) (f := 222) ⟨p2_nmu, ck_E1 (ck_S1 p2_s148_s ck_S0) (ck_E1 (ck_S1 p2_s161_s ck_S0) ck_E0)⟩ (by decide +kernel)
set_option maxRecDepth 100000 in
/-- GlacierMailModel.number -/
noncomputable def p2_s202 : ck_Sum := (((3 : Nat), (0 : Nat), (0 : Nat)), (245 : Nat), [.inr (.inr (.inl (226 : Nat))), .inl (ck_one 0), .inl (ck_one 0)], ([], [], [((226 : Nat), (9 : Int), (9 : Int), ((0 : Int), (400 : Int), [((1 : Nat), (0 : Int))]))]), ([((226 : Nat), (9 : Int), (9 : Int)), ((226 : Nat), (11 : Int), (11 : Int))], []), zl65)
set_option maxRecDepth 100000 in
theorem p2_s202_s {X : Int → Int} {LX : Nat} : ck_Ok p2_O X LX 255 p2_s202 := ck_okq (cuts := []) (f := 82) ⟨p2_nmu, ck_E1 (ck_S1 p2_s201_s ck_S0) ck_E0⟩ (by decide +kernel)
set_option maxRecDepth 100000 in
/-- GlacierMailModel.figures -/
noncomputable def p2_s203 : ck_Sum := (((2 : Nat), (0 : Nat), (0 : Nat)), (245 : Nat), [.inr (.inr (.inl (226 : Nat))), .inl ((1 : Int), (99 : Int), []), .inl ((-1 : Int), (98 : Int), []), .inl (ck_one 4)], ([], [], [((226 : Nat), (9 : Int), (9 : Int), ((0 : Int), (400 : Int), [((1 : Nat), (0 : Int))]))]), ([((226 : Nat), (9 : Int), (9 : Int)), ((226 : Nat), (11 : Int), (11 : Int))], []), zl66)
set_option maxRecDepth 100000 in
theorem p2_s203_s {X : Int → Int} {LX : Nat} : ck_Ok p2_O X LX 256 p2_s203 := ck_okq (cuts := [((7 : Nat), [some (.inr (.inr (.inl (226 : Nat)))), some (.inl ((1 : Int), (99 : Int), [])), some (.inl ((-1 : Int), (98 : Int), [])), some (.inl (ck_one 4)), some (.inl ((-2147483648 : Int), (2147483647 : Int), []))], ([], [], [((226 : Nat), (11 : Int), (11 : Int), ((0 : Int), (400 : Int), [((1000001 : Nat), (0 : Int))])), ((226 : Nat), (9 : Int), (9 : Int), ((0 : Int), (400 : Int), [((1000001 : Nat), (0 : Int))]))]), (100 : Nat), .inr ((226 : Nat), (9 : Int)), true)]) (f := 222) ⟨p2_nmu, ck_E1 (ck_S1 p2_s148_s ck_S0) (ck_E1 (ck_S1 p2_s161_s ck_S0) ck_E0)⟩ (by decide +kernel)
set_option maxRecDepth 100000 in
/-- GlacierMailModel.number -/
noncomputable def p2_s204 : ck_Sum := (((3 : Nat), (0 : Nat), (0 : Nat)), (245 : Nat), [.inr (.inr (.inl (226 : Nat))), .inl ((1 : Int), (99 : Int), []), .inl ((-1 : Int), (98 : Int), [])], ([], [], [((226 : Nat), (9 : Int), (9 : Int), ((0 : Int), (400 : Int), [((1 : Nat), (0 : Int))]))]), ([((226 : Nat), (9 : Int), (9 : Int)), ((226 : Nat), (11 : Int), (11 : Int))], []), zl66)
set_option maxRecDepth 100000 in
theorem p2_s204_s {X : Int → Int} {LX : Nat} : ck_Ok p2_O X LX 255 p2_s204 := ck_okq (cuts := []) (f := 82) ⟨p2_nmu, ck_E1 (ck_S1 p2_s203_s ck_S0) ck_E0⟩ (by decide +kernel)
set_option maxRecDepth 100000 in
/-- GlacierMailModel.figures -/
noncomputable def p2_s205 : ck_Sum := (((2 : Nat), (0 : Nat), (0 : Nat)), (245 : Nat), [.inr (.inr (.inl (226 : Nat))), .inl (ck_one 1), .inl ((-1 : Int), (98 : Int), []), .inl (ck_one 4)], ([], [], [((226 : Nat), (9 : Int), (9 : Int), ((0 : Int), (400 : Int), [((1 : Nat), (0 : Int))]))]), ([((226 : Nat), (9 : Int), (9 : Int)), ((226 : Nat), (11 : Int), (11 : Int))], []), zl66)
set_option maxRecDepth 100000 in
theorem p2_s205_s {X : Int → Int} {LX : Nat} : ck_Ok p2_O X LX 256 p2_s205 := ck_okq (cuts := [((7 : Nat), [some (.inr (.inr (.inl (226 : Nat)))), some (.inl (ck_one 1)), some (.inl ((-1 : Int), (98 : Int), [])), some (.inl (ck_one 4)), some (.inl ((-2147483648 : Int), (2147483647 : Int), []))], ([], [], [((226 : Nat), (11 : Int), (11 : Int), ((0 : Int), (400 : Int), [((1000001 : Nat), (0 : Int))])), ((226 : Nat), (9 : Int), (9 : Int), ((0 : Int), (400 : Int), [((1000001 : Nat), (0 : Int))]))]), (100 : Nat), .inr ((226 : Nat), (9 : Int)), true)]) (f := 222) ⟨p2_nmu, ck_E1 (ck_S1 p2_s148_s ck_S0) (ck_E1 (ck_S1 p2_s161_s ck_S0) ck_E0)⟩ (by decide +kernel)
set_option maxRecDepth 100000 in
/-- GlacierMailModel.number -/
noncomputable def p2_s206 : ck_Sum := (((3 : Nat), (0 : Nat), (0 : Nat)), (245 : Nat), [.inr (.inr (.inl (226 : Nat))), .inl (ck_one 1), .inl ((-1 : Int), (98 : Int), [])], ([], [], [((226 : Nat), (9 : Int), (9 : Int), ((0 : Int), (400 : Int), [((1 : Nat), (0 : Int))]))]), ([((226 : Nat), (9 : Int), (9 : Int)), ((226 : Nat), (11 : Int), (11 : Int))], []), zl66)
set_option maxRecDepth 100000 in
theorem p2_s206_s {X : Int → Int} {LX : Nat} : ck_Ok p2_O X LX 255 p2_s206 := ck_okq (cuts := []) (f := 82) ⟨p2_nmu, ck_E1 (ck_S1 p2_s205_s ck_S0) ck_E0⟩ (by decide +kernel)
set_option maxRecDepth 100000 in
/-- GlacierMailModel.readSpeeds -/
noncomputable def p2_s207 : ck_Sum := (((4 : Nat), (0 : Nat), (0 : Nat)), (245 : Nat), [.inr (.inr (.inl (226 : Nat))), .inl (ck_one 16)], ([], [], [((226 : Nat), (9 : Int), (9 : Int), ((0 : Int), (400 : Int), [((1 : Nat), (0 : Int))]))]), ([((226 : Nat), (9 : Int), (9 : Int)), ((226 : Nat), (11 : Int), (11 : Int)), ((227 : Nat), (16 : Int), (21 : Int))], []), zl58)
set_option maxRecDepth 100000 in
theorem p2_s207_s {X : Int → Int} {LX : Nat} : ck_Ok p2_O X LX 260 p2_s207 := ck_okq (cuts := [((2 : Nat), [some (.inr (.inr (.inl (226 : Nat)))), some (.inl (ck_one 16)), some (.inl ((0 : Int), (6 : Int), [])), none], ([], [], [((226 : Nat), (9 : Int), (9 : Int), ((0 : Int), (400 : Int), [((1000001 : Nat), (0 : Int))]))]), (100 : Nat), .inl (2 : Nat), true)]) (f := 174) ⟨p2_nmu, ck_E1 (ck_S1 p2_s166_s ck_S0) (ck_E1 (ck_S1 p2_s168_s ck_S0) ck_E0)⟩ (by decide +kernel)
set_option maxRecDepth 100000 in
/-- GlacierMailModel.readSpeeds -/
noncomputable def p2_s208 : ck_Sum := (((4 : Nat), (0 : Nat), (0 : Nat)), (245 : Nat), [.inr (.inr (.inl (226 : Nat))), .inl (ck_one 65)], ([], [], [((226 : Nat), (9 : Int), (9 : Int), ((0 : Int), (400 : Int), [((1 : Nat), (0 : Int))]))]), ([((226 : Nat), (9 : Int), (9 : Int)), ((226 : Nat), (11 : Int), (11 : Int)), ((227 : Nat), (65 : Int), (70 : Int))], []), zl58)
set_option maxRecDepth 100000 in
theorem p2_s208_s {X : Int → Int} {LX : Nat} : ck_Ok p2_O X LX 260 p2_s208 := ck_okq (cuts := [((2 : Nat), [some (.inr (.inr (.inl (226 : Nat)))), some (.inl (ck_one 65)), some (.inl ((0 : Int), (6 : Int), [])), none], ([], [], [((226 : Nat), (9 : Int), (9 : Int), ((0 : Int), (400 : Int), [((1000001 : Nat), (0 : Int))]))]), (100 : Nat), .inl (2 : Nat), true)]) (f := 174) ⟨p2_nmu, ck_E1 (ck_S1 p2_s166_s ck_S0) (ck_E1 (ck_S1 p2_s168_s ck_S0) ck_E0)⟩ (by decide +kernel)
set_option maxRecDepth 100000 in
/-- GlacierMailModel.readSpeeds -/
noncomputable def p2_s209 : ck_Sum := (((4 : Nat), (0 : Nat), (0 : Nat)), (245 : Nat), [.inr (.inr (.inl (226 : Nat))), .inl (ck_one 58)], ([], [], [((226 : Nat), (9 : Int), (9 : Int), ((0 : Int), (400 : Int), [((1 : Nat), (0 : Int))]))]), ([((226 : Nat), (9 : Int), (9 : Int)), ((226 : Nat), (11 : Int), (11 : Int)), ((227 : Nat), (58 : Int), (63 : Int))], []), zl58)
set_option maxRecDepth 100000 in
theorem p2_s209_s {X : Int → Int} {LX : Nat} : ck_Ok p2_O X LX 260 p2_s209 := ck_okq (cuts := [((2 : Nat), [some (.inr (.inr (.inl (226 : Nat)))), some (.inl (ck_one 58)), some (.inl ((0 : Int), (6 : Int), [])), none], ([], [], [((226 : Nat), (9 : Int), (9 : Int), ((0 : Int), (400 : Int), [((1000001 : Nat), (0 : Int))]))]), (100 : Nat), .inl (2 : Nat), true)]) (f := 174) ⟨p2_nmu, ck_E1 (ck_S1 p2_s166_s ck_S0) (ck_E1 (ck_S1 p2_s168_s ck_S0) ck_E0)⟩ (by decide +kernel)
set_option maxRecDepth 100000 in
/-- GlacierMailModel.readSpeeds -/
noncomputable def p2_s210 : ck_Sum := (((4 : Nat), (0 : Nat), (0 : Nat)), (245 : Nat), [.inr (.inr (.inl (226 : Nat))), .inl (ck_one 51)], ([], [], [((226 : Nat), (9 : Int), (9 : Int), ((0 : Int), (400 : Int), [((1 : Nat), (0 : Int))]))]), ([((226 : Nat), (9 : Int), (9 : Int)), ((226 : Nat), (11 : Int), (11 : Int)), ((227 : Nat), (51 : Int), (56 : Int))], []), zl58)
set_option maxRecDepth 100000 in
theorem p2_s210_s {X : Int → Int} {LX : Nat} : ck_Ok p2_O X LX 260 p2_s210 := ck_okq (cuts := [((2 : Nat), [some (.inr (.inr (.inl (226 : Nat)))), some (.inl (ck_one 51)), some (.inl ((0 : Int), (6 : Int), [])), none], ([], [], [((226 : Nat), (9 : Int), (9 : Int), ((0 : Int), (400 : Int), [((1000001 : Nat), (0 : Int))]))]), (100 : Nat), .inl (2 : Nat), true)]) (f := 174) ⟨p2_nmu, ck_E1 (ck_S1 p2_s166_s ck_S0) (ck_E1 (ck_S1 p2_s168_s ck_S0) ck_E0)⟩ (by decide +kernel)
set_option maxRecDepth 100000 in
/-- GlacierMailModel.readSpeeds -/
noncomputable def p2_s211 : ck_Sum := (((4 : Nat), (0 : Nat), (0 : Nat)), (245 : Nat), [.inr (.inr (.inl (226 : Nat))), .inl (ck_one 44)], ([], [], [((226 : Nat), (9 : Int), (9 : Int), ((0 : Int), (400 : Int), [((1 : Nat), (0 : Int))]))]), ([((226 : Nat), (9 : Int), (9 : Int)), ((226 : Nat), (11 : Int), (11 : Int)), ((227 : Nat), (44 : Int), (49 : Int))], []), zl58)
set_option maxRecDepth 100000 in
theorem p2_s211_s {X : Int → Int} {LX : Nat} : ck_Ok p2_O X LX 260 p2_s211 := ck_okq (cuts := [((2 : Nat), [some (.inr (.inr (.inl (226 : Nat)))), some (.inl (ck_one 44)), some (.inl ((0 : Int), (6 : Int), [])), none], ([], [], [((226 : Nat), (9 : Int), (9 : Int), ((0 : Int), (400 : Int), [((1000001 : Nat), (0 : Int))]))]), (100 : Nat), .inl (2 : Nat), true)]) (f := 174) ⟨p2_nmu, ck_E1 (ck_S1 p2_s166_s ck_S0) (ck_E1 (ck_S1 p2_s168_s ck_S0) ck_E0)⟩ (by decide +kernel)
set_option maxRecDepth 100000 in
/-- GlacierMailModel.readSpeeds -/
noncomputable def p2_s212 : ck_Sum := (((4 : Nat), (0 : Nat), (0 : Nat)), (245 : Nat), [.inr (.inr (.inl (226 : Nat))), .inl (ck_one 37)], ([], [], [((226 : Nat), (9 : Int), (9 : Int), ((0 : Int), (400 : Int), [((1 : Nat), (0 : Int))]))]), ([((226 : Nat), (9 : Int), (9 : Int)), ((226 : Nat), (11 : Int), (11 : Int)), ((227 : Nat), (37 : Int), (42 : Int))], []), zl58)
set_option maxRecDepth 100000 in
theorem p2_s212_s {X : Int → Int} {LX : Nat} : ck_Ok p2_O X LX 260 p2_s212 := ck_okq (cuts := [((2 : Nat), [some (.inr (.inr (.inl (226 : Nat)))), some (.inl (ck_one 37)), some (.inl ((0 : Int), (6 : Int), [])), none], ([], [], [((226 : Nat), (9 : Int), (9 : Int), ((0 : Int), (400 : Int), [((1000001 : Nat), (0 : Int))]))]), (100 : Nat), .inl (2 : Nat), true)]) (f := 174) ⟨p2_nmu, ck_E1 (ck_S1 p2_s166_s ck_S0) (ck_E1 (ck_S1 p2_s168_s ck_S0) ck_E0)⟩ (by decide +kernel)
set_option maxRecDepth 100000 in
/-- GlacierMailModel.readSpeeds -/
noncomputable def p2_s213 : ck_Sum := (((4 : Nat), (0 : Nat), (0 : Nat)), (245 : Nat), [.inr (.inr (.inl (226 : Nat))), .inl (ck_one 30)], ([], [], [((226 : Nat), (9 : Int), (9 : Int), ((0 : Int), (400 : Int), [((1 : Nat), (0 : Int))]))]), ([((226 : Nat), (9 : Int), (9 : Int)), ((226 : Nat), (11 : Int), (11 : Int)), ((227 : Nat), (30 : Int), (35 : Int))], []), zl58)
set_option maxRecDepth 100000 in
theorem p2_s213_s {X : Int → Int} {LX : Nat} : ck_Ok p2_O X LX 260 p2_s213 := ck_okq (cuts := [((2 : Nat), [some (.inr (.inr (.inl (226 : Nat)))), some (.inl (ck_one 30)), some (.inl ((0 : Int), (6 : Int), [])), none], ([], [], [((226 : Nat), (9 : Int), (9 : Int), ((0 : Int), (400 : Int), [((1000001 : Nat), (0 : Int))]))]), (100 : Nat), .inl (2 : Nat), true)]) (f := 174) ⟨p2_nmu, ck_E1 (ck_S1 p2_s166_s ck_S0) (ck_E1 (ck_S1 p2_s168_s ck_S0) ck_E0)⟩ (by decide +kernel)
set_option maxRecDepth 100000 in
/-- GlacierMailModel.readSpeeds -/
noncomputable def p2_s214 : ck_Sum := (((4 : Nat), (0 : Nat), (0 : Nat)), (245 : Nat), [.inr (.inr (.inl (226 : Nat))), .inl (ck_one 23)], ([], [], [((226 : Nat), (9 : Int), (9 : Int), ((0 : Int), (400 : Int), [((1 : Nat), (0 : Int))]))]), ([((226 : Nat), (9 : Int), (9 : Int)), ((226 : Nat), (11 : Int), (11 : Int)), ((227 : Nat), (23 : Int), (28 : Int))], []), zl58)
set_option maxRecDepth 100000 in
theorem p2_s214_s {X : Int → Int} {LX : Nat} : ck_Ok p2_O X LX 260 p2_s214 := ck_okq (cuts := [((2 : Nat), [some (.inr (.inr (.inl (226 : Nat)))), some (.inl (ck_one 23)), some (.inl ((0 : Int), (6 : Int), [])), none], ([], [], [((226 : Nat), (9 : Int), (9 : Int), ((0 : Int), (400 : Int), [((1000001 : Nat), (0 : Int))]))]), (100 : Nat), .inl (2 : Nat), true)]) (f := 174) ⟨p2_nmu, ck_E1 (ck_S1 p2_s166_s ck_S0) (ck_E1 (ck_S1 p2_s168_s ck_S0) ck_E0)⟩ (by decide +kernel)
set_option maxRecDepth 100000 in
/-- GlacierMailModel.readSection -/
noncomputable def p2_s215 : ck_Sum := (((5 : Nat), (0 : Nat), (0 : Nat)), (245 : Nat), [.inr (.inr (.inl (226 : Nat)))], ([], [], [((227 : Nat), (2 : Int), (2 : Int), ((0 : Int), (8 : Int), [((20 : Nat), (0 : Int))])), ((226 : Nat), (9 : Int), (9 : Int), ((0 : Int), (400 : Int), [((1 : Nat), (0 : Int))]))]), ([((226 : Nat), (9 : Int), (9 : Int)), ((226 : Nat), (11 : Int), (11 : Int)), ((227 : Nat), (2 : Int), (2 : Int)), ((227 : Nat), (15 : Int), (70 : Int))], []), [(.inr (some (.inl (ck_one 0))), (245 : Nat), ([], [], [((226 : Nat), (9 : Int), (9 : Int), ((0 : Int), (400 : Int), [((1000001 : Nat), (0 : Int))])), ((227 : Nat), (2 : Int), (2 : Int), ((0 : Int), (8 : Int), [((20 : Nat), (0 : Int))]))])), (.inr (some (.inl (ck_one 1))), (245 : Nat), ([], [], [((227 : Nat), (2 : Int), (2 : Int), ((1 : Int), (8 : Int), [])), ((226 : Nat), (9 : Int), (9 : Int), ((0 : Int), (400 : Int), [((1000001 : Nat), (0 : Int))]))]))])
set_option maxRecDepth 100000 in
theorem p2_s215_s {X : Int → Int} {LX : Nat} : ck_Ok p2_O X LX 258 p2_s215 := ck_okq (cuts := []) (f := 178) ⟨p2_nmu, ck_E1 (ck_S1 p2_s202_s (ck_S1 p2_s204_s (ck_S1 p2_s206_s ck_S0))) (ck_E1 (ck_S1 p2_s207_s (ck_S1 p2_s208_s (ck_S1 p2_s209_s (ck_S1 p2_s210_s (ck_S1 p2_s211_s (ck_S1 p2_s212_s (ck_S1 p2_s213_s (ck_S1 p2_s214_s ck_S0)))))))) (ck_E1 (ck_S1 p2_s180_s ck_S0) ck_E0))⟩ (by decide +kernel)
set_option maxRecDepth 100000 in
/-- GlacierMailModel.isEmpty -/
noncomputable def p2_s216 : ck_Sum := (((1 : Nat), (0 : Nat), (0 : Nat)), (245 : Nat), [.inr (.inr (.inl (226 : Nat)))], ([], [], [((227 : Nat), (2 : Int), (2 : Int), ((0 : Int), (8 : Int), [((20 : Nat), (0 : Int))])), ((227 : Nat), (3 : Int), (3 : Int), ((0 : Int), (8 : Int), [((21 : Nat), (0 : Int))])), ((227 : Nat), (4 : Int), (4 : Int), ((0 : Int), (24 : Int), [((22 : Nat), (0 : Int))])), ((227 : Nat), (5 : Int), (5 : Int), ((0 : Int), (8 : Int), [((23 : Nat), (0 : Int))])), ((227 : Nat), (6 : Int), (6 : Int), ((0 : Int), (6 : Int), [((24 : Nat), (0 : Int))]))]), ([], []), [(.inr (some (.inl (ck_one 0))), (245 : Nat), ([], [], [])), (.inr (some (.inl (ck_one 1))), (245 : Nat), ([], [], []))])
set_option maxRecDepth 100000 in
theorem p2_s216_s {X : Int → Int} {LX : Nat} : ck_Ok p2_O X LX 252 p2_s216 := ck_okq (cuts := []) (f := 118) ⟨p2_nmu, ck_E1 (ck_S1 p2_s186_s ck_S0) (ck_E1 (ck_S1 p2_s176_s ck_S0) ck_E0)⟩ (by decide +kernel)
set_option maxRecDepth 100000 in
/-- GlacierMailModel.figures -/
noncomputable def p2_s217 : ck_Sum := (((2 : Nat), (0 : Nat), (0 : Nat)), (245 : Nat), [.inr (.inr (.inl (226 : Nat))), .inl (ck_one 10), .inl (ck_one 99), .inl (ck_one 4)], ([], [], [((226 : Nat), (9 : Int), (9 : Int), ((0 : Int), (400 : Int), [((1 : Nat), (0 : Int))]))]), ([((226 : Nat), (9 : Int), (9 : Int)), ((226 : Nat), (11 : Int), (11 : Int))], []), zl67)
set_option maxRecDepth 100000 in
theorem p2_s217_s {X : Int → Int} {LX : Nat} : ck_Ok p2_O X LX 256 p2_s217 := ck_okq (cuts := [((7 : Nat), [some (.inr (.inr (.inl (226 : Nat)))), some (.inl (ck_one 10)), some (.inl (ck_one 99)), some (.inl (ck_one 4)), some (.inl ((-2147483648 : Int), (2147483647 : Int), []))], ([], [], [((226 : Nat), (11 : Int), (11 : Int), ((0 : Int), (400 : Int), [((1000001 : Nat), (0 : Int))])), ((226 : Nat), (9 : Int), (9 : Int), ((0 : Int), (400 : Int), [((1000001 : Nat), (0 : Int))]))]), (100 : Nat), .inr ((226 : Nat), (9 : Int)), true)]) (f := 222) ⟨p2_nmu, ck_E1 (ck_S1 p2_s148_s ck_S0) (ck_E1 (ck_S1 p2_s161_s ck_S0) ck_E0)⟩ (by decide +kernel)
set_option maxRecDepth 100000 in
/-- GlacierMailModel.number -/
noncomputable def p2_s218 : ck_Sum := (((3 : Nat), (0 : Nat), (0 : Nat)), (245 : Nat), [.inr (.inr (.inl (226 : Nat))), .inl (ck_one 10), .inl (ck_one 99)], ([], [], [((226 : Nat), (9 : Int), (9 : Int), ((0 : Int), (400 : Int), [((1 : Nat), (0 : Int))]))]), ([((226 : Nat), (9 : Int), (9 : Int)), ((226 : Nat), (11 : Int), (11 : Int))], []), zl67)
set_option maxRecDepth 100000 in
theorem p2_s218_s {X : Int → Int} {LX : Nat} : ck_Ok p2_O X LX 255 p2_s218 := ck_okq (cuts := []) (f := 82) ⟨p2_nmu, ck_E1 (ck_S1 p2_s217_s ck_S0) ck_E0⟩ (by decide +kernel)
set_option maxRecDepth 100000 in
/-- GlacierMailModel.readLast -/
noncomputable def p2_s219 : ck_Sum := (((4 : Nat), (0 : Nat), (0 : Nat)), (245 : Nat), [.inr (.inr (.inl (226 : Nat)))], ([], [], zl68), ([((226 : Nat), (9 : Int), (9 : Int)), ((226 : Nat), (11 : Int), (11 : Int)), ((227 : Nat), (1 : Int), (1 : Int)), ((227 : Nat), (10 : Int), (10 : Int))], []), [(.inr (some (.inl (ck_one 0))), (245 : Nat), ([], [], [((226 : Nat), (9 : Int), (9 : Int), ((0 : Int), (400 : Int), [((1000001 : Nat), (0 : Int))]))])), (.inr (some (.inl (ck_one 1))), (245 : Nat), ([], [], [((227 : Nat), (10 : Int), (10 : Int), ck_one 10), ((227 : Nat), (1 : Int), (1 : Int), ((10 : Int), (99 : Int), [])), ((226 : Nat), (9 : Int), (9 : Int), ((0 : Int), (400 : Int), [((1000001 : Nat), (0 : Int))])), ((226 : Nat), (11 : Int), (11 : Int), ((0 : Int), (400 : Int), [((1000001 : Nat), (0 : Int))]))]))])
set_option maxRecDepth 100000 in
theorem p2_s219_s {X : Int → Int} {LX : Nat} : ck_Ok p2_O X LX 257 p2_s219 := ck_okq (cuts := []) (f := 114) ⟨p2_nmu, ck_E1 (ck_S1 p2_s216_s ck_S0) (ck_E1 (ck_S1 p2_s218_s ck_S0) ck_E0)⟩ (by decide +kernel)
set_option maxRecDepth 100000 in
/-- GlacierMailModel.figures -/
noncomputable def p2_s220 : ck_Sum := (((2 : Nat), (0 : Nat), (0 : Nat)), (245 : Nat), [.inr (.inr (.inl (226 : Nat))), .inl (ck_one 1), .inl (ck_one 6), .inl (ck_one 4)], ([], [], [((226 : Nat), (9 : Int), (9 : Int), ((0 : Int), (400 : Int), [((1 : Nat), (0 : Int))]))]), ([((226 : Nat), (9 : Int), (9 : Int)), ((226 : Nat), (11 : Int), (11 : Int))], []), zl69)
set_option maxRecDepth 100000 in
theorem p2_s220_s {X : Int → Int} {LX : Nat} : ck_Ok p2_O X LX 256 p2_s220 := ck_okq (cuts := [((7 : Nat), [some (.inr (.inr (.inl (226 : Nat)))), some (.inl (ck_one 1)), some (.inl (ck_one 6)), some (.inl (ck_one 4)), some (.inl ((-2147483648 : Int), (2147483647 : Int), []))], ([], [], [((226 : Nat), (11 : Int), (11 : Int), ((0 : Int), (400 : Int), [((1000001 : Nat), (0 : Int))])), ((226 : Nat), (9 : Int), (9 : Int), ((0 : Int), (400 : Int), [((1000001 : Nat), (0 : Int))]))]), (100 : Nat), .inr ((226 : Nat), (9 : Int)), true)]) (f := 222) ⟨p2_nmu, ck_E1 (ck_S1 p2_s148_s ck_S0) (ck_E1 (ck_S1 p2_s161_s ck_S0) ck_E0)⟩ (by decide +kernel)
set_option maxRecDepth 100000 in
/-- GlacierMailModel.number -/
noncomputable def p2_s221 : ck_Sum := (((3 : Nat), (0 : Nat), (0 : Nat)), (245 : Nat), [.inr (.inr (.inl (226 : Nat))), .inl (ck_one 1), .inl (ck_one 6)], ([], [], [((226 : Nat), (9 : Int), (9 : Int), ((0 : Int), (400 : Int), [((1 : Nat), (0 : Int))]))]), ([((226 : Nat), (9 : Int), (9 : Int)), ((226 : Nat), (11 : Int), (11 : Int))], []), zl69)
set_option maxRecDepth 100000 in
theorem p2_s221_s {X : Int → Int} {LX : Nat} : ck_Ok p2_O X LX 255 p2_s221 := ck_okq (cuts := []) (f := 82) ⟨p2_nmu, ck_E1 (ck_S1 p2_s220_s ck_S0) ck_E0⟩ (by decide +kernel)
set_option maxRecDepth 100000 in
/-- GlacierMailModel.readLanes -/
noncomputable def p2_s222 : ck_Sum := (((4 : Nat), (0 : Nat), (0 : Nat)), (245 : Nat), [.inr (.inr (.inl (226 : Nat)))], ([], [], zl68), ([((226 : Nat), (9 : Int), (9 : Int)), ((226 : Nat), (11 : Int), (11 : Int)), ((227 : Nat), (0 : Int), (0 : Int)), ((227 : Nat), (12 : Int), (12 : Int))], []), [(.inr (some (.inl (ck_one 0))), (245 : Nat), ([], [], [((226 : Nat), (9 : Int), (9 : Int), ((0 : Int), (400 : Int), [((1000001 : Nat), (0 : Int))]))])), (.inr (some (.inl (ck_one 1))), (245 : Nat), ([], [], [((227 : Nat), (12 : Int), (12 : Int), ((1 : Int), (6 : Int), [])), ((227 : Nat), (0 : Int), (0 : Int), ((1 : Int), (6 : Int), [])), ((226 : Nat), (9 : Int), (9 : Int), ((0 : Int), (400 : Int), [((1000001 : Nat), (0 : Int))])), ((226 : Nat), (11 : Int), (11 : Int), ((0 : Int), (400 : Int), [((1000001 : Nat), (0 : Int))]))]))])
set_option maxRecDepth 100000 in
theorem p2_s222_s {X : Int → Int} {LX : Nat} : ck_Ok p2_O X LX 251 p2_s222 := ck_okq (cuts := []) (f := 114) ⟨p2_nmu, ck_E1 (ck_S1 p2_s216_s ck_S0) (ck_E1 (ck_S1 p2_s221_s ck_S0) ck_E0)⟩ (by decide +kernel)
set_option maxRecDepth 100000 in
/-- GlacierMailModel.readValleyLine -/
noncomputable def p2_s223 : ck_Sum := (((9 : Nat), (0 : Nat), (0 : Nat)), (245 : Nat), [.inr (.inr (.inl (226 : Nat)))], ([], [], zl70), (zl71, []), zl72)
set_option maxRecDepth 100000 in
theorem p2_s223_s {X : Int → Int} {LX : Nat} : ck_Ok p2_O X LX 249 p2_s223 := ck_okq (cuts := []) (f := 192) ⟨p2_nmu, ck_E1 (ck_S1 p2_s151_s (ck_S1 p2_s152_s (ck_S1 p2_s153_s (ck_S1 p2_s154_s (ck_S1 p2_s155_s (ck_S1 p2_s156_s (ck_S1 p2_s157_s (ck_S1 p2_s158_s (ck_S1 p2_s159_s (ck_S1 p2_s160_s ck_S0)))))))))) (ck_E1 (ck_S1 p2_s163_s (ck_S1 p2_s165_s ck_S0)) (ck_E1 (ck_S1 p2_s166_s ck_S0) (ck_E1 (ck_S1 p2_s175_s ck_S0) (ck_E1 (ck_S1 p2_s185_s ck_S0) (ck_E1 (ck_S1 p2_s189_s ck_S0) (ck_E1 (ck_S1 p2_s195_s ck_S0) (ck_E1 (ck_S1 p2_s200_s ck_S0) (ck_E1 (ck_S1 p2_s215_s ck_S0) (ck_E1 (ck_S1 p2_s219_s ck_S0) (ck_E1 (ck_S1 p2_s222_s ck_S0) ck_E0))))))))))⟩ (by decide +kernel)
set_option maxRecDepth 100000 in
/-- GlacierMailModel.readLine -/
noncomputable def p2_s224 : ck_Sum := (((10 : Nat), (0 : Nat), (0 : Nat)), (245 : Nat), [.inr (.inr (.inl (226 : Nat))), .inl (ck_one 1), .inl (ck_one 0)], ([], [], zl70), (zl71, []), zl72)
set_option maxRecDepth 100000 in
theorem p2_s224_s {X : Int → Int} {LX : Nat} : ck_Ok p2_O X LX 247 p2_s224 := ck_okq (cuts := []) (f := 104) ⟨p2_nmu, ck_E1 (ck_S1 p2_s150_s ck_S0) (ck_E1 (ck_S1 p2_s223_s ck_S0) ck_E0)⟩ (by decide +kernel)
set_option maxRecDepth 100000 in
/-- GlacierMailModel.readLine -/
noncomputable def p2_s225 : ck_Sum := (((10 : Nat), (0 : Nat), (0 : Nat)), (245 : Nat), [.inr (.inr (.inl (226 : Nat))), .inl (ck_one 1), .inl (ck_one 1)], ([], [], zl70), (zl71, []), zl72)
set_option maxRecDepth 100000 in
theorem p2_s225_s {X : Int → Int} {LX : Nat} : ck_Ok p2_O X LX 247 p2_s225 := ck_okq (cuts := []) (f := 104) ⟨p2_nmu, ck_E1 (ck_S1 p2_s150_s ck_S0) (ck_E1 (ck_S1 p2_s223_s ck_S0) ck_E0)⟩ (by decide +kernel)
set_option maxRecDepth 100000 in
/-- GlacierMailModel.readLine -/
noncomputable def p2_s226 : ck_Sum := (((10 : Nat), (0 : Nat), (0 : Nat)), (245 : Nat), [.inr (.inr (.inl (226 : Nat))), .inl (ck_one 1), .inl (ck_one 2)], ([], [], zl70), (zl71, []), zl72)
set_option maxRecDepth 100000 in
theorem p2_s226_s {X : Int → Int} {LX : Nat} : ck_Ok p2_O X LX 247 p2_s226 := ck_okq (cuts := []) (f := 104) ⟨p2_nmu, ck_E1 (ck_S1 p2_s150_s ck_S0) (ck_E1 (ck_S1 p2_s223_s ck_S0) ck_E0)⟩ (by decide +kernel)
set_option maxRecDepth 100000 in
/-- GlacierMailModel.readLine -/
noncomputable def p2_s227 : ck_Sum := (((10 : Nat), (0 : Nat), (0 : Nat)), (245 : Nat), [.inr (.inr (.inl (226 : Nat))), .inl (ck_one 1), .inl (ck_one 3)], ([], [], zl70), (zl71, []), zl72)
set_option maxRecDepth 100000 in
theorem p2_s227_s {X : Int → Int} {LX : Nat} : ck_Ok p2_O X LX 247 p2_s227 := ck_okq (cuts := []) (f := 104) ⟨p2_nmu, ck_E1 (ck_S1 p2_s150_s ck_S0) (ck_E1 (ck_S1 p2_s223_s ck_S0) ck_E0)⟩ (by decide +kernel)
set_option maxRecDepth 100000 in
/-- GlacierMailModel.readLine -/
noncomputable def p2_s228 : ck_Sum := (((10 : Nat), (0 : Nat), (0 : Nat)), (245 : Nat), [.inr (.inr (.inl (226 : Nat))), .inl (ck_one 1), .inl (ck_one 4)], ([], [], zl70), (zl71, []), zl72)
set_option maxRecDepth 100000 in
theorem p2_s228_s {X : Int → Int} {LX : Nat} : ck_Ok p2_O X LX 247 p2_s228 := ck_okq (cuts := []) (f := 104) ⟨p2_nmu, ck_E1 (ck_S1 p2_s150_s ck_S0) (ck_E1 (ck_S1 p2_s223_s ck_S0) ck_E0)⟩ (by decide +kernel)
set_option maxRecDepth 100000 in
/-- GlacierMailModel.readLine -/
noncomputable def p2_s229 : ck_Sum := (((10 : Nat), (0 : Nat), (0 : Nat)), (245 : Nat), [.inr (.inr (.inl (226 : Nat))), .inl (ck_one 1), .inl (ck_one 5)], ([], [], zl70), (zl71, []), zl72)
set_option maxRecDepth 100000 in
theorem p2_s229_s {X : Int → Int} {LX : Nat} : ck_Ok p2_O X LX 247 p2_s229 := ck_okq (cuts := []) (f := 104) ⟨p2_nmu, ck_E1 (ck_S1 p2_s150_s ck_S0) (ck_E1 (ck_S1 p2_s223_s ck_S0) ck_E0)⟩ (by decide +kernel)
set_option maxRecDepth 100000 in
/-- GlacierMailModel.readLine -/
noncomputable def p2_s230 : ck_Sum := (((10 : Nat), (0 : Nat), (0 : Nat)), (245 : Nat), [.inr (.inr (.inl (226 : Nat))), .inl (ck_one 1), .inl (ck_one 6)], ([], [], zl70), (zl71, []), zl72)
set_option maxRecDepth 100000 in
theorem p2_s230_s {X : Int → Int} {LX : Nat} : ck_Ok p2_O X LX 247 p2_s230 := ck_okq (cuts := []) (f := 104) ⟨p2_nmu, ck_E1 (ck_S1 p2_s150_s ck_S0) (ck_E1 (ck_S1 p2_s223_s ck_S0) ck_E0)⟩ (by decide +kernel)
set_option maxRecDepth 100000 in
/-- GlacierMailModel.readLine -/
noncomputable def p2_s231 : ck_Sum := (((10 : Nat), (0 : Nat), (0 : Nat)), (245 : Nat), [.inr (.inr (.inl (226 : Nat))), .inl (ck_one 1), .inl (ck_one 7)], ([], [], zl70), (zl71, []), zl72)
set_option maxRecDepth 100000 in
theorem p2_s231_s {X : Int → Int} {LX : Nat} : ck_Ok p2_O X LX 247 p2_s231 := ck_okq (cuts := []) (f := 104) ⟨p2_nmu, ck_E1 (ck_S1 p2_s150_s ck_S0) (ck_E1 (ck_S1 p2_s223_s ck_S0) ck_E0)⟩ (by decide +kernel)
set_option maxRecDepth 100000 in
/-- GlacierMailModel.readLine -/
noncomputable def p2_s232 : ck_Sum := (((10 : Nat), (0 : Nat), (0 : Nat)), (245 : Nat), [.inr (.inr (.inl (226 : Nat))), .inl (ck_one 1), .inl (ck_one 8)], ([], [], zl70), (zl71, []), zl72)
set_option maxRecDepth 100000 in
theorem p2_s232_s {X : Int → Int} {LX : Nat} : ck_Ok p2_O X LX 247 p2_s232 := ck_okq (cuts := []) (f := 104) ⟨p2_nmu, ck_E1 (ck_S1 p2_s150_s ck_S0) (ck_E1 (ck_S1 p2_s223_s ck_S0) ck_E0)⟩ (by decide +kernel)
set_option maxRecDepth 100000 in
/-- GlacierMailModel.readLine -/
noncomputable def p2_s233 : ck_Sum := (((10 : Nat), (0 : Nat), (0 : Nat)), (245 : Nat), [.inr (.inr (.inl (226 : Nat))), .inl (ck_one 1), .inl (ck_one 9)], ([], [], zl70), (zl71, []), zl72)
set_option maxRecDepth 100000 in
theorem p2_s233_s {X : Int → Int} {LX : Nat} : ck_Ok p2_O X LX 247 p2_s233 := ck_okq (cuts := []) (f := 104) ⟨p2_nmu, ck_E1 (ck_S1 p2_s150_s ck_S0) (ck_E1 (ck_S1 p2_s223_s ck_S0) ck_E0)⟩ (by decide +kernel)
set_option maxRecDepth 100000 in
/-- GlacierMailModel.readLine -/
noncomputable def p2_s234 : ck_Sum := (((10 : Nat), (0 : Nat), (0 : Nat)), (245 : Nat), [.inr (.inr (.inl (226 : Nat))), .inl (ck_one 1), .inl (ck_one 10)], ([], [], zl70), (zl71, []), zl72)
set_option maxRecDepth 100000 in
theorem p2_s234_s {X : Int → Int} {LX : Nat} : ck_Ok p2_O X LX 247 p2_s234 := ck_okq (cuts := []) (f := 104) ⟨p2_nmu, ck_E1 (ck_S1 p2_s150_s ck_S0) (ck_E1 (ck_S1 p2_s223_s ck_S0) ck_E0)⟩ (by decide +kernel)
set_option maxRecDepth 100000 in
/-- GlacierMailModel.readLine -/
noncomputable def p2_s235 : ck_Sum := (((10 : Nat), (0 : Nat), (0 : Nat)), (245 : Nat), [.inr (.inr (.inl (226 : Nat))), .inl (ck_one 1), .inl (ck_one 11)], ([], [], zl70), (zl71, []), zl72)
set_option maxRecDepth 100000 in
theorem p2_s235_s {X : Int → Int} {LX : Nat} : ck_Ok p2_O X LX 247 p2_s235 := ck_okq (cuts := []) (f := 104) ⟨p2_nmu, ck_E1 (ck_S1 p2_s150_s ck_S0) (ck_E1 (ck_S1 p2_s223_s ck_S0) ck_E0)⟩ (by decide +kernel)
set_option maxRecDepth 100000 in
/-- GlacierMailModel.readLine -/
noncomputable def p2_s236 : ck_Sum := (((10 : Nat), (0 : Nat), (0 : Nat)), (245 : Nat), [.inr (.inr (.inl (226 : Nat))), .inl (ck_one 1), .inl (ck_one 12)], ([], [], zl70), (zl71, []), zl72)
set_option maxRecDepth 100000 in
theorem p2_s236_s {X : Int → Int} {LX : Nat} : ck_Ok p2_O X LX 247 p2_s236 := ck_okq (cuts := []) (f := 104) ⟨p2_nmu, ck_E1 (ck_S1 p2_s150_s ck_S0) (ck_E1 (ck_S1 p2_s223_s ck_S0) ck_E0)⟩ (by decide +kernel)
set_option maxRecDepth 100000 in
/-- GlacierMailModel.readLine -/
noncomputable def p2_s237 : ck_Sum := (((10 : Nat), (0 : Nat), (0 : Nat)), (245 : Nat), [.inr (.inr (.inl (226 : Nat))), .inl (ck_one 1), .inl (ck_one 13)], ([], [], zl70), (zl71, []), zl72)
set_option maxRecDepth 100000 in
theorem p2_s237_s {X : Int → Int} {LX : Nat} : ck_Ok p2_O X LX 247 p2_s237 := ck_okq (cuts := []) (f := 104) ⟨p2_nmu, ck_E1 (ck_S1 p2_s150_s ck_S0) (ck_E1 (ck_S1 p2_s223_s ck_S0) ck_E0)⟩ (by decide +kernel)
set_option maxRecDepth 100000 in
/-- GlacierMailModel.readLine -/
noncomputable def p2_s238 : ck_Sum := (((3 : Nat), (0 : Nat), (0 : Nat)), (245 : Nat), [.inr (.inr (.inl (226 : Nat))), .inl (ck_one 1), .inl (ck_one 14)], ([], [], [((226 : Nat), (9 : Int), (9 : Int), ((0 : Int), (400 : Int), [((1 : Nat), (0 : Int))]))]), ([((226 : Nat), (9 : Int), (9 : Int)), ((226 : Nat), (11 : Int), (11 : Int))], []), [(.inr (some (.inl (ck_one 0))), (245 : Nat), ([], [], zl51))])
set_option maxRecDepth 100000 in
theorem p2_s238_s {X : Int → Int} {LX : Nat} : ck_Ok p2_O X LX 247 p2_s238 := ck_okq (cuts := []) (f := 90) ⟨p2_nmu, ck_E1 (ck_S1 p2_s150_s ck_S0) ck_E0⟩ (by decide +kernel)
set_option maxRecDepth 100000 in
/-- GlacierMailModel.isAt -/
noncomputable def p2_s239 : ck_Sum := (((0 : Nat), (0 : Nat), (0 : Nat)), (245 : Nat), [.inr (.inr (.inl (226 : Nat))), .inl (ck_one 59), .inl (ck_one 59)], ([], [], [((226 : Nat), (9 : Int), (9 : Int), ((0 : Int), (400 : Int), [((1 : Nat), (0 : Int))]))]), ([], []), zl50)
set_option maxRecDepth 100000 in
theorem p2_s239_s {X : Int → Int} {LX : Nat} : ck_Ok p2_O X LX 246 p2_s239 := ck_okq (cuts := []) (f := 114) ⟨p2_nmu, ck_E0⟩ (by decide +kernel)
set_option maxRecDepth 100000 in
/-- GlacierMailModel.readAll -/
noncomputable def p2_s240 : ck_Sum := (((11 : Nat), (0 : Nat), (0 : Nat)), (245 : Nat), [.inr (.inr (.inl (226 : Nat))), .inl (ck_one 1)], ([], [], [((227 : Nat), (2 : Int), (2 : Int), ((0 : Int), (8 : Int), [((20 : Nat), (0 : Int))])), ((227 : Nat), (3 : Int), (3 : Int), ((0 : Int), (8 : Int), [((21 : Nat), (0 : Int))])), ((227 : Nat), (4 : Int), (4 : Int), ((0 : Int), (24 : Int), [((22 : Nat), (0 : Int))])), ((227 : Nat), (5 : Int), (5 : Int), ((0 : Int), (8 : Int), [((23 : Nat), (0 : Int))])), ((227 : Nat), (6 : Int), (6 : Int), ((0 : Int), (6 : Int), [((24 : Nat), (0 : Int))])), ((226 : Nat), (9 : Int), (9 : Int), ((0 : Int), (400 : Int), [((1 : Nat), (0 : Int))])), ((226 : Nat), (8 : Int), (8 : Int), ((0 : Int), (400 : Int), [((7 : Nat), (0 : Int))])), ((227 : Nat), (9 : Int), (9 : Int), ((0 : Int), (299 : Int), [((11 : Nat), (0 : Int))]))]), ([((226 : Nat), (0 : Int), (0 : Int)), ((226 : Nat), (8 : Int), (11 : Int)), ((226 : Nat), (15 : Int), (15 : Int)), ((227 : Nat), (0 : Int), (6 : Int)), ((227 : Nat), (10 : Int), (13 : Int)), ((227 : Nat), (15 : Int), (322 : Int))], []), [(.inr (some (.inl (ck_one (-1)))), (245 : Nat), ([], [], zl73)), (.inr (some (.inl ((0 : Int), (14 : Int), []))), (245 : Nat), ([], [], zl73))])
set_option maxRecDepth 100000 in
theorem p2_s240_s {X : Int → Int} {LX : Nat} : ck_Ok p2_O X LX 243 p2_s240 := ck_okq (cuts := []) (f := 812) ⟨p2_nmu, ck_E1 (ck_S1 p2_s146_s ck_S0) (ck_E1 (ck_S1 p2_s148_s ck_S0) (ck_E1 (ck_S1 p2_s224_s (ck_S1 p2_s225_s (ck_S1 p2_s226_s (ck_S1 p2_s227_s (ck_S1 p2_s228_s (ck_S1 p2_s229_s (ck_S1 p2_s230_s (ck_S1 p2_s231_s (ck_S1 p2_s232_s (ck_S1 p2_s233_s (ck_S1 p2_s234_s (ck_S1 p2_s235_s (ck_S1 p2_s236_s (ck_S1 p2_s237_s (ck_S1 p2_s238_s ck_S0))))))))))))))) (ck_E1 (ck_S1 p2_s239_s ck_S0) ck_E0)))⟩ (by decide +kernel)
set_option maxRecDepth 100000 in
/-- GlacierMailModel.throwsIf -/
noncomputable def p2_s241 : ck_Sum := (((0 : Nat), (0 : Nat), (0 : Nat)), (245 : Nat), [.inr (.inr (.inl (226 : Nat))), .inl (ck_one 1), .inl (ck_one 1)], ([], [], []), ([((226 : Nat), (0 : Int), (0 : Int))], []), [(.inr (some (.inl (ck_one 1))), (245 : Nat), ([], [], [((226 : Nat), (0 : Int), (0 : Int), ck_one 1)]))])
set_option maxRecDepth 100000 in
theorem p2_s241_s {X : Int → Int} {LX : Nat} : ck_Ok p2_O X LX 282 p2_s241 := ck_okq (cuts := []) (f := 84) ⟨p2_nmu, ck_E0⟩ (by decide +kernel)
set_option maxRecDepth 100000 in
/-- GlacierMailModel.throwsIf -/
noncomputable def p2_s242 : ck_Sum := (((0 : Nat), (0 : Nat), (0 : Nat)), (245 : Nat), [.inr (.inr (.inl (226 : Nat))), .inl (ck_one 0), .inl (ck_one 1)], ([], [], []), ([], []), [(.inr (some (.inl (ck_one 0))), (245 : Nat), ([], [], []))])
set_option maxRecDepth 100000 in
theorem p2_s242_s {X : Int → Int} {LX : Nat} : ck_Ok p2_O X LX 282 p2_s242 := ck_okq (cuts := []) (f := 78) ⟨p2_nmu, ck_E0⟩ (by decide +kernel)
set_option maxRecDepth 100000 in
/-- GlacierMailModel.throwsIf -/
noncomputable def p2_s243 : ck_Sum := (((0 : Nat), (0 : Nat), (0 : Nat)), (245 : Nat), [.inr (.inr (.inl (226 : Nat))), .inl (ck_one 0), .inl (ck_one 2)], ([], [], []), ([], []), [(.inr (some (.inl (ck_one 0))), (245 : Nat), ([], [], []))])
set_option maxRecDepth 100000 in
theorem p2_s243_s {X : Int → Int} {LX : Nat} : ck_Ok p2_O X LX 282 p2_s243 := ck_okq (cuts := []) (f := 78) ⟨p2_nmu, ck_E0⟩ (by decide +kernel)
set_option maxRecDepth 100000 in
/-- GlacierMailModel.throwsIf -/
noncomputable def p2_s244 : ck_Sum := (((0 : Nat), (0 : Nat), (0 : Nat)), (245 : Nat), [.inr (.inr (.inl (226 : Nat))), .inl (ck_one 1), .inl (ck_one 2)], ([], [], []), ([((226 : Nat), (0 : Int), (0 : Int))], []), [(.inr (some (.inl (ck_one 1))), (245 : Nat), ([], [], [((226 : Nat), (0 : Int), (0 : Int), ck_one 2)]))])
set_option maxRecDepth 100000 in
theorem p2_s244_s {X : Int → Int} {LX : Nat} : ck_Ok p2_O X LX 282 p2_s244 := ck_okq (cuts := []) (f := 84) ⟨p2_nmu, ck_E0⟩ (by decide +kernel)
set_option maxRecDepth 100000 in
/-- GlacierMailModel.warms -/
noncomputable def p2_s245 : ck_Sum := (((0 : Nat), (0 : Nat), (0 : Nat)), (245 : Nat), [.inr (.inr (.inl (226 : Nat)))], ([], [], []), ([((226 : Nat), (26 : Int), (26 : Int)), ((234 : Nat), (0 : Int), (299 : Int))], []), [(.inr none, (245 : Nat), ([], [], [((226 : Nat), (26 : Int), (26 : Int), ck_one (-1))]))])
set_option maxRecDepth 100000 in
theorem p2_s245_s {X : Int → Int} {LX : Nat} : ck_Ok p2_O X LX 235 p2_s245 := ck_okq (cuts := [((10 : Nat), [some (.inr (.inr (.inl (226 : Nat)))), some (.inl ((-2147483648 : Int), (2147483647 : Int), [])), some (.inl ((0 : Int), (300 : Int), []))], ([], [], []), (100 : Nat), .inl (2 : Nat), true)]) (f := 182) ⟨p2_nmu, ck_E0⟩ (by decide +kernel)
set_option maxRecDepth 100000 in
/-- GlacierMailModel.valley -/
noncomputable def p2_s246 : ck_Sum := (((12 : Nat), (0 : Nat), (0 : Nat)), (245 : Nat), [.inr (.inr (.inl (226 : Nat)))], ([], [], [((227 : Nat), (2 : Int), (2 : Int), ((0 : Int), (8 : Int), [((20 : Nat), (0 : Int))])), ((227 : Nat), (3 : Int), (3 : Int), ((0 : Int), (8 : Int), [((21 : Nat), (0 : Int))])), ((227 : Nat), (4 : Int), (4 : Int), ((0 : Int), (24 : Int), [((22 : Nat), (0 : Int))])), ((227 : Nat), (5 : Int), (5 : Int), ((0 : Int), (8 : Int), [((23 : Nat), (0 : Int))])), ((227 : Nat), (6 : Int), (6 : Int), ((0 : Int), (6 : Int), [((24 : Nat), (0 : Int))])), ((227 : Nat), (7 : Int), (7 : Int), ((0 : Int), (12 : Int), [((25 : Nat), (0 : Int))])), ((227 : Nat), (14 : Int), (14 : Int), ((0 : Int), (24 : Int), [((26 : Nat), (0 : Int))])), ((226 : Nat), (6 : Int), (6 : Int), ((0 : Int), (12 : Int), [((27 : Nat), (0 : Int))])), ((226 : Nat), (9 : Int), (9 : Int), ((0 : Int), (400 : Int), [((1 : Nat), (0 : Int))])), ((226 : Nat), (15 : Int), (15 : Int), ((0 : Int), (400 : Int), [((2 : Nat), (0 : Int))])), ((226 : Nat), (8 : Int), (8 : Int), ((0 : Int), (400 : Int), [((7 : Nat), (0 : Int))])), ((227 : Nat), (9 : Int), (9 : Int), ((0 : Int), (299 : Int), [((11 : Nat), (0 : Int))]))]), ([((226 : Nat), (0 : Int), (0 : Int)), ((226 : Nat), (6 : Int), (6 : Int)), ((226 : Nat), (8 : Int), (11 : Int)), ((226 : Nat), (13 : Int), (13 : Int)), ((226 : Nat), (15 : Int), (15 : Int)), ((226 : Nat), (26 : Int), (26 : Int)), ((227 : Nat), (0 : Int), (1243 : Int)), ((229 : Nat), (0 : Int), (1243 : Int)), ((234 : Nat), (0 : Int), (299 : Int))], []), [(.inr (some (.inl ((0 : Int), (12 : Int), []))), (245 : Nat), ([], [], [((226 : Nat), (15 : Int), (15 : Int), ck_one 0), ((226 : Nat), (8 : Int), (8 : Int), ck_one 0), ((226 : Nat), (0 : Int), (0 : Int), ((0 : Int), (2 : Int), []))]))])
noncomputable def p2_s246_E : List (Nat × List ck_Sum) := [((243 : Nat), [p2_s240]), ((282 : Nat), [p2_s241, p2_s242, p2_s243, p2_s244]), ((235 : Nat), [p2_s245])]
set_option maxRecDepth 100000 in
noncomputable def p2_s246_C93 : ck_C := ([some (.inr (.inr (.inl (226 : Nat)))), some (.inl ((-1 : Int), (14 : Int), [])), some (.inl (ck_one 0))], ([], [], [((226 : Nat), (0 : Int), (0 : Int), ((1 : Int), (2 : Int), [])), ((226 : Nat), (13 : Int), (13 : Int), ((-1 : Int), (400 : Int), [])), ((227 : Nat), (4 : Int), (4 : Int), ((0 : Int), (24 : Int), [((1000022 : Nat), (0 : Int))])), ((226 : Nat), (15 : Int), (15 : Int), ck_one 0), ((226 : Nat), (8 : Int), (8 : Int), ck_one 0), ((227 : Nat), (7 : Int), (7 : Int), ((0 : Int), (12 : Int), [((25 : Nat), (0 : Int))])), ((227 : Nat), (14 : Int), (14 : Int), ((0 : Int), (24 : Int), [((26 : Nat), (0 : Int))])), ((226 : Nat), (6 : Int), (6 : Int), ((0 : Int), (12 : Int), [((27 : Nat), (0 : Int))])), ((227 : Nat), (9 : Int), (9 : Int), ((0 : Int), (299 : Int), [((11 : Nat), (0 : Int))]))]), (0 : Nat), .inl (2 : Nat), true)
set_option maxRecDepth 100000 in
noncomputable def p2_s246_C2 : ck_C := ([some (.inr (.inr (.inl (226 : Nat)))), some (.inl (ck_one 0)), none], ([], [], [((227 : Nat), (2 : Int), (2 : Int), ((0 : Int), (8 : Int), [((20 : Nat), (0 : Int))])), ((227 : Nat), (3 : Int), (3 : Int), ((0 : Int), (8 : Int), [((21 : Nat), (0 : Int))])), ((227 : Nat), (4 : Int), (4 : Int), ((0 : Int), (24 : Int), [((22 : Nat), (0 : Int))])), ((227 : Nat), (5 : Int), (5 : Int), ((0 : Int), (8 : Int), [((23 : Nat), (0 : Int))])), ((227 : Nat), (6 : Int), (6 : Int), ((0 : Int), (6 : Int), [((24 : Nat), (0 : Int))])), ((227 : Nat), (7 : Int), (7 : Int), ((0 : Int), (12 : Int), [((25 : Nat), (0 : Int))])), ((227 : Nat), (14 : Int), (14 : Int), ((0 : Int), (24 : Int), [((26 : Nat), (0 : Int))])), ((226 : Nat), (6 : Int), (6 : Int), ((0 : Int), (12 : Int), [((27 : Nat), (0 : Int))])), ((226 : Nat), (9 : Int), (9 : Int), ((0 : Int), (400 : Int), [((1 : Nat), (0 : Int))])), ((226 : Nat), (15 : Int), (15 : Int), ((0 : Int), (400 : Int), [((2 : Nat), (0 : Int))])), ((226 : Nat), (8 : Int), (8 : Int), ((0 : Int), (400 : Int), [((7 : Nat), (0 : Int))])), ((227 : Nat), (9 : Int), (9 : Int), ((0 : Int), (299 : Int), [((11 : Nat), (0 : Int))]))]), (0 : Nat), .inl (1 : Nat), true)
set_option maxRecDepth 100000 in
noncomputable def p2_s246_Z : List (Nat × ck_C) := [((93 : Nat), p2_s246_C93), ((2 : Nat), p2_s246_C2)]
set_option maxRecDepth 100000 in
theorem p2_s246_a : (decide (p2_s246.2.2.1.length ≤ gm_ml 242) && ck_go p2_O none [] p2_s246_E 242 p2_s246.1.1 p2_s246.2.1 p2_s246.2.2.2.2.1 p2_s246.2.2.2.2.2 p2_s246_Z 386 false [(93, p2_s246_C93, 0, 0, 245), (2, p2_s246_C2, 0, 0, 245)] p2_s246.1.2.1 p2_s246.1.2.2 0 (p2_s246.2.2.1.map some ++ List.replicate (gm_ml 242 - p2_s246.2.2.1.length) none) [] p2_s246.2.1 p2_s246.2.2.2.1) = true := by decide +kernel
theorem p2_s246_u : ck_cu p2_s246_Z = true := by decide +kernel
theorem p2_s246_h {X : Int → Int} {LX : Nat} : ck_nmu p2_O ∧ ck_OkE p2_O X LX p2_s246_E := ⟨p2_nmu, ck_E1 (ck_S1 p2_s240_s ck_S0) (ck_E1 (ck_S1 p2_s241_s (ck_S1 p2_s242_s (ck_S1 p2_s243_s (ck_S1 p2_s244_s ck_S0)))) (ck_E1 (ck_S1 p2_s245_s ck_S0) ck_E0))⟩
set_option maxRecDepth 100000 in
theorem p2_s246_g93 : ck_go p2_O none [] p2_s246_E 242 p2_s246.1.1 p2_s246.2.1 p2_s246.2.2.2.2.1 p2_s246.2.2.2.2.2 p2_s246_Z 386 false [] 0 0 118 (p2_s246_C93.1.set 2 (some (.inl (ck_one 1244)))) [] 245 (p2_s246_C93.2.1.1, p2_s246_C93.2.1.2.1, ck_cws [(227, 0, 1243)] p2_s246_C93.2.1.2.2) = true := by decide +kernel
set_option maxRecDepth 100000 in
theorem p2_s246_t93 : cp_tc p2_O 227 229 0 0 1244 = true := by decide +kernel
theorem p2_s246_y93 {X : Int → Int} {LX : Nat} {σ σ0 : Nat → Int} {K0 : gm_K} {R0 : gm_R} {M0 : gm_M} (hσ : ∀ s, s < 100 → σ s = σ0 s) : ck_Hy p2_O X LX 242 p2_s246.1.1 p2_s246.2.2.2.2.1 p2_s246.2.1 K0 R0 M0 (ck_Q p2_O σ0 p2_s246.2.2.2.2.1 p2_s246.2.1 K0 R0 M0 p2_s246.2.2.2.2.2) σ (93, p2_s246_C93, 0, 0, 245) := by
  refine ck_cpH (v := 2) (A := 227) (B := 229) (N := 1244) (wa := 0) (wb := 1243) (pc' := 118) p2_s246_u p2_s246_h hσ ⟨by decide, by decide⟩ (by decide +kernel) (fun bc bs L K R M hS => ?_) p2_s246_g93 (fun _ h => nomatch h)
  · obtain ⟨hF, hl, -, hf, -⟩ := hS
    obtain ⟨u0, l0, g0⟩ := hl.2 0 (.inr (.inr (.inl 226))) rfl
    cases g0
    obtain ⟨u1, lv, x1, rfl, -, e1, e2, -⟩ := hl.2 2 (.inl (ck_one 0)) rfl
    have e1 : (0 : Int) ≤ x1 := e1
    have e2 : x1 ≤ (0 : Int) := e2
    have e3 : x1 = 0 := by omega
    subst e3
    obtain ⟨u2, l2, y2, rfl, -⟩ := hl.2 1 (.inl ((-1), 14, [])) rfl
    have kA : (K 227).2 = 2093 := (md_kd hF md_o.1.2).2
    have kB : (K 229).2 = 1244 := (md_kd hF md_o.2.1.2).2
    refine ⟨0, 0, ⟨by omega, by omega⟩, gm_Fx_cpy hF (cp_tc_s hF p2_s246_t93) (jj_again (K := K) hF.2.2.2.2), fun Q hx => ?_⟩
    exact cp_lp (iv := .iload_n 2) (v := 2) (ixA := 13) (ixB := 20) (jA := 1) (jB := 3) (A := 227) (B := 229) (mo := 226) (p := 93) (qA := 105) (qB := 110) (N := 1244) (offe := 21) (offb := (-22)) (by decide) (md_mo hF) (md_kd hF md_o.1.2).1 (md_kd hF md_o.2.1.2).1 (md_rf hF md_r.1.1) (md_rf hF md_r.2.1) (by decide +kernel) (by decide +kernel) (by decide +kernel) (by decide +kernel) ⟨by omega, ⟨by omega, by omega⟩, ⟨by omega, by omega⟩, by omega, by omega⟩ (fun e => absurd e (by decide)) (by decide) (by decide +kernel) l0 lv ⟨rfl, rfl⟩ ⟨gm_vi y2, l2, by simp [gm_sort]⟩ (by decide +kernel) (by decide +kernel) (by decide +kernel) (by decide) (by decide +kernel) (by decide +kernel) (cp_sg_i (iv := .iload_n 2) lv ⟨rfl, rfl⟩ (by decide +kernel)) (by decide +kernel) (by decide +kernel) (cp_sg_i (iv := .iload_n 2) lv ⟨rfl, rfl⟩ (by decide +kernel)) (by decide +kernel) (by decide +kernel) (by decide +kernel) (by decide +kernel) (by decide) (by decide) hx
set_option maxRecDepth 100000 in
theorem p2_s246_g2 : ck_go p2_O none [] p2_s246_E 242 p2_s246.1.1 p2_s246.2.1 p2_s246.2.2.2.2.1 p2_s246.2.2.2.2.2 p2_s246_Z 386 false [(93, p2_s246_C93, 0, 0, 245)] 0 0 27 (p2_s246_C2.1.set 1 (some (.inl (ck_one 1244)))) [] 245 (p2_s246_C2.2.1.1, p2_s246_C2.2.1.2.1, ck_cws [(229, 0, 1243)] p2_s246_C2.2.1.2.2) = true := by decide +kernel
set_option maxRecDepth 100000 in
theorem p2_s246_t2 : cp_tc p2_O 229 227 0 0 1244 = true := by decide +kernel
theorem p2_s246_y2 {X : Int → Int} {LX : Nat} {σ σ0 : Nat → Int} {K0 : gm_K} {R0 : gm_R} {M0 : gm_M} (hσ : ∀ s, s < 100 → σ s = σ0 s) : ck_Hy p2_O X LX 242 p2_s246.1.1 p2_s246.2.2.2.2.1 p2_s246.2.1 K0 R0 M0 (ck_Q p2_O σ0 p2_s246.2.2.2.2.1 p2_s246.2.1 K0 R0 M0 p2_s246.2.2.2.2.2) σ (2, p2_s246_C2, 0, 0, 245) := by
  refine ck_cpH (v := 1) (A := 229) (B := 227) (N := 1244) (wa := 0) (wb := 1243) (pc' := 27) p2_s246_u p2_s246_h hσ ⟨by decide, by decide⟩ (by decide +kernel) (fun bc bs L K R M hS => ?_) p2_s246_g2 (fun h hm => by
      rcases List.mem_cons.mp hm with rfl | hm
      · exact ⟨by unfold p2_s246_Z; exact List.mem_cons_self, p2_s246_y93 hσ⟩
      · cases hm)
  · obtain ⟨hF, hl, -, hf, -⟩ := hS
    obtain ⟨u0, l0, g0⟩ := hl.2 0 (.inr (.inr (.inl 226))) rfl
    cases g0
    obtain ⟨u1, lv, x1, rfl, -, e1, e2, -⟩ := hl.2 1 (.inl (ck_one 0)) rfl
    have e1 : (0 : Int) ≤ x1 := e1
    have e2 : x1 ≤ (0 : Int) := e2
    have e3 : x1 = 0 := by omega
    subst e3
    have kA : (K 229).2 = 1244 := (md_kd hF md_o.2.1.2).2
    have kB : (K 227).2 = 2093 := (md_kd hF md_o.1.2).2
    refine ⟨0, 0, ⟨by omega, by omega⟩, gm_Fx_cpy hF (cp_tc_s hF p2_s246_t2) (jj_before (K := K) hF.2.2.2.2), fun Q hx => ?_⟩
    exact cp_lp (iv := .iload_n 1) (v := 1) (ixA := 20) (ixB := 13) (jA := 3) (jB := 1) (A := 229) (B := 227) (mo := 226) (p := 2) (qA := 14) (qB := 19) (N := 1244) (offe := 21) (offb := (-22)) (by decide) (md_mo hF) (md_kd hF md_o.2.1.2).1 (md_kd hF md_o.1.2).1 (md_rf hF md_r.2.1) (md_rf hF md_r.1.1) (by decide +kernel) (by decide +kernel) (by decide +kernel) (by decide +kernel) ⟨by omega, ⟨by omega, by omega⟩, ⟨by omega, by omega⟩, by omega, by omega⟩ (fun e => absurd e (by decide)) (by decide) (by decide +kernel) l0 lv ⟨rfl, rfl⟩ ⟨gm_vr 226, l0, by simp [gm_sort]⟩ (by decide +kernel) (by decide +kernel) (by decide +kernel) (by decide) (by decide +kernel) (by decide +kernel) (cp_sg_i (iv := .iload_n 1) lv ⟨rfl, rfl⟩ (by decide +kernel)) (by decide +kernel) (by decide +kernel) (cp_sg_i (iv := .iload_n 1) lv ⟨rfl, rfl⟩ (by decide +kernel)) (by decide +kernel) (by decide +kernel) (by decide +kernel) (by decide +kernel) (by decide) (by decide) hx
theorem p2_s246_s {X : Int → Int} {LX : Nat} : ck_Ok p2_O X LX 242 p2_s246 := by
  refine ck_ok_st (cuts := p2_s246_Z) p2_s246_u p2_s246_h p2_s246_a (fun h hm => ?_)
  rcases List.mem_cons.mp hm with rfl | hm
  · exact ⟨by unfold p2_s246_Z; exact List.mem_cons_self, fun σ K0 R0 M0 => p2_s246_y93 (fun _ _ => rfl)⟩
  rcases List.mem_cons.mp hm with rfl | hm
  · exact ⟨by unfold p2_s246_Z; exact List.mem_cons_of_mem _ (List.mem_cons_self), fun σ K0 R0 M0 => p2_s246_y2 (fun _ _ => rfl)⟩
  cases hm
set_option maxRecDepth 100000 in
/-- GlacierMail.fault -/
noncomputable def p2_s247 : ck_Sum := (((0 : Nat), (0 : Nat), (0 : Nat)), (245 : Nat), [.inr (.inr (.inl (1 : Nat)))], ([], [], []), ([], []), [(.inr (some (.inl (ck_one (-1)))), (245 : Nat), ([], [], [((1 : Nat), (2 : Int), (2 : Int), ck_one (-1))])), (.inr (some (.inl ((0 : Int), (400 : Int), []))), (245 : Nat), ([], [], [((1 : Nat), (2 : Int), (2 : Int), ((0 : Int), (400 : Int), []))]))])
set_option maxRecDepth 100000 in
theorem p2_s247_s {X : Int → Int} {LX : Nat} : ck_Ok p2_O X LX 22 p2_s247 := ck_okq (cuts := []) (f := 76) ⟨p2_nmu, ck_E0⟩ (by decide +kernel)
set_option maxRecDepth 100000 in
/-- GlacierMailModel.fault -/
noncomputable def p2_s248 : ck_Sum := (((0 : Nat), (0 : Nat), (0 : Nat)), (245 : Nat), [.inr (.inr (.inl (226 : Nat)))], ([], [], []), ([((226 : Nat), (0 : Int), (0 : Int))], []), [(.inr (some (.inl (ck_one (-1)))), (245 : Nat), ([], [], [((226 : Nat), (13 : Int), (13 : Int), ck_one (-1)), ((226 : Nat), (0 : Int), (0 : Int), ck_one 0)])), (.inr (some (.inl ((0 : Int), (400 : Int), []))), (245 : Nat), ([], [], [((226 : Nat), (13 : Int), (13 : Int), ((0 : Int), (400 : Int), [])), ((226 : Nat), (0 : Int), (0 : Int), ck_one 0)]))])
set_option maxRecDepth 100000 in
theorem p2_s248_s {X : Int → Int} {LX : Nat} : ck_Ok p2_O X LX 241 p2_s248 := ck_okq (cuts := []) (f := 82) ⟨p2_nmu, ck_E0⟩ (by decide +kernel)
set_option maxRecDepth 100000 in
/-- GlacierMail.needYear -/
noncomputable def p2_s249 : ck_Sum := (((6 : Nat), (1 : Nat), (6 : Nat)), (245 : Nat), [.inr (.inr (.inl (1 : Nat))), .inl ((-2147483648 : Int), (-1 : Int), [])], ([], [], []), ([], []), [(.inl (0 : Nat), (245 : Nat), ([], [], []))])
set_option maxRecDepth 100000 in
theorem p2_s249_s {X : Int → Int} {LX : Nat} : ck_Ok p2_O X LX 129 p2_s249 := ck_okq (cuts := []) (f := 76) ⟨p2_nmu, ck_E0⟩ (by decide +kernel)
set_option maxRecDepth 100000 in
/-- GlacierMail.heat -/
noncomputable def p2_s250 : ck_Sum := (((7 : Nat), (1 : Nat), (6 : Nat)), (245 : Nat), [.inr (.inr (.inl (1 : Nat))), .inl ((-2147483648 : Int), (-1 : Int), [])], ([], [], []), ([], []), [(.inl (0 : Nat), (245 : Nat), ([], [], []))])
set_option maxRecDepth 100000 in
theorem p2_s250_s {X : Int → Int} {LX : Nat} : ck_Ok p2_O X LX 128 p2_s250 := ck_okq (cuts := []) (f := 76) ⟨p2_nmu, ck_E1 (ck_S1 p2_s249_s ck_S0) ck_E0⟩ (by decide +kernel)
set_option maxRecDepth 100000 in
/-- GlacierMail.needYear -/
noncomputable def p2_s251 : ck_Sum := (((6 : Nat), (1 : Nat), (6 : Nat)), (245 : Nat), [.inr (.inr (.inl (1 : Nat))), .inl ((300 : Int), (2147483647 : Int), [])], ([], [], []), ([], []), [(.inl (0 : Nat), (245 : Nat), ([], [], []))])
set_option maxRecDepth 100000 in
theorem p2_s251_s {X : Int → Int} {LX : Nat} : ck_Ok p2_O X LX 129 p2_s251 := ck_okq (cuts := []) (f := 82) ⟨p2_nmu, ck_E0⟩ (by decide +kernel)
set_option maxRecDepth 100000 in
/-- GlacierMail.heat -/
noncomputable def p2_s252 : ck_Sum := (((7 : Nat), (1 : Nat), (6 : Nat)), (245 : Nat), [.inr (.inr (.inl (1 : Nat))), .inl ((300 : Int), (2147483647 : Int), [])], ([], [], []), ([], []), [(.inl (0 : Nat), (245 : Nat), ([], [], []))])
set_option maxRecDepth 100000 in
theorem p2_s252_s {X : Int → Int} {LX : Nat} : ck_Ok p2_O X LX 128 p2_s252 := ck_okq (cuts := []) (f := 76) ⟨p2_nmu, ck_E1 (ck_S1 p2_s251_s ck_S0) ck_E0⟩ (by decide +kernel)
set_option maxRecDepth 100000 in
/-- GlacierMail.needYear -/
noncomputable def p2_s253 : ck_Sum := (((0 : Nat), (0 : Nat), (0 : Nat)), (245 : Nat), [.inr (.inr (.inl (1 : Nat))), .inl ((0 : Int), (299 : Int), [])], ([], [], []), ([], []), [(.inr none, (245 : Nat), ([], [], []))])
set_option maxRecDepth 100000 in
theorem p2_s253_s {X : Int → Int} {LX : Nat} : ck_Ok p2_O X LX 129 p2_s253 := ck_okq (cuts := []) (f := 82) ⟨p2_nmu, ck_E0⟩ (by decide +kernel)
set_option maxRecDepth 100000 in
/-- GlacierMail$Ice.heatIn -/
noncomputable def p2_s254 : ck_Sum := (((0 : Nat), (0 : Nat), (0 : Nat)), (245 : Nat), [.inr (.inr (.inl (200 : Nat))), .inl ((0 : Int), (299 : Int), [])], ([], [], []), ([], []), [(.inr (some (.inl ((0 : Int), (9 : Int), []))), (245 : Nat), ([], [], []))])
set_option maxRecDepth 100000 in
theorem p2_s254_s {X : Int → Int} {LX : Nat} : ck_Ok p2_O X LX 34 p2_s254 := ck_okq (cuts := []) (f := 92) ⟨p2_nmu, ck_E0⟩ (by decide +kernel)
set_option maxRecDepth 100000 in
/-- GlacierMail.heat -/
noncomputable def p2_s255 : ck_Sum := (((1 : Nat), (0 : Nat), (0 : Nat)), (245 : Nat), [.inr (.inr (.inl (1 : Nat))), .inl ((0 : Int), (299 : Int), [])], ([], [], []), ([], []), [(.inr (some (.inl ((0 : Int), (9 : Int), []))), (245 : Nat), ([], [], []))])
set_option maxRecDepth 100000 in
theorem p2_s255_s {X : Int → Int} {LX : Nat} : ck_Ok p2_O X LX 128 p2_s255 := ck_okq (cuts := []) (f := 86) ⟨p2_nmu, ck_E1 (ck_S1 p2_s253_s ck_S0) (ck_E1 (ck_S1 p2_s254_s ck_S0) ck_E0)⟩ (by decide +kernel)
set_option maxRecDepth 100000 in
/-- GlacierMailModel.in -/
noncomputable def p2_s256 : ck_Sum := (((0 : Nat), (0 : Nat), (0 : Nat)), (245 : Nat), [.inl ((-2147483648 : Int), (-1 : Int), []), .inl (ck_one 0), .inl (ck_one 299)], ([], [], []), ([], []), [(.inr (some (.inl (ck_one 0))), (245 : Nat), ([], [], []))])
set_option maxRecDepth 100000 in
theorem p2_s256_s {X : Int → Int} {LX : Nat} : ck_Ok p2_O X LX 286 p2_s256 := ck_okq (cuts := []) (f := 80) ⟨p2_nmu, ck_E0⟩ (by decide +kernel)
set_option maxRecDepth 100000 in
/-- GlacierMailModel.noYear -/
noncomputable def p2_s257 : ck_Sum := (((1 : Nat), (0 : Nat), (0 : Nat)), (245 : Nat), [.inl ((-2147483648 : Int), (-1 : Int), [])], ([], [], []), ([], []), [(.inr (some (.inl (ck_one 1))), (245 : Nat), ([], [], []))])
set_option maxRecDepth 100000 in
theorem p2_s257_s {X : Int → Int} {LX : Nat} : ck_Ok p2_O X LX 285 p2_s257 := ck_okq (cuts := []) (f := 86) ⟨p2_nmu, ck_E1 (ck_S1 p2_s256_s ck_S0) ck_E0⟩ (by decide +kernel)
set_option maxRecDepth 100000 in
/-- GlacierMailModel.heat -/
noncomputable def p2_s258 : ck_Sum := (((2 : Nat), (0 : Nat), (0 : Nat)), (245 : Nat), [.inr (.inr (.inl (226 : Nat))), .inl ((-2147483648 : Int), (-1 : Int), [])], ([], [], []), ([((226 : Nat), (0 : Int), (0 : Int))], []), [(.inr (some (.inl (ck_one 0))), (245 : Nat), ([], [], [((226 : Nat), (0 : Int), (0 : Int), ck_one 1)]))])
set_option maxRecDepth 100000 in
theorem p2_s258_s {X : Int → Int} {LX : Nat} : ck_Ok p2_O X LX 284 p2_s258 := ck_okq (cuts := []) (f := 94) ⟨p2_nmu, ck_E1 (ck_S1 p2_s257_s ck_S0) (ck_E1 (ck_S1 p2_s241_s ck_S0) ck_E0)⟩ (by decide +kernel)
set_option maxRecDepth 100000 in
/-- GlacierMailModel.in -/
noncomputable def p2_s259 : ck_Sum := (((0 : Nat), (0 : Nat), (0 : Nat)), (245 : Nat), [.inl ((300 : Int), (2147483647 : Int), []), .inl (ck_one 0), .inl (ck_one 299)], ([], [], []), ([], []), [(.inr (some (.inl (ck_one 0))), (245 : Nat), ([], [], []))])
set_option maxRecDepth 100000 in
theorem p2_s259_s {X : Int → Int} {LX : Nat} : ck_Ok p2_O X LX 286 p2_s259 := ck_okq (cuts := []) (f := 86) ⟨p2_nmu, ck_E0⟩ (by decide +kernel)
set_option maxRecDepth 100000 in
/-- GlacierMailModel.noYear -/
noncomputable def p2_s260 : ck_Sum := (((1 : Nat), (0 : Nat), (0 : Nat)), (245 : Nat), [.inl ((300 : Int), (2147483647 : Int), [])], ([], [], []), ([], []), [(.inr (some (.inl (ck_one 1))), (245 : Nat), ([], [], []))])
set_option maxRecDepth 100000 in
theorem p2_s260_s {X : Int → Int} {LX : Nat} : ck_Ok p2_O X LX 285 p2_s260 := ck_okq (cuts := []) (f := 86) ⟨p2_nmu, ck_E1 (ck_S1 p2_s259_s ck_S0) ck_E0⟩ (by decide +kernel)
set_option maxRecDepth 100000 in
/-- GlacierMailModel.heat -/
noncomputable def p2_s261 : ck_Sum := (((2 : Nat), (0 : Nat), (0 : Nat)), (245 : Nat), [.inr (.inr (.inl (226 : Nat))), .inl ((300 : Int), (2147483647 : Int), [])], ([], [], []), ([((226 : Nat), (0 : Int), (0 : Int))], []), [(.inr (some (.inl (ck_one 0))), (245 : Nat), ([], [], [((226 : Nat), (0 : Int), (0 : Int), ck_one 1)]))])
set_option maxRecDepth 100000 in
theorem p2_s261_s {X : Int → Int} {LX : Nat} : ck_Ok p2_O X LX 284 p2_s261 := ck_okq (cuts := []) (f := 94) ⟨p2_nmu, ck_E1 (ck_S1 p2_s260_s ck_S0) (ck_E1 (ck_S1 p2_s241_s ck_S0) ck_E0)⟩ (by decide +kernel)
set_option maxRecDepth 100000 in
/-- GlacierMailModel.in -/
noncomputable def p2_s262 : ck_Sum := (((0 : Nat), (0 : Nat), (0 : Nat)), (245 : Nat), [.inl ((0 : Int), (299 : Int), []), .inl (ck_one 0), .inl (ck_one 299)], ([], [], []), ([], []), [(.inr (some (.inl (ck_one 1))), (245 : Nat), ([], [], []))])
set_option maxRecDepth 100000 in
theorem p2_s262_s {X : Int → Int} {LX : Nat} : ck_Ok p2_O X LX 286 p2_s262 := ck_okq (cuts := []) (f := 88) ⟨p2_nmu, ck_E0⟩ (by decide +kernel)
set_option maxRecDepth 100000 in
/-- GlacierMailModel.noYear -/
noncomputable def p2_s263 : ck_Sum := (((1 : Nat), (0 : Nat), (0 : Nat)), (245 : Nat), [.inl ((0 : Int), (299 : Int), [])], ([], [], []), ([], []), [(.inr (some (.inl (ck_one 0))), (245 : Nat), ([], [], []))])
set_option maxRecDepth 100000 in
theorem p2_s263_s {X : Int → Int} {LX : Nat} : ck_Ok p2_O X LX 285 p2_s263 := ck_okq (cuts := []) (f := 84) ⟨p2_nmu, ck_E1 (ck_S1 p2_s262_s ck_S0) ck_E0⟩ (by decide +kernel)
set_option maxRecDepth 100000 in
/-- GlacierMailModel.heat -/
noncomputable def p2_s264 : ck_Sum := (((2 : Nat), (0 : Nat), (0 : Nat)), (245 : Nat), [.inr (.inr (.inl (226 : Nat))), .inl ((0 : Int), (299 : Int), [])], ([], [], []), ([((226 : Nat), (0 : Int), (0 : Int))], []), [(.inr (some (.inl ((0 : Int), (9 : Int), []))), (245 : Nat), ([], [], [((226 : Nat), (0 : Int), (0 : Int), ck_one 0)]))])
set_option maxRecDepth 100000 in
theorem p2_s264_s {X : Int → Int} {LX : Nat} : ck_Ok p2_O X LX 284 p2_s264 := ck_okq (cuts := []) (f := 98) ⟨p2_nmu, ck_E1 (ck_S1 p2_s263_s ck_S0) (ck_E1 (ck_S1 p2_s242_s ck_S0) ck_E0)⟩ (by decide +kernel)
set_option maxRecDepth 100000 in
/-- GlacierMail.need -/
noncomputable def p2_s265 : ck_Sum := (((6 : Nat), (1 : Nat), (6 : Nat)), (245 : Nat), [.inr (.inr (.inl (1 : Nat))), .inl ((-2147483648 : Int), (-1 : Int), []), .inl ((1 : Int), (6 : Int), [])], ([], [], []), ([], []), [(.inl (3 : Nat), (245 : Nat), ([], [], []))])
set_option maxRecDepth 100000 in
theorem p2_s265_s {X : Int → Int} {LX : Nat} : ck_Ok p2_O X LX 133 p2_s265 := ck_okq (cuts := []) (f := 76) ⟨p2_nmu, ck_E0⟩ (by decide +kernel)
set_option maxRecDepth 100000 in
/-- GlacierMail.needLane -/
noncomputable def p2_s266 : ck_Sum := (((7 : Nat), (1 : Nat), (6 : Nat)), (245 : Nat), [.inr (.inr (.inl (1 : Nat))), .inl ((-2147483648 : Int), (-1 : Int), [])], ([], [], []), ([], []), [(.inl (3 : Nat), (245 : Nat), ([], [], []))])
set_option maxRecDepth 100000 in
theorem p2_s266_s {X : Int → Int} {LX : Nat} : ck_Ok p2_O X LX 132 p2_s266 := ck_okq (cuts := []) (f := 82) ⟨p2_nmu, ck_E1 (ck_S1 p2_s265_s ck_S0) ck_E0⟩ (by decide +kernel)
set_option maxRecDepth 100000 in
/-- GlacierMail.speed -/
noncomputable def p2_s267 : ck_Sum := (((8 : Nat), (1 : Nat), (6 : Nat)), (245 : Nat), [.inr (.inr (.inl (1 : Nat))), .inl ((-2147483648 : Int), (-1 : Int), []), .inl ((-2147483648 : Int), (2147483647 : Int), [])], ([], [], []), ([], []), [(.inl (3 : Nat), (245 : Nat), ([], [], []))])
set_option maxRecDepth 100000 in
theorem p2_s267_s {X : Int → Int} {LX : Nat} : ck_Ok p2_O X LX 131 p2_s267 := ck_okq (cuts := []) (f := 76) ⟨p2_nmu, ck_E1 (ck_S1 p2_s266_s ck_S0) ck_E0⟩ (by decide +kernel)
set_option maxRecDepth 100000 in
/-- GlacierMail.need -/
noncomputable def p2_s268 : ck_Sum := (((6 : Nat), (1 : Nat), (6 : Nat)), (245 : Nat), [.inr (.inr (.inl (1 : Nat))), .inl ((6 : Int), (2147483647 : Int), []), .inl ((1 : Int), (6 : Int), [])], ([], [], []), ([], []), [(.inl (3 : Nat), (245 : Nat), ([], [], []))])
set_option maxRecDepth 100000 in
theorem p2_s268_s {X : Int → Int} {LX : Nat} : ck_Ok p2_O X LX 133 p2_s268 := ck_okq (cuts := []) (f := 82) ⟨p2_nmu, ck_E0⟩ (by decide +kernel)
set_option maxRecDepth 100000 in
/-- GlacierMail.needLane -/
noncomputable def p2_s269 : ck_Sum := (((7 : Nat), (1 : Nat), (6 : Nat)), (245 : Nat), [.inr (.inr (.inl (1 : Nat))), .inl ((6 : Int), (2147483647 : Int), [])], ([], [], []), ([], []), [(.inl (3 : Nat), (245 : Nat), ([], [], []))])
set_option maxRecDepth 100000 in
theorem p2_s269_s {X : Int → Int} {LX : Nat} : ck_Ok p2_O X LX 132 p2_s269 := ck_okq (cuts := []) (f := 82) ⟨p2_nmu, ck_E1 (ck_S1 p2_s268_s ck_S0) ck_E0⟩ (by decide +kernel)
end
/-! 78r80a03.sf -/
section
/-! EVERY CALL ENDS, whatever was done before (laid by wip/am/p2k.py). -/
set_option maxRecDepth 100000 in
/-- GlacierMail.speed -/
noncomputable def p2_s270 : ck_Sum := (((8 : Nat), (1 : Nat), (6 : Nat)), (245 : Nat), [.inr (.inr (.inl (1 : Nat))), .inl ((6 : Int), (2147483647 : Int), []), .inl ((-2147483648 : Int), (2147483647 : Int), [])], ([], [], []), ([], []), [(.inl (3 : Nat), (245 : Nat), ([], [], []))])
set_option maxRecDepth 100000 in
theorem p2_s270_s {X : Int → Int} {LX : Nat} : ck_Ok p2_O X LX 131 p2_s270 := ck_okq (cuts := []) (f := 76) ⟨p2_nmu, ck_E1 (ck_S1 p2_s269_s ck_S0) ck_E0⟩ (by decide +kernel)
set_option maxRecDepth 100000 in
/-- GlacierMail.need -/
noncomputable def p2_s271 : ck_Sum := (((6 : Nat), (1 : Nat), (6 : Nat)), (245 : Nat), [.inr (.inr (.inl (1 : Nat))), .inl ((0 : Int), (5 : Int), []), .inl ((1 : Int), (6 : Int), [])], ([], [], []), ([], []), [(.inr none, (245 : Nat), ([], [], [])), (.inl (3 : Nat), (245 : Nat), ([], [], []))])
set_option maxRecDepth 100000 in
theorem p2_s271_s {X : Int → Int} {LX : Nat} : ck_Ok p2_O X LX 133 p2_s271 := ck_okq (cuts := []) (f := 82) ⟨p2_nmu, ck_E0⟩ (by decide +kernel)
set_option maxRecDepth 100000 in
/-- GlacierMail.needLane -/
noncomputable def p2_s272 : ck_Sum := (((7 : Nat), (1 : Nat), (6 : Nat)), (245 : Nat), [.inr (.inr (.inl (1 : Nat))), .inl ((0 : Int), (5 : Int), [])], ([], [], []), ([], []), [(.inl (3 : Nat), (245 : Nat), ([], [], [])), (.inr none, (245 : Nat), ([], [], []))])
set_option maxRecDepth 100000 in
theorem p2_s272_s {X : Int → Int} {LX : Nat} : ck_Ok p2_O X LX 132 p2_s272 := ck_okq (cuts := []) (f := 84) ⟨p2_nmu, ck_E1 (ck_S1 p2_s271_s ck_S0) ck_E0⟩ (by decide +kernel)
set_option maxRecDepth 100000 in
/-- GlacierMail.need -/
noncomputable def p2_s273 : ck_Sum := (((6 : Nat), (1 : Nat), (6 : Nat)), (245 : Nat), [.inr (.inr (.inl (1 : Nat))), .inl ((-2147483648 : Int), (-1 : Int), []), .inl ((10 : Int), (99 : Int), [])], ([], [], []), ([], []), [(.inl (3 : Nat), (245 : Nat), ([], [], []))])
set_option maxRecDepth 100000 in
theorem p2_s273_s {X : Int → Int} {LX : Nat} : ck_Ok p2_O X LX 133 p2_s273 := ck_okq (cuts := []) (f := 76) ⟨p2_nmu, ck_E0⟩ (by decide +kernel)
set_option maxRecDepth 100000 in
/-- GlacierMail.needRow -/
noncomputable def p2_s274 : ck_Sum := (((7 : Nat), (1 : Nat), (6 : Nat)), (245 : Nat), [.inr (.inr (.inl (1 : Nat))), .inl ((-2147483648 : Int), (-1 : Int), [])], ([], [], []), ([], []), [(.inl (3 : Nat), (245 : Nat), ([], [], []))])
set_option maxRecDepth 100000 in
theorem p2_s274_s {X : Int → Int} {LX : Nat} : ck_Ok p2_O X LX 134 p2_s274 := ck_okq (cuts := []) (f := 82) ⟨p2_nmu, ck_E1 (ck_S1 p2_s273_s ck_S0) ck_E0⟩ (by decide +kernel)
set_option maxRecDepth 100000 in
/-- GlacierMail.speed -/
noncomputable def p2_s275 : ck_Sum := (((8 : Nat), (2 : Nat), (12 : Nat)), (245 : Nat), [.inr (.inr (.inl (1 : Nat))), .inl ((0 : Int), (5 : Int), []), .inl ((-2147483648 : Int), (-1 : Int), [])], ([], [], []), ([], []), [(.inl (3 : Nat), (245 : Nat), ([], [], []))])
set_option maxRecDepth 100000 in
theorem p2_s275_s {X : Int → Int} {LX : Nat} : ck_Ok p2_O X LX 131 p2_s275 := ck_okq (cuts := []) (f := 82) ⟨p2_nmu, ck_E1 (ck_S1 p2_s272_s ck_S0) (ck_E1 (ck_S1 p2_s274_s ck_S0) ck_E0)⟩ (by decide +kernel)
set_option maxRecDepth 100000 in
/-- GlacierMail.need -/
noncomputable def p2_s276 : ck_Sum := (((6 : Nat), (1 : Nat), (6 : Nat)), (245 : Nat), [.inr (.inr (.inl (1 : Nat))), .inl ((99 : Int), (2147483647 : Int), []), .inl ((10 : Int), (99 : Int), [])], ([], [], []), ([], []), [(.inl (3 : Nat), (245 : Nat), ([], [], []))])
set_option maxRecDepth 100000 in
theorem p2_s276_s {X : Int → Int} {LX : Nat} : ck_Ok p2_O X LX 133 p2_s276 := ck_okq (cuts := []) (f := 82) ⟨p2_nmu, ck_E0⟩ (by decide +kernel)
set_option maxRecDepth 100000 in
/-- GlacierMail.needRow -/
noncomputable def p2_s277 : ck_Sum := (((7 : Nat), (1 : Nat), (6 : Nat)), (245 : Nat), [.inr (.inr (.inl (1 : Nat))), .inl ((99 : Int), (2147483647 : Int), [])], ([], [], []), ([], []), [(.inl (3 : Nat), (245 : Nat), ([], [], []))])
set_option maxRecDepth 100000 in
theorem p2_s277_s {X : Int → Int} {LX : Nat} : ck_Ok p2_O X LX 134 p2_s277 := ck_okq (cuts := []) (f := 82) ⟨p2_nmu, ck_E1 (ck_S1 p2_s276_s ck_S0) ck_E0⟩ (by decide +kernel)
set_option maxRecDepth 100000 in
/-- GlacierMail.speed -/
noncomputable def p2_s278 : ck_Sum := (((8 : Nat), (2 : Nat), (12 : Nat)), (245 : Nat), [.inr (.inr (.inl (1 : Nat))), .inl ((0 : Int), (5 : Int), []), .inl ((99 : Int), (2147483647 : Int), [])], ([], [], []), ([], []), [(.inl (3 : Nat), (245 : Nat), ([], [], []))])
set_option maxRecDepth 100000 in
theorem p2_s278_s {X : Int → Int} {LX : Nat} : ck_Ok p2_O X LX 131 p2_s278 := ck_okq (cuts := []) (f := 82) ⟨p2_nmu, ck_E1 (ck_S1 p2_s272_s ck_S0) (ck_E1 (ck_S1 p2_s277_s ck_S0) ck_E0)⟩ (by decide +kernel)
set_option maxRecDepth 100000 in
/-- GlacierMail.need -/
noncomputable def p2_s279 : ck_Sum := (((6 : Nat), (1 : Nat), (6 : Nat)), (245 : Nat), [.inr (.inr (.inl (1 : Nat))), .inl ((0 : Int), (98 : Int), []), .inl ((10 : Int), (99 : Int), [])], ([], [], []), ([], []), [(.inr none, (245 : Nat), ([], [], [])), (.inl (3 : Nat), (245 : Nat), ([], [], []))])
set_option maxRecDepth 100000 in
theorem p2_s279_s {X : Int → Int} {LX : Nat} : ck_Ok p2_O X LX 133 p2_s279 := ck_okq (cuts := []) (f := 82) ⟨p2_nmu, ck_E0⟩ (by decide +kernel)
set_option maxRecDepth 100000 in
/-- GlacierMail.needRow -/
noncomputable def p2_s280 : ck_Sum := (((7 : Nat), (1 : Nat), (6 : Nat)), (245 : Nat), [.inr (.inr (.inl (1 : Nat))), .inl ((0 : Int), (98 : Int), [])], ([], [], []), ([], []), [(.inl (3 : Nat), (245 : Nat), ([], [], [])), (.inr none, (245 : Nat), ([], [], []))])
set_option maxRecDepth 100000 in
theorem p2_s280_s {X : Int → Int} {LX : Nat} : ck_Ok p2_O X LX 134 p2_s280 := ck_okq (cuts := []) (f := 84) ⟨p2_nmu, ck_E1 (ck_S1 p2_s279_s ck_S0) ck_E0⟩ (by decide +kernel)
set_option maxRecDepth 100000 in
/-- GlacierMail$Ice.speedAt -/
noncomputable def p2_s281 : ck_Sum := (((0 : Nat), (0 : Nat), (0 : Nat)), (245 : Nat), [.inr (.inr (.inl (200 : Nat))), .inl ((0 : Int), (5 : Int), []), .inl ((0 : Int), (98 : Int), [])], ([], [], []), ([], []), [(.inr (some (.inl ((-1 : Int), (98 : Int), []))), (245 : Nat), ([], [], []))])
set_option maxRecDepth 100000 in
theorem p2_s281_s {X : Int → Int} {LX : Nat} : ck_Ok p2_O X LX 36 p2_s281 := ck_okq (cuts := []) (f := 108) ⟨p2_nmu, ck_E0⟩ (by decide +kernel)
set_option maxRecDepth 100000 in
/-- GlacierMail.speed -/
noncomputable def p2_s282 : ck_Sum := (((8 : Nat), (2 : Nat), (12 : Nat)), (245 : Nat), [.inr (.inr (.inl (1 : Nat))), .inl ((0 : Int), (5 : Int), []), .inl ((0 : Int), (98 : Int), [])], ([], [], []), ([], []), [(.inl (3 : Nat), (245 : Nat), ([], [], [])), (.inr (some (.inl ((-1 : Int), (98 : Int), []))), (245 : Nat), ([], [], []))])
set_option maxRecDepth 100000 in
theorem p2_s282_s {X : Int → Int} {LX : Nat} : ck_Ok p2_O X LX 131 p2_s282 := ck_okq (cuts := []) (f := 94) ⟨p2_nmu, ck_E1 (ck_S1 p2_s272_s ck_S0) (ck_E1 (ck_S1 p2_s280_s ck_S0) (ck_E1 (ck_S1 p2_s281_s ck_S0) ck_E0))⟩ (by decide +kernel)
set_option maxRecDepth 100000 in
/-- GlacierMailModel.in -/
noncomputable def p2_s283 : ck_Sum := (((0 : Nat), (0 : Nat), (0 : Nat)), (245 : Nat), [.inl ((-2147483648 : Int), (-1 : Int), []), .inl (ck_one 0), .inl ((-1 : Int), (5 : Int), [])], ([], [], []), ([], []), [(.inr (some (.inl (ck_one 0))), (245 : Nat), ([], [], []))])
set_option maxRecDepth 100000 in
theorem p2_s283_s {X : Int → Int} {LX : Nat} : ck_Ok p2_O X LX 286 p2_s283 := ck_okq (cuts := []) (f := 80) ⟨p2_nmu, ck_E0⟩ (by decide +kernel)
set_option maxRecDepth 100000 in
/-- GlacierMailModel.noLane -/
noncomputable def p2_s284 : ck_Sum := (((1 : Nat), (0 : Nat), (0 : Nat)), (245 : Nat), [.inr (.inr (.inl (226 : Nat))), .inl ((-2147483648 : Int), (-1 : Int), [])], ([], [], []), ([], []), [(.inr (some (.inl (ck_one 1))), (245 : Nat), ([], [], []))])
set_option maxRecDepth 100000 in
theorem p2_s284_s {X : Int → Int} {LX : Nat} : ck_Ok p2_O X LX 288 p2_s284 := ck_okq (cuts := []) (f := 92) ⟨p2_nmu, ck_E1 (ck_S1 p2_s166_s ck_S0) (ck_E1 (ck_S1 p2_s283_s ck_S0) ck_E0)⟩ (by decide +kernel)
set_option maxRecDepth 100000 in
/-- GlacierMailModel.speed -/
noncomputable def p2_s285 : ck_Sum := (((2 : Nat), (0 : Nat), (0 : Nat)), (245 : Nat), [.inr (.inr (.inl (226 : Nat))), .inl ((-2147483648 : Int), (-1 : Int), []), .inl ((-2147483648 : Int), (2147483647 : Int), [])], ([], [], []), ([((226 : Nat), (0 : Int), (0 : Int))], []), [(.inr (some (.inl (ck_one 0))), (245 : Nat), ([], [], [((226 : Nat), (0 : Int), (0 : Int), ck_one 1)]))])
set_option maxRecDepth 100000 in
theorem p2_s285_s {X : Int → Int} {LX : Nat} : ck_Ok p2_O X LX 287 p2_s285 := ck_okq (cuts := []) (f := 102) ⟨p2_nmu, ck_E1 (ck_S1 p2_s284_s ck_S0) (ck_E1 (ck_S1 p2_s241_s ck_S0) ck_E0)⟩ (by decide +kernel)
set_option maxRecDepth 100000 in
/-- GlacierMailModel.in -/
noncomputable def p2_s286 : ck_Sum := (((0 : Nat), (0 : Nat), (0 : Nat)), (245 : Nat), [.inl ((6 : Int), (2147483647 : Int), []), .inl (ck_one 0), .inl ((-1 : Int), (5 : Int), [])], ([], [], []), ([], []), [(.inr (some (.inl (ck_one 0))), (245 : Nat), ([], [], []))])
set_option maxRecDepth 100000 in
theorem p2_s286_s {X : Int → Int} {LX : Nat} : ck_Ok p2_O X LX 286 p2_s286 := ck_okq (cuts := []) (f := 86) ⟨p2_nmu, ck_E0⟩ (by decide +kernel)
set_option maxRecDepth 100000 in
/-- GlacierMailModel.noLane -/
noncomputable def p2_s287 : ck_Sum := (((1 : Nat), (0 : Nat), (0 : Nat)), (245 : Nat), [.inr (.inr (.inl (226 : Nat))), .inl ((6 : Int), (2147483647 : Int), [])], ([], [], []), ([], []), [(.inr (some (.inl (ck_one 1))), (245 : Nat), ([], [], []))])
set_option maxRecDepth 100000 in
theorem p2_s287_s {X : Int → Int} {LX : Nat} : ck_Ok p2_O X LX 288 p2_s287 := ck_okq (cuts := []) (f := 92) ⟨p2_nmu, ck_E1 (ck_S1 p2_s166_s ck_S0) (ck_E1 (ck_S1 p2_s286_s ck_S0) ck_E0)⟩ (by decide +kernel)
set_option maxRecDepth 100000 in
/-- GlacierMailModel.speed -/
noncomputable def p2_s288 : ck_Sum := (((2 : Nat), (0 : Nat), (0 : Nat)), (245 : Nat), [.inr (.inr (.inl (226 : Nat))), .inl ((6 : Int), (2147483647 : Int), []), .inl ((-2147483648 : Int), (2147483647 : Int), [])], ([], [], []), ([((226 : Nat), (0 : Int), (0 : Int))], []), [(.inr (some (.inl (ck_one 0))), (245 : Nat), ([], [], [((226 : Nat), (0 : Int), (0 : Int), ck_one 1)]))])
set_option maxRecDepth 100000 in
theorem p2_s288_s {X : Int → Int} {LX : Nat} : ck_Ok p2_O X LX 287 p2_s288 := ck_okq (cuts := []) (f := 102) ⟨p2_nmu, ck_E1 (ck_S1 p2_s287_s ck_S0) (ck_E1 (ck_S1 p2_s241_s ck_S0) ck_E0)⟩ (by decide +kernel)
set_option maxRecDepth 100000 in
/-- GlacierMailModel.in -/
noncomputable def p2_s289 : ck_Sum := (((0 : Nat), (0 : Nat), (0 : Nat)), (245 : Nat), [.inl ((0 : Int), (5 : Int), []), .inl (ck_one 0), .inl ((-1 : Int), (5 : Int), [])], ([], [], []), ([], []), [(.inr (some (.inl (ck_one 0))), (245 : Nat), ([], [], [])), (.inr (some (.inl (ck_one 1))), (245 : Nat), ([], [], []))])
set_option maxRecDepth 100000 in
theorem p2_s289_s {X : Int → Int} {LX : Nat} : ck_Ok p2_O X LX 286 p2_s289 := ck_okq (cuts := []) (f := 88) ⟨p2_nmu, ck_E0⟩ (by decide +kernel)
set_option maxRecDepth 100000 in
/-- GlacierMailModel.noLane -/
noncomputable def p2_s290 : ck_Sum := (((1 : Nat), (0 : Nat), (0 : Nat)), (245 : Nat), [.inr (.inr (.inl (226 : Nat))), .inl ((0 : Int), (5 : Int), [])], ([], [], []), ([], []), [(.inr (some (.inl (ck_one 1))), (245 : Nat), ([], [], [])), (.inr (some (.inl (ck_one 0))), (245 : Nat), ([], [], []))])
set_option maxRecDepth 100000 in
theorem p2_s290_s {X : Int → Int} {LX : Nat} : ck_Ok p2_O X LX 288 p2_s290 := ck_okq (cuts := []) (f := 92) ⟨p2_nmu, ck_E1 (ck_S1 p2_s166_s ck_S0) (ck_E1 (ck_S1 p2_s289_s ck_S0) ck_E0)⟩ (by decide +kernel)
set_option maxRecDepth 100000 in
/-- GlacierMailModel.in -/
noncomputable def p2_s291 : ck_Sum := (((0 : Nat), (0 : Nat), (0 : Nat)), (245 : Nat), [.inl ((-2147483648 : Int), (-1 : Int), []), .inl (ck_one 0), .inl ((-1 : Int), (98 : Int), [])], ([], [], []), ([], []), [(.inr (some (.inl (ck_one 0))), (245 : Nat), ([], [], []))])
set_option maxRecDepth 100000 in
theorem p2_s291_s {X : Int → Int} {LX : Nat} : ck_Ok p2_O X LX 286 p2_s291 := ck_okq (cuts := []) (f := 80) ⟨p2_nmu, ck_E0⟩ (by decide +kernel)
set_option maxRecDepth 100000 in
/-- GlacierMailModel.noRow -/
noncomputable def p2_s292 : ck_Sum := (((1 : Nat), (0 : Nat), (0 : Nat)), (245 : Nat), [.inr (.inr (.inl (226 : Nat))), .inl ((-2147483648 : Int), (-1 : Int), [])], ([], [], []), ([], []), [(.inr (some (.inl (ck_one 1))), (245 : Nat), ([], [], []))])
set_option maxRecDepth 100000 in
theorem p2_s292_s {X : Int → Int} {LX : Nat} : ck_Ok p2_O X LX 289 p2_s292 := ck_okq (cuts := []) (f := 92) ⟨p2_nmu, ck_E1 (ck_S1 p2_s180_s ck_S0) (ck_E1 (ck_S1 p2_s291_s ck_S0) ck_E0)⟩ (by decide +kernel)
set_option maxRecDepth 100000 in
/-- GlacierMailModel.speed -/
noncomputable def p2_s293 : ck_Sum := (((2 : Nat), (0 : Nat), (0 : Nat)), (245 : Nat), [.inr (.inr (.inl (226 : Nat))), .inl ((0 : Int), (5 : Int), []), .inl ((-2147483648 : Int), (-1 : Int), [])], ([], [], []), ([((226 : Nat), (0 : Int), (0 : Int))], []), [(.inr (some (.inl (ck_one 0))), (245 : Nat), ([], [], [((226 : Nat), (0 : Int), (0 : Int), ck_one 1)]))])
set_option maxRecDepth 100000 in
theorem p2_s293_s {X : Int → Int} {LX : Nat} : ck_Ok p2_O X LX 287 p2_s293 := ck_okq (cuts := []) (f := 110) ⟨p2_nmu, ck_E1 (ck_S1 p2_s290_s ck_S0) (ck_E1 (ck_S1 p2_s241_s ck_S0) (ck_E1 (ck_S1 p2_s292_s ck_S0) ck_E0))⟩ (by decide +kernel)
set_option maxRecDepth 100000 in
/-- GlacierMailModel.in -/
noncomputable def p2_s294 : ck_Sum := (((0 : Nat), (0 : Nat), (0 : Nat)), (245 : Nat), [.inl ((99 : Int), (2147483647 : Int), []), .inl (ck_one 0), .inl ((-1 : Int), (98 : Int), [])], ([], [], []), ([], []), [(.inr (some (.inl (ck_one 0))), (245 : Nat), ([], [], []))])
set_option maxRecDepth 100000 in
theorem p2_s294_s {X : Int → Int} {LX : Nat} : ck_Ok p2_O X LX 286 p2_s294 := ck_okq (cuts := []) (f := 86) ⟨p2_nmu, ck_E0⟩ (by decide +kernel)
set_option maxRecDepth 100000 in
/-- GlacierMailModel.noRow -/
noncomputable def p2_s295 : ck_Sum := (((1 : Nat), (0 : Nat), (0 : Nat)), (245 : Nat), [.inr (.inr (.inl (226 : Nat))), .inl ((99 : Int), (2147483647 : Int), [])], ([], [], []), ([], []), [(.inr (some (.inl (ck_one 1))), (245 : Nat), ([], [], []))])
set_option maxRecDepth 100000 in
theorem p2_s295_s {X : Int → Int} {LX : Nat} : ck_Ok p2_O X LX 289 p2_s295 := ck_okq (cuts := []) (f := 92) ⟨p2_nmu, ck_E1 (ck_S1 p2_s180_s ck_S0) (ck_E1 (ck_S1 p2_s294_s ck_S0) ck_E0)⟩ (by decide +kernel)
set_option maxRecDepth 100000 in
/-- GlacierMailModel.speed -/
noncomputable def p2_s296 : ck_Sum := (((2 : Nat), (0 : Nat), (0 : Nat)), (245 : Nat), [.inr (.inr (.inl (226 : Nat))), .inl ((0 : Int), (5 : Int), []), .inl ((99 : Int), (2147483647 : Int), [])], ([], [], []), ([((226 : Nat), (0 : Int), (0 : Int))], []), [(.inr (some (.inl (ck_one 0))), (245 : Nat), ([], [], [((226 : Nat), (0 : Int), (0 : Int), ck_one 1)]))])
set_option maxRecDepth 100000 in
theorem p2_s296_s {X : Int → Int} {LX : Nat} : ck_Ok p2_O X LX 287 p2_s296 := ck_okq (cuts := []) (f := 110) ⟨p2_nmu, ck_E1 (ck_S1 p2_s290_s ck_S0) (ck_E1 (ck_S1 p2_s241_s ck_S0) (ck_E1 (ck_S1 p2_s295_s ck_S0) ck_E0))⟩ (by decide +kernel)
set_option maxRecDepth 100000 in
/-- GlacierMailModel.in -/
noncomputable def p2_s297 : ck_Sum := (((0 : Nat), (0 : Nat), (0 : Nat)), (245 : Nat), [.inl ((0 : Int), (98 : Int), []), .inl (ck_one 0), .inl ((-1 : Int), (98 : Int), [])], ([], [], []), ([], []), [(.inr (some (.inl (ck_one 0))), (245 : Nat), ([], [], [])), (.inr (some (.inl (ck_one 1))), (245 : Nat), ([], [], []))])
set_option maxRecDepth 100000 in
theorem p2_s297_s {X : Int → Int} {LX : Nat} : ck_Ok p2_O X LX 286 p2_s297 := ck_okq (cuts := []) (f := 88) ⟨p2_nmu, ck_E0⟩ (by decide +kernel)
set_option maxRecDepth 100000 in
/-- GlacierMailModel.noRow -/
noncomputable def p2_s298 : ck_Sum := (((1 : Nat), (0 : Nat), (0 : Nat)), (245 : Nat), [.inr (.inr (.inl (226 : Nat))), .inl ((0 : Int), (98 : Int), [])], ([], [], []), ([], []), [(.inr (some (.inl (ck_one 1))), (245 : Nat), ([], [], [])), (.inr (some (.inl (ck_one 0))), (245 : Nat), ([], [], []))])
set_option maxRecDepth 100000 in
theorem p2_s298_s {X : Int → Int} {LX : Nat} : ck_Ok p2_O X LX 289 p2_s298 := ck_okq (cuts := []) (f := 92) ⟨p2_nmu, ck_E1 (ck_S1 p2_s180_s ck_S0) (ck_E1 (ck_S1 p2_s297_s ck_S0) ck_E0)⟩ (by decide +kernel)
set_option maxRecDepth 100000 in
/-- GlacierMailModel.speedAt -/
noncomputable def p2_s299 : ck_Sum := (((0 : Nat), (0 : Nat), (0 : Nat)), (245 : Nat), [.inr (.inr (.inl (226 : Nat))), .inl ((0 : Int), (6 : Int), []), .inl ((0 : Int), (98 : Int), [])], ([], [], [((227 : Nat), (2 : Int), (2 : Int), ((0 : Int), (8 : Int), [((20 : Nat), (0 : Int))]))]), ([], []), [(.inr (some (.inl ((0 : Int), (299 : Int), []))), (245 : Nat), ([], [], []))])
set_option maxRecDepth 100000 in
theorem p2_s299_s {X : Int → Int} {LX : Nat} : ck_Ok p2_O X LX 290 p2_s299 := ck_okq (cuts := [((5 : Nat), [some (.inr (.inr (.inl (226 : Nat)))), some (.inl ((0 : Int), (6 : Int), [])), some (.inl ((0 : Int), (98 : Int), [])), some (.inl ((0 : Int), (299 : Int), [])), some (.inl ((0 : Int), (8 : Int), []))], ([], [], [((227 : Nat), (2 : Int), (2 : Int), ((0 : Int), (8 : Int), [((20 : Nat), (0 : Int))]))]), (100 : Nat), .inl (4 : Nat), true)]) (f := 222) ⟨p2_nmu, ck_E0⟩ (by decide +kernel)
set_option maxRecDepth 100000 in
/-- GlacierMailModel.speed -/
noncomputable def p2_s300 : ck_Sum := (((2 : Nat), (0 : Nat), (0 : Nat)), (245 : Nat), [.inr (.inr (.inl (226 : Nat))), .inl ((0 : Int), (5 : Int), []), .inl ((0 : Int), (98 : Int), [])], ([], [], [((227 : Nat), (2 : Int), (2 : Int), ((0 : Int), (8 : Int), [((20 : Nat), (0 : Int))]))]), ([((226 : Nat), (0 : Int), (0 : Int))], []), [(.inr (some (.inl ((0 : Int), (299 : Int), []))), (245 : Nat), ([], [], [((226 : Nat), (0 : Int), (0 : Int), ((0 : Int), (1 : Int), []))]))])
set_option maxRecDepth 100000 in
theorem p2_s300_s {X : Int → Int} {LX : Nat} : ck_Ok p2_O X LX 287 p2_s300 := ck_okq (cuts := []) (f := 112) ⟨p2_nmu, ck_E1 (ck_S1 p2_s290_s ck_S0) (ck_E1 (ck_S1 p2_s241_s (ck_S1 p2_s242_s ck_S0)) (ck_E1 (ck_S1 p2_s298_s ck_S0) (ck_E1 (ck_S1 p2_s299_s ck_S0) ck_E0)))⟩ (by decide +kernel)
set_option maxRecDepth 100000 in
/-- GlacierMail.flow -/
noncomputable def p2_s301 : ck_Sum := (((8 : Nat), (1 : Nat), (6 : Nat)), (245 : Nat), [.inr (.inr (.inl (1 : Nat))), .inl ((-2147483648 : Int), (-1 : Int), []), .inl ((-2147483648 : Int), (2147483647 : Int), []), .inl ((-2147483648 : Int), (2147483647 : Int), [])], ([], [], []), ([], []), [(.inl (3 : Nat), (245 : Nat), ([], [], []))])
set_option maxRecDepth 100000 in
theorem p2_s301_s {X : Int → Int} {LX : Nat} : ck_Ok p2_O X LX 136 p2_s301 := ck_okq (cuts := []) (f := 76) ⟨p2_nmu, ck_E1 (ck_S1 p2_s266_s ck_S0) ck_E0⟩ (by decide +kernel)
set_option maxRecDepth 100000 in
/-- GlacierMail.flow -/
noncomputable def p2_s302 : ck_Sum := (((8 : Nat), (1 : Nat), (6 : Nat)), (245 : Nat), [.inr (.inr (.inl (1 : Nat))), .inl ((6 : Int), (2147483647 : Int), []), .inl ((-2147483648 : Int), (2147483647 : Int), []), .inl ((-2147483648 : Int), (2147483647 : Int), [])], ([], [], []), ([], []), [(.inl (3 : Nat), (245 : Nat), ([], [], []))])
set_option maxRecDepth 100000 in
theorem p2_s302_s {X : Int → Int} {LX : Nat} : ck_Ok p2_O X LX 136 p2_s302 := ck_okq (cuts := []) (f := 76) ⟨p2_nmu, ck_E1 (ck_S1 p2_s269_s ck_S0) ck_E0⟩ (by decide +kernel)
set_option maxRecDepth 100000 in
/-- GlacierMail.flow -/
noncomputable def p2_s303 : ck_Sum := (((8 : Nat), (2 : Nat), (12 : Nat)), (245 : Nat), [.inr (.inr (.inl (1 : Nat))), .inl ((0 : Int), (5 : Int), []), .inl ((-2147483648 : Int), (-1 : Int), []), .inl ((-2147483648 : Int), (2147483647 : Int), [])], ([], [], []), ([], []), [(.inl (3 : Nat), (245 : Nat), ([], [], []))])
set_option maxRecDepth 100000 in
theorem p2_s303_s {X : Int → Int} {LX : Nat} : ck_Ok p2_O X LX 136 p2_s303 := ck_okq (cuts := []) (f := 82) ⟨p2_nmu, ck_E1 (ck_S1 p2_s272_s ck_S0) (ck_E1 (ck_S1 p2_s274_s ck_S0) ck_E0)⟩ (by decide +kernel)
set_option maxRecDepth 100000 in
/-- GlacierMail.flow -/
noncomputable def p2_s304 : ck_Sum := (((8 : Nat), (2 : Nat), (12 : Nat)), (245 : Nat), [.inr (.inr (.inl (1 : Nat))), .inl ((0 : Int), (5 : Int), []), .inl ((99 : Int), (2147483647 : Int), []), .inl ((-2147483648 : Int), (2147483647 : Int), [])], ([], [], []), ([], []), [(.inl (3 : Nat), (245 : Nat), ([], [], []))])
set_option maxRecDepth 100000 in
theorem p2_s304_s {X : Int → Int} {LX : Nat} : ck_Ok p2_O X LX 136 p2_s304 := ck_okq (cuts := []) (f := 82) ⟨p2_nmu, ck_E1 (ck_S1 p2_s272_s ck_S0) (ck_E1 (ck_S1 p2_s277_s ck_S0) ck_E0)⟩ (by decide +kernel)
set_option maxRecDepth 100000 in
/-- GlacierMail.flow -/
noncomputable def p2_s305 : ck_Sum := (((8 : Nat), (3 : Nat), (18 : Nat)), (245 : Nat), [.inr (.inr (.inl (1 : Nat))), .inl ((0 : Int), (5 : Int), []), .inl ((0 : Int), (98 : Int), []), .inl ((-2147483648 : Int), (-1 : Int), [])], ([], [], []), ([], []), [(.inl (3 : Nat), (245 : Nat), ([], [], [])), (.inl (0 : Nat), (245 : Nat), ([], [], []))])
set_option maxRecDepth 100000 in
theorem p2_s305_s {X : Int → Int} {LX : Nat} : ck_Ok p2_O X LX 136 p2_s305 := ck_okq (cuts := []) (f := 88) ⟨p2_nmu, ck_E1 (ck_S1 p2_s272_s ck_S0) (ck_E1 (ck_S1 p2_s280_s ck_S0) (ck_E1 (ck_S1 p2_s249_s ck_S0) ck_E0))⟩ (by decide +kernel)
set_option maxRecDepth 100000 in
/-- GlacierMail.flow -/
noncomputable def p2_s306 : ck_Sum := (((8 : Nat), (3 : Nat), (18 : Nat)), (245 : Nat), [.inr (.inr (.inl (1 : Nat))), .inl ((0 : Int), (5 : Int), []), .inl ((0 : Int), (98 : Int), []), .inl ((300 : Int), (2147483647 : Int), [])], ([], [], []), ([], []), [(.inl (3 : Nat), (245 : Nat), ([], [], [])), (.inl (0 : Nat), (245 : Nat), ([], [], []))])
set_option maxRecDepth 100000 in
theorem p2_s306_s {X : Int → Int} {LX : Nat} : ck_Ok p2_O X LX 136 p2_s306 := ck_okq (cuts := []) (f := 88) ⟨p2_nmu, ck_E1 (ck_S1 p2_s272_s ck_S0) (ck_E1 (ck_S1 p2_s280_s ck_S0) (ck_E1 (ck_S1 p2_s251_s ck_S0) ck_E0))⟩ (by decide +kernel)
set_option maxRecDepth 100000 in
/-- GlacierMail$Ice.speedAt -/
noncomputable def p2_s307 : ck_Sum := (((0 : Nat), (0 : Nat), (0 : Nat)), (245 : Nat), [.inr (.inr (.inl (200 : Nat))), .inl ((-2147483648 : Int), (2147483647 : Int), []), .inl ((-2147483648 : Int), (2147483647 : Int), [])], ([], [], []), ([], []), [(.inr (some (.inl (ck_one 0))), (245 : Nat), ([], [], [])), (.inr (some (.inl ((-1 : Int), (98 : Int), []))), (245 : Nat), ([], [], []))])
set_option maxRecDepth 100000 in
theorem p2_s307_s {X : Int → Int} {LX : Nat} : ck_Ok p2_O X LX 36 p2_s307 := ck_okq (cuts := []) (f := 108) ⟨p2_nmu, ck_E0⟩ (by decide +kernel)
set_option maxRecDepth 100000 in
/-- GlacierMail$Ice.flowAt -/
noncomputable def p2_s308 : ck_Sum := (((1 : Nat), (0 : Nat), (0 : Nat)), (245 : Nat), [.inr (.inr (.inl (200 : Nat))), .inl ((-2147483648 : Int), (2147483647 : Int), []), .inl ((-2147483648 : Int), (2147483647 : Int), []), .inl ((-2147483648 : Int), (2147483647 : Int), [])], ([], [((3 : Nat), (8 : Int), (0 : Nat))], []), ([], []), [(.inr (some (.inl (ck_one 0))), (245 : Nat), ([], [], [])), (.inr (some (.inl ((-1 : Int), (98 : Int), []))), (245 : Nat), ([], [], []))])
set_option maxRecDepth 100000 in
theorem p2_s308_s {X : Int → Int} {LX : Nat} : ck_Ok p2_O X LX 35 p2_s308 := ck_okq (cuts := []) (f := 92) ⟨p2_nmu, ck_E1 (ck_S1 p2_s307_s ck_S0) ck_E0⟩ (by decide +kernel)
set_option maxRecDepth 100000 in
/-- GlacierMail.flow -/
noncomputable def p2_s309 : ck_Sum := (((8 : Nat), (2 : Nat), (12 : Nat)), (245 : Nat), [.inr (.inr (.inl (1 : Nat))), .inl ((0 : Int), (5 : Int), []), .inl ((0 : Int), (98 : Int), []), .inl ((0 : Int), (299 : Int), [])], ([], [((3 : Nat), (8 : Int), (0 : Nat))], []), ([], []), [(.inl (3 : Nat), (245 : Nat), ([], [], [])), (.inr (some (.inl (ck_one 0))), (245 : Nat), ([], [], [])), (.inr (some (.inl ((-1 : Int), (98 : Int), []))), (245 : Nat), ([], [], []))])
set_option maxRecDepth 100000 in
theorem p2_s309_s {X : Int → Int} {LX : Nat} : ck_Ok p2_O X LX 136 p2_s309 := ck_okq (cuts := []) (f := 102) ⟨p2_nmu, ck_E1 (ck_S1 p2_s272_s ck_S0) (ck_E1 (ck_S1 p2_s280_s ck_S0) (ck_E1 (ck_S1 p2_s253_s ck_S0) (ck_E1 (ck_S1 p2_s308_s ck_S0) ck_E0)))⟩ (by decide +kernel)
set_option maxRecDepth 100000 in
/-- GlacierMailModel.flow -/
noncomputable def p2_s310 : ck_Sum := (((2 : Nat), (0 : Nat), (0 : Nat)), (245 : Nat), [.inr (.inr (.inl (226 : Nat))), .inl ((-2147483648 : Int), (-1 : Int), []), .inl ((-2147483648 : Int), (2147483647 : Int), []), .inl ((-2147483648 : Int), (2147483647 : Int), [])], ([], [], []), ([((226 : Nat), (0 : Int), (0 : Int))], []), [(.inr (some (.inl (ck_one 0))), (245 : Nat), ([], [], [((226 : Nat), (0 : Int), (0 : Int), ck_one 1)]))])
set_option maxRecDepth 100000 in
theorem p2_s310_s {X : Int → Int} {LX : Nat} : ck_Ok p2_O X LX 291 p2_s310 := ck_okq (cuts := []) (f := 102) ⟨p2_nmu, ck_E1 (ck_S1 p2_s284_s ck_S0) (ck_E1 (ck_S1 p2_s241_s ck_S0) ck_E0)⟩ (by decide +kernel)
set_option maxRecDepth 100000 in
/-- GlacierMailModel.flow -/
noncomputable def p2_s311 : ck_Sum := (((2 : Nat), (0 : Nat), (0 : Nat)), (245 : Nat), [.inr (.inr (.inl (226 : Nat))), .inl ((6 : Int), (2147483647 : Int), []), .inl ((-2147483648 : Int), (2147483647 : Int), []), .inl ((-2147483648 : Int), (2147483647 : Int), [])], ([], [], []), ([((226 : Nat), (0 : Int), (0 : Int))], []), [(.inr (some (.inl (ck_one 0))), (245 : Nat), ([], [], [((226 : Nat), (0 : Int), (0 : Int), ck_one 1)]))])
set_option maxRecDepth 100000 in
theorem p2_s311_s {X : Int → Int} {LX : Nat} : ck_Ok p2_O X LX 291 p2_s311 := ck_okq (cuts := []) (f := 102) ⟨p2_nmu, ck_E1 (ck_S1 p2_s287_s ck_S0) (ck_E1 (ck_S1 p2_s241_s ck_S0) ck_E0)⟩ (by decide +kernel)
set_option maxRecDepth 100000 in
/-- GlacierMailModel.flow -/
noncomputable def p2_s312 : ck_Sum := (((2 : Nat), (0 : Nat), (0 : Nat)), (245 : Nat), [.inr (.inr (.inl (226 : Nat))), .inl ((0 : Int), (5 : Int), []), .inl ((-2147483648 : Int), (-1 : Int), []), .inl ((-2147483648 : Int), (2147483647 : Int), [])], ([], [], []), ([((226 : Nat), (0 : Int), (0 : Int))], []), [(.inr (some (.inl (ck_one 0))), (245 : Nat), ([], [], [((226 : Nat), (0 : Int), (0 : Int), ck_one 1)]))])
set_option maxRecDepth 100000 in
theorem p2_s312_s {X : Int → Int} {LX : Nat} : ck_Ok p2_O X LX 291 p2_s312 := ck_okq (cuts := []) (f := 110) ⟨p2_nmu, ck_E1 (ck_S1 p2_s290_s ck_S0) (ck_E1 (ck_S1 p2_s241_s ck_S0) (ck_E1 (ck_S1 p2_s292_s ck_S0) ck_E0))⟩ (by decide +kernel)
set_option maxRecDepth 100000 in
/-- GlacierMailModel.flow -/
noncomputable def p2_s313 : ck_Sum := (((2 : Nat), (0 : Nat), (0 : Nat)), (245 : Nat), [.inr (.inr (.inl (226 : Nat))), .inl ((0 : Int), (5 : Int), []), .inl ((99 : Int), (2147483647 : Int), []), .inl ((-2147483648 : Int), (2147483647 : Int), [])], ([], [], []), ([((226 : Nat), (0 : Int), (0 : Int))], []), [(.inr (some (.inl (ck_one 0))), (245 : Nat), ([], [], [((226 : Nat), (0 : Int), (0 : Int), ck_one 1)]))])
set_option maxRecDepth 100000 in
theorem p2_s313_s {X : Int → Int} {LX : Nat} : ck_Ok p2_O X LX 291 p2_s313 := ck_okq (cuts := []) (f := 110) ⟨p2_nmu, ck_E1 (ck_S1 p2_s290_s ck_S0) (ck_E1 (ck_S1 p2_s241_s ck_S0) (ck_E1 (ck_S1 p2_s295_s ck_S0) ck_E0))⟩ (by decide +kernel)
set_option maxRecDepth 100000 in
/-- GlacierMailModel.flow -/
noncomputable def p2_s314 : ck_Sum := (((2 : Nat), (0 : Nat), (0 : Nat)), (245 : Nat), [.inr (.inr (.inl (226 : Nat))), .inl ((0 : Int), (5 : Int), []), .inl ((0 : Int), (98 : Int), []), .inl ((-2147483648 : Int), (-1 : Int), [])], ([], [], []), ([((226 : Nat), (0 : Int), (0 : Int))], []), [(.inr (some (.inl (ck_one 0))), (245 : Nat), ([], [], [((226 : Nat), (0 : Int), (0 : Int), ((1 : Int), (2 : Int), []))]))])
set_option maxRecDepth 100000 in
theorem p2_s314_s {X : Int → Int} {LX : Nat} : ck_Ok p2_O X LX 291 p2_s314 := ck_okq (cuts := []) (f := 120) ⟨p2_nmu, ck_E1 (ck_S1 p2_s290_s ck_S0) (ck_E1 (ck_S1 p2_s241_s (ck_S1 p2_s242_s (ck_S1 p2_s244_s ck_S0))) (ck_E1 (ck_S1 p2_s298_s ck_S0) (ck_E1 (ck_S1 p2_s257_s ck_S0) ck_E0)))⟩ (by decide +kernel)
set_option maxRecDepth 100000 in
/-- GlacierMailModel.flow -/
noncomputable def p2_s315 : ck_Sum := (((2 : Nat), (0 : Nat), (0 : Nat)), (245 : Nat), [.inr (.inr (.inl (226 : Nat))), .inl ((0 : Int), (5 : Int), []), .inl ((0 : Int), (98 : Int), []), .inl ((300 : Int), (2147483647 : Int), [])], ([], [], []), ([((226 : Nat), (0 : Int), (0 : Int))], []), [(.inr (some (.inl (ck_one 0))), (245 : Nat), ([], [], [((226 : Nat), (0 : Int), (0 : Int), ((1 : Int), (2 : Int), []))]))])
set_option maxRecDepth 100000 in
theorem p2_s315_s {X : Int → Int} {LX : Nat} : ck_Ok p2_O X LX 291 p2_s315 := ck_okq (cuts := []) (f := 120) ⟨p2_nmu, ck_E1 (ck_S1 p2_s290_s ck_S0) (ck_E1 (ck_S1 p2_s241_s (ck_S1 p2_s242_s (ck_S1 p2_s244_s ck_S0))) (ck_E1 (ck_S1 p2_s298_s ck_S0) (ck_E1 (ck_S1 p2_s260_s ck_S0) ck_E0)))⟩ (by decide +kernel)
set_option maxRecDepth 100000 in
/-- GlacierMailModel.turnsTo -/
noncomputable def p2_s316 : ck_Sum := (((0 : Nat), (0 : Nat), (0 : Nat)), (245 : Nat), [.inr (.inr (.inl (226 : Nat))), .inl ((0 : Int), (6 : Int), [])], ([], [], []), ([((226 : Nat), (26 : Int), (26 : Int)), ((235 : Nat), (0 : Int), (29699 : Int))], []), [(.inr none, (245 : Nat), ([], [], [((226 : Nat), (26 : Int), (26 : Int), ((0 : Int), (6 : Int), []))]))])
set_option maxRecDepth 100000 in
theorem p2_s316_s {X : Int → Int} {LX : Nat} : ck_Ok p2_O X LX 293 p2_s316 := ck_okq (cuts := [((16 : Nat), [some (.inr (.inr (.inl (226 : Nat)))), some (.inl ((0 : Int), (6 : Int), [])), some (.inl ((0 : Int), (29700 : Int), []))], ([], [], [((226 : Nat), (26 : Int), (26 : Int), ((0 : Int), (6 : Int), []))]), (100 : Nat), .inl (2 : Nat), true)]) (f := 142) ⟨p2_nmu, ck_E0⟩ (by decide +kernel)
set_option maxRecDepth 100000 in
noncomputable def p2_s318 : ck_Sum := (((4 : Nat), (0 : Nat), (0 : Nat)), (245 : Nat), [.inr (.inr (.inl (226 : Nat))), .inl ((0 : Int), (6 : Int), []), .inl ((0 : Int), (98 : Int), []), .inl ((0 : Int), (299 : Int), [])], ([], [], [((227 : Nat), (2 : Int), (2 : Int), ((0 : Int), (8 : Int), [((20 : Nat), (0 : Int))]))]), ([((226 : Nat), (17 : Int), (23 : Int)), ((226 : Nat), (26 : Int), (26 : Int)), ((233 : Nat), (0 : Int), (399 : Int)), ((235 : Nat), (0 : Int), (29699 : Int))], []), [(.inr (some (.inl ((0 : Int), (30 : Int), []))), (245 : Nat), ([], [], [((226 : Nat), (26 : Int), (26 : Int), ((0 : Int), (6 : Int), []))]))])
noncomputable def p2_s318_E : List (Nat × List ck_Sum) := [((293 : Nat), [p2_s316]), ((290 : Nat), [p2_s299]), ((294 : Nat), [sl_S])]
noncomputable def p2_s318_L : ck_AL := [some (.inr (.inr (.inl (226 : Nat)))), some (.inl ((0 : Int), (6 : Int), [])), some (.inl ((0 : Int), (98 : Int), [])), some (.inl ((0 : Int), (299 : Int), [])), some (.inl ((0 : Int), (29699 : Int), [])), none]
set_option maxRecDepth 100000 in
noncomputable def p2_s318_F : ck_F := ([], [], [((226 : Nat), (26 : Int), (26 : Int), ((0 : Int), (6 : Int), [])), ((227 : Nat), (2 : Int), (2 : Int), ((0 : Int), (8 : Int), [((20 : Nat), (0 : Int))]))])
noncomputable def p2_s318_C : ck_C := (p2_s318_L, p2_s318_F, (0 : Nat), .inl (4 : Nat), true)
set_option maxRecDepth 100000 in
theorem p2_s318_a : (decide (p2_s318.2.2.1.length ≤ gm_ml 292) && ck_go p2_O none [] p2_s318_E 292 p2_s318.1.1 p2_s318.2.1 p2_s318.2.2.2.2.1 p2_s318.2.2.2.2.2 [(14, p2_s318_C)] 900 false [(14, p2_s318_C, 0, 0, 245)] p2_s318.1.2.1 p2_s318.1.2.2 0 (p2_s318.2.2.1.map some ++ List.replicate (gm_ml 292 - p2_s318.2.2.1.length) none) [] p2_s318.2.1 p2_s318.2.2.2.1) = true := by decide +kernel
set_option maxRecDepth 100000 in
theorem p2_s318_b : ck_go p2_O none [] p2_s318_E 292 p2_s318.1.1 p2_s318.2.1 p2_s318.2.2.2.2.1 p2_s318.2.2.2.2.2 [] 900 true [] 0 0 34 p2_s318_L [] 245 p2_s318_F = true := by decide +kernel
set_option maxRecDepth 100000 in
theorem p2_s318_f : gm_tyr p2_O 235 0 29699 = some (0, 31) := by decide +kernel
set_option maxRecDepth 100000 in
theorem p2_s318_g : ck_leF p2_O p2_s318_F (([], [], [(226, 26, 26, (0, 6, []))])) = true := by decide +kernel
theorem p2_s318_h {X : Int → Int} {LX : Nat} : ck_nmu p2_O ∧ ck_OkE p2_O X LX p2_s318_E := ⟨p2_nmu, ck_E1 (ck_S1 p2_s316_s ck_S0) (ck_E1 (ck_S1 p2_s299_s ck_S0) (ck_E1 (ck_S1 sl_S_s ck_S0) ck_E0))⟩
theorem p2_s318_s {X : Int → Int} {LX : Nat} : ck_Ok p2_O X LX 292 p2_s318 := by
  refine ck_ok_st (cuts := [((14 : Nat), p2_s318_C)]) (by decide) p2_s318_h p2_s318_a (fun h hm => ?_)
  rw [List.mem_singleton.mp hm]
  refine ⟨List.mem_singleton.mpr rfl, fun σ K0 R0 M0 v _ bc bs L K R M hb1 hb2 hS _ => ?_⟩
  obtain ⟨hF, hl, hs, hf, hfr⟩ := hS
  obtain ⟨u0, e0, g0⟩ := hl.2 0 (.inr (.inr (.inl 226))) rfl
  cases g0
  obtain ⟨u4, e4, t, rfl, ht1, ht2, ht3, -⟩ := hl.2 4 (.inl (0, 29699, [])) rfl
  have ht2 : (0 : Int) ≤ t := ht2
  have ht3 : t ≤ (29699 : Int) := ht3
  obtain ⟨-, hM1, hM2⟩ := (gm_tyr_s hF p2_s318_f).2 t (by omega) (by omega)
  have hM1 : (0 : Int) ≤ M 235 t := hM1
  have hM2 : M 235 t ≤ (31 : Int) := hM2
  refine ck_flow (O := p2_O) hF (k := 226) (fl := 235) (by decide +kernel) (by decide +kernel) (by decide +kernel) e0 e4 ⟨by omega, by omega⟩ ⟨by omega, by omega⟩ (fun hp => ?_) ?_
  · exact ⟨hF, hfr, _, List.mem_cons_self, ⟨_, rfl, ⟨by omega, by omega⟩, by show (0 : Int) ≤ M 235 t - 1; omega, by show M 235 t - 1 ≤ (30 : Int); omega, fun _ h => nomatch h⟩, rfl, ck_leF_s hF hf p2_s318_g⟩
  · exact gm_Wp_wk (Nat.le_refl _) hb1 hb2 (ck_go_s (σ0 := σ) (cuts := []) (by decide) p2_s318_h ck_X0 ck_l0 900 true [] _ _ 34 _ [] _ _ σ L [] K R M (fun _ _ => rfl) (fun _ h => nomatch h) ⟨hF, hl, rfl, hf, hfr⟩ p2_s318_b)
set_option maxRecDepth 100000 in
/-- GlacierMail$Rows.size -/
noncomputable def p2_s320 : ck_Sum := (((0 : Nat), (0 : Nat), (0 : Nat)), (245 : Nat), [.inr (.inr (.inl (8 : Nat)))], ([], [], []), ([], []), [(.inr (some (.inl ((0 : Int), (8 : Int), []))), (245 : Nat), ([], [], []))])
set_option maxRecDepth 100000 in
theorem p2_s320_s {X : Int → Int} {LX : Nat} : ck_Ok p2_O X LX 9 p2_s320 := ck_okq (cuts := []) (f := 76) ⟨p2_nmu, ck_E0⟩ (by decide +kernel)
set_option maxRecDepth 100000 in
/-- GlacierMail.need -/
noncomputable def p2_s321 : ck_Sum := (((6 : Nat), (1 : Nat), (6 : Nat)), (245 : Nat), [.inr (.inr (.inl (1 : Nat))), .inl ((-2147483648 : Int), (-1 : Int), []), .inl ((0 : Int), (8 : Int), [])], ([], [], []), ([], []), [(.inl (3 : Nat), (245 : Nat), ([], [], []))])
set_option maxRecDepth 100000 in
theorem p2_s321_s {X : Int → Int} {LX : Nat} : ck_Ok p2_O X LX 133 p2_s321 := ck_okq (cuts := []) (f := 76) ⟨p2_nmu, ck_E0⟩ (by decide +kernel)
set_option maxRecDepth 100000 in
/-- GlacierMail.needPerson -/
noncomputable def p2_s322 : ck_Sum := (((7 : Nat), (1 : Nat), (6 : Nat)), (245 : Nat), [.inr (.inr (.inl (1 : Nat))), .inl ((-2147483648 : Int), (-1 : Int), [])], ([], [], []), ([], []), [(.inl (3 : Nat), (245 : Nat), ([], [], []))])
set_option maxRecDepth 100000 in
theorem p2_s322_s {X : Int → Int} {LX : Nat} : ck_Ok p2_O X LX 139 p2_s322 := ck_okq (cuts := []) (f := 84) ⟨p2_nmu, ck_E1 (ck_S1 p2_s320_s ck_S0) (ck_E1 (ck_S1 p2_s321_s ck_S0) ck_E0)⟩ (by decide +kernel)
set_option maxRecDepth 100000 in
/-- GlacierMail.person -/
noncomputable def p2_s323 : ck_Sum := (((8 : Nat), (1 : Nat), (6 : Nat)), (245 : Nat), [.inr (.inr (.inl (1 : Nat))), .inl ((-2147483648 : Int), (-1 : Int), []), .inl ((-2147483648 : Int), (2147483647 : Int), [])], ([], [], []), ([], []), [(.inl (3 : Nat), (245 : Nat), ([], [], []))])
set_option maxRecDepth 100000 in
theorem p2_s323_s {X : Int → Int} {LX : Nat} : ck_Ok p2_O X LX 138 p2_s323 := ck_okq (cuts := []) (f := 76) ⟨p2_nmu, ck_E1 (ck_S1 p2_s322_s ck_S0) ck_E0⟩ (by decide +kernel)
set_option maxRecDepth 100000 in
/-- GlacierMail.need -/
noncomputable def p2_s324 : ck_Sum := (((6 : Nat), (1 : Nat), (6 : Nat)), (245 : Nat), [.inr (.inr (.inl (1 : Nat))), .inl ((8 : Int), (2147483647 : Int), []), .inl ((0 : Int), (8 : Int), [])], ([], [], []), ([], []), [(.inl (3 : Nat), (245 : Nat), ([], [], []))])
set_option maxRecDepth 100000 in
theorem p2_s324_s {X : Int → Int} {LX : Nat} : ck_Ok p2_O X LX 133 p2_s324 := ck_okq (cuts := []) (f := 82) ⟨p2_nmu, ck_E0⟩ (by decide +kernel)
set_option maxRecDepth 100000 in
/-- GlacierMail.needPerson -/
noncomputable def p2_s325 : ck_Sum := (((7 : Nat), (1 : Nat), (6 : Nat)), (245 : Nat), [.inr (.inr (.inl (1 : Nat))), .inl ((8 : Int), (2147483647 : Int), [])], ([], [], []), ([], []), [(.inl (3 : Nat), (245 : Nat), ([], [], []))])
set_option maxRecDepth 100000 in
theorem p2_s325_s {X : Int → Int} {LX : Nat} : ck_Ok p2_O X LX 139 p2_s325 := ck_okq (cuts := []) (f := 84) ⟨p2_nmu, ck_E1 (ck_S1 p2_s320_s ck_S0) (ck_E1 (ck_S1 p2_s324_s ck_S0) ck_E0)⟩ (by decide +kernel)
set_option maxRecDepth 100000 in
/-- GlacierMail.person -/
noncomputable def p2_s326 : ck_Sum := (((8 : Nat), (1 : Nat), (6 : Nat)), (245 : Nat), [.inr (.inr (.inl (1 : Nat))), .inl ((8 : Int), (2147483647 : Int), []), .inl ((-2147483648 : Int), (2147483647 : Int), [])], ([], [], []), ([], []), [(.inl (3 : Nat), (245 : Nat), ([], [], []))])
set_option maxRecDepth 100000 in
theorem p2_s326_s {X : Int → Int} {LX : Nat} : ck_Ok p2_O X LX 138 p2_s326 := ck_okq (cuts := []) (f := 76) ⟨p2_nmu, ck_E1 (ck_S1 p2_s325_s ck_S0) ck_E0⟩ (by decide +kernel)
set_option maxRecDepth 100000 in
/-- GlacierMail.need -/
noncomputable def p2_s327 : ck_Sum := (((6 : Nat), (1 : Nat), (6 : Nat)), (245 : Nat), [.inr (.inr (.inl (1 : Nat))), .inl ((0 : Int), (7 : Int), []), .inl ((0 : Int), (8 : Int), [])], ([], [], []), ([], []), [(.inr none, (245 : Nat), ([], [], [])), (.inl (3 : Nat), (245 : Nat), ([], [], []))])
set_option maxRecDepth 100000 in
theorem p2_s327_s {X : Int → Int} {LX : Nat} : ck_Ok p2_O X LX 133 p2_s327 := ck_okq (cuts := []) (f := 82) ⟨p2_nmu, ck_E0⟩ (by decide +kernel)
set_option maxRecDepth 100000 in
/-- GlacierMail.needPerson -/
noncomputable def p2_s328 : ck_Sum := (((7 : Nat), (1 : Nat), (6 : Nat)), (245 : Nat), [.inr (.inr (.inl (1 : Nat))), .inl ((0 : Int), (7 : Int), [])], ([], [], []), ([], []), [(.inl (3 : Nat), (245 : Nat), ([], [], [])), (.inr none, (245 : Nat), ([], [], []))])
set_option maxRecDepth 100000 in
theorem p2_s328_s {X : Int → Int} {LX : Nat} : ck_Ok p2_O X LX 139 p2_s328 := ck_okq (cuts := []) (f := 86) ⟨p2_nmu, ck_E1 (ck_S1 p2_s320_s ck_S0) (ck_E1 (ck_S1 p2_s327_s ck_S0) ck_E0)⟩ (by decide +kernel)
set_option maxRecDepth 100000 in
/-- GlacierMail.person -/
noncomputable def p2_s329 : ck_Sum := (((8 : Nat), (2 : Nat), (12 : Nat)), (245 : Nat), [.inr (.inr (.inl (1 : Nat))), .inl ((0 : Int), (7 : Int), []), .inl ((-2147483648 : Int), (-1 : Int), [])], ([], [], []), ([], []), [(.inl (3 : Nat), (245 : Nat), ([], [], [])), (.inl (4 : Nat), (245 : Nat), ([], [], []))])
set_option maxRecDepth 100000 in
theorem p2_s329_s {X : Int → Int} {LX : Nat} : ck_Ok p2_O X LX 138 p2_s329 := ck_okq (cuts := []) (f := 82) ⟨p2_nmu, ck_E1 (ck_S1 p2_s328_s ck_S0) ck_E0⟩ (by decide +kernel)
set_option maxRecDepth 100000 in
/-- GlacierMail.person -/
noncomputable def p2_s330 : ck_Sum := (((8 : Nat), (2 : Nat), (12 : Nat)), (245 : Nat), [.inr (.inr (.inl (1 : Nat))), .inl ((0 : Int), (7 : Int), []), .inl ((10 : Int), (2147483647 : Int), [])], ([], [], []), ([], []), [(.inl (3 : Nat), (245 : Nat), ([], [], [])), (.inl (4 : Nat), (245 : Nat), ([], [], []))])
set_option maxRecDepth 100000 in
theorem p2_s330_s {X : Int → Int} {LX : Nat} : ck_Ok p2_O X LX 138 p2_s330 := ck_okq (cuts := []) (f := 82) ⟨p2_nmu, ck_E1 (ck_S1 p2_s328_s ck_S0) ck_E0⟩ (by decide +kernel)
set_option maxRecDepth 100000 in
/-- GlacierMail$Rows.size -/
noncomputable def p2_s331 : ck_Sum := (((0 : Nat), (0 : Nat), (0 : Nat)), (245 : Nat), [.inr (.inr (.inl (10 : Nat)))], ([], [], []), ([], []), [(.inr (some (.inl ((0 : Int), (24 : Int), []))), (245 : Nat), ([], [], []))])
set_option maxRecDepth 100000 in
theorem p2_s331_s {X : Int → Int} {LX : Nat} : ck_Ok p2_O X LX 9 p2_s331 := ck_okq (cuts := []) (f := 76) ⟨p2_nmu, ck_E0⟩ (by decide +kernel)
set_option maxRecDepth 100000 in
/-- GlacierMail$Rows.size -/
noncomputable def p2_s332 : ck_Sum := (((0 : Nat), (0 : Nat), (0 : Nat)), (245 : Nat), [.inr (.inr (.inl (220 : Nat)))], ([], [], []), ([], []), [(.inr (some (.inl ((0 : Int), (24 : Int), []))), (245 : Nat), ([], [], []))])
set_option maxRecDepth 100000 in
theorem p2_s332_s {X : Int → Int} {LX : Nat} : ck_Ok p2_O X LX 9 p2_s332 := ck_okq (cuts := []) (f := 76) ⟨p2_nmu, ck_E0⟩ (by decide +kernel)
set_option maxRecDepth 100000 in
/-- java/util/Arrays.fill -/
noncomputable def p2_s333 : ck_Sum := (((0 : Nat), (0 : Nat), (0 : Nat)), (245 : Nat), [.inr (.inr (.inl (221 : Nat))), .inl (ck_one 0)], ([], [], []), ([((221 : Nat), (0 : Int), (47 : Int))], []), [(.inr none, (245 : Nat), ([], [], []))])
set_option maxRecDepth 100000 in
theorem p2_s333_s {X : Int → Int} {LX : Nat} : ck_Ok p2_O X LX 8 p2_s333 := ck_okq (cuts := [((5 : Nat), [some (.inr (.inr (.inl (221 : Nat)))), some (.inl (ck_one 0)), some (.inl ((0 : Int), (48 : Int), [])), some (.inl (ck_one 48))], ([], [], []), (100 : Nat), .inl (2 : Nat), true)]) (f := 130) ⟨p2_nmu, ck_E0⟩ (by decide +kernel)
set_option maxRecDepth 100000 in
/-- GlacierMail$Rows.reset -/
noncomputable def p2_s334 : ck_Sum := (((1 : Nat), (0 : Nat), (0 : Nat)), (245 : Nat), [.inr (.inr (.inl (220 : Nat))), .inl ((0 : Int), (24 : Int), [])], ([], [], []), ([((220 : Nat), (3 : Int), (3 : Int)), ((221 : Nat), (0 : Int), (47 : Int))], []), [(.inr none, (245 : Nat), ([], [], []))])
set_option maxRecDepth 100000 in
theorem p2_s334_s {X : Int → Int} {LX : Nat} : ck_Ok p2_O X LX 25 p2_s334 := ck_okq (cuts := []) (f := 96) ⟨p2_nmu, ck_E1 (ck_S1 p2_s333_s ck_S0) ck_E0⟩ (by decide +kernel)
set_option maxRecDepth 100000 in
/-- GlacierMail$Rows.get -/
noncomputable def p2_s335 : ck_Sum := (((0 : Nat), (0 : Nat), (0 : Nat)), (245 : Nat), [.inr (.inr (.inl (10 : Nat))), .inl ((-2147483648 : Int), (2147483647 : Int), []), .inl ((-2147483648 : Int), (2147483647 : Int), [])], ([], [], []), ([], []), [(.inr (some (.inl ((-1 : Int), (299 : Int), []))), (245 : Nat), ([], [], []))])
set_option maxRecDepth 100000 in
theorem p2_s335_s {X : Int → Int} {LX : Nat} : ck_Ok p2_O X LX 10 p2_s335 := ck_okq (cuts := []) (f := 114) ⟨p2_nmu, ck_E0⟩ (by decide +kernel)
set_option maxRecDepth 100000 in
/-- GlacierMail$State.isRock -/
noncomputable def p2_s336 : ck_Sum := (((1 : Nat), (0 : Nat), (0 : Nat)), (245 : Nat), [.inr (.inr (.inl (3 : Nat))), .inl ((0 : Int), (23 : Int), [])], ([], [], []), ([], []), [(.inr (some (.inl (ck_one 0))), (245 : Nat), ([], [], [])), (.inr (some (.inl (ck_one 1))), (245 : Nat), ([], [], []))])
set_option maxRecDepth 100000 in
theorem p2_s336_s {X : Int → Int} {LX : Nat} : ck_Ok p2_O X LX 28 p2_s336 := ck_okq (cuts := []) (f := 90) ⟨p2_nmu, ck_E1 (ck_S1 p2_s335_s ck_S0) ck_E0⟩ (by decide +kernel)
set_option maxRecDepth 100000 in
/-- GlacierMail$Way.start -/
noncomputable def p2_s337 : ck_Sum := (((0 : Nat), (0 : Nat), (0 : Nat)), (245 : Nat), [.inr (.inr (.inl (206 : Nat))), .inl ((-1 : Int), (299 : Int), []), .inl ((-1 : Int), (299 : Int), []), .inl ((-1 : Int), (299 : Int), []), .inl (ck_one 0)], ([], [], []), ([((206 : Nat), (2 : Int), (8 : Int))], []), [(.inr none, (245 : Nat), ([], [], zl74))])
set_option maxRecDepth 100000 in
theorem p2_s337_s {X : Int → Int} {LX : Nat} : ck_Ok p2_O X LX 29 p2_s337 := ck_okq (cuts := []) (f := 114) ⟨p2_nmu, ck_E0⟩ (by decide +kernel)
set_option maxRecDepth 100000 in
/-- GlacierMail$Way.start -/
noncomputable def p2_s338 : ck_Sum := (((0 : Nat), (0 : Nat), (0 : Nat)), (245 : Nat), [.inr (.inr (.inl (206 : Nat))), .inl ((-1 : Int), (299 : Int), []), .inl ((-1 : Int), (299 : Int), []), .inl ((-1 : Int), (299 : Int), []), .inl (ck_one 1)], ([], [], []), ([((206 : Nat), (2 : Int), (8 : Int))], []), [(.inr none, (245 : Nat), ([], [], zl75))])
set_option maxRecDepth 100000 in
theorem p2_s338_s {X : Int → Int} {LX : Nat} : ck_Ok p2_O X LX 29 p2_s338 := ck_okq (cuts := []) (f := 114) ⟨p2_nmu, ck_E0⟩ (by decide +kernel)
set_option maxRecDepth 100000 in
/-- GlacierMail$Way.startLetter -/
noncomputable def p2_s339 : ck_Sum := (((2 : Nat), (0 : Nat), (0 : Nat)), (245 : Nat), [.inr (.inr (.inl (206 : Nat))), .inl ((0 : Int), (23 : Int), [])], ([], [], []), ([((206 : Nat), (2 : Int), (8 : Int))], []), [(.inr none, (245 : Nat), ([], [], zl76))])
set_option maxRecDepth 100000 in
theorem p2_s339_s {X : Int → Int} {LX : Nat} : ck_Ok p2_O X LX 27 p2_s339 := ck_okq (cuts := []) (f := 116) ⟨p2_nmu, ck_E1 (ck_S1 p2_s335_s ck_S0) (ck_E1 (ck_S1 p2_s336_s ck_S0) (ck_E1 (ck_S1 p2_s337_s (ck_S1 p2_s338_s ck_S0)) ck_E0))⟩ (by decide +kernel)
set_option maxRecDepth 100000 in
/-- GlacierMail$Way.isOut -/
noncomputable def p2_s340 : ck_Sum := (((0 : Nat), (0 : Nat), (0 : Nat)), (245 : Nat), [.inr (.inr (.inl (206 : Nat)))], ([], [], []), ([], []), [(.inr (some (.inl (ck_one 0))), (245 : Nat), ([], [], [((206 : Nat), (5 : Int), (5 : Int), ((-2147483648 : Int), (98 : Int), []))])), (.inr (some (.inl (ck_one 1))), (245 : Nat), ([], [], [((206 : Nat), (5 : Int), (5 : Int), ((10 : Int), (2147483647 : Int), []))]))])
set_option maxRecDepth 100000 in
theorem p2_s340_s {X : Int → Int} {LX : Nat} : ck_Ok p2_O X LX 31 p2_s340 := ck_okq (cuts := []) (f := 88) ⟨p2_nmu, ck_E0⟩ (by decide +kernel)
set_option maxRecDepth 100000 in
/-- GlacierMail$Ice.heatIn -/
noncomputable def p2_s341 : ck_Sum := (((0 : Nat), (0 : Nat), (0 : Nat)), (245 : Nat), [.inr (.inr (.inl (200 : Nat))), .inl ((-2147483648 : Int), (2147483647 : Int), [])], ([], [], []), ([], []), [(.inr (some (.inl ((0 : Int), (9 : Int), []))), (245 : Nat), ([], [], []))])
set_option maxRecDepth 100000 in
theorem p2_s341_s {X : Int → Int} {LX : Nat} : ck_Ok p2_O X LX 34 p2_s341 := ck_okq (cuts := []) (f := 92) ⟨p2_nmu, ck_E0⟩ (by decide +kernel)
set_option maxRecDepth 100000 in
/-- GlacierMail$Way.deepAfter -/
noncomputable def p2_s342 : ck_Sum := (((1 : Nat), (0 : Nat), (0 : Nat)), (245 : Nat), [.inr (.inr (.inl (206 : Nat)))], ([], [], []), ([], []), [(.inr (some (.inl ((0 : Int), (99 : Int), []))), (245 : Nat), ([], [], []))])
set_option maxRecDepth 100000 in
theorem p2_s342_s {X : Int → Int} {LX : Nat} : ck_Ok p2_O X LX 33 p2_s342 := ck_okq (cuts := []) (f := 110) ⟨p2_nmu, ck_E1 (ck_S1 p2_s341_s ck_S0) ck_E0⟩ (by decide +kernel)
set_option maxRecDepth 100000 in
/-- GlacierMail$Ice.floodsIn -/
noncomputable def p2_s343 : ck_Sum := (((0 : Nat), (0 : Nat), (0 : Nat)), (245 : Nat), [.inr (.inr (.inl (200 : Nat))), .inl ((-2147483648 : Int), (2147483647 : Int), [])], ([], [], []), ([], []), [(.inr (some (.inl (ck_one 0))), (245 : Nat), ([], [], [])), (.inr (some (.inl ((-2147483648 : Int), (2147483647 : Int), []))), (245 : Nat), ([], [], []))])
set_option maxRecDepth 100000 in
theorem p2_s343_s {X : Int → Int} {LX : Nat} : ck_Ok p2_O X LX 44 p2_s343 := ck_okq (cuts := []) (f := 92) ⟨p2_nmu, ck_E0⟩ (by decide +kernel)
set_option maxRecDepth 100000 in
/-- GlacierMail$Way.takeFloods -/
noncomputable def p2_s344 : ck_Sum := (((1 : Nat), (0 : Nat), (0 : Nat)), (245 : Nat), [.inr (.inr (.inl (206 : Nat)))], ([], [], []), ([((206 : Nat), (5 : Int), (5 : Int)), ((206 : Nat), (8 : Int), (8 : Int))], []), [(.inr none, (245 : Nat), ([], [], []))])
set_option maxRecDepth 100000 in
theorem p2_s344_s {X : Int → Int} {LX : Nat} : ck_Ok p2_O X LX 43 p2_s344 := ck_okq (cuts := [((22 : Nat), [some (.inr (.inr (.inl (206 : Nat)))), some (.inr (.inr (.inl (6 : Nat)))), some (.inl ((-2147483648 : Int), (2147483647 : Int), [])), some (.inl ((0 : Int), (9 : Int), [])), none], ([], [], []), (100 : Nat), .inl (3 : Nat), true)]) (f := 290) ⟨p2_nmu, ck_E1 (ck_S1 p2_s343_s ck_S0) (ck_E1 (ck_S1 p2_s139_s ck_S0) (ck_E1 (ck_S1 p2_s140_s ck_S0) ck_E0))⟩ (by decide +kernel)
set_option maxRecDepth 100000 in
/-- GlacierMail$Way.step -/
noncomputable def p2_s345 : ck_Sum := (((2 : Nat), (0 : Nat), (0 : Nat)), (245 : Nat), [.inr (.inr (.inl (206 : Nat)))], ([], [((3 : Nat), (8 : Int), (0 : Nat))], []), ([((206 : Nat), (5 : Int), (8 : Int))], []), [(.inr none, (245 : Nat), ([], [], []))])
set_option maxRecDepth 100000 in
theorem p2_s345_s {X : Int → Int} {LX : Nat} : ck_Ok p2_O X LX 32 p2_s345 := ck_okq (cuts := []) (f := 134) ⟨p2_nmu, ck_E1 (ck_S1 p2_s340_s ck_S0) (ck_E1 (ck_S1 p2_s342_s ck_S0) (ck_E1 (ck_S1 p2_s308_s ck_S0) (ck_E1 (ck_S1 p2_s344_s ck_S0) ck_E0)))⟩ (by decide +kernel)
set_option maxRecDepth 100000 in
/-- GlacierMail$Way.runOut -/
noncomputable def p2_s346 : ck_Sum := (((3 : Nat), (0 : Nat), (0 : Nat)), (245 : Nat), [.inr (.inr (.inl (206 : Nat))), .inl ((0 : Int), (299 : Int), [])], ([], [((3 : Nat), (8 : Int), (0 : Nat))], []), ([((206 : Nat), (5 : Int), (8 : Int))], []), [(.inr (some (.inl ((-2147483648 : Int), (299 : Int), []))), (245 : Nat), ([], [], []))])
set_option maxRecDepth 100000 in
theorem p2_s346_s {X : Int → Int} {LX : Nat} : ck_Ok p2_O X LX 30 p2_s346 := ck_okq (cuts := [((5 : Nat), [some (.inr (.inr (.inl (206 : Nat)))), some (.inl ((0 : Int), (299 : Int), [])), some (.inl ((-2147483648 : Int), (2147483647 : Int), []))], ([], [((3 : Nat), (8 : Int), (0 : Nat))], []), (100 : Nat), .inl (2 : Nat), true)]) (f := 134) ⟨p2_nmu, ck_E1 (ck_S1 p2_s340_s ck_S0) (ck_E1 (ck_S1 p2_s345_s ck_S0) ck_E0)⟩ (by decide +kernel)
set_option maxRecDepth 100000 in
/-- GlacierMail$Rows.put -/
noncomputable def p2_s347 : ck_Sum := (((0 : Nat), (0 : Nat), (0 : Nat)), (245 : Nat), [.inr (.inr (.inl (220 : Nat))), .inl ((0 : Int), (23 : Int), []), .inl (ck_one 0), .inl ((-2147483648 : Int), (299 : Int), [])], ([], [], []), (zl77, []), [(.inr none, (245 : Nat), ([], [], []))])
set_option maxRecDepth 100000 in
theorem p2_s347_s {X : Int → Int} {LX : Nat} : ck_Ok p2_O X LX 45 p2_s347 := ck_okq (cuts := []) (f := 116) ⟨p2_nmu, ck_E0⟩ (by decide +kernel)
set_option maxRecDepth 100000 in
/-- GlacierMail$Rows.put -/
noncomputable def p2_s348 : ck_Sum := (((0 : Nat), (0 : Nat), (0 : Nat)), (245 : Nat), [.inr (.inr (.inl (220 : Nat))), .inl ((0 : Int), (23 : Int), []), .inl (ck_one 1), .inl ((0 : Int), (99 : Int), [])], ([], [], []), (zl78, []), [(.inr none, (245 : Nat), ([], [], []))])
set_option maxRecDepth 100000 in
theorem p2_s348_s {X : Int → Int} {LX : Nat} : ck_Ok p2_O X LX 45 p2_s348 := ck_okq (cuts := []) (f := 116) ⟨p2_nmu, ck_E0⟩ (by decide +kernel)
set_option maxRecDepth 100000 in
/-- GlacierMail.reckonEnds -/
noncomputable def p2_s349 : ck_Sum := (((4 : Nat), (0 : Nat), (0 : Nat)), (245 : Nat), [.inr (.inr (.inl (1 : Nat)))], ([], [((3 : Nat), (8 : Int), (0 : Nat))], []), (zl79, []), [(.inr none, (245 : Nat), ([], [], [((1 : Nat), (15 : Int), (15 : Int), ck_one 1)]))])
set_option maxRecDepth 100000 in
theorem p2_s349_s {X : Int → Int} {LX : Nat} : ck_Ok p2_O X LX 24 p2_s349 := ck_okq (cuts := [((27 : Nat), [some (.inr (.inr (.inl (1 : Nat)))), some (.inl ((0 : Int), (24 : Int), []))], ([], [((3 : Nat), (8 : Int), (0 : Nat))], [((1 : Nat), (15 : Int), (15 : Int), ck_one 0)]), (100 : Nat), .inl (1 : Nat), true)]) (f := 206) ⟨p2_nmu, ck_E1 (ck_S1 p2_s331_s (ck_S1 p2_s332_s ck_S0)) (ck_E1 (ck_S1 p2_s334_s ck_S0) (ck_E1 (ck_S1 p2_s339_s ck_S0) (ck_E1 (ck_S1 p2_s346_s ck_S0) (ck_E1 (ck_S1 p2_s347_s (ck_S1 p2_s348_s ck_S0)) ck_E0))))⟩ (by decide +kernel)
set_option maxRecDepth 100000 in
/-- GlacierMail$Rows.get -/
noncomputable def p2_s350 : ck_Sum := (((0 : Nat), (0 : Nat), (0 : Nat)), (245 : Nat), [.inr (.inr (.inl (220 : Nat))), .inl ((-2147483648 : Int), (2147483647 : Int), []), .inl ((-2147483648 : Int), (2147483647 : Int), [])], ([], [], []), ([], []), [(.inr (some (.inl ((-2147483648 : Int), (299 : Int), []))), (245 : Nat), ([], [], []))])
set_option maxRecDepth 100000 in
theorem p2_s350_s {X : Int → Int} {LX : Nat} : ck_Ok p2_O X LX 10 p2_s350 := ck_okq (cuts := []) (f := 114) ⟨p2_nmu, ck_E0⟩ (by decide +kernel)
set_option maxRecDepth 100000 in
/-- GlacierMail.isOutBy -/
noncomputable def p2_s351 : ck_Sum := (((0 : Nat), (0 : Nat), (0 : Nat)), (245 : Nat), [.inr (.inr (.inl (1 : Nat))), .inl ((-2147483648 : Int), (299 : Int), []), .inl ((0 : Int), (299 : Int), [])], ([], [], []), ([], []), [(.inr (some (.inl (ck_one 0))), (245 : Nat), ([], [], [])), (.inr (some (.inl (ck_one 1))), (245 : Nat), ([], [], []))])
set_option maxRecDepth 100000 in
theorem p2_s351_s {X : Int → Int} {LX : Nat} : ck_Ok p2_O X LX 67 p2_s351 := ck_okq (cuts := []) (f := 88) ⟨p2_nmu, ck_E0⟩ (by decide +kernel)
set_option maxRecDepth 100000 in
/-- GlacierMail.waits -/
noncomputable def p2_s352 : ck_Sum := (((2 : Nat), (0 : Nat), (0 : Nat)), (245 : Nat), [.inr (.inr (.inl (1 : Nat))), .inl ((0 : Int), (23 : Int), [])], ([], [], [((3 : Nat), (6 : Int), (6 : Int), ((0 : Int), (299 : Int), [((10 : Nat), (0 : Int))]))]), ([], []), [(.inr (some (.inl (ck_one 0))), (245 : Nat), ([], [], [])), (.inr (some (.inl (ck_one 1))), (245 : Nat), ([], [], []))])
set_option maxRecDepth 100000 in
theorem p2_s352_s {X : Int → Int} {LX : Nat} : ck_Ok p2_O X LX 66 p2_s352 := ck_okq (cuts := []) (f := 134) ⟨p2_nmu, ck_E1 (ck_S1 p2_s336_s ck_S0) (ck_E1 (ck_S1 p2_s335_s (ck_S1 p2_s350_s ck_S0)) (ck_E1 (ck_S1 p2_s351_s ck_S0) ck_E0))⟩ (by decide +kernel)
set_option maxRecDepth 100000 in
/-- GlacierMail.lettersWith -/
noncomputable def p2_s354 : ck_Sum := (((1 : Nat), (0 : Nat), (0 : Nat)), (245 : Nat), [.inr (.inr (.inl (1 : Nat))), .inl (ck_one 5), .inl ((0 : Int), (7 : Int), [])], ([], [], []), ([], []), [(.inr (some (.inl ((-2147483648 : Int), (2147483647 : Int), []))), (245 : Nat), ([], [], []))])
set_option maxRecDepth 100000 in
theorem p2_s354_s {X : Int → Int} {LX : Nat} : ck_Ok p2_O X LX 140 p2_s354 := ck_okq (cuts := [((5 : Nat), [some (.inr (.inr (.inl (1 : Nat)))), some (.inl (ck_one 5)), some (.inl ((0 : Int), (7 : Int), [])), some (.inl ((-2147483648 : Int), (2147483647 : Int), [])), some (.inl ((0 : Int), (24 : Int), []))], ([], [], []), (100 : Nat), .inl (4 : Nat), true)]) (f := 162) ⟨p2_nmu, ck_E1 (ck_S1 p2_s331_s ck_S0) (ck_E1 (ck_S1 p2_s335_s ck_S0) ck_E0)⟩ (by decide +kernel)
set_option maxRecDepth 100000 in
/-- GlacierMail.lettersWith -/
noncomputable def p2_s355 : ck_Sum := (((1 : Nat), (0 : Nat), (0 : Nat)), (245 : Nat), [.inr (.inr (.inl (1 : Nat))), .inl (ck_one 0), .inl ((0 : Int), (7 : Int), [])], ([], [], []), ([], []), [(.inr (some (.inl ((-2147483648 : Int), (2147483647 : Int), []))), (245 : Nat), ([], [], []))])
set_option maxRecDepth 100000 in
theorem p2_s355_s {X : Int → Int} {LX : Nat} : ck_Ok p2_O X LX 140 p2_s355 := ck_okq (cuts := [((5 : Nat), [some (.inr (.inr (.inl (1 : Nat)))), some (.inl (ck_one 0)), some (.inl ((0 : Int), (7 : Int), [])), some (.inl ((-2147483648 : Int), (2147483647 : Int), [])), some (.inl ((0 : Int), (24 : Int), []))], ([], [], []), (100 : Nat), .inl (4 : Nat), true)]) (f := 162) ⟨p2_nmu, ck_E1 (ck_S1 p2_s331_s ck_S0) (ck_E1 (ck_S1 p2_s335_s ck_S0) ck_E0)⟩ (by decide +kernel)
set_option maxRecDepth 100000 in
/-- GlacierMail$Rows.get -/
noncomputable def p2_s356 : ck_Sum := (((0 : Nat), (0 : Nat), (0 : Nat)), (245 : Nat), [.inr (.inr (.inl (8 : Nat))), .inl ((-2147483648 : Int), (2147483647 : Int), []), .inl ((-2147483648 : Int), (2147483647 : Int), [])], ([], [], []), ([], []), [(.inr (some (.inl ((-1 : Int), (98 : Int), []))), (245 : Nat), ([], [], []))])
set_option maxRecDepth 100000 in
theorem p2_s356_s {X : Int → Int} {LX : Nat} : ck_Ok p2_O X LX 10 p2_s356 := ck_okq (cuts := []) (f := 114) ⟨p2_nmu, ck_E0⟩ (by decide +kernel)
set_option maxRecDepth 100000 in
/-- GlacierMailModel.in -/
noncomputable def p2_s358 : ck_Sum := (((0 : Nat), (0 : Nat), (0 : Nat)), (245 : Nat), [.inl ((-2147483648 : Int), (-1 : Int), []), .inl (ck_one 0), .inl ((-1 : Int), (7 : Int), [])], ([], [], []), ([], []), [(.inr (some (.inl (ck_one 0))), (245 : Nat), ([], [], []))])
set_option maxRecDepth 100000 in
theorem p2_s358_s {X : Int → Int} {LX : Nat} : ck_Ok p2_O X LX 286 p2_s358 := ck_okq (cuts := []) (f := 80) ⟨p2_nmu, ck_E0⟩ (by decide +kernel)
set_option maxRecDepth 100000 in
/-- GlacierMailModel.noPerson -/
noncomputable def p2_s359 : ck_Sum := (((1 : Nat), (0 : Nat), (0 : Nat)), (245 : Nat), [.inr (.inr (.inl (226 : Nat))), .inl ((-2147483648 : Int), (-1 : Int), [])], ([], [], [((227 : Nat), (3 : Int), (3 : Int), ((0 : Int), (8 : Int), [((21 : Nat), (0 : Int))]))]), ([], []), [(.inr (some (.inl (ck_one 1))), (245 : Nat), ([], [], []))])
set_option maxRecDepth 100000 in
theorem p2_s359_s {X : Int → Int} {LX : Nat} : ck_Ok p2_O X LX 298 p2_s359 := ck_okq (cuts := []) (f := 92) ⟨p2_nmu, ck_E1 (ck_S1 p2_s186_s ck_S0) (ck_E1 (ck_S1 p2_s358_s ck_S0) ck_E0)⟩ (by decide +kernel)
set_option maxRecDepth 100000 in
/-- GlacierMailModel.person -/
noncomputable def p2_s360 : ck_Sum := (((2 : Nat), (0 : Nat), (0 : Nat)), (245 : Nat), [.inr (.inr (.inl (226 : Nat))), .inl ((-2147483648 : Int), (-1 : Int), []), .inl ((-2147483648 : Int), (2147483647 : Int), [])], ([], [], [((227 : Nat), (3 : Int), (3 : Int), ((0 : Int), (8 : Int), [((21 : Nat), (0 : Int))]))]), ([((226 : Nat), (0 : Int), (0 : Int))], []), [(.inr (some (.inl (ck_one 0))), (245 : Nat), ([], [], [((226 : Nat), (0 : Int), (0 : Int), ck_one 1)]))])
set_option maxRecDepth 100000 in
theorem p2_s360_s {X : Int → Int} {LX : Nat} : ck_Ok p2_O X LX 297 p2_s360 := ck_okq (cuts := []) (f := 94) ⟨p2_nmu, ck_E1 (ck_S1 p2_s359_s ck_S0) (ck_E1 (ck_S1 p2_s241_s ck_S0) ck_E0)⟩ (by decide +kernel)
end
/-! 78r80a04.sf -/
section
/-! EVERY CALL ENDS, whatever was done before (laid by wip/am/p2k.py). -/
set_option maxRecDepth 100000 in
/-- GlacierMailModel.in -/
noncomputable def p2_s361 : ck_Sum := (((0 : Nat), (0 : Nat), (0 : Nat)), (245 : Nat), [.inl ((8 : Int), (2147483647 : Int), []), .inl (ck_one 0), .inl ((-1 : Int), (7 : Int), [])], ([], [], []), ([], []), [(.inr (some (.inl (ck_one 0))), (245 : Nat), ([], [], []))])
set_option maxRecDepth 100000 in
theorem p2_s361_s {X : Int → Int} {LX : Nat} : ck_Ok p2_O X LX 286 p2_s361 := ck_okq (cuts := []) (f := 86) ⟨p2_nmu, ck_E0⟩ (by decide +kernel)
set_option maxRecDepth 100000 in
/-- GlacierMailModel.noPerson -/
noncomputable def p2_s362 : ck_Sum := (((1 : Nat), (0 : Nat), (0 : Nat)), (245 : Nat), [.inr (.inr (.inl (226 : Nat))), .inl ((8 : Int), (2147483647 : Int), [])], ([], [], [((227 : Nat), (3 : Int), (3 : Int), ((0 : Int), (8 : Int), [((21 : Nat), (0 : Int))]))]), ([], []), [(.inr (some (.inl (ck_one 1))), (245 : Nat), ([], [], []))])
set_option maxRecDepth 100000 in
theorem p2_s362_s {X : Int → Int} {LX : Nat} : ck_Ok p2_O X LX 298 p2_s362 := ck_okq (cuts := []) (f := 92) ⟨p2_nmu, ck_E1 (ck_S1 p2_s186_s ck_S0) (ck_E1 (ck_S1 p2_s361_s ck_S0) ck_E0)⟩ (by decide +kernel)
set_option maxRecDepth 100000 in
/-- GlacierMailModel.person -/
noncomputable def p2_s363 : ck_Sum := (((2 : Nat), (0 : Nat), (0 : Nat)), (245 : Nat), [.inr (.inr (.inl (226 : Nat))), .inl ((8 : Int), (2147483647 : Int), []), .inl ((-2147483648 : Int), (2147483647 : Int), [])], ([], [], [((227 : Nat), (3 : Int), (3 : Int), ((0 : Int), (8 : Int), [((21 : Nat), (0 : Int))]))]), ([((226 : Nat), (0 : Int), (0 : Int))], []), [(.inr (some (.inl (ck_one 0))), (245 : Nat), ([], [], [((226 : Nat), (0 : Int), (0 : Int), ck_one 1)]))])
set_option maxRecDepth 100000 in
theorem p2_s363_s {X : Int → Int} {LX : Nat} : ck_Ok p2_O X LX 297 p2_s363 := ck_okq (cuts := []) (f := 94) ⟨p2_nmu, ck_E1 (ck_S1 p2_s362_s ck_S0) (ck_E1 (ck_S1 p2_s241_s ck_S0) ck_E0)⟩ (by decide +kernel)
set_option maxRecDepth 100000 in
/-- GlacierMailModel.in -/
noncomputable def p2_s364 : ck_Sum := (((0 : Nat), (0 : Nat), (0 : Nat)), (245 : Nat), [.inl ((0 : Int), (7 : Int), []), .inl (ck_one 0), .inl ((-1 : Int), (7 : Int), [])], ([], [], []), ([], []), [(.inr (some (.inl (ck_one 0))), (245 : Nat), ([], [], [])), (.inr (some (.inl (ck_one 1))), (245 : Nat), ([], [], []))])
set_option maxRecDepth 100000 in
theorem p2_s364_s {X : Int → Int} {LX : Nat} : ck_Ok p2_O X LX 286 p2_s364 := ck_okq (cuts := []) (f := 88) ⟨p2_nmu, ck_E0⟩ (by decide +kernel)
set_option maxRecDepth 100000 in
/-- GlacierMailModel.noPerson -/
noncomputable def p2_s365 : ck_Sum := (((1 : Nat), (0 : Nat), (0 : Nat)), (245 : Nat), [.inr (.inr (.inl (226 : Nat))), .inl ((0 : Int), (7 : Int), [])], ([], [], [((227 : Nat), (3 : Int), (3 : Int), ((0 : Int), (8 : Int), [((21 : Nat), (0 : Int))]))]), ([], []), [(.inr (some (.inl (ck_one 1))), (245 : Nat), ([], [], [])), (.inr (some (.inl (ck_one 0))), (245 : Nat), ([], [], []))])
set_option maxRecDepth 100000 in
theorem p2_s365_s {X : Int → Int} {LX : Nat} : ck_Ok p2_O X LX 298 p2_s365 := ck_okq (cuts := []) (f := 92) ⟨p2_nmu, ck_E1 (ck_S1 p2_s186_s ck_S0) (ck_E1 (ck_S1 p2_s364_s ck_S0) ck_E0)⟩ (by decide +kernel)
set_option maxRecDepth 100000 in
/-- GlacierMailModel.in -/
noncomputable def p2_s366 : ck_Sum := (((0 : Nat), (0 : Nat), (0 : Nat)), (245 : Nat), [.inl ((-2147483648 : Int), (-1 : Int), []), .inl (ck_one 0), .inl (ck_one 5)], ([], [], []), ([], []), [(.inr (some (.inl (ck_one 0))), (245 : Nat), ([], [], []))])
set_option maxRecDepth 100000 in
theorem p2_s366_s {X : Int → Int} {LX : Nat} : ck_Ok p2_O X LX 286 p2_s366 := ck_okq (cuts := []) (f := 80) ⟨p2_nmu, ck_E0⟩ (by decide +kernel)
set_option maxRecDepth 100000 in
/-- GlacierMailModel.person -/
noncomputable def p2_s367 : ck_Sum := (((2 : Nat), (0 : Nat), (0 : Nat)), (245 : Nat), [.inr (.inr (.inl (226 : Nat))), .inl ((0 : Int), (7 : Int), []), .inl ((-2147483648 : Int), (-1 : Int), [])], ([], [], [((227 : Nat), (3 : Int), (3 : Int), ((0 : Int), (8 : Int), [((21 : Nat), (0 : Int))]))]), ([((226 : Nat), (0 : Int), (0 : Int))], []), [(.inr (some (.inl (ck_one 0))), (245 : Nat), ([], [], [((226 : Nat), (0 : Int), (0 : Int), ((1 : Int), (2 : Int), []))]))])
set_option maxRecDepth 100000 in
theorem p2_s367_s {X : Int → Int} {LX : Nat} : ck_Ok p2_O X LX 297 p2_s367 := ck_okq (cuts := []) (f := 116) ⟨p2_nmu, ck_E1 (ck_S1 p2_s365_s ck_S0) (ck_E1 (ck_S1 p2_s241_s (ck_S1 p2_s242_s (ck_S1 p2_s244_s ck_S0))) (ck_E1 (ck_S1 p2_s366_s ck_S0) ck_E0))⟩ (by decide +kernel)
set_option maxRecDepth 100000 in
/-- GlacierMailModel.in -/
noncomputable def p2_s368 : ck_Sum := (((0 : Nat), (0 : Nat), (0 : Nat)), (245 : Nat), [.inl ((10 : Int), (2147483647 : Int), []), .inl (ck_one 0), .inl (ck_one 5)], ([], [], []), ([], []), [(.inr (some (.inl (ck_one 0))), (245 : Nat), ([], [], []))])
set_option maxRecDepth 100000 in
theorem p2_s368_s {X : Int → Int} {LX : Nat} : ck_Ok p2_O X LX 286 p2_s368 := ck_okq (cuts := []) (f := 86) ⟨p2_nmu, ck_E0⟩ (by decide +kernel)
set_option maxRecDepth 100000 in
/-- GlacierMailModel.person -/
noncomputable def p2_s369 : ck_Sum := (((2 : Nat), (0 : Nat), (0 : Nat)), (245 : Nat), [.inr (.inr (.inl (226 : Nat))), .inl ((0 : Int), (7 : Int), []), .inl ((10 : Int), (2147483647 : Int), [])], ([], [], [((227 : Nat), (3 : Int), (3 : Int), ((0 : Int), (8 : Int), [((21 : Nat), (0 : Int))]))]), ([((226 : Nat), (0 : Int), (0 : Int))], []), [(.inr (some (.inl (ck_one 0))), (245 : Nat), ([], [], [((226 : Nat), (0 : Int), (0 : Int), ((1 : Int), (2 : Int), []))]))])
set_option maxRecDepth 100000 in
theorem p2_s369_s {X : Int → Int} {LX : Nat} : ck_Ok p2_O X LX 297 p2_s369 := ck_okq (cuts := []) (f := 116) ⟨p2_nmu, ck_E1 (ck_S1 p2_s365_s ck_S0) (ck_E1 (ck_S1 p2_s241_s (ck_S1 p2_s242_s (ck_S1 p2_s244_s ck_S0))) (ck_E1 (ck_S1 p2_s368_s ck_S0) ck_E0))⟩ (by decide +kernel)
set_option maxRecDepth 100000 in
/-- GlacierMailModel.in -/
noncomputable def p2_s370 : ck_Sum := (((0 : Nat), (0 : Nat), (0 : Nat)), (245 : Nat), [.inl ((0 : Int), (9 : Int), []), .inl (ck_one 0), .inl (ck_one 5)], ([], [], []), ([], []), [(.inr (some (.inl (ck_one 0))), (245 : Nat), ([], [], [])), (.inr (some (.inl (ck_one 1))), (245 : Nat), ([], [], []))])
set_option maxRecDepth 100000 in
theorem p2_s370_s {X : Int → Int} {LX : Nat} : ck_Ok p2_O X LX 286 p2_s370 := ck_okq (cuts := []) (f := 88) ⟨p2_nmu, ck_E0⟩ (by decide +kernel)
set_option maxRecDepth 100000 in
/-- GlacierMailModel.ofLetter -/
noncomputable def p2_s371 : ck_Sum := (((0 : Nat), (0 : Nat), (0 : Nat)), (245 : Nat), [.inr (.inr (.inl (226 : Nat))), .inl ((0 : Int), (23 : Int), []), .inl (ck_one 1)], ([], [], []), ([], []), [(.inr (some (.inl (ck_one (-1)))), (245 : Nat), ([], [], [])), (.inr (some (.inl ((0 : Int), (7 : Int), []))), (245 : Nat), ([], [], []))])
set_option maxRecDepth 100000 in
theorem p2_s371_s {X : Int → Int} {LX : Nat} : ck_Ok p2_O X LX 301 p2_s371 := ck_okq (cuts := []) (f := 92) ⟨p2_nmu, ck_E0⟩ (by decide +kernel)
set_option maxRecDepth 100000 in
/-- GlacierMailModel.ofLetter -/
noncomputable def p2_s372 : ck_Sum := (((0 : Nat), (0 : Nat), (0 : Nat)), (245 : Nat), [.inr (.inr (.inl (226 : Nat))), .inl ((0 : Int), (23 : Int), []), .inl (ck_one 5)], ([], [], []), ([], []), [(.inr (some (.inl (ck_one (-1)))), (245 : Nat), ([], [], [])), (.inr (some (.inl ((0 : Int), (7 : Int), []))), (245 : Nat), ([], [], []))])
set_option maxRecDepth 100000 in
theorem p2_s372_s {X : Int → Int} {LX : Nat} : ck_Ok p2_O X LX 301 p2_s372 := ck_okq (cuts := []) (f := 92) ⟨p2_nmu, ck_E0⟩ (by decide +kernel)
set_option maxRecDepth 100000 in
/-- GlacierMailModel.ofLetter -/
noncomputable def p2_s373 : ck_Sum := (((0 : Nat), (0 : Nat), (0 : Nat)), (245 : Nat), [.inr (.inr (.inl (226 : Nat))), .inl ((0 : Int), (23 : Int), []), .inl (ck_one 0)], ([], [], []), ([], []), [(.inr (some (.inl (ck_one (-1)))), (245 : Nat), ([], [], [])), (.inr (some (.inl ((0 : Int), (7 : Int), []))), (245 : Nat), ([], [], []))])
set_option maxRecDepth 100000 in
theorem p2_s373_s {X : Int → Int} {LX : Nat} : ck_Ok p2_O X LX 301 p2_s373 := ck_okq (cuts := []) (f := 92) ⟨p2_nmu, ck_E0⟩ (by decide +kernel)
set_option maxRecDepth 100000 in
/-- GlacierMailModel.isRock -/
noncomputable def p2_s374 : ck_Sum := (((1 : Nat), (0 : Nat), (0 : Nat)), (245 : Nat), [.inr (.inr (.inl (226 : Nat))), .inl ((0 : Int), (23 : Int), [])], ([], [], []), ([], []), [(.inr (some (.inl (ck_one 1))), (245 : Nat), ([], [], [])), (.inr (some (.inl (ck_one 0))), (245 : Nat), ([], [], []))])
set_option maxRecDepth 100000 in
theorem p2_s374_s {X : Int → Int} {LX : Nat} : ck_Ok p2_O X LX 303 p2_s374 := ck_okq (cuts := []) (f := 86) ⟨p2_nmu, ck_E1 (ck_S1 p2_s373_s ck_S0) ck_E0⟩ (by decide +kernel)
set_option maxRecDepth 100000 in
/-- GlacierMailModel.ofLetter -/
noncomputable def p2_s375 : ck_Sum := (((0 : Nat), (0 : Nat), (0 : Nat)), (245 : Nat), [.inr (.inr (.inl (226 : Nat))), .inl ((0 : Int), (23 : Int), []), .inl (ck_one 2)], ([], [], []), ([], []), [(.inr (some (.inl ((0 : Int), (6 : Int), []))), (245 : Nat), ([], [], []))])
set_option maxRecDepth 100000 in
theorem p2_s375_s {X : Int → Int} {LX : Nat} : ck_Ok p2_O X LX 301 p2_s375 := ck_okq (cuts := []) (f := 92) ⟨p2_nmu, ck_E0⟩ (by decide +kernel)
set_option maxRecDepth 100000 in
/-- GlacierMailModel.ofLetter -/
noncomputable def p2_s376 : ck_Sum := (((0 : Nat), (0 : Nat), (0 : Nat)), (245 : Nat), [.inr (.inr (.inl (226 : Nat))), .inl ((0 : Int), (23 : Int), []), .inl (ck_one 4)], ([], [], []), ([], []), [(.inr (some (.inl ((0 : Int), (98 : Int), []))), (245 : Nat), ([], [], []))])
set_option maxRecDepth 100000 in
theorem p2_s376_s {X : Int → Int} {LX : Nat} : ck_Ok p2_O X LX 301 p2_s376 := ck_okq (cuts := []) (f := 92) ⟨p2_nmu, ck_E0⟩ (by decide +kernel)
set_option maxRecDepth 100000 in
/-- GlacierMailModel.ofLetter -/
noncomputable def p2_s377 : ck_Sum := (((0 : Nat), (0 : Nat), (0 : Nat)), (245 : Nat), [.inr (.inr (.inl (226 : Nat))), .inl ((0 : Int), (23 : Int), []), .inl (ck_one 3)], ([], [], []), ([], []), [(.inr (some (.inl ((0 : Int), (299 : Int), []))), (245 : Nat), ([], [], []))])
set_option maxRecDepth 100000 in
theorem p2_s377_s {X : Int → Int} {LX : Nat} : ck_Ok p2_O X LX 301 p2_s377 := ck_okq (cuts := []) (f := 92) ⟨p2_nmu, ck_E0⟩ (by decide +kernel)
set_option maxRecDepth 100000 in
/-- GlacierMailModel.floods -/
noncomputable def p2_s378 : ck_Sum := (((0 : Nat), (0 : Nat), (0 : Nat)), (245 : Nat), [.inr (.inr (.inl (226 : Nat))), .inl ((0 : Int), (128 : Int), []), .inl ((0 : Int), (299 : Int), []), .inl ((-1 : Int), (7 : Int), [])], ([], [], [((227 : Nat), (5 : Int), (5 : Int), ((0 : Int), (8 : Int), [((23 : Nat), (0 : Int))]))]), ([((226 : Nat), (30 : Int), (30 : Int))], []), [(.inr (some (.inl ((0 : Int), (288 : Int), []))), (245 : Nat), ([], [], []))])
noncomputable def p2_s378_E : List (Nat × List ck_Sum) := []
noncomputable def p2_s378_i : List (Nat × ck_C) := []
set_option maxRecDepth 100000 in
noncomputable def p2_s378_l : List ck_H := [((6 : Nat), ([some (.inr (.inr (.inl (226 : Nat)))), some (.inl ((0 : Int), (128 : Int), [])), some (.inl ((0 : Int), (299 : Int), [])), some (.inl ((-1 : Int), (7 : Int), [])), some (.inl ((0 : Int), (288 : Int), [])), some (.inl (ck_one 8)), some (.inl (ck_one 92))], ([], [], [((227 : Nat), (5 : Int), (5 : Int), ((8 : Int), (8 : Int), [((23 : Nat), (0 : Int))]))]), (2000000 : Nat), .inl (4 : Nat), true), (0 : Nat), (0 : Nat), (245 : Nat)), ((6 : Nat), ([some (.inr (.inr (.inl (226 : Nat)))), some (.inl ((0 : Int), (128 : Int), [])), some (.inl ((0 : Int), (299 : Int), [])), some (.inl ((-1 : Int), (7 : Int), [])), some (.inl ((0 : Int), (268 : Int), [])), some (.inl (ck_one 7)), some (.inl (ck_one 89))], ([], [], [((227 : Nat), (5 : Int), (5 : Int), ((7 : Int), (8 : Int), [((23 : Nat), (0 : Int))]))]), (2000001 : Nat), .inl (4 : Nat), true), (0 : Nat), (0 : Nat), (245 : Nat)), ((6 : Nat), ([some (.inr (.inr (.inl (226 : Nat)))), some (.inl ((0 : Int), (128 : Int), [])), some (.inl ((0 : Int), (299 : Int), [])), some (.inl ((-1 : Int), (7 : Int), [])), some (.inl ((0 : Int), (248 : Int), [])), some (.inl (ck_one 6)), some (.inl (ck_one 86))], ([], [], [((227 : Nat), (5 : Int), (5 : Int), ((6 : Int), (8 : Int), [((23 : Nat), (0 : Int))]))]), (2000002 : Nat), .inl (4 : Nat), true), (0 : Nat), (0 : Nat), (245 : Nat)), ((6 : Nat), ([some (.inr (.inr (.inl (226 : Nat)))), some (.inl ((0 : Int), (128 : Int), [])), some (.inl ((0 : Int), (299 : Int), [])), some (.inl ((-1 : Int), (7 : Int), [])), some (.inl ((0 : Int), (228 : Int), [])), some (.inl (ck_one 5)), some (.inl (ck_one 83))], ([], [], [((227 : Nat), (5 : Int), (5 : Int), ((5 : Int), (8 : Int), [((23 : Nat), (0 : Int))]))]), (2000003 : Nat), .inl (4 : Nat), true), (0 : Nat), (0 : Nat), (245 : Nat)), ((6 : Nat), ([some (.inr (.inr (.inl (226 : Nat)))), some (.inl ((0 : Int), (128 : Int), [])), some (.inl ((0 : Int), (299 : Int), [])), some (.inl ((-1 : Int), (7 : Int), [])), some (.inl ((0 : Int), (208 : Int), [])), some (.inl (ck_one 4)), some (.inl (ck_one 80))], ([], [], [((227 : Nat), (5 : Int), (5 : Int), ((4 : Int), (8 : Int), [((23 : Nat), (0 : Int))]))]), (2000004 : Nat), .inl (4 : Nat), true), (0 : Nat), (0 : Nat), (245 : Nat)), ((6 : Nat), ([some (.inr (.inr (.inl (226 : Nat)))), some (.inl ((0 : Int), (128 : Int), [])), some (.inl ((0 : Int), (299 : Int), [])), some (.inl ((-1 : Int), (7 : Int), [])), some (.inl ((0 : Int), (188 : Int), [])), some (.inl (ck_one 3)), some (.inl (ck_one 77))], ([], [], [((227 : Nat), (5 : Int), (5 : Int), ((3 : Int), (8 : Int), [((23 : Nat), (0 : Int))]))]), (2000005 : Nat), .inl (4 : Nat), true), (0 : Nat), (0 : Nat), (245 : Nat)), ((6 : Nat), ([some (.inr (.inr (.inl (226 : Nat)))), some (.inl ((0 : Int), (128 : Int), [])), some (.inl ((0 : Int), (299 : Int), [])), some (.inl ((-1 : Int), (7 : Int), [])), some (.inl ((0 : Int), (168 : Int), [])), some (.inl (ck_one 2)), some (.inl (ck_one 74))], ([], [], [((227 : Nat), (5 : Int), (5 : Int), ((2 : Int), (8 : Int), [((23 : Nat), (0 : Int))]))]), (2000006 : Nat), .inl (4 : Nat), true), (0 : Nat), (0 : Nat), (245 : Nat)), ((6 : Nat), ([some (.inr (.inr (.inl (226 : Nat)))), some (.inl ((0 : Int), (128 : Int), [])), some (.inl ((0 : Int), (299 : Int), [])), some (.inl ((-1 : Int), (7 : Int), [])), some (.inl ((0 : Int), (148 : Int), [])), some (.inl (ck_one 1)), some (.inl (ck_one 71))], ([], [], [((227 : Nat), (5 : Int), (5 : Int), ((1 : Int), (8 : Int), [((23 : Nat), (0 : Int))]))]), (2000007 : Nat), .inl (4 : Nat), true), (0 : Nat), (0 : Nat), (245 : Nat)), ((6 : Nat), ([some (.inr (.inr (.inl (226 : Nat)))), some (.inl ((0 : Int), (128 : Int), [])), some (.inl ((0 : Int), (299 : Int), [])), some (.inl ((-1 : Int), (7 : Int), [])), some (.inl ((0 : Int), (128 : Int), [])), some (.inl (ck_one 0)), none], ([], [], [((227 : Nat), (5 : Int), (5 : Int), ((0 : Int), (8 : Int), [((23 : Nat), (0 : Int))]))]), (2000008 : Nat), .inl (4 : Nat), true), (0 : Nat), (0 : Nat), (245 : Nat))]
set_option maxRecDepth 100000 in
theorem p2_s378_a : (decide (p2_s378.2.2.1.length ≤ gm_ml 307) && ck_cu (p2_s378_l.map (fun h => (h.1, h.2.1)) ++ p2_s378_i)) = true := by decide +kernel
set_option maxRecDepth 100000 in
theorem p2_s378_e0 : ck_stpi p2_O p2_s378_E 307 p2_s378.1.1 p2_s378.2.1 p2_s378.2.2.2.2.1 p2_s378.2.2.2.2.2 (p2_s378_l.map (fun h => (h.1, h.2.1)) ++ p2_s378_i) 1290 p2_s378_l 0 = true := by decide +kernel
set_option maxRecDepth 100000 in
theorem p2_s378_e1 : ck_stpi p2_O p2_s378_E 307 p2_s378.1.1 p2_s378.2.1 p2_s378.2.2.2.2.1 p2_s378.2.2.2.2.2 (p2_s378_l.map (fun h => (h.1, h.2.1)) ++ p2_s378_i) 1290 p2_s378_l 1 = true := by decide +kernel
set_option maxRecDepth 100000 in
theorem p2_s378_e2 : ck_stpi p2_O p2_s378_E 307 p2_s378.1.1 p2_s378.2.1 p2_s378.2.2.2.2.1 p2_s378.2.2.2.2.2 (p2_s378_l.map (fun h => (h.1, h.2.1)) ++ p2_s378_i) 1290 p2_s378_l 2 = true := by decide +kernel
set_option maxRecDepth 100000 in
theorem p2_s378_e3 : ck_stpi p2_O p2_s378_E 307 p2_s378.1.1 p2_s378.2.1 p2_s378.2.2.2.2.1 p2_s378.2.2.2.2.2 (p2_s378_l.map (fun h => (h.1, h.2.1)) ++ p2_s378_i) 1290 p2_s378_l 3 = true := by decide +kernel
set_option maxRecDepth 100000 in
theorem p2_s378_e4 : ck_stpi p2_O p2_s378_E 307 p2_s378.1.1 p2_s378.2.1 p2_s378.2.2.2.2.1 p2_s378.2.2.2.2.2 (p2_s378_l.map (fun h => (h.1, h.2.1)) ++ p2_s378_i) 1290 p2_s378_l 4 = true := by decide +kernel
set_option maxRecDepth 100000 in
theorem p2_s378_e5 : ck_stpi p2_O p2_s378_E 307 p2_s378.1.1 p2_s378.2.1 p2_s378.2.2.2.2.1 p2_s378.2.2.2.2.2 (p2_s378_l.map (fun h => (h.1, h.2.1)) ++ p2_s378_i) 1290 p2_s378_l 5 = true := by decide +kernel
set_option maxRecDepth 100000 in
theorem p2_s378_e6 : ck_stpi p2_O p2_s378_E 307 p2_s378.1.1 p2_s378.2.1 p2_s378.2.2.2.2.1 p2_s378.2.2.2.2.2 (p2_s378_l.map (fun h => (h.1, h.2.1)) ++ p2_s378_i) 1290 p2_s378_l 6 = true := by decide +kernel
set_option maxRecDepth 100000 in
theorem p2_s378_e7 : ck_stpi p2_O p2_s378_E 307 p2_s378.1.1 p2_s378.2.1 p2_s378.2.2.2.2.1 p2_s378.2.2.2.2.2 (p2_s378_l.map (fun h => (h.1, h.2.1)) ++ p2_s378_i) 1290 p2_s378_l 7 = true := by decide +kernel
set_option maxRecDepth 100000 in
theorem p2_s378_e8 : ck_stpi p2_O p2_s378_E 307 p2_s378.1.1 p2_s378.2.1 p2_s378.2.2.2.2.1 p2_s378.2.2.2.2.2 (p2_s378_l.map (fun h => (h.1, h.2.1)) ++ p2_s378_i) 1290 p2_s378_l 8 = true := by decide +kernel
set_option maxRecDepth 100000 in
theorem p2_s378_z : ck_go p2_O none [] p2_s378_E 307 p2_s378.1.1 p2_s378.2.1 p2_s378.2.2.2.2.1 p2_s378.2.2.2.2.2 (p2_s378_l.map (fun h => (h.1, h.2.1)) ++ p2_s378_i) 1290 false p2_s378_l p2_s378.1.2.1 p2_s378.1.2.2 0 (p2_s378.2.2.1.map some ++ List.replicate (gm_ml 307 - p2_s378.2.2.1.length) none) [] p2_s378.2.1 p2_s378.2.2.2.1 = true := by decide +kernel
theorem p2_s378_s {X : Int → Int} {LX : Nat} : ck_Ok p2_O X LX 307 p2_s378 := by
  refine ck_okp_i (cuts := p2_s378_i) (l := p2_s378_l) (f := 1290) ⟨p2_nmu, ck_E0⟩ p2_s378_a (fun i hi => ?_) p2_s378_z
  have hi : i < 9 := hi
  have : i = 0 ∨ i = 1 ∨ i = 2 ∨ i = 3 ∨ i = 4 ∨ i = 5 ∨ i = 6 ∨ i = 7 ∨ i = 8 := by omega
  rcases this with rfl | rfl | rfl | rfl | rfl | rfl | rfl | rfl | rfl
  · exact p2_s378_e0
  · exact p2_s378_e1
  · exact p2_s378_e2
  · exact p2_s378_e3
  · exact p2_s378_e4
  · exact p2_s378_e5
  · exact p2_s378_e6
  · exact p2_s378_e7
  · exact p2_s378_e8
set_option maxRecDepth 100000 in
/-- GlacierMailModel.runs -/
noncomputable def p2_s379 : ck_Sum := (((5 : Nat), (0 : Nat), (0 : Nat)), (245 : Nat), [.inr (.inr (.inl (226 : Nat))), .inl ((0 : Int), (6 : Int), []), .inl ((0 : Int), (98 : Int), []), .inl ((0 : Int), (299 : Int), []), .inl ((0 : Int), (1 : Int), []), .inl ((-1 : Int), (7 : Int), [])], ([], [], zl80), (zl81, []), [(.inr none, (245 : Nat), ([], [], []))])
set_option maxRecDepth 100000 in
theorem p2_s379_s {X : Int → Int} {LX : Nat} : ck_Ok p2_O X LX 306 p2_s379 := ck_okq (cuts := [((3 : Nat), [some (.inr (.inr (.inl (226 : Nat)))), some (.inl ((0 : Int), (6 : Int), [])), some (.inl ((0 : Int), (98 : Int), [])), some (.inl ((0 : Int), (299 : Int), [])), some (.inl ((0 : Int), (1 : Int), [])), some (.inl ((-1 : Int), (7 : Int), [])), some (.inl ((0 : Int), (299 : Int), [])), none, none], ([], [], [((227 : Nat), (2 : Int), (2 : Int), ((0 : Int), (8 : Int), [((20 : Nat), (0 : Int))])), ((227 : Nat), (5 : Int), (5 : Int), ((0 : Int), (8 : Int), [((23 : Nat), (0 : Int))]))]), (100 : Nat), .inl (6 : Nat), true), ((50 : Nat), [some (.inr (.inr (.inl (226 : Nat)))), some (.inl ((0 : Int), (6 : Int), [])), some (.inl ((0 : Int), (98 : Int), [])), some (.inl ((0 : Int), (299 : Int), [])), some (.inl ((0 : Int), (1 : Int), [])), some (.inl ((-1 : Int), (7 : Int), [])), some (.inl ((0 : Int), (288 : Int), [])), some (.inl ((0 : Int), (99 : Int), [])), some (.inl ((0 : Int), (300 : Int), []))], ([], [], [((226 : Nat), (29 : Int), (29 : Int), ((-1 : Int), (299 : Int), [])), ((227 : Nat), (2 : Int), (2 : Int), ((0 : Int), (8 : Int), [((20 : Nat), (0 : Int))])), ((227 : Nat), (5 : Int), (5 : Int), ((0 : Int), (8 : Int), [((23 : Nat), (0 : Int))]))]), (300 : Nat), .inl (8 : Nat), true)]) (f := 506) ⟨p2_nmu, ck_E1 (ck_S1 p2_s180_s ck_S0) (ck_E1 (ck_S1 p2_s318_s ck_S0) (ck_E1 (ck_S1 p2_s378_s ck_S0) ck_E0))⟩ (by decide +kernel)
set_option maxRecDepth 100000 in
/-- GlacierMailModel.runsLetter -/
noncomputable def p2_s380 : ck_Sum := (((6 : Nat), (0 : Nat), (0 : Nat)), (245 : Nat), [.inr (.inr (.inl (226 : Nat))), .inl ((0 : Int), (23 : Int), []), .inl ((-1 : Int), (7 : Int), [])], ([], [], zl80), (zl81, []), [(.inr none, (245 : Nat), ([], [], []))])
set_option maxRecDepth 100000 in
theorem p2_s380_s {X : Int → Int} {LX : Nat} : ck_Ok p2_O X LX 305 p2_s380 := ck_okq (cuts := []) (f := 108) ⟨p2_nmu, ck_E1 (ck_S1 p2_s375_s (ck_S1 p2_s376_s (ck_S1 p2_s377_s ck_S0))) (ck_E1 (ck_S1 p2_s374_s ck_S0) (ck_E1 (ck_S1 p2_s379_s ck_S0) ck_E0))⟩ (by decide +kernel)
set_option maxRecDepth 100000 in
/-- GlacierMailModel.outOf -/
noncomputable def p2_s381 : ck_Sum := (((7 : Nat), (0 : Nat), (0 : Nat)), (245 : Nat), [.inr (.inr (.inl (226 : Nat))), .inl ((0 : Int), (23 : Int), [])], ([], [], zl80), (zl81, []), zl82)
set_option maxRecDepth 100000 in
theorem p2_s381_s {X : Int → Int} {LX : Nat} : ck_Ok p2_O X LX 304 p2_s381 := ck_okq (cuts := []) (f := 84) ⟨p2_nmu, ck_E1 (ck_S1 p2_s380_s ck_S0) ck_E0⟩ (by decide +kernel)
set_option maxRecDepth 100000 in
/-- GlacierMailModel.of -/
noncomputable def p2_s384 : ck_Sum := (((0 : Nat), (0 : Nat), (0 : Nat)), (245 : Nat), [.inr (.inr (.inl (226 : Nat))), .inl ((0 : Int), (7 : Int), []), .inl ((0 : Int), (2 : Int), [])], ([], [], []), ([], []), [(.inr (some (.inl ((-1 : Int), (98 : Int), []))), (245 : Nat), ([], [], []))])
set_option maxRecDepth 100000 in
theorem p2_s384_s {X : Int → Int} {LX : Nat} : ck_Ok p2_O X LX 299 p2_s384 := ck_okq (cuts := []) (f := 92) ⟨p2_nmu, ck_E0⟩ (by decide +kernel)
set_option maxRecDepth 100000 in
/-- GlacierMail.need -/
noncomputable def p2_s386 : ck_Sum := (((6 : Nat), (1 : Nat), (6 : Nat)), (245 : Nat), [.inr (.inr (.inl (1 : Nat))), .inl ((-2147483648 : Int), (-1 : Int), []), .inl ((0 : Int), (24 : Int), [])], ([], [], []), ([], []), [(.inl (3 : Nat), (245 : Nat), ([], [], []))])
set_option maxRecDepth 100000 in
theorem p2_s386_s {X : Int → Int} {LX : Nat} : ck_Ok p2_O X LX 133 p2_s386 := ck_okq (cuts := []) (f := 76) ⟨p2_nmu, ck_E0⟩ (by decide +kernel)
set_option maxRecDepth 100000 in
/-- GlacierMail.needLetter -/
noncomputable def p2_s387 : ck_Sum := (((7 : Nat), (1 : Nat), (6 : Nat)), (245 : Nat), [.inr (.inr (.inl (1 : Nat))), .inl ((-2147483648 : Int), (-1 : Int), [])], ([], [], []), ([], []), [(.inl (3 : Nat), (245 : Nat), ([], [], []))])
set_option maxRecDepth 100000 in
theorem p2_s387_s {X : Int → Int} {LX : Nat} : ck_Ok p2_O X LX 143 p2_s387 := ck_okq (cuts := []) (f := 84) ⟨p2_nmu, ck_E1 (ck_S1 p2_s331_s ck_S0) (ck_E1 (ck_S1 p2_s386_s ck_S0) ck_E0)⟩ (by decide +kernel)
set_option maxRecDepth 100000 in
/-- GlacierMail.letter -/
noncomputable def p2_s388 : ck_Sum := (((8 : Nat), (1 : Nat), (6 : Nat)), (245 : Nat), [.inr (.inr (.inl (1 : Nat))), .inl ((-2147483648 : Int), (-1 : Int), []), .inl ((-2147483648 : Int), (2147483647 : Int), [])], ([], [], []), ([], []), [(.inl (3 : Nat), (245 : Nat), ([], [], []))])
set_option maxRecDepth 100000 in
theorem p2_s388_s {X : Int → Int} {LX : Nat} : ck_Ok p2_O X LX 142 p2_s388 := ck_okq (cuts := []) (f := 76) ⟨p2_nmu, ck_E1 (ck_S1 p2_s387_s ck_S0) ck_E0⟩ (by decide +kernel)
set_option maxRecDepth 100000 in
/-- GlacierMail.need -/
noncomputable def p2_s389 : ck_Sum := (((6 : Nat), (1 : Nat), (6 : Nat)), (245 : Nat), [.inr (.inr (.inl (1 : Nat))), .inl ((24 : Int), (2147483647 : Int), []), .inl ((0 : Int), (24 : Int), [])], ([], [], []), ([], []), [(.inl (3 : Nat), (245 : Nat), ([], [], []))])
set_option maxRecDepth 100000 in
theorem p2_s389_s {X : Int → Int} {LX : Nat} : ck_Ok p2_O X LX 133 p2_s389 := ck_okq (cuts := []) (f := 82) ⟨p2_nmu, ck_E0⟩ (by decide +kernel)
set_option maxRecDepth 100000 in
/-- GlacierMail.needLetter -/
noncomputable def p2_s390 : ck_Sum := (((7 : Nat), (1 : Nat), (6 : Nat)), (245 : Nat), [.inr (.inr (.inl (1 : Nat))), .inl ((24 : Int), (2147483647 : Int), [])], ([], [], []), ([], []), [(.inl (3 : Nat), (245 : Nat), ([], [], []))])
set_option maxRecDepth 100000 in
theorem p2_s390_s {X : Int → Int} {LX : Nat} : ck_Ok p2_O X LX 143 p2_s390 := ck_okq (cuts := []) (f := 84) ⟨p2_nmu, ck_E1 (ck_S1 p2_s331_s ck_S0) (ck_E1 (ck_S1 p2_s389_s ck_S0) ck_E0)⟩ (by decide +kernel)
set_option maxRecDepth 100000 in
/-- GlacierMail.letter -/
noncomputable def p2_s391 : ck_Sum := (((8 : Nat), (1 : Nat), (6 : Nat)), (245 : Nat), [.inr (.inr (.inl (1 : Nat))), .inl ((24 : Int), (2147483647 : Int), []), .inl ((-2147483648 : Int), (2147483647 : Int), [])], ([], [], []), ([], []), [(.inl (3 : Nat), (245 : Nat), ([], [], []))])
set_option maxRecDepth 100000 in
theorem p2_s391_s {X : Int → Int} {LX : Nat} : ck_Ok p2_O X LX 142 p2_s391 := ck_okq (cuts := []) (f := 76) ⟨p2_nmu, ck_E1 (ck_S1 p2_s390_s ck_S0) ck_E0⟩ (by decide +kernel)
set_option maxRecDepth 100000 in
/-- GlacierMail.need -/
noncomputable def p2_s392 : ck_Sum := (((6 : Nat), (1 : Nat), (6 : Nat)), (245 : Nat), [.inr (.inr (.inl (1 : Nat))), .inl ((0 : Int), (23 : Int), []), .inl ((0 : Int), (24 : Int), [])], ([], [], []), ([], []), [(.inr none, (245 : Nat), ([], [], [])), (.inl (3 : Nat), (245 : Nat), ([], [], []))])
set_option maxRecDepth 100000 in
theorem p2_s392_s {X : Int → Int} {LX : Nat} : ck_Ok p2_O X LX 133 p2_s392 := ck_okq (cuts := []) (f := 82) ⟨p2_nmu, ck_E0⟩ (by decide +kernel)
set_option maxRecDepth 100000 in
/-- GlacierMail.needLetter -/
noncomputable def p2_s393 : ck_Sum := (((7 : Nat), (1 : Nat), (6 : Nat)), (245 : Nat), [.inr (.inr (.inl (1 : Nat))), .inl ((0 : Int), (23 : Int), [])], ([], [], []), ([], []), [(.inl (3 : Nat), (245 : Nat), ([], [], [])), (.inr none, (245 : Nat), ([], [], []))])
set_option maxRecDepth 100000 in
theorem p2_s393_s {X : Int → Int} {LX : Nat} : ck_Ok p2_O X LX 143 p2_s393 := ck_okq (cuts := []) (f := 86) ⟨p2_nmu, ck_E1 (ck_S1 p2_s331_s ck_S0) (ck_E1 (ck_S1 p2_s392_s ck_S0) ck_E0)⟩ (by decide +kernel)
set_option maxRecDepth 100000 in
/-- GlacierMail.letter -/
noncomputable def p2_s394 : ck_Sum := (((8 : Nat), (2 : Nat), (12 : Nat)), (245 : Nat), [.inr (.inr (.inl (1 : Nat))), .inl ((0 : Int), (23 : Int), []), .inl ((-2147483648 : Int), (-1 : Int), [])], ([], [], []), ([], []), [(.inl (3 : Nat), (245 : Nat), ([], [], [])), (.inl (4 : Nat), (245 : Nat), ([], [], []))])
set_option maxRecDepth 100000 in
theorem p2_s394_s {X : Int → Int} {LX : Nat} : ck_Ok p2_O X LX 142 p2_s394 := ck_okq (cuts := []) (f := 82) ⟨p2_nmu, ck_E1 (ck_S1 p2_s393_s ck_S0) ck_E0⟩ (by decide +kernel)
set_option maxRecDepth 100000 in
/-- GlacierMail.letter -/
noncomputable def p2_s395 : ck_Sum := (((8 : Nat), (2 : Nat), (12 : Nat)), (245 : Nat), [.inr (.inr (.inl (1 : Nat))), .inl ((0 : Int), (23 : Int), []), .inl ((10 : Int), (2147483647 : Int), [])], ([], [], []), ([], []), [(.inl (3 : Nat), (245 : Nat), ([], [], [])), (.inl (4 : Nat), (245 : Nat), ([], [], []))])
set_option maxRecDepth 100000 in
theorem p2_s395_s {X : Int → Int} {LX : Nat} : ck_Ok p2_O X LX 142 p2_s395 := ck_okq (cuts := []) (f := 82) ⟨p2_nmu, ck_E1 (ck_S1 p2_s393_s ck_S0) ck_E0⟩ (by decide +kernel)
set_option maxRecDepth 100000 in
/-- GlacierMail.firstBare -/
noncomputable def p2_s396 : ck_Sum := (((3 : Nat), (0 : Nat), (0 : Nat)), (245 : Nat), [.inr (.inr (.inl (1 : Nat))), .inl ((0 : Int), (23 : Int), [])], ([], [((3 : Nat), (8 : Int), (0 : Nat))], []), ([((206 : Nat), (2 : Int), (8 : Int))], []), [(.inr (some (.inl (ck_one (-1)))), (245 : Nat), ([], [], zl86)), (.inr (some (.inl ((0 : Int), (299 : Int), []))), (245 : Nat), ([], [], zl87))])
set_option maxRecDepth 100000 in
theorem p2_s396_s {X : Int → Int} {LX : Nat} : ck_Ok p2_O X LX 145 p2_s396 := ck_okq (cuts := [((18 : Nat), [some (.inr (.inr (.inl (1 : Nat)))), some (.inl ((0 : Int), (23 : Int), [])), some (.inl ((0 : Int), (300 : Int), []))], ([], [((3 : Nat), (8 : Int), (0 : Nat))], [((206 : Nat), (6 : Int), (6 : Int), ((0 : Int), (99 : Int), [])), ((206 : Nat), (4 : Int), (4 : Int), ck_one (-1)), ((206 : Nat), (5 : Int), (5 : Int), ((-2147483648 : Int), (299 : Int), [])), ((206 : Nat), (2 : Int), (2 : Int), ((-1 : Int), (299 : Int), []))]), (100 : Nat), .inl (2 : Nat), true)]) (f := 158) ⟨p2_nmu, ck_E1 (ck_S1 p2_s339_s ck_S0) (ck_E1 (ck_S1 p2_s345_s ck_S0) (ck_E1 (ck_S1 p2_s340_s ck_S0) ck_E0))⟩ (by decide +kernel)
set_option maxRecDepth 100000 in
/-- GlacierMail.outOf -/
noncomputable def p2_s397 : ck_Sum := (((4 : Nat), (0 : Nat), (0 : Nat)), (245 : Nat), [.inr (.inr (.inl (1 : Nat))), .inl ((0 : Int), (23 : Int), [])], ([], [((3 : Nat), (8 : Int), (0 : Nat))], []), ([((206 : Nat), (2 : Int), (8 : Int))], []), [(.inr (some (.inl ((-2147483648 : Int), (299 : Int), []))), (245 : Nat), ([], [], zl86))])
set_option maxRecDepth 100000 in
theorem p2_s397_s {X : Int → Int} {LX : Nat} : ck_Ok p2_O X LX 144 p2_s397 := ck_okq (cuts := []) (f := 88) ⟨p2_nmu, ck_E1 (ck_S1 p2_s339_s ck_S0) (ck_E1 (ck_S1 p2_s346_s ck_S0) ck_E0)⟩ (by decide +kernel)
set_option maxRecDepth 100000 in
/-- GlacierMail.letter -/
noncomputable def p2_s398 : ck_Sum := (((8 : Nat), (1 : Nat), (6 : Nat)), (245 : Nat), [.inr (.inr (.inl (1 : Nat))), .inl ((0 : Int), (23 : Int), []), .inl ((0 : Int), (9 : Int), [])], ([], [((3 : Nat), (8 : Int), (0 : Nat))], []), ([((206 : Nat), (2 : Int), (8 : Int))], []), [(.inl (3 : Nat), (245 : Nat), ([], [], [])), (.inr (some (.inl ((-2147483648 : Int), (299 : Int), []))), (245 : Nat), ([], [], [])), (.inr (some (.inl ((0 : Int), (299 : Int), []))), (245 : Nat), ([], [], zl86))])
set_option maxRecDepth 100000 in
theorem p2_s398_s {X : Int → Int} {LX : Nat} : ck_Ok p2_O X LX 142 p2_s398 := ck_okq (cuts := []) (f := 98) ⟨p2_nmu, ck_E1 (ck_S1 p2_s393_s ck_S0) (ck_E1 (ck_S1 p2_s335_s ck_S0) (ck_E1 (ck_S1 p2_s396_s ck_S0) (ck_E1 (ck_S1 p2_s397_s ck_S0) ck_E0)))⟩ (by decide +kernel)
set_option maxRecDepth 100000 in
/-- GlacierMailModel.in -/
noncomputable def p2_s399 : ck_Sum := (((0 : Nat), (0 : Nat), (0 : Nat)), (245 : Nat), [.inl ((-2147483648 : Int), (-1 : Int), []), .inl (ck_one 0), .inl ((-1 : Int), (23 : Int), [])], ([], [], []), ([], []), [(.inr (some (.inl (ck_one 0))), (245 : Nat), ([], [], []))])
set_option maxRecDepth 100000 in
theorem p2_s399_s {X : Int → Int} {LX : Nat} : ck_Ok p2_O X LX 286 p2_s399 := ck_okq (cuts := []) (f := 80) ⟨p2_nmu, ck_E0⟩ (by decide +kernel)
set_option maxRecDepth 100000 in
/-- GlacierMailModel.noLetter -/
noncomputable def p2_s400 : ck_Sum := (((1 : Nat), (0 : Nat), (0 : Nat)), (245 : Nat), [.inr (.inr (.inl (226 : Nat))), .inl ((-2147483648 : Int), (-1 : Int), [])], ([], [], [((227 : Nat), (4 : Int), (4 : Int), ((0 : Int), (24 : Int), [((22 : Nat), (0 : Int))]))]), ([], []), [(.inr (some (.inl (ck_one 1))), (245 : Nat), ([], [], []))])
set_option maxRecDepth 100000 in
theorem p2_s400_s {X : Int → Int} {LX : Nat} : ck_Ok p2_O X LX 309 p2_s400 := ck_okq (cuts := []) (f := 92) ⟨p2_nmu, ck_E1 (ck_S1 p2_s176_s ck_S0) (ck_E1 (ck_S1 p2_s399_s ck_S0) ck_E0)⟩ (by decide +kernel)
set_option maxRecDepth 100000 in
/-- GlacierMailModel.letter -/
noncomputable def p2_s401 : ck_Sum := (((2 : Nat), (0 : Nat), (0 : Nat)), (245 : Nat), [.inr (.inr (.inl (226 : Nat))), .inl ((-2147483648 : Int), (-1 : Int), []), .inl ((-2147483648 : Int), (2147483647 : Int), [])], ([], [], [((227 : Nat), (4 : Int), (4 : Int), ((0 : Int), (24 : Int), [((22 : Nat), (0 : Int))]))]), ([((226 : Nat), (0 : Int), (0 : Int))], []), [(.inr (some (.inl (ck_one 0))), (245 : Nat), ([], [], [((226 : Nat), (0 : Int), (0 : Int), ck_one 1)]))])
set_option maxRecDepth 100000 in
theorem p2_s401_s {X : Int → Int} {LX : Nat} : ck_Ok p2_O X LX 308 p2_s401 := ck_okq (cuts := []) (f := 94) ⟨p2_nmu, ck_E1 (ck_S1 p2_s400_s ck_S0) (ck_E1 (ck_S1 p2_s241_s ck_S0) ck_E0)⟩ (by decide +kernel)
set_option maxRecDepth 100000 in
/-- GlacierMailModel.in -/
noncomputable def p2_s402 : ck_Sum := (((0 : Nat), (0 : Nat), (0 : Nat)), (245 : Nat), [.inl ((24 : Int), (2147483647 : Int), []), .inl (ck_one 0), .inl ((-1 : Int), (23 : Int), [])], ([], [], []), ([], []), [(.inr (some (.inl (ck_one 0))), (245 : Nat), ([], [], []))])
set_option maxRecDepth 100000 in
theorem p2_s402_s {X : Int → Int} {LX : Nat} : ck_Ok p2_O X LX 286 p2_s402 := ck_okq (cuts := []) (f := 86) ⟨p2_nmu, ck_E0⟩ (by decide +kernel)
set_option maxRecDepth 100000 in
/-- GlacierMailModel.noLetter -/
noncomputable def p2_s403 : ck_Sum := (((1 : Nat), (0 : Nat), (0 : Nat)), (245 : Nat), [.inr (.inr (.inl (226 : Nat))), .inl ((24 : Int), (2147483647 : Int), [])], ([], [], [((227 : Nat), (4 : Int), (4 : Int), ((0 : Int), (24 : Int), [((22 : Nat), (0 : Int))]))]), ([], []), [(.inr (some (.inl (ck_one 1))), (245 : Nat), ([], [], []))])
set_option maxRecDepth 100000 in
theorem p2_s403_s {X : Int → Int} {LX : Nat} : ck_Ok p2_O X LX 309 p2_s403 := ck_okq (cuts := []) (f := 92) ⟨p2_nmu, ck_E1 (ck_S1 p2_s176_s ck_S0) (ck_E1 (ck_S1 p2_s402_s ck_S0) ck_E0)⟩ (by decide +kernel)
set_option maxRecDepth 100000 in
/-- GlacierMailModel.letter -/
noncomputable def p2_s404 : ck_Sum := (((2 : Nat), (0 : Nat), (0 : Nat)), (245 : Nat), [.inr (.inr (.inl (226 : Nat))), .inl ((24 : Int), (2147483647 : Int), []), .inl ((-2147483648 : Int), (2147483647 : Int), [])], ([], [], [((227 : Nat), (4 : Int), (4 : Int), ((0 : Int), (24 : Int), [((22 : Nat), (0 : Int))]))]), ([((226 : Nat), (0 : Int), (0 : Int))], []), [(.inr (some (.inl (ck_one 0))), (245 : Nat), ([], [], [((226 : Nat), (0 : Int), (0 : Int), ck_one 1)]))])
set_option maxRecDepth 100000 in
theorem p2_s404_s {X : Int → Int} {LX : Nat} : ck_Ok p2_O X LX 308 p2_s404 := ck_okq (cuts := []) (f := 94) ⟨p2_nmu, ck_E1 (ck_S1 p2_s403_s ck_S0) (ck_E1 (ck_S1 p2_s241_s ck_S0) ck_E0)⟩ (by decide +kernel)
set_option maxRecDepth 100000 in
/-- GlacierMailModel.in -/
noncomputable def p2_s405 : ck_Sum := (((0 : Nat), (0 : Nat), (0 : Nat)), (245 : Nat), [.inl ((0 : Int), (23 : Int), []), .inl (ck_one 0), .inl ((-1 : Int), (23 : Int), [])], ([], [], []), ([], []), [(.inr (some (.inl (ck_one 0))), (245 : Nat), ([], [], [])), (.inr (some (.inl (ck_one 1))), (245 : Nat), ([], [], []))])
set_option maxRecDepth 100000 in
theorem p2_s405_s {X : Int → Int} {LX : Nat} : ck_Ok p2_O X LX 286 p2_s405 := ck_okq (cuts := []) (f := 88) ⟨p2_nmu, ck_E0⟩ (by decide +kernel)
set_option maxRecDepth 100000 in
/-- GlacierMailModel.noLetter -/
noncomputable def p2_s406 : ck_Sum := (((1 : Nat), (0 : Nat), (0 : Nat)), (245 : Nat), [.inr (.inr (.inl (226 : Nat))), .inl ((0 : Int), (23 : Int), [])], ([], [], [((227 : Nat), (4 : Int), (4 : Int), ((0 : Int), (24 : Int), [((22 : Nat), (0 : Int))]))]), ([], []), [(.inr (some (.inl (ck_one 1))), (245 : Nat), ([], [], [])), (.inr (some (.inl (ck_one 0))), (245 : Nat), ([], [], []))])
set_option maxRecDepth 100000 in
theorem p2_s406_s {X : Int → Int} {LX : Nat} : ck_Ok p2_O X LX 309 p2_s406 := ck_okq (cuts := []) (f := 92) ⟨p2_nmu, ck_E1 (ck_S1 p2_s176_s ck_S0) (ck_E1 (ck_S1 p2_s405_s ck_S0) ck_E0)⟩ (by decide +kernel)
set_option maxRecDepth 100000 in
/-- GlacierMailModel.in -/
noncomputable def p2_s407 : ck_Sum := (((0 : Nat), (0 : Nat), (0 : Nat)), (245 : Nat), [.inl ((-2147483648 : Int), (-1 : Int), []), .inl (ck_one 0), .inl (ck_one 9)], ([], [], []), ([], []), [(.inr (some (.inl (ck_one 0))), (245 : Nat), ([], [], []))])
set_option maxRecDepth 100000 in
theorem p2_s407_s {X : Int → Int} {LX : Nat} : ck_Ok p2_O X LX 286 p2_s407 := ck_okq (cuts := []) (f := 80) ⟨p2_nmu, ck_E0⟩ (by decide +kernel)
set_option maxRecDepth 100000 in
/-- GlacierMailModel.letter -/
noncomputable def p2_s408 : ck_Sum := (((2 : Nat), (0 : Nat), (0 : Nat)), (245 : Nat), [.inr (.inr (.inl (226 : Nat))), .inl ((0 : Int), (23 : Int), []), .inl ((-2147483648 : Int), (-1 : Int), [])], ([], [], [((227 : Nat), (4 : Int), (4 : Int), ((0 : Int), (24 : Int), [((22 : Nat), (0 : Int))]))]), ([((226 : Nat), (0 : Int), (0 : Int))], []), [(.inr (some (.inl (ck_one 0))), (245 : Nat), ([], [], [((226 : Nat), (0 : Int), (0 : Int), ((1 : Int), (2 : Int), []))]))])
set_option maxRecDepth 100000 in
theorem p2_s408_s {X : Int → Int} {LX : Nat} : ck_Ok p2_O X LX 308 p2_s408 := ck_okq (cuts := []) (f := 116) ⟨p2_nmu, ck_E1 (ck_S1 p2_s406_s ck_S0) (ck_E1 (ck_S1 p2_s241_s (ck_S1 p2_s242_s (ck_S1 p2_s244_s ck_S0))) (ck_E1 (ck_S1 p2_s407_s ck_S0) ck_E0))⟩ (by decide +kernel)
set_option maxRecDepth 100000 in
/-- GlacierMailModel.in -/
noncomputable def p2_s409 : ck_Sum := (((0 : Nat), (0 : Nat), (0 : Nat)), (245 : Nat), [.inl ((10 : Int), (2147483647 : Int), []), .inl (ck_one 0), .inl (ck_one 9)], ([], [], []), ([], []), [(.inr (some (.inl (ck_one 0))), (245 : Nat), ([], [], []))])
set_option maxRecDepth 100000 in
theorem p2_s409_s {X : Int → Int} {LX : Nat} : ck_Ok p2_O X LX 286 p2_s409 := ck_okq (cuts := []) (f := 86) ⟨p2_nmu, ck_E0⟩ (by decide +kernel)
set_option maxRecDepth 100000 in
/-- GlacierMailModel.letter -/
noncomputable def p2_s410 : ck_Sum := (((2 : Nat), (0 : Nat), (0 : Nat)), (245 : Nat), [.inr (.inr (.inl (226 : Nat))), .inl ((0 : Int), (23 : Int), []), .inl ((10 : Int), (2147483647 : Int), [])], ([], [], [((227 : Nat), (4 : Int), (4 : Int), ((0 : Int), (24 : Int), [((22 : Nat), (0 : Int))]))]), ([((226 : Nat), (0 : Int), (0 : Int))], []), [(.inr (some (.inl (ck_one 0))), (245 : Nat), ([], [], [((226 : Nat), (0 : Int), (0 : Int), ((1 : Int), (2 : Int), []))]))])
set_option maxRecDepth 100000 in
theorem p2_s410_s {X : Int → Int} {LX : Nat} : ck_Ok p2_O X LX 308 p2_s410 := ck_okq (cuts := []) (f := 116) ⟨p2_nmu, ck_E1 (ck_S1 p2_s406_s ck_S0) (ck_E1 (ck_S1 p2_s241_s (ck_S1 p2_s242_s (ck_S1 p2_s244_s ck_S0))) (ck_E1 (ck_S1 p2_s409_s ck_S0) ck_E0))⟩ (by decide +kernel)
set_option maxRecDepth 100000 in
/-- GlacierMailModel.in -/
noncomputable def p2_s411 : ck_Sum := (((0 : Nat), (0 : Nat), (0 : Nat)), (245 : Nat), [.inl ((0 : Int), (9 : Int), []), .inl (ck_one 0), .inl (ck_one 9)], ([], [], []), ([], []), [(.inr (some (.inl (ck_one 1))), (245 : Nat), ([], [], []))])
set_option maxRecDepth 100000 in
theorem p2_s411_s {X : Int → Int} {LX : Nat} : ck_Ok p2_O X LX 286 p2_s411 := ck_okq (cuts := []) (f := 88) ⟨p2_nmu, ck_E0⟩ (by decide +kernel)
set_option maxRecDepth 100000 in
/-- GlacierMailModel.isInIce -/
noncomputable def p2_s412 : ck_Sum := (((1 : Nat), (0 : Nat), (0 : Nat)), (245 : Nat), [.inr (.inr (.inl (226 : Nat))), .inl ((0 : Int), (299 : Int), [])], ([], [], []), ([], []), [(.inr (some (.inl (ck_one 0))), (245 : Nat), ([], [], [])), (.inr (some (.inl (ck_one 1))), (245 : Nat), ([], [], []))])
set_option maxRecDepth 100000 in
theorem p2_s412_s {X : Int → Int} {LX : Nat} : ck_Ok p2_O X LX 312 p2_s412 := ck_okq (cuts := []) (f := 100) ⟨p2_nmu, ck_E1 (ck_S1 p2_s180_s ck_S0) ck_E0⟩ (by decide +kernel)
set_option maxRecDepth 100000 in
/-- GlacierMailModel.isBare -/
noncomputable def p2_s413 : ck_Sum := (((2 : Nat), (0 : Nat), (0 : Nat)), (245 : Nat), [.inr (.inr (.inl (226 : Nat))), .inl ((0 : Int), (23 : Int), []), .inl ((0 : Int), (299 : Int), [])], ([], [], []), ([], []), [(.inr (some (.inl (ck_one 0))), (245 : Nat), ([], [], [])), (.inr (some (.inl (ck_one 1))), (245 : Nat), ([], [], []))])
set_option maxRecDepth 100000 in
theorem p2_s413_s {X : Int → Int} {LX : Nat} : ck_Ok p2_O X LX 311 p2_s413 := ck_okq (cuts := []) (f := 106) ⟨p2_nmu, ck_E1 (ck_S1 p2_s377_s ck_S0) (ck_E1 (ck_S1 p2_s412_s ck_S0) ck_E0)⟩ (by decide +kernel)
set_option maxRecDepth 100000 in
/-- GlacierMailModel.bareFrom -/
noncomputable def p2_s414 : ck_Sum := (((3 : Nat), (0 : Nat), (0 : Nat)), (245 : Nat), [.inr (.inr (.inl (226 : Nat))), .inl ((0 : Int), (23 : Int), [])], ([], [], []), ([], []), [(.inr (some (.inl (ck_one (-1)))), (245 : Nat), ([], [], [])), (.inr (some (.inl ((0 : Int), (299 : Int), []))), (245 : Nat), ([], [], []))])
set_option maxRecDepth 100000 in
theorem p2_s414_s {X : Int → Int} {LX : Nat} : ck_Ok p2_O X LX 310 p2_s414 := ck_okq (cuts := [((2 : Nat), [some (.inr (.inr (.inl (226 : Nat)))), some (.inl ((0 : Int), (23 : Int), [])), some (.inl ((0 : Int), (300 : Int), []))], ([], [], []), (100 : Nat), .inl (2 : Nat), true)]) (f := 134) ⟨p2_nmu, ck_E1 (ck_S1 p2_s413_s ck_S0) ck_E0⟩ (by decide +kernel)
set_option maxRecDepth 100000 in
/-- GlacierMailModel.ofLetter -/
noncomputable def p2_s415 : ck_Sum := (((0 : Nat), (0 : Nat), (0 : Nat)), (245 : Nat), [.inr (.inr (.inl (226 : Nat))), .inl ((0 : Int), (23 : Int), []), .inl ((0 : Int), (6 : Int), [])], ([], [], []), ([], []), [(.inr (some (.inl ((-1 : Int), (299 : Int), []))), (245 : Nat), ([], [], []))])
set_option maxRecDepth 100000 in
theorem p2_s415_s {X : Int → Int} {LX : Nat} : ck_Ok p2_O X LX 301 p2_s415 := ck_okq (cuts := []) (f := 92) ⟨p2_nmu, ck_E0⟩ (by decide +kernel)
set_option maxRecDepth 100000 in
/-- GlacierMail.where -/
noncomputable def p2_s417 : ck_Sum := (((8 : Nat), (1 : Nat), (6 : Nat)), (245 : Nat), [.inr (.inr (.inl (1 : Nat))), .inl ((-2147483648 : Int), (-1 : Int), []), .inl ((-2147483648 : Int), (2147483647 : Int), [])], ([], [], []), ([], []), [(.inl (3 : Nat), (245 : Nat), ([], [], []))])
set_option maxRecDepth 100000 in
theorem p2_s417_s {X : Int → Int} {LX : Nat} : ck_Ok p2_O X LX 147 p2_s417 := ck_okq (cuts := []) (f := 76) ⟨p2_nmu, ck_E1 (ck_S1 p2_s387_s ck_S0) ck_E0⟩ (by decide +kernel)
set_option maxRecDepth 100000 in
/-- GlacierMail.where -/
noncomputable def p2_s418 : ck_Sum := (((8 : Nat), (1 : Nat), (6 : Nat)), (245 : Nat), [.inr (.inr (.inl (1 : Nat))), .inl ((24 : Int), (2147483647 : Int), []), .inl ((-2147483648 : Int), (2147483647 : Int), [])], ([], [], []), ([], []), [(.inl (3 : Nat), (245 : Nat), ([], [], []))])
set_option maxRecDepth 100000 in
theorem p2_s418_s {X : Int → Int} {LX : Nat} : ck_Ok p2_O X LX 147 p2_s418 := ck_okq (cuts := []) (f := 76) ⟨p2_nmu, ck_E1 (ck_S1 p2_s390_s ck_S0) ck_E0⟩ (by decide +kernel)
set_option maxRecDepth 100000 in
/-- GlacierMail.where -/
noncomputable def p2_s419 : ck_Sum := (((8 : Nat), (2 : Nat), (12 : Nat)), (245 : Nat), [.inr (.inr (.inl (1 : Nat))), .inl ((0 : Int), (23 : Int), []), .inl ((-2147483648 : Int), (-1 : Int), [])], ([], [], []), ([], []), [(.inl (3 : Nat), (245 : Nat), ([], [], [])), (.inl (0 : Nat), (245 : Nat), ([], [], []))])
set_option maxRecDepth 100000 in
theorem p2_s419_s {X : Int → Int} {LX : Nat} : ck_Ok p2_O X LX 147 p2_s419 := ck_okq (cuts := []) (f := 82) ⟨p2_nmu, ck_E1 (ck_S1 p2_s393_s ck_S0) (ck_E1 (ck_S1 p2_s249_s ck_S0) ck_E0)⟩ (by decide +kernel)
set_option maxRecDepth 100000 in
/-- GlacierMail.where -/
noncomputable def p2_s420 : ck_Sum := (((8 : Nat), (2 : Nat), (12 : Nat)), (245 : Nat), [.inr (.inr (.inl (1 : Nat))), .inl ((0 : Int), (23 : Int), []), .inl ((300 : Int), (2147483647 : Int), [])], ([], [], []), ([], []), [(.inl (3 : Nat), (245 : Nat), ([], [], [])), (.inl (0 : Nat), (245 : Nat), ([], [], []))])
set_option maxRecDepth 100000 in
theorem p2_s420_s {X : Int → Int} {LX : Nat} : ck_Ok p2_O X LX 147 p2_s420 := ck_okq (cuts := []) (f := 82) ⟨p2_nmu, ck_E1 (ck_S1 p2_s393_s ck_S0) (ck_E1 (ck_S1 p2_s251_s ck_S0) ck_E0)⟩ (by decide +kernel)
set_option maxRecDepth 100000 in
/-- GlacierMail$Way.goOnTo -/
noncomputable def p2_s421 : ck_Sum := (((3 : Nat), (0 : Nat), (0 : Nat)), (245 : Nat), [.inr (.inr (.inl (206 : Nat))), .inl ((0 : Int), (299 : Int), [])], ([], [((3 : Nat), (8 : Int), (0 : Nat))], []), ([((206 : Nat), (5 : Int), (8 : Int))], []), [(.inr none, (245 : Nat), ([], [], []))])
set_option maxRecDepth 100000 in
theorem p2_s421_s {X : Int → Int} {LX : Nat} : ck_Ok p2_O X LX 148 p2_s421 := ck_okq (cuts := [((5 : Nat), [some (.inr (.inr (.inl (206 : Nat)))), some (.inl ((0 : Int), (299 : Int), [])), some (.inl ((-2147483648 : Int), (2147483647 : Int), []))], ([], [((3 : Nat), (8 : Int), (0 : Nat))], []), (100 : Nat), .inl (2 : Nat), true)]) (f := 122) ⟨p2_nmu, ck_E1 (ck_S1 p2_s345_s ck_S0) ck_E0⟩ (by decide +kernel)
set_option maxRecDepth 100000 in
/-- GlacierMail.where -/
noncomputable def p2_s422 : ck_Sum := (((8 : Nat), (1 : Nat), (6 : Nat)), (245 : Nat), [.inr (.inr (.inl (1 : Nat))), .inl ((0 : Int), (23 : Int), []), .inl ((0 : Int), (299 : Int), [])], ([], [((3 : Nat), (8 : Int), (0 : Nat))], []), ([((206 : Nat), (2 : Int), (8 : Int))], []), [(.inl (3 : Nat), (245 : Nat), ([], [], [])), (.inr (some (.inl ((-2147483648 : Int), (99 : Int), []))), (245 : Nat), ([], [], []))])
set_option maxRecDepth 100000 in
theorem p2_s422_s {X : Int → Int} {LX : Nat} : ck_Ok p2_O X LX 147 p2_s422 := ck_okq (cuts := []) (f := 130) ⟨p2_nmu, ck_E1 (ck_S1 p2_s393_s ck_S0) (ck_E1 (ck_S1 p2_s253_s ck_S0) (ck_E1 (ck_S1 p2_s335_s ck_S0) (ck_E1 (ck_S1 p2_s339_s ck_S0) (ck_E1 (ck_S1 p2_s421_s ck_S0) ck_E0))))⟩ (by decide +kernel)
set_option maxRecDepth 100000 in
/-- GlacierMailModel.where -/
noncomputable def p2_s423 : ck_Sum := (((2 : Nat), (0 : Nat), (0 : Nat)), (245 : Nat), [.inr (.inr (.inl (226 : Nat))), .inl ((-2147483648 : Int), (-1 : Int), []), .inl ((-2147483648 : Int), (2147483647 : Int), [])], ([], [], [((227 : Nat), (4 : Int), (4 : Int), ((0 : Int), (24 : Int), [((22 : Nat), (0 : Int))]))]), ([((226 : Nat), (0 : Int), (0 : Int))], []), [(.inr (some (.inl (ck_one 0))), (245 : Nat), ([], [], [((226 : Nat), (0 : Int), (0 : Int), ck_one 1)]))])
set_option maxRecDepth 100000 in
theorem p2_s423_s {X : Int → Int} {LX : Nat} : ck_Ok p2_O X LX 313 p2_s423 := ck_okq (cuts := []) (f := 94) ⟨p2_nmu, ck_E1 (ck_S1 p2_s400_s ck_S0) (ck_E1 (ck_S1 p2_s241_s ck_S0) ck_E0)⟩ (by decide +kernel)
set_option maxRecDepth 100000 in
/-- GlacierMailModel.where -/
noncomputable def p2_s424 : ck_Sum := (((2 : Nat), (0 : Nat), (0 : Nat)), (245 : Nat), [.inr (.inr (.inl (226 : Nat))), .inl ((24 : Int), (2147483647 : Int), []), .inl ((-2147483648 : Int), (2147483647 : Int), [])], ([], [], [((227 : Nat), (4 : Int), (4 : Int), ((0 : Int), (24 : Int), [((22 : Nat), (0 : Int))]))]), ([((226 : Nat), (0 : Int), (0 : Int))], []), [(.inr (some (.inl (ck_one 0))), (245 : Nat), ([], [], [((226 : Nat), (0 : Int), (0 : Int), ck_one 1)]))])
set_option maxRecDepth 100000 in
theorem p2_s424_s {X : Int → Int} {LX : Nat} : ck_Ok p2_O X LX 313 p2_s424 := ck_okq (cuts := []) (f := 94) ⟨p2_nmu, ck_E1 (ck_S1 p2_s403_s ck_S0) (ck_E1 (ck_S1 p2_s241_s ck_S0) ck_E0)⟩ (by decide +kernel)
set_option maxRecDepth 100000 in
/-- GlacierMailModel.where -/
noncomputable def p2_s425 : ck_Sum := (((2 : Nat), (0 : Nat), (0 : Nat)), (245 : Nat), [.inr (.inr (.inl (226 : Nat))), .inl ((0 : Int), (23 : Int), []), .inl ((-2147483648 : Int), (-1 : Int), [])], ([], [], [((227 : Nat), (4 : Int), (4 : Int), ((0 : Int), (24 : Int), [((22 : Nat), (0 : Int))]))]), ([((226 : Nat), (0 : Int), (0 : Int))], []), [(.inr (some (.inl (ck_one 0))), (245 : Nat), ([], [], [((226 : Nat), (0 : Int), (0 : Int), ((1 : Int), (2 : Int), []))]))])
set_option maxRecDepth 100000 in
theorem p2_s425_s {X : Int → Int} {LX : Nat} : ck_Ok p2_O X LX 313 p2_s425 := ck_okq (cuts := []) (f := 106) ⟨p2_nmu, ck_E1 (ck_S1 p2_s406_s ck_S0) (ck_E1 (ck_S1 p2_s241_s (ck_S1 p2_s242_s (ck_S1 p2_s244_s ck_S0))) (ck_E1 (ck_S1 p2_s257_s ck_S0) ck_E0))⟩ (by decide +kernel)
set_option maxRecDepth 100000 in
/-- GlacierMailModel.where -/
noncomputable def p2_s426 : ck_Sum := (((2 : Nat), (0 : Nat), (0 : Nat)), (245 : Nat), [.inr (.inr (.inl (226 : Nat))), .inl ((0 : Int), (23 : Int), []), .inl ((300 : Int), (2147483647 : Int), [])], ([], [], [((227 : Nat), (4 : Int), (4 : Int), ((0 : Int), (24 : Int), [((22 : Nat), (0 : Int))]))]), ([((226 : Nat), (0 : Int), (0 : Int))], []), [(.inr (some (.inl (ck_one 0))), (245 : Nat), ([], [], [((226 : Nat), (0 : Int), (0 : Int), ((1 : Int), (2 : Int), []))]))])
set_option maxRecDepth 100000 in
theorem p2_s426_s {X : Int → Int} {LX : Nat} : ck_Ok p2_O X LX 313 p2_s426 := ck_okq (cuts := []) (f := 106) ⟨p2_nmu, ck_E1 (ck_S1 p2_s406_s ck_S0) (ck_E1 (ck_S1 p2_s241_s (ck_S1 p2_s242_s (ck_S1 p2_s244_s ck_S0))) (ck_E1 (ck_S1 p2_s260_s ck_S0) ck_E0))⟩ (by decide +kernel)
set_option maxRecDepth 100000 in
/-- GlacierMail.deep -/
noncomputable def p2_s428 : ck_Sum := (((8 : Nat), (1 : Nat), (6 : Nat)), (245 : Nat), [.inr (.inr (.inl (1 : Nat))), .inl ((-2147483648 : Int), (-1 : Int), []), .inl ((-2147483648 : Int), (2147483647 : Int), [])], ([], [], []), ([], []), [(.inl (3 : Nat), (245 : Nat), ([], [], []))])
set_option maxRecDepth 100000 in
theorem p2_s428_s {X : Int → Int} {LX : Nat} : ck_Ok p2_O X LX 150 p2_s428 := ck_okq (cuts := []) (f := 76) ⟨p2_nmu, ck_E1 (ck_S1 p2_s387_s ck_S0) ck_E0⟩ (by decide +kernel)
set_option maxRecDepth 100000 in
/-- GlacierMail.deep -/
noncomputable def p2_s429 : ck_Sum := (((8 : Nat), (1 : Nat), (6 : Nat)), (245 : Nat), [.inr (.inr (.inl (1 : Nat))), .inl ((24 : Int), (2147483647 : Int), []), .inl ((-2147483648 : Int), (2147483647 : Int), [])], ([], [], []), ([], []), [(.inl (3 : Nat), (245 : Nat), ([], [], []))])
set_option maxRecDepth 100000 in
theorem p2_s429_s {X : Int → Int} {LX : Nat} : ck_Ok p2_O X LX 150 p2_s429 := ck_okq (cuts := []) (f := 76) ⟨p2_nmu, ck_E1 (ck_S1 p2_s390_s ck_S0) ck_E0⟩ (by decide +kernel)
set_option maxRecDepth 100000 in
/-- GlacierMail.deep -/
noncomputable def p2_s430 : ck_Sum := (((8 : Nat), (2 : Nat), (12 : Nat)), (245 : Nat), [.inr (.inr (.inl (1 : Nat))), .inl ((0 : Int), (23 : Int), []), .inl ((-2147483648 : Int), (-1 : Int), [])], ([], [], []), ([], []), [(.inl (3 : Nat), (245 : Nat), ([], [], [])), (.inl (0 : Nat), (245 : Nat), ([], [], []))])
set_option maxRecDepth 100000 in
theorem p2_s430_s {X : Int → Int} {LX : Nat} : ck_Ok p2_O X LX 150 p2_s430 := ck_okq (cuts := []) (f := 82) ⟨p2_nmu, ck_E1 (ck_S1 p2_s393_s ck_S0) (ck_E1 (ck_S1 p2_s249_s ck_S0) ck_E0)⟩ (by decide +kernel)
set_option maxRecDepth 100000 in
/-- GlacierMail.deep -/
noncomputable def p2_s431 : ck_Sum := (((8 : Nat), (2 : Nat), (12 : Nat)), (245 : Nat), [.inr (.inr (.inl (1 : Nat))), .inl ((0 : Int), (23 : Int), []), .inl ((300 : Int), (2147483647 : Int), [])], ([], [], []), ([], []), [(.inl (3 : Nat), (245 : Nat), ([], [], [])), (.inl (0 : Nat), (245 : Nat), ([], [], []))])
set_option maxRecDepth 100000 in
theorem p2_s431_s {X : Int → Int} {LX : Nat} : ck_Ok p2_O X LX 150 p2_s431 := ck_okq (cuts := []) (f := 82) ⟨p2_nmu, ck_E1 (ck_S1 p2_s393_s ck_S0) (ck_E1 (ck_S1 p2_s251_s ck_S0) ck_E0)⟩ (by decide +kernel)
set_option maxRecDepth 100000 in
/-- GlacierMail.deep -/
noncomputable def p2_s432 : ck_Sum := (((8 : Nat), (1 : Nat), (6 : Nat)), (245 : Nat), [.inr (.inr (.inl (1 : Nat))), .inl ((0 : Int), (23 : Int), []), .inl ((0 : Int), (299 : Int), [])], ([], [((3 : Nat), (8 : Int), (0 : Nat))], []), ([((206 : Nat), (2 : Int), (8 : Int))], []), [(.inl (3 : Nat), (245 : Nat), ([], [], [])), (.inr (some (.inl ((0 : Int), (99 : Int), []))), (245 : Nat), ([], [], zl86)), (.inr (some (.inl (ck_one (-1)))), (245 : Nat), ([], [], []))])
set_option maxRecDepth 100000 in
theorem p2_s432_s {X : Int → Int} {LX : Nat} : ck_Ok p2_O X LX 150 p2_s432 := ck_okq (cuts := []) (f := 122) ⟨p2_nmu, ck_E1 (ck_S1 p2_s393_s ck_S0) (ck_E1 (ck_S1 p2_s253_s ck_S0) (ck_E1 (ck_S1 p2_s335_s ck_S0) (ck_E1 (ck_S1 p2_s339_s ck_S0) (ck_E1 (ck_S1 p2_s421_s ck_S0) ck_E0))))⟩ (by decide +kernel)
set_option maxRecDepth 100000 in
/-- GlacierMailModel.deep -/
noncomputable def p2_s433 : ck_Sum := (((2 : Nat), (0 : Nat), (0 : Nat)), (245 : Nat), [.inr (.inr (.inl (226 : Nat))), .inl ((-2147483648 : Int), (-1 : Int), []), .inl ((-2147483648 : Int), (2147483647 : Int), [])], ([], [], [((227 : Nat), (4 : Int), (4 : Int), ((0 : Int), (24 : Int), [((22 : Nat), (0 : Int))]))]), ([((226 : Nat), (0 : Int), (0 : Int))], []), [(.inr (some (.inl (ck_one 0))), (245 : Nat), ([], [], [((226 : Nat), (0 : Int), (0 : Int), ck_one 1)]))])
set_option maxRecDepth 100000 in
theorem p2_s433_s {X : Int → Int} {LX : Nat} : ck_Ok p2_O X LX 314 p2_s433 := ck_okq (cuts := []) (f := 94) ⟨p2_nmu, ck_E1 (ck_S1 p2_s400_s ck_S0) (ck_E1 (ck_S1 p2_s241_s ck_S0) ck_E0)⟩ (by decide +kernel)
set_option maxRecDepth 100000 in
/-- GlacierMailModel.deep -/
noncomputable def p2_s434 : ck_Sum := (((2 : Nat), (0 : Nat), (0 : Nat)), (245 : Nat), [.inr (.inr (.inl (226 : Nat))), .inl ((24 : Int), (2147483647 : Int), []), .inl ((-2147483648 : Int), (2147483647 : Int), [])], ([], [], [((227 : Nat), (4 : Int), (4 : Int), ((0 : Int), (24 : Int), [((22 : Nat), (0 : Int))]))]), ([((226 : Nat), (0 : Int), (0 : Int))], []), [(.inr (some (.inl (ck_one 0))), (245 : Nat), ([], [], [((226 : Nat), (0 : Int), (0 : Int), ck_one 1)]))])
set_option maxRecDepth 100000 in
theorem p2_s434_s {X : Int → Int} {LX : Nat} : ck_Ok p2_O X LX 314 p2_s434 := ck_okq (cuts := []) (f := 94) ⟨p2_nmu, ck_E1 (ck_S1 p2_s403_s ck_S0) (ck_E1 (ck_S1 p2_s241_s ck_S0) ck_E0)⟩ (by decide +kernel)
set_option maxRecDepth 100000 in
/-- GlacierMailModel.deep -/
noncomputable def p2_s435 : ck_Sum := (((2 : Nat), (0 : Nat), (0 : Nat)), (245 : Nat), [.inr (.inr (.inl (226 : Nat))), .inl ((0 : Int), (23 : Int), []), .inl ((-2147483648 : Int), (-1 : Int), [])], ([], [], [((227 : Nat), (4 : Int), (4 : Int), ((0 : Int), (24 : Int), [((22 : Nat), (0 : Int))]))]), ([((226 : Nat), (0 : Int), (0 : Int))], []), [(.inr (some (.inl (ck_one 0))), (245 : Nat), ([], [], [((226 : Nat), (0 : Int), (0 : Int), ((1 : Int), (2 : Int), []))]))])
set_option maxRecDepth 100000 in
theorem p2_s435_s {X : Int → Int} {LX : Nat} : ck_Ok p2_O X LX 314 p2_s435 := ck_okq (cuts := []) (f := 106) ⟨p2_nmu, ck_E1 (ck_S1 p2_s406_s ck_S0) (ck_E1 (ck_S1 p2_s241_s (ck_S1 p2_s242_s (ck_S1 p2_s244_s ck_S0))) (ck_E1 (ck_S1 p2_s257_s ck_S0) ck_E0))⟩ (by decide +kernel)
set_option maxRecDepth 100000 in
/-- GlacierMailModel.deep -/
noncomputable def p2_s436 : ck_Sum := (((2 : Nat), (0 : Nat), (0 : Nat)), (245 : Nat), [.inr (.inr (.inl (226 : Nat))), .inl ((0 : Int), (23 : Int), []), .inl ((300 : Int), (2147483647 : Int), [])], ([], [], [((227 : Nat), (4 : Int), (4 : Int), ((0 : Int), (24 : Int), [((22 : Nat), (0 : Int))]))]), ([((226 : Nat), (0 : Int), (0 : Int))], []), [(.inr (some (.inl (ck_one 0))), (245 : Nat), ([], [], [((226 : Nat), (0 : Int), (0 : Int), ((1 : Int), (2 : Int), []))]))])
set_option maxRecDepth 100000 in
theorem p2_s436_s {X : Int → Int} {LX : Nat} : ck_Ok p2_O X LX 314 p2_s436 := ck_okq (cuts := []) (f := 106) ⟨p2_nmu, ck_E1 (ck_S1 p2_s406_s ck_S0) (ck_E1 (ck_S1 p2_s241_s (ck_S1 p2_s242_s (ck_S1 p2_s244_s ck_S0))) (ck_E1 (ck_S1 p2_s260_s ck_S0) ck_E0))⟩ (by decide +kernel)
set_option maxRecDepth 100000 in
/-- GlacierMail.post -/
noncomputable def p2_s438 : ck_Sum := (((8 : Nat), (1 : Nat), (6 : Nat)), (245 : Nat), [.inr (.inr (.inl (1 : Nat))), .inl ((-2147483648 : Int), (-1 : Int), []), .inl ((-2147483648 : Int), (2147483647 : Int), [])], ([], [], []), ([], []), [(.inl (3 : Nat), (245 : Nat), ([], [], []))])
set_option maxRecDepth 100000 in
theorem p2_s438_s {X : Int → Int} {LX : Nat} : ck_Ok p2_O X LX 152 p2_s438 := ck_okq (cuts := []) (f := 76) ⟨p2_nmu, ck_E1 (ck_S1 p2_s322_s ck_S0) ck_E0⟩ (by decide +kernel)
set_option maxRecDepth 100000 in
/-- GlacierMail.post -/
noncomputable def p2_s439 : ck_Sum := (((8 : Nat), (1 : Nat), (6 : Nat)), (245 : Nat), [.inr (.inr (.inl (1 : Nat))), .inl ((8 : Int), (2147483647 : Int), []), .inl ((-2147483648 : Int), (2147483647 : Int), [])], ([], [], []), ([], []), [(.inl (3 : Nat), (245 : Nat), ([], [], []))])
set_option maxRecDepth 100000 in
theorem p2_s439_s {X : Int → Int} {LX : Nat} : ck_Ok p2_O X LX 152 p2_s439 := ck_okq (cuts := []) (f := 76) ⟨p2_nmu, ck_E1 (ck_S1 p2_s325_s ck_S0) ck_E0⟩ (by decide +kernel)
set_option maxRecDepth 100000 in
/-- GlacierMail.post -/
noncomputable def p2_s440 : ck_Sum := (((8 : Nat), (2 : Nat), (12 : Nat)), (245 : Nat), [.inr (.inr (.inl (1 : Nat))), .inl ((0 : Int), (7 : Int), []), .inl ((-2147483648 : Int), (-1 : Int), [])], ([], [], []), ([], []), [(.inl (3 : Nat), (245 : Nat), ([], [], []))])
set_option maxRecDepth 100000 in
theorem p2_s440_s {X : Int → Int} {LX : Nat} : ck_Ok p2_O X LX 152 p2_s440 := ck_okq (cuts := []) (f := 82) ⟨p2_nmu, ck_E1 (ck_S1 p2_s328_s (ck_S1 p2_s322_s ck_S0)) ck_E0⟩ (by decide +kernel)
set_option maxRecDepth 100000 in
/-- GlacierMail.post -/
noncomputable def p2_s441 : ck_Sum := (((8 : Nat), (2 : Nat), (12 : Nat)), (245 : Nat), [.inr (.inr (.inl (1 : Nat))), .inl ((0 : Int), (7 : Int), []), .inl ((8 : Int), (2147483647 : Int), [])], ([], [], []), ([], []), [(.inl (3 : Nat), (245 : Nat), ([], [], []))])
set_option maxRecDepth 100000 in
theorem p2_s441_s {X : Int → Int} {LX : Nat} : ck_Ok p2_O X LX 152 p2_s441 := ck_okq (cuts := []) (f := 82) ⟨p2_nmu, ck_E1 (ck_S1 p2_s328_s (ck_S1 p2_s325_s ck_S0)) ck_E0⟩ (by decide +kernel)
set_option maxRecDepth 100000 in
/-- GlacierMail.needUnlike -/
noncomputable def p2_s442 : ck_Sum := (((6 : Nat), (1 : Nat), (6 : Nat)), (245 : Nat), [.inr (.inr (.inl (1 : Nat))), .inl ((0 : Int), (7 : Int), []), .inl ((0 : Int), (7 : Int), [])], ([], [], []), ([], []), [(.inr none, (245 : Nat), ([], [], [])), (.inl (0 : Nat), (245 : Nat), ([], [], []))])
set_option maxRecDepth 100000 in
theorem p2_s442_s {X : Int → Int} {LX : Nat} : ck_Ok p2_O X LX 153 p2_s442 := ck_okq (cuts := []) (f := 78) ⟨p2_nmu, ck_E0⟩ (by decide +kernel)
set_option maxRecDepth 100000 in
/-- GlacierMail$Rows.isFull -/
noncomputable def p2_s443 : ck_Sum := (((0 : Nat), (0 : Nat), (0 : Nat)), (245 : Nat), [.inr (.inr (.inl (10 : Nat)))], ([], [], []), ([], []), [(.inr (some (.inl (ck_one 0))), (245 : Nat), ([], [], [((10 : Nat), (3 : Int), (3 : Int), ((0 : Int), (23 : Int), []))])), (.inr (some (.inl (ck_one 1))), (245 : Nat), ([], [], [((10 : Nat), (3 : Int), (3 : Int), ck_one 24)]))])
set_option maxRecDepth 100000 in
theorem p2_s443_s {X : Int → Int} {LX : Nat} : ck_Ok p2_O X LX 108 p2_s443 := ck_okq (cuts := []) (f := 86) ⟨p2_nmu, ck_E0⟩ (by decide +kernel)
set_option maxRecDepth 100000 in
/-- GlacierMail$History.at -/
noncomputable def p2_s444 : ck_Sum := (((0 : Nat), (0 : Nat), (0 : Nat)), (245 : Nat), [.inr (.inr (.inl (42 : Nat))), .inl ((0 : Int), (12 : Int), [])], ([], [], []), ([], []), [(.inr (some (.inr (.inr (.inl (0 : Nat))))), (245 : Nat), ([], [], [])), (.inr (some (.inr (.inr (.inl (44 : Nat))))), (245 : Nat), ([], [], [])), (.inr (some (.inr (.inr (.inl (187 : Nat))))), (245 : Nat), ([], [], [])), (.inr (some (.inr (.inr (.inl (174 : Nat))))), (245 : Nat), ([], [], [])), (.inr (some (.inr (.inr (.inl (161 : Nat))))), (245 : Nat), ([], [], [])), (.inr (some (.inr (.inr (.inl (148 : Nat))))), (245 : Nat), ([], [], [])), (.inr (some (.inr (.inr (.inl (135 : Nat))))), (245 : Nat), ([], [], [])), (.inr (some (.inr (.inr (.inl (122 : Nat))))), (245 : Nat), ([], [], [])), (.inr (some (.inr (.inr (.inl (109 : Nat))))), (245 : Nat), ([], [], [])), (.inr (some (.inr (.inr (.inl (96 : Nat))))), (245 : Nat), ([], [], [])), (.inr (some (.inr (.inr (.inl (83 : Nat))))), (245 : Nat), ([], [], [])), (.inr (some (.inr (.inr (.inl (70 : Nat))))), (245 : Nat), ([], [], [])), (.inr (some (.inr (.inr (.inl (57 : Nat))))), (245 : Nat), ([], [], []))])
set_option maxRecDepth 100000 in
theorem p2_s444_s {X : Int → Int} {LX : Nat} : ck_Ok p2_O X LX 56 p2_s444 := ck_okq (cuts := []) (f := 96) ⟨p2_nmu, ck_E0⟩ (by decide +kernel)
set_option maxRecDepth 100000 in
/-- GlacierMail$Rows.copyFrom -/
noncomputable def p2_s445 : ck_Sum := (((1 : Nat), (0 : Nat), (0 : Nat)), (245 : Nat), [.inr (.inr (.inl (58 : Nat))), .inr (.inr (.inl (4 : Nat)))], ([], [], []), ([((58 : Nat), (3 : Int), (3 : Int)), ((59 : Nat), (0 : Int), (55 : Int))], []), [(.inr none, (245 : Nat), ([], [], []))])
set_option maxRecDepth 100000 in
theorem p2_s445_s {X : Int → Int} {LX : Nat} : ck_Ok p2_O X LX 58 p2_s445 := ck_okq (cuts := []) (f := 114) ⟨p2_nmu, ck_E0⟩ (by decide +kernel)
set_option maxRecDepth 100000 in
/-- GlacierMail$Rows.copyFrom -/
noncomputable def p2_s446 : ck_Sum := (((1 : Nat), (0 : Nat), (0 : Nat)), (245 : Nat), [.inr (.inr (.inl (60 : Nat))), .inr (.inr (.inl (6 : Nat)))], ([], [], []), ([((60 : Nat), (3 : Int), (3 : Int)), ((61 : Nat), (0 : Int), (23 : Int))], []), [(.inr none, (245 : Nat), ([], [], []))])
set_option maxRecDepth 100000 in
theorem p2_s446_s {X : Int → Int} {LX : Nat} : ck_Ok p2_O X LX 58 p2_s446 := ck_okq (cuts := []) (f := 114) ⟨p2_nmu, ck_E0⟩ (by decide +kernel)
set_option maxRecDepth 100000 in
/-- GlacierMail$Rows.copyFrom -/
noncomputable def p2_s447 : ck_Sum := (((1 : Nat), (0 : Nat), (0 : Nat)), (245 : Nat), [.inr (.inr (.inl (62 : Nat))), .inr (.inr (.inl (8 : Nat)))], ([], [], []), ([((62 : Nat), (3 : Int), (3 : Int)), ((63 : Nat), (0 : Int), (23 : Int))], []), [(.inr none, (245 : Nat), ([], [], []))])
set_option maxRecDepth 100000 in
theorem p2_s447_s {X : Int → Int} {LX : Nat} : ck_Ok p2_O X LX 58 p2_s447 := ck_okq (cuts := []) (f := 114) ⟨p2_nmu, ck_E0⟩ (by decide +kernel)
set_option maxRecDepth 100000 in
/-- GlacierMail$Rows.copyFrom -/
noncomputable def p2_s448 : ck_Sum := (((1 : Nat), (0 : Nat), (0 : Nat)), (245 : Nat), [.inr (.inr (.inl (64 : Nat))), .inr (.inr (.inl (10 : Nat)))], ([], [], []), ([((64 : Nat), (3 : Int), (3 : Int)), ((65 : Nat), (0 : Int), (167 : Int))], []), [(.inr none, (245 : Nat), ([], [], []))])
set_option maxRecDepth 100000 in
theorem p2_s448_s {X : Int → Int} {LX : Nat} : ck_Ok p2_O X LX 58 p2_s448 := ck_okq (cuts := []) (f := 114) ⟨p2_nmu, ck_E0⟩ (by decide +kernel)
set_option maxRecDepth 100000 in
/-- GlacierMail$Rows.copyFrom -/
noncomputable def p2_s449 : ck_Sum := (((1 : Nat), (0 : Nat), (0 : Nat)), (245 : Nat), [.inr (.inr (.inl (66 : Nat))), .inr (.inr (.inl (12 : Nat)))], ([], [], []), ([((66 : Nat), (3 : Int), (3 : Int)), ((67 : Nat), (0 : Int), (35 : Int))], []), [(.inr none, (245 : Nat), ([], [], []))])
set_option maxRecDepth 100000 in
theorem p2_s449_s {X : Int → Int} {LX : Nat} : ck_Ok p2_O X LX 58 p2_s449 := ck_okq (cuts := []) (f := 114) ⟨p2_nmu, ck_E0⟩ (by decide +kernel)
set_option maxRecDepth 100000 in
/-- GlacierMail$Rows.copyFrom -/
noncomputable def p2_s450 : ck_Sum := (((1 : Nat), (0 : Nat), (0 : Nat)), (245 : Nat), [.inr (.inr (.inl (68 : Nat))), .inr (.inr (.inl (14 : Nat)))], ([], [], []), ([((68 : Nat), (3 : Int), (3 : Int)), ((69 : Nat), (0 : Int), (71 : Int))], []), [(.inr none, (245 : Nat), ([], [], []))])
set_option maxRecDepth 100000 in
theorem p2_s450_s {X : Int → Int} {LX : Nat} : ck_Ok p2_O X LX 58 p2_s450 := ck_okq (cuts := []) (f := 114) ⟨p2_nmu, ck_E0⟩ (by decide +kernel)
end
/-! 78r80a05.sf -/
section
/-! EVERY CALL ENDS, whatever was done before (laid by wip/am/p2k.py). -/
set_option maxRecDepth 100000 in
/-- GlacierMail$State.copyFrom -/
noncomputable def p2_s451 : ck_Sum := (((2 : Nat), (0 : Nat), (0 : Nat)), (245 : Nat), [.inr (.inr (.inl (57 : Nat))), .inr (.inr (.inl (3 : Nat)))], ([], [((3 : Nat), (8 : Int), (0 : Nat)), ((57 : Nat), (8 : Int), (100057 : Nat))], [((3 : Nat), (6 : Int), (6 : Int), ((0 : Int), (299 : Int), [((10 : Nat), (0 : Int))]))]), (zl90, [((57 : Nat), (8 : Int))]), [(.inr none, (245 : Nat), ([], [((57 : Nat), (8 : Int), (0 : Nat))], [((57 : Nat), (6 : Int), (6 : Int), ((0 : Int), (299 : Int), [((10 : Nat), (0 : Int))]))]))])
set_option maxRecDepth 100000 in
theorem p2_s451_s {X : Int → Int} {LX : Nat} : ck_Ok p2_O X LX 57 p2_s451 := ck_okq (cuts := []) (f := 204) ⟨p2_nmu, ck_E1 (ck_S1 p2_s445_s (ck_S1 p2_s446_s (ck_S1 p2_s447_s (ck_S1 p2_s448_s (ck_S1 p2_s449_s (ck_S1 p2_s450_s ck_S0)))))) ck_E0⟩ (by decide +kernel)
set_option maxRecDepth 100000 in
/-- GlacierMail$Rows.copyFrom -/
noncomputable def p2_s452 : ck_Sum := (((1 : Nat), (0 : Nat), (0 : Nat)), (245 : Nat), [.inr (.inr (.inl (71 : Nat))), .inr (.inr (.inl (4 : Nat)))], ([], [], []), ([((71 : Nat), (3 : Int), (3 : Int)), ((72 : Nat), (0 : Int), (55 : Int))], []), [(.inr none, (245 : Nat), ([], [], []))])
set_option maxRecDepth 100000 in
theorem p2_s452_s {X : Int → Int} {LX : Nat} : ck_Ok p2_O X LX 58 p2_s452 := ck_okq (cuts := []) (f := 114) ⟨p2_nmu, ck_E0⟩ (by decide +kernel)
set_option maxRecDepth 100000 in
/-- GlacierMail$Rows.copyFrom -/
noncomputable def p2_s453 : ck_Sum := (((1 : Nat), (0 : Nat), (0 : Nat)), (245 : Nat), [.inr (.inr (.inl (73 : Nat))), .inr (.inr (.inl (6 : Nat)))], ([], [], []), ([((73 : Nat), (3 : Int), (3 : Int)), ((74 : Nat), (0 : Int), (23 : Int))], []), [(.inr none, (245 : Nat), ([], [], []))])
set_option maxRecDepth 100000 in
theorem p2_s453_s {X : Int → Int} {LX : Nat} : ck_Ok p2_O X LX 58 p2_s453 := ck_okq (cuts := []) (f := 114) ⟨p2_nmu, ck_E0⟩ (by decide +kernel)
set_option maxRecDepth 100000 in
/-- GlacierMail$Rows.copyFrom -/
noncomputable def p2_s454 : ck_Sum := (((1 : Nat), (0 : Nat), (0 : Nat)), (245 : Nat), [.inr (.inr (.inl (75 : Nat))), .inr (.inr (.inl (8 : Nat)))], ([], [], []), ([((75 : Nat), (3 : Int), (3 : Int)), ((76 : Nat), (0 : Int), (23 : Int))], []), [(.inr none, (245 : Nat), ([], [], []))])
set_option maxRecDepth 100000 in
theorem p2_s454_s {X : Int → Int} {LX : Nat} : ck_Ok p2_O X LX 58 p2_s454 := ck_okq (cuts := []) (f := 114) ⟨p2_nmu, ck_E0⟩ (by decide +kernel)
set_option maxRecDepth 100000 in
/-- GlacierMail$Rows.copyFrom -/
noncomputable def p2_s455 : ck_Sum := (((1 : Nat), (0 : Nat), (0 : Nat)), (245 : Nat), [.inr (.inr (.inl (77 : Nat))), .inr (.inr (.inl (10 : Nat)))], ([], [], []), ([((77 : Nat), (3 : Int), (3 : Int)), ((78 : Nat), (0 : Int), (167 : Int))], []), [(.inr none, (245 : Nat), ([], [], []))])
set_option maxRecDepth 100000 in
theorem p2_s455_s {X : Int → Int} {LX : Nat} : ck_Ok p2_O X LX 58 p2_s455 := ck_okq (cuts := []) (f := 114) ⟨p2_nmu, ck_E0⟩ (by decide +kernel)
set_option maxRecDepth 100000 in
/-- GlacierMail$Rows.copyFrom -/
noncomputable def p2_s456 : ck_Sum := (((1 : Nat), (0 : Nat), (0 : Nat)), (245 : Nat), [.inr (.inr (.inl (79 : Nat))), .inr (.inr (.inl (12 : Nat)))], ([], [], []), ([((79 : Nat), (3 : Int), (3 : Int)), ((80 : Nat), (0 : Int), (35 : Int))], []), [(.inr none, (245 : Nat), ([], [], []))])
set_option maxRecDepth 100000 in
theorem p2_s456_s {X : Int → Int} {LX : Nat} : ck_Ok p2_O X LX 58 p2_s456 := ck_okq (cuts := []) (f := 114) ⟨p2_nmu, ck_E0⟩ (by decide +kernel)
set_option maxRecDepth 100000 in
/-- GlacierMail$Rows.copyFrom -/
noncomputable def p2_s457 : ck_Sum := (((1 : Nat), (0 : Nat), (0 : Nat)), (245 : Nat), [.inr (.inr (.inl (81 : Nat))), .inr (.inr (.inl (14 : Nat)))], ([], [], []), ([((81 : Nat), (3 : Int), (3 : Int)), ((82 : Nat), (0 : Int), (71 : Int))], []), [(.inr none, (245 : Nat), ([], [], []))])
set_option maxRecDepth 100000 in
theorem p2_s457_s {X : Int → Int} {LX : Nat} : ck_Ok p2_O X LX 58 p2_s457 := ck_okq (cuts := []) (f := 114) ⟨p2_nmu, ck_E0⟩ (by decide +kernel)
set_option maxRecDepth 100000 in
/-- GlacierMail$State.copyFrom -/
noncomputable def p2_s458 : ck_Sum := (((2 : Nat), (0 : Nat), (0 : Nat)), (245 : Nat), [.inr (.inr (.inl (70 : Nat))), .inr (.inr (.inl (3 : Nat)))], ([], [((3 : Nat), (8 : Int), (0 : Nat)), ((70 : Nat), (8 : Int), (100070 : Nat))], [((3 : Nat), (6 : Int), (6 : Int), ((0 : Int), (299 : Int), [((10 : Nat), (0 : Int))]))]), (zl91, [((70 : Nat), (8 : Int))]), [(.inr none, (245 : Nat), ([], [((70 : Nat), (8 : Int), (0 : Nat))], [((70 : Nat), (6 : Int), (6 : Int), ((0 : Int), (299 : Int), [((10 : Nat), (0 : Int))]))]))])
set_option maxRecDepth 100000 in
theorem p2_s458_s {X : Int → Int} {LX : Nat} : ck_Ok p2_O X LX 57 p2_s458 := ck_okq (cuts := []) (f := 204) ⟨p2_nmu, ck_E1 (ck_S1 p2_s452_s (ck_S1 p2_s453_s (ck_S1 p2_s454_s (ck_S1 p2_s455_s (ck_S1 p2_s456_s (ck_S1 p2_s457_s ck_S0)))))) ck_E0⟩ (by decide +kernel)
set_option maxRecDepth 100000 in
/-- GlacierMail$Rows.copyFrom -/
noncomputable def p2_s459 : ck_Sum := (((1 : Nat), (0 : Nat), (0 : Nat)), (245 : Nat), [.inr (.inr (.inl (84 : Nat))), .inr (.inr (.inl (4 : Nat)))], ([], [], []), ([((84 : Nat), (3 : Int), (3 : Int)), ((85 : Nat), (0 : Int), (55 : Int))], []), [(.inr none, (245 : Nat), ([], [], []))])
set_option maxRecDepth 100000 in
theorem p2_s459_s {X : Int → Int} {LX : Nat} : ck_Ok p2_O X LX 58 p2_s459 := ck_okq (cuts := []) (f := 114) ⟨p2_nmu, ck_E0⟩ (by decide +kernel)
set_option maxRecDepth 100000 in
/-- GlacierMail$Rows.copyFrom -/
noncomputable def p2_s460 : ck_Sum := (((1 : Nat), (0 : Nat), (0 : Nat)), (245 : Nat), [.inr (.inr (.inl (86 : Nat))), .inr (.inr (.inl (6 : Nat)))], ([], [], []), ([((86 : Nat), (3 : Int), (3 : Int)), ((87 : Nat), (0 : Int), (23 : Int))], []), [(.inr none, (245 : Nat), ([], [], []))])
set_option maxRecDepth 100000 in
theorem p2_s460_s {X : Int → Int} {LX : Nat} : ck_Ok p2_O X LX 58 p2_s460 := ck_okq (cuts := []) (f := 114) ⟨p2_nmu, ck_E0⟩ (by decide +kernel)
set_option maxRecDepth 100000 in
/-- GlacierMail$Rows.copyFrom -/
noncomputable def p2_s461 : ck_Sum := (((1 : Nat), (0 : Nat), (0 : Nat)), (245 : Nat), [.inr (.inr (.inl (88 : Nat))), .inr (.inr (.inl (8 : Nat)))], ([], [], []), ([((88 : Nat), (3 : Int), (3 : Int)), ((89 : Nat), (0 : Int), (23 : Int))], []), [(.inr none, (245 : Nat), ([], [], []))])
set_option maxRecDepth 100000 in
theorem p2_s461_s {X : Int → Int} {LX : Nat} : ck_Ok p2_O X LX 58 p2_s461 := ck_okq (cuts := []) (f := 114) ⟨p2_nmu, ck_E0⟩ (by decide +kernel)
set_option maxRecDepth 100000 in
/-- GlacierMail$Rows.copyFrom -/
noncomputable def p2_s462 : ck_Sum := (((1 : Nat), (0 : Nat), (0 : Nat)), (245 : Nat), [.inr (.inr (.inl (90 : Nat))), .inr (.inr (.inl (10 : Nat)))], ([], [], []), ([((90 : Nat), (3 : Int), (3 : Int)), ((91 : Nat), (0 : Int), (167 : Int))], []), [(.inr none, (245 : Nat), ([], [], []))])
set_option maxRecDepth 100000 in
theorem p2_s462_s {X : Int → Int} {LX : Nat} : ck_Ok p2_O X LX 58 p2_s462 := ck_okq (cuts := []) (f := 114) ⟨p2_nmu, ck_E0⟩ (by decide +kernel)
set_option maxRecDepth 100000 in
/-- GlacierMail$Rows.copyFrom -/
noncomputable def p2_s463 : ck_Sum := (((1 : Nat), (0 : Nat), (0 : Nat)), (245 : Nat), [.inr (.inr (.inl (92 : Nat))), .inr (.inr (.inl (12 : Nat)))], ([], [], []), ([((92 : Nat), (3 : Int), (3 : Int)), ((93 : Nat), (0 : Int), (35 : Int))], []), [(.inr none, (245 : Nat), ([], [], []))])
set_option maxRecDepth 100000 in
theorem p2_s463_s {X : Int → Int} {LX : Nat} : ck_Ok p2_O X LX 58 p2_s463 := ck_okq (cuts := []) (f := 114) ⟨p2_nmu, ck_E0⟩ (by decide +kernel)
set_option maxRecDepth 100000 in
/-- GlacierMail$Rows.copyFrom -/
noncomputable def p2_s464 : ck_Sum := (((1 : Nat), (0 : Nat), (0 : Nat)), (245 : Nat), [.inr (.inr (.inl (94 : Nat))), .inr (.inr (.inl (14 : Nat)))], ([], [], []), ([((94 : Nat), (3 : Int), (3 : Int)), ((95 : Nat), (0 : Int), (71 : Int))], []), [(.inr none, (245 : Nat), ([], [], []))])
set_option maxRecDepth 100000 in
theorem p2_s464_s {X : Int → Int} {LX : Nat} : ck_Ok p2_O X LX 58 p2_s464 := ck_okq (cuts := []) (f := 114) ⟨p2_nmu, ck_E0⟩ (by decide +kernel)
set_option maxRecDepth 100000 in
/-- GlacierMail$State.copyFrom -/
noncomputable def p2_s465 : ck_Sum := (((2 : Nat), (0 : Nat), (0 : Nat)), (245 : Nat), [.inr (.inr (.inl (83 : Nat))), .inr (.inr (.inl (3 : Nat)))], ([], [((3 : Nat), (8 : Int), (0 : Nat)), ((83 : Nat), (8 : Int), (100083 : Nat))], [((3 : Nat), (6 : Int), (6 : Int), ((0 : Int), (299 : Int), [((10 : Nat), (0 : Int))]))]), (zl92, [((83 : Nat), (8 : Int))]), [(.inr none, (245 : Nat), ([], [((83 : Nat), (8 : Int), (0 : Nat))], [((83 : Nat), (6 : Int), (6 : Int), ((0 : Int), (299 : Int), [((10 : Nat), (0 : Int))]))]))])
set_option maxRecDepth 100000 in
theorem p2_s465_s {X : Int → Int} {LX : Nat} : ck_Ok p2_O X LX 57 p2_s465 := ck_okq (cuts := []) (f := 204) ⟨p2_nmu, ck_E1 (ck_S1 p2_s459_s (ck_S1 p2_s460_s (ck_S1 p2_s461_s (ck_S1 p2_s462_s (ck_S1 p2_s463_s (ck_S1 p2_s464_s ck_S0)))))) ck_E0⟩ (by decide +kernel)
set_option maxRecDepth 100000 in
/-- GlacierMail$Rows.copyFrom -/
noncomputable def p2_s466 : ck_Sum := (((1 : Nat), (0 : Nat), (0 : Nat)), (245 : Nat), [.inr (.inr (.inl (97 : Nat))), .inr (.inr (.inl (4 : Nat)))], ([], [], []), ([((97 : Nat), (3 : Int), (3 : Int)), ((98 : Nat), (0 : Int), (55 : Int))], []), [(.inr none, (245 : Nat), ([], [], []))])
set_option maxRecDepth 100000 in
theorem p2_s466_s {X : Int → Int} {LX : Nat} : ck_Ok p2_O X LX 58 p2_s466 := ck_okq (cuts := []) (f := 114) ⟨p2_nmu, ck_E0⟩ (by decide +kernel)
set_option maxRecDepth 100000 in
/-- GlacierMail$Rows.copyFrom -/
noncomputable def p2_s467 : ck_Sum := (((1 : Nat), (0 : Nat), (0 : Nat)), (245 : Nat), [.inr (.inr (.inl (99 : Nat))), .inr (.inr (.inl (6 : Nat)))], ([], [], []), ([((99 : Nat), (3 : Int), (3 : Int)), ((100 : Nat), (0 : Int), (23 : Int))], []), [(.inr none, (245 : Nat), ([], [], []))])
set_option maxRecDepth 100000 in
theorem p2_s467_s {X : Int → Int} {LX : Nat} : ck_Ok p2_O X LX 58 p2_s467 := ck_okq (cuts := []) (f := 114) ⟨p2_nmu, ck_E0⟩ (by decide +kernel)
set_option maxRecDepth 100000 in
/-- GlacierMail$Rows.copyFrom -/
noncomputable def p2_s468 : ck_Sum := (((1 : Nat), (0 : Nat), (0 : Nat)), (245 : Nat), [.inr (.inr (.inl (101 : Nat))), .inr (.inr (.inl (8 : Nat)))], ([], [], []), ([((101 : Nat), (3 : Int), (3 : Int)), ((102 : Nat), (0 : Int), (23 : Int))], []), [(.inr none, (245 : Nat), ([], [], []))])
set_option maxRecDepth 100000 in
theorem p2_s468_s {X : Int → Int} {LX : Nat} : ck_Ok p2_O X LX 58 p2_s468 := ck_okq (cuts := []) (f := 114) ⟨p2_nmu, ck_E0⟩ (by decide +kernel)
set_option maxRecDepth 100000 in
/-- GlacierMail$Rows.copyFrom -/
noncomputable def p2_s469 : ck_Sum := (((1 : Nat), (0 : Nat), (0 : Nat)), (245 : Nat), [.inr (.inr (.inl (103 : Nat))), .inr (.inr (.inl (10 : Nat)))], ([], [], []), ([((103 : Nat), (3 : Int), (3 : Int)), ((104 : Nat), (0 : Int), (167 : Int))], []), [(.inr none, (245 : Nat), ([], [], []))])
set_option maxRecDepth 100000 in
theorem p2_s469_s {X : Int → Int} {LX : Nat} : ck_Ok p2_O X LX 58 p2_s469 := ck_okq (cuts := []) (f := 114) ⟨p2_nmu, ck_E0⟩ (by decide +kernel)
set_option maxRecDepth 100000 in
/-- GlacierMail$Rows.copyFrom -/
noncomputable def p2_s470 : ck_Sum := (((1 : Nat), (0 : Nat), (0 : Nat)), (245 : Nat), [.inr (.inr (.inl (105 : Nat))), .inr (.inr (.inl (12 : Nat)))], ([], [], []), ([((105 : Nat), (3 : Int), (3 : Int)), ((106 : Nat), (0 : Int), (35 : Int))], []), [(.inr none, (245 : Nat), ([], [], []))])
set_option maxRecDepth 100000 in
theorem p2_s470_s {X : Int → Int} {LX : Nat} : ck_Ok p2_O X LX 58 p2_s470 := ck_okq (cuts := []) (f := 114) ⟨p2_nmu, ck_E0⟩ (by decide +kernel)
set_option maxRecDepth 100000 in
/-- GlacierMail$Rows.copyFrom -/
noncomputable def p2_s471 : ck_Sum := (((1 : Nat), (0 : Nat), (0 : Nat)), (245 : Nat), [.inr (.inr (.inl (107 : Nat))), .inr (.inr (.inl (14 : Nat)))], ([], [], []), ([((107 : Nat), (3 : Int), (3 : Int)), ((108 : Nat), (0 : Int), (71 : Int))], []), [(.inr none, (245 : Nat), ([], [], []))])
set_option maxRecDepth 100000 in
theorem p2_s471_s {X : Int → Int} {LX : Nat} : ck_Ok p2_O X LX 58 p2_s471 := ck_okq (cuts := []) (f := 114) ⟨p2_nmu, ck_E0⟩ (by decide +kernel)
set_option maxRecDepth 100000 in
/-- GlacierMail$State.copyFrom -/
noncomputable def p2_s472 : ck_Sum := (((2 : Nat), (0 : Nat), (0 : Nat)), (245 : Nat), [.inr (.inr (.inl (96 : Nat))), .inr (.inr (.inl (3 : Nat)))], ([], [((3 : Nat), (8 : Int), (0 : Nat)), ((96 : Nat), (8 : Int), (100096 : Nat))], [((3 : Nat), (6 : Int), (6 : Int), ((0 : Int), (299 : Int), [((10 : Nat), (0 : Int))]))]), (zl93, [((96 : Nat), (8 : Int))]), [(.inr none, (245 : Nat), ([], [((96 : Nat), (8 : Int), (0 : Nat))], [((96 : Nat), (6 : Int), (6 : Int), ((0 : Int), (299 : Int), [((10 : Nat), (0 : Int))]))]))])
set_option maxRecDepth 100000 in
theorem p2_s472_s {X : Int → Int} {LX : Nat} : ck_Ok p2_O X LX 57 p2_s472 := ck_okq (cuts := []) (f := 204) ⟨p2_nmu, ck_E1 (ck_S1 p2_s466_s (ck_S1 p2_s467_s (ck_S1 p2_s468_s (ck_S1 p2_s469_s (ck_S1 p2_s470_s (ck_S1 p2_s471_s ck_S0)))))) ck_E0⟩ (by decide +kernel)
set_option maxRecDepth 100000 in
/-- GlacierMail$Rows.copyFrom -/
noncomputable def p2_s473 : ck_Sum := (((1 : Nat), (0 : Nat), (0 : Nat)), (245 : Nat), [.inr (.inr (.inl (110 : Nat))), .inr (.inr (.inl (4 : Nat)))], ([], [], []), ([((110 : Nat), (3 : Int), (3 : Int)), ((111 : Nat), (0 : Int), (55 : Int))], []), [(.inr none, (245 : Nat), ([], [], []))])
set_option maxRecDepth 100000 in
theorem p2_s473_s {X : Int → Int} {LX : Nat} : ck_Ok p2_O X LX 58 p2_s473 := ck_okq (cuts := []) (f := 114) ⟨p2_nmu, ck_E0⟩ (by decide +kernel)
set_option maxRecDepth 100000 in
/-- GlacierMail$Rows.copyFrom -/
noncomputable def p2_s474 : ck_Sum := (((1 : Nat), (0 : Nat), (0 : Nat)), (245 : Nat), [.inr (.inr (.inl (112 : Nat))), .inr (.inr (.inl (6 : Nat)))], ([], [], []), ([((112 : Nat), (3 : Int), (3 : Int)), ((113 : Nat), (0 : Int), (23 : Int))], []), [(.inr none, (245 : Nat), ([], [], []))])
set_option maxRecDepth 100000 in
theorem p2_s474_s {X : Int → Int} {LX : Nat} : ck_Ok p2_O X LX 58 p2_s474 := ck_okq (cuts := []) (f := 114) ⟨p2_nmu, ck_E0⟩ (by decide +kernel)
set_option maxRecDepth 100000 in
/-- GlacierMail$Rows.copyFrom -/
noncomputable def p2_s475 : ck_Sum := (((1 : Nat), (0 : Nat), (0 : Nat)), (245 : Nat), [.inr (.inr (.inl (114 : Nat))), .inr (.inr (.inl (8 : Nat)))], ([], [], []), ([((114 : Nat), (3 : Int), (3 : Int)), ((115 : Nat), (0 : Int), (23 : Int))], []), [(.inr none, (245 : Nat), ([], [], []))])
set_option maxRecDepth 100000 in
theorem p2_s475_s {X : Int → Int} {LX : Nat} : ck_Ok p2_O X LX 58 p2_s475 := ck_okq (cuts := []) (f := 114) ⟨p2_nmu, ck_E0⟩ (by decide +kernel)
set_option maxRecDepth 100000 in
/-- GlacierMail$Rows.copyFrom -/
noncomputable def p2_s476 : ck_Sum := (((1 : Nat), (0 : Nat), (0 : Nat)), (245 : Nat), [.inr (.inr (.inl (116 : Nat))), .inr (.inr (.inl (10 : Nat)))], ([], [], []), ([((116 : Nat), (3 : Int), (3 : Int)), ((117 : Nat), (0 : Int), (167 : Int))], []), [(.inr none, (245 : Nat), ([], [], []))])
set_option maxRecDepth 100000 in
theorem p2_s476_s {X : Int → Int} {LX : Nat} : ck_Ok p2_O X LX 58 p2_s476 := ck_okq (cuts := []) (f := 114) ⟨p2_nmu, ck_E0⟩ (by decide +kernel)
set_option maxRecDepth 100000 in
/-- GlacierMail$Rows.copyFrom -/
noncomputable def p2_s477 : ck_Sum := (((1 : Nat), (0 : Nat), (0 : Nat)), (245 : Nat), [.inr (.inr (.inl (118 : Nat))), .inr (.inr (.inl (12 : Nat)))], ([], [], []), ([((118 : Nat), (3 : Int), (3 : Int)), ((119 : Nat), (0 : Int), (35 : Int))], []), [(.inr none, (245 : Nat), ([], [], []))])
set_option maxRecDepth 100000 in
theorem p2_s477_s {X : Int → Int} {LX : Nat} : ck_Ok p2_O X LX 58 p2_s477 := ck_okq (cuts := []) (f := 114) ⟨p2_nmu, ck_E0⟩ (by decide +kernel)
set_option maxRecDepth 100000 in
/-- GlacierMail$Rows.copyFrom -/
noncomputable def p2_s478 : ck_Sum := (((1 : Nat), (0 : Nat), (0 : Nat)), (245 : Nat), [.inr (.inr (.inl (120 : Nat))), .inr (.inr (.inl (14 : Nat)))], ([], [], []), ([((120 : Nat), (3 : Int), (3 : Int)), ((121 : Nat), (0 : Int), (71 : Int))], []), [(.inr none, (245 : Nat), ([], [], []))])
set_option maxRecDepth 100000 in
theorem p2_s478_s {X : Int → Int} {LX : Nat} : ck_Ok p2_O X LX 58 p2_s478 := ck_okq (cuts := []) (f := 114) ⟨p2_nmu, ck_E0⟩ (by decide +kernel)
set_option maxRecDepth 100000 in
/-- GlacierMail$State.copyFrom -/
noncomputable def p2_s479 : ck_Sum := (((2 : Nat), (0 : Nat), (0 : Nat)), (245 : Nat), [.inr (.inr (.inl (109 : Nat))), .inr (.inr (.inl (3 : Nat)))], ([], [((3 : Nat), (8 : Int), (0 : Nat)), ((109 : Nat), (8 : Int), (100109 : Nat))], [((3 : Nat), (6 : Int), (6 : Int), ((0 : Int), (299 : Int), [((10 : Nat), (0 : Int))]))]), (zl94, [((109 : Nat), (8 : Int))]), [(.inr none, (245 : Nat), ([], [((109 : Nat), (8 : Int), (0 : Nat))], [((109 : Nat), (6 : Int), (6 : Int), ((0 : Int), (299 : Int), [((10 : Nat), (0 : Int))]))]))])
set_option maxRecDepth 100000 in
theorem p2_s479_s {X : Int → Int} {LX : Nat} : ck_Ok p2_O X LX 57 p2_s479 := ck_okq (cuts := []) (f := 204) ⟨p2_nmu, ck_E1 (ck_S1 p2_s473_s (ck_S1 p2_s474_s (ck_S1 p2_s475_s (ck_S1 p2_s476_s (ck_S1 p2_s477_s (ck_S1 p2_s478_s ck_S0)))))) ck_E0⟩ (by decide +kernel)
set_option maxRecDepth 100000 in
/-- GlacierMail$Rows.copyFrom -/
noncomputable def p2_s480 : ck_Sum := (((1 : Nat), (0 : Nat), (0 : Nat)), (245 : Nat), [.inr (.inr (.inl (123 : Nat))), .inr (.inr (.inl (4 : Nat)))], ([], [], []), ([((123 : Nat), (3 : Int), (3 : Int)), ((124 : Nat), (0 : Int), (55 : Int))], []), [(.inr none, (245 : Nat), ([], [], []))])
set_option maxRecDepth 100000 in
theorem p2_s480_s {X : Int → Int} {LX : Nat} : ck_Ok p2_O X LX 58 p2_s480 := ck_okq (cuts := []) (f := 114) ⟨p2_nmu, ck_E0⟩ (by decide +kernel)
set_option maxRecDepth 100000 in
/-- GlacierMail$Rows.copyFrom -/
noncomputable def p2_s481 : ck_Sum := (((1 : Nat), (0 : Nat), (0 : Nat)), (245 : Nat), [.inr (.inr (.inl (125 : Nat))), .inr (.inr (.inl (6 : Nat)))], ([], [], []), ([((125 : Nat), (3 : Int), (3 : Int)), ((126 : Nat), (0 : Int), (23 : Int))], []), [(.inr none, (245 : Nat), ([], [], []))])
set_option maxRecDepth 100000 in
theorem p2_s481_s {X : Int → Int} {LX : Nat} : ck_Ok p2_O X LX 58 p2_s481 := ck_okq (cuts := []) (f := 114) ⟨p2_nmu, ck_E0⟩ (by decide +kernel)
set_option maxRecDepth 100000 in
/-- GlacierMail$Rows.copyFrom -/
noncomputable def p2_s482 : ck_Sum := (((1 : Nat), (0 : Nat), (0 : Nat)), (245 : Nat), [.inr (.inr (.inl (127 : Nat))), .inr (.inr (.inl (8 : Nat)))], ([], [], []), ([((127 : Nat), (3 : Int), (3 : Int)), ((128 : Nat), (0 : Int), (23 : Int))], []), [(.inr none, (245 : Nat), ([], [], []))])
set_option maxRecDepth 100000 in
theorem p2_s482_s {X : Int → Int} {LX : Nat} : ck_Ok p2_O X LX 58 p2_s482 := ck_okq (cuts := []) (f := 114) ⟨p2_nmu, ck_E0⟩ (by decide +kernel)
set_option maxRecDepth 100000 in
/-- GlacierMail$Rows.copyFrom -/
noncomputable def p2_s483 : ck_Sum := (((1 : Nat), (0 : Nat), (0 : Nat)), (245 : Nat), [.inr (.inr (.inl (129 : Nat))), .inr (.inr (.inl (10 : Nat)))], ([], [], []), ([((129 : Nat), (3 : Int), (3 : Int)), ((130 : Nat), (0 : Int), (167 : Int))], []), [(.inr none, (245 : Nat), ([], [], []))])
set_option maxRecDepth 100000 in
theorem p2_s483_s {X : Int → Int} {LX : Nat} : ck_Ok p2_O X LX 58 p2_s483 := ck_okq (cuts := []) (f := 114) ⟨p2_nmu, ck_E0⟩ (by decide +kernel)
set_option maxRecDepth 100000 in
/-- GlacierMail$Rows.copyFrom -/
noncomputable def p2_s484 : ck_Sum := (((1 : Nat), (0 : Nat), (0 : Nat)), (245 : Nat), [.inr (.inr (.inl (131 : Nat))), .inr (.inr (.inl (12 : Nat)))], ([], [], []), ([((131 : Nat), (3 : Int), (3 : Int)), ((132 : Nat), (0 : Int), (35 : Int))], []), [(.inr none, (245 : Nat), ([], [], []))])
set_option maxRecDepth 100000 in
theorem p2_s484_s {X : Int → Int} {LX : Nat} : ck_Ok p2_O X LX 58 p2_s484 := ck_okq (cuts := []) (f := 114) ⟨p2_nmu, ck_E0⟩ (by decide +kernel)
set_option maxRecDepth 100000 in
/-- GlacierMail$Rows.copyFrom -/
noncomputable def p2_s485 : ck_Sum := (((1 : Nat), (0 : Nat), (0 : Nat)), (245 : Nat), [.inr (.inr (.inl (133 : Nat))), .inr (.inr (.inl (14 : Nat)))], ([], [], []), ([((133 : Nat), (3 : Int), (3 : Int)), ((134 : Nat), (0 : Int), (71 : Int))], []), [(.inr none, (245 : Nat), ([], [], []))])
set_option maxRecDepth 100000 in
theorem p2_s485_s {X : Int → Int} {LX : Nat} : ck_Ok p2_O X LX 58 p2_s485 := ck_okq (cuts := []) (f := 114) ⟨p2_nmu, ck_E0⟩ (by decide +kernel)
set_option maxRecDepth 100000 in
/-- GlacierMail$State.copyFrom -/
noncomputable def p2_s486 : ck_Sum := (((2 : Nat), (0 : Nat), (0 : Nat)), (245 : Nat), [.inr (.inr (.inl (122 : Nat))), .inr (.inr (.inl (3 : Nat)))], ([], [((3 : Nat), (8 : Int), (0 : Nat)), ((122 : Nat), (8 : Int), (100122 : Nat))], [((3 : Nat), (6 : Int), (6 : Int), ((0 : Int), (299 : Int), [((10 : Nat), (0 : Int))]))]), (zl95, [((122 : Nat), (8 : Int))]), [(.inr none, (245 : Nat), ([], [((122 : Nat), (8 : Int), (0 : Nat))], [((122 : Nat), (6 : Int), (6 : Int), ((0 : Int), (299 : Int), [((10 : Nat), (0 : Int))]))]))])
set_option maxRecDepth 100000 in
theorem p2_s486_s {X : Int → Int} {LX : Nat} : ck_Ok p2_O X LX 57 p2_s486 := ck_okq (cuts := []) (f := 204) ⟨p2_nmu, ck_E1 (ck_S1 p2_s480_s (ck_S1 p2_s481_s (ck_S1 p2_s482_s (ck_S1 p2_s483_s (ck_S1 p2_s484_s (ck_S1 p2_s485_s ck_S0)))))) ck_E0⟩ (by decide +kernel)
set_option maxRecDepth 100000 in
/-- GlacierMail$Rows.copyFrom -/
noncomputable def p2_s487 : ck_Sum := (((1 : Nat), (0 : Nat), (0 : Nat)), (245 : Nat), [.inr (.inr (.inl (136 : Nat))), .inr (.inr (.inl (4 : Nat)))], ([], [], []), ([((136 : Nat), (3 : Int), (3 : Int)), ((137 : Nat), (0 : Int), (55 : Int))], []), [(.inr none, (245 : Nat), ([], [], []))])
set_option maxRecDepth 100000 in
theorem p2_s487_s {X : Int → Int} {LX : Nat} : ck_Ok p2_O X LX 58 p2_s487 := ck_okq (cuts := []) (f := 114) ⟨p2_nmu, ck_E0⟩ (by decide +kernel)
set_option maxRecDepth 100000 in
/-- GlacierMail$Rows.copyFrom -/
noncomputable def p2_s488 : ck_Sum := (((1 : Nat), (0 : Nat), (0 : Nat)), (245 : Nat), [.inr (.inr (.inl (138 : Nat))), .inr (.inr (.inl (6 : Nat)))], ([], [], []), ([((138 : Nat), (3 : Int), (3 : Int)), ((139 : Nat), (0 : Int), (23 : Int))], []), [(.inr none, (245 : Nat), ([], [], []))])
set_option maxRecDepth 100000 in
theorem p2_s488_s {X : Int → Int} {LX : Nat} : ck_Ok p2_O X LX 58 p2_s488 := ck_okq (cuts := []) (f := 114) ⟨p2_nmu, ck_E0⟩ (by decide +kernel)
set_option maxRecDepth 100000 in
/-- GlacierMail$Rows.copyFrom -/
noncomputable def p2_s489 : ck_Sum := (((1 : Nat), (0 : Nat), (0 : Nat)), (245 : Nat), [.inr (.inr (.inl (140 : Nat))), .inr (.inr (.inl (8 : Nat)))], ([], [], []), ([((140 : Nat), (3 : Int), (3 : Int)), ((141 : Nat), (0 : Int), (23 : Int))], []), [(.inr none, (245 : Nat), ([], [], []))])
set_option maxRecDepth 100000 in
theorem p2_s489_s {X : Int → Int} {LX : Nat} : ck_Ok p2_O X LX 58 p2_s489 := ck_okq (cuts := []) (f := 114) ⟨p2_nmu, ck_E0⟩ (by decide +kernel)
set_option maxRecDepth 100000 in
/-- GlacierMail$Rows.copyFrom -/
noncomputable def p2_s490 : ck_Sum := (((1 : Nat), (0 : Nat), (0 : Nat)), (245 : Nat), [.inr (.inr (.inl (142 : Nat))), .inr (.inr (.inl (10 : Nat)))], ([], [], []), ([((142 : Nat), (3 : Int), (3 : Int)), ((143 : Nat), (0 : Int), (167 : Int))], []), [(.inr none, (245 : Nat), ([], [], []))])
set_option maxRecDepth 100000 in
theorem p2_s490_s {X : Int → Int} {LX : Nat} : ck_Ok p2_O X LX 58 p2_s490 := ck_okq (cuts := []) (f := 114) ⟨p2_nmu, ck_E0⟩ (by decide +kernel)
set_option maxRecDepth 100000 in
/-- GlacierMail$Rows.copyFrom -/
noncomputable def p2_s491 : ck_Sum := (((1 : Nat), (0 : Nat), (0 : Nat)), (245 : Nat), [.inr (.inr (.inl (144 : Nat))), .inr (.inr (.inl (12 : Nat)))], ([], [], []), ([((144 : Nat), (3 : Int), (3 : Int)), ((145 : Nat), (0 : Int), (35 : Int))], []), [(.inr none, (245 : Nat), ([], [], []))])
set_option maxRecDepth 100000 in
theorem p2_s491_s {X : Int → Int} {LX : Nat} : ck_Ok p2_O X LX 58 p2_s491 := ck_okq (cuts := []) (f := 114) ⟨p2_nmu, ck_E0⟩ (by decide +kernel)
set_option maxRecDepth 100000 in
/-- GlacierMail$Rows.copyFrom -/
noncomputable def p2_s492 : ck_Sum := (((1 : Nat), (0 : Nat), (0 : Nat)), (245 : Nat), [.inr (.inr (.inl (146 : Nat))), .inr (.inr (.inl (14 : Nat)))], ([], [], []), ([((146 : Nat), (3 : Int), (3 : Int)), ((147 : Nat), (0 : Int), (71 : Int))], []), [(.inr none, (245 : Nat), ([], [], []))])
set_option maxRecDepth 100000 in
theorem p2_s492_s {X : Int → Int} {LX : Nat} : ck_Ok p2_O X LX 58 p2_s492 := ck_okq (cuts := []) (f := 114) ⟨p2_nmu, ck_E0⟩ (by decide +kernel)
set_option maxRecDepth 100000 in
/-- GlacierMail$State.copyFrom -/
noncomputable def p2_s493 : ck_Sum := (((2 : Nat), (0 : Nat), (0 : Nat)), (245 : Nat), [.inr (.inr (.inl (135 : Nat))), .inr (.inr (.inl (3 : Nat)))], ([], [((3 : Nat), (8 : Int), (0 : Nat)), ((135 : Nat), (8 : Int), (100135 : Nat))], [((3 : Nat), (6 : Int), (6 : Int), ((0 : Int), (299 : Int), [((10 : Nat), (0 : Int))]))]), (zl96, [((135 : Nat), (8 : Int))]), [(.inr none, (245 : Nat), ([], [((135 : Nat), (8 : Int), (0 : Nat))], [((135 : Nat), (6 : Int), (6 : Int), ((0 : Int), (299 : Int), [((10 : Nat), (0 : Int))]))]))])
set_option maxRecDepth 100000 in
theorem p2_s493_s {X : Int → Int} {LX : Nat} : ck_Ok p2_O X LX 57 p2_s493 := ck_okq (cuts := []) (f := 204) ⟨p2_nmu, ck_E1 (ck_S1 p2_s487_s (ck_S1 p2_s488_s (ck_S1 p2_s489_s (ck_S1 p2_s490_s (ck_S1 p2_s491_s (ck_S1 p2_s492_s ck_S0)))))) ck_E0⟩ (by decide +kernel)
set_option maxRecDepth 100000 in
/-- GlacierMail$Rows.copyFrom -/
noncomputable def p2_s494 : ck_Sum := (((1 : Nat), (0 : Nat), (0 : Nat)), (245 : Nat), [.inr (.inr (.inl (149 : Nat))), .inr (.inr (.inl (4 : Nat)))], ([], [], []), ([((149 : Nat), (3 : Int), (3 : Int)), ((150 : Nat), (0 : Int), (55 : Int))], []), [(.inr none, (245 : Nat), ([], [], []))])
set_option maxRecDepth 100000 in
theorem p2_s494_s {X : Int → Int} {LX : Nat} : ck_Ok p2_O X LX 58 p2_s494 := ck_okq (cuts := []) (f := 114) ⟨p2_nmu, ck_E0⟩ (by decide +kernel)
set_option maxRecDepth 100000 in
/-- GlacierMail$Rows.copyFrom -/
noncomputable def p2_s495 : ck_Sum := (((1 : Nat), (0 : Nat), (0 : Nat)), (245 : Nat), [.inr (.inr (.inl (151 : Nat))), .inr (.inr (.inl (6 : Nat)))], ([], [], []), ([((151 : Nat), (3 : Int), (3 : Int)), ((152 : Nat), (0 : Int), (23 : Int))], []), [(.inr none, (245 : Nat), ([], [], []))])
set_option maxRecDepth 100000 in
theorem p2_s495_s {X : Int → Int} {LX : Nat} : ck_Ok p2_O X LX 58 p2_s495 := ck_okq (cuts := []) (f := 114) ⟨p2_nmu, ck_E0⟩ (by decide +kernel)
set_option maxRecDepth 100000 in
/-- GlacierMail$Rows.copyFrom -/
noncomputable def p2_s496 : ck_Sum := (((1 : Nat), (0 : Nat), (0 : Nat)), (245 : Nat), [.inr (.inr (.inl (153 : Nat))), .inr (.inr (.inl (8 : Nat)))], ([], [], []), ([((153 : Nat), (3 : Int), (3 : Int)), ((154 : Nat), (0 : Int), (23 : Int))], []), [(.inr none, (245 : Nat), ([], [], []))])
set_option maxRecDepth 100000 in
theorem p2_s496_s {X : Int → Int} {LX : Nat} : ck_Ok p2_O X LX 58 p2_s496 := ck_okq (cuts := []) (f := 114) ⟨p2_nmu, ck_E0⟩ (by decide +kernel)
set_option maxRecDepth 100000 in
/-- GlacierMail$Rows.copyFrom -/
noncomputable def p2_s497 : ck_Sum := (((1 : Nat), (0 : Nat), (0 : Nat)), (245 : Nat), [.inr (.inr (.inl (155 : Nat))), .inr (.inr (.inl (10 : Nat)))], ([], [], []), ([((155 : Nat), (3 : Int), (3 : Int)), ((156 : Nat), (0 : Int), (167 : Int))], []), [(.inr none, (245 : Nat), ([], [], []))])
set_option maxRecDepth 100000 in
theorem p2_s497_s {X : Int → Int} {LX : Nat} : ck_Ok p2_O X LX 58 p2_s497 := ck_okq (cuts := []) (f := 114) ⟨p2_nmu, ck_E0⟩ (by decide +kernel)
set_option maxRecDepth 100000 in
/-- GlacierMail$Rows.copyFrom -/
noncomputable def p2_s498 : ck_Sum := (((1 : Nat), (0 : Nat), (0 : Nat)), (245 : Nat), [.inr (.inr (.inl (157 : Nat))), .inr (.inr (.inl (12 : Nat)))], ([], [], []), ([((157 : Nat), (3 : Int), (3 : Int)), ((158 : Nat), (0 : Int), (35 : Int))], []), [(.inr none, (245 : Nat), ([], [], []))])
set_option maxRecDepth 100000 in
theorem p2_s498_s {X : Int → Int} {LX : Nat} : ck_Ok p2_O X LX 58 p2_s498 := ck_okq (cuts := []) (f := 114) ⟨p2_nmu, ck_E0⟩ (by decide +kernel)
set_option maxRecDepth 100000 in
/-- GlacierMail$Rows.copyFrom -/
noncomputable def p2_s499 : ck_Sum := (((1 : Nat), (0 : Nat), (0 : Nat)), (245 : Nat), [.inr (.inr (.inl (159 : Nat))), .inr (.inr (.inl (14 : Nat)))], ([], [], []), ([((159 : Nat), (3 : Int), (3 : Int)), ((160 : Nat), (0 : Int), (71 : Int))], []), [(.inr none, (245 : Nat), ([], [], []))])
set_option maxRecDepth 100000 in
theorem p2_s499_s {X : Int → Int} {LX : Nat} : ck_Ok p2_O X LX 58 p2_s499 := ck_okq (cuts := []) (f := 114) ⟨p2_nmu, ck_E0⟩ (by decide +kernel)
set_option maxRecDepth 100000 in
/-- GlacierMail$State.copyFrom -/
noncomputable def p2_s500 : ck_Sum := (((2 : Nat), (0 : Nat), (0 : Nat)), (245 : Nat), [.inr (.inr (.inl (148 : Nat))), .inr (.inr (.inl (3 : Nat)))], ([], [((3 : Nat), (8 : Int), (0 : Nat)), ((148 : Nat), (8 : Int), (100148 : Nat))], [((3 : Nat), (6 : Int), (6 : Int), ((0 : Int), (299 : Int), [((10 : Nat), (0 : Int))]))]), (zl97, [((148 : Nat), (8 : Int))]), [(.inr none, (245 : Nat), ([], [((148 : Nat), (8 : Int), (0 : Nat))], [((148 : Nat), (6 : Int), (6 : Int), ((0 : Int), (299 : Int), [((10 : Nat), (0 : Int))]))]))])
set_option maxRecDepth 100000 in
theorem p2_s500_s {X : Int → Int} {LX : Nat} : ck_Ok p2_O X LX 57 p2_s500 := ck_okq (cuts := []) (f := 204) ⟨p2_nmu, ck_E1 (ck_S1 p2_s494_s (ck_S1 p2_s495_s (ck_S1 p2_s496_s (ck_S1 p2_s497_s (ck_S1 p2_s498_s (ck_S1 p2_s499_s ck_S0)))))) ck_E0⟩ (by decide +kernel)
set_option maxRecDepth 100000 in
/-- GlacierMail$Rows.copyFrom -/
noncomputable def p2_s501 : ck_Sum := (((1 : Nat), (0 : Nat), (0 : Nat)), (245 : Nat), [.inr (.inr (.inl (162 : Nat))), .inr (.inr (.inl (4 : Nat)))], ([], [], []), ([((162 : Nat), (3 : Int), (3 : Int)), ((163 : Nat), (0 : Int), (55 : Int))], []), [(.inr none, (245 : Nat), ([], [], []))])
set_option maxRecDepth 100000 in
theorem p2_s501_s {X : Int → Int} {LX : Nat} : ck_Ok p2_O X LX 58 p2_s501 := ck_okq (cuts := []) (f := 114) ⟨p2_nmu, ck_E0⟩ (by decide +kernel)
set_option maxRecDepth 100000 in
/-- GlacierMail$Rows.copyFrom -/
noncomputable def p2_s502 : ck_Sum := (((1 : Nat), (0 : Nat), (0 : Nat)), (245 : Nat), [.inr (.inr (.inl (164 : Nat))), .inr (.inr (.inl (6 : Nat)))], ([], [], []), ([((164 : Nat), (3 : Int), (3 : Int)), ((165 : Nat), (0 : Int), (23 : Int))], []), [(.inr none, (245 : Nat), ([], [], []))])
set_option maxRecDepth 100000 in
theorem p2_s502_s {X : Int → Int} {LX : Nat} : ck_Ok p2_O X LX 58 p2_s502 := ck_okq (cuts := []) (f := 114) ⟨p2_nmu, ck_E0⟩ (by decide +kernel)
set_option maxRecDepth 100000 in
/-- GlacierMail$Rows.copyFrom -/
noncomputable def p2_s503 : ck_Sum := (((1 : Nat), (0 : Nat), (0 : Nat)), (245 : Nat), [.inr (.inr (.inl (166 : Nat))), .inr (.inr (.inl (8 : Nat)))], ([], [], []), ([((166 : Nat), (3 : Int), (3 : Int)), ((167 : Nat), (0 : Int), (23 : Int))], []), [(.inr none, (245 : Nat), ([], [], []))])
set_option maxRecDepth 100000 in
theorem p2_s503_s {X : Int → Int} {LX : Nat} : ck_Ok p2_O X LX 58 p2_s503 := ck_okq (cuts := []) (f := 114) ⟨p2_nmu, ck_E0⟩ (by decide +kernel)
set_option maxRecDepth 100000 in
/-- GlacierMail$Rows.copyFrom -/
noncomputable def p2_s504 : ck_Sum := (((1 : Nat), (0 : Nat), (0 : Nat)), (245 : Nat), [.inr (.inr (.inl (168 : Nat))), .inr (.inr (.inl (10 : Nat)))], ([], [], []), ([((168 : Nat), (3 : Int), (3 : Int)), ((169 : Nat), (0 : Int), (167 : Int))], []), [(.inr none, (245 : Nat), ([], [], []))])
set_option maxRecDepth 100000 in
theorem p2_s504_s {X : Int → Int} {LX : Nat} : ck_Ok p2_O X LX 58 p2_s504 := ck_okq (cuts := []) (f := 114) ⟨p2_nmu, ck_E0⟩ (by decide +kernel)
set_option maxRecDepth 100000 in
/-- GlacierMail$Rows.copyFrom -/
noncomputable def p2_s505 : ck_Sum := (((1 : Nat), (0 : Nat), (0 : Nat)), (245 : Nat), [.inr (.inr (.inl (170 : Nat))), .inr (.inr (.inl (12 : Nat)))], ([], [], []), ([((170 : Nat), (3 : Int), (3 : Int)), ((171 : Nat), (0 : Int), (35 : Int))], []), [(.inr none, (245 : Nat), ([], [], []))])
set_option maxRecDepth 100000 in
theorem p2_s505_s {X : Int → Int} {LX : Nat} : ck_Ok p2_O X LX 58 p2_s505 := ck_okq (cuts := []) (f := 114) ⟨p2_nmu, ck_E0⟩ (by decide +kernel)
set_option maxRecDepth 100000 in
/-- GlacierMail$Rows.copyFrom -/
noncomputable def p2_s506 : ck_Sum := (((1 : Nat), (0 : Nat), (0 : Nat)), (245 : Nat), [.inr (.inr (.inl (172 : Nat))), .inr (.inr (.inl (14 : Nat)))], ([], [], []), ([((172 : Nat), (3 : Int), (3 : Int)), ((173 : Nat), (0 : Int), (71 : Int))], []), [(.inr none, (245 : Nat), ([], [], []))])
set_option maxRecDepth 100000 in
theorem p2_s506_s {X : Int → Int} {LX : Nat} : ck_Ok p2_O X LX 58 p2_s506 := ck_okq (cuts := []) (f := 114) ⟨p2_nmu, ck_E0⟩ (by decide +kernel)
set_option maxRecDepth 100000 in
/-- GlacierMail$State.copyFrom -/
noncomputable def p2_s507 : ck_Sum := (((2 : Nat), (0 : Nat), (0 : Nat)), (245 : Nat), [.inr (.inr (.inl (161 : Nat))), .inr (.inr (.inl (3 : Nat)))], ([], [((3 : Nat), (8 : Int), (0 : Nat)), ((161 : Nat), (8 : Int), (100161 : Nat))], [((3 : Nat), (6 : Int), (6 : Int), ((0 : Int), (299 : Int), [((10 : Nat), (0 : Int))]))]), (zl98, [((161 : Nat), (8 : Int))]), [(.inr none, (245 : Nat), ([], [((161 : Nat), (8 : Int), (0 : Nat))], [((161 : Nat), (6 : Int), (6 : Int), ((0 : Int), (299 : Int), [((10 : Nat), (0 : Int))]))]))])
set_option maxRecDepth 100000 in
theorem p2_s507_s {X : Int → Int} {LX : Nat} : ck_Ok p2_O X LX 57 p2_s507 := ck_okq (cuts := []) (f := 204) ⟨p2_nmu, ck_E1 (ck_S1 p2_s501_s (ck_S1 p2_s502_s (ck_S1 p2_s503_s (ck_S1 p2_s504_s (ck_S1 p2_s505_s (ck_S1 p2_s506_s ck_S0)))))) ck_E0⟩ (by decide +kernel)
set_option maxRecDepth 100000 in
/-- GlacierMail$Rows.copyFrom -/
noncomputable def p2_s508 : ck_Sum := (((1 : Nat), (0 : Nat), (0 : Nat)), (245 : Nat), [.inr (.inr (.inl (175 : Nat))), .inr (.inr (.inl (4 : Nat)))], ([], [], []), ([((175 : Nat), (3 : Int), (3 : Int)), ((176 : Nat), (0 : Int), (55 : Int))], []), [(.inr none, (245 : Nat), ([], [], []))])
set_option maxRecDepth 100000 in
theorem p2_s508_s {X : Int → Int} {LX : Nat} : ck_Ok p2_O X LX 58 p2_s508 := ck_okq (cuts := []) (f := 114) ⟨p2_nmu, ck_E0⟩ (by decide +kernel)
set_option maxRecDepth 100000 in
/-- GlacierMail$Rows.copyFrom -/
noncomputable def p2_s509 : ck_Sum := (((1 : Nat), (0 : Nat), (0 : Nat)), (245 : Nat), [.inr (.inr (.inl (177 : Nat))), .inr (.inr (.inl (6 : Nat)))], ([], [], []), ([((177 : Nat), (3 : Int), (3 : Int)), ((178 : Nat), (0 : Int), (23 : Int))], []), [(.inr none, (245 : Nat), ([], [], []))])
set_option maxRecDepth 100000 in
theorem p2_s509_s {X : Int → Int} {LX : Nat} : ck_Ok p2_O X LX 58 p2_s509 := ck_okq (cuts := []) (f := 114) ⟨p2_nmu, ck_E0⟩ (by decide +kernel)
set_option maxRecDepth 100000 in
/-- GlacierMail$Rows.copyFrom -/
noncomputable def p2_s510 : ck_Sum := (((1 : Nat), (0 : Nat), (0 : Nat)), (245 : Nat), [.inr (.inr (.inl (179 : Nat))), .inr (.inr (.inl (8 : Nat)))], ([], [], []), ([((179 : Nat), (3 : Int), (3 : Int)), ((180 : Nat), (0 : Int), (23 : Int))], []), [(.inr none, (245 : Nat), ([], [], []))])
set_option maxRecDepth 100000 in
theorem p2_s510_s {X : Int → Int} {LX : Nat} : ck_Ok p2_O X LX 58 p2_s510 := ck_okq (cuts := []) (f := 114) ⟨p2_nmu, ck_E0⟩ (by decide +kernel)
set_option maxRecDepth 100000 in
/-- GlacierMail$Rows.copyFrom -/
noncomputable def p2_s511 : ck_Sum := (((1 : Nat), (0 : Nat), (0 : Nat)), (245 : Nat), [.inr (.inr (.inl (181 : Nat))), .inr (.inr (.inl (10 : Nat)))], ([], [], []), ([((181 : Nat), (3 : Int), (3 : Int)), ((182 : Nat), (0 : Int), (167 : Int))], []), [(.inr none, (245 : Nat), ([], [], []))])
set_option maxRecDepth 100000 in
theorem p2_s511_s {X : Int → Int} {LX : Nat} : ck_Ok p2_O X LX 58 p2_s511 := ck_okq (cuts := []) (f := 114) ⟨p2_nmu, ck_E0⟩ (by decide +kernel)
set_option maxRecDepth 100000 in
/-- GlacierMail$Rows.copyFrom -/
noncomputable def p2_s512 : ck_Sum := (((1 : Nat), (0 : Nat), (0 : Nat)), (245 : Nat), [.inr (.inr (.inl (183 : Nat))), .inr (.inr (.inl (12 : Nat)))], ([], [], []), ([((183 : Nat), (3 : Int), (3 : Int)), ((184 : Nat), (0 : Int), (35 : Int))], []), [(.inr none, (245 : Nat), ([], [], []))])
set_option maxRecDepth 100000 in
theorem p2_s512_s {X : Int → Int} {LX : Nat} : ck_Ok p2_O X LX 58 p2_s512 := ck_okq (cuts := []) (f := 114) ⟨p2_nmu, ck_E0⟩ (by decide +kernel)
set_option maxRecDepth 100000 in
/-- GlacierMail$Rows.copyFrom -/
noncomputable def p2_s513 : ck_Sum := (((1 : Nat), (0 : Nat), (0 : Nat)), (245 : Nat), [.inr (.inr (.inl (185 : Nat))), .inr (.inr (.inl (14 : Nat)))], ([], [], []), ([((185 : Nat), (3 : Int), (3 : Int)), ((186 : Nat), (0 : Int), (71 : Int))], []), [(.inr none, (245 : Nat), ([], [], []))])
set_option maxRecDepth 100000 in
theorem p2_s513_s {X : Int → Int} {LX : Nat} : ck_Ok p2_O X LX 58 p2_s513 := ck_okq (cuts := []) (f := 114) ⟨p2_nmu, ck_E0⟩ (by decide +kernel)
set_option maxRecDepth 100000 in
/-- GlacierMail$State.copyFrom -/
noncomputable def p2_s514 : ck_Sum := (((2 : Nat), (0 : Nat), (0 : Nat)), (245 : Nat), [.inr (.inr (.inl (174 : Nat))), .inr (.inr (.inl (3 : Nat)))], ([], [((3 : Nat), (8 : Int), (0 : Nat)), ((174 : Nat), (8 : Int), (100174 : Nat))], [((3 : Nat), (6 : Int), (6 : Int), ((0 : Int), (299 : Int), [((10 : Nat), (0 : Int))]))]), (zl99, [((174 : Nat), (8 : Int))]), [(.inr none, (245 : Nat), ([], [((174 : Nat), (8 : Int), (0 : Nat))], [((174 : Nat), (6 : Int), (6 : Int), ((0 : Int), (299 : Int), [((10 : Nat), (0 : Int))]))]))])
set_option maxRecDepth 100000 in
theorem p2_s514_s {X : Int → Int} {LX : Nat} : ck_Ok p2_O X LX 57 p2_s514 := ck_okq (cuts := []) (f := 204) ⟨p2_nmu, ck_E1 (ck_S1 p2_s508_s (ck_S1 p2_s509_s (ck_S1 p2_s510_s (ck_S1 p2_s511_s (ck_S1 p2_s512_s (ck_S1 p2_s513_s ck_S0)))))) ck_E0⟩ (by decide +kernel)
set_option maxRecDepth 100000 in
/-- GlacierMail$Rows.copyFrom -/
noncomputable def p2_s515 : ck_Sum := (((1 : Nat), (0 : Nat), (0 : Nat)), (245 : Nat), [.inr (.inr (.inl (188 : Nat))), .inr (.inr (.inl (4 : Nat)))], ([], [], []), ([((188 : Nat), (3 : Int), (3 : Int)), ((189 : Nat), (0 : Int), (55 : Int))], []), [(.inr none, (245 : Nat), ([], [], []))])
set_option maxRecDepth 100000 in
theorem p2_s515_s {X : Int → Int} {LX : Nat} : ck_Ok p2_O X LX 58 p2_s515 := ck_okq (cuts := []) (f := 114) ⟨p2_nmu, ck_E0⟩ (by decide +kernel)
set_option maxRecDepth 100000 in
/-- GlacierMail$Rows.copyFrom -/
noncomputable def p2_s516 : ck_Sum := (((1 : Nat), (0 : Nat), (0 : Nat)), (245 : Nat), [.inr (.inr (.inl (190 : Nat))), .inr (.inr (.inl (6 : Nat)))], ([], [], []), ([((190 : Nat), (3 : Int), (3 : Int)), ((191 : Nat), (0 : Int), (23 : Int))], []), [(.inr none, (245 : Nat), ([], [], []))])
set_option maxRecDepth 100000 in
theorem p2_s516_s {X : Int → Int} {LX : Nat} : ck_Ok p2_O X LX 58 p2_s516 := ck_okq (cuts := []) (f := 114) ⟨p2_nmu, ck_E0⟩ (by decide +kernel)
set_option maxRecDepth 100000 in
/-- GlacierMail$Rows.copyFrom -/
noncomputable def p2_s517 : ck_Sum := (((1 : Nat), (0 : Nat), (0 : Nat)), (245 : Nat), [.inr (.inr (.inl (192 : Nat))), .inr (.inr (.inl (8 : Nat)))], ([], [], []), ([((192 : Nat), (3 : Int), (3 : Int)), ((193 : Nat), (0 : Int), (23 : Int))], []), [(.inr none, (245 : Nat), ([], [], []))])
set_option maxRecDepth 100000 in
theorem p2_s517_s {X : Int → Int} {LX : Nat} : ck_Ok p2_O X LX 58 p2_s517 := ck_okq (cuts := []) (f := 114) ⟨p2_nmu, ck_E0⟩ (by decide +kernel)
set_option maxRecDepth 100000 in
/-- GlacierMail$Rows.copyFrom -/
noncomputable def p2_s518 : ck_Sum := (((1 : Nat), (0 : Nat), (0 : Nat)), (245 : Nat), [.inr (.inr (.inl (194 : Nat))), .inr (.inr (.inl (10 : Nat)))], ([], [], []), ([((194 : Nat), (3 : Int), (3 : Int)), ((195 : Nat), (0 : Int), (167 : Int))], []), [(.inr none, (245 : Nat), ([], [], []))])
set_option maxRecDepth 100000 in
theorem p2_s518_s {X : Int → Int} {LX : Nat} : ck_Ok p2_O X LX 58 p2_s518 := ck_okq (cuts := []) (f := 114) ⟨p2_nmu, ck_E0⟩ (by decide +kernel)
set_option maxRecDepth 100000 in
/-- GlacierMail$Rows.copyFrom -/
noncomputable def p2_s519 : ck_Sum := (((1 : Nat), (0 : Nat), (0 : Nat)), (245 : Nat), [.inr (.inr (.inl (196 : Nat))), .inr (.inr (.inl (12 : Nat)))], ([], [], []), ([((196 : Nat), (3 : Int), (3 : Int)), ((197 : Nat), (0 : Int), (35 : Int))], []), [(.inr none, (245 : Nat), ([], [], []))])
set_option maxRecDepth 100000 in
theorem p2_s519_s {X : Int → Int} {LX : Nat} : ck_Ok p2_O X LX 58 p2_s519 := ck_okq (cuts := []) (f := 114) ⟨p2_nmu, ck_E0⟩ (by decide +kernel)
set_option maxRecDepth 100000 in
/-- GlacierMail$Rows.copyFrom -/
noncomputable def p2_s520 : ck_Sum := (((1 : Nat), (0 : Nat), (0 : Nat)), (245 : Nat), [.inr (.inr (.inl (198 : Nat))), .inr (.inr (.inl (14 : Nat)))], ([], [], []), ([((198 : Nat), (3 : Int), (3 : Int)), ((199 : Nat), (0 : Int), (71 : Int))], []), [(.inr none, (245 : Nat), ([], [], []))])
set_option maxRecDepth 100000 in
theorem p2_s520_s {X : Int → Int} {LX : Nat} : ck_Ok p2_O X LX 58 p2_s520 := ck_okq (cuts := []) (f := 114) ⟨p2_nmu, ck_E0⟩ (by decide +kernel)
set_option maxRecDepth 100000 in
/-- GlacierMail$State.copyFrom -/
noncomputable def p2_s521 : ck_Sum := (((2 : Nat), (0 : Nat), (0 : Nat)), (245 : Nat), [.inr (.inr (.inl (187 : Nat))), .inr (.inr (.inl (3 : Nat)))], ([], [((3 : Nat), (8 : Int), (0 : Nat)), ((187 : Nat), (8 : Int), (100187 : Nat))], [((3 : Nat), (6 : Int), (6 : Int), ((0 : Int), (299 : Int), [((10 : Nat), (0 : Int))]))]), (zl100, [((187 : Nat), (8 : Int))]), [(.inr none, (245 : Nat), ([], [((187 : Nat), (8 : Int), (0 : Nat))], [((187 : Nat), (6 : Int), (6 : Int), ((0 : Int), (299 : Int), [((10 : Nat), (0 : Int))]))]))])
set_option maxRecDepth 100000 in
theorem p2_s521_s {X : Int → Int} {LX : Nat} : ck_Ok p2_O X LX 57 p2_s521 := ck_okq (cuts := []) (f := 204) ⟨p2_nmu, ck_E1 (ck_S1 p2_s515_s (ck_S1 p2_s516_s (ck_S1 p2_s517_s (ck_S1 p2_s518_s (ck_S1 p2_s519_s (ck_S1 p2_s520_s ck_S0)))))) ck_E0⟩ (by decide +kernel)
set_option maxRecDepth 100000 in
/-- GlacierMail$Rows.copyFrom -/
noncomputable def p2_s522 : ck_Sum := (((1 : Nat), (0 : Nat), (0 : Nat)), (245 : Nat), [.inr (.inr (.inl (45 : Nat))), .inr (.inr (.inl (4 : Nat)))], ([], [], []), ([((45 : Nat), (3 : Int), (3 : Int)), ((46 : Nat), (0 : Int), (55 : Int))], []), [(.inr none, (245 : Nat), ([], [], []))])
set_option maxRecDepth 100000 in
theorem p2_s522_s {X : Int → Int} {LX : Nat} : ck_Ok p2_O X LX 58 p2_s522 := ck_okq (cuts := []) (f := 114) ⟨p2_nmu, ck_E0⟩ (by decide +kernel)
set_option maxRecDepth 100000 in
/-- GlacierMail$Rows.copyFrom -/
noncomputable def p2_s523 : ck_Sum := (((1 : Nat), (0 : Nat), (0 : Nat)), (245 : Nat), [.inr (.inr (.inl (47 : Nat))), .inr (.inr (.inl (6 : Nat)))], ([], [], []), ([((47 : Nat), (3 : Int), (3 : Int)), ((48 : Nat), (0 : Int), (23 : Int))], []), [(.inr none, (245 : Nat), ([], [], []))])
set_option maxRecDepth 100000 in
theorem p2_s523_s {X : Int → Int} {LX : Nat} : ck_Ok p2_O X LX 58 p2_s523 := ck_okq (cuts := []) (f := 114) ⟨p2_nmu, ck_E0⟩ (by decide +kernel)
set_option maxRecDepth 100000 in
/-- GlacierMail$Rows.copyFrom -/
noncomputable def p2_s524 : ck_Sum := (((1 : Nat), (0 : Nat), (0 : Nat)), (245 : Nat), [.inr (.inr (.inl (49 : Nat))), .inr (.inr (.inl (8 : Nat)))], ([], [], []), ([((49 : Nat), (3 : Int), (3 : Int)), ((50 : Nat), (0 : Int), (23 : Int))], []), [(.inr none, (245 : Nat), ([], [], []))])
set_option maxRecDepth 100000 in
theorem p2_s524_s {X : Int → Int} {LX : Nat} : ck_Ok p2_O X LX 58 p2_s524 := ck_okq (cuts := []) (f := 114) ⟨p2_nmu, ck_E0⟩ (by decide +kernel)
set_option maxRecDepth 100000 in
/-- GlacierMail$Rows.copyFrom -/
noncomputable def p2_s525 : ck_Sum := (((1 : Nat), (0 : Nat), (0 : Nat)), (245 : Nat), [.inr (.inr (.inl (51 : Nat))), .inr (.inr (.inl (10 : Nat)))], ([], [], []), ([((51 : Nat), (3 : Int), (3 : Int)), ((52 : Nat), (0 : Int), (167 : Int))], []), [(.inr none, (245 : Nat), ([], [], []))])
set_option maxRecDepth 100000 in
theorem p2_s525_s {X : Int → Int} {LX : Nat} : ck_Ok p2_O X LX 58 p2_s525 := ck_okq (cuts := []) (f := 114) ⟨p2_nmu, ck_E0⟩ (by decide +kernel)
set_option maxRecDepth 100000 in
/-- GlacierMail$Rows.copyFrom -/
noncomputable def p2_s526 : ck_Sum := (((1 : Nat), (0 : Nat), (0 : Nat)), (245 : Nat), [.inr (.inr (.inl (53 : Nat))), .inr (.inr (.inl (12 : Nat)))], ([], [], []), ([((53 : Nat), (3 : Int), (3 : Int)), ((54 : Nat), (0 : Int), (35 : Int))], []), [(.inr none, (245 : Nat), ([], [], []))])
set_option maxRecDepth 100000 in
theorem p2_s526_s {X : Int → Int} {LX : Nat} : ck_Ok p2_O X LX 58 p2_s526 := ck_okq (cuts := []) (f := 114) ⟨p2_nmu, ck_E0⟩ (by decide +kernel)
set_option maxRecDepth 100000 in
/-- GlacierMail$Rows.copyFrom -/
noncomputable def p2_s527 : ck_Sum := (((1 : Nat), (0 : Nat), (0 : Nat)), (245 : Nat), [.inr (.inr (.inl (55 : Nat))), .inr (.inr (.inl (14 : Nat)))], ([], [], []), ([((55 : Nat), (3 : Int), (3 : Int)), ((56 : Nat), (0 : Int), (71 : Int))], []), [(.inr none, (245 : Nat), ([], [], []))])
set_option maxRecDepth 100000 in
theorem p2_s527_s {X : Int → Int} {LX : Nat} : ck_Ok p2_O X LX 58 p2_s527 := ck_okq (cuts := []) (f := 114) ⟨p2_nmu, ck_E0⟩ (by decide +kernel)
set_option maxRecDepth 100000 in
/-- GlacierMail$State.copyFrom -/
noncomputable def p2_s528 : ck_Sum := (((2 : Nat), (0 : Nat), (0 : Nat)), (245 : Nat), [.inr (.inr (.inl (44 : Nat))), .inr (.inr (.inl (3 : Nat)))], ([], [((3 : Nat), (8 : Int), (0 : Nat)), ((44 : Nat), (8 : Int), (100044 : Nat))], [((3 : Nat), (6 : Int), (6 : Int), ((0 : Int), (299 : Int), [((10 : Nat), (0 : Int))]))]), (zl101, [((44 : Nat), (8 : Int))]), [(.inr none, (245 : Nat), ([], [((44 : Nat), (8 : Int), (0 : Nat))], [((44 : Nat), (6 : Int), (6 : Int), ((0 : Int), (299 : Int), [((10 : Nat), (0 : Int))]))]))])
set_option maxRecDepth 100000 in
theorem p2_s528_s {X : Int → Int} {LX : Nat} : ck_Ok p2_O X LX 57 p2_s528 := ck_okq (cuts := []) (f := 204) ⟨p2_nmu, ck_E1 (ck_S1 p2_s522_s (ck_S1 p2_s523_s (ck_S1 p2_s524_s (ck_S1 p2_s525_s (ck_S1 p2_s526_s (ck_S1 p2_s527_s ck_S0)))))) ck_E0⟩ (by decide +kernel)
set_option maxRecDepth 100000 in
/-- GlacierMail$History.remember -/
noncomputable def p2_s529 : ck_Sum := (((3 : Nat), (0 : Nat), (0 : Nat)), (245 : Nat), [.inr (.inr (.inl (42 : Nat))), .inr (.inr (.inl (3 : Nat)))], ([], zl102, [((3 : Nat), (6 : Int), (6 : Int), ((0 : Int), (299 : Int), [((10 : Nat), (0 : Int))]))]), (zl103, zl104), [(.inr none, (245 : Nat), ([], zl105, zl106)), (.inr none, (245 : Nat), ([], zl107, zl108)), (.inr none, (245 : Nat), ([], zl109, zl110)), (.inr none, (245 : Nat), ([], zl111, zl112)), (.inr none, (245 : Nat), ([], zl113, zl114)), (.inr none, (245 : Nat), ([], zl115, zl116)), (.inr none, (245 : Nat), ([], zl117, zl118)), (.inr none, (245 : Nat), ([], zl119, zl120)), (.inr none, (245 : Nat), ([], zl121, zl122)), (.inr none, (245 : Nat), ([], zl123, zl124)), (.inr none, (245 : Nat), ([], zl125, zl126)), (.inr none, (245 : Nat), ([], zl127, zl128)), (.inr none, (245 : Nat), ([], zl129, zl130))])
set_option maxRecDepth 100000 in
theorem p2_s529_s {X : Int → Int} {LX : Nat} : ck_Ok p2_O X LX 154 p2_s529 := ck_okq (cuts := []) (f := 124) ⟨p2_nmu, ck_E1 (ck_S1 p2_s444_s ck_S0) (ck_E1 (ck_S1 p2_s451_s (ck_S1 p2_s458_s (ck_S1 p2_s465_s (ck_S1 p2_s472_s (ck_S1 p2_s479_s (ck_S1 p2_s486_s (ck_S1 p2_s493_s (ck_S1 p2_s500_s (ck_S1 p2_s507_s (ck_S1 p2_s514_s (ck_S1 p2_s521_s (ck_S1 p2_s528_s ck_S0)))))))))))) ck_E0)⟩ (by decide +kernel)
set_option maxRecDepth 100000 in
/-- GlacierMail$Rows.add -/
noncomputable def p2_s530 : ck_Sum := (((0 : Nat), (0 : Nat), (0 : Nat)), (245 : Nat), [.inr (.inr (.inl (10 : Nat)))], ([], [], []), ([((10 : Nat), (3 : Int), (3 : Int))], []), zl131)
set_option maxRecDepth 100000 in
theorem p2_s530_s {X : Int → Int} {LX : Nat} : ck_Ok p2_O X LX 102 p2_s530 := ck_okq (cuts := []) (f := 102) ⟨p2_nmu, ck_E0⟩ (by decide +kernel)
set_option maxRecDepth 100000 in
/-- GlacierMail$Rows.put -/
noncomputable def p2_s531 : ck_Sum := (((0 : Nat), (0 : Nat), (0 : Nat)), (245 : Nat), [.inr (.inr (.inl (10 : Nat))), .inl ((0 : Int), (23 : Int), []), .inl (ck_one 0), .inl ((0 : Int), (7 : Int), [])], ([], [], []), (zl132, []), [(.inr none, (245 : Nat), ([], [], []))])
set_option maxRecDepth 100000 in
theorem p2_s531_s {X : Int → Int} {LX : Nat} : ck_Ok p2_O X LX 45 p2_s531 := ck_okq (cuts := []) (f := 116) ⟨p2_nmu, ck_E0⟩ (by decide +kernel)
set_option maxRecDepth 100000 in
/-- GlacierMail$Rows.put -/
noncomputable def p2_s532 : ck_Sum := (((0 : Nat), (0 : Nat), (0 : Nat)), (245 : Nat), [.inr (.inr (.inl (10 : Nat))), .inl ((0 : Int), (23 : Int), []), .inl (ck_one 1), .inl ((0 : Int), (7 : Int), [])], ([], [], []), (zl133, []), [(.inr none, (245 : Nat), ([], [], []))])
set_option maxRecDepth 100000 in
theorem p2_s532_s {X : Int → Int} {LX : Nat} : ck_Ok p2_O X LX 45 p2_s532 := ck_okq (cuts := []) (f := 116) ⟨p2_nmu, ck_E0⟩ (by decide +kernel)
set_option maxRecDepth 100000 in
/-- GlacierMail$Rows.put -/
noncomputable def p2_s533 : ck_Sum := (((0 : Nat), (0 : Nat), (0 : Nat)), (245 : Nat), [.inr (.inr (.inl (10 : Nat))), .inl ((0 : Int), (23 : Int), []), .inl (ck_one 2), .inl ((-1 : Int), (98 : Int), [])], ([], [], []), (zl134, []), [(.inr none, (245 : Nat), ([], [], []))])
set_option maxRecDepth 100000 in
theorem p2_s533_s {X : Int → Int} {LX : Nat} : ck_Ok p2_O X LX 45 p2_s533 := ck_okq (cuts := []) (f := 116) ⟨p2_nmu, ck_E0⟩ (by decide +kernel)
set_option maxRecDepth 100000 in
/-- GlacierMail$Rows.put -/
noncomputable def p2_s534 : ck_Sum := (((0 : Nat), (0 : Nat), (0 : Nat)), (245 : Nat), [.inr (.inr (.inl (10 : Nat))), .inl ((0 : Int), (23 : Int), []), .inl (ck_one 3), .inl ((0 : Int), (299 : Int), [])], ([], [], []), (zl135, []), [(.inr none, (245 : Nat), ([], [], []))])
set_option maxRecDepth 100000 in
theorem p2_s534_s {X : Int → Int} {LX : Nat} : ck_Ok p2_O X LX 45 p2_s534 := ck_okq (cuts := []) (f := 116) ⟨p2_nmu, ck_E0⟩ (by decide +kernel)
set_option maxRecDepth 100000 in
/-- GlacierMail$Rows.put -/
noncomputable def p2_s535 : ck_Sum := (((0 : Nat), (0 : Nat), (0 : Nat)), (245 : Nat), [.inr (.inr (.inl (10 : Nat))), .inl ((0 : Int), (23 : Int), []), .inl (ck_one 4), .inl ((-1 : Int), (98 : Int), [])], ([], [], []), (zl136, []), [(.inr none, (245 : Nat), ([], [], []))])
set_option maxRecDepth 100000 in
theorem p2_s535_s {X : Int → Int} {LX : Nat} : ck_Ok p2_O X LX 45 p2_s535 := ck_okq (cuts := []) (f := 116) ⟨p2_nmu, ck_E0⟩ (by decide +kernel)
set_option maxRecDepth 100000 in
/-- GlacierMail$Rows.put -/
noncomputable def p2_s536 : ck_Sum := (((0 : Nat), (0 : Nat), (0 : Nat)), (245 : Nat), [.inr (.inr (.inl (10 : Nat))), .inl ((0 : Int), (23 : Int), []), .inl (ck_one 5), .inl (ck_one (-1))], ([], [], []), (zl137, []), [(.inr none, (245 : Nat), ([], [], []))])
set_option maxRecDepth 100000 in
theorem p2_s536_s {X : Int → Int} {LX : Nat} : ck_Ok p2_O X LX 45 p2_s536 := ck_okq (cuts := []) (f := 116) ⟨p2_nmu, ck_E0⟩ (by decide +kernel)
set_option maxRecDepth 100000 in
/-- GlacierMail$Rows.put -/
noncomputable def p2_s537 : ck_Sum := (((0 : Nat), (0 : Nat), (0 : Nat)), (245 : Nat), [.inr (.inr (.inl (10 : Nat))), .inl ((0 : Int), (23 : Int), []), .inl (ck_one 6), .inl (ck_one (-1))], ([], [], []), (zl138, []), [(.inr none, (245 : Nat), ([], [], []))])
set_option maxRecDepth 100000 in
theorem p2_s537_s {X : Int → Int} {LX : Nat} : ck_Ok p2_O X LX 45 p2_s537 := ck_okq (cuts := []) (f := 116) ⟨p2_nmu, ck_E0⟩ (by decide +kernel)
set_option maxRecDepth 100000 in
/-- GlacierMail$Rows.put -/
noncomputable def p2_s538 : ck_Sum := (((0 : Nat), (0 : Nat), (0 : Nat)), (245 : Nat), [.inr (.inr (.inl (10 : Nat))), .inl (ck_one (-1)), .inl (ck_one 0), .inl ((0 : Int), (7 : Int), [])], ([], [], []), ([], []), [(.inr none, (245 : Nat), ([], [], []))])
set_option maxRecDepth 100000 in
theorem p2_s538_s {X : Int → Int} {LX : Nat} : ck_Ok p2_O X LX 45 p2_s538 := ck_okq (cuts := []) (f := 76) ⟨p2_nmu, ck_E0⟩ (by decide +kernel)
set_option maxRecDepth 100000 in
/-- GlacierMail$Rows.put -/
noncomputable def p2_s539 : ck_Sum := (((0 : Nat), (0 : Nat), (0 : Nat)), (245 : Nat), [.inr (.inr (.inl (10 : Nat))), .inl (ck_one (-1)), .inl (ck_one 1), .inl ((0 : Int), (7 : Int), [])], ([], [], []), ([], []), [(.inr none, (245 : Nat), ([], [], []))])
set_option maxRecDepth 100000 in
theorem p2_s539_s {X : Int → Int} {LX : Nat} : ck_Ok p2_O X LX 45 p2_s539 := ck_okq (cuts := []) (f := 76) ⟨p2_nmu, ck_E0⟩ (by decide +kernel)
set_option maxRecDepth 100000 in
/-- GlacierMail$Rows.put -/
noncomputable def p2_s540 : ck_Sum := (((0 : Nat), (0 : Nat), (0 : Nat)), (245 : Nat), [.inr (.inr (.inl (10 : Nat))), .inl (ck_one (-1)), .inl (ck_one 2), .inl ((-1 : Int), (98 : Int), [])], ([], [], []), ([], []), [(.inr none, (245 : Nat), ([], [], []))])
set_option maxRecDepth 100000 in
theorem p2_s540_s {X : Int → Int} {LX : Nat} : ck_Ok p2_O X LX 45 p2_s540 := ck_okq (cuts := []) (f := 76) ⟨p2_nmu, ck_E0⟩ (by decide +kernel)
end
