/-! 75a00.lq -/
section
/-! THE CLASS'S law(): reading, and a new Law (laid by wip/am/p2m.py). -/
set_option maxRecDepth 100000 in
/-- java/util/Arrays.fill -/
noncomputable def pm_s0 : ck_Sum := (((0 : Nat), (0 : Nat), (0 : Nat)), (245 : Nat), [.inr (.inr (.inl (218 : Nat))), .inl (ck_one 0)], ([], [], []), ([((218 : Nat), (0 : Int), (47 : Int))], []), [(.inr none, (245 : Nat), ([], [], []))])
set_option maxRecDepth 100000 in
theorem pm_s0_s {X : Int → Int} {LX : Nat} : ck_Ok p2_O X LX 8 pm_s0 := ck_okq (cuts := [((5 : Nat), [some (.inr (.inr (.inl (218 : Nat)))), some (.inl (ck_one 0)), some (.inl ((0 : Int), (48 : Int), [])), some (.inl (ck_one 48))], ([], [], []), (100 : Nat), .inl (2 : Nat), true)]) (f := 130) ⟨p2_nmu, ck_E0⟩ (by decide +kernel)
set_option maxRecDepth 100000 in
/-- GlacierMail$Rows.reset -/
noncomputable def pm_s1 : ck_Sum := (((1 : Nat), (0 : Nat), (0 : Nat)), (245 : Nat), [.inr (.inr (.inl (217 : Nat))), .inl (ck_one 0)], ([], [], []), ([((217 : Nat), (3 : Int), (3 : Int)), ((218 : Nat), (0 : Int), (47 : Int))], []), [(.inr none, (245 : Nat), ([], [], [((217 : Nat), (3 : Int), (3 : Int), ck_one 0)]))])
set_option maxRecDepth 100000 in
theorem pm_s1_s {X : Int → Int} {LX : Nat} : ck_Ok p2_O X LX 25 pm_s1 := ck_okq (cuts := []) (f := 96) ⟨p2_nmu, ck_E1 (ck_S1 pm_s0_s ck_S0) ck_E0⟩ (by decide +kernel)
set_option maxRecDepth 100000 in
/-- GlacierMail$LawReader.clear -/
noncomputable def pm_s2 : ck_Sum := (((2 : Nat), (0 : Nat), (0 : Nat)), (245 : Nat), [.inr (.inr (.inl (215 : Nat)))], ([], [], []), ([((215 : Nat), (4 : Int), (4 : Int)), ((217 : Nat), (3 : Int), (3 : Int)), ((218 : Nat), (0 : Int), (47 : Int))], []), [(.inr none, (245 : Nat), ([], [], [((215 : Nat), (4 : Int), (4 : Int), ck_one 0), ((217 : Nat), (3 : Int), (3 : Int), ck_one 0)]))])
set_option maxRecDepth 100000 in
theorem pm_s2_s {X : Int → Int} {LX : Nat} : ck_Ok p2_O X LX 73 pm_s2 := ck_okq (cuts := []) (f := 86) ⟨p2_nmu, ck_E1 (ck_S1 pm_s1_s ck_S0) ck_E0⟩ (by decide +kernel)
set_option maxRecDepth 100000 in
/-- GlacierMail$Words.isSmall -/
noncomputable def pm_s3 : ck_Sum := (((0 : Nat), (0 : Nat), (0 : Nat)), (245 : Nat), [.inl ((-128 : Int), (127 : Int), [])], ([], [], []), ([], []), [(.inr (some (.inl (ck_one 0))), (245 : Nat), ([], [], [])), (.inr (some (.inl (ck_one 1))), (245 : Nat), ([], [], []))])
set_option maxRecDepth 100000 in
theorem pm_s3_s {X : Int → Int} {LX : Nat} : ck_Ok p2_O X LX 77 pm_s3 := ck_okq (cuts := []) (f := 88) ⟨p2_nmu, ck_E0⟩ (by decide +kernel)
set_option maxRecDepth 100000 in
/-- GlacierMail$Words.isDigit -/
noncomputable def pm_s4 : ck_Sum := (((0 : Nat), (0 : Nat), (0 : Nat)), (245 : Nat), [.inl ((-128 : Int), (127 : Int), [])], ([], [], []), ([], []), [(.inr (some (.inl (ck_one 0))), (245 : Nat), ([], [], [])), (.inr (some (.inl (ck_one 1))), (245 : Nat), ([], [], []))])
set_option maxRecDepth 100000 in
theorem pm_s4_s {X : Int → Int} {LX : Nat} : ck_Ok p2_O X LX 78 pm_s4 := ck_okq (cuts := []) (f := 88) ⟨p2_nmu, ck_E0⟩ (by decide +kernel)
set_option maxRecDepth 100000 in
/-- GlacierMail$Words.next -/
noncomputable def pm_s5 : ck_Sum := (((1 : Nat), (0 : Nat), (0 : Nat)), (245 : Nat), [.inr (.inr (.inl (216 : Nat)))], ([], [], [((216 : Nat), (3 : Int), (3 : Int), ((0 : Int), (400 : Int), [((13 : Nat), (0 : Int))]))]), ([((216 : Nat), (3 : Int), (4 : Int)), ((216 : Nat), (6 : Int), (7 : Int))], []), [(.inr none, (245 : Nat), ([], [], [((216 : Nat), (3 : Int), (3 : Int), ((0 : Int), (400 : Int), [((1000013 : Nat), (0 : Int))]))]))])
set_option maxRecDepth 100000 in
theorem pm_s5_s {X : Int → Int} {LX : Nat} : ck_Ok p2_O X LX 76 pm_s5 := ck_okq (cuts := [((0 : Nat), [some (.inr (.inr (.inl (216 : Nat)))), none], ([], [], [((216 : Nat), (3 : Int), (3 : Int), ((0 : Int), (400 : Int), [((1000013 : Nat), (0 : Int))]))]), (100 : Nat), .inr ((216 : Nat), (3 : Int)), true), ((160 : Nat), [some (.inr (.inr (.inl (216 : Nat)))), none], ([], [], [((216 : Nat), (6 : Int), (6 : Int), ck_one 258), ((216 : Nat), (2 : Int), (2 : Int), ((1 : Int), (400 : Int), [])), ((216 : Nat), (3 : Int), (3 : Int), ((0 : Int), (400 : Int), [((1000100 : Nat), (0 : Int)), ((1000013 : Nat), (0 : Int))])), ((216 : Nat), (4 : Int), (4 : Int), ((0 : Int), (400 : Int), [((100 : Nat), (0 : Int))]))]), (300 : Nat), .inr ((216 : Nat), (3 : Int)), true), ((94 : Nat), [some (.inr (.inr (.inl (216 : Nat)))), none], ([], [], [((216 : Nat), (6 : Int), (6 : Int), ck_one 257), ((216 : Nat), (2 : Int), (2 : Int), ((1 : Int), (400 : Int), [])), ((216 : Nat), (3 : Int), (3 : Int), ((0 : Int), (400 : Int), [((1000100 : Nat), (0 : Int)), ((1000013 : Nat), (0 : Int))])), ((216 : Nat), (7 : Int), (7 : Int), ck_one (-1)), ((216 : Nat), (4 : Int), (4 : Int), ((0 : Int), (400 : Int), [((100 : Nat), (0 : Int)), ((1000013 : Nat), (0 : Int))]))]), (500 : Nat), .inr ((216 : Nat), (3 : Int)), true)]) (f := 562) ⟨p2_nmu, ck_E1 (ck_S1 pm_s3_s ck_S0) (ck_E1 (ck_S1 pm_s4_s ck_S0) ck_E0)⟩ (by decide +kernel)
set_option maxRecDepth 100000 in
/-- GlacierMail$Words.start -/
noncomputable def pm_s6 : ck_Sum := (((2 : Nat), (0 : Nat), (0 : Nat)), (245 : Nat), [.inr (.inr (.inl (216 : Nat))), .inl ((0 : Int), (400 : Int), [])], ([], [], [((216 : Nat), (3 : Int), (3 : Int), ((0 : Int), (400 : Int), [((13 : Nat), (0 : Int))]))]), ([((216 : Nat), (2 : Int), (7 : Int))], []), [(.inr none, (245 : Nat), ([], [], [((216 : Nat), (5 : Int), (5 : Int), ck_one (-1))]))])
set_option maxRecDepth 100000 in
theorem pm_s6_s {X : Int → Int} {LX : Nat} : ck_Ok p2_O X LX 75 pm_s6 := ck_okq (cuts := []) (f := 102) ⟨p2_nmu, ck_E1 (ck_S1 pm_s5_s ck_S0) ck_E0⟩ (by decide +kernel)
set_option maxRecDepth 100000 in
/-- GlacierMail$Words.refuse -/
noncomputable def pm_s7 : ck_Sum := (((0 : Nat), (0 : Nat), (0 : Nat)), (245 : Nat), [.inr (.inr (.inl (216 : Nat)))], ([], [], []), ([((216 : Nat), (5 : Int), (5 : Int))], []), [(.inr (some (.inl (ck_one 0))), (245 : Nat), ([], [], [((216 : Nat), (5 : Int), (5 : Int), ((0 : Int), (400 : Int), []))]))])
set_option maxRecDepth 100000 in
theorem pm_s7_s {X : Int → Int} {LX : Nat} : ck_Ok p2_O X LX 93 pm_s7 := ck_okq (cuts := []) (f := 90) ⟨p2_nmu, ck_E0⟩ (by decide +kernel)
set_option maxRecDepth 100000 in
/-- GlacierMail$Words.wrong -/
noncomputable def pm_s8 : ck_Sum := (((0 : Nat), (0 : Nat), (0 : Nat)), (245 : Nat), [.inr (.inr (.inl (216 : Nat)))], ([], [], []), ([], []), [(.inr (some (.inl (ck_one (-1)))), (245 : Nat), ([], [], [((216 : Nat), (5 : Int), (5 : Int), ck_one (-1))])), (.inr (some (.inl ((0 : Int), (400 : Int), []))), (245 : Nat), ([], [], [((216 : Nat), (5 : Int), (5 : Int), ((0 : Int), (400 : Int), []))]))])
set_option maxRecDepth 100000 in
theorem pm_s8_s {X : Int → Int} {LX : Nat} : ck_Ok p2_O X LX 121 pm_s8 := ck_okq (cuts := []) (f := 76) ⟨p2_nmu, ck_E0⟩ (by decide +kernel)
set_option maxRecDepth 100000 in
/-- GlacierMail$Words.isWord -/
noncomputable def pm_s9 : ck_Sum := (((6 : Nat), (0 : Nat), (0 : Nat)), (245 : Nat), [.inr (.inr (.inl (216 : Nat))), .inr (.inr (.inr (0 : Nat)))], ([], [], [((216 : Nat), (3 : Int), (3 : Int), ((0 : Int), (400 : Int), [((13 : Nat), (0 : Int))]))]), ([], []), [(.inr (some (.inl (ck_one 0))), (245 : Nat), ([], [], [])), (.inr (some (.inl (ck_one 1))), (245 : Nat), ([], [], [((216 : Nat), (3 : Int), (3 : Int), ((4 : Int), (400 : Int), [((13 : Nat), (0 : Int))])), ((216 : Nat), (4 : Int), (4 : Int), ((0 : Int), (396 : Int), [])), ((216 : Nat), (6 : Int), (6 : Int), ck_one 257)]))])
set_option maxRecDepth 100000 in
theorem pm_s9_s {X : Int → Int} {LX : Nat} : ck_Ok p2_O X LX 81 pm_s9 := ck_okq (cuts := []) (f := 310) ⟨p2_nmu, ck_E0⟩ (by decide +kernel)
set_option maxRecDepth 100000 in
/-- GlacierMail$Words.isWord -/
noncomputable def pm_s10 : ck_Sum := (((6 : Nat), (0 : Nat), (0 : Nat)), (245 : Nat), [.inr (.inr (.inl (216 : Nat))), .inr (.inr (.inr (1 : Nat)))], ([], [], [((216 : Nat), (3 : Int), (3 : Int), ((0 : Int), (400 : Int), [((13 : Nat), (0 : Int))]))]), ([], []), [(.inr (some (.inl (ck_one 0))), (245 : Nat), ([], [], [])), (.inr (some (.inl (ck_one 1))), (245 : Nat), ([], [], [((216 : Nat), (3 : Int), (3 : Int), ((4 : Int), (400 : Int), [((13 : Nat), (0 : Int))])), ((216 : Nat), (4 : Int), (4 : Int), ((0 : Int), (396 : Int), [])), ((216 : Nat), (6 : Int), (6 : Int), ck_one 257)]))])
set_option maxRecDepth 100000 in
theorem pm_s10_s {X : Int → Int} {LX : Nat} : ck_Ok p2_O X LX 81 pm_s10 := ck_okq (cuts := []) (f := 310) ⟨p2_nmu, ck_E0⟩ (by decide +kernel)
set_option maxRecDepth 100000 in
/-- GlacierMail$Words.isWord -/
noncomputable def pm_s11 : ck_Sum := (((6 : Nat), (0 : Nat), (0 : Nat)), (245 : Nat), [.inr (.inr (.inl (216 : Nat))), .inr (.inr (.inr (2 : Nat)))], ([], [], [((216 : Nat), (3 : Int), (3 : Int), ((0 : Int), (400 : Int), [((13 : Nat), (0 : Int))]))]), ([], []), [(.inr (some (.inl (ck_one 0))), (245 : Nat), ([], [], [])), (.inr (some (.inl (ck_one 1))), (245 : Nat), ([], [], [((216 : Nat), (3 : Int), (3 : Int), ((4 : Int), (400 : Int), [((13 : Nat), (0 : Int))])), ((216 : Nat), (4 : Int), (4 : Int), ((0 : Int), (396 : Int), [])), ((216 : Nat), (6 : Int), (6 : Int), ck_one 257)]))])
set_option maxRecDepth 100000 in
theorem pm_s11_s {X : Int → Int} {LX : Nat} : ck_Ok p2_O X LX 81 pm_s11 := ck_okq (cuts := []) (f := 310) ⟨p2_nmu, ck_E0⟩ (by decide +kernel)
set_option maxRecDepth 100000 in
/-- GlacierMail$LawReader.readKind -/
noncomputable def pm_s12 : ck_Sum := (((7 : Nat), (0 : Nat), (0 : Nat)), (245 : Nat), [.inr (.inr (.inl (215 : Nat)))], ([], [], [((216 : Nat), (3 : Int), (3 : Int), ((0 : Int), (400 : Int), [((13 : Nat), (0 : Int))]))]), ([], []), [(.inr (some (.inl (ck_one (-1)))), (245 : Nat), ([], [], [])), (.inr (some (.inl (ck_one 2))), (245 : Nat), ([], [], [((216 : Nat), (3 : Int), (3 : Int), ((4 : Int), (400 : Int), [((13 : Nat), (0 : Int))])), ((216 : Nat), (4 : Int), (4 : Int), ((0 : Int), (396 : Int), [])), ((216 : Nat), (6 : Int), (6 : Int), ck_one 257)])), (.inr (some (.inl (ck_one 1))), (245 : Nat), ([], [], [((216 : Nat), (3 : Int), (3 : Int), ((4 : Int), (400 : Int), [((13 : Nat), (0 : Int))])), ((216 : Nat), (4 : Int), (4 : Int), ((0 : Int), (396 : Int), [])), ((216 : Nat), (6 : Int), (6 : Int), ck_one 257)])), (.inr (some (.inl (ck_one 0))), (245 : Nat), ([], [], [((216 : Nat), (3 : Int), (3 : Int), ((4 : Int), (400 : Int), [((13 : Nat), (0 : Int))])), ((216 : Nat), (4 : Int), (4 : Int), ((0 : Int), (396 : Int), [])), ((216 : Nat), (6 : Int), (6 : Int), ck_one 257)]))])
set_option maxRecDepth 100000 in
theorem pm_s12_s {X : Int → Int} {LX : Nat} : ck_Ok p2_O X LX 80 pm_s12 := ck_okq (cuts := []) (f := 106) ⟨p2_nmu, ck_E1 (ck_S1 pm_s9_s (ck_S1 pm_s10_s (ck_S1 pm_s11_s ck_S0))) ck_E0⟩ (by decide +kernel)
set_option maxRecDepth 100000 in
/-- GlacierMail$Words.needNumber -/
noncomputable def pm_s13 : ck_Sum := (((2 : Nat), (0 : Nat), (0 : Nat)), (245 : Nat), [.inr (.inr (.inl (216 : Nat))), .inl (ck_one 0), .inl (ck_one 20)], ([], [], [((216 : Nat), (3 : Int), (3 : Int), ((0 : Int), (400 : Int), [((13 : Nat), (0 : Int))]))]), ([((216 : Nat), (3 : Int), (7 : Int))], []), [(.inr (some (.inl (ck_one (-1)))), (245 : Nat), ([], [], [((216 : Nat), (5 : Int), (5 : Int), ((0 : Int), (400 : Int), [])), ((216 : Nat), (3 : Int), (3 : Int), ((0 : Int), (400 : Int), [((13 : Nat), (0 : Int))]))])), (.inr (some (.inl ((0 : Int), (20 : Int), []))), (245 : Nat), ([], [], [((216 : Nat), (3 : Int), (3 : Int), ((0 : Int), (400 : Int), [((1000013 : Nat), (0 : Int))]))]))])
set_option maxRecDepth 100000 in
theorem pm_s13_s {X : Int → Int} {LX : Nat} : ck_Ok p2_O X LX 94 pm_s13 := ck_okq (cuts := []) (f := 106) ⟨p2_nmu, ck_E1 (ck_S1 pm_s7_s ck_S0) (ck_E1 (ck_S1 pm_s5_s ck_S0) ck_E0)⟩ (by decide +kernel)
set_option maxRecDepth 100000 in
/-- GlacierMail$Words.isWord -/
noncomputable def pm_s14 : ck_Sum := (((6 : Nat), (0 : Nat), (0 : Nat)), (245 : Nat), [.inr (.inr (.inl (216 : Nat))), .inr (.inr (.inr (3 : Nat)))], ([], [], [((216 : Nat), (3 : Int), (3 : Int), ((0 : Int), (400 : Int), [((13 : Nat), (0 : Int))]))]), ([], []), [(.inr (some (.inl (ck_one 0))), (245 : Nat), ([], [], [])), (.inr (some (.inl (ck_one 1))), (245 : Nat), ([], [], [((216 : Nat), (3 : Int), (3 : Int), ((2 : Int), (400 : Int), [((13 : Nat), (0 : Int))])), ((216 : Nat), (4 : Int), (4 : Int), ((0 : Int), (398 : Int), [])), ((216 : Nat), (6 : Int), (6 : Int), ck_one 257)]))])
set_option maxRecDepth 100000 in
theorem pm_s14_s {X : Int → Int} {LX : Nat} : ck_Ok p2_O X LX 81 pm_s14 := ck_okq (cuts := []) (f := 210) ⟨p2_nmu, ck_E0⟩ (by decide +kernel)
set_option maxRecDepth 100000 in
/-- GlacierMail$Words.takeWord -/
noncomputable def pm_s15 : ck_Sum := (((7 : Nat), (0 : Nat), (0 : Nat)), (245 : Nat), [.inr (.inr (.inl (216 : Nat))), .inr (.inr (.inr (3 : Nat)))], ([], [], [((216 : Nat), (3 : Int), (3 : Int), ((0 : Int), (400 : Int), [((13 : Nat), (0 : Int))]))]), ([((216 : Nat), (3 : Int), (4 : Int)), ((216 : Nat), (6 : Int), (7 : Int))], []), [(.inr (some (.inl (ck_one 0))), (245 : Nat), ([], [], [((216 : Nat), (3 : Int), (3 : Int), ((0 : Int), (400 : Int), [((13 : Nat), (0 : Int))]))])), (.inr (some (.inl (ck_one 1))), (245 : Nat), ([], [], [((216 : Nat), (3 : Int), (3 : Int), ((2 : Int), (400 : Int), [((1000013 : Nat), (0 : Int))]))]))])
set_option maxRecDepth 100000 in
theorem pm_s15_s {X : Int → Int} {LX : Nat} : ck_Ok p2_O X LX 95 pm_s15 := ck_okq (cuts := []) (f := 90) ⟨p2_nmu, ck_E1 (ck_S1 pm_s14_s ck_S0) (ck_E1 (ck_S1 pm_s5_s ck_S0) ck_E0)⟩ (by decide +kernel)
set_option maxRecDepth 100000 in
/-- GlacierMail$Rows.add -/
noncomputable def pm_s16 : ck_Sum := (((0 : Nat), (0 : Nat), (0 : Nat)), (245 : Nat), [.inr (.inr (.inl (217 : Nat)))], ([], [], []), ([((217 : Nat), (3 : Int), (3 : Int))], []), [(.inr (some (.inl ((0 : Int), (11 : Int), []))), (245 : Nat), ([], [], [((217 : Nat), (3 : Int), (3 : Int), ((1 : Int), (12 : Int), []))])), (.inr (some (.inl (ck_one (-1)))), (245 : Nat), ([], [], [((217 : Nat), (3 : Int), (3 : Int), ck_one 12)]))])
set_option maxRecDepth 100000 in
theorem pm_s16_s {X : Int → Int} {LX : Nat} : ck_Ok p2_O X LX 102 pm_s16 := ck_okq (cuts := []) (f := 102) ⟨p2_nmu, ck_E0⟩ (by decide +kernel)
set_option maxRecDepth 100000 in
/-- GlacierMail$Rows.put -/
noncomputable def pm_s17 : ck_Sum := (((0 : Nat), (0 : Nat), (0 : Nat)), (245 : Nat), [.inr (.inr (.inl (217 : Nat))), .inl ((0 : Int), (11 : Int), []), .inl (ck_one 0), .inl (ck_one 0)], ([], [], []), ([((218 : Nat), (0 : Int), (0 : Int)), ((218 : Nat), (4 : Int), (4 : Int)), ((218 : Nat), (8 : Int), (8 : Int)), ((218 : Nat), (12 : Int), (12 : Int)), ((218 : Nat), (16 : Int), (16 : Int)), ((218 : Nat), (20 : Int), (20 : Int)), ((218 : Nat), (24 : Int), (24 : Int)), ((218 : Nat), (28 : Int), (28 : Int)), ((218 : Nat), (32 : Int), (32 : Int)), ((218 : Nat), (36 : Int), (36 : Int)), ((218 : Nat), (40 : Int), (40 : Int)), ((218 : Nat), (44 : Int), (44 : Int))], []), [(.inr none, (245 : Nat), ([], [], []))])
set_option maxRecDepth 100000 in
theorem pm_s17_s {X : Int → Int} {LX : Nat} : ck_Ok p2_O X LX 45 pm_s17 := ck_okq (cuts := []) (f := 116) ⟨p2_nmu, ck_E0⟩ (by decide +kernel)
set_option maxRecDepth 100000 in
/-- GlacierMail$Rows.put -/
noncomputable def pm_s18 : ck_Sum := (((0 : Nat), (0 : Nat), (0 : Nat)), (245 : Nat), [.inr (.inr (.inl (217 : Nat))), .inl ((0 : Int), (11 : Int), []), .inl (ck_one 1), .inl ((0 : Int), (20 : Int), [])], ([], [], []), ([((218 : Nat), (1 : Int), (1 : Int)), ((218 : Nat), (5 : Int), (5 : Int)), ((218 : Nat), (9 : Int), (9 : Int)), ((218 : Nat), (13 : Int), (13 : Int)), ((218 : Nat), (17 : Int), (17 : Int)), ((218 : Nat), (21 : Int), (21 : Int)), ((218 : Nat), (25 : Int), (25 : Int)), ((218 : Nat), (29 : Int), (29 : Int)), ((218 : Nat), (33 : Int), (33 : Int)), ((218 : Nat), (37 : Int), (37 : Int)), ((218 : Nat), (41 : Int), (41 : Int)), ((218 : Nat), (45 : Int), (45 : Int))], []), [(.inr none, (245 : Nat), ([], [], []))])
set_option maxRecDepth 100000 in
theorem pm_s18_s {X : Int → Int} {LX : Nat} : ck_Ok p2_O X LX 45 pm_s18 := ck_okq (cuts := []) (f := 116) ⟨p2_nmu, ck_E0⟩ (by decide +kernel)
set_option maxRecDepth 100000 in
/-- GlacierMail$Rows.put -/
noncomputable def pm_s19 : ck_Sum := (((0 : Nat), (0 : Nat), (0 : Nat)), (245 : Nat), [.inr (.inr (.inl (217 : Nat))), .inl ((0 : Int), (11 : Int), []), .inl (ck_one 2), .inl ((0 : Int), (400 : Int), [])], ([], [], []), ([((218 : Nat), (2 : Int), (2 : Int)), ((218 : Nat), (6 : Int), (6 : Int)), ((218 : Nat), (10 : Int), (10 : Int)), ((218 : Nat), (14 : Int), (14 : Int)), ((218 : Nat), (18 : Int), (18 : Int)), ((218 : Nat), (22 : Int), (22 : Int)), ((218 : Nat), (26 : Int), (26 : Int)), ((218 : Nat), (30 : Int), (30 : Int)), ((218 : Nat), (34 : Int), (34 : Int)), ((218 : Nat), (38 : Int), (38 : Int)), ((218 : Nat), (42 : Int), (42 : Int)), ((218 : Nat), (46 : Int), (46 : Int))], []), [(.inr none, (245 : Nat), ([], [], []))])
set_option maxRecDepth 100000 in
theorem pm_s19_s {X : Int → Int} {LX : Nat} : ck_Ok p2_O X LX 45 pm_s19 := ck_okq (cuts := []) (f := 116) ⟨p2_nmu, ck_E0⟩ (by decide +kernel)
set_option maxRecDepth 100000 in
/-- GlacierMail$Rows.put -/
noncomputable def pm_s20 : ck_Sum := (((0 : Nat), (0 : Nat), (0 : Nat)), (245 : Nat), [.inr (.inr (.inl (217 : Nat))), .inl ((0 : Int), (11 : Int), []), .inl (ck_one 3), .inl ((0 : Int), (400 : Int), [])], ([], [], []), ([((218 : Nat), (3 : Int), (3 : Int)), ((218 : Nat), (7 : Int), (7 : Int)), ((218 : Nat), (11 : Int), (11 : Int)), ((218 : Nat), (15 : Int), (15 : Int)), ((218 : Nat), (19 : Int), (19 : Int)), ((218 : Nat), (23 : Int), (23 : Int)), ((218 : Nat), (27 : Int), (27 : Int)), ((218 : Nat), (31 : Int), (31 : Int)), ((218 : Nat), (35 : Int), (35 : Int)), ((218 : Nat), (39 : Int), (39 : Int)), ((218 : Nat), (43 : Int), (43 : Int)), ((218 : Nat), (47 : Int), (47 : Int))], []), [(.inr none, (245 : Nat), ([], [], []))])
set_option maxRecDepth 100000 in
theorem pm_s20_s {X : Int → Int} {LX : Nat} : ck_Ok p2_O X LX 45 pm_s20 := ck_okq (cuts := []) (f := 116) ⟨p2_nmu, ck_E0⟩ (by decide +kernel)
set_option maxRecDepth 100000 in
/-- GlacierMail$Rows.put -/
noncomputable def pm_s21 : ck_Sum := (((0 : Nat), (0 : Nat), (0 : Nat)), (245 : Nat), [.inr (.inr (.inl (217 : Nat))), .inl (ck_one (-1)), .inl (ck_one 0), .inl (ck_one 0)], ([], [], []), ([], []), [(.inr none, (245 : Nat), ([], [], []))])
set_option maxRecDepth 100000 in
theorem pm_s21_s {X : Int → Int} {LX : Nat} : ck_Ok p2_O X LX 45 pm_s21 := ck_okq (cuts := []) (f := 76) ⟨p2_nmu, ck_E0⟩ (by decide +kernel)
set_option maxRecDepth 100000 in
/-- GlacierMail$Rows.put -/
noncomputable def pm_s22 : ck_Sum := (((0 : Nat), (0 : Nat), (0 : Nat)), (245 : Nat), [.inr (.inr (.inl (217 : Nat))), .inl (ck_one (-1)), .inl (ck_one 1), .inl ((0 : Int), (20 : Int), [])], ([], [], []), ([], []), [(.inr none, (245 : Nat), ([], [], []))])
set_option maxRecDepth 100000 in
theorem pm_s22_s {X : Int → Int} {LX : Nat} : ck_Ok p2_O X LX 45 pm_s22 := ck_okq (cuts := []) (f := 76) ⟨p2_nmu, ck_E0⟩ (by decide +kernel)
set_option maxRecDepth 100000 in
/-- GlacierMail$Rows.put -/
noncomputable def pm_s23 : ck_Sum := (((0 : Nat), (0 : Nat), (0 : Nat)), (245 : Nat), [.inr (.inr (.inl (217 : Nat))), .inl (ck_one (-1)), .inl (ck_one 2), .inl ((0 : Int), (400 : Int), [])], ([], [], []), ([], []), [(.inr none, (245 : Nat), ([], [], []))])
set_option maxRecDepth 100000 in
theorem pm_s23_s {X : Int → Int} {LX : Nat} : ck_Ok p2_O X LX 45 pm_s23 := ck_okq (cuts := []) (f := 76) ⟨p2_nmu, ck_E0⟩ (by decide +kernel)
set_option maxRecDepth 100000 in
/-- GlacierMail$Rows.put -/
noncomputable def pm_s24 : ck_Sum := (((0 : Nat), (0 : Nat), (0 : Nat)), (245 : Nat), [.inr (.inr (.inl (217 : Nat))), .inl (ck_one (-1)), .inl (ck_one 3), .inl ((0 : Int), (400 : Int), [])], ([], [], []), ([], []), [(.inr none, (245 : Nat), ([], [], []))])
set_option maxRecDepth 100000 in
theorem pm_s24_s {X : Int → Int} {LX : Nat} : ck_Ok p2_O X LX 45 pm_s24 := ck_okq (cuts := []) (f := 76) ⟨p2_nmu, ck_E0⟩ (by decide +kernel)
set_option maxRecDepth 100000 in
/-- GlacierMail$Rows.put -/
noncomputable def pm_s25 : ck_Sum := (((0 : Nat), (0 : Nat), (0 : Nat)), (245 : Nat), [.inr (.inr (.inl (217 : Nat))), .inl ((0 : Int), (11 : Int), []), .inl (ck_one 0), .inl (ck_one 1)], ([], [], []), ([((218 : Nat), (0 : Int), (0 : Int)), ((218 : Nat), (4 : Int), (4 : Int)), ((218 : Nat), (8 : Int), (8 : Int)), ((218 : Nat), (12 : Int), (12 : Int)), ((218 : Nat), (16 : Int), (16 : Int)), ((218 : Nat), (20 : Int), (20 : Int)), ((218 : Nat), (24 : Int), (24 : Int)), ((218 : Nat), (28 : Int), (28 : Int)), ((218 : Nat), (32 : Int), (32 : Int)), ((218 : Nat), (36 : Int), (36 : Int)), ((218 : Nat), (40 : Int), (40 : Int)), ((218 : Nat), (44 : Int), (44 : Int))], []), [(.inr none, (245 : Nat), ([], [], []))])
set_option maxRecDepth 100000 in
theorem pm_s25_s {X : Int → Int} {LX : Nat} : ck_Ok p2_O X LX 45 pm_s25 := ck_okq (cuts := []) (f := 116) ⟨p2_nmu, ck_E0⟩ (by decide +kernel)
set_option maxRecDepth 100000 in
/-- GlacierMail$Rows.put -/
noncomputable def pm_s26 : ck_Sum := (((0 : Nat), (0 : Nat), (0 : Nat)), (245 : Nat), [.inr (.inr (.inl (217 : Nat))), .inl (ck_one (-1)), .inl (ck_one 0), .inl (ck_one 1)], ([], [], []), ([], []), [(.inr none, (245 : Nat), ([], [], []))])
set_option maxRecDepth 100000 in
theorem pm_s26_s {X : Int → Int} {LX : Nat} : ck_Ok p2_O X LX 45 pm_s26 := ck_okq (cuts := []) (f := 76) ⟨p2_nmu, ck_E0⟩ (by decide +kernel)
set_option maxRecDepth 100000 in
/-- GlacierMail$Rows.put -/
noncomputable def pm_s27 : ck_Sum := (((0 : Nat), (0 : Nat), (0 : Nat)), (245 : Nat), [.inr (.inr (.inl (217 : Nat))), .inl ((0 : Int), (11 : Int), []), .inl (ck_one 0), .inl (ck_one 2)], ([], [], []), ([((218 : Nat), (0 : Int), (0 : Int)), ((218 : Nat), (4 : Int), (4 : Int)), ((218 : Nat), (8 : Int), (8 : Int)), ((218 : Nat), (12 : Int), (12 : Int)), ((218 : Nat), (16 : Int), (16 : Int)), ((218 : Nat), (20 : Int), (20 : Int)), ((218 : Nat), (24 : Int), (24 : Int)), ((218 : Nat), (28 : Int), (28 : Int)), ((218 : Nat), (32 : Int), (32 : Int)), ((218 : Nat), (36 : Int), (36 : Int)), ((218 : Nat), (40 : Int), (40 : Int)), ((218 : Nat), (44 : Int), (44 : Int))], []), [(.inr none, (245 : Nat), ([], [], []))])
set_option maxRecDepth 100000 in
theorem pm_s27_s {X : Int → Int} {LX : Nat} : ck_Ok p2_O X LX 45 pm_s27 := ck_okq (cuts := []) (f := 116) ⟨p2_nmu, ck_E0⟩ (by decide +kernel)
set_option maxRecDepth 100000 in
/-- GlacierMail$Rows.put -/
noncomputable def pm_s28 : ck_Sum := (((0 : Nat), (0 : Nat), (0 : Nat)), (245 : Nat), [.inr (.inr (.inl (217 : Nat))), .inl ((0 : Int), (11 : Int), []), .inl (ck_one 1), .inl (ck_one 0)], ([], [], []), ([((218 : Nat), (1 : Int), (1 : Int)), ((218 : Nat), (5 : Int), (5 : Int)), ((218 : Nat), (9 : Int), (9 : Int)), ((218 : Nat), (13 : Int), (13 : Int)), ((218 : Nat), (17 : Int), (17 : Int)), ((218 : Nat), (21 : Int), (21 : Int)), ((218 : Nat), (25 : Int), (25 : Int)), ((218 : Nat), (29 : Int), (29 : Int)), ((218 : Nat), (33 : Int), (33 : Int)), ((218 : Nat), (37 : Int), (37 : Int)), ((218 : Nat), (41 : Int), (41 : Int)), ((218 : Nat), (45 : Int), (45 : Int))], []), [(.inr none, (245 : Nat), ([], [], []))])
set_option maxRecDepth 100000 in
theorem pm_s28_s {X : Int → Int} {LX : Nat} : ck_Ok p2_O X LX 45 pm_s28 := ck_okq (cuts := []) (f := 116) ⟨p2_nmu, ck_E0⟩ (by decide +kernel)
set_option maxRecDepth 100000 in
/-- GlacierMail$Rows.put -/
noncomputable def pm_s29 : ck_Sum := (((0 : Nat), (0 : Nat), (0 : Nat)), (245 : Nat), [.inr (.inr (.inl (217 : Nat))), .inl (ck_one (-1)), .inl (ck_one 0), .inl (ck_one 2)], ([], [], []), ([], []), [(.inr none, (245 : Nat), ([], [], []))])
set_option maxRecDepth 100000 in
theorem pm_s29_s {X : Int → Int} {LX : Nat} : ck_Ok p2_O X LX 45 pm_s29 := ck_okq (cuts := []) (f := 76) ⟨p2_nmu, ck_E0⟩ (by decide +kernel)
set_option maxRecDepth 100000 in
/-- GlacierMail$Rows.put -/
noncomputable def pm_s30 : ck_Sum := (((0 : Nat), (0 : Nat), (0 : Nat)), (245 : Nat), [.inr (.inr (.inl (217 : Nat))), .inl (ck_one (-1)), .inl (ck_one 1), .inl (ck_one 0)], ([], [], []), ([], []), [(.inr none, (245 : Nat), ([], [], []))])
set_option maxRecDepth 100000 in
theorem pm_s30_s {X : Int → Int} {LX : Nat} : ck_Ok p2_O X LX 45 pm_s30 := ck_okq (cuts := []) (f := 76) ⟨p2_nmu, ck_E0⟩ (by decide +kernel)
set_option maxRecDepth 100000 in
/-- GlacierMail$Words.isWord -/
noncomputable def pm_s31 : ck_Sum := (((6 : Nat), (0 : Nat), (0 : Nat)), (245 : Nat), [.inr (.inr (.inl (216 : Nat))), .inr (.inr (.inr (16 : Nat)))], ([], [], [((216 : Nat), (3 : Int), (3 : Int), ((0 : Int), (400 : Int), [((13 : Nat), (0 : Int))]))]), ([], []), [(.inr (some (.inl (ck_one 0))), (245 : Nat), ([], [], [])), (.inr (some (.inl (ck_one 1))), (245 : Nat), ([], [], [((216 : Nat), (3 : Int), (3 : Int), ((2 : Int), (400 : Int), [((13 : Nat), (0 : Int))])), ((216 : Nat), (4 : Int), (4 : Int), ((0 : Int), (398 : Int), [])), ((216 : Nat), (6 : Int), (6 : Int), ck_one 257)]))])
set_option maxRecDepth 100000 in
theorem pm_s31_s {X : Int → Int} {LX : Nat} : ck_Ok p2_O X LX 81 pm_s31 := ck_okq (cuts := []) (f := 210) ⟨p2_nmu, ck_E0⟩ (by decide +kernel)
set_option maxRecDepth 100000 in
/-- GlacierMail$Words.takeWord -/
noncomputable def pm_s32 : ck_Sum := (((7 : Nat), (0 : Nat), (0 : Nat)), (245 : Nat), [.inr (.inr (.inl (216 : Nat))), .inr (.inr (.inr (16 : Nat)))], ([], [], [((216 : Nat), (3 : Int), (3 : Int), ((0 : Int), (400 : Int), [((13 : Nat), (0 : Int))]))]), ([((216 : Nat), (3 : Int), (4 : Int)), ((216 : Nat), (6 : Int), (7 : Int))], []), [(.inr (some (.inl (ck_one 0))), (245 : Nat), ([], [], [((216 : Nat), (3 : Int), (3 : Int), ((0 : Int), (400 : Int), [((13 : Nat), (0 : Int))]))])), (.inr (some (.inl (ck_one 1))), (245 : Nat), ([], [], [((216 : Nat), (3 : Int), (3 : Int), ((2 : Int), (400 : Int), [((1000013 : Nat), (0 : Int))]))]))])
set_option maxRecDepth 100000 in
theorem pm_s32_s {X : Int → Int} {LX : Nat} : ck_Ok p2_O X LX 95 pm_s32 := ck_okq (cuts := []) (f := 90) ⟨p2_nmu, ck_E1 (ck_S1 pm_s31_s ck_S0) (ck_E1 (ck_S1 pm_s5_s ck_S0) ck_E0)⟩ (by decide +kernel)
set_option maxRecDepth 100000 in
/-- GlacierMail$Words.isWord -/
noncomputable def pm_s33 : ck_Sum := (((6 : Nat), (0 : Nat), (0 : Nat)), (245 : Nat), [.inr (.inr (.inl (216 : Nat))), .inr (.inr (.inr (15 : Nat)))], ([], [], [((216 : Nat), (3 : Int), (3 : Int), ((0 : Int), (400 : Int), [((13 : Nat), (0 : Int))]))]), ([], []), [(.inr (some (.inl (ck_one 0))), (245 : Nat), ([], [], [])), (.inr (some (.inl (ck_one 1))), (245 : Nat), ([], [], [((216 : Nat), (3 : Int), (3 : Int), ((3 : Int), (400 : Int), [((13 : Nat), (0 : Int))])), ((216 : Nat), (4 : Int), (4 : Int), ((0 : Int), (397 : Int), [])), ((216 : Nat), (6 : Int), (6 : Int), ck_one 257)]))])
set_option maxRecDepth 100000 in
theorem pm_s33_s {X : Int → Int} {LX : Nat} : ck_Ok p2_O X LX 81 pm_s33 := ck_okq (cuts := []) (f := 260) ⟨p2_nmu, ck_E0⟩ (by decide +kernel)
set_option maxRecDepth 100000 in
/-- GlacierMail$Words.takeWord -/
noncomputable def pm_s34 : ck_Sum := (((7 : Nat), (0 : Nat), (0 : Nat)), (245 : Nat), [.inr (.inr (.inl (216 : Nat))), .inr (.inr (.inr (15 : Nat)))], ([], [], [((216 : Nat), (3 : Int), (3 : Int), ((0 : Int), (400 : Int), [((13 : Nat), (0 : Int))]))]), ([((216 : Nat), (3 : Int), (4 : Int)), ((216 : Nat), (6 : Int), (7 : Int))], []), [(.inr (some (.inl (ck_one 0))), (245 : Nat), ([], [], [((216 : Nat), (3 : Int), (3 : Int), ((0 : Int), (400 : Int), [((13 : Nat), (0 : Int))]))])), (.inr (some (.inl (ck_one 1))), (245 : Nat), ([], [], [((216 : Nat), (3 : Int), (3 : Int), ((3 : Int), (400 : Int), [((1000013 : Nat), (0 : Int))]))]))])
set_option maxRecDepth 100000 in
theorem pm_s34_s {X : Int → Int} {LX : Nat} : ck_Ok p2_O X LX 95 pm_s34 := ck_okq (cuts := []) (f := 90) ⟨p2_nmu, ck_E1 (ck_S1 pm_s33_s ck_S0) (ck_E1 (ck_S1 pm_s5_s ck_S0) ck_E0)⟩ (by decide +kernel)
set_option maxRecDepth 100000 in
/-- GlacierMail$LawReader.put -/
noncomputable def pm_s35 : ck_Sum := (((0 : Nat), (0 : Nat), (0 : Nat)), (245 : Nat), [.inr (.inr (.inl (215 : Nat))), .inl (ck_one (-17))], ([], [], []), ([((215 : Nat), (4 : Int), (4 : Int)), ((219 : Nat), (0 : Int), (399 : Int))], []), [(.inr none, (245 : Nat), ([], [], [((215 : Nat), (4 : Int), (4 : Int), ((1 : Int), (400 : Int), []))]))])
set_option maxRecDepth 100000 in
theorem pm_s35_s {X : Int → Int} {LX : Nat} : ck_Ok p2_O X LX 99 pm_s35 := ck_okq (cuts := []) (f := 108) ⟨p2_nmu, ck_E0⟩ (by decide +kernel)
set_option maxRecDepth 100000 in
/-- GlacierMail$LawReader.put -/
noncomputable def pm_s36 : ck_Sum := (((0 : Nat), (0 : Nat), (0 : Nat)), (245 : Nat), [.inr (.inr (.inl (215 : Nat))), .inl (ck_one (-16))], ([], [], []), ([((215 : Nat), (4 : Int), (4 : Int)), ((219 : Nat), (0 : Int), (399 : Int))], []), [(.inr none, (245 : Nat), ([], [], [((215 : Nat), (4 : Int), (4 : Int), ((1 : Int), (400 : Int), []))]))])
set_option maxRecDepth 100000 in
theorem pm_s36_s {X : Int → Int} {LX : Nat} : ck_Ok p2_O X LX 99 pm_s36 := ck_okq (cuts := []) (f := 108) ⟨p2_nmu, ck_E0⟩ (by decide +kernel)
set_option maxRecDepth 100000 in
/-- GlacierMail$Words.isWord -/
noncomputable def pm_s37 : ck_Sum := (((6 : Nat), (0 : Nat), (0 : Nat)), (245 : Nat), [.inr (.inr (.inl (216 : Nat))), .inr (.inr (.inr (4 : Nat)))], ([], [], [((216 : Nat), (3 : Int), (3 : Int), ((0 : Int), (400 : Int), [((13 : Nat), (0 : Int))]))]), ([], []), [(.inr (some (.inl (ck_one 0))), (245 : Nat), ([], [], [])), (.inr (some (.inl (ck_one 1))), (245 : Nat), ([], [], [((216 : Nat), (3 : Int), (3 : Int), ((3 : Int), (400 : Int), [((13 : Nat), (0 : Int))])), ((216 : Nat), (4 : Int), (4 : Int), ((0 : Int), (397 : Int), [])), ((216 : Nat), (6 : Int), (6 : Int), ck_one 257)]))])
set_option maxRecDepth 100000 in
theorem pm_s37_s {X : Int → Int} {LX : Nat} : ck_Ok p2_O X LX 81 pm_s37 := ck_okq (cuts := []) (f := 260) ⟨p2_nmu, ck_E0⟩ (by decide +kernel)
set_option maxRecDepth 100000 in
/-- GlacierMail$Words.isWord -/
noncomputable def pm_s38 : ck_Sum := (((6 : Nat), (0 : Nat), (0 : Nat)), (245 : Nat), [.inr (.inr (.inl (216 : Nat))), .inr (.inr (.inr (5 : Nat)))], ([], [], [((216 : Nat), (3 : Int), (3 : Int), ((0 : Int), (400 : Int), [((13 : Nat), (0 : Int))]))]), ([], []), [(.inr (some (.inl (ck_one 0))), (245 : Nat), ([], [], [])), (.inr (some (.inl (ck_one 1))), (245 : Nat), ([], [], [((216 : Nat), (3 : Int), (3 : Int), ((4 : Int), (400 : Int), [((13 : Nat), (0 : Int))])), ((216 : Nat), (4 : Int), (4 : Int), ((0 : Int), (396 : Int), [])), ((216 : Nat), (6 : Int), (6 : Int), ck_one 257)]))])
set_option maxRecDepth 100000 in
theorem pm_s38_s {X : Int → Int} {LX : Nat} : ck_Ok p2_O X LX 81 pm_s38 := ck_okq (cuts := []) (f := 310) ⟨p2_nmu, ck_E0⟩ (by decide +kernel)
set_option maxRecDepth 100000 in
/-- GlacierMail$Words.takeWord -/
noncomputable def pm_s39 : ck_Sum := (((7 : Nat), (0 : Nat), (0 : Nat)), (245 : Nat), [.inr (.inr (.inl (216 : Nat))), .inr (.inr (.inr (5 : Nat)))], ([], [], [((216 : Nat), (3 : Int), (3 : Int), ((0 : Int), (400 : Int), [((13 : Nat), (0 : Int))]))]), ([((216 : Nat), (3 : Int), (4 : Int)), ((216 : Nat), (6 : Int), (7 : Int))], []), [(.inr (some (.inl (ck_one 0))), (245 : Nat), ([], [], [((216 : Nat), (3 : Int), (3 : Int), ((0 : Int), (400 : Int), [((13 : Nat), (0 : Int))]))])), (.inr (some (.inl (ck_one 1))), (245 : Nat), ([], [], [((216 : Nat), (3 : Int), (3 : Int), ((4 : Int), (400 : Int), [((1000013 : Nat), (0 : Int))]))]))])
set_option maxRecDepth 100000 in
theorem pm_s39_s {X : Int → Int} {LX : Nat} : ck_Ok p2_O X LX 95 pm_s39 := ck_okq (cuts := []) (f := 90) ⟨p2_nmu, ck_E1 (ck_S1 pm_s38_s ck_S0) (ck_E1 (ck_S1 pm_s5_s ck_S0) ck_E0)⟩ (by decide +kernel)
set_option maxRecDepth 100000 in
/-- GlacierMail$Words.isWord -/
noncomputable def pm_s40 : ck_Sum := (((6 : Nat), (0 : Nat), (0 : Nat)), (245 : Nat), [.inr (.inr (.inl (216 : Nat))), .inr (.inr (.inr (6 : Nat)))], ([], [], [((216 : Nat), (3 : Int), (3 : Int), ((0 : Int), (400 : Int), [((13 : Nat), (0 : Int))]))]), ([], []), [(.inr (some (.inl (ck_one 0))), (245 : Nat), ([], [], [])), (.inr (some (.inl (ck_one 1))), (245 : Nat), ([], [], [((216 : Nat), (3 : Int), (3 : Int), ((5 : Int), (400 : Int), [((13 : Nat), (0 : Int))])), ((216 : Nat), (4 : Int), (4 : Int), ((0 : Int), (395 : Int), [])), ((216 : Nat), (6 : Int), (6 : Int), ck_one 257)]))])
set_option maxRecDepth 100000 in
theorem pm_s40_s {X : Int → Int} {LX : Nat} : ck_Ok p2_O X LX 81 pm_s40 := ck_okq (cuts := []) (f := 360) ⟨p2_nmu, ck_E0⟩ (by decide +kernel)
set_option maxRecDepth 100000 in
/-- GlacierMail$Words.takeWord -/
noncomputable def pm_s41 : ck_Sum := (((7 : Nat), (0 : Nat), (0 : Nat)), (245 : Nat), [.inr (.inr (.inl (216 : Nat))), .inr (.inr (.inr (6 : Nat)))], ([], [], [((216 : Nat), (3 : Int), (3 : Int), ((0 : Int), (400 : Int), [((13 : Nat), (0 : Int))]))]), ([((216 : Nat), (3 : Int), (4 : Int)), ((216 : Nat), (6 : Int), (7 : Int))], []), [(.inr (some (.inl (ck_one 0))), (245 : Nat), ([], [], [((216 : Nat), (3 : Int), (3 : Int), ((0 : Int), (400 : Int), [((13 : Nat), (0 : Int))]))])), (.inr (some (.inl (ck_one 1))), (245 : Nat), ([], [], [((216 : Nat), (3 : Int), (3 : Int), ((5 : Int), (400 : Int), [((1000013 : Nat), (0 : Int))]))]))])
set_option maxRecDepth 100000 in
theorem pm_s41_s {X : Int → Int} {LX : Nat} : ck_Ok p2_O X LX 95 pm_s41 := ck_okq (cuts := []) (f := 90) ⟨p2_nmu, ck_E1 (ck_S1 pm_s40_s ck_S0) (ck_E1 (ck_S1 pm_s5_s ck_S0) ck_E0)⟩ (by decide +kernel)
set_option maxRecDepth 100000 in
/-- GlacierMail$Words.isWord -/
noncomputable def pm_s42 : ck_Sum := (((6 : Nat), (0 : Nat), (0 : Nat)), (245 : Nat), [.inr (.inr (.inl (216 : Nat))), .inr (.inr (.inr (7 : Nat)))], ([], [], [((216 : Nat), (3 : Int), (3 : Int), ((0 : Int), (400 : Int), [((13 : Nat), (0 : Int))]))]), ([], []), [(.inr (some (.inl (ck_one 0))), (245 : Nat), ([], [], [])), (.inr (some (.inl (ck_one 1))), (245 : Nat), ([], [], [((216 : Nat), (3 : Int), (3 : Int), ((4 : Int), (400 : Int), [((13 : Nat), (0 : Int))])), ((216 : Nat), (4 : Int), (4 : Int), ((0 : Int), (396 : Int), [])), ((216 : Nat), (6 : Int), (6 : Int), ck_one 257)]))])
set_option maxRecDepth 100000 in
theorem pm_s42_s {X : Int → Int} {LX : Nat} : ck_Ok p2_O X LX 81 pm_s42 := ck_okq (cuts := []) (f := 310) ⟨p2_nmu, ck_E0⟩ (by decide +kernel)
set_option maxRecDepth 100000 in
/-- GlacierMail$Words.isWord -/
noncomputable def pm_s43 : ck_Sum := (((6 : Nat), (0 : Nat), (0 : Nat)), (245 : Nat), [.inr (.inr (.inl (216 : Nat))), .inr (.inr (.inr (8 : Nat)))], ([], [], [((216 : Nat), (3 : Int), (3 : Int), ((0 : Int), (400 : Int), [((13 : Nat), (0 : Int))]))]), ([], []), [(.inr (some (.inl (ck_one 0))), (245 : Nat), ([], [], [])), (.inr (some (.inl (ck_one 1))), (245 : Nat), ([], [], [((216 : Nat), (3 : Int), (3 : Int), ((3 : Int), (400 : Int), [((13 : Nat), (0 : Int))])), ((216 : Nat), (4 : Int), (4 : Int), ((0 : Int), (397 : Int), [])), ((216 : Nat), (6 : Int), (6 : Int), ck_one 257)]))])
set_option maxRecDepth 100000 in
theorem pm_s43_s {X : Int → Int} {LX : Nat} : ck_Ok p2_O X LX 81 pm_s43 := ck_okq (cuts := []) (f := 260) ⟨p2_nmu, ck_E0⟩ (by decide +kernel)
set_option maxRecDepth 100000 in
/-- GlacierMail$Words.isWord -/
noncomputable def pm_s44 : ck_Sum := (((6 : Nat), (0 : Nat), (0 : Nat)), (245 : Nat), [.inr (.inr (.inl (216 : Nat))), .inr (.inr (.inr (9 : Nat)))], ([], [], [((216 : Nat), (3 : Int), (3 : Int), ((0 : Int), (400 : Int), [((13 : Nat), (0 : Int))]))]), ([], []), [(.inr (some (.inl (ck_one 0))), (245 : Nat), ([], [], [])), (.inr (some (.inl (ck_one 1))), (245 : Nat), ([], [], [((216 : Nat), (3 : Int), (3 : Int), ((4 : Int), (400 : Int), [((13 : Nat), (0 : Int))])), ((216 : Nat), (4 : Int), (4 : Int), ((0 : Int), (396 : Int), [])), ((216 : Nat), (6 : Int), (6 : Int), ck_one 257)]))])
set_option maxRecDepth 100000 in
theorem pm_s44_s {X : Int → Int} {LX : Nat} : ck_Ok p2_O X LX 81 pm_s44 := ck_okq (cuts := []) (f := 310) ⟨p2_nmu, ck_E0⟩ (by decide +kernel)
set_option maxRecDepth 100000 in
/-- GlacierMail$Words.isWord -/
noncomputable def pm_s45 : ck_Sum := (((6 : Nat), (0 : Nat), (0 : Nat)), (245 : Nat), [.inr (.inr (.inl (216 : Nat))), .inr (.inr (.inr (10 : Nat)))], ([], [], [((216 : Nat), (3 : Int), (3 : Int), ((0 : Int), (400 : Int), [((13 : Nat), (0 : Int))]))]), ([], []), [(.inr (some (.inl (ck_one 0))), (245 : Nat), ([], [], [])), (.inr (some (.inl (ck_one 1))), (245 : Nat), ([], [], [((216 : Nat), (3 : Int), (3 : Int), ((4 : Int), (400 : Int), [((13 : Nat), (0 : Int))])), ((216 : Nat), (4 : Int), (4 : Int), ((0 : Int), (396 : Int), [])), ((216 : Nat), (6 : Int), (6 : Int), ck_one 257)]))])
set_option maxRecDepth 100000 in
theorem pm_s45_s {X : Int → Int} {LX : Nat} : ck_Ok p2_O X LX 81 pm_s45 := ck_okq (cuts := []) (f := 310) ⟨p2_nmu, ck_E0⟩ (by decide +kernel)
set_option maxRecDepth 100000 in
/-- GlacierMail$Words.isWord -/
noncomputable def pm_s46 : ck_Sum := (((6 : Nat), (0 : Nat), (0 : Nat)), (245 : Nat), [.inr (.inr (.inl (216 : Nat))), .inr (.inr (.inr (11 : Nat)))], ([], [], [((216 : Nat), (3 : Int), (3 : Int), ((0 : Int), (400 : Int), [((13 : Nat), (0 : Int))]))]), ([], []), [(.inr (some (.inl (ck_one 0))), (245 : Nat), ([], [], [])), (.inr (some (.inl (ck_one 1))), (245 : Nat), ([], [], [((216 : Nat), (3 : Int), (3 : Int), ((5 : Int), (400 : Int), [((13 : Nat), (0 : Int))])), ((216 : Nat), (4 : Int), (4 : Int), ((0 : Int), (395 : Int), [])), ((216 : Nat), (6 : Int), (6 : Int), ck_one 257)]))])
set_option maxRecDepth 100000 in
theorem pm_s46_s {X : Int → Int} {LX : Nat} : ck_Ok p2_O X LX 81 pm_s46 := ck_okq (cuts := []) (f := 360) ⟨p2_nmu, ck_E0⟩ (by decide +kernel)
set_option maxRecDepth 100000 in
/-- GlacierMail$Words.isWord -/
noncomputable def pm_s47 : ck_Sum := (((6 : Nat), (0 : Nat), (0 : Nat)), (245 : Nat), [.inr (.inr (.inl (216 : Nat))), .inr (.inr (.inr (12 : Nat)))], ([], [], [((216 : Nat), (3 : Int), (3 : Int), ((0 : Int), (400 : Int), [((13 : Nat), (0 : Int))]))]), ([], []), [(.inr (some (.inl (ck_one 0))), (245 : Nat), ([], [], [])), (.inr (some (.inl (ck_one 1))), (245 : Nat), ([], [], [((216 : Nat), (3 : Int), (3 : Int), ((6 : Int), (400 : Int), [((13 : Nat), (0 : Int))])), ((216 : Nat), (4 : Int), (4 : Int), ((0 : Int), (394 : Int), [])), ((216 : Nat), (6 : Int), (6 : Int), ck_one 257)]))])
set_option maxRecDepth 100000 in
theorem pm_s47_s {X : Int → Int} {LX : Nat} : ck_Ok p2_O X LX 81 pm_s47 := ck_okq (cuts := []) (f := 410) ⟨p2_nmu, ck_E0⟩ (by decide +kernel)
set_option maxRecDepth 100000 in
/-- GlacierMail$Words.isWord -/
noncomputable def pm_s48 : ck_Sum := (((6 : Nat), (0 : Nat), (0 : Nat)), (245 : Nat), [.inr (.inr (.inl (216 : Nat))), .inr (.inr (.inr (13 : Nat)))], ([], [], [((216 : Nat), (3 : Int), (3 : Int), ((0 : Int), (400 : Int), [((13 : Nat), (0 : Int))]))]), ([], []), [(.inr (some (.inl (ck_one 0))), (245 : Nat), ([], [], [])), (.inr (some (.inl (ck_one 1))), (245 : Nat), ([], [], [((216 : Nat), (3 : Int), (3 : Int), ((3 : Int), (400 : Int), [((13 : Nat), (0 : Int))])), ((216 : Nat), (4 : Int), (4 : Int), ((0 : Int), (397 : Int), [])), ((216 : Nat), (6 : Int), (6 : Int), ck_one 257)]))])
set_option maxRecDepth 100000 in
theorem pm_s48_s {X : Int → Int} {LX : Nat} : ck_Ok p2_O X LX 81 pm_s48 := ck_okq (cuts := []) (f := 260) ⟨p2_nmu, ck_E0⟩ (by decide +kernel)
set_option maxRecDepth 100000 in
/-- GlacierMail$Words.isWord -/
noncomputable def pm_s49 : ck_Sum := (((6 : Nat), (0 : Nat), (0 : Nat)), (245 : Nat), [.inr (.inr (.inl (216 : Nat))), .inr (.inr (.inr (14 : Nat)))], ([], [], [((216 : Nat), (3 : Int), (3 : Int), ((0 : Int), (400 : Int), [((13 : Nat), (0 : Int))]))]), ([], []), [(.inr (some (.inl (ck_one 0))), (245 : Nat), ([], [], [])), (.inr (some (.inl (ck_one 1))), (245 : Nat), ([], [], [((216 : Nat), (3 : Int), (3 : Int), ((4 : Int), (400 : Int), [((13 : Nat), (0 : Int))])), ((216 : Nat), (4 : Int), (4 : Int), ((0 : Int), (396 : Int), [])), ((216 : Nat), (6 : Int), (6 : Int), ck_one 257)]))])
set_option maxRecDepth 100000 in
theorem pm_s49_s {X : Int → Int} {LX : Nat} : ck_Ok p2_O X LX 81 pm_s49 := ck_okq (cuts := []) (f := 310) ⟨p2_nmu, ck_E0⟩ (by decide +kernel)
set_option maxRecDepth 100000 in
/-- GlacierMail$LawReader.factCode -/
noncomputable def pm_s50 : ck_Sum := (((7 : Nat), (0 : Nat), (0 : Nat)), (245 : Nat), [.inr (.inr (.inl (215 : Nat)))], ([], [], [((216 : Nat), (3 : Int), (3 : Int), ((0 : Int), (400 : Int), [((13 : Nat), (0 : Int))]))]), ([], []), [(.inr (some (.inl ((-9 : Int), (-1 : Int), []))), (245 : Nat), ([], [], []))])
set_option maxRecDepth 100000 in
theorem pm_s50_s {X : Int → Int} {LX : Nat} : ck_Ok p2_O X LX 101 pm_s50 := ck_okq (cuts := []) (f := 156) ⟨p2_nmu, ck_E1 (ck_S1 pm_s42_s (ck_S1 pm_s43_s (ck_S1 pm_s44_s (ck_S1 pm_s45_s (ck_S1 pm_s46_s (ck_S1 pm_s47_s (ck_S1 pm_s48_s (ck_S1 pm_s49_s ck_S0)))))))) ck_E0⟩ (by decide +kernel)
set_option maxRecDepth 100000 in
/-- GlacierMail$LawReader.put -/
noncomputable def pm_s51 : ck_Sum := (((0 : Nat), (0 : Nat), (0 : Nat)), (245 : Nat), [.inr (.inr (.inl (215 : Nat))), .inl ((-9 : Int), (-2 : Int), [])], ([], [], []), ([((215 : Nat), (4 : Int), (4 : Int)), ((219 : Nat), (0 : Int), (399 : Int))], []), [(.inr none, (245 : Nat), ([], [], [((215 : Nat), (4 : Int), (4 : Int), ((1 : Int), (400 : Int), []))]))])
set_option maxRecDepth 100000 in
theorem pm_s51_s {X : Int → Int} {LX : Nat} : ck_Ok p2_O X LX 99 pm_s51 := ck_okq (cuts := []) (f := 108) ⟨p2_nmu, ck_E0⟩ (by decide +kernel)
set_option maxRecDepth 100000 in
/-- GlacierMail$LawReader.put -/
noncomputable def pm_s52 : ck_Sum := (((0 : Nat), (0 : Nat), (0 : Nat)), (245 : Nat), [.inr (.inr (.inl (215 : Nat))), .inl ((-2147483648 : Int), (2147483647 : Int), [])], ([], [], []), ([((215 : Nat), (4 : Int), (4 : Int)), ((219 : Nat), (0 : Int), (399 : Int))], []), [(.inr none, (245 : Nat), ([], [], [((215 : Nat), (4 : Int), (4 : Int), ((1 : Int), (400 : Int), []))]))])
set_option maxRecDepth 100000 in
theorem pm_s52_s {X : Int → Int} {LX : Nat} : ck_Ok p2_O X LX 99 pm_s52 := ck_okq (cuts := []) (f := 108) ⟨p2_nmu, ck_E0⟩ (by decide +kernel)
set_option maxRecDepth 100000 in
/-- GlacierMail$LawReader.readSum -/
noncomputable def pm_s53 : ck_Sum := (((8 : Nat), (0 : Nat), (0 : Nat)), (245 : Nat), [.inr (.inr (.inl (215 : Nat)))], ([], [], [((216 : Nat), (3 : Int), (3 : Int), ((0 : Int), (400 : Int), [((13 : Nat), (0 : Int))]))]), ([((215 : Nat), (4 : Int), (4 : Int)), ((216 : Nat), (3 : Int), (7 : Int)), ((219 : Nat), (0 : Int), (399 : Int))], []), [(.inr (some (.inl (ck_one 0))), (245 : Nat), ([], [], [((216 : Nat), (5 : Int), (5 : Int), ((0 : Int), (400 : Int), [])), ((216 : Nat), (3 : Int), (3 : Int), ((0 : Int), (400 : Int), [((1000013 : Nat), (0 : Int))]))])), (.inr (some (.inl (ck_one 1))), (245 : Nat), ([], [], [((216 : Nat), (3 : Int), (3 : Int), ((0 : Int), (400 : Int), [((1000013 : Nat), (0 : Int))])), ((215 : Nat), (4 : Int), (4 : Int), ((1 : Int), (400 : Int), []))]))])
set_option maxRecDepth 100000 in
theorem pm_s53_s {X : Int → Int} {LX : Nat} : ck_Ok p2_O X LX 100 pm_s53 := ck_okq (cuts := [((2 : Nat), [some (.inr (.inr (.inl (215 : Nat)))), some (.inl ((0 : Int), (400 : Int), [])), none], ([], [], [((216 : Nat), (3 : Int), (3 : Int), ((0 : Int), (400 : Int), [((1000013 : Nat), (0 : Int))]))]), (100 : Nat), .inl (1 : Nat), true)]) (f := 222) ⟨p2_nmu, ck_E1 (ck_S1 pm_s7_s ck_S0) (ck_E1 (ck_S1 pm_s50_s ck_S0) (ck_E1 (ck_S1 pm_s51_s (ck_S1 pm_s52_s ck_S0)) (ck_E1 (ck_S1 pm_s5_s ck_S0) ck_E0)))⟩ (by decide +kernel)
set_option maxRecDepth 100000 in
/-- GlacierMail$LawReader.put -/
noncomputable def pm_s54 : ck_Sum := (((0 : Nat), (0 : Nat), (0 : Nat)), (245 : Nat), [.inr (.inr (.inl (215 : Nat))), .inl (ck_one (-12))], ([], [], []), ([((215 : Nat), (4 : Int), (4 : Int)), ((219 : Nat), (0 : Int), (399 : Int))], []), [(.inr none, (245 : Nat), ([], [], [((215 : Nat), (4 : Int), (4 : Int), ((1 : Int), (400 : Int), []))]))])
set_option maxRecDepth 100000 in
theorem pm_s54_s {X : Int → Int} {LX : Nat} : ck_Ok p2_O X LX 99 pm_s54 := ck_okq (cuts := []) (f := 108) ⟨p2_nmu, ck_E0⟩ (by decide +kernel)
set_option maxRecDepth 100000 in
/-- GlacierMail$LawReader.put -/
noncomputable def pm_s55 : ck_Sum := (((0 : Nat), (0 : Nat), (0 : Nat)), (245 : Nat), [.inr (.inr (.inl (215 : Nat))), .inl (ck_one (-13))], ([], [], []), ([((215 : Nat), (4 : Int), (4 : Int)), ((219 : Nat), (0 : Int), (399 : Int))], []), [(.inr none, (245 : Nat), ([], [], [((215 : Nat), (4 : Int), (4 : Int), ((1 : Int), (400 : Int), []))]))])
set_option maxRecDepth 100000 in
theorem pm_s55_s {X : Int → Int} {LX : Nat} : ck_Ok p2_O X LX 99 pm_s55 := ck_okq (cuts := []) (f := 108) ⟨p2_nmu, ck_E0⟩ (by decide +kernel)
set_option maxRecDepth 100000 in
/-- GlacierMail$LawReader.put -/
noncomputable def pm_s56 : ck_Sum := (((0 : Nat), (0 : Nat), (0 : Nat)), (245 : Nat), [.inr (.inr (.inl (215 : Nat))), .inl (ck_one (-14))], ([], [], []), ([((215 : Nat), (4 : Int), (4 : Int)), ((219 : Nat), (0 : Int), (399 : Int))], []), [(.inr none, (245 : Nat), ([], [], [((215 : Nat), (4 : Int), (4 : Int), ((1 : Int), (400 : Int), []))]))])
set_option maxRecDepth 100000 in
theorem pm_s56_s {X : Int → Int} {LX : Nat} : ck_Ok p2_O X LX 99 pm_s56 := ck_okq (cuts := []) (f := 108) ⟨p2_nmu, ck_E0⟩ (by decide +kernel)
set_option maxRecDepth 100000 in
/-- GlacierMail$LawReader.put -/
noncomputable def pm_s57 : ck_Sum := (((0 : Nat), (0 : Nat), (0 : Nat)), (245 : Nat), [.inr (.inr (.inl (215 : Nat))), .inl (ck_one (-11))], ([], [], []), ([((215 : Nat), (4 : Int), (4 : Int)), ((219 : Nat), (0 : Int), (399 : Int))], []), [(.inr none, (245 : Nat), ([], [], [((215 : Nat), (4 : Int), (4 : Int), ((1 : Int), (400 : Int), []))]))])
set_option maxRecDepth 100000 in
theorem pm_s57_s {X : Int → Int} {LX : Nat} : ck_Ok p2_O X LX 99 pm_s57 := ck_okq (cuts := []) (f := 108) ⟨p2_nmu, ck_E0⟩ (by decide +kernel)
set_option maxRecDepth 100000 in
/-- GlacierMail$LawReader.put -/
noncomputable def pm_s58 : ck_Sum := (((0 : Nat), (0 : Nat), (0 : Nat)), (245 : Nat), [.inr (.inr (.inl (215 : Nat))), .inl (ck_one (-10))], ([], [], []), ([((215 : Nat), (4 : Int), (4 : Int)), ((219 : Nat), (0 : Int), (399 : Int))], []), [(.inr none, (245 : Nat), ([], [], [((215 : Nat), (4 : Int), (4 : Int), ((1 : Int), (400 : Int), []))]))])
set_option maxRecDepth 100000 in
theorem pm_s58_s {X : Int → Int} {LX : Nat} : ck_Ok p2_O X LX 99 pm_s58 := ck_okq (cuts := []) (f := 108) ⟨p2_nmu, ck_E0⟩ (by decide +kernel)
set_option maxRecDepth 100000 in
/-- GlacierMail$LawReader.put -/
noncomputable def pm_s59 : ck_Sum := (((0 : Nat), (0 : Nat), (0 : Nat)), (245 : Nat), [.inr (.inr (.inl (215 : Nat))), .inl (ck_one (-15))], ([], [], []), ([((215 : Nat), (4 : Int), (4 : Int)), ((219 : Nat), (0 : Int), (399 : Int))], []), [(.inr none, (245 : Nat), ([], [], [((215 : Nat), (4 : Int), (4 : Int), ((1 : Int), (400 : Int), []))]))])
set_option maxRecDepth 100000 in
theorem pm_s59_s {X : Int → Int} {LX : Nat} : ck_Ok p2_O X LX 99 pm_s59 := ck_okq (cuts := []) (f := 108) ⟨p2_nmu, ck_E0⟩ (by decide +kernel)
set_option maxRecDepth 100000 in
/-- GlacierMail$LawReader.readAtom -/
noncomputable def pm_s60 : ck_Sum := (((9 : Nat), (0 : Nat), (0 : Nat)), (245 : Nat), [.inr (.inr (.inl (215 : Nat))), .inl (ck_one 6)], ([], [], [((216 : Nat), (3 : Int), (3 : Int), ((0 : Int), (400 : Int), [((13 : Nat), (0 : Int))]))]), ([((215 : Nat), (4 : Int), (4 : Int)), ((216 : Nat), (3 : Int), (7 : Int)), ((219 : Nat), (0 : Int), (399 : Int))], []), [(.inr (some (.inl (ck_one 0))), (245 : Nat), ([], [], [((216 : Nat), (5 : Int), (5 : Int), ((0 : Int), (400 : Int), [])), ((216 : Nat), (3 : Int), (3 : Int), ((0 : Int), (400 : Int), [((1000013 : Nat), (0 : Int))]))])), (.inr (some (.inl (ck_one 1))), (245 : Nat), ([], [], [((215 : Nat), (4 : Int), (4 : Int), ((1 : Int), (400 : Int), [])), ((216 : Nat), (3 : Int), (3 : Int), ((0 : Int), (400 : Int), [((1000013 : Nat), (0 : Int))]))]))])
set_option maxRecDepth 100000 in
theorem pm_s60_s {X : Int → Int} {LX : Nat} : ck_Ok p2_O X LX 97 pm_s60 := ck_okq (cuts := []) (f := 174) ⟨p2_nmu, ck_E1 (ck_S1 pm_s37_s ck_S0) (ck_E1 (ck_S1 pm_s39_s (ck_S1 pm_s41_s ck_S0)) (ck_E1 (ck_S1 pm_s53_s ck_S0) (ck_E1 (ck_S1 pm_s5_s ck_S0) (ck_E1 (ck_S1 pm_s54_s (ck_S1 pm_s55_s (ck_S1 pm_s56_s (ck_S1 pm_s57_s (ck_S1 pm_s58_s ck_S0))))) (ck_E1 (ck_S1 pm_s7_s ck_S0) ck_E0)))))⟩ (by decide +kernel)
set_option maxRecDepth 100000 in
/-- GlacierMail$LawReader.readCondition -/
noncomputable def pm_s61 : ck_Sum := (((10 : Nat), (0 : Nat), (0 : Nat)), (245 : Nat), [.inr (.inr (.inl (215 : Nat))), .inl (ck_one 6)], ([], [], [((216 : Nat), (3 : Int), (3 : Int), ((0 : Int), (400 : Int), [((13 : Nat), (0 : Int))]))]), ([((215 : Nat), (4 : Int), (4 : Int)), ((216 : Nat), (3 : Int), (7 : Int)), ((219 : Nat), (0 : Int), (399 : Int))], []), [(.inr (some (.inl (ck_one 0))), (245 : Nat), ([], [], [((216 : Nat), (5 : Int), (5 : Int), ((0 : Int), (400 : Int), [])), ((216 : Nat), (3 : Int), (3 : Int), ((0 : Int), (400 : Int), [((1000013 : Nat), (0 : Int))]))])), (.inr (some (.inl (ck_one 1))), (245 : Nat), ([], [], [((216 : Nat), (3 : Int), (3 : Int), ((0 : Int), (400 : Int), [((1000013 : Nat), (0 : Int))]))]))])
set_option maxRecDepth 100000 in
theorem pm_s61_s {X : Int → Int} {LX : Nat} : ck_Ok p2_O X LX 96 pm_s61 := ck_okq (cuts := [((2 : Nat), [some (.inr (.inr (.inl (215 : Nat)))), some (.inl (ck_one 6)), some (.inl ((0 : Int), (400 : Int), [])), none], ([], [], [((216 : Nat), (3 : Int), (3 : Int), ((0 : Int), (400 : Int), [((1000013 : Nat), (0 : Int))]))]), (100 : Nat), .inl (2 : Nat), true), ((11 : Nat), [some (.inr (.inr (.inl (215 : Nat)))), some (.inl (ck_one 6)), some (.inl ((0 : Int), (399 : Int), [((100 : Nat), (0 : Int))])), some (.inl ((0 : Int), (400 : Int), []))], ([], [], [((216 : Nat), (3 : Int), (3 : Int), ((0 : Int), (400 : Int), [((1000013 : Nat), (0 : Int))]))]), (300 : Nat), .inl (3 : Nat), true)]) (f := 296) ⟨p2_nmu, ck_E1 (ck_S1 pm_s7_s ck_S0) (ck_E1 (ck_S1 pm_s32_s (ck_S1 pm_s34_s ck_S0)) (ck_E1 (ck_S1 pm_s35_s (ck_S1 pm_s36_s ck_S0)) (ck_E1 (ck_S1 pm_s60_s ck_S0) ck_E0)))⟩ (by decide +kernel)
set_option maxRecDepth 100000 in
/-- GlacierMail$Words.needSign -/
noncomputable def pm_s62 : ck_Sum := (((2 : Nat), (0 : Nat), (0 : Nat)), (245 : Nat), [.inr (.inr (.inl (216 : Nat))), .inl (ck_one 41)], ([], [], [((216 : Nat), (3 : Int), (3 : Int), ((0 : Int), (400 : Int), [((13 : Nat), (0 : Int))]))]), ([((216 : Nat), (3 : Int), (7 : Int))], []), [(.inr (some (.inl (ck_one 1))), (245 : Nat), ([], [], [((216 : Nat), (3 : Int), (3 : Int), ((0 : Int), (400 : Int), [((1000013 : Nat), (0 : Int))]))])), (.inr (some (.inl (ck_one 0))), (245 : Nat), ([], [], [((216 : Nat), (5 : Int), (5 : Int), ((0 : Int), (400 : Int), [])), ((216 : Nat), (3 : Int), (3 : Int), ((0 : Int), (400 : Int), [((13 : Nat), (0 : Int))]))]))])
set_option maxRecDepth 100000 in
theorem pm_s62_s {X : Int → Int} {LX : Nat} : ck_Ok p2_O X LX 98 pm_s62 := ck_okq (cuts := []) (f := 86) ⟨p2_nmu, ck_E1 (ck_S1 pm_s5_s ck_S0) (ck_E1 (ck_S1 pm_s7_s ck_S0) ck_E0)⟩ (by decide +kernel)
set_option maxRecDepth 100000 in
/-- GlacierMail$LawReader.readAtom -/
noncomputable def pm_s63 : ck_Sum := (((11 : Nat), (0 : Nat), (0 : Nat)), (245 : Nat), [.inr (.inr (.inl (215 : Nat))), .inl (ck_one 5)], ([], [], [((216 : Nat), (3 : Int), (3 : Int), ((0 : Int), (400 : Int), [((13 : Nat), (0 : Int))]))]), ([((215 : Nat), (4 : Int), (4 : Int)), ((216 : Nat), (3 : Int), (7 : Int)), ((219 : Nat), (0 : Int), (399 : Int))], []), [(.inr (some (.inl (ck_one 0))), (245 : Nat), ([], [], [((216 : Nat), (5 : Int), (5 : Int), ((0 : Int), (400 : Int), [])), ((216 : Nat), (3 : Int), (3 : Int), ((0 : Int), (400 : Int), [((1000013 : Nat), (0 : Int))]))])), (.inr (some (.inl (ck_one 1))), (245 : Nat), ([], [], [((216 : Nat), (3 : Int), (3 : Int), ((0 : Int), (400 : Int), [((1000013 : Nat), (0 : Int))]))]))])
set_option maxRecDepth 100000 in
theorem pm_s63_s {X : Int → Int} {LX : Nat} : ck_Ok p2_O X LX 97 pm_s63 := ck_okq (cuts := []) (f := 174) ⟨p2_nmu, ck_E1 (ck_S1 pm_s37_s ck_S0) (ck_E1 (ck_S1 pm_s39_s (ck_S1 pm_s41_s ck_S0)) (ck_E1 (ck_S1 pm_s53_s ck_S0) (ck_E1 (ck_S1 pm_s5_s ck_S0) (ck_E1 (ck_S1 pm_s54_s (ck_S1 pm_s55_s (ck_S1 pm_s56_s (ck_S1 pm_s57_s (ck_S1 pm_s58_s (ck_S1 pm_s59_s ck_S0)))))) (ck_E1 (ck_S1 pm_s7_s ck_S0) (ck_E1 (ck_S1 pm_s61_s ck_S0) (ck_E1 (ck_S1 pm_s62_s ck_S0) (ck_E1 (ck_S1 pm_s60_s ck_S0) ck_E0))))))))⟩ (by decide +kernel)
set_option maxRecDepth 100000 in
/-- GlacierMail$LawReader.readCondition -/
noncomputable def pm_s64 : ck_Sum := (((12 : Nat), (0 : Nat), (0 : Nat)), (245 : Nat), [.inr (.inr (.inl (215 : Nat))), .inl (ck_one 5)], ([], [], [((216 : Nat), (3 : Int), (3 : Int), ((0 : Int), (400 : Int), [((13 : Nat), (0 : Int))]))]), ([((215 : Nat), (4 : Int), (4 : Int)), ((216 : Nat), (3 : Int), (7 : Int)), ((219 : Nat), (0 : Int), (399 : Int))], []), [(.inr (some (.inl (ck_one 0))), (245 : Nat), ([], [], [((216 : Nat), (5 : Int), (5 : Int), ((0 : Int), (400 : Int), [])), ((216 : Nat), (3 : Int), (3 : Int), ((0 : Int), (400 : Int), [((1000013 : Nat), (0 : Int))]))])), (.inr (some (.inl (ck_one 1))), (245 : Nat), ([], [], [((216 : Nat), (3 : Int), (3 : Int), ((0 : Int), (400 : Int), [((1000013 : Nat), (0 : Int))]))]))])
set_option maxRecDepth 100000 in
theorem pm_s64_s {X : Int → Int} {LX : Nat} : ck_Ok p2_O X LX 96 pm_s64 := ck_okq (cuts := [((2 : Nat), [some (.inr (.inr (.inl (215 : Nat)))), some (.inl (ck_one 5)), some (.inl ((0 : Int), (400 : Int), [])), none], ([], [], [((216 : Nat), (3 : Int), (3 : Int), ((0 : Int), (400 : Int), [((1000013 : Nat), (0 : Int))]))]), (100 : Nat), .inl (2 : Nat), true), ((11 : Nat), [some (.inr (.inr (.inl (215 : Nat)))), some (.inl (ck_one 5)), some (.inl ((0 : Int), (399 : Int), [((100 : Nat), (0 : Int))])), some (.inl ((0 : Int), (400 : Int), []))], ([], [], [((216 : Nat), (3 : Int), (3 : Int), ((0 : Int), (400 : Int), [((1000013 : Nat), (0 : Int))]))]), (300 : Nat), .inl (3 : Nat), true)]) (f := 296) ⟨p2_nmu, ck_E1 (ck_S1 pm_s7_s ck_S0) (ck_E1 (ck_S1 pm_s32_s (ck_S1 pm_s34_s ck_S0)) (ck_E1 (ck_S1 pm_s35_s (ck_S1 pm_s36_s ck_S0)) (ck_E1 (ck_S1 pm_s63_s ck_S0) ck_E0)))⟩ (by decide +kernel)
set_option maxRecDepth 100000 in
/-- GlacierMail$LawReader.readAtom -/
noncomputable def pm_s65 : ck_Sum := (((13 : Nat), (0 : Nat), (0 : Nat)), (245 : Nat), [.inr (.inr (.inl (215 : Nat))), .inl (ck_one 4)], ([], [], [((216 : Nat), (3 : Int), (3 : Int), ((0 : Int), (400 : Int), [((13 : Nat), (0 : Int))]))]), ([((215 : Nat), (4 : Int), (4 : Int)), ((216 : Nat), (3 : Int), (7 : Int)), ((219 : Nat), (0 : Int), (399 : Int))], []), [(.inr (some (.inl (ck_one 0))), (245 : Nat), ([], [], [((216 : Nat), (5 : Int), (5 : Int), ((0 : Int), (400 : Int), [])), ((216 : Nat), (3 : Int), (3 : Int), ((0 : Int), (400 : Int), [((1000013 : Nat), (0 : Int))]))])), (.inr (some (.inl (ck_one 1))), (245 : Nat), ([], [], [((216 : Nat), (3 : Int), (3 : Int), ((0 : Int), (400 : Int), [((1000013 : Nat), (0 : Int))]))]))])
set_option maxRecDepth 100000 in
theorem pm_s65_s {X : Int → Int} {LX : Nat} : ck_Ok p2_O X LX 97 pm_s65 := ck_okq (cuts := []) (f := 174) ⟨p2_nmu, ck_E1 (ck_S1 pm_s37_s ck_S0) (ck_E1 (ck_S1 pm_s39_s (ck_S1 pm_s41_s ck_S0)) (ck_E1 (ck_S1 pm_s53_s ck_S0) (ck_E1 (ck_S1 pm_s5_s ck_S0) (ck_E1 (ck_S1 pm_s54_s (ck_S1 pm_s55_s (ck_S1 pm_s56_s (ck_S1 pm_s57_s (ck_S1 pm_s58_s (ck_S1 pm_s59_s ck_S0)))))) (ck_E1 (ck_S1 pm_s7_s ck_S0) (ck_E1 (ck_S1 pm_s64_s ck_S0) (ck_E1 (ck_S1 pm_s62_s ck_S0) (ck_E1 (ck_S1 pm_s63_s ck_S0) ck_E0))))))))⟩ (by decide +kernel)
set_option maxRecDepth 100000 in
/-- GlacierMail$LawReader.readCondition -/
noncomputable def pm_s66 : ck_Sum := (((14 : Nat), (0 : Nat), (0 : Nat)), (245 : Nat), [.inr (.inr (.inl (215 : Nat))), .inl (ck_one 4)], ([], [], [((216 : Nat), (3 : Int), (3 : Int), ((0 : Int), (400 : Int), [((13 : Nat), (0 : Int))]))]), ([((215 : Nat), (4 : Int), (4 : Int)), ((216 : Nat), (3 : Int), (7 : Int)), ((219 : Nat), (0 : Int), (399 : Int))], []), [(.inr (some (.inl (ck_one 0))), (245 : Nat), ([], [], [((216 : Nat), (5 : Int), (5 : Int), ((0 : Int), (400 : Int), [])), ((216 : Nat), (3 : Int), (3 : Int), ((0 : Int), (400 : Int), [((1000013 : Nat), (0 : Int))]))])), (.inr (some (.inl (ck_one 1))), (245 : Nat), ([], [], [((216 : Nat), (3 : Int), (3 : Int), ((0 : Int), (400 : Int), [((1000013 : Nat), (0 : Int))]))]))])
set_option maxRecDepth 100000 in
theorem pm_s66_s {X : Int → Int} {LX : Nat} : ck_Ok p2_O X LX 96 pm_s66 := ck_okq (cuts := [((2 : Nat), [some (.inr (.inr (.inl (215 : Nat)))), some (.inl (ck_one 4)), some (.inl ((0 : Int), (400 : Int), [])), none], ([], [], [((216 : Nat), (3 : Int), (3 : Int), ((0 : Int), (400 : Int), [((1000013 : Nat), (0 : Int))]))]), (100 : Nat), .inl (2 : Nat), true), ((11 : Nat), [some (.inr (.inr (.inl (215 : Nat)))), some (.inl (ck_one 4)), some (.inl ((0 : Int), (399 : Int), [((100 : Nat), (0 : Int))])), some (.inl ((0 : Int), (400 : Int), []))], ([], [], [((216 : Nat), (3 : Int), (3 : Int), ((0 : Int), (400 : Int), [((1000013 : Nat), (0 : Int))]))]), (300 : Nat), .inl (3 : Nat), true)]) (f := 296) ⟨p2_nmu, ck_E1 (ck_S1 pm_s7_s ck_S0) (ck_E1 (ck_S1 pm_s32_s (ck_S1 pm_s34_s ck_S0)) (ck_E1 (ck_S1 pm_s35_s (ck_S1 pm_s36_s ck_S0)) (ck_E1 (ck_S1 pm_s65_s ck_S0) ck_E0)))⟩ (by decide +kernel)
set_option maxRecDepth 100000 in
/-- GlacierMail$LawReader.readAtom -/
noncomputable def pm_s67 : ck_Sum := (((15 : Nat), (0 : Nat), (0 : Nat)), (245 : Nat), [.inr (.inr (.inl (215 : Nat))), .inl (ck_one 3)], ([], [], [((216 : Nat), (3 : Int), (3 : Int), ((0 : Int), (400 : Int), [((13 : Nat), (0 : Int))]))]), ([((215 : Nat), (4 : Int), (4 : Int)), ((216 : Nat), (3 : Int), (7 : Int)), ((219 : Nat), (0 : Int), (399 : Int))], []), [(.inr (some (.inl (ck_one 0))), (245 : Nat), ([], [], [((216 : Nat), (5 : Int), (5 : Int), ((0 : Int), (400 : Int), [])), ((216 : Nat), (3 : Int), (3 : Int), ((0 : Int), (400 : Int), [((1000013 : Nat), (0 : Int))]))])), (.inr (some (.inl (ck_one 1))), (245 : Nat), ([], [], [((216 : Nat), (3 : Int), (3 : Int), ((0 : Int), (400 : Int), [((1000013 : Nat), (0 : Int))]))]))])
set_option maxRecDepth 100000 in
theorem pm_s67_s {X : Int → Int} {LX : Nat} : ck_Ok p2_O X LX 97 pm_s67 := ck_okq (cuts := []) (f := 174) ⟨p2_nmu, ck_E1 (ck_S1 pm_s37_s ck_S0) (ck_E1 (ck_S1 pm_s39_s (ck_S1 pm_s41_s ck_S0)) (ck_E1 (ck_S1 pm_s53_s ck_S0) (ck_E1 (ck_S1 pm_s5_s ck_S0) (ck_E1 (ck_S1 pm_s54_s (ck_S1 pm_s55_s (ck_S1 pm_s56_s (ck_S1 pm_s57_s (ck_S1 pm_s58_s (ck_S1 pm_s59_s ck_S0)))))) (ck_E1 (ck_S1 pm_s7_s ck_S0) (ck_E1 (ck_S1 pm_s66_s ck_S0) (ck_E1 (ck_S1 pm_s62_s ck_S0) (ck_E1 (ck_S1 pm_s65_s ck_S0) ck_E0))))))))⟩ (by decide +kernel)
set_option maxRecDepth 100000 in
/-- GlacierMail$LawReader.readCondition -/
noncomputable def pm_s68 : ck_Sum := (((16 : Nat), (0 : Nat), (0 : Nat)), (245 : Nat), [.inr (.inr (.inl (215 : Nat))), .inl (ck_one 3)], ([], [], [((216 : Nat), (3 : Int), (3 : Int), ((0 : Int), (400 : Int), [((13 : Nat), (0 : Int))]))]), ([((215 : Nat), (4 : Int), (4 : Int)), ((216 : Nat), (3 : Int), (7 : Int)), ((219 : Nat), (0 : Int), (399 : Int))], []), [(.inr (some (.inl (ck_one 0))), (245 : Nat), ([], [], [((216 : Nat), (5 : Int), (5 : Int), ((0 : Int), (400 : Int), [])), ((216 : Nat), (3 : Int), (3 : Int), ((0 : Int), (400 : Int), [((1000013 : Nat), (0 : Int))]))])), (.inr (some (.inl (ck_one 1))), (245 : Nat), ([], [], [((216 : Nat), (3 : Int), (3 : Int), ((0 : Int), (400 : Int), [((1000013 : Nat), (0 : Int))]))]))])
set_option maxRecDepth 100000 in
theorem pm_s68_s {X : Int → Int} {LX : Nat} : ck_Ok p2_O X LX 96 pm_s68 := ck_okq (cuts := [((2 : Nat), [some (.inr (.inr (.inl (215 : Nat)))), some (.inl (ck_one 3)), some (.inl ((0 : Int), (400 : Int), [])), none], ([], [], [((216 : Nat), (3 : Int), (3 : Int), ((0 : Int), (400 : Int), [((1000013 : Nat), (0 : Int))]))]), (100 : Nat), .inl (2 : Nat), true), ((11 : Nat), [some (.inr (.inr (.inl (215 : Nat)))), some (.inl (ck_one 3)), some (.inl ((0 : Int), (399 : Int), [((100 : Nat), (0 : Int))])), some (.inl ((0 : Int), (400 : Int), []))], ([], [], [((216 : Nat), (3 : Int), (3 : Int), ((0 : Int), (400 : Int), [((1000013 : Nat), (0 : Int))]))]), (300 : Nat), .inl (3 : Nat), true)]) (f := 296) ⟨p2_nmu, ck_E1 (ck_S1 pm_s7_s ck_S0) (ck_E1 (ck_S1 pm_s32_s (ck_S1 pm_s34_s ck_S0)) (ck_E1 (ck_S1 pm_s35_s (ck_S1 pm_s36_s ck_S0)) (ck_E1 (ck_S1 pm_s67_s ck_S0) ck_E0)))⟩ (by decide +kernel)
set_option maxRecDepth 100000 in
/-- GlacierMail$LawReader.readAtom -/
noncomputable def pm_s69 : ck_Sum := (((17 : Nat), (0 : Nat), (0 : Nat)), (245 : Nat), [.inr (.inr (.inl (215 : Nat))), .inl (ck_one 2)], ([], [], [((216 : Nat), (3 : Int), (3 : Int), ((0 : Int), (400 : Int), [((13 : Nat), (0 : Int))]))]), ([((215 : Nat), (4 : Int), (4 : Int)), ((216 : Nat), (3 : Int), (7 : Int)), ((219 : Nat), (0 : Int), (399 : Int))], []), [(.inr (some (.inl (ck_one 0))), (245 : Nat), ([], [], [((216 : Nat), (5 : Int), (5 : Int), ((0 : Int), (400 : Int), [])), ((216 : Nat), (3 : Int), (3 : Int), ((0 : Int), (400 : Int), [((1000013 : Nat), (0 : Int))]))])), (.inr (some (.inl (ck_one 1))), (245 : Nat), ([], [], [((216 : Nat), (3 : Int), (3 : Int), ((0 : Int), (400 : Int), [((1000013 : Nat), (0 : Int))]))]))])
set_option maxRecDepth 100000 in
theorem pm_s69_s {X : Int → Int} {LX : Nat} : ck_Ok p2_O X LX 97 pm_s69 := ck_okq (cuts := []) (f := 174) ⟨p2_nmu, ck_E1 (ck_S1 pm_s37_s ck_S0) (ck_E1 (ck_S1 pm_s39_s (ck_S1 pm_s41_s ck_S0)) (ck_E1 (ck_S1 pm_s53_s ck_S0) (ck_E1 (ck_S1 pm_s5_s ck_S0) (ck_E1 (ck_S1 pm_s54_s (ck_S1 pm_s55_s (ck_S1 pm_s56_s (ck_S1 pm_s57_s (ck_S1 pm_s58_s (ck_S1 pm_s59_s ck_S0)))))) (ck_E1 (ck_S1 pm_s7_s ck_S0) (ck_E1 (ck_S1 pm_s68_s ck_S0) (ck_E1 (ck_S1 pm_s62_s ck_S0) (ck_E1 (ck_S1 pm_s67_s ck_S0) ck_E0))))))))⟩ (by decide +kernel)
set_option maxRecDepth 100000 in
/-- GlacierMail$LawReader.readCondition -/
noncomputable def pm_s70 : ck_Sum := (((18 : Nat), (0 : Nat), (0 : Nat)), (245 : Nat), [.inr (.inr (.inl (215 : Nat))), .inl (ck_one 2)], ([], [], [((216 : Nat), (3 : Int), (3 : Int), ((0 : Int), (400 : Int), [((13 : Nat), (0 : Int))]))]), ([((215 : Nat), (4 : Int), (4 : Int)), ((216 : Nat), (3 : Int), (7 : Int)), ((219 : Nat), (0 : Int), (399 : Int))], []), [(.inr (some (.inl (ck_one 0))), (245 : Nat), ([], [], [((216 : Nat), (5 : Int), (5 : Int), ((0 : Int), (400 : Int), [])), ((216 : Nat), (3 : Int), (3 : Int), ((0 : Int), (400 : Int), [((1000013 : Nat), (0 : Int))]))])), (.inr (some (.inl (ck_one 1))), (245 : Nat), ([], [], [((216 : Nat), (3 : Int), (3 : Int), ((0 : Int), (400 : Int), [((1000013 : Nat), (0 : Int))]))]))])
set_option maxRecDepth 100000 in
theorem pm_s70_s {X : Int → Int} {LX : Nat} : ck_Ok p2_O X LX 96 pm_s70 := ck_okq (cuts := [((2 : Nat), [some (.inr (.inr (.inl (215 : Nat)))), some (.inl (ck_one 2)), some (.inl ((0 : Int), (400 : Int), [])), none], ([], [], [((216 : Nat), (3 : Int), (3 : Int), ((0 : Int), (400 : Int), [((1000013 : Nat), (0 : Int))]))]), (100 : Nat), .inl (2 : Nat), true), ((11 : Nat), [some (.inr (.inr (.inl (215 : Nat)))), some (.inl (ck_one 2)), some (.inl ((0 : Int), (399 : Int), [((100 : Nat), (0 : Int))])), some (.inl ((0 : Int), (400 : Int), []))], ([], [], [((216 : Nat), (3 : Int), (3 : Int), ((0 : Int), (400 : Int), [((1000013 : Nat), (0 : Int))]))]), (300 : Nat), .inl (3 : Nat), true)]) (f := 296) ⟨p2_nmu, ck_E1 (ck_S1 pm_s7_s ck_S0) (ck_E1 (ck_S1 pm_s32_s (ck_S1 pm_s34_s ck_S0)) (ck_E1 (ck_S1 pm_s35_s (ck_S1 pm_s36_s ck_S0)) (ck_E1 (ck_S1 pm_s69_s ck_S0) ck_E0)))⟩ (by decide +kernel)
set_option maxRecDepth 100000 in
/-- GlacierMail$LawReader.readAtom -/
noncomputable def pm_s71 : ck_Sum := (((19 : Nat), (0 : Nat), (0 : Nat)), (245 : Nat), [.inr (.inr (.inl (215 : Nat))), .inl (ck_one 1)], ([], [], [((216 : Nat), (3 : Int), (3 : Int), ((0 : Int), (400 : Int), [((13 : Nat), (0 : Int))]))]), ([((215 : Nat), (4 : Int), (4 : Int)), ((216 : Nat), (3 : Int), (7 : Int)), ((219 : Nat), (0 : Int), (399 : Int))], []), [(.inr (some (.inl (ck_one 0))), (245 : Nat), ([], [], [((216 : Nat), (5 : Int), (5 : Int), ((0 : Int), (400 : Int), [])), ((216 : Nat), (3 : Int), (3 : Int), ((0 : Int), (400 : Int), [((1000013 : Nat), (0 : Int))]))])), (.inr (some (.inl (ck_one 1))), (245 : Nat), ([], [], [((216 : Nat), (3 : Int), (3 : Int), ((0 : Int), (400 : Int), [((1000013 : Nat), (0 : Int))]))]))])
set_option maxRecDepth 100000 in
theorem pm_s71_s {X : Int → Int} {LX : Nat} : ck_Ok p2_O X LX 97 pm_s71 := ck_okq (cuts := []) (f := 174) ⟨p2_nmu, ck_E1 (ck_S1 pm_s37_s ck_S0) (ck_E1 (ck_S1 pm_s39_s (ck_S1 pm_s41_s ck_S0)) (ck_E1 (ck_S1 pm_s53_s ck_S0) (ck_E1 (ck_S1 pm_s5_s ck_S0) (ck_E1 (ck_S1 pm_s54_s (ck_S1 pm_s55_s (ck_S1 pm_s56_s (ck_S1 pm_s57_s (ck_S1 pm_s58_s (ck_S1 pm_s59_s ck_S0)))))) (ck_E1 (ck_S1 pm_s7_s ck_S0) (ck_E1 (ck_S1 pm_s70_s ck_S0) (ck_E1 (ck_S1 pm_s62_s ck_S0) (ck_E1 (ck_S1 pm_s69_s ck_S0) ck_E0))))))))⟩ (by decide +kernel)
set_option maxRecDepth 100000 in
/-- GlacierMail$LawReader.readCondition -/
noncomputable def pm_s72 : ck_Sum := (((20 : Nat), (0 : Nat), (0 : Nat)), (245 : Nat), [.inr (.inr (.inl (215 : Nat))), .inl (ck_one 1)], ([], [], [((216 : Nat), (3 : Int), (3 : Int), ((0 : Int), (400 : Int), [((13 : Nat), (0 : Int))]))]), ([((215 : Nat), (4 : Int), (4 : Int)), ((216 : Nat), (3 : Int), (7 : Int)), ((219 : Nat), (0 : Int), (399 : Int))], []), [(.inr (some (.inl (ck_one 0))), (245 : Nat), ([], [], [((216 : Nat), (5 : Int), (5 : Int), ((0 : Int), (400 : Int), [])), ((216 : Nat), (3 : Int), (3 : Int), ((0 : Int), (400 : Int), [((1000013 : Nat), (0 : Int))]))])), (.inr (some (.inl (ck_one 1))), (245 : Nat), ([], [], [((216 : Nat), (3 : Int), (3 : Int), ((0 : Int), (400 : Int), [((1000013 : Nat), (0 : Int))]))]))])
set_option maxRecDepth 100000 in
theorem pm_s72_s {X : Int → Int} {LX : Nat} : ck_Ok p2_O X LX 96 pm_s72 := ck_okq (cuts := [((2 : Nat), [some (.inr (.inr (.inl (215 : Nat)))), some (.inl (ck_one 1)), some (.inl ((0 : Int), (400 : Int), [])), none], ([], [], [((216 : Nat), (3 : Int), (3 : Int), ((0 : Int), (400 : Int), [((1000013 : Nat), (0 : Int))]))]), (100 : Nat), .inl (2 : Nat), true), ((11 : Nat), [some (.inr (.inr (.inl (215 : Nat)))), some (.inl (ck_one 1)), some (.inl ((0 : Int), (399 : Int), [((100 : Nat), (0 : Int))])), some (.inl ((0 : Int), (400 : Int), []))], ([], [], [((216 : Nat), (3 : Int), (3 : Int), ((0 : Int), (400 : Int), [((1000013 : Nat), (0 : Int))]))]), (300 : Nat), .inl (3 : Nat), true)]) (f := 296) ⟨p2_nmu, ck_E1 (ck_S1 pm_s7_s ck_S0) (ck_E1 (ck_S1 pm_s32_s (ck_S1 pm_s34_s ck_S0)) (ck_E1 (ck_S1 pm_s35_s (ck_S1 pm_s36_s ck_S0)) (ck_E1 (ck_S1 pm_s71_s ck_S0) ck_E0)))⟩ (by decide +kernel)
set_option maxRecDepth 100000 in
/-- GlacierMail$LawReader.readAtom -/
noncomputable def pm_s73 : ck_Sum := (((21 : Nat), (0 : Nat), (0 : Nat)), (245 : Nat), [.inr (.inr (.inl (215 : Nat))), .inl (ck_one 0)], ([], [], [((216 : Nat), (3 : Int), (3 : Int), ((0 : Int), (400 : Int), [((13 : Nat), (0 : Int))]))]), ([((215 : Nat), (4 : Int), (4 : Int)), ((216 : Nat), (3 : Int), (7 : Int)), ((219 : Nat), (0 : Int), (399 : Int))], []), [(.inr (some (.inl (ck_one 0))), (245 : Nat), ([], [], [((216 : Nat), (5 : Int), (5 : Int), ((0 : Int), (400 : Int), [])), ((216 : Nat), (3 : Int), (3 : Int), ((0 : Int), (400 : Int), [((1000013 : Nat), (0 : Int))]))])), (.inr (some (.inl (ck_one 1))), (245 : Nat), ([], [], [((216 : Nat), (3 : Int), (3 : Int), ((0 : Int), (400 : Int), [((1000013 : Nat), (0 : Int))]))]))])
set_option maxRecDepth 100000 in
theorem pm_s73_s {X : Int → Int} {LX : Nat} : ck_Ok p2_O X LX 97 pm_s73 := ck_okq (cuts := []) (f := 174) ⟨p2_nmu, ck_E1 (ck_S1 pm_s37_s ck_S0) (ck_E1 (ck_S1 pm_s39_s (ck_S1 pm_s41_s ck_S0)) (ck_E1 (ck_S1 pm_s53_s ck_S0) (ck_E1 (ck_S1 pm_s5_s ck_S0) (ck_E1 (ck_S1 pm_s54_s (ck_S1 pm_s55_s (ck_S1 pm_s56_s (ck_S1 pm_s57_s (ck_S1 pm_s58_s (ck_S1 pm_s59_s ck_S0)))))) (ck_E1 (ck_S1 pm_s7_s ck_S0) (ck_E1 (ck_S1 pm_s72_s ck_S0) (ck_E1 (ck_S1 pm_s62_s ck_S0) (ck_E1 (ck_S1 pm_s71_s ck_S0) ck_E0))))))))⟩ (by decide +kernel)
set_option maxRecDepth 100000 in
/-- GlacierMail$LawReader.readCondition -/
noncomputable def pm_s74 : ck_Sum := (((22 : Nat), (0 : Nat), (0 : Nat)), (245 : Nat), [.inr (.inr (.inl (215 : Nat))), .inl (ck_one 0)], ([], [], [((216 : Nat), (3 : Int), (3 : Int), ((0 : Int), (400 : Int), [((13 : Nat), (0 : Int))]))]), ([((215 : Nat), (4 : Int), (4 : Int)), ((216 : Nat), (3 : Int), (7 : Int)), ((219 : Nat), (0 : Int), (399 : Int))], []), [(.inr (some (.inl (ck_one 0))), (245 : Nat), ([], [], [((216 : Nat), (5 : Int), (5 : Int), ((0 : Int), (400 : Int), [])), ((216 : Nat), (3 : Int), (3 : Int), ((0 : Int), (400 : Int), [((1000013 : Nat), (0 : Int))]))])), (.inr (some (.inl (ck_one 1))), (245 : Nat), ([], [], [((216 : Nat), (3 : Int), (3 : Int), ((0 : Int), (400 : Int), [((1000013 : Nat), (0 : Int))]))]))])
set_option maxRecDepth 100000 in
theorem pm_s74_s {X : Int → Int} {LX : Nat} : ck_Ok p2_O X LX 96 pm_s74 := ck_okq (cuts := [((2 : Nat), [some (.inr (.inr (.inl (215 : Nat)))), some (.inl (ck_one 0)), some (.inl ((0 : Int), (400 : Int), [])), none], ([], [], [((216 : Nat), (3 : Int), (3 : Int), ((0 : Int), (400 : Int), [((1000013 : Nat), (0 : Int))]))]), (100 : Nat), .inl (2 : Nat), true), ((11 : Nat), [some (.inr (.inr (.inl (215 : Nat)))), some (.inl (ck_one 0)), some (.inl ((0 : Int), (399 : Int), [((100 : Nat), (0 : Int))])), some (.inl ((0 : Int), (400 : Int), []))], ([], [], [((216 : Nat), (3 : Int), (3 : Int), ((0 : Int), (400 : Int), [((1000013 : Nat), (0 : Int))]))]), (300 : Nat), .inl (3 : Nat), true)]) (f := 296) ⟨p2_nmu, ck_E1 (ck_S1 pm_s7_s ck_S0) (ck_E1 (ck_S1 pm_s32_s (ck_S1 pm_s34_s ck_S0)) (ck_E1 (ck_S1 pm_s35_s (ck_S1 pm_s36_s ck_S0)) (ck_E1 (ck_S1 pm_s73_s ck_S0) ck_E0)))⟩ (by decide +kernel)
set_option maxRecDepth 100000 in
/-- GlacierMail$LawReader.readLine -/
noncomputable def pm_s75 : ck_Sum := (((23 : Nat), (0 : Nat), (0 : Nat)), (245 : Nat), [.inr (.inr (.inl (215 : Nat)))], ([], [], [((216 : Nat), (3 : Int), (3 : Int), ((0 : Int), (400 : Int), [((13 : Nat), (0 : Int))]))]), ([((215 : Nat), (4 : Int), (4 : Int)), ((216 : Nat), (3 : Int), (7 : Int)), ((217 : Nat), (3 : Int), (3 : Int)), ((218 : Nat), (0 : Int), (47 : Int)), ((219 : Nat), (0 : Int), (399 : Int))], []), [(.inr (some (.inl (ck_one 0))), (245 : Nat), ([], [], [((216 : Nat), (5 : Int), (5 : Int), ((0 : Int), (400 : Int), [])), ((216 : Nat), (3 : Int), (3 : Int), ((0 : Int), (400 : Int), [((1000013 : Nat), (0 : Int))]))])), (.inr (some (.inl (ck_one 1))), (245 : Nat), ([], [], [((217 : Nat), (3 : Int), (3 : Int), ((1 : Int), (12 : Int), [])), ((216 : Nat), (3 : Int), (3 : Int), ((4 : Int), (400 : Int), [((1000013 : Nat), (0 : Int))]))]))])
set_option maxRecDepth 100000 in
theorem pm_s75_s {X : Int → Int} {LX : Nat} : ck_Ok p2_O X LX 79 pm_s75 := ck_okq (cuts := []) (f := 198) ⟨p2_nmu, ck_E1 (ck_S1 pm_s12_s ck_S0) (ck_E1 (ck_S1 pm_s7_s ck_S0) (ck_E1 (ck_S1 pm_s5_s ck_S0) (ck_E1 (ck_S1 pm_s13_s ck_S0) (ck_E1 (ck_S1 pm_s15_s ck_S0) (ck_E1 (ck_S1 pm_s16_s ck_S0) (ck_E1 (ck_S1 pm_s17_s (ck_S1 pm_s18_s (ck_S1 pm_s19_s (ck_S1 pm_s20_s (ck_S1 pm_s21_s (ck_S1 pm_s22_s (ck_S1 pm_s23_s (ck_S1 pm_s24_s (ck_S1 pm_s25_s (ck_S1 pm_s26_s (ck_S1 pm_s27_s (ck_S1 pm_s28_s (ck_S1 pm_s29_s (ck_S1 pm_s30_s ck_S0)))))))))))))) (ck_E1 (ck_S1 pm_s74_s ck_S0) ck_E0)))))))⟩ (by decide +kernel)
set_option maxRecDepth 100000 in
/-- GlacierMail$Words.needSign -/
noncomputable def pm_s76 : ck_Sum := (((2 : Nat), (0 : Nat), (0 : Nat)), (245 : Nat), [.inr (.inr (.inl (216 : Nat))), .inl (ck_one 59)], ([], [], [((216 : Nat), (3 : Int), (3 : Int), ((0 : Int), (400 : Int), [((13 : Nat), (0 : Int))]))]), ([((216 : Nat), (3 : Int), (7 : Int))], []), [(.inr (some (.inl (ck_one 1))), (245 : Nat), ([], [], [((216 : Nat), (3 : Int), (3 : Int), ((0 : Int), (400 : Int), [((1000013 : Nat), (0 : Int))]))])), (.inr (some (.inl (ck_one 0))), (245 : Nat), ([], [], [((216 : Nat), (5 : Int), (5 : Int), ((0 : Int), (400 : Int), [])), ((216 : Nat), (3 : Int), (3 : Int), ((0 : Int), (400 : Int), [((13 : Nat), (0 : Int))]))]))])
set_option maxRecDepth 100000 in
theorem pm_s76_s {X : Int → Int} {LX : Nat} : ck_Ok p2_O X LX 98 pm_s76 := ck_okq (cuts := []) (f := 86) ⟨p2_nmu, ck_E1 (ck_S1 pm_s5_s ck_S0) (ck_E1 (ck_S1 pm_s7_s ck_S0) ck_E0)⟩ (by decide +kernel)
set_option maxRecDepth 100000 in
/-- GlacierMail$TextReader.readText -/
noncomputable def pm_s77 : ck_Sum := (((24 : Nat), (0 : Nat), (0 : Nat)), (245 : Nat), [.inr (.inr (.inl (215 : Nat))), .inl ((0 : Int), (400 : Int), [])], ([], [], [((216 : Nat), (3 : Int), (3 : Int), ((0 : Int), (400 : Int), [((13 : Nat), (0 : Int))]))]), ([((215 : Nat), (4 : Int), (4 : Int)), ((216 : Nat), (2 : Int), (7 : Int)), ((217 : Nat), (3 : Int), (3 : Int)), ((218 : Nat), (0 : Int), (47 : Int)), ((219 : Nat), (0 : Int), (399 : Int))], []), [(.inr (some (.inl (ck_one (-1)))), (245 : Nat), ([], [], [((216 : Nat), (5 : Int), (5 : Int), ck_one (-1))])), (.inr (some (.inl ((0 : Int), (400 : Int), []))), (245 : Nat), ([], [], [((216 : Nat), (5 : Int), (5 : Int), ((0 : Int), (400 : Int), []))]))])
set_option maxRecDepth 100000 in
theorem pm_s77_s {X : Int → Int} {LX : Nat} : ck_Ok p2_O X LX 72 pm_s77 := ck_okq (cuts := [((29 : Nat), [some (.inr (.inr (.inl (215 : Nat)))), some (.inl ((0 : Int), (400 : Int), [])), some (.inl ((0 : Int), (12 : Int), []))], ([], [], [((217 : Nat), (3 : Int), (3 : Int), ((0 : Int), (12 : Int), []))]), (100 : Nat), .inl (2 : Nat), true)]) (f := 174) ⟨p2_nmu, ck_E1 (ck_S1 pm_s2_s ck_S0) (ck_E1 (ck_S1 pm_s6_s ck_S0) (ck_E1 (ck_S1 pm_s7_s ck_S0) (ck_E1 (ck_S1 pm_s8_s ck_S0) (ck_E1 (ck_S1 pm_s75_s ck_S0) (ck_E1 (ck_S1 pm_s76_s ck_S0) ck_E0)))))⟩ (by decide +kernel)
set_option maxRecDepth 100000 in
/-- GlacierMail$Rows.<init> -/
noncomputable def pm_s79 : ck_Sum := (((1 : Nat), (1 : Nat), (48 : Nat)), (248 : Nat), [.inr (.inr (.inl (248 : Nat))), .inl (ck_one 12), .inl (ck_one 4)], ([((248 : Nat), (6 : Nat), (0 : Nat))], [], []), ([((248 : Nat), (0 : Int), (1 : Int)), ((248 : Nat), (3 : Int), (3 : Int))], [((248 : Nat), (2 : Int))]), [(.inr none, (249 : Nat), ([((249 : Nat), (0 : Nat), (48 : Nat))], [((248 : Nat), (2 : Int), (249 : Nat))], [((248 : Nat), (1 : Int), (1 : Int), ck_one 4), ((248 : Nat), (0 : Int), (0 : Int), ck_one 12), ((248 : Nat), (3 : Int), (3 : Int), ck_one 0), ((249 : Nat), (0 : Int), (47 : Int), ck_one 0)]))])
set_option maxRecDepth 100000 in
theorem pm_s79_s {X : Int → Int} {LX : Nat} : ck_Ok p2_O X LX 2 pm_s79 := ck_okq (cuts := []) (f := 106) ⟨p2_nmu, ck_E0⟩ (by decide +kernel)
set_option maxRecDepth 100000 in
/-- GlacierMail$Rows.copyFrom -/
noncomputable def pm_s80 : ck_Sum := (((1 : Nat), (0 : Nat), (0 : Nat)), (249 : Nat), [.inr (.inr (.inl (248 : Nat))), .inr (.inr (.inl (217 : Nat)))], ([((248 : Nat), (6 : Nat), (0 : Nat)), ((249 : Nat), (0 : Nat), (48 : Nat))], [((248 : Nat), (2 : Int), (249 : Nat))], [((248 : Nat), (0 : Int), (0 : Int), ck_one 12)]), ([((248 : Nat), (3 : Int), (3 : Int)), ((249 : Nat), (0 : Int), (47 : Int))], []), [(.inr none, (249 : Nat), ([], [], [((248 : Nat), (3 : Int), (3 : Int), ((0 : Int), (12 : Int), []))]))])
set_option maxRecDepth 100000 in
theorem pm_s80_s {X : Int → Int} {LX : Nat} : ck_Ok p2_O X LX 58 pm_s80 := ck_okq (cuts := []) (f := 114) ⟨p2_nmu, ck_E0⟩ (by decide +kernel)
set_option maxRecDepth 100000 in
/-- GlacierMail$Law.<init> -/
noncomputable def lq_init : ck_Sum := (((2 : Nat), (2 : Nat), (52 : Nat)), (247 : Nat), [.inr (.inr (.inl (246 : Nat))), .inr (.inr (.inl (217 : Nat))), .inr (.inr (.inl (247 : Nat)))], ([((246 : Nat), (14 : Nat), (0 : Nat))], [], []), ([], [((246 : Nat), (0 : Int)), ((246 : Nat), (1 : Int))]), [(.inr none, (249 : Nat), ([((248 : Nat), (6 : Nat), (0 : Nat)), ((249 : Nat), (0 : Nat), (48 : Nat))], [((246 : Nat), (0 : Int), (248 : Nat)), ((246 : Nat), (1 : Int), (247 : Nat)), ((248 : Nat), (2 : Int), (249 : Nat))], [((248 : Nat), (3 : Int), (3 : Int), ((0 : Int), (12 : Int), [])), ((248 : Nat), (1 : Int), (1 : Int), ck_one 4), ((248 : Nat), (0 : Int), (0 : Int), ck_one 12), ((248 : Nat), (2 : Int), (2 : Int), ck_one 0)]))])
set_option maxRecDepth 100000 in
theorem lq_init_s {X : Int → Int} {LX : Nat} : ck_Ok p2_O X LX 126 lq_init := ck_okq (cuts := []) (f := 104) ⟨p2_nmu, ck_E1 (ck_S1 pm_s79_s ck_S0) (ck_E1 (ck_S1 pm_s80_s ck_S0) ck_E0)⟩ (by decide +kernel)
set_option maxRecDepth 100000 in
/-- GlacierMail$Ice.reckonHeats -/
noncomputable def pm_s82 : ck_Sum := (((0 : Nat), (0 : Nat), (0 : Nat)), (249 : Nat), [.inr (.inr (.inl (200 : Nat)))], ([], [], []), ([((201 : Nat), (0 : Int), (299 : Int))], []), [(.inr none, (249 : Nat), ([], [], []))])
set_option maxRecDepth 100000 in
theorem pm_s82_s {X : Int → Int} {LX : Nat} : ck_Ok p2_OL X LX 6 pm_s82 := ck_okq (cuts := [((10 : Nat), [some (.inr (.inr (.inl (200 : Nat)))), some (.inl ((-2147483648 : Int), (2147483647 : Int), [])), some (.inl ((0 : Int), (300 : Int), []))], ([], [], []), (100 : Nat), .inl (2 : Nat), true)]) (f := 182) ⟨pl_nmu, ck_E0⟩ (by decide +kernel)
set_option maxRecDepth 100000 in
/-- java/util/Arrays.fill -/
noncomputable def pm_s83 : ck_Sum := (((0 : Nat), (0 : Nat), (0 : Nat)), (249 : Nat), [.inr (.inr (.inl (202 : Nat))), .inl (ck_one 0)], ([], [], []), ([((202 : Nat), (0 : Int), (593 : Int))], []), [(.inr none, (249 : Nat), ([], [], []))])
set_option maxRecDepth 100000 in
theorem pm_s83_s {X : Int → Int} {LX : Nat} : ck_Ok p2_OL X LX 8 pm_s83 := ck_okq (cuts := [((5 : Nat), [some (.inr (.inr (.inl (202 : Nat)))), some (.inl (ck_one 0)), some (.inl ((0 : Int), (594 : Int), [])), some (.inl (ck_one 594))], ([], [], []), (100 : Nat), .inl (2 : Nat), true)]) (f := 130) ⟨pl_nmu, ck_E0⟩ (by decide +kernel)
set_option maxRecDepth 100000 in
/-- GlacierMail$Rows.size -/
noncomputable def pm_s84 : ck_Sum := (((0 : Nat), (0 : Nat), (0 : Nat)), (249 : Nat), [.inr (.inr (.inl (4 : Nat)))], ([], [], []), ([], []), [(.inr (some (.inl ((0 : Int), (8 : Int), []))), (249 : Nat), ([], [], []))])
set_option maxRecDepth 100000 in
theorem pm_s84_s {X : Int → Int} {LX : Nat} : ck_Ok p2_OL X LX 9 pm_s84 := ck_okq (cuts := []) (f := 76) ⟨pl_nmu, ck_E0⟩ (by decide +kernel)
set_option maxRecDepth 100000 in
/-- GlacierMail$Rows.get -/
noncomputable def pm_s85 : ck_Sum := (((0 : Nat), (0 : Nat), (0 : Nat)), (249 : Nat), [.inr (.inr (.inl (4 : Nat))), .inl ((-2147483648 : Int), (2147483647 : Int), []), .inl ((-2147483648 : Int), (2147483647 : Int), [])], ([], [], []), ([], []), [(.inr (some (.inl (ck_one (-1)))), (249 : Nat), ([], [], [])), (.inr (some (.inl ((0 : Int), (98 : Int), []))), (249 : Nat), ([], [], [((4 : Nat), (3 : Int), (3 : Int), ((1 : Int), (8 : Int), []))]))])
set_option maxRecDepth 100000 in
theorem pm_s85_s {X : Int → Int} {LX : Nat} : ck_Ok p2_OL X LX 10 pm_s85 := ck_okq (cuts := []) (f := 114) ⟨pl_nmu, ck_E0⟩ (by decide +kernel)
set_option maxRecDepth 100000 in
/-- GlacierMail$Ice.reckonSpeeds -/
noncomputable def pm_s86 : ck_Sum := (((1 : Nat), (0 : Nat), (0 : Nat)), (249 : Nat), [.inr (.inr (.inl (200 : Nat)))], ([], [], []), ([((202 : Nat), (0 : Int), (593 : Int))], []), [(.inr none, (249 : Nat), ([], [], []))])
set_option maxRecDepth 100000 in
theorem pm_s86_s {X : Int → Int} {LX : Nat} : ck_Ok p2_OL X LX 7 pm_s86 := ck_okq (cuts := [((10 : Nat), [some (.inr (.inr (.inl (200 : Nat)))), some (.inl ((0 : Int), (9 : Int), [])), none, none, none, none], ([], [], []), (100 : Nat), .inl (1 : Nat), true), ((43 : Nat), [some (.inr (.inr (.inl (200 : Nat)))), some (.inl ((0 : Int), (7 : Int), [((100 : Nat), (0 : Int))])), some (.inl ((0 : Int), (98 : Int), [])), some (.inl ((0 : Int), (6 : Int), [])), none, none], ([], [], []), (300 : Nat), .inl (3 : Nat), true), ((79 : Nat), [some (.inr (.inr (.inl (200 : Nat)))), some (.inl ((0 : Int), (7 : Int), [((100 : Nat), (0 : Int))])), some (.inl ((0 : Int), (98 : Int), [])), some (.inl ((0 : Int), (5 : Int), [((300 : Nat), (0 : Int))])), some (.inl ((-1 : Int), (98 : Int), [])), some (.inl ((0 : Int), (99 : Int), []))], ([], [], []), (500 : Nat), .inl (5 : Nat), true)]) (f := 290) ⟨pl_nmu, ck_E1 (ck_S1 pm_s83_s ck_S0) (ck_E1 (ck_S1 pm_s84_s ck_S0) (ck_E1 (ck_S1 pm_s85_s ck_S0) ck_E0))⟩ (by decide +kernel)
set_option maxRecDepth 100000 in
/-- java/util/Arrays.fill -/
noncomputable def pm_s87 : ck_Sum := (((0 : Nat), (0 : Nat), (0 : Nat)), (249 : Nat), [.inr (.inr (.inl (203 : Nat))), .inl (ck_one 0)], ([], [], []), ([((203 : Nat), (0 : Int), (299 : Int))], []), [(.inr none, (249 : Nat), ([], [], []))])
set_option maxRecDepth 100000 in
theorem pm_s87_s {X : Int → Int} {LX : Nat} : ck_Ok p2_OL X LX 8 pm_s87 := ck_okq (cuts := [((5 : Nat), [some (.inr (.inr (.inl (203 : Nat)))), some (.inl (ck_one 0)), some (.inl ((0 : Int), (300 : Int), [])), some (.inl (ck_one 300))], ([], [], []), (100 : Nat), .inl (2 : Nat), true)]) (f := 130) ⟨pl_nmu, ck_E0⟩ (by decide +kernel)
set_option maxRecDepth 100000 in
/-- GlacierMail$Rows.size -/
noncomputable def pm_s88 : ck_Sum := (((0 : Nat), (0 : Nat), (0 : Nat)), (249 : Nat), [.inr (.inr (.inl (6 : Nat)))], ([], [], []), ([], []), [(.inr (some (.inl ((0 : Int), (8 : Int), []))), (249 : Nat), ([], [], []))])
set_option maxRecDepth 100000 in
theorem pm_s88_s {X : Int → Int} {LX : Nat} : ck_Ok p2_OL X LX 9 pm_s88 := ck_okq (cuts := []) (f := 76) ⟨pl_nmu, ck_E0⟩ (by decide +kernel)
set_option maxRecDepth 100000 in
/-- GlacierMail$Rows.get -/
noncomputable def pm_s89 : ck_Sum := (((0 : Nat), (0 : Nat), (0 : Nat)), (249 : Nat), [.inr (.inr (.inl (6 : Nat))), .inl ((-2147483648 : Int), (2147483647 : Int), []), .inl ((-2147483648 : Int), (2147483647 : Int), [])], ([], [], []), ([], []), [(.inr (some (.inl (ck_one (-1)))), (249 : Nat), ([], [], [])), (.inr (some (.inl ((0 : Int), (299 : Int), []))), (249 : Nat), ([], [], [((6 : Nat), (3 : Int), (3 : Int), ((1 : Int), (8 : Int), []))]))])
set_option maxRecDepth 100000 in
theorem pm_s89_s {X : Int → Int} {LX : Nat} : ck_Ok p2_OL X LX 10 pm_s89 := ck_okq (cuts := []) (f := 114) ⟨pl_nmu, ck_E0⟩ (by decide +kernel)
set_option maxRecDepth 100000 in
/-- GlacierMail$Ice.reckonFloods -/
noncomputable def pm_s90 : ck_Sum := (((1 : Nat), (0 : Nat), (0 : Nat)), (249 : Nat), [.inr (.inr (.inl (200 : Nat)))], ([], [], []), ([((203 : Nat), (0 : Int), (299 : Int))], []), [(.inr none, (249 : Nat), ([], [], []))])
set_option maxRecDepth 100000 in
theorem pm_s90_s {X : Int → Int} {LX : Nat} : ck_Ok p2_OL X LX 12 pm_s90 := ck_okq (cuts := [((10 : Nat), [some (.inr (.inr (.inl (200 : Nat)))), some (.inl ((0 : Int), (9 : Int), [])), none], ([], [], []), (100 : Nat), .inl (1 : Nat), true)]) (f := 214) ⟨pl_nmu, ck_E1 (ck_S1 pm_s87_s ck_S0) (ck_E1 (ck_S1 pm_s88_s ck_S0) (ck_E1 (ck_S1 pm_s89_s ck_S0) ck_E0))⟩ (by decide +kernel)
end
/-! 75a01.lq -/
section
/-! THE CLASS'S law(): reading, and a new Law (laid by wip/am/p2m.py). -/
set_option maxRecDepth 100000 in
/-- GlacierMail$Ice.renew -/
noncomputable def pm_s91 : ck_Sum := (((2 : Nat), (0 : Nat), (0 : Nat)), (249 : Nat), [.inr (.inr (.inl (200 : Nat)))], ([], [], []), ([((200 : Nat), (6 : Int), (6 : Int)), ((201 : Nat), (0 : Int), (299 : Int)), ((202 : Nat), (0 : Int), (593 : Int)), ((203 : Nat), (0 : Int), (299 : Int))], []), [(.inr none, (249 : Nat), ([], [], [((200 : Nat), (6 : Int), (6 : Int), ck_one 1)]))])
set_option maxRecDepth 100000 in
theorem pm_s91_s {X : Int → Int} {LX : Nat} : ck_Ok p2_OL X LX 5 pm_s91 := ck_okq (cuts := []) (f := 90) ⟨pl_nmu, ck_E1 (ck_S1 pm_s82_s ck_S0) (ck_E1 (ck_S1 pm_s86_s ck_S0) (ck_E1 (ck_S1 pm_s90_s ck_S0) ck_E0))⟩ (by decide +kernel)
set_option maxRecDepth 100000 in
/-- GlacierMail$History.forget -/
noncomputable def pm_s92 : ck_Sum := (((0 : Nat), (0 : Nat), (0 : Nat)), (249 : Nat), [.inr (.inr (.inl (42 : Nat)))], ([], [], []), ([((42 : Nat), (2 : Int), (2 : Int))], []), [(.inr none, (249 : Nat), ([], [], [((42 : Nat), (2 : Int), (2 : Int), ck_one 0)]))])
set_option maxRecDepth 100000 in
theorem pm_s92_s {X : Int → Int} {LX : Nat} : ck_Ok p2_OL X LX 62 pm_s92 := ck_okq (cuts := []) (f := 78) ⟨pl_nmu, ck_E0⟩ (by decide +kernel)
set_option maxRecDepth 100000 in
/-- GlacierMail.forgetWays -/
noncomputable def lq_fw : ck_Sum := (((3 : Nat), (0 : Nat), (0 : Nat)), (249 : Nat), [.inr (.inr (.inl (1 : Nat)))], ([], [], []), ([((1 : Nat), (15 : Int), (15 : Int)), ((42 : Nat), (2 : Int), (2 : Int)), ((200 : Nat), (6 : Int), (6 : Int)), ((201 : Nat), (0 : Int), (299 : Int)), ((202 : Nat), (0 : Int), (593 : Int)), ((203 : Nat), (0 : Int), (299 : Int))], []), [(.inr none, (249 : Nat), ([], [], [((1 : Nat), (15 : Int), (15 : Int), ck_one 0), ((42 : Nat), (2 : Int), (2 : Int), ck_one 0), ((200 : Nat), (6 : Int), (6 : Int), ck_one 1)]))])
set_option maxRecDepth 100000 in
theorem lq_fw_s {X : Int → Int} {LX : Nat} : ck_Ok p2_OL X LX 61 lq_fw := ck_okq (cuts := []) (f := 90) ⟨pl_nmu, ck_E1 (ck_S1 pm_s91_s ck_S0) (ck_E1 (ck_S1 pm_s92_s ck_S0) ck_E0)⟩ (by decide +kernel)
set_option maxRecDepth 100000 in
/-- GlacierMail$Rows.size -/
noncomputable def pm_s94 : ck_Sum := (((0 : Nat), (0 : Nat), (0 : Nat)), (249 : Nat), [.inr (.inr (.inl (248 : Nat)))], ([], [], []), ([], []), [(.inr (some (.inl ((0 : Int), (12 : Int), []))), (249 : Nat), ([], [], []))])
set_option maxRecDepth 100000 in
theorem pm_s94_s {X : Int → Int} {LX : Nat} : ck_Ok p2_OL X LX 9 pm_s94 := ck_okq (cuts := []) (f := 76) ⟨pl_nmu, ck_E0⟩ (by decide +kernel)
set_option maxRecDepth 100000 in
/-- GlacierMail.lawLines -/
noncomputable def lq_ll : ck_Sum := (((1 : Nat), (0 : Nat), (0 : Nat)), (249 : Nat), [.inr (.inr (.inl (1 : Nat)))], ([], [((3 : Nat), (8 : Int), (246 : Nat))], []), ([], []), [(.inr (some (.inl ((0 : Int), (12 : Int), []))), (249 : Nat), ([], [], []))])
set_option maxRecDepth 100000 in
theorem lq_ll_s {X : Int → Int} {LX : Nat} : ck_Ok p2_OL X LX 64 lq_ll := ck_okq (cuts := []) (f := 90) ⟨pl_nmu, ck_E1 (ck_S1 pm_s94_s ck_S0) ck_E0⟩ (by decide +kernel)
end
/-! 75b.law -/
section
/-! THE REFERENCE'S law(), put together. -/
set_option maxRecDepth 100000 in
/-- GlacierMailModel.warms -/
noncomputable def pg_s95 : ck_Sum := (((0 : Nat), (0 : Nat), (0 : Nat)), (245 : Nat), [.inr (.inr (.inl (226 : Nat)))], ([], [], []), ([((226 : Nat), (26 : Int), (26 : Int)), ((234 : Nat), (0 : Int), (299 : Int))], []), [(.inr none, (245 : Nat), ([], [], [((226 : Nat), (26 : Int), (26 : Int), ck_one (-1))]))])
set_option maxRecDepth 100000 in
theorem pg_s95_s {X : Int → Int} {LX : Nat} : ck_Ok pg_O X LX 235 pg_s95 := ck_okq (cuts := [((10 : Nat), [some (.inr (.inr (.inl (226 : Nat)))), some (.inl ((-2147483648 : Int), (2147483647 : Int), [])), some (.inl ((0 : Int), (300 : Int), []))], ([], [], []), (100 : Nat), .inl (2 : Nat), true)]) (f := 182) ⟨pg_nmu, ck_E0⟩ (by decide +kernel)
noncomputable def lw_us : ck_Sum := (((0 : Nat), (0 : Nat), (0 : Nat)), (245 : Nat), [.inr (.inr (.inl (226 : Nat)))], ([], [], []), ([((226 : Nat), (0 : Int), (0 : Int)), ((226 : Nat), (8 : Int), (10 : Int))], []), [(.inr none, (245 : Nat), ([], [], [((226 : Nat), (9 : Int), (9 : Int), ck_one 0), ((226 : Nat), (8 : Int), (8 : Int), ck_one 0)]))])
theorem lw_us_e : ck_ok p2_O none [] [] 244 [] 60 lw_us = true := by decide +kernel
noncomputable def lw_E : List (Nat × List ck_Sum) := [((245 : Nat), [pg_s1]), ((247 : Nat), [pg_s68, pg_s70, pg_s72, pg_s74, pg_s76, pg_s78, pg_s80, pg_s82, pg_s84, pg_s86, pg_s88, pg_s90, pg_s91]), ((246 : Nat), [pg_s92])]
noncomputable def lw_W9 : List (Nat × Int × Int) × List (Nat × Int) := ([((0 : Nat), (0 : Int), (6 : Int)), ((226 : Nat), (9 : Int), (9 : Int)), ((226 : Nat), (11 : Int), (12 : Int)), ((226 : Nat), (15 : Int), (15 : Int)), ((227 : Nat), (1245 : Int), (2092 : Int))], [])
noncomputable def lw_f (v : Int) : ck_F := ([], [], (226, 8, 8, ck_one 0) :: (if v < 0 then [] else [(0, 2, 2, ck_one v)]))
noncomputable def lw_oc (v : Int) : ck_Oc := (.inr (some (.inl (ck_one v))), 245, lw_f v)
noncomputable def lw_l : List Int := [(-1 : Int), (0 : Int), (1 : Int), (2 : Int), (3 : Int), (4 : Int), (5 : Int), (6 : Int), (7 : Int), (8 : Int), (9 : Int), (10 : Int), (11 : Int), (12 : Int)]
noncomputable def lw_F9 : ck_F := ([], [], [((0 : Nat), (0 : Int), (0 : Int), ck_one 0), ((0 : Nat), (2 : Int), (2 : Int), ck_one 0), ((0 : Nat), (3 : Int), (3 : Int), ((0 : Int), (400 : Int), [])), ((0 : Nat), (4 : Int), (4 : Int), ((-400 : Int), (0 : Int), [])), ((0 : Nat), (5 : Int), (5 : Int), ck_one 0), ((0 : Nat), (6 : Int), (6 : Int), ck_one 0), ((226 : Nat), (15 : Int), (15 : Int), ck_one 0), ((226 : Nat), (9 : Int), (9 : Int), ck_one 0), ((226 : Nat), (8 : Int), (8 : Int), ck_one 0)])
set_option maxRecDepth 100000 in
theorem lw_g9 : ck_go pg_O none [] lw_E 243 32 245 lw_W9 (lw_l.map lw_oc) [] 702 false [] 0 0 9 [some (.inr (.inr (.inl 226))), some (.inl (ck_one 0)), none] [] 245 lw_F9 = true := by decide +kernel
noncomputable def lw_W : List (Nat × Int × Int) × List (Nat × Int) := ([((0 : Nat), (0 : Int), (6 : Int)), ((226 : Nat), (0 : Int), (0 : Int)), ((226 : Nat), (6 : Int), (6 : Int)), ((226 : Nat), (8 : Int), (13 : Int)), ((226 : Nat), (15 : Int), (15 : Int)), ((226 : Nat), (26 : Int), (26 : Int)), ((227 : Nat), (8 : Int), (8 : Int)), ((227 : Nat), (395 : Int), (2092 : Int)), ((234 : Nat), (0 : Int), (299 : Int))], [])
noncomputable def lw_o : List ck_Oc := [(.inr (some (.inl ((0 : Int), (12 : Int), []))), (245 : Nat), ([], [], [((226 : Nat), (8 : Int), (8 : Int), ck_one 0)]))]
/-- GlacierMailModel.law -/
noncomputable def lw_S : ck_Sum := (((33 : Nat), (0 : Nat), (0 : Nat)), (245 : Nat), [.inr (.inr (.inl (226 : Nat)))], ([], [], []), lw_W, lw_o)
noncomputable def lw_E3 : List (Nat × List ck_Sum) := [((282 : Nat), [pg_s93, pg_s94]), ((235 : Nat), [pg_s95])]
noncomputable def lw_A (k : Int) : ck_AL := [some (.inr (.inr (.inl 226))), some (.inl (ck_one k)), some (.inl (ck_one 0))]
noncomputable def lw_B (k : Int) : ck_AL := [some (.inr (.inr (.inl 226))), some (.inl (ck_one k)), some (.inl (ck_one 849))]
noncomputable def lw_F (k : Int) : ck_F := ([], [], [(0, 2, 2, ck_one k), (227, 1244, 1244, ck_one k), (226, 8, 8, ck_one 0)])
noncomputable def lw_C (k : Int) : ck_C := (lw_A k, lw_F k, 0, .inl 2, true)
set_option maxRecDepth 100000 in
theorem lw_g5 : (List.range 13).all (fun (k : Nat) => ck_go pg_O none [] lw_E3 283 33 245 lw_W lw_o [(52, lw_C k)] 200 false [(52, lw_C k, 0, 0, 245)] 0 0 5 [some (.inr (.inr (.inl 226))), none, none] [(.inl (ck_one k), none)] 245 (lw_f k)) = true := by decide +kernel
set_option maxRecDepth 100000 in
theorem lw_gm : ck_go pg_O none [] lw_E3 283 33 245 lw_W lw_o [] 200 false [] 0 0 5 [some (.inr (.inr (.inl 226))), none, none] [(.inl (ck_one (-1)), none)] 245 (lw_f (-1)) = true := by decide +kernel
set_option maxRecDepth 100000 in
theorem lw_g85 : (List.range 13).all (fun (k : Nat) => ck_go pg_O none [] lw_E3 283 33 245 lw_W lw_o [] 200 false [] 0 0 85 (lw_B k) [] 245 ([], [], ck_cws [(227, 395, 1243)] (lw_F k).2.2)) = true := by decide +kernel
theorem lw_cu : (List.range 13).all (fun (k : Nat) => ck_cu [(52, lw_C k)]) = true := by decide +kernel
theorem lw_tc : cp_tc p2_O 227 227 395 1244 849 = true := by decide +kernel
section LW
variable {X : Int → Int} {LX : Nat}
theorem lw_us_s : ck_Ok p2_O X LX 244 lw_us := ck_ok_s ⟨p2_nmu, ck_E0⟩ ck_X0 ck_l0 lw_us_e
theorem lw_hE : ck_nmu pg_O ∧ ck_OkE pg_O X LX lw_E := ⟨pg_nmu, ck_E1 (ck_S1 pg_s1_s ck_S0) (ck_E1 (ck_S1 pg_s68_s (ck_S1 pg_s70_s (ck_S1 pg_s72_s (ck_S1 pg_s74_s (ck_S1 pg_s76_s (ck_S1 pg_s78_s (ck_S1 pg_s80_s (ck_S1 pg_s82_s (ck_S1 pg_s84_s (ck_S1 pg_s86_s (ck_S1 pg_s88_s (ck_S1 pg_s90_s (ck_S1 pg_s91_s ck_S0))))))))))))) (ck_E1 (ck_S1 pg_s92_s ck_S0) ck_E0))⟩
theorem lw_hE3 : ck_nmu pg_O ∧ ck_OkE pg_O X LX lw_E3 := ⟨pg_nmu, ck_E1 (ck_S1 pg_s93_s (ck_S1 pg_s94_s ck_S0)) (ck_E1 (ck_S1 pg_s95_s ck_S0) ck_E0)⟩
noncomputable def lw_M (M : gm_M) (b : Int) : gm_M := gm_uM (gm_uM (gm_uM (gm_uM (gm_uM (gm_uM (gm_uM (gm_uM M 226 15 0) 0 0 0) 0 1 0) 0 2 0) 0 3 b) 0 4 (0 - b)) 0 5 0) 0 6 0
theorem lw_Mx {M : gm_M} {b j : Int} {c : Nat} (h1 : ¬ c = 0) (h2 : ¬ (c = 226 ∧ j = 15)) : lw_M M b c j = M c j := by
  unfold lw_M
  rw [uM_ne (by omega), uM_ne (by omega), uM_ne (by omega), uM_ne (by omega), uM_ne (by omega), uM_ne (by omega), uM_ne (by omega), uM_ne (by omega)]
theorem lw_M0 {M : gm_M} {b : Int} : ((lw_M M b 0 0 = 0 ∧ lw_M M b 0 1 = 0) ∧ (lw_M M b 0 2 = 0 ∧ lw_M M b 0 3 = b)) ∧ (lw_M M b 0 4 = 0 - b ∧ lw_M M b 0 5 = 0) ∧ (lw_M M b 0 6 = 0 ∧ lw_M M b 226 15 = 0) := by
  refine ⟨⟨⟨?_, ?_⟩, ?_, ?_⟩, ⟨?_, ?_⟩, ?_, ?_⟩
  · unfold lw_M; rw [uM_ne (by omega), uM_ne (by omega), uM_ne (by omega), uM_ne (by omega), uM_ne (by omega), uM_ne (by omega), uM_at]
  · unfold lw_M; rw [uM_ne (by omega), uM_ne (by omega), uM_ne (by omega), uM_ne (by omega), uM_ne (by omega), uM_at]
  · unfold lw_M; rw [uM_ne (by omega), uM_ne (by omega), uM_ne (by omega), uM_ne (by omega), uM_at]
  · unfold lw_M; rw [uM_ne (by omega), uM_ne (by omega), uM_ne (by omega), uM_at]
  · unfold lw_M; rw [uM_ne (by omega), uM_ne (by omega), uM_at]
  · unfold lw_M; rw [uM_ne (by omega), uM_at]
  · unfold lw_M; rw [uM_at]
  · unfold lw_M; rw [uM_ne (by omega), uM_ne (by omega), uM_ne (by omega), uM_ne (by omega), uM_ne (by omega), uM_ne (by omega), uM_ne (by omega), uM_at]
/-- readAll of a law, from behind 'steps = 0' on: counted from here -/
theorem lw_9 {σ : Nat → Int} {K : gm_K} {R : gm_R} {M : gm_M} {L : gm_L} (hF : gm_Fx p2_O 245 K R M) (h9 : M 226 9 = 0) (h8 : M 226 8 = 0) (hL : L.length = 3) (l0 : L[0]? = some (some (gm_vr 226))) (l1 : L[1]? = some (some (gm_vi 0))) : gm_Wp X LX 32 0 0 243 9 L [] 245 K R (gm_uM M 226 15 0) (ck_Q pg_O σ lw_W9 245 K R (lw_M M (M 226 11)) (lw_l.map lw_oc)) := by
  have bb := ((gm_tyr_s hF (show gm_tyr p2_O 226 11 11 = some (0, 400) by decide +kernel)).2 11 (Int.le_refl _) (Int.le_refl _)).2
  have b1 : (0 : Int) ≤ M 226 11 := bb.1
  have b2 : M 226 11 ≤ (400 : Int) := bb.2
  clear bb
  generalize hb : M 226 11 = b at *
  obtain ⟨⟨⟨v0, v1⟩, v2, v3⟩, ⟨v4, v5⟩, v6, v15⟩ := lw_M0 (M := M) (b := b)
  have x9 : lw_M M b 226 9 = 0 := (lw_Mx (by decide) (by omega)).trans h9
  have x8 : lw_M M b 226 8 = 0 := (lw_Mx (by decide) (by omega)).trans h8
  have x11 : lw_M M b 226 11 = b := (lw_Mx (by decide) (by omega)).trans hb
  refine gm_Wp_g (M' := lw_M M b) (fun c i hc => by unfold lw_M; rw [uM_ne (by omega), uM_ne (by omega), uM_ne (by omega), uM_ne (by omega), uM_ne (by omega), uM_ne (by omega), uM_ne (by omega)]) ?_
  have hF2 : gm_Fx p2_O 245 K R (lw_M M b) := by
    refine ⟨hF.1, hF.2.1, ?_, hF.2.2.2.1, j_J_w (K := K) (fun k j k1 _ => lw_Mx (by omega) (by omega)) hF.2.2.2.2⟩
    exact gm_Ft_M (gm_Ft_M (gm_Ft_M (gm_Ft_M (gm_Ft_M (gm_Ft_M (gm_Ft_M (gm_Ft_M (O := p2_O) hF.2.2.1 (show gm_tyv p2_O 226 15 15 0 0 = true by decide +kernel) (Int.le_refl _) (Int.le_refl _)) pg_t0 (Int.le_refl _) (Int.le_refl _)) pg_t0 (Int.le_refl _) (Int.le_refl _)) pg_t0 (Int.le_refl _) (Int.le_refl _)) pg_t0 (Int.le_refl _) (Int.le_refl _)) pg_t0 (Int.le_refl _) (Int.le_refl _)) pg_t0 (Int.le_refl _) (Int.le_refl _)) pg_t0 (Int.le_refl _) (Int.le_refl _)
  have hX : jX (lw_M M b) := by
    unfold jX
    rw [v0, v1, v2, v3, v4, v5, v6, v15, x9, x11]
    exact ⟨⟨⟨rfl, by omega, by omega⟩, ⟨by decide, by decide, by decide⟩, fun h => absurd h (by decide)⟩, jD_0, jL_0⟩
  refine ck_go_s (σ0 := σ) (cuts := []) (by decide) lw_hE ck_X0 ck_l0 702 false [] 0 0 9 [some (.inr (.inr (.inl 226))), some (.inl (ck_one 0)), none] [] 245 lw_F9 σ L [] K R (lw_M M b) (fun _ _ => rfl) (fun _ h => nomatch h) ⟨p2_pg hF2 hX, ⟨by rw [hL]; rfl, fun j c hc => ?_⟩, rfl, ⟨(fun _ h => nomatch h), (fun _ h => nomatch h), fun q hq => ?_⟩, ck_fr_0⟩ lw_g9
  · rcases j with _ | _ | _ | j
    · cases hc; exact ⟨_, l0, rfl⟩
    · cases hc; exact ⟨_, l1, 0, rfl, ⟨by decide, by decide⟩, ck_one_s 0⟩
    · cases hc
    · cases hc
  · have z : ∀ {k : Nat} {j : Int}, k ≤ 245 → lw_M M b k j = 0 → ((k, j, j, ck_one 0) : Nat × Int × Int × ck_I).1 ≤ 245 ∧ ∀ i, ((k, j, j, ck_one 0) : Nat × Int × Int × ck_I).2.1 ≤ i → i ≤ ((k, j, j, ck_one 0) : Nat × Int × Int × ck_I).2.2.1 → gm_ir (lw_M M b ((k, j, j, ck_one 0) : Nat × Int × Int × ck_I).1 i) ∧ ck_gi σ ((k, j, j, ck_one 0) : Nat × Int × Int × ck_I).2.2.2 (lw_M M b ((k, j, j, ck_one 0) : Nat × Int × Int × ck_I).1 i) := fun hk h => ck_f1 hk (by rw [h]; exact ⟨by decide, by decide⟩) (by rw [h]; exact ck_one_s 0)
    have hq : q ∈ lw_F9.2.2 := hq
    unfold lw_F9 at hq
    rcases List.mem_cons.mp hq with rfl | hq
    · exact z (by decide) v0
    rcases List.mem_cons.mp hq with rfl | hq
    · exact z (by decide) v2
    rcases List.mem_cons.mp hq with rfl | hq
    · exact ck_f1 (by decide) (by rw [v3]; exact ⟨by omega, by omega⟩) (by rw [v3]; exact ⟨b1, b2, fun _ h => nomatch h⟩)
    rcases List.mem_cons.mp hq with rfl | hq
    · exact ck_f1 (by decide) (by rw [v4]; exact ⟨by omega, by omega⟩) (by rw [v4]; exact ⟨by show (-400 : Int) ≤ 0 - b; omega, by show 0 - b ≤ (0 : Int); omega, fun _ h => nomatch h⟩)
    rcases List.mem_cons.mp hq with rfl | hq
    · exact z (by decide) v5
    rcases List.mem_cons.mp hq with rfl | hq
    · exact z (by decide) v6
    rcases List.mem_cons.mp hq with rfl | hq
    · exact z (by decide) v15
    rcases List.mem_cons.mp hq with rfl | hq
    · exact z (by decide) x9
    rw [List.mem_singleton.mp hq]
    exact z (by decide) x8
/-- the copy -/
theorem lw_52 {σ σ0 : Nat → Int} {K0 : gm_K} {R0 : gm_R} {M0 : gm_M} {k : Nat} (hk : k < 13) (hσ : ∀ s, s < 100 → σ s = σ0 s) : ck_Hy pg_O X LX 283 33 lw_W 245 K0 R0 M0 (ck_Q pg_O σ0 lw_W 245 K0 R0 M0 lw_o) σ (52, lw_C k, 0, 0, 245) := by
  refine ck_cpH (v := 2) (A := 227) (B := 227) (N := 849) (wa := 395) (wb := 1243) (pc' := 85) (f := 200) (cuts := []) (ch := []) (by decide) lw_hE3 hσ ⟨by decide, by decide⟩ (by decide +kernel) (fun bc bs L K R M hS => ?_) (List.all_eq_true.mp lw_g85 k (List.mem_range.mpr hk)) (fun _ h => nomatch h)
  obtain ⟨hF, hl, -, hf, -⟩ := hS
  have hF : gm_Fx pg_O 245 K R M := hF
  have hP := pg_p2 hF
  have hl : ck_gl σ (lw_A k) L := hl
  have hf : ck_gf σ (lw_F k) 245 K R M := hf
  obtain ⟨u0, l0, g0⟩ := hl.2 0 (.inr (.inr (.inl 226))) rfl
  cases g0
  obtain ⟨u1, l1, y1, rfl, -⟩ := hl.2 1 (.inl (ck_one k)) rfl
  obtain ⟨u2, lv, x1, rfl, -, e1, e2, -⟩ := hl.2 2 (.inl (ck_one 0)) rfl
  have e1 : (0 : Int) ≤ x1 := e1
  have e2 : x1 ≤ (0 : Int) := e2
  have e3 : x1 = 0 := by omega
  subst e3
  have q2 := ((hf.2.2 (0, 2, 2, ck_one k) List.mem_cons_self).2 2 (Int.le_refl _) (Int.le_refl _)).2
  have q21 : (k : Int) ≤ M 0 2 := q2.1
  have q22 : M 0 2 ≤ (k : Int) := q2.2.1
  have q4 := ((hf.2.2 (227, 1244, 1244, ck_one k) (List.mem_cons_of_mem _ List.mem_cons_self)).2 1244 (Int.le_refl _) (Int.le_refl _)).2
  have q41 : (k : Int) ≤ M 227 1244 := q4.1
  have q42 : M 227 1244 ≤ (k : Int) := q4.2.1
  have kA := (md_kd hP md_o.1.2).2
  obtain ⟨hJ, hX⟩ := hF.2.2.2.2
  obtain ⟨-, ⟨b1, b2, b3⟩, -⟩ := hX.1
  have hT : jT (fun j => M 227 (1244 + j)) := jT_of (c := M 0 2) (e := M 0 1) (by omega) (by show M 227 (1244 + 0) ≤ M 0 2; rw [Int.add_zero]; omega) hX.2.2
  have hgx : ∀ j, ¬ (395 ≤ j ∧ j < 395 + 849) → gm_cpy M 227 227 395 1244 849 227 j = M 227 j := fun j hj => gm_cpy_out hj
  have hJ2 : j_J p2_ty K (gm_cpy M 227 227 395 1244 849) := by
    unfold j_J at hJ ⊢
    rw [gm_cpy_f (by decide : ¬ 228 = 227), gm_cpy_f (by decide : ¬ 229 = 227), gm_cpy_f (by decide : ¬ 230 = 227)]
    refine j_law hJ (fun j h1 h2 => hgx j (by omega)) (jT_cg (fun j h1 h2 => ?_) hT)
    show gm_cpy M 227 227 395 1244 849 227 (395 + j) = M 227 (1244 + j)
    exact gm_cpy_at ⟨by omega, by omega⟩ (by omega)
  refine ⟨395, 1244, ⟨by decide, by decide⟩, p2_pg (gm_Fx_cpy hP (cp_tc_s hP lw_tc) hJ2) (jX_cg (fun c r hr j j1 j2 => ?_) hX), fun Q hx => ?_⟩
  · by_cases e : c = 227
    · subst e
      have := of_decide_eq_true (List.all_eq_true.mp (show (jg_e 227).all (fun r => decide (1247 ≤ r.1)) = true by decide +kernel) r hr)
      exact hgx j (by omega)
    · exact gm_cpy_ne e
  · exact cp_lp (iv := .iload_n 2) (v := 2) (ixA := 13) (ixB := 13) (jA := 1) (jB := 1) (A := 227) (B := 227) (mo := 226) (p := 52) (qA := 68) (qB := 77) (N := 849) (a := 395) (b := 1244) (offe := 29) (offb := (-30)) (by decide) (md_mo hP) (md_kd hP md_o.1.2).1 (md_kd hP md_o.1.2).1 (md_rf hP md_r.1.1) (md_rf hP md_r.1.1) (by decide +kernel) (by decide +kernel) (by decide +kernel) (by decide +kernel) ⟨by omega, ⟨by omega, by omega⟩, ⟨by omega, by omega⟩, by omega, by omega⟩ (fun _ => by decide) (by decide) (by decide +kernel) l0 lv ⟨rfl, rfl⟩ ⟨gm_vi y1, l1, by simp [gm_sort]⟩ (by decide +kernel) (by decide +kernel) (by decide +kernel) (by decide) (by decide +kernel) (by decide +kernel) (cp_sg_ci (iv := .iload_n 2) (c := 395) lv ⟨rfl, rfl⟩ (by decide +kernel) (by decide +kernel) (by decide +kernel) (by decide +kernel)) (by decide +kernel) (by decide +kernel) (cp_sg_ci (iv := .iload_n 2) (c := 1244) lv ⟨rfl, rfl⟩ (by decide +kernel) (by decide +kernel) (by decide +kernel) (by decide +kernel)) (by decide +kernel) (by decide +kernel) (by decide +kernel) (by decide +kernel) (by decide) (by decide) hx
theorem lw_fr {V W : List (Nat × Int × Int) × List (Nat × Int)} {K0 K : gm_K} {R0 R : gm_R} {M0 M : gm_M} (h : ck_fr V 245 K0 R0 M0 245 K R M) (hw : V.1.all (fun w => ck_okW W.1 245 w.1 w.2.1 w.2.2) = true) (hr : V.2.all (fun w => ck_okR W.2 245 w.1 w.2) = true) : ck_fr W 245 K0 R0 M0 245 K R M := ck_fr_tr ck_fr_0 h hw hr
theorem lw_S_s : ck_Ok p2_O X LX 283 lw_S := by
  intro d σ vs n K R M hd hn hvs hnm hF hf
  obtain ⟨_, _, rfl, rfl, rfl⟩ := hvs
  have hn : n = 245 := hn
  subst hn
  refine gm_Wp_wk (d' := 33) (bc' := 0) (bs' := 0) hd (Nat.le_refl _) (Nat.le_refl _) ?_
  refine gm_sz (gm_p_load (pc := 0) (i := .aload_n 0) (sr := 2) (j := 0) (by decide +kernel) rfl rfl rfl) ?_
  refine gm_sz (gm_p_const (pc := 1) (i := .iconst 0) (v := gm_vi 0) (by decide +kernel) (by decide +kernel)) ?_
  refine gm_c_virt (k := 226) (ci := 11) (mj := 243) (ix := 296) (pc := 2) (as := [gm_vi 0]) (st := []) (d' := 32) (bc' := 0) (bs' := 0) (by decide +kernel) (by decide +kernel) (by decide +kernel) (by decide +kernel) (md_mo hF).1 (md_mo hF).2 (by decide) (by decide +kernel) (show 1 = gm_na 243 by decide +kernel) (fun v hv => by rw [List.mem_singleton.mp hv]; simp [gm_sort]) (show 1 + 1 ≤ gm_ml 243 by decide +kernel) (Nat.le_of_ble_eq_true rfl) (by decide) (Nat.zero_le _) (Nat.zero_le _) ?_
  refine gm_sz (gm_p_load (pc := 0) (i := .aload_n 0) (sr := 2) (j := 0) (by decide +kernel) rfl rfl rfl) ?_
  refine gm_c_virt (k := 226) (ci := 11) (mj := 244) (ix := 289) (pc := 1) (as := []) (st := []) (d' := 0) (bc' := 0) (bs' := 0) (by decide +kernel) (by decide +kernel) (by decide +kernel) (by decide +kernel) (md_mo hF).1 (md_mo hF).2 (by decide) (by decide +kernel) (show 0 = gm_na 244 by decide +kernel) (fun v hv => nomatch hv) (show 0 + 1 ≤ gm_ml 244 by decide +kernel) (Nat.le_of_ble_eq_true rfl) (by decide) (Nat.zero_le _) (Nat.zero_le _) ?_
  refine gm_Wp_mono (fun o n K1 R1 M1 h => ?_) (lw_us_s 0 (ck_sn p2_O (fun _ => 0) M) [gm_vr 226] 245 K R M (Nat.le_refl _) rfl ⟨_, _, rfl, rfl, rfl⟩ (ck_sn_s p2_nmu) hF ⟨(fun _ h => nomatch h), (fun _ h => nomatch h), (fun _ h => nomatch h)⟩)
  obtain ⟨f1, f2, oc, f3, f4, f5, f6⟩ := h
  rw [List.mem_singleton.mp f3] at f4 f5 f6
  have f5 : n = 245 := f5
  subst f5
  have r9 := ((f6.2.2 (226, 9, 9, ck_one 0) List.mem_cons_self).2 9 (Int.le_refl _) (Int.le_refl _)).2
  have r91 : (0 : Int) ≤ M1 226 9 := r9.1
  have r92 : M1 226 9 ≤ (0 : Int) := r9.2.1
  have r8 := ((f6.2.2 (226, 8, 8, ck_one 0) (List.mem_cons_of_mem _ List.mem_cons_self)).2 8 (Int.le_refl _) (Int.le_refl _)).2
  have r81 : (0 : Int) ≤ M1 226 8 := r8.1
  have r82 : M1 226 8 ≤ (0 : Int) := r8.2.1
  have fr1 : ck_fr lw_W 245 K R M 245 K1 R1 M1 := lw_fr f2 (by decide) (by decide)
  rcases o with (_ | v) | x
  case inl.some => exact absurd f4 id
  case inr => exact absurd f4 id
  show gm_Wp X LX 32 0 0 243 4 (gm_ent 243 [gm_vr 226, gm_vi 0]) [] 245 K1 R1 M1 _
  refine gm_sz (gm_p_load (pc := 4) (i := .aload_n 0) (sr := 2) (j := 0) (by decide +kernel) rfl rfl rfl) ?_
  refine gm_sz (gm_p_const (pc := 5) (i := .iconst 0) (v := gm_vi 0) (by decide +kernel) (by decide +kernel)) ?_
  refine gm_sz (gm_p_puti (pc := 6) (ix := 224) (ci := 11) (j := 15) (by decide +kernel) (md_mo f1).1 (md_mo f1).2 (by decide +kernel) (by decide +kernel) (Or.inl (by decide +kernel))) ?_
  refine gm_Wp_mono (fun o n K2 R2 M2 h => ?_) (lw_9 (σ := σ) f1 (by omega) (by omega) rfl rfl rfl)
  obtain ⟨g1, g2, oc, g3, g4, g5, g6⟩ := h
  obtain ⟨v, hv, rfl⟩ := List.mem_map.mp g3
  have g5 : n = 245 := g5
  subst g5
  have fr2 : ck_fr lw_W 245 K R M 245 K1 R1 (lw_M M1 (M1 226 11)) := by
    have w : ∀ j, 0 ≤ j → j ≤ 6 → ck_okW lw_W.1 245 0 0 6 = true := fun _ _ _ => by decide
    exact ck_fr_M (lo := 0) (hi := 6) (ck_fr_M (lo := 0) (hi := 6) (ck_fr_M (lo := 0) (hi := 6) (ck_fr_M (lo := 0) (hi := 6) (ck_fr_M (lo := 0) (hi := 6) (ck_fr_M (lo := 0) (hi := 6) (ck_fr_M (lo := 0) (hi := 6) (ck_fr_M (lo := 15) (hi := 15) fr1 (by decide) (by decide) (by decide)) (by decide) (by decide) (by decide)) (by decide) (by decide) (by decide)) (by decide) (by decide) (by decide)) (by decide) (by decide) (by decide)) (by decide) (by decide) (by decide)) (by decide) (by decide) (by decide)) (by decide) (by decide) (by decide)
  have fr3 : ck_fr lw_W 245 K R M 245 K2 R2 M2 := ck_fr_tr fr2 g2 (by decide) (by decide)
  rcases o with (_ | u) | x
  case inl.none => exact absurd g4 id
  case inr => exact absurd g4 id
  obtain ⟨x, rfl, gx, gi⟩ := g4
  have hv2 : v = -1 ∨ ∃ k : Nat, k < 13 ∧ v = (k : Int) := by
    have := List.all_eq_true.mp (show lw_l.all (fun v => decide (v = -1 ∨ (0 ≤ v ∧ v < 13))) = true by decide) v hv
    rcases of_decide_eq_true this with h | h
    · exact Or.inl h
    · exact Or.inr ⟨v.toNat, by omega, by omega⟩
  refine gm_Wp_mono (Q := ck_Q pg_O σ lw_W 245 K R M lw_o) (fun o n K R M h => ⟨pg_p2 h.1, h.2⟩) ?_
  show gm_Wp X LX 33 0 0 283 5 (gm_ent 283 [gm_vr 226]) [gm_vi x] 245 K2 R2 M2 _
  have hst : ck_St pg_O σ lw_W 245 K R M [some (.inr (.inr (.inl 226))), none, none] [(.inl (ck_one v), none)] (lw_f v) (gm_ent 283 [gm_vr 226]) [gm_vi x] 245 K2 R2 M2 := by
    refine ⟨g1, ⟨rfl, fun j c hc => ?_⟩, ⟨_, _, rfl, ⟨⟨x, rfl, gx, gi⟩, trivial⟩, rfl⟩, g6, fr3⟩
    rcases j with _ | _ | _ | j
    · cases hc; exact ⟨_, rfl, rfl⟩
    · cases hc
    · cases hc
    · cases hc
  rcases hv2 with rfl | ⟨k, hk, rfl⟩
  · exact ck_go_s (σ0 := σ) (cuts := []) (by decide) lw_hE3 ck_X0 ck_l0 200 false [] 0 0 5 _ _ 245 _ σ _ _ K2 R2 M2 (fun _ _ => rfl) (fun _ h => nomatch h) hst lw_gm
  · refine ck_go_s (σ0 := σ) (cuts := [((52 : Nat), lw_C k)]) (List.all_eq_true.mp lw_cu k (List.mem_range.mpr hk)) lw_hE3 ck_X0 ck_l0 200 false [(52, lw_C k, 0, 0, 245)] 0 0 5 _ _ 245 _ σ _ _ K2 R2 M2 (fun _ _ => rfl) (fun z hz => ?_) hst (List.all_eq_true.mp lw_g5 k (List.mem_range.mpr hk))
    rw [List.mem_singleton.mp hz]
    exact ⟨List.mem_cons_self, lw_52 hk (fun _ _ => rfl)⟩
end LW
end
/-! 76a.sub -/
section
/-! A CALL IN A PART OF THE WORLD: the callee sees some of the cells, under numbers of its own; the others stay. -/
/-- cells 1 to n1 of the one are cells of the other, under the numbers ρ -/
noncomputable def gm_sbw (ti : Nat → ClassId) (ρ : Nat → Nat) (n1 : Nat) (α1 : Nat → Nat) (K1 : gm_K) (R1 : gm_R) (M1 : gm_M) (n : Nat) (α : Nat → Nat) (K : gm_K) (R : gm_R) (M : gm_M) : Prop :=
  ∀ i, 1 ≤ i → i ≤ n1 → (1 ≤ ρ i ∧ ρ i ≤ n) ∧ α1 i = α (ρ i) ∧ gm_en ti α1 K1 R1 M1 i = gm_en ti α K R M (ρ i)
/-- behind it: the callee's cells, the others, the new ones -/
noncomputable def gm_bgw (ti : Nat → ClassId) (ρ : Nat → Nat) (n1 n1' : Nat) (α1 : Nat → Nat) (K1 : gm_K) (R1 : gm_R) (M1 : gm_M) (n n' : Nat) (α : Nat → Nat) (K : gm_K) (R : gm_R) (M : gm_M) (α' : Nat → Nat) (K' : gm_K) (R' : gm_R) (M' : gm_M) : Prop :=
  (n1 ≤ n1' ∧ n' = n + (n1' - n1)) ∧ (∀ i, 1 ≤ i → i ≤ n1 → α' (ρ i) = α1 i ∧ gm_en ti α' K' R' M' (ρ i) = gm_en ti α1 K1 R1 M1 i) ∧ (∀ k, 1 ≤ k → k ≤ n → (∀ i, 1 ≤ i → i ≤ n1 → ¬ ρ i = k) → α' k = α k ∧ gm_en ti α' K' R' M' k = gm_en ti α K R M k) ∧ ∀ t, 1 ≤ t → t ≤ n1' - n1 → α' (n + t) = α1 (n1 + t) ∧ gm_en ti α' K' R' M' (n + t) = gm_en ti α1 K1 R1 M1 (n1 + t)
theorem gm_wl_get {ti : Nat → ClassId} {α : Nat → Nat} {n : Nat} {K : gm_K} {R : gm_R} {M : gm_M} {i : Nat} {q : Nat × va_E} (h : (gm_wl ti α n K R M)[i]? = some q) : i < n ∧ q = (α (i + 1), gm_en ti α K R M (i + 1)) := by
  have hl := (List.getElem?_eq_some_iff.mp h).1
  rw [gm_wl_len] at hl
  have := gm_wl_at (ti := ti) (α := α) (n := n) (K := K) (R := R) (M := M) (k := i + 1) (by omega) (by omega)
  rw [Nat.add_sub_cancel, h] at this
  cases this
  exact ⟨hl, rfl⟩
theorem gm_sbw_P {D : va_G} {ti : Nat → ClassId} {ρ : Nat → Nat} {n1 n : Nat} {α1 α : Nat → Nat} {K1 K : gm_K} {R1 R : gm_R} {M1 M : gm_M} {H : Heap} (hs : gm_sbw ti ρ n1 α1 K1 R1 M1 n α K R M) (hP : va_P D gm_cs (gm_wl ti α n K R M) H) : va_P D gm_cs (gm_wl ti α1 n1 K1 R1 M1) H := by
  intro k q hq
  obtain ⟨h1, rfl⟩ := gm_wl_get hq
  obtain ⟨h2, h3, h4⟩ := hs (k + 1) (by omega) (by omega)
  rw [h3, h4]
  exact hP (ρ (k + 1) - 1) _ (gm_wl_at h2.1 h2.2)
theorem gm_sbw_D {A : Nat → Prop} {ti : Nat → ClassId} {ρ : Nat → Nat} {n1 n : Nat} {α1 α : Nat → Nat} {K1 K : gm_K} {R1 R : gm_R} {M1 M : gm_M} (hs : gm_sbw ti ρ n1 α1 K1 R1 M1 n α K R M) (hi : ∀ i j, 1 ≤ i → i ≤ n1 → 1 ≤ j → j ≤ n1 → ρ i = ρ j → i = j) (hD : va_D A (gm_wl ti α n K R M)) : va_D A (gm_wl ti α1 n1 K1 R1 M1) := by
  refine ⟨fun i j p q hp hq e => ?_, fun k q hq => ?_⟩
  · obtain ⟨i1, rfl⟩ := gm_wl_get hp
    obtain ⟨j1, rfl⟩ := gm_wl_get hq
    obtain ⟨a2, a3, -⟩ := hs (i + 1) (by omega) (by omega)
    obtain ⟨b2, b3, -⟩ := hs (j + 1) (by omega) (by omega)
    have e : α1 (i + 1) = α1 (j + 1) := e
    rw [a3, b3] at e
    have := hD.1 (ρ (i + 1) - 1) (ρ (j + 1) - 1) _ _ (gm_wl_at a2.1 a2.2) (gm_wl_at b2.1 b2.2) e
    have := hi (i + 1) (j + 1) (by omega) (by omega) (by omega) (by omega) (by omega)
    omega
  · obtain ⟨h1, rfl⟩ := gm_wl_get hq
    obtain ⟨h2, h3, -⟩ := hs (k + 1) (by omega) (by omega)
    show A (α1 (k + 1))
    rw [h3]
    exact hD.2 (ρ (k + 1) - 1) _ (gm_wl_at h2.1 h2.2)
/-- a big cell is one of the callee's, another, or new -/
theorem gm_bgw_at {ti : Nat → ClassId} {ρ : Nat → Nat} {n1 n1' n n' : Nat} {α1 α α' : Nat → Nat} {K1 K K' : gm_K} {R1 R R' : gm_R} {M1 M M' : gm_M} (hb : gm_bgw ti ρ n1 n1' α1 K1 R1 M1 n n' α K R M α' K' R' M') {k : Nat} (h1 : 1 ≤ k) (h2 : k ≤ n') : (∃ i, (1 ≤ i ∧ i ≤ n1') ∧ (α' k = α1 i ∧ gm_en ti α' K' R' M' k = gm_en ti α1 K1 R1 M1 i) ∧ ((i ≤ n1 ∧ ρ i = k) ∨ (n1 < i ∧ k = n + (i - n1)))) ∨ ((k ≤ n ∧ ∀ i, 1 ≤ i → i ≤ n1 → ¬ ρ i = k) ∧ α' k = α k ∧ gm_en ti α' K' R' M' k = gm_en ti α K R M k) := by
  obtain ⟨⟨e1, e2⟩, b1, b2, b3⟩ := hb
  by_cases hk : k ≤ n
  · by_cases hi : ∃ i, (1 ≤ i ∧ i ≤ n1) ∧ ρ i = k
    · obtain ⟨i, ⟨i1, i2⟩, rfl⟩ := hi
      exact Or.inl ⟨i, ⟨i1, by omega⟩, b1 i i1 i2, Or.inl ⟨i2, rfl⟩⟩
    · have hi2 : ∀ i, 1 ≤ i → i ≤ n1 → ¬ ρ i = k := fun i i1 i2 e => hi ⟨i, ⟨i1, i2⟩, e⟩
      exact Or.inr ⟨⟨hk, hi2⟩, b2 k h1 hk hi2⟩
  · have := b3 (k - n) (by omega) (by omega)
    rw [show n + (k - n) = k by omega] at this
    exact Or.inl ⟨n1 + (k - n), ⟨by omega, by omega⟩, this, Or.inr ⟨by omega, by omega⟩⟩
theorem gm_bgw_PD {D : va_G} {A0 : Nat → Prop} {ti : Nat → ClassId} {ρ : Nat → Nat} {n1 n1' n n' : Nat} {α0 α1 α α' : Nat → Nat} {K0 K1 K K' : gm_K} {R0 R1 R R' : gm_R} {M0 M1 M M' : gm_M} {H H1 : Heap} (hs : gm_sbw ti ρ n1 α0 K0 R0 M0 n α K R M) (hb : gm_bgw ti ρ n1 n1' α1 K1 R1 M1 n n' α K R M α' K' R' M') (hP : va_P D gm_cs (gm_wl ti α n K R M) H) (hD : va_D A0 (gm_wl ti α n K R M))
    (hk : ∀ q : Nat, q < H.size → ¬ va_A (gm_wl ti α0 n1 K0 R0 M0) H.size q → H1[q]? = H[q]?) (hF : ∀ q, va_A (gm_wl ti α0 n1 K0 R0 M0) H.size q → A0 q) (hP1 : va_P D gm_cs (gm_wl ti α1 n1' K1 R1 M1) H1) (hD1 : va_D (va_A (gm_wl ti α0 n1 K0 R0 M0) H.size) (gm_wl ti α1 n1' K1 R1 M1)) : va_P D gm_cs (gm_wl ti α' n' K' R' M') H1 ∧ va_D A0 (gm_wl ti α' n' K' R' M') := by
  have apart : ∀ k, 1 ≤ k → k ≤ n → (∀ i, 1 ≤ i → i ≤ n1 → ¬ ρ i = k) → α k < H.size ∧ ¬ va_A (gm_wl ti α0 n1 K0 R0 M0) H.size (α k) := by
    intro k k1 k2 hi
    have hat := gm_wl_at (ti := ti) (α := α) (n := n) (K := K) (R := R) (M := M) k1 k2
    have hl := (hP (k - 1) _ hat).lt
    refine ⟨hl, fun h => ?_⟩
    rcases h with ⟨j, e, h⟩ | h
    · obtain ⟨j1, j2⟩ := gm_wl_get h
      have j3 : α k = α0 (j + 1) := congrArg Prod.fst j2
      obtain ⟨a1, a2, -⟩ := hs (j + 1) (by omega) (by omega)
      rw [a2] at j3
      have := hD.1 (k - 1) (ρ (j + 1) - 1) _ _ hat (gm_wl_at a1.1 a1.2) j3
      exact hi (j + 1) (by omega) (by omega) (by omega)
    · exact absurd hl (Nat.not_lt.mpr h)
  refine ⟨fun k q hq => ?_, fun x y p q hp hq e => ?_, fun k q hq => ?_⟩
  · obtain ⟨h1, rfl⟩ := gm_wl_get hq
    rcases gm_bgw_at hb (k := k + 1) (by omega) (by omega) with ⟨i, i1, ⟨i2, i3⟩, -⟩ | ⟨⟨k1, k2⟩, k3, k4⟩
    · rw [i2, i3]
      exact hP1 (i - 1) _ (gm_wl_at i1.1 i1.2)
    · rw [k3, k4]
      obtain ⟨g1, g2⟩ := apart (k + 1) (by omega) k1 k2
      have hat := gm_wl_at (ti := ti) (α := α) (n := n) (K := K) (R := R) (M := M) (k := k + 1) (by omega) k1
      exact (hP _ _ hat).kept (hk _ g1 g2)
  · obtain ⟨x1, rfl⟩ := gm_wl_get hp
    obtain ⟨y1, rfl⟩ := gm_wl_get hq
    have e : α' (x + 1) = α' (y + 1) := e
    rcases gm_bgw_at hb (k := x + 1) (by omega) (by omega) with ⟨i, i1, ⟨i2, -⟩, i4⟩ | ⟨⟨k1, k2⟩, k3, -⟩
    · rcases gm_bgw_at hb (k := y + 1) (by omega) (by omega) with ⟨j, j1, ⟨j2, -⟩, j4⟩ | ⟨⟨l1, l2⟩, l3, -⟩
      · rw [i2, j2] at e
        have := hD1.1 (i - 1) (j - 1) _ _ (gm_wl_at i1.1 i1.2) (gm_wl_at j1.1 j1.2) e
        have hij : i = j := by omega
        subst hij
        rcases i4 with ⟨i5, i6⟩ | ⟨i5, i6⟩
        · rcases j4 with ⟨j5, j6⟩ | ⟨j5, j6⟩
          · omega
          · omega
        · rcases j4 with ⟨j5, j6⟩ | ⟨j5, j6⟩
          · omega
          · omega
      · rw [i2, l3] at e
        have h1 := hD1.2 (i - 1) _ (gm_wl_at i1.1 i1.2)
        have h1 : va_A (gm_wl ti α0 n1 K0 R0 M0) H.size (α1 i) := h1
        rw [e] at h1
        exact absurd h1 (apart (y + 1) (by omega) l1 l2).2
    · rcases gm_bgw_at hb (k := y + 1) (by omega) (by omega) with ⟨j, j1, ⟨j2, -⟩, j4⟩ | ⟨⟨l1, l2⟩, l3, -⟩
      · rw [k3, j2] at e
        have h1 := hD1.2 (j - 1) _ (gm_wl_at j1.1 j1.2)
        have h1 : va_A (gm_wl ti α0 n1 K0 R0 M0) H.size (α1 j) := h1
        rw [← e] at h1
        exact absurd h1 (apart (x + 1) (by omega) k1 k2).2
      · rw [k3, l3] at e
        have := hD.1 x y _ _ (gm_wl_at (k := x + 1) (by omega) k1) (gm_wl_at (k := y + 1) (by omega) l1) e
        omega
  · obtain ⟨h1, rfl⟩ := gm_wl_get hq
    show A0 (α' (k + 1))
    rcases gm_bgw_at hb (k := k + 1) (by omega) (by omega) with ⟨i, i1, ⟨i2, -⟩, -⟩ | ⟨⟨k1, k2⟩, k3, -⟩
    · rw [i2]
      exact hF _ (hD1.2 (i - 1) _ (gm_wl_at i1.1 i1.2))
    · rw [k3]
      exact hD.2 _ _ (gm_wl_at (k := k + 1) (by omega) k1)
/-- what a callee in a part of the world owes its caller -/
noncomputable def gm_owe (X : Int → Int) (LX d bc bs mi pc : Nat) (L : gm_L) (st : List gm_V) (ρ : Nat → Nat) (f : (Nat → Nat) → Nat → Nat) (n1 n : Nat) (K : gm_K) (R : gm_R) (M : gm_M) (Q : gm_Q) : gm_Q := fun o n1' K1' R1' M1' => ∃ u, o = .inl u ∧ (u = none ∨ ∃ x, u = some (gm_vi x)) ∧ ∃ (n' : Nat) (K' : gm_K) (R' : gm_R) (M' : gm_M), (∀ (ti : Nat → ClassId) (α α1' : Nat → Nat), gm_xt (f α) n1 α1' n1' → ∃ α', gm_xt α n α' n' ∧ gm_bgw ti ρ n1 n1' α1' K1' R1' M1' n n' α K R M α' K' R' M') ∧ gm_Rv n' R' ∧ gm_Wp X LX d bc bs mi pc L (u.toList ++ st) n' K' R' M' Q
section SUB
variable {X : Int → Int} {LX d bc bs mi pc : Nat} {L : gm_L} {st : List gm_V} {n : Nat} {K : gm_K} {R : gm_R} {M : gm_M} {Q : gm_Q}
theorem gm_tailS {p : Program} {l : Launch} {e : Env} {Rm : Room} {s : State} {m : MethodId} {args : Array Value} {below : List Frame} {meth : Method} {c : Code} {H : Heap} {locs : List Loc} {cells slots bc' bs' mc ms n0 n1 : Nat} {D : va_G} {ti : Nat → ClassId} {adK adV α α0 : Nat → Nat} {A : Nat → Prop} {a : Array Value} {ls : Array Slot} {sv0 sv : List Value} {ρ : Nat → Nat} {f : (Nat → Nat) → Nat → Nat} {K1 : gm_K} {R1 : gm_R} {M1 : gm_M}
    (hs : gm_sbw ti ρ n1 (f α) K1 R1 M1 n α K R M) (hcx : gm_Cx mi p l s m args meth c) (hev : gm_Ev X LX adK adV A s) (hd : d ≤ Rm.frames) (hd2 : d * 300 ≤ Rm.locals) (hmc : mc ≤ Rm.cells) (hms : ms ≤ Rm.slots) (hA : ∀ q, s.heap.size ≤ q → A q) (hxt : gm_xt α0 n0 α n) (hb1 : bc' ≤ bc) (hb2 : bs' ≤ bs) (hc1 : cells + bc ≤ mc) (hc2 : slots + bs ≤ ms) (hP : va_P D gm_cs (gm_wl ti α n K R M) H) (hD : va_D A (gm_wl ti α n K R M)) (hSv : va_S A s.heap H locs) (hL : gm_lr α adK n (gm_ml mi) L ls) (hS : gm_sr α adK n st sv) (hA1 : ∀ q, va_A (gm_wl ti (f α) n1 K1 R1 M1) H.size q → A q)
    (hr : vx_Run p l e Rm s m args below meth c H locs cells slots bc' bs' (F0 m pc ls sv0) sv (gm_QC D ti adK (va_A (gm_wl ti (f α) n1 K1 R1 M1) H.size) (f α) n1 (gm_owe X LX d (bc - bc') (bs - bs') mi (pc + 3) L st ρ f n1 n K R M Q) a) (gm_XC D ti (va_A (gm_wl ti (f α) n1 K1 R1 M1) H.size) (f α) n1 (gm_owe X LX d (bc - bc') (bs - bs') mi (pc + 3) L st ρ f n1 n K R M Q)) (va_A (gm_wl ti (f α) n1 K1 R1 M1) H.size)) :
    W p l e Rm s m args below meth c H locs cells slots (vx_MQ below (gm_QC D ti adK A α0 n0 Q) (gm_XC D ti A α0 n0 Q) args s mc ms A) (F0 m pc ls sv0) := by
  intro T hT Xs
  rcases hr T hT Xs with ⟨v, st₀, t, T', L9, h0, X', hL9, e1, e2, ⟨⟨v', u, α1', n1', K1', R1', M1', hv, ho, hq, hx9, hk, hp, hd9, hrv⟩, hF⟩, stp⟩ | ⟨q, st₀, t, T', L9, E, ce, h0, X', hL9, e1, e2, ⟨⟨x, α', n', K', R', M', rfl, hx5, hq, -⟩, hF⟩, hce, hcv, hcl, stp⟩
  · cases hv
    obtain ⟨k1, k2, k3⟩ := vx_keep h0 e1 hSv (fun q _ h => hA1 q h) hA1 hL9 hF
    have hvm : s.vm.Alike t.vm := by rw [← e2]; exact X'.warmed.alike
    obtain ⟨u', hu, hui, n', K', R', M', hbig, hrv', hw⟩ := hq
    cases hu
    obtain ⟨α', hxt', hb⟩ := hbig ti α α1' hx9
    obtain ⟨g1, g2⟩ := gm_bgw_PD hs hb hP hD k2 hA1 (by rw [e1]; exact hp) hd9
    obtain ⟨t2, a1, b1⟩ := hw p l e Rm s m args below meth c D ti adK adV A α0 n0 mc ms hcx hev hd hd2 hmc hms hA α' T'.heap (locs ++ L9) (cells + bc') (slots + bs') ls (v.toList ++ sv) (hxt.trans hxt') (by omega) (by omega) ⟨va_K.moved hvm.symm hk, g1, g2, k3, hrv'⟩ (gm_lr_ext hxt' hL) (by
      rcases hui with rfl | ⟨x, rfl⟩
      · cases ho; exact gm_sr_ext hxt' hS
      · obtain ⟨w, rfl, hw⟩ := ho; exact ⟨w, sv, rfl, hw, gm_sr_ext hxt' hS⟩) T' rfl X'
    exact ⟨t2, stp t2 a1, b1⟩
  · obtain ⟨u, hu, -⟩ := hq
    cases hu
theorem gm_sr_i {α1 adK : Nat → Nat} {n1 : Nat} : ∀ {as : List gm_V} {ws : List Value}, gm_sr α1 adK n1 as ws → (∀ v ∈ as, ∃ x, v = gm_vi x) → ∀ {α : Nat → Nat} {n : Nat}, gm_sr α adK n as ws := by
  intro as
  induction as with
  | nil => intro ws h _ α n; exact h
  | cons v as ih =>
    intro ws h hi α n
    obtain ⟨w, ws', rfl, hw, h⟩ := h
    obtain ⟨x, rfl⟩ := hi v List.mem_cons_self
    exact ⟨w, ws', rfl, hw, ih h (fun v hv => hi v (List.mem_cons_of_mem _ hv))⟩
theorem gm_c_virtS {ix mj k1 ci d' bc' bs' n1 : Nat} {as : List gm_V} {ρ : Nat → Nat} {f : (Nat → Nat) → Nat → Nat} {K1 : gm_K} {R1 : gm_R} {M1 : gm_M} (hs : ∀ (ti : Nat → ClassId) (α : Nat → Nat), gm_sbw ti ρ n1 (f α) K1 R1 M1 n α K R M) (hinj : ∀ i j, 1 ≤ i → i ≤ n1 → 1 ≤ j → j ≤ n1 → ρ i = ρ j → i = j) (hrv1 : gm_Rv n1 R1) (hk1 : 1 ≤ k1 ∧ k1 ≤ n1) (hK1 : (K1 k1).1 = ci + 4) (h : gm_at mi pc = some (.invokevirtual ix)) (hc : gm_cal (gm_ow mi) ix = some (0, mj)) (hmx : gm_ow mj ≠ gm_mxi) (hci : ci < 12) (hcn : gm_cn ci = (gm_mn mj).cls) (hna : as.length = gm_na mj) (has : ∀ v ∈ as, ∃ x, v = gm_vi x) (hlen : as.length + 1 ≤ gm_ml mj) (hst : (st.map gm_cat).sum ≤ 8) (hd' : d' + 1 ≤ d) (hb1 : bc' ≤ bc) (hb2 : bs' ≤ bs)
    (hW : gm_Wp X LX d' bc' bs' mj 0 (gm_ent mj (gm_vr k1 :: as)) [] n1 K1 R1 M1 (gm_owe X LX d (bc - bc') (bs - bs') mi (pc + 3) L st ρ f n1 n K R M Q)) : gm_Wp X LX d bc bs mi pc L (as.reverse ++ gm_vr (ρ k1) :: st) n K R M Q := by
  intro p l e Rm s m args below meth c D ti adK adV A α0 n0 mc ms hcx hev hd hd2 hmc hms hA α H locs cells slots ls sv hxt hc1 hc2 hR hL hS
  obtain ⟨w1, w2, rfl, hw1, w, sv2, rfl, ⟨rfl, hkn⟩, hS2⟩ := gm_sr_app hS
  have hdg := gm_dec hcx h rfl
  obtain ⟨hx, hb, hml, hown, -, -, hts, -, hl, -⟩ := id hcx
  obtain ⟨hKn, hP, hD, hSv, hRv⟩ := id hR
  obtain ⟨hj, i1, i2, i3, -, -, i6, -⟩ := gm_cal_spec hc
  obtain ⟨j1, -, j3, j4, j5, -⟩ := gm_mck_spec hj
  have hs := hs ti α
  obtain ⟨s1, s2, s3⟩ := hs k1 hk1.1 hk1.2
  have hP1 := gm_sbw_P hs hP
  have hD1 := gm_sbw_D hs hinj hD
  have hA1 := gm_sub_A hD1 hSv hA
  have hcat : ∀ v ∈ as, ¬ gm_sort v = 1 := fun v hv => by obtain ⟨x, rfl⟩ := has v hv; simp [gm_sort]
  have hvs : gm_sr (f α) adK n1 (gm_vr k1 :: as) (Value.ref (f α k1) :: w1.reverse) := ⟨_, _, rfl, ⟨(gm_rf_pos hk1.1 (Nat.lt_of_le_of_lt hk1.2 hrv1.1)).symm, Or.inl hk1.2⟩, by have := gm_sr_rev (gm_sr_i hw1 (fun v hv => has v (by simpa using hv)) (α := f α) (n := n1)); rwa [List.reverse_reverse] at this⟩
  have hM := gm_met (adV := adV) (ti := ti) (D := D) hj hmx (i6 (by omega)) l hl hW hvs (by intro v hv; rcases List.mem_cons.mp hv with rfl | hv; exact (by simp [gm_sort]); exact hcat v hv) (by simpa using hlen) hP1 (hD1.self (sz := H.size)) hrv1 (fun q h => Or.inr h)
  have he := gm_wl_at (ti := ti) (α := f α) (K := K1) (R := R1) (M := M1) hk1.1 hk1.2
  rw [gm_en_obj hK1] at he
  obtain ⟨T, N, hcs, -⟩ := gm_cs_get hci
  have hcode : gm_cwd mj = .code (gm_mn mj) (gm_bc mj) (gm_ml mj) (gm_rt mj) := by unfold gm_cwd; rw [if_pos (i6 (by omega))]
  have hwl : w1.length = as.length := by have := (gm_sr_at hw1).1; simpa using this
  have hG : GoodIn gm_T (wsV (gm_rn (gm_ow mi)) ix (gm_mn mj).cls (gm_mn mj) (gm_cwd mj :: gm_T)) := by
    intro w hw
    refine ⟨?_, ?_⟩
    · simp only [wsV, List.cons_append, List.nil_append, List.mem_cons] at hw
      rcases hw with rfl | rfl | rfl | rfl | rfl | hw
      · exact i2 (by omega)
      · exact (i3 rfl).1
      · exact (i3 rfl).2
      · exact i1
      · exact j1
      · exact hw
    · simp only [wsV, List.cons_append, List.nil_append, List.mem_cons] at hw
      rcases hw with rfl | rfl | rfl | rfl | rfl | hw
      · exact Or.inl rfl
      · exact Or.inl rfl
      · exact Or.inl rfl
      · exact Or.inl rfl
      · exact (gm_T_good _ j1).2
      · exact (gm_T_good _ hw).2
  rw [gm_rf_pos s1.1 (Nat.lt_of_le_of_lt s1.2 hRv.1), ← s2]
  refine gm_tailS (bc' := bc') (bs' := bs') hs hcx hev hd hd2 hmc hms hA hxt hb1 hb2 hc1 hc2 hP hD hSv hL hS2 hA1 (a := (Value.ref (f α k1) :: w1.reverse).toArray) ?_
  refine vx_runV (As := w1.reverse) (n := gm_na mj) (index := ix) (C := (gm_mn mj).cls) ⟨hx, hb, hml, hown, hts⟩ hM (cwV (rm := { frames := d', cells := bc', slots := bs', locals := d' * 300 }) (gm_na mj) hts hG (by rw [hcode]) rfl rfl ⟨rfl, j3.1, j3.2, j4⟩ ⟨by show d' + 1 ≤ _; omega, by show 8 + (gm_ml mj + 11) + d' * 300 ≤ _; omega⟩) ⟨gm_blind, ?_, fun U hU hWm => ⟨rfl, hU, gm_Ev_to hev hWm (by rw [hU]; exact hSv.1) (fun a h1 h2 => by rw [hU]; exact hSv.2.1 a h1 h2) hA1, va_K.moved hWm.alike hKn⟩⟩ rfl (by rw [List.length_reverse, hwl, hna]) ?_ (by rw [List.reverse_reverse]) (lv_room (by rw [gm_sum_eq hS2]; exact hst)) hdg ⟨by omega, by omega⟩
  · have := va_recv hKn hP1 hcs he
    rw [hcn] at this
    exact this
  · exact hL.2.choose_spec.1.1
/-- arguments: numbers, and cells under their own numbers -/
noncomputable def gm_ar (ρ : Nat → Nat) (n1 : Nat) : List gm_V → List gm_V → Prop
  | [], bs => bs = []
  | a :: as, bs => ∃ b bs', bs = b :: bs' ∧ ((∃ x, a = gm_vi x ∧ b = gm_vi x) ∨ ∃ k, (1 ≤ k ∧ k ≤ n1) ∧ a = gm_vr k ∧ b = gm_vr (ρ k)) ∧ gm_ar ρ n1 as bs'
theorem gm_ar_s {ti : Nat → ClassId} {ρ : Nat → Nat} {n1 n : Nat} {α1 α adK : Nat → Nat} {K1 K : gm_K} {R1 R : gm_R} {M1 M : gm_M} (hs : gm_sbw ti ρ n1 α1 K1 R1 M1 n α K R M) (hn : n < 100000) (hn1 : n1 < 100000) : ∀ {as bs : List gm_V} {ws : List Value}, gm_ar ρ n1 as bs → gm_sr α adK n bs ws → gm_sr α1 adK n1 as ws ∧ (∀ v ∈ as, ¬ gm_sort v = 1) ∧ as.length = bs.length := by
  intro as
  induction as with
  | nil => intro bs ws h h2; cases h; exact ⟨h2, (fun _ h => nomatch h), rfl⟩
  | cons a as ih =>
    intro bs ws h h2
    obtain ⟨b, bs', rfl, hab, h⟩ := h
    obtain ⟨w, ws', rfl, hw, h2⟩ := h2
    obtain ⟨i1, i2, i3⟩ := ih h h2
    refine ⟨⟨w, ws', rfl, ?_, i1⟩, fun v hv => ?_, by rw [List.length_cons, List.length_cons, i3]⟩
    · rcases hab with ⟨x, rfl, rfl⟩ | ⟨k, hk, rfl, rfl⟩
      · exact hw
      · obtain ⟨s1, s2, -⟩ := hs k hk.1 hk.2
        obtain ⟨rfl, -⟩ := hw
        refine ⟨?_, Or.inl hk.2⟩
        rw [gm_rf_pos s1.1 (Nat.lt_of_le_of_lt s1.2 hn), gm_rf_pos hk.1 (Nat.lt_of_le_of_lt hk.2 hn1), s2]
    · rcases List.mem_cons.mp hv with rfl | hv
      · rcases hab with ⟨x, rfl, -⟩ | ⟨k, -, rfl, -⟩ <;> simp [gm_sort]
      · exact i2 v hv
theorem gm_c_statS {ix mj d' bc' bs' n1 : Nat} {as1 as : List gm_V} {ρ : Nat → Nat} {f : (Nat → Nat) → Nat → Nat} {K1 : gm_K} {R1 : gm_R} {M1 : gm_M} (hs : ∀ (ti : Nat → ClassId) (α : Nat → Nat), gm_sbw ti ρ n1 (f α) K1 R1 M1 n α K R M) (hinj : ∀ i j, 1 ≤ i → i ≤ n1 → 1 ≤ j → j ≤ n1 → ρ i = ρ j → i = j) (hrv1 : gm_Rv n1 R1) (har : gm_ar ρ n1 as1 as) (h : gm_at mi pc = some (.invokestatic ix)) (hc : gm_cal (gm_ow mi) ix = some (5, mj)) (hmx : gm_ow mj ≠ gm_mxi) (hhj : ¬ gm_hh mj = []) (hna : as1.length = gm_na mj) (hlen : as1.length ≤ gm_ml mj) (hst : (st.map gm_cat).sum ≤ 8) (hd' : d' + 1 ≤ d) (hb1 : bc' ≤ bc) (hb2 : bs' ≤ bs)
    (hW : gm_Wp X LX d' bc' bs' mj 0 (gm_ent mj as1) [] n1 K1 R1 M1 (gm_owe X LX d (bc - bc') (bs - bs') mi (pc + 3) L st ρ f n1 n K R M Q)) : gm_Wp X LX d bc bs mi pc L (as.reverse ++ st) n K R M Q := by
  intro p l e Rm s m args below meth c D ti adK adV A α0 n0 mc ms hcx hev hd hd2 hmc hms hA α H locs cells slots ls sv hxt hc1 hc2 hR hL hS
  obtain ⟨w1, sv2, rfl, hw1, hS2⟩ := gm_sr_app hS
  have hdg := gm_dec hcx h rfl
  obtain ⟨hx, hb, hml, hown, -, -, hts, -, hl, -⟩ := id hcx
  obtain ⟨hKn, hP, hD, hSv, hRv⟩ := id hR
  obtain ⟨hj, i1, i2, -, -, i5, i6, -⟩ := gm_cal_spec hc
  obtain ⟨j1, -, j3, j4, j5, -⟩ := gm_mck_spec hj
  have hs := hs ti α
  have hP1 := gm_sbw_P hs hP
  have hD1 := gm_sbw_D hs hinj hD
  have hA1 := gm_sub_A hD1 hSv hA
  have hvb : gm_sr α adK n as w1.reverse := by have := gm_sr_rev hw1; rwa [List.reverse_reverse] at this
  obtain ⟨hvs, hcat, hle⟩ := gm_ar_s hs hRv.1 hrv1.1 har hvb
  have hM := gm_metH (adV := adV) (ti := ti) (D := D) hj hmx hhj l hl hW hvs hcat hlen hP1 (hD1.self (sz := H.size)) hrv1 (fun q h => Or.inr h)
  have hcode : gm_cwd mj = .codeWith (gm_mn mj) (gm_bc mj) (gm_ml mj) (gm_rt mj) (gm_hh mj) := by unfold gm_cwd; rw [if_neg hhj]
  have hwl : w1.length = as1.length := by have := (gm_sr_at hw1).1; rw [hle]; simpa using this
  have hpre : PreS s H (va_Pc w1.reverse (fun U => U.heap = H ∧ gm_Ev X LX adK adV (va_A (gm_wl ti (f α) n1 K1 R1 M1) H.size) U ∧ va_K D gm_cs (gm_ty ti) U)) w1.reverse := ⟨gm_blind, fun U hU hWm => ⟨rfl, hU, gm_Ev_to hev hWm (by rw [hU]; exact hSv.1) (fun a h1 h2 => by rw [hU]; exact hSv.2.1 a h1 h2) hA1, va_K.moved hWm.alike hKn⟩⟩
  refine gm_tailS (bc' := bc') (bs' := bs') hs hcx hev hd hd2 hmc hms hA hxt hb1 hb2 hc1 hc2 hP hD hSv hL hS2 hA1 (a := w1.reverse.toArray) ?_
  have hR1 : d' + 1 ≤ Rm.frames ∧ 8 + (gm_ml mj + 11) + d' * 300 ≤ Rm.locals := ⟨by omega, by omega⟩
  have hroom := lv_room (m := m) (pc := pc) (ls := ls) (rest := w1 ++ sv2) (st := sv2) (by rw [gm_sum_eq hS2]; exact hst)
  have hG9 : GoodIn gm_T (va_wsS (gm_rn (gm_ow mi)) ix (gm_mn mj) (gm_cwd mj :: gm_T)) := by
    intro w hw
    simp only [va_wsS, List.cons_append, List.nil_append, List.mem_cons] at hw
    rcases hw with rfl | rfl | rfl | rfl | hw
    all_goals first | exact gm_T_good _ i1 | exact gm_T_good _ (i2 (by omega)) | exact gm_T_good _ (i5 (Or.inr rfl)) | exact gm_T_good _ j1 | exact gm_T_good _ hw
  exact vx_runSX (hh := gm_hh mj) (As := w1.reverse) (n := gm_na mj) (index := ix) ⟨hx, hb, hml, hown, hts⟩ hM (vx_cwSW (rm := { frames := d', cells := bc', slots := bs', locals := d' * 300 }) (gm_na mj) hts hG9 (by rw [hcode]) rfl rfl ⟨j3.1, j3.2, j4⟩ hR1) hpre rfl (by rw [List.length_reverse, hwl, hna]) hL.2.choose_spec.1.1 (by rw [List.reverse_reverse]) hroom hdg ⟨by omega, by omega⟩
end SUB
end
/-! 76b.cln -/
section
/-! AN ARRAY OF NUMBERS CLONED, and cast to what it is: Arrays.copyOf. -/
set_option maxRecDepth 100000 in
theorem gm_clw1 : Jvm.Cond.methodLink (gm_rn 5) 316 ⟨"[I", "clone", "()Ljava/lang/Object;"⟩ ∈ gm_T := gm_T_in (i := 1174) (by decide +kernel) rfl
set_option maxRecDepth 100000 in
theorem gm_clw2 : Jvm.Cond.sameMethod "[I" "java/lang/Object" "clone" "()Ljava/lang/Object;" ∈ gm_T := gm_T_in (i := 1175) (by decide +kernel) rfl
set_option maxRecDepth 100000 in
theorem gm_clw3 : Jvm.Cond.native ⟨"java/lang/Object", "clone", "()Ljava/lang/Object;"⟩ ∈ gm_T := gm_T_in (i := 1176) (by decide +kernel) rfl
set_option maxRecDepth 100000 in
theorem gm_clw4 : Jvm.Cond.instanceMethod ⟨"java/lang/Object", "clone", "()Ljava/lang/Object;"⟩ ∈ gm_T := gm_T_in (i := 1177) (by decide +kernel) rfl
set_option maxRecDepth 100000 in
theorem gm_clw5 : Jvm.Cond.selects "[I" ⟨"[I", "clone", "()Ljava/lang/Object;"⟩ ⟨"java/lang/Object", "clone", "()Ljava/lang/Object;"⟩ ∈ gm_T := gm_T_in (i := 1178) (by decide +kernel) rfl
set_option maxRecDepth 100000 in
theorem gm_clw6 : Jvm.Cond.classLink (gm_rn 5) 317 "[I" ∈ gm_T := gm_T_in (i := 1180) (by decide +kernel) rfl
/-- the clone's numbers -/
noncomputable def gm_clM (M : gm_M) (n k : Nat) : gm_M := fun a b => if a = n + 1 then M k b else M a b
theorem gm_wl_clone {ti : Nat → ClassId} {α : Nat → Nat} {n q k len : Nat} {K : gm_K} {R : gm_R} {M : gm_M} (hn : n + 1 < 100000) (hR : gm_Rv n R) : gm_wl ti α n K R M ++ [(q, .inl (ti 0, len, .inl fun j => Int32.ofInt (M k j)))] = gm_wl ti (gm_al α n q) (n + 1) (gm_nK K n 0 len) (gm_nR R n) (gm_clM M n k) := by
  have hold : gm_wl ti α n K R M = gm_wl ti (gm_al α n q) n (gm_nK K n 0 len) (gm_nR R n) (gm_clM M n k) := by
    refine gm_wl_ext fun k' h1 h2 => ⟨by simp [gm_al]; omega, ?_⟩
    have eK : gm_nK K n 0 len k' = K k' := by simp [gm_nK]; omega
    have eM : gm_clM M n k k' = M k' := by funext b; simp [gm_clM]; omega
    have eR : gm_nR R n k' = R k' := by funext b; simp [gm_nR]; omega
    have e1 : ∀ j, gm_rf (gm_al α n q) (R k' j) = gm_rf α (R k' j) := fun j => gm_rf_ext (gm_al_xt hn) (hR.2 k' j)
    have e2 : ∀ j, gm_ro (gm_al α n q) (R k' j) = gm_ro α (R k' j) := fun j => gm_ro_ext (gm_al_xt hn) (hR.2 k' j)
    unfold gm_en gm_fs
    rw [eK, eM, eR]
    simp only [e1, e2]
  have he : gm_en ti (gm_al α n q) (gm_nK K n 0 len) (gm_nR R n) (gm_clM M n k) (n + 1) = .inl (ti 0, len, .inl fun j => Int32.ofInt (M k j)) := by unfold gm_en; simp [gm_nK, gm_clM]
  rw [hold, ← he]
  unfold gm_wl
  rw [List.range_succ, List.map_append]
  simp [gm_al]
section CLN
variable {X : Int → Int} {LX d bc bs mi pc : Nat} {L : gm_L} {st : List gm_V} {n : Nat} {K : gm_K} {R : gm_R} {M : gm_M} {Q : gm_Q}
theorem gm_p_clone {k : Nat} (hn9 : n + 1 < 100000) (hmi : gm_ow mi = 5) (h : gm_at mi pc = some (.invokevirtual 316)) (hk : 1 ≤ k ∧ k ≤ n) (hK : (K k).1 = 0) (hst : (st.map gm_cat).sum ≤ 8) (hd' : 1 ≤ d) : gm_Sp X LX d mi pc L (gm_vr k :: st) n K R M (pc + 3) L (gm_vr (n + 1) :: st) (n + 1) (gm_nK K n 0 (K k).2) (gm_nR R n) (gm_clM M n k) 1 (K k).2 := by
  intro p l e Rm s m args below meth c D ti adK adV A hcx hev hd hd2 hA α H locs cells slots ls sv Q' hc1 hc2 hR hL hS k2
  obtain ⟨w1, sv, rfl, ⟨rfl, -⟩, hS⟩ := hS
  have hdg := gm_dec hcx h rfl
  obtain ⟨hx, hb, hml, hown, -, -, hts, -⟩ := id hcx
  rw [hmi] at hown
  obtain ⟨hKn, hP, hD, hSv, hRv⟩ := id hR
  have he := gm_wl_at (ti := ti) (α := α) (K := K) (R := R) (M := M) hk.1 hk.2
  have e1 : gm_en ti α K R M k = .inl (ti 0, (K k).2, .inl fun j => Int32.ofInt (M k j)) := by unfold gm_en; rw [hK]
  rw [e1] at he
  rw [gm_rf_pos hk.1 (Nat.lt_of_le_of_lt hk.2 hRv.1)]
  have hnm : s.vm.findClass "[I" = some (ti 0) := (hKn.2 0 _ rfl).2
  have hcat := gm_sum_eq hS
  refine va_clone hx hb (hml.trans hL.2.choose_spec.1.1.symm) hown (hts _ gm_clw1) (hts _ gm_clw2) (hts _ gm_clw3) (hts _ gm_clw4) (hts _ gm_clw5) hev.2.2.2.2.2.2.2.2.2.2.1 hKn hP hD hSv hA (k - 1) 0 he rfl hnm (va_fit fun i _ => rfl) (by omega) (by omega) hc1 hc2 hdg fun q H1 p0 p1 p2 p3 => ?_
  rw [gm_wl_clone hn9 hRv] at p1 p2
  exact k2 (gm_al α n q) H1 locs ls _ (gm_al_xt hn9) ⟨hKn, p1, p2, p3, gm_Rv_n hn9 hRv⟩ (gm_lr_ext (gm_al_xt hn9) hL) ⟨_, _, rfl, ⟨(gm_al_self hn9).symm, Or.inl (Nat.le_refl _)⟩, gm_sr_ext (gm_al_xt hn9) hS⟩
theorem gm_p_castA {k : Nat} (hmi : gm_ow mi = 5) (h : gm_at mi pc = some (.checkcast 317)) (hk : 1 ≤ k ∧ k ≤ n) (hK : (K k).1 = 0) : gm_Sp X LX d mi pc L (gm_vr k :: st) n K R M (pc + 3) L (gm_vr k :: st) n K R M 0 0 := by
  intro p l e Rm s m args below meth c D ti adK adV A hcx hev hd hd2 hA α H locs cells slots ls sv Q' hc1 hc2 hR hL hS k2
  obtain ⟨w1, sv, rfl, ⟨rfl, kk⟩, hS⟩ := hS
  have hdg := gm_dec hcx h rfl
  obtain ⟨hx, hb, hml, hown, -, -, hts, -⟩ := id hcx
  rw [hmi] at hown
  obtain ⟨hKn, hP, hD, hSv, hRv⟩ := id hR
  have he := gm_wl_at (ti := ti) (α := α) (K := K) (R := R) (M := M) hk.1 hk.2
  have e1 : gm_en ti α K R M k = .inl (ti 0, (K k).2, .inl fun j => Int32.ofInt (M k j)) := by unfold gm_en; rw [hK]
  rw [e1] at he
  have k3 := k2 α H locs ls _ gm_xt.rf hR hL ⟨_, _, rfl, ⟨rfl, kk⟩, hS⟩
  rw [gm_rf_pos hk.1 (Nat.lt_of_le_of_lt hk.2 hRv.1)] at k3 ⊢
  have hnm : s.vm.findClass "[I" = some (ti 0) := (hKn.2 0 _ rfl).2
  exact va_castA hx hb hown (hts _ gm_clw6) hP (k - 1) he hnm hdg k3
end CLN
end
/-! 76c.law -/
section
/-! THE CLASS'S law(), put together: a new Law with u codes, u from 0 to 400. -/
theorem lq_tabe : (List.range 16).all (fun i => decide (ck_tab p2_T (240 + i) = none) || decide (i < 6)) = true := by decide +kernel
theorem lq_tabl : p2_T.length = 16 := by decide +kernel
theorem lq_tab {k : Nat} (h : ¬ k < 246) : ck_tab p2_T k = none := by
  by_cases hk : k < 256
  · have := List.all_eq_true.mp lq_tabe (k - 240) (List.mem_range.mpr (by omega))
    simp only [Bool.or_eq_true, decide_eq_true_eq] at this
    rw [show 240 + (k - 240) = k by omega] at this
    rcases this with h1 | h1
    · exact h1
    · omega
  · unfold ck_tab
    rw [fl_nth_eq, List.getElem?_eq_none (by rw [lq_tabl]; omega)]
theorem pl_o {n : Nat} {K : gm_K} {R : gm_R} {M : gm_M} (h : gm_Fx p2_OL n K R M) : gm_Fx p2_O n K R M := by
  refine ⟨fun k q hq => h.1 k q ?_, fun k j r hr => h.2.1 k j r ?_, fun k r hr => h.2.2.1 k r ?_, fun k r hr => h.2.2.2.1 k r ?_, h.2.2.2.2.1⟩
  · by_cases hk : k < 246
    · show (if k < 246 then p2_O.1 k else _) = some q
      rw [if_pos hk]; exact hq
    · have : (match ck_tab p2_T k with | some e => some e.1 | none => none) = some q := hq
      rw [lq_tab hk] at this
      cases this
  · by_cases hk : k < 246
    · show (if k < 246 then p2_O.2.1 k j else _) = some r
      rw [if_pos hk]; exact hr
    · have : (match ck_tab p2_T k with | some e => fl_lki j e.2.1 | none => none) = some r := hr
      rw [lq_tab hk] at this
      cases this
  · by_cases hk : k < 246
    · show r ∈ (if k < 246 then p2_O.2.2.ty k else _)
      rw [if_pos hk]; exact hr
    · have : r ∈ (match ck_tab p2_T k with | some e => e.2.2 | none => []) := hr
      rw [lq_tab hk] at this
      cases this
  · show r ∈ (if k = 247 then [(-1, -1)] else j_fp k)
    rw [if_neg]
    · exact hr
    · rintro rfl
      have hr : r ∈ ([] : List (Int × Int)) := by rw [← show j_fp 247 = [] by decide]; exact hr
      cases hr
/-- a world becomes one with a law -/
theorem pl_i {K : gm_K} {R : gm_R} {M : gm_M} {N : Nat} (h : gm_Fx p2_O 249 K R M) (hN : N ≤ 400) (k6 : K 246 = (14, 0)) (k7 : K 247 = (0, N)) (k8 : K 248 = (6, 0)) (k9 : K 249 = (0, 48)) (r0 : R 246 0 = 248) (r1 : R 246 1 = 247) (r2 : R 248 2 = 249) (m0 : M 248 0 = 12) (m1 : M 248 1 = 4) (m3 : 0 ≤ M 248 3 ∧ M 248 3 ≤ 12) : gm_Fx p2_OL 249 K R M := by
  refine ⟨fun k q hq => ?_, fun k j r hr => ?_, fun k r hr => ?_, fun k r hr => ?_, h.2.2.2.2, N, hN, k7⟩
  · replace hq : (if k < 246 then p2_O.1 k else if k = 246 then some (14, 0) else if k = 247 then none else if k = 248 then some (6, 0) else if k = 249 then some (0, 48) else none) = some q := hq
    by_cases hk : k < 246
    · rw [if_pos hk] at hq; exact h.1 k q hq
    rw [if_neg hk] at hq
    by_cases e : k = 246
    · rw [if_pos e] at hq; cases hq; subst e; exact ⟨by decide, by decide, k6⟩
    rw [if_neg e] at hq
    by_cases e : k = 247
    · rw [if_pos e] at hq; cases hq
    rw [if_neg e] at hq
    by_cases e : k = 248
    · rw [if_pos e] at hq; cases hq; subst e; exact ⟨by decide, by decide, k8⟩
    rw [if_neg e] at hq
    by_cases e : k = 249
    · rw [if_pos e] at hq; cases hq; subst e; exact ⟨by decide, by decide, k9⟩
    rw [if_neg e] at hq
    cases hq
  · replace hr : (if k < 246 then p2_O.2.1 k j else if k = 246 then (if j = 0 then some 248 else if j = 1 then some 247 else none) else if k = 248 then (if j = 2 then some 249 else none) else none) = some r := hr
    by_cases hk : k < 246
    · rw [if_pos hk] at hr; exact h.2.1 k j r hr
    rw [if_neg hk] at hr
    by_cases e : k = 246
    · rw [if_pos e] at hr; subst e
      by_cases e : j = 0
      · rw [if_pos e] at hr; cases hr; subst e; exact ⟨by decide, r0⟩
      rw [if_neg e] at hr
      by_cases e : j = 1
      · rw [if_pos e] at hr; cases hr; subst e; exact ⟨by decide, r1⟩
      rw [if_neg e] at hr
      cases hr
    rw [if_neg e] at hr
    by_cases e : k = 248
    · rw [if_pos e] at hr; subst e
      by_cases e : j = 2
      · rw [if_pos e] at hr; cases hr; subst e; exact ⟨by decide, r2⟩
      rw [if_neg e] at hr
      cases hr
    rw [if_neg e] at hr
    cases hr
  · replace hr : r ∈ (if k < 246 then p2_O.2.2.ty k else if k = 248 then [(0, 0, 12, 12), (1, 1, 4, 4), (3, 3, 0, 12)] else []) := hr
    by_cases hk : k < 246
    · rw [if_pos hk] at hr; exact h.2.2.1 k r hr
    rw [if_neg hk] at hr
    by_cases e : k = 248
    · rw [if_pos e] at hr; subst e
      refine ⟨by decide, fun j j1 j2 => ?_⟩
      simp only [List.mem_cons, List.not_mem_nil, or_false] at hr
      rcases hr with rfl | rfl | rfl
      · have : j = 0 := Int.le_antisymm j2 j1
        subst this
        rw [m0]; decide
      · have : j = 1 := Int.le_antisymm j2 j1
        subst this
        rw [m1]; decide
      · have : j = 3 := Int.le_antisymm j2 j1
        subst this
        exact ⟨⟨by omega, by omega⟩, m3⟩
    rw [if_neg e] at hr
    cases hr
  · replace hr : r ∈ (if k = 247 then [(-1, -1)] else j_fp k) := hr
    by_cases e : k = 247
    · subst e; decide
    rw [if_neg e] at hr
    exact h.2.2.2.1 k r hr
section LQ
variable {X : Int → Int} {LX : Nat} {Q : gm_Q}
/-- Arrays.copyOf of the codes -/
theorem lq_cp {n N : Nat} {K : gm_K} {R : gm_R} {M : gm_M} (hk : 1 ≤ 219 ∧ 219 ≤ n) (hK : (K 219).1 = 0) (h2 : (K 219).2 = 400) (hN : N ≤ 400) (hn9 : n + 1 < 100000) (hq : ∀ M' : gm_M, (∀ k j, k ≤ n → M' k j = M k j) → Q (.inl (some (gm_vr (n + 1)))) (n + 1) (gm_nK K n 0 N) (gm_nR R n) M') : gm_Wp X LX 1 1 400 125 0 (gm_ent 125 [gm_vr 219, gm_vi (N : Int)]) [] n K R M Q := by
  have iN : gm_ir (N : Int) := ⟨by omega, by omega⟩
  have wN : gm_w (N : Int) = N := gm_w_id (by omega) (by omega)
  have tN : (gm_w (N : Int)).toNat = N := by rw [wN]; omega
  refine gm_sz (gm_p_load (pc := 0) (i := .iload_n 1) (sr := 0) (j := 1) (by decide +kernel) rfl rfl rfl) ?_
  refine gm_sz (gm_p_load (pc := 1) (i := .aload_n 0) (sr := 2) (j := 0) (by decide +kernel) rfl rfl rfl) ?_
  refine gm_sz (gm_p_alen (pc := 2) (by decide +kernel) hk (by omega)) ?_
  rw [show ((K 219).2 : Int) = 400 by rw [h2]; rfl]
  refine gm_b_ic (cc := .ne) (pc := 3) (off := 11) (by decide +kernel) (by decide) (fun _ => ?_) (fun hp => ?_)
  · skip
    refine gm_sz (gm_p_load (pc := 14) (i := .iload_n 1) (sr := 0) (j := 1) (by decide +kernel) rfl rfl rfl) ?_
    refine gm_sp (gm_p_newa (pc := 15) (at0 := .int) (kd := 0) (e0 := (N : Int)) hn9 (by decide +kernel) (Or.inl ⟨rfl, rfl⟩) ⟨by omega, by omega⟩) (Nat.le_refl 1) (by omega) ?_
    rw [tN]
    have k9 : gm_nK K n 0 N 219 = K 219 := by unfold gm_nK; rw [if_neg (by omega)]
    have kn : gm_nK K n 0 N (n + 1) = (0, N) := by unfold gm_nK; rw [if_pos rfl]
    refine gm_sz (gm_p_stor (pc := 17) (i := .astore_n 2) (sr := 2) (j := 2) (by decide +kernel) rfl (by show 2 + 0 < 3; decide) rfl) ?_
    refine gm_sz (gm_p_load (pc := 18) (i := .aload_n 0) (sr := 2) (j := 0) (by decide +kernel) rfl rfl rfl) ?_
    refine gm_sz (gm_p_const (pc := 19) (i := .iconst 0) (v := gm_vi 0) (by decide +kernel) (by decide +kernel)) ?_
    refine gm_sz (gm_p_load (pc := 20) (i := .aload_n 2) (sr := 2) (j := 2) (by decide +kernel) rfl rfl rfl) ?_
    refine gm_sz (gm_p_const (pc := 21) (i := .iconst 0) (v := gm_vi 0) (by decide +kernel) (by decide +kernel)) ?_
    refine gm_sz (gm_p_load (pc := 22) (i := .aload_n 0) (sr := 2) (j := 0) (by decide +kernel) rfl rfl rfl) ?_
    refine gm_sz (gm_p_alen (pc := 23) (by decide +kernel) ⟨hk.1, by omega⟩ (by rw [k9]; omega)) ?_
    rw [show ((gm_nK K n 0 N 219).2 : Int) = 400 by rw [k9, h2]; rfl]
    refine gm_sz (gm_p_load (pc := 24) (i := .iload_n 1) (sr := 0) (j := 1) (by decide +kernel) rfl rfl rfl) ?_
    refine gm_sz (gm_p_min (pc := 25) (ix := 304) (x := 400) (y := (N : Int)) (by decide +kernel) (by decide +kernel) (by decide) wN (Nat.le_of_ble_eq_true rfl) (Nat.le_refl 1)) ?_
    rw [show min (400 : Int) (N : Int) = N by omega]
    refine gm_sz (gm_p_acopy (pc := 28) (ix := 150) (k1 := 219) (k2 := n + 1) (sp := 0) (dp := 0) (m := (N : Int)) (by decide +kernel) (by decide +kernel) ⟨hk.1, by omega⟩ (by rw [k9]; exact hK) ⟨by omega, Nat.le_refl _⟩ (by rw [kn]) (by decide) (by decide) wN (by decide) (by decide) (by omega) (by rw [k9, h2]; omega) (by rw [kn]; show 0 + (N : Int) ≤ (N : Int); omega) (by simp) (Nat.le_refl 1)) ?_
    refine gm_sz (gm_p_load (pc := 31) (i := .aload_n 2) (sr := 2) (j := 2) (by decide +kernel) rfl rfl rfl) ?_
    refine gm_r_ref (pc := 32) (by decide +kernel) (Or.inr ⟨.int, by decide +kernel⟩) (hq _ fun k j hk => ?_)
    unfold gm_cpM
    rw [if_neg (fun h => by omega)]
    unfold gm_nM
    rw [if_neg (by omega)]
  · have ip : gm_ir (400 : Int) := ⟨by decide, by decide⟩
    rw [gm_cm_w iN ip] at hp
    have hp : ¬ ((N : Int) ≠ 400) := hp
    have e : N = 400 := by omega
    subst e
    refine gm_sz (gm_p_load (pc := 6) (i := .aload_n 0) (sr := 2) (j := 0) (by decide +kernel) rfl rfl rfl) ?_
    refine gm_sp (gm_p_clone (pc := 7) hn9 (by decide +kernel) (by decide +kernel) hk hK (by decide) (Nat.le_refl 1)) (Nat.le_refl 1) (by omega) ?_
    rw [h2]
    refine gm_sz (gm_p_castA (pc := 10) (by decide +kernel) (by decide +kernel) ⟨by omega, Nat.le_refl _⟩ (by unfold gm_nK; rw [if_pos rfl])) ?_
    refine gm_r_ref (pc := 13) (by decide +kernel) (Or.inr ⟨.int, by decide +kernel⟩) (hq _ fun k j hk => ?_)
    unfold gm_clM
    rw [if_neg (by omega)]
theorem lq_cg {O : gm_Or} {n n' : Nat} {K K' : gm_K} {R R' : gm_R} {M M' : gm_M} (h : gm_Fx O n K R M) (hK : ∀ k, k ≤ n → K' k = K k) (hR : ∀ k j, k ≤ n → R' k j = R k j) (hM : ∀ k j, k ≤ n → M' k j = M k j) (hn : n ≤ n') : gm_Fx O n' K' R' M' := by
  refine ⟨fun k q hq => ?_, fun k j r hr => ?_, fun k r hr => ?_, fun k r hr => Nat.le_trans (h.2.2.2.1 k r hr) hn, O.2.2.hJ K K' M M' (fun k r hr => hK k (h.2.2.2.1 k r hr)) (fun k r hr j _ _ => hM k j (h.2.2.2.1 k r hr)) h.2.2.2.2⟩
  · obtain ⟨a, b, c⟩ := h.1 k q hq
    exact ⟨a, Nat.le_trans b hn, (hK k b).trans c⟩
  · obtain ⟨a, b⟩ := h.2.1 k j r hr
    exact ⟨Nat.le_trans a hn, (hR k j a).trans b⟩
  · obtain ⟨a, b⟩ := h.2.2.1 k r hr
    refine ⟨Nat.le_trans a hn, fun j h1 h2 => ?_⟩
    rw [hM k j a]
    exact b j h1 h2
/-- what a new law is -/
noncomputable def lq_N (N : Nat) (K0 : gm_K) (R0 : gm_R) (M0 : gm_M) (K : gm_K) (R : gm_R) (M : gm_M) : Prop := (gm_Fx p2_O 249 K R M ∧ ck_fr ([], []) 245 K0 R0 M0 249 K R M) ∧ (K 246 = (14, 0) ∧ K 247 = (0, N) ∧ K 248 = (6, 0) ∧ K 249 = (0, 48)) ∧ (R 246 0 = 248 ∧ R 246 1 = 247 ∧ R 248 2 = 249) ∧ M 248 0 = 12 ∧ M 248 1 = 4 ∧ 0 ≤ M 248 3 ∧ M 248 3 ≤ 12
theorem lq_or : (p2_O.1 1 = some (4, 0) ∧ p2_O.1 3 = some (5, 0) ∧ p2_O.1 215 = some (13, 0) ∧ p2_O.1 219 = some (0, 400)) ∧ (p2_O.2.1 1 ((3 : Nat) : Int) = some 3 ∧ p2_O.2.1 1 ((13 : Nat) : Int) = some 215 ∧ p2_O.2.1 215 ((2 : Nat) : Int) = some 217 ∧ p2_O.2.1 215 ((3 : Nat) : Int) = some 219) := by decide +kernel
theorem lq_kd {n k c : Nat} {K : gm_K} {R : gm_R} {M : gm_M} (hF : gm_Fx p2_O n K R M) (h : p2_O.1 k = some (c + 4, 0)) : (1 ≤ k ∧ k ≤ n) ∧ (K k).1 = c + 4 := by
  obtain ⟨h1, h2, h3⟩ := hF.1 k _ h
  exact ⟨⟨h1, h2⟩, by rw [h3]⟩
theorem lq_rf {n k r : Nat} {j : Nat} {K : gm_K} {R : gm_R} {M : gm_M} (hF : gm_Fx p2_O n K R M) (h : p2_O.2.1 k (j : Int) = some r) : R k (j : Int) = r := (hF.2.1 k _ _ h).2
/-- LawReader.makeLaw -/
theorem lq_mk {N : Nat} {K : gm_K} {R : gm_R} {M : gm_M} (hF : gm_Fx p2_O 245 K R M) (hN : N ≤ 400) (hu : M 215 4 = N) (hq : ∀ K' R' M', lq_N N K R M K' R' M' → Q (.inl (some (gm_vr 246))) 249 K' R' M') : gm_Wp X LX 3 4 454 124 0 (gm_ent 124 [gm_vr 215]) [] 245 K R M Q := by
  refine gm_sp (gm_p_new (pc := 0) (ix := 32) (ci := 10) (by decide) (by decide +kernel) (by decide +kernel)) (by decide) (by decide +kernel) ?_
  have hF1 : gm_Fx p2_O 246 (gm_nK K 245 14 0) (gm_nR R 245) (gm_nM M 245) := gm_Fx_n hF
  have fr1 : ck_fr ([], []) 245 K R M 246 (gm_nK K 245 14 0) (gm_nR R 245) (gm_nM M 245) := ck_fr_n ck_fr_0
  have k215 := lq_kd (c := 9) hF1 lq_or.1.2.2.1
  have hu1 : gm_nM M 245 215 ((4 : Nat) : Int) = (N : Int) := by
    unfold gm_nM
    rw [if_neg (by decide)]
    exact hu
  refine gm_sz (gm_p_dup (pc := 3) (by decide +kernel) (by simp [gm_sort])) ?_
  refine gm_sz (gm_p_load (pc := 4) (i := .aload_n 0) (sr := 2) (j := 0) (by decide +kernel) rfl rfl rfl) ?_
  refine gm_sz (gm_p_get (pc := 5) (ix := 14) (ci := 9) (j := 2) (by decide +kernel) k215.1 k215.2 (by decide +kernel)) ?_
  rw [if_pos (show gm_isr 9 2 = true by decide +kernel), lq_rf hF1 lq_or.2.2.2.1]
  refine gm_sz (gm_p_load (pc := 8) (i := .aload_n 0) (sr := 2) (j := 0) (by decide +kernel) rfl rfl rfl) ?_
  refine gm_sz (gm_p_get (pc := 9) (ix := 20) (ci := 9) (j := 3) (by decide +kernel) k215.1 k215.2 (by decide +kernel)) ?_
  rw [if_pos (show gm_isr 9 3 = true by decide +kernel), lq_rf hF1 lq_or.2.2.2.2]
  refine gm_sz (gm_p_load (pc := 12) (i := .aload_n 0) (sr := 2) (j := 0) (by decide +kernel) rfl rfl rfl) ?_
  refine gm_sz (gm_p_get (pc := 13) (ix := 24) (ci := 9) (j := 4) (by decide +kernel) k215.1 k215.2 (by decide +kernel)) ?_
  rw [if_neg (show ¬ gm_isr 9 4 = true by decide +kernel), hu1]
  refine gm_c_stat (mj := 125) (ix := 34) (pc := 16) (as := [gm_vr 219, gm_vi (N : Int)]) (st := [gm_vr 217, gm_vr 246, gm_vr 246]) (d' := 1) (bc' := 1) (bs' := 400) (by decide +kernel) (by decide +kernel) (by decide +kernel) (by decide +kernel) (show 2 = gm_na 125 by decide +kernel) (fun v hv => by simp only [List.mem_cons, List.not_mem_nil, or_false] at hv; rcases hv with rfl | rfl <;> simp [gm_sort]) (show 2 ≤ gm_ml 125 by decide +kernel) (Nat.le_of_ble_eq_true rfl) (by decide) (by decide) (by decide +kernel) ?_
  refine lq_cp (md_kd hF1 lq_or.1.2.2.2).1.1 (md_kd hF1 lq_or.1.2.2.2).1.2 (md_kd hF1 lq_or.1.2.2.2).2 hN (by decide) (fun M2 hM2 => ?_)
  show gm_Wp X LX 3 (4 - 1 - 1) _ 124 19 (gm_ent 124 [gm_vr 215]) [gm_vr 247, gm_vr 217, gm_vr 246, gm_vr 246] 247 (gm_nK (gm_nK K 245 14 0) 246 0 N) (gm_nR (gm_nR R 245) 246) M2 Q
  generalize hK2 : gm_nK (gm_nK K 245 14 0) 246 0 N = K2
  generalize hR2 : gm_nR (gm_nR R 245) 246 = R2
  have a6 : K2 246 = (14, 0) := by rw [← hK2]; unfold gm_nK; rw [if_neg (by decide), if_pos rfl]
  have a7 : K2 247 = (0, N) := by rw [← hK2]; unfold gm_nK; rw [if_pos rfl]
  have hF2 : gm_Fx p2_O 247 K2 R2 M2 := lq_cg hF1 (fun k hk => by rw [← hK2]; show gm_nK _ 246 0 N k = _; rw [show gm_nK (gm_nK K 245 14 0) 246 0 N k = if k = 246 + 1 then (0, N) else gm_nK K 245 14 0 k from rfl, if_neg (by omega)]) (fun k j hk => by rw [← hR2]; rw [show gm_nR (gm_nR R 245) 246 k j = if k = 246 + 1 then 0 else gm_nR R 245 k j from rfl, if_neg (by omega)]) hM2 (by decide)
  have fr2 : ck_fr ([], []) 245 K R M 247 K2 R2 M2 := by
    refine ⟨by decide, fun k hk => ?_, fun k j hk hw => ?_, fun k j hk hw => ?_⟩
    · rw [← hK2, show gm_nK (gm_nK K 245 14 0) 246 0 N k = if k = 246 + 1 then (0, N) else gm_nK K 245 14 0 k from rfl, if_neg (by omega)]
      exact fr1.2.1 k hk
    · rw [hM2 k j (by omega)]
      exact fr1.2.2.1 k j hk hw
    · rw [← hR2, show gm_nR (gm_nR R 245) 246 k j = if k = 246 + 1 then 0 else gm_nR R 245 k j from rfl, if_neg (by omega)]
      exact fr1.2.2.2 k j hk hw
  refine gm_c_init (kd := 1) (mj := 126) (ix := 40) (pc := 19) (k := 246) (as := [gm_vr 217, gm_vr 247]) (st := [gm_vr 246]) (d' := 2) (bc' := 2) (bs' := 52) (by decide +kernel) (by decide +kernel) (Or.inl rfl) (by decide +kernel) (by decide +kernel) ⟨by decide, by decide⟩ (show 2 = gm_na 126 by decide +kernel) (fun v hv => by simp only [List.mem_cons, List.not_mem_nil, or_false] at hv; rcases hv with rfl | rfl <;> simp [gm_sort]) (show 2 + 1 ≤ gm_ml 126 by decide +kernel) (Nat.le_of_ble_eq_true rfl) (by decide) (by decide) (by decide +kernel) ?_
  refine gm_Wp_mono (fun o n K3 R3 M3 h => ?_) (lq_init_s 2 (ck_sn p2_O (fun _ => 0) M2) [gm_vr 246, gm_vr 217, gm_vr 247] 247 K2 R2 M2 (Nat.le_refl _) rfl ⟨_, _, rfl, rfl, _, _, rfl, rfl, _, _, rfl, rfl, rfl⟩ (ck_sn_s p2_nmu) hF2 ⟨fun q hq => by rw [List.mem_singleton.mp hq]; exact ⟨⟨by decide, by decide⟩, a6⟩, (fun _ h => nomatch h), (fun _ h => nomatch h)⟩)
  obtain ⟨f1, f2, oc, f3, f4, f5, f6⟩ := h
  rw [List.mem_singleton.mp f3] at f4 f5 f6
  have f5 : n = 249 := f5
  subst f5
  rcases o with (_ | v) | x
  case inl.some => exact absurd f4 id
  case inr => exact absurd f4 id
  show gm_Wp X LX 3 _ _ 124 22 (gm_ent 124 [gm_vr 215]) [gm_vr 246] 249 K3 R3 M3 Q
  have b3 := (f6.2.2 (248, 3, 3, (0, 12, [])) List.mem_cons_self).2 3 (Int.le_refl _) (Int.le_refl _)
  have b1 := (f6.2.2 (248, 1, 1, ck_one 4) (List.mem_cons_of_mem _ List.mem_cons_self)).2 1 (Int.le_refl _) (Int.le_refl _)
  have b0 := (f6.2.2 (248, 0, 0, ck_one 12) (List.mem_cons_of_mem _ (List.mem_cons_of_mem _ List.mem_cons_self))).2 0 (Int.le_refl _) (Int.le_refl _)
  exact gm_r_ref (pc := 22) (by decide +kernel) (Or.inl ⟨"GlacierMail$Law", by decide +kernel⟩) (hq K3 R3 M3 ⟨⟨f1, ck_fr_tr fr2 f2 (by decide) (by decide)⟩, ⟨(f2.2.1 246 (by decide)).trans a6, (f2.2.1 247 (by decide)).trans a7, (f6.1 (248, 6, 0) List.mem_cons_self).2, (f6.1 (249, 0, 48) (List.mem_cons_of_mem _ List.mem_cons_self)).2⟩, ⟨(f6.2.1 (246, 0, 248) List.mem_cons_self).2, (f6.2.1 (246, 1, 247) (List.mem_cons_of_mem _ List.mem_cons_self)).2, (f6.2.1 (248, 2, 249) (List.mem_cons_of_mem _ (List.mem_cons_of_mem _ List.mem_cons_self))).2⟩, Int.le_antisymm b0.2.2.1 b0.2.1, Int.le_antisymm b1.2.2.1 b1.2.1, b3.2.1, b3.2.2.1⟩)
noncomputable def lq_W : List (Nat × Int × Int) × List (Nat × Int) := ([((1 : Nat), (1 : Int), (2 : Int)), ((1 : Nat), (15 : Int), (15 : Int)), ((42 : Nat), (2 : Int), (2 : Int)), ((200 : Nat), (6 : Int), (6 : Int)), ((201 : Nat), (0 : Int), (299 : Int)), ((202 : Nat), (0 : Int), (593 : Int)), ((203 : Nat), (0 : Int), (299 : Int)), ((215 : Nat), (4 : Int), (4 : Int)), ((216 : Nat), (2 : Int), (7 : Int)), ((217 : Nat), (3 : Int), (3 : Int)), ((218 : Nat), (0 : Int), (47 : Int)), ((219 : Nat), (0 : Int), (399 : Int))], [((3 : Nat), (8 : Int))])
noncomputable def lq_oc (N : Nat) : ck_Oc := (.inr (some (.inl (0, 12, []))), 249, ([(246, 14, 0), (247, 0, N), (248, 6, 0), (249, 0, 48)], [(3, 8, 246), (246, 0, 248), (246, 1, 247), (248, 2, 249)], [(1, 1, 1, ck_one 0), (248, 0, 0, ck_one 12), (248, 1, 1, ck_one 4), (248, 3, 3, (0, 12, []))]))
/-- GlacierMail.law -/
noncomputable def lq_S : ck_Sum := (((25 : Nat), (4 : Nat), (454 : Nat)), (245 : Nat), [.inr (.inr (.inl (1 : Nat)))], ([], [((3 : Nat), (8 : Int), (100003 : Nat))], [((216 : Nat), (3 : Int), (3 : Int), ((0 : Int), (400 : Int), [((13 : Nat), (0 : Int))])), ((1 : Nat), (1 : Int), (1 : Int), ((0 : Int), (400 : Int), [((6 : Nat), (0 : Int))]))]), lq_W, (.inl 0, 245, ([], [(3, 8, 100003)], [(1, 1, 1, ck_one 0)])) :: (List.range 401).map lq_oc)
noncomputable def lq_C : ck_C := ([some (.inr (.inr (.inl (1 : Nat))))], ([], [], [((1 : Nat), (1 : Int), (1 : Int), ck_one 0)]), (0 : Nat), .inr ((1 : Nat), (1 : Int)), true)
noncomputable def lq_E0 : List (Nat × List ck_Sum) := [((72 : Nat), [pm_s77])]
noncomputable def lq_E2 : List (Nat × List ck_Sum) := [((61 : Nat), [lq_fw]), ((64 : Nat), [lq_ll])]
noncomputable def lq_W2 : List (Nat × Int × Int) × List (Nat × Int) := ([((1 : Nat), (15 : Int), (15 : Int)), ((42 : Nat), (2 : Int), (2 : Int)), ((200 : Nat), (6 : Int), (6 : Int)), ((201 : Nat), (0 : Int), (299 : Int)), ((202 : Nat), (0 : Int), (593 : Int)), ((203 : Nat), (0 : Int), (299 : Int))], [])
noncomputable def lq_o2 : List ck_Oc := [(.inr (some (.inl ((0 : Int), (12 : Int), []))), (249 : Nat), ([], [((3 : Nat), (8 : Int), (246 : Nat))], [((1 : Nat), (1 : Int), (1 : Int), ck_one 0)]))]
set_option maxRecDepth 100000 in
theorem lq_a : (decide (lq_S.2.2.1.length ≤ gm_ml 123) && ck_go p2_O none [] lq_E0 123 lq_S.1.1 lq_S.2.1 lq_S.2.2.2.2.1 lq_S.2.2.2.2.2 [(38, lq_C)] 150 false [(38, lq_C, 4, 454, 245)] lq_S.1.2.1 lq_S.1.2.2 0 (lq_S.2.2.1.map some ++ List.replicate (gm_ml 123 - lq_S.2.2.1.length) none) [] lq_S.2.1 lq_S.2.2.2.1) = true := by decide +kernel
set_option maxRecDepth 100000 in
theorem lq_g52 : ck_go p2_OL none [] lq_E2 123 25 249 lq_W2 lq_o2 [] 60 false [] 0 0 52 [some (.inr (.inr (.inl 1)))] [] 249 ([], [(3, 8, 246)], [(1, 1, 1, ck_one 0)]) = true := by decide +kernel
theorem lq_S_s : ck_Ok p2_O X LX 123 lq_S := by
  refine ck_ok_st (cuts := [((38 : Nat), lq_C)]) (by decide +kernel) ⟨p2_nmu, ck_E1 (ck_S1 pm_s77_s ck_S0) ck_E0⟩ lq_a (fun h hm => ?_)
  rw [List.mem_singleton.mp hm]
  refine ⟨List.mem_singleton.mpr rfl, fun σ K0 R0 M0 v _ bc bs L K R M hbc hbs hS _ => ?_⟩
  obtain ⟨hF, hl, -, hf, hfr⟩ := hS
  have hF : gm_Fx p2_O 245 K R M := hF
  have hl : ck_gl σ [some (.inr (.inr (.inl 1)))] L := hl
  have hf : ck_gf σ ([], [], [(1, 1, 1, ck_one 0)]) 245 K R M := hf
  have hfr : ck_fr lq_W 245 K0 R0 M0 245 K R M := hfr
  have hbc : 4 ≤ bc := hbc
  have hbs : 454 ≤ bs := hbs
  refine gm_Wp_wk (Nat.le_refl _) hbc hbs ?_
  show gm_Wp X LX 25 4 454 123 38 L [] 245 K R M _
  obtain ⟨u0, l0, g0⟩ := hl.2 0 (.inr (.inr (.inl 1))) rfl
  cases g0
  have tu := ((gm_tyr_s hF (show gm_tyr p2_O 215 4 4 = some (0, 400) by decide +kernel)).2 4 (Int.le_refl _) (Int.le_refl _)).2
  have tu1 : (0 : Int) ≤ M 215 4 := tu.1
  have tu2 : M 215 4 ≤ (400 : Int) := tu.2
  obtain ⟨N, hN⟩ : ∃ N : Nat, M 215 4 = (N : Int) := ⟨(M 215 4).toNat, by omega⟩
  have hN4 : N ≤ 400 := by omega
  have k1 := lq_kd (c := 0) hF lq_or.1.1
  have k3 := lq_kd (c := 1) hF lq_or.1.2.1
  have k215 := lq_kd (c := 9) hF lq_or.1.2.2.1
  refine gm_sz (gm_p_load (pc := 38) (i := .aload_n 0) (sr := 2) (j := 0) (by decide +kernel) rfl l0 rfl) ?_
  refine gm_sz (gm_p_get (pc := 39) (ix := 23) (ci := 0) (j := 3) (by decide +kernel) k1.1 k1.2 (by decide +kernel)) ?_
  rw [if_pos (show gm_isr 0 3 = true by decide +kernel), lq_rf hF lq_or.2.1]
  refine gm_sz (gm_p_load (pc := 42) (i := .aload_n 0) (sr := 2) (j := 0) (by decide +kernel) rfl l0 rfl) ?_
  refine gm_sz (gm_p_get (pc := 43) (ix := 88) (ci := 0) (j := 13) (by decide +kernel) k1.1 k1.2 (by decide +kernel)) ?_
  rw [if_pos (show gm_isr 0 13 = true by decide +kernel), lq_rf hF lq_or.2.2.1]
  refine gm_c_virt (k := 215) (ci := 9) (mj := 124) (ix := 142) (pc := 46) (as := []) (st := [gm_vr 3]) (d' := 3) (bc' := 4) (bs' := 454) (by decide +kernel) (by decide +kernel) (by decide +kernel) (by decide +kernel) k215.1 k215.2 (by decide) (by decide +kernel) (show 0 = gm_na 124 by decide +kernel) (fun v hv => nomatch hv) (show 0 + 1 ≤ gm_ml 124 by decide +kernel) (Nat.le_of_ble_eq_true rfl) (by decide) (Nat.le_refl _) (Nat.le_refl _) ?_
  refine lq_mk hF hN4 hN (fun K1 R1 M1 h1 => ?_)
  obtain ⟨⟨g1, g2⟩, ⟨k6, k7, k8, k9⟩, ⟨r0, r1, r2⟩, m0, m1, m3⟩ := h1
  show gm_Wp X LX 25 _ _ 123 49 L [gm_vr 246, gm_vr 3] 249 K1 R1 M1 _
  have kt := lq_kd (c := 1) g1 lq_or.1.2.1
  refine gm_sz (gm_p_putr (pc := 49) (ix := 146) (ci := 1) (j := 8) (by decide +kernel) kt.1 kt.2 (by decide +kernel) (by decide +kernel) (by decide +kernel)) ?_
  have un : ∀ (k : Nat) (j : Int), ¬ k = 3 → gm_uR R1 3 ((8 : Nat) : Int) 246 k j = R1 k j := fun k j hk => by unfold gm_uR; rw [if_neg (fun h => hk h.1)]
  have u8 : gm_uR R1 3 ((8 : Nat) : Int) 246 3 8 = 246 := by unfold gm_uR; rw [if_pos ⟨rfl, rfl⟩]
  have gF : gm_Fx p2_O 249 K1 (gm_uR R1 3 ((8 : Nat) : Int) 246) M1 := gm_Fx_R g1 (show p2_O.2.1 3 ((8 : Nat) : Int) = none by decide +kernel)
  have fr3 : ck_fr lq_W 245 K0 R0 M0 249 K1 (gm_uR R1 3 ((8 : Nat) : Int) 246) M1 := ck_fr_R (ck_fr_tr hfr g2 (by decide) (by decide)) (by decide)
  generalize gm_uR R1 3 ((8 : Nat) : Int) 246 = R3 at *
  have gL : gm_Fx p2_OL 249 K1 R3 M1 := pl_i gF hN4 k6 k7 k8 k9 ((un 246 0 (by decide)).trans r0) ((un 246 1 (by decide)).trans r1) ((un 248 2 (by decide)).trans r2) m0 m1 m3
  have h11 : M1 1 1 = M 1 1 := g2.2.2.1 1 1 (by decide) (fun w hw => nomatch hw)
  have hf1 := (hf.2.2 (1, 1, 1, ck_one 0) List.mem_cons_self).2 1 (Int.le_refl _) (Int.le_refl _)
  refine gm_Wp_mono (fun o n K4 R4 M4 h => ?_) (gm_Wp_wk (Nat.le_refl _) (Nat.zero_le _) (Nat.zero_le _) (ck_go_s (σ0 := σ) (cuts := []) (by decide) ⟨pl_nmu, ck_E1 (ck_S1 lq_fw_s ck_S0) (ck_E1 (ck_S1 lq_ll_s ck_S0) ck_E0)⟩ ck_X0 ck_l0 60 false [] 0 0 52 [some (.inr (.inr (.inl 1)))] [] 249 ([], [(3, 8, 246)], [(1, 1, 1, ck_one 0)]) σ L [] K1 R3 M1 (fun _ _ => rfl) (fun _ h => nomatch h) ⟨gL, hl, rfl, ⟨(fun _ h => nomatch h), fun q hq => ?_, fun q hq => ?_⟩, ck_fr_0⟩ lq_g52))
  · obtain ⟨e1, e2, oc, e3, e4, e5, e6⟩ := h
    rw [List.mem_singleton.mp e3] at e4 e5 e6
    have e5 : n = 249 := e5
    subst e5
    have t := fun (j a b : Int) (h : gm_tyr p2_OL 248 j j = some (a, b)) => (gm_tyr_s e1 h).2 j (Int.le_refl _) (Int.le_refl _)
    refine ⟨pl_o e1, ck_fr_tr fr3 e2 (by decide) (by decide), lq_oc N, List.mem_cons_of_mem _ (List.mem_map.mpr ⟨N, List.mem_range.mpr (by omega), rfl⟩), e4, rfl, ⟨fun q hq => ?_, fun q hq => ?_, fun q hq => ?_⟩⟩
    · have hq : q ∈ [((246 : Nat), (14 : Nat), (0 : Nat)), (247, 0, N), (248, 6, 0), (249, 0, 48)] := hq
      simp only [List.mem_cons, List.not_mem_nil, or_false] at hq
      rcases hq with rfl | rfl | rfl | rfl
      · exact ⟨⟨by decide, by decide⟩, (e2.2.1 246 (by decide)).trans k6⟩
      · exact ⟨⟨show 1 ≤ 247 by decide, show 247 ≤ 249 by decide⟩, (e2.2.1 247 (by decide)).trans k7⟩
      · exact ⟨⟨by decide, by decide⟩, (e2.2.1 248 (by decide)).trans k8⟩
      · exact ⟨⟨by decide, by decide⟩, (e2.2.1 249 (by decide)).trans k9⟩
    · have hq : q ∈ [((3 : Nat), (8 : Int), (246 : Nat)), (246, 0, 248), (246, 1, 247), (248, 2, 249)] := hq
      simp only [List.mem_cons, List.not_mem_nil, or_false] at hq
      rcases hq with rfl | rfl | rfl | rfl
      · exact e6.2.1 _ List.mem_cons_self
      · exact ⟨by decide, (e1.2.1 246 0 248 (by decide +kernel)).2⟩
      · exact ⟨by decide, (e1.2.1 246 1 247 (by decide +kernel)).2⟩
      · exact ⟨by decide, (e1.2.1 248 2 249 (by decide +kernel)).2⟩
    · have hq : q ∈ [((1 : Nat), (1 : Int), (1 : Int), ck_one 0), (248, 0, 0, ck_one 12), (248, 1, 1, ck_one 4), (248, 3, 3, (0, 12, []))] := hq
      simp only [List.mem_cons, List.not_mem_nil, or_false] at hq
      rcases hq with rfl | rfl | rfl | rfl
      · exact e6.2.2 _ List.mem_cons_self
      · have := t 0 12 12 (by decide +kernel)
        exact ck_f1 (by decide) ⟨this.1.1, this.1.2⟩ ⟨this.2.1, this.2.2, fun _ h => nomatch h⟩
      · have := t 1 4 4 (by decide +kernel)
        exact ck_f1 (by decide) ⟨this.1.1, this.1.2⟩ ⟨this.2.1, this.2.2, fun _ h => nomatch h⟩
      · have := t 3 0 12 (by decide +kernel)
        exact ck_f1 (by decide) ⟨this.1.1, this.1.2⟩ ⟨this.2.1, this.2.2, fun _ h => nomatch h⟩
  · rw [List.mem_singleton.mp hq]
    exact ⟨by decide, u8⟩
  · rw [List.mem_singleton.mp hq]
    refine ⟨by decide, fun j j1 j2 => ?_⟩
    have : j = 1 := Int.le_antisymm j2 j1
    subst this
    show gm_ir (M1 1 1) ∧ ck_gi σ (ck_one 0) (M1 1 1)
    rw [h11]
    exact hf1
end LQ
end
/-! 76d.bg -/
section
/-! BETWEEN THE CALLS: 245 cells, and four for each law that was read; a call sees the 245, and the law that is told. -/
noncomputable def bg_ss : List Nat := [(3 : Nat), (16 : Nat), (29 : Nat), (44 : Nat), (57 : Nat), (70 : Nat), (83 : Nat), (96 : Nat), (109 : Nat), (122 : Nat), (135 : Nat), (148 : Nat), (161 : Nat), (174 : Nat), (187 : Nat)]
/-- told: the number of a law, or 0 -/
noncomputable def bg_lr (la : Nat → Nat) (s : Nat) : Nat := if la s = 0 then 0 else 242 + 4 * la s
noncomputable def bg_gR (g k : Nat) (j : Int) : Nat := if 246 ≤ k ∧ k < 246 + 4 * g then (if (k - 246) % 4 = 0 then (if j = 0 then k + 2 else if j = 1 then k + 1 else 0) else if (k - 246) % 4 = 2 ∧ j = 2 then k + 1 else 0) else 0
noncomputable def bg_R (g : Nat) (la : Nat → Nat) : gm_R := fun k j => match p2_O.2.1 k j with
  | some r => r
  | none => if k ∈ bg_ss ∧ j = 8 then bg_lr la k else bg_gR g k j
/-- a call's references: z stands for what is told -/
noncomputable def bs_R (z g1 : Nat) : gm_R := fun k j => match p2_O.2.1 k j with
  | some r => r
  | none => if k ∈ bg_ss ∧ j = 8 then (if k = 3 then z else 100000 + k) else bg_gR g1 k j
noncomputable def bg_rho (t k : Nat) : Nat := if k < 246 then k else k + 4 * (t - 1)
noncomputable def bg_f (la : Nat → Nat) (α : Nat → Nat) : Nat → Nat := fun k => if k < 100000 then α (bg_rho (la 3) k) else if la (k - 100000) = 0 then 0 else α (242 + 4 * la (k - 100000)) + 1
noncomputable def bs_ok (la : Nat → Nat) (z g1 : Nat) : Prop := (z = 0 ∧ g1 = 0 ∧ la 3 = 0) ∨ (z = 100003 ∧ g1 = 0) ∨ (z = 246 ∧ g1 = 1 ∧ ¬ la 3 = 0)
/-- a law's four cells -/
noncomputable def bg_g (b : Nat) (K : gm_K) (M : gm_M) : Prop := (K b = (14, 0) ∧ (∃ N : Nat, N ≤ 400 ∧ K (b + 1) = (0, N)) ∧ K (b + 2) = (6, 0) ∧ K (b + 3) = (0, 48)) ∧ M (b + 2) 0 = 12 ∧ M (b + 2) 1 = 4 ∧ 0 ≤ M (b + 2) 3 ∧ M (b + 2) 3 ≤ 12
noncomputable def bg (g : Nat) (la : Nat → Nat) (K : gm_K) (R : gm_R) (M : gm_M) : Prop := (R = bg_R g la ∧ g ≤ 10000) ∧ gm_Fx p2_O (245 + 4 * g) K R M ∧ (∀ i, i < g → bg_g (246 + 4 * i) K M) ∧ ∀ s ∈ bg_ss, la s ≤ g
theorem bg_lk0 {β : Type} : ∀ {l : List (Int × β)} {k : Int} {v : β}, l.lookup k = some v → (k, v) ∈ l := by
  intro l
  induction l with
  | nil => intro k v h; cases h
  | cons a l ih =>
    intro k v h
    rw [List.lookup_cons] at h
    by_cases e : k == a.1
    · rw [e] at h
      cases h
      rw [eq_of_beq e]
      exact List.mem_cons_self
    · rw [show (k == a.1) = false by simpa using e] at h
      exact List.mem_cons_of_mem _ (ih h)
theorem bg_lk {β : Type} {l : List (Int × β)} {k : Int} {v : β} (h : fl_lki k l = some v) : (k, v) ∈ l := bg_lk0 (by rw [← fl_lki_eq]; exact h)
theorem bg_rfe : (List.range 246).all (fun k => match ck_tab p2_T k with | some e => e.2.1.all (fun q => decide (1 ≤ q.2 ∧ q.2 ≤ 245 ∧ ¬ (k ∈ bg_ss ∧ q.1 = 8))) | none => true) = true := by decide +kernel
theorem bg_rfo {k r : Nat} {j : Int} (h : p2_O.2.1 k j = some r) : (1 ≤ r ∧ r ≤ 245) ∧ k ≤ 245 ∧ ¬ (k ∈ bg_ss ∧ j = 8) := by
  have h : (match ck_tab p2_T k with | some e => fl_lki j e.2.1 | none => none) = some r := h
  by_cases hk : k < 246
  · have h2 := List.all_eq_true.mp bg_rfe k (List.mem_range.mpr hk)
    cases he : ck_tab p2_T k with
    | none => rw [he] at h; cases h
    | some e =>
      rw [he] at h h2
      have := of_decide_eq_true (List.all_eq_true.mp h2 _ (bg_lk h))
      exact ⟨⟨this.1, this.2.1⟩, by omega, this.2.2⟩
  · rw [lq_tab hk] at h
    cases h
theorem bg_sse : bg_ss.all (fun s => decide (1 ≤ s ∧ s ≤ 245)) = true := by decide
theorem bg_ssl {s : Nat} (h : s ∈ bg_ss) : 1 ≤ s ∧ s ≤ 245 := of_decide_eq_true (List.all_eq_true.mp bg_sse s h)
theorem bg_no {k : Nat} {j : Int} (h : 246 ≤ k) : p2_O.2.1 k j = none := by
  show (match ck_tab p2_T k with | some e => fl_lki j e.2.1 | none => none) = none
  rw [lq_tab (by omega)]
theorem bg_nss {k : Nat} {j : Int} (h : 246 ≤ k) : ¬ (k ∈ bg_ss ∧ j = 8) := fun hh => by have := bg_ssl hh.1; omega
theorem bg_gR_le {g k : Nat} {j : Int} : bg_gR g k j ≤ 245 + 4 * g ∧ (bg_gR g k j = 0 ∨ 246 ≤ bg_gR g k j) := by
  unfold bg_gR
  split
  · split
    · split
      · omega
      · split <;> omega
    · split <;> omega
  · omega
theorem bg_R_le {g : Nat} {la : Nat → Nat} (h : ∀ s ∈ bg_ss, la s ≤ g) (k : Nat) (j : Int) : bg_R g la k j ≤ 245 + 4 * g := by
  unfold bg_R
  cases ho : p2_O.2.1 k j with
  | some r => have := (bg_rfo ho).1; show r ≤ _; omega
  | none =>
    show (if k ∈ bg_ss ∧ j = 8 then bg_lr la k else bg_gR g k j) ≤ _
    split
    · rename_i hh
      have := h k hh.1
      unfold bg_lr
      split <;> omega
    · exact bg_gR_le.1
theorem bg_Rv {g : Nat} {la : Nat → Nat} (hg : g ≤ 10000) (h : ∀ s ∈ bg_ss, la s ≤ g) : gm_Rv (245 + 4 * g) (bg_R g la) := ⟨by omega, fun k j => Or.inl (bg_R_le h k j)⟩
theorem bs_Rv {z g1 : Nat} {la : Nat → Nat} (h : bs_ok la z g1) : gm_Rv (245 + 4 * g1) (bs_R z g1) := by
  have hg : g1 ≤ 1 := by rcases h with h | h | h <;> omega
  refine ⟨by omega, fun k j => ?_⟩
  unfold bs_R
  cases ho : p2_O.2.1 k j with
  | some r => have := (bg_rfo ho).1; exact Or.inl (show r ≤ _ by omega)
  | none =>
    show gm_kn _ (if k ∈ bg_ss ∧ j = 8 then (if k = 3 then z else 100000 + k) else bg_gR g1 k j)
    split
    · split
      · rcases h with h | h | h
        · exact Or.inl (by omega)
        · exact Or.inr ⟨by omega, by omega⟩
        · exact Or.inl (by omega)
      · exact Or.inr ⟨by omega, by omega⟩
    · exact Or.inl bg_gR_le.1
/-- an opaque law -/
theorem bg_ro {la α : Nat → Nat} {s : Nat} (hs : 242 + 4 * la s < 100000) : gm_ro (bg_f la α) (100000 + s) = gm_ro α (bg_lr la s) := by
  have e : bg_f la α (100000 + s) = if la s = 0 then 0 else α (242 + 4 * la s) + 1 := by
    unfold bg_f
    rw [if_neg (by omega), show 100000 + s - 100000 = s by omega]
  rw [show gm_ro (bg_f la α) (100000 + s) = (if 99999 + s + 1 < 100000 then some (bg_f la α (99999 + s + 1)) else match bg_f la α (99999 + s + 1) with | 0 => none | a + 1 => some a) by rw [show 100000 + s = (99999 + s) + 1 by omega]; rfl, if_neg (by omega), show 99999 + s + 1 = 100000 + s by omega, e]
  unfold bg_lr
  by_cases h : la s = 0
  · rw [if_pos h, if_pos h]
    rfl
  · rw [if_neg h, if_neg h, gm_ro_pos (by omega) hs]
/-- what a call sees by a reference -/
theorem bg_ros {g z g1 : Nat} {la α : Nat → Nat} (hg : g ≤ 10000) (hz : bs_ok la z g1) (hl : ∀ s ∈ bg_ss, la s ≤ g) (i : Nat) (h2 : i ≤ 245 + 4 * g1) (j : Int) : gm_ro (bg_f la α) (bs_R z g1 i j) = gm_ro α (bg_R g la (bg_rho (la 3) i) j) := by
  have h3 := hl 3 (by decide)
  by_cases hi : i < 246
  · rw [show bg_rho (la 3) i = i by unfold bg_rho; rw [if_pos hi]]
    unfold bs_R bg_R
    cases ho : p2_O.2.1 i j with
    | some r =>
      obtain ⟨⟨r1, r2⟩, -⟩ := bg_rfo ho
      show gm_ro (bg_f la α) r = gm_ro α r
      refine gm_ro_cg (fun _ => ?_)
      unfold bg_f
      rw [if_pos (by omega)]
      unfold bg_rho
      rw [if_pos (by omega)]
    | none =>
      show gm_ro (bg_f la α) (if i ∈ bg_ss ∧ j = 8 then (if i = 3 then z else 100000 + i) else bg_gR g1 i j) = gm_ro α (if i ∈ bg_ss ∧ j = 8 then bg_lr la i else bg_gR g i j)
      by_cases hs : i ∈ bg_ss ∧ j = 8
      · rw [if_pos hs, if_pos hs]
        have := hl i hs.1
        by_cases e : i = 3
        · rw [if_pos e]
          subst e
          rcases hz with ⟨rfl, -, h0⟩ | ⟨rfl, -⟩ | ⟨rfl, -, h0⟩
          · unfold bg_lr
            rw [if_pos h0]
            rfl
          · exact bg_ro (s := 3) (by omega)
          · unfold bg_lr
            rw [if_neg h0, gm_ro_pos (by decide) (by decide), gm_ro_pos (by omega) (by omega)]
            unfold bg_f bg_rho
            rw [if_pos (by decide), if_neg (by decide), show 246 + 4 * (la 3 - 1) = 242 + 4 * la 3 by omega]
        · rw [if_neg e]
          exact bg_ro (by omega)
      · rw [if_neg hs, if_neg hs]
        unfold bg_gR
        rw [if_neg (by omega), if_neg (by omega)]
        rfl
  · rcases hz with ⟨-, rfl, -⟩ | ⟨-, rfl⟩ | ⟨rfl, rfl, h0⟩
    · omega
    · omega
    have hr : bg_rho (la 3) i = i + 4 * (la 3 - 1) := by unfold bg_rho; rw [if_neg hi]
    rw [hr]
    unfold bs_R bg_R
    rw [bg_no (by omega), bg_no (by omega)]
    show gm_ro (bg_f la α) (if i ∈ bg_ss ∧ j = 8 then _ else bg_gR 1 i j) = gm_ro α (if i + 4 * (la 3 - 1) ∈ bg_ss ∧ j = 8 then _ else bg_gR g (i + 4 * (la 3 - 1)) j)
    rw [if_neg (bg_nss (by omega)), if_neg (bg_nss (by omega))]
    have fa : ∀ r, 246 ≤ r → r ≤ 249 → gm_ro (bg_f la α) r = gm_ro α (r + 4 * (la 3 - 1)) := fun r h1 h2 => by
      rw [gm_ro_pos (by omega) (by omega), gm_ro_pos (by omega) (by omega)]
      unfold bg_f bg_rho
      rw [if_pos (by omega), if_neg (by omega)]
    unfold bg_gR
    rw [if_pos (show 246 ≤ i ∧ i < 246 + 4 * 1 by omega), if_pos (show 246 ≤ i + 4 * (la 3 - 1) ∧ i + 4 * (la 3 - 1) < 246 + 4 * g by omega), show (i + 4 * (la 3 - 1) - 246) % 4 = (i - 246) % 4 by omega]
    by_cases e : (i - 246) % 4 = 0
    · rw [if_pos e, if_pos e]
      by_cases e0 : j = 0
      · rw [if_pos e0, if_pos e0, fa _ (by omega) (by omega), show i + 2 + 4 * (la 3 - 1) = i + 4 * (la 3 - 1) + 2 by omega]
      rw [if_neg e0, if_neg e0]
      by_cases e1 : j = 1
      · rw [if_pos e1, if_pos e1, fa _ (by omega) (by omega), show i + 1 + 4 * (la 3 - 1) = i + 4 * (la 3 - 1) + 1 by omega]
      rw [if_neg e1, if_neg e1]
      rfl
    · rw [if_neg e, if_neg e]
      by_cases e2 : (i - 246) % 4 = 2 ∧ j = 2
      · rw [if_pos e2, if_pos e2, fa _ (by omega) (by omega), show i + 1 + 4 * (la 3 - 1) = i + 4 * (la 3 - 1) + 1 by omega]
      rw [if_neg e2, if_neg e2]
      rfl
theorem bg_en {ti : Nat → ClassId} {α α' : Nat → Nat} {K K' : gm_K} {R R' : gm_R} {M M' : gm_M} {i k : Nat} (hK : K i = K' k) (hM : ∀ j, M i j = M' k j) (hR : ∀ j, gm_ro α (R i j) = gm_ro α' (R' k j)) : gm_en ti α K R M i = gm_en ti α' K' R' M' k := by
  have eM : M i = M' k := funext hM
  have e1 : ∀ j, gm_rf α (R i j) = gm_rf α' (R' k j) := fun j => by rw [← gm_rf_ro, ← gm_rf_ro, hR]
  unfold gm_en gm_fs
  rw [hK, eM]
  simp only [hR, e1]
noncomputable def bs_K (la : Nat → Nat) (K : gm_K) : gm_K := fun k => K (bg_rho (la 3) k)
noncomputable def bs_M (la : Nat → Nat) (M : gm_M) : gm_M := fun k j => M (bg_rho (la 3) k) j
theorem bg_rhl {g z g1 : Nat} {la : Nat → Nat} (hz : bs_ok la z g1) (h3 : la 3 ≤ g) {i : Nat} (h1 : 1 ≤ i) (h2 : i ≤ 245 + 4 * g1) : 1 ≤ bg_rho (la 3) i ∧ bg_rho (la 3) i ≤ 245 + 4 * g := by
  unfold bg_rho
  split
  · omega
  · rcases hz with h | h | h <;> omega
/-- a call sees a part -/
theorem bg_sbw {g z g1 : Nat} {la : Nat → Nat} {K : gm_K} {R : gm_R} {M : gm_M} (h : bg g la K R M) (hz : bs_ok la z g1) (ti : Nat → ClassId) (α : Nat → Nat) : gm_sbw ti (bg_rho (la 3)) (245 + 4 * g1) (bg_f la α) (bs_K la K) (bs_R z g1) (bs_M la M) (245 + 4 * g) α K R M := by
  obtain ⟨⟨rfl, hg⟩, -, -, hl⟩ := h
  have hg1 : g1 ≤ 1 := by rcases hz with h | h | h <;> omega
  intro i h1 h2
  refine ⟨bg_rhl hz (hl 3 (by decide)) h1 h2, ?_, bg_en rfl (fun _ => rfl) (fun j => bg_ros hg hz hl i h2 j)⟩
  unfold bg_f
  rw [if_pos (by omega)]
theorem bg_inj {t : Nat} (i j : Nat) (h : bg_rho t i = bg_rho t j) (hi : i < 246 ∨ 1 ≤ t) (hj : j < 246 ∨ 1 ≤ t) : i = j := by
  unfold bg_rho at h
  split at h
  · split at h <;> omega
  · split at h <;> omega
end
/-! 76e.bg -/
section
/-! BEHIND A CALL: the world between the calls again, with one law more at most. -/
/-- what a call hands back: c new laws -/
noncomputable def bs_rt (z g1 c : Nat) (K1 : gm_K) (M1 : gm_M) (n' : Nat) (K' : gm_K) (R' : gm_R) (M' : gm_M) : Prop :=
  ((c = 0 ∨ c = 1 ∧ g1 = 0) ∧ n' = 245 + 4 * g1 + 4 * c) ∧ gm_Fx p2_O n' K' R' M' ∧ (∀ k, k ≤ 245 + 4 * g1 → K' k = K1 k) ∧ (∀ k j, 246 ≤ k → k ≤ 245 + 4 * g1 → M' k j = M1 k j) ∧ (∀ k j, k ≤ 245 + 4 * g1 → ¬ (k ∈ bg_ss ∧ j = 8) → R' k j = bs_R z g1 k j) ∧ (∀ s ∈ bg_ss, R' s 8 = 0 ∨ (R' s 8 = 246 ∧ (g1 = 1 ∨ c = 1)) ∨ ∃ s' ∈ bg_ss, R' s 8 = 100000 + s') ∧ (c = 1 → bg_g 246 K' M' ∧ R' 246 0 = 248 ∧ R' 246 1 = 247 ∧ R' 248 2 = 249)
noncomputable def bg_dc (la : Nat → Nat) (g c v : Nat) : Nat := if v = 0 then 0 else if v = 246 then (if c = 1 then g + 1 else la 3) else la (v - 100000)
noncomputable def bg_la (la : Nat → Nat) (g c : Nat) (R' : gm_R) : Nat → Nat := fun s => bg_dc la g c (R' s 8)
noncomputable def bg_K (g : Nat) (K K' : gm_K) : gm_K := fun k => if k ≤ 245 + 4 * g then K k else K' (k - 4 * g)
noncomputable def bg_M (g : Nat) (M M' : gm_M) : gm_M := fun k j => if k ≤ 245 then M' k j else if k ≤ 245 + 4 * g then M k j else M' (k - 4 * g) j
noncomputable def bg_al (g c : Nat) (α α1 : Nat → Nat) : Nat → Nat := fun k => if 245 + 4 * g < k ∧ k ≤ 245 + 4 * g + 4 * c then α1 (k - 4 * g) else α k
theorem bg_en2 {ti : Nat → ClassId} {α α' : Nat → Nat} {K K' : gm_K} {R R' : gm_R} {M M' : gm_M} {i k : Nat} (hK : K i = K' k) (hM : ∀ j, M i j = M' k j) (h3 : ¬ (K i).1 = 3) (hR : ∀ c j : Nat, (K i).1 = c + 4 → j < gm_nf c → gm_isr c j = true → gm_ro α (R i j) = gm_ro α' (R' k j)) : gm_en ti α K R M i = gm_en ti α' K' R' M' k := by
  have eM : M i = M' k := funext hM
  have e1 : ∀ c j : Nat, (K i).1 = c + 4 → j < gm_nf c → gm_isr c j = true → gm_rf α (R i j) = gm_rf α' (R' k j) := fun c j h1 h2 h4 => by rw [← gm_rf_ro, ← gm_rf_ro, hR c j h1 h2 h4]
  unfold gm_en
  rw [← hK, ← eM]
  split
  · rfl
  · rfl
  · rfl
  · rename_i h; exact absurd h h3
  · rename_i c h
    have : gm_fs α R M i c = gm_fs α' R' M' k c := by
      unfold gm_fs
      refine List.map_congr_left fun j hj => ?_
      rw [← eM]
      by_cases hr : gm_isr c j = true
      · rw [if_pos hr, if_pos hr, e1 c j h (List.mem_range.mp hj) hr]
      · rw [if_neg hr, if_neg hr]
    rw [this]
theorem bg_gR_g {g c k : Nat} {j : Int} (h : k < 246 + 4 * g) : bg_gR (g + c) k j = bg_gR g k j := by
  unfold bg_gR
  by_cases h1 : 246 ≤ k
  · rw [if_pos (show 246 ≤ k ∧ k < 246 + 4 * (g + c) by omega), if_pos (show 246 ≤ k ∧ k < 246 + 4 * g by omega)]
  · rw [if_neg (fun e => h1 e.1), if_neg (fun e => h1 e.1)]
/-- by references to cells that were there -/
theorem bg_roA {g c : Nat} {α α1 : Nat → Nat} {r : Nat} (h : r ≤ 245 + 4 * g) : gm_ro (bg_al g c α α1) r = gm_ro α r := gm_ro_cg fun _ => by unfold bg_al; rw [if_neg (by omega)]
section BGC
variable {g z g1 c n' : Nat} {la : Nat → Nat} {K K' : gm_K} {R R' : gm_R} {M M' : gm_M}
theorem bg_dl (hb : bg g la K R M) (hr : bs_rt z g1 c (bs_K la K) (bs_M la M) n' K' R' M') : ∀ s ∈ bg_ss, bg_la la g c R' s ≤ g + c := by
  obtain ⟨-, -, -, hl⟩ := hb
  obtain ⟨⟨hc, -⟩, -, -, -, -, hv, -⟩ := hr
  intro s hs
  have h3 := hl 3 (by decide)
  unfold bg_la bg_dc
  rcases hv s hs with h | ⟨h, h2⟩ | ⟨s', h1, h2⟩
  · rw [if_pos h]; omega
  · rw [if_neg (by omega), if_pos h]
    split <;> omega
  · have := hl s' h1
    rw [if_neg (by omega), if_neg (by omega), h2, show 100000 + s' - 100000 = s' by omega]
    omega
/-- references of a cell that the call saw -/
theorem bg_roR (hb : bg g la K R M) (hz : bs_ok la z g1) (hr : bs_rt z g1 c (bs_K la K) (bs_M la M) n' K' R' M') (hg : g < 10000) {α α1 : Nat → Nat} (hx : gm_xt (bg_f la α) (245 + 4 * g1) α1 n') (i : Nat) (h2 : i ≤ 245 + 4 * g1) (j : Int) : gm_ro (bg_al g c α α1) (bg_R (g + c) (bg_la la g c R') (bg_rho (la 3) i) j) = gm_ro α1 (R' i j) := by
  obtain ⟨⟨hR, -⟩, -, -, hl⟩ := hb
  obtain ⟨⟨hc, hn⟩, -, -, -, hk, hv, h4⟩ := hr
  have h3 := hl 3 (by decide)
  have hg1 : g1 ≤ 1 := by rcases hz with h | h | h <;> omega
  have hgg : g1 ≤ g := by rcases hz with h | h | h <;> omega
  have x8 : ∀ s, α1 (100000 + s) = bg_f la α (100000 + s) := fun s => by
    rcases hx.2.2 with h | h
    · omega
    · exact h _ (by omega)
  by_cases hs : i ∈ bg_ss ∧ j = 8
  · have hi := bg_ssl hs.1
    obtain ⟨hs1, rfl⟩ := hs
    have no : p2_O.2.1 i 8 = none := by
      cases h : p2_O.2.1 i 8 with
      | none => rfl
      | some r => exact absurd ⟨hs1, rfl⟩ (bg_rfo h).2.2
    rw [show bg_rho (la 3) i = i by unfold bg_rho; rw [if_pos (by omega)]]
    have e : bg_R (g + c) (bg_la la g c R') i 8 = bg_lr (bg_la la g c R') i := by
      unfold bg_R
      rw [no]
      show (if i ∈ bg_ss ∧ (8 : Int) = 8 then _ else _) = _
      rw [if_pos ⟨hs1, rfl⟩]
    rw [e]
    show gm_ro _ (if bg_dc la g c (R' i 8) = 0 then 0 else 242 + 4 * bg_dc la g c (R' i 8)) = _
    rcases hv i hs1 with h | ⟨h, h5⟩ | ⟨s', h1, h5⟩
    · have e9 : bg_dc la g c (R' i 8) = 0 := by unfold bg_dc; rw [if_pos h]
      rw [e9, if_pos rfl, h]
      rfl
    · have e9 : bg_dc la g c (R' i 8) = if c = 1 then g + 1 else la 3 := by unfold bg_dc; rw [h, if_neg (show ¬ (246 : Nat) = 0 by decide), if_pos rfl]
      rw [e9, h]
      by_cases hc1 : c = 1
      · have : g1 = 0 := by omega
        subst this
        rw [if_pos hc1, if_neg (by omega), gm_ro_pos (by omega) (by omega), gm_ro_pos (by decide) (by decide)]
        unfold bg_al
        rw [if_pos (by omega), show 242 + 4 * (g + 1) - 4 * g = 246 by omega]
      · rw [if_neg hc1]
        have g11 : g1 = 1 := by omega
        have l3 : ¬ la 3 = 0 := by rcases hz with h | h | h <;> omega
        rw [if_neg l3, gm_ro_pos (by omega) (by omega), gm_ro_pos (by decide) (by decide), hx.2.1 246 (by decide) (by omega)]
        unfold bg_al bg_f bg_rho
        rw [if_neg (by omega), if_pos (by decide), if_neg (by decide), show 246 + 4 * (la 3 - 1) = 242 + 4 * la 3 by omega]
    · have hl' := hl s' h1
      have e9 : bg_dc la g c (R' i 8) = la s' := by unfold bg_dc; rw [h5, if_neg (show ¬ 100000 + s' = 0 by omega), if_neg (show ¬ 100000 + s' = 246 by omega), show 100000 + s' - 100000 = s' by omega]
      rw [e9, h5]
      have := bg_ro (la := la) (α := α) (s := s') (by omega)
      rw [gm_ro_cg (α := bg_f la α) (α' := α1) (fun _ => x8 s'), this]
      unfold bg_lr
      exact bg_roA (by split <;> omega)
  · have e1 : R' i j = bs_R z g1 i j := hk i j h2 hs
    have e2 : gm_ro α1 (R' i j) = gm_ro (bg_f la α) (bs_R z g1 i j) := by
      rw [e1]
      exact gm_ro_ext hx ((bs_Rv hz).2 i j)
    rw [e2, bg_ros (by omega) hz hl i h2 j]
    have e3 : bg_R (g + c) (bg_la la g c R') (bg_rho (la 3) i) j = bg_R g la (bg_rho (la 3) i) j := by
      have hs2 : ¬ (bg_rho (la 3) i ∈ bg_ss ∧ j = 8) := by
        unfold bg_rho
        split
        · exact hs
        · exact bg_nss (by omega)
      have hl2 : bg_rho (la 3) i < 246 + 4 * g := by
        unfold bg_rho
        split
        · omega
        · rcases hz with h | h | h <;> omega
      unfold bg_R
      cases p2_O.2.1 (bg_rho (la 3) i) j with
      | some r => rfl
      | none =>
        show (if _ then _ else _) = (if _ then _ else _)
        rw [if_neg hs2, if_neg hs2, bg_gR_g hl2]
    rw [e3]
    exact bg_roA (bg_R_le hl _ _)
theorem bg_O1 {k : Nat} {q : Nat × Nat} (h : p2_O.1 k = some q) : k < 246 := by
  by_cases hk : k < 246
  · exact hk
  · have h : (match ck_tab p2_T k with | some e => some e.1 | none => none) = some q := h
    rw [lq_tab hk] at h
    cases h
theorem bg_tyk {k : Nat} {r : Int × Int × Int × Int} (h : r ∈ p2_O.2.2.ty k) : k < 246 := by
  by_cases hk : k < 246
  · exact hk
  · have h : r ∈ (match ck_tab p2_T k with | some e => e.2.2 | none => []) := h
    rw [lq_tab hk] at h
    cases h
theorem bg_Ms {k : Nat} (h : k ≤ 245) (j : Int) : bg_M g M M' k j = M' k j := by unfold bg_M; rw [if_pos h]
theorem bg_Ks {k : Nat} (h : k ≤ 245 + 4 * g) : bg_K g K K' k = K k := by unfold bg_K; rw [if_pos h]
/-- the world behind it -/
theorem bg_new (hb : bg g la K R M) (hz : bs_ok la z g1) (hr : bs_rt z g1 c (bs_K la K) (bs_M la M) n' K' R' M') (hg : g < 10000) : bg (g + c) (bg_la la g c R') (bg_K g K K') (bg_R (g + c) (bg_la la g c R')) (bg_M g M M') := by
  have hd := bg_dl hb hr
  obtain ⟨⟨hR, -⟩, hF, hG, hl⟩ := hb
  obtain ⟨⟨hc, hn⟩, hF2, hk, hm, -, -, h4⟩ := hr
  have h3 := hl 3 (by decide)
  have hgg : g1 ≤ g := by rcases hz with h | h | h <;> omega
  refine ⟨⟨rfl, by omega⟩, ⟨fun k q hq => ?_, fun k j r hq => ?_, fun k r hq => ?_, fun k r hq => ?_, ?_⟩, fun i hi => ?_, hd⟩
  · obtain ⟨a1, a2, a3⟩ := hF.1 k q hq
    have := bg_O1 hq
    exact ⟨a1, by omega, (bg_Ks (by omega)).trans a3⟩
  · obtain ⟨-, a2, -⟩ := bg_rfo hq
    refine ⟨by omega, ?_⟩
    unfold bg_R
    rw [hq]
  · obtain ⟨a1, a2⟩ := hF2.2.2.1 k r hq
    have := bg_tyk hq
    refine ⟨by omega, fun j j1 j2 => ?_⟩
    rw [bg_Ms (by omega)]
    exact a2 j j1 j2
  · have := hF.2.2.2.1 k r hq
    omega
  · have e : ∀ k, k ≤ 245 → bg_M g M M' k = M' k := fun k h => funext fun j => bg_Ms h j
    have hJ : jP p2_ty (M' 227) (M' 228) (M' 229) (M' 230) := hF2.2.2.2.2
    show jP p2_ty (bg_M g M M' 227) (bg_M g M M' 228) (bg_M g M M' 229) (bg_M g M M' 230)
    rw [e 227 (by decide), e 228 (by decide), e 229 (by decide), e 230 (by decide)]
    exact hJ
  · by_cases hi2 : i < g
    · have h := hG i hi2
      have eM : ∀ j, bg_M g M M' (246 + 4 * i + 2) j = M (246 + 4 * i + 2) j := fun j => by unfold bg_M; rw [if_neg (by omega), if_pos (by omega)]
      unfold bg_g at h ⊢
      rw [bg_Ks (by omega), bg_Ks (by omega), bg_Ks (by omega), bg_Ks (by omega), eM, eM, eM]
      exact h
    · have hc1 : c = 1 := by omega
      have h := (h4 hc1).1
      have hi3 : i = g := by omega
      subst hi3
      have eK : ∀ t, bg_K i K K' (246 + 4 * i + t) = K' (246 + t) := fun t => by unfold bg_K; rw [if_neg (by omega), show 246 + 4 * i + t - 4 * i = 246 + t by omega]
      have eM : ∀ t j, bg_M i M M' (246 + 4 * i + t) j = M' (246 + t) j := fun t j => by unfold bg_M; rw [if_neg (by omega), if_neg (by omega), show 246 + 4 * i + t - 4 * i = 246 + t by omega]
      have e0 : bg_K i K K' (246 + 4 * i) = K' 246 := eK 0
      unfold bg_g at h ⊢
      rw [e0, eK, eK, eK, eM, eM, eM]
      exact h
theorem bg_xt (hn : n' = 245 + 4 * g1 + 4 * c) (hc : c ≤ 1) (hg : g < 10000) {α α1 : Nat → Nat} : gm_xt α (245 + 4 * g) (bg_al g c α α1) (245 + 4 * (g + c)) := by
  refine ⟨by omega, fun k h1 h2 => ?_, Or.inr fun k h => ?_⟩
  · unfold bg_al
    rw [if_neg (by omega)]
  · unfold bg_al
    rw [if_neg (by omega)]
theorem bg_isr : (List.range (gm_nf 2)).all (fun j => !gm_isr 2 j || decide (j = 2)) = true ∧ gm_nf 10 = 2 := by decide +kernel
/-- its cells are the call's, the others, the new ones -/
theorem bg_bgw (hb : bg g la K R M) (hz : bs_ok la z g1) (hr : bs_rt z g1 c (bs_K la K) (bs_M la M) n' K' R' M') (hg : g < 10000) {ti : Nat → ClassId} {α α1 : Nat → Nat} (hx : gm_xt (bg_f la α) (245 + 4 * g1) α1 n') : gm_bgw ti (bg_rho (la 3)) (245 + 4 * g1) n' α1 K' R' M' (245 + 4 * g) (245 + 4 * (g + c)) α K R M (bg_al g c α α1) (bg_K g K K') (bg_R (g + c) (bg_la la g c R')) (bg_M g M M') := by
  have hroR := fun i h2 j => bg_roR hb hz hr hg hx i h2 j
  obtain ⟨⟨hR, -⟩, -, -, hl⟩ := hb
  obtain ⟨⟨hc, hn⟩, -, hk, hm, -, -, h4⟩ := hr
  have h3 := hl 3 (by decide)
  have hg1 : g1 ≤ 1 := by rcases hz with h | h | h <;> omega
  subst hR
  refine ⟨⟨by omega, by omega⟩, fun i h1 h2 => ?_, fun k h1 h2 hi => ?_, fun t h1 h2 => ?_⟩
  · have hrl := bg_rhl hz h3 h1 h2
    refine ⟨?_, bg_en ?_ (fun j => ?_) (fun j => hroR i h2 j)⟩
    · rw [hx.2.1 i h1 h2]
      unfold bg_al bg_f
      rw [if_neg (by omega), if_pos (by omega)]
    · rw [bg_Ks hrl.2, hk i h2]
      rfl
    · by_cases hi : i < 246
      · rw [show bg_rho (la 3) i = i by unfold bg_rho; rw [if_pos hi], bg_Ms (by omega)]
      · have hr2 : 246 ≤ bg_rho (la 3) i := by unfold bg_rho; rw [if_neg hi]; omega
        rw [hm i j (by omega) h2]
        unfold bg_M
        rw [if_neg (by omega), if_pos hrl.2]
        rfl
  · have hk2 : 246 ≤ k := by
      by_cases h : k < 246
      · exact absurd (show bg_rho (la 3) k = k by unfold bg_rho; rw [if_pos h]) (hi k h1 (by omega))
      · omega
    refine ⟨by unfold bg_al; rw [if_neg (by omega)], bg_en (bg_Ks h2) (fun j => ?_) (fun j => ?_)⟩
    · unfold bg_M
      rw [if_neg (by omega), if_pos h2]
    · have e3 : bg_R (g + c) (bg_la la g c R') k j = bg_R g la k j := by
        unfold bg_R
        rw [bg_no hk2]
        show (if _ then _ else _) = (if _ then _ else _)
        rw [if_neg (bg_nss hk2), if_neg (bg_nss hk2), bg_gR_g (by omega)]
      rw [e3]
      exact bg_roA (bg_R_le hl _ _)
  · have hc1 : c = 1 := by omega
    have hg0 : g1 = 0 := by omega
    subst hc1 hg0
    obtain ⟨⟨⟨k6, ⟨N, -, k7⟩, k8, k9⟩, -⟩, r0, r1, r2⟩ := h4 rfl
    have eK : bg_K g K K' (245 + 4 * g + t) = K' (245 + 4 * 0 + t) := by unfold bg_K; rw [if_neg (by omega), show 245 + 4 * g + t - 4 * g = 245 + 4 * 0 + t by omega]
    have eM : ∀ j, bg_M g M M' (245 + 4 * g + t) j = M' (245 + 4 * 0 + t) j := fun j => by unfold bg_M; rw [if_neg (by omega), if_neg (by omega), show 245 + 4 * g + t - 4 * g = 245 + 4 * 0 + t by omega]
    have ea : ∀ t, 1 ≤ t → t ≤ 4 → bg_al g 1 α α1 (245 + 4 * g + t) = α1 (245 + t) := fun t h1 h2 => by unfold bg_al; rw [if_pos (by omega), show 245 + 4 * g + t - 4 * g = 245 + t by omega]
    have er : ∀ t, 1 ≤ t → t ≤ 4 → gm_ro (bg_al g 1 α α1) (245 + 4 * g + t) = gm_ro α1 (245 + t) := fun t h1 h2 => by rw [gm_ro_pos (by omega) (by omega), gm_ro_pos (by omega) (by omega), ea t h1 h2]
    have eR : ∀ t j, bg_R (g + 1) (bg_la la g 1 R') (245 + 4 * g + (t + 1)) j = bg_gR (g + 1) (246 + 4 * g + t) j := fun t j => by
      unfold bg_R
      rw [bg_no (by omega)]
      show (if _ then _ else _) = _
      rw [if_neg (bg_nss (by omega)), show 245 + 4 * g + (t + 1) = 246 + 4 * g + t by omega]
    refine ⟨(ea t h1 (by omega)).trans (by rw [show 245 + 4 * 0 + t = 245 + t by omega]), ?_⟩
    have ht : t = 1 ∨ t = 2 ∨ t = 3 ∨ t = 4 := by omega
    rcases ht with rfl | rfl | rfl | rfl
    · refine bg_en2 eK eM (by rw [eK]; show ¬ (K' 246).1 = 3; rw [k6]; decide) (fun c j hc hj hi => ?_)
      rw [eK] at hc
      have hc : (K' 246).1 = c + 4 := hc
      rw [k6] at hc
      have hc : 14 = c + 4 := hc
      have : c = 10 := by omega
      subst this
      rw [bg_isr.2] at hj
      rw [eR 0]
      have hj2 : j = 0 ∨ j = 1 := by omega
      rcases hj2 with rfl | rfl
      · rw [show bg_gR (g + 1) (246 + 4 * g + 0) ((0 : Nat) : Int) = 245 + 4 * g + 3 by
          unfold bg_gR
          rw [if_pos (by omega), if_pos (by omega), if_pos (by decide)]; omega, er 3 (by decide) (by decide)]
        show _ = gm_ro α1 (R' 246 0)
        rw [r0]
      · rw [show bg_gR (g + 1) (246 + 4 * g + 0) ((1 : Nat) : Int) = 245 + 4 * g + 2 by
          unfold bg_gR
          rw [if_pos (by omega), if_pos (by omega), if_neg (show ¬ ((1 : Nat) : Int) = 0 by decide), if_pos (show ((1 : Nat) : Int) = 1 by decide)]; omega, er 2 (by decide) (by decide)]
        show _ = gm_ro α1 (R' 246 1)
        rw [r1]
    · refine bg_en2 eK eM (by rw [eK]; show ¬ (K' 247).1 = 3; rw [k7]; exact (by decide : ¬ (0 : Nat) = 3)) (fun c j hc hj hi => ?_)
      rw [eK] at hc
      have hc : (K' 247).1 = c + 4 := hc
      rw [k7] at hc
      have hc : 0 = c + 4 := hc
      omega
    · refine bg_en2 eK eM (by rw [eK]; show ¬ (K' 248).1 = 3; rw [k8]; decide) (fun c j hc hj hi => ?_)
      rw [eK] at hc
      have hc : (K' 248).1 = c + 4 := hc
      rw [k8] at hc
      have hc : 6 = c + 4 := hc
      have : c = 2 := by omega
      subst this
      have h5 := List.all_eq_true.mp bg_isr.1 j (List.mem_range.mpr hj)
      rw [hi] at h5
      have : j = 2 := by simpa using h5
      subst this
      rw [eR 2, show bg_gR (g + 1) (246 + 4 * g + 2) ((2 : Nat) : Int) = 245 + 4 * g + 4 by
          unfold bg_gR
          rw [if_pos (by omega), if_neg (by omega), if_pos ⟨by omega, by decide⟩]; omega, er 4 (by decide) (by decide)]
      show _ = gm_ro α1 (R' 248 2)
      rw [r2]
    · refine bg_en2 eK eM (by rw [eK]; show ¬ (K' 249).1 = 3; rw [k9]; decide) (fun c j hc hj hi => ?_)
      rw [eK] at hc
      have hc : (K' 249).1 = c + 4 := hc
      rw [k9] at hc
      have hc : 0 = c + 4 := hc
      omega
end BGC
end
/-! 76f.bc -/
section
/-! A CALL, BY ITS ROW: from the world between the calls to the world between the calls. -/
/-- rows by the numbers they are for -/
noncomputable def bc_bx : List ck_A → List (Int × Int)
  | .inl b :: l => (b.1, b.2.1) :: bc_bx l
  | _ => []
noncomputable def bc_box (S : ck_Sum) : List (Int × Int) := bc_bx S.2.2.1.tail
noncomputable def bc_in : List (Int × Int) → List Int → Prop
  | [], [] => True
  | b :: bs, x :: xs => (b.1 ≤ x ∧ x ≤ b.2) ∧ bc_in bs xs
  | _, _ => False
noncomputable def bc_cov : Nat → List (Int × Int) → List (List (Int × Int)) → Bool
  | 0, _, _ => false
  | _ + 1, [], rows => rows.any fun r => r.isEmpty
  | f + 1, d :: ds, rows => decide (d.2 < d.1) || (let A := rows.filterMap (fun r => match r with
      | b :: t => if b.1 ≤ d.1 ∧ d.1 ≤ b.2 then some (b.2, t) else none
      | [] => none)
    let e := A.foldl (fun m q => min m q.1) d.2
    bc_cov f ds (A.map fun q => q.2) && bc_cov f ((e + 1, d.2) :: ds) rows)
theorem bc_min : ∀ {A : List (Int × List (Int × Int))} {m : Int}, A.foldl (fun m q => min m q.1) m ≤ m ∧ ∀ q ∈ A, A.foldl (fun m q => min m q.1) m ≤ q.1 := by
  intro A
  induction A with
  | nil => intro m; exact ⟨Int.le_refl _, fun _ h => nomatch h⟩
  | cons a A ih =>
    intro m
    rw [List.foldl_cons]
    obtain ⟨h1, h2⟩ := ih (m := min m a.1)
    refine ⟨by omega, fun q hq => ?_⟩
    rcases List.mem_cons.mp hq with rfl | hq
    · omega
    · exact h2 q hq
theorem bc_cov_s : ∀ (f : Nat) (ds : List (Int × Int)) (rows : List (List (Int × Int))) (xs : List Int), bc_cov f ds rows = true → bc_in ds xs → ∃ r ∈ rows, bc_in r xs := by
  intro f
  induction f with
  | zero => intro ds rows xs h _; cases h
  | succ f ih =>
    intro ds rows xs h hx
    match ds, xs, hx with
    | [], [], _ =>
      obtain ⟨r, hr, h2⟩ := List.any_eq_true.mp h
      refine ⟨r, hr, ?_⟩
      rw [List.isEmpty_iff.mp h2]
      trivial
    | d :: ds, x :: xs, ⟨hd, hx⟩ =>
      simp only [bc_cov, Bool.or_eq_true, Bool.and_eq_true, decide_eq_true_eq] at h
      rcases h with h | ⟨h1, h2⟩
      · omega
      · by_cases he : x ≤ (rows.filterMap (fun r => match r with
          | b :: t => if b.1 ≤ d.1 ∧ d.1 ≤ b.2 then some (b.2, t) else none
          | [] => none)).foldl (fun m q => min m q.1) d.2
        · obtain ⟨t, ht, h3⟩ := ih _ _ _ h1 hx
          obtain ⟨q, hq, rfl⟩ := List.mem_map.mp ht
          have hq2 := (bc_min (m := d.2)).2 q hq
          obtain ⟨r, hr, h4⟩ := List.mem_filterMap.mp hq
          match r, h4 with
          | b :: t, h4 =>
            simp only at h4
            split at h4
            · rename_i hb
              cases h4
              exact ⟨_, hr, ⟨by omega, Int.le_trans he hq2⟩, h3⟩
            · cases h4
        · exact ih _ _ _ h2 ⟨by constructor <;> omega, hx⟩
/-- a row's arguments: a cell, numbers, perhaps the cell 245 -/
noncomputable def bc_aok : List ck_A → Bool → Bool
  | [], t => !t
  | .inl b :: l, t => b.2.2.isEmpty && bc_aok l t
  | .inr (.inr (.inl k)) :: l, t => t && (k == 245 && l.isEmpty)
  | _, _ => false
noncomputable def bc_ar0 (k1 : Nat) (t : Bool) : List ck_A → Bool
  | .inr (.inr (.inl k)) :: l => k == k1 && bc_aok l t
  | _ => false
noncomputable def bc_args (S : ck_Sum) (k1 : Nat) (t : Bool) : Bool := bc_ar0 k1 t S.2.2.1
noncomputable def bc_as (xs : List Int) (t : Bool) : List gm_V := xs.map gm_vi ++ (if t = true then [gm_vr 245] else [])
theorem bc_gas {σ : Nat → Int} : ∀ {l : List ck_A} {xs : List Int} {t : Bool}, bc_aok l t = true → bc_in (bc_bx l) xs → (∀ x ∈ xs, gm_ir x) → ck_gas σ l (bc_as xs t) := by
  intro l
  induction l with
  | nil =>
    intro xs t ha h hx
    match xs, h with
    | [], _ =>
      cases t
      · rfl
      · cases ha
  | cons b l ih =>
    intro xs t ha h hx
    rcases b with b | b | k | k
    · simp only [bc_aok, Bool.and_eq_true] at ha
      match xs, h with
      | x :: xs, ⟨h1, h2⟩ =>
        refine ⟨_, _, rfl, ⟨x, rfl, hx x List.mem_cons_self, h1.1, h1.2, ?_⟩, ih ha.2 h2 (fun y hy => hx y (List.mem_cons_of_mem _ hy))⟩
        rw [List.isEmpty_iff.mp ha.1]
        exact fun _ h => nomatch h
    · cases ha
    · simp only [bc_aok, Bool.and_eq_true, beq_iff_eq] at ha
      obtain ⟨rfl, rfl, h9⟩ := ha
      rw [List.isEmpty_iff.mp h9]
      match xs, h with
      | [], _ => exact ⟨_, _, rfl, rfl, rfl⟩
    · cases ha
theorem bc_gas1 {σ : Nat → Int} {l0 : List ck_A} {k1 : Nat} {t : Bool} {xs : List Int} (ha : bc_ar0 k1 t l0 = true) (h : bc_in (bc_bx l0.tail) xs) (hx : ∀ x ∈ xs, gm_ir x) : ck_gas σ l0 (gm_vr k1 :: bc_as xs t) := by
  rcases l0 with _ | ⟨b, l⟩
  · cases ha
  · rcases b with b | b | k | k
    · cases ha
    · cases ha
    · have ha : (k == k1 && bc_aok l t) = true := ha
      simp only [Bool.and_eq_true, beq_iff_eq] at ha
      obtain ⟨rfl, ha2⟩ := ha
      exact ⟨_, _, rfl, rfl, bc_gas ha2 h hx⟩
    · cases ha
theorem bc_gas2 {σ : Nat → Int} {S : ck_Sum} {k1 : Nat} {t : Bool} {xs : List Int} (ha : bc_args S k1 t = true) (h : bc_in (bc_box S) xs) (hx : ∀ x ∈ xs, gm_ir x) : ck_gas σ S.2.2.1 (gm_vr k1 :: bc_as xs t) := bc_gas1 ha h hx
/-- what a row takes for granted: laws by their codes, numbers by their types and names -/
noncomputable def bc_f (O : gm_Or) (z : Nat) (F : ck_F) : Bool := F.1.isEmpty && (F.2.1.all (fun q => decide (q.1 ∈ bg_ss ∧ q.2.1 = 8 ∧ q.2.2 = if q.1 = 3 then z else 100000 + q.1)) && F.2.2.all (fun q => decide (q.2.1 = q.2.2.1) && ((match gm_tyr O q.1 q.2.1 q.2.1 with
  | some t => decide (q.2.2.2.1 ≤ t.1) && decide (t.2 ≤ q.2.2.2.2.1)
  | none => false) && q.2.2.2.2.2.all (fun s => decide (s.2 = 0 ∧ s.1 < 1000000) && O.2.2.nm.any (fun p => decide (p = (s.1, q.1, q.2.1)))))))
theorem bc_lf {z g1 s : Nat} (h : s ∈ bg_ss) : bs_R z g1 s 8 = if s = 3 then z else 100000 + s := by
  unfold bs_R
  cases h2 : p2_O.2.1 s 8 with
  | some r => exact absurd ⟨h, rfl⟩ (bg_rfo h2).2.2
  | none =>
    show (if s ∈ bg_ss ∧ (8 : Int) = 8 then _ else _) = _
    rw [if_pos ⟨h, rfl⟩]
theorem bc_f_s {O : gm_Or} {z g1 n : Nat} {F : ck_F} {σ : Nat → Int} {K : gm_K} {M : gm_M} (h : bc_f O z F = true) (hF : gm_Fx O n K (bs_R z g1) M) (hn : 245 ≤ n) (hσ : ∀ q ∈ O.2.2.nm, σ q.1 = M q.2.1 q.2.2) : ck_gf σ F n K (bs_R z g1) M := by
  simp only [bc_f, Bool.and_eq_true] at h
  obtain ⟨h1, h2, h3⟩ := h
  refine ⟨(fun q hq => by rw [List.isEmpty_iff.mp h1] at hq; cases hq), fun q hq => ?_, fun q hq => ?_⟩
  · obtain ⟨a1, a2, a3⟩ := of_decide_eq_true (List.all_eq_true.mp h2 q hq)
    have := bg_ssl a1
    exact ⟨by omega, by rw [a2, a3]; exact bc_lf a1⟩
  · have h4 := List.all_eq_true.mp h3 q hq
    simp only [Bool.and_eq_true, decide_eq_true_eq] at h4
    obtain ⟨h5, h6, h7⟩ := h4
    cases ht : gm_tyr O q.1 q.2.1 q.2.1 with
    | none => rw [ht] at h6; cases h6
    | some t =>
      rw [ht] at h6
      simp only [Bool.and_eq_true, decide_eq_true_eq] at h6
      obtain ⟨b1, b2⟩ := gm_tyr_s hF ht
      refine ⟨b1, fun j j1 j2 => ?_⟩
      have e : j = q.2.1 := by omega
      subst e
      obtain ⟨b3, b4⟩ := b2 q.2.1 (Int.le_refl _) (Int.le_refl _)
      refine ⟨b3, by omega, by omega, fun s hs => ?_⟩
      have h8 := List.all_eq_true.mp h7 s hs
      simp only [Bool.and_eq_true, decide_eq_true_eq] at h8
      obtain ⟨⟨c1, c2⟩, c3⟩ := h8
      obtain ⟨p, hp, c4⟩ := List.any_eq_true.mp c3
      have c4 := of_decide_eq_true c4
      have := hσ p hp
      rw [c4] at this
      exact ck_gt1 (s := s.1) (z := s.2) c2 (by rw [this, c1, Int.add_zero]) s List.mem_cons_self
noncomputable def bc_ok (O : gm_Or) (z g1 : Nat) (S : ck_Sum) : Bool := decide (S.2.1 = 245 + 4 * g1) && (bc_f O z S.2.2.2.1 && (S.2.2.2.2.1.1.all (fun w => decide (w.1 ≤ 245)) && (S.2.2.2.2.1.2.all (fun w => decide (w.1 ∈ bg_ss ∧ w.2 = 8)) && S.2.2.2.2.2.all (fun oc => (match oc.1 with
  | .inr none => true
  | .inr (some (.inl _)) => true
  | _ => false) && (decide (oc.2.1 = 245 + 4 * g1) && S.2.2.2.2.1.2.all (fun w => oc.2.2.2.1.any (fun q => decide (q.1 = w.1 ∧ q.2.1 = 8 ∧ (q.2.2 = 0 ∨ (q.2.2 = 246 ∧ g1 = 1) ∨ (100000 ≤ q.2.2 ∧ q.2.2 - 100000 ∈ bg_ss))))))))))
section BCC
variable {X : Int → Int} {LX : Nat} {O : gm_Or} {g z g1 : Nat} {la : Nat → Nat} {K K' K1 : gm_K} {R R' : gm_R} {M M' M1 : gm_M} {S : ck_Sum}
theorem bc_rt {σ : Nat → Int} {o : gm_O} {n' : Nat} (h : bc_ok O z g1 S = true) (hz : bs_ok la z g1) (hO : ∀ n K R M, gm_Fx O n K R M → gm_Fx p2_O n K R M) (hq : ck_Q O σ S.2.2.2.2.1 (245 + 4 * g1) K1 (bs_R z g1) M1 S.2.2.2.2.2 o n' K' R' M') : bs_rt z g1 0 K1 M1 n' K' R' M' ∧ ∃ oc ∈ S.2.2.2.2.2, ∃ u, o = .inl u ∧ (u = none ∨ ∃ x, u = some (gm_vi x)) ∧ ck_ho σ oc.1 (.inl u) ∧ ck_gf σ oc.2.2 n' K' R' M' := by
  obtain ⟨hF, hfr, oc, hoc, ho, hn, hf⟩ := hq
  simp only [bc_ok, Bool.and_eq_true, decide_eq_true_eq] at h
  obtain ⟨-, -, h3, h4, h5⟩ := h
  have h6 := List.all_eq_true.mp h5 oc hoc
  simp only [Bool.and_eq_true, decide_eq_true_eq] at h6
  obtain ⟨h7, h8, h9⟩ := h6
  refine ⟨⟨⟨Or.inl rfl, by omega⟩, hO _ _ _ _ hF, fun k hk => hfr.2.1 k hk, fun k j k1 k2 => ?_, fun k j hk hj => ?_, fun s hs => ?_, fun h => by omega⟩, oc, hoc, ?_⟩
  · refine hfr.2.2.1 k j k2 fun w hw hh => ?_
    have := of_decide_eq_true (List.all_eq_true.mp h3 w hw)
    omega
  · refine hfr.2.2.2 k j hk fun hm => hj ?_
    exact of_decide_eq_true (List.all_eq_true.mp h4 (k, j) hm)
  · have hs2 := bg_ssl hs
    by_cases hm : (s, (8 : Int)) ∈ S.2.2.2.2.1.2
    · obtain ⟨q, hq, h10⟩ := List.any_eq_true.mp (List.all_eq_true.mp h9 _ hm)
      obtain ⟨e1, e2, e3⟩ := of_decide_eq_true h10
      have e4 := (hf.2.1 q hq).2
      have e1 : q.1 = s := e1
      rw [e1, e2] at e4
      rw [e4]
      rcases e3 with e3 | e3 | e3
      · exact Or.inl e3
      · exact Or.inr (Or.inl ⟨e3.1, Or.inl e3.2⟩)
      · exact Or.inr (Or.inr ⟨_, e3.2, by omega⟩)
    · have e : R' s 8 = bs_R z g1 s 8 := hfr.2.2.2 s 8 (by omega) hm
      rw [e, bc_lf hs]
      by_cases e3 : s = 3
      · rw [if_pos e3]
        rcases hz with h | h | h
        · exact Or.inl h.1
        · exact Or.inr (Or.inr ⟨3, by decide, h.1⟩)
        · exact Or.inr (Or.inl ⟨h.1, Or.inl h.2.1⟩)
      · rw [if_neg e3]
        exact Or.inr (Or.inr ⟨s, hs, rfl⟩)
  · rcases hoc1 : oc.1 with x | a
    · rw [hoc1] at h7
      cases h7
    · rcases a with _ | a
      · rw [hoc1] at ho
        rcases o with (_ | v) | x
        · exact ⟨none, rfl, Or.inl rfl, trivial, hf⟩
        · exact absurd ho id
        · exact absurd ho id
      · rcases a with b | a
        · rw [hoc1] at ho
          rcases o with (_ | v) | x
          · exact absurd ho id
          · obtain ⟨y, rfl, h10⟩ := ho
            exact ⟨some (gm_vi y), rfl, Or.inr ⟨y, rfl⟩, ⟨y, rfl, h10⟩, hf⟩
          · exact absurd ho id
        · rw [hoc1] at h7
          cases h7
theorem bc_hin (hz : bs_ok la z g1) (i j : Nat) (_ : 1 ≤ i) (h2 : i ≤ 245 + 4 * g1) (_ : 1 ≤ j) (h4 : j ≤ 245 + 4 * g1) (h : bg_rho (la 3) i = bg_rho (la 3) j) : i = j := bg_inj i j h (by rcases hz with h | h | h <;> omega) (by rcases hz with h | h | h <;> omega)
/-- what a call sees keeps what always holds -/
theorem bs_F0 (hb : bg g la K R M) : gm_Fx p2_O 245 (bs_K la K) (bs_R z 0) (bs_M la M) := by
  obtain ⟨-, hF, -, -⟩ := hb
  have er : ∀ k, k < 246 → bg_rho (la 3) k = k := fun k h => by unfold bg_rho; rw [if_pos h]
  refine ⟨fun k q hq => ?_, fun k j r hq => ?_, fun k r hq => ?_, fun k r hq => ?_, ?_⟩
  · obtain ⟨a1, a2, a3⟩ := hF.1 k q hq
    have := bg_O1 hq
    exact ⟨a1, by omega, by unfold bs_K; rw [er k this]; exact a3⟩
  · obtain ⟨-, a2, -⟩ := bg_rfo hq
    refine ⟨a2, ?_⟩
    unfold bs_R
    rw [hq]
  · obtain ⟨a1, a2⟩ := hF.2.2.1 k r hq
    have := bg_tyk hq
    refine ⟨by omega, fun j j1 j2 => ?_⟩
    unfold bs_M
    rw [er k this]
    exact a2 j j1 j2
  · have := jfp_b hq
    by_cases hk : k ≤ 245
    · exact hk
    · have hq : r ∈ j_fp k := hq
      rw [show j_fp k = [] by unfold j_fp; rw [if_neg (by omega), if_neg (by omega), if_neg (by omega), if_neg (by omega)]] at hq
      cases hq
  · exact hF.2.2.2.2
theorem bs_F1 (hb : bg g la K R M) (h0 : ¬ la 3 = 0) : gm_Fx p2_OL 249 (bs_K la K) (bs_R 246 1) (bs_M la M) := by
  have h1 := bs_F0 (z := 246) hb
  obtain ⟨-, hF, hG, hl⟩ := hb
  have h3 := hl 3 (by decide)
  have er : ∀ t, t < 4 → bg_rho (la 3) (246 + t) = 246 + 4 * (la 3 - 1) + t := fun t h => by unfold bg_rho; rw [if_neg (by omega)]; omega
  have hg := hG (la 3 - 1) (by omega)
  obtain ⟨⟨k6, ⟨N, hN, k7⟩, k8, k9⟩, m0, m1, m3⟩ := hg
  have e6 := er 0 (by decide)
  have e7 := er 1 (by decide)
  have e8 := er 2 (by decide)
  have e9 := er 3 (by decide)
  refine pl_i (N := N) ?_ hN (by unfold bs_K; rw [show 246 = 246 + 0 by rfl, e6]; exact k6) (by unfold bs_K; rw [show 247 = 246 + 1 by rfl, e7]; exact k7) (by unfold bs_K; rw [show 248 = 246 + 2 by rfl, e8]; exact k8) (by unfold bs_K; rw [show 249 = 246 + 3 by rfl, e9]; exact k9) ?_ ?_ ?_ (by unfold bs_M; rw [show 248 = 246 + 2 by rfl, e8]; exact m0) (by unfold bs_M; rw [show 248 = 246 + 2 by rfl, e8]; exact m1) (by unfold bs_M; rw [show 248 = 246 + 2 by rfl, e8]; exact m3)
  · refine ⟨fun k q hq => ?_, fun k j r hq => ?_, fun k r hq => ?_, fun k r hq => ?_, h1.2.2.2.2⟩
    · obtain ⟨a1, a2, a3⟩ := h1.1 k q hq
      exact ⟨a1, by omega, a3⟩
    · obtain ⟨-, a2, -⟩ := bg_rfo hq
      refine ⟨by omega, ?_⟩
      unfold bs_R
      rw [hq]
    · obtain ⟨a1, a2⟩ := h1.2.2.1 k r hq
      exact ⟨by omega, a2⟩
    · have := h1.2.2.2.1 k r hq
      omega
  all_goals
    unfold bs_R
    rw [bg_no (by decide)]
    rfl
end BCC
end
/-! 78a.sr -/
section
/-! THE START: both constructors, the row of one long; then the world between the calls with no law yet. -/
/-- references that agree where they are looked at -/
noncomputable def nR_ok (n : Nat) (K : gm_K) (R R' : gm_R) : Prop := ∀ k, 1 ≤ k → k ≤ n → (∀ c j : Nat, (K k).1 = c + 4 → j < gm_nf c → gm_isr c j = true → R k j = R' k j) ∧ ((K k).1 = 3 → ∀ j : Nat, j < (K k).2 → R k j = R' k j)
theorem nR_at {D : va_G} {ti : Nat → ClassId} {α : Nat → Nat} {n k a : Nat} {K : gm_K} {R R' : gm_R} {M : gm_M} {H : Heap} (h : nR_ok n K R R') (h1 : 1 ≤ k) (h2 : k ≤ n) (hat : va_at D gm_cs (a, gm_en ti α K R M k) H) : va_at D gm_cs (a, gm_en ti α K R' M k) H := by
  obtain ⟨hc, h3⟩ := h k h1 h2
  by_cases e : (K k).1 = 3
  · have e1 : ∀ R : gm_R, gm_en ti α K R M k = .inl (ti 3, (K k).2, .inr (.inr (.inr (.inr fun j => gm_ro α (R k j))))) := fun R => by unfold gm_en; rw [e]
    rw [e1] at hat ⊢
    have hat : H[a]? = some (arrV (ti 3) (K k).2 (fun j => va_rf (gm_ro α (R k j)))) := hat
    show H[a]? = some (arrV (ti 3) (K k).2 (fun j => va_rf (gm_ro α (R' k j))))
    rw [hat]
    unfold arrV
    congr 3
    funext j
    show va_rf (gm_ro α (R k ((j.val : Nat) : Int))) = va_rf (gm_ro α (R' k ((j.val : Nat) : Int)))
    rw [h3 e j.val j.isLt]
  · rw [← bg_en2 (K := K) (K' := K) (R := R) (M := M) (M' := M) (α := α) (i := k) (k := k) rfl (fun _ => rfl) e (fun c j a1 a2 a3 => by rw [hc c j a1 a2 a3])]
    exact hat
theorem gm_Wp_nR {X : Int → Int} {LX d bc bs mi pc n : Nat} {L : gm_L} {st : List gm_V} {K : gm_K} {R R' : gm_R} {M : gm_M} {Q : gm_Q} (h : nR_ok n K R R') (hrv : gm_Rv n R') (hw : gm_Wp X LX d bc bs mi pc L st n K R' M Q) : gm_Wp X LX d bc bs mi pc L st n K R M Q := by
  intro p l e Rm s m args below meth c D ti adK adV A α0 n0 mc ms h1 h2 h3 h4 h5 h6 h7 α H locs cells slots ls sv h8 h9 h10 hR h12 h13
  refine hw p l e Rm s m args below meth c D ti adK adV A α0 n0 mc ms h1 h2 h3 h4 h5 h6 h7 α H locs cells slots ls sv h8 h9 h10 ?_ h12 h13
  obtain ⟨a1, a2, a3, a4, a5⟩ := hR
  refine ⟨a1, fun k q hq => ?_, ⟨fun i j p q hp hq e => ?_, fun k q hq => ?_⟩, a4, hrv⟩
  · obtain ⟨b1, rfl⟩ := gm_wl_get hq
    exact nR_at h (by omega) (by omega) (a2 k _ (gm_wl_at (k := k + 1) (by omega) b1))
  · obtain ⟨b1, rfl⟩ := gm_wl_get hp
    obtain ⟨c1, rfl⟩ := gm_wl_get hq
    exact a3.1 i j _ _ (gm_wl_at (k := i + 1) (by omega) b1) (gm_wl_at (k := j + 1) (by omega) c1) e
  · obtain ⟨b1, rfl⟩ := gm_wl_get hq
    have := a3.2 k _ (gm_wl_at (ti := ti) (α := α) (K := K) (R := R) (M := M) (k := k + 1) (by omega) b1)
    exact this
/-- a stretch whose numbers are known -/
noncomputable def st_cov (F : List (Nat × Int × Int × ck_I)) (a b : Int) : Nat → Int → Int → Bool
  | 0, _, _ => false
  | f + 1, lo, hi => decide (hi < lo) || (match fl_find F fun q => fl_if (fl_le q.2.1 lo) (fl_if (fl_le lo q.2.2.1) (fl_if (fl_le a q.2.2.2.1) (fl_le q.2.2.2.2.1 b) false) false) false with
    | some q => st_cov F a b f (q.2.2.1 + 1) hi
    | none => false)
noncomputable def st_k (F : List (Nat × Int × Int × ck_I)) (k : Nat) : List (Nat × Int × Int × ck_I) := fl_flt F fun q => Nat.beq q.1 k
theorem st_k_def {F : List (Nat × Int × Int × ck_I)} {k : Nat} : st_k F k = F.filter fun q => q.1 == k := by
  unfold st_k
  rw [fl_flt_eq]
  simp only [fl_beq]
theorem st_cov_s {σ : Nat → Int} {F : List (Nat × Int × Int × ck_I)} {n k : Nat} {M : gm_M} {a b : Int} (hF : ∀ q ∈ F, q.1 ≤ n ∧ ∀ j, q.2.1 ≤ j → j ≤ q.2.2.1 → gm_ir (M q.1 j) ∧ ck_gi σ q.2.2.2 (M q.1 j)) : ∀ (f : Nat) (lo hi : Int), st_cov (st_k F k) a b f lo hi = true → ∀ j, lo ≤ j → j ≤ hi → gm_ir (M k j) ∧ a ≤ M k j ∧ M k j ≤ b := by
  intro f
  induction f with
  | zero => intro lo hi h; cases h
  | succ f ih =>
    intro lo hi h j j1 j2
    simp only [st_cov, fl_find_eq, fl_and, fl_le_eq, Bool.or_eq_true, decide_eq_true_eq] at h
    rcases h with h | h
    · omega
    · cases hf : (st_k F k).find? fun q => decide (q.2.1 ≤ lo) && (decide (lo ≤ q.2.2.1) && (decide (a ≤ q.2.2.2.1) && decide (q.2.2.2.2.1 ≤ b))) with
      | none => rw [hf] at h; cases h
      | some q =>
        rw [hf] at h
        have hf2 := List.find?_some hf
        simp only [Bool.and_eq_true, decide_eq_true_eq] at hf2
        obtain ⟨e1, e2, e3, e4⟩ := hf2
        have hm := List.mem_filter.mp (st_k_def ▸ List.mem_of_find?_eq_some hf)
        have hk : q.1 = k := eq_of_beq hm.2
        by_cases hj : j ≤ q.2.2.1
        · have := (hF q hm.1).2 j (by omega) hj
          rw [hk] at this
          exact ⟨this.1, Int.le_trans e3 this.2.1, Int.le_trans this.2.2.1 e4⟩
        · exact ih _ _ h j (by omega) j2
/-- the table, by facts -/
noncomputable def st_T (F : ck_F) : Bool := (List.range 246).all fun k => match ck_tab p2_T k with
  | none => k == 0
  | some e => F.1.any (fun q => decide (q = (k, e.1))) && (e.2.1.all (fun r => F.2.1.any fun q => decide (q = (k, r.1, r.2))) && (let Fk := st_k F.2.2 k
    e.2.2.all fun t => decide (-2147483648 ≤ t.2.2.1) && (decide (t.2.2.2 ≤ 2147483647) && st_cov Fk t.2.2.1 t.2.2.2 400 t.1 t.2.1)))
theorem st_Fx {σ : Nat → Int} {F : ck_F} {K : gm_K} {R : gm_R} {M : gm_M} (hf : ck_gf σ F 245 K R M) (h : st_T F = true) (hJ : j_J p2_ty K M) : gm_Fx p2_O 245 K R M := by
  have key : ∀ k e, ck_tab p2_T k = some e → (1 ≤ k ∧ k ≤ 245) ∧ (F.1.any (fun q => decide (q = (k, e.1))) = true ∧ e.2.1.all (fun r => F.2.1.any fun q => decide (q = (k, r.1, r.2))) = true ∧ e.2.2.all (fun t => decide (-2147483648 ≤ t.2.2.1) && (decide (t.2.2.2 ≤ 2147483647) && st_cov (st_k F.2.2 k) t.2.2.1 t.2.2.2 400 t.1 t.2.1)) = true) := by
    intro k e he
    have hk : k < 246 := by
      by_cases h : k < 246
      · exact h
      · rw [lq_tab h] at he; cases he
    have h2 := List.all_eq_true.mp h k (List.mem_range.mpr hk)
    rw [he] at h2
    simp only [Bool.and_eq_true] at h2
    obtain ⟨q, hq, e1⟩ := List.any_eq_true.mp h2.1
    have := (hf.1 q hq).1
    rw [of_decide_eq_true e1] at this
    exact ⟨this, h2.1, h2.2.1, h2.2.2⟩
  refine ⟨fun k q hq => ?_, fun k j r hr => ?_, fun k r hr => ?_, fun k r hr => ?_, hJ⟩
  · have hq : (match ck_tab p2_T k with | some e => some e.1 | none => none) = some q := hq
    cases he : ck_tab p2_T k with
    | none => rw [he] at hq; cases hq
    | some e =>
      rw [he] at hq
      cases hq
      obtain ⟨h1, h2, -⟩ := key k e he
      obtain ⟨x, hx, e1⟩ := List.any_eq_true.mp h2
      have := (hf.1 x hx).2
      rw [of_decide_eq_true e1] at this
      exact ⟨h1.1, h1.2, this⟩
  · have hr : (match ck_tab p2_T k with | some e => fl_lki j e.2.1 | none => none) = some r := hr
    cases he : ck_tab p2_T k with
    | none => rw [he] at hr; cases hr
    | some e =>
      rw [he] at hr
      obtain ⟨h1, -, h3, -⟩ := key k e he
      obtain ⟨x, hx, e1⟩ := List.any_eq_true.mp (List.all_eq_true.mp h3 _ (bg_lk hr))
      have := (hf.2.1 x hx).2
      rw [of_decide_eq_true e1] at this
      exact ⟨h1.2, this⟩
  · have hr : r ∈ (match ck_tab p2_T k with | some e => e.2.2 | none => []) := hr
    cases he : ck_tab p2_T k with
    | none => rw [he] at hr; cases hr
    | some e =>
      rw [he] at hr
      obtain ⟨h1, -, -, h4⟩ := key k e he
      have h5 := List.all_eq_true.mp h4 r hr
      simp only [Bool.and_eq_true, decide_eq_true_eq] at h5
      refine ⟨h1.2, fun j j1 j2 => ?_⟩
      have := st_cov_s hf.2.2 _ _ _ h5.2.2 j j1 j2
      exact ⟨this.1, this.2⟩
  · have := jfp_b hr
    by_cases hk : k ≤ 245
    · exact hk
    · have hq : r ∈ j_fp k := hr
      rw [show j_fp k = [] by unfold j_fp; rw [if_neg (by omega), if_neg (by omega), if_neg (by omega), if_neg (by omega)]] at hq
      cases hq
/-- nothing but zeros keeps the standing conditions -/
theorem st_jcn {f : Int → Int} : ∀ m : Nat, (∀ l : Nat, l < m → f (124 + 7 * (l : Int)) = 0) → jcn f m = 0 := by
  intro m
  induction m with
  | zero => intro _; rfl
  | succ m ih =>
    intro h
    show jcn f m + (if f (124 + 7 * (m : Int)) < 0 then 1 else 0) = 0
    rw [ih (fun l hl => h l (by omega)), h m (by omega), if_neg (by omega)]
theorem st_jO {f : Int → Int} (h : ∀ j : Int, (j = 4 ∨ 14 ≤ j) → j ≤ 394 → f j = 0) : jO f := by
  refine ⟨?_, fun l hl h0 => ?_⟩
  · rw [st_jcn 24 (fun l hl => h _ (Or.inr (by omega)) (by omega)), h 14 (Or.inr (by omega)) (by omega), h 4 (Or.inl rfl) (by omega)]
    decide
  · rw [h _ (Or.inr (by omega)) (by omega)]
    exact Int.le_refl _
theorem st_jT {f : Int → Int} (h : f 0 = 0) : jT f := fun n h1 h2 h3 => by omega
theorem st_ty : p2_ty.all (fun r => decide (r.2.2.1 ≤ 0 ∧ 0 ≤ r.2.2.2)) = true := by decide +kernel
theorem st_J {K : gm_K} {M : gm_M} (h7 : ∀ j : Int, (j = 4 ∨ 14 ≤ j) → j ≤ 2092 → M 227 j = 0) (h8 : ∀ j : Int, 0 ≤ j → j ≤ 1243 → M 228 j = 0) (h9 : ∀ j : Int, 0 ≤ j → j ≤ 1243 → M 229 j = 0) (hA : ∀ j : Int, 0 ≤ j → j ≤ 4739 → M 230 j = 0) : j_J p2_ty K M := by
  refine ⟨⟨st_jO fun j h1 h2 => h7 j h1 (by omega), st_jO fun j h1 h2 => h8 j (by omega) (by omega), st_jO fun j h1 h2 => h9 j (by omega) (by omega), fun y y1 y2 => st_jO fun j h1 h2 => hA _ (by omega) (by omega)⟩, fun y y1 y2 r hr j j1 j2 j3 j4 => ?_, st_jT (h7 _ (Or.inr (by omega)) (by omega)), st_jT (h8 _ (by omega) (by omega)), st_jT (h9 _ (by omega) (by omega))⟩
  have := of_decide_eq_true (List.all_eq_true.mp st_ty r hr)
  rw [hA _ (by omega) (by omega)]
  exact ⟨⟨by decide, by decide⟩, this⟩
end
/-! 78c.st -/
section
/-! THE LAW'S START, laid by wip/am/gen28.py: classes, array classes, strings and statics as the tables have them; from the judgement of its body to the law's end. -/
noncomputable def gm_kni : List (Nat × List Nat) := [((184 : Nat), [(542 : Nat), (544 : Nat), (546 : Nat), (548 : Nat), (550 : Nat), (552 : Nat), (554 : Nat), (556 : Nat), (558 : Nat), (560 : Nat), (562 : Nat), (564 : Nat), (566 : Nat), (568 : Nat), (570 : Nat), (572 : Nat), (574 : Nat), (576 : Nat)]), ((192 : Nat), [(276 : Nat), (278 : Nat), (280 : Nat), (282 : Nat), (284 : Nat), (286 : Nat), (288 : Nat), (290 : Nat), (292 : Nat), (294 : Nat), (296 : Nat), (298 : Nat), (300 : Nat), (302 : Nat), (304 : Nat)]), ((198 : Nat), [(207 : Nat), (209 : Nat), (211 : Nat), (213 : Nat)]), ((308 : Nat), [(319 : Nat), (321 : Nat), (323 : Nat)]), ((327 : Nat), [(370 : Nat), (372 : Nat), (374 : Nat), (376 : Nat), (378 : Nat), (380 : Nat), (382 : Nat)]), ((387 : Nat), [(405 : Nat), (407 : Nat), (409 : Nat), (411 : Nat), (413 : Nat), (415 : Nat), (417 : Nat), (419 : Nat), (421 : Nat)]), ((425 : Nat), [(436 : Nat), (438 : Nat), (440 : Nat), (442 : Nat)]), ((446 : Nat), [(497 : Nat), (499 : Nat), (495 : Nat)]), ((455 : Nat), [(471 : Nat), (473 : Nat), (475 : Nat), (477 : Nat), (479 : Nat), (481 : Nat), (483 : Nat), (485 : Nat)]), ((503 : Nat), [(519 : Nat), (520 : Nat), (513 : Nat), (515 : Nat), (517 : Nat)]), ((679 : Nat), [(1193 : Nat), (1195 : Nat)]), ((1679 : Nat), [(1728 : Nat), (1730 : Nat), (1732 : Nat), (1734 : Nat), (1736 : Nat), (1738 : Nat), (1740 : Nat), (1742 : Nat), (1744 : Nat), (1746 : Nat), (1748 : Nat), (1750 : Nat), (1752 : Nat), (1754 : Nat), (1756 : Nat), (1758 : Nat), (1760 : Nat), (1762 : Nat), (1764 : Nat), (1766 : Nat), (1768 : Nat), (1770 : Nat), (1772 : Nat), (1774 : Nat), (1776 : Nat), (1778 : Nat), (1780 : Nat), (1782 : Nat), (1784 : Nat), (1786 : Nat), (1788 : Nat), (1790 : Nat), (1792 : Nat), (1794 : Nat), (1796 : Nat), (1798 : Nat), (1800 : Nat), (1802 : Nat), (1804 : Nat)])]
theorem gm_kni_ok : (List.range 12).all (fun c => match gm_cs[c]?, gm_kni[c]? with
  | some q, some r => decide (gm_tb (r.1) = some (.instantiable q.1 q.2.2)) && decide ((u_ws q.1 q.2.1 q.2.2).map some = r.2.map (fun i => gm_tb i))
  | _, _ => false) = true := by decide +kernel
noncomputable def gm_stp : List Nat := [(855 : Nat), (908 : Nat), (909 : Nat), (920 : Nat), (934 : Nat), (943 : Nat), (944 : Nat), (953 : Nat), (954 : Nat), (955 : Nat), (956 : Nat), (957 : Nat), (958 : Nat), (959 : Nat), (960 : Nat), (961 : Nat), (962 : Nat), (971 : Nat), (985 : Nat), (990 : Nat), (1007 : Nat), (1016 : Nat), (1022 : Nat), (1027 : Nat), (1032 : Nat), (1037 : Nat), (1046 : Nat), (1048 : Nat), (1059 : Nat), (1113 : Nat), (1148 : Nat), (1165 : Nat), (1209 : Nat), (1236 : Nat), (1281 : Nat), (1309 : Nat), (1340 : Nat), (1342 : Nat), (1373 : Nat), (1391 : Nat), (1415 : Nat), (1416 : Nat), (1436 : Nat), (1494 : Nat), (1535 : Nat), (1577 : Nat), (1673 : Nat), (1863 : Nat), (1894 : Nat), (1899 : Nat), (1916 : Nat), (1925 : Nat), (1930 : Nat), (1939 : Nat), (1948 : Nat), (1953 : Nat), (1966 : Nat), (1971 : Nat), (1972 : Nat), (1977 : Nat), (1978 : Nat), (1979 : Nat), (1980 : Nat), (1997 : Nat), (2002 : Nat), (2003 : Nat), (2012 : Nat), (2013 : Nat), (2014 : Nat), (2015 : Nat), (2016 : Nat), (2017 : Nat), (2018 : Nat), (2019 : Nat), (2020 : Nat)]
theorem gm_stp_ok : (List.range 75).all (fun i => match gm_sr_[i]?, gm_stp[i]? with
  | some q, some r => decide (gm_tb (r) = some (.stringRef q.1 q.2.1 q.2.2.1)) && decide (q.2.2.2 = i)
  | _, _ => false) = true := by decide +kernel
theorem gm_sl_len : gm_sl.length = 75 ∧ gm_sr_.length = 75 := by decide +kernel
theorem gm_sl_sm : gm_sl.all (fun k => decide (k < 100)) = true := by decide +kernel
/-- the other words -/
noncomputable def gm_wst : List Jvm.Cond := [.castable "[I" "java/lang/Cloneable", .arrayOver (.object "GlacierMail$State"), .arrayClass .int, .arrayClass .byte, .arrayClass .long, .laysStatic "java/lang/Throwable" "UNASSIGNED_STACK" "[Ljava/lang/StackTraceElement;", .laysStatic "java/lang/Throwable" "SUPPRESSED_SENTINEL" "Ljava/util/List;", .initialized "java/lang/Throwable", .laysStatic "java/lang/String" "COMPACT_STRINGS" "Z", .initialized "java/lang/String", .laysStatic "jdk/internal/util/Preconditions" "SIOOBE_FORMATTER" "Ljava/util/function/BiFunction;", .initialized "jdk/internal/util/Preconditions"] ++ ((List.range 5).map (fun x => .castable (gm_xn x) (gm_xn x)) ++ (gm_dcs.map (fun y => .declares y) ++ gm_nst.map (fun q => .methodLinkNest q.1 q.2.1 q.2.2.1 q.2.2.2)))
theorem gm_wst_ok : gm_wst.all (fun w => gm_mem w) = true := by decide +kernel
/-- what the Statement gives of a string -/
noncomputable def gm_swd (q : String × Nat × String × Nat) : List Jvm.Cond := [.exactly (.string q.1 q.2.1) "java/lang/String", .eq (.field (.string q.1 q.2.1) "java/lang/String" "coder" "B") (.int 0), .arrayOf (.field (.string q.1 q.2.1) "java/lang/String" "value" "[B") .byte, .eq (.length (.field (.string q.1 q.2.1) "java/lang/String" "value" "[B")) (.int (Int32.ofNat (gm_sl.getD q.2.2.2 0)))] ++ (List.range (gm_sl.getD q.2.2.2 0)).map (fun j => .eq (.elem (.field (.string q.1 q.2.1) "java/lang/String" "value" "[B") (.int (Int32.ofNat j))) (.int ((gm_sb.getD q.2.2.2 []).getD j 0)))
/-- the one list lies in the other, in its order -/
noncomputable def gm_ssq : List Jvm.Cond → List Jvm.Cond → Bool
  | [], _ => true
  | _ :: _, [] => false
  | w :: ws, v :: vs => if w = v then gm_ssq ws vs else gm_ssq (w :: ws) vs
theorem gm_ssq_s : ∀ (vs ws : List Jvm.Cond), gm_ssq ws vs = true → ∀ w ∈ ws, w ∈ vs := by
  intro vs
  induction vs with
  | nil => intro ws h w hw; cases ws with
    | nil => exact hw
    | cons a b => cases h
  | cons v vs ih =>
    intro ws h w hw
    cases ws with
    | nil => cases hw
    | cons a b =>
      unfold gm_ssq at h
      split at h
      · rename_i e
        rcases List.mem_cons.mp hw with rfl | hw
        · rw [e]; exact List.mem_cons_self
        · exact List.mem_cons_of_mem _ (ih b h w hw)
      · exact List.mem_cons_of_mem _ (ih (a :: b) h w hw)
noncomputable def gm_nrw : List Jvm.Cond := [.eq (.static "java/lang/String" "COMPACT_STRINGS" "Z") (.int 1), .isRef (.static "jdk/internal/util/Preconditions" "SIOOBE_FORMATTER" "Ljava/util/function/BiFunction;"), .isRef (.static "java/lang/Throwable" "UNASSIGNED_STACK" "[Ljava/lang/StackTraceElement;"), .isRef (.static "java/lang/Throwable" "SUPPRESSED_SENTINEL" "Ljava/util/List;")] ++ gm_sr_.flatMap gm_swd
noncomputable def gm_flt : List Jvm.Cond := flatC (Jvm.Cond.and given_1 narrow_1)
set_option maxRecDepth 100000 in
theorem gm_nrw_ok : gm_ssq gm_nrw gm_flt = true := by decide +kernel
/-- what isn't caught by another's name -/
noncomputable def gm_ncs : List Jvm.Cond := (List.range 5).flatMap fun x => ((List.range 5).filter (fun y => !(x == y))).map fun y => .not (.castable (gm_xn x) (gm_xn y))
set_option maxRecDepth 100000 in
theorem gm_ncs_ok : gm_ncs.all (fun w => gm_flt.any (fun v => decide (w = v))) = true := by decide +kernel
section ST
variable {p : Program} {e : Env} {s : State} {m : MethodId} {below : List Frame} {meth : Method} {c : Code}
theorem gm_known {args : Array Value} (hts : ∀ w ∈ lw_tbl, w.before args s = true) : ∃ D : va_G, ∀ (c : Nat) (q : vw_C), gm_cs[c]? = some q → u_Kn s q.1 q.2.1 q.2.2 (D.1 c) (D.2 c) := by
  have h0 : ∀ c : Nat, ∃ z : ClassId × (Nat → Nat), ∀ q : vw_C, gm_cs[c]? = some q → u_Kn s q.1 q.2.1 q.2.2 z.1 z.2 := by
    intro c
    by_cases hc : c < 12
    · have h1 := List.all_eq_true.mp gm_kni_ok c (List.mem_range.mpr hc)
      cases hq : gm_cs[c]? with
      | none => rw [hq] at h1; cases h1
      | some q =>
        cases hr : gm_kni[c]? with
        | none => rw [hq, hr] at h1; cases h1
        | some r =>
          rw [hq, hr] at h1
          simp only [Bool.and_eq_true, decide_eq_true_eq] at h1
          obtain ⟨cC, iS, h⟩ := u_known (n := q.2.2) (C := q.1) (T := q.2.1) (N := q.2.2) hts (fun w hw => by
            have h2 : some w ∈ r.2.map (fun i => gm_tb i) := by rw [← h1.2]; exact List.mem_map_of_mem hw
            obtain ⟨i, -, h3⟩ := List.mem_map.mp h2
            exact gm_tb_in h3) (hts _ (gm_tb_in h1.1))
          exact ⟨(cC, iS), fun q' e => by cases e; exact h⟩
    · refine ⟨(0, fun _ => 0), fun q hq => absurd ?_ hc⟩
      exact (List.getElem?_eq_some_iff.mp hq).1
  obtain ⟨f, hf⟩ := Classical.axiomOfChoice h0
  exact ⟨(fun c => (f c).1, fun c => (f c).2), fun c q h => hf c q h⟩
theorem gm_arrA {args : Array Value} {ty : FieldType} (h : (Jvm.Cond.arrayClass ty).before args s = true) (hty : ∀ C, ty ≠ .object C) : ∃ cA : ClassId, ArrOfT s cA ty ∧ va_RA s cA ty := by
  obtain ⟨cA, kA, comp, h1, h2, h3⟩ := Cond.arrayClass_spec h
  refine ⟨cA, fun n z => ⟨fun k h => (by cases h), kA, h2, comp, h3⟩, ?_⟩
  cases ty with
  | object C => exact absurd rfl (hty C)
  | _ => exact h1
theorem gm_arrO {args : Array Value} {C : String} (h : (Jvm.Cond.arrayOver (.object C)).before args s = true) : ∃ cA : ClassId, ArrOfT s cA (.object C) ∧ va_RA s cA (.object C) := by
  obtain ⟨comp, cA, kA, h1, h2, h3, h4, h5⟩ := Cond.arrayOver_spec h
  exact ⟨cA, fun n z => ⟨fun k h => (by cases h), kA, h3, comp, h4⟩, kA, comp, h3, h4, h1, h5⟩
theorem gm_strs {args : Array Value} {A : Nat → Prop} (hts : ∀ w ∈ lw_tbl, w.before args s = true) (hg : ∀ w ∈ gm_flt, w.before args s = true) (hA : ∀ a : Nat, a < s.heap.size → ¬ A a) :
    ∃ adK adV : Nat → Nat, (∀ i, i < gm_sl.length → vk_S 1 [gm_sl.getD i 0] [gm_sb.getD i []] (fun _ => adK i) (fun _ => adV i) A s s.heap) ∧ ∀ q ∈ gm_sr_, vk_R q.1 q.2.1 q.2.2.1 (adK q.2.2.2) s := by
  have hn : ∀ q ∈ gm_sr_, ∀ w ∈ gm_swd q, w.before args s = true := fun q hq w hw => hg w (gm_ssq_s _ _ gm_nrw_ok w (List.mem_append.mpr (Or.inr (List.mem_flatMap.mpr ⟨q, hq, hw⟩))))
  have h0 : ∀ i : Nat, ∃ z : Nat × Nat, ∀ q, gm_sr_[i]? = some q → vk_S 1 [gm_sl.getD i 0] [gm_sb.getD i []] (fun _ => z.1) (fun _ => z.2) A s s.heap ∧ vk_R q.1 q.2.1 q.2.2.1 z.1 s := by
    intro i
    by_cases hi : i < 75
    · have h1 := List.all_eq_true.mp gm_stp_ok i (List.mem_range.mpr hi)
      cases hq : gm_sr_[i]? with
      | none => rw [hq] at h1; cases h1
      | some q =>
        cases hr : gm_stp[i]? with
        | none => rw [hq, hr] at h1; cases h1
        | some r =>
          rw [hq, hr] at h1
          simp only [Bool.and_eq_true, decide_eq_true_eq] at h1
          obtain ⟨h1, hqi⟩ := h1
          have hw := hn q (List.mem_of_getElem? hq)
          have hlen : gm_sl.getD i 0 < 100 := by
            have h2 : i < gm_sl.length := by rw [gm_sl_len.1]; exact hi
            have h3 := List.all_eq_true.mp gm_sl_sm (gm_sl[i]) (List.getElem_mem h2)
            rw [List.getD_eq_getElem?_getD, List.getElem?_eq_getElem h2]
            simpa using h3
          have w1 : ∀ w ∈ [Jvm.Cond.exactly (.string q.1 q.2.1) "java/lang/String", .eq (.field (.string q.1 q.2.1) "java/lang/String" "coder" "B") (.int 0), .arrayOf (.field (.string q.1 q.2.1) "java/lang/String" "value" "[B") .byte, .eq (.length (.field (.string q.1 q.2.1) "java/lang/String" "value" "[B")) (.int (Int32.ofNat (gm_sl.getD i 0)))], w.before args s = true := fun w hm => hw w (by unfold gm_swd; rw [hqi]; exact List.mem_append.mpr (Or.inl hm))
          have w2 : ∀ j, j < gm_sl.getD i 0 → (Jvm.Cond.eq (.elem (.field (.string q.1 q.2.1) "java/lang/String" "value" "[B") (.int (Int32.ofNat j))) (.int ((gm_sb.getD i []).getD j 0))).before args s = true := fun j hj => hw _ (by unfold gm_swd; rw [hqi]; exact List.mem_append.mpr (Or.inr (List.mem_map.mpr ⟨j, List.mem_range.mpr hj, rfl⟩)))
          obtain ⟨adK, adV, g1, g2⟩ := vk_Sof (args := args) (s := s) (N := 1) (tm := fun _ => .string q.1 q.2.1) (len := [gm_sl.getD i 0]) (byt := [gm_sb.getD i []]) (A := A)
            (fun k hk => by obtain rfl : k = 0 := by omega
                            show gm_sl.getD i 0 < 2 ^ 31
                            omega)
            (fun _ _ => w1 _ List.mem_cons_self) (fun _ _ => w1 _ (List.mem_cons_of_mem _ List.mem_cons_self)) (fun _ _ => w1 _ (List.mem_cons_of_mem _ (List.mem_cons_of_mem _ List.mem_cons_self)))
            (fun k hk => by obtain rfl : k = 0 := by omega
                            exact w1 _ (List.mem_cons_of_mem _ (List.mem_cons_of_mem _ (List.mem_cons_of_mem _ List.mem_cons_self))))
            (fun k hk j hj => by obtain rfl : k = 0 := by omega
                                 exact w2 j hj)
            (fun a b ha hb hab => absurd (show a = b by omega) hab) hA
          refine ⟨(adK 0, adV 0), fun q' e => ?_⟩
          cases e
          refine ⟨⟨fun k hk => ?_, fun a b ha hb _ => by omega⟩, vk_R.of (hts _ (gm_tb_in h1)) (g2 0 (by omega))⟩
          obtain rfl : k = 0 := by omega
          exact g1.1 0 hk
    · refine ⟨(0, 0), fun q hq => absurd ?_ hi⟩
      rw [← gm_sl_len.2]
      exact (List.getElem?_eq_some_iff.mp hq).1
  obtain ⟨f, hf⟩ := Classical.axiomOfChoice h0
  refine ⟨fun i => (f i).1, fun i => (f i).2, fun i hi => ?_, fun q hq => ?_⟩
  · rw [gm_sl_len.1, ← gm_sl_len.2] at hi
    exact (hf i _ (List.getElem?_eq_getElem hi)).1
  · obtain ⟨i, hi⟩ := List.getElem?_of_mem hq
    have h1 := (hf i q hi).2
    have h2 : i < 75 := by rw [← gm_sl_len.2]; exact (List.getElem?_eq_some_iff.mp hi).1
    have h3 := List.all_eq_true.mp gm_stp_ok i (List.mem_range.mpr h2)
    rw [hi] at h3
    cases hr : gm_stp[i]? with
    | none => rw [hr] at h3; cases h3
    | some r =>
      rw [hr] at h3
      simp only [Bool.and_eq_true, decide_eq_true_eq] at h3
      show vk_R q.1 q.2.1 q.2.2.1 (f q.2.2.2).1 s
      rw [h3.2]
      exact h1
noncomputable def R_law : String := "GlacierMailLaw"
noncomputable def lw_P (b : Addr) (xs : List Int32) (args : Array Value) (s : State) : Prop := args = #[.ref b] ∧ s.IntsAt b xs ∧ xs.length ≤ 3072 ∧ (Jvm.Cond.and given_1 narrow_1).before args s = true
noncomputable def lw_Q (_ : Array Value) (s : State) (o : Outcome) (t : State) : Prop := o = .returned (some (.int 1)) ∧ Framed s o t [] 601024 7293034
noncomputable def lw_Z (below : List Frame) (a : Array Value) (s : State) : State → Prop := fun t => ∃ o, t.status = .running ∧ Ended t below o ∧ lw_Q a s o t
/-- what is owed of the law's body, over the abstract machine -/
noncomputable def gm_Law : Prop := ∀ (X : Int → Int) (LX : Nat), LX ≤ 3072 → (∀ j, gm_ir (X j)) → gm_Wp X LX 280 601024 7293034 370 0 (gm_ent 370 [gm_vo 2000]) [] 0 (fun _ => (0, 0)) (fun _ _ => 0) (fun _ _ => 0) (fun o _ _ _ _ => o = .inl (some (gm_vi 1)))
theorem gm_frame {L : List Loc} {o : Outcome} {t : State} {k n : Nat} (h : FrameEnd s o t L k n) (hL : ∀ q ∈ L, s.heap.size ≤ q.base) : Framed s o t [] k n := by
  obtain ⟨h1, h2, h3, h4, h5, h6, h7, h8⟩ := h
  refine ⟨h1, h2, h3, h4, h5, h6, h7, fun a c ha => ?_⟩
  obtain ⟨c', g1, g2, g3, g4⟩ := h8 a c ha
  refine ⟨c', g1, g2, g3, fun i _ => g4 i fun hm => ?_⟩
  have g5 : s.heap.size ≤ a := hL _ hm
  have g6 : a < s.heap.size := (Array.getElem?_eq_some_iff.mp ha).1
  exact absurd g5 (Nat.not_le.mpr g6)
set_option maxHeartbeats 4000000 in
theorem gm_start (l : Launch) (hflags : l.flags = flags0) {b L : Nat} {xs : Nat → Int32} (hL : L ≤ 3072) (hW : gm_Law)
    (hexec : p.tables.exec = Jvm.exec) (hb : c.code = code) (hr : meth.sig.returnType = ret) (hml : c.maxLocals = 7) (hown : s.vm.findClass R_law = some m.cls) (hts : ∀ w ∈ lw_tbl, w.before #[Value.ref b] s = true) (hX : va_X b L xs s s.heap) (hbl : b < s.heap.size) (hlk : meth.locks = false) (hgv : (Jvm.Cond.and given_1 narrow_1).before #[Value.ref b] s = true) (hnm : meth.name = "law") (htab : c.exceptionTable.toList = []) :
    W p l e room_1 s m #[Value.ref b] below meth c s.heap [] 0 0 (lw_Z below #[Value.ref b] s) (entryFrame m ([Value.ref b] : List Value).toArray 7) := by
  have hg : ∀ w ∈ gm_flt, w.before #[Value.ref b] s = true := flat_of_before _ hgv
  have hst : ∀ w ∈ gm_wst, w.before #[Value.ref b] s = true := fun w hw => hts w (gm_mem_in (List.all_eq_true.mp gm_wst_ok w hw))
  have hnr : ∀ w ∈ gm_nrw, w.before #[Value.ref b] s = true := fun w hw => hg w (gm_ssq_s _ _ gm_nrw_ok w hw)
  obtain ⟨D, hD⟩ := gm_known hts
  obtain ⟨t0, a0, b0⟩ := gm_arrA (ty := .int) (hst _ (by decide +kernel)) (fun _ h => by cases h)
  obtain ⟨t1, a1, b1⟩ := gm_arrA (ty := .byte) (hst _ (by decide +kernel)) (fun _ h => by cases h)
  obtain ⟨t2, a2, b2⟩ := gm_arrA (ty := .long) (hst _ (by decide +kernel)) (fun _ h => by cases h)
  obtain ⟨t3, a3, b3⟩ := gm_arrO (C := "GlacierMail$State") (hst _ (by decide +kernel))
  obtain ⟨A, hA⟩ : ∃ A : Nat → Prop, A = fun q => s.heap.size ≤ q := ⟨_, rfl⟩
  have hA0 : ∀ a : Nat, a < s.heap.size → ¬ A a := fun a ha h => by rw [hA] at h; have h : s.heap.size ≤ a := h; omega
  obtain ⟨adK, adV, hS1, hS2⟩ := gm_strs hts hg hA0
  have hlt : gm_sl.length ≤ 2000 := by rw [gm_sl_len.1]; decide
  obtain ⟨aK, k0, k1, k2⟩ : ∃ aK : Nat → Nat, aK 2000 = b ∧ (∀ i, i < 75 → aK i = adK i) ∧ ∀ i, i < 75 → aK (1000 + i) = adV i := ⟨fun i => if i = 2000 then b else if 1000 ≤ i then adV (i - 1000) else adK i, if_pos rfl, fun i hi => (if_neg (by omega)).trans (if_neg (by omega)), fun i hi => (if_neg (by omega)).trans ((if_pos (by omega)).trans (by rw [Nat.add_sub_cancel_left]))⟩
  have hev : gm_Ev (fun j => (xs j.toNat).toInt) L aK adV A s := by
    refine ⟨fun i hi => ?_, fun q hq => ?_, vx_Zqof (hst _ (by decide +kernel)) (hst _ (by decide +kernel)) (hnr _ (by decide +kernel)) hA0, vx_Zqof (hst _ (by decide +kernel)) (hst _ (by decide +kernel)) (hnr _ (by decide +kernel)) hA0, ⟨va_Zof (hst _ (by decide +kernel)) (hst _ (by decide +kernel)) (va_eqt (hnr _ (by decide +kernel))) hA0, va_Zqof (hst _ (by decide +kernel)) (hst _ (by decide +kernel)) (hnr _ (by decide +kernel)) hA0, fun i hi => k2 i (Nat.lt_of_lt_of_eq hi gm_sl_len.1)⟩, ?_, by (rw [k0]; exact hbl), by (rw [k0]; exact hA0 _ hbl), va_AO.of (hst _ (by decide +kernel)), fun q hq => ?_, ?_, fun x y hx hy => ?_, fun y hy => ?_⟩
    · have h1 : aK i = adK i := k1 i (Nat.lt_of_lt_of_eq hi gm_sl_len.1)
      simp only [h1]
      exact hS1 i hi
    · obtain ⟨i, hi⟩ := List.getElem?_of_mem hq
      have h2 : i < 75 := by rw [← gm_sl_len.2]; exact (List.getElem?_eq_some_iff.mp hi).1
      have h3 := List.all_eq_true.mp gm_stp_ok i (List.mem_range.mpr h2)
      rw [hi] at h3
      have h4 : q.2.2.2 = i := by
        cases hr : gm_stp[i]? with
        | none => rw [hr] at h3; cases h3
        | some r => rw [hr] at h3; simp only [Bool.and_eq_true, decide_eq_true_eq] at h3; exact h3.2
      have h1 : aK q.2.2.2 = adK q.2.2.2 := k1 _ (by rw [h4]; exact h2)
      simp only [h1]
      exact hS2 q hq
    · have h2 : (fun j : Nat => Int32.ofInt ((fun j : Int => (xs j.toNat).toInt) (j : Int))) = xs := by
        funext j
        show Int32.ofInt (xs (Int.toNat (j : Int))).toInt = xs j
        rw [Int32.ofInt_toInt, Int.toNat_natCast]
      simp only [k0]
      rw [h2]
      exact hX
    · have h1 : Jvm.Cond.methodLinkNest q.1 q.2.1 q.2.2.1 q.2.2.2 ∈ gm_wst := List.mem_append.mpr (Or.inr (List.mem_append.mpr (Or.inr (List.mem_append.mpr (Or.inr (List.mem_map.mpr ⟨q, hq, rfl⟩))))))
      exact va_tabs (U := s) rfl rfl (hst _ h1)
    · exact va_tabs (U := s) rfl rfl (hst (.castable "[I" "java/lang/Cloneable") (by decide +kernel))
    · by_cases hxy : x = y
      · rw [if_pos hxy, ← hxy]
        have h1 : Jvm.Cond.castable (gm_xn x) (gm_xn x) ∈ gm_wst := List.mem_append.mpr (Or.inr (List.mem_append.mpr (Or.inl (List.mem_map.mpr ⟨x, List.mem_range.mpr hx, rfl⟩))))
        exact va_tabs (U := s) rfl rfl (hst _ h1)
      · rw [if_neg hxy]
        have h1 : Jvm.Cond.not (.castable (gm_xn x) (gm_xn y)) ∈ gm_ncs := List.mem_flatMap.mpr ⟨x, List.mem_range.mpr hx, List.mem_map.mpr ⟨y, List.mem_filter.mpr ⟨List.mem_range.mpr hy, by simpa using hxy⟩, rfl⟩⟩
        obtain ⟨v, hv, h2⟩ := List.any_eq_true.mp (List.all_eq_true.mp gm_ncs_ok _ h1)
        have h3 : Jvm.Cond.not (.castable (gm_xn x) (gm_xn y)) = v := of_decide_eq_true h2
        exact va_Nc.of (args := #[Value.ref b]) (h3 ▸ hg v hv)
    · have h1 : Jvm.Cond.declares y ∈ gm_wst := List.mem_append.mpr (Or.inr (List.mem_append.mpr (Or.inr (List.mem_append.mpr (Or.inl (List.mem_map.mpr ⟨y, hy, rfl⟩))))))
      exact va_tabs (U := s) rfl rfl (hst _ h1)
  have hcx : gm_Cx 370 p l s m #[Value.ref b] meth c := by
    refine ⟨hexec, hb, hml, hown, hr, hlk, fun w hw => hts w (List.mem_filter.mp hw).1, hnm, ?_, by decide, htab⟩
    unfold Launch.stackTraces
    rw [hflags]
    decide +kernel
  have hK : va_K D gm_cs (gm_ty fun i => ([t0, t1, t2, t3][i]?).getD 0) s := by
    refine ⟨hD, fun k q hq => ?_⟩
    match k, hq with
    | 0, hq => cases hq; exact ⟨a0, b0⟩
    | 1, hq => cases hq; exact ⟨a1, b1⟩
    | 2, hq => cases hq; exact ⟨a2, b2⟩
    | 3, hq => cases hq; exact ⟨a3, b3⟩
  have hsr : gm_sr (fun _ => 0) aK 0 [gm_vo 2000] [Value.ref b] := ⟨_, [], rfl, ⟨b, rfl, fun _ => k0.symm⟩, rfl⟩
  have hgo := hW (fun j => (xs j.toNat).toInt) L hL (fun j => ⟨by have := Int32.le_toInt (xs j.toNat); omega, by have := Int32.toInt_lt (xs j.toNat); omega⟩) p l e room_1 s m #[Value.ref b] below meth c D (fun i => ([t0, t1, t2, t3][i]?).getD 0) aK adV A (fun _ => 0) 0 601024 7293034 hcx hev (Nat.le_of_ble_eq_true rfl) (Nat.le_of_ble_eq_true rfl) (Nat.le_refl _) (Nat.le_refl _) (fun q hq => by rw [hA]; exact hq) (fun _ => 0) s.heap [] 0 0 _ [] gm_xt.rf (by omega) (by omega) ⟨hK, fun k q hq => by (unfold gm_wl at hq; simp at hq), ⟨fun i j p q hp => by (unfold gm_wl at hp; simp at hp), fun k q hq => by (unfold gm_wl at hq; simp at hq)⟩, va_S.rf, ⟨by decide, fun _ _ => Or.inl (Nat.le_refl _)⟩⟩ (gm_lr_ent (mj := 370) hsr (fun v hv => by (rw [List.mem_singleton.mp hv]; decide)) (by decide)) rfl
  intro T hT Xs
  have e0 : (F0 m 0 ((lg_sl [Value.ref b] ++ List.replicate (gm_ml 370 - (lg_sl [Value.ref b]).length) Slot.unset).toArray) [] : JFrame) = entryFrame m ([Value.ref b] : List Value).toArray 7 := (lg_entry_eq m [Value.ref b] 7).symm
  rw [e0] at hgo
  obtain ⟨t, g1, o, g2, g3, g4⟩ := hgo T hT Xs
  refine ⟨t, g1, o, g2, g3, ?_⟩
  rcases g4 with ⟨⟨⟨v, u, α, n, K, R, M, rfl, hv, hq, -⟩, -⟩, L9, h5, h6⟩ | ⟨q, rfl, h7⟩
  · cases hq
    obtain ⟨w, rfl, hw⟩ := hv
    refine ⟨by rw [show w = .int 1 from hw], gm_frame h5 fun q hq => ?_⟩
    have h8 := h6 q hq
    rw [hA] at h8
    exact h8
  · exfalso
    obtain ⟨E, ce, L9, ⟨⟨x, α, n, K, R, M, -, -, hq, -⟩, -⟩, -⟩ := h7
    cases hq
set_option maxHeartbeats 4000000 in
theorem lw_walk (hW : gm_Law) (l : Launch) (hflags : l.flags = flags0) (b : Addr) (xs : List Int32) : MetFree l x (headSpec (Jvm.Cond.code x code maxLocals ret :: tables_1) room_1) (lw_P b xs) (fun _ _ _ _ _ => True) lw_Q := by
  refine MetFree.of_bodyS (code := code) (maxLocals := maxLocals) (ret := ret) (by decide) ?_ ?_
  · intro args s m h hn
    obtain ⟨meth, c, h1, h2, h3, h4, h5, h6, -, -⟩ := Cond.code_spec hn (atoms_spec (ws := Jvm.Cond.code x code maxLocals ret :: tables_1) h _ List.mem_cons_self)
    exact ⟨meth, c, h1, h2, h3, h4, h5, h6⟩
  · intro p e s m args below meth c s₁ B hml0 hP _
    obtain ⟨rfl, hx, hbd, hgv⟩ := hP
    obtain ⟨scr, harrAt, hlist, hof, hsmall⟩ := hx
    obtain ⟨hcb, hkn, -, -⟩ := State.arrayAt?_spec harrAt
    have hown : s.vm.findClass R_law = some m.cls := findClass_of_methodNamed B.named
    have hts0 : ∀ c ∈ (Jvm.Cond.code x code maxLocals ret :: tables_1), c.before #[Value.ref b] s = true := atoms_spec (ws := Jvm.Cond.code x code maxLocals ret :: tables_1) B.pre
    have hts : ∀ w ∈ lw_tbl, w.before #[Value.ref b] s = true := k2_hts_sels lw_privs (fun w hw => hts0 w (List.mem_cons_of_mem _ hw)) lw_privs_ok
    have hml : c.maxLocals = 7 := B.maxLocals_eq (hts0 _ List.mem_cons_self)
    have X₀ : Stand p l e room_1 s m #[Value.ref b] below meth c s₁ [] 0 0 := Stand.of_body B
    have hh0 : s₁.heap = s.heap := by rw [B.state]; rfl
    have htab : c.exceptionTable.toList = [] := by
      obtain ⟨meth9, c9, h1, h2, -, -, -, -, h7, -⟩ := Cond.code_spec B.named (hts0 _ List.mem_cons_self)
      cases Option.some.inj (h1.symm.trans B.method)
      cases Option.some.inj (h2.symm.trans (Stand.of_body B).code)
      rw [Array.isEmpty_iff.mp h7]
    have hnm : meth.name = "law" := (name_of_methodNamed B.named B.method).1
    have hsz : scr.slots.size = xs.length := by rw [← Array.length_toList, hlist, List.length_map]
    have hval : ∀ j : Nat, j < xs.length → scr.slots[j]? = some (.int (xs.getD j 0)) := fun j hj => by
      rw [← Array.getElem?_toList, hlist]
      simp [hj]
    have hbl : b < s.heap.size := (Array.getElem?_eq_some_iff.mp hcb).1
    have hX : va_X b xs.length (fun j => xs.getD j 0) s s.heap := ⟨scr, hcb, hof, hkn, hsz, hval⟩
    have K : W p l e room_1 s m #[Value.ref b] below meth c s₁.heap [] 0 0 (lw_Z below #[Value.ref b] s) (entryFrame m ([Value.ref b] : List Value).toArray 7) := by
      rw [hh0]
      exact gm_start l hflags hbd hW B.exec B.bytes B.returns hml hown hts hX hbl B.notSynchronized hgv hnm htab
    obtain ⟨t, a1, o, b1, b2, b3⟩ := K s₁ rfl X₀
    exact ⟨t, o, a1, b1, b2, b3⟩
end ST
end
/-! 78p.lg -/
section
/-! A STATIC CALL WITH A LONG: a reference, then a long behind it. -/
theorem gm_lr_ent2 {α adK : Nat → Nat} {n mj : Nat} {u0 u1 : gm_V} {ws : List Value} (h : gm_sr α adK n [u0, u1] ws) (hc : ¬ gm_sort u0 = 1) (hlen : 3 ≤ gm_ml mj) : gm_lr α adK n (gm_ml mj) (gm_ent mj [u0, u1]) ((lg_sl ws ++ List.replicate (gm_ml mj - (lg_sl ws).length) Slot.unset).toArray) := by
  obtain ⟨w0, ws0, rfl, c0, w1, ws1, rfl, c1, h9⟩ := h
  have h9 : ws1 = [] := h9
  subst h9
  have h1 : w0.category = 1 := gm_cat1 c0 hc
  have hl : (lg_sl [w0, w1]).length ≤ 3 := by
    unfold lg_sl
    by_cases h2 : w1.category = 2
    · simp [h1, h2]
    · simp [h1, h2]
  have e : lv_args 0 [w0, w1] = [(0, w0), (1, w1)] := by simp [lv_args, h1]
  refine ⟨by simp [gm_ent]; omega, _, lv_entry [w0, w1] (by omega), fun i v hi => ?_⟩
  rw [e]
  rcases i with _ | _ | i
  · have hi : some (some u0) = some (some v) := hi
    cases hi
    exact ⟨w0, c0, List.mem_cons_self⟩
  · have hi : some (some u1) = some (some v) := hi
    cases hi
    exact ⟨w1, c1, List.mem_cons_of_mem _ (List.mem_singleton.mpr rfl)⟩
  · have hi : (List.replicate (gm_ml mj - 2) (none : Option gm_V))[i]? = some (some v) := hi
    have := List.eq_of_mem_replicate (List.mem_of_getElem? hi)
    cases this
section G2
variable {X : Int → Int} {LX d bc bs mi pc : Nat} {L : gm_L} {st : List gm_V} {n : Nat} {K : gm_K} {R : gm_R} {M : gm_M} {Q : gm_Q}
theorem gm_met2 {mj : Nat} {vs : List gm_V} {avs : List Value} (hm : mj < 370) (hmx : gm_ow mj ≠ gm_mxi) (hh : gm_hh mj = []) (l : Launch) (hl : l.stackTraces = false) {D : va_G} {ti : Nat → ClassId} {adK adV α : Nat → Nat} {A' : Nat → Prop} {H : Heap}
    (hW : gm_Wp X LX d bc bs mj 0 (gm_ent mj vs) [] n K R M Q) (hE : gm_lr α adK n (gm_ml mj) (gm_ent mj vs) ((lg_sl avs ++ List.replicate (gm_ml mj - (lg_sl avs).length) Slot.unset).toArray)) (hP : va_P D gm_cs (gm_wl ti α n K R M) H) (hD : va_D A' (gm_wl ti α n K R M)) (hRv : gm_Rv n R) (hA' : ∀ q, H.size ≤ q → A' q) :
    vx_Met l (gm_mn mj) (gm_cwd mj :: gm_T) ({ frames := d, cells := bc, slots := bs, locals := d * 300 }) (va_Pc avs (fun U => U.heap = H ∧ gm_Ev X LX adK adV A' U ∧ va_K D gm_cs (gm_ty ti) U)) (gm_QC D ti adK A' α n Q) (gm_XC D ti A' α n Q) bc bs A' := by
  obtain ⟨-, hpl, -, -, -, hown9⟩ := gm_mck_spec hm
  refine vx_ofW (cc := gm_bc mj) (maxL := gm_ml mj) (ret := gm_rt mj) (ws' := gm_T) (hpl hmx) (by unfold gm_cwd; rw [if_pos hh]) ?_
  intro p e s m args below meth c s₁ B hml hex hv
  obtain ⟨rfl, hsz, hev, hK⟩ := hv
  have hts := atoms_spec (ws := gm_cwd mj :: gm_T) B.pre
  have hown : s.vm.findClass (gm_mn mj).cls = some m.cls := findClass_of_methodNamed B.named
  have hin : meth.name = (gm_mn mj).name := (name_of_methodNamed B.named B.method).1
  have htab : c.exceptionTable.toList = tableOf (gm_hh mj) := by
    rw [hh]
    cases hx : c.exceptionTable.toList with
    | nil => rfl
    | cons x xs => exact absurd (hex x (by rw [hx]; exact List.mem_cons_self)) id
  subst hsz
  rw [lg_entry_eq]
  exact hW p l e _ s m _ below meth c D ti adK adV A' α n bc bs ⟨B.exec, B.bytes, hml, by rw [hown9]; exact hown, B.returns, B.notSynchronized, fun w hw => hts w (List.mem_cons_of_mem _ hw), hin, hl, (by omega), htab⟩ hev (Nat.le_refl _) (Nat.le_refl _) (Nat.le_refl _) (Nat.le_refl _) hA' α s.heap [] 0 0 _ [] gm_xt.rf (by omega) (by omega) ⟨hK, hP, hD, va_S.rf, hRv⟩ hE rfl
theorem gm_c_stat2 {ix mj d' bc' bs' : Nat} {u0 u1 : gm_V} (h : gm_at mi pc = some (.invokestatic ix)) (hc : gm_cal (gm_ow mi) ix = some (2, mj)) (hmx : gm_ow mj ≠ gm_mxi) (hh : gm_hh mi = []) (hna : 2 = gm_na mj) (hcat : ¬ gm_sort u0 = 1) (hlen : 3 ≤ gm_ml mj) (hst : (st.map gm_cat).sum ≤ 8) (hd' : d' + 1 ≤ d) (hb1 : bc' ≤ bc) (hb2 : bs' ≤ bs)
    (hW : gm_Wp X LX d' bc' bs' mj 0 (gm_ent mj [u0, u1]) [] n K R M (gm_cont X LX d (bc - bc') (bs - bs') mi (pc + 3) L st Q)) : gm_Wp X LX d bc bs mi pc L (u1 :: u0 :: st) n K R M Q := by
  intro p l e Rm s m args below meth c D ti adK adV A α0 n0 mc ms hcx hev hd hd2 hmc hms hA α H locs cells slots ls sv hxt hc1 hc2 hR hL hS
  have hS : gm_sr α adK n ([u0, u1].reverse ++ st) sv := hS
  obtain ⟨w1, sv2, rfl, hw1, hS2⟩ := gm_sr_app hS
  have hdg := gm_dec hcx h rfl
  obtain ⟨hx, hb, hml, hown, -, -, hts, -, hl, -⟩ := id hcx
  obtain ⟨hKn, hP, hD, hSv, hRv⟩ := id hR
  obtain ⟨hj, i1, i2, -, -, i5, i6, -⟩ := gm_cal_spec hc
  obtain ⟨j1, -, j3, j4, j5, -⟩ := gm_mck_spec hj
  have hA1 := gm_sub_A hD hSv hA
  have hvs : gm_sr α adK n [u0, u1] w1.reverse := by have := gm_sr_rev hw1; rwa [List.reverse_reverse] at this
  have hM := gm_met2 (adV := adV) (ti := ti) (D := D) hj hmx (i6 (by omega)) l hl hW (gm_lr_ent2 hvs hcat hlen) hP (hD.self (sz := H.size)) hRv (fun q h => Or.inr h)
  have hcode : gm_cwd mj = .code (gm_mn mj) (gm_bc mj) (gm_ml mj) (gm_rt mj) := by unfold gm_cwd; rw [if_pos (i6 (by omega))]
  have hwl : w1.length = 2 := by have := (gm_sr_at hw1).1; simpa using this
  have hpre : PreS s H (va_Pc w1.reverse (fun U => U.heap = H ∧ gm_Ev X LX adK adV (va_A (gm_wl ti α n K R M) H.size) U ∧ va_K D gm_cs (gm_ty ti) U)) w1.reverse := ⟨gm_blind, fun U hU hWm => ⟨rfl, hU, gm_Ev_to hev hWm (by rw [hU]; exact hSv.1) (fun a h1 h2 => by rw [hU]; exact hSv.2.1 a h1 h2) hA1, va_K.moved hWm.alike hKn⟩⟩
  refine gm_tail (bc' := bc') (bs' := bs') hh hcx hev hd hd2 hmc hms hA hxt hb1 hb2 hc1 hc2 hSv hL hS2 hA1 (a := w1.reverse.toArray) ?_
  have hR1 : d' + 1 ≤ Rm.frames ∧ 8 + (gm_ml mj + 11) + d' * 300 ≤ Rm.locals := ⟨by omega, by omega⟩
  have hroom := lv_room (m := m) (pc := pc) (ls := ls) (rest := w1 ++ sv2) (st := sv2) (by rw [gm_sum_eq hS2]; exact hst)
  exact vx_runS (As := w1.reverse) (n := gm_na mj) (index := ix) ⟨hx, hb, hml, hown, hts⟩ hM ⟨callB_of (rm := { frames := d', cells := bc', slots := bs', locals := d' * 300 }) (gm_na mj) hts (gm_G1 hj) (by rw [hcode]) rfl rfl (hts _ i1) (hts _ (i2 (by omega))) ⟨j3.1, j3.2, j4⟩ hR1, hts _ (i5 (Or.inl rfl))⟩ hpre rfl (by rw [List.length_reverse, hwl, hna]) hL.2.choose_spec.1.1 (by rw [List.reverse_reverse]) hroom hdg ⟨by omega, by omega⟩
end G2
end
/-! 78q.yy -/
section
/-! YEARS of the class, for any number from 1 to 50 at once: the loop by hand. -/
noncomputable def yy_A (a : ck_I) (s i : Option ck_A) : ck_AL := [some (.inr (.inr (.inl 1))), some (.inl a), s, i]
noncomputable def yy_F (RF : List (Nat × Int × Nat)) (y : ck_I) : ck_F := ([], RF, [(3, 6, 6, y)])
noncomputable def yy_C0 (RF : List (Nat × Int × Nat)) : ck_C := (yy_A (1, 50, []) none none, yy_F RF (0, 299, [(10, 0)]), 0, .inl 1, true)
noncomputable def yy_C1 (RF : List (Nat × Int × Nat)) (s : Nat) : ck_C := (yy_A (1, 50, [(302, 0)]) (some (.inl (ck_one 0))) (some (.inl (ck_one 0))), yy_F RF (0, 298, [(303, 0)]), s, .inl 3, true)
noncomputable def yy_C2 (RF : List (Nat × Int × Nat)) : ck_C := (yy_A (1, 50, [(302, 0)]) (some (.inl ck_top)) (some (.inl (1, 50, [(304, 1)]))), yy_F RF (1, 299, [(303, 1)]), 0, .inl 3, true)
theorem yy_gi {σ : Nat → Int} {a b x z : Int} {q : Nat} (ha : a ≤ x) (hb : x ≤ b) (hq : q < 1000000) (hx : x = σ q + z) : ck_gi σ (a, b, [(q, z)]) x := by
  refine ⟨ha, hb, fun p hp => ?_⟩
  rw [List.mem_singleton.mp hp]
  exact ⟨fun _ => hx, fun h => absurd h (by show ¬ 1000000 ≤ q; omega)⟩
theorem yy_u1 {σ : Nat → Int} {s : Nat} {v : Int} : ck_us σ s v s = v := if_pos rfl
theorem yy_u2 {σ : Nat → Int} {s q : Nat} {v : Int} (h : ¬ q = s) : ck_us σ s v q = σ q := if_neg h
theorem yy_mk {σ : Nat → Int} {L : gm_L} {x : Int} {a : ck_I} {s i : Option ck_A} (hl : L.length = 4) (h0 : L[0]? = some (some (gm_vr 1))) (h1 : L[1]? = some (some (gm_vi x))) (r1 : gm_ir x) (g1 : ck_gi σ a x) (h2 : ∀ b, s = some b → ∃ u, L[2]? = some (some u) ∧ ck_ga σ b u) (h3 : ∀ b, i = some b → ∃ u, L[3]? = some (some u) ∧ ck_ga σ b u) : ck_gl σ (yy_A a s i) L := by
  refine ⟨by rw [hl]; rfl, fun j b hb => ?_⟩
  rcases j with _ | _ | _ | _ | j
  · have hb : some (some (.inr (.inr (.inl 1)))) = some (some b) := hb
    cases hb
    exact ⟨_, h0, rfl⟩
  · have hb : some (some (.inl a)) = some (some b) := hb
    cases hb
    exact ⟨_, h1, x, rfl, r1, g1⟩
  · have hb : some s = some (some b) := hb
    injection hb with hb
    exact h2 b hb
  · have hb : some i = some (some b) := hb
    injection hb with hb
    exact h3 b hb
  · have hb : none = some (some b) := hb
    cases hb
/-- the locals in the loop -/
noncomputable def yy_P (L : gm_L) (x i : Int) : Prop := L.length = 4 ∧ L[0]? = some (some (gm_vr 1)) ∧ L[1]? = some (some (gm_vi x)) ∧ (∃ s, L[2]? = some (some (gm_vi s)) ∧ gm_ir s) ∧ L[3]? = some (some (gm_vi i))
theorem yy_top {σ : Nat → Int} {s : Int} (r : gm_ir s) : ck_ga σ (.inl ck_top) (gm_vi s) := by
  have r1 : -2147483648 ≤ s := r.1
  have r2 : s < 2147483648 := r.2
  exact ⟨s, rfl, r, r1, by show s ≤ 2147483647; omega, fun q hq => nomatch hq⟩
section YY
variable {X : Int → Int} {LX : Nat} {O : gm_Or} {E : List (Nat × List ck_Sum)} {d n f : Nat} {W : List (Nat × Int × Int) × List (Nat × Int)} {outs : List ck_Oc}
theorem yy_l {RF : List (Nat × Int × Nat)} {σ : Nat → Int} {K0 : gm_K} {R0 : gm_R} {M0 : gm_M} {x y : Int} (hE : ck_nmu O ∧ ck_OkE O X LX E) (h3 : 3 ≤ n) (hx : 1 ≤ x ∧ x ≤ 50) (hy : 0 ≤ y) (hxy : y + x ≤ 299)
    (g61 : ck_go O none [] E 161 d n W outs [(56, yy_C2 RF)] f true [(56, yy_C2 RF, 0, 0, n)] 0 0 61 (yy_A (1, 50, [(302, 0)]) (some (.inl ck_top)) (some (.inl (0, 49, [(304, 0)])))) [] n (yy_F RF (0, 298, [(303, 0)])) = true)
    (g74 : ck_go O none [] E 161 d n W outs [] f true [] 0 0 74 (yy_A (1, 50, []) (some (.inl ck_top)) none) [] n ([], RF, []) = true) : ∀ (j : Nat) (i : Int) (L : gm_L) (K : gm_K) (R : gm_R) (M : gm_M), 0 ≤ i → i ≤ x → x - i ≤ (j : Int) → yy_P L x i → gm_Fx O n K R M → ck_gf σ ([], RF, []) n K R M → gm_ir (M 3 6) → M 3 6 = y + i → ck_fr W n K0 R0 M0 n K R M → gm_Wp X LX d 0 0 161 56 L [] n K R M (ck_Q O σ W n K0 R0 M0 outs) := by
  have rx : gm_ir x := ⟨by omega, by omega⟩
  have step : ∀ (i : Int) (L : gm_L) (K : gm_K) (R : gm_R) (M : gm_M), 0 ≤ i → i ≤ x → yy_P L x i → gm_Fx O n K R M → ck_gf σ ([], RF, []) n K R M → gm_ir (M 3 6) → M 3 6 = y + i → ck_fr W n K0 R0 M0 n K R M → (i + 1 ≤ x → ∀ (L : gm_L) (K : gm_K) (R : gm_R) (M : gm_M), yy_P L x (i + 1) → gm_Fx O n K R M → ck_gf σ ([], RF, []) n K R M → gm_ir (M 3 6) → M 3 6 = y + (i + 1) → ck_fr W n K0 R0 M0 n K R M → gm_Wp X LX d 0 0 161 56 L [] n K R M (ck_Q O σ W n K0 R0 M0 outs)) → gm_Wp X LX d 0 0 161 56 L [] n K R M (ck_Q O σ W n K0 R0 M0 outs) := by
    intro i L K R M i0 ix ⟨p1, p2, p3, ⟨s, p4, rs⟩, p5⟩ hF hf rM hM hfr HI
    have ri : gm_ir i := ⟨by omega, by omega⟩
    refine gm_sz (gm_p_load (pc := 56) (i := .iload_n 3) (sr := 0) (j := 3) (by decide +kernel) rfl p5 rfl) ?_
    refine gm_sz (gm_p_load (pc := 57) (i := .iload_n 1) (sr := 0) (j := 1) (by decide +kernel) rfl p3 rfl) ?_
    refine gm_b_ic (cc := .ge) (pc := 58) (off := 16) (by decide +kernel) (by decide) (fun _ => ?_) (fun hp => ?_)
    · exact ck_go_s (σ0 := σ) (cuts := []) (by decide) hE ck_X0 ck_l0 f true [] 0 0 74 (yy_A (1, 50, []) (some (.inl ck_top)) none) [] n ([], RF, []) σ L [] K R M (fun _ _ => rfl) (fun _ h => nomatch h) ⟨hF, yy_mk p1 p2 p3 rx ⟨hx.1, hx.2, fun q hq => nomatch hq⟩ (fun b hb => by cases hb; exact ⟨_, p4, yy_top rs⟩) (fun b hb => nomatch hb), rfl, hf, hfr⟩ g74
    · rw [gm_cm_w ri rx] at hp
      have hp : ¬ x ≤ i := hp
      have s1 : ∀ s, s < 100 → ck_us (ck_us (ck_us σ 302 x) 303 (y + i)) 304 i s = σ s := fun s hs => by rw [yy_u2 (by omega), yy_u2 (by omega), yy_u2 (by omega)]
      have e2 : ck_us (ck_us (ck_us σ 302 x) 303 (y + i)) 304 i 302 = x := by rw [yy_u2 (by decide), yy_u2 (by decide), yy_u1]
      have e3 : ck_us (ck_us (ck_us σ 302 x) 303 (y + i)) 304 i 303 = y + i := by rw [yy_u2 (by decide), yy_u1]
      have e4 : ck_us (ck_us (ck_us σ 302 x) 303 (y + i)) 304 i 304 = i := yy_u1
      generalize ck_us (ck_us (ck_us σ 302 x) 303 (y + i)) 304 i = σ1 at s1 e2 e3 e4
      refine ck_go_s (σ0 := σ) (cuts := [((56 : Nat), yy_C2 RF)]) (by simp [ck_cu]) hE ck_X0 ck_l0 f true [(56, yy_C2 RF, 0, 0, n)] 0 0 61 (yy_A (1, 50, [(302, 0)]) (some (.inl ck_top)) (some (.inl (0, 49, [(304, 0)])))) [] n (yy_F RF (0, 298, [(303, 0)])) σ1 L [] K R M s1 (fun h hm => ?_) ⟨hF, yy_mk p1 p2 p3 rx (yy_gi hx.1 hx.2 (by decide) (by rw [e2]; omega)) (fun b hb => by cases hb; exact ⟨_, p4, yy_top rs⟩) (fun b hb => by cases hb; exact ⟨_, p5, i, rfl, ri, yy_gi i0 (by omega) (by decide) (by rw [e4]; omega)⟩), rfl, ⟨(fun q hq => nomatch hq), hf.2.1, fun q hq => ?_⟩, hfr⟩ g61
      · rw [List.mem_singleton.mp hm]
        refine ⟨List.mem_singleton.mpr rfl, fun v _ bc bs L1 K1 R1 M1 _ _ hS _ => ?_⟩
        refine gm_Wp_wk (Nat.le_refl _) (Nat.zero_le _) (Nat.zero_le _) ?_
        obtain ⟨hF1, hl1, _, hf1, hfr1⟩ := hS
        have hl1 : ck_gl σ1 (yy_A (1, 50, [(302, 0)]) (some (.inl ck_top)) (some (.inl (1, 50, [(304, 1)])))) L1 := hl1
        have hf1 : ck_gf σ1 (yy_F RF (1, 299, [(303, 1)])) n K1 R1 M1 := hf1
        have hlen : 4 = L1.length := hl1.1
        obtain ⟨u0, l0, g0⟩ := hl1.2 0 (.inr (.inr (.inl 1))) rfl
        cases g0
        obtain ⟨u1, l1, x1, rfl, -, g1⟩ := hl1.2 1 (.inl (1, 50, [(302, 0)])) rfl
        obtain ⟨u2, l2, x2, rfl, r2, -⟩ := hl1.2 2 (.inl ck_top) rfl
        obtain ⟨u3, l3, x3, rfl, -, g3⟩ := hl1.2 3 (.inl (1, 50, [(304, 1)])) rfl
        obtain ⟨r6, g6⟩ := (hf1.2.2 (3, 6, 6, (1, 299, [(303, 1)])) (List.mem_singleton.mpr rfl)).2 6 (Int.le_refl _) (Int.le_refl _)
        have q1 : x1 = x := by
          have := (g1.2.2 (302, 0) (List.mem_singleton.mpr rfl)).1 (by decide)
          have : x1 = σ1 302 + 0 := this
          omega
        have q3 : x3 = i + 1 := by
          have := (g3.2.2 (304, 1) (List.mem_singleton.mpr rfl)).1 (by decide)
          have : x3 = σ1 304 + 1 := this
          omega
        have q6 : M1 3 6 = y + (i + 1) := by
          have := (g6.2.2 (303, 1) (List.mem_singleton.mpr rfl)).1 (by decide)
          have : M1 3 6 = σ1 303 + 1 := this
          omega
        rw [q1] at l1
        rw [q3] at l3
        exact HI (by omega) L1 K1 R1 M1 ⟨hlen.symm, l0, l1, ⟨x2, l2, r2⟩, l3⟩ hF1 ⟨(fun q hq => nomatch hq), hf1.2.1, fun q hq => nomatch hq⟩ r6 q6 hfr1
      · rw [List.mem_singleton.mp hq]
        refine ⟨h3, fun j j1 j2 => ?_⟩
        have j1 : (6 : Int) ≤ j := j1
        have j2 : j ≤ (6 : Int) := j2
        have j3 : j = 6 := by omega
        subst j3
        exact ⟨rM, yy_gi (by show 0 ≤ M 3 6; omega) (by show M 3 6 ≤ 298; omega) (by decide) (by show M 3 6 = σ1 303 + 0; omega)⟩
  intro j
  induction j with
  | zero =>
    intro i L K R M i0 ix ij hP hF hf rM hM hfr
    exact step i L K R M i0 ix hP hF hf rM hM hfr (fun h => absurd h (by omega))
  | succ j ih =>
    intro i L K R M i0 ix ij hP hF hf rM hM hfr
    exact step i L K R M i0 ix hP hF hf rM hM hfr (fun h L1 K1 R1 M1 hP1 hF1 hf1 rM1 hM1 hfr1 => ih (i + 1) L1 K1 R1 M1 (by omega) h (by omega) hP1 hF1 hf1 rM1 hM1 hfr1)
theorem yy_s {RF : List (Nat × Int × Nat)} {RS : List (Nat × List (Nat × Int × Nat))} {S : ck_Sum} {mc ms : Nat} (hE : ck_nmu O ∧ ck_OkE O X LX E) (o1 : O.1 1 = some (4, 0)) (o3 : O.1 3 = some (5, 0)) (o2 : O.2.1 1 ((3 : Nat) : Int) = some 3) (h3 : 3 ≤ S.2.1) (hmc : mc ≤ S.1.2.1) (hms : ms ≤ S.1.2.2)
    (ha : (decide (S.2.2.1.length ≤ gm_ml 161) && ck_go O none [] E 161 S.1.1 S.2.1 S.2.2.2.2.1 S.2.2.2.2.2 [(11, yy_C0 RF)] f false [(11, yy_C0 RF, mc, ms, S.2.1)] S.1.2.1 S.1.2.2 0 (S.2.2.1.map some ++ List.replicate (gm_ml 161 - S.2.2.1.length) none) [] S.2.1 S.2.2.2.1) = true)
    (hb : ck_go O none [] E 161 S.1.1 S.2.1 S.2.2.2.2.1 S.2.2.2.2.2 [] f true [] mc ms 26 (yy_A (1, 50, []) none none) [] S.2.1 (yy_F RF (0, 299, [(10, 0)])) = true)
    (hcu : ck_cu (RS.map fun p => (56, yy_C1 p.2 p.1)) = true)
    (hc : ck_go O none [] E 161 S.1.1 S.2.1 S.2.2.2.2.1 S.2.2.2.2.2 (RS.map fun p => (56, yy_C1 p.2 p.1)) f true (RS.map fun p => (56, yy_C1 p.2 p.1, 0, 0, S.2.1)) mc ms 37 (yy_A (1, 50, [(302, 0)]) none none) [] S.2.1 (yy_F RF (0, 298, [(10, 0), (303, 0)])) = true)
    (hd : (RS.all fun p => ck_go O none [] E 161 S.1.1 S.2.1 S.2.2.2.2.1 S.2.2.2.2.2 [(56, yy_C2 p.2)] f true [(56, yy_C2 p.2, 0, 0, S.2.1)] 0 0 61 (yy_A (1, 50, [(302, 0)]) (some (.inl ck_top)) (some (.inl (0, 49, [(304, 0)])))) [] S.2.1 (yy_F p.2 (0, 298, [(303, 0)])) && ck_go O none [] E 161 S.1.1 S.2.1 S.2.2.2.2.1 S.2.2.2.2.2 [] f true [] 0 0 74 (yy_A (1, 50, []) (some (.inl ck_top)) none) [] S.2.1 ([], p.2, [])) = true) : ck_Ok O X LX 161 S := by
  refine ck_ok_st (cuts := [((11 : Nat), yy_C0 RF)]) (by simp [ck_cu]) hE ha (fun h hm => ?_)
  rw [List.mem_singleton.mp hm]
  refine ⟨List.mem_singleton.mpr rfl, fun σ K0 R0 M0 v _ bc bs L K R M hb1 hb2 hS _ => ?_⟩
  refine gm_Wp_wk (Nat.le_refl _) hb1 hb2 ?_
  obtain ⟨hF, hl, _, hf, hfr⟩ := hS
  have hl : ck_gl σ (yy_A (1, 50, []) none none) L := hl
  have hf : ck_gf σ (yy_F RF (0, 299, [(10, 0)])) S.2.1 K R M := hf
  show gm_Wp X LX S.1.1 mc ms 161 11 L [] S.2.1 K R M _
  have hlen : 4 = L.length := hl.1
  obtain ⟨u0, l0, g0⟩ := hl.2 0 (.inr (.inr (.inl 1))) rfl
  cases g0
  obtain ⟨u1, l1, x, rfl, rx, x1, x2, -⟩ := hl.2 1 (.inl (1, 50, [])) rfl
  have x1 : 1 ≤ x := x1
  have x2 : x ≤ 50 := x2
  obtain ⟨h6, h7⟩ := (hf.2.2 (3, 6, 6, (0, 299, [(10, 0)])) (List.mem_singleton.mpr rfl)).2 6 (Int.le_refl _) (Int.le_refl _)
  have h71 : (0 : Int) ≤ M 3 6 := h7.1
  have h72 : M 3 6 ≤ (299 : Int) := h7.2.1
  have h74 : M 3 6 = σ 10 + 0 := (h7.2.2 (10, 0) (List.mem_singleton.mpr rfl)).1 (by decide)
  obtain ⟨k1, k2, k3⟩ := hF.1 1 _ o1
  obtain ⟨k4, k5, k6⟩ := hF.1 3 _ o3
  have r3 := (hF.2.1 1 _ _ o2).2
  refine gm_sz (gm_p_load (pc := 11) (i := .iload_n 1) (sr := 0) (j := 1) (by decide +kernel) rfl l1 rfl) ?_
  refine gm_sz (gm_p_const (pc := 12) (i := .sipush 299) (v := gm_vi 299) (by decide +kernel) (by decide +kernel)) ?_
  refine gm_sz (gm_p_load (pc := 15) (i := .aload_n 0) (sr := 2) (j := 0) (by decide +kernel) rfl l0 rfl) ?_
  refine gm_sz (gm_p_get (pc := 16) (ix := 23) (ci := 0) (j := 3) (by decide +kernel) ⟨k1, k2⟩ (by rw [k3]) (by decide +kernel)) ?_
  rw [if_pos (show gm_isr 0 3 = true by decide +kernel), r3]
  refine gm_sz (gm_p_get (pc := 19) (ix := 269) (ci := 1) (j := 6) (by decide +kernel) ⟨k4, k5⟩ (by rw [k6]) (by decide +kernel)) ?_
  rw [if_neg (show ¬ gm_isr 1 6 = true by decide +kernel)]
  refine gm_sz (gm_p_bin (pc := 22) (i := .isub) (f := fun x y => x - y) (by decide +kernel) rfl) ?_
  have h73 : M 3 ((6 : Nat) : Int) = M 3 6 := rfl
  refine gm_b_ic (cc := .le) (pc := 23) (off := 14) (by decide +kernel) (by decide) (fun hp => ?_) (fun _ => ?_)
  · rw [gm_cm_w ⟨by omega, by omega⟩ ⟨by omega, by omega⟩] at hp
    have hp : x ≤ 299 - M 3 6 := hp
    have s1 : ∀ s, s < 100 → ck_us (ck_us σ 302 x) 303 (M 3 6) s = σ s := fun s hs => by rw [yy_u2 (by omega), yy_u2 (by omega)]
    have e2 : ck_us (ck_us σ 302 x) 303 (M 3 6) 302 = x := by rw [yy_u2 (by decide), yy_u1]
    have e3 : ck_us (ck_us σ 302 x) 303 (M 3 6) 303 = M 3 6 := yy_u1
    generalize ck_us (ck_us σ 302 x) 303 (M 3 6) = σ1 at s1 e2 e3
    refine ck_go_s (σ0 := σ) hcu hE ck_X0 ck_l0 f true (RS.map fun p => (56, yy_C1 p.2 p.1, 0, 0, S.2.1)) mc ms 37 (yy_A (1, 50, [(302, 0)]) none none) [] S.2.1 (yy_F RF (0, 298, [(10, 0), (303, 0)])) σ1 L [] K R M s1 (fun h hm => ?_) ⟨hF, yy_mk hlen.symm l0 l1 rx (yy_gi x1 x2 (by decide) (by rw [e2]; omega)) (fun b hb => nomatch hb) (fun b hb => nomatch hb), rfl, ⟨(fun q hq => nomatch hq), hf.2.1, fun q hq => ?_⟩, hfr⟩ hc
    · obtain ⟨p, hp9, rfl⟩ := List.mem_map.mp hm
      refine ⟨List.mem_map.mpr ⟨p, hp9, rfl⟩, fun v _ bc bs L1 K1 R1 M1 _ _ hS _ => ?_⟩
      have hd2 := List.all_eq_true.mp hd p hp9
      simp only [Bool.and_eq_true] at hd2
      refine gm_Wp_wk (Nat.le_refl _) (Nat.zero_le _) (Nat.zero_le _) ?_
      obtain ⟨hF1, hl1, _, hf1, hfr1⟩ := hS
      have hl1 : ck_gl σ1 (yy_A (1, 50, [(302, 0)]) (some (.inl (ck_one 0))) (some (.inl (ck_one 0)))) L1 := hl1
      have hf1 : ck_gf σ1 (yy_F p.2 (0, 298, [(303, 0)])) S.2.1 K1 R1 M1 := hf1
      have hlen1 : 4 = L1.length := hl1.1
      obtain ⟨u0, l0, g0⟩ := hl1.2 0 (.inr (.inr (.inl 1))) rfl
      cases g0
      obtain ⟨u1, l1, y1, rfl, -, g1⟩ := hl1.2 1 (.inl (1, 50, [(302, 0)])) rfl
      obtain ⟨u2, l2, y2, rfl, r2, -⟩ := hl1.2 2 (.inl (ck_one 0)) rfl
      obtain ⟨u3, l3, y3, rfl, -, g31, g32, -⟩ := hl1.2 3 (.inl (ck_one 0)) rfl
      obtain ⟨r6, g6⟩ := (hf1.2.2 (3, 6, 6, (0, 298, [(303, 0)])) (List.mem_singleton.mpr rfl)).2 6 (Int.le_refl _) (Int.le_refl _)
      have q1 : y1 = x := by
        have := (g1.2.2 (302, 0) (List.mem_singleton.mpr rfl)).1 (by decide)
        have : y1 = σ1 302 + 0 := this
        omega
      have q31 : 0 ≤ y3 := g31
      have q32 : y3 ≤ 0 := g32
      have q3 : y3 = 0 := by omega
      have q6 : M1 3 6 = M 3 6 + 0 := by
        have := (g6.2.2 (303, 0) (List.mem_singleton.mpr rfl)).1 (by decide)
        have : M1 3 6 = σ1 303 + 0 := this
        omega
      rw [q1] at l1
      rw [q3] at l3
      exact yy_l hE h3 ⟨x1, x2⟩ h71 (by omega) hd2.1 hd2.2 50 0 L1 K1 R1 M1 (by decide) (by omega) (by omega) ⟨hlen1.symm, l0, l1, ⟨y2, l2, r2⟩, l3⟩ hF1 ⟨(fun q hq => nomatch hq), hf1.2.1, fun q hq => nomatch hq⟩ r6 q6 hfr1
    · rw [List.mem_singleton.mp hq]
      refine ⟨h3, fun j j1 j2 => ?_⟩
      have j1 : (6 : Int) ≤ j := j1
      have j2 : j ≤ (6 : Int) := j2
      have j3 : j = 6 := by omega
      subst j3
      refine ⟨h6, h71, by show M 3 6 ≤ 298; omega, fun p hp1 => ?_⟩
      simp only [List.mem_cons, List.not_mem_nil, or_false] at hp1
      rcases hp1 with rfl | rfl
      · exact ⟨fun _ => by show M 3 6 = σ1 10 + 0; rw [s1 10 (by decide)]; exact h74, fun h => absurd h (by decide)⟩
      · exact ⟨fun _ => by show M 3 6 = σ1 303 + 0; rw [e3]; omega, fun h => absurd h (by decide)⟩
  · exact ck_go_s (σ0 := σ) (cuts := []) (by decide) hE ck_X0 ck_l0 f true [] mc ms 26 (yy_A (1, 50, []) none none) [] S.2.1 (yy_F RF (0, 299, [(10, 0)])) σ L [] K R M (fun _ _ => rfl) (fun _ h => nomatch h) ⟨hF, hl, rfl, hf, hfr⟩ hb
end YY
end
