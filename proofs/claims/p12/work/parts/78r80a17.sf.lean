/-! 78r80a17.sf -/
section
/-! EVERY CALL ENDS, whatever was done before (laid by wip/am/p2k.py). -/
set_option maxRecDepth 100000 in
/-- GlacierMailModel.throwsFor -/
noncomputable def p2_s1316 : ck_Sum := ((2, 0, 0), 245, [.inr (.inr (.inl 226)), .inl (6, 2147483647, []), .inl ((-2147483648), 2147483647, []), .inl ((-2147483648), 2147483647, []), .inl ((-2147483648), 2147483647, [])], ([], [], []), ([(226, 0, 0)], []), [(.inr (some (.inl (ck_one 0))), 245, ([], [], [(226, 0, 0, ck_one 1)]))])
set_option maxRecDepth 100000 in
theorem p2_s1316_s {X : Int → Int} {LX : Nat} : ck_Ok p2_O X LX 324 p2_s1316 := ck_okq (cuts := []) (f := 94) ⟨p2_nmu, ck_E1 (ck_S1 p2_s287_s ck_S0) (ck_E1 (ck_S1 p2_s241_s ck_S0) ck_E0)⟩ (by decide +kernel)
set_option maxRecDepth 100000 in
/-- GlacierMailModel.throwsFor -/
noncomputable def p2_s1317 : ck_Sum := ((2, 0, 0), 245, [.inr (.inr (.inl 226)), .inl (0, 5, []), .inl ((-2147483648), (-1), []), .inl ((-2147483648), 2147483647, []), .inl ((-2147483648), 2147483647, [])], ([], [], []), ([(226, 0, 0)], []), [(.inr (some (.inl (ck_one 0))), 245, ([], [], [(226, 0, 0, (1, 2, []))]))])
set_option maxRecDepth 100000 in
theorem p2_s1317_s {X : Int → Int} {LX : Nat} : ck_Ok p2_O X LX 324 p2_s1317 := ck_okq (cuts := []) (f := 112) ⟨p2_nmu, ck_E1 (ck_S1 p2_s290_s ck_S0) (ck_E1 (ck_S1 p2_s241_s (ck_S1 p2_s242_s (ck_S1 p2_s244_s ck_S0))) (ck_E1 (ck_S1 p2_s257_s ck_S0) ck_E0))⟩ (by decide +kernel)
set_option maxRecDepth 100000 in
/-- GlacierMailModel.throwsFor -/
noncomputable def p2_s1318 : ck_Sum := ((2, 0, 0), 245, [.inr (.inr (.inl 226)), .inl (0, 5, []), .inl (300, 2147483647, []), .inl ((-2147483648), 2147483647, []), .inl ((-2147483648), 2147483647, [])], ([], [], []), ([(226, 0, 0)], []), [(.inr (some (.inl (ck_one 0))), 245, ([], [], [(226, 0, 0, (1, 2, []))]))])
set_option maxRecDepth 100000 in
theorem p2_s1318_s {X : Int → Int} {LX : Nat} : ck_Ok p2_O X LX 324 p2_s1318 := ck_okq (cuts := []) (f := 112) ⟨p2_nmu, ck_E1 (ck_S1 p2_s290_s ck_S0) (ck_E1 (ck_S1 p2_s241_s (ck_S1 p2_s242_s (ck_S1 p2_s244_s ck_S0))) (ck_E1 (ck_S1 p2_s260_s ck_S0) ck_E0))⟩ (by decide +kernel)
set_option maxRecDepth 100000 in
/-- GlacierMailModel.throwsFor -/
noncomputable def p2_s1319 : ck_Sum := ((2, 0, 0), 245, [.inr (.inr (.inl 226)), .inl (0, 5, []), .inl (0, 299, []), .inl ((-2147483648), (-1), []), .inl ((-2147483648), 2147483647, [])], ([], [], []), ([(226, 0, 0)], []), [(.inr (some (.inl (ck_one 0))), 245, ([], [], [(226, 0, 0, (1, 2, []))]))])
set_option maxRecDepth 100000 in
theorem p2_s1319_s {X : Int → Int} {LX : Nat} : ck_Ok p2_O X LX 324 p2_s1319 := ck_okq (cuts := []) (f := 118) ⟨p2_nmu, ck_E1 (ck_S1 p2_s290_s ck_S0) (ck_E1 (ck_S1 p2_s241_s (ck_S1 p2_s242_s (ck_S1 p2_s244_s ck_S0))) (ck_E1 (ck_S1 p2_s263_s (ck_S1 p2_s257_s ck_S0)) ck_E0))⟩ (by decide +kernel)
set_option maxRecDepth 100000 in
/-- GlacierMailModel.throwsFor -/
noncomputable def p2_s1320 : ck_Sum := ((2, 0, 0), 245, [.inr (.inr (.inl 226)), .inl (0, 5, []), .inl (0, 299, []), .inl (300, 2147483647, []), .inl ((-2147483648), 2147483647, [])], ([], [], []), ([(226, 0, 0)], []), [(.inr (some (.inl (ck_one 0))), 245, ([], [], [(226, 0, 0, (1, 2, []))]))])
set_option maxRecDepth 100000 in
theorem p2_s1320_s {X : Int → Int} {LX : Nat} : ck_Ok p2_O X LX 324 p2_s1320 := ck_okq (cuts := []) (f := 118) ⟨p2_nmu, ck_E1 (ck_S1 p2_s290_s ck_S0) (ck_E1 (ck_S1 p2_s241_s (ck_S1 p2_s242_s (ck_S1 p2_s244_s ck_S0))) (ck_E1 (ck_S1 p2_s263_s (ck_S1 p2_s260_s ck_S0)) ck_E0))⟩ (by decide +kernel)
set_option maxRecDepth 100000 in
/-- GlacierMailModel.in -/
noncomputable def p2_s1321 : ck_Sum := ((0, 0, 0), 245, [.inl ((-2147483648), (-1), []), .inl (ck_one 0), .inl (ck_one 2)], ([], [], []), ([], []), [(.inr (some (.inl (ck_one 0))), 245, ([], [], []))])
set_option maxRecDepth 100000 in
theorem p2_s1321_s {X : Int → Int} {LX : Nat} : ck_Ok p2_O X LX 286 p2_s1321 := ck_okq (cuts := []) (f := 80) ⟨p2_nmu, ck_E0⟩ (by decide +kernel)
set_option maxRecDepth 100000 in
/-- GlacierMailModel.throwsFor -/
noncomputable def p2_s1322 : ck_Sum := ((2, 0, 0), 245, [.inr (.inr (.inl 226)), .inl (0, 5, []), .inl (0, 299, []), .inl (0, 299, []), .inl ((-2147483648), (-1), [])], ([], [], [(227, 9, 9, (0, 299, [(11, 0)]))]), ([(226, 0, 0)], []), [(.inr (some (.inl (ck_one 0))), 245, ([], [], [(226, 0, 0, (1, 3, []))]))])
set_option maxRecDepth 100000 in
theorem p2_s1322_s {X : Int → Int} {LX : Nat} : ck_Ok p2_O X LX 324 p2_s1322 := ck_okq (cuts := []) (f := 146) ⟨p2_nmu, ck_E1 (ck_S1 p2_s290_s ck_S0) (ck_E1 (ck_S1 p2_s241_s (ck_S1 p2_s242_s (ck_S1 p2_s243_s (ck_S1 p2_s552_s (ck_S1 p2_s244_s ck_S0))))) (ck_E1 (ck_S1 p2_s263_s ck_S0) (ck_E1 (ck_S1 p2_s190_s ck_S0) (ck_E1 (ck_S1 p2_s1321_s ck_S0) ck_E0))))⟩ (by decide +kernel)
set_option maxRecDepth 100000 in
/-- GlacierMailModel.in -/
noncomputable def p2_s1323 : ck_Sum := ((0, 0, 0), 245, [.inl (10, 2147483647, []), .inl (ck_one 0), .inl (ck_one 2)], ([], [], []), ([], []), [(.inr (some (.inl (ck_one 0))), 245, ([], [], []))])
set_option maxRecDepth 100000 in
theorem p2_s1323_s {X : Int → Int} {LX : Nat} : ck_Ok p2_O X LX 286 p2_s1323 := ck_okq (cuts := []) (f := 86) ⟨p2_nmu, ck_E0⟩ (by decide +kernel)
set_option maxRecDepth 100000 in
/-- GlacierMailModel.throwsFor -/
noncomputable def p2_s1324 : ck_Sum := ((2, 0, 0), 245, [.inr (.inr (.inl 226)), .inl (0, 5, []), .inl (0, 299, []), .inl (0, 299, []), .inl (10, 2147483647, [])], ([], [], [(227, 9, 9, (0, 299, [(11, 0)]))]), ([(226, 0, 0)], []), [(.inr (some (.inl (ck_one 0))), 245, ([], [], [(226, 0, 0, (1, 3, []))]))])
set_option maxRecDepth 100000 in
theorem p2_s1324_s {X : Int → Int} {LX : Nat} : ck_Ok p2_O X LX 324 p2_s1324 := ck_okq (cuts := []) (f := 146) ⟨p2_nmu, ck_E1 (ck_S1 p2_s290_s ck_S0) (ck_E1 (ck_S1 p2_s241_s (ck_S1 p2_s242_s (ck_S1 p2_s243_s (ck_S1 p2_s552_s (ck_S1 p2_s244_s ck_S0))))) (ck_E1 (ck_S1 p2_s263_s ck_S0) (ck_E1 (ck_S1 p2_s190_s ck_S0) (ck_E1 (ck_S1 p2_s1323_s ck_S0) ck_E0))))⟩ (by decide +kernel)
set_option maxRecDepth 100000 in
/-- GlacierMailModel.in -/
noncomputable def p2_s1325 : ck_Sum := ((0, 0, 0), 245, [.inl (0, 9, []), .inl (ck_one 0), .inl (ck_one 2)], ([], [], []), ([], []), [(.inr (some (.inl (ck_one 0))), 245, ([], [], [])), (.inr (some (.inl (ck_one 1))), 245, ([], [], []))])
set_option maxRecDepth 100000 in
theorem p2_s1325_s {X : Int → Int} {LX : Nat} : ck_Ok p2_O X LX 286 p2_s1325 := ck_okq (cuts := []) (f := 88) ⟨p2_nmu, ck_E0⟩ (by decide +kernel)
set_option maxRecDepth 100000 in
/-- GlacierMail.latest -/
noncomputable def p2_s1328 : ck_Sum := ((8, 1, 6), 245, [.inr (.inr (.inl 1)), .inl ((-2147483648), (-1), []), .inl ((-2147483648), 2147483647, [])], ([], [], []), ([], []), [(.inl 3, 245, ([], [], []))])
set_option maxRecDepth 100000 in
theorem p2_s1328_s {X : Int → Int} {LX : Nat} : ck_Ok p2_O X LX 169 p2_s1328 := ck_okq (cuts := []) (f := 76) ⟨p2_nmu, ck_E1 (ck_S1 p2_s322_s ck_S0) ck_E0⟩ (by decide +kernel)
set_option maxRecDepth 100000 in
/-- GlacierMail.latest -/
noncomputable def p2_s1329 : ck_Sum := ((8, 1, 6), 245, [.inr (.inr (.inl 1)), .inl (8, 2147483647, []), .inl ((-2147483648), 2147483647, [])], ([], [], []), ([], []), [(.inl 3, 245, ([], [], []))])
set_option maxRecDepth 100000 in
theorem p2_s1329_s {X : Int → Int} {LX : Nat} : ck_Ok p2_O X LX 169 p2_s1329 := ck_okq (cuts := []) (f := 76) ⟨p2_nmu, ck_E1 (ck_S1 p2_s325_s ck_S0) ck_E0⟩ (by decide +kernel)
set_option maxRecDepth 100000 in
/-- GlacierMail.latest -/
noncomputable def p2_s1330 : ck_Sum := ((8, 2, 12), 245, [.inr (.inr (.inl 1)), .inl (0, 7, []), .inl ((-2147483648), (-1), [])], ([], [], []), ([], []), [(.inl 3, 245, ([], [], [])), (.inl 0, 245, ([], [], []))])
set_option maxRecDepth 100000 in
theorem p2_s1330_s {X : Int → Int} {LX : Nat} : ck_Ok p2_O X LX 169 p2_s1330 := ck_okq (cuts := []) (f := 82) ⟨p2_nmu, ck_E1 (ck_S1 p2_s328_s ck_S0) (ck_E1 (ck_S1 p2_s249_s ck_S0) ck_E0)⟩ (by decide +kernel)
set_option maxRecDepth 100000 in
/-- GlacierMail.latest -/
noncomputable def p2_s1331 : ck_Sum := ((8, 2, 12), 245, [.inr (.inr (.inl 1)), .inl (0, 7, []), .inl (300, 2147483647, [])], ([], [], []), ([], []), [(.inl 3, 245, ([], [], [])), (.inl 0, 245, ([], [], []))])
set_option maxRecDepth 100000 in
theorem p2_s1331_s {X : Int → Int} {LX : Nat} : ck_Ok p2_O X LX 169 p2_s1331 := ck_okq (cuts := []) (f := 82) ⟨p2_nmu, ck_E1 (ck_S1 p2_s328_s ck_S0) (ck_E1 (ck_S1 p2_s251_s ck_S0) ck_E0)⟩ (by decide +kernel)
set_option maxRecDepth 100000 in
/-- GlacierMail$Way.startHut -/
noncomputable def p2_s1332 : ck_Sum := ((1, 0, 0), 245, [.inr (.inr (.inl 206)), .inl (0, 7, []), .inl (0, 299, [])], ([], [], []), ([(206, 2, 8)], []), [(.inr none, 245, ([], [], zl183))])
set_option maxRecDepth 100000 in
theorem p2_s1332_s {X : Int → Int} {LX : Nat} : ck_Ok p2_O X LX 170 p2_s1332 := ck_okq (cuts := []) (f := 104) ⟨p2_nmu, ck_E1 (ck_S1 p2_s356_s ck_S0) (ck_E1 (ck_S1 p2_s1313_s ck_S0) ck_E0)⟩ (by decide +kernel)
set_option maxRecDepth 100000 in
/-- GlacierMail.latest -/
noncomputable def p2_s1333 : ck_Sum := ((8, 1, 6), 245, [.inr (.inr (.inl 1)), .inl (0, 7, []), .inl (0, 299, [])], ([], [(3, 8, 0)], [(3, 6, 6, (0, 299, [(10, 0)]))]), ([(206, 2, 8)], []), [(.inl 3, 245, ([], [], [])), (.inr (some (.inl (ck_one (-1)))), 245, ([], [], [])), (.inr (some (.inl (0, 299, []))), 245, ([], [], [(206, 4, 4, ck_one (-1))]))])
set_option maxRecDepth 100000 in
theorem p2_s1333_s {X : Int → Int} {LX : Nat} : ck_Ok p2_O X LX 169 p2_s1333 := ck_okq (cuts := [(12, [some (.inr (.inr (.inl 1))), some (.inl (0, 7, [])), some (.inl (0, 299, [])), some (.inl ((-1), 299, []))], ([], [(3, 8, 0)], [(3, 6, 6, (0, 299, [(10, 0)]))]), 100, .inl 3, false)]) (f := 166) ⟨p2_nmu, ck_E1 (ck_S1 p2_s328_s ck_S0) (ck_E1 (ck_S1 p2_s253_s ck_S0) (ck_E1 (ck_S1 p2_s1332_s ck_S0) (ck_E1 (ck_S1 p2_s346_s ck_S0) ck_E0)))⟩ (by decide +kernel)
set_option maxRecDepth 100000 in
/-- GlacierMailModel.latest -/
noncomputable def p2_s1334 : ck_Sum := ((2, 0, 0), 245, [.inr (.inr (.inl 226)), .inl ((-2147483648), (-1), []), .inl ((-2147483648), 2147483647, [])], ([], [], [(227, 3, 3, (0, 8, [(21, 0)]))]), ([(226, 0, 0)], []), [(.inr (some (.inl (ck_one 0))), 245, ([], [], [(226, 0, 0, ck_one 1)]))])
set_option maxRecDepth 100000 in
theorem p2_s1334_s {X : Int → Int} {LX : Nat} : ck_Ok p2_O X LX 326 p2_s1334 := ck_okq (cuts := []) (f := 94) ⟨p2_nmu, ck_E1 (ck_S1 p2_s359_s ck_S0) (ck_E1 (ck_S1 p2_s241_s ck_S0) ck_E0)⟩ (by decide +kernel)
set_option maxRecDepth 100000 in
/-- GlacierMailModel.latest -/
noncomputable def p2_s1335 : ck_Sum := ((2, 0, 0), 245, [.inr (.inr (.inl 226)), .inl (8, 2147483647, []), .inl ((-2147483648), 2147483647, [])], ([], [], [(227, 3, 3, (0, 8, [(21, 0)]))]), ([(226, 0, 0)], []), [(.inr (some (.inl (ck_one 0))), 245, ([], [], [(226, 0, 0, ck_one 1)]))])
set_option maxRecDepth 100000 in
theorem p2_s1335_s {X : Int → Int} {LX : Nat} : ck_Ok p2_O X LX 326 p2_s1335 := ck_okq (cuts := []) (f := 94) ⟨p2_nmu, ck_E1 (ck_S1 p2_s362_s ck_S0) (ck_E1 (ck_S1 p2_s241_s ck_S0) ck_E0)⟩ (by decide +kernel)
set_option maxRecDepth 100000 in
/-- GlacierMailModel.latest -/
noncomputable def p2_s1336 : ck_Sum := ((2, 0, 0), 245, [.inr (.inr (.inl 226)), .inl (0, 7, []), .inl ((-2147483648), (-1), [])], ([], [], [(227, 3, 3, (0, 8, [(21, 0)]))]), ([(226, 0, 0)], []), [(.inr (some (.inl (ck_one 0))), 245, ([], [], [(226, 0, 0, (1, 2, []))]))])
set_option maxRecDepth 100000 in
theorem p2_s1336_s {X : Int → Int} {LX : Nat} : ck_Ok p2_O X LX 326 p2_s1336 := ck_okq (cuts := []) (f := 106) ⟨p2_nmu, ck_E1 (ck_S1 p2_s365_s ck_S0) (ck_E1 (ck_S1 p2_s241_s (ck_S1 p2_s242_s (ck_S1 p2_s244_s ck_S0))) (ck_E1 (ck_S1 p2_s257_s ck_S0) ck_E0))⟩ (by decide +kernel)
set_option maxRecDepth 100000 in
/-- GlacierMailModel.latest -/
noncomputable def p2_s1337 : ck_Sum := ((2, 0, 0), 245, [.inr (.inr (.inl 226)), .inl (0, 7, []), .inl (300, 2147483647, [])], ([], [], [(227, 3, 3, (0, 8, [(21, 0)]))]), ([(226, 0, 0)], []), [(.inr (some (.inl (ck_one 0))), 245, ([], [], [(226, 0, 0, (1, 2, []))]))])
set_option maxRecDepth 100000 in
theorem p2_s1337_s {X : Int → Int} {LX : Nat} : ck_Ok p2_O X LX 326 p2_s1337 := ck_okq (cuts := []) (f := 106) ⟨p2_nmu, ck_E1 (ck_S1 p2_s365_s ck_S0) (ck_E1 (ck_S1 p2_s241_s (ck_S1 p2_s242_s (ck_S1 p2_s244_s ck_S0))) (ck_E1 (ck_S1 p2_s260_s ck_S0) ck_E0))⟩ (by decide +kernel)
set_option maxRecDepth 100000 in
/-- GlacierMail.hut -/
noncomputable def p2_s1339 : ck_Sum := ((8, 1, 6), 245, [.inr (.inr (.inl 1)), .inl ((-2147483648), (-1), []), .inl ((-2147483648), 2147483647, [])], ([], [], []), ([], []), [(.inl 3, 245, ([], [], []))])
set_option maxRecDepth 100000 in
theorem p2_s1339_s {X : Int → Int} {LX : Nat} : ck_Ok p2_O X LX 172 p2_s1339 := ck_okq (cuts := []) (f := 76) ⟨p2_nmu, ck_E1 (ck_S1 p2_s266_s ck_S0) ck_E0⟩ (by decide +kernel)
set_option maxRecDepth 100000 in
/-- GlacierMail.hut -/
noncomputable def p2_s1340 : ck_Sum := ((8, 1, 6), 245, [.inr (.inr (.inl 1)), .inl (6, 2147483647, []), .inl ((-2147483648), 2147483647, [])], ([], [], []), ([], []), [(.inl 3, 245, ([], [], []))])
set_option maxRecDepth 100000 in
theorem p2_s1340_s {X : Int → Int} {LX : Nat} : ck_Ok p2_O X LX 172 p2_s1340 := ck_okq (cuts := []) (f := 76) ⟨p2_nmu, ck_E1 (ck_S1 p2_s269_s ck_S0) ck_E0⟩ (by decide +kernel)
set_option maxRecDepth 100000 in
/-- GlacierMail.hut -/
noncomputable def p2_s1341 : ck_Sum := ((8, 2, 12), 245, [.inr (.inr (.inl 1)), .inl (0, 5, []), .inl ((-2147483648), (-1), [])], ([], [], []), ([], []), [(.inl 3, 245, ([], [], [])), (.inl 0, 245, ([], [], []))])
set_option maxRecDepth 100000 in
theorem p2_s1341_s {X : Int → Int} {LX : Nat} : ck_Ok p2_O X LX 172 p2_s1341 := ck_okq (cuts := []) (f := 84) ⟨p2_nmu, ck_E1 (ck_S1 p2_s272_s ck_S0) ck_E0⟩ (by decide +kernel)
set_option maxRecDepth 100000 in
/-- GlacierMail.hut -/
noncomputable def p2_s1342 : ck_Sum := ((8, 2, 12), 245, [.inr (.inr (.inl 1)), .inl (0, 5, []), .inl (300, 2147483647, [])], ([], [], []), ([], []), [(.inl 3, 245, ([], [], [])), (.inl 0, 245, ([], [], []))])
set_option maxRecDepth 100000 in
theorem p2_s1342_s {X : Int → Int} {LX : Nat} : ck_Ok p2_O X LX 172 p2_s1342 := ck_okq (cuts := []) (f := 90) ⟨p2_nmu, ck_E1 (ck_S1 p2_s272_s ck_S0) ck_E0⟩ (by decide +kernel)
set_option maxRecDepth 100000 in
/-- GlacierMail.hut -/
noncomputable def p2_s1343 : ck_Sum := ((8, 2, 12), 245, [.inr (.inr (.inl 1)), .inl (0, 5, []), .inl (0, 299, [])], ([], [(3, 8, 0)], [(3, 6, 6, (0, 299, [(10, 0)]))]), ([(206, 2, 8)], []), [(.inl 3, 245, ([], [], [])), (.inl 0, 245, ([], [], [])), (.inr (some (.inl (ck_one (-1)))), 245, ([], [], [])), (.inr (some (.inl (0, 98, []))), 245, ([], [], [(206, 4, 4, ck_one (-1))]))])
set_option maxRecDepth 100000 in
theorem p2_s1343_s {X : Int → Int} {LX : Nat} : ck_Ok p2_O X LX 172 p2_s1343 := ck_okq (cuts := [(47, [some (.inr (.inr (.inl 1))), some (.inl (0, 5, [])), some (.inl (1, 299, [])), some (.inl (1, 299, [])), some (.inl (0, 167, []))], ([], [(3, 8, 0)], [(3, 6, 6, (0, 299, [(10, 0)]))]), 100, .inl 4, true)]) (f := 182) ⟨p2_nmu, ck_E1 (ck_S1 p2_s272_s ck_S0) (ck_E1 (ck_S1 p2_s1313_s ck_S0) (ck_E1 (ck_S1 p2_s346_s ck_S0) ck_E0))⟩ (by decide +kernel)
set_option maxRecDepth 100000 in
/-- GlacierMailModel.hut -/
noncomputable def p2_s1344 : ck_Sum := ((2, 0, 0), 245, [.inr (.inr (.inl 226)), .inl ((-2147483648), (-1), []), .inl ((-2147483648), 2147483647, [])], ([], [], []), ([(226, 0, 0)], []), [(.inr (some (.inl (ck_one 0))), 245, ([], [], [(226, 0, 0, ck_one 1)]))])
set_option maxRecDepth 100000 in
theorem p2_s1344_s {X : Int → Int} {LX : Nat} : ck_Ok p2_O X LX 327 p2_s1344 := ck_okq (cuts := []) (f := 94) ⟨p2_nmu, ck_E1 (ck_S1 p2_s284_s ck_S0) (ck_E1 (ck_S1 p2_s241_s ck_S0) ck_E0)⟩ (by decide +kernel)
set_option maxRecDepth 100000 in
/-- GlacierMailModel.hut -/
noncomputable def p2_s1345 : ck_Sum := ((2, 0, 0), 245, [.inr (.inr (.inl 226)), .inl (6, 2147483647, []), .inl ((-2147483648), 2147483647, [])], ([], [], []), ([(226, 0, 0)], []), [(.inr (some (.inl (ck_one 0))), 245, ([], [], [(226, 0, 0, ck_one 1)]))])
set_option maxRecDepth 100000 in
theorem p2_s1345_s {X : Int → Int} {LX : Nat} : ck_Ok p2_O X LX 327 p2_s1345 := ck_okq (cuts := []) (f := 94) ⟨p2_nmu, ck_E1 (ck_S1 p2_s287_s ck_S0) (ck_E1 (ck_S1 p2_s241_s ck_S0) ck_E0)⟩ (by decide +kernel)
set_option maxRecDepth 100000 in
/-- GlacierMailModel.in -/
noncomputable def p2_s1346 : ck_Sum := ((0, 0, 0), 245, [.inl ((-2147483648), (-1), []), .inl (ck_one 1), .inl (ck_one 299)], ([], [], []), ([], []), [(.inr (some (.inl (ck_one 0))), 245, ([], [], []))])
set_option maxRecDepth 100000 in
theorem p2_s1346_s {X : Int → Int} {LX : Nat} : ck_Ok p2_O X LX 286 p2_s1346 := ck_okq (cuts := []) (f := 80) ⟨p2_nmu, ck_E0⟩ (by decide +kernel)
set_option maxRecDepth 100000 in
/-- GlacierMailModel.hut -/
noncomputable def p2_s1347 : ck_Sum := ((2, 0, 0), 245, [.inr (.inr (.inl 226)), .inl (0, 5, []), .inl ((-2147483648), (-1), [])], ([], [], []), ([(226, 0, 0)], []), [(.inr (some (.inl (ck_one 0))), 245, ([], [], [(226, 0, 0, (1, 2, []))]))])
set_option maxRecDepth 100000 in
theorem p2_s1347_s {X : Int → Int} {LX : Nat} : ck_Ok p2_O X LX 327 p2_s1347 := ck_okq (cuts := []) (f := 116) ⟨p2_nmu, ck_E1 (ck_S1 p2_s290_s ck_S0) (ck_E1 (ck_S1 p2_s241_s (ck_S1 p2_s242_s (ck_S1 p2_s244_s ck_S0))) (ck_E1 (ck_S1 p2_s1346_s ck_S0) ck_E0))⟩ (by decide +kernel)
set_option maxRecDepth 100000 in
/-- GlacierMailModel.in -/
noncomputable def p2_s1348 : ck_Sum := ((0, 0, 0), 245, [.inl (300, 2147483647, []), .inl (ck_one 1), .inl (ck_one 299)], ([], [], []), ([], []), [(.inr (some (.inl (ck_one 0))), 245, ([], [], []))])
set_option maxRecDepth 100000 in
theorem p2_s1348_s {X : Int → Int} {LX : Nat} : ck_Ok p2_O X LX 286 p2_s1348 := ck_okq (cuts := []) (f := 86) ⟨p2_nmu, ck_E0⟩ (by decide +kernel)
set_option maxRecDepth 100000 in
/-- GlacierMailModel.hut -/
noncomputable def p2_s1349 : ck_Sum := ((2, 0, 0), 245, [.inr (.inr (.inl 226)), .inl (0, 5, []), .inl (300, 2147483647, [])], ([], [], []), ([(226, 0, 0)], []), [(.inr (some (.inl (ck_one 0))), 245, ([], [], [(226, 0, 0, (1, 2, []))]))])
set_option maxRecDepth 100000 in
theorem p2_s1349_s {X : Int → Int} {LX : Nat} : ck_Ok p2_O X LX 327 p2_s1349 := ck_okq (cuts := []) (f := 116) ⟨p2_nmu, ck_E1 (ck_S1 p2_s290_s ck_S0) (ck_E1 (ck_S1 p2_s241_s (ck_S1 p2_s242_s (ck_S1 p2_s244_s ck_S0))) (ck_E1 (ck_S1 p2_s1348_s ck_S0) ck_E0))⟩ (by decide +kernel)
set_option maxRecDepth 100000 in
/-- GlacierMailModel.in -/
noncomputable def p2_s1350 : ck_Sum := ((0, 0, 0), 245, [.inl (0, 299, []), .inl (ck_one 1), .inl (ck_one 299)], ([], [], []), ([], []), [(.inr (some (.inl (ck_one 0))), 245, ([], [], [])), (.inr (some (.inl (ck_one 1))), 245, ([], [], []))])
set_option maxRecDepth 100000 in
theorem p2_s1350_s {X : Int → Int} {LX : Nat} : ck_Ok p2_O X LX 286 p2_s1350 := ck_okq (cuts := []) (f := 88) ⟨p2_nmu, ck_E0⟩ (by decide +kernel)
set_option maxRecDepth 100000 in
/-- GlacierMail.without -/
noncomputable def p2_s1352 : ck_Sum := ((8, 1, 6), 245, [.inr (.inr (.inl 1)), .inl ((-2147483648), (-1), []), .inl ((-2147483648), 2147483647, [])], ([], [], []), ([], []), [(.inl 3, 245, ([], [], []))])
set_option maxRecDepth 100000 in
theorem p2_s1352_s {X : Int → Int} {LX : Nat} : ck_Ok p2_O X LX 174 p2_s1352 := ck_okq (cuts := []) (f := 76) ⟨p2_nmu, ck_E1 (ck_S1 p2_s387_s ck_S0) ck_E0⟩ (by decide +kernel)
set_option maxRecDepth 100000 in
/-- GlacierMail.without -/
noncomputable def p2_s1353 : ck_Sum := ((8, 1, 6), 245, [.inr (.inr (.inl 1)), .inl (24, 2147483647, []), .inl ((-2147483648), 2147483647, [])], ([], [], []), ([], []), [(.inl 3, 245, ([], [], []))])
set_option maxRecDepth 100000 in
theorem p2_s1353_s {X : Int → Int} {LX : Nat} : ck_Ok p2_O X LX 174 p2_s1353 := ck_okq (cuts := []) (f := 76) ⟨p2_nmu, ck_E1 (ck_S1 p2_s390_s ck_S0) ck_E0⟩ (by decide +kernel)
set_option maxRecDepth 100000 in
/-- GlacierMail.without -/
noncomputable def p2_s1354 : ck_Sum := ((8, 2, 12), 245, [.inr (.inr (.inl 1)), .inl (0, 23, []), .inl ((-2147483648), (-1), [])], ([], [], []), ([], []), [(.inl 3, 245, ([], [], []))])
set_option maxRecDepth 100000 in
theorem p2_s1354_s {X : Int → Int} {LX : Nat} : ck_Ok p2_O X LX 174 p2_s1354 := ck_okq (cuts := []) (f := 90) ⟨p2_nmu, ck_E1 (ck_S1 p2_s393_s ck_S0) (ck_E1 (ck_S1 p2_s139_s ck_S0) (ck_E1 (ck_S1 p2_s321_s ck_S0) ck_E0))⟩ (by decide +kernel)
set_option maxRecDepth 100000 in
/-- GlacierMail.without -/
noncomputable def p2_s1355 : ck_Sum := ((8, 2, 12), 245, [.inr (.inr (.inl 1)), .inl (0, 23, []), .inl (8, 2147483647, [])], ([], [], []), ([], []), [(.inl 3, 245, ([], [], []))])
set_option maxRecDepth 100000 in
theorem p2_s1355_s {X : Int → Int} {LX : Nat} : ck_Ok p2_O X LX 174 p2_s1355 := ck_okq (cuts := []) (f := 90) ⟨p2_nmu, ck_E1 (ck_S1 p2_s393_s ck_S0) (ck_E1 (ck_S1 p2_s139_s ck_S0) (ck_E1 (ck_S1 p2_s324_s ck_S0) ck_E0))⟩ (by decide +kernel)
set_option maxRecDepth 100000 in
/-- GlacierMail$Way.leaveOut -/
noncomputable def p2_s1356 : ck_Sum := ((0, 0, 0), 245, [.inr (.inr (.inl 206)), .inl (0, 7, [])], ([], [], []), ([(206, 4, 4)], []), [(.inr none, 245, ([], [], [(206, 4, 4, (0, 7, []))]))])
set_option maxRecDepth 100000 in
theorem p2_s1356_s {X : Int → Int} {LX : Nat} : ck_Ok p2_O X LX 175 p2_s1356 := ck_okq (cuts := []) (f := 78) ⟨p2_nmu, ck_E0⟩ (by decide +kernel)
set_option maxRecDepth 100000 in
/-- GlacierMail.without -/
noncomputable def p2_s1357 : ck_Sum := ((8, 2, 12), 245, [.inr (.inr (.inl 1)), .inl (0, 23, []), .inl (0, 7, [])], ([], [(3, 8, 0)], []), ([(206, 2, 8)], []), [(.inl 3, 245, ([], [], [])), (.inr (some (.inl ((-2147483648), 299, []))), 245, ([], [], zl185))])
set_option maxRecDepth 100000 in
theorem p2_s1357_s {X : Int → Int} {LX : Nat} : ck_Ok p2_O X LX 174 p2_s1357 := ck_okq (cuts := []) (f := 116) ⟨p2_nmu, ck_E1 (ck_S1 p2_s393_s ck_S0) (ck_E1 (ck_S1 p2_s139_s ck_S0) (ck_E1 (ck_S1 p2_s327_s ck_S0) (ck_E1 (ck_S1 p2_s339_s ck_S0) (ck_E1 (ck_S1 p2_s1356_s ck_S0) (ck_E1 (ck_S1 p2_s346_s ck_S0) ck_E0)))))⟩ (by decide +kernel)
set_option maxRecDepth 100000 in
/-- GlacierMailModel.without -/
noncomputable def p2_s1358 : ck_Sum := ((2, 0, 0), 245, [.inr (.inr (.inl 226)), .inl ((-2147483648), (-1), []), .inl ((-2147483648), 2147483647, [])], ([], [], [(227, 4, 4, (0, 24, [(22, 0)]))]), ([(226, 0, 0)], []), [(.inr (some (.inl (ck_one 0))), 245, ([], [], [(226, 0, 0, ck_one 1)]))])
set_option maxRecDepth 100000 in
theorem p2_s1358_s {X : Int → Int} {LX : Nat} : ck_Ok p2_O X LX 328 p2_s1358 := ck_okq (cuts := []) (f := 100) ⟨p2_nmu, ck_E1 (ck_S1 p2_s400_s ck_S0) (ck_E1 (ck_S1 p2_s241_s ck_S0) ck_E0)⟩ (by decide +kernel)
set_option maxRecDepth 100000 in
/-- GlacierMailModel.without -/
noncomputable def p2_s1359 : ck_Sum := ((2, 0, 0), 245, [.inr (.inr (.inl 226)), .inl (24, 2147483647, []), .inl ((-2147483648), 2147483647, [])], ([], [], [(227, 4, 4, (0, 24, [(22, 0)]))]), ([(226, 0, 0)], []), [(.inr (some (.inl (ck_one 0))), 245, ([], [], [(226, 0, 0, ck_one 1)]))])
set_option maxRecDepth 100000 in
theorem p2_s1359_s {X : Int → Int} {LX : Nat} : ck_Ok p2_O X LX 328 p2_s1359 := ck_okq (cuts := []) (f := 100) ⟨p2_nmu, ck_E1 (ck_S1 p2_s403_s ck_S0) (ck_E1 (ck_S1 p2_s241_s ck_S0) ck_E0)⟩ (by decide +kernel)
set_option maxRecDepth 100000 in
/-- GlacierMailModel.without -/
noncomputable def p2_s1360 : ck_Sum := ((2, 0, 0), 245, [.inr (.inr (.inl 226)), .inl (0, 23, []), .inl ((-2147483648), (-1), [])], ([], [], zl186), ([(226, 0, 0)], []), [(.inr (some (.inl (ck_one 0))), 245, ([], [], [(226, 0, 0, ck_one 1)]))])
set_option maxRecDepth 100000 in
theorem p2_s1360_s {X : Int → Int} {LX : Nat} : ck_Ok p2_O X LX 328 p2_s1360 := ck_okq (cuts := []) (f := 120) ⟨p2_nmu, ck_E1 (ck_S1 p2_s406_s ck_S0) (ck_E1 (ck_S1 p2_s241_s ck_S0) (ck_E1 (ck_S1 p2_s358_s ck_S0) ck_E0))⟩ (by decide +kernel)
set_option maxRecDepth 100000 in
/-- GlacierMailModel.without -/
noncomputable def p2_s1361 : ck_Sum := ((2, 0, 0), 245, [.inr (.inr (.inl 226)), .inl (0, 23, []), .inl (8, 2147483647, [])], ([], [], zl186), ([(226, 0, 0)], []), [(.inr (some (.inl (ck_one 0))), 245, ([], [], [(226, 0, 0, ck_one 1)]))])
set_option maxRecDepth 100000 in
theorem p2_s1361_s {X : Int → Int} {LX : Nat} : ck_Ok p2_O X LX 328 p2_s1361 := ck_okq (cuts := []) (f := 120) ⟨p2_nmu, ck_E1 (ck_S1 p2_s406_s ck_S0) (ck_E1 (ck_S1 p2_s241_s ck_S0) (ck_E1 (ck_S1 p2_s361_s ck_S0) ck_E0))⟩ (by decide +kernel)
set_option maxRecDepth 100000 in
/-- GlacierMail.moved -/
noncomputable def p2_s1363 : ck_Sum := ((8, 1, 6), 245, [.inr (.inr (.inl 1)), .inl ((-2147483648), (-1), [])], ([], [], []), ([], []), [(.inl 3, 245, ([], [], []))])
set_option maxRecDepth 100000 in
theorem p2_s1363_s {X : Int → Int} {LX : Nat} : ck_Ok p2_O X LX 177 p2_s1363 := ck_okq (cuts := []) (f := 76) ⟨p2_nmu, ck_E1 (ck_S1 p2_s387_s ck_S0) ck_E0⟩ (by decide +kernel)
set_option maxRecDepth 100000 in
/-- GlacierMail.moved -/
noncomputable def p2_s1364 : ck_Sum := ((8, 1, 6), 245, [.inr (.inr (.inl 1)), .inl (24, 2147483647, [])], ([], [], []), ([], []), [(.inl 3, 245, ([], [], []))])
set_option maxRecDepth 100000 in
theorem p2_s1364_s {X : Int → Int} {LX : Nat} : ck_Ok p2_O X LX 177 p2_s1364 := ck_okq (cuts := []) (f := 76) ⟨p2_nmu, ck_E1 (ck_S1 p2_s390_s ck_S0) ck_E0⟩ (by decide +kernel)
set_option maxRecDepth 100000 in
/-- GlacierMail.moved -/
noncomputable def p2_s1365 : ck_Sum := ((8, 1, 6), 245, [.inr (.inr (.inl 1)), .inl (0, 23, [])], ([], [(3, 8, 0)], []), ([(206, 2, 8)], []), [(.inl 3, 245, ([], [], [])), (.inr (some (.inl ((-2147483648), (-1), []))), 245, ([], [], zl187)), (.inr (some (.inl (0, 2147483647, []))), 245, ([], [], zl188))])
set_option maxRecDepth 100000 in
theorem p2_s1365_s {X : Int → Int} {LX : Nat} : ck_Ok p2_O X LX 177 p2_s1365 := ck_okq (cuts := []) (f := 102) ⟨p2_nmu, ck_E1 (ck_S1 p2_s393_s ck_S0) (ck_E1 (ck_S1 p2_s339_s ck_S0) (ck_E1 (ck_S1 p2_s346_s ck_S0) ck_E0))⟩ (by decide +kernel)
set_option maxRecDepth 100000 in
/-- GlacierMailModel.moved -/
noncomputable def p2_s1366 : ck_Sum := ((2, 0, 0), 245, [.inr (.inr (.inl 226)), .inl ((-2147483648), (-1), [])], ([], [], [(227, 4, 4, (0, 24, [(22, 0)]))]), ([(226, 0, 0)], []), [(.inr (some (.inl (ck_one 0))), 245, ([], [], [(226, 0, 0, ck_one 1)]))])
set_option maxRecDepth 100000 in
theorem p2_s1366_s {X : Int → Int} {LX : Nat} : ck_Ok p2_O X LX 329 p2_s1366 := ck_okq (cuts := []) (f := 94) ⟨p2_nmu, ck_E1 (ck_S1 p2_s400_s ck_S0) (ck_E1 (ck_S1 p2_s241_s ck_S0) ck_E0)⟩ (by decide +kernel)
set_option maxRecDepth 100000 in
/-- GlacierMailModel.moved -/
noncomputable def p2_s1367 : ck_Sum := ((2, 0, 0), 245, [.inr (.inr (.inl 226)), .inl (24, 2147483647, [])], ([], [], [(227, 4, 4, (0, 24, [(22, 0)]))]), ([(226, 0, 0)], []), [(.inr (some (.inl (ck_one 0))), 245, ([], [], [(226, 0, 0, ck_one 1)]))])
set_option maxRecDepth 100000 in
theorem p2_s1367_s {X : Int → Int} {LX : Nat} : ck_Ok p2_O X LX 329 p2_s1367 := ck_okq (cuts := []) (f := 94) ⟨p2_nmu, ck_E1 (ck_S1 p2_s403_s ck_S0) (ck_E1 (ck_S1 p2_s241_s ck_S0) ck_E0)⟩ (by decide +kernel)
set_option maxRecDepth 100000 in
/-- GlacierMail.outIn -/
noncomputable def p2_s1371 : ck_Sum := ((2, 0, 0), 245, [.inr (.inr (.inl 1)), .inl ((-2147483648), 299, []), .inl (ck_one 0)], ([], [], []), ([], []), [(.inr (some (.inl ((-2147483648), 2147483647, []))), 245, ([], [], []))])
set_option maxRecDepth 100000 in
theorem p2_s1371_s {X : Int → Int} {LX : Nat} : ck_Ok p2_O X LX 47 p2_s1371 := ck_okq (cuts := [(5, [some (.inr (.inr (.inl 1))), some (.inl ((-2147483648), 299, [])), some (.inl (ck_one 0)), some (.inl ((-2147483648), 2147483647, [])), some (.inl (0, 24, []))], ([], [], []), 100, .inl 4, true)]) (f := 182) ⟨p2_nmu, ck_E1 (ck_S1 p2_s332_s ck_S0) (ck_E1 (ck_S1 p2_s350_s ck_S0) (ck_E1 (ck_S1 p2_s336_s ck_S0) ck_E0))⟩ (by decide +kernel)
set_option maxRecDepth 100000 in
/-- GlacierMailModel.outsIn -/
noncomputable def p2_s1374 : ck_Sum := ((2, 0, 0), 245, [.inr (.inr (.inl 226)), .inl (0, 299, []), .inl ((-1), 7, []), .inl (0, 1, [])], ([], [], [(227, 4, 4, (0, 24, [(22, 0)]))]), ([], []), [(.inr (some (.inl ((-2147483648), 2147483647, []))), 245, ([], [], []))])
set_option maxRecDepth 100000 in
theorem p2_s1374_s {X : Int → Int} {LX : Nat} : ck_Ok p2_O X LX 333 p2_s1374 := ck_okq (cuts := [(6, [some (.inr (.inr (.inl 226))), some (.inl (0, 299, [])), some (.inl ((-1), 7, [])), some (.inl (0, 1, [])), some (.inl ((-2147483648), 2147483647, [])), some (.inl (0, 24, []))], ([], [], [(227, 4, 4, (0, 24, [(22, 0)]))]), 100, .inl 5, true)]) (f := 218) ⟨p2_nmu, ck_E1 (ck_S1 p2_s176_s ck_S0) (ck_E1 (ck_S1 p2_s374_s ck_S0) (ck_E1 (ck_S1 p2_s375_s ck_S0) ck_E0))⟩ (by decide +kernel)
set_option maxRecDepth 100000 in
/-- GlacierMail.passes -/
noncomputable def p2_s1376 : ck_Sum := ((8, 1, 6), 245, [.inr (.inr (.inl 1)), .inl ((-2147483648), (-1), [])], ([], [], []), ([], []), [(.inl 3, 245, ([], [], []))])
set_option maxRecDepth 100000 in
theorem p2_s1376_s {X : Int → Int} {LX : Nat} : ck_Ok p2_O X LX 179 p2_s1376 := ck_okq (cuts := []) (f := 76) ⟨p2_nmu, ck_E1 (ck_S1 p2_s387_s ck_S0) ck_E0⟩ (by decide +kernel)
set_option maxRecDepth 100000 in
/-- GlacierMail.passes -/
noncomputable def p2_s1377 : ck_Sum := ((8, 1, 6), 245, [.inr (.inr (.inl 1)), .inl (24, 2147483647, [])], ([], [], []), ([], []), [(.inl 3, 245, ([], [], []))])
set_option maxRecDepth 100000 in
theorem p2_s1377_s {X : Int → Int} {LX : Nat} : ck_Ok p2_O X LX 179 p2_s1377 := ck_okq (cuts := []) (f := 76) ⟨p2_nmu, ck_E1 (ck_S1 p2_s390_s ck_S0) ck_E0⟩ (by decide +kernel)
set_option maxRecDepth 100000 in
/-- GlacierMail.sameLane -/
noncomputable def p2_s1378 : ck_Sum := ((1, 0, 0), 245, [.inr (.inr (.inl 1)), .inl (0, 23, []), .inl (0, 23, [])], ([], [], []), ([], []), [(.inr (some (.inl (ck_one 0))), 245, ([], [], [])), (.inr (some (.inl (ck_one 1))), 245, ([], [], []))])
set_option maxRecDepth 100000 in
theorem p2_s1378_s {X : Int → Int} {LX : Nat} : ck_Ok p2_O X LX 180 p2_s1378 := ck_okq (cuts := []) (f := 102) ⟨p2_nmu, ck_E1 (ck_S1 p2_s335_s ck_S0) ck_E0⟩ (by decide +kernel)
set_option maxRecDepth 100000 in
/-- GlacierMail$Way.start -/
noncomputable def p2_s1379 : ck_Sum := ((0, 0, 0), 245, [.inr (.inr (.inl 207)), .inl ((-1), 299, []), .inl ((-1), 299, []), .inl ((-1), 299, []), .inl (ck_one 0)], ([], [], []), ([(207, 2, 8)], []), [(.inr none, 245, ([], [], zl190))])
set_option maxRecDepth 100000 in
theorem p2_s1379_s {X : Int → Int} {LX : Nat} : ck_Ok p2_O X LX 29 p2_s1379 := ck_okq (cuts := []) (f := 114) ⟨p2_nmu, ck_E0⟩ (by decide +kernel)
set_option maxRecDepth 100000 in
/-- GlacierMail$Way.start -/
noncomputable def p2_s1380 : ck_Sum := ((0, 0, 0), 245, [.inr (.inr (.inl 207)), .inl ((-1), 299, []), .inl ((-1), 299, []), .inl ((-1), 299, []), .inl (ck_one 1)], ([], [], []), ([(207, 2, 8)], []), [(.inr none, 245, ([], [], zl191))])
set_option maxRecDepth 100000 in
theorem p2_s1380_s {X : Int → Int} {LX : Nat} : ck_Ok p2_O X LX 29 p2_s1380 := ck_okq (cuts := []) (f := 114) ⟨p2_nmu, ck_E0⟩ (by decide +kernel)
set_option maxRecDepth 100000 in
/-- GlacierMail$Way.startLetter -/
noncomputable def p2_s1381 : ck_Sum := ((2, 0, 0), 245, [.inr (.inr (.inl 207)), .inl (0, 23, [])], ([], [], []), ([(207, 2, 8)], []), [(.inr none, 245, ([], [], zl192))])
set_option maxRecDepth 100000 in
theorem p2_s1381_s {X : Int → Int} {LX : Nat} : ck_Ok p2_O X LX 27 p2_s1381 := ck_okq (cuts := []) (f := 116) ⟨p2_nmu, ck_E1 (ck_S1 p2_s335_s ck_S0) (ck_E1 (ck_S1 p2_s336_s ck_S0) (ck_E1 (ck_S1 p2_s1379_s (ck_S1 p2_s1380_s ck_S0)) ck_E0))⟩ (by decide +kernel)
set_option maxRecDepth 100000 in
/-- GlacierMail$Way.isOut -/
noncomputable def p2_s1382 : ck_Sum := ((0, 0, 0), 245, [.inr (.inr (.inl 207))], ([], [], []), ([], []), [(.inr (some (.inl (ck_one 0))), 245, ([], [], [(207, 5, 5, ((-2147483648), 98, []))])), (.inr (some (.inl (ck_one 1))), 245, ([], [], [(207, 5, 5, (10, 2147483647, []))]))])
set_option maxRecDepth 100000 in
theorem p2_s1382_s {X : Int → Int} {LX : Nat} : ck_Ok p2_O X LX 31 p2_s1382 := ck_okq (cuts := []) (f := 88) ⟨p2_nmu, ck_E0⟩ (by decide +kernel)
set_option maxRecDepth 100000 in
/-- GlacierMail$Way.deepAfter -/
noncomputable def p2_s1383 : ck_Sum := ((1, 0, 0), 245, [.inr (.inr (.inl 207))], ([], [], []), ([], []), [(.inr (some (.inl (0, 99, []))), 245, ([], [], []))])
set_option maxRecDepth 100000 in
theorem p2_s1383_s {X : Int → Int} {LX : Nat} : ck_Ok p2_O X LX 33 p2_s1383 := ck_okq (cuts := []) (f := 110) ⟨p2_nmu, ck_E1 (ck_S1 p2_s341_s ck_S0) ck_E0⟩ (by decide +kernel)
set_option maxRecDepth 100000 in
/-- GlacierMail$Way.takeFloods -/
noncomputable def p2_s1384 : ck_Sum := ((1, 0, 0), 245, [.inr (.inr (.inl 207))], ([], [], []), ([(207, 5, 5), (207, 8, 8)], []), [(.inr none, 245, ([], [], []))])
set_option maxRecDepth 100000 in
theorem p2_s1384_s {X : Int → Int} {LX : Nat} : ck_Ok p2_O X LX 43 p2_s1384 := ck_okq (cuts := [(22, [some (.inr (.inr (.inl 207))), some (.inr (.inr (.inl 6))), some (.inl ((-2147483648), 2147483647, [])), some (.inl (0, 9, [])), none], ([], [], []), 100, .inl 3, true)]) (f := 290) ⟨p2_nmu, ck_E1 (ck_S1 p2_s343_s ck_S0) (ck_E1 (ck_S1 p2_s139_s ck_S0) (ck_E1 (ck_S1 p2_s140_s ck_S0) ck_E0))⟩ (by decide +kernel)
set_option maxRecDepth 100000 in
/-- GlacierMail$Way.step -/
noncomputable def p2_s1385 : ck_Sum := ((2, 0, 0), 245, [.inr (.inr (.inl 207))], ([], [(3, 8, 0)], []), ([(207, 5, 8)], []), [(.inr none, 245, ([], [], []))])
set_option maxRecDepth 100000 in
theorem p2_s1385_s {X : Int → Int} {LX : Nat} : ck_Ok p2_O X LX 32 p2_s1385 := ck_okq (cuts := []) (f := 134) ⟨p2_nmu, ck_E1 (ck_S1 p2_s1382_s ck_S0) (ck_E1 (ck_S1 p2_s1383_s ck_S0) (ck_E1 (ck_S1 p2_s308_s ck_S0) (ck_E1 (ck_S1 p2_s1384_s ck_S0) ck_E0)))⟩ (by decide +kernel)
set_option maxRecDepth 100000 in
/-- GlacierMail$Way.goOnTo -/
noncomputable def p2_s1386 : ck_Sum := ((3, 0, 0), 245, [.inr (.inr (.inl 207)), .inl (0, 299, [])], ([], [(3, 8, 0)], []), ([(207, 5, 8)], []), [(.inr none, 245, ([], [], []))])
set_option maxRecDepth 100000 in
theorem p2_s1386_s {X : Int → Int} {LX : Nat} : ck_Ok p2_O X LX 148 p2_s1386 := ck_okq (cuts := [(5, [some (.inr (.inr (.inl 207))), some (.inl (0, 299, [])), some (.inl ((-2147483648), 2147483647, []))], ([], [(3, 8, 0)], []), 100, .inl 2, true)]) (f := 122) ⟨p2_nmu, ck_E1 (ck_S1 p2_s1385_s ck_S0) ck_E0⟩ (by decide +kernel)
set_option maxRecDepth 100000 in
/-- GlacierMail.startBoth -/
noncomputable def p2_s1387 : ck_Sum := ((4, 0, 0), 245, [.inr (.inr (.inl 1)), .inl (0, 23, []), .inl (0, 23, []), .inl (ck_one 0)], ([], [(3, 8, 0)], []), ([(206, 2, 8), (207, 2, 8)], []), [(.inr (some (.inl (0, 299, []))), 245, ([], [], zl86))])
set_option maxRecDepth 100000 in
theorem p2_s1387_s {X : Int → Int} {LX : Nat} : ck_Ok p2_O X LX 182 p2_s1387 := ck_okq (cuts := []) (f := 126) ⟨p2_nmu, ck_E1 (ck_S1 p2_s339_s (ck_S1 p2_s1381_s ck_S0)) (ck_E1 (ck_S1 p2_s421_s (ck_S1 p2_s1386_s ck_S0)) ck_E0)⟩ (by decide +kernel)
set_option maxRecDepth 100000 in
/-- GlacierMail.bothInIce -/
noncomputable def p2_s1388 : ck_Sum := ((1, 0, 0), 245, [.inr (.inr (.inl 1))], ([], [], []), ([], []), [(.inr (some (.inl (ck_one 1))), 245, ([], [], zl193)), (.inr (some (.inl (ck_one 0))), 245, ([], [], []))])
set_option maxRecDepth 100000 in
theorem p2_s1388_s {X : Int → Int} {LX : Nat} : ck_Ok p2_O X LX 183 p2_s1388 := ck_okq (cuts := []) (f := 92) ⟨p2_nmu, ck_E1 (ck_S1 p2_s340_s (ck_S1 p2_s1382_s ck_S0)) ck_E0⟩ (by decide +kernel)
set_option maxRecDepth 100000 in
/-- GlacierMail.stepBoth -/
noncomputable def p2_s1389 : ck_Sum := ((3, 0, 0), 245, [.inr (.inr (.inl 1))], ([], [(3, 8, 0)], []), ([(206, 5, 8), (207, 5, 8)], []), [(.inr none, 245, ([], [], []))])
set_option maxRecDepth 100000 in
theorem p2_s1389_s {X : Int → Int} {LX : Nat} : ck_Ok p2_O X LX 184 p2_s1389 := ck_okq (cuts := []) (f := 84) ⟨p2_nmu, ck_E1 (ck_S1 p2_s345_s (ck_S1 p2_s1385_s ck_S0)) ck_E0⟩ (by decide +kernel)
set_option maxRecDepth 100000 in
/-- GlacierMail.passesBy -/
noncomputable def p2_s1390 : ck_Sum := ((5, 0, 0), 245, [.inr (.inr (.inl 1)), .inl (0, 23, []), .inl (0, 23, [])], ([], [(3, 8, 0)], []), ([(206, 2, 8), (207, 2, 8)], []), [(.inr (some (.inl (ck_one 0))), 245, ([], [], zl86)), (.inr (some (.inl (ck_one 1))), 245, ([], [], zl194))])
set_option maxRecDepth 100000 in
theorem p2_s1390_s {X : Int → Int} {LX : Nat} : ck_Ok p2_O X LX 181 p2_s1390 := ck_okq (cuts := [(39, [some (.inr (.inr (.inl 1))), some (.inl (0, 23, [])), some (.inl (0, 23, [])), some (.inl (0, 299, [])), some (.inl (1, 300, []))], ([], [(3, 8, 0)], [(207, 5, 5, ((-2147483648), 98, [])), (206, 5, 5, ((-2147483648), 98, [])), (206, 4, 4, ck_one (-1)), (206, 2, 2, ((-1), 299, []))]), 100, .inl 4, true)]) (f := 174) ⟨p2_nmu, ck_E1 (ck_S1 p2_s1387_s ck_S0) (ck_E1 (ck_S1 p2_s1388_s ck_S0) (ck_E1 (ck_S1 p2_s1389_s ck_S0) ck_E0))⟩ (by decide +kernel)
set_option maxRecDepth 100000 in
/-- GlacierMail.passes -/
noncomputable def p2_s1391 : ck_Sum := ((8, 1, 6), 245, [.inr (.inr (.inl 1)), .inl (0, 23, [])], ([], [(3, 8, 0)], []), ([(206, 2, 8), (207, 2, 8)], []), [(.inl 3, 245, ([], [], [])), (.inr (some (.inl ((-2147483648), 2147483647, []))), 245, ([], [], []))])
set_option maxRecDepth 100000 in
theorem p2_s1391_s {X : Int → Int} {LX : Nat} : ck_Ok p2_O X LX 179 p2_s1391 := ck_okq (cuts := [(9, [some (.inr (.inr (.inl 1))), some (.inl (0, 23, [])), some (.inl ((-2147483648), 2147483647, [])), some (.inl (0, 24, []))], ([], [(3, 8, 0)], []), 100, .inl 3, true)]) (f := 182) ⟨p2_nmu, ck_E1 (ck_S1 p2_s393_s ck_S0) (ck_E1 (ck_S1 p2_s331_s ck_S0) (ck_E1 (ck_S1 p2_s1378_s ck_S0) (ck_E1 (ck_S1 p2_s1390_s ck_S0) ck_E0)))⟩ (by decide +kernel)
set_option maxRecDepth 100000 in
/-- GlacierMailModel.passes -/
noncomputable def p2_s1392 : ck_Sum := ((2, 0, 0), 245, [.inr (.inr (.inl 226)), .inl ((-2147483648), (-1), [])], ([], [], [(227, 4, 4, (0, 24, [(22, 0)]))]), ([(226, 0, 0)], []), [(.inr (some (.inl (ck_one 0))), 245, ([], [], [(226, 0, 0, ck_one 1)]))])
set_option maxRecDepth 100000 in
theorem p2_s1392_s {X : Int → Int} {LX : Nat} : ck_Ok p2_O X LX 334 p2_s1392 := ck_okq (cuts := []) (f := 94) ⟨p2_nmu, ck_E1 (ck_S1 p2_s400_s ck_S0) (ck_E1 (ck_S1 p2_s241_s ck_S0) ck_E0)⟩ (by decide +kernel)
set_option maxRecDepth 100000 in
/-- GlacierMailModel.passes -/
noncomputable def p2_s1393 : ck_Sum := ((2, 0, 0), 245, [.inr (.inr (.inl 226)), .inl (24, 2147483647, [])], ([], [], [(227, 4, 4, (0, 24, [(22, 0)]))]), ([(226, 0, 0)], []), [(.inr (some (.inl (ck_one 0))), 245, ([], [], [(226, 0, 0, ck_one 1)]))])
set_option maxRecDepth 100000 in
theorem p2_s1393_s {X : Int → Int} {LX : Nat} : ck_Ok p2_O X LX 334 p2_s1393 := ck_okq (cuts := []) (f := 94) ⟨p2_nmu, ck_E1 (ck_S1 p2_s403_s ck_S0) (ck_E1 (ck_S1 p2_s241_s ck_S0) ck_E0)⟩ (by decide +kernel)
set_option maxRecDepth 100000 in
/-- GlacierMailModel.keepsRows -/
noncomputable def p2_s1394 : ck_Sum := ((0, 0, 0), 245, [.inr (.inr (.inl 226))], ([], [], []), ([(239, 0, 299)], []), [(.inr none, 245, ([], [], []))])
set_option maxRecDepth 100000 in
theorem p2_s1394_s {X : Int → Int} {LX : Nat} : ck_Ok p2_O X LX 335 p2_s1394 := ck_okq (cuts := [(2, [some (.inr (.inr (.inl 226))), some (.inl (0, 300, []))], ([], [], []), 100, .inl 1, true)]) (f := 146) ⟨p2_nmu, ck_E0⟩ (by decide +kernel)
set_option maxRecDepth 100000 in
/-- GlacierMailModel.isOtherInIce -/
noncomputable def p2_s1395 : ck_Sum := ((1, 0, 0), 245, [.inr (.inr (.inl 226)), .inl (0, 299, [])], ([], [], []), ([], []), [(.inr (some (.inl (ck_one 0))), 245, ([], [], [])), (.inr (some (.inl (ck_one 1))), 245, ([], [], []))])
set_option maxRecDepth 100000 in
theorem p2_s1395_s {X : Int → Int} {LX : Nat} : ck_Ok p2_O X LX 337 p2_s1395 := ck_okq (cuts := []) (f := 100) ⟨p2_nmu, ck_E1 (ck_S1 p2_s180_s ck_S0) ck_E0⟩ (by decide +kernel)
set_option maxRecDepth 100000 in
/-- GlacierMailModel.isOtherInIce -/
noncomputable def p2_s1396 : ck_Sum := ((1, 0, 0), 245, [.inr (.inr (.inl 226)), .inl (1, 299, [])], ([], [], []), ([], []), [(.inr (some (.inl (ck_one 0))), 245, ([], [], [])), (.inr (some (.inl (ck_one 1))), 245, ([], [], []))])
set_option maxRecDepth 100000 in
theorem p2_s1396_s {X : Int → Int} {LX : Nat} : ck_Ok p2_O X LX 337 p2_s1396 := ck_okq (cuts := []) (f := 100) ⟨p2_nmu, ck_E1 (ck_S1 p2_s180_s ck_S0) ck_E0⟩ (by decide +kernel)
set_option maxRecDepth 100000 in
/-- GlacierMailModel.isPassing -/
noncomputable def p2_s1397 : ck_Sum := ((2, 0, 0), 245, [.inr (.inr (.inl 226)), .inl (0, 299, [])], ([], [], []), ([], []), [(.inr (some (.inl (ck_one 0))), 245, ([], [], [])), (.inr (some (.inl (ck_one 1))), 245, ([], [], []))])
set_option maxRecDepth 100000 in
theorem p2_s1397_s {X : Int → Int} {LX : Nat} : ck_Ok p2_O X LX 336 p2_s1397 := ck_okq (cuts := [(37, [some (.inr (.inr (.inl 226))), some (.inl (0, 299, [])), some (.inl (1, 300, []))], ([], [], []), 100, .inl 2, true)]) (f := 182) ⟨p2_nmu, ck_E1 (ck_S1 p2_s412_s ck_S0) (ck_E1 (ck_S1 p2_s1395_s (ck_S1 p2_s1396_s ck_S0)) ck_E0)⟩ (by decide +kernel)
set_option maxRecDepth 100000 in
/-- GlacierMail.writers -/
noncomputable def p2_s1399 : ck_Sum := ((8, 1, 6), 245, [.inr (.inr (.inl 1)), .inl ((-2147483648), (-1), []), .inl ((-2147483648), 2147483647, []), .inl ((-2147483648), 2147483647, [])], ([], [], []), ([], []), [(.inl 3, 245, ([], [], []))])
set_option maxRecDepth 100000 in
theorem p2_s1399_s {X : Int → Int} {LX : Nat} : ck_Ok p2_O X LX 186 p2_s1399 := ck_okq (cuts := []) (f := 76) ⟨p2_nmu, ck_E1 (ck_S1 p2_s266_s ck_S0) ck_E0⟩ (by decide +kernel)
set_option maxRecDepth 100000 in
/-- GlacierMail.writers -/
noncomputable def p2_s1400 : ck_Sum := ((8, 1, 6), 245, [.inr (.inr (.inl 1)), .inl (6, 2147483647, []), .inl ((-2147483648), 2147483647, []), .inl ((-2147483648), 2147483647, [])], ([], [], []), ([], []), [(.inl 3, 245, ([], [], []))])
set_option maxRecDepth 100000 in
theorem p2_s1400_s {X : Int → Int} {LX : Nat} : ck_Ok p2_O X LX 186 p2_s1400 := ck_okq (cuts := []) (f := 76) ⟨p2_nmu, ck_E1 (ck_S1 p2_s269_s ck_S0) ck_E0⟩ (by decide +kernel)
set_option maxRecDepth 100000 in
/-- GlacierMail.needFind -/
noncomputable def p2_s1401 : ck_Sum := ((7, 1, 6), 245, [.inr (.inr (.inl 1)), .inl ((-2147483648), (-1), []), .inl ((-2147483648), 2147483647, [])], ([], [], []), ([], []), [(.inl 0, 245, ([], [], []))])
set_option maxRecDepth 100000 in
theorem p2_s1401_s {X : Int → Int} {LX : Nat} : ck_Ok p2_O X LX 187 p2_s1401 := ck_okq (cuts := []) (f := 76) ⟨p2_nmu, ck_E1 (ck_S1 p2_s249_s ck_S0) ck_E0⟩ (by decide +kernel)
set_option maxRecDepth 100000 in
/-- GlacierMail.writers -/
noncomputable def p2_s1402 : ck_Sum := ((8, 2, 12), 245, [.inr (.inr (.inl 1)), .inl (0, 5, []), .inl ((-2147483648), (-1), []), .inl ((-2147483648), 2147483647, [])], ([], [], []), ([], []), [(.inl 3, 245, ([], [], [])), (.inl 0, 245, ([], [], []))])
set_option maxRecDepth 100000 in
theorem p2_s1402_s {X : Int → Int} {LX : Nat} : ck_Ok p2_O X LX 186 p2_s1402 := ck_okq (cuts := []) (f := 84) ⟨p2_nmu, ck_E1 (ck_S1 p2_s272_s ck_S0) (ck_E1 (ck_S1 p2_s1401_s ck_S0) ck_E0)⟩ (by decide +kernel)
set_option maxRecDepth 100000 in
/-- GlacierMail.needFind -/
noncomputable def p2_s1403 : ck_Sum := ((7, 1, 6), 245, [.inr (.inr (.inl 1)), .inl (300, 2147483647, []), .inl ((-2147483648), 2147483647, [])], ([], [], []), ([], []), [(.inl 0, 245, ([], [], []))])
set_option maxRecDepth 100000 in
theorem p2_s1403_s {X : Int → Int} {LX : Nat} : ck_Ok p2_O X LX 187 p2_s1403 := ck_okq (cuts := []) (f := 76) ⟨p2_nmu, ck_E1 (ck_S1 p2_s251_s ck_S0) ck_E0⟩ (by decide +kernel)
set_option maxRecDepth 100000 in
/-- GlacierMail.writers -/
noncomputable def p2_s1404 : ck_Sum := ((8, 2, 12), 245, [.inr (.inr (.inl 1)), .inl (0, 5, []), .inl (300, 2147483647, []), .inl ((-2147483648), 2147483647, [])], ([], [], []), ([], []), [(.inl 3, 245, ([], [], [])), (.inl 0, 245, ([], [], []))])
set_option maxRecDepth 100000 in
theorem p2_s1404_s {X : Int → Int} {LX : Nat} : ck_Ok p2_O X LX 186 p2_s1404 := ck_okq (cuts := []) (f := 84) ⟨p2_nmu, ck_E1 (ck_S1 p2_s272_s ck_S0) (ck_E1 (ck_S1 p2_s1403_s ck_S0) ck_E0)⟩ (by decide +kernel)
set_option maxRecDepth 100000 in
/-- GlacierMail.needFind -/
noncomputable def p2_s1405 : ck_Sum := ((6, 1, 6), 245, [.inr (.inr (.inl 1)), .inl (0, 299, []), .inl ((-2147483648), (-1), [])], ([], [], []), ([], []), [(.inl 0, 245, ([], [], []))])
set_option maxRecDepth 100000 in
theorem p2_s1405_s {X : Int → Int} {LX : Nat} : ck_Ok p2_O X LX 187 p2_s1405 := ck_okq (cuts := []) (f := 82) ⟨p2_nmu, ck_E1 (ck_S1 p2_s253_s ck_S0) ck_E0⟩ (by decide +kernel)
end
/-! 78r80a18.sf -/
section
/-! EVERY CALL ENDS, whatever was done before (laid by wip/am/p2k.py). -/
set_option maxRecDepth 100000 in
/-- GlacierMail.writers -/
noncomputable def p2_s1406 : ck_Sum := ((8, 2, 12), 245, [.inr (.inr (.inl 1)), .inl (0, 5, []), .inl (0, 299, []), .inl ((-2147483648), (-1), [])], ([], [], []), ([], []), [(.inl 3, 245, ([], [], [])), (.inl 0, 245, ([], [], []))])
set_option maxRecDepth 100000 in
theorem p2_s1406_s {X : Int → Int} {LX : Nat} : ck_Ok p2_O X LX 186 p2_s1406 := ck_okq (cuts := []) (f := 84) ⟨p2_nmu, ck_E1 (ck_S1 p2_s272_s ck_S0) (ck_E1 (ck_S1 p2_s1405_s ck_S0) ck_E0)⟩ (by decide +kernel)
set_option maxRecDepth 100000 in
/-- GlacierMail.needFind -/
noncomputable def p2_s1407 : ck_Sum := ((6, 1, 6), 245, [.inr (.inr (.inl 1)), .inl (0, 299, []), .inl (100, 2147483647, [])], ([], [], []), ([], []), [(.inl 0, 245, ([], [], []))])
set_option maxRecDepth 100000 in
theorem p2_s1407_s {X : Int → Int} {LX : Nat} : ck_Ok p2_O X LX 187 p2_s1407 := ck_okq (cuts := []) (f := 88) ⟨p2_nmu, ck_E1 (ck_S1 p2_s253_s ck_S0) ck_E0⟩ (by decide +kernel)
set_option maxRecDepth 100000 in
/-- GlacierMail.writers -/
noncomputable def p2_s1408 : ck_Sum := ((8, 2, 12), 245, [.inr (.inr (.inl 1)), .inl (0, 5, []), .inl (0, 299, []), .inl (100, 2147483647, [])], ([], [], []), ([], []), [(.inl 3, 245, ([], [], [])), (.inl 0, 245, ([], [], []))])
set_option maxRecDepth 100000 in
theorem p2_s1408_s {X : Int → Int} {LX : Nat} : ck_Ok p2_O X LX 186 p2_s1408 := ck_okq (cuts := []) (f := 84) ⟨p2_nmu, ck_E1 (ck_S1 p2_s272_s ck_S0) (ck_E1 (ck_S1 p2_s1407_s ck_S0) ck_E0)⟩ (by decide +kernel)
set_option maxRecDepth 100000 in
/-- GlacierMail.needFind -/
noncomputable def p2_s1409 : ck_Sum := ((1, 0, 0), 245, [.inr (.inr (.inl 1)), .inl (0, 299, []), .inl (0, 99, [])], ([], [], []), ([], []), [(.inr none, 245, ([], [], []))])
set_option maxRecDepth 100000 in
theorem p2_s1409_s {X : Int → Int} {LX : Nat} : ck_Ok p2_O X LX 187 p2_s1409 := ck_okq (cuts := []) (f := 88) ⟨p2_nmu, ck_E1 (ck_S1 p2_s253_s ck_S0) ck_E0⟩ (by decide +kernel)
set_option maxRecDepth 100000 in
/-- GlacierMail.latestWriting -/
noncomputable def p2_s1410 : ck_Sum := ((4, 0, 0), 245, [.inr (.inr (.inl 1)), .inl (0, 7, []), .inl (0, 5, []), .inl (0, 299, []), .inl (0, 99, [])], ([], [(3, 8, 0)], []), ([(206, 2, 8)], []), [(.inr (some (.inl (ck_one (-1)))), 245, ([], [], [])), (.inr (some (.inl (0, 298, []))), 245, ([], [], [(206, 4, 4, ck_one (-1))]))])
set_option maxRecDepth 100000 in
theorem p2_s1410_s {X : Int → Int} {LX : Nat} : ck_Ok p2_O X LX 188 p2_s1410 := ck_okq (cuts := [(23, [some (.inr (.inr (.inl 1))), some (.inl (0, 7, [])), some (.inl (0, 5, [])), some (.inl (0, 299, [])), some (.inl (0, 99, [])), some (.inl ((-1), 298, []))], ([], [(3, 8, 0)], []), 100, .inl 5, false)]) (f := 174) ⟨p2_nmu, ck_E1 (ck_S1 p2_s356_s ck_S0) (ck_E1 (ck_S1 p2_s1332_s ck_S0) (ck_E1 (ck_S1 p2_s346_s ck_S0) ck_E0))⟩ (by decide +kernel)
set_option maxRecDepth 100000 in
/-- GlacierMail.writers -/
noncomputable def p2_s1411 : ck_Sum := ((8, 1, 6), 245, [.inr (.inr (.inl 1)), .inl (0, 5, []), .inl (0, 299, []), .inl (0, 99, [])], ([], [(3, 8, 0)], []), ([(206, 2, 8)], []), [(.inl 3, 245, ([], [], [])), (.inr (some (.inl ((-2147483648), 2147483647, []))), 245, ([], [], []))])
set_option maxRecDepth 100000 in
theorem p2_s1411_s {X : Int → Int} {LX : Nat} : ck_Ok p2_O X LX 186 p2_s1411 := ck_okq (cuts := [(17, [some (.inr (.inr (.inl 1))), some (.inl (0, 5, [])), some (.inl (0, 299, [])), some (.inl (0, 99, [])), some (.inl ((-2147483648), 2147483647, [])), some (.inl (0, 9, []))], ([], [(3, 8, 0)], []), 100, .inl 5, true)]) (f := 182) ⟨p2_nmu, ck_E1 (ck_S1 p2_s272_s ck_S0) (ck_E1 (ck_S1 p2_s1409_s ck_S0) (ck_E1 (ck_S1 p2_s320_s ck_S0) (ck_E1 (ck_S1 p2_s1410_s ck_S0) ck_E0)))⟩ (by decide +kernel)
set_option maxRecDepth 100000 in
/-- GlacierMailModel.writers -/
noncomputable def p2_s1412 : ck_Sum := ((2, 0, 0), 245, [.inr (.inr (.inl 226)), .inl ((-2147483648), (-1), []), .inl ((-2147483648), 2147483647, []), .inl ((-2147483648), 2147483647, [])], ([], [], []), ([(226, 0, 0)], []), [(.inr (some (.inl (ck_one 0))), 245, ([], [], [(226, 0, 0, ck_one 1)]))])
set_option maxRecDepth 100000 in
theorem p2_s1412_s {X : Int → Int} {LX : Nat} : ck_Ok p2_O X LX 338 p2_s1412 := ck_okq (cuts := []) (f := 94) ⟨p2_nmu, ck_E1 (ck_S1 p2_s284_s ck_S0) (ck_E1 (ck_S1 p2_s241_s ck_S0) ck_E0)⟩ (by decide +kernel)
set_option maxRecDepth 100000 in
/-- GlacierMailModel.writers -/
noncomputable def p2_s1413 : ck_Sum := ((2, 0, 0), 245, [.inr (.inr (.inl 226)), .inl (6, 2147483647, []), .inl ((-2147483648), 2147483647, []), .inl ((-2147483648), 2147483647, [])], ([], [], []), ([(226, 0, 0)], []), [(.inr (some (.inl (ck_one 0))), 245, ([], [], [(226, 0, 0, ck_one 1)]))])
set_option maxRecDepth 100000 in
theorem p2_s1413_s {X : Int → Int} {LX : Nat} : ck_Ok p2_O X LX 338 p2_s1413 := ck_okq (cuts := []) (f := 94) ⟨p2_nmu, ck_E1 (ck_S1 p2_s287_s ck_S0) (ck_E1 (ck_S1 p2_s241_s ck_S0) ck_E0)⟩ (by decide +kernel)
set_option maxRecDepth 100000 in
/-- GlacierMailModel.writers -/
noncomputable def p2_s1414 : ck_Sum := ((2, 0, 0), 245, [.inr (.inr (.inl 226)), .inl (0, 5, []), .inl ((-2147483648), (-1), []), .inl ((-2147483648), 2147483647, [])], ([], [], []), ([(226, 0, 0)], []), [(.inr (some (.inl (ck_one 0))), 245, ([], [], [(226, 0, 0, (1, 2, []))]))])
set_option maxRecDepth 100000 in
theorem p2_s1414_s {X : Int → Int} {LX : Nat} : ck_Ok p2_O X LX 338 p2_s1414 := ck_okq (cuts := []) (f := 112) ⟨p2_nmu, ck_E1 (ck_S1 p2_s290_s ck_S0) (ck_E1 (ck_S1 p2_s241_s (ck_S1 p2_s242_s (ck_S1 p2_s244_s ck_S0))) (ck_E1 (ck_S1 p2_s257_s ck_S0) ck_E0))⟩ (by decide +kernel)
set_option maxRecDepth 100000 in
/-- GlacierMailModel.writers -/
noncomputable def p2_s1415 : ck_Sum := ((2, 0, 0), 245, [.inr (.inr (.inl 226)), .inl (0, 5, []), .inl (300, 2147483647, []), .inl ((-2147483648), 2147483647, [])], ([], [], []), ([(226, 0, 0)], []), [(.inr (some (.inl (ck_one 0))), 245, ([], [], [(226, 0, 0, (1, 2, []))]))])
set_option maxRecDepth 100000 in
theorem p2_s1415_s {X : Int → Int} {LX : Nat} : ck_Ok p2_O X LX 338 p2_s1415 := ck_okq (cuts := []) (f := 112) ⟨p2_nmu, ck_E1 (ck_S1 p2_s290_s ck_S0) (ck_E1 (ck_S1 p2_s241_s (ck_S1 p2_s242_s (ck_S1 p2_s244_s ck_S0))) (ck_E1 (ck_S1 p2_s260_s ck_S0) ck_E0))⟩ (by decide +kernel)
set_option maxRecDepth 100000 in
/-- GlacierMailModel.in -/
noncomputable def p2_s1416 : ck_Sum := ((0, 0, 0), 245, [.inl ((-2147483648), (-1), []), .inl (ck_one 0), .inl (ck_one 99)], ([], [], []), ([], []), [(.inr (some (.inl (ck_one 0))), 245, ([], [], []))])
set_option maxRecDepth 100000 in
theorem p2_s1416_s {X : Int → Int} {LX : Nat} : ck_Ok p2_O X LX 286 p2_s1416 := ck_okq (cuts := []) (f := 80) ⟨p2_nmu, ck_E0⟩ (by decide +kernel)
set_option maxRecDepth 100000 in
/-- GlacierMailModel.writers -/
noncomputable def p2_s1417 : ck_Sum := ((2, 0, 0), 245, [.inr (.inr (.inl 226)), .inl (0, 5, []), .inl (0, 299, []), .inl ((-2147483648), (-1), [])], ([], [], []), ([(226, 0, 0)], []), [(.inr (some (.inl (ck_one 0))), 245, ([], [], [(226, 0, 0, (1, 2, []))]))])
set_option maxRecDepth 100000 in
theorem p2_s1417_s {X : Int → Int} {LX : Nat} : ck_Ok p2_O X LX 338 p2_s1417 := ck_okq (cuts := []) (f := 122) ⟨p2_nmu, ck_E1 (ck_S1 p2_s290_s ck_S0) (ck_E1 (ck_S1 p2_s241_s (ck_S1 p2_s242_s (ck_S1 p2_s244_s ck_S0))) (ck_E1 (ck_S1 p2_s263_s ck_S0) (ck_E1 (ck_S1 p2_s1416_s ck_S0) ck_E0)))⟩ (by decide +kernel)
set_option maxRecDepth 100000 in
/-- GlacierMailModel.in -/
noncomputable def p2_s1418 : ck_Sum := ((0, 0, 0), 245, [.inl (100, 2147483647, []), .inl (ck_one 0), .inl (ck_one 99)], ([], [], []), ([], []), [(.inr (some (.inl (ck_one 0))), 245, ([], [], []))])
set_option maxRecDepth 100000 in
theorem p2_s1418_s {X : Int → Int} {LX : Nat} : ck_Ok p2_O X LX 286 p2_s1418 := ck_okq (cuts := []) (f := 86) ⟨p2_nmu, ck_E0⟩ (by decide +kernel)
set_option maxRecDepth 100000 in
/-- GlacierMailModel.writers -/
noncomputable def p2_s1419 : ck_Sum := ((2, 0, 0), 245, [.inr (.inr (.inl 226)), .inl (0, 5, []), .inl (0, 299, []), .inl (100, 2147483647, [])], ([], [], []), ([(226, 0, 0)], []), [(.inr (some (.inl (ck_one 0))), 245, ([], [], [(226, 0, 0, (1, 2, []))]))])
set_option maxRecDepth 100000 in
theorem p2_s1419_s {X : Int → Int} {LX : Nat} : ck_Ok p2_O X LX 338 p2_s1419 := ck_okq (cuts := []) (f := 122) ⟨p2_nmu, ck_E1 (ck_S1 p2_s290_s ck_S0) (ck_E1 (ck_S1 p2_s241_s (ck_S1 p2_s242_s (ck_S1 p2_s244_s ck_S0))) (ck_E1 (ck_S1 p2_s263_s ck_S0) (ck_E1 (ck_S1 p2_s1418_s ck_S0) ck_E0)))⟩ (by decide +kernel)
set_option maxRecDepth 100000 in
/-- GlacierMailModel.in -/
noncomputable def p2_s1420 : ck_Sum := ((0, 0, 0), 245, [.inl (0, 99, []), .inl (ck_one 0), .inl (ck_one 99)], ([], [], []), ([], []), [(.inr (some (.inl (ck_one 1))), 245, ([], [], []))])
set_option maxRecDepth 100000 in
theorem p2_s1420_s {X : Int → Int} {LX : Nat} : ck_Ok p2_O X LX 286 p2_s1420 := ck_okq (cuts := []) (f := 88) ⟨p2_nmu, ck_E0⟩ (by decide +kernel)
set_option maxRecDepth 100000 in
/-- GlacierMail.wrote -/
noncomputable def p2_s1423 : ck_Sum := ((8, 1, 6), 245, [.inr (.inr (.inl 1)), .inl ((-2147483648), (-1), []), .inl ((-2147483648), 2147483647, []), .inl ((-2147483648), 2147483647, []), .inl ((-2147483648), 2147483647, [])], ([], [], []), ([], []), [(.inl 3, 245, ([], [], []))])
set_option maxRecDepth 100000 in
theorem p2_s1423_s {X : Int → Int} {LX : Nat} : ck_Ok p2_O X LX 190 p2_s1423 := ck_okq (cuts := []) (f := 76) ⟨p2_nmu, ck_E1 (ck_S1 p2_s322_s ck_S0) ck_E0⟩ (by decide +kernel)
set_option maxRecDepth 100000 in
/-- GlacierMail.wrote -/
noncomputable def p2_s1424 : ck_Sum := ((8, 1, 6), 245, [.inr (.inr (.inl 1)), .inl (8, 2147483647, []), .inl ((-2147483648), 2147483647, []), .inl ((-2147483648), 2147483647, []), .inl ((-2147483648), 2147483647, [])], ([], [], []), ([], []), [(.inl 3, 245, ([], [], []))])
set_option maxRecDepth 100000 in
theorem p2_s1424_s {X : Int → Int} {LX : Nat} : ck_Ok p2_O X LX 190 p2_s1424 := ck_okq (cuts := []) (f := 76) ⟨p2_nmu, ck_E1 (ck_S1 p2_s325_s ck_S0) ck_E0⟩ (by decide +kernel)
set_option maxRecDepth 100000 in
/-- GlacierMail.wrote -/
noncomputable def p2_s1425 : ck_Sum := ((8, 2, 12), 245, [.inr (.inr (.inl 1)), .inl (0, 7, []), .inl ((-2147483648), (-1), []), .inl ((-2147483648), 2147483647, []), .inl ((-2147483648), 2147483647, [])], ([], [], []), ([], []), [(.inl 3, 245, ([], [], []))])
set_option maxRecDepth 100000 in
theorem p2_s1425_s {X : Int → Int} {LX : Nat} : ck_Ok p2_O X LX 190 p2_s1425 := ck_okq (cuts := []) (f := 82) ⟨p2_nmu, ck_E1 (ck_S1 p2_s328_s ck_S0) (ck_E1 (ck_S1 p2_s266_s ck_S0) ck_E0)⟩ (by decide +kernel)
set_option maxRecDepth 100000 in
/-- GlacierMail.wrote -/
noncomputable def p2_s1426 : ck_Sum := ((8, 2, 12), 245, [.inr (.inr (.inl 1)), .inl (0, 7, []), .inl (6, 2147483647, []), .inl ((-2147483648), 2147483647, []), .inl ((-2147483648), 2147483647, [])], ([], [], []), ([], []), [(.inl 3, 245, ([], [], []))])
set_option maxRecDepth 100000 in
theorem p2_s1426_s {X : Int → Int} {LX : Nat} : ck_Ok p2_O X LX 190 p2_s1426 := ck_okq (cuts := []) (f := 82) ⟨p2_nmu, ck_E1 (ck_S1 p2_s328_s ck_S0) (ck_E1 (ck_S1 p2_s269_s ck_S0) ck_E0)⟩ (by decide +kernel)
set_option maxRecDepth 100000 in
/-- GlacierMail.wrote -/
noncomputable def p2_s1427 : ck_Sum := ((8, 3, 18), 245, [.inr (.inr (.inl 1)), .inl (0, 7, []), .inl (0, 5, []), .inl ((-2147483648), (-1), []), .inl ((-2147483648), 2147483647, [])], ([], [], []), ([], []), [(.inl 3, 245, ([], [], [])), (.inl 0, 245, ([], [], []))])
set_option maxRecDepth 100000 in
theorem p2_s1427_s {X : Int → Int} {LX : Nat} : ck_Ok p2_O X LX 190 p2_s1427 := ck_okq (cuts := []) (f := 90) ⟨p2_nmu, ck_E1 (ck_S1 p2_s328_s ck_S0) (ck_E1 (ck_S1 p2_s272_s ck_S0) (ck_E1 (ck_S1 p2_s1401_s ck_S0) ck_E0))⟩ (by decide +kernel)
set_option maxRecDepth 100000 in
/-- GlacierMail.wrote -/
noncomputable def p2_s1428 : ck_Sum := ((8, 3, 18), 245, [.inr (.inr (.inl 1)), .inl (0, 7, []), .inl (0, 5, []), .inl (300, 2147483647, []), .inl ((-2147483648), 2147483647, [])], ([], [], []), ([], []), [(.inl 3, 245, ([], [], [])), (.inl 0, 245, ([], [], []))])
set_option maxRecDepth 100000 in
theorem p2_s1428_s {X : Int → Int} {LX : Nat} : ck_Ok p2_O X LX 190 p2_s1428 := ck_okq (cuts := []) (f := 90) ⟨p2_nmu, ck_E1 (ck_S1 p2_s328_s ck_S0) (ck_E1 (ck_S1 p2_s272_s ck_S0) (ck_E1 (ck_S1 p2_s1403_s ck_S0) ck_E0))⟩ (by decide +kernel)
set_option maxRecDepth 100000 in
/-- GlacierMail.wrote -/
noncomputable def p2_s1429 : ck_Sum := ((8, 3, 18), 245, [.inr (.inr (.inl 1)), .inl (0, 7, []), .inl (0, 5, []), .inl (0, 299, []), .inl ((-2147483648), (-1), [])], ([], [], []), ([], []), [(.inl 3, 245, ([], [], [])), (.inl 0, 245, ([], [], []))])
set_option maxRecDepth 100000 in
theorem p2_s1429_s {X : Int → Int} {LX : Nat} : ck_Ok p2_O X LX 190 p2_s1429 := ck_okq (cuts := []) (f := 90) ⟨p2_nmu, ck_E1 (ck_S1 p2_s328_s ck_S0) (ck_E1 (ck_S1 p2_s272_s ck_S0) (ck_E1 (ck_S1 p2_s1405_s ck_S0) ck_E0))⟩ (by decide +kernel)
set_option maxRecDepth 100000 in
/-- GlacierMail.wrote -/
noncomputable def p2_s1430 : ck_Sum := ((8, 3, 18), 245, [.inr (.inr (.inl 1)), .inl (0, 7, []), .inl (0, 5, []), .inl (0, 299, []), .inl (100, 2147483647, [])], ([], [], []), ([], []), [(.inl 3, 245, ([], [], [])), (.inl 0, 245, ([], [], []))])
set_option maxRecDepth 100000 in
theorem p2_s1430_s {X : Int → Int} {LX : Nat} : ck_Ok p2_O X LX 190 p2_s1430 := ck_okq (cuts := []) (f := 90) ⟨p2_nmu, ck_E1 (ck_S1 p2_s328_s ck_S0) (ck_E1 (ck_S1 p2_s272_s ck_S0) (ck_E1 (ck_S1 p2_s1407_s ck_S0) ck_E0))⟩ (by decide +kernel)
set_option maxRecDepth 100000 in
/-- GlacierMail.wrote -/
noncomputable def p2_s1431 : ck_Sum := ((8, 2, 12), 245, [.inr (.inr (.inl 1)), .inl (0, 7, []), .inl (0, 5, []), .inl (0, 299, []), .inl (0, 99, [])], ([], [(3, 8, 0)], []), ([(206, 2, 8)], []), [(.inl 3, 245, ([], [], [])), (.inr (some (.inl (ck_one (-1)))), 245, ([], [], [])), (.inr (some (.inl (0, 298, []))), 245, ([], [], [(206, 4, 4, ck_one (-1))]))])
set_option maxRecDepth 100000 in
theorem p2_s1431_s {X : Int → Int} {LX : Nat} : ck_Ok p2_O X LX 190 p2_s1431 := ck_okq (cuts := []) (f := 104) ⟨p2_nmu, ck_E1 (ck_S1 p2_s328_s ck_S0) (ck_E1 (ck_S1 p2_s272_s ck_S0) (ck_E1 (ck_S1 p2_s1409_s ck_S0) (ck_E1 (ck_S1 p2_s1410_s ck_S0) ck_E0)))⟩ (by decide +kernel)
set_option maxRecDepth 100000 in
/-- GlacierMailModel.wrote -/
noncomputable def p2_s1432 : ck_Sum := ((2, 0, 0), 245, [.inr (.inr (.inl 226)), .inl ((-2147483648), (-1), []), .inl ((-2147483648), 2147483647, []), .inl ((-2147483648), 2147483647, []), .inl ((-2147483648), 2147483647, [])], ([], [], [(227, 3, 3, (0, 8, [(21, 0)]))]), ([(226, 0, 0)], []), [(.inr (some (.inl (ck_one 0))), 245, ([], [], [(226, 0, 0, ck_one 1)]))])
set_option maxRecDepth 100000 in
theorem p2_s1432_s {X : Int → Int} {LX : Nat} : ck_Ok p2_O X LX 340 p2_s1432 := ck_okq (cuts := []) (f := 100) ⟨p2_nmu, ck_E1 (ck_S1 p2_s359_s ck_S0) (ck_E1 (ck_S1 p2_s241_s ck_S0) ck_E0)⟩ (by decide +kernel)
set_option maxRecDepth 100000 in
/-- GlacierMailModel.wrote -/
noncomputable def p2_s1433 : ck_Sum := ((2, 0, 0), 245, [.inr (.inr (.inl 226)), .inl (8, 2147483647, []), .inl ((-2147483648), 2147483647, []), .inl ((-2147483648), 2147483647, []), .inl ((-2147483648), 2147483647, [])], ([], [], [(227, 3, 3, (0, 8, [(21, 0)]))]), ([(226, 0, 0)], []), [(.inr (some (.inl (ck_one 0))), 245, ([], [], [(226, 0, 0, ck_one 1)]))])
set_option maxRecDepth 100000 in
theorem p2_s1433_s {X : Int → Int} {LX : Nat} : ck_Ok p2_O X LX 340 p2_s1433 := ck_okq (cuts := []) (f := 100) ⟨p2_nmu, ck_E1 (ck_S1 p2_s362_s ck_S0) (ck_E1 (ck_S1 p2_s241_s ck_S0) ck_E0)⟩ (by decide +kernel)
set_option maxRecDepth 100000 in
/-- GlacierMailModel.wrote -/
noncomputable def p2_s1434 : ck_Sum := ((2, 0, 0), 245, [.inr (.inr (.inl 226)), .inl (0, 7, []), .inl ((-2147483648), (-1), []), .inl ((-2147483648), 2147483647, []), .inl ((-2147483648), 2147483647, [])], ([], [], [(227, 3, 3, (0, 8, [(21, 0)]))]), ([(226, 0, 0)], []), [(.inr (some (.inl (ck_one 0))), 245, ([], [], [(226, 0, 0, ck_one 1)]))])
set_option maxRecDepth 100000 in
theorem p2_s1434_s {X : Int → Int} {LX : Nat} : ck_Ok p2_O X LX 340 p2_s1434 := ck_okq (cuts := []) (f := 108) ⟨p2_nmu, ck_E1 (ck_S1 p2_s365_s ck_S0) (ck_E1 (ck_S1 p2_s241_s ck_S0) (ck_E1 (ck_S1 p2_s284_s ck_S0) ck_E0))⟩ (by decide +kernel)
set_option maxRecDepth 100000 in
/-- GlacierMailModel.wrote -/
noncomputable def p2_s1435 : ck_Sum := ((2, 0, 0), 245, [.inr (.inr (.inl 226)), .inl (0, 7, []), .inl (6, 2147483647, []), .inl ((-2147483648), 2147483647, []), .inl ((-2147483648), 2147483647, [])], ([], [], [(227, 3, 3, (0, 8, [(21, 0)]))]), ([(226, 0, 0)], []), [(.inr (some (.inl (ck_one 0))), 245, ([], [], [(226, 0, 0, ck_one 1)]))])
set_option maxRecDepth 100000 in
theorem p2_s1435_s {X : Int → Int} {LX : Nat} : ck_Ok p2_O X LX 340 p2_s1435 := ck_okq (cuts := []) (f := 108) ⟨p2_nmu, ck_E1 (ck_S1 p2_s365_s ck_S0) (ck_E1 (ck_S1 p2_s241_s ck_S0) (ck_E1 (ck_S1 p2_s287_s ck_S0) ck_E0))⟩ (by decide +kernel)
set_option maxRecDepth 100000 in
/-- GlacierMailModel.wrote -/
noncomputable def p2_s1436 : ck_Sum := ((2, 0, 0), 245, [.inr (.inr (.inl 226)), .inl (0, 7, []), .inl (0, 5, []), .inl ((-2147483648), (-1), []), .inl ((-2147483648), 2147483647, [])], ([], [], [(227, 3, 3, (0, 8, [(21, 0)]))]), ([(226, 0, 0)], []), [(.inr (some (.inl (ck_one 0))), 245, ([], [], [(226, 0, 0, (1, 2, []))]))])
set_option maxRecDepth 100000 in
theorem p2_s1436_s {X : Int → Int} {LX : Nat} : ck_Ok p2_O X LX 340 p2_s1436 := ck_okq (cuts := []) (f := 124) ⟨p2_nmu, ck_E1 (ck_S1 p2_s365_s ck_S0) (ck_E1 (ck_S1 p2_s241_s (ck_S1 p2_s242_s (ck_S1 p2_s244_s ck_S0))) (ck_E1 (ck_S1 p2_s290_s ck_S0) (ck_E1 (ck_S1 p2_s257_s ck_S0) ck_E0)))⟩ (by decide +kernel)
set_option maxRecDepth 100000 in
/-- GlacierMailModel.wrote -/
noncomputable def p2_s1437 : ck_Sum := ((2, 0, 0), 245, [.inr (.inr (.inl 226)), .inl (0, 7, []), .inl (0, 5, []), .inl (300, 2147483647, []), .inl ((-2147483648), 2147483647, [])], ([], [], [(227, 3, 3, (0, 8, [(21, 0)]))]), ([(226, 0, 0)], []), [(.inr (some (.inl (ck_one 0))), 245, ([], [], [(226, 0, 0, (1, 2, []))]))])
set_option maxRecDepth 100000 in
theorem p2_s1437_s {X : Int → Int} {LX : Nat} : ck_Ok p2_O X LX 340 p2_s1437 := ck_okq (cuts := []) (f := 124) ⟨p2_nmu, ck_E1 (ck_S1 p2_s365_s ck_S0) (ck_E1 (ck_S1 p2_s241_s (ck_S1 p2_s242_s (ck_S1 p2_s244_s ck_S0))) (ck_E1 (ck_S1 p2_s290_s ck_S0) (ck_E1 (ck_S1 p2_s260_s ck_S0) ck_E0)))⟩ (by decide +kernel)
set_option maxRecDepth 100000 in
/-- GlacierMailModel.wrote -/
noncomputable def p2_s1438 : ck_Sum := ((2, 0, 0), 245, [.inr (.inr (.inl 226)), .inl (0, 7, []), .inl (0, 5, []), .inl (0, 299, []), .inl ((-2147483648), (-1), [])], ([], [], [(227, 3, 3, (0, 8, [(21, 0)]))]), ([(226, 0, 0)], []), [(.inr (some (.inl (ck_one 0))), 245, ([], [], [(226, 0, 0, (1, 2, []))]))])
set_option maxRecDepth 100000 in
theorem p2_s1438_s {X : Int → Int} {LX : Nat} : ck_Ok p2_O X LX 340 p2_s1438 := ck_okq (cuts := []) (f := 134) ⟨p2_nmu, ck_E1 (ck_S1 p2_s365_s ck_S0) (ck_E1 (ck_S1 p2_s241_s (ck_S1 p2_s242_s (ck_S1 p2_s244_s ck_S0))) (ck_E1 (ck_S1 p2_s290_s ck_S0) (ck_E1 (ck_S1 p2_s263_s ck_S0) (ck_E1 (ck_S1 p2_s1416_s ck_S0) ck_E0))))⟩ (by decide +kernel)
set_option maxRecDepth 100000 in
/-- GlacierMailModel.wrote -/
noncomputable def p2_s1439 : ck_Sum := ((2, 0, 0), 245, [.inr (.inr (.inl 226)), .inl (0, 7, []), .inl (0, 5, []), .inl (0, 299, []), .inl (100, 2147483647, [])], ([], [], [(227, 3, 3, (0, 8, [(21, 0)]))]), ([(226, 0, 0)], []), [(.inr (some (.inl (ck_one 0))), 245, ([], [], [(226, 0, 0, (1, 2, []))]))])
set_option maxRecDepth 100000 in
theorem p2_s1439_s {X : Int → Int} {LX : Nat} : ck_Ok p2_O X LX 340 p2_s1439 := ck_okq (cuts := []) (f := 134) ⟨p2_nmu, ck_E1 (ck_S1 p2_s365_s ck_S0) (ck_E1 (ck_S1 p2_s241_s (ck_S1 p2_s242_s (ck_S1 p2_s244_s ck_S0))) (ck_E1 (ck_S1 p2_s290_s ck_S0) (ck_E1 (ck_S1 p2_s263_s ck_S0) (ck_E1 (ck_S1 p2_s1418_s ck_S0) ck_E0))))⟩ (by decide +kernel)
set_option maxRecDepth 100000 in
/-- GlacierMail$Rows.size -/
noncomputable def p2_s1441 : ck_Sum := ((0, 0, 0), 245, [.inr (.inr (.inl 12))], ([], [], []), ([], []), [(.inr (some (.inl (0, 6, []))), 245, ([], [], []))])
set_option maxRecDepth 100000 in
theorem p2_s1441_s {X : Int → Int} {LX : Nat} : ck_Ok p2_O X LX 9 p2_s1441 := ck_okq (cuts := []) (f := 76) ⟨p2_nmu, ck_E0⟩ (by decide +kernel)
set_option maxRecDepth 100000 in
/-- GlacierMail.need -/
noncomputable def p2_s1442 : ck_Sum := ((6, 1, 6), 245, [.inr (.inr (.inl 1)), .inl ((-2147483648), (-1), []), .inl (0, 6, [])], ([], [], []), ([], []), [(.inl 3, 245, ([], [], []))])
set_option maxRecDepth 100000 in
theorem p2_s1442_s {X : Int → Int} {LX : Nat} : ck_Ok p2_O X LX 133 p2_s1442 := ck_okq (cuts := []) (f := 76) ⟨p2_nmu, ck_E0⟩ (by decide +kernel)
set_option maxRecDepth 100000 in
/-- GlacierMail.needTable -/
noncomputable def p2_s1443 : ck_Sum := ((7, 1, 6), 245, [.inr (.inr (.inl 1)), .inl ((-2147483648), (-1), [])], ([], [], []), ([], []), [(.inl 3, 245, ([], [], []))])
set_option maxRecDepth 100000 in
theorem p2_s1443_s {X : Int → Int} {LX : Nat} : ck_Ok p2_O X LX 193 p2_s1443 := ck_okq (cuts := []) (f := 84) ⟨p2_nmu, ck_E1 (ck_S1 p2_s1441_s ck_S0) (ck_E1 (ck_S1 p2_s1442_s ck_S0) ck_E0)⟩ (by decide +kernel)
set_option maxRecDepth 100000 in
/-- GlacierMail.table -/
noncomputable def p2_s1444 : ck_Sum := ((8, 1, 6), 245, [.inr (.inr (.inl 1)), .inl ((-2147483648), (-1), []), .inl ((-2147483648), 2147483647, [])], ([], [], []), ([], []), [(.inl 3, 245, ([], [], []))])
set_option maxRecDepth 100000 in
theorem p2_s1444_s {X : Int → Int} {LX : Nat} : ck_Ok p2_O X LX 192 p2_s1444 := ck_okq (cuts := []) (f := 76) ⟨p2_nmu, ck_E1 (ck_S1 p2_s1443_s ck_S0) ck_E0⟩ (by decide +kernel)
set_option maxRecDepth 100000 in
/-- GlacierMail.need -/
noncomputable def p2_s1445 : ck_Sum := ((6, 1, 6), 245, [.inr (.inr (.inl 1)), .inl (6, 2147483647, []), .inl (0, 6, [])], ([], [], []), ([], []), [(.inl 3, 245, ([], [], []))])
set_option maxRecDepth 100000 in
theorem p2_s1445_s {X : Int → Int} {LX : Nat} : ck_Ok p2_O X LX 133 p2_s1445 := ck_okq (cuts := []) (f := 82) ⟨p2_nmu, ck_E0⟩ (by decide +kernel)
set_option maxRecDepth 100000 in
/-- GlacierMail.needTable -/
noncomputable def p2_s1446 : ck_Sum := ((7, 1, 6), 245, [.inr (.inr (.inl 1)), .inl (6, 2147483647, [])], ([], [], []), ([], []), [(.inl 3, 245, ([], [], []))])
set_option maxRecDepth 100000 in
theorem p2_s1446_s {X : Int → Int} {LX : Nat} : ck_Ok p2_O X LX 193 p2_s1446 := ck_okq (cuts := []) (f := 84) ⟨p2_nmu, ck_E1 (ck_S1 p2_s1441_s ck_S0) (ck_E1 (ck_S1 p2_s1445_s ck_S0) ck_E0)⟩ (by decide +kernel)
set_option maxRecDepth 100000 in
/-- GlacierMail.table -/
noncomputable def p2_s1447 : ck_Sum := ((8, 1, 6), 245, [.inr (.inr (.inl 1)), .inl (6, 2147483647, []), .inl ((-2147483648), 2147483647, [])], ([], [], []), ([], []), [(.inl 3, 245, ([], [], []))])
set_option maxRecDepth 100000 in
theorem p2_s1447_s {X : Int → Int} {LX : Nat} : ck_Ok p2_O X LX 192 p2_s1447 := ck_okq (cuts := []) (f := 76) ⟨p2_nmu, ck_E1 (ck_S1 p2_s1446_s ck_S0) ck_E0⟩ (by decide +kernel)
set_option maxRecDepth 100000 in
/-- GlacierMail.need -/
noncomputable def p2_s1448 : ck_Sum := ((6, 1, 6), 245, [.inr (.inr (.inl 1)), .inl (0, 5, []), .inl (0, 6, [])], ([], [], []), ([], []), [(.inr none, 245, ([], [], [])), (.inl 3, 245, ([], [], []))])
set_option maxRecDepth 100000 in
theorem p2_s1448_s {X : Int → Int} {LX : Nat} : ck_Ok p2_O X LX 133 p2_s1448 := ck_okq (cuts := []) (f := 82) ⟨p2_nmu, ck_E0⟩ (by decide +kernel)
set_option maxRecDepth 100000 in
/-- GlacierMail.needTable -/
noncomputable def p2_s1449 : ck_Sum := ((7, 1, 6), 245, [.inr (.inr (.inl 1)), .inl (0, 5, [])], ([], [], []), ([], []), [(.inl 3, 245, ([], [], [])), (.inr none, 245, ([], [], []))])
set_option maxRecDepth 100000 in
theorem p2_s1449_s {X : Int → Int} {LX : Nat} : ck_Ok p2_O X LX 193 p2_s1449 := ck_okq (cuts := []) (f := 86) ⟨p2_nmu, ck_E1 (ck_S1 p2_s1441_s ck_S0) (ck_E1 (ck_S1 p2_s1448_s ck_S0) ck_E0)⟩ (by decide +kernel)
set_option maxRecDepth 100000 in
/-- GlacierMail.table -/
noncomputable def p2_s1450 : ck_Sum := ((8, 2, 12), 245, [.inr (.inr (.inl 1)), .inl (0, 5, []), .inl ((-2147483648), (-1), [])], ([], [], []), ([], []), [(.inl 3, 245, ([], [], []))])
set_option maxRecDepth 100000 in
theorem p2_s1450_s {X : Int → Int} {LX : Nat} : ck_Ok p2_O X LX 192 p2_s1450 := ck_okq (cuts := []) (f := 82) ⟨p2_nmu, ck_E1 (ck_S1 p2_s1449_s ck_S0) (ck_E1 (ck_S1 p2_s266_s ck_S0) ck_E0)⟩ (by decide +kernel)
set_option maxRecDepth 100000 in
/-- GlacierMail.table -/
noncomputable def p2_s1451 : ck_Sum := ((8, 2, 12), 245, [.inr (.inr (.inl 1)), .inl (0, 5, []), .inl (6, 2147483647, [])], ([], [], []), ([], []), [(.inl 3, 245, ([], [], []))])
set_option maxRecDepth 100000 in
theorem p2_s1451_s {X : Int → Int} {LX : Nat} : ck_Ok p2_O X LX 192 p2_s1451 := ck_okq (cuts := []) (f := 82) ⟨p2_nmu, ck_E1 (ck_S1 p2_s1449_s ck_S0) (ck_E1 (ck_S1 p2_s269_s ck_S0) ck_E0)⟩ (by decide +kernel)
set_option maxRecDepth 100000 in
/-- GlacierMail$Rows.get -/
noncomputable def p2_s1452 : ck_Sum := ((0, 0, 0), 245, [.inr (.inr (.inl 12)), .inl ((-2147483648), 2147483647, []), .inl ((-2147483648), 2147483647, [])], ([], [], []), ([], []), [(.inr (some (.inl (ck_one (-1)))), 245, ([], [], [])), (.inr (some (.inl (0, 20, []))), 245, ([], [], [(12, 3, 3, (1, 6, []))]))])
set_option maxRecDepth 100000 in
theorem p2_s1452_s {X : Int → Int} {LX : Nat} : ck_Ok p2_O X LX 10 p2_s1452 := ck_okq (cuts := []) (f := 114) ⟨p2_nmu, ck_E0⟩ (by decide +kernel)
set_option maxRecDepth 100000 in
/-- GlacierMail.table -/
noncomputable def p2_s1453 : ck_Sum := ((8, 2, 12), 245, [.inr (.inr (.inl 1)), .inl (0, 5, []), .inl (0, 5, [])], ([], [], []), ([], []), [(.inl 3, 245, ([], [], [])), (.inr (some (.inl (ck_one (-1)))), 245, ([], [], [])), (.inr (some (.inl (0, 20, []))), 245, ([], [], [(12, 3, 3, (1, 6, []))]))])
set_option maxRecDepth 100000 in
theorem p2_s1453_s {X : Int → Int} {LX : Nat} : ck_Ok p2_O X LX 192 p2_s1453 := ck_okq (cuts := []) (f := 96) ⟨p2_nmu, ck_E1 (ck_S1 p2_s1449_s ck_S0) (ck_E1 (ck_S1 p2_s272_s ck_S0) (ck_E1 (ck_S1 p2_s1452_s ck_S0) ck_E0))⟩ (by decide +kernel)
set_option maxRecDepth 100000 in
/-- GlacierMailModel.noTable -/
noncomputable def p2_s1454 : ck_Sum := ((1, 0, 0), 245, [.inr (.inr (.inl 226)), .inl ((-2147483648), (-1), [])], ([], [], [(227, 6, 6, (0, 6, [(24, 0)]))]), ([], []), [(.inr (some (.inl (ck_one 1))), 245, ([], [], []))])
set_option maxRecDepth 100000 in
theorem p2_s1454_s {X : Int → Int} {LX : Nat} : ck_Ok p2_O X LX 342 p2_s1454 := ck_okq (cuts := []) (f := 96) ⟨p2_nmu, ck_E1 (ck_S1 p2_s283_s ck_S0) ck_E0⟩ (by decide +kernel)
set_option maxRecDepth 100000 in
/-- GlacierMailModel.table -/
noncomputable def p2_s1455 : ck_Sum := ((2, 0, 0), 245, [.inr (.inr (.inl 226)), .inl ((-2147483648), (-1), []), .inl ((-2147483648), 2147483647, [])], ([], [], [(227, 6, 6, (0, 6, [(24, 0)]))]), ([(226, 0, 0)], []), [(.inr (some (.inl (ck_one 0))), 245, ([], [], [(226, 0, 0, ck_one 1)]))])
set_option maxRecDepth 100000 in
theorem p2_s1455_s {X : Int → Int} {LX : Nat} : ck_Ok p2_O X LX 341 p2_s1455 := ck_okq (cuts := []) (f := 102) ⟨p2_nmu, ck_E1 (ck_S1 p2_s1454_s ck_S0) (ck_E1 (ck_S1 p2_s241_s ck_S0) ck_E0)⟩ (by decide +kernel)
set_option maxRecDepth 100000 in
/-- GlacierMailModel.noTable -/
noncomputable def p2_s1456 : ck_Sum := ((1, 0, 0), 245, [.inr (.inr (.inl 226)), .inl (6, 2147483647, [])], ([], [], [(227, 6, 6, (0, 6, [(24, 0)]))]), ([], []), [(.inr (some (.inl (ck_one 1))), 245, ([], [], []))])
set_option maxRecDepth 100000 in
theorem p2_s1456_s {X : Int → Int} {LX : Nat} : ck_Ok p2_O X LX 342 p2_s1456 := ck_okq (cuts := []) (f := 96) ⟨p2_nmu, ck_E1 (ck_S1 p2_s286_s ck_S0) ck_E0⟩ (by decide +kernel)
set_option maxRecDepth 100000 in
/-- GlacierMailModel.table -/
noncomputable def p2_s1457 : ck_Sum := ((2, 0, 0), 245, [.inr (.inr (.inl 226)), .inl (6, 2147483647, []), .inl ((-2147483648), 2147483647, [])], ([], [], [(227, 6, 6, (0, 6, [(24, 0)]))]), ([(226, 0, 0)], []), [(.inr (some (.inl (ck_one 0))), 245, ([], [], [(226, 0, 0, ck_one 1)]))])
set_option maxRecDepth 100000 in
theorem p2_s1457_s {X : Int → Int} {LX : Nat} : ck_Ok p2_O X LX 341 p2_s1457 := ck_okq (cuts := []) (f := 102) ⟨p2_nmu, ck_E1 (ck_S1 p2_s1456_s ck_S0) (ck_E1 (ck_S1 p2_s241_s ck_S0) ck_E0)⟩ (by decide +kernel)
set_option maxRecDepth 100000 in
/-- GlacierMailModel.noTable -/
noncomputable def p2_s1458 : ck_Sum := ((1, 0, 0), 245, [.inr (.inr (.inl 226)), .inl (0, 5, [])], ([], [], [(227, 6, 6, (0, 6, [(24, 0)]))]), ([], []), [(.inr (some (.inl (ck_one 1))), 245, ([], [], [])), (.inr (some (.inl (ck_one 0))), 245, ([], [], []))])
set_option maxRecDepth 100000 in
theorem p2_s1458_s {X : Int → Int} {LX : Nat} : ck_Ok p2_O X LX 342 p2_s1458 := ck_okq (cuts := []) (f := 96) ⟨p2_nmu, ck_E1 (ck_S1 p2_s289_s ck_S0) ck_E0⟩ (by decide +kernel)
set_option maxRecDepth 100000 in
/-- GlacierMailModel.table -/
noncomputable def p2_s1459 : ck_Sum := ((2, 0, 0), 245, [.inr (.inr (.inl 226)), .inl (0, 5, []), .inl ((-2147483648), (-1), [])], ([], [], [(227, 6, 6, (0, 6, [(24, 0)]))]), ([(226, 0, 0)], []), [(.inr (some (.inl (ck_one 0))), 245, ([], [], [(226, 0, 0, ck_one 1)]))])
set_option maxRecDepth 100000 in
theorem p2_s1459_s {X : Int → Int} {LX : Nat} : ck_Ok p2_O X LX 341 p2_s1459 := ck_okq (cuts := []) (f := 110) ⟨p2_nmu, ck_E1 (ck_S1 p2_s1458_s ck_S0) (ck_E1 (ck_S1 p2_s241_s ck_S0) (ck_E1 (ck_S1 p2_s284_s ck_S0) ck_E0))⟩ (by decide +kernel)
set_option maxRecDepth 100000 in
/-- GlacierMailModel.table -/
noncomputable def p2_s1460 : ck_Sum := ((2, 0, 0), 245, [.inr (.inr (.inl 226)), .inl (0, 5, []), .inl (6, 2147483647, [])], ([], [], [(227, 6, 6, (0, 6, [(24, 0)]))]), ([(226, 0, 0)], []), [(.inr (some (.inl (ck_one 0))), 245, ([], [], [(226, 0, 0, ck_one 1)]))])
set_option maxRecDepth 100000 in
theorem p2_s1460_s {X : Int → Int} {LX : Nat} : ck_Ok p2_O X LX 341 p2_s1460 := ck_okq (cuts := []) (f := 110) ⟨p2_nmu, ck_E1 (ck_S1 p2_s1458_s ck_S0) (ck_E1 (ck_S1 p2_s241_s ck_S0) (ck_E1 (ck_S1 p2_s287_s ck_S0) ck_E0))⟩ (by decide +kernel)
set_option maxRecDepth 100000 in
/-- GlacierMailModel.ofTable -/
noncomputable def p2_s1461 : ck_Sum := ((0, 0, 0), 245, [.inr (.inr (.inl 226)), .inl (0, 5, []), .inl (0, 5, [])], ([], [], []), ([], []), [(.inr (some (.inl (0, 20, []))), 245, ([], [], []))])
set_option maxRecDepth 100000 in
theorem p2_s1461_s {X : Int → Int} {LX : Nat} : ck_Ok p2_O X LX 343 p2_s1461 := ck_okq (cuts := []) (f := 92) ⟨p2_nmu, ck_E0⟩ (by decide +kernel)
set_option maxRecDepth 100000 in
/-- GlacierMailModel.table -/
noncomputable def p2_s1462 : ck_Sum := ((2, 0, 0), 245, [.inr (.inr (.inl 226)), .inl (0, 5, []), .inl (0, 5, [])], ([], [], [(227, 6, 6, (0, 6, [(24, 0)]))]), ([(226, 0, 0)], []), [(.inr (some (.inl (0, 20, []))), 245, ([], [], [(226, 0, 0, (0, 1, []))]))])
set_option maxRecDepth 100000 in
theorem p2_s1462_s {X : Int → Int} {LX : Nat} : ck_Ok p2_O X LX 341 p2_s1462 := ck_okq (cuts := []) (f := 112) ⟨p2_nmu, ck_E1 (ck_S1 p2_s1458_s ck_S0) (ck_E1 (ck_S1 p2_s241_s (ck_S1 p2_s242_s ck_S0)) (ck_E1 (ck_S1 p2_s290_s ck_S0) (ck_E1 (ck_S1 p2_s1461_s ck_S0) ck_E0)))⟩ (by decide +kernel)
set_option maxRecDepth 100000 in
/-- GlacierMail.apart -/
noncomputable def p2_s1463 : ck_Sum := ((8, 1, 6), 245, [.inr (.inr (.inl 1)), .inl ((-2147483648), (-1), []), .inl ((-2147483648), 2147483647, []), .inl ((-2147483648), 2147483647, [])], ([], [], []), ([], []), [(.inl 3, 245, ([], [], []))])
set_option maxRecDepth 100000 in
theorem p2_s1463_s {X : Int → Int} {LX : Nat} : ck_Ok p2_O X LX 195 p2_s1463 := ck_okq (cuts := []) (f := 76) ⟨p2_nmu, ck_E1 (ck_S1 p2_s1443_s ck_S0) ck_E0⟩ (by decide +kernel)
set_option maxRecDepth 100000 in
/-- GlacierMail.apart -/
noncomputable def p2_s1464 : ck_Sum := ((8, 1, 6), 245, [.inr (.inr (.inl 1)), .inl (6, 2147483647, []), .inl ((-2147483648), 2147483647, []), .inl ((-2147483648), 2147483647, [])], ([], [], []), ([], []), [(.inl 3, 245, ([], [], []))])
set_option maxRecDepth 100000 in
theorem p2_s1464_s {X : Int → Int} {LX : Nat} : ck_Ok p2_O X LX 195 p2_s1464 := ck_okq (cuts := []) (f := 76) ⟨p2_nmu, ck_E1 (ck_S1 p2_s1446_s ck_S0) ck_E0⟩ (by decide +kernel)
set_option maxRecDepth 100000 in
/-- GlacierMail.apart -/
noncomputable def p2_s1465 : ck_Sum := ((8, 2, 12), 245, [.inr (.inr (.inl 1)), .inl (0, 5, []), .inl ((-2147483648), (-1), []), .inl ((-2147483648), 2147483647, [])], ([], [], []), ([], []), [(.inl 3, 245, ([], [], []))])
set_option maxRecDepth 100000 in
theorem p2_s1465_s {X : Int → Int} {LX : Nat} : ck_Ok p2_O X LX 195 p2_s1465 := ck_okq (cuts := []) (f := 82) ⟨p2_nmu, ck_E1 (ck_S1 p2_s1449_s (ck_S1 p2_s1443_s ck_S0)) ck_E0⟩ (by decide +kernel)
set_option maxRecDepth 100000 in
/-- GlacierMail.apart -/
noncomputable def p2_s1466 : ck_Sum := ((8, 2, 12), 245, [.inr (.inr (.inl 1)), .inl (0, 5, []), .inl (6, 2147483647, []), .inl ((-2147483648), 2147483647, [])], ([], [], []), ([], []), [(.inl 3, 245, ([], [], []))])
set_option maxRecDepth 100000 in
theorem p2_s1466_s {X : Int → Int} {LX : Nat} : ck_Ok p2_O X LX 195 p2_s1466 := ck_okq (cuts := []) (f := 82) ⟨p2_nmu, ck_E1 (ck_S1 p2_s1449_s (ck_S1 p2_s1446_s ck_S0)) ck_E0⟩ (by decide +kernel)
set_option maxRecDepth 100000 in
/-- GlacierMail.toldApart -/
noncomputable def p2_s1467 : ck_Sum := ((1, 0, 0), 245, [.inr (.inr (.inl 1)), .inl (0, 5, []), .inl (0, 5, []), .inl ((-2147483648), 2147483647, [])], ([], [], []), ([], []), [(.inr (some (.inl (ck_one 0))), 245, ([], [], [])), (.inr (some (.inl (ck_one 1))), 245, ([], [], [(12, 3, 3, (1, 6, []))]))])
set_option maxRecDepth 100000 in
theorem p2_s1467_s {X : Int → Int} {LX : Nat} : ck_Ok p2_O X LX 51 p2_s1467 := ck_okq (cuts := [(3, [some (.inr (.inr (.inl 1))), some (.inl (0, 5, [])), some (.inl (0, 5, [])), some (.inl ((-2147483648), 2147483647, [])), some (.inl (0, 6, []))], ([], [], []), 100, .inl 4, true)]) (f := 202) ⟨p2_nmu, ck_E1 (ck_S1 p2_s1452_s ck_S0) ck_E0⟩ (by decide +kernel)
set_option maxRecDepth 100000 in
/-- GlacierMail.apart -/
noncomputable def p2_s1468 : ck_Sum := ((8, 2, 12), 245, [.inr (.inr (.inl 1)), .inl (0, 5, []), .inl (0, 5, []), .inl ((-2147483648), 2147483647, [])], ([], [], []), ([], []), [(.inl 3, 245, ([], [], [])), (.inr (some (.inl (ck_one 0))), 245, ([], [], [])), (.inr (some (.inl (ck_one 1))), 245, ([], [], [(12, 3, 3, (1, 6, []))]))])
set_option maxRecDepth 100000 in
theorem p2_s1468_s {X : Int → Int} {LX : Nat} : ck_Ok p2_O X LX 195 p2_s1468 := ck_okq (cuts := []) (f := 94) ⟨p2_nmu, ck_E1 (ck_S1 p2_s1449_s ck_S0) (ck_E1 (ck_S1 p2_s1467_s ck_S0) ck_E0)⟩ (by decide +kernel)
set_option maxRecDepth 100000 in
/-- GlacierMailModel.apart -/
noncomputable def p2_s1469 : ck_Sum := ((2, 0, 0), 245, [.inr (.inr (.inl 226)), .inl ((-2147483648), (-1), []), .inl ((-2147483648), 2147483647, []), .inl ((-2147483648), 2147483647, [])], ([], [], [(227, 6, 6, (0, 6, [(24, 0)]))]), ([(226, 0, 0)], []), [(.inr (some (.inl (ck_one 0))), 245, ([], [], [(226, 0, 0, ck_one 1)]))])
set_option maxRecDepth 100000 in
theorem p2_s1469_s {X : Int → Int} {LX : Nat} : ck_Ok p2_O X LX 344 p2_s1469 := ck_okq (cuts := []) (f := 100) ⟨p2_nmu, ck_E1 (ck_S1 p2_s1454_s ck_S0) (ck_E1 (ck_S1 p2_s241_s ck_S0) ck_E0)⟩ (by decide +kernel)
set_option maxRecDepth 100000 in
/-- GlacierMailModel.apart -/
noncomputable def p2_s1470 : ck_Sum := ((2, 0, 0), 245, [.inr (.inr (.inl 226)), .inl (6, 2147483647, []), .inl ((-2147483648), 2147483647, []), .inl ((-2147483648), 2147483647, [])], ([], [], [(227, 6, 6, (0, 6, [(24, 0)]))]), ([(226, 0, 0)], []), [(.inr (some (.inl (ck_one 0))), 245, ([], [], [(226, 0, 0, ck_one 1)]))])
set_option maxRecDepth 100000 in
theorem p2_s1470_s {X : Int → Int} {LX : Nat} : ck_Ok p2_O X LX 344 p2_s1470 := ck_okq (cuts := []) (f := 100) ⟨p2_nmu, ck_E1 (ck_S1 p2_s1456_s ck_S0) (ck_E1 (ck_S1 p2_s241_s ck_S0) ck_E0)⟩ (by decide +kernel)
set_option maxRecDepth 100000 in
/-- GlacierMailModel.apart -/
noncomputable def p2_s1471 : ck_Sum := ((2, 0, 0), 245, [.inr (.inr (.inl 226)), .inl (0, 5, []), .inl ((-2147483648), (-1), []), .inl ((-2147483648), 2147483647, [])], ([], [], [(227, 6, 6, (0, 6, [(24, 0)]))]), ([(226, 0, 0)], []), [(.inr (some (.inl (ck_one 0))), 245, ([], [], [(226, 0, 0, ck_one 1)]))])
set_option maxRecDepth 100000 in
theorem p2_s1471_s {X : Int → Int} {LX : Nat} : ck_Ok p2_O X LX 344 p2_s1471 := ck_okq (cuts := []) (f := 108) ⟨p2_nmu, ck_E1 (ck_S1 p2_s1458_s (ck_S1 p2_s1454_s ck_S0)) (ck_E1 (ck_S1 p2_s241_s ck_S0) ck_E0)⟩ (by decide +kernel)
set_option maxRecDepth 100000 in
/-- GlacierMailModel.apart -/
noncomputable def p2_s1472 : ck_Sum := ((2, 0, 0), 245, [.inr (.inr (.inl 226)), .inl (0, 5, []), .inl (6, 2147483647, []), .inl ((-2147483648), 2147483647, [])], ([], [], [(227, 6, 6, (0, 6, [(24, 0)]))]), ([(226, 0, 0)], []), [(.inr (some (.inl (ck_one 0))), 245, ([], [], [(226, 0, 0, ck_one 1)]))])
set_option maxRecDepth 100000 in
theorem p2_s1472_s {X : Int → Int} {LX : Nat} : ck_Ok p2_O X LX 344 p2_s1472 := ck_okq (cuts := []) (f := 108) ⟨p2_nmu, ck_E1 (ck_S1 p2_s1458_s (ck_S1 p2_s1456_s ck_S0)) (ck_E1 (ck_S1 p2_s241_s ck_S0) ck_E0)⟩ (by decide +kernel)
set_option maxRecDepth 100000 in
/-- GlacierMailModel.has -/
noncomputable def p2_s1473 : ck_Sum := ((0, 0, 0), 245, [.inl ((-2147483648), 2147483647, []), .inl (0, 5, [])], ([], [], []), ([], []), [(.inr (some (.inl (ck_one 0))), 245, ([], [], [])), (.inr (some (.inl (ck_one 1))), 245, ([], [], []))])
set_option maxRecDepth 100000 in
theorem p2_s1473_s {X : Int → Int} {LX : Nat} : ck_Ok p2_O X LX 346 p2_s1473 := ck_okq (cuts := []) (f := 90) ⟨p2_nmu, ck_E0⟩ (by decide +kernel)
set_option maxRecDepth 100000 in
/-- GlacierMailModel.areApart -/
noncomputable def p2_s1474 : ck_Sum := ((1, 0, 0), 245, [.inr (.inr (.inl 226)), .inl (0, 5, []), .inl (0, 5, []), .inl ((-2147483648), 2147483647, [])], ([], [], []), ([], []), [(.inr (some (.inl (0, 1, []))), 245, ([], [], []))])
set_option maxRecDepth 100000 in
theorem p2_s1474_s {X : Int → Int} {LX : Nat} : ck_Ok p2_O X LX 345 p2_s1474 := ck_okq (cuts := [(6, [some (.inr (.inr (.inl 226))), some (.inl (0, 5, [])), some (.inl (0, 5, [])), some (.inl ((-2147483648), 2147483647, [])), some (.inl (0, 1, [])), some (.inl (0, 6, []))], ([], [], []), 100, .inl 5, true)]) (f := 190) ⟨p2_nmu, ck_E1 (ck_S1 p2_s166_s ck_S0) (ck_E1 (ck_S1 p2_s1473_s ck_S0) (ck_E1 (ck_S1 p2_s1461_s ck_S0) ck_E0))⟩ (by decide +kernel)
set_option maxRecDepth 100000 in
/-- GlacierMailModel.apart -/
noncomputable def p2_s1475 : ck_Sum := ((2, 0, 0), 245, [.inr (.inr (.inl 226)), .inl (0, 5, []), .inl (0, 5, []), .inl ((-2147483648), 2147483647, [])], ([], [], [(227, 6, 6, (0, 6, [(24, 0)]))]), ([(226, 0, 0)], []), [(.inr (some (.inl (ck_one 0))), 245, ([], [], [(226, 0, 0, (0, 1, []))])), (.inr (some (.inl (ck_one 1))), 245, ([], [], [(226, 0, 0, ck_one 0)]))])
set_option maxRecDepth 100000 in
theorem p2_s1475_s {X : Int → Int} {LX : Nat} : ck_Ok p2_O X LX 344 p2_s1475 := ck_okq (cuts := []) (f := 120) ⟨p2_nmu, ck_E1 (ck_S1 p2_s1458_s ck_S0) (ck_E1 (ck_S1 p2_s241_s (ck_S1 p2_s242_s ck_S0)) (ck_E1 (ck_S1 p2_s1474_s ck_S0) ck_E0))⟩ (by decide +kernel)
set_option maxRecDepth 100000 in
/-- GlacierMail.allToldApart -/
noncomputable def p2_s1476 : ck_Sum := ((2, 0, 0), 245, [.inr (.inr (.inl 1)), .inl ((-2147483648), 2147483647, [])], ([], [], []), ([], []), [(.inr (some (.inl (ck_one 1))), 245, ([], [], [])), (.inr (some (.inl (ck_one 0))), 245, ([], [], []))])
set_option maxRecDepth 100000 in
theorem p2_s1476_s {X : Int → Int} {LX : Nat} : ck_Ok p2_O X LX 50 p2_s1476 := ck_okq (cuts := [(2, [some (.inr (.inr (.inl 1))), some (.inl ((-2147483648), 2147483647, [])), some (.inl (0, 6, [])), none], ([], [], []), 100, .inl 2, true), (20, [some (.inr (.inr (.inl 1))), some (.inl ((-2147483648), 2147483647, [])), some (.inl (0, 5, [(100, 0)])), some (.inl (1, 6, []))], ([], [], []), 300, .inl 3, true)]) (f := 200) ⟨p2_nmu, ck_E1 (ck_S1 p2_s1441_s ck_S0) (ck_E1 (ck_S1 p2_s1467_s ck_S0) ck_E0)⟩ (by decide +kernel)
set_option maxRecDepth 100000 in
/-- java/lang/Integer.bitCount -/
noncomputable def p2_s1477 : ck_Sum := ((0, 0, 0), 245, [.inl ((-2147483648), 2147483647, [])], ([], [], []), ([], []), [(.inr (some (.inl (0, 63, []))), 245, ([], [], []))])
set_option maxRecDepth 100000 in
theorem p2_s1477_s {X : Int → Int} {LX : Nat} : ck_Ok p2_O X LX 49 p2_s1477 := ck_okq (cuts := []) (f := 154) ⟨p2_nmu, ck_E0⟩ (by decide +kernel)
set_option maxRecDepth 100000 in
/-- GlacierMail.poles -/
noncomputable def p2_s1478 : ck_Sum := ((3, 0, 0), 245, [.inr (.inr (.inl 1))], ([], [], []), ([], []), [(.inr (some (.inl ((-1), 2147483646, []))), 245, ([], [], []))])
set_option maxRecDepth 100000 in
theorem p2_s1478_s {X : Int → Int} {LX : Nat} : ck_Ok p2_O X LX 48 p2_s1478 := ck_okq (cuts := [(4, [some (.inr (.inr (.inl 1))), some (.inl ((-1), 2147483646, [])), some (.inl (0, 2147483647, [])), none], ([], [], []), 100, .inl 2, true)]) (f := 206) ⟨p2_nmu, ck_E1 (ck_S1 p2_s1476_s ck_S0) (ck_E1 (ck_S1 p2_s1477_s ck_S0) ck_E0)⟩ (by decide +kernel)
set_option maxRecDepth 100000 in
/-- GlacierMailModel.poles -/
noncomputable def p2_s1479 : ck_Sum := ((2, 0, 0), 245, [.inr (.inr (.inl 226))], ([], [], [(227, 6, 6, (0, 6, [(24, 0)]))]), ([(226, 0, 0)], []), [(.inr (some (.inl ((-1), 2147483646, []))), 245, ([], [], [(226, 0, 0, ck_one 0)]))])
set_option maxRecDepth 100000 in
theorem p2_s1479_s {X : Int → Int} {LX : Nat} : ck_Ok p2_O X LX 347 p2_s1479 := ck_okq (cuts := [(9, [some (.inr (.inr (.inl 226))), some (.inl ((-1), 2147483646, [])), some (.inl (0, 2147483647, [])), none, none, none], ([], [], [(226, 0, 0, ck_one 0), (227, 6, 6, (0, 6, [(24, 0)]))]), 100, .inl 2, true), (43, [some (.inr (.inr (.inl 226))), some (.inl ((-1), 2147483646, [])), some (.inl (0, 2147483646, [(100, 0)])), some (.inl (0, 1, [])), some (.inl (0, 6, [])), none], ([], [], [(226, 0, 0, ck_one 0), (227, 6, 6, (0, 6, [(24, 0)]))]), 300, .inl 4, true), (58, [some (.inr (.inr (.inl 226))), some (.inl ((-1), 2147483646, [])), some (.inl (0, 2147483646, [(100, 0)])), some (.inl (0, 1, [])), some (.inl (0, 5, [(300, 0)])), some (.inl (0, 5, []))], ([], [], [(227, 6, 6, (1, 6, [(24, 0)])), (226, 0, 0, ck_one 0)]), 500, .inl 5, true)]) (f := 282) ⟨p2_nmu, ck_E1 (ck_S1 p2_s166_s ck_S0) (ck_E1 (ck_S1 p2_s1477_s ck_S0) (ck_E1 (ck_S1 p2_s1474_s ck_S0) ck_E0))⟩ (by decide +kernel)
set_option maxRecDepth 100000 in
/-- GlacierMail.areReadings -/
noncomputable def p2_s1480 : ck_Sum := ((0, 0, 0), 245, [.inr (.inr (.inl 1)), .inl (0, 400, [])], ([], [], []), ([], []), [(.inr (some (.inl (ck_one 0))), 245, ([], [], [])), (.inr (some (.inl (ck_one 1))), 245, ([], [], []))])
set_option maxRecDepth 100000 in
theorem p2_s1480_s {X : Int → Int} {LX : Nat} : ck_Ok p2_O X LX 198 p2_s1480 := ck_okq (cuts := [(10, [some (.inr (.inr (.inl 1))), some (.inl (0, 400, [])), some (.inl (0, 400, [])), none, none], ([], [], []), 100, .inl 2, true)]) (f := 302) ⟨p2_nmu, ck_E0⟩ (by decide +kernel)
set_option maxRecDepth 100000 in
/-- GlacierMail.fitsReadings -/
noncomputable def p2_s1481 : ck_Sum := ((1, 0, 0), 245, [.inr (.inr (.inl 1)), .inl (0, 5, []), .inl (0, 400, [])], ([], [], []), ([], []), [(.inr (some (.inl (ck_one 1))), 245, ([], [], [])), (.inr (some (.inl (ck_one 0))), 245, ([], [], []))])
set_option maxRecDepth 100000 in
theorem p2_s1481_s {X : Int → Int} {LX : Nat} : ck_Ok p2_O X LX 199 p2_s1481 := ck_okq (cuts := [(2, [some (.inr (.inr (.inl 1))), some (.inl (0, 5, [])), some (.inl (0, 400, [])), some (.inl (0, 400, []))], ([], [], []), 100, .inl 3, true)]) (f := 214) ⟨p2_nmu, ck_E1 (ck_S1 p2_s1452_s ck_S0) ck_E0⟩ (by decide +kernel)
set_option maxRecDepth 100000 in
/-- GlacierMail.fit -/
noncomputable def p2_s1482 : ck_Sum := ((6, 1, 6), 245, [.inr (.inr (.inl 1))], ([], [], [(1, 1, 1, (0, 400, [(6, 0)]))]), ([(1, 1, 1)], []), [(.inl 0, 245, ([], [], [(1, 1, 1, ck_one 0)])), (.inr (some (.inl ((-2147483648), 2147483647, []))), 245, ([], [], [(1, 1, 1, ck_one 0)]))])
set_option maxRecDepth 100000 in
theorem p2_s1482_s {X : Int → Int} {LX : Nat} : ck_Ok p2_O X LX 197 p2_s1482 := ck_okq (cuts := [(33, [some (.inr (.inr (.inl 1))), some (.inl (0, 400, [(6, 0)])), some (.inl ((-2147483648), 2147483647, [])), some (.inl (0, 6, []))], ([], [], [(1, 1, 1, ck_one 0)]), 100, .inl 3, true)]) (f := 170) ⟨p2_nmu, ck_E1 (ck_S1 p2_s1480_s ck_S0) (ck_E1 (ck_S1 p2_s1441_s ck_S0) (ck_E1 (ck_S1 p2_s1481_s ck_S0) ck_E0))⟩ (by decide +kernel)
set_option maxRecDepth 100000 in
/-- GlacierMailModel.in -/
noncomputable def p2_s1483 : ck_Sum := ((0, 0, 0), 245, [.inl ((-128), 127, []), .inl (ck_one 0), .inl ((-1), 5, [])], ([], [], []), ([], []), [(.inr (some (.inl (ck_one 0))), 245, ([], [], [])), (.inr (some (.inl (ck_one 1))), 245, ([], [], []))])
set_option maxRecDepth 100000 in
theorem p2_s1483_s {X : Int → Int} {LX : Nat} : ck_Ok p2_O X LX 286 p2_s1483 := ck_okq (cuts := []) (f := 88) ⟨p2_nmu, ck_E0⟩ (by decide +kernel)
set_option maxRecDepth 100000 in
/-- GlacierMailModel.noLane -/
noncomputable def p2_s1484 : ck_Sum := ((1, 0, 0), 245, [.inr (.inr (.inl 226)), .inl ((-128), 127, [])], ([], [], []), ([], []), [(.inr (some (.inl (ck_one 1))), 245, ([], [], [])), (.inr (some (.inl (ck_one 0))), 245, ([], [], []))])
set_option maxRecDepth 100000 in
theorem p2_s1484_s {X : Int → Int} {LX : Nat} : ck_Ok p2_O X LX 288 p2_s1484 := ck_okq (cuts := []) (f := 92) ⟨p2_nmu, ck_E1 (ck_S1 p2_s166_s ck_S0) (ck_E1 (ck_S1 p2_s1483_s ck_S0) ck_E0)⟩ (by decide +kernel)
set_option maxRecDepth 100000 in
/-- GlacierMailModel.in -/
noncomputable def p2_s1485 : ck_Sum := ((0, 0, 0), 245, [.inl ((-128), 127, []), .inl (ck_one 0), .inl (ck_one 20)], ([], [], []), ([], []), [(.inr (some (.inl (ck_one 0))), 245, ([], [], [])), (.inr (some (.inl (ck_one 1))), 245, ([], [], []))])
set_option maxRecDepth 100000 in
theorem p2_s1485_s {X : Int → Int} {LX : Nat} : ck_Ok p2_O X LX 286 p2_s1485 := ck_okq (cuts := []) (f := 88) ⟨p2_nmu, ck_E0⟩ (by decide +kernel)
set_option maxRecDepth 100000 in
/-- GlacierMailModel.ofTable -/
noncomputable def p2_s1486 : ck_Sum := ((0, 0, 0), 245, [.inr (.inr (.inl 226)), .inl (0, 5, []), .inl ((-128), 127, [])], ([], [], []), ([], []), [(.inr (some (.inl ((-1), 999, []))), 245, ([], [], []))])
set_option maxRecDepth 100000 in
theorem p2_s1486_s {X : Int → Int} {LX : Nat} : ck_Ok p2_O X LX 343 p2_s1486 := ck_okq (cuts := []) (f := 92) ⟨p2_nmu, ck_E0⟩ (by decide +kernel)
set_option maxRecDepth 100000 in
/-- GlacierMailModel.fit -/
noncomputable def p2_s1487 : ck_Sum := ((2, 0, 0), 245, [.inr (.inr (.inl 226))], ([], [], [(227, 6, 6, (0, 6, [(24, 0)])), (226, 9, 9, (0, 400, [(1, 0)])), (226, 8, 8, (0, 400, [(7, 0)]))]), ([(226, 0, 0), (226, 8, 10)], []), [(.inr (some (.inl (ck_one 0))), 245, ([], [], [(226, 0, 0, ck_one 1), (226, 9, 9, ck_one 0), (226, 8, 8, ck_one 0), (226, 10, 10, (0, 400, [(7, 0)]))])), (.inr (some (.inl ((-2147483648), 2147483647, []))), 245, ([], [], [(226, 10, 10, (0, 400, [(7, 0)])), (226, 9, 9, ck_one 0), (226, 8, 8, ck_one 0), (226, 0, 0, ck_one 0)]))])
noncomputable def p2_s1487_E : List (Nat × List ck_Sum) := [(244, [p2_s146]), (282, [p2_s242, p2_s241]), (288, [p2_s1484]), (286, [p2_s1485]), (343, [p2_s1486])]
/-! fit's two loops, one within the other, by hand: the outer over the tables, the inner over the stores' pairs. -/
noncomputable def ft_F : ck_F := ([], [], [(226, 10, 10, (0, 400, [(7, 0)])), (226, 9, 9, ck_one 0), (226, 8, 8, ck_one 0), (226, 0, 0, ck_one 0), (227, 6, 6, (0, 6, [(24, 0)]))])
noncomputable def ft_A (t : ck_I) (k : Option ck_A) : ck_AL := [some (.inr (.inr (.inl 226))), some (.inl (ck_one 1)), some (.inl ((-2147483648), 2147483647, [])), some (.inl t), k]
noncomputable def ft_21 : Nat × ck_C := (21, [some (.inr (.inr (.inl 226))), some (.inl (0, 1, [])), some (.inl (0, 400, [])), none, none], ([], [], [(226, 9, 9, ck_one 0), (226, 8, 8, ck_one 0), (226, 10, 10, (0, 400, [(7, 0)])), (226, 0, 0, ck_one 0), (227, 6, 6, (0, 6, [(24, 0)]))]), 100, .inl 2, true)
noncomputable def ft_C0 : ck_C := (ft_A (ck_one 0) none, ft_F, 0, .inl 3, true)
noncomputable def ft_Ck : ck_C := (ft_A (0, 5, [(300, 0)]) (some (.inl (ck_one 0))), ft_F, 0, .inl 4, true)
noncomputable def ft_Cn : ck_C := (ft_A (0, 5, [(300, 0)]) (some (.inl (2, 400, [(301, 2)]))), ft_F, 0, .inl 4, true)
noncomputable def ft_Ct : ck_C := (ft_A (1, 6, [(300, 1)]) none, ft_F, 0, .inl 3, true)
set_option maxRecDepth 100000 in
theorem ft_a : (decide (p2_s1487.2.2.1.length ≤ gm_ml 348) && ck_go p2_O none [] p2_s1487_E 348 p2_s1487.1.1 p2_s1487.2.1 p2_s1487.2.2.2.2.1 p2_s1487.2.2.2.2.2 [ft_21, (110, ft_C0)] 600 false [(110, ft_C0, 0, 0, 245)] p2_s1487.1.2.1 p2_s1487.1.2.2 0 (p2_s1487.2.2.1.map some ++ List.replicate (gm_ml 348 - p2_s1487.2.2.1.length) none) [] p2_s1487.2.1 p2_s1487.2.2.2.1) = true := by decide +kernel
set_option maxRecDepth 100000 in
theorem ft_b : ck_go p2_O none [] p2_s1487_E 348 2 245 p2_s1487.2.2.2.2.1 p2_s1487.2.2.2.2.2 [(124, ft_Ck)] 100 true [(124, ft_Ck, 0, 0, 245)] 0 0 110 (ft_A (0, 6, [(300, 0)]) none) [] 245 ft_F = true := by decide +kernel
set_option maxRecDepth 100000 in
theorem ft_c : ck_go p2_O none [] p2_s1487_E 348 2 245 p2_s1487.2.2.2.2.1 p2_s1487.2.2.2.2.2 [(124, ft_Cn)] 100 true [(124, ft_Cn, 0, 0, 245)] 0 0 133 (ft_A (0, 5, [(300, 0)]) (some (.inl (0, 398, [(301, 0)])))) [] 245 ft_F = true := by decide +kernel
set_option maxRecDepth 100000 in
theorem ft_d : ck_go p2_O none [] p2_s1487_E 348 2 245 p2_s1487.2.2.2.2.1 p2_s1487.2.2.2.2.2 [(110, ft_Ct)] 100 true [(110, ft_Ct, 0, 0, 245)] 0 0 171 (ft_A (0, 5, [(300, 0)]) none) [] 245 ft_F = true := by decide +kernel
/-- the locals -/
noncomputable def ft_P (σ : Nat → Int) (a : ck_I) (L : gm_L) (x : Int) : Prop := L.length = 5 ∧ L[0]? = some (some (gm_vr 226)) ∧ L[1]? = some (some (gm_vi 1)) ∧ (∃ y, L[2]? = some (some (gm_vi y)) ∧ gm_ir y) ∧ L[3]? = some (some (gm_vi x)) ∧ gm_ir x ∧ ck_gi σ a x
theorem ft_mk {σ : Nat → Int} {a : ck_I} {L : gm_L} {x : Int} {k : Option ck_A} (h : ft_P σ a L x) (h4 : ∀ b, k = some b → ∃ u, L[4]? = some (some u) ∧ ck_ga σ b u) : ck_gl σ (ft_A a k) L := by
  obtain ⟨hl, h0, h1, ⟨y, h2, r2⟩, h3, r3, g3⟩ := h
  have r21 : -2147483648 ≤ y := r2.1
  have r22 : y < 2147483648 := r2.2
  refine ⟨by rw [hl]; rfl, fun j b hb => ?_⟩
  rcases j with _ | _ | _ | _ | _ | j
  · have hb : some (some (.inr (.inr (.inl 226)))) = some (some b) := hb
    cases hb
    exact ⟨_, h0, rfl⟩
  · have hb : some (some (.inl (ck_one 1))) = some (some b) := hb
    cases hb
    exact ⟨_, h1, 1, rfl, ⟨by decide, by decide⟩, Int.le_refl _, Int.le_refl _, fun q hq => nomatch hq⟩
  · have hb : some (some (.inl ((-2147483648), 2147483647, []))) = some (some b) := hb
    cases hb
    exact ⟨_, h2, y, rfl, r2, r21, by show y ≤ 2147483647; omega, fun q hq => nomatch hq⟩
  · have hb : some (some (.inl a)) = some (some b) := hb
    cases hb
    exact ⟨_, h3, x, rfl, r3, g3⟩
  · have hb : some k = some (some b) := hb
    injection hb with hb
    exact h4 b hb
  · have hb : none = some (some b) := hb
    cases hb
theorem ft_un {σ : Nat → Int} {a : ck_I} {L : gm_L} {k : Option ck_A} (h : ck_gl σ (ft_A a k) L) : ∃ x, ft_P σ a L x := by
  have hl : 5 = L.length := h.1
  obtain ⟨u0, l0, g0⟩ := h.2 0 (.inr (.inr (.inl 226))) rfl
  cases g0
  obtain ⟨u1, l1, x1, rfl, -, e1, e2, -⟩ := h.2 1 (.inl (ck_one 1)) rfl
  have e1 : 1 ≤ x1 := e1
  have e2 : x1 ≤ 1 := e2
  have e3 : x1 = 1 := by omega
  subst e3
  obtain ⟨u2, l2, x2, rfl, r2, -⟩ := h.2 2 (.inl ((-2147483648), 2147483647, [])) rfl
  obtain ⟨u3, l3, x3, rfl, r3, g3⟩ := h.2 3 (.inl a) rfl
  exact ⟨x3, hl.symm, l0, l1, ⟨x2, l2, r2⟩, l3, r3, g3⟩
theorem ft_gi {σ : Nat → Int} {a b x z : Int} {q : Nat} (ha : a ≤ x) (hb : x ≤ b) (hq : q < 1000000) (hx : x = σ q + z) : ck_gi σ (a, b, [(q, z)]) x := by
  refine ⟨ha, hb, fun p hp => ?_⟩
  rw [List.mem_singleton.mp hp]
  exact ⟨fun _ => hx, fun h => absurd h (by show ¬ 1000000 ≤ q; omega)⟩
theorem ft_u1 {σ : Nat → Int} {s : Nat} {v : Int} : ck_us σ s v s = v := if_pos rfl
theorem ft_u2 {σ : Nat → Int} {s q : Nat} {v : Int} (h : ¬ q = s) : ck_us σ s v q = σ q := if_neg h
section FT
variable {X : Int → Int} {LX : Nat}
theorem p2_s1487_s : ck_Ok p2_O X LX 348 p2_s1487 := by
  have hE : ck_nmu p2_O ∧ ck_OkE p2_O X LX p2_s1487_E := ⟨p2_nmu, ck_E1 (ck_S1 p2_s146_s ck_S0) (ck_E1 (ck_S1 p2_s242_s (ck_S1 p2_s241_s ck_S0)) (ck_E1 (ck_S1 p2_s1484_s ck_S0) (ck_E1 (ck_S1 p2_s1485_s ck_S0) (ck_E1 (ck_S1 p2_s1486_s ck_S0) ck_E0))))⟩
  refine ck_ok_st (cuts := [ft_21, (110, ft_C0)]) (by decide +kernel) hE ft_a (fun h hm => ?_)
  rw [List.mem_singleton.mp hm]
  refine ⟨List.mem_cons_of_mem _ (List.mem_singleton.mpr rfl), fun σ K0 R0 M0 => ?_⟩
  have step : ∀ (t : Int) (L : gm_L) (K : gm_K) (R : gm_R) (M : gm_M), 0 ≤ t → t ≤ 6 → ft_P σ (0, 6, []) L t → gm_Fx p2_O 245 K R M → ck_gf σ ft_F 245 K R M → ck_fr p2_s1487.2.2.2.2.1 245 K0 R0 M0 245 K R M → (t ≤ 5 → ∀ (L : gm_L) (K : gm_K) (R : gm_R) (M : gm_M), ft_P σ (0, 6, []) L (t + 1) → gm_Fx p2_O 245 K R M → ck_gf σ ft_F 245 K R M → ck_fr p2_s1487.2.2.2.2.1 245 K0 R0 M0 245 K R M → gm_Wp X LX 2 0 0 348 110 L [] 245 K R M (ck_Q p2_O σ p2_s1487.2.2.2.2.1 245 K0 R0 M0 p2_s1487.2.2.2.2.2)) → gm_Wp X LX 2 0 0 348 110 L [] 245 K R M (ck_Q p2_O σ p2_s1487.2.2.2.2.1 245 K0 R0 M0 p2_s1487.2.2.2.2.2) := by
    intro t L K R M t0 t6 hP hF hf hfr H
    have s1 : ∀ s, s < 100 → ck_us σ 300 t s = σ s := fun s hs => ft_u2 (by omega)
    have istep : ∀ (k : Int) (L : gm_L) (K : gm_K) (R : gm_R) (M : gm_M), (∃ m : Nat, k = 2 * (m : Int)) → k ≤ 400 → ft_P (ck_us σ 300 t) (0, 5, [(300, 0)]) L t → L[4]? = some (some (gm_vi k)) → gm_Fx p2_O 245 K R M → ck_gf σ ft_F 245 K R M → ck_fr p2_s1487.2.2.2.2.1 245 K0 R0 M0 245 K R M → (k + 2 ≤ 400 → ∀ (L : gm_L) (K : gm_K) (R : gm_R) (M : gm_M), ft_P (ck_us σ 300 t) (0, 5, [(300, 0)]) L t → L[4]? = some (some (gm_vi (k + 2))) → gm_Fx p2_O 245 K R M → ck_gf σ ft_F 245 K R M → ck_fr p2_s1487.2.2.2.2.1 245 K0 R0 M0 245 K R M → gm_Wp X LX 2 0 0 348 124 L [] 245 K R M (ck_Q p2_O σ p2_s1487.2.2.2.2.1 245 K0 R0 M0 p2_s1487.2.2.2.2.2)) → gm_Wp X LX 2 0 0 348 124 L [] 245 K R M (ck_Q p2_O σ p2_s1487.2.2.2.2.1 245 K0 R0 M0 p2_s1487.2.2.2.2.2) := by
      intro k L K R M hm hk hP h4 hF hf hfr HI
      obtain ⟨m, hm⟩ := hm
      have t5 : t ≤ 5 := hP.2.2.2.2.2.2.2.1
      obtain ⟨e1, e2⟩ := (hf.2.2 (226, 10, 10, (0, 400, [(7, 0)])) (List.mem_cons_self ..)).2 10 (Int.le_refl _) (Int.le_refl _)
      have e3 : (0 : Int) ≤ M 226 10 := e2.1
      have e4 : M 226 10 ≤ (400 : Int) := e2.2.1
      refine gm_sz (gm_p_load (pc := 124) (i := .iload 4) (sr := 0) (j := 4) (by decide +kernel) rfl h4 rfl) ?_
      refine gm_sz (gm_p_load (pc := 126) (i := .aload_n 0) (sr := 2) (j := 0) (by decide +kernel) rfl hP.2.1 rfl) ?_
      refine gm_sz (gm_p_get (pc := 127) (ix := 109) (ci := 11) (j := 10) (by decide +kernel) (md_mo hF).1 (md_mo hF).2 (by decide +kernel)) ?_
      rw [if_neg (show ¬ gm_isr 11 10 = true by decide +kernel)]
      have e5 : M 226 ((10 : Nat) : Int) = M 226 10 := rfl
      refine gm_b_ic (cc := .ge) (pc := 130) (off := 41) (by decide +kernel) (by decide) (fun _ => ?_) (fun hp => ?_)
      · refine ck_go_s (σ0 := σ) (cuts := [(110, ft_Ct)]) (by decide +kernel) hE ck_X0 ck_l0 100 true [(110, ft_Ct, 0, 0, 245)] 0 0 171 (ft_A (0, 5, [(300, 0)]) none) [] 245 ft_F (ck_us σ 300 t) L [] K R M s1 (fun h hm => ?_) ⟨hF, ft_mk hP (fun b hb => nomatch hb), rfl, (ck_nF_s (by decide +kernel)).mpr hf, hfr⟩ ft_d
        rw [List.mem_singleton.mp hm]
        refine ⟨List.mem_singleton.mpr rfl, fun v _ bc bs L1 K1 R1 M1 _ _ hS _ => ?_⟩
        refine gm_Wp_wk (Nat.le_refl _) (Nat.zero_le _) (Nat.zero_le _) ?_
        obtain ⟨hF1, hl1, _, hf1, hfr1⟩ := hS
        have hl1 : ck_gl (ck_us σ 300 t) (ft_A (1, 6, [(300, 1)]) none) L1 := hl1
        have hf1 : ck_gf (ck_us σ 300 t) ft_F 245 K1 R1 M1 := hf1
        obtain ⟨x1, p1, p2, p3, p4, p5, p6, p7⟩ := ft_un hl1
        have x1t : x1 = t + 1 := by
          have := (p7.2.2 (300, 1) (List.mem_singleton.mpr rfl)).1 (by decide)
          have : x1 = ck_us σ 300 t 300 + 1 := this
          rw [ft_u1] at this
          exact this
        rw [x1t] at p5 p6
        exact H t5 L1 K1 R1 M1 ⟨p1, p2, p3, p4, p5, p6, by show (0 : Int) ≤ t + 1; omega, by show t + 1 ≤ (6 : Int); omega, fun q hq => nomatch hq⟩ hF1 ((ck_nF_s (by decide +kernel)).mp hf1) hfr1
      · rw [gm_cm_w ⟨by omega, by omega⟩ ⟨by omega, by omega⟩] at hp
        have hp : ¬ M 226 10 ≤ k := hp
        have k8 : k ≤ 398 := by omega
        have u3 : ck_us (ck_us σ 300 t) 301 k 300 = t := by rw [ft_u2 (by decide), ft_u1]
        have s2 : ∀ s, s < 100 → ck_us (ck_us σ 300 t) 301 k s = σ s := fun s hs => by rw [ft_u2 (by omega), ft_u2 (by omega)]
        obtain ⟨p1, p2, p3, p4, p5, p6, p7⟩ := hP
        refine ck_go_s (σ0 := σ) (cuts := [(124, ft_Cn)]) (by decide +kernel) hE ck_X0 ck_l0 100 true [(124, ft_Cn, 0, 0, 245)] 0 0 133 (ft_A (0, 5, [(300, 0)]) (some (.inl (0, 398, [(301, 0)])))) [] 245 ft_F (ck_us (ck_us σ 300 t) 301 k) L [] K R M s2 (fun h hm => ?_) ⟨hF, ft_mk ⟨p1, p2, p3, p4, p5, p6, ft_gi t0 t5 (by decide) (by rw [u3]; omega)⟩ (fun b hb => ?_), rfl, (ck_nF_s (by decide +kernel)).mpr ((ck_nF_s (by decide +kernel)).mpr hf), hfr⟩ ft_c
        · rw [List.mem_singleton.mp hm]
          refine ⟨List.mem_singleton.mpr rfl, fun v _ bc bs L1 K1 R1 M1 _ _ hS _ => ?_⟩
          refine gm_Wp_wk (Nat.le_refl _) (Nat.zero_le _) (Nat.zero_le _) ?_
          obtain ⟨hF1, hl1, _, hf1, hfr1⟩ := hS
          have hl1 : ck_gl (ck_us (ck_us σ 300 t) 301 k) (ft_A (0, 5, [(300, 0)]) (some (.inl (2, 400, [(301, 2)])))) L1 := hl1
          have hf1 : ck_gf (ck_us (ck_us σ 300 t) 301 k) ft_F 245 K1 R1 M1 := hf1
          obtain ⟨x1, p1, p2, p3, p4, p5, p6, p7⟩ := ft_un hl1
          have x1t : x1 = t := by
            have := (p7.2.2 (300, 0) (List.mem_singleton.mpr rfl)).1 (by decide)
            have : x1 = ck_us (ck_us σ 300 t) 301 k 300 + 0 := this
            rw [u3] at this
            omega
          rw [x1t] at p5 p6
          obtain ⟨u4, l4, x4, rfl, -, g4⟩ := hl1.2 4 (.inl (2, 400, [(301, 2)])) rfl
          have x4k : x4 = k + 2 := by
            have := (g4.2.2 (301, 2) (List.mem_singleton.mpr rfl)).1 (by decide)
            have : x4 = ck_us (ck_us σ 300 t) 301 k 301 + 2 := this
            rw [ft_u1] at this
            exact this
          rw [x4k] at l4
          exact HI (by omega) L1 K1 R1 M1 ⟨p1, p2, p3, p4, p5, p6, ft_gi t0 t5 (by decide) (by rw [ft_u1]; omega)⟩ l4 hF1 ((ck_nF_s (by decide +kernel)).mp ((ck_nF_s (by decide +kernel)).mp hf1)) hfr1
        · cases hb
          exact ⟨_, h4, k, rfl, ⟨by omega, by omega⟩, ft_gi (by omega) k8 (by decide) (by rw [ft_u1]; omega)⟩
    have inner : ∀ (i : Nat) (k : Int) (L : gm_L) (K : gm_K) (R : gm_R) (M : gm_M), (∃ m : Nat, k = 2 * (m : Int)) → k ≤ 400 → 400 - k ≤ 2 * (i : Int) → ft_P (ck_us σ 300 t) (0, 5, [(300, 0)]) L t → L[4]? = some (some (gm_vi k)) → gm_Fx p2_O 245 K R M → ck_gf σ ft_F 245 K R M → ck_fr p2_s1487.2.2.2.2.1 245 K0 R0 M0 245 K R M → gm_Wp X LX 2 0 0 348 124 L [] 245 K R M (ck_Q p2_O σ p2_s1487.2.2.2.2.1 245 K0 R0 M0 p2_s1487.2.2.2.2.2) := by
      intro i
      induction i with
      | zero =>
        intro k L K R M hm hk hi hP h4 hF hf hfr
        exact istep k L K R M hm hk hP h4 hF hf hfr (fun h => absurd h (by omega))
      | succ i ih =>
        intro k L K R M hm hk hi hP h4 hF hf hfr
        refine istep k L K R M hm hk hP h4 hF hf hfr (fun h L1 K1 R1 M1 hP1 h41 hF1 hf1 hfr1 => ih (k + 2) L1 K1 R1 M1 ?_ h (by omega) hP1 h41 hF1 hf1 hfr1)
        obtain ⟨m, hm⟩ := hm
        exact ⟨m + 1, by omega⟩
    refine ck_go_s (σ0 := σ) (cuts := [(124, ft_Ck)]) (by decide +kernel) hE ck_X0 ck_l0 100 true [(124, ft_Ck, 0, 0, 245)] 0 0 110 (ft_A (0, 6, [(300, 0)]) none) [] 245 ft_F (ck_us σ 300 t) L [] K R M s1 (fun h hm => ?_) ⟨hF, ft_mk ⟨hP.1, hP.2.1, hP.2.2.1, hP.2.2.2.1, hP.2.2.2.2.1, hP.2.2.2.2.2.1, ft_gi t0 t6 (by decide) (by rw [ft_u1]; omega)⟩ (fun b hb => nomatch hb), rfl, (ck_nF_s (by decide +kernel)).mpr hf, hfr⟩ ft_b
    rw [List.mem_singleton.mp hm]
    refine ⟨List.mem_singleton.mpr rfl, fun v _ bc bs L1 K1 R1 M1 _ _ hS _ => ?_⟩
    refine gm_Wp_wk (Nat.le_refl _) (Nat.zero_le _) (Nat.zero_le _) ?_
    obtain ⟨hF1, hl1, _, hf1, hfr1⟩ := hS
    have hl1 : ck_gl (ck_us σ 300 t) (ft_A (0, 5, [(300, 0)]) (some (.inl (ck_one 0)))) L1 := hl1
    have hf1 : ck_gf (ck_us σ 300 t) ft_F 245 K1 R1 M1 := hf1
    obtain ⟨x1, hP1⟩ := ft_un hl1
    have x1t : x1 = t := by
      have := (hP1.2.2.2.2.2.2.2.2 (300, 0) (List.mem_singleton.mpr rfl)).1 (by decide)
      have : x1 = ck_us σ 300 t 300 + 0 := this
      rw [ft_u1] at this
      omega
    rw [x1t] at hP1
    obtain ⟨u4, l4, x4, rfl, -, e1, e2, -⟩ := hl1.2 4 (.inl (ck_one 0)) rfl
    have e1 : 0 ≤ x4 := e1
    have e2 : x4 ≤ 0 := e2
    have e3 : x4 = 0 := by omega
    rw [e3] at l4
    exact inner 200 0 L1 K1 R1 M1 ⟨0, rfl⟩ (by decide) (by decide) hP1 l4 hF1 ((ck_nF_s (by decide +kernel)).mp hf1) hfr1
  have outer : ∀ (j : Nat) (t : Int) (L : gm_L) (K : gm_K) (R : gm_R) (M : gm_M), 0 ≤ t → t ≤ 6 → 6 - t ≤ (j : Int) → ft_P σ (0, 6, []) L t → gm_Fx p2_O 245 K R M → ck_gf σ ft_F 245 K R M → ck_fr p2_s1487.2.2.2.2.1 245 K0 R0 M0 245 K R M → gm_Wp X LX 2 0 0 348 110 L [] 245 K R M (ck_Q p2_O σ p2_s1487.2.2.2.2.1 245 K0 R0 M0 p2_s1487.2.2.2.2.2) := by
    intro j
    induction j with
    | zero =>
      intro t L K R M t0 t6 tj hP hF hf hfr
      exact step t L K R M t0 t6 hP hF hf hfr (fun h => absurd h (by omega))
    | succ j ih =>
      intro t L K R M t0 t6 tj hP hF hf hfr
      exact step t L K R M t0 t6 hP hF hf hfr (fun h L1 K1 R1 M1 hP1 hF1 hf1 hfr1 => ih (t + 1) L1 K1 R1 M1 (by omega) (by omega) (by omega) hP1 hF1 hf1 hfr1)
  intro v _ bc bs L K R M _ _ hS _
  refine gm_Wp_wk (Nat.le_refl _) (Nat.zero_le _) (Nat.zero_le _) ?_
  obtain ⟨hF, hl, _, hf, hfr⟩ := hS
  have hl : ck_gl σ (ft_A (ck_one 0) none) L := hl
  have hf : ck_gf σ ft_F 245 K R M := hf
  obtain ⟨x, p1, p2, p3, p4, p5, p6, p7, p8, p9⟩ := ft_un hl
  have p7 : 0 ≤ x := p7
  have p8 : x ≤ 0 := p8
  exact outer 6 x L K R M p7 (by omega) (by omega) ⟨p1, p2, p3, p4, p5, p6, p7, by show x ≤ 6; omega, fun q hq => nomatch hq⟩ hF hf hfr
end FT
end
/-! 78r80a19.sf -/
section
/-! EVERY CALL ENDS, whatever was done before (laid by wip/am/p2k.py). -/
set_option maxRecDepth 100000 in
/-- GlacierMail.soonest -/
noncomputable def p2_s1488 : ck_Sum := ((8, 1, 6), 245, [.inr (.inr (.inl 1)), .inl ((-2147483648), (-1), []), .inl ((-2147483648), 2147483647, []), .inl (0, 1, [])], ([], [], []), ([], []), [(.inl 3, 245, ([], [], []))])
set_option maxRecDepth 100000 in
theorem p2_s1488_s {X : Int → Int} {LX : Nat} : ck_Ok p2_O X LX 201 p2_s1488 := ck_okq (cuts := []) (f := 76) ⟨p2_nmu, ck_E1 (ck_S1 p2_s322_s ck_S0) ck_E0⟩ (by decide +kernel)
set_option maxRecDepth 100000 in
/-- GlacierMail.soonest -/
noncomputable def p2_s1489 : ck_Sum := ((8, 1, 6), 245, [.inr (.inr (.inl 1)), .inl (8, 2147483647, []), .inl ((-2147483648), 2147483647, []), .inl (0, 1, [])], ([], [], []), ([], []), [(.inl 3, 245, ([], [], []))])
set_option maxRecDepth 100000 in
theorem p2_s1489_s {X : Int → Int} {LX : Nat} : ck_Ok p2_O X LX 201 p2_s1489 := ck_okq (cuts := []) (f := 76) ⟨p2_nmu, ck_E1 (ck_S1 p2_s325_s ck_S0) ck_E0⟩ (by decide +kernel)
set_option maxRecDepth 100000 in
/-- GlacierMail.soonest -/
noncomputable def p2_s1490 : ck_Sum := ((8, 2, 12), 245, [.inr (.inr (.inl 1)), .inl (0, 7, []), .inl ((-2147483648), (-1), []), .inl (0, 1, [])], ([], [], []), ([], []), [(.inl 3, 245, ([], [], []))])
set_option maxRecDepth 100000 in
theorem p2_s1490_s {X : Int → Int} {LX : Nat} : ck_Ok p2_O X LX 201 p2_s1490 := ck_okq (cuts := []) (f := 82) ⟨p2_nmu, ck_E1 (ck_S1 p2_s328_s (ck_S1 p2_s322_s ck_S0)) ck_E0⟩ (by decide +kernel)
set_option maxRecDepth 100000 in
/-- GlacierMail.soonest -/
noncomputable def p2_s1491 : ck_Sum := ((8, 2, 12), 245, [.inr (.inr (.inl 1)), .inl (0, 7, []), .inl (8, 2147483647, []), .inl (0, 1, [])], ([], [], []), ([], []), [(.inl 3, 245, ([], [], []))])
set_option maxRecDepth 100000 in
theorem p2_s1491_s {X : Int → Int} {LX : Nat} : ck_Ok p2_O X LX 201 p2_s1491 := ck_okq (cuts := []) (f := 82) ⟨p2_nmu, ck_E1 (ck_S1 p2_s328_s (ck_S1 p2_s325_s ck_S0)) ck_E0⟩ (by decide +kernel)
set_option maxRecDepth 100000 in
/-- java/util/Arrays.fill -/
noncomputable def p2_s1492 : ck_Sum := ((0, 0, 0), 245, [.inr (.inr (.inl 210)), .inl (ck_one 0)], ([], [], []), ([(210, 0, 2399)], []), [(.inr none, 245, ([], [], []))])
set_option maxRecDepth 100000 in
theorem p2_s1492_s {X : Int → Int} {LX : Nat} : ck_Ok p2_O X LX 8 p2_s1492 := ck_okq (cuts := [(5, [some (.inr (.inr (.inl 210))), some (.inl (ck_one 0)), some (.inl (0, 2400, [])), some (.inl (ck_one 2400))], ([], [], []), 100, .inl 2, true)]) (f := 130) ⟨p2_nmu, ck_E0⟩ (by decide +kernel)
set_option maxRecDepth 100000 in
/-- GlacierMail$Rows.reset -/
noncomputable def p2_s1493 : ck_Sum := ((1, 0, 0), 245, [.inr (.inr (.inl 209)), .inl (0, 8, [])], ([], [], []), ([(209, 3, 3), (210, 0, 2399)], []), [(.inr none, 245, ([], [], []))])
set_option maxRecDepth 100000 in
theorem p2_s1493_s {X : Int → Int} {LX : Nat} : ck_Ok p2_O X LX 25 p2_s1493 := ck_okq (cuts := []) (f := 96) ⟨p2_nmu, ck_E1 (ck_S1 p2_s1492_s ck_S0) ck_E0⟩ (by decide +kernel)
set_option maxRecDepth 100000 in
/-- java/util/Arrays.fill -/
noncomputable def p2_s1494 : ck_Sum := ((0, 0, 0), 245, [.inr (.inr (.inl 212)), .inl (ck_one 0)], ([], [], []), ([(212, 0, 2399)], []), [(.inr none, 245, ([], [], []))])
set_option maxRecDepth 100000 in
theorem p2_s1494_s {X : Int → Int} {LX : Nat} : ck_Ok p2_O X LX 8 p2_s1494 := ck_okq (cuts := [(5, [some (.inr (.inr (.inl 212))), some (.inl (ck_one 0)), some (.inl (0, 2400, [])), some (.inl (ck_one 2400))], ([], [], []), 100, .inl 2, true)]) (f := 130) ⟨p2_nmu, ck_E0⟩ (by decide +kernel)
set_option maxRecDepth 100000 in
/-- GlacierMail$Rows.reset -/
noncomputable def p2_s1495 : ck_Sum := ((1, 0, 0), 245, [.inr (.inr (.inl 211)), .inl (0, 8, [])], ([], [], []), ([(211, 3, 3), (212, 0, 2399)], []), [(.inr none, 245, ([], [], []))])
set_option maxRecDepth 100000 in
theorem p2_s1495_s {X : Int → Int} {LX : Nat} : ck_Ok p2_O X LX 25 p2_s1495 := ck_okq (cuts := []) (f := 96) ⟨p2_nmu, ck_E1 (ck_S1 p2_s1494_s ck_S0) ck_E0⟩ (by decide +kernel)
set_option maxRecDepth 100000 in
/-- GlacierMail$Rows.get -/
noncomputable def p2_s1496 : ck_Sum := ((0, 0, 0), 245, [.inr (.inr (.inl 209)), .inl ((-2147483648), 2147483647, []), .inl ((-2147483648), 2147483647, [])], ([], [], []), ([], []), [(.inr (some (.inl ((-2147483648), 2147483647, []))), 245, ([], [], []))])
set_option maxRecDepth 100000 in
theorem p2_s1496_s {X : Int → Int} {LX : Nat} : ck_Ok p2_O X LX 10 p2_s1496 := ck_okq (cuts := []) (f := 114) ⟨p2_nmu, ck_E0⟩ (by decide +kernel)
set_option maxRecDepth 100000 in
/-- GlacierMail$Rows.put -/
noncomputable def p2_s1497 : ck_Sum := ((0, 0, 0), 245, [.inr (.inr (.inl 211)), .inl (0, 7, []), .inl (0, 299, []), .inl ((-2147483648), 299, [])], ([], [], []), ([(212, 0, 2399)], []), [(.inr none, 245, ([], [], []))])
set_option maxRecDepth 100000 in
theorem p2_s1497_s {X : Int → Int} {LX : Nat} : ck_Ok p2_O X LX 45 p2_s1497 := ck_okq (cuts := []) (f := 116) ⟨p2_nmu, ck_E0⟩ (by decide +kernel)
set_option maxRecDepth 100000 in
/-- GlacierMail$Rows.put -/
noncomputable def p2_s1498 : ck_Sum := ((0, 0, 0), 245, [.inr (.inr (.inl 209)), .inl (0, 7, []), .inl ((-2147483648), 299, []), .inl (ck_one 1)], ([], [], []), ([(210, 0, 2399)], []), [(.inr none, 245, ([], [], []))])
set_option maxRecDepth 100000 in
theorem p2_s1498_s {X : Int → Int} {LX : Nat} : ck_Ok p2_O X LX 45 p2_s1498 := ck_okq (cuts := []) (f := 116) ⟨p2_nmu, ck_E0⟩ (by decide +kernel)
set_option maxRecDepth 100000 in
/-- GlacierMail$Answers.throwAgain -/
noncomputable def p2_s1499 : ck_Sum := ((4, 0, 0), 245, [.inr (.inr (.inl 208)), .inl (0, 7, []), .inl (0, 299, []), .inl (ck_one 1), .inl (ck_one 299)], ([], [(3, 8, 0)], []), ([(206, 2, 8), (210, 0, 2399), (212, 0, 2399)], []), [(.inr none, 245, ([], [], [(206, 4, 4, ck_one (-1))]))])
set_option maxRecDepth 100000 in
theorem p2_s1499_s {X : Int → Int} {LX : Nat} : ck_Ok p2_O X LX 203 p2_s1499 := ck_okq (cuts := [(59, [some (.inr (.inr (.inl 208))), some (.inl (0, 7, [])), some (.inl (0, 299, [])), some (.inl (ck_one 1)), some (.inl (ck_one 299)), some (.inr (.inr (.inl 8))), some (.inl ((-1), 98, [])), some (.inl ((-2147483648), 299, [])), some (.inl (0, 8, [])), none], ([], [(3, 8, 0)], [(206, 4, 4, ck_one (-1))]), 100, .inl 8, true)]) (f := 214) ⟨p2_nmu, ck_E1 (ck_S1 p2_s356_s (ck_S1 p2_s1496_s ck_S0)) (ck_E1 (ck_S1 p2_s1332_s ck_S0) (ck_E1 (ck_S1 p2_s346_s ck_S0) (ck_E1 (ck_S1 p2_s1497_s (ck_S1 p2_s1498_s ck_S0)) (ck_E1 (ck_S1 p2_s320_s ck_S0) ck_E0))))⟩ (by decide +kernel)
set_option maxRecDepth 100000 in
/-- GlacierMail$Rows.put -/
noncomputable def p2_s1500 : ck_Sum := ((0, 0, 0), 245, [.inr (.inr (.inl 211)), .inl (0, 7, []), .inl (2, 299, []), .inl ((-2147483648), 299, [])], ([], [], []), (zl198, []), [(.inr none, 245, ([], [], []))])
set_option maxRecDepth 100000 in
theorem p2_s1500_s {X : Int → Int} {LX : Nat} : ck_Ok p2_O X LX 45 p2_s1500 := ck_okq (cuts := []) (f := 116) ⟨p2_nmu, ck_E0⟩ (by decide +kernel)
set_option maxRecDepth 100000 in
/-- GlacierMail$Rows.put -/
noncomputable def p2_s1501 : ck_Sum := ((0, 0, 0), 245, [.inr (.inr (.inl 209)), .inl (0, 7, []), .inl ((-2147483648), 299, []), .inl ((-2147483648), 2147483647, [])], ([], [], []), ([(210, 0, 2399)], []), [(.inr none, 245, ([], [], []))])
set_option maxRecDepth 100000 in
theorem p2_s1501_s {X : Int → Int} {LX : Nat} : ck_Ok p2_O X LX 45 p2_s1501 := ck_okq (cuts := []) (f := 116) ⟨p2_nmu, ck_E0⟩ (by decide +kernel)
set_option maxRecDepth 100000 in
/-- GlacierMail$Answers.throwAgain -/
noncomputable def p2_s1502 : ck_Sum := ((4, 0, 0), 245, [.inr (.inr (.inl 208)), .inl (0, 7, []), .inl (2, 299, []), .inl ((-2147483648), 2147483647, []), .inl (ck_one 299)], ([], [(3, 8, 0)], []), (zl199, []), [(.inr none, 245, ([], [], [(206, 4, 4, ck_one (-1))]))])
set_option maxRecDepth 100000 in
theorem p2_s1502_s {X : Int → Int} {LX : Nat} : ck_Ok p2_O X LX 203 p2_s1502 := ck_okq (cuts := [(59, [some (.inr (.inr (.inl 208))), some (.inl (0, 7, [])), some (.inl (2, 299, [])), some (.inl ((-2147483648), 2147483647, [])), some (.inl (ck_one 299)), some (.inr (.inr (.inl 8))), some (.inl ((-1), 98, [])), some (.inl ((-2147483648), 299, [])), some (.inl (0, 8, [])), none], ([], [(3, 8, 0)], [(206, 4, 4, ck_one (-1))]), 100, .inl 8, true)]) (f := 214) ⟨p2_nmu, ck_E1 (ck_S1 p2_s356_s (ck_S1 p2_s1496_s ck_S0)) (ck_E1 (ck_S1 p2_s1332_s ck_S0) (ck_E1 (ck_S1 p2_s346_s ck_S0) (ck_E1 (ck_S1 p2_s1500_s (ck_S1 p2_s1501_s ck_S0)) (ck_E1 (ck_S1 p2_s320_s ck_S0) ck_E0))))⟩ (by decide +kernel)
set_option maxRecDepth 100000 in
/-- GlacierMail$Answers.spread -/
noncomputable def p2_s1503 : ck_Sum := ((5, 0, 0), 245, [.inr (.inr (.inl 208)), .inl (0, 7, []), .inl (0, 7, []), .inl (ck_one 299)], ([], [(3, 8, 0)], [(3, 6, 6, (0, 299, [(10, 0)]))]), (zl200, []), [(.inr none, 245, ([], [], [(206, 4, 4, ck_one (-1))]))])
set_option maxRecDepth 100000 in
theorem p2_s1503_s {X : Int → Int} {LX : Nat} : ck_Ok p2_O X LX 202 p2_s1503 := ck_okq (cuts := [(59, [some (.inr (.inr (.inl 208))), some (.inl (0, 7, [])), some (.inl (0, 7, [])), some (.inl (ck_one 299)), some (.inl (1, 300, [(1000010, 1)])), none, none], ([], [(3, 8, 0)], [(206, 4, 4, ck_one (-1)), (3, 6, 6, (0, 299, [(10, 0)]))]), 100, .inl 4, true), (82, [some (.inr (.inr (.inl 208))), some (.inl (0, 7, [])), some (.inl (0, 7, [])), some (.inl (ck_one 299)), some (.inl (1, 298, [(100, 0), (1000010, 1)])), some (.inl (0, 8, [])), none], ([], [(3, 8, 0)], [(206, 4, 4, ck_one (-1)), (3, 6, 6, (0, 299, [(10, 0)]))]), 300, .inl 5, true)]) (f := 284) ⟨p2_nmu, ck_E1 (ck_S1 p2_s320_s ck_S0) (ck_E1 (ck_S1 p2_s1493_s (ck_S1 p2_s1495_s ck_S0)) (ck_E1 (ck_S1 p2_s1499_s (ck_S1 p2_s1502_s ck_S0)) (ck_E1 (ck_S1 p2_s1496_s ck_S0) ck_E0)))⟩ (by decide +kernel)
set_option maxRecDepth 100000 in
/-- GlacierMail$Answers.firstYear -/
noncomputable def p2_s1504 : ck_Sum := ((1, 0, 0), 245, [.inr (.inr (.inl 208)), .inl (0, 7, [])], ([], [], []), ([], []), [(.inr (some (.inl (ck_one (-1)))), 245, ([], [], [])), (.inr (some (.inl (0, 299, []))), 245, ([], [], []))])
set_option maxRecDepth 100000 in
theorem p2_s1504_s {X : Int → Int} {LX : Nat} : ck_Ok p2_O X LX 204 p2_s1504 := ck_okq (cuts := [(2, [some (.inr (.inr (.inl 208))), some (.inl (0, 7, [])), some (.inl (0, 300, []))], ([], [], []), 100, .inl 2, true)]) (f := 138) ⟨p2_nmu, ck_E1 (ck_S1 p2_s1496_s ck_S0) ck_E0⟩ (by decide +kernel)
set_option maxRecDepth 100000 in
/-- GlacierMail$Answers.fewestThrows -/
noncomputable def p2_s1505 : ck_Sum := ((1, 0, 0), 245, [.inr (.inr (.inl 208)), .inl (0, 7, []), .inl (0, 299, [])], ([], [], []), ([], []), [(.inr (some (.inl ((-2147483648), 2147483647, []))), 245, ([], [], []))])
set_option maxRecDepth 100000 in
theorem p2_s1505_s {X : Int → Int} {LX : Nat} : ck_Ok p2_O X LX 205 p2_s1505 := ck_okq (cuts := []) (f := 82) ⟨p2_nmu, ck_E1 (ck_S1 p2_s1496_s ck_S0) ck_E0⟩ (by decide +kernel)
set_option maxRecDepth 100000 in
/-- GlacierMail.soonest -/
noncomputable def p2_s1506 : ck_Sum := ((8, 3, 18), 245, [.inr (.inr (.inl 1)), .inl (0, 7, []), .inl (0, 7, []), .inl (0, 1, [])], ([], [(3, 8, 0)], [(3, 6, 6, (0, 299, [(10, 0)]))]), (zl200, []), [(.inl 3, 245, ([], [], [])), (.inl 0, 245, ([], [], [])), (.inr (some (.inl ((-2147483648), 2147483647, []))), 245, ([], [], [(206, 4, 4, ck_one (-1))])), (.inr (some (.inl (0, 299, []))), 245, ([], [], [(206, 4, 4, ck_one (-1))]))])
set_option maxRecDepth 100000 in
theorem p2_s1506_s {X : Int → Int} {LX : Nat} : ck_Ok p2_O X LX 201 p2_s1506 := ck_okq (cuts := []) (f := 136) ⟨p2_nmu, ck_E1 (ck_S1 p2_s328_s ck_S0) (ck_E1 (ck_S1 p2_s442_s ck_S0) (ck_E1 (ck_S1 p2_s1503_s ck_S0) (ck_E1 (ck_S1 p2_s1504_s ck_S0) (ck_E1 (ck_S1 p2_s1505_s ck_S0) ck_E0))))⟩ (by decide +kernel)
set_option maxRecDepth 100000 in
/-- GlacierMailModel.soonest -/
noncomputable def p2_s1507 : ck_Sum := ((2, 0, 0), 245, [.inr (.inr (.inl 226)), .inl ((-2147483648), (-1), []), .inl ((-2147483648), 2147483647, []), .inl (0, 1, [])], ([], [], [(227, 3, 3, (0, 8, [(21, 0)]))]), ([(226, 0, 0)], []), [(.inr (some (.inl (ck_one 0))), 245, ([], [], [(226, 0, 0, ck_one 1)]))])
set_option maxRecDepth 100000 in
theorem p2_s1507_s {X : Int → Int} {LX : Nat} : ck_Ok p2_O X LX 349 p2_s1507 := ck_okq (cuts := []) (f := 100) ⟨p2_nmu, ck_E1 (ck_S1 p2_s359_s ck_S0) (ck_E1 (ck_S1 p2_s241_s ck_S0) ck_E0)⟩ (by decide +kernel)
set_option maxRecDepth 100000 in
/-- GlacierMailModel.soonest -/
noncomputable def p2_s1508 : ck_Sum := ((2, 0, 0), 245, [.inr (.inr (.inl 226)), .inl (8, 2147483647, []), .inl ((-2147483648), 2147483647, []), .inl (0, 1, [])], ([], [], [(227, 3, 3, (0, 8, [(21, 0)]))]), ([(226, 0, 0)], []), [(.inr (some (.inl (ck_one 0))), 245, ([], [], [(226, 0, 0, ck_one 1)]))])
set_option maxRecDepth 100000 in
theorem p2_s1508_s {X : Int → Int} {LX : Nat} : ck_Ok p2_O X LX 349 p2_s1508 := ck_okq (cuts := []) (f := 100) ⟨p2_nmu, ck_E1 (ck_S1 p2_s362_s ck_S0) (ck_E1 (ck_S1 p2_s241_s ck_S0) ck_E0)⟩ (by decide +kernel)
set_option maxRecDepth 100000 in
/-- GlacierMailModel.soonest -/
noncomputable def p2_s1509 : ck_Sum := ((2, 0, 0), 245, [.inr (.inr (.inl 226)), .inl (0, 7, []), .inl ((-2147483648), (-1), []), .inl (0, 1, [])], ([], [], [(227, 3, 3, (0, 8, [(21, 0)]))]), ([(226, 0, 0)], []), [(.inr (some (.inl (ck_one 0))), 245, ([], [], [(226, 0, 0, ck_one 1)]))])
set_option maxRecDepth 100000 in
theorem p2_s1509_s {X : Int → Int} {LX : Nat} : ck_Ok p2_O X LX 349 p2_s1509 := ck_okq (cuts := []) (f := 108) ⟨p2_nmu, ck_E1 (ck_S1 p2_s365_s (ck_S1 p2_s359_s ck_S0)) (ck_E1 (ck_S1 p2_s241_s ck_S0) ck_E0)⟩ (by decide +kernel)
set_option maxRecDepth 100000 in
/-- GlacierMailModel.soonest -/
noncomputable def p2_s1510 : ck_Sum := ((2, 0, 0), 245, [.inr (.inr (.inl 226)), .inl (0, 7, []), .inl (8, 2147483647, []), .inl (0, 1, [])], ([], [], [(227, 3, 3, (0, 8, [(21, 0)]))]), ([(226, 0, 0)], []), [(.inr (some (.inl (ck_one 0))), 245, ([], [], [(226, 0, 0, ck_one 1)]))])
set_option maxRecDepth 100000 in
theorem p2_s1510_s {X : Int → Int} {LX : Nat} : ck_Ok p2_O X LX 349 p2_s1510 := ck_okq (cuts := []) (f := 108) ⟨p2_nmu, ck_E1 (ck_S1 p2_s365_s (ck_S1 p2_s362_s ck_S0)) (ck_E1 (ck_S1 p2_s241_s ck_S0) ck_E0)⟩ (by decide +kernel)
set_option maxRecDepth 100000 in
/-- GlacierMailModel.at -/
noncomputable def p2_s1511 : ck_Sum := ((0, 0, 0), 245, [.inl (0, 7, []), .inl (0, 300, [])], ([], [], []), ([], []), [(.inr (some (.inl (0, 2407, []))), 245, ([], [], []))])
set_option maxRecDepth 100000 in
theorem p2_s1511_s {X : Int → Int} {LX : Nat} : ck_Ok p2_O X LX 351 p2_s1511 := ck_okq (cuts := []) (f := 82) ⟨p2_nmu, ck_E0⟩ (by decide +kernel)
set_option maxRecDepth 100000 in
/-- GlacierMailModel.isWatching -/
noncomputable def p2_s1512 : ck_Sum := ((1, 0, 0), 245, [.inr (.inr (.inl 226)), .inl (0, 7, []), .inl (0, 7, [])], ([], [], []), ([], []), [(.inr (some (.inl (ck_one 0))), 245, ([], [], [])), (.inr (some (.inl (ck_one 1))), 245, ([], [], []))])
set_option maxRecDepth 100000 in
theorem p2_s1512_s {X : Int → Int} {LX : Nat} : ck_Ok p2_O X LX 352 p2_s1512 := ck_okq (cuts := []) (f := 94) ⟨p2_nmu, ck_E1 (ck_S1 p2_s569_s (ck_S1 p2_s554_s ck_S0)) ck_E0⟩ (by decide +kernel)
set_option maxRecDepth 100000 in
/-- GlacierMailModel.hasIn -/
noncomputable def p2_s1514 : ck_Sum := ((1, 0, 0), 245, [.inr (.inr (.inl 226)), .inl (0, 7, [])], ([], [], []), ([], []), [(.inr (some (.inl (ck_one (-1)))), 245, ([], [], [])), (.inr (some (.inl (0, 299, []))), 245, ([], [], []))])
set_option maxRecDepth 100000 in
theorem p2_s1514_s {X : Int → Int} {LX : Nat} : ck_Ok p2_O X LX 353 p2_s1514 := ck_okq (cuts := [(2, [some (.inr (.inr (.inl 226))), some (.inl (0, 7, [])), some (.inl (0, 300, []))], ([], [], []), 100, .inl 2, true)]) (f := 146) ⟨p2_nmu, ck_E1 (ck_S1 p2_s1511_s ck_S0) ck_E0⟩ (by decide +kernel)
set_option maxRecDepth 100000 in
/-- GlacierMail.chain -/
noncomputable def p2_s1516 : ck_Sum := ((8, 1, 6), 245, [.inr (.inr (.inl 1)), .inl ((-2147483648), (-1), []), .inl ((-2147483648), 2147483647, []), .inl ((-2147483648), 2147483647, [])], ([], [], []), ([], []), [(.inl 3, 245, ([], [], []))])
set_option maxRecDepth 100000 in
theorem p2_s1516_s {X : Int → Int} {LX : Nat} : ck_Ok p2_O X LX 207 p2_s1516 := ck_okq (cuts := []) (f := 76) ⟨p2_nmu, ck_E1 (ck_S1 p2_s322_s ck_S0) ck_E0⟩ (by decide +kernel)
set_option maxRecDepth 100000 in
/-- GlacierMail.chain -/
noncomputable def p2_s1517 : ck_Sum := ((8, 1, 6), 245, [.inr (.inr (.inl 1)), .inl (8, 2147483647, []), .inl ((-2147483648), 2147483647, []), .inl ((-2147483648), 2147483647, [])], ([], [], []), ([], []), [(.inl 3, 245, ([], [], []))])
set_option maxRecDepth 100000 in
theorem p2_s1517_s {X : Int → Int} {LX : Nat} : ck_Ok p2_O X LX 207 p2_s1517 := ck_okq (cuts := []) (f := 76) ⟨p2_nmu, ck_E1 (ck_S1 p2_s325_s ck_S0) ck_E0⟩ (by decide +kernel)
set_option maxRecDepth 100000 in
/-- GlacierMail.chain -/
noncomputable def p2_s1518 : ck_Sum := ((8, 2, 12), 245, [.inr (.inr (.inl 1)), .inl (0, 7, []), .inl ((-2147483648), (-1), []), .inl ((-2147483648), 2147483647, [])], ([], [], []), ([], []), [(.inl 3, 245, ([], [], []))])
set_option maxRecDepth 100000 in
theorem p2_s1518_s {X : Int → Int} {LX : Nat} : ck_Ok p2_O X LX 207 p2_s1518 := ck_okq (cuts := []) (f := 82) ⟨p2_nmu, ck_E1 (ck_S1 p2_s328_s (ck_S1 p2_s322_s ck_S0)) ck_E0⟩ (by decide +kernel)
set_option maxRecDepth 100000 in
/-- GlacierMail.chain -/
noncomputable def p2_s1519 : ck_Sum := ((8, 2, 12), 245, [.inr (.inr (.inl 1)), .inl (0, 7, []), .inl (8, 2147483647, []), .inl ((-2147483648), 2147483647, [])], ([], [], []), ([], []), [(.inl 3, 245, ([], [], []))])
set_option maxRecDepth 100000 in
theorem p2_s1519_s {X : Int → Int} {LX : Nat} : ck_Ok p2_O X LX 207 p2_s1519 := ck_okq (cuts := []) (f := 82) ⟨p2_nmu, ck_E1 (ck_S1 p2_s328_s (ck_S1 p2_s325_s ck_S0)) ck_E0⟩ (by decide +kernel)
set_option maxRecDepth 100000 in
/-- GlacierMail$Rows.get -/
noncomputable def p2_s1520 : ck_Sum := ((0, 0, 0), 245, [.inr (.inr (.inl 211)), .inl ((-2147483648), 2147483647, []), .inl ((-2147483648), 2147483647, [])], ([], [], []), ([], []), [(.inr (some (.inl ((-2147483648), 299, []))), 245, ([], [], []))])
set_option maxRecDepth 100000 in
theorem p2_s1520_s {X : Int → Int} {LX : Nat} : ck_Ok p2_O X LX 10 p2_s1520 := ck_okq (cuts := []) (f := 114) ⟨p2_nmu, ck_E0⟩ (by decide +kernel)
set_option maxRecDepth 100000 in
/-- GlacierMail$Answers.throwAhead -/
noncomputable def p2_s1521 : ck_Sum := ((1, 0, 0), 245, [.inr (.inr (.inl 208)), .inl (0, 2398, []), .inl (0, 299, []), .inl (1, 2147483646, [])], ([], [], [(3, 6, 6, (0, 299, [(10, 0)]))]), ([], []), [(.inr (some (.inl (0, 2398, []))), 245, ([], [], []))])
set_option maxRecDepth 100000 in
theorem p2_s1521_s {X : Int → Int} {LX : Nat} : ck_Ok p2_O X LX 209 p2_s1521 := ck_okq (cuts := [(17, [some (.inr (.inr (.inl 208))), some (.inl (0, 2398, [])), some (.inl (0, 299, [])), some (.inl (1, 2147483646, [])), some (.inl ((-1), 98, [])), some (.inl (0, 9, [])), none], ([], [], [(3, 6, 6, (0, 299, [(10, 0)]))]), 100, .inl 5, true), (59, [some (.inr (.inr (.inl 208))), some (.inl (0, 2398, [])), some (.inl (0, 299, [])), some (.inl (1, 2147483646, [])), some (.inl ((-1), 98, [])), some (.inl (0, 7, [(100, 0)])), some (.inl (0, 299, [(1000010, 0)]))], ([], [], [(3, 6, 6, (0, 299, [(10, 0)]))]), 300, .inl 6, true)]) (f := 260) ⟨p2_nmu, ck_E1 (ck_S1 p2_s356_s (ck_S1 p2_s1496_s (ck_S1 p2_s1520_s ck_S0))) (ck_E1 (ck_S1 p2_s320_s ck_S0) ck_E0)⟩ (by decide +kernel)
set_option maxRecDepth 100000 in
/-- GlacierMail$Answers.holder -/
noncomputable def p2_s1522 : ck_Sum := ((2, 0, 0), 245, [.inr (.inr (.inl 208)), .inl (0, 7, []), .inl (0, 7, []), .inl (ck_one 0)], ([], [], [(3, 6, 6, (0, 299, [(10, 0)]))]), ([], []), [(.inr (some (.inl (ck_one (-1)))), 245, ([], [], [])), (.inr (some (.inl (0, 7, []))), 245, ([], [], []))])
set_option maxRecDepth 100000 in
theorem p2_s1522_s {X : Int → Int} {LX : Nat} : ck_Ok p2_O X LX 208 p2_s1522 := ck_okq (cuts := [(44, [some (.inr (.inr (.inl 208))), some (.inl (0, 7, [])), some (.inl (0, 7, [])), some (.inl (ck_one 0)), some (.inl (0, 299, [])), some (.inl (0, 2398, [])), some (.inl (0, 2147483647, [])), some (.inl (0, 2147483647, [])), none], ([], [], [(3, 6, 6, (0, 299, [(10, 0)]))]), 100, .inl 7, false)]) (f := 190) ⟨p2_nmu, ck_E1 (ck_S1 p2_s1504_s ck_S0) (ck_E1 (ck_S1 p2_s1496_s ck_S0) (ck_E1 (ck_S1 p2_s1521_s ck_S0) ck_E0))⟩ (by decide +kernel)
set_option maxRecDepth 100000 in
/-- GlacierMail.chain -/
noncomputable def p2_s1523 : ck_Sum := ((8, 4, 24), 245, [.inr (.inr (.inl 1)), .inl (0, 7, []), .inl (0, 7, []), .inl ((-2147483648), 0, [])], ([], [(3, 8, 0)], [(3, 6, 6, (0, 299, [(10, 0)]))]), (zl200, []), [(.inl 3, 245, ([], [], [])), (.inl 0, 245, ([], [], [])), (.inr (some (.inl (ck_one (-1)))), 245, ([], [], [(206, 4, 4, ck_one (-1))])), (.inr (some (.inl (0, 7, []))), 245, ([], [], [(206, 4, 4, ck_one (-1))]))])
set_option maxRecDepth 100000 in
theorem p2_s1523_s {X : Int → Int} {LX : Nat} : ck_Ok p2_O X LX 207 p2_s1523 := ck_okq (cuts := []) (f := 120) ⟨p2_nmu, ck_E1 (ck_S1 p2_s328_s ck_S0) (ck_E1 (ck_S1 p2_s442_s ck_S0) (ck_E1 (ck_S1 p2_s1503_s ck_S0) (ck_E1 (ck_S1 p2_s1522_s ck_S0) ck_E0)))⟩ (by decide +kernel)
set_option maxRecDepth 100000 in
/-- GlacierMail$Answers.throwAhead -/
noncomputable def p2_s1524 : ck_Sum := ((1, 0, 0), 245, [.inr (.inr (.inl 208)), .inl (0, 2398, []), .inl (0, 299, []), .inl (51, 2147483646, [])], ([], [], [(3, 6, 6, (0, 299, [(10, 0)]))]), ([], []), [(.inr (some (.inl (0, 2398, []))), 245, ([], [], []))])
set_option maxRecDepth 100000 in
theorem p2_s1524_s {X : Int → Int} {LX : Nat} : ck_Ok p2_O X LX 209 p2_s1524 := ck_okq (cuts := [(17, [some (.inr (.inr (.inl 208))), some (.inl (0, 2398, [])), some (.inl (0, 299, [])), some (.inl (51, 2147483646, [])), some (.inl ((-1), 98, [])), some (.inl (0, 9, [])), none], ([], [], [(3, 6, 6, (0, 299, [(10, 0)]))]), 100, .inl 5, true), (59, [some (.inr (.inr (.inl 208))), some (.inl (0, 2398, [])), some (.inl (0, 299, [])), some (.inl (51, 2147483646, [])), some (.inl ((-1), 98, [])), some (.inl (0, 7, [(100, 0)])), some (.inl (0, 299, [(1000010, 0)]))], ([], [], [(3, 6, 6, (0, 299, [(10, 0)]))]), 300, .inl 6, true)]) (f := 260) ⟨p2_nmu, ck_E1 (ck_S1 p2_s356_s (ck_S1 p2_s1496_s (ck_S1 p2_s1520_s ck_S0))) (ck_E1 (ck_S1 p2_s320_s ck_S0) ck_E0)⟩ (by decide +kernel)
set_option maxRecDepth 100000 in
/-- GlacierMail$Answers.holder -/
noncomputable def p2_s1525 : ck_Sum := ((2, 0, 0), 245, [.inr (.inr (.inl 208)), .inl (0, 7, []), .inl (0, 7, []), .inl (51, 2147483647, [])], ([], [], [(3, 6, 6, (0, 299, [(10, 0)]))]), ([], []), [(.inr (some (.inl (ck_one (-1)))), 245, ([], [], [])), (.inr (some (.inl (0, 2398, []))), 245, ([], [], []))])
set_option maxRecDepth 100000 in
theorem p2_s1525_s {X : Int → Int} {LX : Nat} : ck_Ok p2_O X LX 208 p2_s1525 := ck_okq (cuts := [(44, [some (.inr (.inr (.inl 208))), some (.inl (0, 7, [])), some (.inl (0, 7, [])), some (.inl (51, 2147483647, [])), some (.inl (0, 299, [])), some (.inl (0, 2398, [])), some (.inl (51, 2147483647, [])), some (.inl (51, 2147483647, [])), none], ([], [], [(3, 6, 6, (0, 299, [(10, 0)]))]), 100, .inl 7, false)]) (f := 190) ⟨p2_nmu, ck_E1 (ck_S1 p2_s1504_s ck_S0) (ck_E1 (ck_S1 p2_s1496_s ck_S0) (ck_E1 (ck_S1 p2_s1524_s ck_S0) ck_E0))⟩ (by decide +kernel)
set_option maxRecDepth 100000 in
/-- GlacierMail.chain -/
noncomputable def p2_s1526 : ck_Sum := ((8, 3, 18), 245, [.inr (.inr (.inl 1)), .inl (0, 7, []), .inl (0, 7, []), .inl (51, 2147483647, [])], ([], [(3, 8, 0)], [(3, 6, 6, (0, 299, [(10, 0)]))]), (zl200, []), zl202)
set_option maxRecDepth 100000 in
theorem p2_s1526_s {X : Int → Int} {LX : Nat} : ck_Ok p2_O X LX 207 p2_s1526 := ck_okq (cuts := []) (f := 120) ⟨p2_nmu, ck_E1 (ck_S1 p2_s328_s ck_S0) (ck_E1 (ck_S1 p2_s442_s ck_S0) (ck_E1 (ck_S1 p2_s1503_s ck_S0) (ck_E1 (ck_S1 p2_s1525_s ck_S0) ck_E0)))⟩ (by decide +kernel)
set_option maxRecDepth 100000 in
/-- GlacierMail$Answers.holder -/
noncomputable def p2_s1527 : ck_Sum := ((2, 0, 0), 245, [.inr (.inr (.inl 208)), .inl (0, 7, []), .inl (0, 7, []), .inl (1, 50, [])], ([], [], [(3, 6, 6, (0, 299, [(10, 0)]))]), ([], []), [(.inr (some (.inl (ck_one (-1)))), 245, ([], [], [])), (.inr (some (.inl (0, 2398, []))), 245, ([], [], []))])
set_option maxRecDepth 100000 in
theorem p2_s1527_s {X : Int → Int} {LX : Nat} : ck_Ok p2_O X LX 208 p2_s1527 := ck_okq (cuts := [(44, [some (.inr (.inr (.inl 208))), some (.inl (0, 7, [])), some (.inl (0, 7, [])), some (.inl (1, 50, [])), some (.inl (0, 299, [])), some (.inl (0, 2398, [])), some (.inl (1, 2147483647, [])), some (.inl (1, 2147483647, [])), none], ([], [], [(3, 6, 6, (0, 299, [(10, 0)]))]), 100, .inl 7, false)]) (f := 190) ⟨p2_nmu, ck_E1 (ck_S1 p2_s1504_s ck_S0) (ck_E1 (ck_S1 p2_s1496_s ck_S0) (ck_E1 (ck_S1 p2_s1521_s ck_S0) ck_E0))⟩ (by decide +kernel)
set_option maxRecDepth 100000 in
/-- GlacierMail.chain -/
noncomputable def p2_s1528 : ck_Sum := ((8, 3, 18), 245, [.inr (.inr (.inl 1)), .inl (0, 7, []), .inl (0, 7, []), .inl (1, 50, [])], ([], [(3, 8, 0)], [(3, 6, 6, (0, 299, [(10, 0)]))]), (zl200, []), zl202)
set_option maxRecDepth 100000 in
theorem p2_s1528_s {X : Int → Int} {LX : Nat} : ck_Ok p2_O X LX 207 p2_s1528 := ck_okq (cuts := []) (f := 120) ⟨p2_nmu, ck_E1 (ck_S1 p2_s328_s ck_S0) (ck_E1 (ck_S1 p2_s442_s ck_S0) (ck_E1 (ck_S1 p2_s1503_s ck_S0) (ck_E1 (ck_S1 p2_s1527_s ck_S0) ck_E0)))⟩ (by decide +kernel)
set_option maxRecDepth 100000 in
/-- GlacierMailModel.chain -/
noncomputable def p2_s1529 : ck_Sum := ((2, 0, 0), 245, [.inr (.inr (.inl 226)), .inl ((-2147483648), (-1), []), .inl ((-2147483648), 2147483647, []), .inl ((-2147483648), 2147483647, [])], ([], [], [(227, 3, 3, (0, 8, [(21, 0)]))]), ([(226, 0, 0)], []), [(.inr (some (.inl (ck_one 0))), 245, ([], [], [(226, 0, 0, ck_one 1)]))])
set_option maxRecDepth 100000 in
theorem p2_s1529_s {X : Int → Int} {LX : Nat} : ck_Ok p2_O X LX 354 p2_s1529 := ck_okq (cuts := []) (f := 100) ⟨p2_nmu, ck_E1 (ck_S1 p2_s359_s ck_S0) (ck_E1 (ck_S1 p2_s241_s ck_S0) ck_E0)⟩ (by decide +kernel)
set_option maxRecDepth 100000 in
/-- GlacierMailModel.chain -/
noncomputable def p2_s1530 : ck_Sum := ((2, 0, 0), 245, [.inr (.inr (.inl 226)), .inl (8, 2147483647, []), .inl ((-2147483648), 2147483647, []), .inl ((-2147483648), 2147483647, [])], ([], [], [(227, 3, 3, (0, 8, [(21, 0)]))]), ([(226, 0, 0)], []), [(.inr (some (.inl (ck_one 0))), 245, ([], [], [(226, 0, 0, ck_one 1)]))])
set_option maxRecDepth 100000 in
theorem p2_s1530_s {X : Int → Int} {LX : Nat} : ck_Ok p2_O X LX 354 p2_s1530 := ck_okq (cuts := []) (f := 100) ⟨p2_nmu, ck_E1 (ck_S1 p2_s362_s ck_S0) (ck_E1 (ck_S1 p2_s241_s ck_S0) ck_E0)⟩ (by decide +kernel)
set_option maxRecDepth 100000 in
/-- GlacierMailModel.chain -/
noncomputable def p2_s1531 : ck_Sum := ((2, 0, 0), 245, [.inr (.inr (.inl 226)), .inl (0, 7, []), .inl ((-2147483648), (-1), []), .inl ((-2147483648), 2147483647, [])], ([], [], [(227, 3, 3, (0, 8, [(21, 0)]))]), ([(226, 0, 0)], []), [(.inr (some (.inl (ck_one 0))), 245, ([], [], [(226, 0, 0, ck_one 1)]))])
set_option maxRecDepth 100000 in
theorem p2_s1531_s {X : Int → Int} {LX : Nat} : ck_Ok p2_O X LX 354 p2_s1531 := ck_okq (cuts := []) (f := 108) ⟨p2_nmu, ck_E1 (ck_S1 p2_s365_s (ck_S1 p2_s359_s ck_S0)) (ck_E1 (ck_S1 p2_s241_s ck_S0) ck_E0)⟩ (by decide +kernel)
set_option maxRecDepth 100000 in
/-- GlacierMailModel.chain -/
noncomputable def p2_s1532 : ck_Sum := ((2, 0, 0), 245, [.inr (.inr (.inl 226)), .inl (0, 7, []), .inl (8, 2147483647, []), .inl ((-2147483648), 2147483647, [])], ([], [], [(227, 3, 3, (0, 8, [(21, 0)]))]), ([(226, 0, 0)], []), [(.inr (some (.inl (ck_one 0))), 245, ([], [], [(226, 0, 0, ck_one 1)]))])
set_option maxRecDepth 100000 in
theorem p2_s1532_s {X : Int → Int} {LX : Nat} : ck_Ok p2_O X LX 354 p2_s1532 := ck_okq (cuts := []) (f := 108) ⟨p2_nmu, ck_E1 (ck_S1 p2_s365_s (ck_S1 p2_s362_s ck_S0)) (ck_E1 (ck_S1 p2_s241_s ck_S0) ck_E0)⟩ (by decide +kernel)
set_option maxRecDepth 100000 in
/-- GlacierMailModel.of -/
noncomputable def p2_s1533 : ck_Sum := ((0, 0, 0), 245, [.inr (.inr (.inl 226)), .inl ((-1), 7, []), .inl (ck_one 2)], ([], [], []), ([], []), [(.inr (some (.inl (0, 20, []))), 245, ([], [], [])), (.inr (some (.inl (ck_one (-1)))), 245, ([], [], []))])
set_option maxRecDepth 100000 in
theorem p2_s1533_s {X : Int → Int} {LX : Nat} : ck_Ok p2_O X LX 299 p2_s1533 := ck_okq (cuts := []) (f := 92) ⟨p2_nmu, ck_E0⟩ (by decide +kernel)
set_option maxRecDepth 100000 in
/-- GlacierMailModel.isWatching -/
noncomputable def p2_s1534 : ck_Sum := ((1, 0, 0), 245, [.inr (.inr (.inl 226)), .inl ((-1), 7, []), .inl (0, 7, [])], ([], [], []), ([], []), [(.inr (some (.inl (ck_one 0))), 245, ([], [], [])), (.inr (some (.inl (ck_one 1))), 245, ([], [], []))])
set_option maxRecDepth 100000 in
theorem p2_s1534_s {X : Int → Int} {LX : Nat} : ck_Ok p2_O X LX 352 p2_s1534 := ck_okq (cuts := []) (f := 94) ⟨p2_nmu, ck_E1 (ck_S1 p2_s1533_s (ck_S1 p2_s554_s ck_S0)) ck_E0⟩ (by decide +kernel)
set_option maxRecDepth 100000 in
/-- GlacierMailModel.thrower -/
noncomputable def p2_s1535 : ck_Sum := ((2, 0, 0), 245, [.inr (.inr (.inl 226)), .inl ((-1), 7, []), .inl ((-1), 299, []), .inl (1, 1000, [])], ([], [], zl203), ([(226, 36, 36)], []), zl204)
set_option maxRecDepth 100000 in
theorem p2_s1535_s {X : Int → Int} {LX : Nat} : ck_Ok p2_O X LX 355 p2_s1535 := ck_okq (cuts := [(3, [some (.inr (.inr (.inl 226))), some (.inl ((-1), 7, [])), some (.inl ((-1), 299, [])), some (.inl (1, 1000, [])), some (.inl (0, 8, [])), none], ([], [], [(227, 3, 3, (0, 8, [(21, 0)])), (227, 9, 9, (0, 299, [(11, 0)]))]), 100, .inl 4, true), (18, [some (.inr (.inr (.inl 226))), some (.inl ((-1), 7, [])), some (.inl ((-1), 299, [])), some (.inl (1, 1000, [])), some (.inl (0, 7, [(100, 0)])), some (.inl (0, 299, [(1000011, 0)]))], ([], [], [(227, 3, 3, (1, 8, [(21, 0)])), (227, 9, 9, (0, 299, [(11, 0)]))]), 300, .inl 5, true)]) (f := 284) ⟨p2_nmu, ck_E1 (ck_S1 p2_s186_s ck_S0) (ck_E1 (ck_S1 p2_s190_s ck_S0) (ck_E1 (ck_S1 p2_s1534_s ck_S0) (ck_E1 (ck_S1 p2_s1511_s ck_S0) ck_E0)))⟩ (by decide +kernel)
set_option maxRecDepth 100000 in
/-- GlacierMailModel.thrower -/
noncomputable def p2_s1537 : ck_Sum := ((2, 0, 0), 245, [.inr (.inr (.inl 226)), .inl ((-1), 7, []), .inl ((-1), 299, []), .inl (52, 1000, [])], ([], [], zl203), ([(226, 36, 36)], []), zl204)
set_option maxRecDepth 100000 in
theorem p2_s1537_s {X : Int → Int} {LX : Nat} : ck_Ok p2_O X LX 355 p2_s1537 := ck_okq (cuts := [(3, [some (.inr (.inr (.inl 226))), some (.inl ((-1), 7, [])), some (.inl ((-1), 299, [])), some (.inl (52, 1000, [])), some (.inl (0, 8, [])), none], ([], [], [(227, 3, 3, (0, 8, [(21, 0)])), (227, 9, 9, (0, 299, [(11, 0)]))]), 100, .inl 4, true), (18, [some (.inr (.inr (.inl 226))), some (.inl ((-1), 7, [])), some (.inl ((-1), 299, [])), some (.inl (52, 1000, [])), some (.inl (0, 7, [(100, 0)])), some (.inl (0, 299, [(1000011, 0)]))], ([], [], [(227, 3, 3, (1, 8, [(21, 0)])), (227, 9, 9, (0, 299, [(11, 0)]))]), 300, .inl 5, true)]) (f := 284) ⟨p2_nmu, ck_E1 (ck_S1 p2_s186_s ck_S0) (ck_E1 (ck_S1 p2_s190_s ck_S0) (ck_E1 (ck_S1 p2_s1534_s ck_S0) (ck_E1 (ck_S1 p2_s1511_s ck_S0) ck_E0)))⟩ (by decide +kernel)
set_option maxRecDepth 100000 in
/-- GlacierMailModel.thrower -/
noncomputable def p2_s1539 : ck_Sum := ((2, 0, 0), 245, [.inr (.inr (.inl 226)), .inl ((-1), 7, []), .inl ((-1), 299, []), .inl (2, 1000, [])], ([], [], zl203), ([(226, 36, 36)], []), zl204)
set_option maxRecDepth 100000 in
theorem p2_s1539_s {X : Int → Int} {LX : Nat} : ck_Ok p2_O X LX 355 p2_s1539 := ck_okq (cuts := [(3, [some (.inr (.inr (.inl 226))), some (.inl ((-1), 7, [])), some (.inl ((-1), 299, [])), some (.inl (2, 1000, [])), some (.inl (0, 8, [])), none], ([], [], [(227, 3, 3, (0, 8, [(21, 0)])), (227, 9, 9, (0, 299, [(11, 0)]))]), 100, .inl 4, true), (18, [some (.inr (.inr (.inl 226))), some (.inl ((-1), 7, [])), some (.inl ((-1), 299, [])), some (.inl (2, 1000, [])), some (.inl (0, 7, [(100, 0)])), some (.inl (0, 299, [(1000011, 0)]))], ([], [], [(227, 3, 3, (1, 8, [(21, 0)])), (227, 9, 9, (0, 299, [(11, 0)]))]), 300, .inl 5, true)]) (f := 284) ⟨p2_nmu, ck_E1 (ck_S1 p2_s186_s ck_S0) (ck_E1 (ck_S1 p2_s190_s ck_S0) (ck_E1 (ck_S1 p2_s1534_s ck_S0) (ck_E1 (ck_S1 p2_s1511_s ck_S0) ck_E0)))⟩ (by decide +kernel)
set_option maxRecDepth 100000 in
/-- GlacierMail.reached -/
noncomputable def p2_s1541 : ck_Sum := ((8, 1, 6), 245, [.inr (.inr (.inl 1)), .inl ((-2147483648), (-1), []), .inl ((-2147483648), 2147483647, [])], ([], [], []), ([], []), [(.inl 3, 245, ([], [], []))])
set_option maxRecDepth 100000 in
theorem p2_s1541_s {X : Int → Int} {LX : Nat} : ck_Ok p2_O X LX 211 p2_s1541 := ck_okq (cuts := []) (f := 76) ⟨p2_nmu, ck_E1 (ck_S1 p2_s322_s ck_S0) ck_E0⟩ (by decide +kernel)
set_option maxRecDepth 100000 in
/-- GlacierMail.reached -/
noncomputable def p2_s1542 : ck_Sum := ((8, 1, 6), 245, [.inr (.inr (.inl 1)), .inl (8, 2147483647, []), .inl ((-2147483648), 2147483647, [])], ([], [], []), ([], []), [(.inl 3, 245, ([], [], []))])
set_option maxRecDepth 100000 in
theorem p2_s1542_s {X : Int → Int} {LX : Nat} : ck_Ok p2_O X LX 211 p2_s1542 := ck_okq (cuts := []) (f := 76) ⟨p2_nmu, ck_E1 (ck_S1 p2_s325_s ck_S0) ck_E0⟩ (by decide +kernel)
set_option maxRecDepth 100000 in
/-- GlacierMail.reached -/
noncomputable def p2_s1543 : ck_Sum := ((8, 2, 12), 245, [.inr (.inr (.inl 1)), .inl (0, 7, []), .inl ((-2147483648), (-1), [])], ([], [], []), ([], []), [(.inl 3, 245, ([], [], [])), (.inl 0, 245, ([], [], []))])
set_option maxRecDepth 100000 in
theorem p2_s1543_s {X : Int → Int} {LX : Nat} : ck_Ok p2_O X LX 211 p2_s1543 := ck_okq (cuts := []) (f := 82) ⟨p2_nmu, ck_E1 (ck_S1 p2_s328_s ck_S0) (ck_E1 (ck_S1 p2_s249_s ck_S0) ck_E0)⟩ (by decide +kernel)
set_option maxRecDepth 100000 in
/-- GlacierMail.reached -/
noncomputable def p2_s1544 : ck_Sum := ((8, 2, 12), 245, [.inr (.inr (.inl 1)), .inl (0, 7, []), .inl (300, 2147483647, [])], ([], [], []), ([], []), [(.inl 3, 245, ([], [], [])), (.inl 0, 245, ([], [], []))])
set_option maxRecDepth 100000 in
theorem p2_s1544_s {X : Int → Int} {LX : Nat} : ck_Ok p2_O X LX 211 p2_s1544 := ck_okq (cuts := []) (f := 82) ⟨p2_nmu, ck_E1 (ck_S1 p2_s328_s ck_S0) (ck_E1 (ck_S1 p2_s251_s ck_S0) ck_E0)⟩ (by decide +kernel)
set_option maxRecDepth 100000 in
/-- GlacierMail$Answers.throwAgain -/
noncomputable def p2_s1545 : ck_Sum := ((4, 0, 0), 245, [.inr (.inr (.inl 208)), .inl (0, 7, []), .inl (0, 299, []), .inl (ck_one 1), .inl (0, 299, [])], ([], [(3, 8, 0)], []), ([(206, 2, 8), (210, 0, 2399), (212, 0, 2399)], []), [(.inr none, 245, ([], [], [(206, 4, 4, ck_one (-1))]))])
set_option maxRecDepth 100000 in
theorem p2_s1545_s {X : Int → Int} {LX : Nat} : ck_Ok p2_O X LX 203 p2_s1545 := ck_okq (cuts := [(59, [some (.inr (.inr (.inl 208))), some (.inl (0, 7, [])), some (.inl (0, 299, [])), some (.inl (ck_one 1)), some (.inl (0, 299, [])), some (.inr (.inr (.inl 8))), some (.inl ((-1), 98, [])), some (.inl ((-2147483648), 299, [])), some (.inl (0, 8, [])), none], ([], [(3, 8, 0)], [(206, 4, 4, ck_one (-1))]), 100, .inl 8, true)]) (f := 214) ⟨p2_nmu, ck_E1 (ck_S1 p2_s356_s (ck_S1 p2_s1496_s ck_S0)) (ck_E1 (ck_S1 p2_s1332_s ck_S0) (ck_E1 (ck_S1 p2_s346_s ck_S0) (ck_E1 (ck_S1 p2_s1497_s (ck_S1 p2_s1498_s ck_S0)) (ck_E1 (ck_S1 p2_s320_s ck_S0) ck_E0))))⟩ (by decide +kernel)
set_option maxRecDepth 100000 in
/-- GlacierMail$Answers.throwAgain -/
noncomputable def p2_s1546 : ck_Sum := ((4, 0, 0), 245, [.inr (.inr (.inl 208)), .inl (0, 7, []), .inl (2, 299, []), .inl ((-2147483648), 2147483647, []), .inl (2, 299, [])], ([], [(3, 8, 0)], []), (zl199, []), [(.inr none, 245, ([], [], [(206, 4, 4, ck_one (-1))]))])
set_option maxRecDepth 100000 in
theorem p2_s1546_s {X : Int → Int} {LX : Nat} : ck_Ok p2_O X LX 203 p2_s1546 := ck_okq (cuts := [(59, [some (.inr (.inr (.inl 208))), some (.inl (0, 7, [])), some (.inl (2, 299, [])), some (.inl ((-2147483648), 2147483647, [])), some (.inl (2, 299, [])), some (.inr (.inr (.inl 8))), some (.inl ((-1), 98, [])), some (.inl ((-2147483648), 299, [])), some (.inl (0, 8, [])), none], ([], [(3, 8, 0)], [(206, 4, 4, ck_one (-1))]), 100, .inl 8, true)]) (f := 214) ⟨p2_nmu, ck_E1 (ck_S1 p2_s356_s (ck_S1 p2_s1496_s ck_S0)) (ck_E1 (ck_S1 p2_s1332_s ck_S0) (ck_E1 (ck_S1 p2_s346_s ck_S0) (ck_E1 (ck_S1 p2_s1500_s (ck_S1 p2_s1501_s ck_S0)) (ck_E1 (ck_S1 p2_s320_s ck_S0) ck_E0))))⟩ (by decide +kernel)
set_option maxRecDepth 100000 in
/-- GlacierMail$Answers.spread -/
noncomputable def p2_s1547 : ck_Sum := ((5, 0, 0), 245, [.inr (.inr (.inl 208)), .inl (0, 7, []), .inl (ck_one (-1)), .inl (0, 299, [])], ([], [(3, 8, 0)], [(3, 6, 6, (0, 299, [(10, 0)]))]), (zl200, []), [(.inr none, 245, ([], [], [(206, 4, 4, ck_one (-1))]))])
set_option maxRecDepth 100000 in
theorem p2_s1547_s {X : Int → Int} {LX : Nat} : ck_Ok p2_O X LX 202 p2_s1547 := ck_okq (cuts := [(59, [some (.inr (.inr (.inl 208))), some (.inl (0, 7, [])), some (.inl (ck_one (-1))), some (.inl (0, 299, [])), some (.inl (1, 300, [(1000010, 1)])), none, none], ([], [(3, 8, 0)], [(206, 4, 4, ck_one (-1)), (3, 6, 6, (0, 299, [(10, 0)]))]), 100, .inl 4, true), (82, [some (.inr (.inr (.inl 208))), some (.inl (0, 7, [])), some (.inl (ck_one (-1))), some (.inl (2, 299, [])), some (.inl (1, 298, [(100, 0), (1000010, 1)])), some (.inl (0, 8, [])), none], ([], [(3, 8, 0)], [(206, 4, 4, ck_one (-1)), (3, 6, 6, (0, 299, [(10, 0)]))]), 300, .inl 5, true)]) (f := 284) ⟨p2_nmu, ck_E1 (ck_S1 p2_s320_s ck_S0) (ck_E1 (ck_S1 p2_s1493_s (ck_S1 p2_s1495_s ck_S0)) (ck_E1 (ck_S1 p2_s1545_s (ck_S1 p2_s1546_s ck_S0)) (ck_E1 (ck_S1 p2_s1496_s ck_S0) ck_E0)))⟩ (by decide +kernel)
set_option maxRecDepth 100000 in
/-- GlacierMail.reached -/
noncomputable def p2_s1548 : ck_Sum := ((8, 1, 6), 245, [.inr (.inr (.inl 1)), .inl (0, 7, []), .inl (0, 299, [])], ([], [(3, 8, 0)], [(3, 6, 6, (0, 299, [(10, 0)]))]), (zl200, []), [(.inl 3, 245, ([], [], [])), (.inr (some (.inl ((-2147483648), 2147483647, []))), 245, ([], [], [(206, 4, 4, ck_one (-1))]))])
set_option maxRecDepth 100000 in
theorem p2_s1548_s {X : Int → Int} {LX : Nat} : ck_Ok p2_O X LX 211 p2_s1548 := ck_okq (cuts := [(27, [some (.inr (.inr (.inl 1))), some (.inl (0, 7, [])), some (.inl (0, 299, [])), some (.inl ((-2147483648), 2147483647, [])), some (.inl (0, 8, []))], ([], [(3, 8, 0)], [(206, 4, 4, ck_one (-1)), (3, 6, 6, (0, 299, [(10, 0)]))]), 100, .inl 4, true)]) (f := 174) ⟨p2_nmu, ck_E1 (ck_S1 p2_s328_s ck_S0) (ck_E1 (ck_S1 p2_s253_s ck_S0) (ck_E1 (ck_S1 p2_s1547_s ck_S0) (ck_E1 (ck_S1 p2_s320_s ck_S0) (ck_E1 (ck_S1 p2_s1504_s ck_S0) ck_E0))))⟩ (by decide +kernel)
set_option maxRecDepth 100000 in
/-- GlacierMailModel.reached -/
noncomputable def p2_s1549 : ck_Sum := ((2, 0, 0), 245, [.inr (.inr (.inl 226)), .inl ((-2147483648), (-1), []), .inl ((-2147483648), 2147483647, [])], ([], [], [(227, 3, 3, (0, 8, [(21, 0)]))]), ([(226, 0, 0)], []), [(.inr (some (.inl (ck_one 0))), 245, ([], [], [(226, 0, 0, ck_one 1)]))])
set_option maxRecDepth 100000 in
theorem p2_s1549_s {X : Int → Int} {LX : Nat} : ck_Ok p2_O X LX 356 p2_s1549 := ck_okq (cuts := []) (f := 94) ⟨p2_nmu, ck_E1 (ck_S1 p2_s359_s ck_S0) (ck_E1 (ck_S1 p2_s241_s ck_S0) ck_E0)⟩ (by decide +kernel)
set_option maxRecDepth 100000 in
/-- GlacierMailModel.reached -/
noncomputable def p2_s1550 : ck_Sum := ((2, 0, 0), 245, [.inr (.inr (.inl 226)), .inl (8, 2147483647, []), .inl ((-2147483648), 2147483647, [])], ([], [], [(227, 3, 3, (0, 8, [(21, 0)]))]), ([(226, 0, 0)], []), [(.inr (some (.inl (ck_one 0))), 245, ([], [], [(226, 0, 0, ck_one 1)]))])
set_option maxRecDepth 100000 in
theorem p2_s1550_s {X : Int → Int} {LX : Nat} : ck_Ok p2_O X LX 356 p2_s1550 := ck_okq (cuts := []) (f := 94) ⟨p2_nmu, ck_E1 (ck_S1 p2_s362_s ck_S0) (ck_E1 (ck_S1 p2_s241_s ck_S0) ck_E0)⟩ (by decide +kernel)
set_option maxRecDepth 100000 in
/-- GlacierMailModel.reached -/
noncomputable def p2_s1551 : ck_Sum := ((2, 0, 0), 245, [.inr (.inr (.inl 226)), .inl (0, 7, []), .inl ((-2147483648), (-1), [])], ([], [], [(227, 3, 3, (0, 8, [(21, 0)]))]), ([(226, 0, 0)], []), [(.inr (some (.inl (ck_one 0))), 245, ([], [], [(226, 0, 0, (1, 2, []))]))])
set_option maxRecDepth 100000 in
theorem p2_s1551_s {X : Int → Int} {LX : Nat} : ck_Ok p2_O X LX 356 p2_s1551 := ck_okq (cuts := []) (f := 106) ⟨p2_nmu, ck_E1 (ck_S1 p2_s365_s ck_S0) (ck_E1 (ck_S1 p2_s241_s (ck_S1 p2_s242_s (ck_S1 p2_s244_s ck_S0))) (ck_E1 (ck_S1 p2_s257_s ck_S0) ck_E0))⟩ (by decide +kernel)
set_option maxRecDepth 100000 in
/-- GlacierMailModel.reached -/
noncomputable def p2_s1552 : ck_Sum := ((2, 0, 0), 245, [.inr (.inr (.inl 226)), .inl (0, 7, []), .inl (300, 2147483647, [])], ([], [], [(227, 3, 3, (0, 8, [(21, 0)]))]), ([(226, 0, 0)], []), [(.inr (some (.inl (ck_one 0))), 245, ([], [], [(226, 0, 0, (1, 2, []))]))])
set_option maxRecDepth 100000 in
theorem p2_s1552_s {X : Int → Int} {LX : Nat} : ck_Ok p2_O X LX 356 p2_s1552 := ck_okq (cuts := []) (f := 106) ⟨p2_nmu, ck_E1 (ck_S1 p2_s365_s ck_S0) (ck_E1 (ck_S1 p2_s241_s (ck_S1 p2_s242_s (ck_S1 p2_s244_s ck_S0))) (ck_E1 (ck_S1 p2_s260_s ck_S0) ck_E0))⟩ (by decide +kernel)
set_option maxRecDepth 100000 in
/-- GlacierMail.needThiefYears -/
noncomputable def p2_s1554 : ck_Sum := ((6, 1, 6), 245, [.inr (.inr (.inl 1)), .inl ((-2147483648), (-1), [])], ([], [], []), ([], []), [(.inl 0, 245, ([], [], []))])
set_option maxRecDepth 100000 in
theorem p2_s1554_s {X : Int → Int} {LX : Nat} : ck_Ok p2_O X LX 214 p2_s1554 := ck_okq (cuts := []) (f := 78) ⟨p2_nmu, ck_E0⟩ (by decide +kernel)
set_option maxRecDepth 100000 in
/-- GlacierMail.thieves -/
noncomputable def p2_s1555 : ck_Sum := ((7, 1, 6), 245, [.inr (.inr (.inl 1)), .inl ((-2147483648), (-1), []), .inl (0, 1, [])], ([], [], []), ([], []), [(.inl 0, 245, ([], [], []))])
set_option maxRecDepth 100000 in
theorem p2_s1555_s {X : Int → Int} {LX : Nat} : ck_Ok p2_O X LX 213 p2_s1555 := ck_okq (cuts := []) (f := 76) ⟨p2_nmu, ck_E1 (ck_S1 p2_s1554_s ck_S0) ck_E0⟩ (by decide +kernel)
set_option maxRecDepth 100000 in
/-- GlacierMail.needThiefYears -/
noncomputable def p2_s1556 : ck_Sum := ((6, 1, 6), 245, [.inr (.inr (.inl 1)), .inl (31, 2147483647, [])], ([], [], []), ([], []), [(.inl 0, 245, ([], [], []))])
set_option maxRecDepth 100000 in
theorem p2_s1556_s {X : Int → Int} {LX : Nat} : ck_Ok p2_O X LX 214 p2_s1556 := ck_okq (cuts := []) (f := 84) ⟨p2_nmu, ck_E0⟩ (by decide +kernel)
set_option maxRecDepth 100000 in
/-- GlacierMail.thieves -/
noncomputable def p2_s1557 : ck_Sum := ((7, 1, 6), 245, [.inr (.inr (.inl 1)), .inl (31, 2147483647, []), .inl (0, 1, [])], ([], [], []), ([], []), [(.inl 0, 245, ([], [], []))])
set_option maxRecDepth 100000 in
theorem p2_s1557_s {X : Int → Int} {LX : Nat} : ck_Ok p2_O X LX 213 p2_s1557 := ck_okq (cuts := []) (f := 76) ⟨p2_nmu, ck_E1 (ck_S1 p2_s1556_s ck_S0) ck_E0⟩ (by decide +kernel)
set_option maxRecDepth 100000 in
/-- GlacierMail.needThiefYears -/
noncomputable def p2_s1558 : ck_Sum := ((6, 1, 6), 245, [.inr (.inr (.inl 1)), .inl (0, 30, [])], ([], [], []), ([], []), [(.inl 0, 245, ([], [], [])), (.inr none, 245, ([], [], []))])
set_option maxRecDepth 100000 in
theorem p2_s1558_s {X : Int → Int} {LX : Nat} : ck_Ok p2_O X LX 214 p2_s1558 := ck_okq (cuts := []) (f := 84) ⟨p2_nmu, ck_E0⟩ (by decide +kernel)
set_option maxRecDepth 100000 in
/-- java/util/Arrays.fill -/
noncomputable def p2_s1559 : ck_Sum := ((0, 0, 0), 245, [.inr (.inr (.inl 223)), .inl (ck_one 0)], ([], [], []), ([(223, 0, 179)], []), [(.inr none, 245, ([], [], []))])
set_option maxRecDepth 100000 in
theorem p2_s1559_s {X : Int → Int} {LX : Nat} : ck_Ok p2_O X LX 8 p2_s1559 := ck_okq (cuts := [(5, [some (.inr (.inr (.inl 223))), some (.inl (ck_one 0)), some (.inl (0, 180, [])), some (.inl (ck_one 180))], ([], [], []), 100, .inl 2, true)]) (f := 130) ⟨p2_nmu, ck_E0⟩ (by decide +kernel)
set_option maxRecDepth 100000 in
/-- GlacierMail$Rows.reset -/
noncomputable def p2_s1560 : ck_Sum := ((1, 0, 0), 245, [.inr (.inr (.inl 222)), .inl (0, 30, [])], ([], [], []), ([(222, 3, 3), (223, 0, 179)], []), [(.inr none, 245, ([], [], []))])
set_option maxRecDepth 100000 in
theorem p2_s1560_s {X : Int → Int} {LX : Nat} : ck_Ok p2_O X LX 25 p2_s1560 := ck_okq (cuts := []) (f := 96) ⟨p2_nmu, ck_E1 (ck_S1 p2_s1559_s ck_S0) ck_E0⟩ (by decide +kernel)
set_option maxRecDepth 100000 in
/-- GlacierMail$Rows.get -/
noncomputable def p2_s1561 : ck_Sum := ((0, 0, 0), 245, [.inr (.inr (.inl 222)), .inl ((-2147483648), 2147483647, []), .inl ((-2147483648), 2147483647, [])], ([], [], []), ([], []), [(.inr (some (.inl ((-2147483648), 2147483647, []))), 245, ([], [], []))])
set_option maxRecDepth 100000 in
theorem p2_s1561_s {X : Int → Int} {LX : Nat} : ck_Ok p2_O X LX 10 p2_s1561 := ck_okq (cuts := []) (f := 114) ⟨p2_nmu, ck_E0⟩ (by decide +kernel)
set_option maxRecDepth 100000 in
/-- GlacierMail$Rows.put -/
noncomputable def p2_s1562 : ck_Sum := ((0, 0, 0), 245, [.inr (.inr (.inl 222)), .inl ((-2147483648), 2147483647, []), .inl ((-1), 299, []), .inl ((-2147483648), 2147483647, [])], ([], [], []), ([(223, 0, 179)], []), [(.inr none, 245, ([], [], []))])
set_option maxRecDepth 100000 in
theorem p2_s1562_s {X : Int → Int} {LX : Nat} : ck_Ok p2_O X LX 45 p2_s1562 := ck_okq (cuts := []) (f := 116) ⟨p2_nmu, ck_E0⟩ (by decide +kernel)
set_option maxRecDepth 100000 in
/-- GlacierMail.reckonCame -/
noncomputable def p2_s1563 : ck_Sum := ((2, 0, 0), 245, [.inr (.inr (.inl 1)), .inl (0, 30, [])], ([], [], [(3, 6, 6, (0, 299, [(10, 0)]))]), ([(222, 3, 3), (223, 0, 179)], []), [(.inr none, 245, ([], [], []))])
set_option maxRecDepth 100000 in
theorem p2_s1563_s {X : Int → Int} {LX : Nat} : ck_Ok p2_O X LX 215 p2_s1563 := ck_okq (cuts := [(10, [some (.inr (.inr (.inl 1))), some (.inl (0, 30, [])), some (.inl (0, 24, [])), none, none], ([], [], [(3, 6, 6, (0, 299, [(10, 0)]))]), 100, .inl 2, true)]) (f := 286) ⟨p2_nmu, ck_E1 (ck_S1 p2_s1560_s ck_S0) (ck_E1 (ck_S1 p2_s332_s ck_S0) (ck_E1 (ck_S1 p2_s350_s (ck_S1 p2_s335_s (ck_S1 p2_s1561_s ck_S0))) (ck_E1 (ck_S1 p2_s336_s ck_S0) (ck_E1 (ck_S1 p2_s1562_s ck_S0) ck_E0))))⟩ (by decide +kernel)
set_option maxRecDepth 100000 in
/-- java/util/Arrays.fill -/
noncomputable def p2_s1564 : ck_Sum := ((0, 0, 0), 245, [.inr (.inr (.inl 225)), .inl (ck_one 0)], ([], [], []), ([(225, 0, 185)], []), [(.inr none, 245, ([], [], []))])
set_option maxRecDepth 100000 in
theorem p2_s1564_s {X : Int → Int} {LX : Nat} : ck_Ok p2_O X LX 8 p2_s1564 := ck_okq (cuts := [(5, [some (.inr (.inr (.inl 225))), some (.inl (ck_one 0)), some (.inl (0, 186, [])), some (.inl (ck_one 186))], ([], [], []), 100, .inl 2, true)]) (f := 130) ⟨p2_nmu, ck_E0⟩ (by decide +kernel)
set_option maxRecDepth 100000 in
/-- GlacierMail$Rows.reset -/
noncomputable def p2_s1565 : ck_Sum := ((1, 0, 0), 245, [.inr (.inr (.inl 224)), .inl (1, 31, [])], ([], [], []), ([(224, 3, 3), (225, 0, 185)], []), [(.inr none, 245, ([], [], [(224, 3, 3, (1, 31, []))]))])
set_option maxRecDepth 100000 in
theorem p2_s1565_s {X : Int → Int} {LX : Nat} : ck_Ok p2_O X LX 25 p2_s1565 := ck_okq (cuts := []) (f := 96) ⟨p2_nmu, ck_E1 (ck_S1 p2_s1564_s ck_S0) ck_E0⟩ (by decide +kernel)
set_option maxRecDepth 100000 in
/-- GlacierMail$Rows.get -/
noncomputable def p2_s1566 : ck_Sum := ((0, 0, 0), 245, [.inr (.inr (.inl 224)), .inl ((-2147483648), 2147483647, []), .inl ((-2147483648), 2147483647, [])], ([], [], []), ([], []), [(.inr (some (.inl ((-2147483648), 2147483647, []))), 245, ([], [], []))])
set_option maxRecDepth 100000 in
theorem p2_s1566_s {X : Int → Int} {LX : Nat} : ck_Ok p2_O X LX 10 p2_s1566 := ck_okq (cuts := []) (f := 114) ⟨p2_nmu, ck_E0⟩ (by decide +kernel)
set_option maxRecDepth 100000 in
/-- GlacierMail.bestNext -/
noncomputable def p2_s1567 : ck_Sum := ((1, 0, 0), 245, [.inr (.inr (.inl 1)), .inl (1, 30, []), .inl (0, 5, [])], ([], [], []), ([], []), [(.inr (some (.inl ((-2147483648), 2147483647, []))), 245, ([], [], []))])
set_option maxRecDepth 100000 in
theorem p2_s1567_s {X : Int → Int} {LX : Nat} : ck_Ok p2_O X LX 216 p2_s1567 := ck_okq (cuts := []) (f := 118) ⟨p2_nmu, ck_E1 (ck_S1 p2_s1566_s ck_S0) ck_E0⟩ (by decide +kernel)
set_option maxRecDepth 100000 in
/-- GlacierMail$Rows.put -/
noncomputable def p2_s1568 : ck_Sum := ((0, 0, 0), 245, [.inr (.inr (.inl 224)), .inl (0, 29, []), .inl (0, 5, []), .inl ((-2147483648), 2147483647, [])], ([], [], []), ([(225, 0, 179)], []), [(.inr none, 245, ([], [], []))])
set_option maxRecDepth 100000 in
theorem p2_s1568_s {X : Int → Int} {LX : Nat} : ck_Ok p2_O X LX 45 p2_s1568 := ck_okq (cuts := []) (f := 116) ⟨p2_nmu, ck_E0⟩ (by decide +kernel)
set_option maxRecDepth 100000 in
/-- GlacierMailModel.in -/
noncomputable def p2_s1570 : ck_Sum := ((0, 0, 0), 245, [.inl ((-2147483648), (-1), []), .inl (ck_one 1), .inl (ck_one 30)], ([], [], []), ([], []), [(.inr (some (.inl (ck_one 0))), 245, ([], [], []))])
set_option maxRecDepth 100000 in
theorem p2_s1570_s {X : Int → Int} {LX : Nat} : ck_Ok p2_O X LX 286 p2_s1570 := ck_okq (cuts := []) (f := 80) ⟨p2_nmu, ck_E0⟩ (by decide +kernel)
set_option maxRecDepth 100000 in
/-- GlacierMailModel.thieves -/
noncomputable def p2_s1571 : ck_Sum := ((1, 0, 0), 245, [.inr (.inr (.inl 226)), .inl ((-2147483648), (-1), []), .inl (0, 1, [])], ([], [], []), ([(226, 0, 0)], []), [(.inr (some (.inl (ck_one 0))), 245, ([], [], [(226, 0, 0, ck_one 1)]))])
set_option maxRecDepth 100000 in
theorem p2_s1571_s {X : Int → Int} {LX : Nat} : ck_Ok p2_O X LX 357 p2_s1571 := ck_okq (cuts := []) (f := 102) ⟨p2_nmu, ck_E1 (ck_S1 p2_s1570_s ck_S0) (ck_E1 (ck_S1 p2_s241_s ck_S0) ck_E0)⟩ (by decide +kernel)
set_option maxRecDepth 100000 in
/-- GlacierMailModel.in -/
noncomputable def p2_s1572 : ck_Sum := ((0, 0, 0), 245, [.inl (31, 2147483647, []), .inl (ck_one 1), .inl (ck_one 30)], ([], [], []), ([], []), [(.inr (some (.inl (ck_one 0))), 245, ([], [], []))])
set_option maxRecDepth 100000 in
theorem p2_s1572_s {X : Int → Int} {LX : Nat} : ck_Ok p2_O X LX 286 p2_s1572 := ck_okq (cuts := []) (f := 86) ⟨p2_nmu, ck_E0⟩ (by decide +kernel)
set_option maxRecDepth 100000 in
/-- GlacierMailModel.thieves -/
noncomputable def p2_s1573 : ck_Sum := ((1, 0, 0), 245, [.inr (.inr (.inl 226)), .inl (31, 2147483647, []), .inl (0, 1, [])], ([], [], []), ([(226, 0, 0)], []), [(.inr (some (.inl (ck_one 0))), 245, ([], [], [(226, 0, 0, ck_one 1)]))])
set_option maxRecDepth 100000 in
theorem p2_s1573_s {X : Int → Int} {LX : Nat} : ck_Ok p2_O X LX 357 p2_s1573 := ck_okq (cuts := []) (f := 102) ⟨p2_nmu, ck_E1 (ck_S1 p2_s1572_s ck_S0) (ck_E1 (ck_S1 p2_s241_s ck_S0) ck_E0)⟩ (by decide +kernel)
set_option maxRecDepth 100000 in
/-- GlacierMailModel.in -/
noncomputable def p2_s1574 : ck_Sum := ((0, 0, 0), 245, [.inl (0, 30, []), .inl (ck_one 1), .inl (ck_one 30)], ([], [], []), ([], []), [(.inr (some (.inl (ck_one 0))), 245, ([], [], [])), (.inr (some (.inl (ck_one 1))), 245, ([], [], []))])
set_option maxRecDepth 100000 in
theorem p2_s1574_s {X : Int → Int} {LX : Nat} : ck_Ok p2_O X LX 286 p2_s1574 := ck_okq (cuts := []) (f := 88) ⟨p2_nmu, ck_E0⟩ (by decide +kernel)
set_option maxRecDepth 100000 in
/-- GlacierMailModel.outsIn -/
noncomputable def p2_s1575 : ck_Sum := ((2, 0, 0), 245, [.inr (.inr (.inl 226)), .inl (0, 328, []), .inl (0, 5, []), .inl (ck_one 0)], ([], [], [(227, 4, 4, (0, 24, [(22, 0)]))]), ([], []), [(.inr (some (.inl ((-2147483648), 2147483647, []))), 245, ([], [], []))])
set_option maxRecDepth 100000 in
theorem p2_s1575_s {X : Int → Int} {LX : Nat} : ck_Ok p2_O X LX 333 p2_s1575 := ck_okq (cuts := [(6, [some (.inr (.inr (.inl 226))), some (.inl (0, 328, [])), some (.inl (0, 5, [])), some (.inl (ck_one 0)), some (.inl ((-2147483648), 2147483647, [])), some (.inl (0, 24, []))], ([], [], [(227, 4, 4, (0, 24, [(22, 0)]))]), 100, .inl 5, true)]) (f := 218) ⟨p2_nmu, ck_E1 (ck_S1 p2_s176_s ck_S0) (ck_E1 (ck_S1 p2_s375_s ck_S0) (ck_E1 (ck_S1 p2_s374_s ck_S0) ck_E0))⟩ (by decide +kernel)
set_option maxRecDepth 100000 in
/-- GlacierMailModel.outsIn -/
noncomputable def p2_s1576 : ck_Sum := ((2, 0, 0), 245, [.inr (.inr (.inl 226)), .inl (0, 327, []), .inl (0, 5, []), .inl (ck_one 0)], ([], [], [(227, 4, 4, (0, 24, [(22, 0)]))]), ([], []), [(.inr (some (.inl ((-2147483648), 2147483647, []))), 245, ([], [], []))])
set_option maxRecDepth 100000 in
theorem p2_s1576_s {X : Int → Int} {LX : Nat} : ck_Ok p2_O X LX 333 p2_s1576 := ck_okq (cuts := [(6, [some (.inr (.inr (.inl 226))), some (.inl (0, 327, [])), some (.inl (0, 5, [])), some (.inl (ck_one 0)), some (.inl ((-2147483648), 2147483647, [])), some (.inl (0, 24, []))], ([], [], [(227, 4, 4, (0, 24, [(22, 0)]))]), 100, .inl 5, true)]) (f := 218) ⟨p2_nmu, ck_E1 (ck_S1 p2_s176_s ck_S0) (ck_E1 (ck_S1 p2_s375_s ck_S0) (ck_E1 (ck_S1 p2_s374_s ck_S0) ck_E0))⟩ (by decide +kernel)
set_option maxRecDepth 100000 in
/-- GlacierMailModel.outsIn -/
noncomputable def p2_s1577 : ck_Sum := ((2, 0, 0), 245, [.inr (.inr (.inl 226)), .inl (0, 327, []), .inl (0, 4, []), .inl (ck_one 0)], ([], [], [(227, 4, 4, (0, 24, [(22, 0)]))]), ([], []), [(.inr (some (.inl ((-2147483648), 2147483647, []))), 245, ([], [], []))])
set_option maxRecDepth 100000 in
theorem p2_s1577_s {X : Int → Int} {LX : Nat} : ck_Ok p2_O X LX 333 p2_s1577 := ck_okq (cuts := [(6, [some (.inr (.inr (.inl 226))), some (.inl (0, 327, [])), some (.inl (0, 4, [])), some (.inl (ck_one 0)), some (.inl ((-2147483648), 2147483647, [])), some (.inl (0, 24, []))], ([], [], [(227, 4, 4, (0, 24, [(22, 0)]))]), 100, .inl 5, true)]) (f := 218) ⟨p2_nmu, ck_E1 (ck_S1 p2_s176_s ck_S0) (ck_E1 (ck_S1 p2_s375_s ck_S0) (ck_E1 (ck_S1 p2_s374_s ck_S0) ck_E0))⟩ (by decide +kernel)
end
/-! 78r80a20.sf -/
section
/-! EVERY CALL ENDS, whatever was done before (laid by wip/am/p2k.py). -/
set_option maxRecDepth 100000 in
/-- GlacierMailModel.outsIn -/
noncomputable def p2_s1578 : ck_Sum := ((2, 0, 0), 245, [.inr (.inr (.inl 226)), .inl (0, 327, []), .inl (ck_one 0), .inl (ck_one 0)], ([], [], [(227, 4, 4, (0, 24, [(22, 0)]))]), ([], []), [(.inr (some (.inl ((-2147483648), 2147483647, []))), 245, ([], [], []))])
set_option maxRecDepth 100000 in
theorem p2_s1578_s {X : Int → Int} {LX : Nat} : ck_Ok p2_O X LX 333 p2_s1578 := ck_okq (cuts := [(6, [some (.inr (.inr (.inl 226))), some (.inl (0, 327, [])), some (.inl (ck_one 0)), some (.inl (ck_one 0)), some (.inl ((-2147483648), 2147483647, [])), some (.inl (0, 24, []))], ([], [], [(227, 4, 4, (0, 24, [(22, 0)]))]), 100, .inl 5, true)]) (f := 218) ⟨p2_nmu, ck_E1 (ck_S1 p2_s176_s ck_S0) (ck_E1 (ck_S1 p2_s375_s ck_S0) (ck_E1 (ck_S1 p2_s374_s ck_S0) ck_E0))⟩ (by decide +kernel)
set_option maxRecDepth 100000 in
/-- GlacierMailModel.outsIn -/
noncomputable def p2_s1579 : ck_Sum := ((2, 0, 0), 245, [.inr (.inr (.inl 226)), .inl (0, 327, []), .inl (1, 5, []), .inl (ck_one 0)], ([], [], [(227, 4, 4, (0, 24, [(22, 0)]))]), ([], []), [(.inr (some (.inl ((-2147483648), 2147483647, []))), 245, ([], [], []))])
set_option maxRecDepth 100000 in
theorem p2_s1579_s {X : Int → Int} {LX : Nat} : ck_Ok p2_O X LX 333 p2_s1579 := ck_okq (cuts := [(6, [some (.inr (.inr (.inl 226))), some (.inl (0, 327, [])), some (.inl (1, 5, [])), some (.inl (ck_one 0)), some (.inl ((-2147483648), 2147483647, [])), some (.inl (0, 24, []))], ([], [], [(227, 4, 4, (0, 24, [(22, 0)]))]), 100, .inl 5, true)]) (f := 218) ⟨p2_nmu, ck_E1 (ck_S1 p2_s176_s ck_S0) (ck_E1 (ck_S1 p2_s375_s ck_S0) (ck_E1 (ck_S1 p2_s374_s ck_S0) ck_E0))⟩ (by decide +kernel)
set_option maxRecDepth 100000 in
/-- GlacierMailModel.outsIn -/
noncomputable def p2_s1580 : ck_Sum := ((2, 0, 0), 245, [.inr (.inr (.inl 226)), .inl (0, 327, []), .inl (1, 4, []), .inl (ck_one 0)], ([], [], [(227, 4, 4, (0, 24, [(22, 0)]))]), ([], []), [(.inr (some (.inl ((-2147483648), 2147483647, []))), 245, ([], [], []))])
set_option maxRecDepth 100000 in
theorem p2_s1580_s {X : Int → Int} {LX : Nat} : ck_Ok p2_O X LX 333 p2_s1580 := ck_okq (cuts := [(6, [some (.inr (.inr (.inl 226))), some (.inl (0, 327, [])), some (.inl (1, 4, [])), some (.inl (ck_one 0)), some (.inl ((-2147483648), 2147483647, [])), some (.inl (0, 24, []))], ([], [], [(227, 4, 4, (0, 24, [(22, 0)]))]), 100, .inl 5, true)]) (f := 218) ⟨p2_nmu, ck_E1 (ck_S1 p2_s176_s ck_S0) (ck_E1 (ck_S1 p2_s375_s ck_S0) (ck_E1 (ck_S1 p2_s374_s ck_S0) ck_E0))⟩ (by decide +kernel)
set_option maxRecDepth 100000 in
/-- GlacierMail.watchman -/
noncomputable def p2_s1583 : ck_Sum := ((7, 1, 6), 245, [.inr (.inr (.inl 1)), .inl ((-2147483648), (-1), []), .inl (0, 1, [])], ([], [], []), ([], []), [(.inl 0, 245, ([], [], []))])
set_option maxRecDepth 100000 in
theorem p2_s1583_s {X : Int → Int} {LX : Nat} : ck_Ok p2_O X LX 218 p2_s1583 := ck_okq (cuts := []) (f := 76) ⟨p2_nmu, ck_E1 (ck_S1 p2_s1554_s ck_S0) ck_E0⟩ (by decide +kernel)
set_option maxRecDepth 100000 in
/-- GlacierMail.watchman -/
noncomputable def p2_s1584 : ck_Sum := ((7, 1, 6), 245, [.inr (.inr (.inl 1)), .inl (31, 2147483647, []), .inl (0, 1, [])], ([], [], []), ([], []), [(.inl 0, 245, ([], [], []))])
set_option maxRecDepth 100000 in
theorem p2_s1584_s {X : Int → Int} {LX : Nat} : ck_Ok p2_O X LX 218 p2_s1584 := ck_okq (cuts := []) (f := 76) ⟨p2_nmu, ck_E1 (ck_S1 p2_s1556_s ck_S0) ck_E0⟩ (by decide +kernel)
set_option maxRecDepth 100000 in
/-- GlacierMail.mostBeside -/
noncomputable def p2_s1585 : ck_Sum := ((1, 0, 0), 245, [.inr (.inr (.inl 1)), .inl (0, 5, []), .inl (0, 30, [])], ([], [], []), ([], []), [(.inr (some (.inl (0, 2147483647, []))), 245, ([], [], []))])
set_option maxRecDepth 100000 in
theorem p2_s1585_s {X : Int → Int} {LX : Nat} : ck_Ok p2_O X LX 219 p2_s1585 := ck_okq (cuts := [(5, [some (.inr (.inr (.inl 1))), some (.inl (0, 5, [])), some (.inl (0, 30, [])), some (.inl (0, 2147483647, [])), some (.inl (0, 6, [])), none, none], ([], [], []), 100, .inl 4, true), (23, [some (.inr (.inr (.inl 1))), some (.inl (0, 5, [])), some (.inl (0, 30, [])), some (.inl (0, 2147483647, [])), some (.inl (0, 5, [(100, 0)])), some (.inl ((-2147483648), 2147483647, [])), some (.inl (0, 30, []))], ([], [], []), 300, .inl 6, true)]) (f := 194) ⟨p2_nmu, ck_E1 (ck_S1 p2_s1561_s ck_S0) ck_E0⟩ (by decide +kernel)
set_option maxRecDepth 100000 in
/-- GlacierMail.mostBeside -/
noncomputable def p2_s1586 : ck_Sum := ((1, 0, 0), 245, [.inr (.inr (.inl 1)), .inl (1, 5, []), .inl (0, 30, [])], ([], [], []), ([], []), [(.inr (some (.inl (0, 2147483647, []))), 245, ([], [], []))])
set_option maxRecDepth 100000 in
theorem p2_s1586_s {X : Int → Int} {LX : Nat} : ck_Ok p2_O X LX 219 p2_s1586 := ck_okq (cuts := [(5, [some (.inr (.inr (.inl 1))), some (.inl (1, 5, [])), some (.inl (0, 30, [])), some (.inl (0, 2147483647, [])), some (.inl (0, 6, [])), none, none], ([], [], []), 100, .inl 4, true), (23, [some (.inr (.inr (.inl 1))), some (.inl (1, 5, [])), some (.inl (0, 30, [])), some (.inl (0, 2147483647, [])), some (.inl (0, 5, [(100, 0)])), some (.inl ((-2147483648), 2147483647, [])), some (.inl (0, 30, []))], ([], [], []), 300, .inl 6, true)]) (f := 194) ⟨p2_nmu, ck_E1 (ck_S1 p2_s1561_s ck_S0) ck_E0⟩ (by decide +kernel)
set_option maxRecDepth 100000 in
/-- GlacierMailModel.watchman -/
noncomputable def p2_s1588 : ck_Sum := ((1, 0, 0), 245, [.inr (.inr (.inl 226)), .inl ((-2147483648), (-1), []), .inl (0, 1, [])], ([], [], []), ([(226, 0, 0)], []), [(.inr (some (.inl (ck_one 0))), 245, ([], [], [(226, 0, 0, ck_one 1)]))])
set_option maxRecDepth 100000 in
theorem p2_s1588_s {X : Int → Int} {LX : Nat} : ck_Ok p2_O X LX 359 p2_s1588 := ck_okq (cuts := []) (f := 102) ⟨p2_nmu, ck_E1 (ck_S1 p2_s1570_s ck_S0) (ck_E1 (ck_S1 p2_s241_s ck_S0) ck_E0)⟩ (by decide +kernel)
set_option maxRecDepth 100000 in
/-- GlacierMailModel.watchman -/
noncomputable def p2_s1589 : ck_Sum := ((1, 0, 0), 245, [.inr (.inr (.inl 226)), .inl (31, 2147483647, []), .inl (0, 1, [])], ([], [], []), ([(226, 0, 0)], []), [(.inr (some (.inl (ck_one 0))), 245, ([], [], [(226, 0, 0, ck_one 1)]))])
set_option maxRecDepth 100000 in
theorem p2_s1589_s {X : Int → Int} {LX : Nat} : ck_Ok p2_O X LX 359 p2_s1589 := ck_okq (cuts := []) (f := 102) ⟨p2_nmu, ck_E1 (ck_S1 p2_s1572_s ck_S0) (ck_E1 (ck_S1 p2_s241_s ck_S0) ck_E0)⟩ (by decide +kernel)
set_option maxRecDepth 100000 in
/-- GlacierMail.meeting -/
noncomputable def p2_s1591 : ck_Sum := ((8, 1, 6), 245, [.inr (.inr (.inl 1)), .inl ((-2147483648), (-1), []), .inl ((-2147483648), 2147483647, [])], ([], [], []), ([], []), [(.inl 3, 245, ([], [], []))])
set_option maxRecDepth 100000 in
theorem p2_s1591_s {X : Int → Int} {LX : Nat} : ck_Ok p2_O X LX 221 p2_s1591 := ck_okq (cuts := []) (f := 76) ⟨p2_nmu, ck_E1 (ck_S1 p2_s387_s ck_S0) ck_E0⟩ (by decide +kernel)
set_option maxRecDepth 100000 in
/-- GlacierMail.meeting -/
noncomputable def p2_s1592 : ck_Sum := ((8, 1, 6), 245, [.inr (.inr (.inl 1)), .inl (24, 2147483647, []), .inl ((-2147483648), 2147483647, [])], ([], [], []), ([], []), [(.inl 3, 245, ([], [], []))])
set_option maxRecDepth 100000 in
theorem p2_s1592_s {X : Int → Int} {LX : Nat} : ck_Ok p2_O X LX 221 p2_s1592 := ck_okq (cuts := []) (f := 76) ⟨p2_nmu, ck_E1 (ck_S1 p2_s390_s ck_S0) ck_E0⟩ (by decide +kernel)
set_option maxRecDepth 100000 in
/-- GlacierMail.meeting -/
noncomputable def p2_s1593 : ck_Sum := ((8, 2, 12), 245, [.inr (.inr (.inl 1)), .inl (0, 23, []), .inl ((-2147483648), (-1), [])], ([], [], []), ([], []), [(.inl 3, 245, ([], [], []))])
set_option maxRecDepth 100000 in
theorem p2_s1593_s {X : Int → Int} {LX : Nat} : ck_Ok p2_O X LX 221 p2_s1593 := ck_okq (cuts := []) (f := 82) ⟨p2_nmu, ck_E1 (ck_S1 p2_s393_s (ck_S1 p2_s387_s ck_S0)) ck_E0⟩ (by decide +kernel)
set_option maxRecDepth 100000 in
/-- GlacierMail.meeting -/
noncomputable def p2_s1594 : ck_Sum := ((8, 2, 12), 245, [.inr (.inr (.inl 1)), .inl (0, 23, []), .inl (24, 2147483647, [])], ([], [], []), ([], []), [(.inl 3, 245, ([], [], []))])
set_option maxRecDepth 100000 in
theorem p2_s1594_s {X : Int → Int} {LX : Nat} : ck_Ok p2_O X LX 221 p2_s1594 := ck_okq (cuts := []) (f := 82) ⟨p2_nmu, ck_E1 (ck_S1 p2_s393_s (ck_S1 p2_s390_s ck_S0)) ck_E0⟩ (by decide +kernel)
set_option maxRecDepth 100000 in
/-- GlacierMail.needUnlike -/
noncomputable def p2_s1595 : ck_Sum := ((6, 1, 6), 245, [.inr (.inr (.inl 1)), .inl (0, 23, []), .inl (0, 23, [])], ([], [], []), ([], []), [(.inr none, 245, ([], [], [])), (.inl 0, 245, ([], [], []))])
set_option maxRecDepth 100000 in
theorem p2_s1595_s {X : Int → Int} {LX : Nat} : ck_Ok p2_O X LX 153 p2_s1595 := ck_okq (cuts := []) (f := 78) ⟨p2_nmu, ck_E0⟩ (by decide +kernel)
set_option maxRecDepth 100000 in
/-- GlacierMail.startBoth -/
noncomputable def p2_s1596 : ck_Sum := ((4, 0, 0), 245, [.inr (.inr (.inl 1)), .inl (0, 23, []), .inl (0, 23, []), .inl (0, 299, [])], ([], [(3, 8, 0)], []), ([(206, 2, 8), (207, 2, 8)], []), [(.inr (some (.inl (0, 299, []))), 245, ([], [], zl86))])
set_option maxRecDepth 100000 in
theorem p2_s1596_s {X : Int → Int} {LX : Nat} : ck_Ok p2_O X LX 182 p2_s1596 := ck_okq (cuts := []) (f := 126) ⟨p2_nmu, ck_E1 (ck_S1 p2_s339_s (ck_S1 p2_s1381_s ck_S0)) (ck_E1 (ck_S1 p2_s421_s (ck_S1 p2_s1386_s ck_S0)) ck_E0)⟩ (by decide +kernel)
set_option maxRecDepth 100000 in
/-- GlacierMail.meeting -/
noncomputable def p2_s1597 : ck_Sum := ((8, 3, 18), 245, [.inr (.inr (.inl 1)), .inl (0, 23, []), .inl (0, 23, [])], ([], [(3, 8, 0)], [(3, 6, 6, (0, 299, [(10, 0)]))]), ([(206, 2, 8), (207, 2, 8)], []), [(.inl 3, 245, ([], [], [])), (.inl 0, 245, ([], [], [])), (.inr (some (.inl (ck_one (-1)))), 245, ([], [], [])), (.inr (some (.inl (0, 299, []))), 245, ([], [], zl207))])
set_option maxRecDepth 100000 in
theorem p2_s1597_s {X : Int → Int} {LX : Nat} : ck_Ok p2_O X LX 221 p2_s1597 := ck_okq (cuts := [(44, [some (.inr (.inr (.inl 1))), some (.inl (0, 23, [])), some (.inl (0, 23, [])), some (.inl (0, 299, [])), some (.inl (0, 300, []))], ([], [(3, 8, 0)], [(206, 4, 4, ck_one (-1)), (206, 2, 2, ((-1), 299, [])), (3, 6, 6, (0, 299, [(10, 0)]))]), 100, .inl 4, true)]) (f := 194) ⟨p2_nmu, ck_E1 (ck_S1 p2_s393_s ck_S0) (ck_E1 (ck_S1 p2_s1595_s ck_S0) (ck_E1 (ck_S1 p2_s1378_s ck_S0) (ck_E1 (ck_S1 p2_s1596_s ck_S0) (ck_E1 (ck_S1 p2_s1388_s ck_S0) (ck_E1 (ck_S1 p2_s1389_s ck_S0) ck_E0)))))⟩ (by decide +kernel)
set_option maxRecDepth 100000 in
/-- GlacierMailModel.meeting -/
noncomputable def p2_s1598 : ck_Sum := ((2, 0, 0), 245, [.inr (.inr (.inl 226)), .inl ((-2147483648), (-1), []), .inl ((-2147483648), 2147483647, [])], ([], [], [(227, 4, 4, (0, 24, [(22, 0)]))]), ([(226, 0, 0)], []), [(.inr (some (.inl (ck_one 0))), 245, ([], [], [(226, 0, 0, ck_one 1)]))])
set_option maxRecDepth 100000 in
theorem p2_s1598_s {X : Int → Int} {LX : Nat} : ck_Ok p2_O X LX 360 p2_s1598 := ck_okq (cuts := []) (f := 100) ⟨p2_nmu, ck_E1 (ck_S1 p2_s400_s ck_S0) (ck_E1 (ck_S1 p2_s241_s ck_S0) ck_E0)⟩ (by decide +kernel)
set_option maxRecDepth 100000 in
/-- GlacierMailModel.meeting -/
noncomputable def p2_s1599 : ck_Sum := ((2, 0, 0), 245, [.inr (.inr (.inl 226)), .inl (24, 2147483647, []), .inl ((-2147483648), 2147483647, [])], ([], [], [(227, 4, 4, (0, 24, [(22, 0)]))]), ([(226, 0, 0)], []), [(.inr (some (.inl (ck_one 0))), 245, ([], [], [(226, 0, 0, ck_one 1)]))])
set_option maxRecDepth 100000 in
theorem p2_s1599_s {X : Int → Int} {LX : Nat} : ck_Ok p2_O X LX 360 p2_s1599 := ck_okq (cuts := []) (f := 100) ⟨p2_nmu, ck_E1 (ck_S1 p2_s403_s ck_S0) (ck_E1 (ck_S1 p2_s241_s ck_S0) ck_E0)⟩ (by decide +kernel)
set_option maxRecDepth 100000 in
/-- GlacierMailModel.meeting -/
noncomputable def p2_s1600 : ck_Sum := ((2, 0, 0), 245, [.inr (.inr (.inl 226)), .inl (0, 23, []), .inl ((-2147483648), (-1), [])], ([], [], [(227, 4, 4, (0, 24, [(22, 0)]))]), ([(226, 0, 0)], []), [(.inr (some (.inl (ck_one 0))), 245, ([], [], [(226, 0, 0, ck_one 1)]))])
set_option maxRecDepth 100000 in
theorem p2_s1600_s {X : Int → Int} {LX : Nat} : ck_Ok p2_O X LX 360 p2_s1600 := ck_okq (cuts := []) (f := 108) ⟨p2_nmu, ck_E1 (ck_S1 p2_s406_s (ck_S1 p2_s400_s ck_S0)) (ck_E1 (ck_S1 p2_s241_s ck_S0) ck_E0)⟩ (by decide +kernel)
set_option maxRecDepth 100000 in
/-- GlacierMailModel.meeting -/
noncomputable def p2_s1601 : ck_Sum := ((2, 0, 0), 245, [.inr (.inr (.inl 226)), .inl (0, 23, []), .inl (24, 2147483647, [])], ([], [], [(227, 4, 4, (0, 24, [(22, 0)]))]), ([(226, 0, 0)], []), [(.inr (some (.inl (ck_one 0))), 245, ([], [], [(226, 0, 0, ck_one 1)]))])
set_option maxRecDepth 100000 in
theorem p2_s1601_s {X : Int → Int} {LX : Nat} : ck_Ok p2_O X LX 360 p2_s1601 := ck_okq (cuts := []) (f := 108) ⟨p2_nmu, ck_E1 (ck_S1 p2_s406_s (ck_S1 p2_s403_s ck_S0)) (ck_E1 (ck_S1 p2_s241_s ck_S0) ck_E0)⟩ (by decide +kernel)
set_option maxRecDepth 100000 in
/-- GlacierMail.outs -/
noncomputable def p2_s1603 : ck_Sum := ((7, 1, 6), 245, [.inr (.inr (.inl 1)), .inl ((-2147483648), (-1), [])], ([], [], []), ([], []), [(.inl 0, 245, ([], [], []))])
set_option maxRecDepth 100000 in
theorem p2_s1603_s {X : Int → Int} {LX : Nat} : ck_Ok p2_O X LX 223 p2_s1603 := ck_okq (cuts := []) (f := 76) ⟨p2_nmu, ck_E1 (ck_S1 p2_s249_s ck_S0) ck_E0⟩ (by decide +kernel)
set_option maxRecDepth 100000 in
/-- GlacierMail.outs -/
noncomputable def p2_s1604 : ck_Sum := ((7, 1, 6), 245, [.inr (.inr (.inl 1)), .inl (300, 2147483647, [])], ([], [], []), ([], []), [(.inl 0, 245, ([], [], []))])
set_option maxRecDepth 100000 in
theorem p2_s1604_s {X : Int → Int} {LX : Nat} : ck_Ok p2_O X LX 223 p2_s1604 := ck_okq (cuts := []) (f := 76) ⟨p2_nmu, ck_E1 (ck_S1 p2_s251_s ck_S0) ck_E0⟩ (by decide +kernel)
set_option maxRecDepth 100000 in
/-- GlacierMail.outIn -/
noncomputable def p2_s1605 : ck_Sum := ((1, 0, 0), 245, [.inr (.inr (.inl 1)), .inl (0, 299, []), .inl (ck_one 1)], ([], [], []), ([], []), [(.inr (some (.inl ((-2147483648), 2147483647, []))), 245, ([], [], []))])
set_option maxRecDepth 100000 in
theorem p2_s1605_s {X : Int → Int} {LX : Nat} : ck_Ok p2_O X LX 47 p2_s1605 := ck_okq (cuts := [(5, [some (.inr (.inr (.inl 1))), some (.inl (0, 299, [])), some (.inl (ck_one 1)), some (.inl ((-2147483648), 2147483647, [])), some (.inl (0, 24, []))], ([], [], []), 100, .inl 4, true)]) (f := 162) ⟨p2_nmu, ck_E1 (ck_S1 p2_s332_s ck_S0) (ck_E1 (ck_S1 p2_s350_s ck_S0) ck_E0)⟩ (by decide +kernel)
set_option maxRecDepth 100000 in
/-- GlacierMailModel.outs -/
noncomputable def p2_s1607 : ck_Sum := ((2, 0, 0), 245, [.inr (.inr (.inl 226)), .inl ((-2147483648), (-1), [])], ([], [], []), ([(226, 0, 0)], []), [(.inr (some (.inl (ck_one 0))), 245, ([], [], [(226, 0, 0, ck_one 1)]))])
set_option maxRecDepth 100000 in
theorem p2_s1607_s {X : Int → Int} {LX : Nat} : ck_Ok p2_O X LX 361 p2_s1607 := ck_okq (cuts := []) (f := 92) ⟨p2_nmu, ck_E1 (ck_S1 p2_s257_s ck_S0) (ck_E1 (ck_S1 p2_s241_s ck_S0) ck_E0)⟩ (by decide +kernel)
set_option maxRecDepth 100000 in
/-- GlacierMailModel.outs -/
noncomputable def p2_s1608 : ck_Sum := ((2, 0, 0), 245, [.inr (.inr (.inl 226)), .inl (300, 2147483647, [])], ([], [], []), ([(226, 0, 0)], []), [(.inr (some (.inl (ck_one 0))), 245, ([], [], [(226, 0, 0, ck_one 1)]))])
set_option maxRecDepth 100000 in
theorem p2_s1608_s {X : Int → Int} {LX : Nat} : ck_Ok p2_O X LX 361 p2_s1608 := ck_okq (cuts := []) (f := 92) ⟨p2_nmu, ck_E1 (ck_S1 p2_s260_s ck_S0) (ck_E1 (ck_S1 p2_s241_s ck_S0) ck_E0)⟩ (by decide +kernel)
set_option maxRecDepth 100000 in
/-- GlacierMail.outAheadOf -/
noncomputable def p2_s1610 : ck_Sum := ((1, 0, 0), 245, [.inr (.inr (.inl 1)), .inl (0, 23, [])], ([], [], []), ([], []), [(.inr (some (.inl ((-2147483648), 2147483647, []))), 245, ([], [], []))])
set_option maxRecDepth 100000 in
theorem p2_s1610_s {X : Int → Int} {LX : Nat} : ck_Ok p2_O X LX 53 p2_s1610 := ck_okq (cuts := [(15, [some (.inr (.inr (.inl 1))), some (.inl (0, 23, [])), some (.inl ((-2147483648), 299, [])), some (.inl ((-2147483648), 2147483647, [])), some (.inl (0, 24, [])), none, none], ([], [], []), 100, .inl 4, true)]) (f := 214) ⟨p2_nmu, ck_E1 (ck_S1 p2_s350_s ck_S0) (ck_E1 (ck_S1 p2_s332_s ck_S0) ck_E0)⟩ (by decide +kernel)
set_option maxRecDepth 100000 in
/-- GlacierMail.streams -/
noncomputable def p2_s1613 : ck_Sum := ((7, 1, 6), 245, [.inr (.inr (.inl 1)), .inl ((-2147483648), (-1), []), .inl (0, 1, [])], ([], [], []), ([], []), [(.inl 0, 245, ([], [], []))])
set_option maxRecDepth 100000 in
theorem p2_s1613_s {X : Int → Int} {LX : Nat} : ck_Ok p2_O X LX 225 p2_s1613 := ck_okq (cuts := []) (f := 76) ⟨p2_nmu, ck_E1 (ck_S1 p2_s249_s ck_S0) ck_E0⟩ (by decide +kernel)
set_option maxRecDepth 100000 in
/-- GlacierMail.streams -/
noncomputable def p2_s1614 : ck_Sum := ((7, 1, 6), 245, [.inr (.inr (.inl 1)), .inl (300, 2147483647, []), .inl (0, 1, [])], ([], [], []), ([], []), [(.inl 0, 245, ([], [], []))])
set_option maxRecDepth 100000 in
theorem p2_s1614_s {X : Int → Int} {LX : Nat} : ck_Ok p2_O X LX 225 p2_s1614 := ck_okq (cuts := []) (f := 76) ⟨p2_nmu, ck_E1 (ck_S1 p2_s251_s ck_S0) ck_E0⟩ (by decide +kernel)
set_option maxRecDepth 100000 in
/-- GlacierMailModel.streams -/
noncomputable def p2_s1616 : ck_Sum := ((2, 0, 0), 245, [.inr (.inr (.inl 226)), .inl ((-2147483648), (-1), []), .inl (0, 1, [])], ([], [], []), ([(226, 0, 0)], []), [(.inr (some (.inl (ck_one 0))), 245, ([], [], [(226, 0, 0, ck_one 1)]))])
set_option maxRecDepth 100000 in
theorem p2_s1616_s {X : Int → Int} {LX : Nat} : ck_Ok p2_O X LX 363 p2_s1616 := ck_okq (cuts := []) (f := 92) ⟨p2_nmu, ck_E1 (ck_S1 p2_s257_s ck_S0) (ck_E1 (ck_S1 p2_s241_s ck_S0) ck_E0)⟩ (by decide +kernel)
set_option maxRecDepth 100000 in
/-- GlacierMailModel.streams -/
noncomputable def p2_s1617 : ck_Sum := ((2, 0, 0), 245, [.inr (.inr (.inl 226)), .inl (300, 2147483647, []), .inl (0, 1, [])], ([], [], []), ([(226, 0, 0)], []), [(.inr (some (.inl (ck_one 0))), 245, ([], [], [(226, 0, 0, ck_one 1)]))])
set_option maxRecDepth 100000 in
theorem p2_s1617_s {X : Int → Int} {LX : Nat} : ck_Ok p2_O X LX 363 p2_s1617 := ck_okq (cuts := []) (f := 92) ⟨p2_nmu, ck_E1 (ck_S1 p2_s260_s ck_S0) (ck_E1 (ck_S1 p2_s241_s ck_S0) ck_E0)⟩ (by decide +kernel)
set_option maxRecDepth 100000 in
/-- GlacierMail.range -/
noncomputable def p2_s1619 : ck_Sum := ((8, 1, 6), 245, [.inr (.inr (.inl 1)), .inl ((-2147483648), (-1), []), .inl ((-2147483648), 2147483647, [])], ([], [], []), ([], []), [(.inl 3, 245, ([], [], []))])
set_option maxRecDepth 100000 in
theorem p2_s1619_s {X : Int → Int} {LX : Nat} : ck_Ok p2_O X LX 227 p2_s1619 := ck_okq (cuts := []) (f := 76) ⟨p2_nmu, ck_E1 (ck_S1 p2_s266_s ck_S0) ck_E0⟩ (by decide +kernel)
set_option maxRecDepth 100000 in
/-- GlacierMail.range -/
noncomputable def p2_s1620 : ck_Sum := ((8, 1, 6), 245, [.inr (.inr (.inl 1)), .inl (6, 2147483647, []), .inl ((-2147483648), 2147483647, [])], ([], [], []), ([], []), [(.inl 3, 245, ([], [], []))])
set_option maxRecDepth 100000 in
theorem p2_s1620_s {X : Int → Int} {LX : Nat} : ck_Ok p2_O X LX 227 p2_s1620 := ck_okq (cuts := []) (f := 76) ⟨p2_nmu, ck_E1 (ck_S1 p2_s269_s ck_S0) ck_E0⟩ (by decide +kernel)
set_option maxRecDepth 100000 in
/-- GlacierMail.range -/
noncomputable def p2_s1621 : ck_Sum := ((8, 2, 12), 245, [.inr (.inr (.inl 1)), .inl (0, 5, []), .inl ((-2147483648), (-1), [])], ([], [], []), ([], []), [(.inl 3, 245, ([], [], [])), (.inl 0, 245, ([], [], []))])
set_option maxRecDepth 100000 in
theorem p2_s1621_s {X : Int → Int} {LX : Nat} : ck_Ok p2_O X LX 227 p2_s1621 := ck_okq (cuts := []) (f := 82) ⟨p2_nmu, ck_E1 (ck_S1 p2_s272_s ck_S0) (ck_E1 (ck_S1 p2_s249_s ck_S0) ck_E0)⟩ (by decide +kernel)
set_option maxRecDepth 100000 in
/-- GlacierMail.range -/
noncomputable def p2_s1622 : ck_Sum := ((8, 2, 12), 245, [.inr (.inr (.inl 1)), .inl (0, 5, []), .inl (300, 2147483647, [])], ([], [], []), ([], []), [(.inl 3, 245, ([], [], [])), (.inl 0, 245, ([], [], []))])
set_option maxRecDepth 100000 in
theorem p2_s1622_s {X : Int → Int} {LX : Nat} : ck_Ok p2_O X LX 227 p2_s1622 := ck_okq (cuts := []) (f := 82) ⟨p2_nmu, ck_E1 (ck_S1 p2_s272_s ck_S0) (ck_E1 (ck_S1 p2_s251_s ck_S0) ck_E0)⟩ (by decide +kernel)
set_option maxRecDepth 100000 in
/-- GlacierMail.range -/
noncomputable def p2_s1623 : ck_Sum := ((8, 1, 6), 245, [.inr (.inr (.inl 1)), .inl (0, 5, []), .inl (0, 299, [])], ([], [(3, 8, 0)], []), ([(206, 2, 8)], []), [(.inl 3, 245, ([], [], [])), (.inr (some (.inl ((-2147483648), 2147483647, []))), 245, ([], [], [(206, 4, 4, ck_one (-1))]))])
set_option maxRecDepth 100000 in
theorem p2_s1623_s {X : Int → Int} {LX : Nat} : ck_Ok p2_O X LX 227 p2_s1623 := ck_okq (cuts := []) (f := 120) ⟨p2_nmu, ck_E1 (ck_S1 p2_s272_s ck_S0) (ck_E1 (ck_S1 p2_s253_s ck_S0) (ck_E1 (ck_S1 p2_s1313_s ck_S0) (ck_E1 (ck_S1 p2_s346_s ck_S0) ck_E0)))⟩ (by decide +kernel)
set_option maxRecDepth 100000 in
/-- GlacierMailModel.range -/
noncomputable def p2_s1624 : ck_Sum := ((2, 0, 0), 245, [.inr (.inr (.inl 226)), .inl ((-2147483648), (-1), []), .inl ((-2147483648), 2147483647, [])], ([], [], []), ([(226, 0, 0)], []), [(.inr (some (.inl (ck_one 0))), 245, ([], [], [(226, 0, 0, ck_one 1)]))])
set_option maxRecDepth 100000 in
theorem p2_s1624_s {X : Int → Int} {LX : Nat} : ck_Ok p2_O X LX 364 p2_s1624 := ck_okq (cuts := []) (f := 94) ⟨p2_nmu, ck_E1 (ck_S1 p2_s284_s ck_S0) (ck_E1 (ck_S1 p2_s241_s ck_S0) ck_E0)⟩ (by decide +kernel)
set_option maxRecDepth 100000 in
/-- GlacierMailModel.range -/
noncomputable def p2_s1625 : ck_Sum := ((2, 0, 0), 245, [.inr (.inr (.inl 226)), .inl (6, 2147483647, []), .inl ((-2147483648), 2147483647, [])], ([], [], []), ([(226, 0, 0)], []), [(.inr (some (.inl (ck_one 0))), 245, ([], [], [(226, 0, 0, ck_one 1)]))])
set_option maxRecDepth 100000 in
theorem p2_s1625_s {X : Int → Int} {LX : Nat} : ck_Ok p2_O X LX 364 p2_s1625 := ck_okq (cuts := []) (f := 94) ⟨p2_nmu, ck_E1 (ck_S1 p2_s287_s ck_S0) (ck_E1 (ck_S1 p2_s241_s ck_S0) ck_E0)⟩ (by decide +kernel)
set_option maxRecDepth 100000 in
/-- GlacierMailModel.range -/
noncomputable def p2_s1626 : ck_Sum := ((2, 0, 0), 245, [.inr (.inr (.inl 226)), .inl (0, 5, []), .inl ((-2147483648), (-1), [])], ([], [], []), ([(226, 0, 0)], []), [(.inr (some (.inl (ck_one 0))), 245, ([], [], [(226, 0, 0, (1, 2, []))]))])
set_option maxRecDepth 100000 in
theorem p2_s1626_s {X : Int → Int} {LX : Nat} : ck_Ok p2_O X LX 364 p2_s1626 := ck_okq (cuts := []) (f := 106) ⟨p2_nmu, ck_E1 (ck_S1 p2_s290_s ck_S0) (ck_E1 (ck_S1 p2_s241_s (ck_S1 p2_s242_s (ck_S1 p2_s244_s ck_S0))) (ck_E1 (ck_S1 p2_s257_s ck_S0) ck_E0))⟩ (by decide +kernel)
set_option maxRecDepth 100000 in
/-- GlacierMailModel.range -/
noncomputable def p2_s1627 : ck_Sum := ((2, 0, 0), 245, [.inr (.inr (.inl 226)), .inl (0, 5, []), .inl (300, 2147483647, [])], ([], [], []), ([(226, 0, 0)], []), [(.inr (some (.inl (ck_one 0))), 245, ([], [], [(226, 0, 0, (1, 2, []))]))])
set_option maxRecDepth 100000 in
theorem p2_s1627_s {X : Int → Int} {LX : Nat} : ck_Ok p2_O X LX 364 p2_s1627 := ck_okq (cuts := []) (f := 106) ⟨p2_nmu, ck_E1 (ck_S1 p2_s290_s ck_S0) (ck_E1 (ck_S1 p2_s241_s (ck_S1 p2_s242_s (ck_S1 p2_s244_s ck_S0))) (ck_E1 (ck_S1 p2_s260_s ck_S0) ck_E0))⟩ (by decide +kernel)
set_option maxRecDepth 100000 in
/-- GlacierMail.swiftest -/
noncomputable def p2_s1629 : ck_Sum := ((8, 1, 6), 245, [.inr (.inr (.inl 1)), .inl ((-2147483648), (-1), []), .inl ((-2147483648), 2147483647, [])], ([], [], []), ([], []), [(.inl 3, 245, ([], [], []))])
set_option maxRecDepth 100000 in
theorem p2_s1629_s {X : Int → Int} {LX : Nat} : ck_Ok p2_O X LX 229 p2_s1629 := ck_okq (cuts := []) (f := 76) ⟨p2_nmu, ck_E1 (ck_S1 p2_s274_s ck_S0) ck_E0⟩ (by decide +kernel)
set_option maxRecDepth 100000 in
/-- GlacierMail.swiftest -/
noncomputable def p2_s1630 : ck_Sum := ((8, 1, 6), 245, [.inr (.inr (.inl 1)), .inl (99, 2147483647, []), .inl ((-2147483648), 2147483647, [])], ([], [], []), ([], []), [(.inl 3, 245, ([], [], []))])
set_option maxRecDepth 100000 in
theorem p2_s1630_s {X : Int → Int} {LX : Nat} : ck_Ok p2_O X LX 229 p2_s1630 := ck_okq (cuts := []) (f := 76) ⟨p2_nmu, ck_E1 (ck_S1 p2_s277_s ck_S0) ck_E0⟩ (by decide +kernel)
set_option maxRecDepth 100000 in
/-- GlacierMail.swiftest -/
noncomputable def p2_s1631 : ck_Sum := ((8, 2, 12), 245, [.inr (.inr (.inl 1)), .inl (0, 98, []), .inl ((-2147483648), (-1), [])], ([], [], []), ([], []), [(.inl 3, 245, ([], [], [])), (.inl 0, 245, ([], [], []))])
set_option maxRecDepth 100000 in
theorem p2_s1631_s {X : Int → Int} {LX : Nat} : ck_Ok p2_O X LX 229 p2_s1631 := ck_okq (cuts := []) (f := 82) ⟨p2_nmu, ck_E1 (ck_S1 p2_s280_s ck_S0) (ck_E1 (ck_S1 p2_s249_s ck_S0) ck_E0)⟩ (by decide +kernel)
set_option maxRecDepth 100000 in
/-- GlacierMail.swiftest -/
noncomputable def p2_s1632 : ck_Sum := ((8, 2, 12), 245, [.inr (.inr (.inl 1)), .inl (0, 98, []), .inl (300, 2147483647, [])], ([], [], []), ([], []), [(.inl 3, 245, ([], [], [])), (.inl 0, 245, ([], [], []))])
set_option maxRecDepth 100000 in
theorem p2_s1632_s {X : Int → Int} {LX : Nat} : ck_Ok p2_O X LX 229 p2_s1632 := ck_okq (cuts := []) (f := 82) ⟨p2_nmu, ck_E1 (ck_S1 p2_s280_s ck_S0) (ck_E1 (ck_S1 p2_s251_s ck_S0) ck_E0)⟩ (by decide +kernel)
set_option maxRecDepth 100000 in
/-- GlacierMail.swiftest -/
noncomputable def p2_s1633 : ck_Sum := ((8, 1, 6), 245, [.inr (.inr (.inl 1)), .inl (0, 98, []), .inl (0, 299, [])], ([], [(3, 8, 0)], []), ([(206, 2, 8)], []), [(.inl 3, 245, ([], [], [])), (.inr (some (.inl ((-1), 5, []))), 245, ([], [], []))])
set_option maxRecDepth 100000 in
theorem p2_s1633_s {X : Int → Int} {LX : Nat} : ck_Ok p2_O X LX 229 p2_s1633 := ck_okq (cuts := [(20, [some (.inr (.inr (.inl 1))), some (.inl (0, 98, [])), some (.inl (0, 299, [])), some (.inl ((-1), 5, [])), some (.inl ((-2147483648), 300, [])), some (.inl (0, 6, [])), none], ([], [(3, 8, 0)], []), 100, .inl 5, true)]) (f := 210) ⟨p2_nmu, ck_E1 (ck_S1 p2_s280_s ck_S0) (ck_E1 (ck_S1 p2_s253_s ck_S0) (ck_E1 (ck_S1 p2_s1313_s ck_S0) (ck_E1 (ck_S1 p2_s346_s ck_S0) ck_E0)))⟩ (by decide +kernel)
set_option maxRecDepth 100000 in
/-- GlacierMailModel.swiftest -/
noncomputable def p2_s1634 : ck_Sum := ((2, 0, 0), 245, [.inr (.inr (.inl 226)), .inl ((-2147483648), (-1), []), .inl ((-2147483648), 2147483647, [])], ([], [], []), ([(226, 0, 0)], []), [(.inr (some (.inl (ck_one 0))), 245, ([], [], [(226, 0, 0, ck_one 1)]))])
set_option maxRecDepth 100000 in
theorem p2_s1634_s {X : Int → Int} {LX : Nat} : ck_Ok p2_O X LX 365 p2_s1634 := ck_okq (cuts := []) (f := 94) ⟨p2_nmu, ck_E1 (ck_S1 p2_s292_s ck_S0) (ck_E1 (ck_S1 p2_s241_s ck_S0) ck_E0)⟩ (by decide +kernel)
set_option maxRecDepth 100000 in
/-- GlacierMailModel.swiftest -/
noncomputable def p2_s1635 : ck_Sum := ((2, 0, 0), 245, [.inr (.inr (.inl 226)), .inl (99, 2147483647, []), .inl ((-2147483648), 2147483647, [])], ([], [], []), ([(226, 0, 0)], []), [(.inr (some (.inl (ck_one 0))), 245, ([], [], [(226, 0, 0, ck_one 1)]))])
set_option maxRecDepth 100000 in
theorem p2_s1635_s {X : Int → Int} {LX : Nat} : ck_Ok p2_O X LX 365 p2_s1635 := ck_okq (cuts := []) (f := 94) ⟨p2_nmu, ck_E1 (ck_S1 p2_s295_s ck_S0) (ck_E1 (ck_S1 p2_s241_s ck_S0) ck_E0)⟩ (by decide +kernel)
set_option maxRecDepth 100000 in
/-- GlacierMailModel.swiftest -/
noncomputable def p2_s1636 : ck_Sum := ((2, 0, 0), 245, [.inr (.inr (.inl 226)), .inl (0, 98, []), .inl ((-2147483648), (-1), [])], ([], [], []), ([(226, 0, 0)], []), [(.inr (some (.inl (ck_one 0))), 245, ([], [], [(226, 0, 0, (1, 2, []))]))])
set_option maxRecDepth 100000 in
theorem p2_s1636_s {X : Int → Int} {LX : Nat} : ck_Ok p2_O X LX 365 p2_s1636 := ck_okq (cuts := []) (f := 106) ⟨p2_nmu, ck_E1 (ck_S1 p2_s298_s ck_S0) (ck_E1 (ck_S1 p2_s241_s (ck_S1 p2_s242_s (ck_S1 p2_s244_s ck_S0))) (ck_E1 (ck_S1 p2_s257_s ck_S0) ck_E0))⟩ (by decide +kernel)
set_option maxRecDepth 100000 in
/-- GlacierMailModel.swiftest -/
noncomputable def p2_s1637 : ck_Sum := ((2, 0, 0), 245, [.inr (.inr (.inl 226)), .inl (0, 98, []), .inl (300, 2147483647, [])], ([], [], []), ([(226, 0, 0)], []), [(.inr (some (.inl (ck_one 0))), 245, ([], [], [(226, 0, 0, (1, 2, []))]))])
set_option maxRecDepth 100000 in
theorem p2_s1637_s {X : Int → Int} {LX : Nat} : ck_Ok p2_O X LX 365 p2_s1637 := ck_okq (cuts := []) (f := 106) ⟨p2_nmu, ck_E1 (ck_S1 p2_s298_s ck_S0) (ck_E1 (ck_S1 p2_s241_s (ck_S1 p2_s242_s (ck_S1 p2_s244_s ck_S0))) (ck_E1 (ck_S1 p2_s260_s ck_S0) ck_E0))⟩ (by decide +kernel)
set_option maxRecDepth 100000 in
/-- GlacierMail.bare -/
noncomputable def p2_s1639 : ck_Sum := ((7, 1, 6), 245, [.inr (.inr (.inl 1)), .inl ((-2147483648), (-1), [])], ([], [], []), ([], []), [(.inl 0, 245, ([], [], []))])
set_option maxRecDepth 100000 in
theorem p2_s1639_s {X : Int → Int} {LX : Nat} : ck_Ok p2_O X LX 231 p2_s1639 := ck_okq (cuts := []) (f := 76) ⟨p2_nmu, ck_E1 (ck_S1 p2_s249_s ck_S0) ck_E0⟩ (by decide +kernel)
set_option maxRecDepth 100000 in
/-- GlacierMail.bare -/
noncomputable def p2_s1640 : ck_Sum := ((7, 1, 6), 245, [.inr (.inr (.inl 1)), .inl (300, 2147483647, [])], ([], [], []), ([], []), [(.inl 0, 245, ([], [], []))])
set_option maxRecDepth 100000 in
theorem p2_s1640_s {X : Int → Int} {LX : Nat} : ck_Ok p2_O X LX 231 p2_s1640 := ck_okq (cuts := []) (f := 76) ⟨p2_nmu, ck_E1 (ck_S1 p2_s251_s ck_S0) ck_E0⟩ (by decide +kernel)
set_option maxRecDepth 100000 in
/-- GlacierMail.bare -/
noncomputable def p2_s1641 : ck_Sum := ((4, 0, 0), 245, [.inr (.inr (.inl 1)), .inl (0, 299, [])], ([], [(3, 8, 0)], []), ([(206, 2, 8)], []), [(.inr (some (.inl ((-2147483648), 2147483647, []))), 245, ([], [], []))])
set_option maxRecDepth 100000 in
theorem p2_s1641_s {X : Int → Int} {LX : Nat} : ck_Ok p2_O X LX 231 p2_s1641 := ck_okq (cuts := [(9, [some (.inr (.inr (.inl 1))), some (.inl (0, 299, [])), some (.inl ((-2147483648), 2147483647, [])), some (.inl (0, 24, []))], ([], [(3, 8, 0)], []), 100, .inl 3, true)]) (f := 246) ⟨p2_nmu, ck_E1 (ck_S1 p2_s253_s ck_S0) (ck_E1 (ck_S1 p2_s331_s ck_S0) (ck_E1 (ck_S1 p2_s335_s ck_S0) (ck_E1 (ck_S1 p2_s339_s ck_S0) (ck_E1 (ck_S1 p2_s421_s ck_S0) (ck_E1 (ck_S1 p2_s340_s ck_S0) ck_E0)))))⟩ (by decide +kernel)
set_option maxRecDepth 100000 in
/-- GlacierMailModel.bare -/
noncomputable def p2_s1642 : ck_Sum := ((2, 0, 0), 245, [.inr (.inr (.inl 226)), .inl ((-2147483648), (-1), [])], ([], [], []), ([(226, 0, 0)], []), [(.inr (some (.inl (ck_one 0))), 245, ([], [], [(226, 0, 0, ck_one 1)]))])
set_option maxRecDepth 100000 in
theorem p2_s1642_s {X : Int → Int} {LX : Nat} : ck_Ok p2_O X LX 366 p2_s1642 := ck_okq (cuts := []) (f := 92) ⟨p2_nmu, ck_E1 (ck_S1 p2_s257_s ck_S0) (ck_E1 (ck_S1 p2_s241_s ck_S0) ck_E0)⟩ (by decide +kernel)
set_option maxRecDepth 100000 in
/-- GlacierMailModel.bare -/
noncomputable def p2_s1643 : ck_Sum := ((2, 0, 0), 245, [.inr (.inr (.inl 226)), .inl (300, 2147483647, [])], ([], [], []), ([(226, 0, 0)], []), [(.inr (some (.inl (ck_one 0))), 245, ([], [], [(226, 0, 0, ck_one 1)]))])
set_option maxRecDepth 100000 in
theorem p2_s1643_s {X : Int → Int} {LX : Nat} : ck_Ok p2_O X LX 366 p2_s1643 := ck_okq (cuts := []) (f := 92) ⟨p2_nmu, ck_E1 (ck_S1 p2_s260_s ck_S0) (ck_E1 (ck_S1 p2_s241_s ck_S0) ck_E0)⟩ (by decide +kernel)
set_option maxRecDepth 100000 in
/-- GlacierMail$Rows.get -/
noncomputable def p2_s1645 : ck_Sum := ((0, 0, 0), 245, [.inr (.inr (.inl 14)), .inl ((-2147483648), 2147483647, []), .inl ((-2147483648), 2147483647, [])], ([], [], []), ([], []), [(.inr (some (.inl ((-1), 299, []))), 245, ([], [], []))])
set_option maxRecDepth 100000 in
theorem p2_s1645_s {X : Int → Int} {LX : Nat} : ck_Ok p2_O X LX 10 p2_s1645 := ck_okq (cuts := []) (f := 114) ⟨p2_nmu, ck_E0⟩ (by decide +kernel)
set_option maxRecDepth 100000 in
/-- GlacierMail.log -/
noncomputable def p2_s1646 : ck_Sum := ((6, 1, 6), 245, [.inr (.inr (.inl 1)), .inl ((-2147483648), (-1), []), .inl ((-2147483648), 2147483647, [])], ([], [], []), ([], []), [(.inl 4, 245, ([], [], [])), (.inr (some (.inl ((-1), 299, []))), 245, ([], [], []))])
set_option maxRecDepth 100000 in
theorem p2_s1646_s {X : Int → Int} {LX : Nat} : ck_Ok p2_O X LX 233 p2_s1646 := ck_okq (cuts := []) (f := 94) ⟨p2_nmu, ck_E1 (ck_S1 p2_s1645_s ck_S0) ck_E0⟩ (by decide +kernel)
set_option maxRecDepth 100000 in
/-- GlacierMail.log -/
noncomputable def p2_s1647 : ck_Sum := ((6, 1, 6), 245, [.inr (.inr (.inl 1)), .inl (24, 2147483647, []), .inl ((-2147483648), 2147483647, [])], ([], [], []), ([], []), [(.inl 4, 245, ([], [], [])), (.inr (some (.inl ((-1), 299, []))), 245, ([], [], []))])
set_option maxRecDepth 100000 in
theorem p2_s1647_s {X : Int → Int} {LX : Nat} : ck_Ok p2_O X LX 233 p2_s1647 := ck_okq (cuts := []) (f := 94) ⟨p2_nmu, ck_E1 (ck_S1 p2_s1645_s ck_S0) ck_E0⟩ (by decide +kernel)
set_option maxRecDepth 100000 in
/-- GlacierMail.log -/
noncomputable def p2_s1648 : ck_Sum := ((6, 1, 6), 245, [.inr (.inr (.inl 1)), .inl (0, 23, []), .inl ((-2147483648), (-1), [])], ([], [], []), ([], []), [(.inl 4, 245, ([], [], []))])
set_option maxRecDepth 100000 in
theorem p2_s1648_s {X : Int → Int} {LX : Nat} : ck_Ok p2_O X LX 233 p2_s1648 := ck_okq (cuts := []) (f := 76) ⟨p2_nmu, ck_E0⟩ (by decide +kernel)
set_option maxRecDepth 100000 in
/-- GlacierMail.log -/
noncomputable def p2_s1649 : ck_Sum := ((6, 1, 6), 245, [.inr (.inr (.inl 1)), .inl (0, 23, []), .inl (10, 2147483647, [])], ([], [], []), ([], []), [(.inl 4, 245, ([], [], []))])
set_option maxRecDepth 100000 in
theorem p2_s1649_s {X : Int → Int} {LX : Nat} : ck_Ok p2_O X LX 233 p2_s1649 := ck_okq (cuts := []) (f := 82) ⟨p2_nmu, ck_E0⟩ (by decide +kernel)
set_option maxRecDepth 100000 in
/-- GlacierMail.log -/
noncomputable def p2_s1650 : ck_Sum := ((6, 1, 6), 245, [.inr (.inr (.inl 1)), .inl (0, 23, []), .inl (0, 9, [])], ([], [], []), ([], []), [(.inr (some (.inl ((-1), 299, []))), 245, ([], [], [])), (.inl 4, 245, ([], [], []))])
set_option maxRecDepth 100000 in
theorem p2_s1650_s {X : Int → Int} {LX : Nat} : ck_Ok p2_O X LX 233 p2_s1650 := ck_okq (cuts := []) (f := 94) ⟨p2_nmu, ck_E1 (ck_S1 p2_s1645_s ck_S0) ck_E0⟩ (by decide +kernel)
set_option maxRecDepth 100000 in
/-- GlacierMailModel.in -/
noncomputable def p2_s1651 : ck_Sum := ((0, 0, 0), 245, [.inl ((-2147483648), 2147483647, []), .inl (ck_one 0), .inl (ck_one 2)], ([], [], []), ([], []), [(.inr (some (.inl (ck_one 0))), 245, ([], [], [])), (.inr (some (.inl (ck_one 1))), 245, ([], [], []))])
set_option maxRecDepth 100000 in
theorem p2_s1651_s {X : Int → Int} {LX : Nat} : ck_Ok p2_O X LX 286 p2_s1651 := ck_okq (cuts := []) (f := 88) ⟨p2_nmu, ck_E0⟩ (by decide +kernel)
set_option maxRecDepth 100000 in
/-- GlacierMailModel.log -/
noncomputable def p2_s1652 : ck_Sum := ((1, 0, 0), 245, [.inr (.inr (.inl 226)), .inl ((-2147483648), (-1), []), .inl ((-2147483648), 2147483647, [])], ([], [], [(227, 14, 14, (0, 24, [(26, 0)]))]), ([(226, 0, 0)], []), [(.inr (some (.inl (ck_one 0))), 245, ([], [], [(226, 0, 0, ck_one 1)])), (.inr (some (.inl (ck_one (-1)))), 245, ([], [], [(226, 0, 0, ck_one 0)]))])
set_option maxRecDepth 100000 in
theorem p2_s1652_s {X : Int → Int} {LX : Nat} : ck_Ok p2_O X LX 367 p2_s1652 := ck_okq (cuts := []) (f := 120) ⟨p2_nmu, ck_E1 (ck_S1 p2_s1651_s (ck_S1 p2_s399_s ck_S0)) (ck_E1 (ck_S1 p2_s241_s (ck_S1 p2_s242_s ck_S0)) ck_E0)⟩ (by decide +kernel)
set_option maxRecDepth 100000 in
/-- GlacierMailModel.log -/
noncomputable def p2_s1653 : ck_Sum := ((1, 0, 0), 245, [.inr (.inr (.inl 226)), .inl (24, 2147483647, []), .inl ((-2147483648), 2147483647, [])], ([], [], [(227, 14, 14, (0, 24, [(26, 0)]))]), ([(226, 0, 0)], []), [(.inr (some (.inl (ck_one 0))), 245, ([], [], [(226, 0, 0, ck_one 1)])), (.inr (some (.inl (ck_one (-1)))), 245, ([], [], [(226, 0, 0, ck_one 0)]))])
set_option maxRecDepth 100000 in
theorem p2_s1653_s {X : Int → Int} {LX : Nat} : ck_Ok p2_O X LX 367 p2_s1653 := ck_okq (cuts := []) (f := 120) ⟨p2_nmu, ck_E1 (ck_S1 p2_s1651_s (ck_S1 p2_s402_s ck_S0)) (ck_E1 (ck_S1 p2_s241_s (ck_S1 p2_s242_s ck_S0)) ck_E0)⟩ (by decide +kernel)
set_option maxRecDepth 100000 in
/-- GlacierMailModel.log -/
noncomputable def p2_s1654 : ck_Sum := ((1, 0, 0), 245, [.inr (.inr (.inl 226)), .inl (0, 23, []), .inl ((-2147483648), (-1), [])], ([], [], []), ([(226, 0, 0)], []), [(.inr (some (.inl (ck_one 0))), 245, ([], [], [(226, 0, 0, ck_one 1)]))])
set_option maxRecDepth 100000 in
theorem p2_s1654_s {X : Int → Int} {LX : Nat} : ck_Ok p2_O X LX 367 p2_s1654 := ck_okq (cuts := []) (f := 102) ⟨p2_nmu, ck_E1 (ck_S1 p2_s1321_s ck_S0) (ck_E1 (ck_S1 p2_s241_s ck_S0) ck_E0)⟩ (by decide +kernel)
set_option maxRecDepth 100000 in
/-- GlacierMailModel.log -/
noncomputable def p2_s1655 : ck_Sum := ((1, 0, 0), 245, [.inr (.inr (.inl 226)), .inl (0, 23, []), .inl (10, 2147483647, [])], ([], [], []), ([(226, 0, 0)], []), [(.inr (some (.inl (ck_one 0))), 245, ([], [], [(226, 0, 0, ck_one 1)]))])
set_option maxRecDepth 100000 in
theorem p2_s1655_s {X : Int → Int} {LX : Nat} : ck_Ok p2_O X LX 367 p2_s1655 := ck_okq (cuts := []) (f := 102) ⟨p2_nmu, ck_E1 (ck_S1 p2_s1323_s ck_S0) (ck_E1 (ck_S1 p2_s241_s ck_S0) ck_E0)⟩ (by decide +kernel)
set_option maxRecDepth 100000 in
/-- GlacierMailModel.log -/
noncomputable def p2_s1656 : ck_Sum := ((1, 0, 0), 245, [.inr (.inr (.inl 226)), .inl (0, 23, []), .inl (0, 9, [])], ([], [], [(227, 14, 14, (0, 24, [(26, 0)]))]), ([(226, 0, 0)], []), [(.inr (some (.inl (ck_one 0))), 245, ([], [], [(226, 0, 0, ck_one 1)])), (.inr (some (.inl ((-1), 400, []))), 245, ([], [], [(226, 0, 0, ck_one 0)]))])
set_option maxRecDepth 100000 in
theorem p2_s1656_s {X : Int → Int} {LX : Nat} : ck_Ok p2_O X LX 367 p2_s1656 := ck_okq (cuts := []) (f := 140) ⟨p2_nmu, ck_E1 (ck_S1 p2_s1325_s (ck_S1 p2_s405_s ck_S0)) (ck_E1 (ck_S1 p2_s241_s (ck_S1 p2_s242_s ck_S0)) ck_E0)⟩ (by decide +kernel)
set_option maxRecDepth 100000 in
/-- GlacierMail$History.at -/
noncomputable def p2_s1657 : ck_Sum := ((0, 0, 0), 245, [.inr (.inr (.inl 42)), .inl (0, 11, [])], ([], [], []), ([], []), [(.inr (some (.inr (.inr (.inl 44)))), 245, ([], [], [])), (.inr (some (.inr (.inr (.inl 187)))), 245, ([], [], [])), (.inr (some (.inr (.inr (.inl 174)))), 245, ([], [], [])), (.inr (some (.inr (.inr (.inl 161)))), 245, ([], [], [])), (.inr (some (.inr (.inr (.inl 148)))), 245, ([], [], [])), (.inr (some (.inr (.inr (.inl 135)))), 245, ([], [], [])), (.inr (some (.inr (.inr (.inl 122)))), 245, ([], [], [])), (.inr (some (.inr (.inr (.inl 109)))), 245, ([], [], [])), (.inr (some (.inr (.inr (.inl 96)))), 245, ([], [], [])), (.inr (some (.inr (.inr (.inl 83)))), 245, ([], [], [])), (.inr (some (.inr (.inr (.inl 70)))), 245, ([], [], [])), (.inr (some (.inr (.inr (.inl 57)))), 245, ([], [], []))])
set_option maxRecDepth 100000 in
theorem p2_s1657_s {X : Int → Int} {LX : Nat} : ck_Ok p2_O X LX 56 p2_s1657 := ck_okq (cuts := []) (f := 96) ⟨p2_nmu, ck_E0⟩ (by decide +kernel)
set_option maxRecDepth 100000 in
/-- GlacierMail$Rows.copyFrom -/
noncomputable def p2_s1658 : ck_Sum := ((1, 0, 0), 245, [.inr (.inr (.inl 4)), .inr (.inr (.inl 45))], ([], [], []), ([(4, 3, 3), (5, 0, 55)], []), [(.inr none, 245, ([], [], []))])
set_option maxRecDepth 100000 in
theorem p2_s1658_s {X : Int → Int} {LX : Nat} : ck_Ok p2_O X LX 58 p2_s1658 := ck_okq (cuts := []) (f := 114) ⟨p2_nmu, ck_E0⟩ (by decide +kernel)
set_option maxRecDepth 100000 in
/-- GlacierMail$Rows.copyFrom -/
noncomputable def p2_s1659 : ck_Sum := ((1, 0, 0), 245, [.inr (.inr (.inl 6)), .inr (.inr (.inl 47))], ([], [], []), ([(6, 3, 3), (7, 0, 23)], []), [(.inr none, 245, ([], [], []))])
set_option maxRecDepth 100000 in
theorem p2_s1659_s {X : Int → Int} {LX : Nat} : ck_Ok p2_O X LX 58 p2_s1659 := ck_okq (cuts := []) (f := 114) ⟨p2_nmu, ck_E0⟩ (by decide +kernel)
set_option maxRecDepth 100000 in
/-- GlacierMail$Rows.copyFrom -/
noncomputable def p2_s1660 : ck_Sum := ((1, 0, 0), 245, [.inr (.inr (.inl 8)), .inr (.inr (.inl 49))], ([], [], []), ([(8, 3, 3), (9, 0, 23)], []), [(.inr none, 245, ([], [], []))])
set_option maxRecDepth 100000 in
theorem p2_s1660_s {X : Int → Int} {LX : Nat} : ck_Ok p2_O X LX 58 p2_s1660 := ck_okq (cuts := []) (f := 114) ⟨p2_nmu, ck_E0⟩ (by decide +kernel)
set_option maxRecDepth 100000 in
/-- GlacierMail$Rows.copyFrom -/
noncomputable def p2_s1661 : ck_Sum := ((1, 0, 0), 245, [.inr (.inr (.inl 10)), .inr (.inr (.inl 51))], ([], [], []), ([(10, 3, 3), (11, 0, 167)], []), [(.inr none, 245, ([], [], []))])
set_option maxRecDepth 100000 in
theorem p2_s1661_s {X : Int → Int} {LX : Nat} : ck_Ok p2_O X LX 58 p2_s1661 := ck_okq (cuts := []) (f := 114) ⟨p2_nmu, ck_E0⟩ (by decide +kernel)
set_option maxRecDepth 100000 in
/-- GlacierMail$Rows.copyFrom -/
noncomputable def p2_s1662 : ck_Sum := ((1, 0, 0), 245, [.inr (.inr (.inl 12)), .inr (.inr (.inl 53))], ([], [], []), ([(12, 3, 3), (13, 0, 35)], []), [(.inr none, 245, ([], [], []))])
set_option maxRecDepth 100000 in
theorem p2_s1662_s {X : Int → Int} {LX : Nat} : ck_Ok p2_O X LX 58 p2_s1662 := ck_okq (cuts := []) (f := 114) ⟨p2_nmu, ck_E0⟩ (by decide +kernel)
set_option maxRecDepth 100000 in
/-- GlacierMail$Rows.copyFrom -/
noncomputable def p2_s1663 : ck_Sum := ((1, 0, 0), 245, [.inr (.inr (.inl 14)), .inr (.inr (.inl 55))], ([], [], []), ([(14, 3, 3), (15, 0, 71)], []), [(.inr none, 245, ([], [], []))])
set_option maxRecDepth 100000 in
theorem p2_s1663_s {X : Int → Int} {LX : Nat} : ck_Ok p2_O X LX 58 p2_s1663 := ck_okq (cuts := []) (f := 114) ⟨p2_nmu, ck_E0⟩ (by decide +kernel)
set_option maxRecDepth 100000 in
/-- GlacierMail$State.copyFrom -/
noncomputable def p2_s1664 : ck_Sum := ((2, 0, 0), 245, [.inr (.inr (.inl 3)), .inr (.inr (.inl 44))], ([], [(3, 8, 0), (44, 8, 100044)], []), (zl1, [(3, 8)]), [(.inr none, 245, ([], [(3, 8, 100044)], []))])
set_option maxRecDepth 100000 in
theorem p2_s1664_s {X : Int → Int} {LX : Nat} : ck_Ok p2_O X LX 57 p2_s1664 := ck_okq (cuts := []) (f := 204) ⟨p2_nmu, ck_E1 (ck_S1 p2_s1658_s (ck_S1 p2_s1659_s (ck_S1 p2_s1660_s (ck_S1 p2_s1661_s (ck_S1 p2_s1662_s (ck_S1 p2_s1663_s ck_S0)))))) ck_E0⟩ (by decide +kernel)
set_option maxRecDepth 100000 in
/-- GlacierMail$Rows.copyFrom -/
noncomputable def p2_s1665 : ck_Sum := ((1, 0, 0), 245, [.inr (.inr (.inl 4)), .inr (.inr (.inl 58))], ([], [], []), ([(4, 3, 3), (5, 0, 55)], []), [(.inr none, 245, ([], [], []))])
set_option maxRecDepth 100000 in
theorem p2_s1665_s {X : Int → Int} {LX : Nat} : ck_Ok p2_O X LX 58 p2_s1665 := ck_okq (cuts := []) (f := 114) ⟨p2_nmu, ck_E0⟩ (by decide +kernel)
set_option maxRecDepth 100000 in
/-- GlacierMail$Rows.copyFrom -/
noncomputable def p2_s1666 : ck_Sum := ((1, 0, 0), 245, [.inr (.inr (.inl 6)), .inr (.inr (.inl 60))], ([], [], []), ([(6, 3, 3), (7, 0, 23)], []), [(.inr none, 245, ([], [], []))])
set_option maxRecDepth 100000 in
theorem p2_s1666_s {X : Int → Int} {LX : Nat} : ck_Ok p2_O X LX 58 p2_s1666 := ck_okq (cuts := []) (f := 114) ⟨p2_nmu, ck_E0⟩ (by decide +kernel)
set_option maxRecDepth 100000 in
/-- GlacierMail$Rows.copyFrom -/
noncomputable def p2_s1667 : ck_Sum := ((1, 0, 0), 245, [.inr (.inr (.inl 8)), .inr (.inr (.inl 62))], ([], [], []), ([(8, 3, 3), (9, 0, 23)], []), [(.inr none, 245, ([], [], []))])
set_option maxRecDepth 100000 in
theorem p2_s1667_s {X : Int → Int} {LX : Nat} : ck_Ok p2_O X LX 58 p2_s1667 := ck_okq (cuts := []) (f := 114) ⟨p2_nmu, ck_E0⟩ (by decide +kernel)
end
/-! 78r80a21.sf -/
section
/-! EVERY CALL ENDS, whatever was done before (laid by wip/am/p2k.py). -/
set_option maxRecDepth 100000 in
/-- GlacierMail$Rows.copyFrom -/
noncomputable def p2_s1668 : ck_Sum := ((1, 0, 0), 245, [.inr (.inr (.inl 10)), .inr (.inr (.inl 64))], ([], [], []), ([(10, 3, 3), (11, 0, 167)], []), [(.inr none, 245, ([], [], []))])
set_option maxRecDepth 100000 in
theorem p2_s1668_s {X : Int → Int} {LX : Nat} : ck_Ok p2_O X LX 58 p2_s1668 := ck_okq (cuts := []) (f := 114) ⟨p2_nmu, ck_E0⟩ (by decide +kernel)
set_option maxRecDepth 100000 in
/-- GlacierMail$Rows.copyFrom -/
noncomputable def p2_s1669 : ck_Sum := ((1, 0, 0), 245, [.inr (.inr (.inl 12)), .inr (.inr (.inl 66))], ([], [], []), ([(12, 3, 3), (13, 0, 35)], []), [(.inr none, 245, ([], [], []))])
set_option maxRecDepth 100000 in
theorem p2_s1669_s {X : Int → Int} {LX : Nat} : ck_Ok p2_O X LX 58 p2_s1669 := ck_okq (cuts := []) (f := 114) ⟨p2_nmu, ck_E0⟩ (by decide +kernel)
set_option maxRecDepth 100000 in
/-- GlacierMail$Rows.copyFrom -/
noncomputable def p2_s1670 : ck_Sum := ((1, 0, 0), 245, [.inr (.inr (.inl 14)), .inr (.inr (.inl 68))], ([], [], []), ([(14, 3, 3), (15, 0, 71)], []), [(.inr none, 245, ([], [], []))])
set_option maxRecDepth 100000 in
theorem p2_s1670_s {X : Int → Int} {LX : Nat} : ck_Ok p2_O X LX 58 p2_s1670 := ck_okq (cuts := []) (f := 114) ⟨p2_nmu, ck_E0⟩ (by decide +kernel)
set_option maxRecDepth 100000 in
/-- GlacierMail$State.copyFrom -/
noncomputable def p2_s1671 : ck_Sum := ((2, 0, 0), 245, [.inr (.inr (.inl 3)), .inr (.inr (.inl 57))], ([], [(3, 8, 0), (57, 8, 100057)], []), (zl1, [(3, 8)]), [(.inr none, 245, ([], [(3, 8, 100057)], []))])
set_option maxRecDepth 100000 in
theorem p2_s1671_s {X : Int → Int} {LX : Nat} : ck_Ok p2_O X LX 57 p2_s1671 := ck_okq (cuts := []) (f := 204) ⟨p2_nmu, ck_E1 (ck_S1 p2_s1665_s (ck_S1 p2_s1666_s (ck_S1 p2_s1667_s (ck_S1 p2_s1668_s (ck_S1 p2_s1669_s (ck_S1 p2_s1670_s ck_S0)))))) ck_E0⟩ (by decide +kernel)
set_option maxRecDepth 100000 in
/-- GlacierMail$Rows.copyFrom -/
noncomputable def p2_s1672 : ck_Sum := ((1, 0, 0), 245, [.inr (.inr (.inl 4)), .inr (.inr (.inl 71))], ([], [], []), ([(4, 3, 3), (5, 0, 55)], []), [(.inr none, 245, ([], [], []))])
set_option maxRecDepth 100000 in
theorem p2_s1672_s {X : Int → Int} {LX : Nat} : ck_Ok p2_O X LX 58 p2_s1672 := ck_okq (cuts := []) (f := 114) ⟨p2_nmu, ck_E0⟩ (by decide +kernel)
set_option maxRecDepth 100000 in
/-- GlacierMail$Rows.copyFrom -/
noncomputable def p2_s1673 : ck_Sum := ((1, 0, 0), 245, [.inr (.inr (.inl 6)), .inr (.inr (.inl 73))], ([], [], []), ([(6, 3, 3), (7, 0, 23)], []), [(.inr none, 245, ([], [], []))])
set_option maxRecDepth 100000 in
theorem p2_s1673_s {X : Int → Int} {LX : Nat} : ck_Ok p2_O X LX 58 p2_s1673 := ck_okq (cuts := []) (f := 114) ⟨p2_nmu, ck_E0⟩ (by decide +kernel)
set_option maxRecDepth 100000 in
/-- GlacierMail$Rows.copyFrom -/
noncomputable def p2_s1674 : ck_Sum := ((1, 0, 0), 245, [.inr (.inr (.inl 8)), .inr (.inr (.inl 75))], ([], [], []), ([(8, 3, 3), (9, 0, 23)], []), [(.inr none, 245, ([], [], []))])
set_option maxRecDepth 100000 in
theorem p2_s1674_s {X : Int → Int} {LX : Nat} : ck_Ok p2_O X LX 58 p2_s1674 := ck_okq (cuts := []) (f := 114) ⟨p2_nmu, ck_E0⟩ (by decide +kernel)
set_option maxRecDepth 100000 in
/-- GlacierMail$Rows.copyFrom -/
noncomputable def p2_s1675 : ck_Sum := ((1, 0, 0), 245, [.inr (.inr (.inl 10)), .inr (.inr (.inl 77))], ([], [], []), ([(10, 3, 3), (11, 0, 167)], []), [(.inr none, 245, ([], [], []))])
set_option maxRecDepth 100000 in
theorem p2_s1675_s {X : Int → Int} {LX : Nat} : ck_Ok p2_O X LX 58 p2_s1675 := ck_okq (cuts := []) (f := 114) ⟨p2_nmu, ck_E0⟩ (by decide +kernel)
set_option maxRecDepth 100000 in
/-- GlacierMail$Rows.copyFrom -/
noncomputable def p2_s1676 : ck_Sum := ((1, 0, 0), 245, [.inr (.inr (.inl 12)), .inr (.inr (.inl 79))], ([], [], []), ([(12, 3, 3), (13, 0, 35)], []), [(.inr none, 245, ([], [], []))])
set_option maxRecDepth 100000 in
theorem p2_s1676_s {X : Int → Int} {LX : Nat} : ck_Ok p2_O X LX 58 p2_s1676 := ck_okq (cuts := []) (f := 114) ⟨p2_nmu, ck_E0⟩ (by decide +kernel)
set_option maxRecDepth 100000 in
/-- GlacierMail$Rows.copyFrom -/
noncomputable def p2_s1677 : ck_Sum := ((1, 0, 0), 245, [.inr (.inr (.inl 14)), .inr (.inr (.inl 81))], ([], [], []), ([(14, 3, 3), (15, 0, 71)], []), [(.inr none, 245, ([], [], []))])
set_option maxRecDepth 100000 in
theorem p2_s1677_s {X : Int → Int} {LX : Nat} : ck_Ok p2_O X LX 58 p2_s1677 := ck_okq (cuts := []) (f := 114) ⟨p2_nmu, ck_E0⟩ (by decide +kernel)
set_option maxRecDepth 100000 in
/-- GlacierMail$State.copyFrom -/
noncomputable def p2_s1678 : ck_Sum := ((2, 0, 0), 245, [.inr (.inr (.inl 3)), .inr (.inr (.inl 70))], ([], [(3, 8, 0), (70, 8, 100070)], []), (zl1, [(3, 8)]), [(.inr none, 245, ([], [(3, 8, 100070)], []))])
set_option maxRecDepth 100000 in
theorem p2_s1678_s {X : Int → Int} {LX : Nat} : ck_Ok p2_O X LX 57 p2_s1678 := ck_okq (cuts := []) (f := 204) ⟨p2_nmu, ck_E1 (ck_S1 p2_s1672_s (ck_S1 p2_s1673_s (ck_S1 p2_s1674_s (ck_S1 p2_s1675_s (ck_S1 p2_s1676_s (ck_S1 p2_s1677_s ck_S0)))))) ck_E0⟩ (by decide +kernel)
set_option maxRecDepth 100000 in
/-- GlacierMail$Rows.copyFrom -/
noncomputable def p2_s1679 : ck_Sum := ((1, 0, 0), 245, [.inr (.inr (.inl 4)), .inr (.inr (.inl 84))], ([], [], []), ([(4, 3, 3), (5, 0, 55)], []), [(.inr none, 245, ([], [], []))])
set_option maxRecDepth 100000 in
theorem p2_s1679_s {X : Int → Int} {LX : Nat} : ck_Ok p2_O X LX 58 p2_s1679 := ck_okq (cuts := []) (f := 114) ⟨p2_nmu, ck_E0⟩ (by decide +kernel)
set_option maxRecDepth 100000 in
/-- GlacierMail$Rows.copyFrom -/
noncomputable def p2_s1680 : ck_Sum := ((1, 0, 0), 245, [.inr (.inr (.inl 6)), .inr (.inr (.inl 86))], ([], [], []), ([(6, 3, 3), (7, 0, 23)], []), [(.inr none, 245, ([], [], []))])
set_option maxRecDepth 100000 in
theorem p2_s1680_s {X : Int → Int} {LX : Nat} : ck_Ok p2_O X LX 58 p2_s1680 := ck_okq (cuts := []) (f := 114) ⟨p2_nmu, ck_E0⟩ (by decide +kernel)
set_option maxRecDepth 100000 in
/-- GlacierMail$Rows.copyFrom -/
noncomputable def p2_s1681 : ck_Sum := ((1, 0, 0), 245, [.inr (.inr (.inl 8)), .inr (.inr (.inl 88))], ([], [], []), ([(8, 3, 3), (9, 0, 23)], []), [(.inr none, 245, ([], [], []))])
set_option maxRecDepth 100000 in
theorem p2_s1681_s {X : Int → Int} {LX : Nat} : ck_Ok p2_O X LX 58 p2_s1681 := ck_okq (cuts := []) (f := 114) ⟨p2_nmu, ck_E0⟩ (by decide +kernel)
set_option maxRecDepth 100000 in
/-- GlacierMail$Rows.copyFrom -/
noncomputable def p2_s1682 : ck_Sum := ((1, 0, 0), 245, [.inr (.inr (.inl 10)), .inr (.inr (.inl 90))], ([], [], []), ([(10, 3, 3), (11, 0, 167)], []), [(.inr none, 245, ([], [], []))])
set_option maxRecDepth 100000 in
theorem p2_s1682_s {X : Int → Int} {LX : Nat} : ck_Ok p2_O X LX 58 p2_s1682 := ck_okq (cuts := []) (f := 114) ⟨p2_nmu, ck_E0⟩ (by decide +kernel)
set_option maxRecDepth 100000 in
/-- GlacierMail$Rows.copyFrom -/
noncomputable def p2_s1683 : ck_Sum := ((1, 0, 0), 245, [.inr (.inr (.inl 12)), .inr (.inr (.inl 92))], ([], [], []), ([(12, 3, 3), (13, 0, 35)], []), [(.inr none, 245, ([], [], []))])
set_option maxRecDepth 100000 in
theorem p2_s1683_s {X : Int → Int} {LX : Nat} : ck_Ok p2_O X LX 58 p2_s1683 := ck_okq (cuts := []) (f := 114) ⟨p2_nmu, ck_E0⟩ (by decide +kernel)
set_option maxRecDepth 100000 in
/-- GlacierMail$Rows.copyFrom -/
noncomputable def p2_s1684 : ck_Sum := ((1, 0, 0), 245, [.inr (.inr (.inl 14)), .inr (.inr (.inl 94))], ([], [], []), ([(14, 3, 3), (15, 0, 71)], []), [(.inr none, 245, ([], [], []))])
set_option maxRecDepth 100000 in
theorem p2_s1684_s {X : Int → Int} {LX : Nat} : ck_Ok p2_O X LX 58 p2_s1684 := ck_okq (cuts := []) (f := 114) ⟨p2_nmu, ck_E0⟩ (by decide +kernel)
set_option maxRecDepth 100000 in
/-- GlacierMail$State.copyFrom -/
noncomputable def p2_s1685 : ck_Sum := ((2, 0, 0), 245, [.inr (.inr (.inl 3)), .inr (.inr (.inl 83))], ([], [(3, 8, 0), (83, 8, 100083)], []), (zl1, [(3, 8)]), [(.inr none, 245, ([], [(3, 8, 100083)], []))])
set_option maxRecDepth 100000 in
theorem p2_s1685_s {X : Int → Int} {LX : Nat} : ck_Ok p2_O X LX 57 p2_s1685 := ck_okq (cuts := []) (f := 204) ⟨p2_nmu, ck_E1 (ck_S1 p2_s1679_s (ck_S1 p2_s1680_s (ck_S1 p2_s1681_s (ck_S1 p2_s1682_s (ck_S1 p2_s1683_s (ck_S1 p2_s1684_s ck_S0)))))) ck_E0⟩ (by decide +kernel)
set_option maxRecDepth 100000 in
/-- GlacierMail$Rows.copyFrom -/
noncomputable def p2_s1686 : ck_Sum := ((1, 0, 0), 245, [.inr (.inr (.inl 4)), .inr (.inr (.inl 97))], ([], [], []), ([(4, 3, 3), (5, 0, 55)], []), [(.inr none, 245, ([], [], []))])
set_option maxRecDepth 100000 in
theorem p2_s1686_s {X : Int → Int} {LX : Nat} : ck_Ok p2_O X LX 58 p2_s1686 := ck_okq (cuts := []) (f := 114) ⟨p2_nmu, ck_E0⟩ (by decide +kernel)
set_option maxRecDepth 100000 in
/-- GlacierMail$Rows.copyFrom -/
noncomputable def p2_s1687 : ck_Sum := ((1, 0, 0), 245, [.inr (.inr (.inl 6)), .inr (.inr (.inl 99))], ([], [], []), ([(6, 3, 3), (7, 0, 23)], []), [(.inr none, 245, ([], [], []))])
set_option maxRecDepth 100000 in
theorem p2_s1687_s {X : Int → Int} {LX : Nat} : ck_Ok p2_O X LX 58 p2_s1687 := ck_okq (cuts := []) (f := 114) ⟨p2_nmu, ck_E0⟩ (by decide +kernel)
set_option maxRecDepth 100000 in
/-- GlacierMail$Rows.copyFrom -/
noncomputable def p2_s1688 : ck_Sum := ((1, 0, 0), 245, [.inr (.inr (.inl 8)), .inr (.inr (.inl 101))], ([], [], []), ([(8, 3, 3), (9, 0, 23)], []), [(.inr none, 245, ([], [], []))])
set_option maxRecDepth 100000 in
theorem p2_s1688_s {X : Int → Int} {LX : Nat} : ck_Ok p2_O X LX 58 p2_s1688 := ck_okq (cuts := []) (f := 114) ⟨p2_nmu, ck_E0⟩ (by decide +kernel)
set_option maxRecDepth 100000 in
/-- GlacierMail$Rows.copyFrom -/
noncomputable def p2_s1689 : ck_Sum := ((1, 0, 0), 245, [.inr (.inr (.inl 10)), .inr (.inr (.inl 103))], ([], [], []), ([(10, 3, 3), (11, 0, 167)], []), [(.inr none, 245, ([], [], []))])
set_option maxRecDepth 100000 in
theorem p2_s1689_s {X : Int → Int} {LX : Nat} : ck_Ok p2_O X LX 58 p2_s1689 := ck_okq (cuts := []) (f := 114) ⟨p2_nmu, ck_E0⟩ (by decide +kernel)
set_option maxRecDepth 100000 in
/-- GlacierMail$Rows.copyFrom -/
noncomputable def p2_s1690 : ck_Sum := ((1, 0, 0), 245, [.inr (.inr (.inl 12)), .inr (.inr (.inl 105))], ([], [], []), ([(12, 3, 3), (13, 0, 35)], []), [(.inr none, 245, ([], [], []))])
set_option maxRecDepth 100000 in
theorem p2_s1690_s {X : Int → Int} {LX : Nat} : ck_Ok p2_O X LX 58 p2_s1690 := ck_okq (cuts := []) (f := 114) ⟨p2_nmu, ck_E0⟩ (by decide +kernel)
set_option maxRecDepth 100000 in
/-- GlacierMail$Rows.copyFrom -/
noncomputable def p2_s1691 : ck_Sum := ((1, 0, 0), 245, [.inr (.inr (.inl 14)), .inr (.inr (.inl 107))], ([], [], []), ([(14, 3, 3), (15, 0, 71)], []), [(.inr none, 245, ([], [], []))])
set_option maxRecDepth 100000 in
theorem p2_s1691_s {X : Int → Int} {LX : Nat} : ck_Ok p2_O X LX 58 p2_s1691 := ck_okq (cuts := []) (f := 114) ⟨p2_nmu, ck_E0⟩ (by decide +kernel)
set_option maxRecDepth 100000 in
/-- GlacierMail$State.copyFrom -/
noncomputable def p2_s1692 : ck_Sum := ((2, 0, 0), 245, [.inr (.inr (.inl 3)), .inr (.inr (.inl 96))], ([], [(3, 8, 0), (96, 8, 100096)], []), (zl1, [(3, 8)]), [(.inr none, 245, ([], [(3, 8, 100096)], []))])
set_option maxRecDepth 100000 in
theorem p2_s1692_s {X : Int → Int} {LX : Nat} : ck_Ok p2_O X LX 57 p2_s1692 := ck_okq (cuts := []) (f := 204) ⟨p2_nmu, ck_E1 (ck_S1 p2_s1686_s (ck_S1 p2_s1687_s (ck_S1 p2_s1688_s (ck_S1 p2_s1689_s (ck_S1 p2_s1690_s (ck_S1 p2_s1691_s ck_S0)))))) ck_E0⟩ (by decide +kernel)
set_option maxRecDepth 100000 in
/-- GlacierMail$Rows.copyFrom -/
noncomputable def p2_s1693 : ck_Sum := ((1, 0, 0), 245, [.inr (.inr (.inl 4)), .inr (.inr (.inl 110))], ([], [], []), ([(4, 3, 3), (5, 0, 55)], []), [(.inr none, 245, ([], [], []))])
set_option maxRecDepth 100000 in
theorem p2_s1693_s {X : Int → Int} {LX : Nat} : ck_Ok p2_O X LX 58 p2_s1693 := ck_okq (cuts := []) (f := 114) ⟨p2_nmu, ck_E0⟩ (by decide +kernel)
set_option maxRecDepth 100000 in
/-- GlacierMail$Rows.copyFrom -/
noncomputable def p2_s1694 : ck_Sum := ((1, 0, 0), 245, [.inr (.inr (.inl 6)), .inr (.inr (.inl 112))], ([], [], []), ([(6, 3, 3), (7, 0, 23)], []), [(.inr none, 245, ([], [], []))])
set_option maxRecDepth 100000 in
theorem p2_s1694_s {X : Int → Int} {LX : Nat} : ck_Ok p2_O X LX 58 p2_s1694 := ck_okq (cuts := []) (f := 114) ⟨p2_nmu, ck_E0⟩ (by decide +kernel)
set_option maxRecDepth 100000 in
/-- GlacierMail$Rows.copyFrom -/
noncomputable def p2_s1695 : ck_Sum := ((1, 0, 0), 245, [.inr (.inr (.inl 8)), .inr (.inr (.inl 114))], ([], [], []), ([(8, 3, 3), (9, 0, 23)], []), [(.inr none, 245, ([], [], []))])
set_option maxRecDepth 100000 in
theorem p2_s1695_s {X : Int → Int} {LX : Nat} : ck_Ok p2_O X LX 58 p2_s1695 := ck_okq (cuts := []) (f := 114) ⟨p2_nmu, ck_E0⟩ (by decide +kernel)
set_option maxRecDepth 100000 in
/-- GlacierMail$Rows.copyFrom -/
noncomputable def p2_s1696 : ck_Sum := ((1, 0, 0), 245, [.inr (.inr (.inl 10)), .inr (.inr (.inl 116))], ([], [], []), ([(10, 3, 3), (11, 0, 167)], []), [(.inr none, 245, ([], [], []))])
set_option maxRecDepth 100000 in
theorem p2_s1696_s {X : Int → Int} {LX : Nat} : ck_Ok p2_O X LX 58 p2_s1696 := ck_okq (cuts := []) (f := 114) ⟨p2_nmu, ck_E0⟩ (by decide +kernel)
set_option maxRecDepth 100000 in
/-- GlacierMail$Rows.copyFrom -/
noncomputable def p2_s1697 : ck_Sum := ((1, 0, 0), 245, [.inr (.inr (.inl 12)), .inr (.inr (.inl 118))], ([], [], []), ([(12, 3, 3), (13, 0, 35)], []), [(.inr none, 245, ([], [], []))])
set_option maxRecDepth 100000 in
theorem p2_s1697_s {X : Int → Int} {LX : Nat} : ck_Ok p2_O X LX 58 p2_s1697 := ck_okq (cuts := []) (f := 114) ⟨p2_nmu, ck_E0⟩ (by decide +kernel)
set_option maxRecDepth 100000 in
/-- GlacierMail$Rows.copyFrom -/
noncomputable def p2_s1698 : ck_Sum := ((1, 0, 0), 245, [.inr (.inr (.inl 14)), .inr (.inr (.inl 120))], ([], [], []), ([(14, 3, 3), (15, 0, 71)], []), [(.inr none, 245, ([], [], []))])
set_option maxRecDepth 100000 in
theorem p2_s1698_s {X : Int → Int} {LX : Nat} : ck_Ok p2_O X LX 58 p2_s1698 := ck_okq (cuts := []) (f := 114) ⟨p2_nmu, ck_E0⟩ (by decide +kernel)
set_option maxRecDepth 100000 in
/-- GlacierMail$State.copyFrom -/
noncomputable def p2_s1699 : ck_Sum := ((2, 0, 0), 245, [.inr (.inr (.inl 3)), .inr (.inr (.inl 109))], ([], [(3, 8, 0), (109, 8, 100109)], []), (zl1, [(3, 8)]), [(.inr none, 245, ([], [(3, 8, 100109)], []))])
set_option maxRecDepth 100000 in
theorem p2_s1699_s {X : Int → Int} {LX : Nat} : ck_Ok p2_O X LX 57 p2_s1699 := ck_okq (cuts := []) (f := 204) ⟨p2_nmu, ck_E1 (ck_S1 p2_s1693_s (ck_S1 p2_s1694_s (ck_S1 p2_s1695_s (ck_S1 p2_s1696_s (ck_S1 p2_s1697_s (ck_S1 p2_s1698_s ck_S0)))))) ck_E0⟩ (by decide +kernel)
set_option maxRecDepth 100000 in
/-- GlacierMail$Rows.copyFrom -/
noncomputable def p2_s1700 : ck_Sum := ((1, 0, 0), 245, [.inr (.inr (.inl 4)), .inr (.inr (.inl 123))], ([], [], []), ([(4, 3, 3), (5, 0, 55)], []), [(.inr none, 245, ([], [], []))])
set_option maxRecDepth 100000 in
theorem p2_s1700_s {X : Int → Int} {LX : Nat} : ck_Ok p2_O X LX 58 p2_s1700 := ck_okq (cuts := []) (f := 114) ⟨p2_nmu, ck_E0⟩ (by decide +kernel)
set_option maxRecDepth 100000 in
/-- GlacierMail$Rows.copyFrom -/
noncomputable def p2_s1701 : ck_Sum := ((1, 0, 0), 245, [.inr (.inr (.inl 6)), .inr (.inr (.inl 125))], ([], [], []), ([(6, 3, 3), (7, 0, 23)], []), [(.inr none, 245, ([], [], []))])
set_option maxRecDepth 100000 in
theorem p2_s1701_s {X : Int → Int} {LX : Nat} : ck_Ok p2_O X LX 58 p2_s1701 := ck_okq (cuts := []) (f := 114) ⟨p2_nmu, ck_E0⟩ (by decide +kernel)
set_option maxRecDepth 100000 in
/-- GlacierMail$Rows.copyFrom -/
noncomputable def p2_s1702 : ck_Sum := ((1, 0, 0), 245, [.inr (.inr (.inl 8)), .inr (.inr (.inl 127))], ([], [], []), ([(8, 3, 3), (9, 0, 23)], []), [(.inr none, 245, ([], [], []))])
set_option maxRecDepth 100000 in
theorem p2_s1702_s {X : Int → Int} {LX : Nat} : ck_Ok p2_O X LX 58 p2_s1702 := ck_okq (cuts := []) (f := 114) ⟨p2_nmu, ck_E0⟩ (by decide +kernel)
set_option maxRecDepth 100000 in
/-- GlacierMail$Rows.copyFrom -/
noncomputable def p2_s1703 : ck_Sum := ((1, 0, 0), 245, [.inr (.inr (.inl 10)), .inr (.inr (.inl 129))], ([], [], []), ([(10, 3, 3), (11, 0, 167)], []), [(.inr none, 245, ([], [], []))])
set_option maxRecDepth 100000 in
theorem p2_s1703_s {X : Int → Int} {LX : Nat} : ck_Ok p2_O X LX 58 p2_s1703 := ck_okq (cuts := []) (f := 114) ⟨p2_nmu, ck_E0⟩ (by decide +kernel)
set_option maxRecDepth 100000 in
/-- GlacierMail$Rows.copyFrom -/
noncomputable def p2_s1704 : ck_Sum := ((1, 0, 0), 245, [.inr (.inr (.inl 12)), .inr (.inr (.inl 131))], ([], [], []), ([(12, 3, 3), (13, 0, 35)], []), [(.inr none, 245, ([], [], []))])
set_option maxRecDepth 100000 in
theorem p2_s1704_s {X : Int → Int} {LX : Nat} : ck_Ok p2_O X LX 58 p2_s1704 := ck_okq (cuts := []) (f := 114) ⟨p2_nmu, ck_E0⟩ (by decide +kernel)
set_option maxRecDepth 100000 in
/-- GlacierMail$Rows.copyFrom -/
noncomputable def p2_s1705 : ck_Sum := ((1, 0, 0), 245, [.inr (.inr (.inl 14)), .inr (.inr (.inl 133))], ([], [], []), ([(14, 3, 3), (15, 0, 71)], []), [(.inr none, 245, ([], [], []))])
set_option maxRecDepth 100000 in
theorem p2_s1705_s {X : Int → Int} {LX : Nat} : ck_Ok p2_O X LX 58 p2_s1705 := ck_okq (cuts := []) (f := 114) ⟨p2_nmu, ck_E0⟩ (by decide +kernel)
set_option maxRecDepth 100000 in
/-- GlacierMail$State.copyFrom -/
noncomputable def p2_s1706 : ck_Sum := ((2, 0, 0), 245, [.inr (.inr (.inl 3)), .inr (.inr (.inl 122))], ([], [(3, 8, 0), (122, 8, 100122)], []), (zl1, [(3, 8)]), [(.inr none, 245, ([], [(3, 8, 100122)], []))])
set_option maxRecDepth 100000 in
theorem p2_s1706_s {X : Int → Int} {LX : Nat} : ck_Ok p2_O X LX 57 p2_s1706 := ck_okq (cuts := []) (f := 204) ⟨p2_nmu, ck_E1 (ck_S1 p2_s1700_s (ck_S1 p2_s1701_s (ck_S1 p2_s1702_s (ck_S1 p2_s1703_s (ck_S1 p2_s1704_s (ck_S1 p2_s1705_s ck_S0)))))) ck_E0⟩ (by decide +kernel)
set_option maxRecDepth 100000 in
/-- GlacierMail$Rows.copyFrom -/
noncomputable def p2_s1707 : ck_Sum := ((1, 0, 0), 245, [.inr (.inr (.inl 4)), .inr (.inr (.inl 136))], ([], [], []), ([(4, 3, 3), (5, 0, 55)], []), [(.inr none, 245, ([], [], []))])
set_option maxRecDepth 100000 in
theorem p2_s1707_s {X : Int → Int} {LX : Nat} : ck_Ok p2_O X LX 58 p2_s1707 := ck_okq (cuts := []) (f := 114) ⟨p2_nmu, ck_E0⟩ (by decide +kernel)
set_option maxRecDepth 100000 in
/-- GlacierMail$Rows.copyFrom -/
noncomputable def p2_s1708 : ck_Sum := ((1, 0, 0), 245, [.inr (.inr (.inl 6)), .inr (.inr (.inl 138))], ([], [], []), ([(6, 3, 3), (7, 0, 23)], []), [(.inr none, 245, ([], [], []))])
set_option maxRecDepth 100000 in
theorem p2_s1708_s {X : Int → Int} {LX : Nat} : ck_Ok p2_O X LX 58 p2_s1708 := ck_okq (cuts := []) (f := 114) ⟨p2_nmu, ck_E0⟩ (by decide +kernel)
set_option maxRecDepth 100000 in
/-- GlacierMail$Rows.copyFrom -/
noncomputable def p2_s1709 : ck_Sum := ((1, 0, 0), 245, [.inr (.inr (.inl 8)), .inr (.inr (.inl 140))], ([], [], []), ([(8, 3, 3), (9, 0, 23)], []), [(.inr none, 245, ([], [], []))])
set_option maxRecDepth 100000 in
theorem p2_s1709_s {X : Int → Int} {LX : Nat} : ck_Ok p2_O X LX 58 p2_s1709 := ck_okq (cuts := []) (f := 114) ⟨p2_nmu, ck_E0⟩ (by decide +kernel)
set_option maxRecDepth 100000 in
/-- GlacierMail$Rows.copyFrom -/
noncomputable def p2_s1710 : ck_Sum := ((1, 0, 0), 245, [.inr (.inr (.inl 10)), .inr (.inr (.inl 142))], ([], [], []), ([(10, 3, 3), (11, 0, 167)], []), [(.inr none, 245, ([], [], []))])
set_option maxRecDepth 100000 in
theorem p2_s1710_s {X : Int → Int} {LX : Nat} : ck_Ok p2_O X LX 58 p2_s1710 := ck_okq (cuts := []) (f := 114) ⟨p2_nmu, ck_E0⟩ (by decide +kernel)
set_option maxRecDepth 100000 in
/-- GlacierMail$Rows.copyFrom -/
noncomputable def p2_s1711 : ck_Sum := ((1, 0, 0), 245, [.inr (.inr (.inl 12)), .inr (.inr (.inl 144))], ([], [], []), ([(12, 3, 3), (13, 0, 35)], []), [(.inr none, 245, ([], [], []))])
set_option maxRecDepth 100000 in
theorem p2_s1711_s {X : Int → Int} {LX : Nat} : ck_Ok p2_O X LX 58 p2_s1711 := ck_okq (cuts := []) (f := 114) ⟨p2_nmu, ck_E0⟩ (by decide +kernel)
set_option maxRecDepth 100000 in
/-- GlacierMail$Rows.copyFrom -/
noncomputable def p2_s1712 : ck_Sum := ((1, 0, 0), 245, [.inr (.inr (.inl 14)), .inr (.inr (.inl 146))], ([], [], []), ([(14, 3, 3), (15, 0, 71)], []), [(.inr none, 245, ([], [], []))])
set_option maxRecDepth 100000 in
theorem p2_s1712_s {X : Int → Int} {LX : Nat} : ck_Ok p2_O X LX 58 p2_s1712 := ck_okq (cuts := []) (f := 114) ⟨p2_nmu, ck_E0⟩ (by decide +kernel)
set_option maxRecDepth 100000 in
/-- GlacierMail$State.copyFrom -/
noncomputable def p2_s1713 : ck_Sum := ((2, 0, 0), 245, [.inr (.inr (.inl 3)), .inr (.inr (.inl 135))], ([], [(3, 8, 0), (135, 8, 100135)], []), (zl1, [(3, 8)]), [(.inr none, 245, ([], [(3, 8, 100135)], []))])
set_option maxRecDepth 100000 in
theorem p2_s1713_s {X : Int → Int} {LX : Nat} : ck_Ok p2_O X LX 57 p2_s1713 := ck_okq (cuts := []) (f := 204) ⟨p2_nmu, ck_E1 (ck_S1 p2_s1707_s (ck_S1 p2_s1708_s (ck_S1 p2_s1709_s (ck_S1 p2_s1710_s (ck_S1 p2_s1711_s (ck_S1 p2_s1712_s ck_S0)))))) ck_E0⟩ (by decide +kernel)
set_option maxRecDepth 100000 in
/-- GlacierMail$Rows.copyFrom -/
noncomputable def p2_s1714 : ck_Sum := ((1, 0, 0), 245, [.inr (.inr (.inl 4)), .inr (.inr (.inl 149))], ([], [], []), ([(4, 3, 3), (5, 0, 55)], []), [(.inr none, 245, ([], [], []))])
set_option maxRecDepth 100000 in
theorem p2_s1714_s {X : Int → Int} {LX : Nat} : ck_Ok p2_O X LX 58 p2_s1714 := ck_okq (cuts := []) (f := 114) ⟨p2_nmu, ck_E0⟩ (by decide +kernel)
set_option maxRecDepth 100000 in
/-- GlacierMail$Rows.copyFrom -/
noncomputable def p2_s1715 : ck_Sum := ((1, 0, 0), 245, [.inr (.inr (.inl 6)), .inr (.inr (.inl 151))], ([], [], []), ([(6, 3, 3), (7, 0, 23)], []), [(.inr none, 245, ([], [], []))])
set_option maxRecDepth 100000 in
theorem p2_s1715_s {X : Int → Int} {LX : Nat} : ck_Ok p2_O X LX 58 p2_s1715 := ck_okq (cuts := []) (f := 114) ⟨p2_nmu, ck_E0⟩ (by decide +kernel)
set_option maxRecDepth 100000 in
/-- GlacierMail$Rows.copyFrom -/
noncomputable def p2_s1716 : ck_Sum := ((1, 0, 0), 245, [.inr (.inr (.inl 8)), .inr (.inr (.inl 153))], ([], [], []), ([(8, 3, 3), (9, 0, 23)], []), [(.inr none, 245, ([], [], []))])
set_option maxRecDepth 100000 in
theorem p2_s1716_s {X : Int → Int} {LX : Nat} : ck_Ok p2_O X LX 58 p2_s1716 := ck_okq (cuts := []) (f := 114) ⟨p2_nmu, ck_E0⟩ (by decide +kernel)
set_option maxRecDepth 100000 in
/-- GlacierMail$Rows.copyFrom -/
noncomputable def p2_s1717 : ck_Sum := ((1, 0, 0), 245, [.inr (.inr (.inl 10)), .inr (.inr (.inl 155))], ([], [], []), ([(10, 3, 3), (11, 0, 167)], []), [(.inr none, 245, ([], [], []))])
set_option maxRecDepth 100000 in
theorem p2_s1717_s {X : Int → Int} {LX : Nat} : ck_Ok p2_O X LX 58 p2_s1717 := ck_okq (cuts := []) (f := 114) ⟨p2_nmu, ck_E0⟩ (by decide +kernel)
set_option maxRecDepth 100000 in
/-- GlacierMail$Rows.copyFrom -/
noncomputable def p2_s1718 : ck_Sum := ((1, 0, 0), 245, [.inr (.inr (.inl 12)), .inr (.inr (.inl 157))], ([], [], []), ([(12, 3, 3), (13, 0, 35)], []), [(.inr none, 245, ([], [], []))])
set_option maxRecDepth 100000 in
theorem p2_s1718_s {X : Int → Int} {LX : Nat} : ck_Ok p2_O X LX 58 p2_s1718 := ck_okq (cuts := []) (f := 114) ⟨p2_nmu, ck_E0⟩ (by decide +kernel)
set_option maxRecDepth 100000 in
/-- GlacierMail$Rows.copyFrom -/
noncomputable def p2_s1719 : ck_Sum := ((1, 0, 0), 245, [.inr (.inr (.inl 14)), .inr (.inr (.inl 159))], ([], [], []), ([(14, 3, 3), (15, 0, 71)], []), [(.inr none, 245, ([], [], []))])
set_option maxRecDepth 100000 in
theorem p2_s1719_s {X : Int → Int} {LX : Nat} : ck_Ok p2_O X LX 58 p2_s1719 := ck_okq (cuts := []) (f := 114) ⟨p2_nmu, ck_E0⟩ (by decide +kernel)
set_option maxRecDepth 100000 in
/-- GlacierMail$State.copyFrom -/
noncomputable def p2_s1720 : ck_Sum := ((2, 0, 0), 245, [.inr (.inr (.inl 3)), .inr (.inr (.inl 148))], ([], [(3, 8, 0), (148, 8, 100148)], []), (zl1, [(3, 8)]), [(.inr none, 245, ([], [(3, 8, 100148)], []))])
set_option maxRecDepth 100000 in
theorem p2_s1720_s {X : Int → Int} {LX : Nat} : ck_Ok p2_O X LX 57 p2_s1720 := ck_okq (cuts := []) (f := 204) ⟨p2_nmu, ck_E1 (ck_S1 p2_s1714_s (ck_S1 p2_s1715_s (ck_S1 p2_s1716_s (ck_S1 p2_s1717_s (ck_S1 p2_s1718_s (ck_S1 p2_s1719_s ck_S0)))))) ck_E0⟩ (by decide +kernel)
set_option maxRecDepth 100000 in
/-- GlacierMail$Rows.copyFrom -/
noncomputable def p2_s1721 : ck_Sum := ((1, 0, 0), 245, [.inr (.inr (.inl 4)), .inr (.inr (.inl 162))], ([], [], []), ([(4, 3, 3), (5, 0, 55)], []), [(.inr none, 245, ([], [], []))])
set_option maxRecDepth 100000 in
theorem p2_s1721_s {X : Int → Int} {LX : Nat} : ck_Ok p2_O X LX 58 p2_s1721 := ck_okq (cuts := []) (f := 114) ⟨p2_nmu, ck_E0⟩ (by decide +kernel)
set_option maxRecDepth 100000 in
/-- GlacierMail$Rows.copyFrom -/
noncomputable def p2_s1722 : ck_Sum := ((1, 0, 0), 245, [.inr (.inr (.inl 6)), .inr (.inr (.inl 164))], ([], [], []), ([(6, 3, 3), (7, 0, 23)], []), [(.inr none, 245, ([], [], []))])
set_option maxRecDepth 100000 in
theorem p2_s1722_s {X : Int → Int} {LX : Nat} : ck_Ok p2_O X LX 58 p2_s1722 := ck_okq (cuts := []) (f := 114) ⟨p2_nmu, ck_E0⟩ (by decide +kernel)
set_option maxRecDepth 100000 in
/-- GlacierMail$Rows.copyFrom -/
noncomputable def p2_s1723 : ck_Sum := ((1, 0, 0), 245, [.inr (.inr (.inl 8)), .inr (.inr (.inl 166))], ([], [], []), ([(8, 3, 3), (9, 0, 23)], []), [(.inr none, 245, ([], [], []))])
set_option maxRecDepth 100000 in
theorem p2_s1723_s {X : Int → Int} {LX : Nat} : ck_Ok p2_O X LX 58 p2_s1723 := ck_okq (cuts := []) (f := 114) ⟨p2_nmu, ck_E0⟩ (by decide +kernel)
set_option maxRecDepth 100000 in
/-- GlacierMail$Rows.copyFrom -/
noncomputable def p2_s1724 : ck_Sum := ((1, 0, 0), 245, [.inr (.inr (.inl 10)), .inr (.inr (.inl 168))], ([], [], []), ([(10, 3, 3), (11, 0, 167)], []), [(.inr none, 245, ([], [], []))])
set_option maxRecDepth 100000 in
theorem p2_s1724_s {X : Int → Int} {LX : Nat} : ck_Ok p2_O X LX 58 p2_s1724 := ck_okq (cuts := []) (f := 114) ⟨p2_nmu, ck_E0⟩ (by decide +kernel)
set_option maxRecDepth 100000 in
/-- GlacierMail$Rows.copyFrom -/
noncomputable def p2_s1725 : ck_Sum := ((1, 0, 0), 245, [.inr (.inr (.inl 12)), .inr (.inr (.inl 170))], ([], [], []), ([(12, 3, 3), (13, 0, 35)], []), [(.inr none, 245, ([], [], []))])
set_option maxRecDepth 100000 in
theorem p2_s1725_s {X : Int → Int} {LX : Nat} : ck_Ok p2_O X LX 58 p2_s1725 := ck_okq (cuts := []) (f := 114) ⟨p2_nmu, ck_E0⟩ (by decide +kernel)
set_option maxRecDepth 100000 in
/-- GlacierMail$Rows.copyFrom -/
noncomputable def p2_s1726 : ck_Sum := ((1, 0, 0), 245, [.inr (.inr (.inl 14)), .inr (.inr (.inl 172))], ([], [], []), ([(14, 3, 3), (15, 0, 71)], []), [(.inr none, 245, ([], [], []))])
set_option maxRecDepth 100000 in
theorem p2_s1726_s {X : Int → Int} {LX : Nat} : ck_Ok p2_O X LX 58 p2_s1726 := ck_okq (cuts := []) (f := 114) ⟨p2_nmu, ck_E0⟩ (by decide +kernel)
set_option maxRecDepth 100000 in
/-- GlacierMail$State.copyFrom -/
noncomputable def p2_s1727 : ck_Sum := ((2, 0, 0), 245, [.inr (.inr (.inl 3)), .inr (.inr (.inl 161))], ([], [(3, 8, 0), (161, 8, 100161)], []), (zl1, [(3, 8)]), [(.inr none, 245, ([], [(3, 8, 100161)], []))])
set_option maxRecDepth 100000 in
theorem p2_s1727_s {X : Int → Int} {LX : Nat} : ck_Ok p2_O X LX 57 p2_s1727 := ck_okq (cuts := []) (f := 204) ⟨p2_nmu, ck_E1 (ck_S1 p2_s1721_s (ck_S1 p2_s1722_s (ck_S1 p2_s1723_s (ck_S1 p2_s1724_s (ck_S1 p2_s1725_s (ck_S1 p2_s1726_s ck_S0)))))) ck_E0⟩ (by decide +kernel)
set_option maxRecDepth 100000 in
/-- GlacierMail$Rows.copyFrom -/
noncomputable def p2_s1728 : ck_Sum := ((1, 0, 0), 245, [.inr (.inr (.inl 4)), .inr (.inr (.inl 175))], ([], [], []), ([(4, 3, 3), (5, 0, 55)], []), [(.inr none, 245, ([], [], []))])
set_option maxRecDepth 100000 in
theorem p2_s1728_s {X : Int → Int} {LX : Nat} : ck_Ok p2_O X LX 58 p2_s1728 := ck_okq (cuts := []) (f := 114) ⟨p2_nmu, ck_E0⟩ (by decide +kernel)
set_option maxRecDepth 100000 in
/-- GlacierMail$Rows.copyFrom -/
noncomputable def p2_s1729 : ck_Sum := ((1, 0, 0), 245, [.inr (.inr (.inl 6)), .inr (.inr (.inl 177))], ([], [], []), ([(6, 3, 3), (7, 0, 23)], []), [(.inr none, 245, ([], [], []))])
set_option maxRecDepth 100000 in
theorem p2_s1729_s {X : Int → Int} {LX : Nat} : ck_Ok p2_O X LX 58 p2_s1729 := ck_okq (cuts := []) (f := 114) ⟨p2_nmu, ck_E0⟩ (by decide +kernel)
set_option maxRecDepth 100000 in
/-- GlacierMail$Rows.copyFrom -/
noncomputable def p2_s1730 : ck_Sum := ((1, 0, 0), 245, [.inr (.inr (.inl 8)), .inr (.inr (.inl 179))], ([], [], []), ([(8, 3, 3), (9, 0, 23)], []), [(.inr none, 245, ([], [], []))])
set_option maxRecDepth 100000 in
theorem p2_s1730_s {X : Int → Int} {LX : Nat} : ck_Ok p2_O X LX 58 p2_s1730 := ck_okq (cuts := []) (f := 114) ⟨p2_nmu, ck_E0⟩ (by decide +kernel)
set_option maxRecDepth 100000 in
/-- GlacierMail$Rows.copyFrom -/
noncomputable def p2_s1731 : ck_Sum := ((1, 0, 0), 245, [.inr (.inr (.inl 10)), .inr (.inr (.inl 181))], ([], [], []), ([(10, 3, 3), (11, 0, 167)], []), [(.inr none, 245, ([], [], []))])
set_option maxRecDepth 100000 in
theorem p2_s1731_s {X : Int → Int} {LX : Nat} : ck_Ok p2_O X LX 58 p2_s1731 := ck_okq (cuts := []) (f := 114) ⟨p2_nmu, ck_E0⟩ (by decide +kernel)
set_option maxRecDepth 100000 in
/-- GlacierMail$Rows.copyFrom -/
noncomputable def p2_s1732 : ck_Sum := ((1, 0, 0), 245, [.inr (.inr (.inl 12)), .inr (.inr (.inl 183))], ([], [], []), ([(12, 3, 3), (13, 0, 35)], []), [(.inr none, 245, ([], [], []))])
set_option maxRecDepth 100000 in
theorem p2_s1732_s {X : Int → Int} {LX : Nat} : ck_Ok p2_O X LX 58 p2_s1732 := ck_okq (cuts := []) (f := 114) ⟨p2_nmu, ck_E0⟩ (by decide +kernel)
set_option maxRecDepth 100000 in
/-- GlacierMail$Rows.copyFrom -/
noncomputable def p2_s1733 : ck_Sum := ((1, 0, 0), 245, [.inr (.inr (.inl 14)), .inr (.inr (.inl 185))], ([], [], []), ([(14, 3, 3), (15, 0, 71)], []), [(.inr none, 245, ([], [], []))])
set_option maxRecDepth 100000 in
theorem p2_s1733_s {X : Int → Int} {LX : Nat} : ck_Ok p2_O X LX 58 p2_s1733 := ck_okq (cuts := []) (f := 114) ⟨p2_nmu, ck_E0⟩ (by decide +kernel)
set_option maxRecDepth 100000 in
/-- GlacierMail$State.copyFrom -/
noncomputable def p2_s1734 : ck_Sum := ((2, 0, 0), 245, [.inr (.inr (.inl 3)), .inr (.inr (.inl 174))], ([], [(3, 8, 0), (174, 8, 100174)], []), (zl1, [(3, 8)]), [(.inr none, 245, ([], [(3, 8, 100174)], []))])
set_option maxRecDepth 100000 in
theorem p2_s1734_s {X : Int → Int} {LX : Nat} : ck_Ok p2_O X LX 57 p2_s1734 := ck_okq (cuts := []) (f := 204) ⟨p2_nmu, ck_E1 (ck_S1 p2_s1728_s (ck_S1 p2_s1729_s (ck_S1 p2_s1730_s (ck_S1 p2_s1731_s (ck_S1 p2_s1732_s (ck_S1 p2_s1733_s ck_S0)))))) ck_E0⟩ (by decide +kernel)
set_option maxRecDepth 100000 in
/-- GlacierMail$Rows.copyFrom -/
noncomputable def p2_s1735 : ck_Sum := ((1, 0, 0), 245, [.inr (.inr (.inl 4)), .inr (.inr (.inl 188))], ([], [], []), ([(4, 3, 3), (5, 0, 55)], []), [(.inr none, 245, ([], [], []))])
set_option maxRecDepth 100000 in
theorem p2_s1735_s {X : Int → Int} {LX : Nat} : ck_Ok p2_O X LX 58 p2_s1735 := ck_okq (cuts := []) (f := 114) ⟨p2_nmu, ck_E0⟩ (by decide +kernel)
set_option maxRecDepth 100000 in
/-- GlacierMail$Rows.copyFrom -/
noncomputable def p2_s1736 : ck_Sum := ((1, 0, 0), 245, [.inr (.inr (.inl 6)), .inr (.inr (.inl 190))], ([], [], []), ([(6, 3, 3), (7, 0, 23)], []), [(.inr none, 245, ([], [], []))])
set_option maxRecDepth 100000 in
theorem p2_s1736_s {X : Int → Int} {LX : Nat} : ck_Ok p2_O X LX 58 p2_s1736 := ck_okq (cuts := []) (f := 114) ⟨p2_nmu, ck_E0⟩ (by decide +kernel)
set_option maxRecDepth 100000 in
/-- GlacierMail$Rows.copyFrom -/
noncomputable def p2_s1737 : ck_Sum := ((1, 0, 0), 245, [.inr (.inr (.inl 8)), .inr (.inr (.inl 192))], ([], [], []), ([(8, 3, 3), (9, 0, 23)], []), [(.inr none, 245, ([], [], []))])
set_option maxRecDepth 100000 in
theorem p2_s1737_s {X : Int → Int} {LX : Nat} : ck_Ok p2_O X LX 58 p2_s1737 := ck_okq (cuts := []) (f := 114) ⟨p2_nmu, ck_E0⟩ (by decide +kernel)
set_option maxRecDepth 100000 in
/-- GlacierMail$Rows.copyFrom -/
noncomputable def p2_s1738 : ck_Sum := ((1, 0, 0), 245, [.inr (.inr (.inl 10)), .inr (.inr (.inl 194))], ([], [], []), ([(10, 3, 3), (11, 0, 167)], []), [(.inr none, 245, ([], [], []))])
set_option maxRecDepth 100000 in
theorem p2_s1738_s {X : Int → Int} {LX : Nat} : ck_Ok p2_O X LX 58 p2_s1738 := ck_okq (cuts := []) (f := 114) ⟨p2_nmu, ck_E0⟩ (by decide +kernel)
set_option maxRecDepth 100000 in
/-- GlacierMail$Rows.copyFrom -/
noncomputable def p2_s1739 : ck_Sum := ((1, 0, 0), 245, [.inr (.inr (.inl 12)), .inr (.inr (.inl 196))], ([], [], []), ([(12, 3, 3), (13, 0, 35)], []), [(.inr none, 245, ([], [], []))])
set_option maxRecDepth 100000 in
theorem p2_s1739_s {X : Int → Int} {LX : Nat} : ck_Ok p2_O X LX 58 p2_s1739 := ck_okq (cuts := []) (f := 114) ⟨p2_nmu, ck_E0⟩ (by decide +kernel)
set_option maxRecDepth 100000 in
/-- GlacierMail$Rows.copyFrom -/
noncomputable def p2_s1740 : ck_Sum := ((1, 0, 0), 245, [.inr (.inr (.inl 14)), .inr (.inr (.inl 198))], ([], [], []), ([(14, 3, 3), (15, 0, 71)], []), [(.inr none, 245, ([], [], []))])
set_option maxRecDepth 100000 in
theorem p2_s1740_s {X : Int → Int} {LX : Nat} : ck_Ok p2_O X LX 58 p2_s1740 := ck_okq (cuts := []) (f := 114) ⟨p2_nmu, ck_E0⟩ (by decide +kernel)
set_option maxRecDepth 100000 in
/-- GlacierMail$State.copyFrom -/
noncomputable def p2_s1741 : ck_Sum := ((2, 0, 0), 245, [.inr (.inr (.inl 3)), .inr (.inr (.inl 187))], ([], [(3, 8, 0), (187, 8, 100187)], []), (zl1, [(3, 8)]), [(.inr none, 245, ([], [(3, 8, 100187)], []))])
set_option maxRecDepth 100000 in
theorem p2_s1741_s {X : Int → Int} {LX : Nat} : ck_Ok p2_O X LX 57 p2_s1741 := ck_okq (cuts := []) (f := 204) ⟨p2_nmu, ck_E1 (ck_S1 p2_s1735_s (ck_S1 p2_s1736_s (ck_S1 p2_s1737_s (ck_S1 p2_s1738_s (ck_S1 p2_s1739_s (ck_S1 p2_s1740_s ck_S0)))))) ck_E0⟩ (by decide +kernel)
set_option maxRecDepth 100000 in
/-- GlacierMail$History.takeBack -/
noncomputable def p2_s1742 : ck_Sum := ((3, 0, 0), 245, [.inr (.inr (.inl 42)), .inr (.inr (.inl 3))], ([], zl102, []), (zl208, [(3, 8)]), [(.inr (some (.inl (ck_one 1))), 245, ([], [(3, 8, 100044)], zl209)), (.inr (some (.inl (ck_one 1))), 245, ([], [(3, 8, 100057)], zl209)), (.inr (some (.inl (ck_one 1))), 245, ([], [(3, 8, 100070)], zl209)), (.inr (some (.inl (ck_one 1))), 245, ([], [(3, 8, 100083)], zl209)), (.inr (some (.inl (ck_one 1))), 245, ([], [(3, 8, 100096)], zl209)), (.inr (some (.inl (ck_one 1))), 245, ([], [(3, 8, 100109)], zl209)), (.inr (some (.inl (ck_one 1))), 245, ([], [(3, 8, 100122)], zl209)), (.inr (some (.inl (ck_one 1))), 245, ([], [(3, 8, 100135)], zl209)), (.inr (some (.inl (ck_one 1))), 245, ([], [(3, 8, 100148)], zl209)), (.inr (some (.inl (ck_one 1))), 245, ([], [(3, 8, 100161)], zl209)), (.inr (some (.inl (ck_one 1))), 245, ([], [(3, 8, 100174)], zl209)), (.inr (some (.inl (ck_one 1))), 245, ([], [(3, 8, 100187)], zl209)), (.inr (some (.inl (ck_one 0))), 245, ([], [(3, 8, 0)], [(42, 2, 2, ck_one 0)]))])
set_option maxRecDepth 100000 in
theorem p2_s1742_s {X : Int → Int} {LX : Nat} : ck_Ok p2_O X LX 55 p2_s1742 := ck_okq (cuts := []) (f := 132) ⟨p2_nmu, ck_E1 (ck_S1 p2_s1657_s ck_S0) (ck_E1 (ck_S1 p2_s1664_s (ck_S1 p2_s1671_s (ck_S1 p2_s1678_s (ck_S1 p2_s1685_s (ck_S1 p2_s1692_s (ck_S1 p2_s1699_s (ck_S1 p2_s1706_s (ck_S1 p2_s1713_s (ck_S1 p2_s1720_s (ck_S1 p2_s1727_s (ck_S1 p2_s1734_s (ck_S1 p2_s1741_s ck_S0)))))))))))) ck_E0)⟩ (by decide +kernel)
set_option maxRecDepth 100000 in
/-- GlacierMail.undo -/
noncomputable def p2_s1743 : ck_Sum := ((4, 0, 0), 245, [.inr (.inr (.inl 1))], ([], zl102, []), (zl210, [(3, 8)]), [(.inr (some (.inl (ck_one 1))), 245, ([], [(3, 8, 100044)], zl211)), (.inr (some (.inl (ck_one 0))), 245, ([], [(3, 8, 0)], [(42, 2, 2, ck_one 0), (1, 15, 15, ck_one 0)])), (.inr (some (.inl (ck_one 1))), 245, ([], [(3, 8, 100187)], zl211)), (.inr (some (.inl (ck_one 1))), 245, ([], [(3, 8, 100174)], zl211)), (.inr (some (.inl (ck_one 1))), 245, ([], [(3, 8, 100161)], zl211)), (.inr (some (.inl (ck_one 1))), 245, ([], [(3, 8, 100148)], zl211)), (.inr (some (.inl (ck_one 1))), 245, ([], [(3, 8, 100135)], zl211)), (.inr (some (.inl (ck_one 1))), 245, ([], [(3, 8, 100122)], zl211)), (.inr (some (.inl (ck_one 1))), 245, ([], [(3, 8, 100109)], zl211)), (.inr (some (.inl (ck_one 1))), 245, ([], [(3, 8, 100096)], zl211)), (.inr (some (.inl (ck_one 1))), 245, ([], [(3, 8, 100083)], zl211)), (.inr (some (.inl (ck_one 1))), 245, ([], [(3, 8, 100070)], zl211)), (.inr (some (.inl (ck_one 1))), 245, ([], [(3, 8, 100057)], zl211))])
set_option maxRecDepth 100000 in
theorem p2_s1743_s {X : Int → Int} {LX : Nat} : ck_Ok p2_O X LX 54 p2_s1743 := ck_okq (cuts := []) (f := 88) ⟨p2_nmu, ck_E1 (ck_S1 p2_s1742_s ck_S0) ck_E0⟩ (by decide +kernel)
set_option maxRecDepth 100000 in
/-- GlacierMailModel.undo -/
noncomputable def p2_s1744 : ck_Sum := ((0, 0, 0), 245, [.inr (.inr (.inl 226))], ([], [], [(227, 2, 2, (0, 8, [(20, 0)])), (227, 3, 3, (0, 8, [(21, 0)])), (227, 4, 4, (0, 24, [(22, 0)])), (227, 5, 5, (0, 8, [(23, 0)])), (227, 6, 6, (0, 6, [(24, 0)])), (227, 7, 7, (0, 12, [(25, 0)])), (227, 14, 14, (0, 24, [(26, 0)])), (226, 6, 6, (0, 12, [(27, 0)])), (227, 9, 9, (0, 299, [(11, 0)]))]), ([(226, 0, 0), (226, 6, 6), (227, 0, 394)], []), [(.inr (some (.inl (ck_one 0))), 245, ([], [], [(226, 6, 6, (0, 0, [(27, 0)])), (226, 0, 0, ck_one 0), (227, 2, 2, (0, 8, [(20, 0)])), (227, 3, 3, (0, 8, [(21, 0)])), (227, 4, 4, (0, 24, [(22, 0)])), (227, 5, 5, (0, 8, [(23, 0)])), (227, 6, 6, (0, 6, [(24, 0)])), (227, 7, 7, (0, 12, [(25, 0)])), (227, 14, 14, (0, 24, [(26, 0)])), (227, 9, 9, (0, 299, [(11, 0)]))])), (.inr (some (.inl (ck_one 1))), 245, ([], [], [(226, 6, 6, (0, 11, [(27, (-1))])), (226, 0, 0, ck_one 0)]))])
noncomputable def p2_s1744_E : List (Nat × List ck_Sum) := []
set_option maxRecDepth 100000 in
noncomputable def p2_s1744_C26 : ck_C := ([some (.inr (.inr (.inl 226))), some (.inl (ck_one 0))], ([], [], [(226, 6, 6, (0, 11, [(27, (-1))])), (226, 0, 0, ck_one 0), (227, 2, 2, (0, 8, [(20, 0)])), (227, 3, 3, (0, 8, [(21, 0)])), (227, 4, 4, (0, 24, [(22, 0)])), (227, 5, 5, (0, 8, [(23, 0)])), (227, 6, 6, (0, 6, [(24, 0)])), (227, 7, 7, (0, 12, [(25, 0)])), (227, 14, 14, (0, 24, [(26, 0)])), (227, 9, 9, (0, 299, [(11, 0)]))]), 0, .inl 1, true)
set_option maxRecDepth 100000 in
noncomputable def p2_s1744_Z : List (Nat × ck_C) := [(26, p2_s1744_C26)]
set_option maxRecDepth 100000 in
theorem p2_s1744_a : (decide (p2_s1744.2.2.1.length ≤ gm_ml 238) && ck_go p2_O none [] p2_s1744_E 238 p2_s1744.1.1 p2_s1744.2.1 p2_s1744.2.2.2.2.1 p2_s1744.2.2.2.2.2 p2_s1744_Z 150 false [(26, p2_s1744_C26, 0, 0, 245)] p2_s1744.1.2.1 p2_s1744.1.2.2 0 (p2_s1744.2.2.1.map some ++ List.replicate (gm_ml 238 - p2_s1744.2.2.1.length) none) [] p2_s1744.2.1 p2_s1744.2.2.2.1) = true := by decide +kernel
theorem p2_s1744_u : ck_cu p2_s1744_Z = true := by decide +kernel
theorem p2_s1744_h {X : Int → Int} {LX : Nat} : ck_nmu p2_O ∧ ck_OkE p2_O X LX p2_s1744_E := ⟨p2_nmu, ck_E0⟩
set_option maxRecDepth 100000 in
theorem p2_s1744_g26 : ck_go p2_O none [] p2_s1744_E 238 p2_s1744.1.1 p2_s1744.2.1 p2_s1744.2.2.2.2.1 p2_s1744.2.2.2.2.2 p2_s1744_Z 150 false [] 0 0 60 (p2_s1744_C26.1.set 1 (some (.inl (ck_one 395)))) [] 245 (p2_s1744_C26.2.1.1, p2_s1744_C26.2.1.2.1, ck_cws [(227, 0, 394)] p2_s1744_C26.2.1.2.2) = true := by decide +kernel
theorem p2_s1744_y26 {X : Int → Int} {LX : Nat} {σ σ0 : Nat → Int} {K0 : gm_K} {R0 : gm_R} {M0 : gm_M} (hσ : ∀ s, s < 100 → σ s = σ0 s) : ck_Hy p2_O X LX 238 p2_s1744.1.1 p2_s1744.2.2.2.2.1 p2_s1744.2.1 K0 R0 M0 (ck_Q p2_O σ0 p2_s1744.2.2.2.2.1 p2_s1744.2.1 K0 R0 M0 p2_s1744.2.2.2.2.2) σ (26, p2_s1744_C26, 0, 0, 245) := by
  refine ck_cpH (v := 1) (A := 227) (B := 230) (N := 395) (wa := 0) (wb := 394) (pc' := 60) p2_s1744_u p2_s1744_h hσ ⟨by decide, by decide⟩ (by decide +kernel) (fun bc bs L K R M hS => ?_) p2_s1744_g26 (fun _ h => nomatch h)
  · obtain ⟨hF, hl, -, hf, -⟩ := hS
    obtain ⟨u0, l0, g0⟩ := hl.2 0 (.inr (.inr (.inl 226))) rfl
    cases g0
    obtain ⟨u1, lv, x1, rfl, -, e1, e2, -⟩ := hl.2 1 (.inl (ck_one 0)) rfl
    have e1 : (0 : Int) ≤ x1 := e1
    have e2 : x1 ≤ (0 : Int) := e2
    have e3 : x1 = 0 := by omega
    subst e3
    have h6 := (ck_fi_s hf (show ck_fi p2_s1744_C26.2.1 226 6 6 = some (0, 11, [(27, (-1))]) by decide +kernel)).2 6 (Int.le_refl _) (Int.le_refl _)
    have h61 : (0 : Int) ≤ M 226 6 := h6.2.1
    have h62 : M 226 6 ≤ (11 : Int) := h6.2.2.1
    have h63 : M 226 ((6 : Nat) : Int) = M 226 6 := rfl
    have kA : (K 227).2 = 2093 := (md_kd hF md_o.1.2).2
    have kB : (K 230).2 = 4740 := (md_kd hF md_o.2.2).2
    refine ⟨0, 395 * M 226 ((6 : Nat) : Int), ⟨by omega, by omega⟩, gm_Fx_cpy hF (md_un hF ⟨by omega, by omega⟩) (jj_undo (K := K) hF.2.2.2.2 ⟨by omega, by omega⟩), fun Q hx => ?_⟩
    exact cp_lp (iv := .iload_n 1) (v := 1) (ixA := 13) (ixB := 23) (jA := 1) (jB := 4) (A := 227) (B := 230) (mo := 226) (p := 26) (qA := 38) (qB := 52) (N := 395) (offe := 30) (offb := (-31)) (by decide) (md_mo hF) (md_kd hF md_o.1.2).1 (md_kd hF md_o.2.2).1 (md_rf hF md_r.1.1) (md_rf hF md_r.2.2) (by decide +kernel) (by decide +kernel) (by decide +kernel) (by decide +kernel) ⟨by omega, ⟨by omega, by omega⟩, ⟨by omega, by omega⟩, by omega, by omega⟩ (fun e => absurd e (by decide)) (by decide) (by decide +kernel) l0 lv ⟨rfl, rfl⟩ ⟨gm_vr 226, l0, by simp [gm_sort]⟩ (by decide +kernel) (by decide +kernel) (by decide +kernel) (by decide) (by decide +kernel) (by decide +kernel) (cp_sg_i (iv := .iload_n 1) lv ⟨rfl, rfl⟩ (by decide +kernel)) (by decide +kernel) (by decide +kernel) (cp_sg_cr (iv := .iload_n 1) (c := 395) (ix := 79) (j := 6) (by decide) l0 lv ⟨rfl, rfl⟩ (by decide +kernel) (md_mo hF) (by decide +kernel) (by decide +kernel) (by decide +kernel) (by decide +kernel) (by decide +kernel) (by decide +kernel) (by decide +kernel) (by decide +kernel)) (by decide +kernel) (by decide +kernel) (by decide +kernel) (by decide +kernel) (by decide) (by decide) hx
theorem p2_s1744_s {X : Int → Int} {LX : Nat} : ck_Ok p2_O X LX 238 p2_s1744 := by
  refine ck_ok_st (cuts := p2_s1744_Z) p2_s1744_u p2_s1744_h p2_s1744_a (fun h hm => ?_)
  rcases List.mem_cons.mp hm with rfl | hm
  · exact ⟨by unfold p2_s1744_Z; exact List.mem_cons_self, fun σ K0 R0 M0 => p2_s1744_y26 (fun _ _ => rfl)⟩
  cases hm
set_option maxRecDepth 100000 in
/-- GlacierMail$Rows.copyFrom -/
noncomputable def p2_s1745 : ck_Sum := ((1, 0, 0), 245, [.inr (.inr (.inl 30)), .inr (.inr (.inl 4))], ([], [], []), ([(30, 3, 3), (31, 0, 55)], []), [(.inr none, 245, ([], [], []))])
set_option maxRecDepth 100000 in
theorem p2_s1745_s {X : Int → Int} {LX : Nat} : ck_Ok p2_O X LX 58 p2_s1745 := ck_okq (cuts := []) (f := 114) ⟨p2_nmu, ck_E0⟩ (by decide +kernel)
set_option maxRecDepth 100000 in
/-- GlacierMail$Rows.copyFrom -/
noncomputable def p2_s1746 : ck_Sum := ((1, 0, 0), 245, [.inr (.inr (.inl 32)), .inr (.inr (.inl 6))], ([], [], []), ([(32, 3, 3), (33, 0, 23)], []), [(.inr none, 245, ([], [], []))])
set_option maxRecDepth 100000 in
theorem p2_s1746_s {X : Int → Int} {LX : Nat} : ck_Ok p2_O X LX 58 p2_s1746 := ck_okq (cuts := []) (f := 114) ⟨p2_nmu, ck_E0⟩ (by decide +kernel)
set_option maxRecDepth 100000 in
/-- GlacierMail$Rows.copyFrom -/
noncomputable def p2_s1747 : ck_Sum := ((1, 0, 0), 245, [.inr (.inr (.inl 34)), .inr (.inr (.inl 8))], ([], [], []), ([(34, 3, 3), (35, 0, 23)], []), [(.inr none, 245, ([], [], []))])
set_option maxRecDepth 100000 in
theorem p2_s1747_s {X : Int → Int} {LX : Nat} : ck_Ok p2_O X LX 58 p2_s1747 := ck_okq (cuts := []) (f := 114) ⟨p2_nmu, ck_E0⟩ (by decide +kernel)
set_option maxRecDepth 100000 in
/-- GlacierMail$Rows.copyFrom -/
noncomputable def p2_s1748 : ck_Sum := ((1, 0, 0), 245, [.inr (.inr (.inl 36)), .inr (.inr (.inl 10))], ([], [], []), ([(36, 3, 3), (37, 0, 167)], []), [(.inr none, 245, ([], [], []))])
set_option maxRecDepth 100000 in
theorem p2_s1748_s {X : Int → Int} {LX : Nat} : ck_Ok p2_O X LX 58 p2_s1748 := ck_okq (cuts := []) (f := 114) ⟨p2_nmu, ck_E0⟩ (by decide +kernel)
set_option maxRecDepth 100000 in
/-- GlacierMail$Rows.copyFrom -/
noncomputable def p2_s1749 : ck_Sum := ((1, 0, 0), 245, [.inr (.inr (.inl 38)), .inr (.inr (.inl 12))], ([], [], []), ([(38, 3, 3), (39, 0, 35)], []), [(.inr none, 245, ([], [], []))])
set_option maxRecDepth 100000 in
theorem p2_s1749_s {X : Int → Int} {LX : Nat} : ck_Ok p2_O X LX 58 p2_s1749 := ck_okq (cuts := []) (f := 114) ⟨p2_nmu, ck_E0⟩ (by decide +kernel)
set_option maxRecDepth 100000 in
/-- GlacierMail$Rows.copyFrom -/
noncomputable def p2_s1750 : ck_Sum := ((1, 0, 0), 245, [.inr (.inr (.inl 40)), .inr (.inr (.inl 14))], ([], [], []), ([(40, 3, 3), (41, 0, 71)], []), [(.inr none, 245, ([], [], []))])
set_option maxRecDepth 100000 in
theorem p2_s1750_s {X : Int → Int} {LX : Nat} : ck_Ok p2_O X LX 58 p2_s1750 := ck_okq (cuts := []) (f := 114) ⟨p2_nmu, ck_E0⟩ (by decide +kernel)
set_option maxRecDepth 100000 in
/-- GlacierMail$State.copyFrom -/
noncomputable def p2_s1751 : ck_Sum := ((2, 0, 0), 245, [.inr (.inr (.inl 29)), .inr (.inr (.inl 3))], ([], [(3, 8, 0), (29, 8, 100029)], [(3, 6, 6, (0, 299, [(10, 0)]))]), (zl212, [(29, 8)]), [(.inr none, 245, ([], [(29, 8, 0)], [(29, 6, 6, (0, 299, [(10, 0)]))]))])
set_option maxRecDepth 100000 in
theorem p2_s1751_s {X : Int → Int} {LX : Nat} : ck_Ok p2_O X LX 57 p2_s1751 := ck_okq (cuts := []) (f := 204) ⟨p2_nmu, ck_E1 (ck_S1 p2_s1745_s (ck_S1 p2_s1746_s (ck_S1 p2_s1747_s (ck_S1 p2_s1748_s (ck_S1 p2_s1749_s (ck_S1 p2_s1750_s ck_S0)))))) ck_E0⟩ (by decide +kernel)
set_option maxRecDepth 100000 in
/-- GlacierMail.image -/
noncomputable def p2_s1752 : ck_Sum := ((3, 0, 0), 245, [.inr (.inr (.inl 1))], ([], [(3, 8, 0), (29, 8, 100029)], [(3, 6, 6, (0, 299, [(10, 0)]))]), (zl213, [(29, 8)]), [(.inr none, 245, ([], [(29, 8, 0)], zl214))])
set_option maxRecDepth 100000 in
theorem p2_s1752_s {X : Int → Int} {LX : Nat} : ck_Ok p2_O X LX 59 p2_s1752 := ck_okq (cuts := []) (f := 88) ⟨p2_nmu, ck_E1 (ck_S1 p2_s1751_s ck_S0) ck_E0⟩ (by decide +kernel)
set_option maxRecDepth 100000 in
/-- GlacierMailModel.image -/
noncomputable def p2_s1753 : ck_Sum := ((0, 0, 0), 245, [.inr (.inr (.inl 226))], ([], [], [(226, 5, 5, (0, 1, [(8, 0)]))]), ([(226, 0, 0), (226, 5, 5), (228, 0, 1243)], []), [(.inr none, 245, ([], [], [(226, 5, 5, ck_one 1), (226, 0, 0, ck_one 0)]))])
noncomputable def p2_s1753_E : List (Nat × List ck_Sum) := []
set_option maxRecDepth 100000 in
noncomputable def p2_s1753_C7 : ck_C := ([some (.inr (.inr (.inl 226))), some (.inl (ck_one 0))], ([], [], [(226, 0, 0, ck_one 0), (226, 5, 5, (0, 1, [(8, 0)]))]), 0, .inl 1, true)
set_option maxRecDepth 100000 in
noncomputable def p2_s1753_Z : List (Nat × ck_C) := [(7, p2_s1753_C7)]
set_option maxRecDepth 100000 in
theorem p2_s1753_a : (decide (p2_s1753.2.2.1.length ≤ gm_ml 236) && ck_go p2_O none [] p2_s1753_E 236 p2_s1753.1.1 p2_s1753.2.1 p2_s1753.2.2.2.2.1 p2_s1753.2.2.2.2.2 p2_s1753_Z 114 false [(7, p2_s1753_C7, 0, 0, 245)] p2_s1753.1.2.1 p2_s1753.1.2.2 0 (p2_s1753.2.2.1.map some ++ List.replicate (gm_ml 236 - p2_s1753.2.2.1.length) none) [] p2_s1753.2.1 p2_s1753.2.2.2.1) = true := by decide +kernel
theorem p2_s1753_u : ck_cu p2_s1753_Z = true := by decide +kernel
theorem p2_s1753_h {X : Int → Int} {LX : Nat} : ck_nmu p2_O ∧ ck_OkE p2_O X LX p2_s1753_E := ⟨p2_nmu, ck_E0⟩
set_option maxRecDepth 100000 in
theorem p2_s1753_g7 : ck_go p2_O none [] p2_s1753_E 236 p2_s1753.1.1 p2_s1753.2.1 p2_s1753.2.2.2.2.1 p2_s1753.2.2.2.2.2 p2_s1753_Z 114 false [] 0 0 32 (p2_s1753_C7.1.set 1 (some (.inl (ck_one 1244)))) [] 245 (p2_s1753_C7.2.1.1, p2_s1753_C7.2.1.2.1, ck_cws [(228, 0, 1243)] p2_s1753_C7.2.1.2.2) = true := by decide +kernel
set_option maxRecDepth 100000 in
theorem p2_s1753_t7 : cp_tc p2_O 228 227 0 0 1244 = true := by decide +kernel
theorem p2_s1753_y7 {X : Int → Int} {LX : Nat} {σ σ0 : Nat → Int} {K0 : gm_K} {R0 : gm_R} {M0 : gm_M} (hσ : ∀ s, s < 100 → σ s = σ0 s) : ck_Hy p2_O X LX 236 p2_s1753.1.1 p2_s1753.2.2.2.2.1 p2_s1753.2.1 K0 R0 M0 (ck_Q p2_O σ0 p2_s1753.2.2.2.2.1 p2_s1753.2.1 K0 R0 M0 p2_s1753.2.2.2.2.2) σ (7, p2_s1753_C7, 0, 0, 245) := by
  refine ck_cpH (v := 1) (A := 228) (B := 227) (N := 1244) (wa := 0) (wb := 1243) (pc' := 32) p2_s1753_u p2_s1753_h hσ ⟨by decide, by decide⟩ (by decide +kernel) (fun bc bs L K R M hS => ?_) p2_s1753_g7 (fun _ h => nomatch h)
  · obtain ⟨hF, hl, -, hf, -⟩ := hS
    obtain ⟨u0, l0, g0⟩ := hl.2 0 (.inr (.inr (.inl 226))) rfl
    cases g0
    obtain ⟨u1, lv, x1, rfl, -, e1, e2, -⟩ := hl.2 1 (.inl (ck_one 0)) rfl
    have e1 : (0 : Int) ≤ x1 := e1
    have e2 : x1 ≤ (0 : Int) := e2
    have e3 : x1 = 0 := by omega
    subst e3
    have kA : (K 228).2 = 1244 := (md_kd hF md_o.2.1.1).2
    have kB : (K 227).2 = 2093 := (md_kd hF md_o.1.2).2
    refine ⟨0, 0, ⟨by omega, by omega⟩, gm_Fx_cpy hF (cp_tc_s hF p2_s1753_t7) (jj_image (K := K) hF.2.2.2.2), fun Q hx => ?_⟩
    exact cp_lp (iv := .iload_n 1) (v := 1) (ixA := 17) (ixB := 13) (jA := 2) (jB := 1) (A := 228) (B := 227) (mo := 226) (p := 7) (qA := 19) (qB := 24) (N := 1244) (offe := 21) (offb := (-22)) (by decide) (md_mo hF) (md_kd hF md_o.2.1.1).1 (md_kd hF md_o.1.2).1 (md_rf hF md_r.1.2) (md_rf hF md_r.1.1) (by decide +kernel) (by decide +kernel) (by decide +kernel) (by decide +kernel) ⟨by omega, ⟨by omega, by omega⟩, ⟨by omega, by omega⟩, by omega, by omega⟩ (fun e => absurd e (by decide)) (by decide) (by decide +kernel) l0 lv ⟨rfl, rfl⟩ ⟨gm_vr 226, l0, by simp [gm_sort]⟩ (by decide +kernel) (by decide +kernel) (by decide +kernel) (by decide) (by decide +kernel) (by decide +kernel) (cp_sg_i (iv := .iload_n 1) lv ⟨rfl, rfl⟩ (by decide +kernel)) (by decide +kernel) (by decide +kernel) (cp_sg_i (iv := .iload_n 1) lv ⟨rfl, rfl⟩ (by decide +kernel)) (by decide +kernel) (by decide +kernel) (by decide +kernel) (by decide +kernel) (by decide) (by decide) hx
theorem p2_s1753_s {X : Int → Int} {LX : Nat} : ck_Ok p2_O X LX 236 p2_s1753 := by
  refine ck_ok_st (cuts := p2_s1753_Z) p2_s1753_u p2_s1753_h p2_s1753_a (fun h hm => ?_)
  rcases List.mem_cons.mp hm with rfl | hm
  · exact ⟨by unfold p2_s1753_Z; exact List.mem_cons_self, fun σ K0 R0 M0 => p2_s1753_y7 (fun _ _ => rfl)⟩
  cases hm
set_option maxRecDepth 100000 in
/-- GlacierMail$Rows.copyFrom -/
noncomputable def p2_s1754 : ck_Sum := ((1, 0, 0), 245, [.inr (.inr (.inl 4)), .inr (.inr (.inl 30))], ([], [], []), ([(4, 3, 3), (5, 0, 55)], []), [(.inr none, 245, ([], [], []))])
set_option maxRecDepth 100000 in
theorem p2_s1754_s {X : Int → Int} {LX : Nat} : ck_Ok p2_O X LX 58 p2_s1754 := ck_okq (cuts := []) (f := 114) ⟨p2_nmu, ck_E0⟩ (by decide +kernel)
set_option maxRecDepth 100000 in
/-- GlacierMail$Rows.copyFrom -/
noncomputable def p2_s1755 : ck_Sum := ((1, 0, 0), 245, [.inr (.inr (.inl 6)), .inr (.inr (.inl 32))], ([], [], []), ([(6, 3, 3), (7, 0, 23)], []), [(.inr none, 245, ([], [], []))])
set_option maxRecDepth 100000 in
theorem p2_s1755_s {X : Int → Int} {LX : Nat} : ck_Ok p2_O X LX 58 p2_s1755 := ck_okq (cuts := []) (f := 114) ⟨p2_nmu, ck_E0⟩ (by decide +kernel)
set_option maxRecDepth 100000 in
/-- GlacierMail$Rows.copyFrom -/
noncomputable def p2_s1756 : ck_Sum := ((1, 0, 0), 245, [.inr (.inr (.inl 8)), .inr (.inr (.inl 34))], ([], [], []), ([(8, 3, 3), (9, 0, 23)], []), [(.inr none, 245, ([], [], []))])
set_option maxRecDepth 100000 in
theorem p2_s1756_s {X : Int → Int} {LX : Nat} : ck_Ok p2_O X LX 58 p2_s1756 := ck_okq (cuts := []) (f := 114) ⟨p2_nmu, ck_E0⟩ (by decide +kernel)
set_option maxRecDepth 100000 in
/-- GlacierMail$Rows.copyFrom -/
noncomputable def p2_s1757 : ck_Sum := ((1, 0, 0), 245, [.inr (.inr (.inl 10)), .inr (.inr (.inl 36))], ([], [], []), ([(10, 3, 3), (11, 0, 167)], []), [(.inr none, 245, ([], [], []))])
set_option maxRecDepth 100000 in
theorem p2_s1757_s {X : Int → Int} {LX : Nat} : ck_Ok p2_O X LX 58 p2_s1757 := ck_okq (cuts := []) (f := 114) ⟨p2_nmu, ck_E0⟩ (by decide +kernel)
end
/-! 78r80a22.sf -/
section
/-! EVERY CALL ENDS, whatever was done before (laid by wip/am/p2k.py). -/
set_option maxRecDepth 100000 in
/-- GlacierMail$Rows.copyFrom -/
noncomputable def p2_s1758 : ck_Sum := ((1, 0, 0), 245, [.inr (.inr (.inl 12)), .inr (.inr (.inl 38))], ([], [], []), ([(12, 3, 3), (13, 0, 35)], []), [(.inr none, 245, ([], [], []))])
set_option maxRecDepth 100000 in
theorem p2_s1758_s {X : Int → Int} {LX : Nat} : ck_Ok p2_O X LX 58 p2_s1758 := ck_okq (cuts := []) (f := 114) ⟨p2_nmu, ck_E0⟩ (by decide +kernel)
set_option maxRecDepth 100000 in
/-- GlacierMail$Rows.copyFrom -/
noncomputable def p2_s1759 : ck_Sum := ((1, 0, 0), 245, [.inr (.inr (.inl 14)), .inr (.inr (.inl 40))], ([], [], []), ([(14, 3, 3), (15, 0, 71)], []), [(.inr none, 245, ([], [], []))])
set_option maxRecDepth 100000 in
theorem p2_s1759_s {X : Int → Int} {LX : Nat} : ck_Ok p2_O X LX 58 p2_s1759 := ck_okq (cuts := []) (f := 114) ⟨p2_nmu, ck_E0⟩ (by decide +kernel)
set_option maxRecDepth 100000 in
/-- GlacierMail$State.copyFrom -/
noncomputable def p2_s1760 : ck_Sum := ((2, 0, 0), 245, [.inr (.inr (.inl 3)), .inr (.inr (.inl 29))], ([], [(3, 8, 0), (29, 8, 100029)], []), (zl1, [(3, 8)]), [(.inr none, 245, ([], [(3, 8, 100029)], []))])
set_option maxRecDepth 100000 in
theorem p2_s1760_s {X : Int → Int} {LX : Nat} : ck_Ok p2_O X LX 57 p2_s1760 := ck_okq (cuts := []) (f := 204) ⟨p2_nmu, ck_E1 (ck_S1 p2_s1754_s (ck_S1 p2_s1755_s (ck_S1 p2_s1756_s (ck_S1 p2_s1757_s (ck_S1 p2_s1758_s (ck_S1 p2_s1759_s ck_S0)))))) ck_E0⟩ (by decide +kernel)
set_option maxRecDepth 100000 in
/-- GlacierMail.back -/
noncomputable def p2_s1761 : ck_Sum := ((4, 0, 0), 245, [.inr (.inr (.inl 1))], ([], [(3, 8, 0), (29, 8, 100029)], [(1, 6, 6, (0, 1, [(9, 0)]))]), (zl215, [(3, 8)]), [(.inr (some (.inl (ck_one 1))), 245, ([], [(3, 8, 100029)], zl216)), (.inr (some (.inl (ck_one 0))), 245, ([], [(3, 8, 0)], [(1, 6, 6, (0, 0, [(9, 0)]))]))])
set_option maxRecDepth 100000 in
theorem p2_s1761_s {X : Int → Int} {LX : Nat} : ck_Ok p2_O X LX 60 p2_s1761 := ck_okq (cuts := []) (f := 94) ⟨p2_nmu, ck_E1 (ck_S1 p2_s1760_s ck_S0) (ck_E1 (ck_S1 p2_s144_s ck_S0) ck_E0)⟩ (by decide +kernel)
set_option maxRecDepth 100000 in
/-- GlacierMailModel.back -/
noncomputable def p2_s1762 : ck_Sum := ((1, 0, 0), 245, [.inr (.inr (.inl 226))], ([], [], [(227, 2, 2, (0, 8, [(20, 0)])), (227, 3, 3, (0, 8, [(21, 0)])), (227, 4, 4, (0, 24, [(22, 0)])), (227, 5, 5, (0, 8, [(23, 0)])), (227, 6, 6, (0, 6, [(24, 0)])), (227, 7, 7, (0, 12, [(25, 0)])), (227, 14, 14, (0, 24, [(26, 0)])), (226, 6, 6, (0, 12, [(27, 0)])), (226, 5, 5, (0, 1, [(8, 0)])), (227, 9, 9, (0, 299, [(11, 0)]))]), ([(226, 0, 0), (226, 6, 6), (226, 26, 26), (227, 0, 1243), (234, 0, 299)], []), [(.inr (some (.inl (ck_one 0))), 245, ([], [], [(226, 5, 5, (0, 0, [(8, 0)])), (226, 0, 0, ck_one 0), (227, 2, 2, (0, 8, [(20, 0)])), (227, 3, 3, (0, 8, [(21, 0)])), (227, 4, 4, (0, 24, [(22, 0)])), (227, 5, 5, (0, 8, [(23, 0)])), (227, 6, 6, (0, 6, [(24, 0)])), (227, 7, 7, (0, 12, [(25, 0)])), (227, 14, 14, (0, 24, [(26, 0)])), (226, 6, 6, (0, 12, [(27, 0)])), (227, 9, 9, (0, 299, [(11, 0)]))])), (.inr (some (.inl (ck_one 1))), 245, ([], [], [(226, 26, 26, ck_one (-1)), (226, 6, 6, ck_one 0), (226, 5, 5, (1, 1, [(8, 0)])), (226, 0, 0, ck_one 0)]))])
noncomputable def p2_s1762_E : List (Nat × List ck_Sum) := [(235, [p2_s245])]
set_option maxRecDepth 100000 in
noncomputable def p2_s1762_C16 : ck_C := ([some (.inr (.inr (.inl 226))), some (.inl (ck_one 0))], ([], [], [(226, 5, 5, (1, 1, [(8, 0)])), (226, 0, 0, ck_one 0), (227, 2, 2, (0, 8, [(20, 0)])), (227, 3, 3, (0, 8, [(21, 0)])), (227, 4, 4, (0, 24, [(22, 0)])), (227, 5, 5, (0, 8, [(23, 0)])), (227, 6, 6, (0, 6, [(24, 0)])), (227, 7, 7, (0, 12, [(25, 0)])), (227, 14, 14, (0, 24, [(26, 0)])), (226, 6, 6, (0, 12, [(27, 0)])), (227, 9, 9, (0, 299, [(11, 0)]))]), 0, .inl 1, true)
set_option maxRecDepth 100000 in
noncomputable def p2_s1762_Z : List (Nat × ck_C) := [(16, p2_s1762_C16)]
set_option maxRecDepth 100000 in
theorem p2_s1762_a : (decide (p2_s1762.2.2.1.length ≤ gm_ml 237) && ck_go p2_O none [] p2_s1762_E 237 p2_s1762.1.1 p2_s1762.2.1 p2_s1762.2.2.2.2.1 p2_s1762.2.2.2.2.2 p2_s1762_Z 126 false [(16, p2_s1762_C16, 0, 0, 245)] p2_s1762.1.2.1 p2_s1762.1.2.2 0 (p2_s1762.2.2.1.map some ++ List.replicate (gm_ml 237 - p2_s1762.2.2.1.length) none) [] p2_s1762.2.1 p2_s1762.2.2.2.1) = true := by decide +kernel
theorem p2_s1762_u : ck_cu p2_s1762_Z = true := by decide +kernel
theorem p2_s1762_h {X : Int → Int} {LX : Nat} : ck_nmu p2_O ∧ ck_OkE p2_O X LX p2_s1762_E := ⟨p2_nmu, ck_E1 (ck_S1 p2_s245_s ck_S0) ck_E0⟩
set_option maxRecDepth 100000 in
theorem p2_s1762_g16 : ck_go p2_O none [] p2_s1762_E 237 p2_s1762.1.1 p2_s1762.2.1 p2_s1762.2.2.2.2.1 p2_s1762.2.2.2.2.2 p2_s1762_Z 126 false [] 0 0 41 (p2_s1762_C16.1.set 1 (some (.inl (ck_one 1244)))) [] 245 (p2_s1762_C16.2.1.1, p2_s1762_C16.2.1.2.1, ck_cws [(227, 0, 1243)] p2_s1762_C16.2.1.2.2) = true := by decide +kernel
set_option maxRecDepth 100000 in
theorem p2_s1762_t16 : cp_tc p2_O 227 228 0 0 1244 = true := by decide +kernel
theorem p2_s1762_y16 {X : Int → Int} {LX : Nat} {σ σ0 : Nat → Int} {K0 : gm_K} {R0 : gm_R} {M0 : gm_M} (hσ : ∀ s, s < 100 → σ s = σ0 s) : ck_Hy p2_O X LX 237 p2_s1762.1.1 p2_s1762.2.2.2.2.1 p2_s1762.2.1 K0 R0 M0 (ck_Q p2_O σ0 p2_s1762.2.2.2.2.1 p2_s1762.2.1 K0 R0 M0 p2_s1762.2.2.2.2.2) σ (16, p2_s1762_C16, 0, 0, 245) := by
  refine ck_cpH (v := 1) (A := 227) (B := 228) (N := 1244) (wa := 0) (wb := 1243) (pc' := 41) p2_s1762_u p2_s1762_h hσ ⟨by decide, by decide⟩ (by decide +kernel) (fun bc bs L K R M hS => ?_) p2_s1762_g16 (fun _ h => nomatch h)
  · obtain ⟨hF, hl, -, hf, -⟩ := hS
    obtain ⟨u0, l0, g0⟩ := hl.2 0 (.inr (.inr (.inl 226))) rfl
    cases g0
    obtain ⟨u1, lv, x1, rfl, -, e1, e2, -⟩ := hl.2 1 (.inl (ck_one 0)) rfl
    have e1 : (0 : Int) ≤ x1 := e1
    have e2 : x1 ≤ (0 : Int) := e2
    have e3 : x1 = 0 := by omega
    subst e3
    have kA : (K 227).2 = 2093 := (md_kd hF md_o.1.2).2
    have kB : (K 228).2 = 1244 := (md_kd hF md_o.2.1.1).2
    refine ⟨0, 0, ⟨by omega, by omega⟩, gm_Fx_cpy hF (cp_tc_s hF p2_s1762_t16) (jj_back (K := K) hF.2.2.2.2), fun Q hx => ?_⟩
    exact cp_lp (iv := .iload_n 1) (v := 1) (ixA := 13) (ixB := 17) (jA := 1) (jB := 2) (A := 227) (B := 228) (mo := 226) (p := 16) (qA := 28) (qB := 33) (N := 1244) (offe := 21) (offb := (-22)) (by decide) (md_mo hF) (md_kd hF md_o.1.2).1 (md_kd hF md_o.2.1.1).1 (md_rf hF md_r.1.1) (md_rf hF md_r.1.2) (by decide +kernel) (by decide +kernel) (by decide +kernel) (by decide +kernel) ⟨by omega, ⟨by omega, by omega⟩, ⟨by omega, by omega⟩, by omega, by omega⟩ (fun e => absurd e (by decide)) (by decide) (by decide +kernel) l0 lv ⟨rfl, rfl⟩ ⟨gm_vr 226, l0, by simp [gm_sort]⟩ (by decide +kernel) (by decide +kernel) (by decide +kernel) (by decide) (by decide +kernel) (by decide +kernel) (cp_sg_i (iv := .iload_n 1) lv ⟨rfl, rfl⟩ (by decide +kernel)) (by decide +kernel) (by decide +kernel) (cp_sg_i (iv := .iload_n 1) lv ⟨rfl, rfl⟩ (by decide +kernel)) (by decide +kernel) (by decide +kernel) (by decide +kernel) (by decide +kernel) (by decide) (by decide) hx
theorem p2_s1762_s {X : Int → Int} {LX : Nat} : ck_Ok p2_O X LX 237 p2_s1762 := by
  refine ck_ok_st (cuts := p2_s1762_Z) p2_s1762_u p2_s1762_h p2_s1762_a (fun h hm => ?_)
  rcases List.mem_cons.mp hm with rfl | hm
  · exact ⟨by unfold p2_s1762_Z; exact List.mem_cons_self, fun σ K0 R0 M0 => p2_s1762_y16 (fun _ _ => rfl)⟩
  cases hm
set_option maxRecDepth 100000 in
/-- GlacierMail.count -/
noncomputable def p2_s1763 : ck_Sum := ((0, 0, 0), 245, [.inr (.inr (.inl 1)), .inl ((-2147483648), (-1), [])], ([], [], []), ([], []), [(.inr (some (.inl (ck_one (-1)))), 245, ([], [], []))])
set_option maxRecDepth 100000 in
theorem p2_s1763_s {X : Int → Int} {LX : Nat} : ck_Ok p2_O X LX 63 p2_s1763 := ck_okq (cuts := []) (f := 78) ⟨p2_nmu, ck_E0⟩ (by decide +kernel)
set_option maxRecDepth 100000 in
/-- GlacierMail$History.size -/
noncomputable def p2_s1764 : ck_Sum := ((0, 0, 0), 245, [.inr (.inr (.inl 42))], ([], [], []), ([], []), [(.inr (some (.inl (0, 12, []))), 245, ([], [], []))])
set_option maxRecDepth 100000 in
theorem p2_s1764_s {X : Int → Int} {LX : Nat} : ck_Ok p2_O X LX 69 p2_s1764 := ck_okq (cuts := []) (f := 76) ⟨p2_nmu, ck_E0⟩ (by decide +kernel)
set_option maxRecDepth 100000 in
/-- GlacierMail$Rows.size -/
noncomputable def p2_s1767 : ck_Sum := ((0, 0, 0), 245, [.inr (.inr (.inl 14))], ([], [], []), ([], []), [(.inr (some (.inl (0, 24, []))), 245, ([], [], []))])
set_option maxRecDepth 100000 in
theorem p2_s1767_s {X : Int → Int} {LX : Nat} : ck_Ok p2_O X LX 9 p2_s1767 := ck_okq (cuts := []) (f := 76) ⟨p2_nmu, ck_E0⟩ (by decide +kernel)
set_option maxRecDepth 100000 in
/-- GlacierMail.lawLines -/
noncomputable def p2_s1769 : ck_Sum := ((0, 0, 0), 245, [.inr (.inr (.inl 1))], ([], [(3, 8, 0)], []), ([], []), [(.inr (some (.inl (ck_one (-1)))), 245, ([], [], []))])
set_option maxRecDepth 100000 in
theorem p2_s1769_s {X : Int → Int} {LX : Nat} : ck_Ok p2_O X LX 64 p2_s1769 := ck_okq (cuts := []) (f := 84) ⟨p2_nmu, ck_E0⟩ (by decide +kernel)
set_option maxRecDepth 100000 in
/-- GlacierMail.count -/
noncomputable def p2_s1770 : ck_Sum := ((1, 0, 0), 245, [.inr (.inr (.inl 1)), .inl (0, 9, [])], ([], [(3, 8, 0)], [(3, 6, 6, (0, 299, [(10, 0)]))]), ([], []), [(.inr (some (.inl (0, 2147483647, []))), 245, ([], [], [])), (.inr (some (.inl ((-2147483648), (-1), []))), 245, ([], [], []))])
set_option maxRecDepth 100000 in
theorem p2_s1770_s {X : Int → Int} {LX : Nat} : ck_Ok p2_O X LX 63 p2_s1770 := ck_okq (cuts := []) (f := 84) ⟨p2_nmu, ck_E1 (ck_S1 p2_s1769_s ck_S0) (ck_E1 (ck_S1 p2_s1441_s (ck_S1 p2_s139_s (ck_S1 p2_s331_s (ck_S1 p2_s320_s (ck_S1 p2_s135_s ck_S0))))) ck_E0)⟩ (by decide +kernel)
set_option maxRecDepth 100000 in
/-- GlacierMailModel.in -/
noncomputable def p2_s1771 : ck_Sum := ((0, 0, 0), 245, [.inl ((-2147483648), (-1), []), .inl (ck_one 0), .inl (ck_one 13)], ([], [], []), ([], []), [(.inr (some (.inl (ck_one 0))), 245, ([], [], []))])
set_option maxRecDepth 100000 in
theorem p2_s1771_s {X : Int → Int} {LX : Nat} : ck_Ok p2_O X LX 286 p2_s1771 := ck_okq (cuts := []) (f := 80) ⟨p2_nmu, ck_E0⟩ (by decide +kernel)
set_option maxRecDepth 100000 in
/-- GlacierMailModel.count -/
noncomputable def p2_s1772 : ck_Sum := ((1, 0, 0), 245, [.inr (.inr (.inl 226)), .inl ((-2147483648), (-1), [])], ([], [], []), ([(226, 0, 0)], []), [(.inr (some (.inl (ck_one (-1)))), 245, ([], [], [(226, 0, 0, ck_one 0)]))])
set_option maxRecDepth 100000 in
theorem p2_s1772_s {X : Int → Int} {LX : Nat} : ck_Ok p2_O X LX 368 p2_s1772 := ck_okq (cuts := []) (f := 98) ⟨p2_nmu, ck_E1 (ck_S1 p2_s1771_s ck_S0) ck_E0⟩ (by decide +kernel)
set_option maxRecDepth 100000 in
/-- GlacierMailModel.in -/
noncomputable def p2_s1773 : ck_Sum := ((0, 0, 0), 245, [.inl (18, 2147483647, []), .inl (ck_one 0), .inl (ck_one 13)], ([], [], []), ([], []), [(.inr (some (.inl (ck_one 0))), 245, ([], [], []))])
set_option maxRecDepth 100000 in
theorem p2_s1773_s {X : Int → Int} {LX : Nat} : ck_Ok p2_O X LX 286 p2_s1773 := ck_okq (cuts := []) (f := 86) ⟨p2_nmu, ck_E0⟩ (by decide +kernel)
set_option maxRecDepth 100000 in
/-- GlacierMailModel.in -/
noncomputable def p2_s1774 : ck_Sum := ((0, 0, 0), 245, [.inl (ck_one 13), .inl (ck_one 0), .inl (ck_one 13)], ([], [], []), ([], []), [(.inr (some (.inl (ck_one 1))), 245, ([], [], []))])
set_option maxRecDepth 100000 in
theorem p2_s1774_s {X : Int → Int} {LX : Nat} : ck_Ok p2_O X LX 286 p2_s1774 := ck_okq (cuts := []) (f := 88) ⟨p2_nmu, ck_E0⟩ (by decide +kernel)
set_option maxRecDepth 100000 in
/-- GlacierMailModel.in -/
noncomputable def p2_s1775 : ck_Sum := ((0, 0, 0), 245, [.inl (ck_one 12), .inl (ck_one 0), .inl (ck_one 13)], ([], [], []), ([], []), [(.inr (some (.inl (ck_one 1))), 245, ([], [], []))])
set_option maxRecDepth 100000 in
theorem p2_s1775_s {X : Int → Int} {LX : Nat} : ck_Ok p2_O X LX 286 p2_s1775 := ck_okq (cuts := []) (f := 88) ⟨p2_nmu, ck_E0⟩ (by decide +kernel)
set_option maxRecDepth 100000 in
/-- GlacierMailModel.in -/
noncomputable def p2_s1776 : ck_Sum := ((0, 0, 0), 245, [.inl (ck_one 11), .inl (ck_one 0), .inl (ck_one 13)], ([], [], []), ([], []), [(.inr (some (.inl (ck_one 1))), 245, ([], [], []))])
set_option maxRecDepth 100000 in
theorem p2_s1776_s {X : Int → Int} {LX : Nat} : ck_Ok p2_O X LX 286 p2_s1776 := ck_okq (cuts := []) (f := 88) ⟨p2_nmu, ck_E0⟩ (by decide +kernel)
set_option maxRecDepth 100000 in
/-- GlacierMailModel.in -/
noncomputable def p2_s1777 : ck_Sum := ((0, 0, 0), 245, [.inl (ck_one 10), .inl (ck_one 0), .inl (ck_one 13)], ([], [], []), ([], []), [(.inr (some (.inl (ck_one 1))), 245, ([], [], []))])
set_option maxRecDepth 100000 in
theorem p2_s1777_s {X : Int → Int} {LX : Nat} : ck_Ok p2_O X LX 286 p2_s1777 := ck_okq (cuts := []) (f := 88) ⟨p2_nmu, ck_E0⟩ (by decide +kernel)
set_option maxRecDepth 100000 in
/-- GlacierMailModel.in -/
noncomputable def p2_s1779 : ck_Sum := ((0, 0, 0), 245, [.inl (0, 7, []), .inl (ck_one 0), .inl (ck_one 13)], ([], [], []), ([], []), [(.inr (some (.inl (ck_one 1))), 245, ([], [], []))])
set_option maxRecDepth 100000 in
theorem p2_s1779_s {X : Int → Int} {LX : Nat} : ck_Ok p2_O X LX 286 p2_s1779 := ck_okq (cuts := []) (f := 88) ⟨p2_nmu, ck_E0⟩ (by decide +kernel)
set_option maxRecDepth 100000 in
/-- GlacierMailModel.in -/
noncomputable def p2_s1780 : ck_Sum := ((0, 0, 0), 245, [.inl (ck_one 9), .inl (ck_one 0), .inl (ck_one 13)], ([], [], []), ([], []), [(.inr (some (.inl (ck_one 1))), 245, ([], [], []))])
set_option maxRecDepth 100000 in
theorem p2_s1780_s {X : Int → Int} {LX : Nat} : ck_Ok p2_O X LX 286 p2_s1780 := ck_okq (cuts := []) (f := 88) ⟨p2_nmu, ck_E0⟩ (by decide +kernel)
set_option maxRecDepth 100000 in
/-- GlacierMailModel.count -/
noncomputable def p2_s1781 : ck_Sum := ((1, 0, 0), 245, [.inr (.inr (.inl 226)), .inl (0, 9, [])], ([], [], [(227, 9, 9, (0, 299, [(11, 0)]))]), ([(226, 0, 0)], []), [(.inr (some (.inl (0, 299, []))), 245, ([], [], [(226, 0, 0, ck_one 0)])), (.inr (some (.inl (ck_one (-1)))), 245, ([], [], [(227, 8, 8, ck_one 0), (226, 0, 0, ck_one 0)]))])
set_option maxRecDepth 100000 in
theorem p2_s1781_s {X : Int → Int} {LX : Nat} : ck_Ok p2_O X LX 368 p2_s1781 := ck_okq (cuts := []) (f := 108) ⟨p2_nmu, ck_E1 (ck_S1 p2_s1779_s (ck_S1 p2_s1780_s ck_S0)) ck_E0⟩ (by decide +kernel)
end
/-! 78r86a00.sl -/
section
/-! EVERY CALL OF THE CLASS ENDS, under a law (laid by wip/am/p2l.py). -/
set_option maxRecDepth 100000 in
/-- GlacierMail.putNumber -/
noncomputable def pl_s0 : ck_Sum := ((0, 0, 0), 249, [.inr (.inr (.inl 1)), .inl ((-2147483648), 2147483647, [])], ([], [], [(1, 1, 1, (0, 380, [(6, 0)]))]), ([(1, 1, 1), (2, 0, 383)], []), [(.inr none, 249, ([], [], [(1, 1, 1, (4, 384, [(6, 4)]))]))])
set_option maxRecDepth 100000 in
theorem pl_s0_s {X : Int → Int} {LX : Nat} : ck_Ok p2_OL X LX 20 pl_s0 := ck_okq (cuts := []) (f := 280) ⟨pl_nmu, ck_E0⟩ (by decide +kernel)
set_option maxRecDepth 100000 in
/-- GlacierMail.putNumber -/
noncomputable def pl_s1 : ck_Sum := ((0, 0, 0), 249, [.inr (.inr (.inl 1)), .inl ((-2147483648), 2147483647, [])], ([], [], [(1, 1, 1, (4, 384, [(6, 0)]))]), ([(1, 1, 1), (2, 4, 387)], []), [(.inr none, 249, ([], [], [(1, 1, 1, (8, 388, [(6, 4)]))]))])
set_option maxRecDepth 100000 in
theorem pl_s1_s {X : Int → Int} {LX : Nat} : ck_Ok p2_OL X LX 20 pl_s1 := ck_okq (cuts := []) (f := 280) ⟨pl_nmu, ck_E0⟩ (by decide +kernel)
set_option maxRecDepth 100000 in
/-- GlacierMail.putNumber -/
noncomputable def pl_s2 : ck_Sum := ((0, 0, 0), 249, [.inr (.inr (.inl 1)), .inl ((-2147483648), 2147483647, [])], ([], [], [(1, 1, 1, (8, 388, [(6, 0)]))]), ([(1, 1, 1), (2, 8, 391)], []), [(.inr none, 249, ([], [], [(1, 1, 1, (12, 392, [(6, 4)]))]))])
set_option maxRecDepth 100000 in
theorem pl_s2_s {X : Int → Int} {LX : Nat} : ck_Ok p2_OL X LX 20 pl_s2 := ck_okq (cuts := []) (f := 280) ⟨pl_nmu, ck_E0⟩ (by decide +kernel)
set_option maxRecDepth 100000 in
/-- GlacierMail.putNumber -/
noncomputable def pl_s3 : ck_Sum := ((0, 0, 0), 249, [.inr (.inr (.inl 1)), .inl ((-2147483648), 2147483647, [])], ([], [], [(1, 1, 1, (12, 392, [(6, 0)]))]), ([(1, 1, 1), (2, 12, 395)], []), [(.inr none, 249, ([], [], [(1, 1, 1, (16, 396, [(6, 4)]))]))])
set_option maxRecDepth 100000 in
theorem pl_s3_s {X : Int → Int} {LX : Nat} : ck_Ok p2_OL X LX 20 pl_s3 := ck_okq (cuts := []) (f := 280) ⟨pl_nmu, ck_E0⟩ (by decide +kernel)
set_option maxRecDepth 100000 in
/-- GlacierMail.putNumber -/
noncomputable def pl_s4 : ck_Sum := ((0, 0, 0), 249, [.inr (.inr (.inl 1)), .inl ((-2147483648), 2147483647, [])], ([], [], [(1, 1, 1, (16, 396, [(6, 0)]))]), ([(1, 1, 1), (2, 16, 399)], []), [(.inr none, 249, ([], [], [(1, 1, 1, (20, 400, [(6, 4)]))]))])
set_option maxRecDepth 100000 in
theorem pl_s4_s {X : Int → Int} {LX : Nat} : ck_Ok p2_OL X LX 20 pl_s4 := ck_okq (cuts := []) (f := 280) ⟨pl_nmu, ck_E0⟩ (by decide +kernel)
set_option maxRecDepth 100000 in
/-- GlacierMail.feed -/
noncomputable def pl_s5 : ck_Sum := ((1, 0, 0), 249, [.inr (.inr (.inl 1)), .inl ((-2147483648), 2147483647, []), .inl ((-2147483648), 2147483647, []), .inl ((-2147483648), 2147483647, []), .inl ((-2147483648), 2147483647, []), .inl ((-2147483648), 2147483647, [])], ([], [], [(1, 1, 1, (0, 400, [(6, 0)]))]), ([(1, 1, 1), (2, 0, 399)], []), [(.inr (some (.inl (20, 400, [(6, 20)]))), 249, ([], [], [(1, 1, 1, (20, 400, [(6, 20)]))])), (.inr (some (.inl (ck_one (-1)))), 249, ([], [], [(1, 1, 1, (381, 400, [(6, 0)]))]))])
set_option maxRecDepth 100000 in
theorem pl_s5_s {X : Int → Int} {LX : Nat} : ck_Ok p2_OL X LX 19 pl_s5 := ck_okq (cuts := []) (f := 118) ⟨pl_nmu, ck_E1 (ck_S1 pl_s0_s (ck_S1 pl_s1_s (ck_S1 pl_s2_s (ck_S1 pl_s3_s (ck_S1 pl_s4_s ck_S0))))) ck_E0⟩ (by decide +kernel)
set_option maxRecDepth 100000 in
/-- GlacierMail$Rows.copyFrom -/
noncomputable def pl_s7 : ck_Sum := ((1, 0, 0), 249, [.inr (.inr (.inl 17)), .inr (.inr (.inl 4))], ([], [], []), ([(17, 3, 3), (18, 0, 55)], []), [(.inr none, 249, ([], [], []))])
set_option maxRecDepth 100000 in
theorem pl_s7_s {X : Int → Int} {LX : Nat} : ck_Ok p2_OL X LX 58 pl_s7 := ck_okq (cuts := []) (f := 114) ⟨pl_nmu, ck_E0⟩ (by decide +kernel)
set_option maxRecDepth 100000 in
/-- GlacierMail$Rows.copyFrom -/
noncomputable def pl_s8 : ck_Sum := ((1, 0, 0), 249, [.inr (.inr (.inl 19)), .inr (.inr (.inl 6))], ([], [], []), ([(19, 3, 3), (20, 0, 23)], []), [(.inr none, 249, ([], [], []))])
set_option maxRecDepth 100000 in
theorem pl_s8_s {X : Int → Int} {LX : Nat} : ck_Ok p2_OL X LX 58 pl_s8 := ck_okq (cuts := []) (f := 114) ⟨pl_nmu, ck_E0⟩ (by decide +kernel)
set_option maxRecDepth 100000 in
/-- GlacierMail$Rows.copyFrom -/
noncomputable def pl_s9 : ck_Sum := ((1, 0, 0), 249, [.inr (.inr (.inl 21)), .inr (.inr (.inl 8))], ([], [], []), ([(21, 3, 3), (22, 0, 23)], []), [(.inr none, 249, ([], [], []))])
set_option maxRecDepth 100000 in
theorem pl_s9_s {X : Int → Int} {LX : Nat} : ck_Ok p2_OL X LX 58 pl_s9 := ck_okq (cuts := []) (f := 114) ⟨pl_nmu, ck_E0⟩ (by decide +kernel)
set_option maxRecDepth 100000 in
/-- GlacierMail$Rows.copyFrom -/
noncomputable def pl_s10 : ck_Sum := ((1, 0, 0), 249, [.inr (.inr (.inl 23)), .inr (.inr (.inl 10))], ([], [], []), ([(23, 3, 3), (24, 0, 167)], []), [(.inr none, 249, ([], [], []))])
set_option maxRecDepth 100000 in
theorem pl_s10_s {X : Int → Int} {LX : Nat} : ck_Ok p2_OL X LX 58 pl_s10 := ck_okq (cuts := []) (f := 114) ⟨pl_nmu, ck_E0⟩ (by decide +kernel)
set_option maxRecDepth 100000 in
/-- GlacierMail$Rows.copyFrom -/
noncomputable def pl_s11 : ck_Sum := ((1, 0, 0), 249, [.inr (.inr (.inl 25)), .inr (.inr (.inl 12))], ([], [], []), ([(25, 3, 3), (26, 0, 35)], []), [(.inr none, 249, ([], [], []))])
set_option maxRecDepth 100000 in
theorem pl_s11_s {X : Int → Int} {LX : Nat} : ck_Ok p2_OL X LX 58 pl_s11 := ck_okq (cuts := []) (f := 114) ⟨pl_nmu, ck_E0⟩ (by decide +kernel)
set_option maxRecDepth 100000 in
/-- GlacierMail$Rows.copyFrom -/
noncomputable def pl_s12 : ck_Sum := ((1, 0, 0), 249, [.inr (.inr (.inl 27)), .inr (.inr (.inl 14))], ([], [], []), ([(27, 3, 3), (28, 0, 71)], []), [(.inr none, 249, ([], [], []))])
set_option maxRecDepth 100000 in
theorem pl_s12_s {X : Int → Int} {LX : Nat} : ck_Ok p2_OL X LX 58 pl_s12 := ck_okq (cuts := []) (f := 114) ⟨pl_nmu, ck_E0⟩ (by decide +kernel)
set_option maxRecDepth 100000 in
/-- GlacierMail$State.copyFrom -/
noncomputable def pl_s13 : ck_Sum := ((2, 0, 0), 249, [.inr (.inr (.inl 16)), .inr (.inr (.inl 3))], ([], [(3, 8, 246), (16, 8, 100016)], [(3, 6, 6, (0, 299, [(10, 0)]))]), (zl0, [(16, 8)]), [(.inr none, 249, ([], [(16, 8, 246)], [(16, 6, 6, (0, 299, [(10, 0)]))]))])
set_option maxRecDepth 100000 in
theorem pl_s13_s {X : Int → Int} {LX : Nat} : ck_Ok p2_OL X LX 57 pl_s13 := ck_okq (cuts := []) (f := 204) ⟨pl_nmu, ck_E1 (ck_S1 pl_s7_s (ck_S1 pl_s8_s (ck_S1 pl_s9_s (ck_S1 pl_s10_s (ck_S1 pl_s11_s (ck_S1 pl_s12_s ck_S0)))))) ck_E0⟩ (by decide +kernel)
set_option maxRecDepth 100000 in
/-- GlacierMail$Rows.copyFrom -/
noncomputable def pl_s14 : ck_Sum := ((1, 0, 0), 249, [.inr (.inr (.inl 4)), .inr (.inr (.inl 17))], ([], [], []), ([(4, 3, 3), (5, 0, 55)], []), [(.inr none, 249, ([], [], []))])
set_option maxRecDepth 100000 in
theorem pl_s14_s {X : Int → Int} {LX : Nat} : ck_Ok p2_OL X LX 58 pl_s14 := ck_okq (cuts := []) (f := 114) ⟨pl_nmu, ck_E0⟩ (by decide +kernel)
set_option maxRecDepth 100000 in
/-- GlacierMail$Rows.copyFrom -/
noncomputable def pl_s15 : ck_Sum := ((1, 0, 0), 249, [.inr (.inr (.inl 6)), .inr (.inr (.inl 19))], ([], [], []), ([(6, 3, 3), (7, 0, 23)], []), [(.inr none, 249, ([], [], []))])
set_option maxRecDepth 100000 in
theorem pl_s15_s {X : Int → Int} {LX : Nat} : ck_Ok p2_OL X LX 58 pl_s15 := ck_okq (cuts := []) (f := 114) ⟨pl_nmu, ck_E0⟩ (by decide +kernel)
set_option maxRecDepth 100000 in
/-- GlacierMail$Rows.copyFrom -/
noncomputable def pl_s16 : ck_Sum := ((1, 0, 0), 249, [.inr (.inr (.inl 8)), .inr (.inr (.inl 21))], ([], [], []), ([(8, 3, 3), (9, 0, 23)], []), [(.inr none, 249, ([], [], []))])
set_option maxRecDepth 100000 in
theorem pl_s16_s {X : Int → Int} {LX : Nat} : ck_Ok p2_OL X LX 58 pl_s16 := ck_okq (cuts := []) (f := 114) ⟨pl_nmu, ck_E0⟩ (by decide +kernel)
set_option maxRecDepth 100000 in
/-- GlacierMail$Rows.copyFrom -/
noncomputable def pl_s17 : ck_Sum := ((1, 0, 0), 249, [.inr (.inr (.inl 10)), .inr (.inr (.inl 23))], ([], [], []), ([(10, 3, 3), (11, 0, 167)], []), [(.inr none, 249, ([], [], []))])
set_option maxRecDepth 100000 in
theorem pl_s17_s {X : Int → Int} {LX : Nat} : ck_Ok p2_OL X LX 58 pl_s17 := ck_okq (cuts := []) (f := 114) ⟨pl_nmu, ck_E0⟩ (by decide +kernel)
set_option maxRecDepth 100000 in
/-- GlacierMail$Rows.copyFrom -/
noncomputable def pl_s18 : ck_Sum := ((1, 0, 0), 249, [.inr (.inr (.inl 12)), .inr (.inr (.inl 25))], ([], [], []), ([(12, 3, 3), (13, 0, 35)], []), [(.inr none, 249, ([], [], []))])
set_option maxRecDepth 100000 in
theorem pl_s18_s {X : Int → Int} {LX : Nat} : ck_Ok p2_OL X LX 58 pl_s18 := ck_okq (cuts := []) (f := 114) ⟨pl_nmu, ck_E0⟩ (by decide +kernel)
set_option maxRecDepth 100000 in
/-- GlacierMail$Rows.copyFrom -/
noncomputable def pl_s19 : ck_Sum := ((1, 0, 0), 249, [.inr (.inr (.inl 14)), .inr (.inr (.inl 27))], ([], [], []), ([(14, 3, 3), (15, 0, 71)], []), [(.inr none, 249, ([], [], []))])
set_option maxRecDepth 100000 in
theorem pl_s19_s {X : Int → Int} {LX : Nat} : ck_Ok p2_OL X LX 58 pl_s19 := ck_okq (cuts := []) (f := 114) ⟨pl_nmu, ck_E0⟩ (by decide +kernel)
set_option maxRecDepth 100000 in
/-- GlacierMail$State.copyFrom -/
noncomputable def pl_s20 : ck_Sum := ((2, 0, 0), 249, [.inr (.inr (.inl 3)), .inr (.inr (.inl 16))], ([], [(3, 8, 246), (16, 8, 246)], []), (zl1, [(3, 8)]), [(.inr none, 249, ([], [(3, 8, 246)], []))])
set_option maxRecDepth 100000 in
theorem pl_s20_s {X : Int → Int} {LX : Nat} : ck_Ok p2_OL X LX 57 pl_s20 := ck_okq (cuts := []) (f := 204) ⟨pl_nmu, ck_E1 (ck_S1 pl_s14_s (ck_S1 pl_s15_s (ck_S1 pl_s16_s (ck_S1 pl_s17_s (ck_S1 pl_s18_s (ck_S1 pl_s19_s ck_S0)))))) ck_E0⟩ (by decide +kernel)
set_option maxRecDepth 100000 in
/-- GlacierMail$ValleyReader.clear -/
noncomputable def pl_s21 : ck_Sum := ((0, 0, 0), 249, [.inr (.inr (.inl 213))], ([], [], []), ([], []), [(.inr none, 249, ([], [], []))])
set_option maxRecDepth 100000 in
theorem pl_s21_s {X : Int → Int} {LX : Nat} : ck_Ok p2_OL X LX 74 pl_s21 := ck_okq (cuts := []) (f := 72) ⟨pl_nmu, ck_E0⟩ (by decide +kernel)
set_option maxRecDepth 100000 in
/-- GlacierMail$Words.isSmall -/
noncomputable def pl_s22 : ck_Sum := ((0, 0, 0), 249, [.inl ((-128), 127, [])], ([], [], []), ([], []), [(.inr (some (.inl (ck_one 0))), 249, ([], [], [])), (.inr (some (.inl (ck_one 1))), 249, ([], [], []))])
set_option maxRecDepth 100000 in
theorem pl_s22_s {X : Int → Int} {LX : Nat} : ck_Ok p2_OL X LX 77 pl_s22 := ck_okq (cuts := []) (f := 88) ⟨pl_nmu, ck_E0⟩ (by decide +kernel)
set_option maxRecDepth 100000 in
/-- GlacierMail$Words.isDigit -/
noncomputable def pl_s23 : ck_Sum := ((0, 0, 0), 249, [.inl ((-128), 127, [])], ([], [], []), ([], []), [(.inr (some (.inl (ck_one 0))), 249, ([], [], [])), (.inr (some (.inl (ck_one 1))), 249, ([], [], []))])
set_option maxRecDepth 100000 in
theorem pl_s23_s {X : Int → Int} {LX : Nat} : ck_Ok p2_OL X LX 78 pl_s23 := ck_okq (cuts := []) (f := 88) ⟨pl_nmu, ck_E0⟩ (by decide +kernel)
set_option maxRecDepth 100000 in
/-- GlacierMail$Words.next -/
noncomputable def pl_s24 : ck_Sum := ((1, 0, 0), 249, [.inr (.inr (.inl 214))], ([], [], [(214, 3, 3, (0, 400, [(12, 0)]))]), ([(214, 3, 4), (214, 6, 7)], []), [(.inr none, 249, ([], [], [(214, 3, 3, (0, 400, [(1000012, 0)]))]))])
set_option maxRecDepth 100000 in
theorem pl_s24_s {X : Int → Int} {LX : Nat} : ck_Ok p2_OL X LX 76 pl_s24 := ck_okq (cuts := [(0, [some (.inr (.inr (.inl 214))), none], ([], [], [(214, 3, 3, (0, 400, [(1000012, 0)]))]), 100, .inr (214, 3), true), (160, [some (.inr (.inr (.inl 214))), none], ([], [], [(214, 6, 6, ck_one 258), (214, 2, 2, (1, 400, [])), (214, 3, 3, (0, 400, [(1000100, 0), (1000012, 0)])), (214, 4, 4, (0, 400, [(100, 0)]))]), 300, .inr (214, 3), true), (94, [some (.inr (.inr (.inl 214))), none], ([], [], [(214, 6, 6, ck_one 257), (214, 2, 2, (1, 400, [])), (214, 3, 3, (0, 400, [(1000100, 0), (1000012, 0)])), (214, 7, 7, ck_one (-1)), (214, 4, 4, (0, 400, [(100, 0), (1000012, 0)]))]), 500, .inr (214, 3), true)]) (f := 562) ⟨pl_nmu, ck_E1 (ck_S1 pl_s22_s ck_S0) (ck_E1 (ck_S1 pl_s23_s ck_S0) ck_E0)⟩ (by decide +kernel)
set_option maxRecDepth 100000 in
/-- GlacierMail$Words.start -/
noncomputable def pl_s25 : ck_Sum := ((2, 0, 0), 249, [.inr (.inr (.inl 214)), .inl (0, 400, [])], ([], [], [(214, 3, 3, (0, 400, [(12, 0)]))]), ([(214, 2, 7)], []), [(.inr none, 249, ([], [], [(214, 5, 5, ck_one (-1))]))])
set_option maxRecDepth 100000 in
theorem pl_s25_s {X : Int → Int} {LX : Nat} : ck_Ok p2_OL X LX 75 pl_s25 := ck_okq (cuts := []) (f := 102) ⟨pl_nmu, ck_E1 (ck_S1 pl_s24_s ck_S0) ck_E0⟩ (by decide +kernel)
set_option maxRecDepth 100000 in
/-- GlacierMail$Words.refuse -/
noncomputable def pl_s26 : ck_Sum := ((0, 0, 0), 249, [.inr (.inr (.inl 214))], ([], [], []), ([(214, 5, 5)], []), [(.inr (some (.inl (ck_one 0))), 249, ([], [], [(214, 5, 5, (0, 400, []))]))])
set_option maxRecDepth 100000 in
theorem pl_s26_s {X : Int → Int} {LX : Nat} : ck_Ok p2_OL X LX 93 pl_s26 := ck_okq (cuts := []) (f := 90) ⟨pl_nmu, ck_E0⟩ (by decide +kernel)
set_option maxRecDepth 100000 in
/-- GlacierMail$Words.wrong -/
noncomputable def pl_s27 : ck_Sum := ((0, 0, 0), 249, [.inr (.inr (.inl 214))], ([], [], []), ([], []), zl217)
set_option maxRecDepth 100000 in
theorem pl_s27_s {X : Int → Int} {LX : Nat} : ck_Ok p2_OL X LX 121 pl_s27 := ck_okq (cuts := []) (f := 76) ⟨pl_nmu, ck_E0⟩ (by decide +kernel)
set_option maxRecDepth 100000 in
/-- GlacierMail$Words.isWord -/
noncomputable def pl_s28 : ck_Sum := ((6, 0, 0), 249, [.inr (.inr (.inl 214)), .inr (.inr (.inr 17))], ([], [], [(214, 3, 3, (0, 400, [(12, 0)]))]), ([], []), zl218)
set_option maxRecDepth 100000 in
theorem pl_s28_s {X : Int → Int} {LX : Nat} : ck_Ok p2_OL X LX 81 pl_s28 := ck_okq (cuts := []) (f := 360) ⟨pl_nmu, ck_E0⟩ (by decide +kernel)
set_option maxRecDepth 100000 in
/-- GlacierMail$Words.isWord -/
noncomputable def pl_s29 : ck_Sum := ((6, 0, 0), 249, [.inr (.inr (.inl 214)), .inr (.inr (.inr 18))], ([], [], [(214, 3, 3, (0, 400, [(12, 0)]))]), ([], []), zl219)
set_option maxRecDepth 100000 in
theorem pl_s29_s {X : Int → Int} {LX : Nat} : ck_Ok p2_OL X LX 81 pl_s29 := ck_okq (cuts := []) (f := 310) ⟨pl_nmu, ck_E0⟩ (by decide +kernel)
set_option maxRecDepth 100000 in
/-- GlacierMail$Words.isWord -/
noncomputable def pl_s30 : ck_Sum := ((6, 0, 0), 249, [.inr (.inr (.inl 214)), .inr (.inr (.inr 19))], ([], [], [(214, 3, 3, (0, 400, [(12, 0)]))]), ([], []), [(.inr (some (.inl (ck_one 0))), 249, ([], [], [])), (.inr (some (.inl (ck_one 1))), 249, ([], [], zl5))])
set_option maxRecDepth 100000 in
theorem pl_s30_s {X : Int → Int} {LX : Nat} : ck_Ok p2_OL X LX 81 pl_s30 := ck_okq (cuts := []) (f := 460) ⟨pl_nmu, ck_E0⟩ (by decide +kernel)
set_option maxRecDepth 100000 in
/-- GlacierMail$Words.isWord -/
noncomputable def pl_s31 : ck_Sum := ((6, 0, 0), 249, [.inr (.inr (.inl 214)), .inr (.inr (.inr 20))], ([], [], [(214, 3, 3, (0, 400, [(12, 0)]))]), ([], []), zl219)
set_option maxRecDepth 100000 in
theorem pl_s31_s {X : Int → Int} {LX : Nat} : ck_Ok p2_OL X LX 81 pl_s31 := ck_okq (cuts := []) (f := 310) ⟨pl_nmu, ck_E0⟩ (by decide +kernel)
set_option maxRecDepth 100000 in
/-- GlacierMail$Words.isWord -/
noncomputable def pl_s32 : ck_Sum := ((6, 0, 0), 249, [.inr (.inr (.inl 214)), .inr (.inr (.inr 22))], ([], [], [(214, 3, 3, (0, 400, [(12, 0)]))]), ([], []), zl220)
set_option maxRecDepth 100000 in
theorem pl_s32_s {X : Int → Int} {LX : Nat} : ck_Ok p2_OL X LX 81 pl_s32 := ck_okq (cuts := []) (f := 410) ⟨pl_nmu, ck_E0⟩ (by decide +kernel)
set_option maxRecDepth 100000 in
/-- GlacierMail$Words.isWord -/
noncomputable def pl_s33 : ck_Sum := ((6, 0, 0), 249, [.inr (.inr (.inl 214)), .inr (.inr (.inr 23))], ([], [], [(214, 3, 3, (0, 400, [(12, 0)]))]), ([], []), zl219)
set_option maxRecDepth 100000 in
theorem pl_s33_s {X : Int → Int} {LX : Nat} : ck_Ok p2_OL X LX 81 pl_s33 := ck_okq (cuts := []) (f := 310) ⟨pl_nmu, ck_E0⟩ (by decide +kernel)
set_option maxRecDepth 100000 in
/-- GlacierMail$Words.isWord -/
noncomputable def pl_s34 : ck_Sum := ((6, 0, 0), 249, [.inr (.inr (.inl 214)), .inr (.inr (.inr 24))], ([], [], [(214, 3, 3, (0, 400, [(12, 0)]))]), ([], []), zl218)
set_option maxRecDepth 100000 in
theorem pl_s34_s {X : Int → Int} {LX : Nat} : ck_Ok p2_OL X LX 81 pl_s34 := ck_okq (cuts := []) (f := 360) ⟨pl_nmu, ck_E0⟩ (by decide +kernel)
set_option maxRecDepth 100000 in
/-- GlacierMail$Words.isWord -/
noncomputable def pl_s35 : ck_Sum := ((6, 0, 0), 249, [.inr (.inr (.inl 214)), .inr (.inr (.inr 25))], ([], [], [(214, 3, 3, (0, 400, [(12, 0)]))]), ([], []), zl220)
set_option maxRecDepth 100000 in
theorem pl_s35_s {X : Int → Int} {LX : Nat} : ck_Ok p2_OL X LX 81 pl_s35 := ck_okq (cuts := []) (f := 410) ⟨pl_nmu, ck_E0⟩ (by decide +kernel)
set_option maxRecDepth 100000 in
/-- GlacierMail$Words.isWord -/
noncomputable def pl_s36 : ck_Sum := ((6, 0, 0), 249, [.inr (.inr (.inl 214)), .inr (.inr (.inr 27))], ([], [], [(214, 3, 3, (0, 400, [(12, 0)]))]), ([], []), zl219)
set_option maxRecDepth 100000 in
theorem pl_s36_s {X : Int → Int} {LX : Nat} : ck_Ok p2_OL X LX 81 pl_s36 := ck_okq (cuts := []) (f := 310) ⟨pl_nmu, ck_E0⟩ (by decide +kernel)
set_option maxRecDepth 100000 in
/-- GlacierMail$Words.isWord -/
noncomputable def pl_s37 : ck_Sum := ((6, 0, 0), 249, [.inr (.inr (.inl 214)), .inr (.inr (.inr 28))], ([], [], [(214, 3, 3, (0, 400, [(12, 0)]))]), ([], []), zl218)
set_option maxRecDepth 100000 in
theorem pl_s37_s {X : Int → Int} {LX : Nat} : ck_Ok p2_OL X LX 81 pl_s37 := ck_okq (cuts := []) (f := 360) ⟨pl_nmu, ck_E0⟩ (by decide +kernel)
set_option maxRecDepth 100000 in
/-- GlacierMail$Rows.isFull -/
noncomputable def pl_s38 : ck_Sum := ((0, 0, 0), 249, [.inr (.inr (.inl 25))], ([], [], []), ([], []), [(.inr (some (.inl (ck_one 0))), 249, ([], [], [(25, 3, 3, (0, 5, []))])), (.inr (some (.inl (ck_one 1))), 249, ([], [], [(25, 3, 3, ck_one 6)]))])
set_option maxRecDepth 100000 in
theorem pl_s38_s {X : Int → Int} {LX : Nat} : ck_Ok p2_OL X LX 108 pl_s38 := ck_okq (cuts := []) (f := 86) ⟨pl_nmu, ck_E0⟩ (by decide +kernel)
set_option maxRecDepth 100000 in
/-- GlacierMail$Rows.add -/
noncomputable def pl_s39 : ck_Sum := ((0, 0, 0), 249, [.inr (.inr (.inl 25))], ([], [], []), ([(25, 3, 3)], []), [(.inr (some (.inl (0, 5, []))), 249, ([], [], [(25, 3, 3, (1, 6, []))])), (.inr (some (.inl (ck_one (-1)))), 249, ([], [], [(25, 3, 3, ck_one 6)]))])
set_option maxRecDepth 100000 in
theorem pl_s39_s {X : Int → Int} {LX : Nat} : ck_Ok p2_OL X LX 102 pl_s39 := ck_okq (cuts := []) (f := 102) ⟨pl_nmu, ck_E0⟩ (by decide +kernel)
set_option maxRecDepth 100000 in
/-- GlacierMail$Words.needNumber -/
noncomputable def pl_s40 : ck_Sum := ((2, 0, 0), 249, [.inr (.inr (.inl 214)), .inl (ck_one 0), .inl (ck_one 20)], ([], [], [(214, 3, 3, (0, 400, [(12, 0)]))]), ([(214, 3, 7)], []), [(.inr (some (.inl (ck_one (-1)))), 249, ([], [], zl7)), (.inr (some (.inl (0, 20, []))), 249, ([], [], [(214, 3, 3, (0, 400, [(1000012, 0)]))]))])
set_option maxRecDepth 100000 in
theorem pl_s40_s {X : Int → Int} {LX : Nat} : ck_Ok p2_OL X LX 94 pl_s40 := ck_okq (cuts := []) (f := 106) ⟨pl_nmu, ck_E1 (ck_S1 pl_s26_s ck_S0) (ck_E1 (ck_S1 pl_s24_s ck_S0) ck_E0)⟩ (by decide +kernel)
set_option maxRecDepth 100000 in
/-- GlacierMail$Rows.put -/
noncomputable def pl_s41 : ck_Sum := ((0, 0, 0), 249, [.inr (.inr (.inl 25)), .inl (0, 5, []), .inl (0, 5, []), .inl (0, 20, [])], ([], [], []), ([(26, 0, 35)], []), [(.inr none, 249, ([], [], []))])
set_option maxRecDepth 100000 in
theorem pl_s41_s {X : Int → Int} {LX : Nat} : ck_Ok p2_OL X LX 45 pl_s41 := ck_okq (cuts := []) (f := 116) ⟨pl_nmu, ck_E0⟩ (by decide +kernel)
set_option maxRecDepth 100000 in
/-- GlacierMail$ValleyReader.readSpeeds -/
noncomputable def pl_s42 : ck_Sum := ((3, 0, 0), 249, [.inr (.inr (.inl 213)), .inr (.inr (.inl 25)), .inl (0, 5, []), .inl (ck_one 0)], ([], [], [(214, 3, 3, (0, 400, [(12, 0)]))]), ([(26, 0, 35), (214, 3, 7)], []), zl221)
set_option maxRecDepth 100000 in
theorem pl_s42_s {X : Int → Int} {LX : Nat} : ck_Ok p2_OL X LX 109 pl_s42 := ck_okq (cuts := [(3, [some (.inr (.inr (.inl 213))), some (.inr (.inr (.inl 25))), some (.inl (0, 5, [])), some (.inl (ck_one 0)), some (.inl (0, 6, [])), none], ([], [], [(214, 3, 3, (0, 400, [(1000012, 0)]))]), 100, .inl 4, true)]) (f := 186) ⟨pl_nmu, ck_E1 (ck_S1 pl_s40_s ck_S0) (ck_E1 (ck_S1 pl_s41_s ck_S0) ck_E0)⟩ (by decide +kernel)
set_option maxRecDepth 100000 in
/-- GlacierMail$Rows.put -/
noncomputable def pl_s43 : ck_Sum := ((0, 0, 0), 249, [.inr (.inr (.inl 25)), .inl (ck_one (-1)), .inl (0, 5, []), .inl (0, 20, [])], ([], [], []), ([], []), [(.inr none, 249, ([], [], []))])
set_option maxRecDepth 100000 in
theorem pl_s43_s {X : Int → Int} {LX : Nat} : ck_Ok p2_OL X LX 45 pl_s43 := ck_okq (cuts := []) (f := 76) ⟨pl_nmu, ck_E0⟩ (by decide +kernel)
set_option maxRecDepth 100000 in
/-- GlacierMail$ValleyReader.readSpeeds -/
noncomputable def pl_s44 : ck_Sum := ((3, 0, 0), 249, [.inr (.inr (.inl 213)), .inr (.inr (.inl 25)), .inl (ck_one (-1)), .inl (ck_one 0)], ([], [], [(214, 3, 3, (0, 400, [(12, 0)]))]), ([(214, 3, 7)], []), zl221)
set_option maxRecDepth 100000 in
theorem pl_s44_s {X : Int → Int} {LX : Nat} : ck_Ok p2_OL X LX 109 pl_s44 := ck_okq (cuts := [(3, [some (.inr (.inr (.inl 213))), some (.inr (.inr (.inl 25))), some (.inl (ck_one (-1))), some (.inl (ck_one 0)), some (.inl (0, 6, [])), none], ([], [], [(214, 3, 3, (0, 400, [(1000012, 0)]))]), 100, .inl 4, true)]) (f := 186) ⟨pl_nmu, ck_E1 (ck_S1 pl_s40_s ck_S0) (ck_E1 (ck_S1 pl_s43_s ck_S0) ck_E0)⟩ (by decide +kernel)
set_option maxRecDepth 100000 in
/-- GlacierMail$ValleyReader.readTable -/
noncomputable def pl_s45 : ck_Sum := ((4, 0, 0), 249, [.inr (.inr (.inl 213))], ([], [], [(214, 3, 3, (0, 400, [(12, 0)]))]), ([(25, 3, 3), (26, 0, 35), (214, 3, 7)], []), [(.inr (some (.inl (ck_one 1))), 249, ([], [], zl9)), (.inr (some (.inl (ck_one 0))), 249, ([], [], zl10))])
set_option maxRecDepth 100000 in
theorem pl_s45_s {X : Int → Int} {LX : Nat} : ck_Ok p2_OL X LX 120 pl_s45 := ck_okq (cuts := []) (f := 108) ⟨pl_nmu, ck_E1 (ck_S1 pl_s38_s ck_S0) (ck_E1 (ck_S1 pl_s24_s ck_S0) (ck_E1 (ck_S1 pl_s39_s ck_S0) (ck_E1 (ck_S1 pl_s42_s (ck_S1 pl_s44_s ck_S0)) (ck_E1 (ck_S1 pl_s26_s ck_S0) ck_E0))))⟩ (by decide +kernel)
set_option maxRecDepth 100000 in
/-- GlacierMail$Rows.isFull -/
noncomputable def pl_s46 : ck_Sum := ((0, 0, 0), 249, [.inr (.inr (.inl 23))], ([], [], []), ([], []), [(.inr (some (.inl (ck_one 0))), 249, ([], [], [(23, 3, 3, (0, 23, []))])), (.inr (some (.inl (ck_one 1))), 249, ([], [], [(23, 3, 3, ck_one 24)]))])
set_option maxRecDepth 100000 in
theorem pl_s46_s {X : Int → Int} {LX : Nat} : ck_Ok p2_OL X LX 108 pl_s46 := ck_okq (cuts := []) (f := 86) ⟨pl_nmu, ck_E0⟩ (by decide +kernel)
set_option maxRecDepth 100000 in
/-- GlacierMail$Words.needNumber -/
noncomputable def pl_s47 : ck_Sum := ((2, 0, 0), 249, [.inr (.inr (.inl 214)), .inl (ck_one 0), .inl (0, 5, [])], ([], [], [(214, 3, 3, (0, 400, [(12, 0)]))]), ([(214, 3, 7)], []), zl222)
set_option maxRecDepth 100000 in
theorem pl_s47_s {X : Int → Int} {LX : Nat} : ck_Ok p2_OL X LX 94 pl_s47 := ck_okq (cuts := []) (f := 106) ⟨pl_nmu, ck_E1 (ck_S1 pl_s26_s ck_S0) (ck_E1 (ck_S1 pl_s24_s ck_S0) ck_E0)⟩ (by decide +kernel)
set_option maxRecDepth 100000 in
/-- GlacierMail$ValleyReader.readLane -/
noncomputable def pl_s48 : ck_Sum := ((3, 0, 0), 249, [.inr (.inr (.inl 213))], ([], [], [(214, 3, 3, (0, 400, [(12, 0)]))]), ([(214, 3, 7)], []), zl222)
set_option maxRecDepth 100000 in
theorem pl_s48_s {X : Int → Int} {LX : Nat} : ck_Ok p2_OL X LX 117 pl_s48 := ck_okq (cuts := []) (f := 90) ⟨pl_nmu, ck_E1 (ck_S1 pl_s47_s ck_S0) ck_E0⟩ (by decide +kernel)
set_option maxRecDepth 100000 in
/-- GlacierMail$Words.needNumber -/
noncomputable def pl_s49 : ck_Sum := ((2, 0, 0), 249, [.inr (.inr (.inl 214)), .inl (ck_one 0), .inl (9, 98, [])], ([], [], [(214, 3, 3, (0, 400, [(12, 0)]))]), ([(214, 3, 7)], []), zl223)
set_option maxRecDepth 100000 in
theorem pl_s49_s {X : Int → Int} {LX : Nat} : ck_Ok p2_OL X LX 94 pl_s49 := ck_okq (cuts := []) (f := 106) ⟨pl_nmu, ck_E1 (ck_S1 pl_s26_s ck_S0) (ck_E1 (ck_S1 pl_s24_s ck_S0) ck_E0)⟩ (by decide +kernel)
set_option maxRecDepth 100000 in
/-- GlacierMail$ValleyReader.readRow -/
noncomputable def pl_s50 : ck_Sum := ((3, 0, 0), 249, [.inr (.inr (.inl 213))], ([], [], [(214, 3, 3, (0, 400, [(12, 0)]))]), ([(214, 3, 7)], []), zl223)
set_option maxRecDepth 100000 in
theorem pl_s50_s {X : Int → Int} {LX : Nat} : ck_Ok p2_OL X LX 111 pl_s50 := ck_okq (cuts := []) (f := 90) ⟨pl_nmu, ck_E1 (ck_S1 pl_s49_s ck_S0) ck_E0⟩ (by decide +kernel)
set_option maxRecDepth 100000 in
/-- GlacierMail$Rows.add -/
noncomputable def pl_s51 : ck_Sum := ((0, 0, 0), 249, [.inr (.inr (.inl 23))], ([], [], []), ([(23, 3, 3)], []), zl224)
set_option maxRecDepth 100000 in
theorem pl_s51_s {X : Int → Int} {LX : Nat} : ck_Ok p2_OL X LX 102 pl_s51 := ck_okq (cuts := []) (f := 102) ⟨pl_nmu, ck_E0⟩ (by decide +kernel)
set_option maxRecDepth 100000 in
/-- GlacierMail$Rows.put -/
noncomputable def pl_s52 : ck_Sum := ((0, 0, 0), 249, [.inr (.inr (.inl 23)), .inl (0, 23, []), .inl (ck_one 0), .inl (ck_one (-1))], ([], [], []), (zl14, []), [(.inr none, 249, ([], [], []))])
set_option maxRecDepth 100000 in
theorem pl_s52_s {X : Int → Int} {LX : Nat} : ck_Ok p2_OL X LX 45 pl_s52 := ck_okq (cuts := []) (f := 116) ⟨pl_nmu, ck_E0⟩ (by decide +kernel)
set_option maxRecDepth 100000 in
/-- GlacierMail$Rows.put -/
noncomputable def pl_s53 : ck_Sum := ((0, 0, 0), 249, [.inr (.inr (.inl 23)), .inl (0, 23, []), .inl (ck_one 1), .inl (ck_one (-1))], ([], [], []), (zl15, []), [(.inr none, 249, ([], [], []))])
set_option maxRecDepth 100000 in
theorem pl_s53_s {X : Int → Int} {LX : Nat} : ck_Ok p2_OL X LX 45 pl_s53 := ck_okq (cuts := []) (f := 116) ⟨pl_nmu, ck_E0⟩ (by decide +kernel)
set_option maxRecDepth 100000 in
/-- GlacierMail$Rows.put -/
noncomputable def pl_s54 : ck_Sum := ((0, 0, 0), 249, [.inr (.inr (.inl 23)), .inl (0, 23, []), .inl (ck_one 2), .inl (0, 5, [])], ([], [], []), (zl16, []), [(.inr none, 249, ([], [], []))])
set_option maxRecDepth 100000 in
theorem pl_s54_s {X : Int → Int} {LX : Nat} : ck_Ok p2_OL X LX 45 pl_s54 := ck_okq (cuts := []) (f := 116) ⟨pl_nmu, ck_E0⟩ (by decide +kernel)
set_option maxRecDepth 100000 in
/-- GlacierMail$Rows.put -/
noncomputable def pl_s55 : ck_Sum := ((0, 0, 0), 249, [.inr (.inr (.inl 23)), .inl (0, 23, []), .inl (ck_one 3), .inl (0, 299, [])], ([], [], []), (zl17, []), [(.inr none, 249, ([], [], []))])
set_option maxRecDepth 100000 in
theorem pl_s55_s {X : Int → Int} {LX : Nat} : ck_Ok p2_OL X LX 45 pl_s55 := ck_okq (cuts := []) (f := 116) ⟨pl_nmu, ck_E0⟩ (by decide +kernel)
set_option maxRecDepth 100000 in
/-- GlacierMail$Rows.put -/
noncomputable def pl_s56 : ck_Sum := ((0, 0, 0), 249, [.inr (.inr (.inl 23)), .inl (0, 23, []), .inl (ck_one 4), .inl (0, 98, [])], ([], [], []), (zl18, []), [(.inr none, 249, ([], [], []))])
set_option maxRecDepth 100000 in
theorem pl_s56_s {X : Int → Int} {LX : Nat} : ck_Ok p2_OL X LX 45 pl_s56 := ck_okq (cuts := []) (f := 116) ⟨pl_nmu, ck_E0⟩ (by decide +kernel)
set_option maxRecDepth 100000 in
/-- GlacierMail$Rows.put -/
noncomputable def pl_s57 : ck_Sum := ((0, 0, 0), 249, [.inr (.inr (.inl 23)), .inl (0, 23, []), .inl (ck_one 5), .inl (ck_one (-1))], ([], [], []), (zl19, []), [(.inr none, 249, ([], [], []))])
set_option maxRecDepth 100000 in
theorem pl_s57_s {X : Int → Int} {LX : Nat} : ck_Ok p2_OL X LX 45 pl_s57 := ck_okq (cuts := []) (f := 116) ⟨pl_nmu, ck_E0⟩ (by decide +kernel)
set_option maxRecDepth 100000 in
/-- GlacierMail$Rows.put -/
noncomputable def pl_s58 : ck_Sum := ((0, 0, 0), 249, [.inr (.inr (.inl 23)), .inl (0, 23, []), .inl (ck_one 6), .inl (ck_one (-1))], ([], [], []), (zl20, []), [(.inr none, 249, ([], [], []))])
set_option maxRecDepth 100000 in
theorem pl_s58_s {X : Int → Int} {LX : Nat} : ck_Ok p2_OL X LX 45 pl_s58 := ck_okq (cuts := []) (f := 116) ⟨pl_nmu, ck_E0⟩ (by decide +kernel)
set_option maxRecDepth 100000 in
/-- GlacierMail$Rows.put -/
noncomputable def pl_s59 : ck_Sum := ((0, 0, 0), 249, [.inr (.inr (.inl 23)), .inl (ck_one (-1)), .inl (ck_one 0), .inl (ck_one (-1))], ([], [], []), ([], []), [(.inr none, 249, ([], [], []))])
set_option maxRecDepth 100000 in
theorem pl_s59_s {X : Int → Int} {LX : Nat} : ck_Ok p2_OL X LX 45 pl_s59 := ck_okq (cuts := []) (f := 76) ⟨pl_nmu, ck_E0⟩ (by decide +kernel)
set_option maxRecDepth 100000 in
/-- GlacierMail$Rows.put -/
noncomputable def pl_s60 : ck_Sum := ((0, 0, 0), 249, [.inr (.inr (.inl 23)), .inl (ck_one (-1)), .inl (ck_one 1), .inl (ck_one (-1))], ([], [], []), ([], []), [(.inr none, 249, ([], [], []))])
set_option maxRecDepth 100000 in
theorem pl_s60_s {X : Int → Int} {LX : Nat} : ck_Ok p2_OL X LX 45 pl_s60 := ck_okq (cuts := []) (f := 76) ⟨pl_nmu, ck_E0⟩ (by decide +kernel)
set_option maxRecDepth 100000 in
/-- GlacierMail$Rows.put -/
noncomputable def pl_s61 : ck_Sum := ((0, 0, 0), 249, [.inr (.inr (.inl 23)), .inl (ck_one (-1)), .inl (ck_one 2), .inl (0, 5, [])], ([], [], []), ([], []), [(.inr none, 249, ([], [], []))])
set_option maxRecDepth 100000 in
theorem pl_s61_s {X : Int → Int} {LX : Nat} : ck_Ok p2_OL X LX 45 pl_s61 := ck_okq (cuts := []) (f := 76) ⟨pl_nmu, ck_E0⟩ (by decide +kernel)
set_option maxRecDepth 100000 in
/-- GlacierMail$Rows.put -/
noncomputable def pl_s62 : ck_Sum := ((0, 0, 0), 249, [.inr (.inr (.inl 23)), .inl (ck_one (-1)), .inl (ck_one 3), .inl (0, 299, [])], ([], [], []), ([], []), [(.inr none, 249, ([], [], []))])
set_option maxRecDepth 100000 in
theorem pl_s62_s {X : Int → Int} {LX : Nat} : ck_Ok p2_OL X LX 45 pl_s62 := ck_okq (cuts := []) (f := 76) ⟨pl_nmu, ck_E0⟩ (by decide +kernel)
set_option maxRecDepth 100000 in
/-- GlacierMail$Rows.put -/
noncomputable def pl_s63 : ck_Sum := ((0, 0, 0), 249, [.inr (.inr (.inl 23)), .inl (ck_one (-1)), .inl (ck_one 4), .inl (0, 98, [])], ([], [], []), ([], []), [(.inr none, 249, ([], [], []))])
set_option maxRecDepth 100000 in
theorem pl_s63_s {X : Int → Int} {LX : Nat} : ck_Ok p2_OL X LX 45 pl_s63 := ck_okq (cuts := []) (f := 76) ⟨pl_nmu, ck_E0⟩ (by decide +kernel)
set_option maxRecDepth 100000 in
/-- GlacierMail$Rows.put -/
noncomputable def pl_s64 : ck_Sum := ((0, 0, 0), 249, [.inr (.inr (.inl 23)), .inl (ck_one (-1)), .inl (ck_one 5), .inl (ck_one (-1))], ([], [], []), ([], []), [(.inr none, 249, ([], [], []))])
set_option maxRecDepth 100000 in
theorem pl_s64_s {X : Int → Int} {LX : Nat} : ck_Ok p2_OL X LX 45 pl_s64 := ck_okq (cuts := []) (f := 76) ⟨pl_nmu, ck_E0⟩ (by decide +kernel)
set_option maxRecDepth 100000 in
/-- GlacierMail$Rows.put -/
noncomputable def pl_s65 : ck_Sum := ((0, 0, 0), 249, [.inr (.inr (.inl 23)), .inl (ck_one (-1)), .inl (ck_one 6), .inl (ck_one (-1))], ([], [], []), ([], []), [(.inr none, 249, ([], [], []))])
set_option maxRecDepth 100000 in
theorem pl_s65_s {X : Int → Int} {LX : Nat} : ck_Ok p2_OL X LX 45 pl_s65 := ck_okq (cuts := []) (f := 76) ⟨pl_nmu, ck_E0⟩ (by decide +kernel)
set_option maxRecDepth 100000 in
/-- GlacierMail$State.throwIn -/
noncomputable def pl_s66 : ck_Sum := ((1, 0, 0), 249, [.inr (.inr (.inl 16)), .inl (ck_one (-1)), .inl (ck_one (-1)), .inl (0, 5, []), .inl (0, 98, [])], ([], [], []), ([(23, 3, 3), (24, 0, 167)], []), zl224)
set_option maxRecDepth 100000 in
theorem pl_s66_s {X : Int → Int} {LX : Nat} : ck_Ok p2_OL X LX 119 pl_s66 := ck_okq (cuts := []) (f := 168) ⟨pl_nmu, ck_E1 (ck_S1 pl_s51_s ck_S0) (ck_E1 (ck_S1 pl_s52_s (ck_S1 pl_s53_s (ck_S1 pl_s54_s (ck_S1 pl_s55_s (ck_S1 pl_s56_s (ck_S1 pl_s57_s (ck_S1 pl_s58_s (ck_S1 pl_s59_s (ck_S1 pl_s60_s (ck_S1 pl_s61_s (ck_S1 pl_s62_s (ck_S1 pl_s63_s (ck_S1 pl_s64_s (ck_S1 pl_s65_s ck_S0)))))))))))))) ck_E0)⟩ (by decide +kernel)
set_option maxRecDepth 100000 in
/-- GlacierMail$ValleyReader.readRock -/
noncomputable def pl_s67 : ck_Sum := ((4, 0, 0), 249, [.inr (.inr (.inl 213))], ([], [], [(214, 3, 3, (0, 400, [(12, 0)]))]), ([(23, 3, 3), (24, 0, 167), (214, 3, 7)], []), [(.inr (some (.inl (ck_one 0))), 249, ([], [], zl21)), (.inr (some (.inl (ck_one 1))), 249, ([], [], zl22))])
set_option maxRecDepth 100000 in
theorem pl_s67_s {X : Int → Int} {LX : Nat} : ck_Ok p2_OL X LX 118 pl_s67 := ck_okq (cuts := []) (f := 130) ⟨pl_nmu, ck_E1 (ck_S1 pl_s46_s ck_S0) (ck_E1 (ck_S1 pl_s24_s ck_S0) (ck_E1 (ck_S1 pl_s48_s ck_S0) (ck_E1 (ck_S1 pl_s50_s ck_S0) (ck_E1 (ck_S1 pl_s66_s ck_S0) (ck_E1 (ck_S1 pl_s26_s ck_S0) ck_E0)))))⟩ (by decide +kernel)
set_option maxRecDepth 100000 in
/-- GlacierMail$Rows.isFull -/
noncomputable def pl_s68 : ck_Sum := ((0, 0, 0), 249, [.inr (.inr (.inl 21))], ([], [], []), ([], []), [(.inr (some (.inl (ck_one 0))), 249, ([], [], [(21, 3, 3, (0, 7, []))])), (.inr (some (.inl (ck_one 1))), 249, ([], [], [(21, 3, 3, ck_one 8)]))])
set_option maxRecDepth 100000 in
theorem pl_s68_s {X : Int → Int} {LX : Nat} : ck_Ok p2_OL X LX 108 pl_s68 := ck_okq (cuts := []) (f := 86) ⟨pl_nmu, ck_E0⟩ (by decide +kernel)
set_option maxRecDepth 100000 in
/-- GlacierMail$Words.isWord -/
noncomputable def pl_s69 : ck_Sum := ((6, 0, 0), 249, [.inr (.inr (.inl 214)), .inr (.inr (.inr 26))], ([], [], [(214, 3, 3, (0, 400, [(12, 0)]))]), ([], []), zl218)
set_option maxRecDepth 100000 in
theorem pl_s69_s {X : Int → Int} {LX : Nat} : ck_Ok p2_OL X LX 81 pl_s69 := ck_okq (cuts := []) (f := 360) ⟨pl_nmu, ck_E0⟩ (by decide +kernel)
set_option maxRecDepth 100000 in
/-- GlacierMail$Words.takeWord -/
noncomputable def pl_s70 : ck_Sum := ((7, 0, 0), 249, [.inr (.inr (.inl 214)), .inr (.inr (.inr 26))], ([], [], [(214, 3, 3, (0, 400, [(12, 0)]))]), ([(214, 3, 4), (214, 6, 7)], []), [(.inr (some (.inl (ck_one 0))), 249, ([], [], [(214, 3, 3, (0, 400, [(12, 0)]))])), (.inr (some (.inl (ck_one 1))), 249, ([], [], [(214, 3, 3, (5, 400, [(1000012, 0)]))]))])
set_option maxRecDepth 100000 in
theorem pl_s70_s {X : Int → Int} {LX : Nat} : ck_Ok p2_OL X LX 95 pl_s70 := ck_okq (cuts := []) (f := 90) ⟨pl_nmu, ck_E1 (ck_S1 pl_s69_s ck_S0) (ck_E1 (ck_S1 pl_s24_s ck_S0) ck_E0)⟩ (by decide +kernel)
set_option maxRecDepth 100000 in
/-- GlacierMail$Rows.add -/
noncomputable def pl_s71 : ck_Sum := ((0, 0, 0), 249, [.inr (.inr (.inl 21))], ([], [], []), ([(21, 3, 3)], []), [(.inr (some (.inl (0, 7, []))), 249, ([], [], [(21, 3, 3, (1, 8, []))])), (.inr (some (.inl (ck_one (-1)))), 249, ([], [], [(21, 3, 3, ck_one 8)]))])
set_option maxRecDepth 100000 in
theorem pl_s71_s {X : Int → Int} {LX : Nat} : ck_Ok p2_OL X LX 102 pl_s71 := ck_okq (cuts := []) (f := 102) ⟨pl_nmu, ck_E0⟩ (by decide +kernel)
set_option maxRecDepth 100000 in
/-- GlacierMail$Rows.put -/
noncomputable def pl_s72 : ck_Sum := ((0, 0, 0), 249, [.inr (.inr (.inl 21)), .inl (0, 7, []), .inl (ck_one 0), .inl (0, 5, [])], ([], [], []), (zl23, []), [(.inr none, 249, ([], [], []))])
set_option maxRecDepth 100000 in
theorem pl_s72_s {X : Int → Int} {LX : Nat} : ck_Ok p2_OL X LX 45 pl_s72 := ck_okq (cuts := []) (f := 116) ⟨pl_nmu, ck_E0⟩ (by decide +kernel)
set_option maxRecDepth 100000 in
/-- GlacierMail$Rows.put -/
noncomputable def pl_s73 : ck_Sum := ((0, 0, 0), 249, [.inr (.inr (.inl 21)), .inl (0, 7, []), .inl (ck_one 1), .inl (0, 98, [])], ([], [], []), (zl24, []), [(.inr none, 249, ([], [], []))])
set_option maxRecDepth 100000 in
theorem pl_s73_s {X : Int → Int} {LX : Nat} : ck_Ok p2_OL X LX 45 pl_s73 := ck_okq (cuts := []) (f := 116) ⟨pl_nmu, ck_E0⟩ (by decide +kernel)
set_option maxRecDepth 100000 in
/-- GlacierMail$Rows.put -/
noncomputable def pl_s74 : ck_Sum := ((0, 0, 0), 249, [.inr (.inr (.inl 21)), .inl (0, 7, []), .inl (ck_one 2), .inl (ck_one (-1))], ([], [], []), (zl25, []), [(.inr none, 249, ([], [], []))])
set_option maxRecDepth 100000 in
theorem pl_s74_s {X : Int → Int} {LX : Nat} : ck_Ok p2_OL X LX 45 pl_s74 := ck_okq (cuts := []) (f := 116) ⟨pl_nmu, ck_E0⟩ (by decide +kernel)
set_option maxRecDepth 100000 in
/-- GlacierMail$Rows.put -/
noncomputable def pl_s75 : ck_Sum := ((0, 0, 0), 249, [.inr (.inr (.inl 21)), .inl (ck_one (-1)), .inl (ck_one 0), .inl (0, 5, [])], ([], [], []), ([], []), [(.inr none, 249, ([], [], []))])
set_option maxRecDepth 100000 in
theorem pl_s75_s {X : Int → Int} {LX : Nat} : ck_Ok p2_OL X LX 45 pl_s75 := ck_okq (cuts := []) (f := 76) ⟨pl_nmu, ck_E0⟩ (by decide +kernel)
set_option maxRecDepth 100000 in
/-- GlacierMail$Rows.put -/
noncomputable def pl_s76 : ck_Sum := ((0, 0, 0), 249, [.inr (.inr (.inl 21)), .inl (ck_one (-1)), .inl (ck_one 1), .inl (0, 98, [])], ([], [], []), ([], []), [(.inr none, 249, ([], [], []))])
set_option maxRecDepth 100000 in
theorem pl_s76_s {X : Int → Int} {LX : Nat} : ck_Ok p2_OL X LX 45 pl_s76 := ck_okq (cuts := []) (f := 76) ⟨pl_nmu, ck_E0⟩ (by decide +kernel)
set_option maxRecDepth 100000 in
/-- GlacierMail$Rows.put -/
noncomputable def pl_s77 : ck_Sum := ((0, 0, 0), 249, [.inr (.inr (.inl 21)), .inl (ck_one (-1)), .inl (ck_one 2), .inl (ck_one (-1))], ([], [], []), ([], []), [(.inr none, 249, ([], [], []))])
set_option maxRecDepth 100000 in
theorem pl_s77_s {X : Int → Int} {LX : Nat} : ck_Ok p2_OL X LX 45 pl_s77 := ck_okq (cuts := []) (f := 76) ⟨pl_nmu, ck_E0⟩ (by decide +kernel)
set_option maxRecDepth 100000 in
/-- GlacierMail$Rows.put -/
noncomputable def pl_s78 : ck_Sum := ((0, 0, 0), 249, [.inr (.inr (.inl 21)), .inl (0, 7, []), .inl (ck_one 2), .inl (0, 5, [])], ([], [], []), (zl25, []), [(.inr none, 249, ([], [], []))])
set_option maxRecDepth 100000 in
theorem pl_s78_s {X : Int → Int} {LX : Nat} : ck_Ok p2_OL X LX 45 pl_s78 := ck_okq (cuts := []) (f := 116) ⟨pl_nmu, ck_E0⟩ (by decide +kernel)
set_option maxRecDepth 100000 in
/-- GlacierMail$Rows.put -/
noncomputable def pl_s79 : ck_Sum := ((0, 0, 0), 249, [.inr (.inr (.inl 21)), .inl (ck_one (-1)), .inl (ck_one 2), .inl (0, 5, [])], ([], [], []), ([], []), [(.inr none, 249, ([], [], []))])
set_option maxRecDepth 100000 in
theorem pl_s79_s {X : Int → Int} {LX : Nat} : ck_Ok p2_OL X LX 45 pl_s79 := ck_okq (cuts := []) (f := 76) ⟨pl_nmu, ck_E0⟩ (by decide +kernel)
set_option maxRecDepth 100000 in
/-- GlacierMail$ValleyReader.readPerson -/
noncomputable def pl_s80 : ck_Sum := ((8, 0, 0), 249, [.inr (.inr (.inl 213))], ([], [], [(214, 3, 3, (0, 400, [(12, 0)]))]), ([(21, 3, 3), (22, 0, 23), (214, 3, 7)], []), [(.inr (some (.inl (ck_one 0))), 249, ([], [], zl21)), (.inr (some (.inl (ck_one 1))), 249, ([], [], zl26))])
set_option maxRecDepth 100000 in
theorem pl_s80_s {X : Int → Int} {LX : Nat} : ck_Ok p2_OL X LX 116 pl_s80 := ck_okq (cuts := []) (f := 192) ⟨pl_nmu, ck_E1 (ck_S1 pl_s68_s ck_S0) (ck_E1 (ck_S1 pl_s24_s ck_S0) (ck_E1 (ck_S1 pl_s48_s ck_S0) (ck_E1 (ck_S1 pl_s50_s ck_S0) (ck_E1 (ck_S1 pl_s70_s ck_S0) (ck_E1 (ck_S1 pl_s71_s ck_S0) (ck_E1 (ck_S1 pl_s72_s (ck_S1 pl_s73_s (ck_S1 pl_s74_s (ck_S1 pl_s75_s (ck_S1 pl_s76_s (ck_S1 pl_s77_s (ck_S1 pl_s78_s (ck_S1 pl_s79_s ck_S0)))))))) (ck_E1 (ck_S1 pl_s26_s ck_S0) ck_E0)))))))⟩ (by decide +kernel)
set_option maxRecDepth 100000 in
/-- GlacierMail$Rows.isFull -/
noncomputable def pl_s81 : ck_Sum := ((0, 0, 0), 249, [.inr (.inr (.inl 19))], ([], [], []), ([], []), [(.inr (some (.inl (ck_one 0))), 249, ([], [], [(19, 3, 3, (0, 7, []))])), (.inr (some (.inl (ck_one 1))), 249, ([], [], [(19, 3, 3, ck_one 8)]))])
set_option maxRecDepth 100000 in
theorem pl_s81_s {X : Int → Int} {LX : Nat} : ck_Ok p2_OL X LX 108 pl_s81 := ck_okq (cuts := []) (f := 86) ⟨pl_nmu, ck_E0⟩ (by decide +kernel)
set_option maxRecDepth 100000 in
/-- GlacierMail$Words.needNumber -/
noncomputable def pl_s82 : ck_Sum := ((2, 0, 0), 249, [.inr (.inr (.inl 214)), .inl (0, 299, []), .inl (ck_one 299)], ([], [], [(214, 3, 3, (0, 400, [(12, 0)]))]), ([(214, 3, 7)], []), [(.inr (some (.inl (ck_one (-1)))), 249, ([], [], zl7)), (.inr (some (.inl (0, 299, []))), 249, ([], [], [(214, 3, 3, (0, 400, [(1000012, 0)]))]))])
set_option maxRecDepth 100000 in
theorem pl_s82_s {X : Int → Int} {LX : Nat} : ck_Ok p2_OL X LX 94 pl_s82 := ck_okq (cuts := []) (f := 106) ⟨pl_nmu, ck_E1 (ck_S1 pl_s26_s ck_S0) (ck_E1 (ck_S1 pl_s24_s ck_S0) ck_E0)⟩ (by decide +kernel)
set_option maxRecDepth 100000 in
/-- GlacierMail$Words.needNumber -/
noncomputable def pl_s83 : ck_Sum := ((2, 0, 0), 249, [.inr (.inr (.inl 214)), .inl (ck_one 1), .inl (ck_one 20)], ([], [], [(214, 3, 3, (0, 400, [(12, 0)]))]), ([(214, 3, 7)], []), [(.inr (some (.inl (ck_one (-1)))), 249, ([], [], zl7)), (.inr (some (.inl (1, 20, []))), 249, ([], [], [(214, 3, 3, (0, 400, [(1000012, 0)]))]))])
set_option maxRecDepth 100000 in
theorem pl_s83_s {X : Int → Int} {LX : Nat} : ck_Ok p2_OL X LX 94 pl_s83 := ck_okq (cuts := []) (f := 106) ⟨pl_nmu, ck_E1 (ck_S1 pl_s26_s ck_S0) (ck_E1 (ck_S1 pl_s24_s ck_S0) ck_E0)⟩ (by decide +kernel)
set_option maxRecDepth 100000 in
/-- GlacierMail$Rows.add -/
noncomputable def pl_s84 : ck_Sum := ((0, 0, 0), 249, [.inr (.inr (.inl 19))], ([], [], []), ([(19, 3, 3)], []), [(.inr (some (.inl (0, 7, []))), 249, ([], [], [(19, 3, 3, (1, 8, []))])), (.inr (some (.inl (ck_one (-1)))), 249, ([], [], [(19, 3, 3, ck_one 8)]))])
set_option maxRecDepth 100000 in
theorem pl_s84_s {X : Int → Int} {LX : Nat} : ck_Ok p2_OL X LX 102 pl_s84 := ck_okq (cuts := []) (f := 102) ⟨pl_nmu, ck_E0⟩ (by decide +kernel)
set_option maxRecDepth 100000 in
/-- GlacierMail$Rows.put -/
noncomputable def pl_s85 : ck_Sum := ((0, 0, 0), 249, [.inr (.inr (.inl 19)), .inl (0, 7, []), .inl (ck_one 0), .inl (0, 299, [])], ([], [], []), (zl27, []), [(.inr none, 249, ([], [], []))])
set_option maxRecDepth 100000 in
theorem pl_s85_s {X : Int → Int} {LX : Nat} : ck_Ok p2_OL X LX 45 pl_s85 := ck_okq (cuts := []) (f := 116) ⟨pl_nmu, ck_E0⟩ (by decide +kernel)
set_option maxRecDepth 100000 in
/-- GlacierMail$Rows.put -/
noncomputable def pl_s86 : ck_Sum := ((0, 0, 0), 249, [.inr (.inr (.inl 19)), .inl (0, 7, []), .inl (ck_one 1), .inl (0, 98, [])], ([], [], []), (zl28, []), [(.inr none, 249, ([], [], []))])
set_option maxRecDepth 100000 in
theorem pl_s86_s {X : Int → Int} {LX : Nat} : ck_Ok p2_OL X LX 45 pl_s86 := ck_okq (cuts := []) (f := 116) ⟨pl_nmu, ck_E0⟩ (by decide +kernel)
set_option maxRecDepth 100000 in
/-- GlacierMail$Rows.put -/
noncomputable def pl_s87 : ck_Sum := ((0, 0, 0), 249, [.inr (.inr (.inl 19)), .inl (0, 7, []), .inl (ck_one 2), .inl (1, 20, [])], ([], [], []), (zl29, []), [(.inr none, 249, ([], [], []))])
set_option maxRecDepth 100000 in
theorem pl_s87_s {X : Int → Int} {LX : Nat} : ck_Ok p2_OL X LX 45 pl_s87 := ck_okq (cuts := []) (f := 116) ⟨pl_nmu, ck_E0⟩ (by decide +kernel)
set_option maxRecDepth 100000 in
/-- GlacierMail$Rows.put -/
noncomputable def pl_s88 : ck_Sum := ((0, 0, 0), 249, [.inr (.inr (.inl 19)), .inl (ck_one (-1)), .inl (ck_one 0), .inl (0, 299, [])], ([], [], []), ([], []), [(.inr none, 249, ([], [], []))])
set_option maxRecDepth 100000 in
theorem pl_s88_s {X : Int → Int} {LX : Nat} : ck_Ok p2_OL X LX 45 pl_s88 := ck_okq (cuts := []) (f := 76) ⟨pl_nmu, ck_E0⟩ (by decide +kernel)
set_option maxRecDepth 100000 in
/-- GlacierMail$Rows.put -/
noncomputable def pl_s89 : ck_Sum := ((0, 0, 0), 249, [.inr (.inr (.inl 19)), .inl (ck_one (-1)), .inl (ck_one 1), .inl (0, 98, [])], ([], [], []), ([], []), [(.inr none, 249, ([], [], []))])
set_option maxRecDepth 100000 in
theorem pl_s89_s {X : Int → Int} {LX : Nat} : ck_Ok p2_OL X LX 45 pl_s89 := ck_okq (cuts := []) (f := 76) ⟨pl_nmu, ck_E0⟩ (by decide +kernel)
end
