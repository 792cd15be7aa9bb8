/-! 78r80a17.sf -/
section
/-! EVERY CALL ENDS, whatever was done before (laid by wip/am/p2k.py). -/
set_option maxRecDepth 100000 in
/-- GlacierMailModel.throwsFor -/
noncomputable def p2_s1316 : ck_Sum := (((2 : Nat), (0 : Nat), (0 : Nat)), (245 : Nat), [.inr (.inr (.inl (226 : Nat))), .inl ((6 : Int), (2147483647 : Int), []), .inl ((-2147483648 : Int), (2147483647 : Int), []), .inl ((-2147483648 : Int), (2147483647 : Int), []), .inl ((-2147483648 : Int), (2147483647 : Int), [])], ([], [], []), ([((226 : Nat), (0 : Int), (0 : Int))], []), [(.inr (some (.inl (ck_one 0))), (245 : Nat), ([], [], [((226 : Nat), (0 : Int), (0 : Int), ck_one 1)]))])
set_option maxRecDepth 100000 in
theorem p2_s1316_s {X : Int → Int} {LX : Nat} : ck_Ok p2_O X LX 324 p2_s1316 := ck_okq (cuts := []) (f := 94) ⟨p2_nmu, ck_E1 (ck_S1 p2_s287_s ck_S0) (ck_E1 (ck_S1 p2_s241_s ck_S0) ck_E0)⟩ (by decide +kernel)
set_option maxRecDepth 100000 in
/-- GlacierMailModel.throwsFor -/
noncomputable def p2_s1317 : ck_Sum := (((2 : Nat), (0 : Nat), (0 : Nat)), (245 : Nat), [.inr (.inr (.inl (226 : Nat))), .inl ((0 : Int), (5 : Int), []), .inl ((-2147483648 : Int), (-1 : Int), []), .inl ((-2147483648 : Int), (2147483647 : Int), []), .inl ((-2147483648 : Int), (2147483647 : Int), [])], ([], [], []), ([((226 : Nat), (0 : Int), (0 : Int))], []), [(.inr (some (.inl (ck_one 0))), (245 : Nat), ([], [], [((226 : Nat), (0 : Int), (0 : Int), ((1 : Int), (2 : Int), []))]))])
set_option maxRecDepth 100000 in
theorem p2_s1317_s {X : Int → Int} {LX : Nat} : ck_Ok p2_O X LX 324 p2_s1317 := ck_okq (cuts := []) (f := 112) ⟨p2_nmu, ck_E1 (ck_S1 p2_s290_s ck_S0) (ck_E1 (ck_S1 p2_s241_s (ck_S1 p2_s242_s (ck_S1 p2_s244_s ck_S0))) (ck_E1 (ck_S1 p2_s257_s ck_S0) ck_E0))⟩ (by decide +kernel)
set_option maxRecDepth 100000 in
/-- GlacierMailModel.throwsFor -/
noncomputable def p2_s1318 : ck_Sum := (((2 : Nat), (0 : Nat), (0 : Nat)), (245 : Nat), [.inr (.inr (.inl (226 : Nat))), .inl ((0 : Int), (5 : Int), []), .inl ((300 : Int), (2147483647 : Int), []), .inl ((-2147483648 : Int), (2147483647 : Int), []), .inl ((-2147483648 : Int), (2147483647 : Int), [])], ([], [], []), ([((226 : Nat), (0 : Int), (0 : Int))], []), [(.inr (some (.inl (ck_one 0))), (245 : Nat), ([], [], [((226 : Nat), (0 : Int), (0 : Int), ((1 : Int), (2 : Int), []))]))])
set_option maxRecDepth 100000 in
theorem p2_s1318_s {X : Int → Int} {LX : Nat} : ck_Ok p2_O X LX 324 p2_s1318 := ck_okq (cuts := []) (f := 112) ⟨p2_nmu, ck_E1 (ck_S1 p2_s290_s ck_S0) (ck_E1 (ck_S1 p2_s241_s (ck_S1 p2_s242_s (ck_S1 p2_s244_s ck_S0))) (ck_E1 (ck_S1 p2_s260_s ck_S0) ck_E0))⟩ (by decide +kernel)
set_option maxRecDepth 100000 in
/-- GlacierMailModel.throwsFor -/
noncomputable def p2_s1319 : ck_Sum := (((2 : Nat), (0 : Nat), (0 : Nat)), (245 : Nat), [.inr (.inr (.inl (226 : Nat))), .inl ((0 : Int), (5 : Int), []), .inl ((0 : Int), (299 : Int), []), .inl ((-2147483648 : Int), (-1 : Int), []), .inl ((-2147483648 : Int), (2147483647 : Int), [])], ([], [], []), ([((226 : Nat), (0 : Int), (0 : Int))], []), [(.inr (some (.inl (ck_one 0))), (245 : Nat), ([], [], [((226 : Nat), (0 : Int), (0 : Int), ((1 : Int), (2 : Int), []))]))])
set_option maxRecDepth 100000 in
theorem p2_s1319_s {X : Int → Int} {LX : Nat} : ck_Ok p2_O X LX 324 p2_s1319 := ck_okq (cuts := []) (f := 118) ⟨p2_nmu, ck_E1 (ck_S1 p2_s290_s ck_S0) (ck_E1 (ck_S1 p2_s241_s (ck_S1 p2_s242_s (ck_S1 p2_s244_s ck_S0))) (ck_E1 (ck_S1 p2_s263_s (ck_S1 p2_s257_s ck_S0)) ck_E0))⟩ (by decide +kernel)
set_option maxRecDepth 100000 in
/-- GlacierMailModel.throwsFor -/
noncomputable def p2_s1320 : ck_Sum := (((2 : Nat), (0 : Nat), (0 : Nat)), (245 : Nat), [.inr (.inr (.inl (226 : Nat))), .inl ((0 : Int), (5 : Int), []), .inl ((0 : Int), (299 : Int), []), .inl ((300 : Int), (2147483647 : Int), []), .inl ((-2147483648 : Int), (2147483647 : Int), [])], ([], [], []), ([((226 : Nat), (0 : Int), (0 : Int))], []), [(.inr (some (.inl (ck_one 0))), (245 : Nat), ([], [], [((226 : Nat), (0 : Int), (0 : Int), ((1 : Int), (2 : Int), []))]))])
set_option maxRecDepth 100000 in
theorem p2_s1320_s {X : Int → Int} {LX : Nat} : ck_Ok p2_O X LX 324 p2_s1320 := ck_okq (cuts := []) (f := 118) ⟨p2_nmu, ck_E1 (ck_S1 p2_s290_s ck_S0) (ck_E1 (ck_S1 p2_s241_s (ck_S1 p2_s242_s (ck_S1 p2_s244_s ck_S0))) (ck_E1 (ck_S1 p2_s263_s (ck_S1 p2_s260_s ck_S0)) ck_E0))⟩ (by decide +kernel)
set_option maxRecDepth 100000 in
/-- GlacierMailModel.in -/
noncomputable def p2_s1321 : ck_Sum := (((0 : Nat), (0 : Nat), (0 : Nat)), (245 : Nat), [.inl ((-2147483648 : Int), (-1 : Int), []), .inl (ck_one 0), .inl (ck_one 2)], ([], [], []), ([], []), [(.inr (some (.inl (ck_one 0))), (245 : Nat), ([], [], []))])
set_option maxRecDepth 100000 in
theorem p2_s1321_s {X : Int → Int} {LX : Nat} : ck_Ok p2_O X LX 286 p2_s1321 := ck_okq (cuts := []) (f := 80) ⟨p2_nmu, ck_E0⟩ (by decide +kernel)
set_option maxRecDepth 100000 in
/-- GlacierMailModel.throwsFor -/
noncomputable def p2_s1322 : ck_Sum := (((2 : Nat), (0 : Nat), (0 : Nat)), (245 : Nat), [.inr (.inr (.inl (226 : Nat))), .inl ((0 : Int), (5 : Int), []), .inl ((0 : Int), (299 : Int), []), .inl ((0 : Int), (299 : Int), []), .inl ((-2147483648 : Int), (-1 : Int), [])], ([], [], [((227 : Nat), (9 : Int), (9 : Int), ((0 : Int), (299 : Int), [((11 : Nat), (0 : Int))]))]), ([((226 : Nat), (0 : Int), (0 : Int))], []), [(.inr (some (.inl (ck_one 0))), (245 : Nat), ([], [], [((226 : Nat), (0 : Int), (0 : Int), ((1 : Int), (3 : Int), []))]))])
set_option maxRecDepth 100000 in
theorem p2_s1322_s {X : Int → Int} {LX : Nat} : ck_Ok p2_O X LX 324 p2_s1322 := ck_okq (cuts := []) (f := 146) ⟨p2_nmu, ck_E1 (ck_S1 p2_s290_s ck_S0) (ck_E1 (ck_S1 p2_s241_s (ck_S1 p2_s242_s (ck_S1 p2_s243_s (ck_S1 p2_s552_s (ck_S1 p2_s244_s ck_S0))))) (ck_E1 (ck_S1 p2_s263_s ck_S0) (ck_E1 (ck_S1 p2_s190_s ck_S0) (ck_E1 (ck_S1 p2_s1321_s ck_S0) ck_E0))))⟩ (by decide +kernel)
set_option maxRecDepth 100000 in
/-- GlacierMailModel.in -/
noncomputable def p2_s1323 : ck_Sum := (((0 : Nat), (0 : Nat), (0 : Nat)), (245 : Nat), [.inl ((10 : Int), (2147483647 : Int), []), .inl (ck_one 0), .inl (ck_one 2)], ([], [], []), ([], []), [(.inr (some (.inl (ck_one 0))), (245 : Nat), ([], [], []))])
set_option maxRecDepth 100000 in
theorem p2_s1323_s {X : Int → Int} {LX : Nat} : ck_Ok p2_O X LX 286 p2_s1323 := ck_okq (cuts := []) (f := 86) ⟨p2_nmu, ck_E0⟩ (by decide +kernel)
set_option maxRecDepth 100000 in
/-- GlacierMailModel.throwsFor -/
noncomputable def p2_s1324 : ck_Sum := (((2 : Nat), (0 : Nat), (0 : Nat)), (245 : Nat), [.inr (.inr (.inl (226 : Nat))), .inl ((0 : Int), (5 : Int), []), .inl ((0 : Int), (299 : Int), []), .inl ((0 : Int), (299 : Int), []), .inl ((10 : Int), (2147483647 : Int), [])], ([], [], [((227 : Nat), (9 : Int), (9 : Int), ((0 : Int), (299 : Int), [((11 : Nat), (0 : Int))]))]), ([((226 : Nat), (0 : Int), (0 : Int))], []), [(.inr (some (.inl (ck_one 0))), (245 : Nat), ([], [], [((226 : Nat), (0 : Int), (0 : Int), ((1 : Int), (3 : Int), []))]))])
set_option maxRecDepth 100000 in
theorem p2_s1324_s {X : Int → Int} {LX : Nat} : ck_Ok p2_O X LX 324 p2_s1324 := ck_okq (cuts := []) (f := 146) ⟨p2_nmu, ck_E1 (ck_S1 p2_s290_s ck_S0) (ck_E1 (ck_S1 p2_s241_s (ck_S1 p2_s242_s (ck_S1 p2_s243_s (ck_S1 p2_s552_s (ck_S1 p2_s244_s ck_S0))))) (ck_E1 (ck_S1 p2_s263_s ck_S0) (ck_E1 (ck_S1 p2_s190_s ck_S0) (ck_E1 (ck_S1 p2_s1323_s ck_S0) ck_E0))))⟩ (by decide +kernel)
set_option maxRecDepth 100000 in
/-- GlacierMailModel.in -/
noncomputable def p2_s1325 : ck_Sum := (((0 : Nat), (0 : Nat), (0 : Nat)), (245 : Nat), [.inl ((0 : Int), (9 : Int), []), .inl (ck_one 0), .inl (ck_one 2)], ([], [], []), ([], []), [(.inr (some (.inl (ck_one 0))), (245 : Nat), ([], [], [])), (.inr (some (.inl (ck_one 1))), (245 : Nat), ([], [], []))])
set_option maxRecDepth 100000 in
theorem p2_s1325_s {X : Int → Int} {LX : Nat} : ck_Ok p2_O X LX 286 p2_s1325 := ck_okq (cuts := []) (f := 88) ⟨p2_nmu, ck_E0⟩ (by decide +kernel)
set_option maxRecDepth 100000 in
/-- GlacierMail.latest -/
noncomputable def p2_s1328 : ck_Sum := (((8 : Nat), (1 : Nat), (6 : Nat)), (245 : Nat), [.inr (.inr (.inl (1 : Nat))), .inl ((-2147483648 : Int), (-1 : Int), []), .inl ((-2147483648 : Int), (2147483647 : Int), [])], ([], [], []), ([], []), [(.inl (3 : Nat), (245 : Nat), ([], [], []))])
set_option maxRecDepth 100000 in
theorem p2_s1328_s {X : Int → Int} {LX : Nat} : ck_Ok p2_O X LX 169 p2_s1328 := ck_okq (cuts := []) (f := 76) ⟨p2_nmu, ck_E1 (ck_S1 p2_s322_s ck_S0) ck_E0⟩ (by decide +kernel)
set_option maxRecDepth 100000 in
/-- GlacierMail.latest -/
noncomputable def p2_s1329 : ck_Sum := (((8 : Nat), (1 : Nat), (6 : Nat)), (245 : Nat), [.inr (.inr (.inl (1 : Nat))), .inl ((8 : Int), (2147483647 : Int), []), .inl ((-2147483648 : Int), (2147483647 : Int), [])], ([], [], []), ([], []), [(.inl (3 : Nat), (245 : Nat), ([], [], []))])
set_option maxRecDepth 100000 in
theorem p2_s1329_s {X : Int → Int} {LX : Nat} : ck_Ok p2_O X LX 169 p2_s1329 := ck_okq (cuts := []) (f := 76) ⟨p2_nmu, ck_E1 (ck_S1 p2_s325_s ck_S0) ck_E0⟩ (by decide +kernel)
set_option maxRecDepth 100000 in
/-- GlacierMail.latest -/
noncomputable def p2_s1330 : ck_Sum := (((8 : Nat), (2 : Nat), (12 : Nat)), (245 : Nat), [.inr (.inr (.inl (1 : Nat))), .inl ((0 : Int), (7 : Int), []), .inl ((-2147483648 : Int), (-1 : Int), [])], ([], [], []), ([], []), [(.inl (3 : Nat), (245 : Nat), ([], [], [])), (.inl (0 : Nat), (245 : Nat), ([], [], []))])
set_option maxRecDepth 100000 in
theorem p2_s1330_s {X : Int → Int} {LX : Nat} : ck_Ok p2_O X LX 169 p2_s1330 := ck_okq (cuts := []) (f := 82) ⟨p2_nmu, ck_E1 (ck_S1 p2_s328_s ck_S0) (ck_E1 (ck_S1 p2_s249_s ck_S0) ck_E0)⟩ (by decide +kernel)
set_option maxRecDepth 100000 in
/-- GlacierMail.latest -/
noncomputable def p2_s1331 : ck_Sum := (((8 : Nat), (2 : Nat), (12 : Nat)), (245 : Nat), [.inr (.inr (.inl (1 : Nat))), .inl ((0 : Int), (7 : Int), []), .inl ((300 : Int), (2147483647 : Int), [])], ([], [], []), ([], []), [(.inl (3 : Nat), (245 : Nat), ([], [], [])), (.inl (0 : Nat), (245 : Nat), ([], [], []))])
set_option maxRecDepth 100000 in
theorem p2_s1331_s {X : Int → Int} {LX : Nat} : ck_Ok p2_O X LX 169 p2_s1331 := ck_okq (cuts := []) (f := 82) ⟨p2_nmu, ck_E1 (ck_S1 p2_s328_s ck_S0) (ck_E1 (ck_S1 p2_s251_s ck_S0) ck_E0)⟩ (by decide +kernel)
set_option maxRecDepth 100000 in
/-- GlacierMail$Way.startHut -/
noncomputable def p2_s1332 : ck_Sum := (((1 : Nat), (0 : Nat), (0 : Nat)), (245 : Nat), [.inr (.inr (.inl (206 : Nat))), .inl ((0 : Int), (7 : Int), []), .inl ((0 : Int), (299 : Int), [])], ([], [], []), ([((206 : Nat), (2 : Int), (8 : Int))], []), [(.inr none, (245 : Nat), ([], [], zl183))])
set_option maxRecDepth 100000 in
theorem p2_s1332_s {X : Int → Int} {LX : Nat} : ck_Ok p2_O X LX 170 p2_s1332 := ck_okq (cuts := []) (f := 104) ⟨p2_nmu, ck_E1 (ck_S1 p2_s356_s ck_S0) (ck_E1 (ck_S1 p2_s1313_s ck_S0) ck_E0)⟩ (by decide +kernel)
set_option maxRecDepth 100000 in
/-- GlacierMail.latest -/
noncomputable def p2_s1333 : ck_Sum := (((8 : Nat), (1 : Nat), (6 : Nat)), (245 : Nat), [.inr (.inr (.inl (1 : Nat))), .inl ((0 : Int), (7 : Int), []), .inl ((0 : Int), (299 : Int), [])], ([], [((3 : Nat), (8 : Int), (0 : Nat))], [((3 : Nat), (6 : Int), (6 : Int), ((0 : Int), (299 : Int), [((10 : Nat), (0 : Int))]))]), ([((206 : Nat), (2 : Int), (8 : Int))], []), [(.inl (3 : Nat), (245 : Nat), ([], [], [])), (.inr (some (.inl (ck_one (-1)))), (245 : Nat), ([], [], [])), (.inr (some (.inl ((0 : Int), (299 : Int), []))), (245 : Nat), ([], [], [((206 : Nat), (4 : Int), (4 : Int), ck_one (-1))]))])
set_option maxRecDepth 100000 in
theorem p2_s1333_s {X : Int → Int} {LX : Nat} : ck_Ok p2_O X LX 169 p2_s1333 := ck_okq (cuts := [((12 : Nat), [some (.inr (.inr (.inl (1 : Nat)))), some (.inl ((0 : Int), (7 : Int), [])), some (.inl ((0 : Int), (299 : Int), [])), some (.inl ((-1 : Int), (299 : Int), []))], ([], [((3 : Nat), (8 : Int), (0 : Nat))], [((3 : Nat), (6 : Int), (6 : Int), ((0 : Int), (299 : Int), [((10 : Nat), (0 : Int))]))]), (100 : Nat), .inl (3 : Nat), false)]) (f := 166) ⟨p2_nmu, ck_E1 (ck_S1 p2_s328_s ck_S0) (ck_E1 (ck_S1 p2_s253_s ck_S0) (ck_E1 (ck_S1 p2_s1332_s ck_S0) (ck_E1 (ck_S1 p2_s346_s ck_S0) ck_E0)))⟩ (by decide +kernel)
set_option maxRecDepth 100000 in
/-- GlacierMailModel.latest -/
noncomputable def p2_s1334 : ck_Sum := (((2 : Nat), (0 : Nat), (0 : Nat)), (245 : Nat), [.inr (.inr (.inl (226 : Nat))), .inl ((-2147483648 : Int), (-1 : Int), []), .inl ((-2147483648 : Int), (2147483647 : Int), [])], ([], [], [((227 : Nat), (3 : Int), (3 : Int), ((0 : Int), (8 : Int), [((21 : Nat), (0 : Int))]))]), ([((226 : Nat), (0 : Int), (0 : Int))], []), [(.inr (some (.inl (ck_one 0))), (245 : Nat), ([], [], [((226 : Nat), (0 : Int), (0 : Int), ck_one 1)]))])
set_option maxRecDepth 100000 in
theorem p2_s1334_s {X : Int → Int} {LX : Nat} : ck_Ok p2_O X LX 326 p2_s1334 := ck_okq (cuts := []) (f := 94) ⟨p2_nmu, ck_E1 (ck_S1 p2_s359_s ck_S0) (ck_E1 (ck_S1 p2_s241_s ck_S0) ck_E0)⟩ (by decide +kernel)
set_option maxRecDepth 100000 in
/-- GlacierMailModel.latest -/
noncomputable def p2_s1335 : ck_Sum := (((2 : Nat), (0 : Nat), (0 : Nat)), (245 : Nat), [.inr (.inr (.inl (226 : Nat))), .inl ((8 : Int), (2147483647 : Int), []), .inl ((-2147483648 : Int), (2147483647 : Int), [])], ([], [], [((227 : Nat), (3 : Int), (3 : Int), ((0 : Int), (8 : Int), [((21 : Nat), (0 : Int))]))]), ([((226 : Nat), (0 : Int), (0 : Int))], []), [(.inr (some (.inl (ck_one 0))), (245 : Nat), ([], [], [((226 : Nat), (0 : Int), (0 : Int), ck_one 1)]))])
set_option maxRecDepth 100000 in
theorem p2_s1335_s {X : Int → Int} {LX : Nat} : ck_Ok p2_O X LX 326 p2_s1335 := ck_okq (cuts := []) (f := 94) ⟨p2_nmu, ck_E1 (ck_S1 p2_s362_s ck_S0) (ck_E1 (ck_S1 p2_s241_s ck_S0) ck_E0)⟩ (by decide +kernel)
set_option maxRecDepth 100000 in
/-- GlacierMailModel.latest -/
noncomputable def p2_s1336 : ck_Sum := (((2 : Nat), (0 : Nat), (0 : Nat)), (245 : Nat), [.inr (.inr (.inl (226 : Nat))), .inl ((0 : Int), (7 : Int), []), .inl ((-2147483648 : Int), (-1 : Int), [])], ([], [], [((227 : Nat), (3 : Int), (3 : Int), ((0 : Int), (8 : Int), [((21 : Nat), (0 : Int))]))]), ([((226 : Nat), (0 : Int), (0 : Int))], []), [(.inr (some (.inl (ck_one 0))), (245 : Nat), ([], [], [((226 : Nat), (0 : Int), (0 : Int), ((1 : Int), (2 : Int), []))]))])
set_option maxRecDepth 100000 in
theorem p2_s1336_s {X : Int → Int} {LX : Nat} : ck_Ok p2_O X LX 326 p2_s1336 := ck_okq (cuts := []) (f := 106) ⟨p2_nmu, ck_E1 (ck_S1 p2_s365_s ck_S0) (ck_E1 (ck_S1 p2_s241_s (ck_S1 p2_s242_s (ck_S1 p2_s244_s ck_S0))) (ck_E1 (ck_S1 p2_s257_s ck_S0) ck_E0))⟩ (by decide +kernel)
set_option maxRecDepth 100000 in
/-- GlacierMailModel.latest -/
noncomputable def p2_s1337 : ck_Sum := (((2 : Nat), (0 : Nat), (0 : Nat)), (245 : Nat), [.inr (.inr (.inl (226 : Nat))), .inl ((0 : Int), (7 : Int), []), .inl ((300 : Int), (2147483647 : Int), [])], ([], [], [((227 : Nat), (3 : Int), (3 : Int), ((0 : Int), (8 : Int), [((21 : Nat), (0 : Int))]))]), ([((226 : Nat), (0 : Int), (0 : Int))], []), [(.inr (some (.inl (ck_one 0))), (245 : Nat), ([], [], [((226 : Nat), (0 : Int), (0 : Int), ((1 : Int), (2 : Int), []))]))])
set_option maxRecDepth 100000 in
theorem p2_s1337_s {X : Int → Int} {LX : Nat} : ck_Ok p2_O X LX 326 p2_s1337 := ck_okq (cuts := []) (f := 106) ⟨p2_nmu, ck_E1 (ck_S1 p2_s365_s ck_S0) (ck_E1 (ck_S1 p2_s241_s (ck_S1 p2_s242_s (ck_S1 p2_s244_s ck_S0))) (ck_E1 (ck_S1 p2_s260_s ck_S0) ck_E0))⟩ (by decide +kernel)
set_option maxRecDepth 100000 in
/-- GlacierMail.hut -/
noncomputable def p2_s1339 : ck_Sum := (((8 : Nat), (1 : Nat), (6 : Nat)), (245 : Nat), [.inr (.inr (.inl (1 : Nat))), .inl ((-2147483648 : Int), (-1 : Int), []), .inl ((-2147483648 : Int), (2147483647 : Int), [])], ([], [], []), ([], []), [(.inl (3 : Nat), (245 : Nat), ([], [], []))])
set_option maxRecDepth 100000 in
theorem p2_s1339_s {X : Int → Int} {LX : Nat} : ck_Ok p2_O X LX 172 p2_s1339 := ck_okq (cuts := []) (f := 76) ⟨p2_nmu, ck_E1 (ck_S1 p2_s266_s ck_S0) ck_E0⟩ (by decide +kernel)
set_option maxRecDepth 100000 in
/-- GlacierMail.hut -/
noncomputable def p2_s1340 : ck_Sum := (((8 : Nat), (1 : Nat), (6 : Nat)), (245 : Nat), [.inr (.inr (.inl (1 : Nat))), .inl ((6 : Int), (2147483647 : Int), []), .inl ((-2147483648 : Int), (2147483647 : Int), [])], ([], [], []), ([], []), [(.inl (3 : Nat), (245 : Nat), ([], [], []))])
set_option maxRecDepth 100000 in
theorem p2_s1340_s {X : Int → Int} {LX : Nat} : ck_Ok p2_O X LX 172 p2_s1340 := ck_okq (cuts := []) (f := 76) ⟨p2_nmu, ck_E1 (ck_S1 p2_s269_s ck_S0) ck_E0⟩ (by decide +kernel)
set_option maxRecDepth 100000 in
/-- GlacierMail.hut -/
noncomputable def p2_s1341 : ck_Sum := (((8 : Nat), (2 : Nat), (12 : Nat)), (245 : Nat), [.inr (.inr (.inl (1 : Nat))), .inl ((0 : Int), (5 : Int), []), .inl ((-2147483648 : Int), (-1 : Int), [])], ([], [], []), ([], []), [(.inl (3 : Nat), (245 : Nat), ([], [], [])), (.inl (0 : Nat), (245 : Nat), ([], [], []))])
set_option maxRecDepth 100000 in
theorem p2_s1341_s {X : Int → Int} {LX : Nat} : ck_Ok p2_O X LX 172 p2_s1341 := ck_okq (cuts := []) (f := 84) ⟨p2_nmu, ck_E1 (ck_S1 p2_s272_s ck_S0) ck_E0⟩ (by decide +kernel)
set_option maxRecDepth 100000 in
/-- GlacierMail.hut -/
noncomputable def p2_s1342 : ck_Sum := (((8 : Nat), (2 : Nat), (12 : Nat)), (245 : Nat), [.inr (.inr (.inl (1 : Nat))), .inl ((0 : Int), (5 : Int), []), .inl ((300 : Int), (2147483647 : Int), [])], ([], [], []), ([], []), [(.inl (3 : Nat), (245 : Nat), ([], [], [])), (.inl (0 : Nat), (245 : Nat), ([], [], []))])
set_option maxRecDepth 100000 in
theorem p2_s1342_s {X : Int → Int} {LX : Nat} : ck_Ok p2_O X LX 172 p2_s1342 := ck_okq (cuts := []) (f := 90) ⟨p2_nmu, ck_E1 (ck_S1 p2_s272_s ck_S0) ck_E0⟩ (by decide +kernel)
set_option maxRecDepth 100000 in
/-- GlacierMail.hut -/
noncomputable def p2_s1343 : ck_Sum := (((8 : Nat), (2 : Nat), (12 : Nat)), (245 : Nat), [.inr (.inr (.inl (1 : Nat))), .inl ((0 : Int), (5 : Int), []), .inl ((0 : Int), (299 : Int), [])], ([], [((3 : Nat), (8 : Int), (0 : Nat))], [((3 : Nat), (6 : Int), (6 : Int), ((0 : Int), (299 : Int), [((10 : Nat), (0 : Int))]))]), ([((206 : Nat), (2 : Int), (8 : Int))], []), [(.inl (3 : Nat), (245 : Nat), ([], [], [])), (.inl (0 : Nat), (245 : Nat), ([], [], [])), (.inr (some (.inl (ck_one (-1)))), (245 : Nat), ([], [], [])), (.inr (some (.inl ((0 : Int), (98 : Int), []))), (245 : Nat), ([], [], [((206 : Nat), (4 : Int), (4 : Int), ck_one (-1))]))])
set_option maxRecDepth 100000 in
theorem p2_s1343_s {X : Int → Int} {LX : Nat} : ck_Ok p2_O X LX 172 p2_s1343 := ck_okq (cuts := [((47 : Nat), [some (.inr (.inr (.inl (1 : Nat)))), some (.inl ((0 : Int), (5 : Int), [])), some (.inl ((1 : Int), (299 : Int), [])), some (.inl ((1 : Int), (299 : Int), [])), some (.inl ((0 : Int), (167 : Int), []))], ([], [((3 : Nat), (8 : Int), (0 : Nat))], [((3 : Nat), (6 : Int), (6 : Int), ((0 : Int), (299 : Int), [((10 : Nat), (0 : Int))]))]), (100 : Nat), .inl (4 : Nat), true)]) (f := 182) ⟨p2_nmu, ck_E1 (ck_S1 p2_s272_s ck_S0) (ck_E1 (ck_S1 p2_s1313_s ck_S0) (ck_E1 (ck_S1 p2_s346_s ck_S0) ck_E0))⟩ (by decide +kernel)
set_option maxRecDepth 100000 in
/-- GlacierMailModel.hut -/
noncomputable def p2_s1344 : ck_Sum := (((2 : Nat), (0 : Nat), (0 : Nat)), (245 : Nat), [.inr (.inr (.inl (226 : Nat))), .inl ((-2147483648 : Int), (-1 : Int), []), .inl ((-2147483648 : Int), (2147483647 : Int), [])], ([], [], []), ([((226 : Nat), (0 : Int), (0 : Int))], []), [(.inr (some (.inl (ck_one 0))), (245 : Nat), ([], [], [((226 : Nat), (0 : Int), (0 : Int), ck_one 1)]))])
set_option maxRecDepth 100000 in
theorem p2_s1344_s {X : Int → Int} {LX : Nat} : ck_Ok p2_O X LX 327 p2_s1344 := ck_okq (cuts := []) (f := 94) ⟨p2_nmu, ck_E1 (ck_S1 p2_s284_s ck_S0) (ck_E1 (ck_S1 p2_s241_s ck_S0) ck_E0)⟩ (by decide +kernel)
set_option maxRecDepth 100000 in
/-- GlacierMailModel.hut -/
noncomputable def p2_s1345 : ck_Sum := (((2 : Nat), (0 : Nat), (0 : Nat)), (245 : Nat), [.inr (.inr (.inl (226 : Nat))), .inl ((6 : Int), (2147483647 : Int), []), .inl ((-2147483648 : Int), (2147483647 : Int), [])], ([], [], []), ([((226 : Nat), (0 : Int), (0 : Int))], []), [(.inr (some (.inl (ck_one 0))), (245 : Nat), ([], [], [((226 : Nat), (0 : Int), (0 : Int), ck_one 1)]))])
set_option maxRecDepth 100000 in
theorem p2_s1345_s {X : Int → Int} {LX : Nat} : ck_Ok p2_O X LX 327 p2_s1345 := ck_okq (cuts := []) (f := 94) ⟨p2_nmu, ck_E1 (ck_S1 p2_s287_s ck_S0) (ck_E1 (ck_S1 p2_s241_s ck_S0) ck_E0)⟩ (by decide +kernel)
set_option maxRecDepth 100000 in
/-- GlacierMailModel.in -/
noncomputable def p2_s1346 : ck_Sum := (((0 : Nat), (0 : Nat), (0 : Nat)), (245 : Nat), [.inl ((-2147483648 : Int), (-1 : Int), []), .inl (ck_one 1), .inl (ck_one 299)], ([], [], []), ([], []), [(.inr (some (.inl (ck_one 0))), (245 : Nat), ([], [], []))])
set_option maxRecDepth 100000 in
theorem p2_s1346_s {X : Int → Int} {LX : Nat} : ck_Ok p2_O X LX 286 p2_s1346 := ck_okq (cuts := []) (f := 80) ⟨p2_nmu, ck_E0⟩ (by decide +kernel)
set_option maxRecDepth 100000 in
/-- GlacierMailModel.hut -/
noncomputable def p2_s1347 : ck_Sum := (((2 : Nat), (0 : Nat), (0 : Nat)), (245 : Nat), [.inr (.inr (.inl (226 : Nat))), .inl ((0 : Int), (5 : Int), []), .inl ((-2147483648 : Int), (-1 : Int), [])], ([], [], []), ([((226 : Nat), (0 : Int), (0 : Int))], []), [(.inr (some (.inl (ck_one 0))), (245 : Nat), ([], [], [((226 : Nat), (0 : Int), (0 : Int), ((1 : Int), (2 : Int), []))]))])
set_option maxRecDepth 100000 in
theorem p2_s1347_s {X : Int → Int} {LX : Nat} : ck_Ok p2_O X LX 327 p2_s1347 := ck_okq (cuts := []) (f := 116) ⟨p2_nmu, ck_E1 (ck_S1 p2_s290_s ck_S0) (ck_E1 (ck_S1 p2_s241_s (ck_S1 p2_s242_s (ck_S1 p2_s244_s ck_S0))) (ck_E1 (ck_S1 p2_s1346_s ck_S0) ck_E0))⟩ (by decide +kernel)
set_option maxRecDepth 100000 in
/-- GlacierMailModel.in -/
noncomputable def p2_s1348 : ck_Sum := (((0 : Nat), (0 : Nat), (0 : Nat)), (245 : Nat), [.inl ((300 : Int), (2147483647 : Int), []), .inl (ck_one 1), .inl (ck_one 299)], ([], [], []), ([], []), [(.inr (some (.inl (ck_one 0))), (245 : Nat), ([], [], []))])
set_option maxRecDepth 100000 in
theorem p2_s1348_s {X : Int → Int} {LX : Nat} : ck_Ok p2_O X LX 286 p2_s1348 := ck_okq (cuts := []) (f := 86) ⟨p2_nmu, ck_E0⟩ (by decide +kernel)
set_option maxRecDepth 100000 in
/-- GlacierMailModel.hut -/
noncomputable def p2_s1349 : ck_Sum := (((2 : Nat), (0 : Nat), (0 : Nat)), (245 : Nat), [.inr (.inr (.inl (226 : Nat))), .inl ((0 : Int), (5 : Int), []), .inl ((300 : Int), (2147483647 : Int), [])], ([], [], []), ([((226 : Nat), (0 : Int), (0 : Int))], []), [(.inr (some (.inl (ck_one 0))), (245 : Nat), ([], [], [((226 : Nat), (0 : Int), (0 : Int), ((1 : Int), (2 : Int), []))]))])
set_option maxRecDepth 100000 in
theorem p2_s1349_s {X : Int → Int} {LX : Nat} : ck_Ok p2_O X LX 327 p2_s1349 := ck_okq (cuts := []) (f := 116) ⟨p2_nmu, ck_E1 (ck_S1 p2_s290_s ck_S0) (ck_E1 (ck_S1 p2_s241_s (ck_S1 p2_s242_s (ck_S1 p2_s244_s ck_S0))) (ck_E1 (ck_S1 p2_s1348_s ck_S0) ck_E0))⟩ (by decide +kernel)
set_option maxRecDepth 100000 in
/-- GlacierMailModel.in -/
noncomputable def p2_s1350 : ck_Sum := (((0 : Nat), (0 : Nat), (0 : Nat)), (245 : Nat), [.inl ((0 : Int), (299 : Int), []), .inl (ck_one 1), .inl (ck_one 299)], ([], [], []), ([], []), [(.inr (some (.inl (ck_one 0))), (245 : Nat), ([], [], [])), (.inr (some (.inl (ck_one 1))), (245 : Nat), ([], [], []))])
set_option maxRecDepth 100000 in
theorem p2_s1350_s {X : Int → Int} {LX : Nat} : ck_Ok p2_O X LX 286 p2_s1350 := ck_okq (cuts := []) (f := 88) ⟨p2_nmu, ck_E0⟩ (by decide +kernel)
set_option maxRecDepth 100000 in
/-- GlacierMail.without -/
noncomputable def p2_s1352 : ck_Sum := (((8 : Nat), (1 : Nat), (6 : Nat)), (245 : Nat), [.inr (.inr (.inl (1 : Nat))), .inl ((-2147483648 : Int), (-1 : Int), []), .inl ((-2147483648 : Int), (2147483647 : Int), [])], ([], [], []), ([], []), [(.inl (3 : Nat), (245 : Nat), ([], [], []))])
set_option maxRecDepth 100000 in
theorem p2_s1352_s {X : Int → Int} {LX : Nat} : ck_Ok p2_O X LX 174 p2_s1352 := ck_okq (cuts := []) (f := 76) ⟨p2_nmu, ck_E1 (ck_S1 p2_s387_s ck_S0) ck_E0⟩ (by decide +kernel)
set_option maxRecDepth 100000 in
/-- GlacierMail.without -/
noncomputable def p2_s1353 : ck_Sum := (((8 : Nat), (1 : Nat), (6 : Nat)), (245 : Nat), [.inr (.inr (.inl (1 : Nat))), .inl ((24 : Int), (2147483647 : Int), []), .inl ((-2147483648 : Int), (2147483647 : Int), [])], ([], [], []), ([], []), [(.inl (3 : Nat), (245 : Nat), ([], [], []))])
set_option maxRecDepth 100000 in
theorem p2_s1353_s {X : Int → Int} {LX : Nat} : ck_Ok p2_O X LX 174 p2_s1353 := ck_okq (cuts := []) (f := 76) ⟨p2_nmu, ck_E1 (ck_S1 p2_s390_s ck_S0) ck_E0⟩ (by decide +kernel)
set_option maxRecDepth 100000 in
/-- GlacierMail.without -/
noncomputable def p2_s1354 : ck_Sum := (((8 : Nat), (2 : Nat), (12 : Nat)), (245 : Nat), [.inr (.inr (.inl (1 : Nat))), .inl ((0 : Int), (23 : Int), []), .inl ((-2147483648 : Int), (-1 : Int), [])], ([], [], []), ([], []), [(.inl (3 : Nat), (245 : Nat), ([], [], []))])
set_option maxRecDepth 100000 in
theorem p2_s1354_s {X : Int → Int} {LX : Nat} : ck_Ok p2_O X LX 174 p2_s1354 := ck_okq (cuts := []) (f := 90) ⟨p2_nmu, ck_E1 (ck_S1 p2_s393_s ck_S0) (ck_E1 (ck_S1 p2_s139_s ck_S0) (ck_E1 (ck_S1 p2_s321_s ck_S0) ck_E0))⟩ (by decide +kernel)
set_option maxRecDepth 100000 in
/-- GlacierMail.without -/
noncomputable def p2_s1355 : ck_Sum := (((8 : Nat), (2 : Nat), (12 : Nat)), (245 : Nat), [.inr (.inr (.inl (1 : Nat))), .inl ((0 : Int), (23 : Int), []), .inl ((8 : Int), (2147483647 : Int), [])], ([], [], []), ([], []), [(.inl (3 : Nat), (245 : Nat), ([], [], []))])
set_option maxRecDepth 100000 in
theorem p2_s1355_s {X : Int → Int} {LX : Nat} : ck_Ok p2_O X LX 174 p2_s1355 := ck_okq (cuts := []) (f := 90) ⟨p2_nmu, ck_E1 (ck_S1 p2_s393_s ck_S0) (ck_E1 (ck_S1 p2_s139_s ck_S0) (ck_E1 (ck_S1 p2_s324_s ck_S0) ck_E0))⟩ (by decide +kernel)
set_option maxRecDepth 100000 in
/-- GlacierMail$Way.leaveOut -/
noncomputable def p2_s1356 : ck_Sum := (((0 : Nat), (0 : Nat), (0 : Nat)), (245 : Nat), [.inr (.inr (.inl (206 : Nat))), .inl ((0 : Int), (7 : Int), [])], ([], [], []), ([((206 : Nat), (4 : Int), (4 : Int))], []), [(.inr none, (245 : Nat), ([], [], [((206 : Nat), (4 : Int), (4 : Int), ((0 : Int), (7 : Int), []))]))])
set_option maxRecDepth 100000 in
theorem p2_s1356_s {X : Int → Int} {LX : Nat} : ck_Ok p2_O X LX 175 p2_s1356 := ck_okq (cuts := []) (f := 78) ⟨p2_nmu, ck_E0⟩ (by decide +kernel)
set_option maxRecDepth 100000 in
/-- GlacierMail.without -/
noncomputable def p2_s1357 : ck_Sum := (((8 : Nat), (2 : Nat), (12 : Nat)), (245 : Nat), [.inr (.inr (.inl (1 : Nat))), .inl ((0 : Int), (23 : Int), []), .inl ((0 : Int), (7 : Int), [])], ([], [((3 : Nat), (8 : Int), (0 : Nat))], []), ([((206 : Nat), (2 : Int), (8 : Int))], []), [(.inl (3 : Nat), (245 : Nat), ([], [], [])), (.inr (some (.inl ((-2147483648 : Int), (299 : Int), []))), (245 : Nat), ([], [], zl185))])
set_option maxRecDepth 100000 in
theorem p2_s1357_s {X : Int → Int} {LX : Nat} : ck_Ok p2_O X LX 174 p2_s1357 := ck_okq (cuts := []) (f := 116) ⟨p2_nmu, ck_E1 (ck_S1 p2_s393_s ck_S0) (ck_E1 (ck_S1 p2_s139_s ck_S0) (ck_E1 (ck_S1 p2_s327_s ck_S0) (ck_E1 (ck_S1 p2_s339_s ck_S0) (ck_E1 (ck_S1 p2_s1356_s ck_S0) (ck_E1 (ck_S1 p2_s346_s ck_S0) ck_E0)))))⟩ (by decide +kernel)
set_option maxRecDepth 100000 in
/-- GlacierMailModel.without -/
noncomputable def p2_s1358 : ck_Sum := (((2 : Nat), (0 : Nat), (0 : Nat)), (245 : Nat), [.inr (.inr (.inl (226 : Nat))), .inl ((-2147483648 : Int), (-1 : Int), []), .inl ((-2147483648 : Int), (2147483647 : Int), [])], ([], [], [((227 : Nat), (4 : Int), (4 : Int), ((0 : Int), (24 : Int), [((22 : Nat), (0 : Int))]))]), ([((226 : Nat), (0 : Int), (0 : Int))], []), [(.inr (some (.inl (ck_one 0))), (245 : Nat), ([], [], [((226 : Nat), (0 : Int), (0 : Int), ck_one 1)]))])
set_option maxRecDepth 100000 in
theorem p2_s1358_s {X : Int → Int} {LX : Nat} : ck_Ok p2_O X LX 328 p2_s1358 := ck_okq (cuts := []) (f := 100) ⟨p2_nmu, ck_E1 (ck_S1 p2_s400_s ck_S0) (ck_E1 (ck_S1 p2_s241_s ck_S0) ck_E0)⟩ (by decide +kernel)
set_option maxRecDepth 100000 in
/-- GlacierMailModel.without -/
noncomputable def p2_s1359 : ck_Sum := (((2 : Nat), (0 : Nat), (0 : Nat)), (245 : Nat), [.inr (.inr (.inl (226 : Nat))), .inl ((24 : Int), (2147483647 : Int), []), .inl ((-2147483648 : Int), (2147483647 : Int), [])], ([], [], [((227 : Nat), (4 : Int), (4 : Int), ((0 : Int), (24 : Int), [((22 : Nat), (0 : Int))]))]), ([((226 : Nat), (0 : Int), (0 : Int))], []), [(.inr (some (.inl (ck_one 0))), (245 : Nat), ([], [], [((226 : Nat), (0 : Int), (0 : Int), ck_one 1)]))])
set_option maxRecDepth 100000 in
theorem p2_s1359_s {X : Int → Int} {LX : Nat} : ck_Ok p2_O X LX 328 p2_s1359 := ck_okq (cuts := []) (f := 100) ⟨p2_nmu, ck_E1 (ck_S1 p2_s403_s ck_S0) (ck_E1 (ck_S1 p2_s241_s ck_S0) ck_E0)⟩ (by decide +kernel)
set_option maxRecDepth 100000 in
/-- GlacierMailModel.without -/
noncomputable def p2_s1360 : ck_Sum := (((2 : Nat), (0 : Nat), (0 : Nat)), (245 : Nat), [.inr (.inr (.inl (226 : Nat))), .inl ((0 : Int), (23 : Int), []), .inl ((-2147483648 : Int), (-1 : Int), [])], ([], [], zl186), ([((226 : Nat), (0 : Int), (0 : Int))], []), [(.inr (some (.inl (ck_one 0))), (245 : Nat), ([], [], [((226 : Nat), (0 : Int), (0 : Int), ck_one 1)]))])
set_option maxRecDepth 100000 in
theorem p2_s1360_s {X : Int → Int} {LX : Nat} : ck_Ok p2_O X LX 328 p2_s1360 := ck_okq (cuts := []) (f := 120) ⟨p2_nmu, ck_E1 (ck_S1 p2_s406_s ck_S0) (ck_E1 (ck_S1 p2_s241_s ck_S0) (ck_E1 (ck_S1 p2_s358_s ck_S0) ck_E0))⟩ (by decide +kernel)
set_option maxRecDepth 100000 in
/-- GlacierMailModel.without -/
noncomputable def p2_s1361 : ck_Sum := (((2 : Nat), (0 : Nat), (0 : Nat)), (245 : Nat), [.inr (.inr (.inl (226 : Nat))), .inl ((0 : Int), (23 : Int), []), .inl ((8 : Int), (2147483647 : Int), [])], ([], [], zl186), ([((226 : Nat), (0 : Int), (0 : Int))], []), [(.inr (some (.inl (ck_one 0))), (245 : Nat), ([], [], [((226 : Nat), (0 : Int), (0 : Int), ck_one 1)]))])
set_option maxRecDepth 100000 in
theorem p2_s1361_s {X : Int → Int} {LX : Nat} : ck_Ok p2_O X LX 328 p2_s1361 := ck_okq (cuts := []) (f := 120) ⟨p2_nmu, ck_E1 (ck_S1 p2_s406_s ck_S0) (ck_E1 (ck_S1 p2_s241_s ck_S0) (ck_E1 (ck_S1 p2_s361_s ck_S0) ck_E0))⟩ (by decide +kernel)
set_option maxRecDepth 100000 in
/-- GlacierMail.moved -/
noncomputable def p2_s1363 : ck_Sum := (((8 : Nat), (1 : Nat), (6 : Nat)), (245 : Nat), [.inr (.inr (.inl (1 : Nat))), .inl ((-2147483648 : Int), (-1 : Int), [])], ([], [], []), ([], []), [(.inl (3 : Nat), (245 : Nat), ([], [], []))])
set_option maxRecDepth 100000 in
theorem p2_s1363_s {X : Int → Int} {LX : Nat} : ck_Ok p2_O X LX 177 p2_s1363 := ck_okq (cuts := []) (f := 76) ⟨p2_nmu, ck_E1 (ck_S1 p2_s387_s ck_S0) ck_E0⟩ (by decide +kernel)
set_option maxRecDepth 100000 in
/-- GlacierMail.moved -/
noncomputable def p2_s1364 : ck_Sum := (((8 : Nat), (1 : Nat), (6 : Nat)), (245 : Nat), [.inr (.inr (.inl (1 : Nat))), .inl ((24 : Int), (2147483647 : Int), [])], ([], [], []), ([], []), [(.inl (3 : Nat), (245 : Nat), ([], [], []))])
set_option maxRecDepth 100000 in
theorem p2_s1364_s {X : Int → Int} {LX : Nat} : ck_Ok p2_O X LX 177 p2_s1364 := ck_okq (cuts := []) (f := 76) ⟨p2_nmu, ck_E1 (ck_S1 p2_s390_s ck_S0) ck_E0⟩ (by decide +kernel)
set_option maxRecDepth 100000 in
/-- GlacierMail.moved -/
noncomputable def p2_s1365 : ck_Sum := (((8 : Nat), (1 : Nat), (6 : Nat)), (245 : Nat), [.inr (.inr (.inl (1 : Nat))), .inl ((0 : Int), (23 : Int), [])], ([], [((3 : Nat), (8 : Int), (0 : Nat))], []), ([((206 : Nat), (2 : Int), (8 : Int))], []), [(.inl (3 : Nat), (245 : Nat), ([], [], [])), (.inr (some (.inl ((-2147483648 : Int), (-1 : Int), []))), (245 : Nat), ([], [], zl187)), (.inr (some (.inl ((0 : Int), (2147483647 : Int), []))), (245 : Nat), ([], [], zl188))])
set_option maxRecDepth 100000 in
theorem p2_s1365_s {X : Int → Int} {LX : Nat} : ck_Ok p2_O X LX 177 p2_s1365 := ck_okq (cuts := []) (f := 102) ⟨p2_nmu, ck_E1 (ck_S1 p2_s393_s ck_S0) (ck_E1 (ck_S1 p2_s339_s ck_S0) (ck_E1 (ck_S1 p2_s346_s ck_S0) ck_E0))⟩ (by decide +kernel)
set_option maxRecDepth 100000 in
/-- GlacierMailModel.moved -/
noncomputable def p2_s1366 : ck_Sum := (((2 : Nat), (0 : Nat), (0 : Nat)), (245 : Nat), [.inr (.inr (.inl (226 : Nat))), .inl ((-2147483648 : Int), (-1 : Int), [])], ([], [], [((227 : Nat), (4 : Int), (4 : Int), ((0 : Int), (24 : Int), [((22 : Nat), (0 : Int))]))]), ([((226 : Nat), (0 : Int), (0 : Int))], []), [(.inr (some (.inl (ck_one 0))), (245 : Nat), ([], [], [((226 : Nat), (0 : Int), (0 : Int), ck_one 1)]))])
set_option maxRecDepth 100000 in
theorem p2_s1366_s {X : Int → Int} {LX : Nat} : ck_Ok p2_O X LX 329 p2_s1366 := ck_okq (cuts := []) (f := 94) ⟨p2_nmu, ck_E1 (ck_S1 p2_s400_s ck_S0) (ck_E1 (ck_S1 p2_s241_s ck_S0) ck_E0)⟩ (by decide +kernel)
set_option maxRecDepth 100000 in
/-- GlacierMailModel.moved -/
noncomputable def p2_s1367 : ck_Sum := (((2 : Nat), (0 : Nat), (0 : Nat)), (245 : Nat), [.inr (.inr (.inl (226 : Nat))), .inl ((24 : Int), (2147483647 : Int), [])], ([], [], [((227 : Nat), (4 : Int), (4 : Int), ((0 : Int), (24 : Int), [((22 : Nat), (0 : Int))]))]), ([((226 : Nat), (0 : Int), (0 : Int))], []), [(.inr (some (.inl (ck_one 0))), (245 : Nat), ([], [], [((226 : Nat), (0 : Int), (0 : Int), ck_one 1)]))])
set_option maxRecDepth 100000 in
theorem p2_s1367_s {X : Int → Int} {LX : Nat} : ck_Ok p2_O X LX 329 p2_s1367 := ck_okq (cuts := []) (f := 94) ⟨p2_nmu, ck_E1 (ck_S1 p2_s403_s ck_S0) (ck_E1 (ck_S1 p2_s241_s ck_S0) ck_E0)⟩ (by decide +kernel)
set_option maxRecDepth 100000 in
/-- GlacierMail.outIn -/
noncomputable def p2_s1371 : ck_Sum := (((2 : Nat), (0 : Nat), (0 : Nat)), (245 : Nat), [.inr (.inr (.inl (1 : Nat))), .inl ((-2147483648 : Int), (299 : Int), []), .inl (ck_one 0)], ([], [], []), ([], []), [(.inr (some (.inl ((-2147483648 : Int), (2147483647 : Int), []))), (245 : Nat), ([], [], []))])
set_option maxRecDepth 100000 in
theorem p2_s1371_s {X : Int → Int} {LX : Nat} : ck_Ok p2_O X LX 47 p2_s1371 := ck_okq (cuts := [((5 : Nat), [some (.inr (.inr (.inl (1 : Nat)))), some (.inl ((-2147483648 : Int), (299 : Int), [])), some (.inl (ck_one 0)), some (.inl ((-2147483648 : Int), (2147483647 : Int), [])), some (.inl ((0 : Int), (24 : Int), []))], ([], [], []), (100 : Nat), .inl (4 : Nat), true)]) (f := 182) ⟨p2_nmu, ck_E1 (ck_S1 p2_s332_s ck_S0) (ck_E1 (ck_S1 p2_s350_s ck_S0) (ck_E1 (ck_S1 p2_s336_s ck_S0) ck_E0))⟩ (by decide +kernel)
set_option maxRecDepth 100000 in
/-- GlacierMailModel.outsIn -/
noncomputable def p2_s1374 : ck_Sum := (((2 : Nat), (0 : Nat), (0 : Nat)), (245 : Nat), [.inr (.inr (.inl (226 : Nat))), .inl ((0 : Int), (299 : Int), []), .inl ((-1 : Int), (7 : Int), []), .inl ((0 : Int), (1 : Int), [])], ([], [], [((227 : Nat), (4 : Int), (4 : Int), ((0 : Int), (24 : Int), [((22 : Nat), (0 : Int))]))]), ([], []), [(.inr (some (.inl ((-2147483648 : Int), (2147483647 : Int), []))), (245 : Nat), ([], [], []))])
set_option maxRecDepth 100000 in
theorem p2_s1374_s {X : Int → Int} {LX : Nat} : ck_Ok p2_O X LX 333 p2_s1374 := ck_okq (cuts := [((6 : Nat), [some (.inr (.inr (.inl (226 : Nat)))), some (.inl ((0 : Int), (299 : Int), [])), some (.inl ((-1 : Int), (7 : Int), [])), some (.inl ((0 : Int), (1 : Int), [])), some (.inl ((-2147483648 : Int), (2147483647 : Int), [])), some (.inl ((0 : Int), (24 : Int), []))], ([], [], [((227 : Nat), (4 : Int), (4 : Int), ((0 : Int), (24 : Int), [((22 : Nat), (0 : Int))]))]), (100 : Nat), .inl (5 : Nat), true)]) (f := 218) ⟨p2_nmu, ck_E1 (ck_S1 p2_s176_s ck_S0) (ck_E1 (ck_S1 p2_s374_s ck_S0) (ck_E1 (ck_S1 p2_s375_s ck_S0) ck_E0))⟩ (by decide +kernel)
set_option maxRecDepth 100000 in
/-- GlacierMail.passes -/
noncomputable def p2_s1376 : ck_Sum := (((8 : Nat), (1 : Nat), (6 : Nat)), (245 : Nat), [.inr (.inr (.inl (1 : Nat))), .inl ((-2147483648 : Int), (-1 : Int), [])], ([], [], []), ([], []), [(.inl (3 : Nat), (245 : Nat), ([], [], []))])
set_option maxRecDepth 100000 in
theorem p2_s1376_s {X : Int → Int} {LX : Nat} : ck_Ok p2_O X LX 179 p2_s1376 := ck_okq (cuts := []) (f := 76) ⟨p2_nmu, ck_E1 (ck_S1 p2_s387_s ck_S0) ck_E0⟩ (by decide +kernel)
set_option maxRecDepth 100000 in
/-- GlacierMail.passes -/
noncomputable def p2_s1377 : ck_Sum := (((8 : Nat), (1 : Nat), (6 : Nat)), (245 : Nat), [.inr (.inr (.inl (1 : Nat))), .inl ((24 : Int), (2147483647 : Int), [])], ([], [], []), ([], []), [(.inl (3 : Nat), (245 : Nat), ([], [], []))])
set_option maxRecDepth 100000 in
theorem p2_s1377_s {X : Int → Int} {LX : Nat} : ck_Ok p2_O X LX 179 p2_s1377 := ck_okq (cuts := []) (f := 76) ⟨p2_nmu, ck_E1 (ck_S1 p2_s390_s ck_S0) ck_E0⟩ (by decide +kernel)
set_option maxRecDepth 100000 in
/-- GlacierMail.sameLane -/
noncomputable def p2_s1378 : ck_Sum := (((1 : Nat), (0 : Nat), (0 : Nat)), (245 : Nat), [.inr (.inr (.inl (1 : Nat))), .inl ((0 : Int), (23 : Int), []), .inl ((0 : Int), (23 : Int), [])], ([], [], []), ([], []), [(.inr (some (.inl (ck_one 0))), (245 : Nat), ([], [], [])), (.inr (some (.inl (ck_one 1))), (245 : Nat), ([], [], []))])
set_option maxRecDepth 100000 in
theorem p2_s1378_s {X : Int → Int} {LX : Nat} : ck_Ok p2_O X LX 180 p2_s1378 := ck_okq (cuts := []) (f := 102) ⟨p2_nmu, ck_E1 (ck_S1 p2_s335_s ck_S0) ck_E0⟩ (by decide +kernel)
set_option maxRecDepth 100000 in
/-- GlacierMail$Way.start -/
noncomputable def p2_s1379 : ck_Sum := (((0 : Nat), (0 : Nat), (0 : Nat)), (245 : Nat), [.inr (.inr (.inl (207 : Nat))), .inl ((-1 : Int), (299 : Int), []), .inl ((-1 : Int), (299 : Int), []), .inl ((-1 : Int), (299 : Int), []), .inl (ck_one 0)], ([], [], []), ([((207 : Nat), (2 : Int), (8 : Int))], []), [(.inr none, (245 : Nat), ([], [], zl190))])
set_option maxRecDepth 100000 in
theorem p2_s1379_s {X : Int → Int} {LX : Nat} : ck_Ok p2_O X LX 29 p2_s1379 := ck_okq (cuts := []) (f := 114) ⟨p2_nmu, ck_E0⟩ (by decide +kernel)
set_option maxRecDepth 100000 in
/-- GlacierMail$Way.start -/
noncomputable def p2_s1380 : ck_Sum := (((0 : Nat), (0 : Nat), (0 : Nat)), (245 : Nat), [.inr (.inr (.inl (207 : Nat))), .inl ((-1 : Int), (299 : Int), []), .inl ((-1 : Int), (299 : Int), []), .inl ((-1 : Int), (299 : Int), []), .inl (ck_one 1)], ([], [], []), ([((207 : Nat), (2 : Int), (8 : Int))], []), [(.inr none, (245 : Nat), ([], [], zl191))])
set_option maxRecDepth 100000 in
theorem p2_s1380_s {X : Int → Int} {LX : Nat} : ck_Ok p2_O X LX 29 p2_s1380 := ck_okq (cuts := []) (f := 114) ⟨p2_nmu, ck_E0⟩ (by decide +kernel)
set_option maxRecDepth 100000 in
/-- GlacierMail$Way.startLetter -/
noncomputable def p2_s1381 : ck_Sum := (((2 : Nat), (0 : Nat), (0 : Nat)), (245 : Nat), [.inr (.inr (.inl (207 : Nat))), .inl ((0 : Int), (23 : Int), [])], ([], [], []), ([((207 : Nat), (2 : Int), (8 : Int))], []), [(.inr none, (245 : Nat), ([], [], zl192))])
set_option maxRecDepth 100000 in
theorem p2_s1381_s {X : Int → Int} {LX : Nat} : ck_Ok p2_O X LX 27 p2_s1381 := ck_okq (cuts := []) (f := 116) ⟨p2_nmu, ck_E1 (ck_S1 p2_s335_s ck_S0) (ck_E1 (ck_S1 p2_s336_s ck_S0) (ck_E1 (ck_S1 p2_s1379_s (ck_S1 p2_s1380_s ck_S0)) ck_E0))⟩ (by decide +kernel)
set_option maxRecDepth 100000 in
/-- GlacierMail$Way.isOut -/
noncomputable def p2_s1382 : ck_Sum := (((0 : Nat), (0 : Nat), (0 : Nat)), (245 : Nat), [.inr (.inr (.inl (207 : Nat)))], ([], [], []), ([], []), [(.inr (some (.inl (ck_one 0))), (245 : Nat), ([], [], [((207 : Nat), (5 : Int), (5 : Int), ((-2147483648 : Int), (98 : Int), []))])), (.inr (some (.inl (ck_one 1))), (245 : Nat), ([], [], [((207 : Nat), (5 : Int), (5 : Int), ((10 : Int), (2147483647 : Int), []))]))])
set_option maxRecDepth 100000 in
theorem p2_s1382_s {X : Int → Int} {LX : Nat} : ck_Ok p2_O X LX 31 p2_s1382 := ck_okq (cuts := []) (f := 88) ⟨p2_nmu, ck_E0⟩ (by decide +kernel)
set_option maxRecDepth 100000 in
/-- GlacierMail$Way.deepAfter -/
noncomputable def p2_s1383 : ck_Sum := (((1 : Nat), (0 : Nat), (0 : Nat)), (245 : Nat), [.inr (.inr (.inl (207 : Nat)))], ([], [], []), ([], []), [(.inr (some (.inl ((0 : Int), (99 : Int), []))), (245 : Nat), ([], [], []))])
set_option maxRecDepth 100000 in
theorem p2_s1383_s {X : Int → Int} {LX : Nat} : ck_Ok p2_O X LX 33 p2_s1383 := ck_okq (cuts := []) (f := 110) ⟨p2_nmu, ck_E1 (ck_S1 p2_s341_s ck_S0) ck_E0⟩ (by decide +kernel)
set_option maxRecDepth 100000 in
/-- GlacierMail$Way.takeFloods -/
noncomputable def p2_s1384 : ck_Sum := (((1 : Nat), (0 : Nat), (0 : Nat)), (245 : Nat), [.inr (.inr (.inl (207 : Nat)))], ([], [], []), ([((207 : Nat), (5 : Int), (5 : Int)), ((207 : Nat), (8 : Int), (8 : Int))], []), [(.inr none, (245 : Nat), ([], [], []))])
set_option maxRecDepth 100000 in
theorem p2_s1384_s {X : Int → Int} {LX : Nat} : ck_Ok p2_O X LX 43 p2_s1384 := ck_okq (cuts := [((22 : Nat), [some (.inr (.inr (.inl (207 : Nat)))), some (.inr (.inr (.inl (6 : Nat)))), some (.inl ((-2147483648 : Int), (2147483647 : Int), [])), some (.inl ((0 : Int), (9 : Int), [])), none], ([], [], []), (100 : Nat), .inl (3 : Nat), true)]) (f := 290) ⟨p2_nmu, ck_E1 (ck_S1 p2_s343_s ck_S0) (ck_E1 (ck_S1 p2_s139_s ck_S0) (ck_E1 (ck_S1 p2_s140_s ck_S0) ck_E0))⟩ (by decide +kernel)
set_option maxRecDepth 100000 in
/-- GlacierMail$Way.step -/
noncomputable def p2_s1385 : ck_Sum := (((2 : Nat), (0 : Nat), (0 : Nat)), (245 : Nat), [.inr (.inr (.inl (207 : Nat)))], ([], [((3 : Nat), (8 : Int), (0 : Nat))], []), ([((207 : Nat), (5 : Int), (8 : Int))], []), [(.inr none, (245 : Nat), ([], [], []))])
set_option maxRecDepth 100000 in
theorem p2_s1385_s {X : Int → Int} {LX : Nat} : ck_Ok p2_O X LX 32 p2_s1385 := ck_okq (cuts := []) (f := 134) ⟨p2_nmu, ck_E1 (ck_S1 p2_s1382_s ck_S0) (ck_E1 (ck_S1 p2_s1383_s ck_S0) (ck_E1 (ck_S1 p2_s308_s ck_S0) (ck_E1 (ck_S1 p2_s1384_s ck_S0) ck_E0)))⟩ (by decide +kernel)
set_option maxRecDepth 100000 in
/-- GlacierMail$Way.goOnTo -/
noncomputable def p2_s1386 : ck_Sum := (((3 : Nat), (0 : Nat), (0 : Nat)), (245 : Nat), [.inr (.inr (.inl (207 : Nat))), .inl ((0 : Int), (299 : Int), [])], ([], [((3 : Nat), (8 : Int), (0 : Nat))], []), ([((207 : Nat), (5 : Int), (8 : Int))], []), [(.inr none, (245 : Nat), ([], [], []))])
set_option maxRecDepth 100000 in
theorem p2_s1386_s {X : Int → Int} {LX : Nat} : ck_Ok p2_O X LX 148 p2_s1386 := ck_okq (cuts := [((5 : Nat), [some (.inr (.inr (.inl (207 : Nat)))), some (.inl ((0 : Int), (299 : Int), [])), some (.inl ((-2147483648 : Int), (2147483647 : Int), []))], ([], [((3 : Nat), (8 : Int), (0 : Nat))], []), (100 : Nat), .inl (2 : Nat), true)]) (f := 122) ⟨p2_nmu, ck_E1 (ck_S1 p2_s1385_s ck_S0) ck_E0⟩ (by decide +kernel)
set_option maxRecDepth 100000 in
/-- GlacierMail.startBoth -/
noncomputable def p2_s1387 : ck_Sum := (((4 : Nat), (0 : Nat), (0 : Nat)), (245 : Nat), [.inr (.inr (.inl (1 : Nat))), .inl ((0 : Int), (23 : Int), []), .inl ((0 : Int), (23 : Int), []), .inl (ck_one 0)], ([], [((3 : Nat), (8 : Int), (0 : Nat))], []), ([((206 : Nat), (2 : Int), (8 : Int)), ((207 : Nat), (2 : Int), (8 : Int))], []), [(.inr (some (.inl ((0 : Int), (299 : Int), []))), (245 : Nat), ([], [], zl86))])
set_option maxRecDepth 100000 in
theorem p2_s1387_s {X : Int → Int} {LX : Nat} : ck_Ok p2_O X LX 182 p2_s1387 := ck_okq (cuts := []) (f := 126) ⟨p2_nmu, ck_E1 (ck_S1 p2_s339_s (ck_S1 p2_s1381_s ck_S0)) (ck_E1 (ck_S1 p2_s421_s (ck_S1 p2_s1386_s ck_S0)) ck_E0)⟩ (by decide +kernel)
set_option maxRecDepth 100000 in
/-- GlacierMail.bothInIce -/
noncomputable def p2_s1388 : ck_Sum := (((1 : Nat), (0 : Nat), (0 : Nat)), (245 : Nat), [.inr (.inr (.inl (1 : Nat)))], ([], [], []), ([], []), [(.inr (some (.inl (ck_one 1))), (245 : Nat), ([], [], zl193)), (.inr (some (.inl (ck_one 0))), (245 : Nat), ([], [], []))])
set_option maxRecDepth 100000 in
theorem p2_s1388_s {X : Int → Int} {LX : Nat} : ck_Ok p2_O X LX 183 p2_s1388 := ck_okq (cuts := []) (f := 92) ⟨p2_nmu, ck_E1 (ck_S1 p2_s340_s (ck_S1 p2_s1382_s ck_S0)) ck_E0⟩ (by decide +kernel)
set_option maxRecDepth 100000 in
/-- GlacierMail.stepBoth -/
noncomputable def p2_s1389 : ck_Sum := (((3 : Nat), (0 : Nat), (0 : Nat)), (245 : Nat), [.inr (.inr (.inl (1 : Nat)))], ([], [((3 : Nat), (8 : Int), (0 : Nat))], []), ([((206 : Nat), (5 : Int), (8 : Int)), ((207 : Nat), (5 : Int), (8 : Int))], []), [(.inr none, (245 : Nat), ([], [], []))])
set_option maxRecDepth 100000 in
theorem p2_s1389_s {X : Int → Int} {LX : Nat} : ck_Ok p2_O X LX 184 p2_s1389 := ck_okq (cuts := []) (f := 84) ⟨p2_nmu, ck_E1 (ck_S1 p2_s345_s (ck_S1 p2_s1385_s ck_S0)) ck_E0⟩ (by decide +kernel)
set_option maxRecDepth 100000 in
/-- GlacierMail.passesBy -/
noncomputable def p2_s1390 : ck_Sum := (((5 : Nat), (0 : Nat), (0 : Nat)), (245 : Nat), [.inr (.inr (.inl (1 : Nat))), .inl ((0 : Int), (23 : Int), []), .inl ((0 : Int), (23 : Int), [])], ([], [((3 : Nat), (8 : Int), (0 : Nat))], []), ([((206 : Nat), (2 : Int), (8 : Int)), ((207 : Nat), (2 : Int), (8 : Int))], []), [(.inr (some (.inl (ck_one 0))), (245 : Nat), ([], [], zl86)), (.inr (some (.inl (ck_one 1))), (245 : Nat), ([], [], zl194))])
set_option maxRecDepth 100000 in
theorem p2_s1390_s {X : Int → Int} {LX : Nat} : ck_Ok p2_O X LX 181 p2_s1390 := ck_okq (cuts := [((39 : Nat), [some (.inr (.inr (.inl (1 : Nat)))), some (.inl ((0 : Int), (23 : Int), [])), some (.inl ((0 : Int), (23 : Int), [])), some (.inl ((0 : Int), (299 : Int), [])), some (.inl ((1 : Int), (300 : Int), []))], ([], [((3 : Nat), (8 : Int), (0 : Nat))], [((207 : Nat), (5 : Int), (5 : Int), ((-2147483648 : Int), (98 : Int), [])), ((206 : Nat), (5 : Int), (5 : Int), ((-2147483648 : Int), (98 : Int), [])), ((206 : Nat), (4 : Int), (4 : Int), ck_one (-1)), ((206 : Nat), (2 : Int), (2 : Int), ((-1 : Int), (299 : Int), []))]), (100 : Nat), .inl (4 : Nat), true)]) (f := 174) ⟨p2_nmu, ck_E1 (ck_S1 p2_s1387_s ck_S0) (ck_E1 (ck_S1 p2_s1388_s ck_S0) (ck_E1 (ck_S1 p2_s1389_s ck_S0) ck_E0))⟩ (by decide +kernel)
set_option maxRecDepth 100000 in
/-- GlacierMail.passes -/
noncomputable def p2_s1391 : ck_Sum := (((8 : Nat), (1 : Nat), (6 : Nat)), (245 : Nat), [.inr (.inr (.inl (1 : Nat))), .inl ((0 : Int), (23 : Int), [])], ([], [((3 : Nat), (8 : Int), (0 : Nat))], []), ([((206 : Nat), (2 : Int), (8 : Int)), ((207 : Nat), (2 : Int), (8 : Int))], []), [(.inl (3 : Nat), (245 : Nat), ([], [], [])), (.inr (some (.inl ((-2147483648 : Int), (2147483647 : Int), []))), (245 : Nat), ([], [], []))])
set_option maxRecDepth 100000 in
theorem p2_s1391_s {X : Int → Int} {LX : Nat} : ck_Ok p2_O X LX 179 p2_s1391 := ck_okq (cuts := [((9 : Nat), [some (.inr (.inr (.inl (1 : Nat)))), some (.inl ((0 : Int), (23 : Int), [])), some (.inl ((-2147483648 : Int), (2147483647 : Int), [])), some (.inl ((0 : Int), (24 : Int), []))], ([], [((3 : Nat), (8 : Int), (0 : Nat))], []), (100 : Nat), .inl (3 : Nat), true)]) (f := 182) ⟨p2_nmu, ck_E1 (ck_S1 p2_s393_s ck_S0) (ck_E1 (ck_S1 p2_s331_s ck_S0) (ck_E1 (ck_S1 p2_s1378_s ck_S0) (ck_E1 (ck_S1 p2_s1390_s ck_S0) ck_E0)))⟩ (by decide +kernel)
set_option maxRecDepth 100000 in
/-- GlacierMailModel.passes -/
noncomputable def p2_s1392 : ck_Sum := (((2 : Nat), (0 : Nat), (0 : Nat)), (245 : Nat), [.inr (.inr (.inl (226 : Nat))), .inl ((-2147483648 : Int), (-1 : Int), [])], ([], [], [((227 : Nat), (4 : Int), (4 : Int), ((0 : Int), (24 : Int), [((22 : Nat), (0 : Int))]))]), ([((226 : Nat), (0 : Int), (0 : Int))], []), [(.inr (some (.inl (ck_one 0))), (245 : Nat), ([], [], [((226 : Nat), (0 : Int), (0 : Int), ck_one 1)]))])
set_option maxRecDepth 100000 in
theorem p2_s1392_s {X : Int → Int} {LX : Nat} : ck_Ok p2_O X LX 334 p2_s1392 := ck_okq (cuts := []) (f := 94) ⟨p2_nmu, ck_E1 (ck_S1 p2_s400_s ck_S0) (ck_E1 (ck_S1 p2_s241_s ck_S0) ck_E0)⟩ (by decide +kernel)
set_option maxRecDepth 100000 in
/-- GlacierMailModel.passes -/
noncomputable def p2_s1393 : ck_Sum := (((2 : Nat), (0 : Nat), (0 : Nat)), (245 : Nat), [.inr (.inr (.inl (226 : Nat))), .inl ((24 : Int), (2147483647 : Int), [])], ([], [], [((227 : Nat), (4 : Int), (4 : Int), ((0 : Int), (24 : Int), [((22 : Nat), (0 : Int))]))]), ([((226 : Nat), (0 : Int), (0 : Int))], []), [(.inr (some (.inl (ck_one 0))), (245 : Nat), ([], [], [((226 : Nat), (0 : Int), (0 : Int), ck_one 1)]))])
set_option maxRecDepth 100000 in
theorem p2_s1393_s {X : Int → Int} {LX : Nat} : ck_Ok p2_O X LX 334 p2_s1393 := ck_okq (cuts := []) (f := 94) ⟨p2_nmu, ck_E1 (ck_S1 p2_s403_s ck_S0) (ck_E1 (ck_S1 p2_s241_s ck_S0) ck_E0)⟩ (by decide +kernel)
set_option maxRecDepth 100000 in
/-- GlacierMailModel.keepsRows -/
noncomputable def p2_s1394 : ck_Sum := (((0 : Nat), (0 : Nat), (0 : Nat)), (245 : Nat), [.inr (.inr (.inl (226 : Nat)))], ([], [], []), ([((239 : Nat), (0 : Int), (299 : Int))], []), [(.inr none, (245 : Nat), ([], [], []))])
set_option maxRecDepth 100000 in
theorem p2_s1394_s {X : Int → Int} {LX : Nat} : ck_Ok p2_O X LX 335 p2_s1394 := ck_okq (cuts := [((2 : Nat), [some (.inr (.inr (.inl (226 : Nat)))), some (.inl ((0 : Int), (300 : Int), []))], ([], [], []), (100 : Nat), .inl (1 : Nat), true)]) (f := 146) ⟨p2_nmu, ck_E0⟩ (by decide +kernel)
set_option maxRecDepth 100000 in
/-- GlacierMailModel.isOtherInIce -/
noncomputable def p2_s1395 : ck_Sum := (((1 : Nat), (0 : Nat), (0 : Nat)), (245 : Nat), [.inr (.inr (.inl (226 : Nat))), .inl ((0 : Int), (299 : Int), [])], ([], [], []), ([], []), [(.inr (some (.inl (ck_one 0))), (245 : Nat), ([], [], [])), (.inr (some (.inl (ck_one 1))), (245 : Nat), ([], [], []))])
set_option maxRecDepth 100000 in
theorem p2_s1395_s {X : Int → Int} {LX : Nat} : ck_Ok p2_O X LX 337 p2_s1395 := ck_okq (cuts := []) (f := 100) ⟨p2_nmu, ck_E1 (ck_S1 p2_s180_s ck_S0) ck_E0⟩ (by decide +kernel)
set_option maxRecDepth 100000 in
/-- GlacierMailModel.isOtherInIce -/
noncomputable def p2_s1396 : ck_Sum := (((1 : Nat), (0 : Nat), (0 : Nat)), (245 : Nat), [.inr (.inr (.inl (226 : Nat))), .inl ((1 : Int), (299 : Int), [])], ([], [], []), ([], []), [(.inr (some (.inl (ck_one 0))), (245 : Nat), ([], [], [])), (.inr (some (.inl (ck_one 1))), (245 : Nat), ([], [], []))])
set_option maxRecDepth 100000 in
theorem p2_s1396_s {X : Int → Int} {LX : Nat} : ck_Ok p2_O X LX 337 p2_s1396 := ck_okq (cuts := []) (f := 100) ⟨p2_nmu, ck_E1 (ck_S1 p2_s180_s ck_S0) ck_E0⟩ (by decide +kernel)
set_option maxRecDepth 100000 in
/-- GlacierMailModel.isPassing -/
noncomputable def p2_s1397 : ck_Sum := (((2 : Nat), (0 : Nat), (0 : Nat)), (245 : Nat), [.inr (.inr (.inl (226 : Nat))), .inl ((0 : Int), (299 : Int), [])], ([], [], []), ([], []), [(.inr (some (.inl (ck_one 0))), (245 : Nat), ([], [], [])), (.inr (some (.inl (ck_one 1))), (245 : Nat), ([], [], []))])
set_option maxRecDepth 100000 in
theorem p2_s1397_s {X : Int → Int} {LX : Nat} : ck_Ok p2_O X LX 336 p2_s1397 := ck_okq (cuts := [((37 : Nat), [some (.inr (.inr (.inl (226 : Nat)))), some (.inl ((0 : Int), (299 : Int), [])), some (.inl ((1 : Int), (300 : Int), []))], ([], [], []), (100 : Nat), .inl (2 : Nat), true)]) (f := 182) ⟨p2_nmu, ck_E1 (ck_S1 p2_s412_s ck_S0) (ck_E1 (ck_S1 p2_s1395_s (ck_S1 p2_s1396_s ck_S0)) ck_E0)⟩ (by decide +kernel)
set_option maxRecDepth 100000 in
/-- GlacierMail.writers -/
noncomputable def p2_s1399 : ck_Sum := (((8 : Nat), (1 : Nat), (6 : Nat)), (245 : Nat), [.inr (.inr (.inl (1 : Nat))), .inl ((-2147483648 : Int), (-1 : Int), []), .inl ((-2147483648 : Int), (2147483647 : Int), []), .inl ((-2147483648 : Int), (2147483647 : Int), [])], ([], [], []), ([], []), [(.inl (3 : Nat), (245 : Nat), ([], [], []))])
set_option maxRecDepth 100000 in
theorem p2_s1399_s {X : Int → Int} {LX : Nat} : ck_Ok p2_O X LX 186 p2_s1399 := ck_okq (cuts := []) (f := 76) ⟨p2_nmu, ck_E1 (ck_S1 p2_s266_s ck_S0) ck_E0⟩ (by decide +kernel)
set_option maxRecDepth 100000 in
/-- GlacierMail.writers -/
noncomputable def p2_s1400 : ck_Sum := (((8 : Nat), (1 : Nat), (6 : Nat)), (245 : Nat), [.inr (.inr (.inl (1 : Nat))), .inl ((6 : Int), (2147483647 : Int), []), .inl ((-2147483648 : Int), (2147483647 : Int), []), .inl ((-2147483648 : Int), (2147483647 : Int), [])], ([], [], []), ([], []), [(.inl (3 : Nat), (245 : Nat), ([], [], []))])
set_option maxRecDepth 100000 in
theorem p2_s1400_s {X : Int → Int} {LX : Nat} : ck_Ok p2_O X LX 186 p2_s1400 := ck_okq (cuts := []) (f := 76) ⟨p2_nmu, ck_E1 (ck_S1 p2_s269_s ck_S0) ck_E0⟩ (by decide +kernel)
set_option maxRecDepth 100000 in
/-- GlacierMail.needFind -/
noncomputable def p2_s1401 : ck_Sum := (((7 : Nat), (1 : Nat), (6 : Nat)), (245 : Nat), [.inr (.inr (.inl (1 : Nat))), .inl ((-2147483648 : Int), (-1 : Int), []), .inl ((-2147483648 : Int), (2147483647 : Int), [])], ([], [], []), ([], []), [(.inl (0 : Nat), (245 : Nat), ([], [], []))])
set_option maxRecDepth 100000 in
theorem p2_s1401_s {X : Int → Int} {LX : Nat} : ck_Ok p2_O X LX 187 p2_s1401 := ck_okq (cuts := []) (f := 76) ⟨p2_nmu, ck_E1 (ck_S1 p2_s249_s ck_S0) ck_E0⟩ (by decide +kernel)
set_option maxRecDepth 100000 in
/-- GlacierMail.writers -/
noncomputable def p2_s1402 : ck_Sum := (((8 : Nat), (2 : Nat), (12 : Nat)), (245 : Nat), [.inr (.inr (.inl (1 : Nat))), .inl ((0 : Int), (5 : Int), []), .inl ((-2147483648 : Int), (-1 : Int), []), .inl ((-2147483648 : Int), (2147483647 : Int), [])], ([], [], []), ([], []), [(.inl (3 : Nat), (245 : Nat), ([], [], [])), (.inl (0 : Nat), (245 : Nat), ([], [], []))])
set_option maxRecDepth 100000 in
theorem p2_s1402_s {X : Int → Int} {LX : Nat} : ck_Ok p2_O X LX 186 p2_s1402 := ck_okq (cuts := []) (f := 84) ⟨p2_nmu, ck_E1 (ck_S1 p2_s272_s ck_S0) (ck_E1 (ck_S1 p2_s1401_s ck_S0) ck_E0)⟩ (by decide +kernel)
set_option maxRecDepth 100000 in
/-- GlacierMail.needFind -/
noncomputable def p2_s1403 : ck_Sum := (((7 : Nat), (1 : Nat), (6 : Nat)), (245 : Nat), [.inr (.inr (.inl (1 : Nat))), .inl ((300 : Int), (2147483647 : Int), []), .inl ((-2147483648 : Int), (2147483647 : Int), [])], ([], [], []), ([], []), [(.inl (0 : Nat), (245 : Nat), ([], [], []))])
set_option maxRecDepth 100000 in
theorem p2_s1403_s {X : Int → Int} {LX : Nat} : ck_Ok p2_O X LX 187 p2_s1403 := ck_okq (cuts := []) (f := 76) ⟨p2_nmu, ck_E1 (ck_S1 p2_s251_s ck_S0) ck_E0⟩ (by decide +kernel)
set_option maxRecDepth 100000 in
/-- GlacierMail.writers -/
noncomputable def p2_s1404 : ck_Sum := (((8 : Nat), (2 : Nat), (12 : Nat)), (245 : Nat), [.inr (.inr (.inl (1 : Nat))), .inl ((0 : Int), (5 : Int), []), .inl ((300 : Int), (2147483647 : Int), []), .inl ((-2147483648 : Int), (2147483647 : Int), [])], ([], [], []), ([], []), [(.inl (3 : Nat), (245 : Nat), ([], [], [])), (.inl (0 : Nat), (245 : Nat), ([], [], []))])
set_option maxRecDepth 100000 in
theorem p2_s1404_s {X : Int → Int} {LX : Nat} : ck_Ok p2_O X LX 186 p2_s1404 := ck_okq (cuts := []) (f := 84) ⟨p2_nmu, ck_E1 (ck_S1 p2_s272_s ck_S0) (ck_E1 (ck_S1 p2_s1403_s ck_S0) ck_E0)⟩ (by decide +kernel)
set_option maxRecDepth 100000 in
/-- GlacierMail.needFind -/
noncomputable def p2_s1405 : ck_Sum := (((6 : Nat), (1 : Nat), (6 : Nat)), (245 : Nat), [.inr (.inr (.inl (1 : Nat))), .inl ((0 : Int), (299 : Int), []), .inl ((-2147483648 : Int), (-1 : Int), [])], ([], [], []), ([], []), [(.inl (0 : Nat), (245 : Nat), ([], [], []))])
set_option maxRecDepth 100000 in
theorem p2_s1405_s {X : Int → Int} {LX : Nat} : ck_Ok p2_O X LX 187 p2_s1405 := ck_okq (cuts := []) (f := 82) ⟨p2_nmu, ck_E1 (ck_S1 p2_s253_s ck_S0) ck_E0⟩ (by decide +kernel)
end
/-! 78r80a18.sf -/
section
/-! EVERY CALL ENDS, whatever was done before (laid by wip/am/p2k.py). -/
set_option maxRecDepth 100000 in
/-- GlacierMail.writers -/
noncomputable def p2_s1406 : ck_Sum := (((8 : Nat), (2 : Nat), (12 : Nat)), (245 : Nat), [.inr (.inr (.inl (1 : Nat))), .inl ((0 : Int), (5 : Int), []), .inl ((0 : Int), (299 : Int), []), .inl ((-2147483648 : Int), (-1 : Int), [])], ([], [], []), ([], []), [(.inl (3 : Nat), (245 : Nat), ([], [], [])), (.inl (0 : Nat), (245 : Nat), ([], [], []))])
set_option maxRecDepth 100000 in
theorem p2_s1406_s {X : Int → Int} {LX : Nat} : ck_Ok p2_O X LX 186 p2_s1406 := ck_okq (cuts := []) (f := 84) ⟨p2_nmu, ck_E1 (ck_S1 p2_s272_s ck_S0) (ck_E1 (ck_S1 p2_s1405_s ck_S0) ck_E0)⟩ (by decide +kernel)
set_option maxRecDepth 100000 in
/-- GlacierMail.needFind -/
noncomputable def p2_s1407 : ck_Sum := (((6 : Nat), (1 : Nat), (6 : Nat)), (245 : Nat), [.inr (.inr (.inl (1 : Nat))), .inl ((0 : Int), (299 : Int), []), .inl ((100 : Int), (2147483647 : Int), [])], ([], [], []), ([], []), [(.inl (0 : Nat), (245 : Nat), ([], [], []))])
set_option maxRecDepth 100000 in
theorem p2_s1407_s {X : Int → Int} {LX : Nat} : ck_Ok p2_O X LX 187 p2_s1407 := ck_okq (cuts := []) (f := 88) ⟨p2_nmu, ck_E1 (ck_S1 p2_s253_s ck_S0) ck_E0⟩ (by decide +kernel)
set_option maxRecDepth 100000 in
/-- GlacierMail.writers -/
noncomputable def p2_s1408 : ck_Sum := (((8 : Nat), (2 : Nat), (12 : Nat)), (245 : Nat), [.inr (.inr (.inl (1 : Nat))), .inl ((0 : Int), (5 : Int), []), .inl ((0 : Int), (299 : Int), []), .inl ((100 : Int), (2147483647 : Int), [])], ([], [], []), ([], []), [(.inl (3 : Nat), (245 : Nat), ([], [], [])), (.inl (0 : Nat), (245 : Nat), ([], [], []))])
set_option maxRecDepth 100000 in
theorem p2_s1408_s {X : Int → Int} {LX : Nat} : ck_Ok p2_O X LX 186 p2_s1408 := ck_okq (cuts := []) (f := 84) ⟨p2_nmu, ck_E1 (ck_S1 p2_s272_s ck_S0) (ck_E1 (ck_S1 p2_s1407_s ck_S0) ck_E0)⟩ (by decide +kernel)
set_option maxRecDepth 100000 in
/-- GlacierMail.needFind -/
noncomputable def p2_s1409 : ck_Sum := (((1 : Nat), (0 : Nat), (0 : Nat)), (245 : Nat), [.inr (.inr (.inl (1 : Nat))), .inl ((0 : Int), (299 : Int), []), .inl ((0 : Int), (99 : Int), [])], ([], [], []), ([], []), [(.inr none, (245 : Nat), ([], [], []))])
set_option maxRecDepth 100000 in
theorem p2_s1409_s {X : Int → Int} {LX : Nat} : ck_Ok p2_O X LX 187 p2_s1409 := ck_okq (cuts := []) (f := 88) ⟨p2_nmu, ck_E1 (ck_S1 p2_s253_s ck_S0) ck_E0⟩ (by decide +kernel)
set_option maxRecDepth 100000 in
/-- GlacierMail.latestWriting -/
noncomputable def p2_s1410 : ck_Sum := (((4 : Nat), (0 : Nat), (0 : Nat)), (245 : Nat), [.inr (.inr (.inl (1 : Nat))), .inl ((0 : Int), (7 : Int), []), .inl ((0 : Int), (5 : Int), []), .inl ((0 : Int), (299 : Int), []), .inl ((0 : Int), (99 : Int), [])], ([], [((3 : Nat), (8 : Int), (0 : Nat))], []), ([((206 : Nat), (2 : Int), (8 : Int))], []), [(.inr (some (.inl (ck_one (-1)))), (245 : Nat), ([], [], [])), (.inr (some (.inl ((0 : Int), (298 : Int), []))), (245 : Nat), ([], [], [((206 : Nat), (4 : Int), (4 : Int), ck_one (-1))]))])
set_option maxRecDepth 100000 in
theorem p2_s1410_s {X : Int → Int} {LX : Nat} : ck_Ok p2_O X LX 188 p2_s1410 := ck_okq (cuts := [((23 : Nat), [some (.inr (.inr (.inl (1 : Nat)))), some (.inl ((0 : Int), (7 : Int), [])), some (.inl ((0 : Int), (5 : Int), [])), some (.inl ((0 : Int), (299 : Int), [])), some (.inl ((0 : Int), (99 : Int), [])), some (.inl ((-1 : Int), (298 : Int), []))], ([], [((3 : Nat), (8 : Int), (0 : Nat))], []), (100 : Nat), .inl (5 : Nat), false)]) (f := 174) ⟨p2_nmu, ck_E1 (ck_S1 p2_s356_s ck_S0) (ck_E1 (ck_S1 p2_s1332_s ck_S0) (ck_E1 (ck_S1 p2_s346_s ck_S0) ck_E0))⟩ (by decide +kernel)
set_option maxRecDepth 100000 in
/-- GlacierMail.writers -/
noncomputable def p2_s1411 : ck_Sum := (((8 : Nat), (1 : Nat), (6 : Nat)), (245 : Nat), [.inr (.inr (.inl (1 : Nat))), .inl ((0 : Int), (5 : Int), []), .inl ((0 : Int), (299 : Int), []), .inl ((0 : Int), (99 : Int), [])], ([], [((3 : Nat), (8 : Int), (0 : Nat))], []), ([((206 : Nat), (2 : Int), (8 : Int))], []), [(.inl (3 : Nat), (245 : Nat), ([], [], [])), (.inr (some (.inl ((-2147483648 : Int), (2147483647 : Int), []))), (245 : Nat), ([], [], []))])
set_option maxRecDepth 100000 in
theorem p2_s1411_s {X : Int → Int} {LX : Nat} : ck_Ok p2_O X LX 186 p2_s1411 := ck_okq (cuts := [((17 : Nat), [some (.inr (.inr (.inl (1 : Nat)))), some (.inl ((0 : Int), (5 : Int), [])), some (.inl ((0 : Int), (299 : Int), [])), some (.inl ((0 : Int), (99 : Int), [])), some (.inl ((-2147483648 : Int), (2147483647 : Int), [])), some (.inl ((0 : Int), (9 : Int), []))], ([], [((3 : Nat), (8 : Int), (0 : Nat))], []), (100 : Nat), .inl (5 : Nat), true)]) (f := 182) ⟨p2_nmu, ck_E1 (ck_S1 p2_s272_s ck_S0) (ck_E1 (ck_S1 p2_s1409_s ck_S0) (ck_E1 (ck_S1 p2_s320_s ck_S0) (ck_E1 (ck_S1 p2_s1410_s ck_S0) ck_E0)))⟩ (by decide +kernel)
set_option maxRecDepth 100000 in
/-- GlacierMailModel.writers -/
noncomputable def p2_s1412 : ck_Sum := (((2 : Nat), (0 : Nat), (0 : Nat)), (245 : Nat), [.inr (.inr (.inl (226 : Nat))), .inl ((-2147483648 : Int), (-1 : Int), []), .inl ((-2147483648 : Int), (2147483647 : Int), []), .inl ((-2147483648 : Int), (2147483647 : Int), [])], ([], [], []), ([((226 : Nat), (0 : Int), (0 : Int))], []), [(.inr (some (.inl (ck_one 0))), (245 : Nat), ([], [], [((226 : Nat), (0 : Int), (0 : Int), ck_one 1)]))])
set_option maxRecDepth 100000 in
theorem p2_s1412_s {X : Int → Int} {LX : Nat} : ck_Ok p2_O X LX 338 p2_s1412 := ck_okq (cuts := []) (f := 94) ⟨p2_nmu, ck_E1 (ck_S1 p2_s284_s ck_S0) (ck_E1 (ck_S1 p2_s241_s ck_S0) ck_E0)⟩ (by decide +kernel)
set_option maxRecDepth 100000 in
/-- GlacierMailModel.writers -/
noncomputable def p2_s1413 : ck_Sum := (((2 : Nat), (0 : Nat), (0 : Nat)), (245 : Nat), [.inr (.inr (.inl (226 : Nat))), .inl ((6 : Int), (2147483647 : Int), []), .inl ((-2147483648 : Int), (2147483647 : Int), []), .inl ((-2147483648 : Int), (2147483647 : Int), [])], ([], [], []), ([((226 : Nat), (0 : Int), (0 : Int))], []), [(.inr (some (.inl (ck_one 0))), (245 : Nat), ([], [], [((226 : Nat), (0 : Int), (0 : Int), ck_one 1)]))])
set_option maxRecDepth 100000 in
theorem p2_s1413_s {X : Int → Int} {LX : Nat} : ck_Ok p2_O X LX 338 p2_s1413 := ck_okq (cuts := []) (f := 94) ⟨p2_nmu, ck_E1 (ck_S1 p2_s287_s ck_S0) (ck_E1 (ck_S1 p2_s241_s ck_S0) ck_E0)⟩ (by decide +kernel)
set_option maxRecDepth 100000 in
/-- GlacierMailModel.writers -/
noncomputable def p2_s1414 : ck_Sum := (((2 : Nat), (0 : Nat), (0 : Nat)), (245 : Nat), [.inr (.inr (.inl (226 : Nat))), .inl ((0 : Int), (5 : Int), []), .inl ((-2147483648 : Int), (-1 : Int), []), .inl ((-2147483648 : Int), (2147483647 : Int), [])], ([], [], []), ([((226 : Nat), (0 : Int), (0 : Int))], []), [(.inr (some (.inl (ck_one 0))), (245 : Nat), ([], [], [((226 : Nat), (0 : Int), (0 : Int), ((1 : Int), (2 : Int), []))]))])
set_option maxRecDepth 100000 in
theorem p2_s1414_s {X : Int → Int} {LX : Nat} : ck_Ok p2_O X LX 338 p2_s1414 := ck_okq (cuts := []) (f := 112) ⟨p2_nmu, ck_E1 (ck_S1 p2_s290_s ck_S0) (ck_E1 (ck_S1 p2_s241_s (ck_S1 p2_s242_s (ck_S1 p2_s244_s ck_S0))) (ck_E1 (ck_S1 p2_s257_s ck_S0) ck_E0))⟩ (by decide +kernel)
set_option maxRecDepth 100000 in
/-- GlacierMailModel.writers -/
noncomputable def p2_s1415 : ck_Sum := (((2 : Nat), (0 : Nat), (0 : Nat)), (245 : Nat), [.inr (.inr (.inl (226 : Nat))), .inl ((0 : Int), (5 : Int), []), .inl ((300 : Int), (2147483647 : Int), []), .inl ((-2147483648 : Int), (2147483647 : Int), [])], ([], [], []), ([((226 : Nat), (0 : Int), (0 : Int))], []), [(.inr (some (.inl (ck_one 0))), (245 : Nat), ([], [], [((226 : Nat), (0 : Int), (0 : Int), ((1 : Int), (2 : Int), []))]))])
set_option maxRecDepth 100000 in
theorem p2_s1415_s {X : Int → Int} {LX : Nat} : ck_Ok p2_O X LX 338 p2_s1415 := ck_okq (cuts := []) (f := 112) ⟨p2_nmu, ck_E1 (ck_S1 p2_s290_s ck_S0) (ck_E1 (ck_S1 p2_s241_s (ck_S1 p2_s242_s (ck_S1 p2_s244_s ck_S0))) (ck_E1 (ck_S1 p2_s260_s ck_S0) ck_E0))⟩ (by decide +kernel)
set_option maxRecDepth 100000 in
/-- GlacierMailModel.in -/
noncomputable def p2_s1416 : ck_Sum := (((0 : Nat), (0 : Nat), (0 : Nat)), (245 : Nat), [.inl ((-2147483648 : Int), (-1 : Int), []), .inl (ck_one 0), .inl (ck_one 99)], ([], [], []), ([], []), [(.inr (some (.inl (ck_one 0))), (245 : Nat), ([], [], []))])
set_option maxRecDepth 100000 in
theorem p2_s1416_s {X : Int → Int} {LX : Nat} : ck_Ok p2_O X LX 286 p2_s1416 := ck_okq (cuts := []) (f := 80) ⟨p2_nmu, ck_E0⟩ (by decide +kernel)
set_option maxRecDepth 100000 in
/-- GlacierMailModel.writers -/
noncomputable def p2_s1417 : ck_Sum := (((2 : Nat), (0 : Nat), (0 : Nat)), (245 : Nat), [.inr (.inr (.inl (226 : Nat))), .inl ((0 : Int), (5 : Int), []), .inl ((0 : Int), (299 : Int), []), .inl ((-2147483648 : Int), (-1 : Int), [])], ([], [], []), ([((226 : Nat), (0 : Int), (0 : Int))], []), [(.inr (some (.inl (ck_one 0))), (245 : Nat), ([], [], [((226 : Nat), (0 : Int), (0 : Int), ((1 : Int), (2 : Int), []))]))])
set_option maxRecDepth 100000 in
theorem p2_s1417_s {X : Int → Int} {LX : Nat} : ck_Ok p2_O X LX 338 p2_s1417 := ck_okq (cuts := []) (f := 122) ⟨p2_nmu, ck_E1 (ck_S1 p2_s290_s ck_S0) (ck_E1 (ck_S1 p2_s241_s (ck_S1 p2_s242_s (ck_S1 p2_s244_s ck_S0))) (ck_E1 (ck_S1 p2_s263_s ck_S0) (ck_E1 (ck_S1 p2_s1416_s ck_S0) ck_E0)))⟩ (by decide +kernel)
set_option maxRecDepth 100000 in
/-- GlacierMailModel.in -/
noncomputable def p2_s1418 : ck_Sum := (((0 : Nat), (0 : Nat), (0 : Nat)), (245 : Nat), [.inl ((100 : Int), (2147483647 : Int), []), .inl (ck_one 0), .inl (ck_one 99)], ([], [], []), ([], []), [(.inr (some (.inl (ck_one 0))), (245 : Nat), ([], [], []))])
set_option maxRecDepth 100000 in
theorem p2_s1418_s {X : Int → Int} {LX : Nat} : ck_Ok p2_O X LX 286 p2_s1418 := ck_okq (cuts := []) (f := 86) ⟨p2_nmu, ck_E0⟩ (by decide +kernel)
set_option maxRecDepth 100000 in
/-- GlacierMailModel.writers -/
noncomputable def p2_s1419 : ck_Sum := (((2 : Nat), (0 : Nat), (0 : Nat)), (245 : Nat), [.inr (.inr (.inl (226 : Nat))), .inl ((0 : Int), (5 : Int), []), .inl ((0 : Int), (299 : Int), []), .inl ((100 : Int), (2147483647 : Int), [])], ([], [], []), ([((226 : Nat), (0 : Int), (0 : Int))], []), [(.inr (some (.inl (ck_one 0))), (245 : Nat), ([], [], [((226 : Nat), (0 : Int), (0 : Int), ((1 : Int), (2 : Int), []))]))])
set_option maxRecDepth 100000 in
theorem p2_s1419_s {X : Int → Int} {LX : Nat} : ck_Ok p2_O X LX 338 p2_s1419 := ck_okq (cuts := []) (f := 122) ⟨p2_nmu, ck_E1 (ck_S1 p2_s290_s ck_S0) (ck_E1 (ck_S1 p2_s241_s (ck_S1 p2_s242_s (ck_S1 p2_s244_s ck_S0))) (ck_E1 (ck_S1 p2_s263_s ck_S0) (ck_E1 (ck_S1 p2_s1418_s ck_S0) ck_E0)))⟩ (by decide +kernel)
set_option maxRecDepth 100000 in
/-- GlacierMailModel.in -/
noncomputable def p2_s1420 : ck_Sum := (((0 : Nat), (0 : Nat), (0 : Nat)), (245 : Nat), [.inl ((0 : Int), (99 : Int), []), .inl (ck_one 0), .inl (ck_one 99)], ([], [], []), ([], []), [(.inr (some (.inl (ck_one 1))), (245 : Nat), ([], [], []))])
set_option maxRecDepth 100000 in
theorem p2_s1420_s {X : Int → Int} {LX : Nat} : ck_Ok p2_O X LX 286 p2_s1420 := ck_okq (cuts := []) (f := 88) ⟨p2_nmu, ck_E0⟩ (by decide +kernel)
set_option maxRecDepth 100000 in
/-- GlacierMail.wrote -/
noncomputable def p2_s1423 : ck_Sum := (((8 : Nat), (1 : Nat), (6 : Nat)), (245 : Nat), [.inr (.inr (.inl (1 : Nat))), .inl ((-2147483648 : Int), (-1 : Int), []), .inl ((-2147483648 : Int), (2147483647 : Int), []), .inl ((-2147483648 : Int), (2147483647 : Int), []), .inl ((-2147483648 : Int), (2147483647 : Int), [])], ([], [], []), ([], []), [(.inl (3 : Nat), (245 : Nat), ([], [], []))])
set_option maxRecDepth 100000 in
theorem p2_s1423_s {X : Int → Int} {LX : Nat} : ck_Ok p2_O X LX 190 p2_s1423 := ck_okq (cuts := []) (f := 76) ⟨p2_nmu, ck_E1 (ck_S1 p2_s322_s ck_S0) ck_E0⟩ (by decide +kernel)
set_option maxRecDepth 100000 in
/-- GlacierMail.wrote -/
noncomputable def p2_s1424 : ck_Sum := (((8 : Nat), (1 : Nat), (6 : Nat)), (245 : Nat), [.inr (.inr (.inl (1 : Nat))), .inl ((8 : Int), (2147483647 : Int), []), .inl ((-2147483648 : Int), (2147483647 : Int), []), .inl ((-2147483648 : Int), (2147483647 : Int), []), .inl ((-2147483648 : Int), (2147483647 : Int), [])], ([], [], []), ([], []), [(.inl (3 : Nat), (245 : Nat), ([], [], []))])
set_option maxRecDepth 100000 in
theorem p2_s1424_s {X : Int → Int} {LX : Nat} : ck_Ok p2_O X LX 190 p2_s1424 := ck_okq (cuts := []) (f := 76) ⟨p2_nmu, ck_E1 (ck_S1 p2_s325_s ck_S0) ck_E0⟩ (by decide +kernel)
set_option maxRecDepth 100000 in
/-- GlacierMail.wrote -/
noncomputable def p2_s1425 : ck_Sum := (((8 : Nat), (2 : Nat), (12 : Nat)), (245 : Nat), [.inr (.inr (.inl (1 : Nat))), .inl ((0 : Int), (7 : Int), []), .inl ((-2147483648 : Int), (-1 : Int), []), .inl ((-2147483648 : Int), (2147483647 : Int), []), .inl ((-2147483648 : Int), (2147483647 : Int), [])], ([], [], []), ([], []), [(.inl (3 : Nat), (245 : Nat), ([], [], []))])
set_option maxRecDepth 100000 in
theorem p2_s1425_s {X : Int → Int} {LX : Nat} : ck_Ok p2_O X LX 190 p2_s1425 := ck_okq (cuts := []) (f := 82) ⟨p2_nmu, ck_E1 (ck_S1 p2_s328_s ck_S0) (ck_E1 (ck_S1 p2_s266_s ck_S0) ck_E0)⟩ (by decide +kernel)
set_option maxRecDepth 100000 in
/-- GlacierMail.wrote -/
noncomputable def p2_s1426 : ck_Sum := (((8 : Nat), (2 : Nat), (12 : Nat)), (245 : Nat), [.inr (.inr (.inl (1 : Nat))), .inl ((0 : Int), (7 : Int), []), .inl ((6 : Int), (2147483647 : Int), []), .inl ((-2147483648 : Int), (2147483647 : Int), []), .inl ((-2147483648 : Int), (2147483647 : Int), [])], ([], [], []), ([], []), [(.inl (3 : Nat), (245 : Nat), ([], [], []))])
set_option maxRecDepth 100000 in
theorem p2_s1426_s {X : Int → Int} {LX : Nat} : ck_Ok p2_O X LX 190 p2_s1426 := ck_okq (cuts := []) (f := 82) ⟨p2_nmu, ck_E1 (ck_S1 p2_s328_s ck_S0) (ck_E1 (ck_S1 p2_s269_s ck_S0) ck_E0)⟩ (by decide +kernel)
set_option maxRecDepth 100000 in
/-- GlacierMail.wrote -/
noncomputable def p2_s1427 : ck_Sum := (((8 : Nat), (3 : Nat), (18 : Nat)), (245 : Nat), [.inr (.inr (.inl (1 : Nat))), .inl ((0 : Int), (7 : Int), []), .inl ((0 : Int), (5 : Int), []), .inl ((-2147483648 : Int), (-1 : Int), []), .inl ((-2147483648 : Int), (2147483647 : Int), [])], ([], [], []), ([], []), [(.inl (3 : Nat), (245 : Nat), ([], [], [])), (.inl (0 : Nat), (245 : Nat), ([], [], []))])
set_option maxRecDepth 100000 in
theorem p2_s1427_s {X : Int → Int} {LX : Nat} : ck_Ok p2_O X LX 190 p2_s1427 := ck_okq (cuts := []) (f := 90) ⟨p2_nmu, ck_E1 (ck_S1 p2_s328_s ck_S0) (ck_E1 (ck_S1 p2_s272_s ck_S0) (ck_E1 (ck_S1 p2_s1401_s ck_S0) ck_E0))⟩ (by decide +kernel)
set_option maxRecDepth 100000 in
/-- GlacierMail.wrote -/
noncomputable def p2_s1428 : ck_Sum := (((8 : Nat), (3 : Nat), (18 : Nat)), (245 : Nat), [.inr (.inr (.inl (1 : Nat))), .inl ((0 : Int), (7 : Int), []), .inl ((0 : Int), (5 : Int), []), .inl ((300 : Int), (2147483647 : Int), []), .inl ((-2147483648 : Int), (2147483647 : Int), [])], ([], [], []), ([], []), [(.inl (3 : Nat), (245 : Nat), ([], [], [])), (.inl (0 : Nat), (245 : Nat), ([], [], []))])
set_option maxRecDepth 100000 in
theorem p2_s1428_s {X : Int → Int} {LX : Nat} : ck_Ok p2_O X LX 190 p2_s1428 := ck_okq (cuts := []) (f := 90) ⟨p2_nmu, ck_E1 (ck_S1 p2_s328_s ck_S0) (ck_E1 (ck_S1 p2_s272_s ck_S0) (ck_E1 (ck_S1 p2_s1403_s ck_S0) ck_E0))⟩ (by decide +kernel)
set_option maxRecDepth 100000 in
/-- GlacierMail.wrote -/
noncomputable def p2_s1429 : ck_Sum := (((8 : Nat), (3 : Nat), (18 : Nat)), (245 : Nat), [.inr (.inr (.inl (1 : Nat))), .inl ((0 : Int), (7 : Int), []), .inl ((0 : Int), (5 : Int), []), .inl ((0 : Int), (299 : Int), []), .inl ((-2147483648 : Int), (-1 : Int), [])], ([], [], []), ([], []), [(.inl (3 : Nat), (245 : Nat), ([], [], [])), (.inl (0 : Nat), (245 : Nat), ([], [], []))])
set_option maxRecDepth 100000 in
theorem p2_s1429_s {X : Int → Int} {LX : Nat} : ck_Ok p2_O X LX 190 p2_s1429 := ck_okq (cuts := []) (f := 90) ⟨p2_nmu, ck_E1 (ck_S1 p2_s328_s ck_S0) (ck_E1 (ck_S1 p2_s272_s ck_S0) (ck_E1 (ck_S1 p2_s1405_s ck_S0) ck_E0))⟩ (by decide +kernel)
set_option maxRecDepth 100000 in
/-- GlacierMail.wrote -/
noncomputable def p2_s1430 : ck_Sum := (((8 : Nat), (3 : Nat), (18 : Nat)), (245 : Nat), [.inr (.inr (.inl (1 : Nat))), .inl ((0 : Int), (7 : Int), []), .inl ((0 : Int), (5 : Int), []), .inl ((0 : Int), (299 : Int), []), .inl ((100 : Int), (2147483647 : Int), [])], ([], [], []), ([], []), [(.inl (3 : Nat), (245 : Nat), ([], [], [])), (.inl (0 : Nat), (245 : Nat), ([], [], []))])
set_option maxRecDepth 100000 in
theorem p2_s1430_s {X : Int → Int} {LX : Nat} : ck_Ok p2_O X LX 190 p2_s1430 := ck_okq (cuts := []) (f := 90) ⟨p2_nmu, ck_E1 (ck_S1 p2_s328_s ck_S0) (ck_E1 (ck_S1 p2_s272_s ck_S0) (ck_E1 (ck_S1 p2_s1407_s ck_S0) ck_E0))⟩ (by decide +kernel)
set_option maxRecDepth 100000 in
/-- GlacierMail.wrote -/
noncomputable def p2_s1431 : ck_Sum := (((8 : Nat), (2 : Nat), (12 : Nat)), (245 : Nat), [.inr (.inr (.inl (1 : Nat))), .inl ((0 : Int), (7 : Int), []), .inl ((0 : Int), (5 : Int), []), .inl ((0 : Int), (299 : Int), []), .inl ((0 : Int), (99 : Int), [])], ([], [((3 : Nat), (8 : Int), (0 : Nat))], []), ([((206 : Nat), (2 : Int), (8 : Int))], []), [(.inl (3 : Nat), (245 : Nat), ([], [], [])), (.inr (some (.inl (ck_one (-1)))), (245 : Nat), ([], [], [])), (.inr (some (.inl ((0 : Int), (298 : Int), []))), (245 : Nat), ([], [], [((206 : Nat), (4 : Int), (4 : Int), ck_one (-1))]))])
set_option maxRecDepth 100000 in
theorem p2_s1431_s {X : Int → Int} {LX : Nat} : ck_Ok p2_O X LX 190 p2_s1431 := ck_okq (cuts := []) (f := 104) ⟨p2_nmu, ck_E1 (ck_S1 p2_s328_s ck_S0) (ck_E1 (ck_S1 p2_s272_s ck_S0) (ck_E1 (ck_S1 p2_s1409_s ck_S0) (ck_E1 (ck_S1 p2_s1410_s ck_S0) ck_E0)))⟩ (by decide +kernel)
set_option maxRecDepth 100000 in
/-- GlacierMailModel.wrote -/
noncomputable def p2_s1432 : ck_Sum := (((2 : Nat), (0 : Nat), (0 : Nat)), (245 : Nat), [.inr (.inr (.inl (226 : Nat))), .inl ((-2147483648 : Int), (-1 : Int), []), .inl ((-2147483648 : Int), (2147483647 : Int), []), .inl ((-2147483648 : Int), (2147483647 : Int), []), .inl ((-2147483648 : Int), (2147483647 : Int), [])], ([], [], [((227 : Nat), (3 : Int), (3 : Int), ((0 : Int), (8 : Int), [((21 : Nat), (0 : Int))]))]), ([((226 : Nat), (0 : Int), (0 : Int))], []), [(.inr (some (.inl (ck_one 0))), (245 : Nat), ([], [], [((226 : Nat), (0 : Int), (0 : Int), ck_one 1)]))])
set_option maxRecDepth 100000 in
theorem p2_s1432_s {X : Int → Int} {LX : Nat} : ck_Ok p2_O X LX 340 p2_s1432 := ck_okq (cuts := []) (f := 100) ⟨p2_nmu, ck_E1 (ck_S1 p2_s359_s ck_S0) (ck_E1 (ck_S1 p2_s241_s ck_S0) ck_E0)⟩ (by decide +kernel)
set_option maxRecDepth 100000 in
/-- GlacierMailModel.wrote -/
noncomputable def p2_s1433 : ck_Sum := (((2 : Nat), (0 : Nat), (0 : Nat)), (245 : Nat), [.inr (.inr (.inl (226 : Nat))), .inl ((8 : Int), (2147483647 : Int), []), .inl ((-2147483648 : Int), (2147483647 : Int), []), .inl ((-2147483648 : Int), (2147483647 : Int), []), .inl ((-2147483648 : Int), (2147483647 : Int), [])], ([], [], [((227 : Nat), (3 : Int), (3 : Int), ((0 : Int), (8 : Int), [((21 : Nat), (0 : Int))]))]), ([((226 : Nat), (0 : Int), (0 : Int))], []), [(.inr (some (.inl (ck_one 0))), (245 : Nat), ([], [], [((226 : Nat), (0 : Int), (0 : Int), ck_one 1)]))])
set_option maxRecDepth 100000 in
theorem p2_s1433_s {X : Int → Int} {LX : Nat} : ck_Ok p2_O X LX 340 p2_s1433 := ck_okq (cuts := []) (f := 100) ⟨p2_nmu, ck_E1 (ck_S1 p2_s362_s ck_S0) (ck_E1 (ck_S1 p2_s241_s ck_S0) ck_E0)⟩ (by decide +kernel)
set_option maxRecDepth 100000 in
/-- GlacierMailModel.wrote -/
noncomputable def p2_s1434 : ck_Sum := (((2 : Nat), (0 : Nat), (0 : Nat)), (245 : Nat), [.inr (.inr (.inl (226 : Nat))), .inl ((0 : Int), (7 : Int), []), .inl ((-2147483648 : Int), (-1 : Int), []), .inl ((-2147483648 : Int), (2147483647 : Int), []), .inl ((-2147483648 : Int), (2147483647 : Int), [])], ([], [], [((227 : Nat), (3 : Int), (3 : Int), ((0 : Int), (8 : Int), [((21 : Nat), (0 : Int))]))]), ([((226 : Nat), (0 : Int), (0 : Int))], []), [(.inr (some (.inl (ck_one 0))), (245 : Nat), ([], [], [((226 : Nat), (0 : Int), (0 : Int), ck_one 1)]))])
set_option maxRecDepth 100000 in
theorem p2_s1434_s {X : Int → Int} {LX : Nat} : ck_Ok p2_O X LX 340 p2_s1434 := ck_okq (cuts := []) (f := 108) ⟨p2_nmu, ck_E1 (ck_S1 p2_s365_s ck_S0) (ck_E1 (ck_S1 p2_s241_s ck_S0) (ck_E1 (ck_S1 p2_s284_s ck_S0) ck_E0))⟩ (by decide +kernel)
set_option maxRecDepth 100000 in
/-- GlacierMailModel.wrote -/
noncomputable def p2_s1435 : ck_Sum := (((2 : Nat), (0 : Nat), (0 : Nat)), (245 : Nat), [.inr (.inr (.inl (226 : Nat))), .inl ((0 : Int), (7 : Int), []), .inl ((6 : Int), (2147483647 : Int), []), .inl ((-2147483648 : Int), (2147483647 : Int), []), .inl ((-2147483648 : Int), (2147483647 : Int), [])], ([], [], [((227 : Nat), (3 : Int), (3 : Int), ((0 : Int), (8 : Int), [((21 : Nat), (0 : Int))]))]), ([((226 : Nat), (0 : Int), (0 : Int))], []), [(.inr (some (.inl (ck_one 0))), (245 : Nat), ([], [], [((226 : Nat), (0 : Int), (0 : Int), ck_one 1)]))])
set_option maxRecDepth 100000 in
theorem p2_s1435_s {X : Int → Int} {LX : Nat} : ck_Ok p2_O X LX 340 p2_s1435 := ck_okq (cuts := []) (f := 108) ⟨p2_nmu, ck_E1 (ck_S1 p2_s365_s ck_S0) (ck_E1 (ck_S1 p2_s241_s ck_S0) (ck_E1 (ck_S1 p2_s287_s ck_S0) ck_E0))⟩ (by decide +kernel)
set_option maxRecDepth 100000 in
/-- GlacierMailModel.wrote -/
noncomputable def p2_s1436 : ck_Sum := (((2 : Nat), (0 : Nat), (0 : Nat)), (245 : Nat), [.inr (.inr (.inl (226 : Nat))), .inl ((0 : Int), (7 : Int), []), .inl ((0 : Int), (5 : Int), []), .inl ((-2147483648 : Int), (-1 : Int), []), .inl ((-2147483648 : Int), (2147483647 : Int), [])], ([], [], [((227 : Nat), (3 : Int), (3 : Int), ((0 : Int), (8 : Int), [((21 : Nat), (0 : Int))]))]), ([((226 : Nat), (0 : Int), (0 : Int))], []), [(.inr (some (.inl (ck_one 0))), (245 : Nat), ([], [], [((226 : Nat), (0 : Int), (0 : Int), ((1 : Int), (2 : Int), []))]))])
set_option maxRecDepth 100000 in
theorem p2_s1436_s {X : Int → Int} {LX : Nat} : ck_Ok p2_O X LX 340 p2_s1436 := ck_okq (cuts := []) (f := 124) ⟨p2_nmu, ck_E1 (ck_S1 p2_s365_s ck_S0) (ck_E1 (ck_S1 p2_s241_s (ck_S1 p2_s242_s (ck_S1 p2_s244_s ck_S0))) (ck_E1 (ck_S1 p2_s290_s ck_S0) (ck_E1 (ck_S1 p2_s257_s ck_S0) ck_E0)))⟩ (by decide +kernel)
set_option maxRecDepth 100000 in
/-- GlacierMailModel.wrote -/
noncomputable def p2_s1437 : ck_Sum := (((2 : Nat), (0 : Nat), (0 : Nat)), (245 : Nat), [.inr (.inr (.inl (226 : Nat))), .inl ((0 : Int), (7 : Int), []), .inl ((0 : Int), (5 : Int), []), .inl ((300 : Int), (2147483647 : Int), []), .inl ((-2147483648 : Int), (2147483647 : Int), [])], ([], [], [((227 : Nat), (3 : Int), (3 : Int), ((0 : Int), (8 : Int), [((21 : Nat), (0 : Int))]))]), ([((226 : Nat), (0 : Int), (0 : Int))], []), [(.inr (some (.inl (ck_one 0))), (245 : Nat), ([], [], [((226 : Nat), (0 : Int), (0 : Int), ((1 : Int), (2 : Int), []))]))])
set_option maxRecDepth 100000 in
theorem p2_s1437_s {X : Int → Int} {LX : Nat} : ck_Ok p2_O X LX 340 p2_s1437 := ck_okq (cuts := []) (f := 124) ⟨p2_nmu, ck_E1 (ck_S1 p2_s365_s ck_S0) (ck_E1 (ck_S1 p2_s241_s (ck_S1 p2_s242_s (ck_S1 p2_s244_s ck_S0))) (ck_E1 (ck_S1 p2_s290_s ck_S0) (ck_E1 (ck_S1 p2_s260_s ck_S0) ck_E0)))⟩ (by decide +kernel)
set_option maxRecDepth 100000 in
/-- GlacierMailModel.wrote -/
noncomputable def p2_s1438 : ck_Sum := (((2 : Nat), (0 : Nat), (0 : Nat)), (245 : Nat), [.inr (.inr (.inl (226 : Nat))), .inl ((0 : Int), (7 : Int), []), .inl ((0 : Int), (5 : Int), []), .inl ((0 : Int), (299 : Int), []), .inl ((-2147483648 : Int), (-1 : Int), [])], ([], [], [((227 : Nat), (3 : Int), (3 : Int), ((0 : Int), (8 : Int), [((21 : Nat), (0 : Int))]))]), ([((226 : Nat), (0 : Int), (0 : Int))], []), [(.inr (some (.inl (ck_one 0))), (245 : Nat), ([], [], [((226 : Nat), (0 : Int), (0 : Int), ((1 : Int), (2 : Int), []))]))])
set_option maxRecDepth 100000 in
theorem p2_s1438_s {X : Int → Int} {LX : Nat} : ck_Ok p2_O X LX 340 p2_s1438 := ck_okq (cuts := []) (f := 134) ⟨p2_nmu, ck_E1 (ck_S1 p2_s365_s ck_S0) (ck_E1 (ck_S1 p2_s241_s (ck_S1 p2_s242_s (ck_S1 p2_s244_s ck_S0))) (ck_E1 (ck_S1 p2_s290_s ck_S0) (ck_E1 (ck_S1 p2_s263_s ck_S0) (ck_E1 (ck_S1 p2_s1416_s ck_S0) ck_E0))))⟩ (by decide +kernel)
set_option maxRecDepth 100000 in
/-- GlacierMailModel.wrote -/
noncomputable def p2_s1439 : ck_Sum := (((2 : Nat), (0 : Nat), (0 : Nat)), (245 : Nat), [.inr (.inr (.inl (226 : Nat))), .inl ((0 : Int), (7 : Int), []), .inl ((0 : Int), (5 : Int), []), .inl ((0 : Int), (299 : Int), []), .inl ((100 : Int), (2147483647 : Int), [])], ([], [], [((227 : Nat), (3 : Int), (3 : Int), ((0 : Int), (8 : Int), [((21 : Nat), (0 : Int))]))]), ([((226 : Nat), (0 : Int), (0 : Int))], []), [(.inr (some (.inl (ck_one 0))), (245 : Nat), ([], [], [((226 : Nat), (0 : Int), (0 : Int), ((1 : Int), (2 : Int), []))]))])
set_option maxRecDepth 100000 in
theorem p2_s1439_s {X : Int → Int} {LX : Nat} : ck_Ok p2_O X LX 340 p2_s1439 := ck_okq (cuts := []) (f := 134) ⟨p2_nmu, ck_E1 (ck_S1 p2_s365_s ck_S0) (ck_E1 (ck_S1 p2_s241_s (ck_S1 p2_s242_s (ck_S1 p2_s244_s ck_S0))) (ck_E1 (ck_S1 p2_s290_s ck_S0) (ck_E1 (ck_S1 p2_s263_s ck_S0) (ck_E1 (ck_S1 p2_s1418_s ck_S0) ck_E0))))⟩ (by decide +kernel)
set_option maxRecDepth 100000 in
/-- GlacierMail$Rows.size -/
noncomputable def p2_s1441 : ck_Sum := (((0 : Nat), (0 : Nat), (0 : Nat)), (245 : Nat), [.inr (.inr (.inl (12 : Nat)))], ([], [], []), ([], []), [(.inr (some (.inl ((0 : Int), (6 : Int), []))), (245 : Nat), ([], [], []))])
set_option maxRecDepth 100000 in
theorem p2_s1441_s {X : Int → Int} {LX : Nat} : ck_Ok p2_O X LX 9 p2_s1441 := ck_okq (cuts := []) (f := 76) ⟨p2_nmu, ck_E0⟩ (by decide +kernel)
set_option maxRecDepth 100000 in
/-- GlacierMail.need -/
noncomputable def p2_s1442 : ck_Sum := (((6 : Nat), (1 : Nat), (6 : Nat)), (245 : Nat), [.inr (.inr (.inl (1 : Nat))), .inl ((-2147483648 : Int), (-1 : Int), []), .inl ((0 : Int), (6 : Int), [])], ([], [], []), ([], []), [(.inl (3 : Nat), (245 : Nat), ([], [], []))])
set_option maxRecDepth 100000 in
theorem p2_s1442_s {X : Int → Int} {LX : Nat} : ck_Ok p2_O X LX 133 p2_s1442 := ck_okq (cuts := []) (f := 76) ⟨p2_nmu, ck_E0⟩ (by decide +kernel)
set_option maxRecDepth 100000 in
/-- GlacierMail.needTable -/
noncomputable def p2_s1443 : ck_Sum := (((7 : Nat), (1 : Nat), (6 : Nat)), (245 : Nat), [.inr (.inr (.inl (1 : Nat))), .inl ((-2147483648 : Int), (-1 : Int), [])], ([], [], []), ([], []), [(.inl (3 : Nat), (245 : Nat), ([], [], []))])
set_option maxRecDepth 100000 in
theorem p2_s1443_s {X : Int → Int} {LX : Nat} : ck_Ok p2_O X LX 193 p2_s1443 := ck_okq (cuts := []) (f := 84) ⟨p2_nmu, ck_E1 (ck_S1 p2_s1441_s ck_S0) (ck_E1 (ck_S1 p2_s1442_s ck_S0) ck_E0)⟩ (by decide +kernel)
set_option maxRecDepth 100000 in
/-- GlacierMail.table -/
noncomputable def p2_s1444 : ck_Sum := (((8 : Nat), (1 : Nat), (6 : Nat)), (245 : Nat), [.inr (.inr (.inl (1 : Nat))), .inl ((-2147483648 : Int), (-1 : Int), []), .inl ((-2147483648 : Int), (2147483647 : Int), [])], ([], [], []), ([], []), [(.inl (3 : Nat), (245 : Nat), ([], [], []))])
set_option maxRecDepth 100000 in
theorem p2_s1444_s {X : Int → Int} {LX : Nat} : ck_Ok p2_O X LX 192 p2_s1444 := ck_okq (cuts := []) (f := 76) ⟨p2_nmu, ck_E1 (ck_S1 p2_s1443_s ck_S0) ck_E0⟩ (by decide +kernel)
set_option maxRecDepth 100000 in
/-- GlacierMail.need -/
noncomputable def p2_s1445 : ck_Sum := (((6 : Nat), (1 : Nat), (6 : Nat)), (245 : Nat), [.inr (.inr (.inl (1 : Nat))), .inl ((6 : Int), (2147483647 : Int), []), .inl ((0 : Int), (6 : Int), [])], ([], [], []), ([], []), [(.inl (3 : Nat), (245 : Nat), ([], [], []))])
set_option maxRecDepth 100000 in
theorem p2_s1445_s {X : Int → Int} {LX : Nat} : ck_Ok p2_O X LX 133 p2_s1445 := ck_okq (cuts := []) (f := 82) ⟨p2_nmu, ck_E0⟩ (by decide +kernel)
set_option maxRecDepth 100000 in
/-- GlacierMail.needTable -/
noncomputable def p2_s1446 : ck_Sum := (((7 : Nat), (1 : Nat), (6 : Nat)), (245 : Nat), [.inr (.inr (.inl (1 : Nat))), .inl ((6 : Int), (2147483647 : Int), [])], ([], [], []), ([], []), [(.inl (3 : Nat), (245 : Nat), ([], [], []))])
set_option maxRecDepth 100000 in
theorem p2_s1446_s {X : Int → Int} {LX : Nat} : ck_Ok p2_O X LX 193 p2_s1446 := ck_okq (cuts := []) (f := 84) ⟨p2_nmu, ck_E1 (ck_S1 p2_s1441_s ck_S0) (ck_E1 (ck_S1 p2_s1445_s ck_S0) ck_E0)⟩ (by decide +kernel)
set_option maxRecDepth 100000 in
/-- GlacierMail.table -/
noncomputable def p2_s1447 : ck_Sum := (((8 : Nat), (1 : Nat), (6 : Nat)), (245 : Nat), [.inr (.inr (.inl (1 : Nat))), .inl ((6 : Int), (2147483647 : Int), []), .inl ((-2147483648 : Int), (2147483647 : Int), [])], ([], [], []), ([], []), [(.inl (3 : Nat), (245 : Nat), ([], [], []))])
set_option maxRecDepth 100000 in
theorem p2_s1447_s {X : Int → Int} {LX : Nat} : ck_Ok p2_O X LX 192 p2_s1447 := ck_okq (cuts := []) (f := 76) ⟨p2_nmu, ck_E1 (ck_S1 p2_s1446_s ck_S0) ck_E0⟩ (by decide +kernel)
set_option maxRecDepth 100000 in
/-- GlacierMail.need -/
noncomputable def p2_s1448 : ck_Sum := (((6 : Nat), (1 : Nat), (6 : Nat)), (245 : Nat), [.inr (.inr (.inl (1 : Nat))), .inl ((0 : Int), (5 : Int), []), .inl ((0 : Int), (6 : Int), [])], ([], [], []), ([], []), [(.inr none, (245 : Nat), ([], [], [])), (.inl (3 : Nat), (245 : Nat), ([], [], []))])
set_option maxRecDepth 100000 in
theorem p2_s1448_s {X : Int → Int} {LX : Nat} : ck_Ok p2_O X LX 133 p2_s1448 := ck_okq (cuts := []) (f := 82) ⟨p2_nmu, ck_E0⟩ (by decide +kernel)
set_option maxRecDepth 100000 in
/-- GlacierMail.needTable -/
noncomputable def p2_s1449 : ck_Sum := (((7 : Nat), (1 : Nat), (6 : Nat)), (245 : Nat), [.inr (.inr (.inl (1 : Nat))), .inl ((0 : Int), (5 : Int), [])], ([], [], []), ([], []), [(.inl (3 : Nat), (245 : Nat), ([], [], [])), (.inr none, (245 : Nat), ([], [], []))])
set_option maxRecDepth 100000 in
theorem p2_s1449_s {X : Int → Int} {LX : Nat} : ck_Ok p2_O X LX 193 p2_s1449 := ck_okq (cuts := []) (f := 86) ⟨p2_nmu, ck_E1 (ck_S1 p2_s1441_s ck_S0) (ck_E1 (ck_S1 p2_s1448_s ck_S0) ck_E0)⟩ (by decide +kernel)
set_option maxRecDepth 100000 in
/-- GlacierMail.table -/
noncomputable def p2_s1450 : ck_Sum := (((8 : Nat), (2 : Nat), (12 : Nat)), (245 : Nat), [.inr (.inr (.inl (1 : Nat))), .inl ((0 : Int), (5 : Int), []), .inl ((-2147483648 : Int), (-1 : Int), [])], ([], [], []), ([], []), [(.inl (3 : Nat), (245 : Nat), ([], [], []))])
set_option maxRecDepth 100000 in
theorem p2_s1450_s {X : Int → Int} {LX : Nat} : ck_Ok p2_O X LX 192 p2_s1450 := ck_okq (cuts := []) (f := 82) ⟨p2_nmu, ck_E1 (ck_S1 p2_s1449_s ck_S0) (ck_E1 (ck_S1 p2_s266_s ck_S0) ck_E0)⟩ (by decide +kernel)
set_option maxRecDepth 100000 in
/-- GlacierMail.table -/
noncomputable def p2_s1451 : ck_Sum := (((8 : Nat), (2 : Nat), (12 : Nat)), (245 : Nat), [.inr (.inr (.inl (1 : Nat))), .inl ((0 : Int), (5 : Int), []), .inl ((6 : Int), (2147483647 : Int), [])], ([], [], []), ([], []), [(.inl (3 : Nat), (245 : Nat), ([], [], []))])
set_option maxRecDepth 100000 in
theorem p2_s1451_s {X : Int → Int} {LX : Nat} : ck_Ok p2_O X LX 192 p2_s1451 := ck_okq (cuts := []) (f := 82) ⟨p2_nmu, ck_E1 (ck_S1 p2_s1449_s ck_S0) (ck_E1 (ck_S1 p2_s269_s ck_S0) ck_E0)⟩ (by decide +kernel)
set_option maxRecDepth 100000 in
/-- GlacierMail$Rows.get -/
noncomputable def p2_s1452 : ck_Sum := (((0 : Nat), (0 : Nat), (0 : Nat)), (245 : Nat), [.inr (.inr (.inl (12 : Nat))), .inl ((-2147483648 : Int), (2147483647 : Int), []), .inl ((-2147483648 : Int), (2147483647 : Int), [])], ([], [], []), ([], []), [(.inr (some (.inl (ck_one (-1)))), (245 : Nat), ([], [], [])), (.inr (some (.inl ((0 : Int), (20 : Int), []))), (245 : Nat), ([], [], [((12 : Nat), (3 : Int), (3 : Int), ((1 : Int), (6 : Int), []))]))])
set_option maxRecDepth 100000 in
theorem p2_s1452_s {X : Int → Int} {LX : Nat} : ck_Ok p2_O X LX 10 p2_s1452 := ck_okq (cuts := []) (f := 114) ⟨p2_nmu, ck_E0⟩ (by decide +kernel)
set_option maxRecDepth 100000 in
/-- GlacierMail.table -/
noncomputable def p2_s1453 : ck_Sum := (((8 : Nat), (2 : Nat), (12 : Nat)), (245 : Nat), [.inr (.inr (.inl (1 : Nat))), .inl ((0 : Int), (5 : Int), []), .inl ((0 : Int), (5 : Int), [])], ([], [], []), ([], []), [(.inl (3 : Nat), (245 : Nat), ([], [], [])), (.inr (some (.inl (ck_one (-1)))), (245 : Nat), ([], [], [])), (.inr (some (.inl ((0 : Int), (20 : Int), []))), (245 : Nat), ([], [], [((12 : Nat), (3 : Int), (3 : Int), ((1 : Int), (6 : Int), []))]))])
set_option maxRecDepth 100000 in
theorem p2_s1453_s {X : Int → Int} {LX : Nat} : ck_Ok p2_O X LX 192 p2_s1453 := ck_okq (cuts := []) (f := 96) ⟨p2_nmu, ck_E1 (ck_S1 p2_s1449_s ck_S0) (ck_E1 (ck_S1 p2_s272_s ck_S0) (ck_E1 (ck_S1 p2_s1452_s ck_S0) ck_E0))⟩ (by decide +kernel)
set_option maxRecDepth 100000 in
/-- GlacierMailModel.noTable -/
noncomputable def p2_s1454 : ck_Sum := (((1 : Nat), (0 : Nat), (0 : Nat)), (245 : Nat), [.inr (.inr (.inl (226 : Nat))), .inl ((-2147483648 : Int), (-1 : Int), [])], ([], [], [((227 : Nat), (6 : Int), (6 : Int), ((0 : Int), (6 : Int), [((24 : Nat), (0 : Int))]))]), ([], []), [(.inr (some (.inl (ck_one 1))), (245 : Nat), ([], [], []))])
set_option maxRecDepth 100000 in
theorem p2_s1454_s {X : Int → Int} {LX : Nat} : ck_Ok p2_O X LX 342 p2_s1454 := ck_okq (cuts := []) (f := 96) ⟨p2_nmu, ck_E1 (ck_S1 p2_s283_s ck_S0) ck_E0⟩ (by decide +kernel)
set_option maxRecDepth 100000 in
/-- GlacierMailModel.table -/
noncomputable def p2_s1455 : ck_Sum := (((2 : Nat), (0 : Nat), (0 : Nat)), (245 : Nat), [.inr (.inr (.inl (226 : Nat))), .inl ((-2147483648 : Int), (-1 : Int), []), .inl ((-2147483648 : Int), (2147483647 : Int), [])], ([], [], [((227 : Nat), (6 : Int), (6 : Int), ((0 : Int), (6 : Int), [((24 : Nat), (0 : Int))]))]), ([((226 : Nat), (0 : Int), (0 : Int))], []), [(.inr (some (.inl (ck_one 0))), (245 : Nat), ([], [], [((226 : Nat), (0 : Int), (0 : Int), ck_one 1)]))])
set_option maxRecDepth 100000 in
theorem p2_s1455_s {X : Int → Int} {LX : Nat} : ck_Ok p2_O X LX 341 p2_s1455 := ck_okq (cuts := []) (f := 102) ⟨p2_nmu, ck_E1 (ck_S1 p2_s1454_s ck_S0) (ck_E1 (ck_S1 p2_s241_s ck_S0) ck_E0)⟩ (by decide +kernel)
set_option maxRecDepth 100000 in
/-- GlacierMailModel.noTable -/
noncomputable def p2_s1456 : ck_Sum := (((1 : Nat), (0 : Nat), (0 : Nat)), (245 : Nat), [.inr (.inr (.inl (226 : Nat))), .inl ((6 : Int), (2147483647 : Int), [])], ([], [], [((227 : Nat), (6 : Int), (6 : Int), ((0 : Int), (6 : Int), [((24 : Nat), (0 : Int))]))]), ([], []), [(.inr (some (.inl (ck_one 1))), (245 : Nat), ([], [], []))])
set_option maxRecDepth 100000 in
theorem p2_s1456_s {X : Int → Int} {LX : Nat} : ck_Ok p2_O X LX 342 p2_s1456 := ck_okq (cuts := []) (f := 96) ⟨p2_nmu, ck_E1 (ck_S1 p2_s286_s ck_S0) ck_E0⟩ (by decide +kernel)
set_option maxRecDepth 100000 in
/-- GlacierMailModel.table -/
noncomputable def p2_s1457 : ck_Sum := (((2 : Nat), (0 : Nat), (0 : Nat)), (245 : Nat), [.inr (.inr (.inl (226 : Nat))), .inl ((6 : Int), (2147483647 : Int), []), .inl ((-2147483648 : Int), (2147483647 : Int), [])], ([], [], [((227 : Nat), (6 : Int), (6 : Int), ((0 : Int), (6 : Int), [((24 : Nat), (0 : Int))]))]), ([((226 : Nat), (0 : Int), (0 : Int))], []), [(.inr (some (.inl (ck_one 0))), (245 : Nat), ([], [], [((226 : Nat), (0 : Int), (0 : Int), ck_one 1)]))])
set_option maxRecDepth 100000 in
theorem p2_s1457_s {X : Int → Int} {LX : Nat} : ck_Ok p2_O X LX 341 p2_s1457 := ck_okq (cuts := []) (f := 102) ⟨p2_nmu, ck_E1 (ck_S1 p2_s1456_s ck_S0) (ck_E1 (ck_S1 p2_s241_s ck_S0) ck_E0)⟩ (by decide +kernel)
set_option maxRecDepth 100000 in
/-- GlacierMailModel.noTable -/
noncomputable def p2_s1458 : ck_Sum := (((1 : Nat), (0 : Nat), (0 : Nat)), (245 : Nat), [.inr (.inr (.inl (226 : Nat))), .inl ((0 : Int), (5 : Int), [])], ([], [], [((227 : Nat), (6 : Int), (6 : Int), ((0 : Int), (6 : Int), [((24 : Nat), (0 : Int))]))]), ([], []), [(.inr (some (.inl (ck_one 1))), (245 : Nat), ([], [], [])), (.inr (some (.inl (ck_one 0))), (245 : Nat), ([], [], []))])
set_option maxRecDepth 100000 in
theorem p2_s1458_s {X : Int → Int} {LX : Nat} : ck_Ok p2_O X LX 342 p2_s1458 := ck_okq (cuts := []) (f := 96) ⟨p2_nmu, ck_E1 (ck_S1 p2_s289_s ck_S0) ck_E0⟩ (by decide +kernel)
set_option maxRecDepth 100000 in
/-- GlacierMailModel.table -/
noncomputable def p2_s1459 : ck_Sum := (((2 : Nat), (0 : Nat), (0 : Nat)), (245 : Nat), [.inr (.inr (.inl (226 : Nat))), .inl ((0 : Int), (5 : Int), []), .inl ((-2147483648 : Int), (-1 : Int), [])], ([], [], [((227 : Nat), (6 : Int), (6 : Int), ((0 : Int), (6 : Int), [((24 : Nat), (0 : Int))]))]), ([((226 : Nat), (0 : Int), (0 : Int))], []), [(.inr (some (.inl (ck_one 0))), (245 : Nat), ([], [], [((226 : Nat), (0 : Int), (0 : Int), ck_one 1)]))])
set_option maxRecDepth 100000 in
theorem p2_s1459_s {X : Int → Int} {LX : Nat} : ck_Ok p2_O X LX 341 p2_s1459 := ck_okq (cuts := []) (f := 110) ⟨p2_nmu, ck_E1 (ck_S1 p2_s1458_s ck_S0) (ck_E1 (ck_S1 p2_s241_s ck_S0) (ck_E1 (ck_S1 p2_s284_s ck_S0) ck_E0))⟩ (by decide +kernel)
set_option maxRecDepth 100000 in
/-- GlacierMailModel.table -/
noncomputable def p2_s1460 : ck_Sum := (((2 : Nat), (0 : Nat), (0 : Nat)), (245 : Nat), [.inr (.inr (.inl (226 : Nat))), .inl ((0 : Int), (5 : Int), []), .inl ((6 : Int), (2147483647 : Int), [])], ([], [], [((227 : Nat), (6 : Int), (6 : Int), ((0 : Int), (6 : Int), [((24 : Nat), (0 : Int))]))]), ([((226 : Nat), (0 : Int), (0 : Int))], []), [(.inr (some (.inl (ck_one 0))), (245 : Nat), ([], [], [((226 : Nat), (0 : Int), (0 : Int), ck_one 1)]))])
set_option maxRecDepth 100000 in
theorem p2_s1460_s {X : Int → Int} {LX : Nat} : ck_Ok p2_O X LX 341 p2_s1460 := ck_okq (cuts := []) (f := 110) ⟨p2_nmu, ck_E1 (ck_S1 p2_s1458_s ck_S0) (ck_E1 (ck_S1 p2_s241_s ck_S0) (ck_E1 (ck_S1 p2_s287_s ck_S0) ck_E0))⟩ (by decide +kernel)
set_option maxRecDepth 100000 in
/-- GlacierMailModel.ofTable -/
noncomputable def p2_s1461 : ck_Sum := (((0 : Nat), (0 : Nat), (0 : Nat)), (245 : Nat), [.inr (.inr (.inl (226 : Nat))), .inl ((0 : Int), (5 : Int), []), .inl ((0 : Int), (5 : Int), [])], ([], [], []), ([], []), [(.inr (some (.inl ((0 : Int), (20 : Int), []))), (245 : Nat), ([], [], []))])
set_option maxRecDepth 100000 in
theorem p2_s1461_s {X : Int → Int} {LX : Nat} : ck_Ok p2_O X LX 343 p2_s1461 := ck_okq (cuts := []) (f := 92) ⟨p2_nmu, ck_E0⟩ (by decide +kernel)
set_option maxRecDepth 100000 in
/-- GlacierMailModel.table -/
noncomputable def p2_s1462 : ck_Sum := (((2 : Nat), (0 : Nat), (0 : Nat)), (245 : Nat), [.inr (.inr (.inl (226 : Nat))), .inl ((0 : Int), (5 : Int), []), .inl ((0 : Int), (5 : Int), [])], ([], [], [((227 : Nat), (6 : Int), (6 : Int), ((0 : Int), (6 : Int), [((24 : Nat), (0 : Int))]))]), ([((226 : Nat), (0 : Int), (0 : Int))], []), [(.inr (some (.inl ((0 : Int), (20 : Int), []))), (245 : Nat), ([], [], [((226 : Nat), (0 : Int), (0 : Int), ((0 : Int), (1 : Int), []))]))])
set_option maxRecDepth 100000 in
theorem p2_s1462_s {X : Int → Int} {LX : Nat} : ck_Ok p2_O X LX 341 p2_s1462 := ck_okq (cuts := []) (f := 112) ⟨p2_nmu, ck_E1 (ck_S1 p2_s1458_s ck_S0) (ck_E1 (ck_S1 p2_s241_s (ck_S1 p2_s242_s ck_S0)) (ck_E1 (ck_S1 p2_s290_s ck_S0) (ck_E1 (ck_S1 p2_s1461_s ck_S0) ck_E0)))⟩ (by decide +kernel)
set_option maxRecDepth 100000 in
/-- GlacierMail.apart -/
noncomputable def p2_s1463 : ck_Sum := (((8 : Nat), (1 : Nat), (6 : Nat)), (245 : Nat), [.inr (.inr (.inl (1 : Nat))), .inl ((-2147483648 : Int), (-1 : Int), []), .inl ((-2147483648 : Int), (2147483647 : Int), []), .inl ((-2147483648 : Int), (2147483647 : Int), [])], ([], [], []), ([], []), [(.inl (3 : Nat), (245 : Nat), ([], [], []))])
set_option maxRecDepth 100000 in
theorem p2_s1463_s {X : Int → Int} {LX : Nat} : ck_Ok p2_O X LX 195 p2_s1463 := ck_okq (cuts := []) (f := 76) ⟨p2_nmu, ck_E1 (ck_S1 p2_s1443_s ck_S0) ck_E0⟩ (by decide +kernel)
set_option maxRecDepth 100000 in
/-- GlacierMail.apart -/
noncomputable def p2_s1464 : ck_Sum := (((8 : Nat), (1 : Nat), (6 : Nat)), (245 : Nat), [.inr (.inr (.inl (1 : Nat))), .inl ((6 : Int), (2147483647 : Int), []), .inl ((-2147483648 : Int), (2147483647 : Int), []), .inl ((-2147483648 : Int), (2147483647 : Int), [])], ([], [], []), ([], []), [(.inl (3 : Nat), (245 : Nat), ([], [], []))])
set_option maxRecDepth 100000 in
theorem p2_s1464_s {X : Int → Int} {LX : Nat} : ck_Ok p2_O X LX 195 p2_s1464 := ck_okq (cuts := []) (f := 76) ⟨p2_nmu, ck_E1 (ck_S1 p2_s1446_s ck_S0) ck_E0⟩ (by decide +kernel)
set_option maxRecDepth 100000 in
/-- GlacierMail.apart -/
noncomputable def p2_s1465 : ck_Sum := (((8 : Nat), (2 : Nat), (12 : Nat)), (245 : Nat), [.inr (.inr (.inl (1 : Nat))), .inl ((0 : Int), (5 : Int), []), .inl ((-2147483648 : Int), (-1 : Int), []), .inl ((-2147483648 : Int), (2147483647 : Int), [])], ([], [], []), ([], []), [(.inl (3 : Nat), (245 : Nat), ([], [], []))])
set_option maxRecDepth 100000 in
theorem p2_s1465_s {X : Int → Int} {LX : Nat} : ck_Ok p2_O X LX 195 p2_s1465 := ck_okq (cuts := []) (f := 82) ⟨p2_nmu, ck_E1 (ck_S1 p2_s1449_s (ck_S1 p2_s1443_s ck_S0)) ck_E0⟩ (by decide +kernel)
set_option maxRecDepth 100000 in
/-- GlacierMail.apart -/
noncomputable def p2_s1466 : ck_Sum := (((8 : Nat), (2 : Nat), (12 : Nat)), (245 : Nat), [.inr (.inr (.inl (1 : Nat))), .inl ((0 : Int), (5 : Int), []), .inl ((6 : Int), (2147483647 : Int), []), .inl ((-2147483648 : Int), (2147483647 : Int), [])], ([], [], []), ([], []), [(.inl (3 : Nat), (245 : Nat), ([], [], []))])
set_option maxRecDepth 100000 in
theorem p2_s1466_s {X : Int → Int} {LX : Nat} : ck_Ok p2_O X LX 195 p2_s1466 := ck_okq (cuts := []) (f := 82) ⟨p2_nmu, ck_E1 (ck_S1 p2_s1449_s (ck_S1 p2_s1446_s ck_S0)) ck_E0⟩ (by decide +kernel)
set_option maxRecDepth 100000 in
/-- GlacierMail.toldApart -/
noncomputable def p2_s1467 : ck_Sum := (((1 : Nat), (0 : Nat), (0 : Nat)), (245 : Nat), [.inr (.inr (.inl (1 : Nat))), .inl ((0 : Int), (5 : Int), []), .inl ((0 : Int), (5 : Int), []), .inl ((-2147483648 : Int), (2147483647 : Int), [])], ([], [], []), ([], []), [(.inr (some (.inl (ck_one 0))), (245 : Nat), ([], [], [])), (.inr (some (.inl (ck_one 1))), (245 : Nat), ([], [], [((12 : Nat), (3 : Int), (3 : Int), ((1 : Int), (6 : Int), []))]))])
set_option maxRecDepth 100000 in
theorem p2_s1467_s {X : Int → Int} {LX : Nat} : ck_Ok p2_O X LX 51 p2_s1467 := ck_okq (cuts := [((3 : Nat), [some (.inr (.inr (.inl (1 : Nat)))), some (.inl ((0 : Int), (5 : Int), [])), some (.inl ((0 : Int), (5 : Int), [])), some (.inl ((-2147483648 : Int), (2147483647 : Int), [])), some (.inl ((0 : Int), (6 : Int), []))], ([], [], []), (100 : Nat), .inl (4 : Nat), true)]) (f := 202) ⟨p2_nmu, ck_E1 (ck_S1 p2_s1452_s ck_S0) ck_E0⟩ (by decide +kernel)
set_option maxRecDepth 100000 in
/-- GlacierMail.apart -/
noncomputable def p2_s1468 : ck_Sum := (((8 : Nat), (2 : Nat), (12 : Nat)), (245 : Nat), [.inr (.inr (.inl (1 : Nat))), .inl ((0 : Int), (5 : Int), []), .inl ((0 : Int), (5 : Int), []), .inl ((-2147483648 : Int), (2147483647 : Int), [])], ([], [], []), ([], []), [(.inl (3 : Nat), (245 : Nat), ([], [], [])), (.inr (some (.inl (ck_one 0))), (245 : Nat), ([], [], [])), (.inr (some (.inl (ck_one 1))), (245 : Nat), ([], [], [((12 : Nat), (3 : Int), (3 : Int), ((1 : Int), (6 : Int), []))]))])
set_option maxRecDepth 100000 in
theorem p2_s1468_s {X : Int → Int} {LX : Nat} : ck_Ok p2_O X LX 195 p2_s1468 := ck_okq (cuts := []) (f := 94) ⟨p2_nmu, ck_E1 (ck_S1 p2_s1449_s ck_S0) (ck_E1 (ck_S1 p2_s1467_s ck_S0) ck_E0)⟩ (by decide +kernel)
set_option maxRecDepth 100000 in
/-- GlacierMailModel.apart -/
noncomputable def p2_s1469 : ck_Sum := (((2 : Nat), (0 : Nat), (0 : Nat)), (245 : Nat), [.inr (.inr (.inl (226 : Nat))), .inl ((-2147483648 : Int), (-1 : Int), []), .inl ((-2147483648 : Int), (2147483647 : Int), []), .inl ((-2147483648 : Int), (2147483647 : Int), [])], ([], [], [((227 : Nat), (6 : Int), (6 : Int), ((0 : Int), (6 : Int), [((24 : Nat), (0 : Int))]))]), ([((226 : Nat), (0 : Int), (0 : Int))], []), [(.inr (some (.inl (ck_one 0))), (245 : Nat), ([], [], [((226 : Nat), (0 : Int), (0 : Int), ck_one 1)]))])
set_option maxRecDepth 100000 in
theorem p2_s1469_s {X : Int → Int} {LX : Nat} : ck_Ok p2_O X LX 344 p2_s1469 := ck_okq (cuts := []) (f := 100) ⟨p2_nmu, ck_E1 (ck_S1 p2_s1454_s ck_S0) (ck_E1 (ck_S1 p2_s241_s ck_S0) ck_E0)⟩ (by decide +kernel)
set_option maxRecDepth 100000 in
/-- GlacierMailModel.apart -/
noncomputable def p2_s1470 : ck_Sum := (((2 : Nat), (0 : Nat), (0 : Nat)), (245 : Nat), [.inr (.inr (.inl (226 : Nat))), .inl ((6 : Int), (2147483647 : Int), []), .inl ((-2147483648 : Int), (2147483647 : Int), []), .inl ((-2147483648 : Int), (2147483647 : Int), [])], ([], [], [((227 : Nat), (6 : Int), (6 : Int), ((0 : Int), (6 : Int), [((24 : Nat), (0 : Int))]))]), ([((226 : Nat), (0 : Int), (0 : Int))], []), [(.inr (some (.inl (ck_one 0))), (245 : Nat), ([], [], [((226 : Nat), (0 : Int), (0 : Int), ck_one 1)]))])
set_option maxRecDepth 100000 in
theorem p2_s1470_s {X : Int → Int} {LX : Nat} : ck_Ok p2_O X LX 344 p2_s1470 := ck_okq (cuts := []) (f := 100) ⟨p2_nmu, ck_E1 (ck_S1 p2_s1456_s ck_S0) (ck_E1 (ck_S1 p2_s241_s ck_S0) ck_E0)⟩ (by decide +kernel)
set_option maxRecDepth 100000 in
/-- GlacierMailModel.apart -/
noncomputable def p2_s1471 : ck_Sum := (((2 : Nat), (0 : Nat), (0 : Nat)), (245 : Nat), [.inr (.inr (.inl (226 : Nat))), .inl ((0 : Int), (5 : Int), []), .inl ((-2147483648 : Int), (-1 : Int), []), .inl ((-2147483648 : Int), (2147483647 : Int), [])], ([], [], [((227 : Nat), (6 : Int), (6 : Int), ((0 : Int), (6 : Int), [((24 : Nat), (0 : Int))]))]), ([((226 : Nat), (0 : Int), (0 : Int))], []), [(.inr (some (.inl (ck_one 0))), (245 : Nat), ([], [], [((226 : Nat), (0 : Int), (0 : Int), ck_one 1)]))])
set_option maxRecDepth 100000 in
theorem p2_s1471_s {X : Int → Int} {LX : Nat} : ck_Ok p2_O X LX 344 p2_s1471 := ck_okq (cuts := []) (f := 108) ⟨p2_nmu, ck_E1 (ck_S1 p2_s1458_s (ck_S1 p2_s1454_s ck_S0)) (ck_E1 (ck_S1 p2_s241_s ck_S0) ck_E0)⟩ (by decide +kernel)
set_option maxRecDepth 100000 in
/-- GlacierMailModel.apart -/
noncomputable def p2_s1472 : ck_Sum := (((2 : Nat), (0 : Nat), (0 : Nat)), (245 : Nat), [.inr (.inr (.inl (226 : Nat))), .inl ((0 : Int), (5 : Int), []), .inl ((6 : Int), (2147483647 : Int), []), .inl ((-2147483648 : Int), (2147483647 : Int), [])], ([], [], [((227 : Nat), (6 : Int), (6 : Int), ((0 : Int), (6 : Int), [((24 : Nat), (0 : Int))]))]), ([((226 : Nat), (0 : Int), (0 : Int))], []), [(.inr (some (.inl (ck_one 0))), (245 : Nat), ([], [], [((226 : Nat), (0 : Int), (0 : Int), ck_one 1)]))])
set_option maxRecDepth 100000 in
theorem p2_s1472_s {X : Int → Int} {LX : Nat} : ck_Ok p2_O X LX 344 p2_s1472 := ck_okq (cuts := []) (f := 108) ⟨p2_nmu, ck_E1 (ck_S1 p2_s1458_s (ck_S1 p2_s1456_s ck_S0)) (ck_E1 (ck_S1 p2_s241_s ck_S0) ck_E0)⟩ (by decide +kernel)
set_option maxRecDepth 100000 in
/-- GlacierMailModel.has -/
noncomputable def p2_s1473 : ck_Sum := (((0 : Nat), (0 : Nat), (0 : Nat)), (245 : Nat), [.inl ((-2147483648 : Int), (2147483647 : Int), []), .inl ((0 : Int), (5 : Int), [])], ([], [], []), ([], []), [(.inr (some (.inl (ck_one 0))), (245 : Nat), ([], [], [])), (.inr (some (.inl (ck_one 1))), (245 : Nat), ([], [], []))])
set_option maxRecDepth 100000 in
theorem p2_s1473_s {X : Int → Int} {LX : Nat} : ck_Ok p2_O X LX 346 p2_s1473 := ck_okq (cuts := []) (f := 90) ⟨p2_nmu, ck_E0⟩ (by decide +kernel)
set_option maxRecDepth 100000 in
/-- GlacierMailModel.areApart -/
noncomputable def p2_s1474 : ck_Sum := (((1 : Nat), (0 : Nat), (0 : Nat)), (245 : Nat), [.inr (.inr (.inl (226 : Nat))), .inl ((0 : Int), (5 : Int), []), .inl ((0 : Int), (5 : Int), []), .inl ((-2147483648 : Int), (2147483647 : Int), [])], ([], [], []), ([], []), [(.inr (some (.inl ((0 : Int), (1 : Int), []))), (245 : Nat), ([], [], []))])
set_option maxRecDepth 100000 in
theorem p2_s1474_s {X : Int → Int} {LX : Nat} : ck_Ok p2_O X LX 345 p2_s1474 := ck_okq (cuts := [((6 : Nat), [some (.inr (.inr (.inl (226 : Nat)))), some (.inl ((0 : Int), (5 : Int), [])), some (.inl ((0 : Int), (5 : Int), [])), some (.inl ((-2147483648 : Int), (2147483647 : Int), [])), some (.inl ((0 : Int), (1 : Int), [])), some (.inl ((0 : Int), (6 : Int), []))], ([], [], []), (100 : Nat), .inl (5 : Nat), true)]) (f := 190) ⟨p2_nmu, ck_E1 (ck_S1 p2_s166_s ck_S0) (ck_E1 (ck_S1 p2_s1473_s ck_S0) (ck_E1 (ck_S1 p2_s1461_s ck_S0) ck_E0))⟩ (by decide +kernel)
set_option maxRecDepth 100000 in
/-- GlacierMailModel.apart -/
noncomputable def p2_s1475 : ck_Sum := (((2 : Nat), (0 : Nat), (0 : Nat)), (245 : Nat), [.inr (.inr (.inl (226 : Nat))), .inl ((0 : Int), (5 : Int), []), .inl ((0 : Int), (5 : Int), []), .inl ((-2147483648 : Int), (2147483647 : Int), [])], ([], [], [((227 : Nat), (6 : Int), (6 : Int), ((0 : Int), (6 : Int), [((24 : Nat), (0 : Int))]))]), ([((226 : Nat), (0 : Int), (0 : Int))], []), [(.inr (some (.inl (ck_one 0))), (245 : Nat), ([], [], [((226 : Nat), (0 : Int), (0 : Int), ((0 : Int), (1 : Int), []))])), (.inr (some (.inl (ck_one 1))), (245 : Nat), ([], [], [((226 : Nat), (0 : Int), (0 : Int), ck_one 0)]))])
set_option maxRecDepth 100000 in
theorem p2_s1475_s {X : Int → Int} {LX : Nat} : ck_Ok p2_O X LX 344 p2_s1475 := ck_okq (cuts := []) (f := 120) ⟨p2_nmu, ck_E1 (ck_S1 p2_s1458_s ck_S0) (ck_E1 (ck_S1 p2_s241_s (ck_S1 p2_s242_s ck_S0)) (ck_E1 (ck_S1 p2_s1474_s ck_S0) ck_E0))⟩ (by decide +kernel)
set_option maxRecDepth 100000 in
/-- GlacierMail.allToldApart -/
noncomputable def p2_s1476 : ck_Sum := (((2 : Nat), (0 : Nat), (0 : Nat)), (245 : Nat), [.inr (.inr (.inl (1 : Nat))), .inl ((-2147483648 : Int), (2147483647 : Int), [])], ([], [], []), ([], []), [(.inr (some (.inl (ck_one 1))), (245 : Nat), ([], [], [])), (.inr (some (.inl (ck_one 0))), (245 : Nat), ([], [], []))])
set_option maxRecDepth 100000 in
theorem p2_s1476_s {X : Int → Int} {LX : Nat} : ck_Ok p2_O X LX 50 p2_s1476 := ck_okq (cuts := [((2 : Nat), [some (.inr (.inr (.inl (1 : Nat)))), some (.inl ((-2147483648 : Int), (2147483647 : Int), [])), some (.inl ((0 : Int), (6 : Int), [])), none], ([], [], []), (100 : Nat), .inl (2 : Nat), true), ((20 : Nat), [some (.inr (.inr (.inl (1 : Nat)))), some (.inl ((-2147483648 : Int), (2147483647 : Int), [])), some (.inl ((0 : Int), (5 : Int), [((100 : Nat), (0 : Int))])), some (.inl ((1 : Int), (6 : Int), []))], ([], [], []), (300 : Nat), .inl (3 : Nat), true)]) (f := 200) ⟨p2_nmu, ck_E1 (ck_S1 p2_s1441_s ck_S0) (ck_E1 (ck_S1 p2_s1467_s ck_S0) ck_E0)⟩ (by decide +kernel)
set_option maxRecDepth 100000 in
/-- java/lang/Integer.bitCount -/
noncomputable def p2_s1477 : ck_Sum := (((0 : Nat), (0 : Nat), (0 : Nat)), (245 : Nat), [.inl ((-2147483648 : Int), (2147483647 : Int), [])], ([], [], []), ([], []), [(.inr (some (.inl ((0 : Int), (63 : Int), []))), (245 : Nat), ([], [], []))])
set_option maxRecDepth 100000 in
theorem p2_s1477_s {X : Int → Int} {LX : Nat} : ck_Ok p2_O X LX 49 p2_s1477 := ck_okq (cuts := []) (f := 154) ⟨p2_nmu, ck_E0⟩ (by decide +kernel)
set_option maxRecDepth 100000 in
/-- GlacierMail.poles -/
noncomputable def p2_s1478 : ck_Sum := (((3 : Nat), (0 : Nat), (0 : Nat)), (245 : Nat), [.inr (.inr (.inl (1 : Nat)))], ([], [], []), ([], []), [(.inr (some (.inl ((-1 : Int), (2147483646 : Int), []))), (245 : Nat), ([], [], []))])
set_option maxRecDepth 100000 in
theorem p2_s1478_s {X : Int → Int} {LX : Nat} : ck_Ok p2_O X LX 48 p2_s1478 := ck_okq (cuts := [((4 : Nat), [some (.inr (.inr (.inl (1 : Nat)))), some (.inl ((-1 : Int), (2147483646 : Int), [])), some (.inl ((0 : Int), (2147483647 : Int), [])), none], ([], [], []), (100 : Nat), .inl (2 : Nat), true)]) (f := 206) ⟨p2_nmu, ck_E1 (ck_S1 p2_s1476_s ck_S0) (ck_E1 (ck_S1 p2_s1477_s ck_S0) ck_E0)⟩ (by decide +kernel)
set_option maxRecDepth 100000 in
/-- GlacierMailModel.poles -/
noncomputable def p2_s1479 : ck_Sum := (((2 : Nat), (0 : Nat), (0 : Nat)), (245 : Nat), [.inr (.inr (.inl (226 : Nat)))], ([], [], [((227 : Nat), (6 : Int), (6 : Int), ((0 : Int), (6 : Int), [((24 : Nat), (0 : Int))]))]), ([((226 : Nat), (0 : Int), (0 : Int))], []), [(.inr (some (.inl ((-1 : Int), (2147483646 : Int), []))), (245 : Nat), ([], [], [((226 : Nat), (0 : Int), (0 : Int), ck_one 0)]))])
set_option maxRecDepth 100000 in
theorem p2_s1479_s {X : Int → Int} {LX : Nat} : ck_Ok p2_O X LX 347 p2_s1479 := ck_okq (cuts := [((9 : Nat), [some (.inr (.inr (.inl (226 : Nat)))), some (.inl ((-1 : Int), (2147483646 : Int), [])), some (.inl ((0 : Int), (2147483647 : Int), [])), none, none, none], ([], [], [((226 : Nat), (0 : Int), (0 : Int), ck_one 0), ((227 : Nat), (6 : Int), (6 : Int), ((0 : Int), (6 : Int), [((24 : Nat), (0 : Int))]))]), (100 : Nat), .inl (2 : Nat), true), ((43 : Nat), [some (.inr (.inr (.inl (226 : Nat)))), some (.inl ((-1 : Int), (2147483646 : Int), [])), some (.inl ((0 : Int), (2147483646 : Int), [((100 : Nat), (0 : Int))])), some (.inl ((0 : Int), (1 : Int), [])), some (.inl ((0 : Int), (6 : Int), [])), none], ([], [], [((226 : Nat), (0 : Int), (0 : Int), ck_one 0), ((227 : Nat), (6 : Int), (6 : Int), ((0 : Int), (6 : Int), [((24 : Nat), (0 : Int))]))]), (300 : Nat), .inl (4 : Nat), true), ((58 : Nat), [some (.inr (.inr (.inl (226 : Nat)))), some (.inl ((-1 : Int), (2147483646 : Int), [])), some (.inl ((0 : Int), (2147483646 : Int), [((100 : Nat), (0 : Int))])), some (.inl ((0 : Int), (1 : Int), [])), some (.inl ((0 : Int), (5 : Int), [((300 : Nat), (0 : Int))])), some (.inl ((0 : Int), (5 : Int), []))], ([], [], [((227 : Nat), (6 : Int), (6 : Int), ((1 : Int), (6 : Int), [((24 : Nat), (0 : Int))])), ((226 : Nat), (0 : Int), (0 : Int), ck_one 0)]), (500 : Nat), .inl (5 : Nat), true)]) (f := 282) ⟨p2_nmu, ck_E1 (ck_S1 p2_s166_s ck_S0) (ck_E1 (ck_S1 p2_s1477_s ck_S0) (ck_E1 (ck_S1 p2_s1474_s ck_S0) ck_E0))⟩ (by decide +kernel)
set_option maxRecDepth 100000 in
/-- GlacierMail.areReadings -/
noncomputable def p2_s1480 : ck_Sum := (((0 : Nat), (0 : Nat), (0 : Nat)), (245 : Nat), [.inr (.inr (.inl (1 : Nat))), .inl ((0 : Int), (400 : Int), [])], ([], [], []), ([], []), [(.inr (some (.inl (ck_one 0))), (245 : Nat), ([], [], [])), (.inr (some (.inl (ck_one 1))), (245 : Nat), ([], [], []))])
set_option maxRecDepth 100000 in
theorem p2_s1480_s {X : Int → Int} {LX : Nat} : ck_Ok p2_O X LX 198 p2_s1480 := ck_okq (cuts := [((10 : Nat), [some (.inr (.inr (.inl (1 : Nat)))), some (.inl ((0 : Int), (400 : Int), [])), some (.inl ((0 : Int), (400 : Int), [])), none, none], ([], [], []), (100 : Nat), .inl (2 : Nat), true)]) (f := 302) ⟨p2_nmu, ck_E0⟩ (by decide +kernel)
set_option maxRecDepth 100000 in
/-- GlacierMail.fitsReadings -/
noncomputable def p2_s1481 : ck_Sum := (((1 : Nat), (0 : Nat), (0 : Nat)), (245 : Nat), [.inr (.inr (.inl (1 : Nat))), .inl ((0 : Int), (5 : Int), []), .inl ((0 : Int), (400 : Int), [])], ([], [], []), ([], []), [(.inr (some (.inl (ck_one 1))), (245 : Nat), ([], [], [])), (.inr (some (.inl (ck_one 0))), (245 : Nat), ([], [], []))])
set_option maxRecDepth 100000 in
theorem p2_s1481_s {X : Int → Int} {LX : Nat} : ck_Ok p2_O X LX 199 p2_s1481 := ck_okq (cuts := [((2 : Nat), [some (.inr (.inr (.inl (1 : Nat)))), some (.inl ((0 : Int), (5 : Int), [])), some (.inl ((0 : Int), (400 : Int), [])), some (.inl ((0 : Int), (400 : Int), []))], ([], [], []), (100 : Nat), .inl (3 : Nat), true)]) (f := 214) ⟨p2_nmu, ck_E1 (ck_S1 p2_s1452_s ck_S0) ck_E0⟩ (by decide +kernel)
set_option maxRecDepth 100000 in
/-- GlacierMail.fit -/
noncomputable def p2_s1482 : ck_Sum := (((6 : Nat), (1 : Nat), (6 : Nat)), (245 : Nat), [.inr (.inr (.inl (1 : Nat)))], ([], [], [((1 : Nat), (1 : Int), (1 : Int), ((0 : Int), (400 : Int), [((6 : Nat), (0 : Int))]))]), ([((1 : Nat), (1 : Int), (1 : Int))], []), [(.inl (0 : Nat), (245 : Nat), ([], [], [((1 : Nat), (1 : Int), (1 : Int), ck_one 0)])), (.inr (some (.inl ((-2147483648 : Int), (2147483647 : Int), []))), (245 : Nat), ([], [], [((1 : Nat), (1 : Int), (1 : Int), ck_one 0)]))])
set_option maxRecDepth 100000 in
theorem p2_s1482_s {X : Int → Int} {LX : Nat} : ck_Ok p2_O X LX 197 p2_s1482 := ck_okq (cuts := [((33 : Nat), [some (.inr (.inr (.inl (1 : Nat)))), some (.inl ((0 : Int), (400 : Int), [((6 : Nat), (0 : Int))])), some (.inl ((-2147483648 : Int), (2147483647 : Int), [])), some (.inl ((0 : Int), (6 : Int), []))], ([], [], [((1 : Nat), (1 : Int), (1 : Int), ck_one 0)]), (100 : Nat), .inl (3 : Nat), true)]) (f := 170) ⟨p2_nmu, ck_E1 (ck_S1 p2_s1480_s ck_S0) (ck_E1 (ck_S1 p2_s1441_s ck_S0) (ck_E1 (ck_S1 p2_s1481_s ck_S0) ck_E0))⟩ (by decide +kernel)
set_option maxRecDepth 100000 in
/-- GlacierMailModel.in -/
noncomputable def p2_s1483 : ck_Sum := (((0 : Nat), (0 : Nat), (0 : Nat)), (245 : Nat), [.inl ((-128 : Int), (127 : Int), []), .inl (ck_one 0), .inl ((-1 : Int), (5 : Int), [])], ([], [], []), ([], []), [(.inr (some (.inl (ck_one 0))), (245 : Nat), ([], [], [])), (.inr (some (.inl (ck_one 1))), (245 : Nat), ([], [], []))])
set_option maxRecDepth 100000 in
theorem p2_s1483_s {X : Int → Int} {LX : Nat} : ck_Ok p2_O X LX 286 p2_s1483 := ck_okq (cuts := []) (f := 88) ⟨p2_nmu, ck_E0⟩ (by decide +kernel)
set_option maxRecDepth 100000 in
/-- GlacierMailModel.noLane -/
noncomputable def p2_s1484 : ck_Sum := (((1 : Nat), (0 : Nat), (0 : Nat)), (245 : Nat), [.inr (.inr (.inl (226 : Nat))), .inl ((-128 : Int), (127 : Int), [])], ([], [], []), ([], []), [(.inr (some (.inl (ck_one 1))), (245 : Nat), ([], [], [])), (.inr (some (.inl (ck_one 0))), (245 : Nat), ([], [], []))])
set_option maxRecDepth 100000 in
theorem p2_s1484_s {X : Int → Int} {LX : Nat} : ck_Ok p2_O X LX 288 p2_s1484 := ck_okq (cuts := []) (f := 92) ⟨p2_nmu, ck_E1 (ck_S1 p2_s166_s ck_S0) (ck_E1 (ck_S1 p2_s1483_s ck_S0) ck_E0)⟩ (by decide +kernel)
set_option maxRecDepth 100000 in
/-- GlacierMailModel.in -/
noncomputable def p2_s1485 : ck_Sum := (((0 : Nat), (0 : Nat), (0 : Nat)), (245 : Nat), [.inl ((-128 : Int), (127 : Int), []), .inl (ck_one 0), .inl (ck_one 20)], ([], [], []), ([], []), [(.inr (some (.inl (ck_one 0))), (245 : Nat), ([], [], [])), (.inr (some (.inl (ck_one 1))), (245 : Nat), ([], [], []))])
set_option maxRecDepth 100000 in
theorem p2_s1485_s {X : Int → Int} {LX : Nat} : ck_Ok p2_O X LX 286 p2_s1485 := ck_okq (cuts := []) (f := 88) ⟨p2_nmu, ck_E0⟩ (by decide +kernel)
set_option maxRecDepth 100000 in
/-- GlacierMailModel.ofTable -/
noncomputable def p2_s1486 : ck_Sum := (((0 : Nat), (0 : Nat), (0 : Nat)), (245 : Nat), [.inr (.inr (.inl (226 : Nat))), .inl ((0 : Int), (5 : Int), []), .inl ((-128 : Int), (127 : Int), [])], ([], [], []), ([], []), [(.inr (some (.inl ((-1 : Int), (999 : Int), []))), (245 : Nat), ([], [], []))])
set_option maxRecDepth 100000 in
theorem p2_s1486_s {X : Int → Int} {LX : Nat} : ck_Ok p2_O X LX 343 p2_s1486 := ck_okq (cuts := []) (f := 92) ⟨p2_nmu, ck_E0⟩ (by decide +kernel)
set_option maxRecDepth 100000 in
/-- GlacierMailModel.fit -/
noncomputable def p2_s1487 : ck_Sum := (((2 : Nat), (0 : Nat), (0 : Nat)), (245 : Nat), [.inr (.inr (.inl (226 : Nat)))], ([], [], [((227 : Nat), (6 : Int), (6 : Int), ((0 : Int), (6 : Int), [((24 : Nat), (0 : Int))])), ((226 : Nat), (9 : Int), (9 : Int), ((0 : Int), (400 : Int), [((1 : Nat), (0 : Int))])), ((226 : Nat), (8 : Int), (8 : Int), ((0 : Int), (400 : Int), [((7 : Nat), (0 : Int))]))]), ([((226 : Nat), (0 : Int), (0 : Int)), ((226 : Nat), (8 : Int), (10 : Int))], []), [(.inr (some (.inl (ck_one 0))), (245 : Nat), ([], [], [((226 : Nat), (0 : Int), (0 : Int), ck_one 1), ((226 : Nat), (9 : Int), (9 : Int), ck_one 0), ((226 : Nat), (8 : Int), (8 : Int), ck_one 0), ((226 : Nat), (10 : Int), (10 : Int), ((0 : Int), (400 : Int), [((7 : Nat), (0 : Int))]))])), (.inr (some (.inl ((-2147483648 : Int), (2147483647 : Int), []))), (245 : Nat), ([], [], [((226 : Nat), (10 : Int), (10 : Int), ((0 : Int), (400 : Int), [((7 : Nat), (0 : Int))])), ((226 : Nat), (9 : Int), (9 : Int), ck_one 0), ((226 : Nat), (8 : Int), (8 : Int), ck_one 0), ((226 : Nat), (0 : Int), (0 : Int), ck_one 0)]))])
noncomputable def p2_s1487_E : List (Nat × List ck_Sum) := [((244 : Nat), [p2_s146]), ((282 : Nat), [p2_s242, p2_s241]), ((288 : Nat), [p2_s1484]), ((286 : Nat), [p2_s1485]), ((343 : Nat), [p2_s1486])]
/-! fit's two loops, one within the other, by hand: the outer over the tables, the inner over the stores' pairs. -/
noncomputable def ft_F : ck_F := ([], [], [((226 : Nat), (10 : Int), (10 : Int), ((0 : Int), (400 : Int), [((7 : Nat), (0 : Int))])), ((226 : Nat), (9 : Int), (9 : Int), ck_one 0), ((226 : Nat), (8 : Int), (8 : Int), ck_one 0), ((226 : Nat), (0 : Int), (0 : Int), ck_one 0), ((227 : Nat), (6 : Int), (6 : Int), ((0 : Int), (6 : Int), [((24 : Nat), (0 : Int))]))])
noncomputable def ft_A (t : ck_I) (k : Option ck_A) : ck_AL := [some (.inr (.inr (.inl 226))), some (.inl (ck_one 1)), some (.inl ((-2147483648), 2147483647, [])), some (.inl t), k]
noncomputable def ft_21 : Nat × ck_C := ((21 : Nat), [some (.inr (.inr (.inl (226 : Nat)))), some (.inl ((0 : Int), (1 : Int), [])), some (.inl ((0 : Int), (400 : Int), [])), none, none], ([], [], [((226 : Nat), (9 : Int), (9 : Int), ck_one 0), ((226 : Nat), (8 : Int), (8 : Int), ck_one 0), ((226 : Nat), (10 : Int), (10 : Int), ((0 : Int), (400 : Int), [((7 : Nat), (0 : Int))])), ((226 : Nat), (0 : Int), (0 : Int), ck_one 0), ((227 : Nat), (6 : Int), (6 : Int), ((0 : Int), (6 : Int), [((24 : Nat), (0 : Int))]))]), (100 : Nat), .inl (2 : Nat), true)
noncomputable def ft_C0 : ck_C := (ft_A (ck_one 0) none, ft_F, (0 : Nat), .inl (3 : Nat), true)
noncomputable def ft_Ck : ck_C := (ft_A (0, 5, [(300, 0)]) (some (.inl (ck_one 0))), ft_F, (0 : Nat), .inl (4 : Nat), true)
noncomputable def ft_Cn : ck_C := (ft_A (0, 5, [(300, 0)]) (some (.inl (2, 400, [(301, 2)]))), ft_F, (0 : Nat), .inl (4 : Nat), true)
noncomputable def ft_Ct : ck_C := (ft_A (1, 6, [(300, 1)]) none, ft_F, (0 : Nat), .inl (3 : Nat), true)
set_option maxRecDepth 100000 in
theorem ft_a : (decide (p2_s1487.2.2.1.length ≤ gm_ml 348) && ck_go p2_O none [] p2_s1487_E 348 p2_s1487.1.1 p2_s1487.2.1 p2_s1487.2.2.2.2.1 p2_s1487.2.2.2.2.2 [ft_21, (110, ft_C0)] 600 false [(110, ft_C0, 0, 0, 245)] p2_s1487.1.2.1 p2_s1487.1.2.2 0 (p2_s1487.2.2.1.map some ++ List.replicate (gm_ml 348 - p2_s1487.2.2.1.length) none) [] p2_s1487.2.1 p2_s1487.2.2.2.1) = true := by decide +kernel
set_option maxRecDepth 100000 in
theorem ft_b : ck_go p2_O none [] p2_s1487_E 348 2 245 p2_s1487.2.2.2.2.1 p2_s1487.2.2.2.2.2 [(124, ft_Ck)] 100 true [(124, ft_Ck, 0, 0, 245)] 0 0 110 (ft_A (0, 6, [(300, 0)]) none) [] 245 ft_F = true := by decide +kernel
set_option maxRecDepth 100000 in
theorem ft_c : ck_go p2_O none [] p2_s1487_E 348 2 245 p2_s1487.2.2.2.2.1 p2_s1487.2.2.2.2.2 [(124, ft_Cn)] 100 true [(124, ft_Cn, 0, 0, 245)] 0 0 133 (ft_A (0, 5, [(300, 0)]) (some (.inl (0, 398, [(301, 0)])))) [] 245 ft_F = true := by decide +kernel
set_option maxRecDepth 100000 in
theorem ft_d : ck_go p2_O none [] p2_s1487_E 348 2 245 p2_s1487.2.2.2.2.1 p2_s1487.2.2.2.2.2 [(110, ft_Ct)] 100 true [(110, ft_Ct, 0, 0, 245)] 0 0 171 (ft_A (0, 5, [(300, 0)]) none) [] 245 ft_F = true := by decide +kernel
/-- the locals -/
noncomputable def ft_P (σ : Nat → Int) (a : ck_I) (L : gm_L) (x : Int) : Prop := L.length = 5 ∧ L[0]? = some (some (gm_vr 226)) ∧ L[1]? = some (some (gm_vi 1)) ∧ (∃ y, L[2]? = some (some (gm_vi y)) ∧ gm_ir y) ∧ L[3]? = some (some (gm_vi x)) ∧ gm_ir x ∧ ck_gi σ a x
theorem ft_mk {σ : Nat → Int} {a : ck_I} {L : gm_L} {x : Int} {k : Option ck_A} (h : ft_P σ a L x) (h4 : ∀ b, k = some b → ∃ u, L[4]? = some (some u) ∧ ck_ga σ b u) : ck_gl σ (ft_A a k) L := by
  obtain ⟨hl, h0, h1, ⟨y, h2, r2⟩, h3, r3, g3⟩ := h
  have r21 : -2147483648 ≤ y := r2.1
  have r22 : y < 2147483648 := r2.2
  refine ⟨by rw [hl]; rfl, fun j b hb => ?_⟩
  rcases j with _ | _ | _ | _ | _ | j
  · have hb : some (some (.inr (.inr (.inl 226)))) = some (some b) := hb
    cases hb
    exact ⟨_, h0, rfl⟩
  · have hb : some (some (.inl (ck_one 1))) = some (some b) := hb
    cases hb
    exact ⟨_, h1, 1, rfl, ⟨by decide, by decide⟩, Int.le_refl _, Int.le_refl _, fun q hq => nomatch hq⟩
  · have hb : some (some (.inl ((-2147483648), 2147483647, []))) = some (some b) := hb
    cases hb
    exact ⟨_, h2, y, rfl, r2, r21, by show y ≤ 2147483647; omega, fun q hq => nomatch hq⟩
  · have hb : some (some (.inl a)) = some (some b) := hb
    cases hb
    exact ⟨_, h3, x, rfl, r3, g3⟩
  · have hb : some k = some (some b) := hb
    injection hb with hb
    exact h4 b hb
  · have hb : none = some (some b) := hb
    cases hb
theorem ft_un {σ : Nat → Int} {a : ck_I} {L : gm_L} {k : Option ck_A} (h : ck_gl σ (ft_A a k) L) : ∃ x, ft_P σ a L x := by
  have hl : 5 = L.length := h.1
  obtain ⟨u0, l0, g0⟩ := h.2 0 (.inr (.inr (.inl 226))) rfl
  cases g0
  obtain ⟨u1, l1, x1, rfl, -, e1, e2, -⟩ := h.2 1 (.inl (ck_one 1)) rfl
  have e1 : 1 ≤ x1 := e1
  have e2 : x1 ≤ 1 := e2
  have e3 : x1 = 1 := by omega
  subst e3
  obtain ⟨u2, l2, x2, rfl, r2, -⟩ := h.2 2 (.inl ((-2147483648), 2147483647, [])) rfl
  obtain ⟨u3, l3, x3, rfl, r3, g3⟩ := h.2 3 (.inl a) rfl
  exact ⟨x3, hl.symm, l0, l1, ⟨x2, l2, r2⟩, l3, r3, g3⟩
theorem ft_gi {σ : Nat → Int} {a b x z : Int} {q : Nat} (ha : a ≤ x) (hb : x ≤ b) (hq : q < 1000000) (hx : x = σ q + z) : ck_gi σ (a, b, [(q, z)]) x := by
  refine ⟨ha, hb, fun p hp => ?_⟩
  rw [List.mem_singleton.mp hp]
  exact ⟨fun _ => hx, fun h => absurd h (by show ¬ 1000000 ≤ q; omega)⟩
theorem ft_u1 {σ : Nat → Int} {s : Nat} {v : Int} : ck_us σ s v s = v := if_pos rfl
theorem ft_u2 {σ : Nat → Int} {s q : Nat} {v : Int} (h : ¬ q = s) : ck_us σ s v q = σ q := if_neg h
section FT
variable {X : Int → Int} {LX : Nat}
theorem p2_s1487_s : ck_Ok p2_O X LX 348 p2_s1487 := by
  have hE : ck_nmu p2_O ∧ ck_OkE p2_O X LX p2_s1487_E := ⟨p2_nmu, ck_E1 (ck_S1 p2_s146_s ck_S0) (ck_E1 (ck_S1 p2_s242_s (ck_S1 p2_s241_s ck_S0)) (ck_E1 (ck_S1 p2_s1484_s ck_S0) (ck_E1 (ck_S1 p2_s1485_s ck_S0) (ck_E1 (ck_S1 p2_s1486_s ck_S0) ck_E0))))⟩
  refine ck_ok_st (cuts := [ft_21, ((110 : Nat), ft_C0)]) (by decide +kernel) hE ft_a (fun h hm => ?_)
  rw [List.mem_singleton.mp hm]
  refine ⟨List.mem_cons_of_mem _ (List.mem_singleton.mpr rfl), fun σ K0 R0 M0 => ?_⟩
  have step : ∀ (t : Int) (L : gm_L) (K : gm_K) (R : gm_R) (M : gm_M), 0 ≤ t → t ≤ 6 → ft_P σ (0, 6, []) L t → gm_Fx p2_O 245 K R M → ck_gf σ ft_F 245 K R M → ck_fr p2_s1487.2.2.2.2.1 245 K0 R0 M0 245 K R M → (t ≤ 5 → ∀ (L : gm_L) (K : gm_K) (R : gm_R) (M : gm_M), ft_P σ (0, 6, []) L (t + 1) → gm_Fx p2_O 245 K R M → ck_gf σ ft_F 245 K R M → ck_fr p2_s1487.2.2.2.2.1 245 K0 R0 M0 245 K R M → gm_Wp X LX 2 0 0 348 110 L [] 245 K R M (ck_Q p2_O σ p2_s1487.2.2.2.2.1 245 K0 R0 M0 p2_s1487.2.2.2.2.2)) → gm_Wp X LX 2 0 0 348 110 L [] 245 K R M (ck_Q p2_O σ p2_s1487.2.2.2.2.1 245 K0 R0 M0 p2_s1487.2.2.2.2.2) := by
    intro t L K R M t0 t6 hP hF hf hfr H
    have s1 : ∀ s, s < 100 → ck_us σ 300 t s = σ s := fun s hs => ft_u2 (by omega)
    have istep : ∀ (k : Int) (L : gm_L) (K : gm_K) (R : gm_R) (M : gm_M), (∃ m : Nat, k = 2 * (m : Int)) → k ≤ 400 → ft_P (ck_us σ 300 t) (0, 5, [(300, 0)]) L t → L[4]? = some (some (gm_vi k)) → gm_Fx p2_O 245 K R M → ck_gf σ ft_F 245 K R M → ck_fr p2_s1487.2.2.2.2.1 245 K0 R0 M0 245 K R M → (k + 2 ≤ 400 → ∀ (L : gm_L) (K : gm_K) (R : gm_R) (M : gm_M), ft_P (ck_us σ 300 t) (0, 5, [(300, 0)]) L t → L[4]? = some (some (gm_vi (k + 2))) → gm_Fx p2_O 245 K R M → ck_gf σ ft_F 245 K R M → ck_fr p2_s1487.2.2.2.2.1 245 K0 R0 M0 245 K R M → gm_Wp X LX 2 0 0 348 124 L [] 245 K R M (ck_Q p2_O σ p2_s1487.2.2.2.2.1 245 K0 R0 M0 p2_s1487.2.2.2.2.2)) → gm_Wp X LX 2 0 0 348 124 L [] 245 K R M (ck_Q p2_O σ p2_s1487.2.2.2.2.1 245 K0 R0 M0 p2_s1487.2.2.2.2.2) := by
      intro k L K R M hm hk hP h4 hF hf hfr HI
      obtain ⟨m, hm⟩ := hm
      have t5 : t ≤ 5 := hP.2.2.2.2.2.2.2.1
      obtain ⟨e1, e2⟩ := (hf.2.2 (226, 10, 10, (0, 400, [(7, 0)])) (List.mem_cons_self ..)).2 10 (Int.le_refl _) (Int.le_refl _)
      have e3 : (0 : Int) ≤ M 226 10 := e2.1
      have e4 : M 226 10 ≤ (400 : Int) := e2.2.1
      refine gm_sz (gm_p_load (pc := 124) (i := .iload 4) (sr := 0) (j := 4) (by decide +kernel) rfl h4 rfl) ?_
      refine gm_sz (gm_p_load (pc := 126) (i := .aload_n 0) (sr := 2) (j := 0) (by decide +kernel) rfl hP.2.1 rfl) ?_
      refine gm_sz (gm_p_get (pc := 127) (ix := 109) (ci := 11) (j := 10) (by decide +kernel) (md_mo hF).1 (md_mo hF).2 (by decide +kernel)) ?_
      rw [if_neg (show ¬ gm_isr 11 10 = true by decide +kernel)]
      have e5 : M 226 ((10 : Nat) : Int) = M 226 10 := rfl
      refine gm_b_ic (cc := .ge) (pc := 130) (off := 41) (by decide +kernel) (by decide) (fun _ => ?_) (fun hp => ?_)
      · refine ck_go_s (σ0 := σ) (cuts := [((110 : Nat), ft_Ct)]) (by decide +kernel) hE ck_X0 ck_l0 100 true [(110, ft_Ct, 0, 0, 245)] 0 0 171 (ft_A (0, 5, [(300, 0)]) none) [] 245 ft_F (ck_us σ 300 t) L [] K R M s1 (fun h hm => ?_) ⟨hF, ft_mk hP (fun b hb => nomatch hb), rfl, (ck_nF_s (by decide +kernel)).mpr hf, hfr⟩ ft_d
        rw [List.mem_singleton.mp hm]
        refine ⟨List.mem_singleton.mpr rfl, fun v _ bc bs L1 K1 R1 M1 _ _ hS _ => ?_⟩
        refine gm_Wp_wk (Nat.le_refl _) (Nat.zero_le _) (Nat.zero_le _) ?_
        obtain ⟨hF1, hl1, _, hf1, hfr1⟩ := hS
        have hl1 : ck_gl (ck_us σ 300 t) (ft_A (1, 6, [(300, 1)]) none) L1 := hl1
        have hf1 : ck_gf (ck_us σ 300 t) ft_F 245 K1 R1 M1 := hf1
        obtain ⟨x1, p1, p2, p3, p4, p5, p6, p7⟩ := ft_un hl1
        have x1t : x1 = t + 1 := by
          have := (p7.2.2 (300, 1) (List.mem_singleton.mpr rfl)).1 (by decide)
          have : x1 = ck_us σ 300 t 300 + 1 := this
          rw [ft_u1] at this
          exact this
        rw [x1t] at p5 p6
        exact H t5 L1 K1 R1 M1 ⟨p1, p2, p3, p4, p5, p6, by show (0 : Int) ≤ t + 1; omega, by show t + 1 ≤ (6 : Int); omega, fun q hq => nomatch hq⟩ hF1 ((ck_nF_s (by decide +kernel)).mp hf1) hfr1
      · rw [gm_cm_w ⟨by omega, by omega⟩ ⟨by omega, by omega⟩] at hp
        have hp : ¬ M 226 10 ≤ k := hp
        have k8 : k ≤ 398 := by omega
        have u3 : ck_us (ck_us σ 300 t) 301 k 300 = t := by rw [ft_u2 (by decide), ft_u1]
        have s2 : ∀ s, s < 100 → ck_us (ck_us σ 300 t) 301 k s = σ s := fun s hs => by rw [ft_u2 (by omega), ft_u2 (by omega)]
        obtain ⟨p1, p2, p3, p4, p5, p6, p7⟩ := hP
        refine ck_go_s (σ0 := σ) (cuts := [((124 : Nat), ft_Cn)]) (by decide +kernel) hE ck_X0 ck_l0 100 true [(124, ft_Cn, 0, 0, 245)] 0 0 133 (ft_A (0, 5, [(300, 0)]) (some (.inl (0, 398, [(301, 0)])))) [] 245 ft_F (ck_us (ck_us σ 300 t) 301 k) L [] K R M s2 (fun h hm => ?_) ⟨hF, ft_mk ⟨p1, p2, p3, p4, p5, p6, ft_gi t0 t5 (by decide) (by rw [u3]; omega)⟩ (fun b hb => ?_), rfl, (ck_nF_s (by decide +kernel)).mpr ((ck_nF_s (by decide +kernel)).mpr hf), hfr⟩ ft_c
        · rw [List.mem_singleton.mp hm]
          refine ⟨List.mem_singleton.mpr rfl, fun v _ bc bs L1 K1 R1 M1 _ _ hS _ => ?_⟩
          refine gm_Wp_wk (Nat.le_refl _) (Nat.zero_le _) (Nat.zero_le _) ?_
          obtain ⟨hF1, hl1, _, hf1, hfr1⟩ := hS
          have hl1 : ck_gl (ck_us (ck_us σ 300 t) 301 k) (ft_A (0, 5, [(300, 0)]) (some (.inl (2, 400, [(301, 2)])))) L1 := hl1
          have hf1 : ck_gf (ck_us (ck_us σ 300 t) 301 k) ft_F 245 K1 R1 M1 := hf1
          obtain ⟨x1, p1, p2, p3, p4, p5, p6, p7⟩ := ft_un hl1
          have x1t : x1 = t := by
            have := (p7.2.2 (300, 0) (List.mem_singleton.mpr rfl)).1 (by decide)
            have : x1 = ck_us (ck_us σ 300 t) 301 k 300 + 0 := this
            rw [u3] at this
            omega
          rw [x1t] at p5 p6
          obtain ⟨u4, l4, x4, rfl, -, g4⟩ := hl1.2 4 (.inl (2, 400, [(301, 2)])) rfl
          have x4k : x4 = k + 2 := by
            have := (g4.2.2 (301, 2) (List.mem_singleton.mpr rfl)).1 (by decide)
            have : x4 = ck_us (ck_us σ 300 t) 301 k 301 + 2 := this
            rw [ft_u1] at this
            exact this
          rw [x4k] at l4
          exact HI (by omega) L1 K1 R1 M1 ⟨p1, p2, p3, p4, p5, p6, ft_gi t0 t5 (by decide) (by rw [ft_u1]; omega)⟩ l4 hF1 ((ck_nF_s (by decide +kernel)).mp ((ck_nF_s (by decide +kernel)).mp hf1)) hfr1
        · cases hb
          exact ⟨_, h4, k, rfl, ⟨by omega, by omega⟩, ft_gi (by omega) k8 (by decide) (by rw [ft_u1]; omega)⟩
    have inner : ∀ (i : Nat) (k : Int) (L : gm_L) (K : gm_K) (R : gm_R) (M : gm_M), (∃ m : Nat, k = 2 * (m : Int)) → k ≤ 400 → 400 - k ≤ 2 * (i : Int) → ft_P (ck_us σ 300 t) (0, 5, [(300, 0)]) L t → L[4]? = some (some (gm_vi k)) → gm_Fx p2_O 245 K R M → ck_gf σ ft_F 245 K R M → ck_fr p2_s1487.2.2.2.2.1 245 K0 R0 M0 245 K R M → gm_Wp X LX 2 0 0 348 124 L [] 245 K R M (ck_Q p2_O σ p2_s1487.2.2.2.2.1 245 K0 R0 M0 p2_s1487.2.2.2.2.2) := by
      intro i
      induction i with
      | zero =>
        intro k L K R M hm hk hi hP h4 hF hf hfr
        exact istep k L K R M hm hk hP h4 hF hf hfr (fun h => absurd h (by omega))
      | succ i ih =>
        intro k L K R M hm hk hi hP h4 hF hf hfr
        refine istep k L K R M hm hk hP h4 hF hf hfr (fun h L1 K1 R1 M1 hP1 h41 hF1 hf1 hfr1 => ih (k + 2) L1 K1 R1 M1 ?_ h (by omega) hP1 h41 hF1 hf1 hfr1)
        obtain ⟨m, hm⟩ := hm
        exact ⟨m + 1, by omega⟩
    refine ck_go_s (σ0 := σ) (cuts := [((124 : Nat), ft_Ck)]) (by decide +kernel) hE ck_X0 ck_l0 100 true [(124, ft_Ck, 0, 0, 245)] 0 0 110 (ft_A (0, 6, [(300, 0)]) none) [] 245 ft_F (ck_us σ 300 t) L [] K R M s1 (fun h hm => ?_) ⟨hF, ft_mk ⟨hP.1, hP.2.1, hP.2.2.1, hP.2.2.2.1, hP.2.2.2.2.1, hP.2.2.2.2.2.1, ft_gi t0 t6 (by decide) (by rw [ft_u1]; omega)⟩ (fun b hb => nomatch hb), rfl, (ck_nF_s (by decide +kernel)).mpr hf, hfr⟩ ft_b
    rw [List.mem_singleton.mp hm]
    refine ⟨List.mem_singleton.mpr rfl, fun v _ bc bs L1 K1 R1 M1 _ _ hS _ => ?_⟩
    refine gm_Wp_wk (Nat.le_refl _) (Nat.zero_le _) (Nat.zero_le _) ?_
    obtain ⟨hF1, hl1, _, hf1, hfr1⟩ := hS
    have hl1 : ck_gl (ck_us σ 300 t) (ft_A (0, 5, [(300, 0)]) (some (.inl (ck_one 0)))) L1 := hl1
    have hf1 : ck_gf (ck_us σ 300 t) ft_F 245 K1 R1 M1 := hf1
    obtain ⟨x1, hP1⟩ := ft_un hl1
    have x1t : x1 = t := by
      have := (hP1.2.2.2.2.2.2.2.2 (300, 0) (List.mem_singleton.mpr rfl)).1 (by decide)
      have : x1 = ck_us σ 300 t 300 + 0 := this
      rw [ft_u1] at this
      omega
    rw [x1t] at hP1
    obtain ⟨u4, l4, x4, rfl, -, e1, e2, -⟩ := hl1.2 4 (.inl (ck_one 0)) rfl
    have e1 : 0 ≤ x4 := e1
    have e2 : x4 ≤ 0 := e2
    have e3 : x4 = 0 := by omega
    rw [e3] at l4
    exact inner 200 0 L1 K1 R1 M1 ⟨0, rfl⟩ (by decide) (by decide) hP1 l4 hF1 ((ck_nF_s (by decide +kernel)).mp hf1) hfr1
  have outer : ∀ (j : Nat) (t : Int) (L : gm_L) (K : gm_K) (R : gm_R) (M : gm_M), 0 ≤ t → t ≤ 6 → 6 - t ≤ (j : Int) → ft_P σ (0, 6, []) L t → gm_Fx p2_O 245 K R M → ck_gf σ ft_F 245 K R M → ck_fr p2_s1487.2.2.2.2.1 245 K0 R0 M0 245 K R M → gm_Wp X LX 2 0 0 348 110 L [] 245 K R M (ck_Q p2_O σ p2_s1487.2.2.2.2.1 245 K0 R0 M0 p2_s1487.2.2.2.2.2) := by
    intro j
    induction j with
    | zero =>
      intro t L K R M t0 t6 tj hP hF hf hfr
      exact step t L K R M t0 t6 hP hF hf hfr (fun h => absurd h (by omega))
    | succ j ih =>
      intro t L K R M t0 t6 tj hP hF hf hfr
      exact step t L K R M t0 t6 hP hF hf hfr (fun h L1 K1 R1 M1 hP1 hF1 hf1 hfr1 => ih (t + 1) L1 K1 R1 M1 (by omega) (by omega) (by omega) hP1 hF1 hf1 hfr1)
  intro v _ bc bs L K R M _ _ hS _
  refine gm_Wp_wk (Nat.le_refl _) (Nat.zero_le _) (Nat.zero_le _) ?_
  obtain ⟨hF, hl, _, hf, hfr⟩ := hS
  have hl : ck_gl σ (ft_A (ck_one 0) none) L := hl
  have hf : ck_gf σ ft_F 245 K R M := hf
  obtain ⟨x, p1, p2, p3, p4, p5, p6, p7, p8, p9⟩ := ft_un hl
  have p7 : 0 ≤ x := p7
  have p8 : x ≤ 0 := p8
  exact outer 6 x L K R M p7 (by omega) (by omega) ⟨p1, p2, p3, p4, p5, p6, p7, by show x ≤ 6; omega, fun q hq => nomatch hq⟩ hF hf hfr
end FT
end
/-! 78r80a19.sf -/
section
/-! EVERY CALL ENDS, whatever was done before (laid by wip/am/p2k.py). -/
set_option maxRecDepth 100000 in
/-- GlacierMail.soonest -/
noncomputable def p2_s1488 : ck_Sum := (((8 : Nat), (1 : Nat), (6 : Nat)), (245 : Nat), [.inr (.inr (.inl (1 : Nat))), .inl ((-2147483648 : Int), (-1 : Int), []), .inl ((-2147483648 : Int), (2147483647 : Int), []), .inl ((0 : Int), (1 : Int), [])], ([], [], []), ([], []), [(.inl (3 : Nat), (245 : Nat), ([], [], []))])
set_option maxRecDepth 100000 in
theorem p2_s1488_s {X : Int → Int} {LX : Nat} : ck_Ok p2_O X LX 201 p2_s1488 := ck_okq (cuts := []) (f := 76) ⟨p2_nmu, ck_E1 (ck_S1 p2_s322_s ck_S0) ck_E0⟩ (by decide +kernel)
set_option maxRecDepth 100000 in
/-- GlacierMail.soonest -/
noncomputable def p2_s1489 : ck_Sum := (((8 : Nat), (1 : Nat), (6 : Nat)), (245 : Nat), [.inr (.inr (.inl (1 : Nat))), .inl ((8 : Int), (2147483647 : Int), []), .inl ((-2147483648 : Int), (2147483647 : Int), []), .inl ((0 : Int), (1 : Int), [])], ([], [], []), ([], []), [(.inl (3 : Nat), (245 : Nat), ([], [], []))])
set_option maxRecDepth 100000 in
theorem p2_s1489_s {X : Int → Int} {LX : Nat} : ck_Ok p2_O X LX 201 p2_s1489 := ck_okq (cuts := []) (f := 76) ⟨p2_nmu, ck_E1 (ck_S1 p2_s325_s ck_S0) ck_E0⟩ (by decide +kernel)
set_option maxRecDepth 100000 in
/-- GlacierMail.soonest -/
noncomputable def p2_s1490 : ck_Sum := (((8 : Nat), (2 : Nat), (12 : Nat)), (245 : Nat), [.inr (.inr (.inl (1 : Nat))), .inl ((0 : Int), (7 : Int), []), .inl ((-2147483648 : Int), (-1 : Int), []), .inl ((0 : Int), (1 : Int), [])], ([], [], []), ([], []), [(.inl (3 : Nat), (245 : Nat), ([], [], []))])
set_option maxRecDepth 100000 in
theorem p2_s1490_s {X : Int → Int} {LX : Nat} : ck_Ok p2_O X LX 201 p2_s1490 := ck_okq (cuts := []) (f := 82) ⟨p2_nmu, ck_E1 (ck_S1 p2_s328_s (ck_S1 p2_s322_s ck_S0)) ck_E0⟩ (by decide +kernel)
set_option maxRecDepth 100000 in
/-- GlacierMail.soonest -/
noncomputable def p2_s1491 : ck_Sum := (((8 : Nat), (2 : Nat), (12 : Nat)), (245 : Nat), [.inr (.inr (.inl (1 : Nat))), .inl ((0 : Int), (7 : Int), []), .inl ((8 : Int), (2147483647 : Int), []), .inl ((0 : Int), (1 : Int), [])], ([], [], []), ([], []), [(.inl (3 : Nat), (245 : Nat), ([], [], []))])
set_option maxRecDepth 100000 in
theorem p2_s1491_s {X : Int → Int} {LX : Nat} : ck_Ok p2_O X LX 201 p2_s1491 := ck_okq (cuts := []) (f := 82) ⟨p2_nmu, ck_E1 (ck_S1 p2_s328_s (ck_S1 p2_s325_s ck_S0)) ck_E0⟩ (by decide +kernel)
set_option maxRecDepth 100000 in
/-- java/util/Arrays.fill -/
noncomputable def p2_s1492 : ck_Sum := (((0 : Nat), (0 : Nat), (0 : Nat)), (245 : Nat), [.inr (.inr (.inl (210 : Nat))), .inl (ck_one 0)], ([], [], []), ([((210 : Nat), (0 : Int), (2399 : Int))], []), [(.inr none, (245 : Nat), ([], [], []))])
set_option maxRecDepth 100000 in
theorem p2_s1492_s {X : Int → Int} {LX : Nat} : ck_Ok p2_O X LX 8 p2_s1492 := ck_okq (cuts := [((5 : Nat), [some (.inr (.inr (.inl (210 : Nat)))), some (.inl (ck_one 0)), some (.inl ((0 : Int), (2400 : Int), [])), some (.inl (ck_one 2400))], ([], [], []), (100 : Nat), .inl (2 : Nat), true)]) (f := 130) ⟨p2_nmu, ck_E0⟩ (by decide +kernel)
set_option maxRecDepth 100000 in
/-- GlacierMail$Rows.reset -/
noncomputable def p2_s1493 : ck_Sum := (((1 : Nat), (0 : Nat), (0 : Nat)), (245 : Nat), [.inr (.inr (.inl (209 : Nat))), .inl ((0 : Int), (8 : Int), [])], ([], [], []), ([((209 : Nat), (3 : Int), (3 : Int)), ((210 : Nat), (0 : Int), (2399 : Int))], []), [(.inr none, (245 : Nat), ([], [], []))])
set_option maxRecDepth 100000 in
theorem p2_s1493_s {X : Int → Int} {LX : Nat} : ck_Ok p2_O X LX 25 p2_s1493 := ck_okq (cuts := []) (f := 96) ⟨p2_nmu, ck_E1 (ck_S1 p2_s1492_s ck_S0) ck_E0⟩ (by decide +kernel)
set_option maxRecDepth 100000 in
/-- java/util/Arrays.fill -/
noncomputable def p2_s1494 : ck_Sum := (((0 : Nat), (0 : Nat), (0 : Nat)), (245 : Nat), [.inr (.inr (.inl (212 : Nat))), .inl (ck_one 0)], ([], [], []), ([((212 : Nat), (0 : Int), (2399 : Int))], []), [(.inr none, (245 : Nat), ([], [], []))])
set_option maxRecDepth 100000 in
theorem p2_s1494_s {X : Int → Int} {LX : Nat} : ck_Ok p2_O X LX 8 p2_s1494 := ck_okq (cuts := [((5 : Nat), [some (.inr (.inr (.inl (212 : Nat)))), some (.inl (ck_one 0)), some (.inl ((0 : Int), (2400 : Int), [])), some (.inl (ck_one 2400))], ([], [], []), (100 : Nat), .inl (2 : Nat), true)]) (f := 130) ⟨p2_nmu, ck_E0⟩ (by decide +kernel)
set_option maxRecDepth 100000 in
/-- GlacierMail$Rows.reset -/
noncomputable def p2_s1495 : ck_Sum := (((1 : Nat), (0 : Nat), (0 : Nat)), (245 : Nat), [.inr (.inr (.inl (211 : Nat))), .inl ((0 : Int), (8 : Int), [])], ([], [], []), ([((211 : Nat), (3 : Int), (3 : Int)), ((212 : Nat), (0 : Int), (2399 : Int))], []), [(.inr none, (245 : Nat), ([], [], []))])
set_option maxRecDepth 100000 in
theorem p2_s1495_s {X : Int → Int} {LX : Nat} : ck_Ok p2_O X LX 25 p2_s1495 := ck_okq (cuts := []) (f := 96) ⟨p2_nmu, ck_E1 (ck_S1 p2_s1494_s ck_S0) ck_E0⟩ (by decide +kernel)
set_option maxRecDepth 100000 in
/-- GlacierMail$Rows.get -/
noncomputable def p2_s1496 : ck_Sum := (((0 : Nat), (0 : Nat), (0 : Nat)), (245 : Nat), [.inr (.inr (.inl (209 : Nat))), .inl ((-2147483648 : Int), (2147483647 : Int), []), .inl ((-2147483648 : Int), (2147483647 : Int), [])], ([], [], []), ([], []), [(.inr (some (.inl ((-2147483648 : Int), (2147483647 : Int), []))), (245 : Nat), ([], [], []))])
set_option maxRecDepth 100000 in
theorem p2_s1496_s {X : Int → Int} {LX : Nat} : ck_Ok p2_O X LX 10 p2_s1496 := ck_okq (cuts := []) (f := 114) ⟨p2_nmu, ck_E0⟩ (by decide +kernel)
set_option maxRecDepth 100000 in
/-- GlacierMail$Rows.put -/
noncomputable def p2_s1497 : ck_Sum := (((0 : Nat), (0 : Nat), (0 : Nat)), (245 : Nat), [.inr (.inr (.inl (211 : Nat))), .inl ((0 : Int), (7 : Int), []), .inl ((0 : Int), (299 : Int), []), .inl ((-2147483648 : Int), (299 : Int), [])], ([], [], []), ([((212 : Nat), (0 : Int), (2399 : Int))], []), [(.inr none, (245 : Nat), ([], [], []))])
set_option maxRecDepth 100000 in
theorem p2_s1497_s {X : Int → Int} {LX : Nat} : ck_Ok p2_O X LX 45 p2_s1497 := ck_okq (cuts := []) (f := 116) ⟨p2_nmu, ck_E0⟩ (by decide +kernel)
set_option maxRecDepth 100000 in
/-- GlacierMail$Rows.put -/
noncomputable def p2_s1498 : ck_Sum := (((0 : Nat), (0 : Nat), (0 : Nat)), (245 : Nat), [.inr (.inr (.inl (209 : Nat))), .inl ((0 : Int), (7 : Int), []), .inl ((-2147483648 : Int), (299 : Int), []), .inl (ck_one 1)], ([], [], []), ([((210 : Nat), (0 : Int), (2399 : Int))], []), [(.inr none, (245 : Nat), ([], [], []))])
set_option maxRecDepth 100000 in
theorem p2_s1498_s {X : Int → Int} {LX : Nat} : ck_Ok p2_O X LX 45 p2_s1498 := ck_okq (cuts := []) (f := 116) ⟨p2_nmu, ck_E0⟩ (by decide +kernel)
set_option maxRecDepth 100000 in
/-- GlacierMail$Answers.throwAgain -/
noncomputable def p2_s1499 : ck_Sum := (((4 : Nat), (0 : Nat), (0 : Nat)), (245 : Nat), [.inr (.inr (.inl (208 : Nat))), .inl ((0 : Int), (7 : Int), []), .inl ((0 : Int), (299 : Int), []), .inl (ck_one 1), .inl (ck_one 299)], ([], [((3 : Nat), (8 : Int), (0 : Nat))], []), ([((206 : Nat), (2 : Int), (8 : Int)), ((210 : Nat), (0 : Int), (2399 : Int)), ((212 : Nat), (0 : Int), (2399 : Int))], []), [(.inr none, (245 : Nat), ([], [], [((206 : Nat), (4 : Int), (4 : Int), ck_one (-1))]))])
set_option maxRecDepth 100000 in
theorem p2_s1499_s {X : Int → Int} {LX : Nat} : ck_Ok p2_O X LX 203 p2_s1499 := ck_okq (cuts := [((59 : Nat), [some (.inr (.inr (.inl (208 : Nat)))), some (.inl ((0 : Int), (7 : Int), [])), some (.inl ((0 : Int), (299 : Int), [])), some (.inl (ck_one 1)), some (.inl (ck_one 299)), some (.inr (.inr (.inl (8 : Nat)))), some (.inl ((-1 : Int), (98 : Int), [])), some (.inl ((-2147483648 : Int), (299 : Int), [])), some (.inl ((0 : Int), (8 : Int), [])), none], ([], [((3 : Nat), (8 : Int), (0 : Nat))], [((206 : Nat), (4 : Int), (4 : Int), ck_one (-1))]), (100 : Nat), .inl (8 : Nat), true)]) (f := 214) ⟨p2_nmu, ck_E1 (ck_S1 p2_s356_s (ck_S1 p2_s1496_s ck_S0)) (ck_E1 (ck_S1 p2_s1332_s ck_S0) (ck_E1 (ck_S1 p2_s346_s ck_S0) (ck_E1 (ck_S1 p2_s1497_s (ck_S1 p2_s1498_s ck_S0)) (ck_E1 (ck_S1 p2_s320_s ck_S0) ck_E0))))⟩ (by decide +kernel)
set_option maxRecDepth 100000 in
/-- GlacierMail$Rows.put -/
noncomputable def p2_s1500 : ck_Sum := (((0 : Nat), (0 : Nat), (0 : Nat)), (245 : Nat), [.inr (.inr (.inl (211 : Nat))), .inl ((0 : Int), (7 : Int), []), .inl ((2 : Int), (299 : Int), []), .inl ((-2147483648 : Int), (299 : Int), [])], ([], [], []), (zl198, []), [(.inr none, (245 : Nat), ([], [], []))])
set_option maxRecDepth 100000 in
theorem p2_s1500_s {X : Int → Int} {LX : Nat} : ck_Ok p2_O X LX 45 p2_s1500 := ck_okq (cuts := []) (f := 116) ⟨p2_nmu, ck_E0⟩ (by decide +kernel)
set_option maxRecDepth 100000 in
/-- GlacierMail$Rows.put -/
noncomputable def p2_s1501 : ck_Sum := (((0 : Nat), (0 : Nat), (0 : Nat)), (245 : Nat), [.inr (.inr (.inl (209 : Nat))), .inl ((0 : Int), (7 : Int), []), .inl ((-2147483648 : Int), (299 : Int), []), .inl ((-2147483648 : Int), (2147483647 : Int), [])], ([], [], []), ([((210 : Nat), (0 : Int), (2399 : Int))], []), [(.inr none, (245 : Nat), ([], [], []))])
set_option maxRecDepth 100000 in
theorem p2_s1501_s {X : Int → Int} {LX : Nat} : ck_Ok p2_O X LX 45 p2_s1501 := ck_okq (cuts := []) (f := 116) ⟨p2_nmu, ck_E0⟩ (by decide +kernel)
set_option maxRecDepth 100000 in
/-- GlacierMail$Answers.throwAgain -/
noncomputable def p2_s1502 : ck_Sum := (((4 : Nat), (0 : Nat), (0 : Nat)), (245 : Nat), [.inr (.inr (.inl (208 : Nat))), .inl ((0 : Int), (7 : Int), []), .inl ((2 : Int), (299 : Int), []), .inl ((-2147483648 : Int), (2147483647 : Int), []), .inl (ck_one 299)], ([], [((3 : Nat), (8 : Int), (0 : Nat))], []), (zl199, []), [(.inr none, (245 : Nat), ([], [], [((206 : Nat), (4 : Int), (4 : Int), ck_one (-1))]))])
set_option maxRecDepth 100000 in
theorem p2_s1502_s {X : Int → Int} {LX : Nat} : ck_Ok p2_O X LX 203 p2_s1502 := ck_okq (cuts := [((59 : Nat), [some (.inr (.inr (.inl (208 : Nat)))), some (.inl ((0 : Int), (7 : Int), [])), some (.inl ((2 : Int), (299 : Int), [])), some (.inl ((-2147483648 : Int), (2147483647 : Int), [])), some (.inl (ck_one 299)), some (.inr (.inr (.inl (8 : Nat)))), some (.inl ((-1 : Int), (98 : Int), [])), some (.inl ((-2147483648 : Int), (299 : Int), [])), some (.inl ((0 : Int), (8 : Int), [])), none], ([], [((3 : Nat), (8 : Int), (0 : Nat))], [((206 : Nat), (4 : Int), (4 : Int), ck_one (-1))]), (100 : Nat), .inl (8 : Nat), true)]) (f := 214) ⟨p2_nmu, ck_E1 (ck_S1 p2_s356_s (ck_S1 p2_s1496_s ck_S0)) (ck_E1 (ck_S1 p2_s1332_s ck_S0) (ck_E1 (ck_S1 p2_s346_s ck_S0) (ck_E1 (ck_S1 p2_s1500_s (ck_S1 p2_s1501_s ck_S0)) (ck_E1 (ck_S1 p2_s320_s ck_S0) ck_E0))))⟩ (by decide +kernel)
set_option maxRecDepth 100000 in
/-- GlacierMail$Answers.spread -/
noncomputable def p2_s1503 : ck_Sum := (((5 : Nat), (0 : Nat), (0 : Nat)), (245 : Nat), [.inr (.inr (.inl (208 : Nat))), .inl ((0 : Int), (7 : Int), []), .inl ((0 : Int), (7 : Int), []), .inl (ck_one 299)], ([], [((3 : Nat), (8 : Int), (0 : Nat))], [((3 : Nat), (6 : Int), (6 : Int), ((0 : Int), (299 : Int), [((10 : Nat), (0 : Int))]))]), (zl200, []), [(.inr none, (245 : Nat), ([], [], [((206 : Nat), (4 : Int), (4 : Int), ck_one (-1))]))])
set_option maxRecDepth 100000 in
theorem p2_s1503_s {X : Int → Int} {LX : Nat} : ck_Ok p2_O X LX 202 p2_s1503 := ck_okq (cuts := [((59 : Nat), [some (.inr (.inr (.inl (208 : Nat)))), some (.inl ((0 : Int), (7 : Int), [])), some (.inl ((0 : Int), (7 : Int), [])), some (.inl (ck_one 299)), some (.inl ((1 : Int), (300 : Int), [((1000010 : Nat), (1 : Int))])), none, none], ([], [((3 : Nat), (8 : Int), (0 : Nat))], [((206 : Nat), (4 : Int), (4 : Int), ck_one (-1)), ((3 : Nat), (6 : Int), (6 : Int), ((0 : Int), (299 : Int), [((10 : Nat), (0 : Int))]))]), (100 : Nat), .inl (4 : Nat), true), ((82 : Nat), [some (.inr (.inr (.inl (208 : Nat)))), some (.inl ((0 : Int), (7 : Int), [])), some (.inl ((0 : Int), (7 : Int), [])), some (.inl (ck_one 299)), some (.inl ((1 : Int), (298 : Int), [((100 : Nat), (0 : Int)), ((1000010 : Nat), (1 : Int))])), some (.inl ((0 : Int), (8 : Int), [])), none], ([], [((3 : Nat), (8 : Int), (0 : Nat))], [((206 : Nat), (4 : Int), (4 : Int), ck_one (-1)), ((3 : Nat), (6 : Int), (6 : Int), ((0 : Int), (299 : Int), [((10 : Nat), (0 : Int))]))]), (300 : Nat), .inl (5 : Nat), true)]) (f := 284) ⟨p2_nmu, ck_E1 (ck_S1 p2_s320_s ck_S0) (ck_E1 (ck_S1 p2_s1493_s (ck_S1 p2_s1495_s ck_S0)) (ck_E1 (ck_S1 p2_s1499_s (ck_S1 p2_s1502_s ck_S0)) (ck_E1 (ck_S1 p2_s1496_s ck_S0) ck_E0)))⟩ (by decide +kernel)
set_option maxRecDepth 100000 in
/-- GlacierMail$Answers.firstYear -/
noncomputable def p2_s1504 : ck_Sum := (((1 : Nat), (0 : Nat), (0 : Nat)), (245 : Nat), [.inr (.inr (.inl (208 : Nat))), .inl ((0 : Int), (7 : Int), [])], ([], [], []), ([], []), [(.inr (some (.inl (ck_one (-1)))), (245 : Nat), ([], [], [])), (.inr (some (.inl ((0 : Int), (299 : Int), []))), (245 : Nat), ([], [], []))])
set_option maxRecDepth 100000 in
theorem p2_s1504_s {X : Int → Int} {LX : Nat} : ck_Ok p2_O X LX 204 p2_s1504 := ck_okq (cuts := [((2 : Nat), [some (.inr (.inr (.inl (208 : Nat)))), some (.inl ((0 : Int), (7 : Int), [])), some (.inl ((0 : Int), (300 : Int), []))], ([], [], []), (100 : Nat), .inl (2 : Nat), true)]) (f := 138) ⟨p2_nmu, ck_E1 (ck_S1 p2_s1496_s ck_S0) ck_E0⟩ (by decide +kernel)
set_option maxRecDepth 100000 in
/-- GlacierMail$Answers.fewestThrows -/
noncomputable def p2_s1505 : ck_Sum := (((1 : Nat), (0 : Nat), (0 : Nat)), (245 : Nat), [.inr (.inr (.inl (208 : Nat))), .inl ((0 : Int), (7 : Int), []), .inl ((0 : Int), (299 : Int), [])], ([], [], []), ([], []), [(.inr (some (.inl ((-2147483648 : Int), (2147483647 : Int), []))), (245 : Nat), ([], [], []))])
set_option maxRecDepth 100000 in
theorem p2_s1505_s {X : Int → Int} {LX : Nat} : ck_Ok p2_O X LX 205 p2_s1505 := ck_okq (cuts := []) (f := 82) ⟨p2_nmu, ck_E1 (ck_S1 p2_s1496_s ck_S0) ck_E0⟩ (by decide +kernel)
set_option maxRecDepth 100000 in
/-- GlacierMail.soonest -/
noncomputable def p2_s1506 : ck_Sum := (((8 : Nat), (3 : Nat), (18 : Nat)), (245 : Nat), [.inr (.inr (.inl (1 : Nat))), .inl ((0 : Int), (7 : Int), []), .inl ((0 : Int), (7 : Int), []), .inl ((0 : Int), (1 : Int), [])], ([], [((3 : Nat), (8 : Int), (0 : Nat))], [((3 : Nat), (6 : Int), (6 : Int), ((0 : Int), (299 : Int), [((10 : Nat), (0 : Int))]))]), (zl200, []), [(.inl (3 : Nat), (245 : Nat), ([], [], [])), (.inl (0 : Nat), (245 : Nat), ([], [], [])), (.inr (some (.inl ((-2147483648 : Int), (2147483647 : Int), []))), (245 : Nat), ([], [], [((206 : Nat), (4 : Int), (4 : Int), ck_one (-1))])), (.inr (some (.inl ((0 : Int), (299 : Int), []))), (245 : Nat), ([], [], [((206 : Nat), (4 : Int), (4 : Int), ck_one (-1))]))])
set_option maxRecDepth 100000 in
theorem p2_s1506_s {X : Int → Int} {LX : Nat} : ck_Ok p2_O X LX 201 p2_s1506 := ck_okq (cuts := []) (f := 136) ⟨p2_nmu, ck_E1 (ck_S1 p2_s328_s ck_S0) (ck_E1 (ck_S1 p2_s442_s ck_S0) (ck_E1 (ck_S1 p2_s1503_s ck_S0) (ck_E1 (ck_S1 p2_s1504_s ck_S0) (ck_E1 (ck_S1 p2_s1505_s ck_S0) ck_E0))))⟩ (by decide +kernel)
set_option maxRecDepth 100000 in
/-- GlacierMailModel.soonest -/
noncomputable def p2_s1507 : ck_Sum := (((2 : Nat), (0 : Nat), (0 : Nat)), (245 : Nat), [.inr (.inr (.inl (226 : Nat))), .inl ((-2147483648 : Int), (-1 : Int), []), .inl ((-2147483648 : Int), (2147483647 : Int), []), .inl ((0 : Int), (1 : Int), [])], ([], [], [((227 : Nat), (3 : Int), (3 : Int), ((0 : Int), (8 : Int), [((21 : Nat), (0 : Int))]))]), ([((226 : Nat), (0 : Int), (0 : Int))], []), [(.inr (some (.inl (ck_one 0))), (245 : Nat), ([], [], [((226 : Nat), (0 : Int), (0 : Int), ck_one 1)]))])
set_option maxRecDepth 100000 in
theorem p2_s1507_s {X : Int → Int} {LX : Nat} : ck_Ok p2_O X LX 349 p2_s1507 := ck_okq (cuts := []) (f := 100) ⟨p2_nmu, ck_E1 (ck_S1 p2_s359_s ck_S0) (ck_E1 (ck_S1 p2_s241_s ck_S0) ck_E0)⟩ (by decide +kernel)
set_option maxRecDepth 100000 in
/-- GlacierMailModel.soonest -/
noncomputable def p2_s1508 : ck_Sum := (((2 : Nat), (0 : Nat), (0 : Nat)), (245 : Nat), [.inr (.inr (.inl (226 : Nat))), .inl ((8 : Int), (2147483647 : Int), []), .inl ((-2147483648 : Int), (2147483647 : Int), []), .inl ((0 : Int), (1 : Int), [])], ([], [], [((227 : Nat), (3 : Int), (3 : Int), ((0 : Int), (8 : Int), [((21 : Nat), (0 : Int))]))]), ([((226 : Nat), (0 : Int), (0 : Int))], []), [(.inr (some (.inl (ck_one 0))), (245 : Nat), ([], [], [((226 : Nat), (0 : Int), (0 : Int), ck_one 1)]))])
set_option maxRecDepth 100000 in
theorem p2_s1508_s {X : Int → Int} {LX : Nat} : ck_Ok p2_O X LX 349 p2_s1508 := ck_okq (cuts := []) (f := 100) ⟨p2_nmu, ck_E1 (ck_S1 p2_s362_s ck_S0) (ck_E1 (ck_S1 p2_s241_s ck_S0) ck_E0)⟩ (by decide +kernel)
set_option maxRecDepth 100000 in
/-- GlacierMailModel.soonest -/
noncomputable def p2_s1509 : ck_Sum := (((2 : Nat), (0 : Nat), (0 : Nat)), (245 : Nat), [.inr (.inr (.inl (226 : Nat))), .inl ((0 : Int), (7 : Int), []), .inl ((-2147483648 : Int), (-1 : Int), []), .inl ((0 : Int), (1 : Int), [])], ([], [], [((227 : Nat), (3 : Int), (3 : Int), ((0 : Int), (8 : Int), [((21 : Nat), (0 : Int))]))]), ([((226 : Nat), (0 : Int), (0 : Int))], []), [(.inr (some (.inl (ck_one 0))), (245 : Nat), ([], [], [((226 : Nat), (0 : Int), (0 : Int), ck_one 1)]))])
set_option maxRecDepth 100000 in
theorem p2_s1509_s {X : Int → Int} {LX : Nat} : ck_Ok p2_O X LX 349 p2_s1509 := ck_okq (cuts := []) (f := 108) ⟨p2_nmu, ck_E1 (ck_S1 p2_s365_s (ck_S1 p2_s359_s ck_S0)) (ck_E1 (ck_S1 p2_s241_s ck_S0) ck_E0)⟩ (by decide +kernel)
set_option maxRecDepth 100000 in
/-- GlacierMailModel.soonest -/
noncomputable def p2_s1510 : ck_Sum := (((2 : Nat), (0 : Nat), (0 : Nat)), (245 : Nat), [.inr (.inr (.inl (226 : Nat))), .inl ((0 : Int), (7 : Int), []), .inl ((8 : Int), (2147483647 : Int), []), .inl ((0 : Int), (1 : Int), [])], ([], [], [((227 : Nat), (3 : Int), (3 : Int), ((0 : Int), (8 : Int), [((21 : Nat), (0 : Int))]))]), ([((226 : Nat), (0 : Int), (0 : Int))], []), [(.inr (some (.inl (ck_one 0))), (245 : Nat), ([], [], [((226 : Nat), (0 : Int), (0 : Int), ck_one 1)]))])
set_option maxRecDepth 100000 in
theorem p2_s1510_s {X : Int → Int} {LX : Nat} : ck_Ok p2_O X LX 349 p2_s1510 := ck_okq (cuts := []) (f := 108) ⟨p2_nmu, ck_E1 (ck_S1 p2_s365_s (ck_S1 p2_s362_s ck_S0)) (ck_E1 (ck_S1 p2_s241_s ck_S0) ck_E0)⟩ (by decide +kernel)
set_option maxRecDepth 100000 in
/-- GlacierMailModel.at -/
noncomputable def p2_s1511 : ck_Sum := (((0 : Nat), (0 : Nat), (0 : Nat)), (245 : Nat), [.inl ((0 : Int), (7 : Int), []), .inl ((0 : Int), (300 : Int), [])], ([], [], []), ([], []), [(.inr (some (.inl ((0 : Int), (2407 : Int), []))), (245 : Nat), ([], [], []))])
set_option maxRecDepth 100000 in
theorem p2_s1511_s {X : Int → Int} {LX : Nat} : ck_Ok p2_O X LX 351 p2_s1511 := ck_okq (cuts := []) (f := 82) ⟨p2_nmu, ck_E0⟩ (by decide +kernel)
set_option maxRecDepth 100000 in
/-- GlacierMailModel.isWatching -/
noncomputable def p2_s1512 : ck_Sum := (((1 : Nat), (0 : Nat), (0 : Nat)), (245 : Nat), [.inr (.inr (.inl (226 : Nat))), .inl ((0 : Int), (7 : Int), []), .inl ((0 : Int), (7 : Int), [])], ([], [], []), ([], []), [(.inr (some (.inl (ck_one 0))), (245 : Nat), ([], [], [])), (.inr (some (.inl (ck_one 1))), (245 : Nat), ([], [], []))])
set_option maxRecDepth 100000 in
theorem p2_s1512_s {X : Int → Int} {LX : Nat} : ck_Ok p2_O X LX 352 p2_s1512 := ck_okq (cuts := []) (f := 94) ⟨p2_nmu, ck_E1 (ck_S1 p2_s569_s (ck_S1 p2_s554_s ck_S0)) ck_E0⟩ (by decide +kernel)
set_option maxRecDepth 100000 in
/-- GlacierMailModel.hasIn -/
noncomputable def p2_s1514 : ck_Sum := (((1 : Nat), (0 : Nat), (0 : Nat)), (245 : Nat), [.inr (.inr (.inl (226 : Nat))), .inl ((0 : Int), (7 : Int), [])], ([], [], []), ([], []), [(.inr (some (.inl (ck_one (-1)))), (245 : Nat), ([], [], [])), (.inr (some (.inl ((0 : Int), (299 : Int), []))), (245 : Nat), ([], [], []))])
set_option maxRecDepth 100000 in
theorem p2_s1514_s {X : Int → Int} {LX : Nat} : ck_Ok p2_O X LX 353 p2_s1514 := ck_okq (cuts := [((2 : Nat), [some (.inr (.inr (.inl (226 : Nat)))), some (.inl ((0 : Int), (7 : Int), [])), some (.inl ((0 : Int), (300 : Int), []))], ([], [], []), (100 : Nat), .inl (2 : Nat), true)]) (f := 146) ⟨p2_nmu, ck_E1 (ck_S1 p2_s1511_s ck_S0) ck_E0⟩ (by decide +kernel)
set_option maxRecDepth 100000 in
/-- GlacierMail.chain -/
noncomputable def p2_s1516 : ck_Sum := (((8 : Nat), (1 : Nat), (6 : Nat)), (245 : Nat), [.inr (.inr (.inl (1 : Nat))), .inl ((-2147483648 : Int), (-1 : Int), []), .inl ((-2147483648 : Int), (2147483647 : Int), []), .inl ((-2147483648 : Int), (2147483647 : Int), [])], ([], [], []), ([], []), [(.inl (3 : Nat), (245 : Nat), ([], [], []))])
set_option maxRecDepth 100000 in
theorem p2_s1516_s {X : Int → Int} {LX : Nat} : ck_Ok p2_O X LX 207 p2_s1516 := ck_okq (cuts := []) (f := 76) ⟨p2_nmu, ck_E1 (ck_S1 p2_s322_s ck_S0) ck_E0⟩ (by decide +kernel)
set_option maxRecDepth 100000 in
/-- GlacierMail.chain -/
noncomputable def p2_s1517 : ck_Sum := (((8 : Nat), (1 : Nat), (6 : Nat)), (245 : Nat), [.inr (.inr (.inl (1 : Nat))), .inl ((8 : Int), (2147483647 : Int), []), .inl ((-2147483648 : Int), (2147483647 : Int), []), .inl ((-2147483648 : Int), (2147483647 : Int), [])], ([], [], []), ([], []), [(.inl (3 : Nat), (245 : Nat), ([], [], []))])
set_option maxRecDepth 100000 in
theorem p2_s1517_s {X : Int → Int} {LX : Nat} : ck_Ok p2_O X LX 207 p2_s1517 := ck_okq (cuts := []) (f := 76) ⟨p2_nmu, ck_E1 (ck_S1 p2_s325_s ck_S0) ck_E0⟩ (by decide +kernel)
set_option maxRecDepth 100000 in
/-- GlacierMail.chain -/
noncomputable def p2_s1518 : ck_Sum := (((8 : Nat), (2 : Nat), (12 : Nat)), (245 : Nat), [.inr (.inr (.inl (1 : Nat))), .inl ((0 : Int), (7 : Int), []), .inl ((-2147483648 : Int), (-1 : Int), []), .inl ((-2147483648 : Int), (2147483647 : Int), [])], ([], [], []), ([], []), [(.inl (3 : Nat), (245 : Nat), ([], [], []))])
set_option maxRecDepth 100000 in
theorem p2_s1518_s {X : Int → Int} {LX : Nat} : ck_Ok p2_O X LX 207 p2_s1518 := ck_okq (cuts := []) (f := 82) ⟨p2_nmu, ck_E1 (ck_S1 p2_s328_s (ck_S1 p2_s322_s ck_S0)) ck_E0⟩ (by decide +kernel)
set_option maxRecDepth 100000 in
/-- GlacierMail.chain -/
noncomputable def p2_s1519 : ck_Sum := (((8 : Nat), (2 : Nat), (12 : Nat)), (245 : Nat), [.inr (.inr (.inl (1 : Nat))), .inl ((0 : Int), (7 : Int), []), .inl ((8 : Int), (2147483647 : Int), []), .inl ((-2147483648 : Int), (2147483647 : Int), [])], ([], [], []), ([], []), [(.inl (3 : Nat), (245 : Nat), ([], [], []))])
set_option maxRecDepth 100000 in
theorem p2_s1519_s {X : Int → Int} {LX : Nat} : ck_Ok p2_O X LX 207 p2_s1519 := ck_okq (cuts := []) (f := 82) ⟨p2_nmu, ck_E1 (ck_S1 p2_s328_s (ck_S1 p2_s325_s ck_S0)) ck_E0⟩ (by decide +kernel)
set_option maxRecDepth 100000 in
/-- GlacierMail$Rows.get -/
noncomputable def p2_s1520 : ck_Sum := (((0 : Nat), (0 : Nat), (0 : Nat)), (245 : Nat), [.inr (.inr (.inl (211 : Nat))), .inl ((-2147483648 : Int), (2147483647 : Int), []), .inl ((-2147483648 : Int), (2147483647 : Int), [])], ([], [], []), ([], []), [(.inr (some (.inl ((-2147483648 : Int), (299 : Int), []))), (245 : Nat), ([], [], []))])
set_option maxRecDepth 100000 in
theorem p2_s1520_s {X : Int → Int} {LX : Nat} : ck_Ok p2_O X LX 10 p2_s1520 := ck_okq (cuts := []) (f := 114) ⟨p2_nmu, ck_E0⟩ (by decide +kernel)
set_option maxRecDepth 100000 in
/-- GlacierMail$Answers.throwAhead -/
noncomputable def p2_s1521 : ck_Sum := (((1 : Nat), (0 : Nat), (0 : Nat)), (245 : Nat), [.inr (.inr (.inl (208 : Nat))), .inl ((0 : Int), (2398 : Int), []), .inl ((0 : Int), (299 : Int), []), .inl ((1 : Int), (2147483646 : Int), [])], ([], [], [((3 : Nat), (6 : Int), (6 : Int), ((0 : Int), (299 : Int), [((10 : Nat), (0 : Int))]))]), ([], []), [(.inr (some (.inl ((0 : Int), (2398 : Int), []))), (245 : Nat), ([], [], []))])
set_option maxRecDepth 100000 in
theorem p2_s1521_s {X : Int → Int} {LX : Nat} : ck_Ok p2_O X LX 209 p2_s1521 := ck_okq (cuts := [((17 : Nat), [some (.inr (.inr (.inl (208 : Nat)))), some (.inl ((0 : Int), (2398 : Int), [])), some (.inl ((0 : Int), (299 : Int), [])), some (.inl ((1 : Int), (2147483646 : Int), [])), some (.inl ((-1 : Int), (98 : Int), [])), some (.inl ((0 : Int), (9 : Int), [])), none], ([], [], [((3 : Nat), (6 : Int), (6 : Int), ((0 : Int), (299 : Int), [((10 : Nat), (0 : Int))]))]), (100 : Nat), .inl (5 : Nat), true), ((59 : Nat), [some (.inr (.inr (.inl (208 : Nat)))), some (.inl ((0 : Int), (2398 : Int), [])), some (.inl ((0 : Int), (299 : Int), [])), some (.inl ((1 : Int), (2147483646 : Int), [])), some (.inl ((-1 : Int), (98 : Int), [])), some (.inl ((0 : Int), (7 : Int), [((100 : Nat), (0 : Int))])), some (.inl ((0 : Int), (299 : Int), [((1000010 : Nat), (0 : Int))]))], ([], [], [((3 : Nat), (6 : Int), (6 : Int), ((0 : Int), (299 : Int), [((10 : Nat), (0 : Int))]))]), (300 : Nat), .inl (6 : Nat), true)]) (f := 260) ⟨p2_nmu, ck_E1 (ck_S1 p2_s356_s (ck_S1 p2_s1496_s (ck_S1 p2_s1520_s ck_S0))) (ck_E1 (ck_S1 p2_s320_s ck_S0) ck_E0)⟩ (by decide +kernel)
set_option maxRecDepth 100000 in
/-- GlacierMail$Answers.holder -/
noncomputable def p2_s1522 : ck_Sum := (((2 : Nat), (0 : Nat), (0 : Nat)), (245 : Nat), [.inr (.inr (.inl (208 : Nat))), .inl ((0 : Int), (7 : Int), []), .inl ((0 : Int), (7 : Int), []), .inl (ck_one 0)], ([], [], [((3 : Nat), (6 : Int), (6 : Int), ((0 : Int), (299 : Int), [((10 : Nat), (0 : Int))]))]), ([], []), [(.inr (some (.inl (ck_one (-1)))), (245 : Nat), ([], [], [])), (.inr (some (.inl ((0 : Int), (7 : Int), []))), (245 : Nat), ([], [], []))])
set_option maxRecDepth 100000 in
theorem p2_s1522_s {X : Int → Int} {LX : Nat} : ck_Ok p2_O X LX 208 p2_s1522 := ck_okq (cuts := [((44 : Nat), [some (.inr (.inr (.inl (208 : Nat)))), some (.inl ((0 : Int), (7 : Int), [])), some (.inl ((0 : Int), (7 : Int), [])), some (.inl (ck_one 0)), some (.inl ((0 : Int), (299 : Int), [])), some (.inl ((0 : Int), (2398 : Int), [])), some (.inl ((0 : Int), (2147483647 : Int), [])), some (.inl ((0 : Int), (2147483647 : Int), [])), none], ([], [], [((3 : Nat), (6 : Int), (6 : Int), ((0 : Int), (299 : Int), [((10 : Nat), (0 : Int))]))]), (100 : Nat), .inl (7 : Nat), false)]) (f := 190) ⟨p2_nmu, ck_E1 (ck_S1 p2_s1504_s ck_S0) (ck_E1 (ck_S1 p2_s1496_s ck_S0) (ck_E1 (ck_S1 p2_s1521_s ck_S0) ck_E0))⟩ (by decide +kernel)
set_option maxRecDepth 100000 in
/-- GlacierMail.chain -/
noncomputable def p2_s1523 : ck_Sum := (((8 : Nat), (4 : Nat), (24 : Nat)), (245 : Nat), [.inr (.inr (.inl (1 : Nat))), .inl ((0 : Int), (7 : Int), []), .inl ((0 : Int), (7 : Int), []), .inl ((-2147483648 : Int), (0 : Int), [])], ([], [((3 : Nat), (8 : Int), (0 : Nat))], [((3 : Nat), (6 : Int), (6 : Int), ((0 : Int), (299 : Int), [((10 : Nat), (0 : Int))]))]), (zl200, []), [(.inl (3 : Nat), (245 : Nat), ([], [], [])), (.inl (0 : Nat), (245 : Nat), ([], [], [])), (.inr (some (.inl (ck_one (-1)))), (245 : Nat), ([], [], [((206 : Nat), (4 : Int), (4 : Int), ck_one (-1))])), (.inr (some (.inl ((0 : Int), (7 : Int), []))), (245 : Nat), ([], [], [((206 : Nat), (4 : Int), (4 : Int), ck_one (-1))]))])
set_option maxRecDepth 100000 in
theorem p2_s1523_s {X : Int → Int} {LX : Nat} : ck_Ok p2_O X LX 207 p2_s1523 := ck_okq (cuts := []) (f := 120) ⟨p2_nmu, ck_E1 (ck_S1 p2_s328_s ck_S0) (ck_E1 (ck_S1 p2_s442_s ck_S0) (ck_E1 (ck_S1 p2_s1503_s ck_S0) (ck_E1 (ck_S1 p2_s1522_s ck_S0) ck_E0)))⟩ (by decide +kernel)
set_option maxRecDepth 100000 in
/-- GlacierMail$Answers.throwAhead -/
noncomputable def p2_s1524 : ck_Sum := (((1 : Nat), (0 : Nat), (0 : Nat)), (245 : Nat), [.inr (.inr (.inl (208 : Nat))), .inl ((0 : Int), (2398 : Int), []), .inl ((0 : Int), (299 : Int), []), .inl ((51 : Int), (2147483646 : Int), [])], ([], [], [((3 : Nat), (6 : Int), (6 : Int), ((0 : Int), (299 : Int), [((10 : Nat), (0 : Int))]))]), ([], []), [(.inr (some (.inl ((0 : Int), (2398 : Int), []))), (245 : Nat), ([], [], []))])
set_option maxRecDepth 100000 in
theorem p2_s1524_s {X : Int → Int} {LX : Nat} : ck_Ok p2_O X LX 209 p2_s1524 := ck_okq (cuts := [((17 : Nat), [some (.inr (.inr (.inl (208 : Nat)))), some (.inl ((0 : Int), (2398 : Int), [])), some (.inl ((0 : Int), (299 : Int), [])), some (.inl ((51 : Int), (2147483646 : Int), [])), some (.inl ((-1 : Int), (98 : Int), [])), some (.inl ((0 : Int), (9 : Int), [])), none], ([], [], [((3 : Nat), (6 : Int), (6 : Int), ((0 : Int), (299 : Int), [((10 : Nat), (0 : Int))]))]), (100 : Nat), .inl (5 : Nat), true), ((59 : Nat), [some (.inr (.inr (.inl (208 : Nat)))), some (.inl ((0 : Int), (2398 : Int), [])), some (.inl ((0 : Int), (299 : Int), [])), some (.inl ((51 : Int), (2147483646 : Int), [])), some (.inl ((-1 : Int), (98 : Int), [])), some (.inl ((0 : Int), (7 : Int), [((100 : Nat), (0 : Int))])), some (.inl ((0 : Int), (299 : Int), [((1000010 : Nat), (0 : Int))]))], ([], [], [((3 : Nat), (6 : Int), (6 : Int), ((0 : Int), (299 : Int), [((10 : Nat), (0 : Int))]))]), (300 : Nat), .inl (6 : Nat), true)]) (f := 260) ⟨p2_nmu, ck_E1 (ck_S1 p2_s356_s (ck_S1 p2_s1496_s (ck_S1 p2_s1520_s ck_S0))) (ck_E1 (ck_S1 p2_s320_s ck_S0) ck_E0)⟩ (by decide +kernel)
set_option maxRecDepth 100000 in
/-- GlacierMail$Answers.holder -/
noncomputable def p2_s1525 : ck_Sum := (((2 : Nat), (0 : Nat), (0 : Nat)), (245 : Nat), [.inr (.inr (.inl (208 : Nat))), .inl ((0 : Int), (7 : Int), []), .inl ((0 : Int), (7 : Int), []), .inl ((51 : Int), (2147483647 : Int), [])], ([], [], [((3 : Nat), (6 : Int), (6 : Int), ((0 : Int), (299 : Int), [((10 : Nat), (0 : Int))]))]), ([], []), [(.inr (some (.inl (ck_one (-1)))), (245 : Nat), ([], [], [])), (.inr (some (.inl ((0 : Int), (2398 : Int), []))), (245 : Nat), ([], [], []))])
set_option maxRecDepth 100000 in
theorem p2_s1525_s {X : Int → Int} {LX : Nat} : ck_Ok p2_O X LX 208 p2_s1525 := ck_okq (cuts := [((44 : Nat), [some (.inr (.inr (.inl (208 : Nat)))), some (.inl ((0 : Int), (7 : Int), [])), some (.inl ((0 : Int), (7 : Int), [])), some (.inl ((51 : Int), (2147483647 : Int), [])), some (.inl ((0 : Int), (299 : Int), [])), some (.inl ((0 : Int), (2398 : Int), [])), some (.inl ((51 : Int), (2147483647 : Int), [])), some (.inl ((51 : Int), (2147483647 : Int), [])), none], ([], [], [((3 : Nat), (6 : Int), (6 : Int), ((0 : Int), (299 : Int), [((10 : Nat), (0 : Int))]))]), (100 : Nat), .inl (7 : Nat), false)]) (f := 190) ⟨p2_nmu, ck_E1 (ck_S1 p2_s1504_s ck_S0) (ck_E1 (ck_S1 p2_s1496_s ck_S0) (ck_E1 (ck_S1 p2_s1524_s ck_S0) ck_E0))⟩ (by decide +kernel)
set_option maxRecDepth 100000 in
/-- GlacierMail.chain -/
noncomputable def p2_s1526 : ck_Sum := (((8 : Nat), (3 : Nat), (18 : Nat)), (245 : Nat), [.inr (.inr (.inl (1 : Nat))), .inl ((0 : Int), (7 : Int), []), .inl ((0 : Int), (7 : Int), []), .inl ((51 : Int), (2147483647 : Int), [])], ([], [((3 : Nat), (8 : Int), (0 : Nat))], [((3 : Nat), (6 : Int), (6 : Int), ((0 : Int), (299 : Int), [((10 : Nat), (0 : Int))]))]), (zl200, []), zl202)
set_option maxRecDepth 100000 in
theorem p2_s1526_s {X : Int → Int} {LX : Nat} : ck_Ok p2_O X LX 207 p2_s1526 := ck_okq (cuts := []) (f := 120) ⟨p2_nmu, ck_E1 (ck_S1 p2_s328_s ck_S0) (ck_E1 (ck_S1 p2_s442_s ck_S0) (ck_E1 (ck_S1 p2_s1503_s ck_S0) (ck_E1 (ck_S1 p2_s1525_s ck_S0) ck_E0)))⟩ (by decide +kernel)
set_option maxRecDepth 100000 in
/-- GlacierMail$Answers.holder -/
noncomputable def p2_s1527 : ck_Sum := (((2 : Nat), (0 : Nat), (0 : Nat)), (245 : Nat), [.inr (.inr (.inl (208 : Nat))), .inl ((0 : Int), (7 : Int), []), .inl ((0 : Int), (7 : Int), []), .inl ((1 : Int), (50 : Int), [])], ([], [], [((3 : Nat), (6 : Int), (6 : Int), ((0 : Int), (299 : Int), [((10 : Nat), (0 : Int))]))]), ([], []), [(.inr (some (.inl (ck_one (-1)))), (245 : Nat), ([], [], [])), (.inr (some (.inl ((0 : Int), (2398 : Int), []))), (245 : Nat), ([], [], []))])
set_option maxRecDepth 100000 in
theorem p2_s1527_s {X : Int → Int} {LX : Nat} : ck_Ok p2_O X LX 208 p2_s1527 := ck_okq (cuts := [((44 : Nat), [some (.inr (.inr (.inl (208 : Nat)))), some (.inl ((0 : Int), (7 : Int), [])), some (.inl ((0 : Int), (7 : Int), [])), some (.inl ((1 : Int), (50 : Int), [])), some (.inl ((0 : Int), (299 : Int), [])), some (.inl ((0 : Int), (2398 : Int), [])), some (.inl ((1 : Int), (2147483647 : Int), [])), some (.inl ((1 : Int), (2147483647 : Int), [])), none], ([], [], [((3 : Nat), (6 : Int), (6 : Int), ((0 : Int), (299 : Int), [((10 : Nat), (0 : Int))]))]), (100 : Nat), .inl (7 : Nat), false)]) (f := 190) ⟨p2_nmu, ck_E1 (ck_S1 p2_s1504_s ck_S0) (ck_E1 (ck_S1 p2_s1496_s ck_S0) (ck_E1 (ck_S1 p2_s1521_s ck_S0) ck_E0))⟩ (by decide +kernel)
set_option maxRecDepth 100000 in
/-- GlacierMail.chain -/
noncomputable def p2_s1528 : ck_Sum := (((8 : Nat), (3 : Nat), (18 : Nat)), (245 : Nat), [.inr (.inr (.inl (1 : Nat))), .inl ((0 : Int), (7 : Int), []), .inl ((0 : Int), (7 : Int), []), .inl ((1 : Int), (50 : Int), [])], ([], [((3 : Nat), (8 : Int), (0 : Nat))], [((3 : Nat), (6 : Int), (6 : Int), ((0 : Int), (299 : Int), [((10 : Nat), (0 : Int))]))]), (zl200, []), zl202)
set_option maxRecDepth 100000 in
theorem p2_s1528_s {X : Int → Int} {LX : Nat} : ck_Ok p2_O X LX 207 p2_s1528 := ck_okq (cuts := []) (f := 120) ⟨p2_nmu, ck_E1 (ck_S1 p2_s328_s ck_S0) (ck_E1 (ck_S1 p2_s442_s ck_S0) (ck_E1 (ck_S1 p2_s1503_s ck_S0) (ck_E1 (ck_S1 p2_s1527_s ck_S0) ck_E0)))⟩ (by decide +kernel)
set_option maxRecDepth 100000 in
/-- GlacierMailModel.chain -/
noncomputable def p2_s1529 : ck_Sum := (((2 : Nat), (0 : Nat), (0 : Nat)), (245 : Nat), [.inr (.inr (.inl (226 : Nat))), .inl ((-2147483648 : Int), (-1 : Int), []), .inl ((-2147483648 : Int), (2147483647 : Int), []), .inl ((-2147483648 : Int), (2147483647 : Int), [])], ([], [], [((227 : Nat), (3 : Int), (3 : Int), ((0 : Int), (8 : Int), [((21 : Nat), (0 : Int))]))]), ([((226 : Nat), (0 : Int), (0 : Int))], []), [(.inr (some (.inl (ck_one 0))), (245 : Nat), ([], [], [((226 : Nat), (0 : Int), (0 : Int), ck_one 1)]))])
set_option maxRecDepth 100000 in
theorem p2_s1529_s {X : Int → Int} {LX : Nat} : ck_Ok p2_O X LX 354 p2_s1529 := ck_okq (cuts := []) (f := 100) ⟨p2_nmu, ck_E1 (ck_S1 p2_s359_s ck_S0) (ck_E1 (ck_S1 p2_s241_s ck_S0) ck_E0)⟩ (by decide +kernel)
set_option maxRecDepth 100000 in
/-- GlacierMailModel.chain -/
noncomputable def p2_s1530 : ck_Sum := (((2 : Nat), (0 : Nat), (0 : Nat)), (245 : Nat), [.inr (.inr (.inl (226 : Nat))), .inl ((8 : Int), (2147483647 : Int), []), .inl ((-2147483648 : Int), (2147483647 : Int), []), .inl ((-2147483648 : Int), (2147483647 : Int), [])], ([], [], [((227 : Nat), (3 : Int), (3 : Int), ((0 : Int), (8 : Int), [((21 : Nat), (0 : Int))]))]), ([((226 : Nat), (0 : Int), (0 : Int))], []), [(.inr (some (.inl (ck_one 0))), (245 : Nat), ([], [], [((226 : Nat), (0 : Int), (0 : Int), ck_one 1)]))])
set_option maxRecDepth 100000 in
theorem p2_s1530_s {X : Int → Int} {LX : Nat} : ck_Ok p2_O X LX 354 p2_s1530 := ck_okq (cuts := []) (f := 100) ⟨p2_nmu, ck_E1 (ck_S1 p2_s362_s ck_S0) (ck_E1 (ck_S1 p2_s241_s ck_S0) ck_E0)⟩ (by decide +kernel)
set_option maxRecDepth 100000 in
/-- GlacierMailModel.chain -/
noncomputable def p2_s1531 : ck_Sum := (((2 : Nat), (0 : Nat), (0 : Nat)), (245 : Nat), [.inr (.inr (.inl (226 : Nat))), .inl ((0 : Int), (7 : Int), []), .inl ((-2147483648 : Int), (-1 : Int), []), .inl ((-2147483648 : Int), (2147483647 : Int), [])], ([], [], [((227 : Nat), (3 : Int), (3 : Int), ((0 : Int), (8 : Int), [((21 : Nat), (0 : Int))]))]), ([((226 : Nat), (0 : Int), (0 : Int))], []), [(.inr (some (.inl (ck_one 0))), (245 : Nat), ([], [], [((226 : Nat), (0 : Int), (0 : Int), ck_one 1)]))])
set_option maxRecDepth 100000 in
theorem p2_s1531_s {X : Int → Int} {LX : Nat} : ck_Ok p2_O X LX 354 p2_s1531 := ck_okq (cuts := []) (f := 108) ⟨p2_nmu, ck_E1 (ck_S1 p2_s365_s (ck_S1 p2_s359_s ck_S0)) (ck_E1 (ck_S1 p2_s241_s ck_S0) ck_E0)⟩ (by decide +kernel)
set_option maxRecDepth 100000 in
/-- GlacierMailModel.chain -/
noncomputable def p2_s1532 : ck_Sum := (((2 : Nat), (0 : Nat), (0 : Nat)), (245 : Nat), [.inr (.inr (.inl (226 : Nat))), .inl ((0 : Int), (7 : Int), []), .inl ((8 : Int), (2147483647 : Int), []), .inl ((-2147483648 : Int), (2147483647 : Int), [])], ([], [], [((227 : Nat), (3 : Int), (3 : Int), ((0 : Int), (8 : Int), [((21 : Nat), (0 : Int))]))]), ([((226 : Nat), (0 : Int), (0 : Int))], []), [(.inr (some (.inl (ck_one 0))), (245 : Nat), ([], [], [((226 : Nat), (0 : Int), (0 : Int), ck_one 1)]))])
set_option maxRecDepth 100000 in
theorem p2_s1532_s {X : Int → Int} {LX : Nat} : ck_Ok p2_O X LX 354 p2_s1532 := ck_okq (cuts := []) (f := 108) ⟨p2_nmu, ck_E1 (ck_S1 p2_s365_s (ck_S1 p2_s362_s ck_S0)) (ck_E1 (ck_S1 p2_s241_s ck_S0) ck_E0)⟩ (by decide +kernel)
set_option maxRecDepth 100000 in
/-- GlacierMailModel.of -/
noncomputable def p2_s1533 : ck_Sum := (((0 : Nat), (0 : Nat), (0 : Nat)), (245 : Nat), [.inr (.inr (.inl (226 : Nat))), .inl ((-1 : Int), (7 : Int), []), .inl (ck_one 2)], ([], [], []), ([], []), [(.inr (some (.inl ((0 : Int), (20 : Int), []))), (245 : Nat), ([], [], [])), (.inr (some (.inl (ck_one (-1)))), (245 : Nat), ([], [], []))])
set_option maxRecDepth 100000 in
theorem p2_s1533_s {X : Int → Int} {LX : Nat} : ck_Ok p2_O X LX 299 p2_s1533 := ck_okq (cuts := []) (f := 92) ⟨p2_nmu, ck_E0⟩ (by decide +kernel)
set_option maxRecDepth 100000 in
/-- GlacierMailModel.isWatching -/
noncomputable def p2_s1534 : ck_Sum := (((1 : Nat), (0 : Nat), (0 : Nat)), (245 : Nat), [.inr (.inr (.inl (226 : Nat))), .inl ((-1 : Int), (7 : Int), []), .inl ((0 : Int), (7 : Int), [])], ([], [], []), ([], []), [(.inr (some (.inl (ck_one 0))), (245 : Nat), ([], [], [])), (.inr (some (.inl (ck_one 1))), (245 : Nat), ([], [], []))])
set_option maxRecDepth 100000 in
theorem p2_s1534_s {X : Int → Int} {LX : Nat} : ck_Ok p2_O X LX 352 p2_s1534 := ck_okq (cuts := []) (f := 94) ⟨p2_nmu, ck_E1 (ck_S1 p2_s1533_s (ck_S1 p2_s554_s ck_S0)) ck_E0⟩ (by decide +kernel)
set_option maxRecDepth 100000 in
/-- GlacierMailModel.thrower -/
noncomputable def p2_s1535 : ck_Sum := (((2 : Nat), (0 : Nat), (0 : Nat)), (245 : Nat), [.inr (.inr (.inl (226 : Nat))), .inl ((-1 : Int), (7 : Int), []), .inl ((-1 : Int), (299 : Int), []), .inl ((1 : Int), (1000 : Int), [])], ([], [], zl203), ([((226 : Nat), (36 : Int), (36 : Int))], []), zl204)
set_option maxRecDepth 100000 in
theorem p2_s1535_s {X : Int → Int} {LX : Nat} : ck_Ok p2_O X LX 355 p2_s1535 := ck_okq (cuts := [((3 : Nat), [some (.inr (.inr (.inl (226 : Nat)))), some (.inl ((-1 : Int), (7 : Int), [])), some (.inl ((-1 : Int), (299 : Int), [])), some (.inl ((1 : Int), (1000 : Int), [])), some (.inl ((0 : Int), (8 : Int), [])), none], ([], [], [((227 : Nat), (3 : Int), (3 : Int), ((0 : Int), (8 : Int), [((21 : Nat), (0 : Int))])), ((227 : Nat), (9 : Int), (9 : Int), ((0 : Int), (299 : Int), [((11 : Nat), (0 : Int))]))]), (100 : Nat), .inl (4 : Nat), true), ((18 : Nat), [some (.inr (.inr (.inl (226 : Nat)))), some (.inl ((-1 : Int), (7 : Int), [])), some (.inl ((-1 : Int), (299 : Int), [])), some (.inl ((1 : Int), (1000 : Int), [])), some (.inl ((0 : Int), (7 : Int), [((100 : Nat), (0 : Int))])), some (.inl ((0 : Int), (299 : Int), [((1000011 : Nat), (0 : Int))]))], ([], [], [((227 : Nat), (3 : Int), (3 : Int), ((1 : Int), (8 : Int), [((21 : Nat), (0 : Int))])), ((227 : Nat), (9 : Int), (9 : Int), ((0 : Int), (299 : Int), [((11 : Nat), (0 : Int))]))]), (300 : Nat), .inl (5 : Nat), true)]) (f := 284) ⟨p2_nmu, ck_E1 (ck_S1 p2_s186_s ck_S0) (ck_E1 (ck_S1 p2_s190_s ck_S0) (ck_E1 (ck_S1 p2_s1534_s ck_S0) (ck_E1 (ck_S1 p2_s1511_s ck_S0) ck_E0)))⟩ (by decide +kernel)
set_option maxRecDepth 100000 in
/-- GlacierMailModel.thrower -/
noncomputable def p2_s1537 : ck_Sum := (((2 : Nat), (0 : Nat), (0 : Nat)), (245 : Nat), [.inr (.inr (.inl (226 : Nat))), .inl ((-1 : Int), (7 : Int), []), .inl ((-1 : Int), (299 : Int), []), .inl ((52 : Int), (1000 : Int), [])], ([], [], zl203), ([((226 : Nat), (36 : Int), (36 : Int))], []), zl204)
set_option maxRecDepth 100000 in
theorem p2_s1537_s {X : Int → Int} {LX : Nat} : ck_Ok p2_O X LX 355 p2_s1537 := ck_okq (cuts := [((3 : Nat), [some (.inr (.inr (.inl (226 : Nat)))), some (.inl ((-1 : Int), (7 : Int), [])), some (.inl ((-1 : Int), (299 : Int), [])), some (.inl ((52 : Int), (1000 : Int), [])), some (.inl ((0 : Int), (8 : Int), [])), none], ([], [], [((227 : Nat), (3 : Int), (3 : Int), ((0 : Int), (8 : Int), [((21 : Nat), (0 : Int))])), ((227 : Nat), (9 : Int), (9 : Int), ((0 : Int), (299 : Int), [((11 : Nat), (0 : Int))]))]), (100 : Nat), .inl (4 : Nat), true), ((18 : Nat), [some (.inr (.inr (.inl (226 : Nat)))), some (.inl ((-1 : Int), (7 : Int), [])), some (.inl ((-1 : Int), (299 : Int), [])), some (.inl ((52 : Int), (1000 : Int), [])), some (.inl ((0 : Int), (7 : Int), [((100 : Nat), (0 : Int))])), some (.inl ((0 : Int), (299 : Int), [((1000011 : Nat), (0 : Int))]))], ([], [], [((227 : Nat), (3 : Int), (3 : Int), ((1 : Int), (8 : Int), [((21 : Nat), (0 : Int))])), ((227 : Nat), (9 : Int), (9 : Int), ((0 : Int), (299 : Int), [((11 : Nat), (0 : Int))]))]), (300 : Nat), .inl (5 : Nat), true)]) (f := 284) ⟨p2_nmu, ck_E1 (ck_S1 p2_s186_s ck_S0) (ck_E1 (ck_S1 p2_s190_s ck_S0) (ck_E1 (ck_S1 p2_s1534_s ck_S0) (ck_E1 (ck_S1 p2_s1511_s ck_S0) ck_E0)))⟩ (by decide +kernel)
set_option maxRecDepth 100000 in
/-- GlacierMailModel.thrower -/
noncomputable def p2_s1539 : ck_Sum := (((2 : Nat), (0 : Nat), (0 : Nat)), (245 : Nat), [.inr (.inr (.inl (226 : Nat))), .inl ((-1 : Int), (7 : Int), []), .inl ((-1 : Int), (299 : Int), []), .inl ((2 : Int), (1000 : Int), [])], ([], [], zl203), ([((226 : Nat), (36 : Int), (36 : Int))], []), zl204)
set_option maxRecDepth 100000 in
theorem p2_s1539_s {X : Int → Int} {LX : Nat} : ck_Ok p2_O X LX 355 p2_s1539 := ck_okq (cuts := [((3 : Nat), [some (.inr (.inr (.inl (226 : Nat)))), some (.inl ((-1 : Int), (7 : Int), [])), some (.inl ((-1 : Int), (299 : Int), [])), some (.inl ((2 : Int), (1000 : Int), [])), some (.inl ((0 : Int), (8 : Int), [])), none], ([], [], [((227 : Nat), (3 : Int), (3 : Int), ((0 : Int), (8 : Int), [((21 : Nat), (0 : Int))])), ((227 : Nat), (9 : Int), (9 : Int), ((0 : Int), (299 : Int), [((11 : Nat), (0 : Int))]))]), (100 : Nat), .inl (4 : Nat), true), ((18 : Nat), [some (.inr (.inr (.inl (226 : Nat)))), some (.inl ((-1 : Int), (7 : Int), [])), some (.inl ((-1 : Int), (299 : Int), [])), some (.inl ((2 : Int), (1000 : Int), [])), some (.inl ((0 : Int), (7 : Int), [((100 : Nat), (0 : Int))])), some (.inl ((0 : Int), (299 : Int), [((1000011 : Nat), (0 : Int))]))], ([], [], [((227 : Nat), (3 : Int), (3 : Int), ((1 : Int), (8 : Int), [((21 : Nat), (0 : Int))])), ((227 : Nat), (9 : Int), (9 : Int), ((0 : Int), (299 : Int), [((11 : Nat), (0 : Int))]))]), (300 : Nat), .inl (5 : Nat), true)]) (f := 284) ⟨p2_nmu, ck_E1 (ck_S1 p2_s186_s ck_S0) (ck_E1 (ck_S1 p2_s190_s ck_S0) (ck_E1 (ck_S1 p2_s1534_s ck_S0) (ck_E1 (ck_S1 p2_s1511_s ck_S0) ck_E0)))⟩ (by decide +kernel)
set_option maxRecDepth 100000 in
/-- GlacierMail.reached -/
noncomputable def p2_s1541 : ck_Sum := (((8 : Nat), (1 : Nat), (6 : Nat)), (245 : Nat), [.inr (.inr (.inl (1 : Nat))), .inl ((-2147483648 : Int), (-1 : Int), []), .inl ((-2147483648 : Int), (2147483647 : Int), [])], ([], [], []), ([], []), [(.inl (3 : Nat), (245 : Nat), ([], [], []))])
set_option maxRecDepth 100000 in
theorem p2_s1541_s {X : Int → Int} {LX : Nat} : ck_Ok p2_O X LX 211 p2_s1541 := ck_okq (cuts := []) (f := 76) ⟨p2_nmu, ck_E1 (ck_S1 p2_s322_s ck_S0) ck_E0⟩ (by decide +kernel)
set_option maxRecDepth 100000 in
/-- GlacierMail.reached -/
noncomputable def p2_s1542 : ck_Sum := (((8 : Nat), (1 : Nat), (6 : Nat)), (245 : Nat), [.inr (.inr (.inl (1 : Nat))), .inl ((8 : Int), (2147483647 : Int), []), .inl ((-2147483648 : Int), (2147483647 : Int), [])], ([], [], []), ([], []), [(.inl (3 : Nat), (245 : Nat), ([], [], []))])
set_option maxRecDepth 100000 in
theorem p2_s1542_s {X : Int → Int} {LX : Nat} : ck_Ok p2_O X LX 211 p2_s1542 := ck_okq (cuts := []) (f := 76) ⟨p2_nmu, ck_E1 (ck_S1 p2_s325_s ck_S0) ck_E0⟩ (by decide +kernel)
set_option maxRecDepth 100000 in
/-- GlacierMail.reached -/
noncomputable def p2_s1543 : ck_Sum := (((8 : Nat), (2 : Nat), (12 : Nat)), (245 : Nat), [.inr (.inr (.inl (1 : Nat))), .inl ((0 : Int), (7 : Int), []), .inl ((-2147483648 : Int), (-1 : Int), [])], ([], [], []), ([], []), [(.inl (3 : Nat), (245 : Nat), ([], [], [])), (.inl (0 : Nat), (245 : Nat), ([], [], []))])
set_option maxRecDepth 100000 in
theorem p2_s1543_s {X : Int → Int} {LX : Nat} : ck_Ok p2_O X LX 211 p2_s1543 := ck_okq (cuts := []) (f := 82) ⟨p2_nmu, ck_E1 (ck_S1 p2_s328_s ck_S0) (ck_E1 (ck_S1 p2_s249_s ck_S0) ck_E0)⟩ (by decide +kernel)
set_option maxRecDepth 100000 in
/-- GlacierMail.reached -/
noncomputable def p2_s1544 : ck_Sum := (((8 : Nat), (2 : Nat), (12 : Nat)), (245 : Nat), [.inr (.inr (.inl (1 : Nat))), .inl ((0 : Int), (7 : Int), []), .inl ((300 : Int), (2147483647 : Int), [])], ([], [], []), ([], []), [(.inl (3 : Nat), (245 : Nat), ([], [], [])), (.inl (0 : Nat), (245 : Nat), ([], [], []))])
set_option maxRecDepth 100000 in
theorem p2_s1544_s {X : Int → Int} {LX : Nat} : ck_Ok p2_O X LX 211 p2_s1544 := ck_okq (cuts := []) (f := 82) ⟨p2_nmu, ck_E1 (ck_S1 p2_s328_s ck_S0) (ck_E1 (ck_S1 p2_s251_s ck_S0) ck_E0)⟩ (by decide +kernel)
set_option maxRecDepth 100000 in
/-- GlacierMail$Answers.throwAgain -/
noncomputable def p2_s1545 : ck_Sum := (((4 : Nat), (0 : Nat), (0 : Nat)), (245 : Nat), [.inr (.inr (.inl (208 : Nat))), .inl ((0 : Int), (7 : Int), []), .inl ((0 : Int), (299 : Int), []), .inl (ck_one 1), .inl ((0 : Int), (299 : Int), [])], ([], [((3 : Nat), (8 : Int), (0 : Nat))], []), ([((206 : Nat), (2 : Int), (8 : Int)), ((210 : Nat), (0 : Int), (2399 : Int)), ((212 : Nat), (0 : Int), (2399 : Int))], []), [(.inr none, (245 : Nat), ([], [], [((206 : Nat), (4 : Int), (4 : Int), ck_one (-1))]))])
set_option maxRecDepth 100000 in
theorem p2_s1545_s {X : Int → Int} {LX : Nat} : ck_Ok p2_O X LX 203 p2_s1545 := ck_okq (cuts := [((59 : Nat), [some (.inr (.inr (.inl (208 : Nat)))), some (.inl ((0 : Int), (7 : Int), [])), some (.inl ((0 : Int), (299 : Int), [])), some (.inl (ck_one 1)), some (.inl ((0 : Int), (299 : Int), [])), some (.inr (.inr (.inl (8 : Nat)))), some (.inl ((-1 : Int), (98 : Int), [])), some (.inl ((-2147483648 : Int), (299 : Int), [])), some (.inl ((0 : Int), (8 : Int), [])), none], ([], [((3 : Nat), (8 : Int), (0 : Nat))], [((206 : Nat), (4 : Int), (4 : Int), ck_one (-1))]), (100 : Nat), .inl (8 : Nat), true)]) (f := 214) ⟨p2_nmu, ck_E1 (ck_S1 p2_s356_s (ck_S1 p2_s1496_s ck_S0)) (ck_E1 (ck_S1 p2_s1332_s ck_S0) (ck_E1 (ck_S1 p2_s346_s ck_S0) (ck_E1 (ck_S1 p2_s1497_s (ck_S1 p2_s1498_s ck_S0)) (ck_E1 (ck_S1 p2_s320_s ck_S0) ck_E0))))⟩ (by decide +kernel)
set_option maxRecDepth 100000 in
/-- GlacierMail$Answers.throwAgain -/
noncomputable def p2_s1546 : ck_Sum := (((4 : Nat), (0 : Nat), (0 : Nat)), (245 : Nat), [.inr (.inr (.inl (208 : Nat))), .inl ((0 : Int), (7 : Int), []), .inl ((2 : Int), (299 : Int), []), .inl ((-2147483648 : Int), (2147483647 : Int), []), .inl ((2 : Int), (299 : Int), [])], ([], [((3 : Nat), (8 : Int), (0 : Nat))], []), (zl199, []), [(.inr none, (245 : Nat), ([], [], [((206 : Nat), (4 : Int), (4 : Int), ck_one (-1))]))])
set_option maxRecDepth 100000 in
theorem p2_s1546_s {X : Int → Int} {LX : Nat} : ck_Ok p2_O X LX 203 p2_s1546 := ck_okq (cuts := [((59 : Nat), [some (.inr (.inr (.inl (208 : Nat)))), some (.inl ((0 : Int), (7 : Int), [])), some (.inl ((2 : Int), (299 : Int), [])), some (.inl ((-2147483648 : Int), (2147483647 : Int), [])), some (.inl ((2 : Int), (299 : Int), [])), some (.inr (.inr (.inl (8 : Nat)))), some (.inl ((-1 : Int), (98 : Int), [])), some (.inl ((-2147483648 : Int), (299 : Int), [])), some (.inl ((0 : Int), (8 : Int), [])), none], ([], [((3 : Nat), (8 : Int), (0 : Nat))], [((206 : Nat), (4 : Int), (4 : Int), ck_one (-1))]), (100 : Nat), .inl (8 : Nat), true)]) (f := 214) ⟨p2_nmu, ck_E1 (ck_S1 p2_s356_s (ck_S1 p2_s1496_s ck_S0)) (ck_E1 (ck_S1 p2_s1332_s ck_S0) (ck_E1 (ck_S1 p2_s346_s ck_S0) (ck_E1 (ck_S1 p2_s1500_s (ck_S1 p2_s1501_s ck_S0)) (ck_E1 (ck_S1 p2_s320_s ck_S0) ck_E0))))⟩ (by decide +kernel)
set_option maxRecDepth 100000 in
/-- GlacierMail$Answers.spread -/
noncomputable def p2_s1547 : ck_Sum := (((5 : Nat), (0 : Nat), (0 : Nat)), (245 : Nat), [.inr (.inr (.inl (208 : Nat))), .inl ((0 : Int), (7 : Int), []), .inl (ck_one (-1)), .inl ((0 : Int), (299 : Int), [])], ([], [((3 : Nat), (8 : Int), (0 : Nat))], [((3 : Nat), (6 : Int), (6 : Int), ((0 : Int), (299 : Int), [((10 : Nat), (0 : Int))]))]), (zl200, []), [(.inr none, (245 : Nat), ([], [], [((206 : Nat), (4 : Int), (4 : Int), ck_one (-1))]))])
set_option maxRecDepth 100000 in
theorem p2_s1547_s {X : Int → Int} {LX : Nat} : ck_Ok p2_O X LX 202 p2_s1547 := ck_okq (cuts := [((59 : Nat), [some (.inr (.inr (.inl (208 : Nat)))), some (.inl ((0 : Int), (7 : Int), [])), some (.inl (ck_one (-1))), some (.inl ((0 : Int), (299 : Int), [])), some (.inl ((1 : Int), (300 : Int), [((1000010 : Nat), (1 : Int))])), none, none], ([], [((3 : Nat), (8 : Int), (0 : Nat))], [((206 : Nat), (4 : Int), (4 : Int), ck_one (-1)), ((3 : Nat), (6 : Int), (6 : Int), ((0 : Int), (299 : Int), [((10 : Nat), (0 : Int))]))]), (100 : Nat), .inl (4 : Nat), true), ((82 : Nat), [some (.inr (.inr (.inl (208 : Nat)))), some (.inl ((0 : Int), (7 : Int), [])), some (.inl (ck_one (-1))), some (.inl ((2 : Int), (299 : Int), [])), some (.inl ((1 : Int), (298 : Int), [((100 : Nat), (0 : Int)), ((1000010 : Nat), (1 : Int))])), some (.inl ((0 : Int), (8 : Int), [])), none], ([], [((3 : Nat), (8 : Int), (0 : Nat))], [((206 : Nat), (4 : Int), (4 : Int), ck_one (-1)), ((3 : Nat), (6 : Int), (6 : Int), ((0 : Int), (299 : Int), [((10 : Nat), (0 : Int))]))]), (300 : Nat), .inl (5 : Nat), true)]) (f := 284) ⟨p2_nmu, ck_E1 (ck_S1 p2_s320_s ck_S0) (ck_E1 (ck_S1 p2_s1493_s (ck_S1 p2_s1495_s ck_S0)) (ck_E1 (ck_S1 p2_s1545_s (ck_S1 p2_s1546_s ck_S0)) (ck_E1 (ck_S1 p2_s1496_s ck_S0) ck_E0)))⟩ (by decide +kernel)
set_option maxRecDepth 100000 in
/-- GlacierMail.reached -/
noncomputable def p2_s1548 : ck_Sum := (((8 : Nat), (1 : Nat), (6 : Nat)), (245 : Nat), [.inr (.inr (.inl (1 : Nat))), .inl ((0 : Int), (7 : Int), []), .inl ((0 : Int), (299 : Int), [])], ([], [((3 : Nat), (8 : Int), (0 : Nat))], [((3 : Nat), (6 : Int), (6 : Int), ((0 : Int), (299 : Int), [((10 : Nat), (0 : Int))]))]), (zl200, []), [(.inl (3 : Nat), (245 : Nat), ([], [], [])), (.inr (some (.inl ((-2147483648 : Int), (2147483647 : Int), []))), (245 : Nat), ([], [], [((206 : Nat), (4 : Int), (4 : Int), ck_one (-1))]))])
set_option maxRecDepth 100000 in
theorem p2_s1548_s {X : Int → Int} {LX : Nat} : ck_Ok p2_O X LX 211 p2_s1548 := ck_okq (cuts := [((27 : Nat), [some (.inr (.inr (.inl (1 : Nat)))), some (.inl ((0 : Int), (7 : Int), [])), some (.inl ((0 : Int), (299 : Int), [])), some (.inl ((-2147483648 : Int), (2147483647 : Int), [])), some (.inl ((0 : Int), (8 : Int), []))], ([], [((3 : Nat), (8 : Int), (0 : Nat))], [((206 : Nat), (4 : Int), (4 : Int), ck_one (-1)), ((3 : Nat), (6 : Int), (6 : Int), ((0 : Int), (299 : Int), [((10 : Nat), (0 : Int))]))]), (100 : Nat), .inl (4 : Nat), true)]) (f := 174) ⟨p2_nmu, ck_E1 (ck_S1 p2_s328_s ck_S0) (ck_E1 (ck_S1 p2_s253_s ck_S0) (ck_E1 (ck_S1 p2_s1547_s ck_S0) (ck_E1 (ck_S1 p2_s320_s ck_S0) (ck_E1 (ck_S1 p2_s1504_s ck_S0) ck_E0))))⟩ (by decide +kernel)
set_option maxRecDepth 100000 in
/-- GlacierMailModel.reached -/
noncomputable def p2_s1549 : ck_Sum := (((2 : Nat), (0 : Nat), (0 : Nat)), (245 : Nat), [.inr (.inr (.inl (226 : Nat))), .inl ((-2147483648 : Int), (-1 : Int), []), .inl ((-2147483648 : Int), (2147483647 : Int), [])], ([], [], [((227 : Nat), (3 : Int), (3 : Int), ((0 : Int), (8 : Int), [((21 : Nat), (0 : Int))]))]), ([((226 : Nat), (0 : Int), (0 : Int))], []), [(.inr (some (.inl (ck_one 0))), (245 : Nat), ([], [], [((226 : Nat), (0 : Int), (0 : Int), ck_one 1)]))])
set_option maxRecDepth 100000 in
theorem p2_s1549_s {X : Int → Int} {LX : Nat} : ck_Ok p2_O X LX 356 p2_s1549 := ck_okq (cuts := []) (f := 94) ⟨p2_nmu, ck_E1 (ck_S1 p2_s359_s ck_S0) (ck_E1 (ck_S1 p2_s241_s ck_S0) ck_E0)⟩ (by decide +kernel)
set_option maxRecDepth 100000 in
/-- GlacierMailModel.reached -/
noncomputable def p2_s1550 : ck_Sum := (((2 : Nat), (0 : Nat), (0 : Nat)), (245 : Nat), [.inr (.inr (.inl (226 : Nat))), .inl ((8 : Int), (2147483647 : Int), []), .inl ((-2147483648 : Int), (2147483647 : Int), [])], ([], [], [((227 : Nat), (3 : Int), (3 : Int), ((0 : Int), (8 : Int), [((21 : Nat), (0 : Int))]))]), ([((226 : Nat), (0 : Int), (0 : Int))], []), [(.inr (some (.inl (ck_one 0))), (245 : Nat), ([], [], [((226 : Nat), (0 : Int), (0 : Int), ck_one 1)]))])
set_option maxRecDepth 100000 in
theorem p2_s1550_s {X : Int → Int} {LX : Nat} : ck_Ok p2_O X LX 356 p2_s1550 := ck_okq (cuts := []) (f := 94) ⟨p2_nmu, ck_E1 (ck_S1 p2_s362_s ck_S0) (ck_E1 (ck_S1 p2_s241_s ck_S0) ck_E0)⟩ (by decide +kernel)
set_option maxRecDepth 100000 in
/-- GlacierMailModel.reached -/
noncomputable def p2_s1551 : ck_Sum := (((2 : Nat), (0 : Nat), (0 : Nat)), (245 : Nat), [.inr (.inr (.inl (226 : Nat))), .inl ((0 : Int), (7 : Int), []), .inl ((-2147483648 : Int), (-1 : Int), [])], ([], [], [((227 : Nat), (3 : Int), (3 : Int), ((0 : Int), (8 : Int), [((21 : Nat), (0 : Int))]))]), ([((226 : Nat), (0 : Int), (0 : Int))], []), [(.inr (some (.inl (ck_one 0))), (245 : Nat), ([], [], [((226 : Nat), (0 : Int), (0 : Int), ((1 : Int), (2 : Int), []))]))])
set_option maxRecDepth 100000 in
theorem p2_s1551_s {X : Int → Int} {LX : Nat} : ck_Ok p2_O X LX 356 p2_s1551 := ck_okq (cuts := []) (f := 106) ⟨p2_nmu, ck_E1 (ck_S1 p2_s365_s ck_S0) (ck_E1 (ck_S1 p2_s241_s (ck_S1 p2_s242_s (ck_S1 p2_s244_s ck_S0))) (ck_E1 (ck_S1 p2_s257_s ck_S0) ck_E0))⟩ (by decide +kernel)
set_option maxRecDepth 100000 in
/-- GlacierMailModel.reached -/
noncomputable def p2_s1552 : ck_Sum := (((2 : Nat), (0 : Nat), (0 : Nat)), (245 : Nat), [.inr (.inr (.inl (226 : Nat))), .inl ((0 : Int), (7 : Int), []), .inl ((300 : Int), (2147483647 : Int), [])], ([], [], [((227 : Nat), (3 : Int), (3 : Int), ((0 : Int), (8 : Int), [((21 : Nat), (0 : Int))]))]), ([((226 : Nat), (0 : Int), (0 : Int))], []), [(.inr (some (.inl (ck_one 0))), (245 : Nat), ([], [], [((226 : Nat), (0 : Int), (0 : Int), ((1 : Int), (2 : Int), []))]))])
set_option maxRecDepth 100000 in
theorem p2_s1552_s {X : Int → Int} {LX : Nat} : ck_Ok p2_O X LX 356 p2_s1552 := ck_okq (cuts := []) (f := 106) ⟨p2_nmu, ck_E1 (ck_S1 p2_s365_s ck_S0) (ck_E1 (ck_S1 p2_s241_s (ck_S1 p2_s242_s (ck_S1 p2_s244_s ck_S0))) (ck_E1 (ck_S1 p2_s260_s ck_S0) ck_E0))⟩ (by decide +kernel)
set_option maxRecDepth 100000 in
/-- GlacierMail.needThiefYears -/
noncomputable def p2_s1554 : ck_Sum := (((6 : Nat), (1 : Nat), (6 : Nat)), (245 : Nat), [.inr (.inr (.inl (1 : Nat))), .inl ((-2147483648 : Int), (-1 : Int), [])], ([], [], []), ([], []), [(.inl (0 : Nat), (245 : Nat), ([], [], []))])
set_option maxRecDepth 100000 in
theorem p2_s1554_s {X : Int → Int} {LX : Nat} : ck_Ok p2_O X LX 214 p2_s1554 := ck_okq (cuts := []) (f := 78) ⟨p2_nmu, ck_E0⟩ (by decide +kernel)
set_option maxRecDepth 100000 in
/-- GlacierMail.thieves -/
noncomputable def p2_s1555 : ck_Sum := (((7 : Nat), (1 : Nat), (6 : Nat)), (245 : Nat), [.inr (.inr (.inl (1 : Nat))), .inl ((-2147483648 : Int), (-1 : Int), []), .inl ((0 : Int), (1 : Int), [])], ([], [], []), ([], []), [(.inl (0 : Nat), (245 : Nat), ([], [], []))])
set_option maxRecDepth 100000 in
theorem p2_s1555_s {X : Int → Int} {LX : Nat} : ck_Ok p2_O X LX 213 p2_s1555 := ck_okq (cuts := []) (f := 76) ⟨p2_nmu, ck_E1 (ck_S1 p2_s1554_s ck_S0) ck_E0⟩ (by decide +kernel)
set_option maxRecDepth 100000 in
/-- GlacierMail.needThiefYears -/
noncomputable def p2_s1556 : ck_Sum := (((6 : Nat), (1 : Nat), (6 : Nat)), (245 : Nat), [.inr (.inr (.inl (1 : Nat))), .inl ((31 : Int), (2147483647 : Int), [])], ([], [], []), ([], []), [(.inl (0 : Nat), (245 : Nat), ([], [], []))])
set_option maxRecDepth 100000 in
theorem p2_s1556_s {X : Int → Int} {LX : Nat} : ck_Ok p2_O X LX 214 p2_s1556 := ck_okq (cuts := []) (f := 84) ⟨p2_nmu, ck_E0⟩ (by decide +kernel)
set_option maxRecDepth 100000 in
/-- GlacierMail.thieves -/
noncomputable def p2_s1557 : ck_Sum := (((7 : Nat), (1 : Nat), (6 : Nat)), (245 : Nat), [.inr (.inr (.inl (1 : Nat))), .inl ((31 : Int), (2147483647 : Int), []), .inl ((0 : Int), (1 : Int), [])], ([], [], []), ([], []), [(.inl (0 : Nat), (245 : Nat), ([], [], []))])
set_option maxRecDepth 100000 in
theorem p2_s1557_s {X : Int → Int} {LX : Nat} : ck_Ok p2_O X LX 213 p2_s1557 := ck_okq (cuts := []) (f := 76) ⟨p2_nmu, ck_E1 (ck_S1 p2_s1556_s ck_S0) ck_E0⟩ (by decide +kernel)
set_option maxRecDepth 100000 in
/-- GlacierMail.needThiefYears -/
noncomputable def p2_s1558 : ck_Sum := (((6 : Nat), (1 : Nat), (6 : Nat)), (245 : Nat), [.inr (.inr (.inl (1 : Nat))), .inl ((0 : Int), (30 : Int), [])], ([], [], []), ([], []), [(.inl (0 : Nat), (245 : Nat), ([], [], [])), (.inr none, (245 : Nat), ([], [], []))])
set_option maxRecDepth 100000 in
theorem p2_s1558_s {X : Int → Int} {LX : Nat} : ck_Ok p2_O X LX 214 p2_s1558 := ck_okq (cuts := []) (f := 84) ⟨p2_nmu, ck_E0⟩ (by decide +kernel)
set_option maxRecDepth 100000 in
/-- java/util/Arrays.fill -/
noncomputable def p2_s1559 : ck_Sum := (((0 : Nat), (0 : Nat), (0 : Nat)), (245 : Nat), [.inr (.inr (.inl (223 : Nat))), .inl (ck_one 0)], ([], [], []), ([((223 : Nat), (0 : Int), (179 : Int))], []), [(.inr none, (245 : Nat), ([], [], []))])
set_option maxRecDepth 100000 in
theorem p2_s1559_s {X : Int → Int} {LX : Nat} : ck_Ok p2_O X LX 8 p2_s1559 := ck_okq (cuts := [((5 : Nat), [some (.inr (.inr (.inl (223 : Nat)))), some (.inl (ck_one 0)), some (.inl ((0 : Int), (180 : Int), [])), some (.inl (ck_one 180))], ([], [], []), (100 : Nat), .inl (2 : Nat), true)]) (f := 130) ⟨p2_nmu, ck_E0⟩ (by decide +kernel)
set_option maxRecDepth 100000 in
/-- GlacierMail$Rows.reset -/
noncomputable def p2_s1560 : ck_Sum := (((1 : Nat), (0 : Nat), (0 : Nat)), (245 : Nat), [.inr (.inr (.inl (222 : Nat))), .inl ((0 : Int), (30 : Int), [])], ([], [], []), ([((222 : Nat), (3 : Int), (3 : Int)), ((223 : Nat), (0 : Int), (179 : Int))], []), [(.inr none, (245 : Nat), ([], [], []))])
set_option maxRecDepth 100000 in
theorem p2_s1560_s {X : Int → Int} {LX : Nat} : ck_Ok p2_O X LX 25 p2_s1560 := ck_okq (cuts := []) (f := 96) ⟨p2_nmu, ck_E1 (ck_S1 p2_s1559_s ck_S0) ck_E0⟩ (by decide +kernel)
set_option maxRecDepth 100000 in
/-- GlacierMail$Rows.get -/
noncomputable def p2_s1561 : ck_Sum := (((0 : Nat), (0 : Nat), (0 : Nat)), (245 : Nat), [.inr (.inr (.inl (222 : Nat))), .inl ((-2147483648 : Int), (2147483647 : Int), []), .inl ((-2147483648 : Int), (2147483647 : Int), [])], ([], [], []), ([], []), [(.inr (some (.inl ((-2147483648 : Int), (2147483647 : Int), []))), (245 : Nat), ([], [], []))])
set_option maxRecDepth 100000 in
theorem p2_s1561_s {X : Int → Int} {LX : Nat} : ck_Ok p2_O X LX 10 p2_s1561 := ck_okq (cuts := []) (f := 114) ⟨p2_nmu, ck_E0⟩ (by decide +kernel)
set_option maxRecDepth 100000 in
/-- GlacierMail$Rows.put -/
noncomputable def p2_s1562 : ck_Sum := (((0 : Nat), (0 : Nat), (0 : Nat)), (245 : Nat), [.inr (.inr (.inl (222 : Nat))), .inl ((-2147483648 : Int), (2147483647 : Int), []), .inl ((-1 : Int), (299 : Int), []), .inl ((-2147483648 : Int), (2147483647 : Int), [])], ([], [], []), ([((223 : Nat), (0 : Int), (179 : Int))], []), [(.inr none, (245 : Nat), ([], [], []))])
set_option maxRecDepth 100000 in
theorem p2_s1562_s {X : Int → Int} {LX : Nat} : ck_Ok p2_O X LX 45 p2_s1562 := ck_okq (cuts := []) (f := 116) ⟨p2_nmu, ck_E0⟩ (by decide +kernel)
set_option maxRecDepth 100000 in
/-- GlacierMail.reckonCame -/
noncomputable def p2_s1563 : ck_Sum := (((2 : Nat), (0 : Nat), (0 : Nat)), (245 : Nat), [.inr (.inr (.inl (1 : Nat))), .inl ((0 : Int), (30 : Int), [])], ([], [], [((3 : Nat), (6 : Int), (6 : Int), ((0 : Int), (299 : Int), [((10 : Nat), (0 : Int))]))]), ([((222 : Nat), (3 : Int), (3 : Int)), ((223 : Nat), (0 : Int), (179 : Int))], []), [(.inr none, (245 : Nat), ([], [], []))])
set_option maxRecDepth 100000 in
theorem p2_s1563_s {X : Int → Int} {LX : Nat} : ck_Ok p2_O X LX 215 p2_s1563 := ck_okq (cuts := [((10 : Nat), [some (.inr (.inr (.inl (1 : Nat)))), some (.inl ((0 : Int), (30 : Int), [])), some (.inl ((0 : Int), (24 : Int), [])), none, none], ([], [], [((3 : Nat), (6 : Int), (6 : Int), ((0 : Int), (299 : Int), [((10 : Nat), (0 : Int))]))]), (100 : Nat), .inl (2 : Nat), true)]) (f := 286) ⟨p2_nmu, ck_E1 (ck_S1 p2_s1560_s ck_S0) (ck_E1 (ck_S1 p2_s332_s ck_S0) (ck_E1 (ck_S1 p2_s350_s (ck_S1 p2_s335_s (ck_S1 p2_s1561_s ck_S0))) (ck_E1 (ck_S1 p2_s336_s ck_S0) (ck_E1 (ck_S1 p2_s1562_s ck_S0) ck_E0))))⟩ (by decide +kernel)
set_option maxRecDepth 100000 in
/-- java/util/Arrays.fill -/
noncomputable def p2_s1564 : ck_Sum := (((0 : Nat), (0 : Nat), (0 : Nat)), (245 : Nat), [.inr (.inr (.inl (225 : Nat))), .inl (ck_one 0)], ([], [], []), ([((225 : Nat), (0 : Int), (185 : Int))], []), [(.inr none, (245 : Nat), ([], [], []))])
set_option maxRecDepth 100000 in
theorem p2_s1564_s {X : Int → Int} {LX : Nat} : ck_Ok p2_O X LX 8 p2_s1564 := ck_okq (cuts := [((5 : Nat), [some (.inr (.inr (.inl (225 : Nat)))), some (.inl (ck_one 0)), some (.inl ((0 : Int), (186 : Int), [])), some (.inl (ck_one 186))], ([], [], []), (100 : Nat), .inl (2 : Nat), true)]) (f := 130) ⟨p2_nmu, ck_E0⟩ (by decide +kernel)
set_option maxRecDepth 100000 in
/-- GlacierMail$Rows.reset -/
noncomputable def p2_s1565 : ck_Sum := (((1 : Nat), (0 : Nat), (0 : Nat)), (245 : Nat), [.inr (.inr (.inl (224 : Nat))), .inl ((1 : Int), (31 : Int), [])], ([], [], []), ([((224 : Nat), (3 : Int), (3 : Int)), ((225 : Nat), (0 : Int), (185 : Int))], []), [(.inr none, (245 : Nat), ([], [], [((224 : Nat), (3 : Int), (3 : Int), ((1 : Int), (31 : Int), []))]))])
set_option maxRecDepth 100000 in
theorem p2_s1565_s {X : Int → Int} {LX : Nat} : ck_Ok p2_O X LX 25 p2_s1565 := ck_okq (cuts := []) (f := 96) ⟨p2_nmu, ck_E1 (ck_S1 p2_s1564_s ck_S0) ck_E0⟩ (by decide +kernel)
set_option maxRecDepth 100000 in
/-- GlacierMail$Rows.get -/
noncomputable def p2_s1566 : ck_Sum := (((0 : Nat), (0 : Nat), (0 : Nat)), (245 : Nat), [.inr (.inr (.inl (224 : Nat))), .inl ((-2147483648 : Int), (2147483647 : Int), []), .inl ((-2147483648 : Int), (2147483647 : Int), [])], ([], [], []), ([], []), [(.inr (some (.inl ((-2147483648 : Int), (2147483647 : Int), []))), (245 : Nat), ([], [], []))])
set_option maxRecDepth 100000 in
theorem p2_s1566_s {X : Int → Int} {LX : Nat} : ck_Ok p2_O X LX 10 p2_s1566 := ck_okq (cuts := []) (f := 114) ⟨p2_nmu, ck_E0⟩ (by decide +kernel)
set_option maxRecDepth 100000 in
/-- GlacierMail.bestNext -/
noncomputable def p2_s1567 : ck_Sum := (((1 : Nat), (0 : Nat), (0 : Nat)), (245 : Nat), [.inr (.inr (.inl (1 : Nat))), .inl ((1 : Int), (30 : Int), []), .inl ((0 : Int), (5 : Int), [])], ([], [], []), ([], []), [(.inr (some (.inl ((-2147483648 : Int), (2147483647 : Int), []))), (245 : Nat), ([], [], []))])
set_option maxRecDepth 100000 in
theorem p2_s1567_s {X : Int → Int} {LX : Nat} : ck_Ok p2_O X LX 216 p2_s1567 := ck_okq (cuts := []) (f := 118) ⟨p2_nmu, ck_E1 (ck_S1 p2_s1566_s ck_S0) ck_E0⟩ (by decide +kernel)
set_option maxRecDepth 100000 in
/-- GlacierMail$Rows.put -/
noncomputable def p2_s1568 : ck_Sum := (((0 : Nat), (0 : Nat), (0 : Nat)), (245 : Nat), [.inr (.inr (.inl (224 : Nat))), .inl ((0 : Int), (29 : Int), []), .inl ((0 : Int), (5 : Int), []), .inl ((-2147483648 : Int), (2147483647 : Int), [])], ([], [], []), ([((225 : Nat), (0 : Int), (179 : Int))], []), [(.inr none, (245 : Nat), ([], [], []))])
set_option maxRecDepth 100000 in
theorem p2_s1568_s {X : Int → Int} {LX : Nat} : ck_Ok p2_O X LX 45 p2_s1568 := ck_okq (cuts := []) (f := 116) ⟨p2_nmu, ck_E0⟩ (by decide +kernel)
set_option maxRecDepth 100000 in
/-- GlacierMailModel.in -/
noncomputable def p2_s1570 : ck_Sum := (((0 : Nat), (0 : Nat), (0 : Nat)), (245 : Nat), [.inl ((-2147483648 : Int), (-1 : Int), []), .inl (ck_one 1), .inl (ck_one 30)], ([], [], []), ([], []), [(.inr (some (.inl (ck_one 0))), (245 : Nat), ([], [], []))])
set_option maxRecDepth 100000 in
theorem p2_s1570_s {X : Int → Int} {LX : Nat} : ck_Ok p2_O X LX 286 p2_s1570 := ck_okq (cuts := []) (f := 80) ⟨p2_nmu, ck_E0⟩ (by decide +kernel)
set_option maxRecDepth 100000 in
/-- GlacierMailModel.thieves -/
noncomputable def p2_s1571 : ck_Sum := (((1 : Nat), (0 : Nat), (0 : Nat)), (245 : Nat), [.inr (.inr (.inl (226 : Nat))), .inl ((-2147483648 : Int), (-1 : Int), []), .inl ((0 : Int), (1 : Int), [])], ([], [], []), ([((226 : Nat), (0 : Int), (0 : Int))], []), [(.inr (some (.inl (ck_one 0))), (245 : Nat), ([], [], [((226 : Nat), (0 : Int), (0 : Int), ck_one 1)]))])
set_option maxRecDepth 100000 in
theorem p2_s1571_s {X : Int → Int} {LX : Nat} : ck_Ok p2_O X LX 357 p2_s1571 := ck_okq (cuts := []) (f := 102) ⟨p2_nmu, ck_E1 (ck_S1 p2_s1570_s ck_S0) (ck_E1 (ck_S1 p2_s241_s ck_S0) ck_E0)⟩ (by decide +kernel)
set_option maxRecDepth 100000 in
/-- GlacierMailModel.in -/
noncomputable def p2_s1572 : ck_Sum := (((0 : Nat), (0 : Nat), (0 : Nat)), (245 : Nat), [.inl ((31 : Int), (2147483647 : Int), []), .inl (ck_one 1), .inl (ck_one 30)], ([], [], []), ([], []), [(.inr (some (.inl (ck_one 0))), (245 : Nat), ([], [], []))])
set_option maxRecDepth 100000 in
theorem p2_s1572_s {X : Int → Int} {LX : Nat} : ck_Ok p2_O X LX 286 p2_s1572 := ck_okq (cuts := []) (f := 86) ⟨p2_nmu, ck_E0⟩ (by decide +kernel)
set_option maxRecDepth 100000 in
/-- GlacierMailModel.thieves -/
noncomputable def p2_s1573 : ck_Sum := (((1 : Nat), (0 : Nat), (0 : Nat)), (245 : Nat), [.inr (.inr (.inl (226 : Nat))), .inl ((31 : Int), (2147483647 : Int), []), .inl ((0 : Int), (1 : Int), [])], ([], [], []), ([((226 : Nat), (0 : Int), (0 : Int))], []), [(.inr (some (.inl (ck_one 0))), (245 : Nat), ([], [], [((226 : Nat), (0 : Int), (0 : Int), ck_one 1)]))])
set_option maxRecDepth 100000 in
theorem p2_s1573_s {X : Int → Int} {LX : Nat} : ck_Ok p2_O X LX 357 p2_s1573 := ck_okq (cuts := []) (f := 102) ⟨p2_nmu, ck_E1 (ck_S1 p2_s1572_s ck_S0) (ck_E1 (ck_S1 p2_s241_s ck_S0) ck_E0)⟩ (by decide +kernel)
set_option maxRecDepth 100000 in
/-- GlacierMailModel.in -/
noncomputable def p2_s1574 : ck_Sum := (((0 : Nat), (0 : Nat), (0 : Nat)), (245 : Nat), [.inl ((0 : Int), (30 : Int), []), .inl (ck_one 1), .inl (ck_one 30)], ([], [], []), ([], []), [(.inr (some (.inl (ck_one 0))), (245 : Nat), ([], [], [])), (.inr (some (.inl (ck_one 1))), (245 : Nat), ([], [], []))])
set_option maxRecDepth 100000 in
theorem p2_s1574_s {X : Int → Int} {LX : Nat} : ck_Ok p2_O X LX 286 p2_s1574 := ck_okq (cuts := []) (f := 88) ⟨p2_nmu, ck_E0⟩ (by decide +kernel)
set_option maxRecDepth 100000 in
/-- GlacierMailModel.outsIn -/
noncomputable def p2_s1575 : ck_Sum := (((2 : Nat), (0 : Nat), (0 : Nat)), (245 : Nat), [.inr (.inr (.inl (226 : Nat))), .inl ((0 : Int), (328 : Int), []), .inl ((0 : Int), (5 : Int), []), .inl (ck_one 0)], ([], [], [((227 : Nat), (4 : Int), (4 : Int), ((0 : Int), (24 : Int), [((22 : Nat), (0 : Int))]))]), ([], []), [(.inr (some (.inl ((-2147483648 : Int), (2147483647 : Int), []))), (245 : Nat), ([], [], []))])
set_option maxRecDepth 100000 in
theorem p2_s1575_s {X : Int → Int} {LX : Nat} : ck_Ok p2_O X LX 333 p2_s1575 := ck_okq (cuts := [((6 : Nat), [some (.inr (.inr (.inl (226 : Nat)))), some (.inl ((0 : Int), (328 : Int), [])), some (.inl ((0 : Int), (5 : Int), [])), some (.inl (ck_one 0)), some (.inl ((-2147483648 : Int), (2147483647 : Int), [])), some (.inl ((0 : Int), (24 : Int), []))], ([], [], [((227 : Nat), (4 : Int), (4 : Int), ((0 : Int), (24 : Int), [((22 : Nat), (0 : Int))]))]), (100 : Nat), .inl (5 : Nat), true)]) (f := 218) ⟨p2_nmu, ck_E1 (ck_S1 p2_s176_s ck_S0) (ck_E1 (ck_S1 p2_s375_s ck_S0) (ck_E1 (ck_S1 p2_s374_s ck_S0) ck_E0))⟩ (by decide +kernel)
set_option maxRecDepth 100000 in
/-- GlacierMailModel.outsIn -/
noncomputable def p2_s1576 : ck_Sum := (((2 : Nat), (0 : Nat), (0 : Nat)), (245 : Nat), [.inr (.inr (.inl (226 : Nat))), .inl ((0 : Int), (327 : Int), []), .inl ((0 : Int), (5 : Int), []), .inl (ck_one 0)], ([], [], [((227 : Nat), (4 : Int), (4 : Int), ((0 : Int), (24 : Int), [((22 : Nat), (0 : Int))]))]), ([], []), [(.inr (some (.inl ((-2147483648 : Int), (2147483647 : Int), []))), (245 : Nat), ([], [], []))])
set_option maxRecDepth 100000 in
theorem p2_s1576_s {X : Int → Int} {LX : Nat} : ck_Ok p2_O X LX 333 p2_s1576 := ck_okq (cuts := [((6 : Nat), [some (.inr (.inr (.inl (226 : Nat)))), some (.inl ((0 : Int), (327 : Int), [])), some (.inl ((0 : Int), (5 : Int), [])), some (.inl (ck_one 0)), some (.inl ((-2147483648 : Int), (2147483647 : Int), [])), some (.inl ((0 : Int), (24 : Int), []))], ([], [], [((227 : Nat), (4 : Int), (4 : Int), ((0 : Int), (24 : Int), [((22 : Nat), (0 : Int))]))]), (100 : Nat), .inl (5 : Nat), true)]) (f := 218) ⟨p2_nmu, ck_E1 (ck_S1 p2_s176_s ck_S0) (ck_E1 (ck_S1 p2_s375_s ck_S0) (ck_E1 (ck_S1 p2_s374_s ck_S0) ck_E0))⟩ (by decide +kernel)
set_option maxRecDepth 100000 in
/-- GlacierMailModel.outsIn -/
noncomputable def p2_s1577 : ck_Sum := (((2 : Nat), (0 : Nat), (0 : Nat)), (245 : Nat), [.inr (.inr (.inl (226 : Nat))), .inl ((0 : Int), (327 : Int), []), .inl ((0 : Int), (4 : Int), []), .inl (ck_one 0)], ([], [], [((227 : Nat), (4 : Int), (4 : Int), ((0 : Int), (24 : Int), [((22 : Nat), (0 : Int))]))]), ([], []), [(.inr (some (.inl ((-2147483648 : Int), (2147483647 : Int), []))), (245 : Nat), ([], [], []))])
set_option maxRecDepth 100000 in
theorem p2_s1577_s {X : Int → Int} {LX : Nat} : ck_Ok p2_O X LX 333 p2_s1577 := ck_okq (cuts := [((6 : Nat), [some (.inr (.inr (.inl (226 : Nat)))), some (.inl ((0 : Int), (327 : Int), [])), some (.inl ((0 : Int), (4 : Int), [])), some (.inl (ck_one 0)), some (.inl ((-2147483648 : Int), (2147483647 : Int), [])), some (.inl ((0 : Int), (24 : Int), []))], ([], [], [((227 : Nat), (4 : Int), (4 : Int), ((0 : Int), (24 : Int), [((22 : Nat), (0 : Int))]))]), (100 : Nat), .inl (5 : Nat), true)]) (f := 218) ⟨p2_nmu, ck_E1 (ck_S1 p2_s176_s ck_S0) (ck_E1 (ck_S1 p2_s375_s ck_S0) (ck_E1 (ck_S1 p2_s374_s ck_S0) ck_E0))⟩ (by decide +kernel)
end
/-! 78r80a20.sf -/
section
/-! EVERY CALL ENDS, whatever was done before (laid by wip/am/p2k.py). -/
set_option maxRecDepth 100000 in
/-- GlacierMailModel.outsIn -/
noncomputable def p2_s1578 : ck_Sum := (((2 : Nat), (0 : Nat), (0 : Nat)), (245 : Nat), [.inr (.inr (.inl (226 : Nat))), .inl ((0 : Int), (327 : Int), []), .inl (ck_one 0), .inl (ck_one 0)], ([], [], [((227 : Nat), (4 : Int), (4 : Int), ((0 : Int), (24 : Int), [((22 : Nat), (0 : Int))]))]), ([], []), [(.inr (some (.inl ((-2147483648 : Int), (2147483647 : Int), []))), (245 : Nat), ([], [], []))])
set_option maxRecDepth 100000 in
theorem p2_s1578_s {X : Int → Int} {LX : Nat} : ck_Ok p2_O X LX 333 p2_s1578 := ck_okq (cuts := [((6 : Nat), [some (.inr (.inr (.inl (226 : Nat)))), some (.inl ((0 : Int), (327 : Int), [])), some (.inl (ck_one 0)), some (.inl (ck_one 0)), some (.inl ((-2147483648 : Int), (2147483647 : Int), [])), some (.inl ((0 : Int), (24 : Int), []))], ([], [], [((227 : Nat), (4 : Int), (4 : Int), ((0 : Int), (24 : Int), [((22 : Nat), (0 : Int))]))]), (100 : Nat), .inl (5 : Nat), true)]) (f := 218) ⟨p2_nmu, ck_E1 (ck_S1 p2_s176_s ck_S0) (ck_E1 (ck_S1 p2_s375_s ck_S0) (ck_E1 (ck_S1 p2_s374_s ck_S0) ck_E0))⟩ (by decide +kernel)
set_option maxRecDepth 100000 in
/-- GlacierMailModel.outsIn -/
noncomputable def p2_s1579 : ck_Sum := (((2 : Nat), (0 : Nat), (0 : Nat)), (245 : Nat), [.inr (.inr (.inl (226 : Nat))), .inl ((0 : Int), (327 : Int), []), .inl ((1 : Int), (5 : Int), []), .inl (ck_one 0)], ([], [], [((227 : Nat), (4 : Int), (4 : Int), ((0 : Int), (24 : Int), [((22 : Nat), (0 : Int))]))]), ([], []), [(.inr (some (.inl ((-2147483648 : Int), (2147483647 : Int), []))), (245 : Nat), ([], [], []))])
set_option maxRecDepth 100000 in
theorem p2_s1579_s {X : Int → Int} {LX : Nat} : ck_Ok p2_O X LX 333 p2_s1579 := ck_okq (cuts := [((6 : Nat), [some (.inr (.inr (.inl (226 : Nat)))), some (.inl ((0 : Int), (327 : Int), [])), some (.inl ((1 : Int), (5 : Int), [])), some (.inl (ck_one 0)), some (.inl ((-2147483648 : Int), (2147483647 : Int), [])), some (.inl ((0 : Int), (24 : Int), []))], ([], [], [((227 : Nat), (4 : Int), (4 : Int), ((0 : Int), (24 : Int), [((22 : Nat), (0 : Int))]))]), (100 : Nat), .inl (5 : Nat), true)]) (f := 218) ⟨p2_nmu, ck_E1 (ck_S1 p2_s176_s ck_S0) (ck_E1 (ck_S1 p2_s375_s ck_S0) (ck_E1 (ck_S1 p2_s374_s ck_S0) ck_E0))⟩ (by decide +kernel)
set_option maxRecDepth 100000 in
/-- GlacierMailModel.outsIn -/
noncomputable def p2_s1580 : ck_Sum := (((2 : Nat), (0 : Nat), (0 : Nat)), (245 : Nat), [.inr (.inr (.inl (226 : Nat))), .inl ((0 : Int), (327 : Int), []), .inl ((1 : Int), (4 : Int), []), .inl (ck_one 0)], ([], [], [((227 : Nat), (4 : Int), (4 : Int), ((0 : Int), (24 : Int), [((22 : Nat), (0 : Int))]))]), ([], []), [(.inr (some (.inl ((-2147483648 : Int), (2147483647 : Int), []))), (245 : Nat), ([], [], []))])
set_option maxRecDepth 100000 in
theorem p2_s1580_s {X : Int → Int} {LX : Nat} : ck_Ok p2_O X LX 333 p2_s1580 := ck_okq (cuts := [((6 : Nat), [some (.inr (.inr (.inl (226 : Nat)))), some (.inl ((0 : Int), (327 : Int), [])), some (.inl ((1 : Int), (4 : Int), [])), some (.inl (ck_one 0)), some (.inl ((-2147483648 : Int), (2147483647 : Int), [])), some (.inl ((0 : Int), (24 : Int), []))], ([], [], [((227 : Nat), (4 : Int), (4 : Int), ((0 : Int), (24 : Int), [((22 : Nat), (0 : Int))]))]), (100 : Nat), .inl (5 : Nat), true)]) (f := 218) ⟨p2_nmu, ck_E1 (ck_S1 p2_s176_s ck_S0) (ck_E1 (ck_S1 p2_s375_s ck_S0) (ck_E1 (ck_S1 p2_s374_s ck_S0) ck_E0))⟩ (by decide +kernel)
set_option maxRecDepth 100000 in
/-- GlacierMail.watchman -/
noncomputable def p2_s1583 : ck_Sum := (((7 : Nat), (1 : Nat), (6 : Nat)), (245 : Nat), [.inr (.inr (.inl (1 : Nat))), .inl ((-2147483648 : Int), (-1 : Int), []), .inl ((0 : Int), (1 : Int), [])], ([], [], []), ([], []), [(.inl (0 : Nat), (245 : Nat), ([], [], []))])
set_option maxRecDepth 100000 in
theorem p2_s1583_s {X : Int → Int} {LX : Nat} : ck_Ok p2_O X LX 218 p2_s1583 := ck_okq (cuts := []) (f := 76) ⟨p2_nmu, ck_E1 (ck_S1 p2_s1554_s ck_S0) ck_E0⟩ (by decide +kernel)
set_option maxRecDepth 100000 in
/-- GlacierMail.watchman -/
noncomputable def p2_s1584 : ck_Sum := (((7 : Nat), (1 : Nat), (6 : Nat)), (245 : Nat), [.inr (.inr (.inl (1 : Nat))), .inl ((31 : Int), (2147483647 : Int), []), .inl ((0 : Int), (1 : Int), [])], ([], [], []), ([], []), [(.inl (0 : Nat), (245 : Nat), ([], [], []))])
set_option maxRecDepth 100000 in
theorem p2_s1584_s {X : Int → Int} {LX : Nat} : ck_Ok p2_O X LX 218 p2_s1584 := ck_okq (cuts := []) (f := 76) ⟨p2_nmu, ck_E1 (ck_S1 p2_s1556_s ck_S0) ck_E0⟩ (by decide +kernel)
set_option maxRecDepth 100000 in
/-- GlacierMail.mostBeside -/
noncomputable def p2_s1585 : ck_Sum := (((1 : Nat), (0 : Nat), (0 : Nat)), (245 : Nat), [.inr (.inr (.inl (1 : Nat))), .inl ((0 : Int), (5 : Int), []), .inl ((0 : Int), (30 : Int), [])], ([], [], []), ([], []), [(.inr (some (.inl ((0 : Int), (2147483647 : Int), []))), (245 : Nat), ([], [], []))])
set_option maxRecDepth 100000 in
theorem p2_s1585_s {X : Int → Int} {LX : Nat} : ck_Ok p2_O X LX 219 p2_s1585 := ck_okq (cuts := [((5 : Nat), [some (.inr (.inr (.inl (1 : Nat)))), some (.inl ((0 : Int), (5 : Int), [])), some (.inl ((0 : Int), (30 : Int), [])), some (.inl ((0 : Int), (2147483647 : Int), [])), some (.inl ((0 : Int), (6 : Int), [])), none, none], ([], [], []), (100 : Nat), .inl (4 : Nat), true), ((23 : Nat), [some (.inr (.inr (.inl (1 : Nat)))), some (.inl ((0 : Int), (5 : Int), [])), some (.inl ((0 : Int), (30 : Int), [])), some (.inl ((0 : Int), (2147483647 : Int), [])), some (.inl ((0 : Int), (5 : Int), [((100 : Nat), (0 : Int))])), some (.inl ((-2147483648 : Int), (2147483647 : Int), [])), some (.inl ((0 : Int), (30 : Int), []))], ([], [], []), (300 : Nat), .inl (6 : Nat), true)]) (f := 194) ⟨p2_nmu, ck_E1 (ck_S1 p2_s1561_s ck_S0) ck_E0⟩ (by decide +kernel)
set_option maxRecDepth 100000 in
/-- GlacierMail.mostBeside -/
noncomputable def p2_s1586 : ck_Sum := (((1 : Nat), (0 : Nat), (0 : Nat)), (245 : Nat), [.inr (.inr (.inl (1 : Nat))), .inl ((1 : Int), (5 : Int), []), .inl ((0 : Int), (30 : Int), [])], ([], [], []), ([], []), [(.inr (some (.inl ((0 : Int), (2147483647 : Int), []))), (245 : Nat), ([], [], []))])
set_option maxRecDepth 100000 in
theorem p2_s1586_s {X : Int → Int} {LX : Nat} : ck_Ok p2_O X LX 219 p2_s1586 := ck_okq (cuts := [((5 : Nat), [some (.inr (.inr (.inl (1 : Nat)))), some (.inl ((1 : Int), (5 : Int), [])), some (.inl ((0 : Int), (30 : Int), [])), some (.inl ((0 : Int), (2147483647 : Int), [])), some (.inl ((0 : Int), (6 : Int), [])), none, none], ([], [], []), (100 : Nat), .inl (4 : Nat), true), ((23 : Nat), [some (.inr (.inr (.inl (1 : Nat)))), some (.inl ((1 : Int), (5 : Int), [])), some (.inl ((0 : Int), (30 : Int), [])), some (.inl ((0 : Int), (2147483647 : Int), [])), some (.inl ((0 : Int), (5 : Int), [((100 : Nat), (0 : Int))])), some (.inl ((-2147483648 : Int), (2147483647 : Int), [])), some (.inl ((0 : Int), (30 : Int), []))], ([], [], []), (300 : Nat), .inl (6 : Nat), true)]) (f := 194) ⟨p2_nmu, ck_E1 (ck_S1 p2_s1561_s ck_S0) ck_E0⟩ (by decide +kernel)
set_option maxRecDepth 100000 in
/-- GlacierMailModel.watchman -/
noncomputable def p2_s1588 : ck_Sum := (((1 : Nat), (0 : Nat), (0 : Nat)), (245 : Nat), [.inr (.inr (.inl (226 : Nat))), .inl ((-2147483648 : Int), (-1 : Int), []), .inl ((0 : Int), (1 : Int), [])], ([], [], []), ([((226 : Nat), (0 : Int), (0 : Int))], []), [(.inr (some (.inl (ck_one 0))), (245 : Nat), ([], [], [((226 : Nat), (0 : Int), (0 : Int), ck_one 1)]))])
set_option maxRecDepth 100000 in
theorem p2_s1588_s {X : Int → Int} {LX : Nat} : ck_Ok p2_O X LX 359 p2_s1588 := ck_okq (cuts := []) (f := 102) ⟨p2_nmu, ck_E1 (ck_S1 p2_s1570_s ck_S0) (ck_E1 (ck_S1 p2_s241_s ck_S0) ck_E0)⟩ (by decide +kernel)
set_option maxRecDepth 100000 in
/-- GlacierMailModel.watchman -/
noncomputable def p2_s1589 : ck_Sum := (((1 : Nat), (0 : Nat), (0 : Nat)), (245 : Nat), [.inr (.inr (.inl (226 : Nat))), .inl ((31 : Int), (2147483647 : Int), []), .inl ((0 : Int), (1 : Int), [])], ([], [], []), ([((226 : Nat), (0 : Int), (0 : Int))], []), [(.inr (some (.inl (ck_one 0))), (245 : Nat), ([], [], [((226 : Nat), (0 : Int), (0 : Int), ck_one 1)]))])
set_option maxRecDepth 100000 in
theorem p2_s1589_s {X : Int → Int} {LX : Nat} : ck_Ok p2_O X LX 359 p2_s1589 := ck_okq (cuts := []) (f := 102) ⟨p2_nmu, ck_E1 (ck_S1 p2_s1572_s ck_S0) (ck_E1 (ck_S1 p2_s241_s ck_S0) ck_E0)⟩ (by decide +kernel)
set_option maxRecDepth 100000 in
/-- GlacierMail.meeting -/
noncomputable def p2_s1591 : ck_Sum := (((8 : Nat), (1 : Nat), (6 : Nat)), (245 : Nat), [.inr (.inr (.inl (1 : Nat))), .inl ((-2147483648 : Int), (-1 : Int), []), .inl ((-2147483648 : Int), (2147483647 : Int), [])], ([], [], []), ([], []), [(.inl (3 : Nat), (245 : Nat), ([], [], []))])
set_option maxRecDepth 100000 in
theorem p2_s1591_s {X : Int → Int} {LX : Nat} : ck_Ok p2_O X LX 221 p2_s1591 := ck_okq (cuts := []) (f := 76) ⟨p2_nmu, ck_E1 (ck_S1 p2_s387_s ck_S0) ck_E0⟩ (by decide +kernel)
set_option maxRecDepth 100000 in
/-- GlacierMail.meeting -/
noncomputable def p2_s1592 : ck_Sum := (((8 : Nat), (1 : Nat), (6 : Nat)), (245 : Nat), [.inr (.inr (.inl (1 : Nat))), .inl ((24 : Int), (2147483647 : Int), []), .inl ((-2147483648 : Int), (2147483647 : Int), [])], ([], [], []), ([], []), [(.inl (3 : Nat), (245 : Nat), ([], [], []))])
set_option maxRecDepth 100000 in
theorem p2_s1592_s {X : Int → Int} {LX : Nat} : ck_Ok p2_O X LX 221 p2_s1592 := ck_okq (cuts := []) (f := 76) ⟨p2_nmu, ck_E1 (ck_S1 p2_s390_s ck_S0) ck_E0⟩ (by decide +kernel)
set_option maxRecDepth 100000 in
/-- GlacierMail.meeting -/
noncomputable def p2_s1593 : ck_Sum := (((8 : Nat), (2 : Nat), (12 : Nat)), (245 : Nat), [.inr (.inr (.inl (1 : Nat))), .inl ((0 : Int), (23 : Int), []), .inl ((-2147483648 : Int), (-1 : Int), [])], ([], [], []), ([], []), [(.inl (3 : Nat), (245 : Nat), ([], [], []))])
set_option maxRecDepth 100000 in
theorem p2_s1593_s {X : Int → Int} {LX : Nat} : ck_Ok p2_O X LX 221 p2_s1593 := ck_okq (cuts := []) (f := 82) ⟨p2_nmu, ck_E1 (ck_S1 p2_s393_s (ck_S1 p2_s387_s ck_S0)) ck_E0⟩ (by decide +kernel)
set_option maxRecDepth 100000 in
/-- GlacierMail.meeting -/
noncomputable def p2_s1594 : ck_Sum := (((8 : Nat), (2 : Nat), (12 : Nat)), (245 : Nat), [.inr (.inr (.inl (1 : Nat))), .inl ((0 : Int), (23 : Int), []), .inl ((24 : Int), (2147483647 : Int), [])], ([], [], []), ([], []), [(.inl (3 : Nat), (245 : Nat), ([], [], []))])
set_option maxRecDepth 100000 in
theorem p2_s1594_s {X : Int → Int} {LX : Nat} : ck_Ok p2_O X LX 221 p2_s1594 := ck_okq (cuts := []) (f := 82) ⟨p2_nmu, ck_E1 (ck_S1 p2_s393_s (ck_S1 p2_s390_s ck_S0)) ck_E0⟩ (by decide +kernel)
set_option maxRecDepth 100000 in
/-- GlacierMail.needUnlike -/
noncomputable def p2_s1595 : ck_Sum := (((6 : Nat), (1 : Nat), (6 : Nat)), (245 : Nat), [.inr (.inr (.inl (1 : Nat))), .inl ((0 : Int), (23 : Int), []), .inl ((0 : Int), (23 : Int), [])], ([], [], []), ([], []), [(.inr none, (245 : Nat), ([], [], [])), (.inl (0 : Nat), (245 : Nat), ([], [], []))])
set_option maxRecDepth 100000 in
theorem p2_s1595_s {X : Int → Int} {LX : Nat} : ck_Ok p2_O X LX 153 p2_s1595 := ck_okq (cuts := []) (f := 78) ⟨p2_nmu, ck_E0⟩ (by decide +kernel)
set_option maxRecDepth 100000 in
/-- GlacierMail.startBoth -/
noncomputable def p2_s1596 : ck_Sum := (((4 : Nat), (0 : Nat), (0 : Nat)), (245 : Nat), [.inr (.inr (.inl (1 : Nat))), .inl ((0 : Int), (23 : Int), []), .inl ((0 : Int), (23 : Int), []), .inl ((0 : Int), (299 : Int), [])], ([], [((3 : Nat), (8 : Int), (0 : Nat))], []), ([((206 : Nat), (2 : Int), (8 : Int)), ((207 : Nat), (2 : Int), (8 : Int))], []), [(.inr (some (.inl ((0 : Int), (299 : Int), []))), (245 : Nat), ([], [], zl86))])
set_option maxRecDepth 100000 in
theorem p2_s1596_s {X : Int → Int} {LX : Nat} : ck_Ok p2_O X LX 182 p2_s1596 := ck_okq (cuts := []) (f := 126) ⟨p2_nmu, ck_E1 (ck_S1 p2_s339_s (ck_S1 p2_s1381_s ck_S0)) (ck_E1 (ck_S1 p2_s421_s (ck_S1 p2_s1386_s ck_S0)) ck_E0)⟩ (by decide +kernel)
set_option maxRecDepth 100000 in
/-- GlacierMail.meeting -/
noncomputable def p2_s1597 : ck_Sum := (((8 : Nat), (3 : Nat), (18 : Nat)), (245 : Nat), [.inr (.inr (.inl (1 : Nat))), .inl ((0 : Int), (23 : Int), []), .inl ((0 : Int), (23 : Int), [])], ([], [((3 : Nat), (8 : Int), (0 : Nat))], [((3 : Nat), (6 : Int), (6 : Int), ((0 : Int), (299 : Int), [((10 : Nat), (0 : Int))]))]), ([((206 : Nat), (2 : Int), (8 : Int)), ((207 : Nat), (2 : Int), (8 : Int))], []), [(.inl (3 : Nat), (245 : Nat), ([], [], [])), (.inl (0 : Nat), (245 : Nat), ([], [], [])), (.inr (some (.inl (ck_one (-1)))), (245 : Nat), ([], [], [])), (.inr (some (.inl ((0 : Int), (299 : Int), []))), (245 : Nat), ([], [], zl207))])
set_option maxRecDepth 100000 in
theorem p2_s1597_s {X : Int → Int} {LX : Nat} : ck_Ok p2_O X LX 221 p2_s1597 := ck_okq (cuts := [((44 : Nat), [some (.inr (.inr (.inl (1 : Nat)))), some (.inl ((0 : Int), (23 : Int), [])), some (.inl ((0 : Int), (23 : Int), [])), some (.inl ((0 : Int), (299 : Int), [])), some (.inl ((0 : Int), (300 : Int), []))], ([], [((3 : Nat), (8 : Int), (0 : Nat))], [((206 : Nat), (4 : Int), (4 : Int), ck_one (-1)), ((206 : Nat), (2 : Int), (2 : Int), ((-1 : Int), (299 : Int), [])), ((3 : Nat), (6 : Int), (6 : Int), ((0 : Int), (299 : Int), [((10 : Nat), (0 : Int))]))]), (100 : Nat), .inl (4 : Nat), true)]) (f := 194) ⟨p2_nmu, ck_E1 (ck_S1 p2_s393_s ck_S0) (ck_E1 (ck_S1 p2_s1595_s ck_S0) (ck_E1 (ck_S1 p2_s1378_s ck_S0) (ck_E1 (ck_S1 p2_s1596_s ck_S0) (ck_E1 (ck_S1 p2_s1388_s ck_S0) (ck_E1 (ck_S1 p2_s1389_s ck_S0) ck_E0)))))⟩ (by decide +kernel)
set_option maxRecDepth 100000 in
/-- GlacierMailModel.meeting -/
noncomputable def p2_s1598 : ck_Sum := (((2 : Nat), (0 : Nat), (0 : Nat)), (245 : Nat), [.inr (.inr (.inl (226 : Nat))), .inl ((-2147483648 : Int), (-1 : Int), []), .inl ((-2147483648 : Int), (2147483647 : Int), [])], ([], [], [((227 : Nat), (4 : Int), (4 : Int), ((0 : Int), (24 : Int), [((22 : Nat), (0 : Int))]))]), ([((226 : Nat), (0 : Int), (0 : Int))], []), [(.inr (some (.inl (ck_one 0))), (245 : Nat), ([], [], [((226 : Nat), (0 : Int), (0 : Int), ck_one 1)]))])
set_option maxRecDepth 100000 in
theorem p2_s1598_s {X : Int → Int} {LX : Nat} : ck_Ok p2_O X LX 360 p2_s1598 := ck_okq (cuts := []) (f := 100) ⟨p2_nmu, ck_E1 (ck_S1 p2_s400_s ck_S0) (ck_E1 (ck_S1 p2_s241_s ck_S0) ck_E0)⟩ (by decide +kernel)
set_option maxRecDepth 100000 in
/-- GlacierMailModel.meeting -/
noncomputable def p2_s1599 : ck_Sum := (((2 : Nat), (0 : Nat), (0 : Nat)), (245 : Nat), [.inr (.inr (.inl (226 : Nat))), .inl ((24 : Int), (2147483647 : Int), []), .inl ((-2147483648 : Int), (2147483647 : Int), [])], ([], [], [((227 : Nat), (4 : Int), (4 : Int), ((0 : Int), (24 : Int), [((22 : Nat), (0 : Int))]))]), ([((226 : Nat), (0 : Int), (0 : Int))], []), [(.inr (some (.inl (ck_one 0))), (245 : Nat), ([], [], [((226 : Nat), (0 : Int), (0 : Int), ck_one 1)]))])
set_option maxRecDepth 100000 in
theorem p2_s1599_s {X : Int → Int} {LX : Nat} : ck_Ok p2_O X LX 360 p2_s1599 := ck_okq (cuts := []) (f := 100) ⟨p2_nmu, ck_E1 (ck_S1 p2_s403_s ck_S0) (ck_E1 (ck_S1 p2_s241_s ck_S0) ck_E0)⟩ (by decide +kernel)
set_option maxRecDepth 100000 in
/-- GlacierMailModel.meeting -/
noncomputable def p2_s1600 : ck_Sum := (((2 : Nat), (0 : Nat), (0 : Nat)), (245 : Nat), [.inr (.inr (.inl (226 : Nat))), .inl ((0 : Int), (23 : Int), []), .inl ((-2147483648 : Int), (-1 : Int), [])], ([], [], [((227 : Nat), (4 : Int), (4 : Int), ((0 : Int), (24 : Int), [((22 : Nat), (0 : Int))]))]), ([((226 : Nat), (0 : Int), (0 : Int))], []), [(.inr (some (.inl (ck_one 0))), (245 : Nat), ([], [], [((226 : Nat), (0 : Int), (0 : Int), ck_one 1)]))])
set_option maxRecDepth 100000 in
theorem p2_s1600_s {X : Int → Int} {LX : Nat} : ck_Ok p2_O X LX 360 p2_s1600 := ck_okq (cuts := []) (f := 108) ⟨p2_nmu, ck_E1 (ck_S1 p2_s406_s (ck_S1 p2_s400_s ck_S0)) (ck_E1 (ck_S1 p2_s241_s ck_S0) ck_E0)⟩ (by decide +kernel)
set_option maxRecDepth 100000 in
/-- GlacierMailModel.meeting -/
noncomputable def p2_s1601 : ck_Sum := (((2 : Nat), (0 : Nat), (0 : Nat)), (245 : Nat), [.inr (.inr (.inl (226 : Nat))), .inl ((0 : Int), (23 : Int), []), .inl ((24 : Int), (2147483647 : Int), [])], ([], [], [((227 : Nat), (4 : Int), (4 : Int), ((0 : Int), (24 : Int), [((22 : Nat), (0 : Int))]))]), ([((226 : Nat), (0 : Int), (0 : Int))], []), [(.inr (some (.inl (ck_one 0))), (245 : Nat), ([], [], [((226 : Nat), (0 : Int), (0 : Int), ck_one 1)]))])
set_option maxRecDepth 100000 in
theorem p2_s1601_s {X : Int → Int} {LX : Nat} : ck_Ok p2_O X LX 360 p2_s1601 := ck_okq (cuts := []) (f := 108) ⟨p2_nmu, ck_E1 (ck_S1 p2_s406_s (ck_S1 p2_s403_s ck_S0)) (ck_E1 (ck_S1 p2_s241_s ck_S0) ck_E0)⟩ (by decide +kernel)
set_option maxRecDepth 100000 in
/-- GlacierMail.outs -/
noncomputable def p2_s1603 : ck_Sum := (((7 : Nat), (1 : Nat), (6 : Nat)), (245 : Nat), [.inr (.inr (.inl (1 : Nat))), .inl ((-2147483648 : Int), (-1 : Int), [])], ([], [], []), ([], []), [(.inl (0 : Nat), (245 : Nat), ([], [], []))])
set_option maxRecDepth 100000 in
theorem p2_s1603_s {X : Int → Int} {LX : Nat} : ck_Ok p2_O X LX 223 p2_s1603 := ck_okq (cuts := []) (f := 76) ⟨p2_nmu, ck_E1 (ck_S1 p2_s249_s ck_S0) ck_E0⟩ (by decide +kernel)
set_option maxRecDepth 100000 in
/-- GlacierMail.outs -/
noncomputable def p2_s1604 : ck_Sum := (((7 : Nat), (1 : Nat), (6 : Nat)), (245 : Nat), [.inr (.inr (.inl (1 : Nat))), .inl ((300 : Int), (2147483647 : Int), [])], ([], [], []), ([], []), [(.inl (0 : Nat), (245 : Nat), ([], [], []))])
set_option maxRecDepth 100000 in
theorem p2_s1604_s {X : Int → Int} {LX : Nat} : ck_Ok p2_O X LX 223 p2_s1604 := ck_okq (cuts := []) (f := 76) ⟨p2_nmu, ck_E1 (ck_S1 p2_s251_s ck_S0) ck_E0⟩ (by decide +kernel)
set_option maxRecDepth 100000 in
/-- GlacierMail.outIn -/
noncomputable def p2_s1605 : ck_Sum := (((1 : Nat), (0 : Nat), (0 : Nat)), (245 : Nat), [.inr (.inr (.inl (1 : Nat))), .inl ((0 : Int), (299 : Int), []), .inl (ck_one 1)], ([], [], []), ([], []), [(.inr (some (.inl ((-2147483648 : Int), (2147483647 : Int), []))), (245 : Nat), ([], [], []))])
set_option maxRecDepth 100000 in
theorem p2_s1605_s {X : Int → Int} {LX : Nat} : ck_Ok p2_O X LX 47 p2_s1605 := ck_okq (cuts := [((5 : Nat), [some (.inr (.inr (.inl (1 : Nat)))), some (.inl ((0 : Int), (299 : Int), [])), some (.inl (ck_one 1)), some (.inl ((-2147483648 : Int), (2147483647 : Int), [])), some (.inl ((0 : Int), (24 : Int), []))], ([], [], []), (100 : Nat), .inl (4 : Nat), true)]) (f := 162) ⟨p2_nmu, ck_E1 (ck_S1 p2_s332_s ck_S0) (ck_E1 (ck_S1 p2_s350_s ck_S0) ck_E0)⟩ (by decide +kernel)
set_option maxRecDepth 100000 in
/-- GlacierMailModel.outs -/
noncomputable def p2_s1607 : ck_Sum := (((2 : Nat), (0 : Nat), (0 : Nat)), (245 : Nat), [.inr (.inr (.inl (226 : Nat))), .inl ((-2147483648 : Int), (-1 : Int), [])], ([], [], []), ([((226 : Nat), (0 : Int), (0 : Int))], []), [(.inr (some (.inl (ck_one 0))), (245 : Nat), ([], [], [((226 : Nat), (0 : Int), (0 : Int), ck_one 1)]))])
set_option maxRecDepth 100000 in
theorem p2_s1607_s {X : Int → Int} {LX : Nat} : ck_Ok p2_O X LX 361 p2_s1607 := ck_okq (cuts := []) (f := 92) ⟨p2_nmu, ck_E1 (ck_S1 p2_s257_s ck_S0) (ck_E1 (ck_S1 p2_s241_s ck_S0) ck_E0)⟩ (by decide +kernel)
set_option maxRecDepth 100000 in
/-- GlacierMailModel.outs -/
noncomputable def p2_s1608 : ck_Sum := (((2 : Nat), (0 : Nat), (0 : Nat)), (245 : Nat), [.inr (.inr (.inl (226 : Nat))), .inl ((300 : Int), (2147483647 : Int), [])], ([], [], []), ([((226 : Nat), (0 : Int), (0 : Int))], []), [(.inr (some (.inl (ck_one 0))), (245 : Nat), ([], [], [((226 : Nat), (0 : Int), (0 : Int), ck_one 1)]))])
set_option maxRecDepth 100000 in
theorem p2_s1608_s {X : Int → Int} {LX : Nat} : ck_Ok p2_O X LX 361 p2_s1608 := ck_okq (cuts := []) (f := 92) ⟨p2_nmu, ck_E1 (ck_S1 p2_s260_s ck_S0) (ck_E1 (ck_S1 p2_s241_s ck_S0) ck_E0)⟩ (by decide +kernel)
set_option maxRecDepth 100000 in
/-- GlacierMail.outAheadOf -/
noncomputable def p2_s1610 : ck_Sum := (((1 : Nat), (0 : Nat), (0 : Nat)), (245 : Nat), [.inr (.inr (.inl (1 : Nat))), .inl ((0 : Int), (23 : Int), [])], ([], [], []), ([], []), [(.inr (some (.inl ((-2147483648 : Int), (2147483647 : Int), []))), (245 : Nat), ([], [], []))])
set_option maxRecDepth 100000 in
theorem p2_s1610_s {X : Int → Int} {LX : Nat} : ck_Ok p2_O X LX 53 p2_s1610 := ck_okq (cuts := [((15 : Nat), [some (.inr (.inr (.inl (1 : Nat)))), some (.inl ((0 : Int), (23 : Int), [])), some (.inl ((-2147483648 : Int), (299 : Int), [])), some (.inl ((-2147483648 : Int), (2147483647 : Int), [])), some (.inl ((0 : Int), (24 : Int), [])), none, none], ([], [], []), (100 : Nat), .inl (4 : Nat), true)]) (f := 214) ⟨p2_nmu, ck_E1 (ck_S1 p2_s350_s ck_S0) (ck_E1 (ck_S1 p2_s332_s ck_S0) ck_E0)⟩ (by decide +kernel)
set_option maxRecDepth 100000 in
/-- GlacierMail.streams -/
noncomputable def p2_s1613 : ck_Sum := (((7 : Nat), (1 : Nat), (6 : Nat)), (245 : Nat), [.inr (.inr (.inl (1 : Nat))), .inl ((-2147483648 : Int), (-1 : Int), []), .inl ((0 : Int), (1 : Int), [])], ([], [], []), ([], []), [(.inl (0 : Nat), (245 : Nat), ([], [], []))])
set_option maxRecDepth 100000 in
theorem p2_s1613_s {X : Int → Int} {LX : Nat} : ck_Ok p2_O X LX 225 p2_s1613 := ck_okq (cuts := []) (f := 76) ⟨p2_nmu, ck_E1 (ck_S1 p2_s249_s ck_S0) ck_E0⟩ (by decide +kernel)
set_option maxRecDepth 100000 in
/-- GlacierMail.streams -/
noncomputable def p2_s1614 : ck_Sum := (((7 : Nat), (1 : Nat), (6 : Nat)), (245 : Nat), [.inr (.inr (.inl (1 : Nat))), .inl ((300 : Int), (2147483647 : Int), []), .inl ((0 : Int), (1 : Int), [])], ([], [], []), ([], []), [(.inl (0 : Nat), (245 : Nat), ([], [], []))])
set_option maxRecDepth 100000 in
theorem p2_s1614_s {X : Int → Int} {LX : Nat} : ck_Ok p2_O X LX 225 p2_s1614 := ck_okq (cuts := []) (f := 76) ⟨p2_nmu, ck_E1 (ck_S1 p2_s251_s ck_S0) ck_E0⟩ (by decide +kernel)
set_option maxRecDepth 100000 in
/-- GlacierMailModel.streams -/
noncomputable def p2_s1616 : ck_Sum := (((2 : Nat), (0 : Nat), (0 : Nat)), (245 : Nat), [.inr (.inr (.inl (226 : Nat))), .inl ((-2147483648 : Int), (-1 : Int), []), .inl ((0 : Int), (1 : Int), [])], ([], [], []), ([((226 : Nat), (0 : Int), (0 : Int))], []), [(.inr (some (.inl (ck_one 0))), (245 : Nat), ([], [], [((226 : Nat), (0 : Int), (0 : Int), ck_one 1)]))])
set_option maxRecDepth 100000 in
theorem p2_s1616_s {X : Int → Int} {LX : Nat} : ck_Ok p2_O X LX 363 p2_s1616 := ck_okq (cuts := []) (f := 92) ⟨p2_nmu, ck_E1 (ck_S1 p2_s257_s ck_S0) (ck_E1 (ck_S1 p2_s241_s ck_S0) ck_E0)⟩ (by decide +kernel)
set_option maxRecDepth 100000 in
/-- GlacierMailModel.streams -/
noncomputable def p2_s1617 : ck_Sum := (((2 : Nat), (0 : Nat), (0 : Nat)), (245 : Nat), [.inr (.inr (.inl (226 : Nat))), .inl ((300 : Int), (2147483647 : Int), []), .inl ((0 : Int), (1 : Int), [])], ([], [], []), ([((226 : Nat), (0 : Int), (0 : Int))], []), [(.inr (some (.inl (ck_one 0))), (245 : Nat), ([], [], [((226 : Nat), (0 : Int), (0 : Int), ck_one 1)]))])
set_option maxRecDepth 100000 in
theorem p2_s1617_s {X : Int → Int} {LX : Nat} : ck_Ok p2_O X LX 363 p2_s1617 := ck_okq (cuts := []) (f := 92) ⟨p2_nmu, ck_E1 (ck_S1 p2_s260_s ck_S0) (ck_E1 (ck_S1 p2_s241_s ck_S0) ck_E0)⟩ (by decide +kernel)
set_option maxRecDepth 100000 in
/-- GlacierMail.range -/
noncomputable def p2_s1619 : ck_Sum := (((8 : Nat), (1 : Nat), (6 : Nat)), (245 : Nat), [.inr (.inr (.inl (1 : Nat))), .inl ((-2147483648 : Int), (-1 : Int), []), .inl ((-2147483648 : Int), (2147483647 : Int), [])], ([], [], []), ([], []), [(.inl (3 : Nat), (245 : Nat), ([], [], []))])
set_option maxRecDepth 100000 in
theorem p2_s1619_s {X : Int → Int} {LX : Nat} : ck_Ok p2_O X LX 227 p2_s1619 := ck_okq (cuts := []) (f := 76) ⟨p2_nmu, ck_E1 (ck_S1 p2_s266_s ck_S0) ck_E0⟩ (by decide +kernel)
set_option maxRecDepth 100000 in
/-- GlacierMail.range -/
noncomputable def p2_s1620 : ck_Sum := (((8 : Nat), (1 : Nat), (6 : Nat)), (245 : Nat), [.inr (.inr (.inl (1 : Nat))), .inl ((6 : Int), (2147483647 : Int), []), .inl ((-2147483648 : Int), (2147483647 : Int), [])], ([], [], []), ([], []), [(.inl (3 : Nat), (245 : Nat), ([], [], []))])
set_option maxRecDepth 100000 in
theorem p2_s1620_s {X : Int → Int} {LX : Nat} : ck_Ok p2_O X LX 227 p2_s1620 := ck_okq (cuts := []) (f := 76) ⟨p2_nmu, ck_E1 (ck_S1 p2_s269_s ck_S0) ck_E0⟩ (by decide +kernel)
set_option maxRecDepth 100000 in
/-- GlacierMail.range -/
noncomputable def p2_s1621 : ck_Sum := (((8 : Nat), (2 : Nat), (12 : Nat)), (245 : Nat), [.inr (.inr (.inl (1 : Nat))), .inl ((0 : Int), (5 : Int), []), .inl ((-2147483648 : Int), (-1 : Int), [])], ([], [], []), ([], []), [(.inl (3 : Nat), (245 : Nat), ([], [], [])), (.inl (0 : Nat), (245 : Nat), ([], [], []))])
set_option maxRecDepth 100000 in
theorem p2_s1621_s {X : Int → Int} {LX : Nat} : ck_Ok p2_O X LX 227 p2_s1621 := ck_okq (cuts := []) (f := 82) ⟨p2_nmu, ck_E1 (ck_S1 p2_s272_s ck_S0) (ck_E1 (ck_S1 p2_s249_s ck_S0) ck_E0)⟩ (by decide +kernel)
set_option maxRecDepth 100000 in
/-- GlacierMail.range -/
noncomputable def p2_s1622 : ck_Sum := (((8 : Nat), (2 : Nat), (12 : Nat)), (245 : Nat), [.inr (.inr (.inl (1 : Nat))), .inl ((0 : Int), (5 : Int), []), .inl ((300 : Int), (2147483647 : Int), [])], ([], [], []), ([], []), [(.inl (3 : Nat), (245 : Nat), ([], [], [])), (.inl (0 : Nat), (245 : Nat), ([], [], []))])
set_option maxRecDepth 100000 in
theorem p2_s1622_s {X : Int → Int} {LX : Nat} : ck_Ok p2_O X LX 227 p2_s1622 := ck_okq (cuts := []) (f := 82) ⟨p2_nmu, ck_E1 (ck_S1 p2_s272_s ck_S0) (ck_E1 (ck_S1 p2_s251_s ck_S0) ck_E0)⟩ (by decide +kernel)
set_option maxRecDepth 100000 in
/-- GlacierMail.range -/
noncomputable def p2_s1623 : ck_Sum := (((8 : Nat), (1 : Nat), (6 : Nat)), (245 : Nat), [.inr (.inr (.inl (1 : Nat))), .inl ((0 : Int), (5 : Int), []), .inl ((0 : Int), (299 : Int), [])], ([], [((3 : Nat), (8 : Int), (0 : Nat))], []), ([((206 : Nat), (2 : Int), (8 : Int))], []), [(.inl (3 : Nat), (245 : Nat), ([], [], [])), (.inr (some (.inl ((-2147483648 : Int), (2147483647 : Int), []))), (245 : Nat), ([], [], [((206 : Nat), (4 : Int), (4 : Int), ck_one (-1))]))])
set_option maxRecDepth 100000 in
theorem p2_s1623_s {X : Int → Int} {LX : Nat} : ck_Ok p2_O X LX 227 p2_s1623 := ck_okq (cuts := []) (f := 120) ⟨p2_nmu, ck_E1 (ck_S1 p2_s272_s ck_S0) (ck_E1 (ck_S1 p2_s253_s ck_S0) (ck_E1 (ck_S1 p2_s1313_s ck_S0) (ck_E1 (ck_S1 p2_s346_s ck_S0) ck_E0)))⟩ (by decide +kernel)
set_option maxRecDepth 100000 in
/-- GlacierMailModel.range -/
noncomputable def p2_s1624 : ck_Sum := (((2 : Nat), (0 : Nat), (0 : Nat)), (245 : Nat), [.inr (.inr (.inl (226 : Nat))), .inl ((-2147483648 : Int), (-1 : Int), []), .inl ((-2147483648 : Int), (2147483647 : Int), [])], ([], [], []), ([((226 : Nat), (0 : Int), (0 : Int))], []), [(.inr (some (.inl (ck_one 0))), (245 : Nat), ([], [], [((226 : Nat), (0 : Int), (0 : Int), ck_one 1)]))])
set_option maxRecDepth 100000 in
theorem p2_s1624_s {X : Int → Int} {LX : Nat} : ck_Ok p2_O X LX 364 p2_s1624 := ck_okq (cuts := []) (f := 94) ⟨p2_nmu, ck_E1 (ck_S1 p2_s284_s ck_S0) (ck_E1 (ck_S1 p2_s241_s ck_S0) ck_E0)⟩ (by decide +kernel)
set_option maxRecDepth 100000 in
/-- GlacierMailModel.range -/
noncomputable def p2_s1625 : ck_Sum := (((2 : Nat), (0 : Nat), (0 : Nat)), (245 : Nat), [.inr (.inr (.inl (226 : Nat))), .inl ((6 : Int), (2147483647 : Int), []), .inl ((-2147483648 : Int), (2147483647 : Int), [])], ([], [], []), ([((226 : Nat), (0 : Int), (0 : Int))], []), [(.inr (some (.inl (ck_one 0))), (245 : Nat), ([], [], [((226 : Nat), (0 : Int), (0 : Int), ck_one 1)]))])
set_option maxRecDepth 100000 in
theorem p2_s1625_s {X : Int → Int} {LX : Nat} : ck_Ok p2_O X LX 364 p2_s1625 := ck_okq (cuts := []) (f := 94) ⟨p2_nmu, ck_E1 (ck_S1 p2_s287_s ck_S0) (ck_E1 (ck_S1 p2_s241_s ck_S0) ck_E0)⟩ (by decide +kernel)
set_option maxRecDepth 100000 in
/-- GlacierMailModel.range -/
noncomputable def p2_s1626 : ck_Sum := (((2 : Nat), (0 : Nat), (0 : Nat)), (245 : Nat), [.inr (.inr (.inl (226 : Nat))), .inl ((0 : Int), (5 : Int), []), .inl ((-2147483648 : Int), (-1 : Int), [])], ([], [], []), ([((226 : Nat), (0 : Int), (0 : Int))], []), [(.inr (some (.inl (ck_one 0))), (245 : Nat), ([], [], [((226 : Nat), (0 : Int), (0 : Int), ((1 : Int), (2 : Int), []))]))])
set_option maxRecDepth 100000 in
theorem p2_s1626_s {X : Int → Int} {LX : Nat} : ck_Ok p2_O X LX 364 p2_s1626 := ck_okq (cuts := []) (f := 106) ⟨p2_nmu, ck_E1 (ck_S1 p2_s290_s ck_S0) (ck_E1 (ck_S1 p2_s241_s (ck_S1 p2_s242_s (ck_S1 p2_s244_s ck_S0))) (ck_E1 (ck_S1 p2_s257_s ck_S0) ck_E0))⟩ (by decide +kernel)
set_option maxRecDepth 100000 in
/-- GlacierMailModel.range -/
noncomputable def p2_s1627 : ck_Sum := (((2 : Nat), (0 : Nat), (0 : Nat)), (245 : Nat), [.inr (.inr (.inl (226 : Nat))), .inl ((0 : Int), (5 : Int), []), .inl ((300 : Int), (2147483647 : Int), [])], ([], [], []), ([((226 : Nat), (0 : Int), (0 : Int))], []), [(.inr (some (.inl (ck_one 0))), (245 : Nat), ([], [], [((226 : Nat), (0 : Int), (0 : Int), ((1 : Int), (2 : Int), []))]))])
set_option maxRecDepth 100000 in
theorem p2_s1627_s {X : Int → Int} {LX : Nat} : ck_Ok p2_O X LX 364 p2_s1627 := ck_okq (cuts := []) (f := 106) ⟨p2_nmu, ck_E1 (ck_S1 p2_s290_s ck_S0) (ck_E1 (ck_S1 p2_s241_s (ck_S1 p2_s242_s (ck_S1 p2_s244_s ck_S0))) (ck_E1 (ck_S1 p2_s260_s ck_S0) ck_E0))⟩ (by decide +kernel)
set_option maxRecDepth 100000 in
/-- GlacierMail.swiftest -/
noncomputable def p2_s1629 : ck_Sum := (((8 : Nat), (1 : Nat), (6 : Nat)), (245 : Nat), [.inr (.inr (.inl (1 : Nat))), .inl ((-2147483648 : Int), (-1 : Int), []), .inl ((-2147483648 : Int), (2147483647 : Int), [])], ([], [], []), ([], []), [(.inl (3 : Nat), (245 : Nat), ([], [], []))])
set_option maxRecDepth 100000 in
theorem p2_s1629_s {X : Int → Int} {LX : Nat} : ck_Ok p2_O X LX 229 p2_s1629 := ck_okq (cuts := []) (f := 76) ⟨p2_nmu, ck_E1 (ck_S1 p2_s274_s ck_S0) ck_E0⟩ (by decide +kernel)
set_option maxRecDepth 100000 in
/-- GlacierMail.swiftest -/
noncomputable def p2_s1630 : ck_Sum := (((8 : Nat), (1 : Nat), (6 : Nat)), (245 : Nat), [.inr (.inr (.inl (1 : Nat))), .inl ((99 : Int), (2147483647 : Int), []), .inl ((-2147483648 : Int), (2147483647 : Int), [])], ([], [], []), ([], []), [(.inl (3 : Nat), (245 : Nat), ([], [], []))])
set_option maxRecDepth 100000 in
theorem p2_s1630_s {X : Int → Int} {LX : Nat} : ck_Ok p2_O X LX 229 p2_s1630 := ck_okq (cuts := []) (f := 76) ⟨p2_nmu, ck_E1 (ck_S1 p2_s277_s ck_S0) ck_E0⟩ (by decide +kernel)
set_option maxRecDepth 100000 in
/-- GlacierMail.swiftest -/
noncomputable def p2_s1631 : ck_Sum := (((8 : Nat), (2 : Nat), (12 : Nat)), (245 : Nat), [.inr (.inr (.inl (1 : Nat))), .inl ((0 : Int), (98 : Int), []), .inl ((-2147483648 : Int), (-1 : Int), [])], ([], [], []), ([], []), [(.inl (3 : Nat), (245 : Nat), ([], [], [])), (.inl (0 : Nat), (245 : Nat), ([], [], []))])
set_option maxRecDepth 100000 in
theorem p2_s1631_s {X : Int → Int} {LX : Nat} : ck_Ok p2_O X LX 229 p2_s1631 := ck_okq (cuts := []) (f := 82) ⟨p2_nmu, ck_E1 (ck_S1 p2_s280_s ck_S0) (ck_E1 (ck_S1 p2_s249_s ck_S0) ck_E0)⟩ (by decide +kernel)
set_option maxRecDepth 100000 in
/-- GlacierMail.swiftest -/
noncomputable def p2_s1632 : ck_Sum := (((8 : Nat), (2 : Nat), (12 : Nat)), (245 : Nat), [.inr (.inr (.inl (1 : Nat))), .inl ((0 : Int), (98 : Int), []), .inl ((300 : Int), (2147483647 : Int), [])], ([], [], []), ([], []), [(.inl (3 : Nat), (245 : Nat), ([], [], [])), (.inl (0 : Nat), (245 : Nat), ([], [], []))])
set_option maxRecDepth 100000 in
theorem p2_s1632_s {X : Int → Int} {LX : Nat} : ck_Ok p2_O X LX 229 p2_s1632 := ck_okq (cuts := []) (f := 82) ⟨p2_nmu, ck_E1 (ck_S1 p2_s280_s ck_S0) (ck_E1 (ck_S1 p2_s251_s ck_S0) ck_E0)⟩ (by decide +kernel)
set_option maxRecDepth 100000 in
/-- GlacierMail.swiftest -/
noncomputable def p2_s1633 : ck_Sum := (((8 : Nat), (1 : Nat), (6 : Nat)), (245 : Nat), [.inr (.inr (.inl (1 : Nat))), .inl ((0 : Int), (98 : Int), []), .inl ((0 : Int), (299 : Int), [])], ([], [((3 : Nat), (8 : Int), (0 : Nat))], []), ([((206 : Nat), (2 : Int), (8 : Int))], []), [(.inl (3 : Nat), (245 : Nat), ([], [], [])), (.inr (some (.inl ((-1 : Int), (5 : Int), []))), (245 : Nat), ([], [], []))])
set_option maxRecDepth 100000 in
theorem p2_s1633_s {X : Int → Int} {LX : Nat} : ck_Ok p2_O X LX 229 p2_s1633 := ck_okq (cuts := [((20 : Nat), [some (.inr (.inr (.inl (1 : Nat)))), some (.inl ((0 : Int), (98 : Int), [])), some (.inl ((0 : Int), (299 : Int), [])), some (.inl ((-1 : Int), (5 : Int), [])), some (.inl ((-2147483648 : Int), (300 : Int), [])), some (.inl ((0 : Int), (6 : Int), [])), none], ([], [((3 : Nat), (8 : Int), (0 : Nat))], []), (100 : Nat), .inl (5 : Nat), true)]) (f := 210) ⟨p2_nmu, ck_E1 (ck_S1 p2_s280_s ck_S0) (ck_E1 (ck_S1 p2_s253_s ck_S0) (ck_E1 (ck_S1 p2_s1313_s ck_S0) (ck_E1 (ck_S1 p2_s346_s ck_S0) ck_E0)))⟩ (by decide +kernel)
set_option maxRecDepth 100000 in
/-- GlacierMailModel.swiftest -/
noncomputable def p2_s1634 : ck_Sum := (((2 : Nat), (0 : Nat), (0 : Nat)), (245 : Nat), [.inr (.inr (.inl (226 : Nat))), .inl ((-2147483648 : Int), (-1 : Int), []), .inl ((-2147483648 : Int), (2147483647 : Int), [])], ([], [], []), ([((226 : Nat), (0 : Int), (0 : Int))], []), [(.inr (some (.inl (ck_one 0))), (245 : Nat), ([], [], [((226 : Nat), (0 : Int), (0 : Int), ck_one 1)]))])
set_option maxRecDepth 100000 in
theorem p2_s1634_s {X : Int → Int} {LX : Nat} : ck_Ok p2_O X LX 365 p2_s1634 := ck_okq (cuts := []) (f := 94) ⟨p2_nmu, ck_E1 (ck_S1 p2_s292_s ck_S0) (ck_E1 (ck_S1 p2_s241_s ck_S0) ck_E0)⟩ (by decide +kernel)
set_option maxRecDepth 100000 in
/-- GlacierMailModel.swiftest -/
noncomputable def p2_s1635 : ck_Sum := (((2 : Nat), (0 : Nat), (0 : Nat)), (245 : Nat), [.inr (.inr (.inl (226 : Nat))), .inl ((99 : Int), (2147483647 : Int), []), .inl ((-2147483648 : Int), (2147483647 : Int), [])], ([], [], []), ([((226 : Nat), (0 : Int), (0 : Int))], []), [(.inr (some (.inl (ck_one 0))), (245 : Nat), ([], [], [((226 : Nat), (0 : Int), (0 : Int), ck_one 1)]))])
set_option maxRecDepth 100000 in
theorem p2_s1635_s {X : Int → Int} {LX : Nat} : ck_Ok p2_O X LX 365 p2_s1635 := ck_okq (cuts := []) (f := 94) ⟨p2_nmu, ck_E1 (ck_S1 p2_s295_s ck_S0) (ck_E1 (ck_S1 p2_s241_s ck_S0) ck_E0)⟩ (by decide +kernel)
set_option maxRecDepth 100000 in
/-- GlacierMailModel.swiftest -/
noncomputable def p2_s1636 : ck_Sum := (((2 : Nat), (0 : Nat), (0 : Nat)), (245 : Nat), [.inr (.inr (.inl (226 : Nat))), .inl ((0 : Int), (98 : Int), []), .inl ((-2147483648 : Int), (-1 : Int), [])], ([], [], []), ([((226 : Nat), (0 : Int), (0 : Int))], []), [(.inr (some (.inl (ck_one 0))), (245 : Nat), ([], [], [((226 : Nat), (0 : Int), (0 : Int), ((1 : Int), (2 : Int), []))]))])
set_option maxRecDepth 100000 in
theorem p2_s1636_s {X : Int → Int} {LX : Nat} : ck_Ok p2_O X LX 365 p2_s1636 := ck_okq (cuts := []) (f := 106) ⟨p2_nmu, ck_E1 (ck_S1 p2_s298_s ck_S0) (ck_E1 (ck_S1 p2_s241_s (ck_S1 p2_s242_s (ck_S1 p2_s244_s ck_S0))) (ck_E1 (ck_S1 p2_s257_s ck_S0) ck_E0))⟩ (by decide +kernel)
set_option maxRecDepth 100000 in
/-- GlacierMailModel.swiftest -/
noncomputable def p2_s1637 : ck_Sum := (((2 : Nat), (0 : Nat), (0 : Nat)), (245 : Nat), [.inr (.inr (.inl (226 : Nat))), .inl ((0 : Int), (98 : Int), []), .inl ((300 : Int), (2147483647 : Int), [])], ([], [], []), ([((226 : Nat), (0 : Int), (0 : Int))], []), [(.inr (some (.inl (ck_one 0))), (245 : Nat), ([], [], [((226 : Nat), (0 : Int), (0 : Int), ((1 : Int), (2 : Int), []))]))])
set_option maxRecDepth 100000 in
theorem p2_s1637_s {X : Int → Int} {LX : Nat} : ck_Ok p2_O X LX 365 p2_s1637 := ck_okq (cuts := []) (f := 106) ⟨p2_nmu, ck_E1 (ck_S1 p2_s298_s ck_S0) (ck_E1 (ck_S1 p2_s241_s (ck_S1 p2_s242_s (ck_S1 p2_s244_s ck_S0))) (ck_E1 (ck_S1 p2_s260_s ck_S0) ck_E0))⟩ (by decide +kernel)
set_option maxRecDepth 100000 in
/-- GlacierMail.bare -/
noncomputable def p2_s1639 : ck_Sum := (((7 : Nat), (1 : Nat), (6 : Nat)), (245 : Nat), [.inr (.inr (.inl (1 : Nat))), .inl ((-2147483648 : Int), (-1 : Int), [])], ([], [], []), ([], []), [(.inl (0 : Nat), (245 : Nat), ([], [], []))])
set_option maxRecDepth 100000 in
theorem p2_s1639_s {X : Int → Int} {LX : Nat} : ck_Ok p2_O X LX 231 p2_s1639 := ck_okq (cuts := []) (f := 76) ⟨p2_nmu, ck_E1 (ck_S1 p2_s249_s ck_S0) ck_E0⟩ (by decide +kernel)
set_option maxRecDepth 100000 in
/-- GlacierMail.bare -/
noncomputable def p2_s1640 : ck_Sum := (((7 : Nat), (1 : Nat), (6 : Nat)), (245 : Nat), [.inr (.inr (.inl (1 : Nat))), .inl ((300 : Int), (2147483647 : Int), [])], ([], [], []), ([], []), [(.inl (0 : Nat), (245 : Nat), ([], [], []))])
set_option maxRecDepth 100000 in
theorem p2_s1640_s {X : Int → Int} {LX : Nat} : ck_Ok p2_O X LX 231 p2_s1640 := ck_okq (cuts := []) (f := 76) ⟨p2_nmu, ck_E1 (ck_S1 p2_s251_s ck_S0) ck_E0⟩ (by decide +kernel)
set_option maxRecDepth 100000 in
/-- GlacierMail.bare -/
noncomputable def p2_s1641 : ck_Sum := (((4 : Nat), (0 : Nat), (0 : Nat)), (245 : Nat), [.inr (.inr (.inl (1 : Nat))), .inl ((0 : Int), (299 : Int), [])], ([], [((3 : Nat), (8 : Int), (0 : Nat))], []), ([((206 : Nat), (2 : Int), (8 : Int))], []), [(.inr (some (.inl ((-2147483648 : Int), (2147483647 : Int), []))), (245 : Nat), ([], [], []))])
set_option maxRecDepth 100000 in
theorem p2_s1641_s {X : Int → Int} {LX : Nat} : ck_Ok p2_O X LX 231 p2_s1641 := ck_okq (cuts := [((9 : Nat), [some (.inr (.inr (.inl (1 : Nat)))), some (.inl ((0 : Int), (299 : Int), [])), some (.inl ((-2147483648 : Int), (2147483647 : Int), [])), some (.inl ((0 : Int), (24 : Int), []))], ([], [((3 : Nat), (8 : Int), (0 : Nat))], []), (100 : Nat), .inl (3 : Nat), true)]) (f := 246) ⟨p2_nmu, ck_E1 (ck_S1 p2_s253_s ck_S0) (ck_E1 (ck_S1 p2_s331_s ck_S0) (ck_E1 (ck_S1 p2_s335_s ck_S0) (ck_E1 (ck_S1 p2_s339_s ck_S0) (ck_E1 (ck_S1 p2_s421_s ck_S0) (ck_E1 (ck_S1 p2_s340_s ck_S0) ck_E0)))))⟩ (by decide +kernel)
set_option maxRecDepth 100000 in
/-- GlacierMailModel.bare -/
noncomputable def p2_s1642 : ck_Sum := (((2 : Nat), (0 : Nat), (0 : Nat)), (245 : Nat), [.inr (.inr (.inl (226 : Nat))), .inl ((-2147483648 : Int), (-1 : Int), [])], ([], [], []), ([((226 : Nat), (0 : Int), (0 : Int))], []), [(.inr (some (.inl (ck_one 0))), (245 : Nat), ([], [], [((226 : Nat), (0 : Int), (0 : Int), ck_one 1)]))])
set_option maxRecDepth 100000 in
theorem p2_s1642_s {X : Int → Int} {LX : Nat} : ck_Ok p2_O X LX 366 p2_s1642 := ck_okq (cuts := []) (f := 92) ⟨p2_nmu, ck_E1 (ck_S1 p2_s257_s ck_S0) (ck_E1 (ck_S1 p2_s241_s ck_S0) ck_E0)⟩ (by decide +kernel)
set_option maxRecDepth 100000 in
/-- GlacierMailModel.bare -/
noncomputable def p2_s1643 : ck_Sum := (((2 : Nat), (0 : Nat), (0 : Nat)), (245 : Nat), [.inr (.inr (.inl (226 : Nat))), .inl ((300 : Int), (2147483647 : Int), [])], ([], [], []), ([((226 : Nat), (0 : Int), (0 : Int))], []), [(.inr (some (.inl (ck_one 0))), (245 : Nat), ([], [], [((226 : Nat), (0 : Int), (0 : Int), ck_one 1)]))])
set_option maxRecDepth 100000 in
theorem p2_s1643_s {X : Int → Int} {LX : Nat} : ck_Ok p2_O X LX 366 p2_s1643 := ck_okq (cuts := []) (f := 92) ⟨p2_nmu, ck_E1 (ck_S1 p2_s260_s ck_S0) (ck_E1 (ck_S1 p2_s241_s ck_S0) ck_E0)⟩ (by decide +kernel)
set_option maxRecDepth 100000 in
/-- GlacierMail$Rows.get -/
noncomputable def p2_s1645 : ck_Sum := (((0 : Nat), (0 : Nat), (0 : Nat)), (245 : Nat), [.inr (.inr (.inl (14 : Nat))), .inl ((-2147483648 : Int), (2147483647 : Int), []), .inl ((-2147483648 : Int), (2147483647 : Int), [])], ([], [], []), ([], []), [(.inr (some (.inl ((-1 : Int), (299 : Int), []))), (245 : Nat), ([], [], []))])
set_option maxRecDepth 100000 in
theorem p2_s1645_s {X : Int → Int} {LX : Nat} : ck_Ok p2_O X LX 10 p2_s1645 := ck_okq (cuts := []) (f := 114) ⟨p2_nmu, ck_E0⟩ (by decide +kernel)
set_option maxRecDepth 100000 in
/-- GlacierMail.log -/
noncomputable def p2_s1646 : ck_Sum := (((6 : Nat), (1 : Nat), (6 : Nat)), (245 : Nat), [.inr (.inr (.inl (1 : Nat))), .inl ((-2147483648 : Int), (-1 : Int), []), .inl ((-2147483648 : Int), (2147483647 : Int), [])], ([], [], []), ([], []), [(.inl (4 : Nat), (245 : Nat), ([], [], [])), (.inr (some (.inl ((-1 : Int), (299 : Int), []))), (245 : Nat), ([], [], []))])
set_option maxRecDepth 100000 in
theorem p2_s1646_s {X : Int → Int} {LX : Nat} : ck_Ok p2_O X LX 233 p2_s1646 := ck_okq (cuts := []) (f := 94) ⟨p2_nmu, ck_E1 (ck_S1 p2_s1645_s ck_S0) ck_E0⟩ (by decide +kernel)
set_option maxRecDepth 100000 in
/-- GlacierMail.log -/
noncomputable def p2_s1647 : ck_Sum := (((6 : Nat), (1 : Nat), (6 : Nat)), (245 : Nat), [.inr (.inr (.inl (1 : Nat))), .inl ((24 : Int), (2147483647 : Int), []), .inl ((-2147483648 : Int), (2147483647 : Int), [])], ([], [], []), ([], []), [(.inl (4 : Nat), (245 : Nat), ([], [], [])), (.inr (some (.inl ((-1 : Int), (299 : Int), []))), (245 : Nat), ([], [], []))])
set_option maxRecDepth 100000 in
theorem p2_s1647_s {X : Int → Int} {LX : Nat} : ck_Ok p2_O X LX 233 p2_s1647 := ck_okq (cuts := []) (f := 94) ⟨p2_nmu, ck_E1 (ck_S1 p2_s1645_s ck_S0) ck_E0⟩ (by decide +kernel)
set_option maxRecDepth 100000 in
/-- GlacierMail.log -/
noncomputable def p2_s1648 : ck_Sum := (((6 : Nat), (1 : Nat), (6 : Nat)), (245 : Nat), [.inr (.inr (.inl (1 : Nat))), .inl ((0 : Int), (23 : Int), []), .inl ((-2147483648 : Int), (-1 : Int), [])], ([], [], []), ([], []), [(.inl (4 : Nat), (245 : Nat), ([], [], []))])
set_option maxRecDepth 100000 in
theorem p2_s1648_s {X : Int → Int} {LX : Nat} : ck_Ok p2_O X LX 233 p2_s1648 := ck_okq (cuts := []) (f := 76) ⟨p2_nmu, ck_E0⟩ (by decide +kernel)
set_option maxRecDepth 100000 in
/-- GlacierMail.log -/
noncomputable def p2_s1649 : ck_Sum := (((6 : Nat), (1 : Nat), (6 : Nat)), (245 : Nat), [.inr (.inr (.inl (1 : Nat))), .inl ((0 : Int), (23 : Int), []), .inl ((10 : Int), (2147483647 : Int), [])], ([], [], []), ([], []), [(.inl (4 : Nat), (245 : Nat), ([], [], []))])
set_option maxRecDepth 100000 in
theorem p2_s1649_s {X : Int → Int} {LX : Nat} : ck_Ok p2_O X LX 233 p2_s1649 := ck_okq (cuts := []) (f := 82) ⟨p2_nmu, ck_E0⟩ (by decide +kernel)
set_option maxRecDepth 100000 in
/-- GlacierMail.log -/
noncomputable def p2_s1650 : ck_Sum := (((6 : Nat), (1 : Nat), (6 : Nat)), (245 : Nat), [.inr (.inr (.inl (1 : Nat))), .inl ((0 : Int), (23 : Int), []), .inl ((0 : Int), (9 : Int), [])], ([], [], []), ([], []), [(.inr (some (.inl ((-1 : Int), (299 : Int), []))), (245 : Nat), ([], [], [])), (.inl (4 : Nat), (245 : Nat), ([], [], []))])
set_option maxRecDepth 100000 in
theorem p2_s1650_s {X : Int → Int} {LX : Nat} : ck_Ok p2_O X LX 233 p2_s1650 := ck_okq (cuts := []) (f := 94) ⟨p2_nmu, ck_E1 (ck_S1 p2_s1645_s ck_S0) ck_E0⟩ (by decide +kernel)
set_option maxRecDepth 100000 in
/-- GlacierMailModel.in -/
noncomputable def p2_s1651 : ck_Sum := (((0 : Nat), (0 : Nat), (0 : Nat)), (245 : Nat), [.inl ((-2147483648 : Int), (2147483647 : Int), []), .inl (ck_one 0), .inl (ck_one 2)], ([], [], []), ([], []), [(.inr (some (.inl (ck_one 0))), (245 : Nat), ([], [], [])), (.inr (some (.inl (ck_one 1))), (245 : Nat), ([], [], []))])
set_option maxRecDepth 100000 in
theorem p2_s1651_s {X : Int → Int} {LX : Nat} : ck_Ok p2_O X LX 286 p2_s1651 := ck_okq (cuts := []) (f := 88) ⟨p2_nmu, ck_E0⟩ (by decide +kernel)
set_option maxRecDepth 100000 in
/-- GlacierMailModel.log -/
noncomputable def p2_s1652 : ck_Sum := (((1 : Nat), (0 : Nat), (0 : Nat)), (245 : Nat), [.inr (.inr (.inl (226 : Nat))), .inl ((-2147483648 : Int), (-1 : Int), []), .inl ((-2147483648 : Int), (2147483647 : Int), [])], ([], [], [((227 : Nat), (14 : Int), (14 : Int), ((0 : Int), (24 : Int), [((26 : Nat), (0 : Int))]))]), ([((226 : Nat), (0 : Int), (0 : Int))], []), [(.inr (some (.inl (ck_one 0))), (245 : Nat), ([], [], [((226 : Nat), (0 : Int), (0 : Int), ck_one 1)])), (.inr (some (.inl (ck_one (-1)))), (245 : Nat), ([], [], [((226 : Nat), (0 : Int), (0 : Int), ck_one 0)]))])
set_option maxRecDepth 100000 in
theorem p2_s1652_s {X : Int → Int} {LX : Nat} : ck_Ok p2_O X LX 367 p2_s1652 := ck_okq (cuts := []) (f := 120) ⟨p2_nmu, ck_E1 (ck_S1 p2_s1651_s (ck_S1 p2_s399_s ck_S0)) (ck_E1 (ck_S1 p2_s241_s (ck_S1 p2_s242_s ck_S0)) ck_E0)⟩ (by decide +kernel)
set_option maxRecDepth 100000 in
/-- GlacierMailModel.log -/
noncomputable def p2_s1653 : ck_Sum := (((1 : Nat), (0 : Nat), (0 : Nat)), (245 : Nat), [.inr (.inr (.inl (226 : Nat))), .inl ((24 : Int), (2147483647 : Int), []), .inl ((-2147483648 : Int), (2147483647 : Int), [])], ([], [], [((227 : Nat), (14 : Int), (14 : Int), ((0 : Int), (24 : Int), [((26 : Nat), (0 : Int))]))]), ([((226 : Nat), (0 : Int), (0 : Int))], []), [(.inr (some (.inl (ck_one 0))), (245 : Nat), ([], [], [((226 : Nat), (0 : Int), (0 : Int), ck_one 1)])), (.inr (some (.inl (ck_one (-1)))), (245 : Nat), ([], [], [((226 : Nat), (0 : Int), (0 : Int), ck_one 0)]))])
set_option maxRecDepth 100000 in
theorem p2_s1653_s {X : Int → Int} {LX : Nat} : ck_Ok p2_O X LX 367 p2_s1653 := ck_okq (cuts := []) (f := 120) ⟨p2_nmu, ck_E1 (ck_S1 p2_s1651_s (ck_S1 p2_s402_s ck_S0)) (ck_E1 (ck_S1 p2_s241_s (ck_S1 p2_s242_s ck_S0)) ck_E0)⟩ (by decide +kernel)
set_option maxRecDepth 100000 in
/-- GlacierMailModel.log -/
noncomputable def p2_s1654 : ck_Sum := (((1 : Nat), (0 : Nat), (0 : Nat)), (245 : Nat), [.inr (.inr (.inl (226 : Nat))), .inl ((0 : Int), (23 : Int), []), .inl ((-2147483648 : Int), (-1 : Int), [])], ([], [], []), ([((226 : Nat), (0 : Int), (0 : Int))], []), [(.inr (some (.inl (ck_one 0))), (245 : Nat), ([], [], [((226 : Nat), (0 : Int), (0 : Int), ck_one 1)]))])
set_option maxRecDepth 100000 in
theorem p2_s1654_s {X : Int → Int} {LX : Nat} : ck_Ok p2_O X LX 367 p2_s1654 := ck_okq (cuts := []) (f := 102) ⟨p2_nmu, ck_E1 (ck_S1 p2_s1321_s ck_S0) (ck_E1 (ck_S1 p2_s241_s ck_S0) ck_E0)⟩ (by decide +kernel)
set_option maxRecDepth 100000 in
/-- GlacierMailModel.log -/
noncomputable def p2_s1655 : ck_Sum := (((1 : Nat), (0 : Nat), (0 : Nat)), (245 : Nat), [.inr (.inr (.inl (226 : Nat))), .inl ((0 : Int), (23 : Int), []), .inl ((10 : Int), (2147483647 : Int), [])], ([], [], []), ([((226 : Nat), (0 : Int), (0 : Int))], []), [(.inr (some (.inl (ck_one 0))), (245 : Nat), ([], [], [((226 : Nat), (0 : Int), (0 : Int), ck_one 1)]))])
set_option maxRecDepth 100000 in
theorem p2_s1655_s {X : Int → Int} {LX : Nat} : ck_Ok p2_O X LX 367 p2_s1655 := ck_okq (cuts := []) (f := 102) ⟨p2_nmu, ck_E1 (ck_S1 p2_s1323_s ck_S0) (ck_E1 (ck_S1 p2_s241_s ck_S0) ck_E0)⟩ (by decide +kernel)
set_option maxRecDepth 100000 in
/-- GlacierMailModel.log -/
noncomputable def p2_s1656 : ck_Sum := (((1 : Nat), (0 : Nat), (0 : Nat)), (245 : Nat), [.inr (.inr (.inl (226 : Nat))), .inl ((0 : Int), (23 : Int), []), .inl ((0 : Int), (9 : Int), [])], ([], [], [((227 : Nat), (14 : Int), (14 : Int), ((0 : Int), (24 : Int), [((26 : Nat), (0 : Int))]))]), ([((226 : Nat), (0 : Int), (0 : Int))], []), [(.inr (some (.inl (ck_one 0))), (245 : Nat), ([], [], [((226 : Nat), (0 : Int), (0 : Int), ck_one 1)])), (.inr (some (.inl ((-1 : Int), (400 : Int), []))), (245 : Nat), ([], [], [((226 : Nat), (0 : Int), (0 : Int), ck_one 0)]))])
set_option maxRecDepth 100000 in
theorem p2_s1656_s {X : Int → Int} {LX : Nat} : ck_Ok p2_O X LX 367 p2_s1656 := ck_okq (cuts := []) (f := 140) ⟨p2_nmu, ck_E1 (ck_S1 p2_s1325_s (ck_S1 p2_s405_s ck_S0)) (ck_E1 (ck_S1 p2_s241_s (ck_S1 p2_s242_s ck_S0)) ck_E0)⟩ (by decide +kernel)
set_option maxRecDepth 100000 in
/-- GlacierMail$History.at -/
noncomputable def p2_s1657 : ck_Sum := (((0 : Nat), (0 : Nat), (0 : Nat)), (245 : Nat), [.inr (.inr (.inl (42 : Nat))), .inl ((0 : Int), (11 : Int), [])], ([], [], []), ([], []), [(.inr (some (.inr (.inr (.inl (44 : Nat))))), (245 : Nat), ([], [], [])), (.inr (some (.inr (.inr (.inl (187 : Nat))))), (245 : Nat), ([], [], [])), (.inr (some (.inr (.inr (.inl (174 : Nat))))), (245 : Nat), ([], [], [])), (.inr (some (.inr (.inr (.inl (161 : Nat))))), (245 : Nat), ([], [], [])), (.inr (some (.inr (.inr (.inl (148 : Nat))))), (245 : Nat), ([], [], [])), (.inr (some (.inr (.inr (.inl (135 : Nat))))), (245 : Nat), ([], [], [])), (.inr (some (.inr (.inr (.inl (122 : Nat))))), (245 : Nat), ([], [], [])), (.inr (some (.inr (.inr (.inl (109 : Nat))))), (245 : Nat), ([], [], [])), (.inr (some (.inr (.inr (.inl (96 : Nat))))), (245 : Nat), ([], [], [])), (.inr (some (.inr (.inr (.inl (83 : Nat))))), (245 : Nat), ([], [], [])), (.inr (some (.inr (.inr (.inl (70 : Nat))))), (245 : Nat), ([], [], [])), (.inr (some (.inr (.inr (.inl (57 : Nat))))), (245 : Nat), ([], [], []))])
set_option maxRecDepth 100000 in
theorem p2_s1657_s {X : Int → Int} {LX : Nat} : ck_Ok p2_O X LX 56 p2_s1657 := ck_okq (cuts := []) (f := 96) ⟨p2_nmu, ck_E0⟩ (by decide +kernel)
set_option maxRecDepth 100000 in
/-- GlacierMail$Rows.copyFrom -/
noncomputable def p2_s1658 : ck_Sum := (((1 : Nat), (0 : Nat), (0 : Nat)), (245 : Nat), [.inr (.inr (.inl (4 : Nat))), .inr (.inr (.inl (45 : Nat)))], ([], [], []), ([((4 : Nat), (3 : Int), (3 : Int)), ((5 : Nat), (0 : Int), (55 : Int))], []), [(.inr none, (245 : Nat), ([], [], []))])
set_option maxRecDepth 100000 in
theorem p2_s1658_s {X : Int → Int} {LX : Nat} : ck_Ok p2_O X LX 58 p2_s1658 := ck_okq (cuts := []) (f := 114) ⟨p2_nmu, ck_E0⟩ (by decide +kernel)
set_option maxRecDepth 100000 in
/-- GlacierMail$Rows.copyFrom -/
noncomputable def p2_s1659 : ck_Sum := (((1 : Nat), (0 : Nat), (0 : Nat)), (245 : Nat), [.inr (.inr (.inl (6 : Nat))), .inr (.inr (.inl (47 : Nat)))], ([], [], []), ([((6 : Nat), (3 : Int), (3 : Int)), ((7 : Nat), (0 : Int), (23 : Int))], []), [(.inr none, (245 : Nat), ([], [], []))])
set_option maxRecDepth 100000 in
theorem p2_s1659_s {X : Int → Int} {LX : Nat} : ck_Ok p2_O X LX 58 p2_s1659 := ck_okq (cuts := []) (f := 114) ⟨p2_nmu, ck_E0⟩ (by decide +kernel)
set_option maxRecDepth 100000 in
/-- GlacierMail$Rows.copyFrom -/
noncomputable def p2_s1660 : ck_Sum := (((1 : Nat), (0 : Nat), (0 : Nat)), (245 : Nat), [.inr (.inr (.inl (8 : Nat))), .inr (.inr (.inl (49 : Nat)))], ([], [], []), ([((8 : Nat), (3 : Int), (3 : Int)), ((9 : Nat), (0 : Int), (23 : Int))], []), [(.inr none, (245 : Nat), ([], [], []))])
set_option maxRecDepth 100000 in
theorem p2_s1660_s {X : Int → Int} {LX : Nat} : ck_Ok p2_O X LX 58 p2_s1660 := ck_okq (cuts := []) (f := 114) ⟨p2_nmu, ck_E0⟩ (by decide +kernel)
set_option maxRecDepth 100000 in
/-- GlacierMail$Rows.copyFrom -/
noncomputable def p2_s1661 : ck_Sum := (((1 : Nat), (0 : Nat), (0 : Nat)), (245 : Nat), [.inr (.inr (.inl (10 : Nat))), .inr (.inr (.inl (51 : Nat)))], ([], [], []), ([((10 : Nat), (3 : Int), (3 : Int)), ((11 : Nat), (0 : Int), (167 : Int))], []), [(.inr none, (245 : Nat), ([], [], []))])
set_option maxRecDepth 100000 in
theorem p2_s1661_s {X : Int → Int} {LX : Nat} : ck_Ok p2_O X LX 58 p2_s1661 := ck_okq (cuts := []) (f := 114) ⟨p2_nmu, ck_E0⟩ (by decide +kernel)
set_option maxRecDepth 100000 in
/-- GlacierMail$Rows.copyFrom -/
noncomputable def p2_s1662 : ck_Sum := (((1 : Nat), (0 : Nat), (0 : Nat)), (245 : Nat), [.inr (.inr (.inl (12 : Nat))), .inr (.inr (.inl (53 : Nat)))], ([], [], []), ([((12 : Nat), (3 : Int), (3 : Int)), ((13 : Nat), (0 : Int), (35 : Int))], []), [(.inr none, (245 : Nat), ([], [], []))])
set_option maxRecDepth 100000 in
theorem p2_s1662_s {X : Int → Int} {LX : Nat} : ck_Ok p2_O X LX 58 p2_s1662 := ck_okq (cuts := []) (f := 114) ⟨p2_nmu, ck_E0⟩ (by decide +kernel)
set_option maxRecDepth 100000 in
/-- GlacierMail$Rows.copyFrom -/
noncomputable def p2_s1663 : ck_Sum := (((1 : Nat), (0 : Nat), (0 : Nat)), (245 : Nat), [.inr (.inr (.inl (14 : Nat))), .inr (.inr (.inl (55 : Nat)))], ([], [], []), ([((14 : Nat), (3 : Int), (3 : Int)), ((15 : Nat), (0 : Int), (71 : Int))], []), [(.inr none, (245 : Nat), ([], [], []))])
set_option maxRecDepth 100000 in
theorem p2_s1663_s {X : Int → Int} {LX : Nat} : ck_Ok p2_O X LX 58 p2_s1663 := ck_okq (cuts := []) (f := 114) ⟨p2_nmu, ck_E0⟩ (by decide +kernel)
set_option maxRecDepth 100000 in
/-- GlacierMail$State.copyFrom -/
noncomputable def p2_s1664 : ck_Sum := (((2 : Nat), (0 : Nat), (0 : Nat)), (245 : Nat), [.inr (.inr (.inl (3 : Nat))), .inr (.inr (.inl (44 : Nat)))], ([], [((3 : Nat), (8 : Int), (0 : Nat)), ((44 : Nat), (8 : Int), (100044 : Nat))], []), (zl1, [((3 : Nat), (8 : Int))]), [(.inr none, (245 : Nat), ([], [((3 : Nat), (8 : Int), (100044 : Nat))], []))])
set_option maxRecDepth 100000 in
theorem p2_s1664_s {X : Int → Int} {LX : Nat} : ck_Ok p2_O X LX 57 p2_s1664 := ck_okq (cuts := []) (f := 204) ⟨p2_nmu, ck_E1 (ck_S1 p2_s1658_s (ck_S1 p2_s1659_s (ck_S1 p2_s1660_s (ck_S1 p2_s1661_s (ck_S1 p2_s1662_s (ck_S1 p2_s1663_s ck_S0)))))) ck_E0⟩ (by decide +kernel)
set_option maxRecDepth 100000 in
/-- GlacierMail$Rows.copyFrom -/
noncomputable def p2_s1665 : ck_Sum := (((1 : Nat), (0 : Nat), (0 : Nat)), (245 : Nat), [.inr (.inr (.inl (4 : Nat))), .inr (.inr (.inl (58 : Nat)))], ([], [], []), ([((4 : Nat), (3 : Int), (3 : Int)), ((5 : Nat), (0 : Int), (55 : Int))], []), [(.inr none, (245 : Nat), ([], [], []))])
set_option maxRecDepth 100000 in
theorem p2_s1665_s {X : Int → Int} {LX : Nat} : ck_Ok p2_O X LX 58 p2_s1665 := ck_okq (cuts := []) (f := 114) ⟨p2_nmu, ck_E0⟩ (by decide +kernel)
set_option maxRecDepth 100000 in
/-- GlacierMail$Rows.copyFrom -/
noncomputable def p2_s1666 : ck_Sum := (((1 : Nat), (0 : Nat), (0 : Nat)), (245 : Nat), [.inr (.inr (.inl (6 : Nat))), .inr (.inr (.inl (60 : Nat)))], ([], [], []), ([((6 : Nat), (3 : Int), (3 : Int)), ((7 : Nat), (0 : Int), (23 : Int))], []), [(.inr none, (245 : Nat), ([], [], []))])
set_option maxRecDepth 100000 in
theorem p2_s1666_s {X : Int → Int} {LX : Nat} : ck_Ok p2_O X LX 58 p2_s1666 := ck_okq (cuts := []) (f := 114) ⟨p2_nmu, ck_E0⟩ (by decide +kernel)
set_option maxRecDepth 100000 in
/-- GlacierMail$Rows.copyFrom -/
noncomputable def p2_s1667 : ck_Sum := (((1 : Nat), (0 : Nat), (0 : Nat)), (245 : Nat), [.inr (.inr (.inl (8 : Nat))), .inr (.inr (.inl (62 : Nat)))], ([], [], []), ([((8 : Nat), (3 : Int), (3 : Int)), ((9 : Nat), (0 : Int), (23 : Int))], []), [(.inr none, (245 : Nat), ([], [], []))])
set_option maxRecDepth 100000 in
theorem p2_s1667_s {X : Int → Int} {LX : Nat} : ck_Ok p2_O X LX 58 p2_s1667 := ck_okq (cuts := []) (f := 114) ⟨p2_nmu, ck_E0⟩ (by decide +kernel)
end
