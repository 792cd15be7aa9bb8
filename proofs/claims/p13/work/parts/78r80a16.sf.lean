/-! EVERY CALL ENDS, whatever was done before (laid by wip/am/p2k.py). -/
set_option maxRecDepth 100000 in
/-- GlacierMailModel.years -/
noncomputable def p2_s1226 : ck_Sum := (((10 : Nat), (0 : Nat), (0 : Nat)), (245 : Nat), [.inr (.inr (.inl (226 : Nat))), .inl (ck_one 11)], ([], [], zl181), (zl182, []), [(.inr (some (.inl ((0 : Int), (264 : Int), []))), (245 : Nat), ([], [], [((227 : Nat), (9 : Int), (9 : Int), ((11 : Int), (299 : Int), [((1000011 : Nat), (0 : Int))])), ((226 : Nat), (6 : Int), (6 : Int), ((0 : Int), (12 : Int), [((1000027 : Nat), (0 : Int))])), ((226 : Nat), (0 : Int), (0 : Int), ((0 : Int), (1 : Int), []))]))])
set_option maxRecDepth 100000 in
theorem p2_s1226_s {X : Int → Int} {LX : Nat} : ck_Ok p2_O X LX 320 p2_s1226 := ck_okq (cuts := []) (f := 350) ⟨p2_nmu, ck_E1 (ck_S1 p2_s1225_s ck_S0) (ck_E1 (ck_S1 p2_s190_s ck_S0) (ck_E1 (ck_S1 p2_s242_s (ck_S1 p2_s241_s ck_S0)) (ck_E1 (ck_S1 p2_s553_s ck_S0) (ck_E1 (ck_S1 p2_s1205_s ck_S0) ck_E0))))⟩ (by decide +kernel)
set_option maxRecDepth 100000 in
/-- GlacierMailModel.in -/
noncomputable def p2_s1227 : ck_Sum := (((0 : Nat), (0 : Nat), (0 : Nat)), (245 : Nat), [.inl (ck_one 12), .inl (ck_one 1), .inl (ck_one 50)], ([], [], []), ([], []), [(.inr (some (.inl (ck_one 1))), (245 : Nat), ([], [], []))])
set_option maxRecDepth 100000 in
theorem p2_s1227_s {X : Int → Int} {LX : Nat} : ck_Ok p2_O X LX 286 p2_s1227 := ck_okq (cuts := []) (f := 88) ⟨p2_nmu, ck_E0⟩ (by decide +kernel)
set_option maxRecDepth 100000 in
/-- GlacierMailModel.years -/
noncomputable def p2_s1228 : ck_Sum := (((10 : Nat), (0 : Nat), (0 : Nat)), (245 : Nat), [.inr (.inr (.inl (226 : Nat))), .inl (ck_one 12)], ([], [], zl181), (zl182, []), [(.inr (some (.inl ((0 : Int), (288 : Int), []))), (245 : Nat), ([], [], [((227 : Nat), (9 : Int), (9 : Int), ((12 : Int), (299 : Int), [((1000011 : Nat), (0 : Int))])), ((226 : Nat), (6 : Int), (6 : Int), ((0 : Int), (12 : Int), [((1000027 : Nat), (0 : Int))])), ((226 : Nat), (0 : Int), (0 : Int), ((0 : Int), (1 : Int), []))]))])
set_option maxRecDepth 100000 in
theorem p2_s1228_s {X : Int → Int} {LX : Nat} : ck_Ok p2_O X LX 320 p2_s1228 := ck_okq (cuts := []) (f := 370) ⟨p2_nmu, ck_E1 (ck_S1 p2_s1227_s ck_S0) (ck_E1 (ck_S1 p2_s190_s ck_S0) (ck_E1 (ck_S1 p2_s242_s (ck_S1 p2_s241_s ck_S0)) (ck_E1 (ck_S1 p2_s553_s ck_S0) (ck_E1 (ck_S1 p2_s1205_s ck_S0) ck_E0))))⟩ (by decide +kernel)
set_option maxRecDepth 100000 in
/-- GlacierMailModel.in -/
noncomputable def p2_s1229 : ck_Sum := (((0 : Nat), (0 : Nat), (0 : Nat)), (245 : Nat), [.inl (ck_one 13), .inl (ck_one 1), .inl (ck_one 50)], ([], [], []), ([], []), [(.inr (some (.inl (ck_one 1))), (245 : Nat), ([], [], []))])
set_option maxRecDepth 100000 in
theorem p2_s1229_s {X : Int → Int} {LX : Nat} : ck_Ok p2_O X LX 286 p2_s1229 := ck_okq (cuts := []) (f := 88) ⟨p2_nmu, ck_E0⟩ (by decide +kernel)
set_option maxRecDepth 100000 in
/-- GlacierMailModel.years -/
noncomputable def p2_s1230 : ck_Sum := (((10 : Nat), (0 : Nat), (0 : Nat)), (245 : Nat), [.inr (.inr (.inl (226 : Nat))), .inl (ck_one 13)], ([], [], zl181), (zl182, []), [(.inr (some (.inl ((0 : Int), (312 : Int), []))), (245 : Nat), ([], [], [((227 : Nat), (9 : Int), (9 : Int), ((13 : Int), (299 : Int), [((1000011 : Nat), (0 : Int))])), ((226 : Nat), (6 : Int), (6 : Int), ((0 : Int), (12 : Int), [((1000027 : Nat), (0 : Int))])), ((226 : Nat), (0 : Int), (0 : Int), ((0 : Int), (1 : Int), []))]))])
set_option maxRecDepth 100000 in
theorem p2_s1230_s {X : Int → Int} {LX : Nat} : ck_Ok p2_O X LX 320 p2_s1230 := ck_okq (cuts := []) (f := 390) ⟨p2_nmu, ck_E1 (ck_S1 p2_s1229_s ck_S0) (ck_E1 (ck_S1 p2_s190_s ck_S0) (ck_E1 (ck_S1 p2_s242_s (ck_S1 p2_s241_s ck_S0)) (ck_E1 (ck_S1 p2_s553_s ck_S0) (ck_E1 (ck_S1 p2_s1205_s ck_S0) ck_E0))))⟩ (by decide +kernel)
set_option maxRecDepth 100000 in
/-- GlacierMailModel.in -/
noncomputable def p2_s1231 : ck_Sum := (((0 : Nat), (0 : Nat), (0 : Nat)), (245 : Nat), [.inl (ck_one 14), .inl (ck_one 1), .inl (ck_one 50)], ([], [], []), ([], []), [(.inr (some (.inl (ck_one 1))), (245 : Nat), ([], [], []))])
set_option maxRecDepth 100000 in
theorem p2_s1231_s {X : Int → Int} {LX : Nat} : ck_Ok p2_O X LX 286 p2_s1231 := ck_okq (cuts := []) (f := 88) ⟨p2_nmu, ck_E0⟩ (by decide +kernel)
set_option maxRecDepth 100000 in
/-- GlacierMailModel.years -/
noncomputable def p2_s1232 : ck_Sum := (((10 : Nat), (0 : Nat), (0 : Nat)), (245 : Nat), [.inr (.inr (.inl (226 : Nat))), .inl (ck_one 14)], ([], [], zl181), (zl182, []), [(.inr (some (.inl ((0 : Int), (336 : Int), []))), (245 : Nat), ([], [], [((227 : Nat), (9 : Int), (9 : Int), ((14 : Int), (299 : Int), [((1000011 : Nat), (0 : Int))])), ((226 : Nat), (6 : Int), (6 : Int), ((0 : Int), (12 : Int), [((1000027 : Nat), (0 : Int))])), ((226 : Nat), (0 : Int), (0 : Int), ((0 : Int), (1 : Int), []))]))])
set_option maxRecDepth 100000 in
theorem p2_s1232_s {X : Int → Int} {LX : Nat} : ck_Ok p2_O X LX 320 p2_s1232 := ck_okq (cuts := []) (f := 410) ⟨p2_nmu, ck_E1 (ck_S1 p2_s1231_s ck_S0) (ck_E1 (ck_S1 p2_s190_s ck_S0) (ck_E1 (ck_S1 p2_s242_s (ck_S1 p2_s241_s ck_S0)) (ck_E1 (ck_S1 p2_s553_s ck_S0) (ck_E1 (ck_S1 p2_s1205_s ck_S0) ck_E0))))⟩ (by decide +kernel)
set_option maxRecDepth 100000 in
/-- GlacierMailModel.in -/
noncomputable def p2_s1233 : ck_Sum := (((0 : Nat), (0 : Nat), (0 : Nat)), (245 : Nat), [.inl (ck_one 15), .inl (ck_one 1), .inl (ck_one 50)], ([], [], []), ([], []), [(.inr (some (.inl (ck_one 1))), (245 : Nat), ([], [], []))])
set_option maxRecDepth 100000 in
theorem p2_s1233_s {X : Int → Int} {LX : Nat} : ck_Ok p2_O X LX 286 p2_s1233 := ck_okq (cuts := []) (f := 88) ⟨p2_nmu, ck_E0⟩ (by decide +kernel)
set_option maxRecDepth 100000 in
/-- GlacierMailModel.years -/
noncomputable def p2_s1234 : ck_Sum := (((10 : Nat), (0 : Nat), (0 : Nat)), (245 : Nat), [.inr (.inr (.inl (226 : Nat))), .inl (ck_one 15)], ([], [], zl181), (zl182, []), [(.inr (some (.inl ((0 : Int), (360 : Int), []))), (245 : Nat), ([], [], [((227 : Nat), (9 : Int), (9 : Int), ((15 : Int), (299 : Int), [((1000011 : Nat), (0 : Int))])), ((226 : Nat), (6 : Int), (6 : Int), ((0 : Int), (12 : Int), [((1000027 : Nat), (0 : Int))])), ((226 : Nat), (0 : Int), (0 : Int), ((0 : Int), (1 : Int), []))]))])
set_option maxRecDepth 100000 in
theorem p2_s1234_s {X : Int → Int} {LX : Nat} : ck_Ok p2_O X LX 320 p2_s1234 := ck_okq (cuts := []) (f := 430) ⟨p2_nmu, ck_E1 (ck_S1 p2_s1233_s ck_S0) (ck_E1 (ck_S1 p2_s190_s ck_S0) (ck_E1 (ck_S1 p2_s242_s (ck_S1 p2_s241_s ck_S0)) (ck_E1 (ck_S1 p2_s553_s ck_S0) (ck_E1 (ck_S1 p2_s1205_s ck_S0) ck_E0))))⟩ (by decide +kernel)
set_option maxRecDepth 100000 in
/-- GlacierMailModel.in -/
noncomputable def p2_s1235 : ck_Sum := (((0 : Nat), (0 : Nat), (0 : Nat)), (245 : Nat), [.inl (ck_one 16), .inl (ck_one 1), .inl (ck_one 50)], ([], [], []), ([], []), [(.inr (some (.inl (ck_one 1))), (245 : Nat), ([], [], []))])
set_option maxRecDepth 100000 in
theorem p2_s1235_s {X : Int → Int} {LX : Nat} : ck_Ok p2_O X LX 286 p2_s1235 := ck_okq (cuts := []) (f := 88) ⟨p2_nmu, ck_E0⟩ (by decide +kernel)
set_option maxRecDepth 100000 in
/-- GlacierMailModel.years -/
noncomputable def p2_s1236 : ck_Sum := (((10 : Nat), (0 : Nat), (0 : Nat)), (245 : Nat), [.inr (.inr (.inl (226 : Nat))), .inl (ck_one 16)], ([], [], zl181), (zl182, []), [(.inr (some (.inl ((0 : Int), (384 : Int), []))), (245 : Nat), ([], [], [((227 : Nat), (9 : Int), (9 : Int), ((16 : Int), (299 : Int), [((1000011 : Nat), (0 : Int))])), ((226 : Nat), (6 : Int), (6 : Int), ((0 : Int), (12 : Int), [((1000027 : Nat), (0 : Int))])), ((226 : Nat), (0 : Int), (0 : Int), ((0 : Int), (1 : Int), []))]))])
set_option maxRecDepth 100000 in
theorem p2_s1236_s {X : Int → Int} {LX : Nat} : ck_Ok p2_O X LX 320 p2_s1236 := ck_okq (cuts := []) (f := 450) ⟨p2_nmu, ck_E1 (ck_S1 p2_s1235_s ck_S0) (ck_E1 (ck_S1 p2_s190_s ck_S0) (ck_E1 (ck_S1 p2_s242_s (ck_S1 p2_s241_s ck_S0)) (ck_E1 (ck_S1 p2_s553_s ck_S0) (ck_E1 (ck_S1 p2_s1205_s ck_S0) ck_E0))))⟩ (by decide +kernel)
set_option maxRecDepth 100000 in
/-- GlacierMailModel.in -/
noncomputable def p2_s1237 : ck_Sum := (((0 : Nat), (0 : Nat), (0 : Nat)), (245 : Nat), [.inl (ck_one 17), .inl (ck_one 1), .inl (ck_one 50)], ([], [], []), ([], []), [(.inr (some (.inl (ck_one 1))), (245 : Nat), ([], [], []))])
set_option maxRecDepth 100000 in
theorem p2_s1237_s {X : Int → Int} {LX : Nat} : ck_Ok p2_O X LX 286 p2_s1237 := ck_okq (cuts := []) (f := 88) ⟨p2_nmu, ck_E0⟩ (by decide +kernel)
set_option maxRecDepth 100000 in
/-- GlacierMailModel.years -/
noncomputable def p2_s1238 : ck_Sum := (((10 : Nat), (0 : Nat), (0 : Nat)), (245 : Nat), [.inr (.inr (.inl (226 : Nat))), .inl (ck_one 17)], ([], [], zl181), (zl182, []), [(.inr (some (.inl ((0 : Int), (408 : Int), []))), (245 : Nat), ([], [], [((227 : Nat), (9 : Int), (9 : Int), ((17 : Int), (299 : Int), [((1000011 : Nat), (0 : Int))])), ((226 : Nat), (6 : Int), (6 : Int), ((0 : Int), (12 : Int), [((1000027 : Nat), (0 : Int))])), ((226 : Nat), (0 : Int), (0 : Int), ((0 : Int), (1 : Int), []))]))])
set_option maxRecDepth 100000 in
theorem p2_s1238_s {X : Int → Int} {LX : Nat} : ck_Ok p2_O X LX 320 p2_s1238 := ck_okq (cuts := []) (f := 470) ⟨p2_nmu, ck_E1 (ck_S1 p2_s1237_s ck_S0) (ck_E1 (ck_S1 p2_s190_s ck_S0) (ck_E1 (ck_S1 p2_s242_s (ck_S1 p2_s241_s ck_S0)) (ck_E1 (ck_S1 p2_s553_s ck_S0) (ck_E1 (ck_S1 p2_s1205_s ck_S0) ck_E0))))⟩ (by decide +kernel)
set_option maxRecDepth 100000 in
/-- GlacierMailModel.in -/
noncomputable def p2_s1239 : ck_Sum := (((0 : Nat), (0 : Nat), (0 : Nat)), (245 : Nat), [.inl (ck_one 18), .inl (ck_one 1), .inl (ck_one 50)], ([], [], []), ([], []), [(.inr (some (.inl (ck_one 1))), (245 : Nat), ([], [], []))])
set_option maxRecDepth 100000 in
theorem p2_s1239_s {X : Int → Int} {LX : Nat} : ck_Ok p2_O X LX 286 p2_s1239 := ck_okq (cuts := []) (f := 88) ⟨p2_nmu, ck_E0⟩ (by decide +kernel)
set_option maxRecDepth 100000 in
/-- GlacierMailModel.years -/
noncomputable def p2_s1240 : ck_Sum := (((10 : Nat), (0 : Nat), (0 : Nat)), (245 : Nat), [.inr (.inr (.inl (226 : Nat))), .inl (ck_one 18)], ([], [], zl181), (zl182, []), [(.inr (some (.inl ((0 : Int), (432 : Int), []))), (245 : Nat), ([], [], [((227 : Nat), (9 : Int), (9 : Int), ((18 : Int), (299 : Int), [((1000011 : Nat), (0 : Int))])), ((226 : Nat), (6 : Int), (6 : Int), ((0 : Int), (12 : Int), [((1000027 : Nat), (0 : Int))])), ((226 : Nat), (0 : Int), (0 : Int), ((0 : Int), (1 : Int), []))]))])
set_option maxRecDepth 100000 in
theorem p2_s1240_s {X : Int → Int} {LX : Nat} : ck_Ok p2_O X LX 320 p2_s1240 := ck_okq (cuts := []) (f := 490) ⟨p2_nmu, ck_E1 (ck_S1 p2_s1239_s ck_S0) (ck_E1 (ck_S1 p2_s190_s ck_S0) (ck_E1 (ck_S1 p2_s242_s (ck_S1 p2_s241_s ck_S0)) (ck_E1 (ck_S1 p2_s553_s ck_S0) (ck_E1 (ck_S1 p2_s1205_s ck_S0) ck_E0))))⟩ (by decide +kernel)
set_option maxRecDepth 100000 in
/-- GlacierMailModel.in -/
noncomputable def p2_s1241 : ck_Sum := (((0 : Nat), (0 : Nat), (0 : Nat)), (245 : Nat), [.inl (ck_one 19), .inl (ck_one 1), .inl (ck_one 50)], ([], [], []), ([], []), [(.inr (some (.inl (ck_one 1))), (245 : Nat), ([], [], []))])
set_option maxRecDepth 100000 in
theorem p2_s1241_s {X : Int → Int} {LX : Nat} : ck_Ok p2_O X LX 286 p2_s1241 := ck_okq (cuts := []) (f := 88) ⟨p2_nmu, ck_E0⟩ (by decide +kernel)
set_option maxRecDepth 100000 in
/-- GlacierMailModel.years -/
noncomputable def p2_s1242 : ck_Sum := (((10 : Nat), (0 : Nat), (0 : Nat)), (245 : Nat), [.inr (.inr (.inl (226 : Nat))), .inl (ck_one 19)], ([], [], zl181), (zl182, []), [(.inr (some (.inl ((0 : Int), (456 : Int), []))), (245 : Nat), ([], [], [((227 : Nat), (9 : Int), (9 : Int), ((19 : Int), (299 : Int), [((1000011 : Nat), (0 : Int))])), ((226 : Nat), (6 : Int), (6 : Int), ((0 : Int), (12 : Int), [((1000027 : Nat), (0 : Int))])), ((226 : Nat), (0 : Int), (0 : Int), ((0 : Int), (1 : Int), []))]))])
set_option maxRecDepth 100000 in
theorem p2_s1242_s {X : Int → Int} {LX : Nat} : ck_Ok p2_O X LX 320 p2_s1242 := ck_okq (cuts := []) (f := 510) ⟨p2_nmu, ck_E1 (ck_S1 p2_s1241_s ck_S0) (ck_E1 (ck_S1 p2_s190_s ck_S0) (ck_E1 (ck_S1 p2_s242_s (ck_S1 p2_s241_s ck_S0)) (ck_E1 (ck_S1 p2_s553_s ck_S0) (ck_E1 (ck_S1 p2_s1205_s ck_S0) ck_E0))))⟩ (by decide +kernel)
set_option maxRecDepth 100000 in
/-- GlacierMailModel.in -/
noncomputable def p2_s1243 : ck_Sum := (((0 : Nat), (0 : Nat), (0 : Nat)), (245 : Nat), [.inl (ck_one 20), .inl (ck_one 1), .inl (ck_one 50)], ([], [], []), ([], []), [(.inr (some (.inl (ck_one 1))), (245 : Nat), ([], [], []))])
set_option maxRecDepth 100000 in
theorem p2_s1243_s {X : Int → Int} {LX : Nat} : ck_Ok p2_O X LX 286 p2_s1243 := ck_okq (cuts := []) (f := 88) ⟨p2_nmu, ck_E0⟩ (by decide +kernel)
set_option maxRecDepth 100000 in
/-- GlacierMailModel.years -/
noncomputable def p2_s1244 : ck_Sum := (((10 : Nat), (0 : Nat), (0 : Nat)), (245 : Nat), [.inr (.inr (.inl (226 : Nat))), .inl (ck_one 20)], ([], [], zl181), (zl182, []), [(.inr (some (.inl ((0 : Int), (480 : Int), []))), (245 : Nat), ([], [], [((227 : Nat), (9 : Int), (9 : Int), ((20 : Int), (299 : Int), [((1000011 : Nat), (0 : Int))])), ((226 : Nat), (6 : Int), (6 : Int), ((0 : Int), (12 : Int), [((1000027 : Nat), (0 : Int))])), ((226 : Nat), (0 : Int), (0 : Int), ((0 : Int), (1 : Int), []))]))])
set_option maxRecDepth 100000 in
theorem p2_s1244_s {X : Int → Int} {LX : Nat} : ck_Ok p2_O X LX 320 p2_s1244 := ck_okq (cuts := []) (f := 530) ⟨p2_nmu, ck_E1 (ck_S1 p2_s1243_s ck_S0) (ck_E1 (ck_S1 p2_s190_s ck_S0) (ck_E1 (ck_S1 p2_s242_s (ck_S1 p2_s241_s ck_S0)) (ck_E1 (ck_S1 p2_s553_s ck_S0) (ck_E1 (ck_S1 p2_s1205_s ck_S0) ck_E0))))⟩ (by decide +kernel)
set_option maxRecDepth 100000 in
/-- GlacierMailModel.in -/
noncomputable def p2_s1245 : ck_Sum := (((0 : Nat), (0 : Nat), (0 : Nat)), (245 : Nat), [.inl (ck_one 21), .inl (ck_one 1), .inl (ck_one 50)], ([], [], []), ([], []), [(.inr (some (.inl (ck_one 1))), (245 : Nat), ([], [], []))])
set_option maxRecDepth 100000 in
theorem p2_s1245_s {X : Int → Int} {LX : Nat} : ck_Ok p2_O X LX 286 p2_s1245 := ck_okq (cuts := []) (f := 88) ⟨p2_nmu, ck_E0⟩ (by decide +kernel)
set_option maxRecDepth 100000 in
/-- GlacierMailModel.years -/
noncomputable def p2_s1246 : ck_Sum := (((10 : Nat), (0 : Nat), (0 : Nat)), (245 : Nat), [.inr (.inr (.inl (226 : Nat))), .inl (ck_one 21)], ([], [], zl181), (zl182, []), [(.inr (some (.inl ((0 : Int), (504 : Int), []))), (245 : Nat), ([], [], [((227 : Nat), (9 : Int), (9 : Int), ((21 : Int), (299 : Int), [((1000011 : Nat), (0 : Int))])), ((226 : Nat), (6 : Int), (6 : Int), ((0 : Int), (12 : Int), [((1000027 : Nat), (0 : Int))])), ((226 : Nat), (0 : Int), (0 : Int), ((0 : Int), (1 : Int), []))]))])
set_option maxRecDepth 100000 in
theorem p2_s1246_s {X : Int → Int} {LX : Nat} : ck_Ok p2_O X LX 320 p2_s1246 := ck_okq (cuts := []) (f := 550) ⟨p2_nmu, ck_E1 (ck_S1 p2_s1245_s ck_S0) (ck_E1 (ck_S1 p2_s190_s ck_S0) (ck_E1 (ck_S1 p2_s242_s (ck_S1 p2_s241_s ck_S0)) (ck_E1 (ck_S1 p2_s553_s ck_S0) (ck_E1 (ck_S1 p2_s1205_s ck_S0) ck_E0))))⟩ (by decide +kernel)
set_option maxRecDepth 100000 in
/-- GlacierMailModel.in -/
noncomputable def p2_s1247 : ck_Sum := (((0 : Nat), (0 : Nat), (0 : Nat)), (245 : Nat), [.inl (ck_one 22), .inl (ck_one 1), .inl (ck_one 50)], ([], [], []), ([], []), [(.inr (some (.inl (ck_one 1))), (245 : Nat), ([], [], []))])
set_option maxRecDepth 100000 in
theorem p2_s1247_s {X : Int → Int} {LX : Nat} : ck_Ok p2_O X LX 286 p2_s1247 := ck_okq (cuts := []) (f := 88) ⟨p2_nmu, ck_E0⟩ (by decide +kernel)
set_option maxRecDepth 100000 in
/-- GlacierMailModel.years -/
noncomputable def p2_s1248 : ck_Sum := (((10 : Nat), (0 : Nat), (0 : Nat)), (245 : Nat), [.inr (.inr (.inl (226 : Nat))), .inl (ck_one 22)], ([], [], zl181), (zl182, []), [(.inr (some (.inl ((0 : Int), (528 : Int), []))), (245 : Nat), ([], [], [((227 : Nat), (9 : Int), (9 : Int), ((22 : Int), (299 : Int), [((1000011 : Nat), (0 : Int))])), ((226 : Nat), (6 : Int), (6 : Int), ((0 : Int), (12 : Int), [((1000027 : Nat), (0 : Int))])), ((226 : Nat), (0 : Int), (0 : Int), ((0 : Int), (1 : Int), []))]))])
set_option maxRecDepth 100000 in
theorem p2_s1248_s {X : Int → Int} {LX : Nat} : ck_Ok p2_O X LX 320 p2_s1248 := ck_okq (cuts := []) (f := 570) ⟨p2_nmu, ck_E1 (ck_S1 p2_s1247_s ck_S0) (ck_E1 (ck_S1 p2_s190_s ck_S0) (ck_E1 (ck_S1 p2_s242_s (ck_S1 p2_s241_s ck_S0)) (ck_E1 (ck_S1 p2_s553_s ck_S0) (ck_E1 (ck_S1 p2_s1205_s ck_S0) ck_E0))))⟩ (by decide +kernel)
set_option maxRecDepth 100000 in
/-- GlacierMailModel.in -/
noncomputable def p2_s1249 : ck_Sum := (((0 : Nat), (0 : Nat), (0 : Nat)), (245 : Nat), [.inl (ck_one 23), .inl (ck_one 1), .inl (ck_one 50)], ([], [], []), ([], []), [(.inr (some (.inl (ck_one 1))), (245 : Nat), ([], [], []))])
set_option maxRecDepth 100000 in
theorem p2_s1249_s {X : Int → Int} {LX : Nat} : ck_Ok p2_O X LX 286 p2_s1249 := ck_okq (cuts := []) (f := 88) ⟨p2_nmu, ck_E0⟩ (by decide +kernel)
set_option maxRecDepth 100000 in
/-- GlacierMailModel.years -/
noncomputable def p2_s1250 : ck_Sum := (((10 : Nat), (0 : Nat), (0 : Nat)), (245 : Nat), [.inr (.inr (.inl (226 : Nat))), .inl (ck_one 23)], ([], [], zl181), (zl182, []), [(.inr (some (.inl ((0 : Int), (552 : Int), []))), (245 : Nat), ([], [], [((227 : Nat), (9 : Int), (9 : Int), ((23 : Int), (299 : Int), [((1000011 : Nat), (0 : Int))])), ((226 : Nat), (6 : Int), (6 : Int), ((0 : Int), (12 : Int), [((1000027 : Nat), (0 : Int))])), ((226 : Nat), (0 : Int), (0 : Int), ((0 : Int), (1 : Int), []))]))])
set_option maxRecDepth 100000 in
theorem p2_s1250_s {X : Int → Int} {LX : Nat} : ck_Ok p2_O X LX 320 p2_s1250 := ck_okq (cuts := []) (f := 590) ⟨p2_nmu, ck_E1 (ck_S1 p2_s1249_s ck_S0) (ck_E1 (ck_S1 p2_s190_s ck_S0) (ck_E1 (ck_S1 p2_s242_s (ck_S1 p2_s241_s ck_S0)) (ck_E1 (ck_S1 p2_s553_s ck_S0) (ck_E1 (ck_S1 p2_s1205_s ck_S0) ck_E0))))⟩ (by decide +kernel)
set_option maxRecDepth 100000 in
/-- GlacierMailModel.in -/
noncomputable def p2_s1251 : ck_Sum := (((0 : Nat), (0 : Nat), (0 : Nat)), (245 : Nat), [.inl (ck_one 24), .inl (ck_one 1), .inl (ck_one 50)], ([], [], []), ([], []), [(.inr (some (.inl (ck_one 1))), (245 : Nat), ([], [], []))])
set_option maxRecDepth 100000 in
theorem p2_s1251_s {X : Int → Int} {LX : Nat} : ck_Ok p2_O X LX 286 p2_s1251 := ck_okq (cuts := []) (f := 88) ⟨p2_nmu, ck_E0⟩ (by decide +kernel)
set_option maxRecDepth 100000 in
/-- GlacierMailModel.years -/
noncomputable def p2_s1252 : ck_Sum := (((10 : Nat), (0 : Nat), (0 : Nat)), (245 : Nat), [.inr (.inr (.inl (226 : Nat))), .inl (ck_one 24)], ([], [], zl181), (zl182, []), [(.inr (some (.inl ((0 : Int), (576 : Int), []))), (245 : Nat), ([], [], [((227 : Nat), (9 : Int), (9 : Int), ((24 : Int), (299 : Int), [((1000011 : Nat), (0 : Int))])), ((226 : Nat), (6 : Int), (6 : Int), ((0 : Int), (12 : Int), [((1000027 : Nat), (0 : Int))])), ((226 : Nat), (0 : Int), (0 : Int), ((0 : Int), (1 : Int), []))]))])
set_option maxRecDepth 100000 in
theorem p2_s1252_s {X : Int → Int} {LX : Nat} : ck_Ok p2_O X LX 320 p2_s1252 := ck_okq (cuts := []) (f := 610) ⟨p2_nmu, ck_E1 (ck_S1 p2_s1251_s ck_S0) (ck_E1 (ck_S1 p2_s190_s ck_S0) (ck_E1 (ck_S1 p2_s242_s (ck_S1 p2_s241_s ck_S0)) (ck_E1 (ck_S1 p2_s553_s ck_S0) (ck_E1 (ck_S1 p2_s1205_s ck_S0) ck_E0))))⟩ (by decide +kernel)
set_option maxRecDepth 100000 in
/-- GlacierMailModel.in -/
noncomputable def p2_s1253 : ck_Sum := (((0 : Nat), (0 : Nat), (0 : Nat)), (245 : Nat), [.inl (ck_one 25), .inl (ck_one 1), .inl (ck_one 50)], ([], [], []), ([], []), [(.inr (some (.inl (ck_one 1))), (245 : Nat), ([], [], []))])
set_option maxRecDepth 100000 in
theorem p2_s1253_s {X : Int → Int} {LX : Nat} : ck_Ok p2_O X LX 286 p2_s1253 := ck_okq (cuts := []) (f := 88) ⟨p2_nmu, ck_E0⟩ (by decide +kernel)
set_option maxRecDepth 100000 in
/-- GlacierMailModel.years -/
noncomputable def p2_s1254 : ck_Sum := (((10 : Nat), (0 : Nat), (0 : Nat)), (245 : Nat), [.inr (.inr (.inl (226 : Nat))), .inl (ck_one 25)], ([], [], zl181), (zl182, []), [(.inr (some (.inl ((0 : Int), (600 : Int), []))), (245 : Nat), ([], [], [((227 : Nat), (9 : Int), (9 : Int), ((25 : Int), (299 : Int), [((1000011 : Nat), (0 : Int))])), ((226 : Nat), (6 : Int), (6 : Int), ((0 : Int), (12 : Int), [((1000027 : Nat), (0 : Int))])), ((226 : Nat), (0 : Int), (0 : Int), ((0 : Int), (1 : Int), []))]))])
set_option maxRecDepth 100000 in
theorem p2_s1254_s {X : Int → Int} {LX : Nat} : ck_Ok p2_O X LX 320 p2_s1254 := ck_okq (cuts := []) (f := 630) ⟨p2_nmu, ck_E1 (ck_S1 p2_s1253_s ck_S0) (ck_E1 (ck_S1 p2_s190_s ck_S0) (ck_E1 (ck_S1 p2_s242_s (ck_S1 p2_s241_s ck_S0)) (ck_E1 (ck_S1 p2_s553_s ck_S0) (ck_E1 (ck_S1 p2_s1205_s ck_S0) ck_E0))))⟩ (by decide +kernel)
set_option maxRecDepth 100000 in
/-- GlacierMailModel.in -/
noncomputable def p2_s1255 : ck_Sum := (((0 : Nat), (0 : Nat), (0 : Nat)), (245 : Nat), [.inl (ck_one 26), .inl (ck_one 1), .inl (ck_one 50)], ([], [], []), ([], []), [(.inr (some (.inl (ck_one 1))), (245 : Nat), ([], [], []))])
set_option maxRecDepth 100000 in
theorem p2_s1255_s {X : Int → Int} {LX : Nat} : ck_Ok p2_O X LX 286 p2_s1255 := ck_okq (cuts := []) (f := 88) ⟨p2_nmu, ck_E0⟩ (by decide +kernel)
set_option maxRecDepth 100000 in
/-- GlacierMailModel.years -/
noncomputable def p2_s1256 : ck_Sum := (((10 : Nat), (0 : Nat), (0 : Nat)), (245 : Nat), [.inr (.inr (.inl (226 : Nat))), .inl (ck_one 26)], ([], [], zl181), (zl182, []), [(.inr (some (.inl ((0 : Int), (624 : Int), []))), (245 : Nat), ([], [], [((227 : Nat), (9 : Int), (9 : Int), ((26 : Int), (299 : Int), [((1000011 : Nat), (0 : Int))])), ((226 : Nat), (6 : Int), (6 : Int), ((0 : Int), (12 : Int), [((1000027 : Nat), (0 : Int))])), ((226 : Nat), (0 : Int), (0 : Int), ((0 : Int), (1 : Int), []))]))])
set_option maxRecDepth 100000 in
theorem p2_s1256_s {X : Int → Int} {LX : Nat} : ck_Ok p2_O X LX 320 p2_s1256 := ck_okq (cuts := []) (f := 650) ⟨p2_nmu, ck_E1 (ck_S1 p2_s1255_s ck_S0) (ck_E1 (ck_S1 p2_s190_s ck_S0) (ck_E1 (ck_S1 p2_s242_s (ck_S1 p2_s241_s ck_S0)) (ck_E1 (ck_S1 p2_s553_s ck_S0) (ck_E1 (ck_S1 p2_s1205_s ck_S0) ck_E0))))⟩ (by decide +kernel)
set_option maxRecDepth 100000 in
/-- GlacierMailModel.in -/
noncomputable def p2_s1257 : ck_Sum := (((0 : Nat), (0 : Nat), (0 : Nat)), (245 : Nat), [.inl (ck_one 27), .inl (ck_one 1), .inl (ck_one 50)], ([], [], []), ([], []), [(.inr (some (.inl (ck_one 1))), (245 : Nat), ([], [], []))])
set_option maxRecDepth 100000 in
theorem p2_s1257_s {X : Int → Int} {LX : Nat} : ck_Ok p2_O X LX 286 p2_s1257 := ck_okq (cuts := []) (f := 88) ⟨p2_nmu, ck_E0⟩ (by decide +kernel)
set_option maxRecDepth 100000 in
/-- GlacierMailModel.years -/
noncomputable def p2_s1258 : ck_Sum := (((10 : Nat), (0 : Nat), (0 : Nat)), (245 : Nat), [.inr (.inr (.inl (226 : Nat))), .inl (ck_one 27)], ([], [], zl181), (zl182, []), [(.inr (some (.inl ((0 : Int), (648 : Int), []))), (245 : Nat), ([], [], [((227 : Nat), (9 : Int), (9 : Int), ((27 : Int), (299 : Int), [((1000011 : Nat), (0 : Int))])), ((226 : Nat), (6 : Int), (6 : Int), ((0 : Int), (12 : Int), [((1000027 : Nat), (0 : Int))])), ((226 : Nat), (0 : Int), (0 : Int), ((0 : Int), (1 : Int), []))]))])
set_option maxRecDepth 100000 in
theorem p2_s1258_s {X : Int → Int} {LX : Nat} : ck_Ok p2_O X LX 320 p2_s1258 := ck_okq (cuts := []) (f := 670) ⟨p2_nmu, ck_E1 (ck_S1 p2_s1257_s ck_S0) (ck_E1 (ck_S1 p2_s190_s ck_S0) (ck_E1 (ck_S1 p2_s242_s (ck_S1 p2_s241_s ck_S0)) (ck_E1 (ck_S1 p2_s553_s ck_S0) (ck_E1 (ck_S1 p2_s1205_s ck_S0) ck_E0))))⟩ (by decide +kernel)
set_option maxRecDepth 100000 in
/-- GlacierMailModel.in -/
noncomputable def p2_s1259 : ck_Sum := (((0 : Nat), (0 : Nat), (0 : Nat)), (245 : Nat), [.inl (ck_one 28), .inl (ck_one 1), .inl (ck_one 50)], ([], [], []), ([], []), [(.inr (some (.inl (ck_one 1))), (245 : Nat), ([], [], []))])
set_option maxRecDepth 100000 in
theorem p2_s1259_s {X : Int → Int} {LX : Nat} : ck_Ok p2_O X LX 286 p2_s1259 := ck_okq (cuts := []) (f := 88) ⟨p2_nmu, ck_E0⟩ (by decide +kernel)
set_option maxRecDepth 100000 in
/-- GlacierMailModel.years -/
noncomputable def p2_s1260 : ck_Sum := (((10 : Nat), (0 : Nat), (0 : Nat)), (245 : Nat), [.inr (.inr (.inl (226 : Nat))), .inl (ck_one 28)], ([], [], zl181), (zl182, []), [(.inr (some (.inl ((0 : Int), (672 : Int), []))), (245 : Nat), ([], [], [((227 : Nat), (9 : Int), (9 : Int), ((28 : Int), (299 : Int), [((1000011 : Nat), (0 : Int))])), ((226 : Nat), (6 : Int), (6 : Int), ((0 : Int), (12 : Int), [((1000027 : Nat), (0 : Int))])), ((226 : Nat), (0 : Int), (0 : Int), ((0 : Int), (1 : Int), []))]))])
set_option maxRecDepth 100000 in
theorem p2_s1260_s {X : Int → Int} {LX : Nat} : ck_Ok p2_O X LX 320 p2_s1260 := ck_okq (cuts := []) (f := 690) ⟨p2_nmu, ck_E1 (ck_S1 p2_s1259_s ck_S0) (ck_E1 (ck_S1 p2_s190_s ck_S0) (ck_E1 (ck_S1 p2_s242_s (ck_S1 p2_s241_s ck_S0)) (ck_E1 (ck_S1 p2_s553_s ck_S0) (ck_E1 (ck_S1 p2_s1205_s ck_S0) ck_E0))))⟩ (by decide +kernel)
set_option maxRecDepth 100000 in
/-- GlacierMailModel.in -/
noncomputable def p2_s1261 : ck_Sum := (((0 : Nat), (0 : Nat), (0 : Nat)), (245 : Nat), [.inl (ck_one 29), .inl (ck_one 1), .inl (ck_one 50)], ([], [], []), ([], []), [(.inr (some (.inl (ck_one 1))), (245 : Nat), ([], [], []))])
set_option maxRecDepth 100000 in
theorem p2_s1261_s {X : Int → Int} {LX : Nat} : ck_Ok p2_O X LX 286 p2_s1261 := ck_okq (cuts := []) (f := 88) ⟨p2_nmu, ck_E0⟩ (by decide +kernel)
set_option maxRecDepth 100000 in
/-- GlacierMailModel.years -/
noncomputable def p2_s1262 : ck_Sum := (((10 : Nat), (0 : Nat), (0 : Nat)), (245 : Nat), [.inr (.inr (.inl (226 : Nat))), .inl (ck_one 29)], ([], [], zl181), (zl182, []), [(.inr (some (.inl ((0 : Int), (696 : Int), []))), (245 : Nat), ([], [], [((227 : Nat), (9 : Int), (9 : Int), ((29 : Int), (299 : Int), [((1000011 : Nat), (0 : Int))])), ((226 : Nat), (6 : Int), (6 : Int), ((0 : Int), (12 : Int), [((1000027 : Nat), (0 : Int))])), ((226 : Nat), (0 : Int), (0 : Int), ((0 : Int), (1 : Int), []))]))])
set_option maxRecDepth 100000 in
theorem p2_s1262_s {X : Int → Int} {LX : Nat} : ck_Ok p2_O X LX 320 p2_s1262 := ck_okq (cuts := []) (f := 710) ⟨p2_nmu, ck_E1 (ck_S1 p2_s1261_s ck_S0) (ck_E1 (ck_S1 p2_s190_s ck_S0) (ck_E1 (ck_S1 p2_s242_s (ck_S1 p2_s241_s ck_S0)) (ck_E1 (ck_S1 p2_s553_s ck_S0) (ck_E1 (ck_S1 p2_s1205_s ck_S0) ck_E0))))⟩ (by decide +kernel)
set_option maxRecDepth 100000 in
/-- GlacierMailModel.in -/
noncomputable def p2_s1263 : ck_Sum := (((0 : Nat), (0 : Nat), (0 : Nat)), (245 : Nat), [.inl (ck_one 30), .inl (ck_one 1), .inl (ck_one 50)], ([], [], []), ([], []), [(.inr (some (.inl (ck_one 1))), (245 : Nat), ([], [], []))])
set_option maxRecDepth 100000 in
theorem p2_s1263_s {X : Int → Int} {LX : Nat} : ck_Ok p2_O X LX 286 p2_s1263 := ck_okq (cuts := []) (f := 88) ⟨p2_nmu, ck_E0⟩ (by decide +kernel)
set_option maxRecDepth 100000 in
/-- GlacierMailModel.years -/
noncomputable def p2_s1264 : ck_Sum := (((10 : Nat), (0 : Nat), (0 : Nat)), (245 : Nat), [.inr (.inr (.inl (226 : Nat))), .inl (ck_one 30)], ([], [], zl181), (zl182, []), [(.inr (some (.inl ((0 : Int), (720 : Int), []))), (245 : Nat), ([], [], [((227 : Nat), (9 : Int), (9 : Int), ((30 : Int), (299 : Int), [((1000011 : Nat), (0 : Int))])), ((226 : Nat), (6 : Int), (6 : Int), ((0 : Int), (12 : Int), [((1000027 : Nat), (0 : Int))])), ((226 : Nat), (0 : Int), (0 : Int), ((0 : Int), (1 : Int), []))]))])
set_option maxRecDepth 100000 in
theorem p2_s1264_s {X : Int → Int} {LX : Nat} : ck_Ok p2_O X LX 320 p2_s1264 := ck_okq (cuts := []) (f := 730) ⟨p2_nmu, ck_E1 (ck_S1 p2_s1263_s ck_S0) (ck_E1 (ck_S1 p2_s190_s ck_S0) (ck_E1 (ck_S1 p2_s242_s (ck_S1 p2_s241_s ck_S0)) (ck_E1 (ck_S1 p2_s553_s ck_S0) (ck_E1 (ck_S1 p2_s1205_s ck_S0) ck_E0))))⟩ (by decide +kernel)
set_option maxRecDepth 100000 in
/-- GlacierMailModel.in -/
noncomputable def p2_s1265 : ck_Sum := (((0 : Nat), (0 : Nat), (0 : Nat)), (245 : Nat), [.inl (ck_one 31), .inl (ck_one 1), .inl (ck_one 50)], ([], [], []), ([], []), [(.inr (some (.inl (ck_one 1))), (245 : Nat), ([], [], []))])
set_option maxRecDepth 100000 in
theorem p2_s1265_s {X : Int → Int} {LX : Nat} : ck_Ok p2_O X LX 286 p2_s1265 := ck_okq (cuts := []) (f := 88) ⟨p2_nmu, ck_E0⟩ (by decide +kernel)
set_option maxRecDepth 100000 in
/-- GlacierMailModel.years -/
noncomputable def p2_s1266 : ck_Sum := (((10 : Nat), (0 : Nat), (0 : Nat)), (245 : Nat), [.inr (.inr (.inl (226 : Nat))), .inl (ck_one 31)], ([], [], zl181), (zl182, []), [(.inr (some (.inl ((0 : Int), (744 : Int), []))), (245 : Nat), ([], [], [((227 : Nat), (9 : Int), (9 : Int), ((31 : Int), (299 : Int), [((1000011 : Nat), (0 : Int))])), ((226 : Nat), (6 : Int), (6 : Int), ((0 : Int), (12 : Int), [((1000027 : Nat), (0 : Int))])), ((226 : Nat), (0 : Int), (0 : Int), ((0 : Int), (1 : Int), []))]))])
set_option maxRecDepth 100000 in
theorem p2_s1266_s {X : Int → Int} {LX : Nat} : ck_Ok p2_O X LX 320 p2_s1266 := ck_okq (cuts := []) (f := 750) ⟨p2_nmu, ck_E1 (ck_S1 p2_s1265_s ck_S0) (ck_E1 (ck_S1 p2_s190_s ck_S0) (ck_E1 (ck_S1 p2_s242_s (ck_S1 p2_s241_s ck_S0)) (ck_E1 (ck_S1 p2_s553_s ck_S0) (ck_E1 (ck_S1 p2_s1205_s ck_S0) ck_E0))))⟩ (by decide +kernel)
set_option maxRecDepth 100000 in
/-- GlacierMailModel.in -/
noncomputable def p2_s1267 : ck_Sum := (((0 : Nat), (0 : Nat), (0 : Nat)), (245 : Nat), [.inl (ck_one 32), .inl (ck_one 1), .inl (ck_one 50)], ([], [], []), ([], []), [(.inr (some (.inl (ck_one 1))), (245 : Nat), ([], [], []))])
set_option maxRecDepth 100000 in
theorem p2_s1267_s {X : Int → Int} {LX : Nat} : ck_Ok p2_O X LX 286 p2_s1267 := ck_okq (cuts := []) (f := 88) ⟨p2_nmu, ck_E0⟩ (by decide +kernel)
set_option maxRecDepth 100000 in
/-- GlacierMailModel.years -/
noncomputable def p2_s1268 : ck_Sum := (((10 : Nat), (0 : Nat), (0 : Nat)), (245 : Nat), [.inr (.inr (.inl (226 : Nat))), .inl (ck_one 32)], ([], [], zl181), (zl182, []), [(.inr (some (.inl ((0 : Int), (768 : Int), []))), (245 : Nat), ([], [], [((227 : Nat), (9 : Int), (9 : Int), ((32 : Int), (299 : Int), [((1000011 : Nat), (0 : Int))])), ((226 : Nat), (6 : Int), (6 : Int), ((0 : Int), (12 : Int), [((1000027 : Nat), (0 : Int))])), ((226 : Nat), (0 : Int), (0 : Int), ((0 : Int), (1 : Int), []))]))])
set_option maxRecDepth 100000 in
theorem p2_s1268_s {X : Int → Int} {LX : Nat} : ck_Ok p2_O X LX 320 p2_s1268 := ck_okq (cuts := []) (f := 770) ⟨p2_nmu, ck_E1 (ck_S1 p2_s1267_s ck_S0) (ck_E1 (ck_S1 p2_s190_s ck_S0) (ck_E1 (ck_S1 p2_s242_s (ck_S1 p2_s241_s ck_S0)) (ck_E1 (ck_S1 p2_s553_s ck_S0) (ck_E1 (ck_S1 p2_s1205_s ck_S0) ck_E0))))⟩ (by decide +kernel)
set_option maxRecDepth 100000 in
/-- GlacierMailModel.in -/
noncomputable def p2_s1269 : ck_Sum := (((0 : Nat), (0 : Nat), (0 : Nat)), (245 : Nat), [.inl (ck_one 33), .inl (ck_one 1), .inl (ck_one 50)], ([], [], []), ([], []), [(.inr (some (.inl (ck_one 1))), (245 : Nat), ([], [], []))])
set_option maxRecDepth 100000 in
theorem p2_s1269_s {X : Int → Int} {LX : Nat} : ck_Ok p2_O X LX 286 p2_s1269 := ck_okq (cuts := []) (f := 88) ⟨p2_nmu, ck_E0⟩ (by decide +kernel)
set_option maxRecDepth 100000 in
/-- GlacierMailModel.years -/
noncomputable def p2_s1270 : ck_Sum := (((10 : Nat), (0 : Nat), (0 : Nat)), (245 : Nat), [.inr (.inr (.inl (226 : Nat))), .inl (ck_one 33)], ([], [], zl181), (zl182, []), [(.inr (some (.inl ((0 : Int), (792 : Int), []))), (245 : Nat), ([], [], [((227 : Nat), (9 : Int), (9 : Int), ((33 : Int), (299 : Int), [((1000011 : Nat), (0 : Int))])), ((226 : Nat), (6 : Int), (6 : Int), ((0 : Int), (12 : Int), [((1000027 : Nat), (0 : Int))])), ((226 : Nat), (0 : Int), (0 : Int), ((0 : Int), (1 : Int), []))]))])
set_option maxRecDepth 100000 in
theorem p2_s1270_s {X : Int → Int} {LX : Nat} : ck_Ok p2_O X LX 320 p2_s1270 := ck_okq (cuts := []) (f := 790) ⟨p2_nmu, ck_E1 (ck_S1 p2_s1269_s ck_S0) (ck_E1 (ck_S1 p2_s190_s ck_S0) (ck_E1 (ck_S1 p2_s242_s (ck_S1 p2_s241_s ck_S0)) (ck_E1 (ck_S1 p2_s553_s ck_S0) (ck_E1 (ck_S1 p2_s1205_s ck_S0) ck_E0))))⟩ (by decide +kernel)
set_option maxRecDepth 100000 in
/-- GlacierMailModel.in -/
noncomputable def p2_s1271 : ck_Sum := (((0 : Nat), (0 : Nat), (0 : Nat)), (245 : Nat), [.inl (ck_one 34), .inl (ck_one 1), .inl (ck_one 50)], ([], [], []), ([], []), [(.inr (some (.inl (ck_one 1))), (245 : Nat), ([], [], []))])
set_option maxRecDepth 100000 in
theorem p2_s1271_s {X : Int → Int} {LX : Nat} : ck_Ok p2_O X LX 286 p2_s1271 := ck_okq (cuts := []) (f := 88) ⟨p2_nmu, ck_E0⟩ (by decide +kernel)
set_option maxRecDepth 100000 in
/-- GlacierMailModel.years -/
noncomputable def p2_s1272 : ck_Sum := (((10 : Nat), (0 : Nat), (0 : Nat)), (245 : Nat), [.inr (.inr (.inl (226 : Nat))), .inl (ck_one 34)], ([], [], zl181), (zl182, []), [(.inr (some (.inl ((0 : Int), (816 : Int), []))), (245 : Nat), ([], [], [((227 : Nat), (9 : Int), (9 : Int), ((34 : Int), (299 : Int), [((1000011 : Nat), (0 : Int))])), ((226 : Nat), (6 : Int), (6 : Int), ((0 : Int), (12 : Int), [((1000027 : Nat), (0 : Int))])), ((226 : Nat), (0 : Int), (0 : Int), ((0 : Int), (1 : Int), []))]))])
set_option maxRecDepth 100000 in
theorem p2_s1272_s {X : Int → Int} {LX : Nat} : ck_Ok p2_O X LX 320 p2_s1272 := ck_okq (cuts := []) (f := 810) ⟨p2_nmu, ck_E1 (ck_S1 p2_s1271_s ck_S0) (ck_E1 (ck_S1 p2_s190_s ck_S0) (ck_E1 (ck_S1 p2_s242_s (ck_S1 p2_s241_s ck_S0)) (ck_E1 (ck_S1 p2_s553_s ck_S0) (ck_E1 (ck_S1 p2_s1205_s ck_S0) ck_E0))))⟩ (by decide +kernel)
set_option maxRecDepth 100000 in
/-- GlacierMailModel.in -/
noncomputable def p2_s1273 : ck_Sum := (((0 : Nat), (0 : Nat), (0 : Nat)), (245 : Nat), [.inl (ck_one 35), .inl (ck_one 1), .inl (ck_one 50)], ([], [], []), ([], []), [(.inr (some (.inl (ck_one 1))), (245 : Nat), ([], [], []))])
set_option maxRecDepth 100000 in
theorem p2_s1273_s {X : Int → Int} {LX : Nat} : ck_Ok p2_O X LX 286 p2_s1273 := ck_okq (cuts := []) (f := 88) ⟨p2_nmu, ck_E0⟩ (by decide +kernel)
set_option maxRecDepth 100000 in
/-- GlacierMailModel.years -/
noncomputable def p2_s1274 : ck_Sum := (((10 : Nat), (0 : Nat), (0 : Nat)), (245 : Nat), [.inr (.inr (.inl (226 : Nat))), .inl (ck_one 35)], ([], [], zl181), (zl182, []), [(.inr (some (.inl ((0 : Int), (840 : Int), []))), (245 : Nat), ([], [], [((227 : Nat), (9 : Int), (9 : Int), ((35 : Int), (299 : Int), [((1000011 : Nat), (0 : Int))])), ((226 : Nat), (6 : Int), (6 : Int), ((0 : Int), (12 : Int), [((1000027 : Nat), (0 : Int))])), ((226 : Nat), (0 : Int), (0 : Int), ((0 : Int), (1 : Int), []))]))])
set_option maxRecDepth 100000 in
theorem p2_s1274_s {X : Int → Int} {LX : Nat} : ck_Ok p2_O X LX 320 p2_s1274 := ck_okq (cuts := []) (f := 830) ⟨p2_nmu, ck_E1 (ck_S1 p2_s1273_s ck_S0) (ck_E1 (ck_S1 p2_s190_s ck_S0) (ck_E1 (ck_S1 p2_s242_s (ck_S1 p2_s241_s ck_S0)) (ck_E1 (ck_S1 p2_s553_s ck_S0) (ck_E1 (ck_S1 p2_s1205_s ck_S0) ck_E0))))⟩ (by decide +kernel)
set_option maxRecDepth 100000 in
/-- GlacierMailModel.in -/
noncomputable def p2_s1275 : ck_Sum := (((0 : Nat), (0 : Nat), (0 : Nat)), (245 : Nat), [.inl (ck_one 36), .inl (ck_one 1), .inl (ck_one 50)], ([], [], []), ([], []), [(.inr (some (.inl (ck_one 1))), (245 : Nat), ([], [], []))])
set_option maxRecDepth 100000 in
theorem p2_s1275_s {X : Int → Int} {LX : Nat} : ck_Ok p2_O X LX 286 p2_s1275 := ck_okq (cuts := []) (f := 88) ⟨p2_nmu, ck_E0⟩ (by decide +kernel)
set_option maxRecDepth 100000 in
/-- GlacierMailModel.years -/
noncomputable def p2_s1276 : ck_Sum := (((10 : Nat), (0 : Nat), (0 : Nat)), (245 : Nat), [.inr (.inr (.inl (226 : Nat))), .inl (ck_one 36)], ([], [], zl181), (zl182, []), [(.inr (some (.inl ((0 : Int), (864 : Int), []))), (245 : Nat), ([], [], [((227 : Nat), (9 : Int), (9 : Int), ((36 : Int), (299 : Int), [((1000011 : Nat), (0 : Int))])), ((226 : Nat), (6 : Int), (6 : Int), ((0 : Int), (12 : Int), [((1000027 : Nat), (0 : Int))])), ((226 : Nat), (0 : Int), (0 : Int), ((0 : Int), (1 : Int), []))]))])
set_option maxRecDepth 100000 in
theorem p2_s1276_s {X : Int → Int} {LX : Nat} : ck_Ok p2_O X LX 320 p2_s1276 := ck_okq (cuts := []) (f := 850) ⟨p2_nmu, ck_E1 (ck_S1 p2_s1275_s ck_S0) (ck_E1 (ck_S1 p2_s190_s ck_S0) (ck_E1 (ck_S1 p2_s242_s (ck_S1 p2_s241_s ck_S0)) (ck_E1 (ck_S1 p2_s553_s ck_S0) (ck_E1 (ck_S1 p2_s1205_s ck_S0) ck_E0))))⟩ (by decide +kernel)
set_option maxRecDepth 100000 in
/-- GlacierMailModel.in -/
noncomputable def p2_s1277 : ck_Sum := (((0 : Nat), (0 : Nat), (0 : Nat)), (245 : Nat), [.inl (ck_one 37), .inl (ck_one 1), .inl (ck_one 50)], ([], [], []), ([], []), [(.inr (some (.inl (ck_one 1))), (245 : Nat), ([], [], []))])
set_option maxRecDepth 100000 in
theorem p2_s1277_s {X : Int → Int} {LX : Nat} : ck_Ok p2_O X LX 286 p2_s1277 := ck_okq (cuts := []) (f := 88) ⟨p2_nmu, ck_E0⟩ (by decide +kernel)
set_option maxRecDepth 100000 in
/-- GlacierMailModel.years -/
noncomputable def p2_s1278 : ck_Sum := (((10 : Nat), (0 : Nat), (0 : Nat)), (245 : Nat), [.inr (.inr (.inl (226 : Nat))), .inl (ck_one 37)], ([], [], zl181), (zl182, []), [(.inr (some (.inl ((0 : Int), (888 : Int), []))), (245 : Nat), ([], [], [((227 : Nat), (9 : Int), (9 : Int), ((37 : Int), (299 : Int), [((1000011 : Nat), (0 : Int))])), ((226 : Nat), (6 : Int), (6 : Int), ((0 : Int), (12 : Int), [((1000027 : Nat), (0 : Int))])), ((226 : Nat), (0 : Int), (0 : Int), ((0 : Int), (1 : Int), []))]))])
set_option maxRecDepth 100000 in
theorem p2_s1278_s {X : Int → Int} {LX : Nat} : ck_Ok p2_O X LX 320 p2_s1278 := ck_okq (cuts := []) (f := 870) ⟨p2_nmu, ck_E1 (ck_S1 p2_s1277_s ck_S0) (ck_E1 (ck_S1 p2_s190_s ck_S0) (ck_E1 (ck_S1 p2_s242_s (ck_S1 p2_s241_s ck_S0)) (ck_E1 (ck_S1 p2_s553_s ck_S0) (ck_E1 (ck_S1 p2_s1205_s ck_S0) ck_E0))))⟩ (by decide +kernel)
set_option maxRecDepth 100000 in
/-- GlacierMailModel.in -/
noncomputable def p2_s1279 : ck_Sum := (((0 : Nat), (0 : Nat), (0 : Nat)), (245 : Nat), [.inl (ck_one 38), .inl (ck_one 1), .inl (ck_one 50)], ([], [], []), ([], []), [(.inr (some (.inl (ck_one 1))), (245 : Nat), ([], [], []))])
set_option maxRecDepth 100000 in
theorem p2_s1279_s {X : Int → Int} {LX : Nat} : ck_Ok p2_O X LX 286 p2_s1279 := ck_okq (cuts := []) (f := 88) ⟨p2_nmu, ck_E0⟩ (by decide +kernel)
set_option maxRecDepth 100000 in
/-- GlacierMailModel.years -/
noncomputable def p2_s1280 : ck_Sum := (((10 : Nat), (0 : Nat), (0 : Nat)), (245 : Nat), [.inr (.inr (.inl (226 : Nat))), .inl (ck_one 38)], ([], [], zl181), (zl182, []), [(.inr (some (.inl ((0 : Int), (912 : Int), []))), (245 : Nat), ([], [], [((227 : Nat), (9 : Int), (9 : Int), ((38 : Int), (299 : Int), [((1000011 : Nat), (0 : Int))])), ((226 : Nat), (6 : Int), (6 : Int), ((0 : Int), (12 : Int), [((1000027 : Nat), (0 : Int))])), ((226 : Nat), (0 : Int), (0 : Int), ((0 : Int), (1 : Int), []))]))])
set_option maxRecDepth 100000 in
theorem p2_s1280_s {X : Int → Int} {LX : Nat} : ck_Ok p2_O X LX 320 p2_s1280 := ck_okq (cuts := []) (f := 890) ⟨p2_nmu, ck_E1 (ck_S1 p2_s1279_s ck_S0) (ck_E1 (ck_S1 p2_s190_s ck_S0) (ck_E1 (ck_S1 p2_s242_s (ck_S1 p2_s241_s ck_S0)) (ck_E1 (ck_S1 p2_s553_s ck_S0) (ck_E1 (ck_S1 p2_s1205_s ck_S0) ck_E0))))⟩ (by decide +kernel)
set_option maxRecDepth 100000 in
/-- GlacierMailModel.in -/
noncomputable def p2_s1281 : ck_Sum := (((0 : Nat), (0 : Nat), (0 : Nat)), (245 : Nat), [.inl (ck_one 39), .inl (ck_one 1), .inl (ck_one 50)], ([], [], []), ([], []), [(.inr (some (.inl (ck_one 1))), (245 : Nat), ([], [], []))])
set_option maxRecDepth 100000 in
theorem p2_s1281_s {X : Int → Int} {LX : Nat} : ck_Ok p2_O X LX 286 p2_s1281 := ck_okq (cuts := []) (f := 88) ⟨p2_nmu, ck_E0⟩ (by decide +kernel)
set_option maxRecDepth 100000 in
/-- GlacierMailModel.years -/
noncomputable def p2_s1282 : ck_Sum := (((10 : Nat), (0 : Nat), (0 : Nat)), (245 : Nat), [.inr (.inr (.inl (226 : Nat))), .inl (ck_one 39)], ([], [], zl181), (zl182, []), [(.inr (some (.inl ((0 : Int), (936 : Int), []))), (245 : Nat), ([], [], [((227 : Nat), (9 : Int), (9 : Int), ((39 : Int), (299 : Int), [((1000011 : Nat), (0 : Int))])), ((226 : Nat), (6 : Int), (6 : Int), ((0 : Int), (12 : Int), [((1000027 : Nat), (0 : Int))])), ((226 : Nat), (0 : Int), (0 : Int), ((0 : Int), (1 : Int), []))]))])
set_option maxRecDepth 100000 in
theorem p2_s1282_s {X : Int → Int} {LX : Nat} : ck_Ok p2_O X LX 320 p2_s1282 := ck_okq (cuts := []) (f := 910) ⟨p2_nmu, ck_E1 (ck_S1 p2_s1281_s ck_S0) (ck_E1 (ck_S1 p2_s190_s ck_S0) (ck_E1 (ck_S1 p2_s242_s (ck_S1 p2_s241_s ck_S0)) (ck_E1 (ck_S1 p2_s553_s ck_S0) (ck_E1 (ck_S1 p2_s1205_s ck_S0) ck_E0))))⟩ (by decide +kernel)
set_option maxRecDepth 100000 in
/-- GlacierMailModel.in -/
noncomputable def p2_s1283 : ck_Sum := (((0 : Nat), (0 : Nat), (0 : Nat)), (245 : Nat), [.inl (ck_one 40), .inl (ck_one 1), .inl (ck_one 50)], ([], [], []), ([], []), [(.inr (some (.inl (ck_one 1))), (245 : Nat), ([], [], []))])
set_option maxRecDepth 100000 in
theorem p2_s1283_s {X : Int → Int} {LX : Nat} : ck_Ok p2_O X LX 286 p2_s1283 := ck_okq (cuts := []) (f := 88) ⟨p2_nmu, ck_E0⟩ (by decide +kernel)
set_option maxRecDepth 100000 in
/-- GlacierMailModel.years -/
noncomputable def p2_s1284 : ck_Sum := (((10 : Nat), (0 : Nat), (0 : Nat)), (245 : Nat), [.inr (.inr (.inl (226 : Nat))), .inl (ck_one 40)], ([], [], zl181), (zl182, []), [(.inr (some (.inl ((0 : Int), (960 : Int), []))), (245 : Nat), ([], [], [((227 : Nat), (9 : Int), (9 : Int), ((40 : Int), (299 : Int), [((1000011 : Nat), (0 : Int))])), ((226 : Nat), (6 : Int), (6 : Int), ((0 : Int), (12 : Int), [((1000027 : Nat), (0 : Int))])), ((226 : Nat), (0 : Int), (0 : Int), ((0 : Int), (1 : Int), []))]))])
set_option maxRecDepth 100000 in
theorem p2_s1284_s {X : Int → Int} {LX : Nat} : ck_Ok p2_O X LX 320 p2_s1284 := ck_okq (cuts := []) (f := 930) ⟨p2_nmu, ck_E1 (ck_S1 p2_s1283_s ck_S0) (ck_E1 (ck_S1 p2_s190_s ck_S0) (ck_E1 (ck_S1 p2_s242_s (ck_S1 p2_s241_s ck_S0)) (ck_E1 (ck_S1 p2_s553_s ck_S0) (ck_E1 (ck_S1 p2_s1205_s ck_S0) ck_E0))))⟩ (by decide +kernel)
set_option maxRecDepth 100000 in
/-- GlacierMailModel.in -/
noncomputable def p2_s1285 : ck_Sum := (((0 : Nat), (0 : Nat), (0 : Nat)), (245 : Nat), [.inl (ck_one 41), .inl (ck_one 1), .inl (ck_one 50)], ([], [], []), ([], []), [(.inr (some (.inl (ck_one 1))), (245 : Nat), ([], [], []))])
set_option maxRecDepth 100000 in
theorem p2_s1285_s {X : Int → Int} {LX : Nat} : ck_Ok p2_O X LX 286 p2_s1285 := ck_okq (cuts := []) (f := 88) ⟨p2_nmu, ck_E0⟩ (by decide +kernel)
set_option maxRecDepth 100000 in
/-- GlacierMailModel.years -/
noncomputable def p2_s1286 : ck_Sum := (((10 : Nat), (0 : Nat), (0 : Nat)), (245 : Nat), [.inr (.inr (.inl (226 : Nat))), .inl (ck_one 41)], ([], [], zl181), (zl182, []), [(.inr (some (.inl ((0 : Int), (984 : Int), []))), (245 : Nat), ([], [], [((227 : Nat), (9 : Int), (9 : Int), ((41 : Int), (299 : Int), [((1000011 : Nat), (0 : Int))])), ((226 : Nat), (6 : Int), (6 : Int), ((0 : Int), (12 : Int), [((1000027 : Nat), (0 : Int))])), ((226 : Nat), (0 : Int), (0 : Int), ((0 : Int), (1 : Int), []))]))])
set_option maxRecDepth 100000 in
theorem p2_s1286_s {X : Int → Int} {LX : Nat} : ck_Ok p2_O X LX 320 p2_s1286 := ck_okq (cuts := []) (f := 950) ⟨p2_nmu, ck_E1 (ck_S1 p2_s1285_s ck_S0) (ck_E1 (ck_S1 p2_s190_s ck_S0) (ck_E1 (ck_S1 p2_s242_s (ck_S1 p2_s241_s ck_S0)) (ck_E1 (ck_S1 p2_s553_s ck_S0) (ck_E1 (ck_S1 p2_s1205_s ck_S0) ck_E0))))⟩ (by decide +kernel)
set_option maxRecDepth 100000 in
/-- GlacierMailModel.in -/
noncomputable def p2_s1287 : ck_Sum := (((0 : Nat), (0 : Nat), (0 : Nat)), (245 : Nat), [.inl (ck_one 42), .inl (ck_one 1), .inl (ck_one 50)], ([], [], []), ([], []), [(.inr (some (.inl (ck_one 1))), (245 : Nat), ([], [], []))])
set_option maxRecDepth 100000 in
theorem p2_s1287_s {X : Int → Int} {LX : Nat} : ck_Ok p2_O X LX 286 p2_s1287 := ck_okq (cuts := []) (f := 88) ⟨p2_nmu, ck_E0⟩ (by decide +kernel)
set_option maxRecDepth 100000 in
/-- GlacierMailModel.years -/
noncomputable def p2_s1288 : ck_Sum := (((10 : Nat), (0 : Nat), (0 : Nat)), (245 : Nat), [.inr (.inr (.inl (226 : Nat))), .inl (ck_one 42)], ([], [], zl181), (zl182, []), [(.inr (some (.inl ((0 : Int), (1008 : Int), []))), (245 : Nat), ([], [], [((227 : Nat), (9 : Int), (9 : Int), ((42 : Int), (299 : Int), [((1000011 : Nat), (0 : Int))])), ((226 : Nat), (6 : Int), (6 : Int), ((0 : Int), (12 : Int), [((1000027 : Nat), (0 : Int))])), ((226 : Nat), (0 : Int), (0 : Int), ((0 : Int), (1 : Int), []))]))])
set_option maxRecDepth 100000 in
theorem p2_s1288_s {X : Int → Int} {LX : Nat} : ck_Ok p2_O X LX 320 p2_s1288 := ck_okq (cuts := []) (f := 970) ⟨p2_nmu, ck_E1 (ck_S1 p2_s1287_s ck_S0) (ck_E1 (ck_S1 p2_s190_s ck_S0) (ck_E1 (ck_S1 p2_s242_s (ck_S1 p2_s241_s ck_S0)) (ck_E1 (ck_S1 p2_s553_s ck_S0) (ck_E1 (ck_S1 p2_s1205_s ck_S0) ck_E0))))⟩ (by decide +kernel)
set_option maxRecDepth 100000 in
/-- GlacierMailModel.in -/
noncomputable def p2_s1289 : ck_Sum := (((0 : Nat), (0 : Nat), (0 : Nat)), (245 : Nat), [.inl (ck_one 43), .inl (ck_one 1), .inl (ck_one 50)], ([], [], []), ([], []), [(.inr (some (.inl (ck_one 1))), (245 : Nat), ([], [], []))])
set_option maxRecDepth 100000 in
theorem p2_s1289_s {X : Int → Int} {LX : Nat} : ck_Ok p2_O X LX 286 p2_s1289 := ck_okq (cuts := []) (f := 88) ⟨p2_nmu, ck_E0⟩ (by decide +kernel)
set_option maxRecDepth 100000 in
/-- GlacierMailModel.years -/
noncomputable def p2_s1290 : ck_Sum := (((10 : Nat), (0 : Nat), (0 : Nat)), (245 : Nat), [.inr (.inr (.inl (226 : Nat))), .inl (ck_one 43)], ([], [], zl181), (zl182, []), [(.inr (some (.inl ((0 : Int), (1032 : Int), []))), (245 : Nat), ([], [], [((227 : Nat), (9 : Int), (9 : Int), ((43 : Int), (299 : Int), [((1000011 : Nat), (0 : Int))])), ((226 : Nat), (6 : Int), (6 : Int), ((0 : Int), (12 : Int), [((1000027 : Nat), (0 : Int))])), ((226 : Nat), (0 : Int), (0 : Int), ((0 : Int), (1 : Int), []))]))])
set_option maxRecDepth 100000 in
theorem p2_s1290_s {X : Int → Int} {LX : Nat} : ck_Ok p2_O X LX 320 p2_s1290 := ck_okq (cuts := []) (f := 990) ⟨p2_nmu, ck_E1 (ck_S1 p2_s1289_s ck_S0) (ck_E1 (ck_S1 p2_s190_s ck_S0) (ck_E1 (ck_S1 p2_s242_s (ck_S1 p2_s241_s ck_S0)) (ck_E1 (ck_S1 p2_s553_s ck_S0) (ck_E1 (ck_S1 p2_s1205_s ck_S0) ck_E0))))⟩ (by decide +kernel)
set_option maxRecDepth 100000 in
/-- GlacierMailModel.in -/
noncomputable def p2_s1291 : ck_Sum := (((0 : Nat), (0 : Nat), (0 : Nat)), (245 : Nat), [.inl (ck_one 44), .inl (ck_one 1), .inl (ck_one 50)], ([], [], []), ([], []), [(.inr (some (.inl (ck_one 1))), (245 : Nat), ([], [], []))])
set_option maxRecDepth 100000 in
theorem p2_s1291_s {X : Int → Int} {LX : Nat} : ck_Ok p2_O X LX 286 p2_s1291 := ck_okq (cuts := []) (f := 88) ⟨p2_nmu, ck_E0⟩ (by decide +kernel)
set_option maxRecDepth 100000 in
/-- GlacierMailModel.years -/
noncomputable def p2_s1292 : ck_Sum := (((10 : Nat), (0 : Nat), (0 : Nat)), (245 : Nat), [.inr (.inr (.inl (226 : Nat))), .inl (ck_one 44)], ([], [], zl181), (zl182, []), [(.inr (some (.inl ((0 : Int), (1056 : Int), []))), (245 : Nat), ([], [], [((227 : Nat), (9 : Int), (9 : Int), ((44 : Int), (299 : Int), [((1000011 : Nat), (0 : Int))])), ((226 : Nat), (6 : Int), (6 : Int), ((0 : Int), (12 : Int), [((1000027 : Nat), (0 : Int))])), ((226 : Nat), (0 : Int), (0 : Int), ((0 : Int), (1 : Int), []))]))])
set_option maxRecDepth 100000 in
theorem p2_s1292_s {X : Int → Int} {LX : Nat} : ck_Ok p2_O X LX 320 p2_s1292 := ck_okq (cuts := []) (f := 1010) ⟨p2_nmu, ck_E1 (ck_S1 p2_s1291_s ck_S0) (ck_E1 (ck_S1 p2_s190_s ck_S0) (ck_E1 (ck_S1 p2_s242_s (ck_S1 p2_s241_s ck_S0)) (ck_E1 (ck_S1 p2_s553_s ck_S0) (ck_E1 (ck_S1 p2_s1205_s ck_S0) ck_E0))))⟩ (by decide +kernel)
set_option maxRecDepth 100000 in
/-- GlacierMailModel.in -/
noncomputable def p2_s1293 : ck_Sum := (((0 : Nat), (0 : Nat), (0 : Nat)), (245 : Nat), [.inl (ck_one 45), .inl (ck_one 1), .inl (ck_one 50)], ([], [], []), ([], []), [(.inr (some (.inl (ck_one 1))), (245 : Nat), ([], [], []))])
set_option maxRecDepth 100000 in
theorem p2_s1293_s {X : Int → Int} {LX : Nat} : ck_Ok p2_O X LX 286 p2_s1293 := ck_okq (cuts := []) (f := 88) ⟨p2_nmu, ck_E0⟩ (by decide +kernel)
set_option maxRecDepth 100000 in
/-- GlacierMailModel.years -/
noncomputable def p2_s1294 : ck_Sum := (((10 : Nat), (0 : Nat), (0 : Nat)), (245 : Nat), [.inr (.inr (.inl (226 : Nat))), .inl (ck_one 45)], ([], [], zl181), (zl182, []), [(.inr (some (.inl ((0 : Int), (1080 : Int), []))), (245 : Nat), ([], [], [((227 : Nat), (9 : Int), (9 : Int), ((45 : Int), (299 : Int), [((1000011 : Nat), (0 : Int))])), ((226 : Nat), (6 : Int), (6 : Int), ((0 : Int), (12 : Int), [((1000027 : Nat), (0 : Int))])), ((226 : Nat), (0 : Int), (0 : Int), ((0 : Int), (1 : Int), []))]))])
set_option maxRecDepth 100000 in
theorem p2_s1294_s {X : Int → Int} {LX : Nat} : ck_Ok p2_O X LX 320 p2_s1294 := ck_okq (cuts := []) (f := 1030) ⟨p2_nmu, ck_E1 (ck_S1 p2_s1293_s ck_S0) (ck_E1 (ck_S1 p2_s190_s ck_S0) (ck_E1 (ck_S1 p2_s242_s (ck_S1 p2_s241_s ck_S0)) (ck_E1 (ck_S1 p2_s553_s ck_S0) (ck_E1 (ck_S1 p2_s1205_s ck_S0) ck_E0))))⟩ (by decide +kernel)
set_option maxRecDepth 100000 in
/-- GlacierMailModel.in -/
noncomputable def p2_s1295 : ck_Sum := (((0 : Nat), (0 : Nat), (0 : Nat)), (245 : Nat), [.inl (ck_one 46), .inl (ck_one 1), .inl (ck_one 50)], ([], [], []), ([], []), [(.inr (some (.inl (ck_one 1))), (245 : Nat), ([], [], []))])
set_option maxRecDepth 100000 in
theorem p2_s1295_s {X : Int → Int} {LX : Nat} : ck_Ok p2_O X LX 286 p2_s1295 := ck_okq (cuts := []) (f := 88) ⟨p2_nmu, ck_E0⟩ (by decide +kernel)
set_option maxRecDepth 100000 in
/-- GlacierMailModel.years -/
noncomputable def p2_s1296 : ck_Sum := (((10 : Nat), (0 : Nat), (0 : Nat)), (245 : Nat), [.inr (.inr (.inl (226 : Nat))), .inl (ck_one 46)], ([], [], zl181), (zl182, []), [(.inr (some (.inl ((0 : Int), (1104 : Int), []))), (245 : Nat), ([], [], [((227 : Nat), (9 : Int), (9 : Int), ((46 : Int), (299 : Int), [((1000011 : Nat), (0 : Int))])), ((226 : Nat), (6 : Int), (6 : Int), ((0 : Int), (12 : Int), [((1000027 : Nat), (0 : Int))])), ((226 : Nat), (0 : Int), (0 : Int), ((0 : Int), (1 : Int), []))]))])
set_option maxRecDepth 100000 in
theorem p2_s1296_s {X : Int → Int} {LX : Nat} : ck_Ok p2_O X LX 320 p2_s1296 := ck_okq (cuts := []) (f := 1050) ⟨p2_nmu, ck_E1 (ck_S1 p2_s1295_s ck_S0) (ck_E1 (ck_S1 p2_s190_s ck_S0) (ck_E1 (ck_S1 p2_s242_s (ck_S1 p2_s241_s ck_S0)) (ck_E1 (ck_S1 p2_s553_s ck_S0) (ck_E1 (ck_S1 p2_s1205_s ck_S0) ck_E0))))⟩ (by decide +kernel)
set_option maxRecDepth 100000 in
/-- GlacierMailModel.in -/
noncomputable def p2_s1297 : ck_Sum := (((0 : Nat), (0 : Nat), (0 : Nat)), (245 : Nat), [.inl (ck_one 47), .inl (ck_one 1), .inl (ck_one 50)], ([], [], []), ([], []), [(.inr (some (.inl (ck_one 1))), (245 : Nat), ([], [], []))])
set_option maxRecDepth 100000 in
theorem p2_s1297_s {X : Int → Int} {LX : Nat} : ck_Ok p2_O X LX 286 p2_s1297 := ck_okq (cuts := []) (f := 88) ⟨p2_nmu, ck_E0⟩ (by decide +kernel)
set_option maxRecDepth 100000 in
/-- GlacierMailModel.years -/
noncomputable def p2_s1298 : ck_Sum := (((10 : Nat), (0 : Nat), (0 : Nat)), (245 : Nat), [.inr (.inr (.inl (226 : Nat))), .inl (ck_one 47)], ([], [], zl181), (zl182, []), [(.inr (some (.inl ((0 : Int), (1128 : Int), []))), (245 : Nat), ([], [], [((227 : Nat), (9 : Int), (9 : Int), ((47 : Int), (299 : Int), [((1000011 : Nat), (0 : Int))])), ((226 : Nat), (6 : Int), (6 : Int), ((0 : Int), (12 : Int), [((1000027 : Nat), (0 : Int))])), ((226 : Nat), (0 : Int), (0 : Int), ((0 : Int), (1 : Int), []))]))])
set_option maxRecDepth 100000 in
theorem p2_s1298_s {X : Int → Int} {LX : Nat} : ck_Ok p2_O X LX 320 p2_s1298 := ck_okq (cuts := []) (f := 1070) ⟨p2_nmu, ck_E1 (ck_S1 p2_s1297_s ck_S0) (ck_E1 (ck_S1 p2_s190_s ck_S0) (ck_E1 (ck_S1 p2_s242_s (ck_S1 p2_s241_s ck_S0)) (ck_E1 (ck_S1 p2_s553_s ck_S0) (ck_E1 (ck_S1 p2_s1205_s ck_S0) ck_E0))))⟩ (by decide +kernel)
set_option maxRecDepth 100000 in
/-- GlacierMailModel.in -/
noncomputable def p2_s1299 : ck_Sum := (((0 : Nat), (0 : Nat), (0 : Nat)), (245 : Nat), [.inl (ck_one 48), .inl (ck_one 1), .inl (ck_one 50)], ([], [], []), ([], []), [(.inr (some (.inl (ck_one 1))), (245 : Nat), ([], [], []))])
set_option maxRecDepth 100000 in
theorem p2_s1299_s {X : Int → Int} {LX : Nat} : ck_Ok p2_O X LX 286 p2_s1299 := ck_okq (cuts := []) (f := 88) ⟨p2_nmu, ck_E0⟩ (by decide +kernel)
set_option maxRecDepth 100000 in
/-- GlacierMailModel.years -/
noncomputable def p2_s1300 : ck_Sum := (((10 : Nat), (0 : Nat), (0 : Nat)), (245 : Nat), [.inr (.inr (.inl (226 : Nat))), .inl (ck_one 48)], ([], [], zl181), (zl182, []), [(.inr (some (.inl ((0 : Int), (1152 : Int), []))), (245 : Nat), ([], [], [((227 : Nat), (9 : Int), (9 : Int), ((48 : Int), (299 : Int), [((1000011 : Nat), (0 : Int))])), ((226 : Nat), (6 : Int), (6 : Int), ((0 : Int), (12 : Int), [((1000027 : Nat), (0 : Int))])), ((226 : Nat), (0 : Int), (0 : Int), ((0 : Int), (1 : Int), []))]))])
set_option maxRecDepth 100000 in
theorem p2_s1300_s {X : Int → Int} {LX : Nat} : ck_Ok p2_O X LX 320 p2_s1300 := ck_okq (cuts := []) (f := 1090) ⟨p2_nmu, ck_E1 (ck_S1 p2_s1299_s ck_S0) (ck_E1 (ck_S1 p2_s190_s ck_S0) (ck_E1 (ck_S1 p2_s242_s (ck_S1 p2_s241_s ck_S0)) (ck_E1 (ck_S1 p2_s553_s ck_S0) (ck_E1 (ck_S1 p2_s1205_s ck_S0) ck_E0))))⟩ (by decide +kernel)
set_option maxRecDepth 100000 in
/-- GlacierMailModel.in -/
noncomputable def p2_s1301 : ck_Sum := (((0 : Nat), (0 : Nat), (0 : Nat)), (245 : Nat), [.inl (ck_one 49), .inl (ck_one 1), .inl (ck_one 50)], ([], [], []), ([], []), [(.inr (some (.inl (ck_one 1))), (245 : Nat), ([], [], []))])
set_option maxRecDepth 100000 in
theorem p2_s1301_s {X : Int → Int} {LX : Nat} : ck_Ok p2_O X LX 286 p2_s1301 := ck_okq (cuts := []) (f := 88) ⟨p2_nmu, ck_E0⟩ (by decide +kernel)
set_option maxRecDepth 100000 in
/-- GlacierMailModel.years -/
noncomputable def p2_s1302 : ck_Sum := (((10 : Nat), (0 : Nat), (0 : Nat)), (245 : Nat), [.inr (.inr (.inl (226 : Nat))), .inl (ck_one 49)], ([], [], zl181), (zl182, []), [(.inr (some (.inl ((0 : Int), (1176 : Int), []))), (245 : Nat), ([], [], [((227 : Nat), (9 : Int), (9 : Int), ((49 : Int), (299 : Int), [((1000011 : Nat), (0 : Int))])), ((226 : Nat), (6 : Int), (6 : Int), ((0 : Int), (12 : Int), [((1000027 : Nat), (0 : Int))])), ((226 : Nat), (0 : Int), (0 : Int), ((0 : Int), (1 : Int), []))]))])
set_option maxRecDepth 100000 in
theorem p2_s1302_s {X : Int → Int} {LX : Nat} : ck_Ok p2_O X LX 320 p2_s1302 := ck_okq (cuts := []) (f := 1110) ⟨p2_nmu, ck_E1 (ck_S1 p2_s1301_s ck_S0) (ck_E1 (ck_S1 p2_s190_s ck_S0) (ck_E1 (ck_S1 p2_s242_s (ck_S1 p2_s241_s ck_S0)) (ck_E1 (ck_S1 p2_s553_s ck_S0) (ck_E1 (ck_S1 p2_s1205_s ck_S0) ck_E0))))⟩ (by decide +kernel)
set_option maxRecDepth 100000 in
/-- GlacierMailModel.in -/
noncomputable def p2_s1303 : ck_Sum := (((0 : Nat), (0 : Nat), (0 : Nat)), (245 : Nat), [.inl (ck_one 50), .inl (ck_one 1), .inl (ck_one 50)], ([], [], []), ([], []), [(.inr (some (.inl (ck_one 1))), (245 : Nat), ([], [], []))])
set_option maxRecDepth 100000 in
theorem p2_s1303_s {X : Int → Int} {LX : Nat} : ck_Ok p2_O X LX 286 p2_s1303 := ck_okq (cuts := []) (f := 88) ⟨p2_nmu, ck_E0⟩ (by decide +kernel)
set_option maxRecDepth 100000 in
/-- GlacierMailModel.years -/
noncomputable def p2_s1304 : ck_Sum := (((10 : Nat), (0 : Nat), (0 : Nat)), (245 : Nat), [.inr (.inr (.inl (226 : Nat))), .inl (ck_one 50)], ([], [], zl181), (zl182, []), [(.inr (some (.inl ((0 : Int), (1200 : Int), []))), (245 : Nat), ([], [], [((227 : Nat), (9 : Int), (9 : Int), ((50 : Int), (299 : Int), [((1000011 : Nat), (0 : Int))])), ((226 : Nat), (6 : Int), (6 : Int), ((0 : Int), (12 : Int), [((1000027 : Nat), (0 : Int))])), ((226 : Nat), (0 : Int), (0 : Int), ((0 : Int), (1 : Int), []))]))])
set_option maxRecDepth 100000 in
theorem p2_s1304_s {X : Int → Int} {LX : Nat} : ck_Ok p2_O X LX 320 p2_s1304 := ck_okq (cuts := []) (f := 1130) ⟨p2_nmu, ck_E1 (ck_S1 p2_s1303_s ck_S0) (ck_E1 (ck_S1 p2_s190_s ck_S0) (ck_E1 (ck_S1 p2_s242_s (ck_S1 p2_s241_s ck_S0)) (ck_E1 (ck_S1 p2_s553_s ck_S0) (ck_E1 (ck_S1 p2_s1205_s ck_S0) ck_E0))))⟩ (by decide +kernel)
set_option maxRecDepth 100000 in
/-- GlacierMail.throwsFor -/
noncomputable def p2_s1305 : ck_Sum := (((8 : Nat), (1 : Nat), (6 : Nat)), (245 : Nat), [.inr (.inr (.inl (1 : Nat))), .inl ((-2147483648 : Int), (-1 : Int), []), .inl ((-2147483648 : Int), (2147483647 : Int), []), .inl ((-2147483648 : Int), (2147483647 : Int), []), .inl ((-2147483648 : Int), (2147483647 : Int), [])], ([], [], []), ([], []), [(.inl (3 : Nat), (245 : Nat), ([], [], []))])
set_option maxRecDepth 100000 in
theorem p2_s1305_s {X : Int → Int} {LX : Nat} : ck_Ok p2_O X LX 167 p2_s1305 := ck_okq (cuts := []) (f := 76) ⟨p2_nmu, ck_E1 (ck_S1 p2_s266_s ck_S0) ck_E0⟩ (by decide +kernel)
set_option maxRecDepth 100000 in
/-- GlacierMail.throwsFor -/
noncomputable def p2_s1306 : ck_Sum := (((8 : Nat), (1 : Nat), (6 : Nat)), (245 : Nat), [.inr (.inr (.inl (1 : Nat))), .inl ((6 : Int), (2147483647 : Int), []), .inl ((-2147483648 : Int), (2147483647 : Int), []), .inl ((-2147483648 : Int), (2147483647 : Int), []), .inl ((-2147483648 : Int), (2147483647 : Int), [])], ([], [], []), ([], []), [(.inl (3 : Nat), (245 : Nat), ([], [], []))])
set_option maxRecDepth 100000 in
theorem p2_s1306_s {X : Int → Int} {LX : Nat} : ck_Ok p2_O X LX 167 p2_s1306 := ck_okq (cuts := []) (f := 76) ⟨p2_nmu, ck_E1 (ck_S1 p2_s269_s ck_S0) ck_E0⟩ (by decide +kernel)
set_option maxRecDepth 100000 in
/-- GlacierMail.throwsFor -/
noncomputable def p2_s1307 : ck_Sum := (((8 : Nat), (2 : Nat), (12 : Nat)), (245 : Nat), [.inr (.inr (.inl (1 : Nat))), .inl ((0 : Int), (5 : Int), []), .inl ((-2147483648 : Int), (-1 : Int), []), .inl ((-2147483648 : Int), (2147483647 : Int), []), .inl ((-2147483648 : Int), (2147483647 : Int), [])], ([], [], []), ([], []), [(.inl (3 : Nat), (245 : Nat), ([], [], [])), (.inl (0 : Nat), (245 : Nat), ([], [], []))])
set_option maxRecDepth 100000 in
theorem p2_s1307_s {X : Int → Int} {LX : Nat} : ck_Ok p2_O X LX 167 p2_s1307 := ck_okq (cuts := []) (f := 82) ⟨p2_nmu, ck_E1 (ck_S1 p2_s272_s ck_S0) (ck_E1 (ck_S1 p2_s249_s ck_S0) ck_E0)⟩ (by decide +kernel)
set_option maxRecDepth 100000 in
/-- GlacierMail.throwsFor -/
noncomputable def p2_s1308 : ck_Sum := (((8 : Nat), (2 : Nat), (12 : Nat)), (245 : Nat), [.inr (.inr (.inl (1 : Nat))), .inl ((0 : Int), (5 : Int), []), .inl ((300 : Int), (2147483647 : Int), []), .inl ((-2147483648 : Int), (2147483647 : Int), []), .inl ((-2147483648 : Int), (2147483647 : Int), [])], ([], [], []), ([], []), [(.inl (3 : Nat), (245 : Nat), ([], [], [])), (.inl (0 : Nat), (245 : Nat), ([], [], []))])
set_option maxRecDepth 100000 in
theorem p2_s1308_s {X : Int → Int} {LX : Nat} : ck_Ok p2_O X LX 167 p2_s1308 := ck_okq (cuts := []) (f := 82) ⟨p2_nmu, ck_E1 (ck_S1 p2_s272_s ck_S0) (ck_E1 (ck_S1 p2_s251_s ck_S0) ck_E0)⟩ (by decide +kernel)
set_option maxRecDepth 100000 in
/-- GlacierMail.throwsFor -/
noncomputable def p2_s1309 : ck_Sum := (((8 : Nat), (2 : Nat), (12 : Nat)), (245 : Nat), [.inr (.inr (.inl (1 : Nat))), .inl ((0 : Int), (5 : Int), []), .inl ((0 : Int), (299 : Int), []), .inl ((-2147483648 : Int), (-1 : Int), []), .inl ((-2147483648 : Int), (2147483647 : Int), [])], ([], [], []), ([], []), [(.inl (3 : Nat), (245 : Nat), ([], [], [])), (.inl (0 : Nat), (245 : Nat), ([], [], []))])
set_option maxRecDepth 100000 in
theorem p2_s1309_s {X : Int → Int} {LX : Nat} : ck_Ok p2_O X LX 167 p2_s1309 := ck_okq (cuts := []) (f := 88) ⟨p2_nmu, ck_E1 (ck_S1 p2_s272_s ck_S0) (ck_E1 (ck_S1 p2_s253_s (ck_S1 p2_s249_s ck_S0)) ck_E0)⟩ (by decide +kernel)
set_option maxRecDepth 100000 in
/-- GlacierMail.throwsFor -/
noncomputable def p2_s1310 : ck_Sum := (((8 : Nat), (2 : Nat), (12 : Nat)), (245 : Nat), [.inr (.inr (.inl (1 : Nat))), .inl ((0 : Int), (5 : Int), []), .inl ((0 : Int), (299 : Int), []), .inl ((300 : Int), (2147483647 : Int), []), .inl ((-2147483648 : Int), (2147483647 : Int), [])], ([], [], []), ([], []), [(.inl (3 : Nat), (245 : Nat), ([], [], [])), (.inl (0 : Nat), (245 : Nat), ([], [], []))])
set_option maxRecDepth 100000 in
theorem p2_s1310_s {X : Int → Int} {LX : Nat} : ck_Ok p2_O X LX 167 p2_s1310 := ck_okq (cuts := []) (f := 88) ⟨p2_nmu, ck_E1 (ck_S1 p2_s272_s ck_S0) (ck_E1 (ck_S1 p2_s253_s (ck_S1 p2_s251_s ck_S0)) ck_E0)⟩ (by decide +kernel)
set_option maxRecDepth 100000 in
/-- GlacierMail.throwsFor -/
noncomputable def p2_s1311 : ck_Sum := (((8 : Nat), (2 : Nat), (12 : Nat)), (245 : Nat), [.inr (.inr (.inl (1 : Nat))), .inl ((0 : Int), (5 : Int), []), .inl ((0 : Int), (299 : Int), []), .inl ((0 : Int), (299 : Int), []), .inl ((-2147483648 : Int), (-1 : Int), [])], ([], [], [((3 : Nat), (6 : Int), (6 : Int), ((0 : Int), (299 : Int), [((10 : Nat), (0 : Int))]))]), ([], []), [(.inl (3 : Nat), (245 : Nat), ([], [], [])), (.inl (4 : Nat), (245 : Nat), ([], [], [])), (.inl (0 : Nat), (245 : Nat), ([], [], [((3 : Nat), (6 : Int), (6 : Int), ((1 : Int), (299 : Int), [((10 : Nat), (0 : Int))]))]))])
set_option maxRecDepth 100000 in
theorem p2_s1311_s {X : Int → Int} {LX : Nat} : ck_Ok p2_O X LX 167 p2_s1311 := ck_okq (cuts := []) (f := 104) ⟨p2_nmu, ck_E1 (ck_S1 p2_s272_s ck_S0) (ck_E1 (ck_S1 p2_s253_s ck_S0) ck_E0)⟩ (by decide +kernel)
set_option maxRecDepth 100000 in
/-- GlacierMail.throwsFor -/
noncomputable def p2_s1312 : ck_Sum := (((8 : Nat), (2 : Nat), (12 : Nat)), (245 : Nat), [.inr (.inr (.inl (1 : Nat))), .inl ((0 : Int), (5 : Int), []), .inl ((0 : Int), (299 : Int), []), .inl ((0 : Int), (299 : Int), []), .inl ((10 : Int), (2147483647 : Int), [])], ([], [], [((3 : Nat), (6 : Int), (6 : Int), ((0 : Int), (299 : Int), [((10 : Nat), (0 : Int))]))]), ([], []), [(.inl (3 : Nat), (245 : Nat), ([], [], [])), (.inl (4 : Nat), (245 : Nat), ([], [], [])), (.inl (0 : Nat), (245 : Nat), ([], [], [((3 : Nat), (6 : Int), (6 : Int), ((1 : Int), (299 : Int), [((10 : Nat), (0 : Int))]))]))])
set_option maxRecDepth 100000 in
theorem p2_s1312_s {X : Int → Int} {LX : Nat} : ck_Ok p2_O X LX 167 p2_s1312 := ck_okq (cuts := []) (f := 110) ⟨p2_nmu, ck_E1 (ck_S1 p2_s272_s ck_S0) (ck_E1 (ck_S1 p2_s253_s ck_S0) ck_E0)⟩ (by decide +kernel)
set_option maxRecDepth 100000 in
/-- GlacierMail$Way.start -/
noncomputable def p2_s1313 : ck_Sum := (((0 : Nat), (0 : Nat), (0 : Nat)), (245 : Nat), [.inr (.inr (.inl (206 : Nat))), .inl ((-2147483648 : Int), (2147483647 : Int), []), .inl ((-2147483648 : Int), (2147483647 : Int), []), .inl ((0 : Int), (299 : Int), []), .inl ((0 : Int), (1 : Int), [])], ([], [], []), ([((206 : Nat), (2 : Int), (8 : Int))], []), [(.inr none, (245 : Nat), ([], [], zl183))])
set_option maxRecDepth 100000 in
theorem p2_s1313_s {X : Int → Int} {LX : Nat} : ck_Ok p2_O X LX 29 p2_s1313 := ck_okq (cuts := []) (f := 114) ⟨p2_nmu, ck_E0⟩ (by decide +kernel)
set_option maxRecDepth 100000 in
/-- GlacierMail.throwsFor -/
noncomputable def p2_s1314 : ck_Sum := (((8 : Nat), (2 : Nat), (12 : Nat)), (245 : Nat), [.inr (.inr (.inl (1 : Nat))), .inl ((0 : Int), (5 : Int), []), .inl ((0 : Int), (299 : Int), []), .inl ((0 : Int), (299 : Int), []), .inl ((0 : Int), (9 : Int), [])], ([], [((3 : Nat), (8 : Int), (0 : Nat))], [((3 : Nat), (6 : Int), (6 : Int), ((0 : Int), (299 : Int), [((10 : Nat), (0 : Int))]))]), ([((206 : Nat), (2 : Int), (8 : Int))], []), [(.inl (3 : Nat), (245 : Nat), ([], [], [])), (.inl (4 : Nat), (245 : Nat), ([], [], [])), (.inl (0 : Nat), (245 : Nat), ([], [], [((3 : Nat), (6 : Int), (6 : Int), ((1 : Int), (299 : Int), [((10 : Nat), (0 : Int))]))])), (.inr (some (.inl ((-2147483648 : Int), (2147483647 : Int), []))), (245 : Nat), ([], [], []))])
set_option maxRecDepth 100000 in
theorem p2_s1314_s {X : Int → Int} {LX : Nat} : ck_Ok p2_O X LX 167 p2_s1314 := ck_okq (cuts := [((71 : Nat), [some (.inr (.inr (.inl (1 : Nat)))), some (.inl ((0 : Int), (5 : Int), [])), some (.inl ((0 : Int), (299 : Int), [])), some (.inl ((0 : Int), (299 : Int), [])), some (.inl ((0 : Int), (2 : Int), [])), some (.inl ((-2147483648 : Int), (2147483647 : Int), [])), some (.inl ((-1 : Int), (167 : Int), [])), some (.inl ((-1 : Int), (167 : Int), [])), some (.inl ((0 : Int), (167 : Int), []))], ([], [((3 : Nat), (8 : Int), (0 : Nat))], [((3 : Nat), (6 : Int), (6 : Int), ((0 : Int), (299 : Int), [((10 : Nat), (0 : Int))]))]), (100 : Nat), .inl (8 : Nat), true)]) (f := 210) ⟨p2_nmu, ck_E1 (ck_S1 p2_s272_s ck_S0) (ck_E1 (ck_S1 p2_s253_s ck_S0) (ck_E1 (ck_S1 p2_s1313_s ck_S0) (ck_E1 (ck_S1 p2_s346_s ck_S0) ck_E0)))⟩ (by decide +kernel)
set_option maxRecDepth 100000 in
/-- GlacierMailModel.throwsFor -/
noncomputable def p2_s1315 : ck_Sum := (((2 : Nat), (0 : Nat), (0 : Nat)), (245 : Nat), [.inr (.inr (.inl (226 : Nat))), .inl ((-2147483648 : Int), (-1 : Int), []), .inl ((-2147483648 : Int), (2147483647 : Int), []), .inl ((-2147483648 : Int), (2147483647 : Int), []), .inl ((-2147483648 : Int), (2147483647 : Int), [])], ([], [], []), ([((226 : Nat), (0 : Int), (0 : Int))], []), [(.inr (some (.inl (ck_one 0))), (245 : Nat), ([], [], [((226 : Nat), (0 : Int), (0 : Int), ck_one 1)]))])
set_option maxRecDepth 100000 in
theorem p2_s1315_s {X : Int → Int} {LX : Nat} : ck_Ok p2_O X LX 324 p2_s1315 := ck_okq (cuts := []) (f := 94) ⟨p2_nmu, ck_E1 (ck_S1 p2_s284_s ck_S0) (ck_E1 (ck_S1 p2_s241_s ck_S0) ck_E0)⟩ (by decide +kernel)
