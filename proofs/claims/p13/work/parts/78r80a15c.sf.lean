/-! EVERY CALL ENDS, whatever was done before (laid by wip/am/p2k.py). -/
set_option maxRecDepth 100000 in
/-- GlacierMailModel.years -/
noncomputable def p2_s1206 : ck_Sum := (((10 : Nat), (0 : Nat), (0 : Nat)), (245 : Nat), [.inr (.inr (.inl (226 : Nat))), .inl (ck_one 1)], ([], [], zl181), (zl182, []), [(.inr (some (.inl ((0 : Int), (24 : Int), []))), (245 : Nat), ([], [], [((227 : Nat), (9 : Int), (9 : Int), ((1 : Int), (299 : Int), [((1000011 : Nat), (0 : Int))])), ((226 : Nat), (6 : Int), (6 : Int), ((0 : Int), (12 : Int), [((1000027 : Nat), (0 : Int))])), ((226 : Nat), (0 : Int), (0 : Int), ((0 : Int), (1 : Int), []))]))])
set_option maxRecDepth 100000 in
theorem p2_s1206_s {X : Int → Int} {LX : Nat} : ck_Ok p2_O X LX 320 p2_s1206 := ck_okq (cuts := []) (f := 150) ⟨p2_nmu, ck_E1 (ck_S1 p2_s1154_s ck_S0) (ck_E1 (ck_S1 p2_s190_s ck_S0) (ck_E1 (ck_S1 p2_s242_s (ck_S1 p2_s241_s ck_S0)) (ck_E1 (ck_S1 p2_s553_s ck_S0) (ck_E1 (ck_S1 p2_s1205_s ck_S0) ck_E0))))⟩ (by decide +kernel)
set_option maxRecDepth 100000 in
/-- GlacierMailModel.in -/
noncomputable def p2_s1207 : ck_Sum := (((0 : Nat), (0 : Nat), (0 : Nat)), (245 : Nat), [.inl (ck_one 2), .inl (ck_one 1), .inl (ck_one 50)], ([], [], []), ([], []), [(.inr (some (.inl (ck_one 1))), (245 : Nat), ([], [], []))])
set_option maxRecDepth 100000 in
theorem p2_s1207_s {X : Int → Int} {LX : Nat} : ck_Ok p2_O X LX 286 p2_s1207 := ck_okq (cuts := []) (f := 88) ⟨p2_nmu, ck_E0⟩ (by decide +kernel)
set_option maxRecDepth 100000 in
/-- GlacierMailModel.years -/
noncomputable def p2_s1208 : ck_Sum := (((10 : Nat), (0 : Nat), (0 : Nat)), (245 : Nat), [.inr (.inr (.inl (226 : Nat))), .inl (ck_one 2)], ([], [], zl181), (zl182, []), [(.inr (some (.inl ((0 : Int), (48 : Int), []))), (245 : Nat), ([], [], [((227 : Nat), (9 : Int), (9 : Int), ((2 : Int), (299 : Int), [((1000011 : Nat), (0 : Int))])), ((226 : Nat), (6 : Int), (6 : Int), ((0 : Int), (12 : Int), [((1000027 : Nat), (0 : Int))])), ((226 : Nat), (0 : Int), (0 : Int), ((0 : Int), (1 : Int), []))]))])
set_option maxRecDepth 100000 in
theorem p2_s1208_s {X : Int → Int} {LX : Nat} : ck_Ok p2_O X LX 320 p2_s1208 := ck_okq (cuts := []) (f := 170) ⟨p2_nmu, ck_E1 (ck_S1 p2_s1207_s ck_S0) (ck_E1 (ck_S1 p2_s190_s ck_S0) (ck_E1 (ck_S1 p2_s242_s (ck_S1 p2_s241_s ck_S0)) (ck_E1 (ck_S1 p2_s553_s ck_S0) (ck_E1 (ck_S1 p2_s1205_s ck_S0) ck_E0))))⟩ (by decide +kernel)
set_option maxRecDepth 100000 in
/-- GlacierMailModel.in -/
noncomputable def p2_s1209 : ck_Sum := (((0 : Nat), (0 : Nat), (0 : Nat)), (245 : Nat), [.inl (ck_one 3), .inl (ck_one 1), .inl (ck_one 50)], ([], [], []), ([], []), [(.inr (some (.inl (ck_one 1))), (245 : Nat), ([], [], []))])
set_option maxRecDepth 100000 in
theorem p2_s1209_s {X : Int → Int} {LX : Nat} : ck_Ok p2_O X LX 286 p2_s1209 := ck_okq (cuts := []) (f := 88) ⟨p2_nmu, ck_E0⟩ (by decide +kernel)
set_option maxRecDepth 100000 in
/-- GlacierMailModel.years -/
noncomputable def p2_s1210 : ck_Sum := (((10 : Nat), (0 : Nat), (0 : Nat)), (245 : Nat), [.inr (.inr (.inl (226 : Nat))), .inl (ck_one 3)], ([], [], zl181), (zl182, []), [(.inr (some (.inl ((0 : Int), (72 : Int), []))), (245 : Nat), ([], [], [((227 : Nat), (9 : Int), (9 : Int), ((3 : Int), (299 : Int), [((1000011 : Nat), (0 : Int))])), ((226 : Nat), (6 : Int), (6 : Int), ((0 : Int), (12 : Int), [((1000027 : Nat), (0 : Int))])), ((226 : Nat), (0 : Int), (0 : Int), ((0 : Int), (1 : Int), []))]))])
set_option maxRecDepth 100000 in
theorem p2_s1210_s {X : Int → Int} {LX : Nat} : ck_Ok p2_O X LX 320 p2_s1210 := ck_okq (cuts := []) (f := 190) ⟨p2_nmu, ck_E1 (ck_S1 p2_s1209_s ck_S0) (ck_E1 (ck_S1 p2_s190_s ck_S0) (ck_E1 (ck_S1 p2_s242_s (ck_S1 p2_s241_s ck_S0)) (ck_E1 (ck_S1 p2_s553_s ck_S0) (ck_E1 (ck_S1 p2_s1205_s ck_S0) ck_E0))))⟩ (by decide +kernel)
set_option maxRecDepth 100000 in
/-- GlacierMailModel.in -/
noncomputable def p2_s1211 : ck_Sum := (((0 : Nat), (0 : Nat), (0 : Nat)), (245 : Nat), [.inl (ck_one 4), .inl (ck_one 1), .inl (ck_one 50)], ([], [], []), ([], []), [(.inr (some (.inl (ck_one 1))), (245 : Nat), ([], [], []))])
set_option maxRecDepth 100000 in
theorem p2_s1211_s {X : Int → Int} {LX : Nat} : ck_Ok p2_O X LX 286 p2_s1211 := ck_okq (cuts := []) (f := 88) ⟨p2_nmu, ck_E0⟩ (by decide +kernel)
set_option maxRecDepth 100000 in
/-- GlacierMailModel.years -/
noncomputable def p2_s1212 : ck_Sum := (((10 : Nat), (0 : Nat), (0 : Nat)), (245 : Nat), [.inr (.inr (.inl (226 : Nat))), .inl (ck_one 4)], ([], [], zl181), (zl182, []), [(.inr (some (.inl ((0 : Int), (96 : Int), []))), (245 : Nat), ([], [], [((227 : Nat), (9 : Int), (9 : Int), ((4 : Int), (299 : Int), [((1000011 : Nat), (0 : Int))])), ((226 : Nat), (6 : Int), (6 : Int), ((0 : Int), (12 : Int), [((1000027 : Nat), (0 : Int))])), ((226 : Nat), (0 : Int), (0 : Int), ((0 : Int), (1 : Int), []))]))])
set_option maxRecDepth 100000 in
theorem p2_s1212_s {X : Int → Int} {LX : Nat} : ck_Ok p2_O X LX 320 p2_s1212 := ck_okq (cuts := []) (f := 210) ⟨p2_nmu, ck_E1 (ck_S1 p2_s1211_s ck_S0) (ck_E1 (ck_S1 p2_s190_s ck_S0) (ck_E1 (ck_S1 p2_s242_s (ck_S1 p2_s241_s ck_S0)) (ck_E1 (ck_S1 p2_s553_s ck_S0) (ck_E1 (ck_S1 p2_s1205_s ck_S0) ck_E0))))⟩ (by decide +kernel)
set_option maxRecDepth 100000 in
/-- GlacierMailModel.in -/
noncomputable def p2_s1213 : ck_Sum := (((0 : Nat), (0 : Nat), (0 : Nat)), (245 : Nat), [.inl (ck_one 5), .inl (ck_one 1), .inl (ck_one 50)], ([], [], []), ([], []), [(.inr (some (.inl (ck_one 1))), (245 : Nat), ([], [], []))])
set_option maxRecDepth 100000 in
theorem p2_s1213_s {X : Int → Int} {LX : Nat} : ck_Ok p2_O X LX 286 p2_s1213 := ck_okq (cuts := []) (f := 88) ⟨p2_nmu, ck_E0⟩ (by decide +kernel)
set_option maxRecDepth 100000 in
/-- GlacierMailModel.years -/
noncomputable def p2_s1214 : ck_Sum := (((10 : Nat), (0 : Nat), (0 : Nat)), (245 : Nat), [.inr (.inr (.inl (226 : Nat))), .inl (ck_one 5)], ([], [], zl181), (zl182, []), [(.inr (some (.inl ((0 : Int), (120 : Int), []))), (245 : Nat), ([], [], [((227 : Nat), (9 : Int), (9 : Int), ((5 : Int), (299 : Int), [((1000011 : Nat), (0 : Int))])), ((226 : Nat), (6 : Int), (6 : Int), ((0 : Int), (12 : Int), [((1000027 : Nat), (0 : Int))])), ((226 : Nat), (0 : Int), (0 : Int), ((0 : Int), (1 : Int), []))]))])
set_option maxRecDepth 100000 in
theorem p2_s1214_s {X : Int → Int} {LX : Nat} : ck_Ok p2_O X LX 320 p2_s1214 := ck_okq (cuts := []) (f := 230) ⟨p2_nmu, ck_E1 (ck_S1 p2_s1213_s ck_S0) (ck_E1 (ck_S1 p2_s190_s ck_S0) (ck_E1 (ck_S1 p2_s242_s (ck_S1 p2_s241_s ck_S0)) (ck_E1 (ck_S1 p2_s553_s ck_S0) (ck_E1 (ck_S1 p2_s1205_s ck_S0) ck_E0))))⟩ (by decide +kernel)
set_option maxRecDepth 100000 in
/-- GlacierMailModel.in -/
noncomputable def p2_s1215 : ck_Sum := (((0 : Nat), (0 : Nat), (0 : Nat)), (245 : Nat), [.inl (ck_one 6), .inl (ck_one 1), .inl (ck_one 50)], ([], [], []), ([], []), [(.inr (some (.inl (ck_one 1))), (245 : Nat), ([], [], []))])
set_option maxRecDepth 100000 in
theorem p2_s1215_s {X : Int → Int} {LX : Nat} : ck_Ok p2_O X LX 286 p2_s1215 := ck_okq (cuts := []) (f := 88) ⟨p2_nmu, ck_E0⟩ (by decide +kernel)
set_option maxRecDepth 100000 in
/-- GlacierMailModel.years -/
noncomputable def p2_s1216 : ck_Sum := (((10 : Nat), (0 : Nat), (0 : Nat)), (245 : Nat), [.inr (.inr (.inl (226 : Nat))), .inl (ck_one 6)], ([], [], zl181), (zl182, []), [(.inr (some (.inl ((0 : Int), (144 : Int), []))), (245 : Nat), ([], [], [((227 : Nat), (9 : Int), (9 : Int), ((6 : Int), (299 : Int), [((1000011 : Nat), (0 : Int))])), ((226 : Nat), (6 : Int), (6 : Int), ((0 : Int), (12 : Int), [((1000027 : Nat), (0 : Int))])), ((226 : Nat), (0 : Int), (0 : Int), ((0 : Int), (1 : Int), []))]))])
set_option maxRecDepth 100000 in
theorem p2_s1216_s {X : Int → Int} {LX : Nat} : ck_Ok p2_O X LX 320 p2_s1216 := ck_okq (cuts := []) (f := 250) ⟨p2_nmu, ck_E1 (ck_S1 p2_s1215_s ck_S0) (ck_E1 (ck_S1 p2_s190_s ck_S0) (ck_E1 (ck_S1 p2_s242_s (ck_S1 p2_s241_s ck_S0)) (ck_E1 (ck_S1 p2_s553_s ck_S0) (ck_E1 (ck_S1 p2_s1205_s ck_S0) ck_E0))))⟩ (by decide +kernel)
set_option maxRecDepth 100000 in
/-- GlacierMailModel.in -/
noncomputable def p2_s1217 : ck_Sum := (((0 : Nat), (0 : Nat), (0 : Nat)), (245 : Nat), [.inl (ck_one 7), .inl (ck_one 1), .inl (ck_one 50)], ([], [], []), ([], []), [(.inr (some (.inl (ck_one 1))), (245 : Nat), ([], [], []))])
set_option maxRecDepth 100000 in
theorem p2_s1217_s {X : Int → Int} {LX : Nat} : ck_Ok p2_O X LX 286 p2_s1217 := ck_okq (cuts := []) (f := 88) ⟨p2_nmu, ck_E0⟩ (by decide +kernel)
set_option maxRecDepth 100000 in
/-- GlacierMailModel.years -/
noncomputable def p2_s1218 : ck_Sum := (((10 : Nat), (0 : Nat), (0 : Nat)), (245 : Nat), [.inr (.inr (.inl (226 : Nat))), .inl (ck_one 7)], ([], [], zl181), (zl182, []), [(.inr (some (.inl ((0 : Int), (168 : Int), []))), (245 : Nat), ([], [], [((227 : Nat), (9 : Int), (9 : Int), ((7 : Int), (299 : Int), [((1000011 : Nat), (0 : Int))])), ((226 : Nat), (6 : Int), (6 : Int), ((0 : Int), (12 : Int), [((1000027 : Nat), (0 : Int))])), ((226 : Nat), (0 : Int), (0 : Int), ((0 : Int), (1 : Int), []))]))])
set_option maxRecDepth 100000 in
theorem p2_s1218_s {X : Int → Int} {LX : Nat} : ck_Ok p2_O X LX 320 p2_s1218 := ck_okq (cuts := []) (f := 270) ⟨p2_nmu, ck_E1 (ck_S1 p2_s1217_s ck_S0) (ck_E1 (ck_S1 p2_s190_s ck_S0) (ck_E1 (ck_S1 p2_s242_s (ck_S1 p2_s241_s ck_S0)) (ck_E1 (ck_S1 p2_s553_s ck_S0) (ck_E1 (ck_S1 p2_s1205_s ck_S0) ck_E0))))⟩ (by decide +kernel)
set_option maxRecDepth 100000 in
/-- GlacierMailModel.in -/
noncomputable def p2_s1219 : ck_Sum := (((0 : Nat), (0 : Nat), (0 : Nat)), (245 : Nat), [.inl (ck_one 8), .inl (ck_one 1), .inl (ck_one 50)], ([], [], []), ([], []), [(.inr (some (.inl (ck_one 1))), (245 : Nat), ([], [], []))])
set_option maxRecDepth 100000 in
theorem p2_s1219_s {X : Int → Int} {LX : Nat} : ck_Ok p2_O X LX 286 p2_s1219 := ck_okq (cuts := []) (f := 88) ⟨p2_nmu, ck_E0⟩ (by decide +kernel)
set_option maxRecDepth 100000 in
/-- GlacierMailModel.years -/
noncomputable def p2_s1220 : ck_Sum := (((10 : Nat), (0 : Nat), (0 : Nat)), (245 : Nat), [.inr (.inr (.inl (226 : Nat))), .inl (ck_one 8)], ([], [], zl181), (zl182, []), [(.inr (some (.inl ((0 : Int), (192 : Int), []))), (245 : Nat), ([], [], [((227 : Nat), (9 : Int), (9 : Int), ((8 : Int), (299 : Int), [((1000011 : Nat), (0 : Int))])), ((226 : Nat), (6 : Int), (6 : Int), ((0 : Int), (12 : Int), [((1000027 : Nat), (0 : Int))])), ((226 : Nat), (0 : Int), (0 : Int), ((0 : Int), (1 : Int), []))]))])
set_option maxRecDepth 100000 in
theorem p2_s1220_s {X : Int → Int} {LX : Nat} : ck_Ok p2_O X LX 320 p2_s1220 := ck_okq (cuts := []) (f := 290) ⟨p2_nmu, ck_E1 (ck_S1 p2_s1219_s ck_S0) (ck_E1 (ck_S1 p2_s190_s ck_S0) (ck_E1 (ck_S1 p2_s242_s (ck_S1 p2_s241_s ck_S0)) (ck_E1 (ck_S1 p2_s553_s ck_S0) (ck_E1 (ck_S1 p2_s1205_s ck_S0) ck_E0))))⟩ (by decide +kernel)
set_option maxRecDepth 100000 in
/-- GlacierMailModel.in -/
noncomputable def p2_s1221 : ck_Sum := (((0 : Nat), (0 : Nat), (0 : Nat)), (245 : Nat), [.inl (ck_one 9), .inl (ck_one 1), .inl (ck_one 50)], ([], [], []), ([], []), [(.inr (some (.inl (ck_one 1))), (245 : Nat), ([], [], []))])
set_option maxRecDepth 100000 in
theorem p2_s1221_s {X : Int → Int} {LX : Nat} : ck_Ok p2_O X LX 286 p2_s1221 := ck_okq (cuts := []) (f := 88) ⟨p2_nmu, ck_E0⟩ (by decide +kernel)
set_option maxRecDepth 100000 in
/-- GlacierMailModel.years -/
noncomputable def p2_s1222 : ck_Sum := (((10 : Nat), (0 : Nat), (0 : Nat)), (245 : Nat), [.inr (.inr (.inl (226 : Nat))), .inl (ck_one 9)], ([], [], zl181), (zl182, []), [(.inr (some (.inl ((0 : Int), (216 : Int), []))), (245 : Nat), ([], [], [((227 : Nat), (9 : Int), (9 : Int), ((9 : Int), (299 : Int), [((1000011 : Nat), (0 : Int))])), ((226 : Nat), (6 : Int), (6 : Int), ((0 : Int), (12 : Int), [((1000027 : Nat), (0 : Int))])), ((226 : Nat), (0 : Int), (0 : Int), ((0 : Int), (1 : Int), []))]))])
set_option maxRecDepth 100000 in
theorem p2_s1222_s {X : Int → Int} {LX : Nat} : ck_Ok p2_O X LX 320 p2_s1222 := ck_okq (cuts := []) (f := 310) ⟨p2_nmu, ck_E1 (ck_S1 p2_s1221_s ck_S0) (ck_E1 (ck_S1 p2_s190_s ck_S0) (ck_E1 (ck_S1 p2_s242_s (ck_S1 p2_s241_s ck_S0)) (ck_E1 (ck_S1 p2_s553_s ck_S0) (ck_E1 (ck_S1 p2_s1205_s ck_S0) ck_E0))))⟩ (by decide +kernel)
set_option maxRecDepth 100000 in
/-- GlacierMailModel.in -/
noncomputable def p2_s1223 : ck_Sum := (((0 : Nat), (0 : Nat), (0 : Nat)), (245 : Nat), [.inl (ck_one 10), .inl (ck_one 1), .inl (ck_one 50)], ([], [], []), ([], []), [(.inr (some (.inl (ck_one 1))), (245 : Nat), ([], [], []))])
set_option maxRecDepth 100000 in
theorem p2_s1223_s {X : Int → Int} {LX : Nat} : ck_Ok p2_O X LX 286 p2_s1223 := ck_okq (cuts := []) (f := 88) ⟨p2_nmu, ck_E0⟩ (by decide +kernel)
set_option maxRecDepth 100000 in
/-- GlacierMailModel.years -/
noncomputable def p2_s1224 : ck_Sum := (((10 : Nat), (0 : Nat), (0 : Nat)), (245 : Nat), [.inr (.inr (.inl (226 : Nat))), .inl (ck_one 10)], ([], [], zl181), (zl182, []), [(.inr (some (.inl ((0 : Int), (240 : Int), []))), (245 : Nat), ([], [], [((227 : Nat), (9 : Int), (9 : Int), ((10 : Int), (299 : Int), [((1000011 : Nat), (0 : Int))])), ((226 : Nat), (6 : Int), (6 : Int), ((0 : Int), (12 : Int), [((1000027 : Nat), (0 : Int))])), ((226 : Nat), (0 : Int), (0 : Int), ((0 : Int), (1 : Int), []))]))])
set_option maxRecDepth 100000 in
theorem p2_s1224_s {X : Int → Int} {LX : Nat} : ck_Ok p2_O X LX 320 p2_s1224 := ck_okq (cuts := []) (f := 330) ⟨p2_nmu, ck_E1 (ck_S1 p2_s1223_s ck_S0) (ck_E1 (ck_S1 p2_s190_s ck_S0) (ck_E1 (ck_S1 p2_s242_s (ck_S1 p2_s241_s ck_S0)) (ck_E1 (ck_S1 p2_s553_s ck_S0) (ck_E1 (ck_S1 p2_s1205_s ck_S0) ck_E0))))⟩ (by decide +kernel)
set_option maxRecDepth 100000 in
/-- GlacierMailModel.in -/
noncomputable def p2_s1225 : ck_Sum := (((0 : Nat), (0 : Nat), (0 : Nat)), (245 : Nat), [.inl (ck_one 11), .inl (ck_one 1), .inl (ck_one 50)], ([], [], []), ([], []), [(.inr (some (.inl (ck_one 1))), (245 : Nat), ([], [], []))])
set_option maxRecDepth 100000 in
theorem p2_s1225_s {X : Int → Int} {LX : Nat} : ck_Ok p2_O X LX 286 p2_s1225 := ck_okq (cuts := []) (f := 88) ⟨p2_nmu, ck_E0⟩ (by decide +kernel)
