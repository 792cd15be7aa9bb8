/-! heat, on a new object, piece 3: laid by wip/am/p1g.py. -/
set_option maxRecDepth 100000 in
def p5y3_1207 : ck_Sum := ((0, 0, 0), 245, [.inr (.inr (.inl 1)), .inl (ck_one 152)], ([], [], []), ([], []), [(.inr none, 245, ([], [], []))])
set_option maxRecDepth 100000 in
theorem p5y3_1207_e : ck_ok p1_O none [] [] 129 [] 82 p5y3_1207 = true := by decide +kernel
theorem p5y3_1207_s {X : Int → Int} {LX : Nat} : ck_Ok p1_O X LX 129 p5y3_1207 := ck_ok_s (ck_E0) ck_X0 ck_l0 p5y3_1207_e
set_option maxRecDepth 100000 in
def p5y3_1208 : ck_Sum := ((0, 0, 0), 245, [.inr (.inr (.inl 200)), .inl (ck_one 152)], ([], [], [(201, 152, 152, ck_one 3)]), ([], []), [(.inr (some (.inl (ck_one 3))), 245, ([], [], []))])
set_option maxRecDepth 100000 in
theorem p5y3_1208_e : ck_ok p1_O none [] [] 34 [] 92 p5y3_1208 = true := by decide +kernel
theorem p5y3_1208_s {X : Int → Int} {LX : Nat} : ck_Ok p1_O X LX 34 p5y3_1208 := ck_ok_s (ck_E0) ck_X0 ck_l0 p5y3_1208_e
set_option maxRecDepth 100000 in
def p5y3_1209 : ck_Sum := ((1, 0, 0), 245, [.inr (.inr (.inl 1)), .inl (ck_one 152)], ([], [], [(201, 152, 152, ck_one 3)]), ([], []), [(.inr (some (.inl (ck_one 3))), 245, ([], [], []))])
set_option maxRecDepth 100000 in
theorem p5y3_1209_e : ck_ok p1_O none [] [(129, [p5y3_1207]), (34, [p5y3_1208])] 128 [] 86 p5y3_1209 = true := by decide +kernel
theorem p5y3_1209_s {X : Int → Int} {LX : Nat} : ck_Ok p1_O X LX 128 p5y3_1209 := ck_ok_s (ck_E1 (ck_S1 p5y3_1207_s ck_S0) (ck_E1 (ck_S1 p5y3_1208_s ck_S0) ck_E0)) ck_X0 ck_l0 p5y3_1209_e
set_option maxRecDepth 100000 in
def p5y3_1210 : ck_Sum := ((2, 0, 0), 245, [.inr (.inr (.inl 1)), .inl (ck_one 152), .inr (.inr (.inl 245))], ([], [], [(201, 152, 152, ck_one 3)]), ([(245, 0, 0)], []), [(.inr (some (.inl (ck_one 0))), 245, ([], [], [(245, 0, 0, ck_one 3)]))])
set_option maxRecDepth 100000 in
theorem p5y3_1210_e : ck_ok p1_O none [] [(128, [p5y3_1209])] 127 [] 90 p5y3_1210 = true := by decide +kernel
theorem p5y3_1210_s {X : Int → Int} {LX : Nat} : ck_Ok p1_O X LX 127 p5y3_1210 := ck_ok_s (ck_E1 (ck_S1 p5y3_1209_s ck_S0) ck_E0) ck_X0 ck_l0 p5y3_1210_e
set_option maxRecDepth 100000 in
def p5y3_1214 : ck_Sum := ((0, 0, 0), 245, [.inr (.inr (.inl 1)), .inl (ck_one 153)], ([], [], []), ([], []), [(.inr none, 245, ([], [], []))])
set_option maxRecDepth 100000 in
theorem p5y3_1214_e : ck_ok p1_O none [] [] 129 [] 82 p5y3_1214 = true := by decide +kernel
theorem p5y3_1214_s {X : Int → Int} {LX : Nat} : ck_Ok p1_O X LX 129 p5y3_1214 := ck_ok_s (ck_E0) ck_X0 ck_l0 p5y3_1214_e
set_option maxRecDepth 100000 in
def p5y3_1215 : ck_Sum := ((0, 0, 0), 245, [.inr (.inr (.inl 200)), .inl (ck_one 153)], ([], [], [(201, 153, 153, ck_one 9)]), ([], []), [(.inr (some (.inl (ck_one 9))), 245, ([], [], []))])
set_option maxRecDepth 100000 in
theorem p5y3_1215_e : ck_ok p1_O none [] [] 34 [] 92 p5y3_1215 = true := by decide +kernel
theorem p5y3_1215_s {X : Int → Int} {LX : Nat} : ck_Ok p1_O X LX 34 p5y3_1215 := ck_ok_s (ck_E0) ck_X0 ck_l0 p5y3_1215_e
set_option maxRecDepth 100000 in
def p5y3_1216 : ck_Sum := ((1, 0, 0), 245, [.inr (.inr (.inl 1)), .inl (ck_one 153)], ([], [], [(201, 153, 153, ck_one 9)]), ([], []), [(.inr (some (.inl (ck_one 9))), 245, ([], [], []))])
set_option maxRecDepth 100000 in
theorem p5y3_1216_e : ck_ok p1_O none [] [(129, [p5y3_1214]), (34, [p5y3_1215])] 128 [] 86 p5y3_1216 = true := by decide +kernel
theorem p5y3_1216_s {X : Int → Int} {LX : Nat} : ck_Ok p1_O X LX 128 p5y3_1216 := ck_ok_s (ck_E1 (ck_S1 p5y3_1214_s ck_S0) (ck_E1 (ck_S1 p5y3_1215_s ck_S0) ck_E0)) ck_X0 ck_l0 p5y3_1216_e
set_option maxRecDepth 100000 in
def p5y3_1217 : ck_Sum := ((2, 0, 0), 245, [.inr (.inr (.inl 1)), .inl (ck_one 153), .inr (.inr (.inl 245))], ([], [], [(201, 153, 153, ck_one 9)]), ([(245, 0, 0)], []), [(.inr (some (.inl (ck_one 0))), 245, ([], [], [(245, 0, 0, ck_one 9)]))])
set_option maxRecDepth 100000 in
theorem p5y3_1217_e : ck_ok p1_O none [] [(128, [p5y3_1216])] 127 [] 90 p5y3_1217 = true := by decide +kernel
theorem p5y3_1217_s {X : Int → Int} {LX : Nat} : ck_Ok p1_O X LX 127 p5y3_1217 := ck_ok_s (ck_E1 (ck_S1 p5y3_1216_s ck_S0) ck_E0) ck_X0 ck_l0 p5y3_1217_e
set_option maxRecDepth 100000 in
def p5y3_1221 : ck_Sum := ((0, 0, 0), 245, [.inr (.inr (.inl 1)), .inl (ck_one 154)], ([], [], []), ([], []), [(.inr none, 245, ([], [], []))])
set_option maxRecDepth 100000 in
theorem p5y3_1221_e : ck_ok p1_O none [] [] 129 [] 82 p5y3_1221 = true := by decide +kernel
theorem p5y3_1221_s {X : Int → Int} {LX : Nat} : ck_Ok p1_O X LX 129 p5y3_1221 := ck_ok_s (ck_E0) ck_X0 ck_l0 p5y3_1221_e
set_option maxRecDepth 100000 in
def p5y3_1222 : ck_Sum := ((0, 0, 0), 245, [.inr (.inr (.inl 200)), .inl (ck_one 154)], ([], [], [(201, 154, 154, ck_one 5)]), ([], []), [(.inr (some (.inl (ck_one 5))), 245, ([], [], []))])
set_option maxRecDepth 100000 in
theorem p5y3_1222_e : ck_ok p1_O none [] [] 34 [] 92 p5y3_1222 = true := by decide +kernel
theorem p5y3_1222_s {X : Int → Int} {LX : Nat} : ck_Ok p1_O X LX 34 p5y3_1222 := ck_ok_s (ck_E0) ck_X0 ck_l0 p5y3_1222_e
set_option maxRecDepth 100000 in
def p5y3_1223 : ck_Sum := ((1, 0, 0), 245, [.inr (.inr (.inl 1)), .inl (ck_one 154)], ([], [], [(201, 154, 154, ck_one 5)]), ([], []), [(.inr (some (.inl (ck_one 5))), 245, ([], [], []))])
set_option maxRecDepth 100000 in
theorem p5y3_1223_e : ck_ok p1_O none [] [(129, [p5y3_1221]), (34, [p5y3_1222])] 128 [] 86 p5y3_1223 = true := by decide +kernel
theorem p5y3_1223_s {X : Int → Int} {LX : Nat} : ck_Ok p1_O X LX 128 p5y3_1223 := ck_ok_s (ck_E1 (ck_S1 p5y3_1221_s ck_S0) (ck_E1 (ck_S1 p5y3_1222_s ck_S0) ck_E0)) ck_X0 ck_l0 p5y3_1223_e
set_option maxRecDepth 100000 in
def p5y3_1224 : ck_Sum := ((2, 0, 0), 245, [.inr (.inr (.inl 1)), .inl (ck_one 154), .inr (.inr (.inl 245))], ([], [], [(201, 154, 154, ck_one 5)]), ([(245, 0, 0)], []), [(.inr (some (.inl (ck_one 0))), 245, ([], [], [(245, 0, 0, ck_one 5)]))])
set_option maxRecDepth 100000 in
theorem p5y3_1224_e : ck_ok p1_O none [] [(128, [p5y3_1223])] 127 [] 90 p5y3_1224 = true := by decide +kernel
theorem p5y3_1224_s {X : Int → Int} {LX : Nat} : ck_Ok p1_O X LX 127 p5y3_1224 := ck_ok_s (ck_E1 (ck_S1 p5y3_1223_s ck_S0) ck_E0) ck_X0 ck_l0 p5y3_1224_e
set_option maxRecDepth 100000 in
def p5y3_1228 : ck_Sum := ((0, 0, 0), 245, [.inr (.inr (.inl 1)), .inl (ck_one 155)], ([], [], []), ([], []), [(.inr none, 245, ([], [], []))])
set_option maxRecDepth 100000 in
theorem p5y3_1228_e : ck_ok p1_O none [] [] 129 [] 82 p5y3_1228 = true := by decide +kernel
theorem p5y3_1228_s {X : Int → Int} {LX : Nat} : ck_Ok p1_O X LX 129 p5y3_1228 := ck_ok_s (ck_E0) ck_X0 ck_l0 p5y3_1228_e
set_option maxRecDepth 100000 in
def p5y3_1229 : ck_Sum := ((0, 0, 0), 245, [.inr (.inr (.inl 200)), .inl (ck_one 155)], ([], [], [(201, 155, 155, ck_one 6)]), ([], []), [(.inr (some (.inl (ck_one 6))), 245, ([], [], []))])
set_option maxRecDepth 100000 in
theorem p5y3_1229_e : ck_ok p1_O none [] [] 34 [] 92 p5y3_1229 = true := by decide +kernel
theorem p5y3_1229_s {X : Int → Int} {LX : Nat} : ck_Ok p1_O X LX 34 p5y3_1229 := ck_ok_s (ck_E0) ck_X0 ck_l0 p5y3_1229_e
set_option maxRecDepth 100000 in
def p5y3_1230 : ck_Sum := ((1, 0, 0), 245, [.inr (.inr (.inl 1)), .inl (ck_one 155)], ([], [], [(201, 155, 155, ck_one 6)]), ([], []), [(.inr (some (.inl (ck_one 6))), 245, ([], [], []))])
set_option maxRecDepth 100000 in
theorem p5y3_1230_e : ck_ok p1_O none [] [(129, [p5y3_1228]), (34, [p5y3_1229])] 128 [] 86 p5y3_1230 = true := by decide +kernel
theorem p5y3_1230_s {X : Int → Int} {LX : Nat} : ck_Ok p1_O X LX 128 p5y3_1230 := ck_ok_s (ck_E1 (ck_S1 p5y3_1228_s ck_S0) (ck_E1 (ck_S1 p5y3_1229_s ck_S0) ck_E0)) ck_X0 ck_l0 p5y3_1230_e
set_option maxRecDepth 100000 in
def p5y3_1231 : ck_Sum := ((2, 0, 0), 245, [.inr (.inr (.inl 1)), .inl (ck_one 155), .inr (.inr (.inl 245))], ([], [], [(201, 155, 155, ck_one 6)]), ([(245, 0, 0)], []), [(.inr (some (.inl (ck_one 0))), 245, ([], [], [(245, 0, 0, ck_one 6)]))])
set_option maxRecDepth 100000 in
theorem p5y3_1231_e : ck_ok p1_O none [] [(128, [p5y3_1230])] 127 [] 90 p5y3_1231 = true := by decide +kernel
theorem p5y3_1231_s {X : Int → Int} {LX : Nat} : ck_Ok p1_O X LX 127 p5y3_1231 := ck_ok_s (ck_E1 (ck_S1 p5y3_1230_s ck_S0) ck_E0) ck_X0 ck_l0 p5y3_1231_e
set_option maxRecDepth 100000 in
def p5y3_1235 : ck_Sum := ((0, 0, 0), 245, [.inr (.inr (.inl 1)), .inl (ck_one 156)], ([], [], []), ([], []), [(.inr none, 245, ([], [], []))])
set_option maxRecDepth 100000 in
theorem p5y3_1235_e : ck_ok p1_O none [] [] 129 [] 82 p5y3_1235 = true := by decide +kernel
theorem p5y3_1235_s {X : Int → Int} {LX : Nat} : ck_Ok p1_O X LX 129 p5y3_1235 := ck_ok_s (ck_E0) ck_X0 ck_l0 p5y3_1235_e
set_option maxRecDepth 100000 in
def p5y3_1236 : ck_Sum := ((0, 0, 0), 245, [.inr (.inr (.inl 200)), .inl (ck_one 156)], ([], [], [(201, 156, 156, ck_one 3)]), ([], []), [(.inr (some (.inl (ck_one 3))), 245, ([], [], []))])
set_option maxRecDepth 100000 in
theorem p5y3_1236_e : ck_ok p1_O none [] [] 34 [] 92 p5y3_1236 = true := by decide +kernel
theorem p5y3_1236_s {X : Int → Int} {LX : Nat} : ck_Ok p1_O X LX 34 p5y3_1236 := ck_ok_s (ck_E0) ck_X0 ck_l0 p5y3_1236_e
set_option maxRecDepth 100000 in
def p5y3_1237 : ck_Sum := ((1, 0, 0), 245, [.inr (.inr (.inl 1)), .inl (ck_one 156)], ([], [], [(201, 156, 156, ck_one 3)]), ([], []), [(.inr (some (.inl (ck_one 3))), 245, ([], [], []))])
set_option maxRecDepth 100000 in
theorem p5y3_1237_e : ck_ok p1_O none [] [(129, [p5y3_1235]), (34, [p5y3_1236])] 128 [] 86 p5y3_1237 = true := by decide +kernel
theorem p5y3_1237_s {X : Int → Int} {LX : Nat} : ck_Ok p1_O X LX 128 p5y3_1237 := ck_ok_s (ck_E1 (ck_S1 p5y3_1235_s ck_S0) (ck_E1 (ck_S1 p5y3_1236_s ck_S0) ck_E0)) ck_X0 ck_l0 p5y3_1237_e
set_option maxRecDepth 100000 in
def p5y3_1238 : ck_Sum := ((2, 0, 0), 245, [.inr (.inr (.inl 1)), .inl (ck_one 156), .inr (.inr (.inl 245))], ([], [], [(201, 156, 156, ck_one 3)]), ([(245, 0, 0)], []), [(.inr (some (.inl (ck_one 0))), 245, ([], [], [(245, 0, 0, ck_one 3)]))])
set_option maxRecDepth 100000 in
theorem p5y3_1238_e : ck_ok p1_O none [] [(128, [p5y3_1237])] 127 [] 90 p5y3_1238 = true := by decide +kernel
theorem p5y3_1238_s {X : Int → Int} {LX : Nat} : ck_Ok p1_O X LX 127 p5y3_1238 := ck_ok_s (ck_E1 (ck_S1 p5y3_1237_s ck_S0) ck_E0) ck_X0 ck_l0 p5y3_1238_e
set_option maxRecDepth 100000 in
def p5y3_1242 : ck_Sum := ((0, 0, 0), 245, [.inr (.inr (.inl 1)), .inl (ck_one 157)], ([], [], []), ([], []), [(.inr none, 245, ([], [], []))])
set_option maxRecDepth 100000 in
theorem p5y3_1242_e : ck_ok p1_O none [] [] 129 [] 82 p5y3_1242 = true := by decide +kernel
theorem p5y3_1242_s {X : Int → Int} {LX : Nat} : ck_Ok p1_O X LX 129 p5y3_1242 := ck_ok_s (ck_E0) ck_X0 ck_l0 p5y3_1242_e
set_option maxRecDepth 100000 in
def p5y3_1243 : ck_Sum := ((0, 0, 0), 245, [.inr (.inr (.inl 200)), .inl (ck_one 157)], ([], [], [(201, 157, 157, ck_one 1)]), ([], []), [(.inr (some (.inl (ck_one 1))), 245, ([], [], []))])
set_option maxRecDepth 100000 in
theorem p5y3_1243_e : ck_ok p1_O none [] [] 34 [] 92 p5y3_1243 = true := by decide +kernel
theorem p5y3_1243_s {X : Int → Int} {LX : Nat} : ck_Ok p1_O X LX 34 p5y3_1243 := ck_ok_s (ck_E0) ck_X0 ck_l0 p5y3_1243_e
set_option maxRecDepth 100000 in
def p5y3_1244 : ck_Sum := ((1, 0, 0), 245, [.inr (.inr (.inl 1)), .inl (ck_one 157)], ([], [], [(201, 157, 157, ck_one 1)]), ([], []), [(.inr (some (.inl (ck_one 1))), 245, ([], [], []))])
set_option maxRecDepth 100000 in
theorem p5y3_1244_e : ck_ok p1_O none [] [(129, [p5y3_1242]), (34, [p5y3_1243])] 128 [] 86 p5y3_1244 = true := by decide +kernel
theorem p5y3_1244_s {X : Int → Int} {LX : Nat} : ck_Ok p1_O X LX 128 p5y3_1244 := ck_ok_s (ck_E1 (ck_S1 p5y3_1242_s ck_S0) (ck_E1 (ck_S1 p5y3_1243_s ck_S0) ck_E0)) ck_X0 ck_l0 p5y3_1244_e
set_option maxRecDepth 100000 in
def p5y3_1245 : ck_Sum := ((2, 0, 0), 245, [.inr (.inr (.inl 1)), .inl (ck_one 157), .inr (.inr (.inl 245))], ([], [], [(201, 157, 157, ck_one 1)]), ([(245, 0, 0)], []), [(.inr (some (.inl (ck_one 0))), 245, ([], [], [(245, 0, 0, ck_one 1)]))])
set_option maxRecDepth 100000 in
theorem p5y3_1245_e : ck_ok p1_O none [] [(128, [p5y3_1244])] 127 [] 90 p5y3_1245 = true := by decide +kernel
theorem p5y3_1245_s {X : Int → Int} {LX : Nat} : ck_Ok p1_O X LX 127 p5y3_1245 := ck_ok_s (ck_E1 (ck_S1 p5y3_1244_s ck_S0) ck_E0) ck_X0 ck_l0 p5y3_1245_e
set_option maxRecDepth 100000 in
def p5y3_1249 : ck_Sum := ((0, 0, 0), 245, [.inr (.inr (.inl 1)), .inl (ck_one 158)], ([], [], []), ([], []), [(.inr none, 245, ([], [], []))])
set_option maxRecDepth 100000 in
theorem p5y3_1249_e : ck_ok p1_O none [] [] 129 [] 82 p5y3_1249 = true := by decide +kernel
theorem p5y3_1249_s {X : Int → Int} {LX : Nat} : ck_Ok p1_O X LX 129 p5y3_1249 := ck_ok_s (ck_E0) ck_X0 ck_l0 p5y3_1249_e
set_option maxRecDepth 100000 in
def p5y3_1250 : ck_Sum := ((0, 0, 0), 245, [.inr (.inr (.inl 200)), .inl (ck_one 158)], ([], [], [(201, 158, 158, ck_one 3)]), ([], []), [(.inr (some (.inl (ck_one 3))), 245, ([], [], []))])
set_option maxRecDepth 100000 in
theorem p5y3_1250_e : ck_ok p1_O none [] [] 34 [] 92 p5y3_1250 = true := by decide +kernel
theorem p5y3_1250_s {X : Int → Int} {LX : Nat} : ck_Ok p1_O X LX 34 p5y3_1250 := ck_ok_s (ck_E0) ck_X0 ck_l0 p5y3_1250_e
set_option maxRecDepth 100000 in
def p5y3_1251 : ck_Sum := ((1, 0, 0), 245, [.inr (.inr (.inl 1)), .inl (ck_one 158)], ([], [], [(201, 158, 158, ck_one 3)]), ([], []), [(.inr (some (.inl (ck_one 3))), 245, ([], [], []))])
set_option maxRecDepth 100000 in
theorem p5y3_1251_e : ck_ok p1_O none [] [(129, [p5y3_1249]), (34, [p5y3_1250])] 128 [] 86 p5y3_1251 = true := by decide +kernel
theorem p5y3_1251_s {X : Int → Int} {LX : Nat} : ck_Ok p1_O X LX 128 p5y3_1251 := ck_ok_s (ck_E1 (ck_S1 p5y3_1249_s ck_S0) (ck_E1 (ck_S1 p5y3_1250_s ck_S0) ck_E0)) ck_X0 ck_l0 p5y3_1251_e
set_option maxRecDepth 100000 in
def p5y3_1252 : ck_Sum := ((2, 0, 0), 245, [.inr (.inr (.inl 1)), .inl (ck_one 158), .inr (.inr (.inl 245))], ([], [], [(201, 158, 158, ck_one 3)]), ([(245, 0, 0)], []), [(.inr (some (.inl (ck_one 0))), 245, ([], [], [(245, 0, 0, ck_one 3)]))])
set_option maxRecDepth 100000 in
theorem p5y3_1252_e : ck_ok p1_O none [] [(128, [p5y3_1251])] 127 [] 90 p5y3_1252 = true := by decide +kernel
theorem p5y3_1252_s {X : Int → Int} {LX : Nat} : ck_Ok p1_O X LX 127 p5y3_1252 := ck_ok_s (ck_E1 (ck_S1 p5y3_1251_s ck_S0) ck_E0) ck_X0 ck_l0 p5y3_1252_e
set_option maxRecDepth 100000 in
def p5y3_1256 : ck_Sum := ((0, 0, 0), 245, [.inr (.inr (.inl 1)), .inl (ck_one 159)], ([], [], []), ([], []), [(.inr none, 245, ([], [], []))])
set_option maxRecDepth 100000 in
theorem p5y3_1256_e : ck_ok p1_O none [] [] 129 [] 82 p5y3_1256 = true := by decide +kernel
theorem p5y3_1256_s {X : Int → Int} {LX : Nat} : ck_Ok p1_O X LX 129 p5y3_1256 := ck_ok_s (ck_E0) ck_X0 ck_l0 p5y3_1256_e
set_option maxRecDepth 100000 in
def p5y3_1257 : ck_Sum := ((0, 0, 0), 245, [.inr (.inr (.inl 200)), .inl (ck_one 159)], ([], [], [(201, 159, 159, ck_one 7)]), ([], []), [(.inr (some (.inl (ck_one 7))), 245, ([], [], []))])
set_option maxRecDepth 100000 in
theorem p5y3_1257_e : ck_ok p1_O none [] [] 34 [] 92 p5y3_1257 = true := by decide +kernel
theorem p5y3_1257_s {X : Int → Int} {LX : Nat} : ck_Ok p1_O X LX 34 p5y3_1257 := ck_ok_s (ck_E0) ck_X0 ck_l0 p5y3_1257_e
set_option maxRecDepth 100000 in
def p5y3_1258 : ck_Sum := ((1, 0, 0), 245, [.inr (.inr (.inl 1)), .inl (ck_one 159)], ([], [], [(201, 159, 159, ck_one 7)]), ([], []), [(.inr (some (.inl (ck_one 7))), 245, ([], [], []))])
set_option maxRecDepth 100000 in
theorem p5y3_1258_e : ck_ok p1_O none [] [(129, [p5y3_1256]), (34, [p5y3_1257])] 128 [] 86 p5y3_1258 = true := by decide +kernel
theorem p5y3_1258_s {X : Int → Int} {LX : Nat} : ck_Ok p1_O X LX 128 p5y3_1258 := ck_ok_s (ck_E1 (ck_S1 p5y3_1256_s ck_S0) (ck_E1 (ck_S1 p5y3_1257_s ck_S0) ck_E0)) ck_X0 ck_l0 p5y3_1258_e
set_option maxRecDepth 100000 in
def p5y3_1259 : ck_Sum := ((2, 0, 0), 245, [.inr (.inr (.inl 1)), .inl (ck_one 159), .inr (.inr (.inl 245))], ([], [], [(201, 159, 159, ck_one 7)]), ([(245, 0, 0)], []), [(.inr (some (.inl (ck_one 0))), 245, ([], [], [(245, 0, 0, ck_one 7)]))])
set_option maxRecDepth 100000 in
theorem p5y3_1259_e : ck_ok p1_O none [] [(128, [p5y3_1258])] 127 [] 90 p5y3_1259 = true := by decide +kernel
theorem p5y3_1259_s {X : Int → Int} {LX : Nat} : ck_Ok p1_O X LX 127 p5y3_1259 := ck_ok_s (ck_E1 (ck_S1 p5y3_1258_s ck_S0) ck_E0) ck_X0 ck_l0 p5y3_1259_e
set_option maxRecDepth 100000 in
def p5y3_1263 : ck_Sum := ((0, 0, 0), 245, [.inr (.inr (.inl 1)), .inl (ck_one 160)], ([], [], []), ([], []), [(.inr none, 245, ([], [], []))])
set_option maxRecDepth 100000 in
theorem p5y3_1263_e : ck_ok p1_O none [] [] 129 [] 82 p5y3_1263 = true := by decide +kernel
theorem p5y3_1263_s {X : Int → Int} {LX : Nat} : ck_Ok p1_O X LX 129 p5y3_1263 := ck_ok_s (ck_E0) ck_X0 ck_l0 p5y3_1263_e
set_option maxRecDepth 100000 in
def p5y3_1264 : ck_Sum := ((0, 0, 0), 245, [.inr (.inr (.inl 200)), .inl (ck_one 160)], ([], [], [(201, 160, 160, ck_one 9)]), ([], []), [(.inr (some (.inl (ck_one 9))), 245, ([], [], []))])
set_option maxRecDepth 100000 in
theorem p5y3_1264_e : ck_ok p1_O none [] [] 34 [] 92 p5y3_1264 = true := by decide +kernel
theorem p5y3_1264_s {X : Int → Int} {LX : Nat} : ck_Ok p1_O X LX 34 p5y3_1264 := ck_ok_s (ck_E0) ck_X0 ck_l0 p5y3_1264_e
set_option maxRecDepth 100000 in
def p5y3_1265 : ck_Sum := ((1, 0, 0), 245, [.inr (.inr (.inl 1)), .inl (ck_one 160)], ([], [], [(201, 160, 160, ck_one 9)]), ([], []), [(.inr (some (.inl (ck_one 9))), 245, ([], [], []))])
set_option maxRecDepth 100000 in
theorem p5y3_1265_e : ck_ok p1_O none [] [(129, [p5y3_1263]), (34, [p5y3_1264])] 128 [] 86 p5y3_1265 = true := by decide +kernel
theorem p5y3_1265_s {X : Int → Int} {LX : Nat} : ck_Ok p1_O X LX 128 p5y3_1265 := ck_ok_s (ck_E1 (ck_S1 p5y3_1263_s ck_S0) (ck_E1 (ck_S1 p5y3_1264_s ck_S0) ck_E0)) ck_X0 ck_l0 p5y3_1265_e
set_option maxRecDepth 100000 in
def p5y3_1266 : ck_Sum := ((2, 0, 0), 245, [.inr (.inr (.inl 1)), .inl (ck_one 160), .inr (.inr (.inl 245))], ([], [], [(201, 160, 160, ck_one 9)]), ([(245, 0, 0)], []), [(.inr (some (.inl (ck_one 0))), 245, ([], [], [(245, 0, 0, ck_one 9)]))])
set_option maxRecDepth 100000 in
theorem p5y3_1266_e : ck_ok p1_O none [] [(128, [p5y3_1265])] 127 [] 90 p5y3_1266 = true := by decide +kernel
theorem p5y3_1266_s {X : Int → Int} {LX : Nat} : ck_Ok p1_O X LX 127 p5y3_1266 := ck_ok_s (ck_E1 (ck_S1 p5y3_1265_s ck_S0) ck_E0) ck_X0 ck_l0 p5y3_1266_e
set_option maxRecDepth 100000 in
def p5y3_1270 : ck_Sum := ((0, 0, 0), 245, [.inr (.inr (.inl 1)), .inl (ck_one 161)], ([], [], []), ([], []), [(.inr none, 245, ([], [], []))])
set_option maxRecDepth 100000 in
theorem p5y3_1270_e : ck_ok p1_O none [] [] 129 [] 82 p5y3_1270 = true := by decide +kernel
theorem p5y3_1270_s {X : Int → Int} {LX : Nat} : ck_Ok p1_O X LX 129 p5y3_1270 := ck_ok_s (ck_E0) ck_X0 ck_l0 p5y3_1270_e
set_option maxRecDepth 100000 in
def p5y3_1271 : ck_Sum := ((0, 0, 0), 245, [.inr (.inr (.inl 200)), .inl (ck_one 161)], ([], [], [(201, 161, 161, ck_one 7)]), ([], []), [(.inr (some (.inl (ck_one 7))), 245, ([], [], []))])
set_option maxRecDepth 100000 in
theorem p5y3_1271_e : ck_ok p1_O none [] [] 34 [] 92 p5y3_1271 = true := by decide +kernel
theorem p5y3_1271_s {X : Int → Int} {LX : Nat} : ck_Ok p1_O X LX 34 p5y3_1271 := ck_ok_s (ck_E0) ck_X0 ck_l0 p5y3_1271_e
set_option maxRecDepth 100000 in
def p5y3_1272 : ck_Sum := ((1, 0, 0), 245, [.inr (.inr (.inl 1)), .inl (ck_one 161)], ([], [], [(201, 161, 161, ck_one 7)]), ([], []), [(.inr (some (.inl (ck_one 7))), 245, ([], [], []))])
set_option maxRecDepth 100000 in
theorem p5y3_1272_e : ck_ok p1_O none [] [(129, [p5y3_1270]), (34, [p5y3_1271])] 128 [] 86 p5y3_1272 = true := by decide +kernel
theorem p5y3_1272_s {X : Int → Int} {LX : Nat} : ck_Ok p1_O X LX 128 p5y3_1272 := ck_ok_s (ck_E1 (ck_S1 p5y3_1270_s ck_S0) (ck_E1 (ck_S1 p5y3_1271_s ck_S0) ck_E0)) ck_X0 ck_l0 p5y3_1272_e
set_option maxRecDepth 100000 in
def p5y3_1273 : ck_Sum := ((2, 0, 0), 245, [.inr (.inr (.inl 1)), .inl (ck_one 161), .inr (.inr (.inl 245))], ([], [], [(201, 161, 161, ck_one 7)]), ([(245, 0, 0)], []), [(.inr (some (.inl (ck_one 0))), 245, ([], [], [(245, 0, 0, ck_one 7)]))])
set_option maxRecDepth 100000 in
theorem p5y3_1273_e : ck_ok p1_O none [] [(128, [p5y3_1272])] 127 [] 90 p5y3_1273 = true := by decide +kernel
theorem p5y3_1273_s {X : Int → Int} {LX : Nat} : ck_Ok p1_O X LX 127 p5y3_1273 := ck_ok_s (ck_E1 (ck_S1 p5y3_1272_s ck_S0) ck_E0) ck_X0 ck_l0 p5y3_1273_e
set_option maxRecDepth 100000 in
def p5y3_1277 : ck_Sum := ((0, 0, 0), 245, [.inr (.inr (.inl 1)), .inl (ck_one 162)], ([], [], []), ([], []), [(.inr none, 245, ([], [], []))])
set_option maxRecDepth 100000 in
theorem p5y3_1277_e : ck_ok p1_O none [] [] 129 [] 82 p5y3_1277 = true := by decide +kernel
theorem p5y3_1277_s {X : Int → Int} {LX : Nat} : ck_Ok p1_O X LX 129 p5y3_1277 := ck_ok_s (ck_E0) ck_X0 ck_l0 p5y3_1277_e
set_option maxRecDepth 100000 in
def p5y3_1278 : ck_Sum := ((0, 0, 0), 245, [.inr (.inr (.inl 200)), .inl (ck_one 162)], ([], [], [(201, 162, 162, ck_one 3)]), ([], []), [(.inr (some (.inl (ck_one 3))), 245, ([], [], []))])
set_option maxRecDepth 100000 in
theorem p5y3_1278_e : ck_ok p1_O none [] [] 34 [] 92 p5y3_1278 = true := by decide +kernel
theorem p5y3_1278_s {X : Int → Int} {LX : Nat} : ck_Ok p1_O X LX 34 p5y3_1278 := ck_ok_s (ck_E0) ck_X0 ck_l0 p5y3_1278_e
set_option maxRecDepth 100000 in
def p5y3_1279 : ck_Sum := ((1, 0, 0), 245, [.inr (.inr (.inl 1)), .inl (ck_one 162)], ([], [], [(201, 162, 162, ck_one 3)]), ([], []), [(.inr (some (.inl (ck_one 3))), 245, ([], [], []))])
set_option maxRecDepth 100000 in
theorem p5y3_1279_e : ck_ok p1_O none [] [(129, [p5y3_1277]), (34, [p5y3_1278])] 128 [] 86 p5y3_1279 = true := by decide +kernel
theorem p5y3_1279_s {X : Int → Int} {LX : Nat} : ck_Ok p1_O X LX 128 p5y3_1279 := ck_ok_s (ck_E1 (ck_S1 p5y3_1277_s ck_S0) (ck_E1 (ck_S1 p5y3_1278_s ck_S0) ck_E0)) ck_X0 ck_l0 p5y3_1279_e
set_option maxRecDepth 100000 in
def p5y3_1280 : ck_Sum := ((2, 0, 0), 245, [.inr (.inr (.inl 1)), .inl (ck_one 162), .inr (.inr (.inl 245))], ([], [], [(201, 162, 162, ck_one 3)]), ([(245, 0, 0)], []), [(.inr (some (.inl (ck_one 0))), 245, ([], [], [(245, 0, 0, ck_one 3)]))])
set_option maxRecDepth 100000 in
theorem p5y3_1280_e : ck_ok p1_O none [] [(128, [p5y3_1279])] 127 [] 90 p5y3_1280 = true := by decide +kernel
theorem p5y3_1280_s {X : Int → Int} {LX : Nat} : ck_Ok p1_O X LX 127 p5y3_1280 := ck_ok_s (ck_E1 (ck_S1 p5y3_1279_s ck_S0) ck_E0) ck_X0 ck_l0 p5y3_1280_e
set_option maxRecDepth 100000 in
def p5y3_1284 : ck_Sum := ((0, 0, 0), 245, [.inr (.inr (.inl 1)), .inl (ck_one 163)], ([], [], []), ([], []), [(.inr none, 245, ([], [], []))])
set_option maxRecDepth 100000 in
theorem p5y3_1284_e : ck_ok p1_O none [] [] 129 [] 82 p5y3_1284 = true := by decide +kernel
theorem p5y3_1284_s {X : Int → Int} {LX : Nat} : ck_Ok p1_O X LX 129 p5y3_1284 := ck_ok_s (ck_E0) ck_X0 ck_l0 p5y3_1284_e
set_option maxRecDepth 100000 in
def p5y3_1285 : ck_Sum := ((0, 0, 0), 245, [.inr (.inr (.inl 200)), .inl (ck_one 163)], ([], [], [(201, 163, 163, ck_one 8)]), ([], []), [(.inr (some (.inl (ck_one 8))), 245, ([], [], []))])
set_option maxRecDepth 100000 in
theorem p5y3_1285_e : ck_ok p1_O none [] [] 34 [] 92 p5y3_1285 = true := by decide +kernel
theorem p5y3_1285_s {X : Int → Int} {LX : Nat} : ck_Ok p1_O X LX 34 p5y3_1285 := ck_ok_s (ck_E0) ck_X0 ck_l0 p5y3_1285_e
set_option maxRecDepth 100000 in
def p5y3_1286 : ck_Sum := ((1, 0, 0), 245, [.inr (.inr (.inl 1)), .inl (ck_one 163)], ([], [], [(201, 163, 163, ck_one 8)]), ([], []), [(.inr (some (.inl (ck_one 8))), 245, ([], [], []))])
set_option maxRecDepth 100000 in
theorem p5y3_1286_e : ck_ok p1_O none [] [(129, [p5y3_1284]), (34, [p5y3_1285])] 128 [] 86 p5y3_1286 = true := by decide +kernel
theorem p5y3_1286_s {X : Int → Int} {LX : Nat} : ck_Ok p1_O X LX 128 p5y3_1286 := ck_ok_s (ck_E1 (ck_S1 p5y3_1284_s ck_S0) (ck_E1 (ck_S1 p5y3_1285_s ck_S0) ck_E0)) ck_X0 ck_l0 p5y3_1286_e
set_option maxRecDepth 100000 in
def p5y3_1287 : ck_Sum := ((2, 0, 0), 245, [.inr (.inr (.inl 1)), .inl (ck_one 163), .inr (.inr (.inl 245))], ([], [], [(201, 163, 163, ck_one 8)]), ([(245, 0, 0)], []), [(.inr (some (.inl (ck_one 0))), 245, ([], [], [(245, 0, 0, ck_one 8)]))])
set_option maxRecDepth 100000 in
theorem p5y3_1287_e : ck_ok p1_O none [] [(128, [p5y3_1286])] 127 [] 90 p5y3_1287 = true := by decide +kernel
theorem p5y3_1287_s {X : Int → Int} {LX : Nat} : ck_Ok p1_O X LX 127 p5y3_1287 := ck_ok_s (ck_E1 (ck_S1 p5y3_1286_s ck_S0) ck_E0) ck_X0 ck_l0 p5y3_1287_e
set_option maxRecDepth 100000 in
def p5y3_1291 : ck_Sum := ((0, 0, 0), 245, [.inr (.inr (.inl 1)), .inl (ck_one 164)], ([], [], []), ([], []), [(.inr none, 245, ([], [], []))])
set_option maxRecDepth 100000 in
theorem p5y3_1291_e : ck_ok p1_O none [] [] 129 [] 82 p5y3_1291 = true := by decide +kernel
theorem p5y3_1291_s {X : Int → Int} {LX : Nat} : ck_Ok p1_O X LX 129 p5y3_1291 := ck_ok_s (ck_E0) ck_X0 ck_l0 p5y3_1291_e
set_option maxRecDepth 100000 in
def p5y3_1292 : ck_Sum := ((0, 0, 0), 245, [.inr (.inr (.inl 200)), .inl (ck_one 164)], ([], [], [(201, 164, 164, ck_one 6)]), ([], []), [(.inr (some (.inl (ck_one 6))), 245, ([], [], []))])
set_option maxRecDepth 100000 in
theorem p5y3_1292_e : ck_ok p1_O none [] [] 34 [] 92 p5y3_1292 = true := by decide +kernel
theorem p5y3_1292_s {X : Int → Int} {LX : Nat} : ck_Ok p1_O X LX 34 p5y3_1292 := ck_ok_s (ck_E0) ck_X0 ck_l0 p5y3_1292_e
set_option maxRecDepth 100000 in
def p5y3_1293 : ck_Sum := ((1, 0, 0), 245, [.inr (.inr (.inl 1)), .inl (ck_one 164)], ([], [], [(201, 164, 164, ck_one 6)]), ([], []), [(.inr (some (.inl (ck_one 6))), 245, ([], [], []))])
set_option maxRecDepth 100000 in
theorem p5y3_1293_e : ck_ok p1_O none [] [(129, [p5y3_1291]), (34, [p5y3_1292])] 128 [] 86 p5y3_1293 = true := by decide +kernel
theorem p5y3_1293_s {X : Int → Int} {LX : Nat} : ck_Ok p1_O X LX 128 p5y3_1293 := ck_ok_s (ck_E1 (ck_S1 p5y3_1291_s ck_S0) (ck_E1 (ck_S1 p5y3_1292_s ck_S0) ck_E0)) ck_X0 ck_l0 p5y3_1293_e
set_option maxRecDepth 100000 in
def p5y3_1294 : ck_Sum := ((2, 0, 0), 245, [.inr (.inr (.inl 1)), .inl (ck_one 164), .inr (.inr (.inl 245))], ([], [], [(201, 164, 164, ck_one 6)]), ([(245, 0, 0)], []), [(.inr (some (.inl (ck_one 0))), 245, ([], [], [(245, 0, 0, ck_one 6)]))])
set_option maxRecDepth 100000 in
theorem p5y3_1294_e : ck_ok p1_O none [] [(128, [p5y3_1293])] 127 [] 90 p5y3_1294 = true := by decide +kernel
theorem p5y3_1294_s {X : Int → Int} {LX : Nat} : ck_Ok p1_O X LX 127 p5y3_1294 := ck_ok_s (ck_E1 (ck_S1 p5y3_1293_s ck_S0) ck_E0) ck_X0 ck_l0 p5y3_1294_e
set_option maxRecDepth 100000 in
def p5y3_1298 : ck_Sum := ((0, 0, 0), 245, [.inr (.inr (.inl 1)), .inl (ck_one 165)], ([], [], []), ([], []), [(.inr none, 245, ([], [], []))])
set_option maxRecDepth 100000 in
theorem p5y3_1298_e : ck_ok p1_O none [] [] 129 [] 82 p5y3_1298 = true := by decide +kernel
theorem p5y3_1298_s {X : Int → Int} {LX : Nat} : ck_Ok p1_O X LX 129 p5y3_1298 := ck_ok_s (ck_E0) ck_X0 ck_l0 p5y3_1298_e
set_option maxRecDepth 100000 in
def p5y3_1299 : ck_Sum := ((0, 0, 0), 245, [.inr (.inr (.inl 200)), .inl (ck_one 165)], ([], [], [(201, 165, 165, ck_one 1)]), ([], []), [(.inr (some (.inl (ck_one 1))), 245, ([], [], []))])
set_option maxRecDepth 100000 in
theorem p5y3_1299_e : ck_ok p1_O none [] [] 34 [] 92 p5y3_1299 = true := by decide +kernel
theorem p5y3_1299_s {X : Int → Int} {LX : Nat} : ck_Ok p1_O X LX 34 p5y3_1299 := ck_ok_s (ck_E0) ck_X0 ck_l0 p5y3_1299_e
set_option maxRecDepth 100000 in
def p5y3_1300 : ck_Sum := ((1, 0, 0), 245, [.inr (.inr (.inl 1)), .inl (ck_one 165)], ([], [], [(201, 165, 165, ck_one 1)]), ([], []), [(.inr (some (.inl (ck_one 1))), 245, ([], [], []))])
set_option maxRecDepth 100000 in
theorem p5y3_1300_e : ck_ok p1_O none [] [(129, [p5y3_1298]), (34, [p5y3_1299])] 128 [] 86 p5y3_1300 = true := by decide +kernel
theorem p5y3_1300_s {X : Int → Int} {LX : Nat} : ck_Ok p1_O X LX 128 p5y3_1300 := ck_ok_s (ck_E1 (ck_S1 p5y3_1298_s ck_S0) (ck_E1 (ck_S1 p5y3_1299_s ck_S0) ck_E0)) ck_X0 ck_l0 p5y3_1300_e
set_option maxRecDepth 100000 in
def p5y3_1301 : ck_Sum := ((2, 0, 0), 245, [.inr (.inr (.inl 1)), .inl (ck_one 165), .inr (.inr (.inl 245))], ([], [], [(201, 165, 165, ck_one 1)]), ([(245, 0, 0)], []), [(.inr (some (.inl (ck_one 0))), 245, ([], [], [(245, 0, 0, ck_one 1)]))])
set_option maxRecDepth 100000 in
theorem p5y3_1301_e : ck_ok p1_O none [] [(128, [p5y3_1300])] 127 [] 90 p5y3_1301 = true := by decide +kernel
theorem p5y3_1301_s {X : Int → Int} {LX : Nat} : ck_Ok p1_O X LX 127 p5y3_1301 := ck_ok_s (ck_E1 (ck_S1 p5y3_1300_s ck_S0) ck_E0) ck_X0 ck_l0 p5y3_1301_e
set_option maxRecDepth 100000 in
def p5y3_1305 : ck_Sum := ((0, 0, 0), 245, [.inr (.inr (.inl 1)), .inl (ck_one 166)], ([], [], []), ([], []), [(.inr none, 245, ([], [], []))])
set_option maxRecDepth 100000 in
theorem p5y3_1305_e : ck_ok p1_O none [] [] 129 [] 82 p5y3_1305 = true := by decide +kernel
theorem p5y3_1305_s {X : Int → Int} {LX : Nat} : ck_Ok p1_O X LX 129 p5y3_1305 := ck_ok_s (ck_E0) ck_X0 ck_l0 p5y3_1305_e
set_option maxRecDepth 100000 in
def p5y3_1306 : ck_Sum := ((0, 0, 0), 245, [.inr (.inr (.inl 200)), .inl (ck_one 166)], ([], [], [(201, 166, 166, ck_one 6)]), ([], []), [(.inr (some (.inl (ck_one 6))), 245, ([], [], []))])
set_option maxRecDepth 100000 in
theorem p5y3_1306_e : ck_ok p1_O none [] [] 34 [] 92 p5y3_1306 = true := by decide +kernel
theorem p5y3_1306_s {X : Int → Int} {LX : Nat} : ck_Ok p1_O X LX 34 p5y3_1306 := ck_ok_s (ck_E0) ck_X0 ck_l0 p5y3_1306_e
set_option maxRecDepth 100000 in
def p5y3_1307 : ck_Sum := ((1, 0, 0), 245, [.inr (.inr (.inl 1)), .inl (ck_one 166)], ([], [], [(201, 166, 166, ck_one 6)]), ([], []), [(.inr (some (.inl (ck_one 6))), 245, ([], [], []))])
set_option maxRecDepth 100000 in
theorem p5y3_1307_e : ck_ok p1_O none [] [(129, [p5y3_1305]), (34, [p5y3_1306])] 128 [] 86 p5y3_1307 = true := by decide +kernel
theorem p5y3_1307_s {X : Int → Int} {LX : Nat} : ck_Ok p1_O X LX 128 p5y3_1307 := ck_ok_s (ck_E1 (ck_S1 p5y3_1305_s ck_S0) (ck_E1 (ck_S1 p5y3_1306_s ck_S0) ck_E0)) ck_X0 ck_l0 p5y3_1307_e
set_option maxRecDepth 100000 in
def p5y3_1308 : ck_Sum := ((2, 0, 0), 245, [.inr (.inr (.inl 1)), .inl (ck_one 166), .inr (.inr (.inl 245))], ([], [], [(201, 166, 166, ck_one 6)]), ([(245, 0, 0)], []), [(.inr (some (.inl (ck_one 0))), 245, ([], [], [(245, 0, 0, ck_one 6)]))])
set_option maxRecDepth 100000 in
theorem p5y3_1308_e : ck_ok p1_O none [] [(128, [p5y3_1307])] 127 [] 90 p5y3_1308 = true := by decide +kernel
theorem p5y3_1308_s {X : Int → Int} {LX : Nat} : ck_Ok p1_O X LX 127 p5y3_1308 := ck_ok_s (ck_E1 (ck_S1 p5y3_1307_s ck_S0) ck_E0) ck_X0 ck_l0 p5y3_1308_e
set_option maxRecDepth 100000 in
def p5y3_1312 : ck_Sum := ((0, 0, 0), 245, [.inr (.inr (.inl 1)), .inl (ck_one 167)], ([], [], []), ([], []), [(.inr none, 245, ([], [], []))])
set_option maxRecDepth 100000 in
theorem p5y3_1312_e : ck_ok p1_O none [] [] 129 [] 82 p5y3_1312 = true := by decide +kernel
theorem p5y3_1312_s {X : Int → Int} {LX : Nat} : ck_Ok p1_O X LX 129 p5y3_1312 := ck_ok_s (ck_E0) ck_X0 ck_l0 p5y3_1312_e
set_option maxRecDepth 100000 in
def p5y3_1313 : ck_Sum := ((0, 0, 0), 245, [.inr (.inr (.inl 200)), .inl (ck_one 167)], ([], [], [(201, 167, 167, ck_one 6)]), ([], []), [(.inr (some (.inl (ck_one 6))), 245, ([], [], []))])
set_option maxRecDepth 100000 in
theorem p5y3_1313_e : ck_ok p1_O none [] [] 34 [] 92 p5y3_1313 = true := by decide +kernel
theorem p5y3_1313_s {X : Int → Int} {LX : Nat} : ck_Ok p1_O X LX 34 p5y3_1313 := ck_ok_s (ck_E0) ck_X0 ck_l0 p5y3_1313_e
set_option maxRecDepth 100000 in
def p5y3_1314 : ck_Sum := ((1, 0, 0), 245, [.inr (.inr (.inl 1)), .inl (ck_one 167)], ([], [], [(201, 167, 167, ck_one 6)]), ([], []), [(.inr (some (.inl (ck_one 6))), 245, ([], [], []))])
set_option maxRecDepth 100000 in
theorem p5y3_1314_e : ck_ok p1_O none [] [(129, [p5y3_1312]), (34, [p5y3_1313])] 128 [] 86 p5y3_1314 = true := by decide +kernel
theorem p5y3_1314_s {X : Int → Int} {LX : Nat} : ck_Ok p1_O X LX 128 p5y3_1314 := ck_ok_s (ck_E1 (ck_S1 p5y3_1312_s ck_S0) (ck_E1 (ck_S1 p5y3_1313_s ck_S0) ck_E0)) ck_X0 ck_l0 p5y3_1314_e
set_option maxRecDepth 100000 in
def p5y3_1315 : ck_Sum := ((2, 0, 0), 245, [.inr (.inr (.inl 1)), .inl (ck_one 167), .inr (.inr (.inl 245))], ([], [], [(201, 167, 167, ck_one 6)]), ([(245, 0, 0)], []), [(.inr (some (.inl (ck_one 0))), 245, ([], [], [(245, 0, 0, ck_one 6)]))])
set_option maxRecDepth 100000 in
theorem p5y3_1315_e : ck_ok p1_O none [] [(128, [p5y3_1314])] 127 [] 90 p5y3_1315 = true := by decide +kernel
theorem p5y3_1315_s {X : Int → Int} {LX : Nat} : ck_Ok p1_O X LX 127 p5y3_1315 := ck_ok_s (ck_E1 (ck_S1 p5y3_1314_s ck_S0) ck_E0) ck_X0 ck_l0 p5y3_1315_e
set_option maxRecDepth 100000 in
def p5y3_1319 : ck_Sum := ((0, 0, 0), 245, [.inr (.inr (.inl 1)), .inl (ck_one 168)], ([], [], []), ([], []), [(.inr none, 245, ([], [], []))])
set_option maxRecDepth 100000 in
theorem p5y3_1319_e : ck_ok p1_O none [] [] 129 [] 82 p5y3_1319 = true := by decide +kernel
theorem p5y3_1319_s {X : Int → Int} {LX : Nat} : ck_Ok p1_O X LX 129 p5y3_1319 := ck_ok_s (ck_E0) ck_X0 ck_l0 p5y3_1319_e
set_option maxRecDepth 100000 in
def p5y3_1320 : ck_Sum := ((0, 0, 0), 245, [.inr (.inr (.inl 200)), .inl (ck_one 168)], ([], [], [(201, 168, 168, ck_one 6)]), ([], []), [(.inr (some (.inl (ck_one 6))), 245, ([], [], []))])
set_option maxRecDepth 100000 in
theorem p5y3_1320_e : ck_ok p1_O none [] [] 34 [] 92 p5y3_1320 = true := by decide +kernel
theorem p5y3_1320_s {X : Int → Int} {LX : Nat} : ck_Ok p1_O X LX 34 p5y3_1320 := ck_ok_s (ck_E0) ck_X0 ck_l0 p5y3_1320_e
set_option maxRecDepth 100000 in
def p5y3_1321 : ck_Sum := ((1, 0, 0), 245, [.inr (.inr (.inl 1)), .inl (ck_one 168)], ([], [], [(201, 168, 168, ck_one 6)]), ([], []), [(.inr (some (.inl (ck_one 6))), 245, ([], [], []))])
set_option maxRecDepth 100000 in
theorem p5y3_1321_e : ck_ok p1_O none [] [(129, [p5y3_1319]), (34, [p5y3_1320])] 128 [] 86 p5y3_1321 = true := by decide +kernel
theorem p5y3_1321_s {X : Int → Int} {LX : Nat} : ck_Ok p1_O X LX 128 p5y3_1321 := ck_ok_s (ck_E1 (ck_S1 p5y3_1319_s ck_S0) (ck_E1 (ck_S1 p5y3_1320_s ck_S0) ck_E0)) ck_X0 ck_l0 p5y3_1321_e
set_option maxRecDepth 100000 in
def p5y3_1322 : ck_Sum := ((2, 0, 0), 245, [.inr (.inr (.inl 1)), .inl (ck_one 168), .inr (.inr (.inl 245))], ([], [], [(201, 168, 168, ck_one 6)]), ([(245, 0, 0)], []), [(.inr (some (.inl (ck_one 0))), 245, ([], [], [(245, 0, 0, ck_one 6)]))])
set_option maxRecDepth 100000 in
theorem p5y3_1322_e : ck_ok p1_O none [] [(128, [p5y3_1321])] 127 [] 90 p5y3_1322 = true := by decide +kernel
theorem p5y3_1322_s {X : Int → Int} {LX : Nat} : ck_Ok p1_O X LX 127 p5y3_1322 := ck_ok_s (ck_E1 (ck_S1 p5y3_1321_s ck_S0) ck_E0) ck_X0 ck_l0 p5y3_1322_e
set_option maxRecDepth 100000 in
def p5y3_1326 : ck_Sum := ((0, 0, 0), 245, [.inr (.inr (.inl 1)), .inl (ck_one 169)], ([], [], []), ([], []), [(.inr none, 245, ([], [], []))])
set_option maxRecDepth 100000 in
theorem p5y3_1326_e : ck_ok p1_O none [] [] 129 [] 82 p5y3_1326 = true := by decide +kernel
theorem p5y3_1326_s {X : Int → Int} {LX : Nat} : ck_Ok p1_O X LX 129 p5y3_1326 := ck_ok_s (ck_E0) ck_X0 ck_l0 p5y3_1326_e
set_option maxRecDepth 100000 in
def p5y3_1327 : ck_Sum := ((0, 0, 0), 245, [.inr (.inr (.inl 200)), .inl (ck_one 169)], ([], [], [(201, 169, 169, ck_one 8)]), ([], []), [(.inr (some (.inl (ck_one 8))), 245, ([], [], []))])
set_option maxRecDepth 100000 in
theorem p5y3_1327_e : ck_ok p1_O none [] [] 34 [] 92 p5y3_1327 = true := by decide +kernel
theorem p5y3_1327_s {X : Int → Int} {LX : Nat} : ck_Ok p1_O X LX 34 p5y3_1327 := ck_ok_s (ck_E0) ck_X0 ck_l0 p5y3_1327_e
set_option maxRecDepth 100000 in
def p5y3_1328 : ck_Sum := ((1, 0, 0), 245, [.inr (.inr (.inl 1)), .inl (ck_one 169)], ([], [], [(201, 169, 169, ck_one 8)]), ([], []), [(.inr (some (.inl (ck_one 8))), 245, ([], [], []))])
set_option maxRecDepth 100000 in
theorem p5y3_1328_e : ck_ok p1_O none [] [(129, [p5y3_1326]), (34, [p5y3_1327])] 128 [] 86 p5y3_1328 = true := by decide +kernel
theorem p5y3_1328_s {X : Int → Int} {LX : Nat} : ck_Ok p1_O X LX 128 p5y3_1328 := ck_ok_s (ck_E1 (ck_S1 p5y3_1326_s ck_S0) (ck_E1 (ck_S1 p5y3_1327_s ck_S0) ck_E0)) ck_X0 ck_l0 p5y3_1328_e
set_option maxRecDepth 100000 in
def p5y3_1329 : ck_Sum := ((2, 0, 0), 245, [.inr (.inr (.inl 1)), .inl (ck_one 169), .inr (.inr (.inl 245))], ([], [], [(201, 169, 169, ck_one 8)]), ([(245, 0, 0)], []), [(.inr (some (.inl (ck_one 0))), 245, ([], [], [(245, 0, 0, ck_one 8)]))])
set_option maxRecDepth 100000 in
theorem p5y3_1329_e : ck_ok p1_O none [] [(128, [p5y3_1328])] 127 [] 90 p5y3_1329 = true := by decide +kernel
theorem p5y3_1329_s {X : Int → Int} {LX : Nat} : ck_Ok p1_O X LX 127 p5y3_1329 := ck_ok_s (ck_E1 (ck_S1 p5y3_1328_s ck_S0) ck_E0) ck_X0 ck_l0 p5y3_1329_e
set_option maxRecDepth 100000 in
def p5y3_1333 : ck_Sum := ((0, 0, 0), 245, [.inr (.inr (.inl 1)), .inl (ck_one 170)], ([], [], []), ([], []), [(.inr none, 245, ([], [], []))])
set_option maxRecDepth 100000 in
theorem p5y3_1333_e : ck_ok p1_O none [] [] 129 [] 82 p5y3_1333 = true := by decide +kernel
theorem p5y3_1333_s {X : Int → Int} {LX : Nat} : ck_Ok p1_O X LX 129 p5y3_1333 := ck_ok_s (ck_E0) ck_X0 ck_l0 p5y3_1333_e
set_option maxRecDepth 100000 in
def p5y3_1334 : ck_Sum := ((0, 0, 0), 245, [.inr (.inr (.inl 200)), .inl (ck_one 170)], ([], [], [(201, 170, 170, ck_one 8)]), ([], []), [(.inr (some (.inl (ck_one 8))), 245, ([], [], []))])
set_option maxRecDepth 100000 in
theorem p5y3_1334_e : ck_ok p1_O none [] [] 34 [] 92 p5y3_1334 = true := by decide +kernel
theorem p5y3_1334_s {X : Int → Int} {LX : Nat} : ck_Ok p1_O X LX 34 p5y3_1334 := ck_ok_s (ck_E0) ck_X0 ck_l0 p5y3_1334_e
set_option maxRecDepth 100000 in
def p5y3_1335 : ck_Sum := ((1, 0, 0), 245, [.inr (.inr (.inl 1)), .inl (ck_one 170)], ([], [], [(201, 170, 170, ck_one 8)]), ([], []), [(.inr (some (.inl (ck_one 8))), 245, ([], [], []))])
set_option maxRecDepth 100000 in
theorem p5y3_1335_e : ck_ok p1_O none [] [(129, [p5y3_1333]), (34, [p5y3_1334])] 128 [] 86 p5y3_1335 = true := by decide +kernel
theorem p5y3_1335_s {X : Int → Int} {LX : Nat} : ck_Ok p1_O X LX 128 p5y3_1335 := ck_ok_s (ck_E1 (ck_S1 p5y3_1333_s ck_S0) (ck_E1 (ck_S1 p5y3_1334_s ck_S0) ck_E0)) ck_X0 ck_l0 p5y3_1335_e
set_option maxRecDepth 100000 in
def p5y3_1336 : ck_Sum := ((2, 0, 0), 245, [.inr (.inr (.inl 1)), .inl (ck_one 170), .inr (.inr (.inl 245))], ([], [], [(201, 170, 170, ck_one 8)]), ([(245, 0, 0)], []), [(.inr (some (.inl (ck_one 0))), 245, ([], [], [(245, 0, 0, ck_one 8)]))])
set_option maxRecDepth 100000 in
theorem p5y3_1336_e : ck_ok p1_O none [] [(128, [p5y3_1335])] 127 [] 90 p5y3_1336 = true := by decide +kernel
theorem p5y3_1336_s {X : Int → Int} {LX : Nat} : ck_Ok p1_O X LX 127 p5y3_1336 := ck_ok_s (ck_E1 (ck_S1 p5y3_1335_s ck_S0) ck_E0) ck_X0 ck_l0 p5y3_1336_e
set_option maxRecDepth 100000 in
def p5y3_1340 : ck_Sum := ((0, 0, 0), 245, [.inr (.inr (.inl 1)), .inl (ck_one 171)], ([], [], []), ([], []), [(.inr none, 245, ([], [], []))])
set_option maxRecDepth 100000 in
theorem p5y3_1340_e : ck_ok p1_O none [] [] 129 [] 82 p5y3_1340 = true := by decide +kernel
theorem p5y3_1340_s {X : Int → Int} {LX : Nat} : ck_Ok p1_O X LX 129 p5y3_1340 := ck_ok_s (ck_E0) ck_X0 ck_l0 p5y3_1340_e
set_option maxRecDepth 100000 in
def p5y3_1341 : ck_Sum := ((0, 0, 0), 245, [.inr (.inr (.inl 200)), .inl (ck_one 171)], ([], [], [(201, 171, 171, ck_one 6)]), ([], []), [(.inr (some (.inl (ck_one 6))), 245, ([], [], []))])
set_option maxRecDepth 100000 in
theorem p5y3_1341_e : ck_ok p1_O none [] [] 34 [] 92 p5y3_1341 = true := by decide +kernel
theorem p5y3_1341_s {X : Int → Int} {LX : Nat} : ck_Ok p1_O X LX 34 p5y3_1341 := ck_ok_s (ck_E0) ck_X0 ck_l0 p5y3_1341_e
set_option maxRecDepth 100000 in
def p5y3_1342 : ck_Sum := ((1, 0, 0), 245, [.inr (.inr (.inl 1)), .inl (ck_one 171)], ([], [], [(201, 171, 171, ck_one 6)]), ([], []), [(.inr (some (.inl (ck_one 6))), 245, ([], [], []))])
set_option maxRecDepth 100000 in
theorem p5y3_1342_e : ck_ok p1_O none [] [(129, [p5y3_1340]), (34, [p5y3_1341])] 128 [] 86 p5y3_1342 = true := by decide +kernel
theorem p5y3_1342_s {X : Int → Int} {LX : Nat} : ck_Ok p1_O X LX 128 p5y3_1342 := ck_ok_s (ck_E1 (ck_S1 p5y3_1340_s ck_S0) (ck_E1 (ck_S1 p5y3_1341_s ck_S0) ck_E0)) ck_X0 ck_l0 p5y3_1342_e
set_option maxRecDepth 100000 in
def p5y3_1343 : ck_Sum := ((2, 0, 0), 245, [.inr (.inr (.inl 1)), .inl (ck_one 171), .inr (.inr (.inl 245))], ([], [], [(201, 171, 171, ck_one 6)]), ([(245, 0, 0)], []), [(.inr (some (.inl (ck_one 0))), 245, ([], [], [(245, 0, 0, ck_one 6)]))])
set_option maxRecDepth 100000 in
theorem p5y3_1343_e : ck_ok p1_O none [] [(128, [p5y3_1342])] 127 [] 90 p5y3_1343 = true := by decide +kernel
theorem p5y3_1343_s {X : Int → Int} {LX : Nat} : ck_Ok p1_O X LX 127 p5y3_1343 := ck_ok_s (ck_E1 (ck_S1 p5y3_1342_s ck_S0) ck_E0) ck_X0 ck_l0 p5y3_1343_e
set_option maxRecDepth 100000 in
def p5y3_1347 : ck_Sum := ((0, 0, 0), 245, [.inr (.inr (.inl 1)), .inl (ck_one 172)], ([], [], []), ([], []), [(.inr none, 245, ([], [], []))])
set_option maxRecDepth 100000 in
theorem p5y3_1347_e : ck_ok p1_O none [] [] 129 [] 82 p5y3_1347 = true := by decide +kernel
theorem p5y3_1347_s {X : Int → Int} {LX : Nat} : ck_Ok p1_O X LX 129 p5y3_1347 := ck_ok_s (ck_E0) ck_X0 ck_l0 p5y3_1347_e
set_option maxRecDepth 100000 in
def p5y3_1348 : ck_Sum := ((0, 0, 0), 245, [.inr (.inr (.inl 200)), .inl (ck_one 172)], ([], [], [(201, 172, 172, ck_one 3)]), ([], []), [(.inr (some (.inl (ck_one 3))), 245, ([], [], []))])
set_option maxRecDepth 100000 in
theorem p5y3_1348_e : ck_ok p1_O none [] [] 34 [] 92 p5y3_1348 = true := by decide +kernel
theorem p5y3_1348_s {X : Int → Int} {LX : Nat} : ck_Ok p1_O X LX 34 p5y3_1348 := ck_ok_s (ck_E0) ck_X0 ck_l0 p5y3_1348_e
set_option maxRecDepth 100000 in
def p5y3_1349 : ck_Sum := ((1, 0, 0), 245, [.inr (.inr (.inl 1)), .inl (ck_one 172)], ([], [], [(201, 172, 172, ck_one 3)]), ([], []), [(.inr (some (.inl (ck_one 3))), 245, ([], [], []))])
set_option maxRecDepth 100000 in
theorem p5y3_1349_e : ck_ok p1_O none [] [(129, [p5y3_1347]), (34, [p5y3_1348])] 128 [] 86 p5y3_1349 = true := by decide +kernel
theorem p5y3_1349_s {X : Int → Int} {LX : Nat} : ck_Ok p1_O X LX 128 p5y3_1349 := ck_ok_s (ck_E1 (ck_S1 p5y3_1347_s ck_S0) (ck_E1 (ck_S1 p5y3_1348_s ck_S0) ck_E0)) ck_X0 ck_l0 p5y3_1349_e
set_option maxRecDepth 100000 in
def p5y3_1350 : ck_Sum := ((2, 0, 0), 245, [.inr (.inr (.inl 1)), .inl (ck_one 172), .inr (.inr (.inl 245))], ([], [], [(201, 172, 172, ck_one 3)]), ([(245, 0, 0)], []), [(.inr (some (.inl (ck_one 0))), 245, ([], [], [(245, 0, 0, ck_one 3)]))])
set_option maxRecDepth 100000 in
theorem p5y3_1350_e : ck_ok p1_O none [] [(128, [p5y3_1349])] 127 [] 90 p5y3_1350 = true := by decide +kernel
theorem p5y3_1350_s {X : Int → Int} {LX : Nat} : ck_Ok p1_O X LX 127 p5y3_1350 := ck_ok_s (ck_E1 (ck_S1 p5y3_1349_s ck_S0) ck_E0) ck_X0 ck_l0 p5y3_1350_e
set_option maxRecDepth 100000 in
def p5y3_1354 : ck_Sum := ((0, 0, 0), 245, [.inr (.inr (.inl 1)), .inl (ck_one 173)], ([], [], []), ([], []), [(.inr none, 245, ([], [], []))])
set_option maxRecDepth 100000 in
theorem p5y3_1354_e : ck_ok p1_O none [] [] 129 [] 82 p5y3_1354 = true := by decide +kernel
theorem p5y3_1354_s {X : Int → Int} {LX : Nat} : ck_Ok p1_O X LX 129 p5y3_1354 := ck_ok_s (ck_E0) ck_X0 ck_l0 p5y3_1354_e
set_option maxRecDepth 100000 in
def p5y3_1355 : ck_Sum := ((0, 0, 0), 245, [.inr (.inr (.inl 200)), .inl (ck_one 173)], ([], [], [(201, 173, 173, ck_one 7)]), ([], []), [(.inr (some (.inl (ck_one 7))), 245, ([], [], []))])
set_option maxRecDepth 100000 in
theorem p5y3_1355_e : ck_ok p1_O none [] [] 34 [] 92 p5y3_1355 = true := by decide +kernel
theorem p5y3_1355_s {X : Int → Int} {LX : Nat} : ck_Ok p1_O X LX 34 p5y3_1355 := ck_ok_s (ck_E0) ck_X0 ck_l0 p5y3_1355_e
set_option maxRecDepth 100000 in
def p5y3_1356 : ck_Sum := ((1, 0, 0), 245, [.inr (.inr (.inl 1)), .inl (ck_one 173)], ([], [], [(201, 173, 173, ck_one 7)]), ([], []), [(.inr (some (.inl (ck_one 7))), 245, ([], [], []))])
set_option maxRecDepth 100000 in
theorem p5y3_1356_e : ck_ok p1_O none [] [(129, [p5y3_1354]), (34, [p5y3_1355])] 128 [] 86 p5y3_1356 = true := by decide +kernel
theorem p5y3_1356_s {X : Int → Int} {LX : Nat} : ck_Ok p1_O X LX 128 p5y3_1356 := ck_ok_s (ck_E1 (ck_S1 p5y3_1354_s ck_S0) (ck_E1 (ck_S1 p5y3_1355_s ck_S0) ck_E0)) ck_X0 ck_l0 p5y3_1356_e
set_option maxRecDepth 100000 in
def p5y3_1357 : ck_Sum := ((2, 0, 0), 245, [.inr (.inr (.inl 1)), .inl (ck_one 173), .inr (.inr (.inl 245))], ([], [], [(201, 173, 173, ck_one 7)]), ([(245, 0, 0)], []), [(.inr (some (.inl (ck_one 0))), 245, ([], [], [(245, 0, 0, ck_one 7)]))])
set_option maxRecDepth 100000 in
theorem p5y3_1357_e : ck_ok p1_O none [] [(128, [p5y3_1356])] 127 [] 90 p5y3_1357 = true := by decide +kernel
theorem p5y3_1357_s {X : Int → Int} {LX : Nat} : ck_Ok p1_O X LX 127 p5y3_1357 := ck_ok_s (ck_E1 (ck_S1 p5y3_1356_s ck_S0) ck_E0) ck_X0 ck_l0 p5y3_1357_e
set_option maxRecDepth 100000 in
def p5y3_1361 : ck_Sum := ((0, 0, 0), 245, [.inr (.inr (.inl 1)), .inl (ck_one 174)], ([], [], []), ([], []), [(.inr none, 245, ([], [], []))])
set_option maxRecDepth 100000 in
theorem p5y3_1361_e : ck_ok p1_O none [] [] 129 [] 82 p5y3_1361 = true := by decide +kernel
theorem p5y3_1361_s {X : Int → Int} {LX : Nat} : ck_Ok p1_O X LX 129 p5y3_1361 := ck_ok_s (ck_E0) ck_X0 ck_l0 p5y3_1361_e
set_option maxRecDepth 100000 in
def p5y3_1362 : ck_Sum := ((0, 0, 0), 245, [.inr (.inr (.inl 200)), .inl (ck_one 174)], ([], [], [(201, 174, 174, ck_one 1)]), ([], []), [(.inr (some (.inl (ck_one 1))), 245, ([], [], []))])
set_option maxRecDepth 100000 in
theorem p5y3_1362_e : ck_ok p1_O none [] [] 34 [] 92 p5y3_1362 = true := by decide +kernel
theorem p5y3_1362_s {X : Int → Int} {LX : Nat} : ck_Ok p1_O X LX 34 p5y3_1362 := ck_ok_s (ck_E0) ck_X0 ck_l0 p5y3_1362_e
set_option maxRecDepth 100000 in
def p5y3_1363 : ck_Sum := ((1, 0, 0), 245, [.inr (.inr (.inl 1)), .inl (ck_one 174)], ([], [], [(201, 174, 174, ck_one 1)]), ([], []), [(.inr (some (.inl (ck_one 1))), 245, ([], [], []))])
set_option maxRecDepth 100000 in
theorem p5y3_1363_e : ck_ok p1_O none [] [(129, [p5y3_1361]), (34, [p5y3_1362])] 128 [] 86 p5y3_1363 = true := by decide +kernel
theorem p5y3_1363_s {X : Int → Int} {LX : Nat} : ck_Ok p1_O X LX 128 p5y3_1363 := ck_ok_s (ck_E1 (ck_S1 p5y3_1361_s ck_S0) (ck_E1 (ck_S1 p5y3_1362_s ck_S0) ck_E0)) ck_X0 ck_l0 p5y3_1363_e
set_option maxRecDepth 100000 in
def p5y3_1364 : ck_Sum := ((2, 0, 0), 245, [.inr (.inr (.inl 1)), .inl (ck_one 174), .inr (.inr (.inl 245))], ([], [], [(201, 174, 174, ck_one 1)]), ([(245, 0, 0)], []), [(.inr (some (.inl (ck_one 0))), 245, ([], [], [(245, 0, 0, ck_one 1)]))])
set_option maxRecDepth 100000 in
theorem p5y3_1364_e : ck_ok p1_O none [] [(128, [p5y3_1363])] 127 [] 90 p5y3_1364 = true := by decide +kernel
theorem p5y3_1364_s {X : Int → Int} {LX : Nat} : ck_Ok p1_O X LX 127 p5y3_1364 := ck_ok_s (ck_E1 (ck_S1 p5y3_1363_s ck_S0) ck_E0) ck_X0 ck_l0 p5y3_1364_e
set_option maxRecDepth 100000 in
def p5y3_1368 : ck_Sum := ((0, 0, 0), 245, [.inr (.inr (.inl 1)), .inl (ck_one 175)], ([], [], []), ([], []), [(.inr none, 245, ([], [], []))])
set_option maxRecDepth 100000 in
theorem p5y3_1368_e : ck_ok p1_O none [] [] 129 [] 82 p5y3_1368 = true := by decide +kernel
theorem p5y3_1368_s {X : Int → Int} {LX : Nat} : ck_Ok p1_O X LX 129 p5y3_1368 := ck_ok_s (ck_E0) ck_X0 ck_l0 p5y3_1368_e
set_option maxRecDepth 100000 in
def p5y3_1369 : ck_Sum := ((0, 0, 0), 245, [.inr (.inr (.inl 200)), .inl (ck_one 175)], ([], [], [(201, 175, 175, ck_one 7)]), ([], []), [(.inr (some (.inl (ck_one 7))), 245, ([], [], []))])
set_option maxRecDepth 100000 in
theorem p5y3_1369_e : ck_ok p1_O none [] [] 34 [] 92 p5y3_1369 = true := by decide +kernel
theorem p5y3_1369_s {X : Int → Int} {LX : Nat} : ck_Ok p1_O X LX 34 p5y3_1369 := ck_ok_s (ck_E0) ck_X0 ck_l0 p5y3_1369_e
set_option maxRecDepth 100000 in
def p5y3_1370 : ck_Sum := ((1, 0, 0), 245, [.inr (.inr (.inl 1)), .inl (ck_one 175)], ([], [], [(201, 175, 175, ck_one 7)]), ([], []), [(.inr (some (.inl (ck_one 7))), 245, ([], [], []))])
set_option maxRecDepth 100000 in
theorem p5y3_1370_e : ck_ok p1_O none [] [(129, [p5y3_1368]), (34, [p5y3_1369])] 128 [] 86 p5y3_1370 = true := by decide +kernel
theorem p5y3_1370_s {X : Int → Int} {LX : Nat} : ck_Ok p1_O X LX 128 p5y3_1370 := ck_ok_s (ck_E1 (ck_S1 p5y3_1368_s ck_S0) (ck_E1 (ck_S1 p5y3_1369_s ck_S0) ck_E0)) ck_X0 ck_l0 p5y3_1370_e
set_option maxRecDepth 100000 in
def p5y3_1371 : ck_Sum := ((2, 0, 0), 245, [.inr (.inr (.inl 1)), .inl (ck_one 175), .inr (.inr (.inl 245))], ([], [], [(201, 175, 175, ck_one 7)]), ([(245, 0, 0)], []), [(.inr (some (.inl (ck_one 0))), 245, ([], [], [(245, 0, 0, ck_one 7)]))])
set_option maxRecDepth 100000 in
theorem p5y3_1371_e : ck_ok p1_O none [] [(128, [p5y3_1370])] 127 [] 90 p5y3_1371 = true := by decide +kernel
theorem p5y3_1371_s {X : Int → Int} {LX : Nat} : ck_Ok p1_O X LX 127 p5y3_1371 := ck_ok_s (ck_E1 (ck_S1 p5y3_1370_s ck_S0) ck_E0) ck_X0 ck_l0 p5y3_1371_e
set_option maxRecDepth 100000 in
def p5y3_1375 : ck_Sum := ((0, 0, 0), 245, [.inr (.inr (.inl 1)), .inl (ck_one 176)], ([], [], []), ([], []), [(.inr none, 245, ([], [], []))])
set_option maxRecDepth 100000 in
theorem p5y3_1375_e : ck_ok p1_O none [] [] 129 [] 82 p5y3_1375 = true := by decide +kernel
theorem p5y3_1375_s {X : Int → Int} {LX : Nat} : ck_Ok p1_O X LX 129 p5y3_1375 := ck_ok_s (ck_E0) ck_X0 ck_l0 p5y3_1375_e
set_option maxRecDepth 100000 in
def p5y3_1376 : ck_Sum := ((0, 0, 0), 245, [.inr (.inr (.inl 200)), .inl (ck_one 176)], ([], [], [(201, 176, 176, ck_one 2)]), ([], []), [(.inr (some (.inl (ck_one 2))), 245, ([], [], []))])
set_option maxRecDepth 100000 in
theorem p5y3_1376_e : ck_ok p1_O none [] [] 34 [] 92 p5y3_1376 = true := by decide +kernel
theorem p5y3_1376_s {X : Int → Int} {LX : Nat} : ck_Ok p1_O X LX 34 p5y3_1376 := ck_ok_s (ck_E0) ck_X0 ck_l0 p5y3_1376_e
set_option maxRecDepth 100000 in
def p5y3_1377 : ck_Sum := ((1, 0, 0), 245, [.inr (.inr (.inl 1)), .inl (ck_one 176)], ([], [], [(201, 176, 176, ck_one 2)]), ([], []), [(.inr (some (.inl (ck_one 2))), 245, ([], [], []))])
set_option maxRecDepth 100000 in
theorem p5y3_1377_e : ck_ok p1_O none [] [(129, [p5y3_1375]), (34, [p5y3_1376])] 128 [] 86 p5y3_1377 = true := by decide +kernel
theorem p5y3_1377_s {X : Int → Int} {LX : Nat} : ck_Ok p1_O X LX 128 p5y3_1377 := ck_ok_s (ck_E1 (ck_S1 p5y3_1375_s ck_S0) (ck_E1 (ck_S1 p5y3_1376_s ck_S0) ck_E0)) ck_X0 ck_l0 p5y3_1377_e
set_option maxRecDepth 100000 in
def p5y3_1378 : ck_Sum := ((2, 0, 0), 245, [.inr (.inr (.inl 1)), .inl (ck_one 176), .inr (.inr (.inl 245))], ([], [], [(201, 176, 176, ck_one 2)]), ([(245, 0, 0)], []), [(.inr (some (.inl (ck_one 0))), 245, ([], [], [(245, 0, 0, ck_one 2)]))])
set_option maxRecDepth 100000 in
theorem p5y3_1378_e : ck_ok p1_O none [] [(128, [p5y3_1377])] 127 [] 90 p5y3_1378 = true := by decide +kernel
theorem p5y3_1378_s {X : Int → Int} {LX : Nat} : ck_Ok p1_O X LX 127 p5y3_1378 := ck_ok_s (ck_E1 (ck_S1 p5y3_1377_s ck_S0) ck_E0) ck_X0 ck_l0 p5y3_1378_e
set_option maxRecDepth 100000 in
def p5y3_1382 : ck_Sum := ((0, 0, 0), 245, [.inr (.inr (.inl 1)), .inl (ck_one 177)], ([], [], []), ([], []), [(.inr none, 245, ([], [], []))])
set_option maxRecDepth 100000 in
theorem p5y3_1382_e : ck_ok p1_O none [] [] 129 [] 82 p5y3_1382 = true := by decide +kernel
theorem p5y3_1382_s {X : Int → Int} {LX : Nat} : ck_Ok p1_O X LX 129 p5y3_1382 := ck_ok_s (ck_E0) ck_X0 ck_l0 p5y3_1382_e
set_option maxRecDepth 100000 in
def p5y3_1383 : ck_Sum := ((0, 0, 0), 245, [.inr (.inr (.inl 200)), .inl (ck_one 177)], ([], [], [(201, 177, 177, ck_one 8)]), ([], []), [(.inr (some (.inl (ck_one 8))), 245, ([], [], []))])
set_option maxRecDepth 100000 in
theorem p5y3_1383_e : ck_ok p1_O none [] [] 34 [] 92 p5y3_1383 = true := by decide +kernel
theorem p5y3_1383_s {X : Int → Int} {LX : Nat} : ck_Ok p1_O X LX 34 p5y3_1383 := ck_ok_s (ck_E0) ck_X0 ck_l0 p5y3_1383_e
set_option maxRecDepth 100000 in
def p5y3_1384 : ck_Sum := ((1, 0, 0), 245, [.inr (.inr (.inl 1)), .inl (ck_one 177)], ([], [], [(201, 177, 177, ck_one 8)]), ([], []), [(.inr (some (.inl (ck_one 8))), 245, ([], [], []))])
set_option maxRecDepth 100000 in
theorem p5y3_1384_e : ck_ok p1_O none [] [(129, [p5y3_1382]), (34, [p5y3_1383])] 128 [] 86 p5y3_1384 = true := by decide +kernel
theorem p5y3_1384_s {X : Int → Int} {LX : Nat} : ck_Ok p1_O X LX 128 p5y3_1384 := ck_ok_s (ck_E1 (ck_S1 p5y3_1382_s ck_S0) (ck_E1 (ck_S1 p5y3_1383_s ck_S0) ck_E0)) ck_X0 ck_l0 p5y3_1384_e
set_option maxRecDepth 100000 in
def p5y3_1385 : ck_Sum := ((2, 0, 0), 245, [.inr (.inr (.inl 1)), .inl (ck_one 177), .inr (.inr (.inl 245))], ([], [], [(201, 177, 177, ck_one 8)]), ([(245, 0, 0)], []), [(.inr (some (.inl (ck_one 0))), 245, ([], [], [(245, 0, 0, ck_one 8)]))])
set_option maxRecDepth 100000 in
theorem p5y3_1385_e : ck_ok p1_O none [] [(128, [p5y3_1384])] 127 [] 90 p5y3_1385 = true := by decide +kernel
theorem p5y3_1385_s {X : Int → Int} {LX : Nat} : ck_Ok p1_O X LX 127 p5y3_1385 := ck_ok_s (ck_E1 (ck_S1 p5y3_1384_s ck_S0) ck_E0) ck_X0 ck_l0 p5y3_1385_e
set_option maxRecDepth 100000 in
def p5y3_1389 : ck_Sum := ((0, 0, 0), 245, [.inr (.inr (.inl 1)), .inl (ck_one 178)], ([], [], []), ([], []), [(.inr none, 245, ([], [], []))])
set_option maxRecDepth 100000 in
theorem p5y3_1389_e : ck_ok p1_O none [] [] 129 [] 82 p5y3_1389 = true := by decide +kernel
theorem p5y3_1389_s {X : Int → Int} {LX : Nat} : ck_Ok p1_O X LX 129 p5y3_1389 := ck_ok_s (ck_E0) ck_X0 ck_l0 p5y3_1389_e
set_option maxRecDepth 100000 in
def p5y3_1390 : ck_Sum := ((0, 0, 0), 245, [.inr (.inr (.inl 200)), .inl (ck_one 178)], ([], [], [(201, 178, 178, ck_one 1)]), ([], []), [(.inr (some (.inl (ck_one 1))), 245, ([], [], []))])
set_option maxRecDepth 100000 in
theorem p5y3_1390_e : ck_ok p1_O none [] [] 34 [] 92 p5y3_1390 = true := by decide +kernel
theorem p5y3_1390_s {X : Int → Int} {LX : Nat} : ck_Ok p1_O X LX 34 p5y3_1390 := ck_ok_s (ck_E0) ck_X0 ck_l0 p5y3_1390_e
set_option maxRecDepth 100000 in
def p5y3_1391 : ck_Sum := ((1, 0, 0), 245, [.inr (.inr (.inl 1)), .inl (ck_one 178)], ([], [], [(201, 178, 178, ck_one 1)]), ([], []), [(.inr (some (.inl (ck_one 1))), 245, ([], [], []))])
set_option maxRecDepth 100000 in
theorem p5y3_1391_e : ck_ok p1_O none [] [(129, [p5y3_1389]), (34, [p5y3_1390])] 128 [] 86 p5y3_1391 = true := by decide +kernel
theorem p5y3_1391_s {X : Int → Int} {LX : Nat} : ck_Ok p1_O X LX 128 p5y3_1391 := ck_ok_s (ck_E1 (ck_S1 p5y3_1389_s ck_S0) (ck_E1 (ck_S1 p5y3_1390_s ck_S0) ck_E0)) ck_X0 ck_l0 p5y3_1391_e
set_option maxRecDepth 100000 in
def p5y3_1392 : ck_Sum := ((2, 0, 0), 245, [.inr (.inr (.inl 1)), .inl (ck_one 178), .inr (.inr (.inl 245))], ([], [], [(201, 178, 178, ck_one 1)]), ([(245, 0, 0)], []), [(.inr (some (.inl (ck_one 0))), 245, ([], [], [(245, 0, 0, ck_one 1)]))])
set_option maxRecDepth 100000 in
theorem p5y3_1392_e : ck_ok p1_O none [] [(128, [p5y3_1391])] 127 [] 90 p5y3_1392 = true := by decide +kernel
theorem p5y3_1392_s {X : Int → Int} {LX : Nat} : ck_Ok p1_O X LX 127 p5y3_1392 := ck_ok_s (ck_E1 (ck_S1 p5y3_1391_s ck_S0) ck_E0) ck_X0 ck_l0 p5y3_1392_e
set_option maxRecDepth 100000 in
def p5y3_1396 : ck_Sum := ((0, 0, 0), 245, [.inr (.inr (.inl 1)), .inl (ck_one 179)], ([], [], []), ([], []), [(.inr none, 245, ([], [], []))])
set_option maxRecDepth 100000 in
theorem p5y3_1396_e : ck_ok p1_O none [] [] 129 [] 82 p5y3_1396 = true := by decide +kernel
theorem p5y3_1396_s {X : Int → Int} {LX : Nat} : ck_Ok p1_O X LX 129 p5y3_1396 := ck_ok_s (ck_E0) ck_X0 ck_l0 p5y3_1396_e
set_option maxRecDepth 100000 in
def p5y3_1397 : ck_Sum := ((0, 0, 0), 245, [.inr (.inr (.inl 200)), .inl (ck_one 179)], ([], [], [(201, 179, 179, ck_one 3)]), ([], []), [(.inr (some (.inl (ck_one 3))), 245, ([], [], []))])
set_option maxRecDepth 100000 in
theorem p5y3_1397_e : ck_ok p1_O none [] [] 34 [] 92 p5y3_1397 = true := by decide +kernel
theorem p5y3_1397_s {X : Int → Int} {LX : Nat} : ck_Ok p1_O X LX 34 p5y3_1397 := ck_ok_s (ck_E0) ck_X0 ck_l0 p5y3_1397_e
set_option maxRecDepth 100000 in
def p5y3_1398 : ck_Sum := ((1, 0, 0), 245, [.inr (.inr (.inl 1)), .inl (ck_one 179)], ([], [], [(201, 179, 179, ck_one 3)]), ([], []), [(.inr (some (.inl (ck_one 3))), 245, ([], [], []))])
set_option maxRecDepth 100000 in
theorem p5y3_1398_e : ck_ok p1_O none [] [(129, [p5y3_1396]), (34, [p5y3_1397])] 128 [] 86 p5y3_1398 = true := by decide +kernel
theorem p5y3_1398_s {X : Int → Int} {LX : Nat} : ck_Ok p1_O X LX 128 p5y3_1398 := ck_ok_s (ck_E1 (ck_S1 p5y3_1396_s ck_S0) (ck_E1 (ck_S1 p5y3_1397_s ck_S0) ck_E0)) ck_X0 ck_l0 p5y3_1398_e
set_option maxRecDepth 100000 in
def p5y3_1399 : ck_Sum := ((2, 0, 0), 245, [.inr (.inr (.inl 1)), .inl (ck_one 179), .inr (.inr (.inl 245))], ([], [], [(201, 179, 179, ck_one 3)]), ([(245, 0, 0)], []), [(.inr (some (.inl (ck_one 0))), 245, ([], [], [(245, 0, 0, ck_one 3)]))])
set_option maxRecDepth 100000 in
theorem p5y3_1399_e : ck_ok p1_O none [] [(128, [p5y3_1398])] 127 [] 90 p5y3_1399 = true := by decide +kernel
theorem p5y3_1399_s {X : Int → Int} {LX : Nat} : ck_Ok p1_O X LX 127 p5y3_1399 := ck_ok_s (ck_E1 (ck_S1 p5y3_1398_s ck_S0) ck_E0) ck_X0 ck_l0 p5y3_1399_e
set_option maxRecDepth 100000 in
def p5y3_1403 : ck_Sum := ((0, 0, 0), 245, [.inr (.inr (.inl 1)), .inl (ck_one 180)], ([], [], []), ([], []), [(.inr none, 245, ([], [], []))])
set_option maxRecDepth 100000 in
theorem p5y3_1403_e : ck_ok p1_O none [] [] 129 [] 82 p5y3_1403 = true := by decide +kernel
theorem p5y3_1403_s {X : Int → Int} {LX : Nat} : ck_Ok p1_O X LX 129 p5y3_1403 := ck_ok_s (ck_E0) ck_X0 ck_l0 p5y3_1403_e
set_option maxRecDepth 100000 in
def p5y3_1404 : ck_Sum := ((0, 0, 0), 245, [.inr (.inr (.inl 200)), .inl (ck_one 180)], ([], [], [(201, 180, 180, ck_one 2)]), ([], []), [(.inr (some (.inl (ck_one 2))), 245, ([], [], []))])
set_option maxRecDepth 100000 in
theorem p5y3_1404_e : ck_ok p1_O none [] [] 34 [] 92 p5y3_1404 = true := by decide +kernel
theorem p5y3_1404_s {X : Int → Int} {LX : Nat} : ck_Ok p1_O X LX 34 p5y3_1404 := ck_ok_s (ck_E0) ck_X0 ck_l0 p5y3_1404_e
set_option maxRecDepth 100000 in
def p5y3_1405 : ck_Sum := ((1, 0, 0), 245, [.inr (.inr (.inl 1)), .inl (ck_one 180)], ([], [], [(201, 180, 180, ck_one 2)]), ([], []), [(.inr (some (.inl (ck_one 2))), 245, ([], [], []))])
set_option maxRecDepth 100000 in
theorem p5y3_1405_e : ck_ok p1_O none [] [(129, [p5y3_1403]), (34, [p5y3_1404])] 128 [] 86 p5y3_1405 = true := by decide +kernel
theorem p5y3_1405_s {X : Int → Int} {LX : Nat} : ck_Ok p1_O X LX 128 p5y3_1405 := ck_ok_s (ck_E1 (ck_S1 p5y3_1403_s ck_S0) (ck_E1 (ck_S1 p5y3_1404_s ck_S0) ck_E0)) ck_X0 ck_l0 p5y3_1405_e
set_option maxRecDepth 100000 in
def p5y3_1406 : ck_Sum := ((2, 0, 0), 245, [.inr (.inr (.inl 1)), .inl (ck_one 180), .inr (.inr (.inl 245))], ([], [], [(201, 180, 180, ck_one 2)]), ([(245, 0, 0)], []), [(.inr (some (.inl (ck_one 0))), 245, ([], [], [(245, 0, 0, ck_one 2)]))])
set_option maxRecDepth 100000 in
theorem p5y3_1406_e : ck_ok p1_O none [] [(128, [p5y3_1405])] 127 [] 90 p5y3_1406 = true := by decide +kernel
theorem p5y3_1406_s {X : Int → Int} {LX : Nat} : ck_Ok p1_O X LX 127 p5y3_1406 := ck_ok_s (ck_E1 (ck_S1 p5y3_1405_s ck_S0) ck_E0) ck_X0 ck_l0 p5y3_1406_e
set_option maxRecDepth 100000 in
def p5y3_1410 : ck_Sum := ((0, 0, 0), 245, [.inr (.inr (.inl 1)), .inl (ck_one 181)], ([], [], []), ([], []), [(.inr none, 245, ([], [], []))])
set_option maxRecDepth 100000 in
theorem p5y3_1410_e : ck_ok p1_O none [] [] 129 [] 82 p5y3_1410 = true := by decide +kernel
theorem p5y3_1410_s {X : Int → Int} {LX : Nat} : ck_Ok p1_O X LX 129 p5y3_1410 := ck_ok_s (ck_E0) ck_X0 ck_l0 p5y3_1410_e
set_option maxRecDepth 100000 in
def p5y3_1411 : ck_Sum := ((0, 0, 0), 245, [.inr (.inr (.inl 200)), .inl (ck_one 181)], ([], [], [(201, 181, 181, ck_one 4)]), ([], []), [(.inr (some (.inl (ck_one 4))), 245, ([], [], []))])
set_option maxRecDepth 100000 in
theorem p5y3_1411_e : ck_ok p1_O none [] [] 34 [] 92 p5y3_1411 = true := by decide +kernel
theorem p5y3_1411_s {X : Int → Int} {LX : Nat} : ck_Ok p1_O X LX 34 p5y3_1411 := ck_ok_s (ck_E0) ck_X0 ck_l0 p5y3_1411_e
set_option maxRecDepth 100000 in
def p5y3_1412 : ck_Sum := ((1, 0, 0), 245, [.inr (.inr (.inl 1)), .inl (ck_one 181)], ([], [], [(201, 181, 181, ck_one 4)]), ([], []), [(.inr (some (.inl (ck_one 4))), 245, ([], [], []))])
set_option maxRecDepth 100000 in
theorem p5y3_1412_e : ck_ok p1_O none [] [(129, [p5y3_1410]), (34, [p5y3_1411])] 128 [] 86 p5y3_1412 = true := by decide +kernel
theorem p5y3_1412_s {X : Int → Int} {LX : Nat} : ck_Ok p1_O X LX 128 p5y3_1412 := ck_ok_s (ck_E1 (ck_S1 p5y3_1410_s ck_S0) (ck_E1 (ck_S1 p5y3_1411_s ck_S0) ck_E0)) ck_X0 ck_l0 p5y3_1412_e
set_option maxRecDepth 100000 in
def p5y3_1413 : ck_Sum := ((2, 0, 0), 245, [.inr (.inr (.inl 1)), .inl (ck_one 181), .inr (.inr (.inl 245))], ([], [], [(201, 181, 181, ck_one 4)]), ([(245, 0, 0)], []), [(.inr (some (.inl (ck_one 0))), 245, ([], [], [(245, 0, 0, ck_one 4)]))])
set_option maxRecDepth 100000 in
theorem p5y3_1413_e : ck_ok p1_O none [] [(128, [p5y3_1412])] 127 [] 90 p5y3_1413 = true := by decide +kernel
theorem p5y3_1413_s {X : Int → Int} {LX : Nat} : ck_Ok p1_O X LX 127 p5y3_1413 := ck_ok_s (ck_E1 (ck_S1 p5y3_1412_s ck_S0) ck_E0) ck_X0 ck_l0 p5y3_1413_e
set_option maxRecDepth 100000 in
def p5y3_1417 : ck_Sum := ((0, 0, 0), 245, [.inr (.inr (.inl 1)), .inl (ck_one 182)], ([], [], []), ([], []), [(.inr none, 245, ([], [], []))])
set_option maxRecDepth 100000 in
theorem p5y3_1417_e : ck_ok p1_O none [] [] 129 [] 82 p5y3_1417 = true := by decide +kernel
theorem p5y3_1417_s {X : Int → Int} {LX : Nat} : ck_Ok p1_O X LX 129 p5y3_1417 := ck_ok_s (ck_E0) ck_X0 ck_l0 p5y3_1417_e
set_option maxRecDepth 100000 in
def p5y3_1418 : ck_Sum := ((0, 0, 0), 245, [.inr (.inr (.inl 200)), .inl (ck_one 182)], ([], [], [(201, 182, 182, ck_one 8)]), ([], []), [(.inr (some (.inl (ck_one 8))), 245, ([], [], []))])
set_option maxRecDepth 100000 in
theorem p5y3_1418_e : ck_ok p1_O none [] [] 34 [] 92 p5y3_1418 = true := by decide +kernel
theorem p5y3_1418_s {X : Int → Int} {LX : Nat} : ck_Ok p1_O X LX 34 p5y3_1418 := ck_ok_s (ck_E0) ck_X0 ck_l0 p5y3_1418_e
set_option maxRecDepth 100000 in
def p5y3_1419 : ck_Sum := ((1, 0, 0), 245, [.inr (.inr (.inl 1)), .inl (ck_one 182)], ([], [], [(201, 182, 182, ck_one 8)]), ([], []), [(.inr (some (.inl (ck_one 8))), 245, ([], [], []))])
set_option maxRecDepth 100000 in
theorem p5y3_1419_e : ck_ok p1_O none [] [(129, [p5y3_1417]), (34, [p5y3_1418])] 128 [] 86 p5y3_1419 = true := by decide +kernel
theorem p5y3_1419_s {X : Int → Int} {LX : Nat} : ck_Ok p1_O X LX 128 p5y3_1419 := ck_ok_s (ck_E1 (ck_S1 p5y3_1417_s ck_S0) (ck_E1 (ck_S1 p5y3_1418_s ck_S0) ck_E0)) ck_X0 ck_l0 p5y3_1419_e
set_option maxRecDepth 100000 in
def p5y3_1420 : ck_Sum := ((2, 0, 0), 245, [.inr (.inr (.inl 1)), .inl (ck_one 182), .inr (.inr (.inl 245))], ([], [], [(201, 182, 182, ck_one 8)]), ([(245, 0, 0)], []), [(.inr (some (.inl (ck_one 0))), 245, ([], [], [(245, 0, 0, ck_one 8)]))])
set_option maxRecDepth 100000 in
theorem p5y3_1420_e : ck_ok p1_O none [] [(128, [p5y3_1419])] 127 [] 90 p5y3_1420 = true := by decide +kernel
theorem p5y3_1420_s {X : Int → Int} {LX : Nat} : ck_Ok p1_O X LX 127 p5y3_1420 := ck_ok_s (ck_E1 (ck_S1 p5y3_1419_s ck_S0) ck_E0) ck_X0 ck_l0 p5y3_1420_e
set_option maxRecDepth 100000 in
def p5y3_1424 : ck_Sum := ((0, 0, 0), 245, [.inr (.inr (.inl 1)), .inl (ck_one 183)], ([], [], []), ([], []), [(.inr none, 245, ([], [], []))])
set_option maxRecDepth 100000 in
theorem p5y3_1424_e : ck_ok p1_O none [] [] 129 [] 82 p5y3_1424 = true := by decide +kernel
theorem p5y3_1424_s {X : Int → Int} {LX : Nat} : ck_Ok p1_O X LX 129 p5y3_1424 := ck_ok_s (ck_E0) ck_X0 ck_l0 p5y3_1424_e
set_option maxRecDepth 100000 in
def p5y3_1425 : ck_Sum := ((0, 0, 0), 245, [.inr (.inr (.inl 200)), .inl (ck_one 183)], ([], [], [(201, 183, 183, ck_one 5)]), ([], []), [(.inr (some (.inl (ck_one 5))), 245, ([], [], []))])
set_option maxRecDepth 100000 in
theorem p5y3_1425_e : ck_ok p1_O none [] [] 34 [] 92 p5y3_1425 = true := by decide +kernel
theorem p5y3_1425_s {X : Int → Int} {LX : Nat} : ck_Ok p1_O X LX 34 p5y3_1425 := ck_ok_s (ck_E0) ck_X0 ck_l0 p5y3_1425_e
set_option maxRecDepth 100000 in
def p5y3_1426 : ck_Sum := ((1, 0, 0), 245, [.inr (.inr (.inl 1)), .inl (ck_one 183)], ([], [], [(201, 183, 183, ck_one 5)]), ([], []), [(.inr (some (.inl (ck_one 5))), 245, ([], [], []))])
set_option maxRecDepth 100000 in
theorem p5y3_1426_e : ck_ok p1_O none [] [(129, [p5y3_1424]), (34, [p5y3_1425])] 128 [] 86 p5y3_1426 = true := by decide +kernel
theorem p5y3_1426_s {X : Int → Int} {LX : Nat} : ck_Ok p1_O X LX 128 p5y3_1426 := ck_ok_s (ck_E1 (ck_S1 p5y3_1424_s ck_S0) (ck_E1 (ck_S1 p5y3_1425_s ck_S0) ck_E0)) ck_X0 ck_l0 p5y3_1426_e
set_option maxRecDepth 100000 in
def p5y3_1427 : ck_Sum := ((2, 0, 0), 245, [.inr (.inr (.inl 1)), .inl (ck_one 183), .inr (.inr (.inl 245))], ([], [], [(201, 183, 183, ck_one 5)]), ([(245, 0, 0)], []), [(.inr (some (.inl (ck_one 0))), 245, ([], [], [(245, 0, 0, ck_one 5)]))])
set_option maxRecDepth 100000 in
theorem p5y3_1427_e : ck_ok p1_O none [] [(128, [p5y3_1426])] 127 [] 90 p5y3_1427 = true := by decide +kernel
theorem p5y3_1427_s {X : Int → Int} {LX : Nat} : ck_Ok p1_O X LX 127 p5y3_1427 := ck_ok_s (ck_E1 (ck_S1 p5y3_1426_s ck_S0) ck_E0) ck_X0 ck_l0 p5y3_1427_e
set_option maxRecDepth 100000 in
def p5y3_1431 : ck_Sum := ((0, 0, 0), 245, [.inr (.inr (.inl 1)), .inl (ck_one 184)], ([], [], []), ([], []), [(.inr none, 245, ([], [], []))])
set_option maxRecDepth 100000 in
theorem p5y3_1431_e : ck_ok p1_O none [] [] 129 [] 82 p5y3_1431 = true := by decide +kernel
theorem p5y3_1431_s {X : Int → Int} {LX : Nat} : ck_Ok p1_O X LX 129 p5y3_1431 := ck_ok_s (ck_E0) ck_X0 ck_l0 p5y3_1431_e
set_option maxRecDepth 100000 in
def p5y3_1432 : ck_Sum := ((0, 0, 0), 245, [.inr (.inr (.inl 200)), .inl (ck_one 184)], ([], [], [(201, 184, 184, ck_one 3)]), ([], []), [(.inr (some (.inl (ck_one 3))), 245, ([], [], []))])
set_option maxRecDepth 100000 in
theorem p5y3_1432_e : ck_ok p1_O none [] [] 34 [] 92 p5y3_1432 = true := by decide +kernel
theorem p5y3_1432_s {X : Int → Int} {LX : Nat} : ck_Ok p1_O X LX 34 p5y3_1432 := ck_ok_s (ck_E0) ck_X0 ck_l0 p5y3_1432_e
set_option maxRecDepth 100000 in
def p5y3_1433 : ck_Sum := ((1, 0, 0), 245, [.inr (.inr (.inl 1)), .inl (ck_one 184)], ([], [], [(201, 184, 184, ck_one 3)]), ([], []), [(.inr (some (.inl (ck_one 3))), 245, ([], [], []))])
set_option maxRecDepth 100000 in
theorem p5y3_1433_e : ck_ok p1_O none [] [(129, [p5y3_1431]), (34, [p5y3_1432])] 128 [] 86 p5y3_1433 = true := by decide +kernel
theorem p5y3_1433_s {X : Int → Int} {LX : Nat} : ck_Ok p1_O X LX 128 p5y3_1433 := ck_ok_s (ck_E1 (ck_S1 p5y3_1431_s ck_S0) (ck_E1 (ck_S1 p5y3_1432_s ck_S0) ck_E0)) ck_X0 ck_l0 p5y3_1433_e
set_option maxRecDepth 100000 in
def p5y3_1434 : ck_Sum := ((2, 0, 0), 245, [.inr (.inr (.inl 1)), .inl (ck_one 184), .inr (.inr (.inl 245))], ([], [], [(201, 184, 184, ck_one 3)]), ([(245, 0, 0)], []), [(.inr (some (.inl (ck_one 0))), 245, ([], [], [(245, 0, 0, ck_one 3)]))])
set_option maxRecDepth 100000 in
theorem p5y3_1434_e : ck_ok p1_O none [] [(128, [p5y3_1433])] 127 [] 90 p5y3_1434 = true := by decide +kernel
theorem p5y3_1434_s {X : Int → Int} {LX : Nat} : ck_Ok p1_O X LX 127 p5y3_1434 := ck_ok_s (ck_E1 (ck_S1 p5y3_1433_s ck_S0) ck_E0) ck_X0 ck_l0 p5y3_1434_e
set_option maxRecDepth 100000 in
def p5y3_1438 : ck_Sum := ((0, 0, 0), 245, [.inr (.inr (.inl 1)), .inl (ck_one 185)], ([], [], []), ([], []), [(.inr none, 245, ([], [], []))])
set_option maxRecDepth 100000 in
theorem p5y3_1438_e : ck_ok p1_O none [] [] 129 [] 82 p5y3_1438 = true := by decide +kernel
theorem p5y3_1438_s {X : Int → Int} {LX : Nat} : ck_Ok p1_O X LX 129 p5y3_1438 := ck_ok_s (ck_E0) ck_X0 ck_l0 p5y3_1438_e
set_option maxRecDepth 100000 in
def p5y3_1439 : ck_Sum := ((0, 0, 0), 245, [.inr (.inr (.inl 200)), .inl (ck_one 185)], ([], [], [(201, 185, 185, ck_one 9)]), ([], []), [(.inr (some (.inl (ck_one 9))), 245, ([], [], []))])
set_option maxRecDepth 100000 in
theorem p5y3_1439_e : ck_ok p1_O none [] [] 34 [] 92 p5y3_1439 = true := by decide +kernel
theorem p5y3_1439_s {X : Int → Int} {LX : Nat} : ck_Ok p1_O X LX 34 p5y3_1439 := ck_ok_s (ck_E0) ck_X0 ck_l0 p5y3_1439_e
set_option maxRecDepth 100000 in
def p5y3_1440 : ck_Sum := ((1, 0, 0), 245, [.inr (.inr (.inl 1)), .inl (ck_one 185)], ([], [], [(201, 185, 185, ck_one 9)]), ([], []), [(.inr (some (.inl (ck_one 9))), 245, ([], [], []))])
set_option maxRecDepth 100000 in
theorem p5y3_1440_e : ck_ok p1_O none [] [(129, [p5y3_1438]), (34, [p5y3_1439])] 128 [] 86 p5y3_1440 = true := by decide +kernel
theorem p5y3_1440_s {X : Int → Int} {LX : Nat} : ck_Ok p1_O X LX 128 p5y3_1440 := ck_ok_s (ck_E1 (ck_S1 p5y3_1438_s ck_S0) (ck_E1 (ck_S1 p5y3_1439_s ck_S0) ck_E0)) ck_X0 ck_l0 p5y3_1440_e
set_option maxRecDepth 100000 in
def p5y3_1441 : ck_Sum := ((2, 0, 0), 245, [.inr (.inr (.inl 1)), .inl (ck_one 185), .inr (.inr (.inl 245))], ([], [], [(201, 185, 185, ck_one 9)]), ([(245, 0, 0)], []), [(.inr (some (.inl (ck_one 0))), 245, ([], [], [(245, 0, 0, ck_one 9)]))])
set_option maxRecDepth 100000 in
theorem p5y3_1441_e : ck_ok p1_O none [] [(128, [p5y3_1440])] 127 [] 90 p5y3_1441 = true := by decide +kernel
theorem p5y3_1441_s {X : Int → Int} {LX : Nat} : ck_Ok p1_O X LX 127 p5y3_1441 := ck_ok_s (ck_E1 (ck_S1 p5y3_1440_s ck_S0) ck_E0) ck_X0 ck_l0 p5y3_1441_e
set_option maxRecDepth 100000 in
def p5y3_1445 : ck_Sum := ((0, 0, 0), 245, [.inr (.inr (.inl 1)), .inl (ck_one 186)], ([], [], []), ([], []), [(.inr none, 245, ([], [], []))])
set_option maxRecDepth 100000 in
theorem p5y3_1445_e : ck_ok p1_O none [] [] 129 [] 82 p5y3_1445 = true := by decide +kernel
theorem p5y3_1445_s {X : Int → Int} {LX : Nat} : ck_Ok p1_O X LX 129 p5y3_1445 := ck_ok_s (ck_E0) ck_X0 ck_l0 p5y3_1445_e
set_option maxRecDepth 100000 in
def p5y3_1446 : ck_Sum := ((0, 0, 0), 245, [.inr (.inr (.inl 200)), .inl (ck_one 186)], ([], [], [(201, 186, 186, ck_one 1)]), ([], []), [(.inr (some (.inl (ck_one 1))), 245, ([], [], []))])
set_option maxRecDepth 100000 in
theorem p5y3_1446_e : ck_ok p1_O none [] [] 34 [] 92 p5y3_1446 = true := by decide +kernel
theorem p5y3_1446_s {X : Int → Int} {LX : Nat} : ck_Ok p1_O X LX 34 p5y3_1446 := ck_ok_s (ck_E0) ck_X0 ck_l0 p5y3_1446_e
set_option maxRecDepth 100000 in
def p5y3_1447 : ck_Sum := ((1, 0, 0), 245, [.inr (.inr (.inl 1)), .inl (ck_one 186)], ([], [], [(201, 186, 186, ck_one 1)]), ([], []), [(.inr (some (.inl (ck_one 1))), 245, ([], [], []))])
set_option maxRecDepth 100000 in
theorem p5y3_1447_e : ck_ok p1_O none [] [(129, [p5y3_1445]), (34, [p5y3_1446])] 128 [] 86 p5y3_1447 = true := by decide +kernel
theorem p5y3_1447_s {X : Int → Int} {LX : Nat} : ck_Ok p1_O X LX 128 p5y3_1447 := ck_ok_s (ck_E1 (ck_S1 p5y3_1445_s ck_S0) (ck_E1 (ck_S1 p5y3_1446_s ck_S0) ck_E0)) ck_X0 ck_l0 p5y3_1447_e
set_option maxRecDepth 100000 in
def p5y3_1448 : ck_Sum := ((2, 0, 0), 245, [.inr (.inr (.inl 1)), .inl (ck_one 186), .inr (.inr (.inl 245))], ([], [], [(201, 186, 186, ck_one 1)]), ([(245, 0, 0)], []), [(.inr (some (.inl (ck_one 0))), 245, ([], [], [(245, 0, 0, ck_one 1)]))])
set_option maxRecDepth 100000 in
theorem p5y3_1448_e : ck_ok p1_O none [] [(128, [p5y3_1447])] 127 [] 90 p5y3_1448 = true := by decide +kernel
theorem p5y3_1448_s {X : Int → Int} {LX : Nat} : ck_Ok p1_O X LX 127 p5y3_1448 := ck_ok_s (ck_E1 (ck_S1 p5y3_1447_s ck_S0) ck_E0) ck_X0 ck_l0 p5y3_1448_e
set_option maxRecDepth 100000 in
def p5y3_1452 : ck_Sum := ((0, 0, 0), 245, [.inr (.inr (.inl 1)), .inl (ck_one 187)], ([], [], []), ([], []), [(.inr none, 245, ([], [], []))])
set_option maxRecDepth 100000 in
theorem p5y3_1452_e : ck_ok p1_O none [] [] 129 [] 82 p5y3_1452 = true := by decide +kernel
theorem p5y3_1452_s {X : Int → Int} {LX : Nat} : ck_Ok p1_O X LX 129 p5y3_1452 := ck_ok_s (ck_E0) ck_X0 ck_l0 p5y3_1452_e
set_option maxRecDepth 100000 in
def p5y3_1453 : ck_Sum := ((0, 0, 0), 245, [.inr (.inr (.inl 200)), .inl (ck_one 187)], ([], [], [(201, 187, 187, ck_one 6)]), ([], []), [(.inr (some (.inl (ck_one 6))), 245, ([], [], []))])
set_option maxRecDepth 100000 in
theorem p5y3_1453_e : ck_ok p1_O none [] [] 34 [] 92 p5y3_1453 = true := by decide +kernel
theorem p5y3_1453_s {X : Int → Int} {LX : Nat} : ck_Ok p1_O X LX 34 p5y3_1453 := ck_ok_s (ck_E0) ck_X0 ck_l0 p5y3_1453_e
set_option maxRecDepth 100000 in
def p5y3_1454 : ck_Sum := ((1, 0, 0), 245, [.inr (.inr (.inl 1)), .inl (ck_one 187)], ([], [], [(201, 187, 187, ck_one 6)]), ([], []), [(.inr (some (.inl (ck_one 6))), 245, ([], [], []))])
set_option maxRecDepth 100000 in
theorem p5y3_1454_e : ck_ok p1_O none [] [(129, [p5y3_1452]), (34, [p5y3_1453])] 128 [] 86 p5y3_1454 = true := by decide +kernel
theorem p5y3_1454_s {X : Int → Int} {LX : Nat} : ck_Ok p1_O X LX 128 p5y3_1454 := ck_ok_s (ck_E1 (ck_S1 p5y3_1452_s ck_S0) (ck_E1 (ck_S1 p5y3_1453_s ck_S0) ck_E0)) ck_X0 ck_l0 p5y3_1454_e
set_option maxRecDepth 100000 in
def p5y3_1455 : ck_Sum := ((2, 0, 0), 245, [.inr (.inr (.inl 1)), .inl (ck_one 187), .inr (.inr (.inl 245))], ([], [], [(201, 187, 187, ck_one 6)]), ([(245, 0, 0)], []), [(.inr (some (.inl (ck_one 0))), 245, ([], [], [(245, 0, 0, ck_one 6)]))])
set_option maxRecDepth 100000 in
theorem p5y3_1455_e : ck_ok p1_O none [] [(128, [p5y3_1454])] 127 [] 90 p5y3_1455 = true := by decide +kernel
theorem p5y3_1455_s {X : Int → Int} {LX : Nat} : ck_Ok p1_O X LX 127 p5y3_1455 := ck_ok_s (ck_E1 (ck_S1 p5y3_1454_s ck_S0) ck_E0) ck_X0 ck_l0 p5y3_1455_e
set_option maxRecDepth 100000 in
def p5y3_1459 : ck_Sum := ((0, 0, 0), 245, [.inr (.inr (.inl 1)), .inl (ck_one 188)], ([], [], []), ([], []), [(.inr none, 245, ([], [], []))])
set_option maxRecDepth 100000 in
theorem p5y3_1459_e : ck_ok p1_O none [] [] 129 [] 82 p5y3_1459 = true := by decide +kernel
theorem p5y3_1459_s {X : Int → Int} {LX : Nat} : ck_Ok p1_O X LX 129 p5y3_1459 := ck_ok_s (ck_E0) ck_X0 ck_l0 p5y3_1459_e
set_option maxRecDepth 100000 in
def p5y3_1460 : ck_Sum := ((0, 0, 0), 245, [.inr (.inr (.inl 200)), .inl (ck_one 188)], ([], [], [(201, 188, 188, ck_one 5)]), ([], []), [(.inr (some (.inl (ck_one 5))), 245, ([], [], []))])
set_option maxRecDepth 100000 in
theorem p5y3_1460_e : ck_ok p1_O none [] [] 34 [] 92 p5y3_1460 = true := by decide +kernel
theorem p5y3_1460_s {X : Int → Int} {LX : Nat} : ck_Ok p1_O X LX 34 p5y3_1460 := ck_ok_s (ck_E0) ck_X0 ck_l0 p5y3_1460_e
set_option maxRecDepth 100000 in
def p5y3_1461 : ck_Sum := ((1, 0, 0), 245, [.inr (.inr (.inl 1)), .inl (ck_one 188)], ([], [], [(201, 188, 188, ck_one 5)]), ([], []), [(.inr (some (.inl (ck_one 5))), 245, ([], [], []))])
set_option maxRecDepth 100000 in
theorem p5y3_1461_e : ck_ok p1_O none [] [(129, [p5y3_1459]), (34, [p5y3_1460])] 128 [] 86 p5y3_1461 = true := by decide +kernel
theorem p5y3_1461_s {X : Int → Int} {LX : Nat} : ck_Ok p1_O X LX 128 p5y3_1461 := ck_ok_s (ck_E1 (ck_S1 p5y3_1459_s ck_S0) (ck_E1 (ck_S1 p5y3_1460_s ck_S0) ck_E0)) ck_X0 ck_l0 p5y3_1461_e
set_option maxRecDepth 100000 in
def p5y3_1462 : ck_Sum := ((2, 0, 0), 245, [.inr (.inr (.inl 1)), .inl (ck_one 188), .inr (.inr (.inl 245))], ([], [], [(201, 188, 188, ck_one 5)]), ([(245, 0, 0)], []), [(.inr (some (.inl (ck_one 0))), 245, ([], [], [(245, 0, 0, ck_one 5)]))])
set_option maxRecDepth 100000 in
theorem p5y3_1462_e : ck_ok p1_O none [] [(128, [p5y3_1461])] 127 [] 90 p5y3_1462 = true := by decide +kernel
theorem p5y3_1462_s {X : Int → Int} {LX : Nat} : ck_Ok p1_O X LX 127 p5y3_1462 := ck_ok_s (ck_E1 (ck_S1 p5y3_1461_s ck_S0) ck_E0) ck_X0 ck_l0 p5y3_1462_e
set_option maxRecDepth 100000 in
def p5y3_1466 : ck_Sum := ((0, 0, 0), 245, [.inr (.inr (.inl 1)), .inl (ck_one 189)], ([], [], []), ([], []), [(.inr none, 245, ([], [], []))])
set_option maxRecDepth 100000 in
theorem p5y3_1466_e : ck_ok p1_O none [] [] 129 [] 82 p5y3_1466 = true := by decide +kernel
theorem p5y3_1466_s {X : Int → Int} {LX : Nat} : ck_Ok p1_O X LX 129 p5y3_1466 := ck_ok_s (ck_E0) ck_X0 ck_l0 p5y3_1466_e
set_option maxRecDepth 100000 in
def p5y3_1467 : ck_Sum := ((0, 0, 0), 245, [.inr (.inr (.inl 200)), .inl (ck_one 189)], ([], [], [(201, 189, 189, ck_one 8)]), ([], []), [(.inr (some (.inl (ck_one 8))), 245, ([], [], []))])
set_option maxRecDepth 100000 in
theorem p5y3_1467_e : ck_ok p1_O none [] [] 34 [] 92 p5y3_1467 = true := by decide +kernel
theorem p5y3_1467_s {X : Int → Int} {LX : Nat} : ck_Ok p1_O X LX 34 p5y3_1467 := ck_ok_s (ck_E0) ck_X0 ck_l0 p5y3_1467_e
set_option maxRecDepth 100000 in
def p5y3_1468 : ck_Sum := ((1, 0, 0), 245, [.inr (.inr (.inl 1)), .inl (ck_one 189)], ([], [], [(201, 189, 189, ck_one 8)]), ([], []), [(.inr (some (.inl (ck_one 8))), 245, ([], [], []))])
set_option maxRecDepth 100000 in
theorem p5y3_1468_e : ck_ok p1_O none [] [(129, [p5y3_1466]), (34, [p5y3_1467])] 128 [] 86 p5y3_1468 = true := by decide +kernel
theorem p5y3_1468_s {X : Int → Int} {LX : Nat} : ck_Ok p1_O X LX 128 p5y3_1468 := ck_ok_s (ck_E1 (ck_S1 p5y3_1466_s ck_S0) (ck_E1 (ck_S1 p5y3_1467_s ck_S0) ck_E0)) ck_X0 ck_l0 p5y3_1468_e
set_option maxRecDepth 100000 in
def p5y3_1469 : ck_Sum := ((2, 0, 0), 245, [.inr (.inr (.inl 1)), .inl (ck_one 189), .inr (.inr (.inl 245))], ([], [], [(201, 189, 189, ck_one 8)]), ([(245, 0, 0)], []), [(.inr (some (.inl (ck_one 0))), 245, ([], [], [(245, 0, 0, ck_one 8)]))])
set_option maxRecDepth 100000 in
theorem p5y3_1469_e : ck_ok p1_O none [] [(128, [p5y3_1468])] 127 [] 90 p5y3_1469 = true := by decide +kernel
theorem p5y3_1469_s {X : Int → Int} {LX : Nat} : ck_Ok p1_O X LX 127 p5y3_1469 := ck_ok_s (ck_E1 (ck_S1 p5y3_1468_s ck_S0) ck_E0) ck_X0 ck_l0 p5y3_1469_e
set_option maxRecDepth 100000 in
def p5y3_1473 : ck_Sum := ((0, 0, 0), 245, [.inr (.inr (.inl 1)), .inl (ck_one 190)], ([], [], []), ([], []), [(.inr none, 245, ([], [], []))])
set_option maxRecDepth 100000 in
theorem p5y3_1473_e : ck_ok p1_O none [] [] 129 [] 82 p5y3_1473 = true := by decide +kernel
theorem p5y3_1473_s {X : Int → Int} {LX : Nat} : ck_Ok p1_O X LX 129 p5y3_1473 := ck_ok_s (ck_E0) ck_X0 ck_l0 p5y3_1473_e
set_option maxRecDepth 100000 in
def p5y3_1474 : ck_Sum := ((0, 0, 0), 245, [.inr (.inr (.inl 200)), .inl (ck_one 190)], ([], [], [(201, 190, 190, ck_one 3)]), ([], []), [(.inr (some (.inl (ck_one 3))), 245, ([], [], []))])
set_option maxRecDepth 100000 in
theorem p5y3_1474_e : ck_ok p1_O none [] [] 34 [] 92 p5y3_1474 = true := by decide +kernel
theorem p5y3_1474_s {X : Int → Int} {LX : Nat} : ck_Ok p1_O X LX 34 p5y3_1474 := ck_ok_s (ck_E0) ck_X0 ck_l0 p5y3_1474_e
set_option maxRecDepth 100000 in
def p5y3_1475 : ck_Sum := ((1, 0, 0), 245, [.inr (.inr (.inl 1)), .inl (ck_one 190)], ([], [], [(201, 190, 190, ck_one 3)]), ([], []), [(.inr (some (.inl (ck_one 3))), 245, ([], [], []))])
set_option maxRecDepth 100000 in
theorem p5y3_1475_e : ck_ok p1_O none [] [(129, [p5y3_1473]), (34, [p5y3_1474])] 128 [] 86 p5y3_1475 = true := by decide +kernel
theorem p5y3_1475_s {X : Int → Int} {LX : Nat} : ck_Ok p1_O X LX 128 p5y3_1475 := ck_ok_s (ck_E1 (ck_S1 p5y3_1473_s ck_S0) (ck_E1 (ck_S1 p5y3_1474_s ck_S0) ck_E0)) ck_X0 ck_l0 p5y3_1475_e
set_option maxRecDepth 100000 in
def p5y3_1476 : ck_Sum := ((2, 0, 0), 245, [.inr (.inr (.inl 1)), .inl (ck_one 190), .inr (.inr (.inl 245))], ([], [], [(201, 190, 190, ck_one 3)]), ([(245, 0, 0)], []), [(.inr (some (.inl (ck_one 0))), 245, ([], [], [(245, 0, 0, ck_one 3)]))])
set_option maxRecDepth 100000 in
theorem p5y3_1476_e : ck_ok p1_O none [] [(128, [p5y3_1475])] 127 [] 90 p5y3_1476 = true := by decide +kernel
theorem p5y3_1476_s {X : Int → Int} {LX : Nat} : ck_Ok p1_O X LX 127 p5y3_1476 := ck_ok_s (ck_E1 (ck_S1 p5y3_1475_s ck_S0) ck_E0) ck_X0 ck_l0 p5y3_1476_e
set_option maxRecDepth 100000 in
def p5y3_1480 : ck_Sum := ((0, 0, 0), 245, [.inr (.inr (.inl 1)), .inl (ck_one 191)], ([], [], []), ([], []), [(.inr none, 245, ([], [], []))])
set_option maxRecDepth 100000 in
theorem p5y3_1480_e : ck_ok p1_O none [] [] 129 [] 82 p5y3_1480 = true := by decide +kernel
theorem p5y3_1480_s {X : Int → Int} {LX : Nat} : ck_Ok p1_O X LX 129 p5y3_1480 := ck_ok_s (ck_E0) ck_X0 ck_l0 p5y3_1480_e
set_option maxRecDepth 100000 in
def p5y3_1481 : ck_Sum := ((0, 0, 0), 245, [.inr (.inr (.inl 200)), .inl (ck_one 191)], ([], [], [(201, 191, 191, ck_one 5)]), ([], []), [(.inr (some (.inl (ck_one 5))), 245, ([], [], []))])
set_option maxRecDepth 100000 in
theorem p5y3_1481_e : ck_ok p1_O none [] [] 34 [] 92 p5y3_1481 = true := by decide +kernel
theorem p5y3_1481_s {X : Int → Int} {LX : Nat} : ck_Ok p1_O X LX 34 p5y3_1481 := ck_ok_s (ck_E0) ck_X0 ck_l0 p5y3_1481_e
set_option maxRecDepth 100000 in
def p5y3_1482 : ck_Sum := ((1, 0, 0), 245, [.inr (.inr (.inl 1)), .inl (ck_one 191)], ([], [], [(201, 191, 191, ck_one 5)]), ([], []), [(.inr (some (.inl (ck_one 5))), 245, ([], [], []))])
set_option maxRecDepth 100000 in
theorem p5y3_1482_e : ck_ok p1_O none [] [(129, [p5y3_1480]), (34, [p5y3_1481])] 128 [] 86 p5y3_1482 = true := by decide +kernel
theorem p5y3_1482_s {X : Int → Int} {LX : Nat} : ck_Ok p1_O X LX 128 p5y3_1482 := ck_ok_s (ck_E1 (ck_S1 p5y3_1480_s ck_S0) (ck_E1 (ck_S1 p5y3_1481_s ck_S0) ck_E0)) ck_X0 ck_l0 p5y3_1482_e
set_option maxRecDepth 100000 in
def p5y3_1483 : ck_Sum := ((2, 0, 0), 245, [.inr (.inr (.inl 1)), .inl (ck_one 191), .inr (.inr (.inl 245))], ([], [], [(201, 191, 191, ck_one 5)]), ([(245, 0, 0)], []), [(.inr (some (.inl (ck_one 0))), 245, ([], [], [(245, 0, 0, ck_one 5)]))])
set_option maxRecDepth 100000 in
theorem p5y3_1483_e : ck_ok p1_O none [] [(128, [p5y3_1482])] 127 [] 90 p5y3_1483 = true := by decide +kernel
theorem p5y3_1483_s {X : Int → Int} {LX : Nat} : ck_Ok p1_O X LX 127 p5y3_1483 := ck_ok_s (ck_E1 (ck_S1 p5y3_1482_s ck_S0) ck_E0) ck_X0 ck_l0 p5y3_1483_e
set_option maxRecDepth 100000 in
def p5y3_1487 : ck_Sum := ((0, 0, 0), 245, [.inr (.inr (.inl 1)), .inl (ck_one 192)], ([], [], []), ([], []), [(.inr none, 245, ([], [], []))])
set_option maxRecDepth 100000 in
theorem p5y3_1487_e : ck_ok p1_O none [] [] 129 [] 82 p5y3_1487 = true := by decide +kernel
theorem p5y3_1487_s {X : Int → Int} {LX : Nat} : ck_Ok p1_O X LX 129 p5y3_1487 := ck_ok_s (ck_E0) ck_X0 ck_l0 p5y3_1487_e
set_option maxRecDepth 100000 in
def p5y3_1488 : ck_Sum := ((0, 0, 0), 245, [.inr (.inr (.inl 200)), .inl (ck_one 192)], ([], [], [(201, 192, 192, ck_one 4)]), ([], []), [(.inr (some (.inl (ck_one 4))), 245, ([], [], []))])
set_option maxRecDepth 100000 in
theorem p5y3_1488_e : ck_ok p1_O none [] [] 34 [] 92 p5y3_1488 = true := by decide +kernel
theorem p5y3_1488_s {X : Int → Int} {LX : Nat} : ck_Ok p1_O X LX 34 p5y3_1488 := ck_ok_s (ck_E0) ck_X0 ck_l0 p5y3_1488_e
set_option maxRecDepth 100000 in
def p5y3_1489 : ck_Sum := ((1, 0, 0), 245, [.inr (.inr (.inl 1)), .inl (ck_one 192)], ([], [], [(201, 192, 192, ck_one 4)]), ([], []), [(.inr (some (.inl (ck_one 4))), 245, ([], [], []))])
set_option maxRecDepth 100000 in
theorem p5y3_1489_e : ck_ok p1_O none [] [(129, [p5y3_1487]), (34, [p5y3_1488])] 128 [] 86 p5y3_1489 = true := by decide +kernel
theorem p5y3_1489_s {X : Int → Int} {LX : Nat} : ck_Ok p1_O X LX 128 p5y3_1489 := ck_ok_s (ck_E1 (ck_S1 p5y3_1487_s ck_S0) (ck_E1 (ck_S1 p5y3_1488_s ck_S0) ck_E0)) ck_X0 ck_l0 p5y3_1489_e
set_option maxRecDepth 100000 in
def p5y3_1490 : ck_Sum := ((2, 0, 0), 245, [.inr (.inr (.inl 1)), .inl (ck_one 192), .inr (.inr (.inl 245))], ([], [], [(201, 192, 192, ck_one 4)]), ([(245, 0, 0)], []), [(.inr (some (.inl (ck_one 0))), 245, ([], [], [(245, 0, 0, ck_one 4)]))])
set_option maxRecDepth 100000 in
theorem p5y3_1490_e : ck_ok p1_O none [] [(128, [p5y3_1489])] 127 [] 90 p5y3_1490 = true := by decide +kernel
theorem p5y3_1490_s {X : Int → Int} {LX : Nat} : ck_Ok p1_O X LX 127 p5y3_1490 := ck_ok_s (ck_E1 (ck_S1 p5y3_1489_s ck_S0) ck_E0) ck_X0 ck_l0 p5y3_1490_e
set_option maxRecDepth 100000 in
def p5y3_1494 : ck_Sum := ((0, 0, 0), 245, [.inr (.inr (.inl 1)), .inl (ck_one 193)], ([], [], []), ([], []), [(.inr none, 245, ([], [], []))])
set_option maxRecDepth 100000 in
theorem p5y3_1494_e : ck_ok p1_O none [] [] 129 [] 82 p5y3_1494 = true := by decide +kernel
theorem p5y3_1494_s {X : Int → Int} {LX : Nat} : ck_Ok p1_O X LX 129 p5y3_1494 := ck_ok_s (ck_E0) ck_X0 ck_l0 p5y3_1494_e
set_option maxRecDepth 100000 in
def p5y3_1495 : ck_Sum := ((0, 0, 0), 245, [.inr (.inr (.inl 200)), .inl (ck_one 193)], ([], [], [(201, 193, 193, ck_one 9)]), ([], []), [(.inr (some (.inl (ck_one 9))), 245, ([], [], []))])
set_option maxRecDepth 100000 in
theorem p5y3_1495_e : ck_ok p1_O none [] [] 34 [] 92 p5y3_1495 = true := by decide +kernel
theorem p5y3_1495_s {X : Int → Int} {LX : Nat} : ck_Ok p1_O X LX 34 p5y3_1495 := ck_ok_s (ck_E0) ck_X0 ck_l0 p5y3_1495_e
set_option maxRecDepth 100000 in
def p5y3_1496 : ck_Sum := ((1, 0, 0), 245, [.inr (.inr (.inl 1)), .inl (ck_one 193)], ([], [], [(201, 193, 193, ck_one 9)]), ([], []), [(.inr (some (.inl (ck_one 9))), 245, ([], [], []))])
set_option maxRecDepth 100000 in
theorem p5y3_1496_e : ck_ok p1_O none [] [(129, [p5y3_1494]), (34, [p5y3_1495])] 128 [] 86 p5y3_1496 = true := by decide +kernel
theorem p5y3_1496_s {X : Int → Int} {LX : Nat} : ck_Ok p1_O X LX 128 p5y3_1496 := ck_ok_s (ck_E1 (ck_S1 p5y3_1494_s ck_S0) (ck_E1 (ck_S1 p5y3_1495_s ck_S0) ck_E0)) ck_X0 ck_l0 p5y3_1496_e
set_option maxRecDepth 100000 in
def p5y3_1497 : ck_Sum := ((2, 0, 0), 245, [.inr (.inr (.inl 1)), .inl (ck_one 193), .inr (.inr (.inl 245))], ([], [], [(201, 193, 193, ck_one 9)]), ([(245, 0, 0)], []), [(.inr (some (.inl (ck_one 0))), 245, ([], [], [(245, 0, 0, ck_one 9)]))])
set_option maxRecDepth 100000 in
theorem p5y3_1497_e : ck_ok p1_O none [] [(128, [p5y3_1496])] 127 [] 90 p5y3_1497 = true := by decide +kernel
theorem p5y3_1497_s {X : Int → Int} {LX : Nat} : ck_Ok p1_O X LX 127 p5y3_1497 := ck_ok_s (ck_E1 (ck_S1 p5y3_1496_s ck_S0) ck_E0) ck_X0 ck_l0 p5y3_1497_e
set_option maxRecDepth 100000 in
def p5y3_1501 : ck_Sum := ((0, 0, 0), 245, [.inr (.inr (.inl 1)), .inl (ck_one 194)], ([], [], []), ([], []), [(.inr none, 245, ([], [], []))])
set_option maxRecDepth 100000 in
theorem p5y3_1501_e : ck_ok p1_O none [] [] 129 [] 82 p5y3_1501 = true := by decide +kernel
theorem p5y3_1501_s {X : Int → Int} {LX : Nat} : ck_Ok p1_O X LX 129 p5y3_1501 := ck_ok_s (ck_E0) ck_X0 ck_l0 p5y3_1501_e
set_option maxRecDepth 100000 in
def p5y3_1502 : ck_Sum := ((0, 0, 0), 245, [.inr (.inr (.inl 200)), .inl (ck_one 194)], ([], [], [(201, 194, 194, ck_one 3)]), ([], []), [(.inr (some (.inl (ck_one 3))), 245, ([], [], []))])
set_option maxRecDepth 100000 in
theorem p5y3_1502_e : ck_ok p1_O none [] [] 34 [] 92 p5y3_1502 = true := by decide +kernel
theorem p5y3_1502_s {X : Int → Int} {LX : Nat} : ck_Ok p1_O X LX 34 p5y3_1502 := ck_ok_s (ck_E0) ck_X0 ck_l0 p5y3_1502_e
set_option maxRecDepth 100000 in
def p5y3_1503 : ck_Sum := ((1, 0, 0), 245, [.inr (.inr (.inl 1)), .inl (ck_one 194)], ([], [], [(201, 194, 194, ck_one 3)]), ([], []), [(.inr (some (.inl (ck_one 3))), 245, ([], [], []))])
set_option maxRecDepth 100000 in
theorem p5y3_1503_e : ck_ok p1_O none [] [(129, [p5y3_1501]), (34, [p5y3_1502])] 128 [] 86 p5y3_1503 = true := by decide +kernel
theorem p5y3_1503_s {X : Int → Int} {LX : Nat} : ck_Ok p1_O X LX 128 p5y3_1503 := ck_ok_s (ck_E1 (ck_S1 p5y3_1501_s ck_S0) (ck_E1 (ck_S1 p5y3_1502_s ck_S0) ck_E0)) ck_X0 ck_l0 p5y3_1503_e
set_option maxRecDepth 100000 in
def p5y3_1504 : ck_Sum := ((2, 0, 0), 245, [.inr (.inr (.inl 1)), .inl (ck_one 194), .inr (.inr (.inl 245))], ([], [], [(201, 194, 194, ck_one 3)]), ([(245, 0, 0)], []), [(.inr (some (.inl (ck_one 0))), 245, ([], [], [(245, 0, 0, ck_one 3)]))])
set_option maxRecDepth 100000 in
theorem p5y3_1504_e : ck_ok p1_O none [] [(128, [p5y3_1503])] 127 [] 90 p5y3_1504 = true := by decide +kernel
theorem p5y3_1504_s {X : Int → Int} {LX : Nat} : ck_Ok p1_O X LX 127 p5y3_1504 := ck_ok_s (ck_E1 (ck_S1 p5y3_1503_s ck_S0) ck_E0) ck_X0 ck_l0 p5y3_1504_e
set_option maxRecDepth 100000 in
def p5y3_1508 : ck_Sum := ((0, 0, 0), 245, [.inr (.inr (.inl 1)), .inl (ck_one 195)], ([], [], []), ([], []), [(.inr none, 245, ([], [], []))])
set_option maxRecDepth 100000 in
theorem p5y3_1508_e : ck_ok p1_O none [] [] 129 [] 82 p5y3_1508 = true := by decide +kernel
theorem p5y3_1508_s {X : Int → Int} {LX : Nat} : ck_Ok p1_O X LX 129 p5y3_1508 := ck_ok_s (ck_E0) ck_X0 ck_l0 p5y3_1508_e
set_option maxRecDepth 100000 in
def p5y3_1509 : ck_Sum := ((0, 0, 0), 245, [.inr (.inr (.inl 200)), .inl (ck_one 195)], ([], [], [(201, 195, 195, ck_one 1)]), ([], []), [(.inr (some (.inl (ck_one 1))), 245, ([], [], []))])
set_option maxRecDepth 100000 in
theorem p5y3_1509_e : ck_ok p1_O none [] [] 34 [] 92 p5y3_1509 = true := by decide +kernel
theorem p5y3_1509_s {X : Int → Int} {LX : Nat} : ck_Ok p1_O X LX 34 p5y3_1509 := ck_ok_s (ck_E0) ck_X0 ck_l0 p5y3_1509_e
set_option maxRecDepth 100000 in
def p5y3_1510 : ck_Sum := ((1, 0, 0), 245, [.inr (.inr (.inl 1)), .inl (ck_one 195)], ([], [], [(201, 195, 195, ck_one 1)]), ([], []), [(.inr (some (.inl (ck_one 1))), 245, ([], [], []))])
set_option maxRecDepth 100000 in
theorem p5y3_1510_e : ck_ok p1_O none [] [(129, [p5y3_1508]), (34, [p5y3_1509])] 128 [] 86 p5y3_1510 = true := by decide +kernel
theorem p5y3_1510_s {X : Int → Int} {LX : Nat} : ck_Ok p1_O X LX 128 p5y3_1510 := ck_ok_s (ck_E1 (ck_S1 p5y3_1508_s ck_S0) (ck_E1 (ck_S1 p5y3_1509_s ck_S0) ck_E0)) ck_X0 ck_l0 p5y3_1510_e
set_option maxRecDepth 100000 in
def p5y3_1511 : ck_Sum := ((2, 0, 0), 245, [.inr (.inr (.inl 1)), .inl (ck_one 195), .inr (.inr (.inl 245))], ([], [], [(201, 195, 195, ck_one 1)]), ([(245, 0, 0)], []), [(.inr (some (.inl (ck_one 0))), 245, ([], [], [(245, 0, 0, ck_one 1)]))])
set_option maxRecDepth 100000 in
theorem p5y3_1511_e : ck_ok p1_O none [] [(128, [p5y3_1510])] 127 [] 90 p5y3_1511 = true := by decide +kernel
theorem p5y3_1511_s {X : Int → Int} {LX : Nat} : ck_Ok p1_O X LX 127 p5y3_1511 := ck_ok_s (ck_E1 (ck_S1 p5y3_1510_s ck_S0) ck_E0) ck_X0 ck_l0 p5y3_1511_e
set_option maxRecDepth 100000 in
def p5y3_1515 : ck_Sum := ((0, 0, 0), 245, [.inr (.inr (.inl 1)), .inl (ck_one 196)], ([], [], []), ([], []), [(.inr none, 245, ([], [], []))])
set_option maxRecDepth 100000 in
theorem p5y3_1515_e : ck_ok p1_O none [] [] 129 [] 82 p5y3_1515 = true := by decide +kernel
theorem p5y3_1515_s {X : Int → Int} {LX : Nat} : ck_Ok p1_O X LX 129 p5y3_1515 := ck_ok_s (ck_E0) ck_X0 ck_l0 p5y3_1515_e
set_option maxRecDepth 100000 in
def p5y3_1516 : ck_Sum := ((0, 0, 0), 245, [.inr (.inr (.inl 200)), .inl (ck_one 196)], ([], [], [(201, 196, 196, ck_one 1)]), ([], []), [(.inr (some (.inl (ck_one 1))), 245, ([], [], []))])
set_option maxRecDepth 100000 in
theorem p5y3_1516_e : ck_ok p1_O none [] [] 34 [] 92 p5y3_1516 = true := by decide +kernel
theorem p5y3_1516_s {X : Int → Int} {LX : Nat} : ck_Ok p1_O X LX 34 p5y3_1516 := ck_ok_s (ck_E0) ck_X0 ck_l0 p5y3_1516_e
set_option maxRecDepth 100000 in
def p5y3_1517 : ck_Sum := ((1, 0, 0), 245, [.inr (.inr (.inl 1)), .inl (ck_one 196)], ([], [], [(201, 196, 196, ck_one 1)]), ([], []), [(.inr (some (.inl (ck_one 1))), 245, ([], [], []))])
set_option maxRecDepth 100000 in
theorem p5y3_1517_e : ck_ok p1_O none [] [(129, [p5y3_1515]), (34, [p5y3_1516])] 128 [] 86 p5y3_1517 = true := by decide +kernel
theorem p5y3_1517_s {X : Int → Int} {LX : Nat} : ck_Ok p1_O X LX 128 p5y3_1517 := ck_ok_s (ck_E1 (ck_S1 p5y3_1515_s ck_S0) (ck_E1 (ck_S1 p5y3_1516_s ck_S0) ck_E0)) ck_X0 ck_l0 p5y3_1517_e
set_option maxRecDepth 100000 in
def p5y3_1518 : ck_Sum := ((2, 0, 0), 245, [.inr (.inr (.inl 1)), .inl (ck_one 196), .inr (.inr (.inl 245))], ([], [], [(201, 196, 196, ck_one 1)]), ([(245, 0, 0)], []), [(.inr (some (.inl (ck_one 0))), 245, ([], [], [(245, 0, 0, ck_one 1)]))])
set_option maxRecDepth 100000 in
theorem p5y3_1518_e : ck_ok p1_O none [] [(128, [p5y3_1517])] 127 [] 90 p5y3_1518 = true := by decide +kernel
theorem p5y3_1518_s {X : Int → Int} {LX : Nat} : ck_Ok p1_O X LX 127 p5y3_1518 := ck_ok_s (ck_E1 (ck_S1 p5y3_1517_s ck_S0) ck_E0) ck_X0 ck_l0 p5y3_1518_e
set_option maxRecDepth 100000 in
def p5y3_1522 : ck_Sum := ((0, 0, 0), 245, [.inr (.inr (.inl 1)), .inl (ck_one 197)], ([], [], []), ([], []), [(.inr none, 245, ([], [], []))])
set_option maxRecDepth 100000 in
theorem p5y3_1522_e : ck_ok p1_O none [] [] 129 [] 82 p5y3_1522 = true := by decide +kernel
theorem p5y3_1522_s {X : Int → Int} {LX : Nat} : ck_Ok p1_O X LX 129 p5y3_1522 := ck_ok_s (ck_E0) ck_X0 ck_l0 p5y3_1522_e
set_option maxRecDepth 100000 in
def p5y3_1523 : ck_Sum := ((0, 0, 0), 245, [.inr (.inr (.inl 200)), .inl (ck_one 197)], ([], [], [(201, 197, 197, ck_one 6)]), ([], []), [(.inr (some (.inl (ck_one 6))), 245, ([], [], []))])
set_option maxRecDepth 100000 in
theorem p5y3_1523_e : ck_ok p1_O none [] [] 34 [] 92 p5y3_1523 = true := by decide +kernel
theorem p5y3_1523_s {X : Int → Int} {LX : Nat} : ck_Ok p1_O X LX 34 p5y3_1523 := ck_ok_s (ck_E0) ck_X0 ck_l0 p5y3_1523_e
set_option maxRecDepth 100000 in
def p5y3_1524 : ck_Sum := ((1, 0, 0), 245, [.inr (.inr (.inl 1)), .inl (ck_one 197)], ([], [], [(201, 197, 197, ck_one 6)]), ([], []), [(.inr (some (.inl (ck_one 6))), 245, ([], [], []))])
set_option maxRecDepth 100000 in
theorem p5y3_1524_e : ck_ok p1_O none [] [(129, [p5y3_1522]), (34, [p5y3_1523])] 128 [] 86 p5y3_1524 = true := by decide +kernel
theorem p5y3_1524_s {X : Int → Int} {LX : Nat} : ck_Ok p1_O X LX 128 p5y3_1524 := ck_ok_s (ck_E1 (ck_S1 p5y3_1522_s ck_S0) (ck_E1 (ck_S1 p5y3_1523_s ck_S0) ck_E0)) ck_X0 ck_l0 p5y3_1524_e
set_option maxRecDepth 100000 in
def p5y3_1525 : ck_Sum := ((2, 0, 0), 245, [.inr (.inr (.inl 1)), .inl (ck_one 197), .inr (.inr (.inl 245))], ([], [], [(201, 197, 197, ck_one 6)]), ([(245, 0, 0)], []), [(.inr (some (.inl (ck_one 0))), 245, ([], [], [(245, 0, 0, ck_one 6)]))])
set_option maxRecDepth 100000 in
theorem p5y3_1525_e : ck_ok p1_O none [] [(128, [p5y3_1524])] 127 [] 90 p5y3_1525 = true := by decide +kernel
theorem p5y3_1525_s {X : Int → Int} {LX : Nat} : ck_Ok p1_O X LX 127 p5y3_1525 := ck_ok_s (ck_E1 (ck_S1 p5y3_1524_s ck_S0) ck_E0) ck_X0 ck_l0 p5y3_1525_e
set_option maxRecDepth 100000 in
def p5y3_1529 : ck_Sum := ((0, 0, 0), 245, [.inr (.inr (.inl 1)), .inl (ck_one 198)], ([], [], []), ([], []), [(.inr none, 245, ([], [], []))])
set_option maxRecDepth 100000 in
theorem p5y3_1529_e : ck_ok p1_O none [] [] 129 [] 82 p5y3_1529 = true := by decide +kernel
theorem p5y3_1529_s {X : Int → Int} {LX : Nat} : ck_Ok p1_O X LX 129 p5y3_1529 := ck_ok_s (ck_E0) ck_X0 ck_l0 p5y3_1529_e
set_option maxRecDepth 100000 in
def p5y3_1530 : ck_Sum := ((0, 0, 0), 245, [.inr (.inr (.inl 200)), .inl (ck_one 198)], ([], [], [(201, 198, 198, ck_one 5)]), ([], []), [(.inr (some (.inl (ck_one 5))), 245, ([], [], []))])
set_option maxRecDepth 100000 in
theorem p5y3_1530_e : ck_ok p1_O none [] [] 34 [] 92 p5y3_1530 = true := by decide +kernel
theorem p5y3_1530_s {X : Int → Int} {LX : Nat} : ck_Ok p1_O X LX 34 p5y3_1530 := ck_ok_s (ck_E0) ck_X0 ck_l0 p5y3_1530_e
set_option maxRecDepth 100000 in
def p5y3_1531 : ck_Sum := ((1, 0, 0), 245, [.inr (.inr (.inl 1)), .inl (ck_one 198)], ([], [], [(201, 198, 198, ck_one 5)]), ([], []), [(.inr (some (.inl (ck_one 5))), 245, ([], [], []))])
set_option maxRecDepth 100000 in
theorem p5y3_1531_e : ck_ok p1_O none [] [(129, [p5y3_1529]), (34, [p5y3_1530])] 128 [] 86 p5y3_1531 = true := by decide +kernel
theorem p5y3_1531_s {X : Int → Int} {LX : Nat} : ck_Ok p1_O X LX 128 p5y3_1531 := ck_ok_s (ck_E1 (ck_S1 p5y3_1529_s ck_S0) (ck_E1 (ck_S1 p5y3_1530_s ck_S0) ck_E0)) ck_X0 ck_l0 p5y3_1531_e
set_option maxRecDepth 100000 in
def p5y3_1532 : ck_Sum := ((2, 0, 0), 245, [.inr (.inr (.inl 1)), .inl (ck_one 198), .inr (.inr (.inl 245))], ([], [], [(201, 198, 198, ck_one 5)]), ([(245, 0, 0)], []), [(.inr (some (.inl (ck_one 0))), 245, ([], [], [(245, 0, 0, ck_one 5)]))])
set_option maxRecDepth 100000 in
theorem p5y3_1532_e : ck_ok p1_O none [] [(128, [p5y3_1531])] 127 [] 90 p5y3_1532 = true := by decide +kernel
theorem p5y3_1532_s {X : Int → Int} {LX : Nat} : ck_Ok p1_O X LX 127 p5y3_1532 := ck_ok_s (ck_E1 (ck_S1 p5y3_1531_s ck_S0) ck_E0) ck_X0 ck_l0 p5y3_1532_e
set_option maxRecDepth 100000 in
def p5y3_1536 : ck_Sum := ((0, 0, 0), 245, [.inr (.inr (.inl 1)), .inl (ck_one 199)], ([], [], []), ([], []), [(.inr none, 245, ([], [], []))])
set_option maxRecDepth 100000 in
theorem p5y3_1536_e : ck_ok p1_O none [] [] 129 [] 82 p5y3_1536 = true := by decide +kernel
theorem p5y3_1536_s {X : Int → Int} {LX : Nat} : ck_Ok p1_O X LX 129 p5y3_1536 := ck_ok_s (ck_E0) ck_X0 ck_l0 p5y3_1536_e
set_option maxRecDepth 100000 in
def p5y3_1537 : ck_Sum := ((0, 0, 0), 245, [.inr (.inr (.inl 200)), .inl (ck_one 199)], ([], [], [(201, 199, 199, ck_one 6)]), ([], []), [(.inr (some (.inl (ck_one 6))), 245, ([], [], []))])
set_option maxRecDepth 100000 in
theorem p5y3_1537_e : ck_ok p1_O none [] [] 34 [] 92 p5y3_1537 = true := by decide +kernel
theorem p5y3_1537_s {X : Int → Int} {LX : Nat} : ck_Ok p1_O X LX 34 p5y3_1537 := ck_ok_s (ck_E0) ck_X0 ck_l0 p5y3_1537_e
set_option maxRecDepth 100000 in
def p5y3_1538 : ck_Sum := ((1, 0, 0), 245, [.inr (.inr (.inl 1)), .inl (ck_one 199)], ([], [], [(201, 199, 199, ck_one 6)]), ([], []), [(.inr (some (.inl (ck_one 6))), 245, ([], [], []))])
set_option maxRecDepth 100000 in
theorem p5y3_1538_e : ck_ok p1_O none [] [(129, [p5y3_1536]), (34, [p5y3_1537])] 128 [] 86 p5y3_1538 = true := by decide +kernel
theorem p5y3_1538_s {X : Int → Int} {LX : Nat} : ck_Ok p1_O X LX 128 p5y3_1538 := ck_ok_s (ck_E1 (ck_S1 p5y3_1536_s ck_S0) (ck_E1 (ck_S1 p5y3_1537_s ck_S0) ck_E0)) ck_X0 ck_l0 p5y3_1538_e
set_option maxRecDepth 100000 in
def p5y3_1539 : ck_Sum := ((2, 0, 0), 245, [.inr (.inr (.inl 1)), .inl (ck_one 199), .inr (.inr (.inl 245))], ([], [], [(201, 199, 199, ck_one 6)]), ([(245, 0, 0)], []), [(.inr (some (.inl (ck_one 0))), 245, ([], [], [(245, 0, 0, ck_one 6)]))])
set_option maxRecDepth 100000 in
theorem p5y3_1539_e : ck_ok p1_O none [] [(128, [p5y3_1538])] 127 [] 90 p5y3_1539 = true := by decide +kernel
theorem p5y3_1539_s {X : Int → Int} {LX : Nat} : ck_Ok p1_O X LX 127 p5y3_1539 := ck_ok_s (ck_E1 (ck_S1 p5y3_1538_s ck_S0) ck_E0) ck_X0 ck_l0 p5y3_1539_e
set_option maxRecDepth 100000 in
def p5y3_1543 : ck_Sum := ((0, 0, 0), 245, [.inr (.inr (.inl 1)), .inl (ck_one 200)], ([], [], []), ([], []), [(.inr none, 245, ([], [], []))])
set_option maxRecDepth 100000 in
theorem p5y3_1543_e : ck_ok p1_O none [] [] 129 [] 82 p5y3_1543 = true := by decide +kernel
theorem p5y3_1543_s {X : Int → Int} {LX : Nat} : ck_Ok p1_O X LX 129 p5y3_1543 := ck_ok_s (ck_E0) ck_X0 ck_l0 p5y3_1543_e
set_option maxRecDepth 100000 in
def p5y3_1544 : ck_Sum := ((0, 0, 0), 245, [.inr (.inr (.inl 200)), .inl (ck_one 200)], ([], [], [(201, 200, 200, ck_one 3)]), ([], []), [(.inr (some (.inl (ck_one 3))), 245, ([], [], []))])
set_option maxRecDepth 100000 in
theorem p5y3_1544_e : ck_ok p1_O none [] [] 34 [] 92 p5y3_1544 = true := by decide +kernel
theorem p5y3_1544_s {X : Int → Int} {LX : Nat} : ck_Ok p1_O X LX 34 p5y3_1544 := ck_ok_s (ck_E0) ck_X0 ck_l0 p5y3_1544_e
set_option maxRecDepth 100000 in
def p5y3_1545 : ck_Sum := ((1, 0, 0), 245, [.inr (.inr (.inl 1)), .inl (ck_one 200)], ([], [], [(201, 200, 200, ck_one 3)]), ([], []), [(.inr (some (.inl (ck_one 3))), 245, ([], [], []))])
set_option maxRecDepth 100000 in
theorem p5y3_1545_e : ck_ok p1_O none [] [(129, [p5y3_1543]), (34, [p5y3_1544])] 128 [] 86 p5y3_1545 = true := by decide +kernel
theorem p5y3_1545_s {X : Int → Int} {LX : Nat} : ck_Ok p1_O X LX 128 p5y3_1545 := ck_ok_s (ck_E1 (ck_S1 p5y3_1543_s ck_S0) (ck_E1 (ck_S1 p5y3_1544_s ck_S0) ck_E0)) ck_X0 ck_l0 p5y3_1545_e
set_option maxRecDepth 100000 in
def p5y3_1546 : ck_Sum := ((2, 0, 0), 245, [.inr (.inr (.inl 1)), .inl (ck_one 200), .inr (.inr (.inl 245))], ([], [], [(201, 200, 200, ck_one 3)]), ([(245, 0, 0)], []), [(.inr (some (.inl (ck_one 0))), 245, ([], [], [(245, 0, 0, ck_one 3)]))])
set_option maxRecDepth 100000 in
theorem p5y3_1546_e : ck_ok p1_O none [] [(128, [p5y3_1545])] 127 [] 90 p5y3_1546 = true := by decide +kernel
theorem p5y3_1546_s {X : Int → Int} {LX : Nat} : ck_Ok p1_O X LX 127 p5y3_1546 := ck_ok_s (ck_E1 (ck_S1 p5y3_1545_s ck_S0) ck_E0) ck_X0 ck_l0 p5y3_1546_e
set_option maxRecDepth 100000 in
def p5y3_1550 : ck_Sum := ((0, 0, 0), 245, [.inr (.inr (.inl 1)), .inl (ck_one 201)], ([], [], []), ([], []), [(.inr none, 245, ([], [], []))])
set_option maxRecDepth 100000 in
theorem p5y3_1550_e : ck_ok p1_O none [] [] 129 [] 82 p5y3_1550 = true := by decide +kernel
theorem p5y3_1550_s {X : Int → Int} {LX : Nat} : ck_Ok p1_O X LX 129 p5y3_1550 := ck_ok_s (ck_E0) ck_X0 ck_l0 p5y3_1550_e
set_option maxRecDepth 100000 in
def p5y3_1551 : ck_Sum := ((0, 0, 0), 245, [.inr (.inr (.inl 200)), .inl (ck_one 201)], ([], [], [(201, 201, 201, ck_one 0)]), ([], []), [(.inr (some (.inl (ck_one 0))), 245, ([], [], []))])
set_option maxRecDepth 100000 in
theorem p5y3_1551_e : ck_ok p1_O none [] [] 34 [] 92 p5y3_1551 = true := by decide +kernel
theorem p5y3_1551_s {X : Int → Int} {LX : Nat} : ck_Ok p1_O X LX 34 p5y3_1551 := ck_ok_s (ck_E0) ck_X0 ck_l0 p5y3_1551_e
set_option maxRecDepth 100000 in
def p5y3_1552 : ck_Sum := ((1, 0, 0), 245, [.inr (.inr (.inl 1)), .inl (ck_one 201)], ([], [], [(201, 201, 201, ck_one 0)]), ([], []), [(.inr (some (.inl (ck_one 0))), 245, ([], [], []))])
set_option maxRecDepth 100000 in
theorem p5y3_1552_e : ck_ok p1_O none [] [(129, [p5y3_1550]), (34, [p5y3_1551])] 128 [] 86 p5y3_1552 = true := by decide +kernel
theorem p5y3_1552_s {X : Int → Int} {LX : Nat} : ck_Ok p1_O X LX 128 p5y3_1552 := ck_ok_s (ck_E1 (ck_S1 p5y3_1550_s ck_S0) (ck_E1 (ck_S1 p5y3_1551_s ck_S0) ck_E0)) ck_X0 ck_l0 p5y3_1552_e
set_option maxRecDepth 100000 in
def p5y3_1553 : ck_Sum := ((2, 0, 0), 245, [.inr (.inr (.inl 1)), .inl (ck_one 201), .inr (.inr (.inl 245))], ([], [], [(201, 201, 201, ck_one 0)]), ([(245, 0, 0)], []), [(.inr (some (.inl (ck_one 0))), 245, ([], [], [(245, 0, 0, ck_one 0)]))])
set_option maxRecDepth 100000 in
theorem p5y3_1553_e : ck_ok p1_O none [] [(128, [p5y3_1552])] 127 [] 90 p5y3_1553 = true := by decide +kernel
theorem p5y3_1553_s {X : Int → Int} {LX : Nat} : ck_Ok p1_O X LX 127 p5y3_1553 := ck_ok_s (ck_E1 (ck_S1 p5y3_1552_s ck_S0) ck_E0) ck_X0 ck_l0 p5y3_1553_e
set_option maxRecDepth 100000 in
def p5y3_1557 : ck_Sum := ((0, 0, 0), 245, [.inr (.inr (.inl 1)), .inl (ck_one 202)], ([], [], []), ([], []), [(.inr none, 245, ([], [], []))])
set_option maxRecDepth 100000 in
theorem p5y3_1557_e : ck_ok p1_O none [] [] 129 [] 82 p5y3_1557 = true := by decide +kernel
theorem p5y3_1557_s {X : Int → Int} {LX : Nat} : ck_Ok p1_O X LX 129 p5y3_1557 := ck_ok_s (ck_E0) ck_X0 ck_l0 p5y3_1557_e
set_option maxRecDepth 100000 in
def p5y3_1558 : ck_Sum := ((0, 0, 0), 245, [.inr (.inr (.inl 200)), .inl (ck_one 202)], ([], [], [(201, 202, 202, ck_one 0)]), ([], []), [(.inr (some (.inl (ck_one 0))), 245, ([], [], []))])
set_option maxRecDepth 100000 in
theorem p5y3_1558_e : ck_ok p1_O none [] [] 34 [] 92 p5y3_1558 = true := by decide +kernel
theorem p5y3_1558_s {X : Int → Int} {LX : Nat} : ck_Ok p1_O X LX 34 p5y3_1558 := ck_ok_s (ck_E0) ck_X0 ck_l0 p5y3_1558_e
set_option maxRecDepth 100000 in
def p5y3_1559 : ck_Sum := ((1, 0, 0), 245, [.inr (.inr (.inl 1)), .inl (ck_one 202)], ([], [], [(201, 202, 202, ck_one 0)]), ([], []), [(.inr (some (.inl (ck_one 0))), 245, ([], [], []))])
set_option maxRecDepth 100000 in
theorem p5y3_1559_e : ck_ok p1_O none [] [(129, [p5y3_1557]), (34, [p5y3_1558])] 128 [] 86 p5y3_1559 = true := by decide +kernel
theorem p5y3_1559_s {X : Int → Int} {LX : Nat} : ck_Ok p1_O X LX 128 p5y3_1559 := ck_ok_s (ck_E1 (ck_S1 p5y3_1557_s ck_S0) (ck_E1 (ck_S1 p5y3_1558_s ck_S0) ck_E0)) ck_X0 ck_l0 p5y3_1559_e
set_option maxRecDepth 100000 in
def p5y3_1560 : ck_Sum := ((2, 0, 0), 245, [.inr (.inr (.inl 1)), .inl (ck_one 202), .inr (.inr (.inl 245))], ([], [], [(201, 202, 202, ck_one 0)]), ([(245, 0, 0)], []), [(.inr (some (.inl (ck_one 0))), 245, ([], [], [(245, 0, 0, ck_one 0)]))])
set_option maxRecDepth 100000 in
theorem p5y3_1560_e : ck_ok p1_O none [] [(128, [p5y3_1559])] 127 [] 90 p5y3_1560 = true := by decide +kernel
theorem p5y3_1560_s {X : Int → Int} {LX : Nat} : ck_Ok p1_O X LX 127 p5y3_1560 := ck_ok_s (ck_E1 (ck_S1 p5y3_1559_s ck_S0) ck_E0) ck_X0 ck_l0 p5y3_1560_e
set_option maxRecDepth 100000 in
def p5y3_1211 : ck_Sum := ((0, 0, 0), 245, [.inl (ck_one 152), .inl (ck_one 0), .inl (ck_one 299)], ([], [], []), ([], []), [(.inr (some (.inl (ck_one 1))), 245, ([], [], []))])
set_option maxRecDepth 100000 in
theorem p5y3_1211_e : ck_ok p1_O none [] [] 287 [] 88 p5y3_1211 = true := by decide +kernel
theorem p5y3_1211_s {X : Int → Int} {LX : Nat} : ck_Ok p1_O X LX 287 p5y3_1211 := ck_ok_s (ck_E0) ck_X0 ck_l0 p5y3_1211_e
set_option maxRecDepth 100000 in
def p5y3_1212 : ck_Sum := ((1, 0, 0), 245, [.inl (ck_one 152)], ([], [], []), ([], []), [(.inr (some (.inl (ck_one 0))), 245, ([], [], []))])
set_option maxRecDepth 100000 in
theorem p5y3_1212_e : ck_ok p1_O none [] [(287, [p5y3_1211])] 286 [] 84 p5y3_1212 = true := by decide +kernel
theorem p5y3_1212_s {X : Int → Int} {LX : Nat} : ck_Ok p1_O X LX 286 p5y3_1212 := ck_ok_s (ck_E1 (ck_S1 p5y3_1211_s ck_S0) ck_E0) ck_X0 ck_l0 p5y3_1212_e
set_option maxRecDepth 100000 in
def p5y3_147 : ck_Sum := ((0, 0, 0), 245, [.inr (.inr (.inl 226)), .inl (ck_one 0), .inl (ck_one 1)], ([], [], []), ([], []), [(.inr (some (.inl (ck_one 0))), 245, ([], [], []))])
set_option maxRecDepth 100000 in
theorem p5y3_147_e : ck_ok p1_O none [] [] 283 [] 78 p5y3_147 = true := by decide +kernel
theorem p5y3_147_s {X : Int → Int} {LX : Nat} : ck_Ok p1_O X LX 283 p5y3_147 := ck_ok_s (ck_E0) ck_X0 ck_l0 p5y3_147_e
set_option maxRecDepth 100000 in
def p5y3_1213 : ck_Sum := ((2, 0, 0), 245, [.inr (.inr (.inl 226)), .inl (ck_one 152)], ([], [], [(234, 152, 152, ck_one 3)]), ([(226, 0, 0)], []), [(.inr (some (.inl (ck_one 3))), 245, ([], [], [(226, 0, 0, ck_one 0)]))])
set_option maxRecDepth 100000 in
theorem p5y3_1213_e : ck_ok p1_O none [] [(286, [p5y3_1212]), (283, [p5y3_147])] 285 [] 98 p5y3_1213 = true := by decide +kernel
theorem p5y3_1213_s {X : Int → Int} {LX : Nat} : ck_Ok p1_O X LX 285 p5y3_1213 := ck_ok_s (ck_E1 (ck_S1 p5y3_1212_s ck_S0) (ck_E1 (ck_S1 p5y3_147_s ck_S0) ck_E0)) ck_X0 ck_l0 p5y3_1213_e
set_option maxRecDepth 100000 in
def p5y3_1218 : ck_Sum := ((0, 0, 0), 245, [.inl (ck_one 153), .inl (ck_one 0), .inl (ck_one 299)], ([], [], []), ([], []), [(.inr (some (.inl (ck_one 1))), 245, ([], [], []))])
set_option maxRecDepth 100000 in
theorem p5y3_1218_e : ck_ok p1_O none [] [] 287 [] 88 p5y3_1218 = true := by decide +kernel
theorem p5y3_1218_s {X : Int → Int} {LX : Nat} : ck_Ok p1_O X LX 287 p5y3_1218 := ck_ok_s (ck_E0) ck_X0 ck_l0 p5y3_1218_e
set_option maxRecDepth 100000 in
def p5y3_1219 : ck_Sum := ((1, 0, 0), 245, [.inl (ck_one 153)], ([], [], []), ([], []), [(.inr (some (.inl (ck_one 0))), 245, ([], [], []))])
set_option maxRecDepth 100000 in
theorem p5y3_1219_e : ck_ok p1_O none [] [(287, [p5y3_1218])] 286 [] 84 p5y3_1219 = true := by decide +kernel
theorem p5y3_1219_s {X : Int → Int} {LX : Nat} : ck_Ok p1_O X LX 286 p5y3_1219 := ck_ok_s (ck_E1 (ck_S1 p5y3_1218_s ck_S0) ck_E0) ck_X0 ck_l0 p5y3_1219_e
set_option maxRecDepth 100000 in
def p5y3_1220 : ck_Sum := ((2, 0, 0), 245, [.inr (.inr (.inl 226)), .inl (ck_one 153)], ([], [], [(234, 153, 153, ck_one 9)]), ([(226, 0, 0)], []), [(.inr (some (.inl (ck_one 9))), 245, ([], [], [(226, 0, 0, ck_one 0)]))])
set_option maxRecDepth 100000 in
theorem p5y3_1220_e : ck_ok p1_O none [] [(286, [p5y3_1219]), (283, [p5y3_147])] 285 [] 98 p5y3_1220 = true := by decide +kernel
theorem p5y3_1220_s {X : Int → Int} {LX : Nat} : ck_Ok p1_O X LX 285 p5y3_1220 := ck_ok_s (ck_E1 (ck_S1 p5y3_1219_s ck_S0) (ck_E1 (ck_S1 p5y3_147_s ck_S0) ck_E0)) ck_X0 ck_l0 p5y3_1220_e
set_option maxRecDepth 100000 in
def p5y3_1225 : ck_Sum := ((0, 0, 0), 245, [.inl (ck_one 154), .inl (ck_one 0), .inl (ck_one 299)], ([], [], []), ([], []), [(.inr (some (.inl (ck_one 1))), 245, ([], [], []))])
set_option maxRecDepth 100000 in
theorem p5y3_1225_e : ck_ok p1_O none [] [] 287 [] 88 p5y3_1225 = true := by decide +kernel
theorem p5y3_1225_s {X : Int → Int} {LX : Nat} : ck_Ok p1_O X LX 287 p5y3_1225 := ck_ok_s (ck_E0) ck_X0 ck_l0 p5y3_1225_e
set_option maxRecDepth 100000 in
def p5y3_1226 : ck_Sum := ((1, 0, 0), 245, [.inl (ck_one 154)], ([], [], []), ([], []), [(.inr (some (.inl (ck_one 0))), 245, ([], [], []))])
set_option maxRecDepth 100000 in
theorem p5y3_1226_e : ck_ok p1_O none [] [(287, [p5y3_1225])] 286 [] 84 p5y3_1226 = true := by decide +kernel
theorem p5y3_1226_s {X : Int → Int} {LX : Nat} : ck_Ok p1_O X LX 286 p5y3_1226 := ck_ok_s (ck_E1 (ck_S1 p5y3_1225_s ck_S0) ck_E0) ck_X0 ck_l0 p5y3_1226_e
set_option maxRecDepth 100000 in
def p5y3_1227 : ck_Sum := ((2, 0, 0), 245, [.inr (.inr (.inl 226)), .inl (ck_one 154)], ([], [], [(234, 154, 154, ck_one 5)]), ([(226, 0, 0)], []), [(.inr (some (.inl (ck_one 5))), 245, ([], [], [(226, 0, 0, ck_one 0)]))])
set_option maxRecDepth 100000 in
theorem p5y3_1227_e : ck_ok p1_O none [] [(286, [p5y3_1226]), (283, [p5y3_147])] 285 [] 98 p5y3_1227 = true := by decide +kernel
theorem p5y3_1227_s {X : Int → Int} {LX : Nat} : ck_Ok p1_O X LX 285 p5y3_1227 := ck_ok_s (ck_E1 (ck_S1 p5y3_1226_s ck_S0) (ck_E1 (ck_S1 p5y3_147_s ck_S0) ck_E0)) ck_X0 ck_l0 p5y3_1227_e
set_option maxRecDepth 100000 in
def p5y3_1232 : ck_Sum := ((0, 0, 0), 245, [.inl (ck_one 155), .inl (ck_one 0), .inl (ck_one 299)], ([], [], []), ([], []), [(.inr (some (.inl (ck_one 1))), 245, ([], [], []))])
set_option maxRecDepth 100000 in
theorem p5y3_1232_e : ck_ok p1_O none [] [] 287 [] 88 p5y3_1232 = true := by decide +kernel
theorem p5y3_1232_s {X : Int → Int} {LX : Nat} : ck_Ok p1_O X LX 287 p5y3_1232 := ck_ok_s (ck_E0) ck_X0 ck_l0 p5y3_1232_e
set_option maxRecDepth 100000 in
def p5y3_1233 : ck_Sum := ((1, 0, 0), 245, [.inl (ck_one 155)], ([], [], []), ([], []), [(.inr (some (.inl (ck_one 0))), 245, ([], [], []))])
set_option maxRecDepth 100000 in
theorem p5y3_1233_e : ck_ok p1_O none [] [(287, [p5y3_1232])] 286 [] 84 p5y3_1233 = true := by decide +kernel
theorem p5y3_1233_s {X : Int → Int} {LX : Nat} : ck_Ok p1_O X LX 286 p5y3_1233 := ck_ok_s (ck_E1 (ck_S1 p5y3_1232_s ck_S0) ck_E0) ck_X0 ck_l0 p5y3_1233_e
set_option maxRecDepth 100000 in
def p5y3_1234 : ck_Sum := ((2, 0, 0), 245, [.inr (.inr (.inl 226)), .inl (ck_one 155)], ([], [], [(234, 155, 155, ck_one 6)]), ([(226, 0, 0)], []), [(.inr (some (.inl (ck_one 6))), 245, ([], [], [(226, 0, 0, ck_one 0)]))])
set_option maxRecDepth 100000 in
theorem p5y3_1234_e : ck_ok p1_O none [] [(286, [p5y3_1233]), (283, [p5y3_147])] 285 [] 98 p5y3_1234 = true := by decide +kernel
theorem p5y3_1234_s {X : Int → Int} {LX : Nat} : ck_Ok p1_O X LX 285 p5y3_1234 := ck_ok_s (ck_E1 (ck_S1 p5y3_1233_s ck_S0) (ck_E1 (ck_S1 p5y3_147_s ck_S0) ck_E0)) ck_X0 ck_l0 p5y3_1234_e
set_option maxRecDepth 100000 in
def p5y3_1239 : ck_Sum := ((0, 0, 0), 245, [.inl (ck_one 156), .inl (ck_one 0), .inl (ck_one 299)], ([], [], []), ([], []), [(.inr (some (.inl (ck_one 1))), 245, ([], [], []))])
set_option maxRecDepth 100000 in
theorem p5y3_1239_e : ck_ok p1_O none [] [] 287 [] 88 p5y3_1239 = true := by decide +kernel
theorem p5y3_1239_s {X : Int → Int} {LX : Nat} : ck_Ok p1_O X LX 287 p5y3_1239 := ck_ok_s (ck_E0) ck_X0 ck_l0 p5y3_1239_e
set_option maxRecDepth 100000 in
def p5y3_1240 : ck_Sum := ((1, 0, 0), 245, [.inl (ck_one 156)], ([], [], []), ([], []), [(.inr (some (.inl (ck_one 0))), 245, ([], [], []))])
set_option maxRecDepth 100000 in
theorem p5y3_1240_e : ck_ok p1_O none [] [(287, [p5y3_1239])] 286 [] 84 p5y3_1240 = true := by decide +kernel
theorem p5y3_1240_s {X : Int → Int} {LX : Nat} : ck_Ok p1_O X LX 286 p5y3_1240 := ck_ok_s (ck_E1 (ck_S1 p5y3_1239_s ck_S0) ck_E0) ck_X0 ck_l0 p5y3_1240_e
set_option maxRecDepth 100000 in
def p5y3_1241 : ck_Sum := ((2, 0, 0), 245, [.inr (.inr (.inl 226)), .inl (ck_one 156)], ([], [], [(234, 156, 156, ck_one 3)]), ([(226, 0, 0)], []), [(.inr (some (.inl (ck_one 3))), 245, ([], [], [(226, 0, 0, ck_one 0)]))])
set_option maxRecDepth 100000 in
theorem p5y3_1241_e : ck_ok p1_O none [] [(286, [p5y3_1240]), (283, [p5y3_147])] 285 [] 98 p5y3_1241 = true := by decide +kernel
theorem p5y3_1241_s {X : Int → Int} {LX : Nat} : ck_Ok p1_O X LX 285 p5y3_1241 := ck_ok_s (ck_E1 (ck_S1 p5y3_1240_s ck_S0) (ck_E1 (ck_S1 p5y3_147_s ck_S0) ck_E0)) ck_X0 ck_l0 p5y3_1241_e
set_option maxRecDepth 100000 in
def p5y3_1246 : ck_Sum := ((0, 0, 0), 245, [.inl (ck_one 157), .inl (ck_one 0), .inl (ck_one 299)], ([], [], []), ([], []), [(.inr (some (.inl (ck_one 1))), 245, ([], [], []))])
set_option maxRecDepth 100000 in
theorem p5y3_1246_e : ck_ok p1_O none [] [] 287 [] 88 p5y3_1246 = true := by decide +kernel
theorem p5y3_1246_s {X : Int → Int} {LX : Nat} : ck_Ok p1_O X LX 287 p5y3_1246 := ck_ok_s (ck_E0) ck_X0 ck_l0 p5y3_1246_e
set_option maxRecDepth 100000 in
def p5y3_1247 : ck_Sum := ((1, 0, 0), 245, [.inl (ck_one 157)], ([], [], []), ([], []), [(.inr (some (.inl (ck_one 0))), 245, ([], [], []))])
set_option maxRecDepth 100000 in
theorem p5y3_1247_e : ck_ok p1_O none [] [(287, [p5y3_1246])] 286 [] 84 p5y3_1247 = true := by decide +kernel
theorem p5y3_1247_s {X : Int → Int} {LX : Nat} : ck_Ok p1_O X LX 286 p5y3_1247 := ck_ok_s (ck_E1 (ck_S1 p5y3_1246_s ck_S0) ck_E0) ck_X0 ck_l0 p5y3_1247_e
set_option maxRecDepth 100000 in
def p5y3_1248 : ck_Sum := ((2, 0, 0), 245, [.inr (.inr (.inl 226)), .inl (ck_one 157)], ([], [], [(234, 157, 157, ck_one 1)]), ([(226, 0, 0)], []), [(.inr (some (.inl (ck_one 1))), 245, ([], [], [(226, 0, 0, ck_one 0)]))])
set_option maxRecDepth 100000 in
theorem p5y3_1248_e : ck_ok p1_O none [] [(286, [p5y3_1247]), (283, [p5y3_147])] 285 [] 98 p5y3_1248 = true := by decide +kernel
theorem p5y3_1248_s {X : Int → Int} {LX : Nat} : ck_Ok p1_O X LX 285 p5y3_1248 := ck_ok_s (ck_E1 (ck_S1 p5y3_1247_s ck_S0) (ck_E1 (ck_S1 p5y3_147_s ck_S0) ck_E0)) ck_X0 ck_l0 p5y3_1248_e
set_option maxRecDepth 100000 in
def p5y3_1253 : ck_Sum := ((0, 0, 0), 245, [.inl (ck_one 158), .inl (ck_one 0), .inl (ck_one 299)], ([], [], []), ([], []), [(.inr (some (.inl (ck_one 1))), 245, ([], [], []))])
set_option maxRecDepth 100000 in
theorem p5y3_1253_e : ck_ok p1_O none [] [] 287 [] 88 p5y3_1253 = true := by decide +kernel
theorem p5y3_1253_s {X : Int → Int} {LX : Nat} : ck_Ok p1_O X LX 287 p5y3_1253 := ck_ok_s (ck_E0) ck_X0 ck_l0 p5y3_1253_e
set_option maxRecDepth 100000 in
def p5y3_1254 : ck_Sum := ((1, 0, 0), 245, [.inl (ck_one 158)], ([], [], []), ([], []), [(.inr (some (.inl (ck_one 0))), 245, ([], [], []))])
set_option maxRecDepth 100000 in
theorem p5y3_1254_e : ck_ok p1_O none [] [(287, [p5y3_1253])] 286 [] 84 p5y3_1254 = true := by decide +kernel
theorem p5y3_1254_s {X : Int → Int} {LX : Nat} : ck_Ok p1_O X LX 286 p5y3_1254 := ck_ok_s (ck_E1 (ck_S1 p5y3_1253_s ck_S0) ck_E0) ck_X0 ck_l0 p5y3_1254_e
set_option maxRecDepth 100000 in
def p5y3_1255 : ck_Sum := ((2, 0, 0), 245, [.inr (.inr (.inl 226)), .inl (ck_one 158)], ([], [], [(234, 158, 158, ck_one 3)]), ([(226, 0, 0)], []), [(.inr (some (.inl (ck_one 3))), 245, ([], [], [(226, 0, 0, ck_one 0)]))])
set_option maxRecDepth 100000 in
theorem p5y3_1255_e : ck_ok p1_O none [] [(286, [p5y3_1254]), (283, [p5y3_147])] 285 [] 98 p5y3_1255 = true := by decide +kernel
theorem p5y3_1255_s {X : Int → Int} {LX : Nat} : ck_Ok p1_O X LX 285 p5y3_1255 := ck_ok_s (ck_E1 (ck_S1 p5y3_1254_s ck_S0) (ck_E1 (ck_S1 p5y3_147_s ck_S0) ck_E0)) ck_X0 ck_l0 p5y3_1255_e
set_option maxRecDepth 100000 in
def p5y3_1260 : ck_Sum := ((0, 0, 0), 245, [.inl (ck_one 159), .inl (ck_one 0), .inl (ck_one 299)], ([], [], []), ([], []), [(.inr (some (.inl (ck_one 1))), 245, ([], [], []))])
set_option maxRecDepth 100000 in
theorem p5y3_1260_e : ck_ok p1_O none [] [] 287 [] 88 p5y3_1260 = true := by decide +kernel
theorem p5y3_1260_s {X : Int → Int} {LX : Nat} : ck_Ok p1_O X LX 287 p5y3_1260 := ck_ok_s (ck_E0) ck_X0 ck_l0 p5y3_1260_e
set_option maxRecDepth 100000 in
def p5y3_1261 : ck_Sum := ((1, 0, 0), 245, [.inl (ck_one 159)], ([], [], []), ([], []), [(.inr (some (.inl (ck_one 0))), 245, ([], [], []))])
set_option maxRecDepth 100000 in
theorem p5y3_1261_e : ck_ok p1_O none [] [(287, [p5y3_1260])] 286 [] 84 p5y3_1261 = true := by decide +kernel
theorem p5y3_1261_s {X : Int → Int} {LX : Nat} : ck_Ok p1_O X LX 286 p5y3_1261 := ck_ok_s (ck_E1 (ck_S1 p5y3_1260_s ck_S0) ck_E0) ck_X0 ck_l0 p5y3_1261_e
set_option maxRecDepth 100000 in
def p5y3_1262 : ck_Sum := ((2, 0, 0), 245, [.inr (.inr (.inl 226)), .inl (ck_one 159)], ([], [], [(234, 159, 159, ck_one 7)]), ([(226, 0, 0)], []), [(.inr (some (.inl (ck_one 7))), 245, ([], [], [(226, 0, 0, ck_one 0)]))])
set_option maxRecDepth 100000 in
theorem p5y3_1262_e : ck_ok p1_O none [] [(286, [p5y3_1261]), (283, [p5y3_147])] 285 [] 98 p5y3_1262 = true := by decide +kernel
theorem p5y3_1262_s {X : Int → Int} {LX : Nat} : ck_Ok p1_O X LX 285 p5y3_1262 := ck_ok_s (ck_E1 (ck_S1 p5y3_1261_s ck_S0) (ck_E1 (ck_S1 p5y3_147_s ck_S0) ck_E0)) ck_X0 ck_l0 p5y3_1262_e
set_option maxRecDepth 100000 in
def p5y3_1267 : ck_Sum := ((0, 0, 0), 245, [.inl (ck_one 160), .inl (ck_one 0), .inl (ck_one 299)], ([], [], []), ([], []), [(.inr (some (.inl (ck_one 1))), 245, ([], [], []))])
set_option maxRecDepth 100000 in
theorem p5y3_1267_e : ck_ok p1_O none [] [] 287 [] 88 p5y3_1267 = true := by decide +kernel
theorem p5y3_1267_s {X : Int → Int} {LX : Nat} : ck_Ok p1_O X LX 287 p5y3_1267 := ck_ok_s (ck_E0) ck_X0 ck_l0 p5y3_1267_e
set_option maxRecDepth 100000 in
def p5y3_1268 : ck_Sum := ((1, 0, 0), 245, [.inl (ck_one 160)], ([], [], []), ([], []), [(.inr (some (.inl (ck_one 0))), 245, ([], [], []))])
set_option maxRecDepth 100000 in
theorem p5y3_1268_e : ck_ok p1_O none [] [(287, [p5y3_1267])] 286 [] 84 p5y3_1268 = true := by decide +kernel
theorem p5y3_1268_s {X : Int → Int} {LX : Nat} : ck_Ok p1_O X LX 286 p5y3_1268 := ck_ok_s (ck_E1 (ck_S1 p5y3_1267_s ck_S0) ck_E0) ck_X0 ck_l0 p5y3_1268_e
set_option maxRecDepth 100000 in
def p5y3_1269 : ck_Sum := ((2, 0, 0), 245, [.inr (.inr (.inl 226)), .inl (ck_one 160)], ([], [], [(234, 160, 160, ck_one 9)]), ([(226, 0, 0)], []), [(.inr (some (.inl (ck_one 9))), 245, ([], [], [(226, 0, 0, ck_one 0)]))])
set_option maxRecDepth 100000 in
theorem p5y3_1269_e : ck_ok p1_O none [] [(286, [p5y3_1268]), (283, [p5y3_147])] 285 [] 98 p5y3_1269 = true := by decide +kernel
theorem p5y3_1269_s {X : Int → Int} {LX : Nat} : ck_Ok p1_O X LX 285 p5y3_1269 := ck_ok_s (ck_E1 (ck_S1 p5y3_1268_s ck_S0) (ck_E1 (ck_S1 p5y3_147_s ck_S0) ck_E0)) ck_X0 ck_l0 p5y3_1269_e
set_option maxRecDepth 100000 in
def p5y3_1274 : ck_Sum := ((0, 0, 0), 245, [.inl (ck_one 161), .inl (ck_one 0), .inl (ck_one 299)], ([], [], []), ([], []), [(.inr (some (.inl (ck_one 1))), 245, ([], [], []))])
set_option maxRecDepth 100000 in
theorem p5y3_1274_e : ck_ok p1_O none [] [] 287 [] 88 p5y3_1274 = true := by decide +kernel
theorem p5y3_1274_s {X : Int → Int} {LX : Nat} : ck_Ok p1_O X LX 287 p5y3_1274 := ck_ok_s (ck_E0) ck_X0 ck_l0 p5y3_1274_e
set_option maxRecDepth 100000 in
def p5y3_1275 : ck_Sum := ((1, 0, 0), 245, [.inl (ck_one 161)], ([], [], []), ([], []), [(.inr (some (.inl (ck_one 0))), 245, ([], [], []))])
set_option maxRecDepth 100000 in
theorem p5y3_1275_e : ck_ok p1_O none [] [(287, [p5y3_1274])] 286 [] 84 p5y3_1275 = true := by decide +kernel
theorem p5y3_1275_s {X : Int → Int} {LX : Nat} : ck_Ok p1_O X LX 286 p5y3_1275 := ck_ok_s (ck_E1 (ck_S1 p5y3_1274_s ck_S0) ck_E0) ck_X0 ck_l0 p5y3_1275_e
set_option maxRecDepth 100000 in
def p5y3_1276 : ck_Sum := ((2, 0, 0), 245, [.inr (.inr (.inl 226)), .inl (ck_one 161)], ([], [], [(234, 161, 161, ck_one 7)]), ([(226, 0, 0)], []), [(.inr (some (.inl (ck_one 7))), 245, ([], [], [(226, 0, 0, ck_one 0)]))])
set_option maxRecDepth 100000 in
theorem p5y3_1276_e : ck_ok p1_O none [] [(286, [p5y3_1275]), (283, [p5y3_147])] 285 [] 98 p5y3_1276 = true := by decide +kernel
theorem p5y3_1276_s {X : Int → Int} {LX : Nat} : ck_Ok p1_O X LX 285 p5y3_1276 := ck_ok_s (ck_E1 (ck_S1 p5y3_1275_s ck_S0) (ck_E1 (ck_S1 p5y3_147_s ck_S0) ck_E0)) ck_X0 ck_l0 p5y3_1276_e
set_option maxRecDepth 100000 in
def p5y3_1281 : ck_Sum := ((0, 0, 0), 245, [.inl (ck_one 162), .inl (ck_one 0), .inl (ck_one 299)], ([], [], []), ([], []), [(.inr (some (.inl (ck_one 1))), 245, ([], [], []))])
set_option maxRecDepth 100000 in
theorem p5y3_1281_e : ck_ok p1_O none [] [] 287 [] 88 p5y3_1281 = true := by decide +kernel
theorem p5y3_1281_s {X : Int → Int} {LX : Nat} : ck_Ok p1_O X LX 287 p5y3_1281 := ck_ok_s (ck_E0) ck_X0 ck_l0 p5y3_1281_e
set_option maxRecDepth 100000 in
def p5y3_1282 : ck_Sum := ((1, 0, 0), 245, [.inl (ck_one 162)], ([], [], []), ([], []), [(.inr (some (.inl (ck_one 0))), 245, ([], [], []))])
set_option maxRecDepth 100000 in
theorem p5y3_1282_e : ck_ok p1_O none [] [(287, [p5y3_1281])] 286 [] 84 p5y3_1282 = true := by decide +kernel
theorem p5y3_1282_s {X : Int → Int} {LX : Nat} : ck_Ok p1_O X LX 286 p5y3_1282 := ck_ok_s (ck_E1 (ck_S1 p5y3_1281_s ck_S0) ck_E0) ck_X0 ck_l0 p5y3_1282_e
set_option maxRecDepth 100000 in
def p5y3_1283 : ck_Sum := ((2, 0, 0), 245, [.inr (.inr (.inl 226)), .inl (ck_one 162)], ([], [], [(234, 162, 162, ck_one 3)]), ([(226, 0, 0)], []), [(.inr (some (.inl (ck_one 3))), 245, ([], [], [(226, 0, 0, ck_one 0)]))])
set_option maxRecDepth 100000 in
theorem p5y3_1283_e : ck_ok p1_O none [] [(286, [p5y3_1282]), (283, [p5y3_147])] 285 [] 98 p5y3_1283 = true := by decide +kernel
theorem p5y3_1283_s {X : Int → Int} {LX : Nat} : ck_Ok p1_O X LX 285 p5y3_1283 := ck_ok_s (ck_E1 (ck_S1 p5y3_1282_s ck_S0) (ck_E1 (ck_S1 p5y3_147_s ck_S0) ck_E0)) ck_X0 ck_l0 p5y3_1283_e
set_option maxRecDepth 100000 in
def p5y3_1288 : ck_Sum := ((0, 0, 0), 245, [.inl (ck_one 163), .inl (ck_one 0), .inl (ck_one 299)], ([], [], []), ([], []), [(.inr (some (.inl (ck_one 1))), 245, ([], [], []))])
set_option maxRecDepth 100000 in
theorem p5y3_1288_e : ck_ok p1_O none [] [] 287 [] 88 p5y3_1288 = true := by decide +kernel
theorem p5y3_1288_s {X : Int → Int} {LX : Nat} : ck_Ok p1_O X LX 287 p5y3_1288 := ck_ok_s (ck_E0) ck_X0 ck_l0 p5y3_1288_e
set_option maxRecDepth 100000 in
def p5y3_1289 : ck_Sum := ((1, 0, 0), 245, [.inl (ck_one 163)], ([], [], []), ([], []), [(.inr (some (.inl (ck_one 0))), 245, ([], [], []))])
set_option maxRecDepth 100000 in
theorem p5y3_1289_e : ck_ok p1_O none [] [(287, [p5y3_1288])] 286 [] 84 p5y3_1289 = true := by decide +kernel
theorem p5y3_1289_s {X : Int → Int} {LX : Nat} : ck_Ok p1_O X LX 286 p5y3_1289 := ck_ok_s (ck_E1 (ck_S1 p5y3_1288_s ck_S0) ck_E0) ck_X0 ck_l0 p5y3_1289_e
set_option maxRecDepth 100000 in
def p5y3_1290 : ck_Sum := ((2, 0, 0), 245, [.inr (.inr (.inl 226)), .inl (ck_one 163)], ([], [], [(234, 163, 163, ck_one 8)]), ([(226, 0, 0)], []), [(.inr (some (.inl (ck_one 8))), 245, ([], [], [(226, 0, 0, ck_one 0)]))])
set_option maxRecDepth 100000 in
theorem p5y3_1290_e : ck_ok p1_O none [] [(286, [p5y3_1289]), (283, [p5y3_147])] 285 [] 98 p5y3_1290 = true := by decide +kernel
theorem p5y3_1290_s {X : Int → Int} {LX : Nat} : ck_Ok p1_O X LX 285 p5y3_1290 := ck_ok_s (ck_E1 (ck_S1 p5y3_1289_s ck_S0) (ck_E1 (ck_S1 p5y3_147_s ck_S0) ck_E0)) ck_X0 ck_l0 p5y3_1290_e
set_option maxRecDepth 100000 in
def p5y3_1295 : ck_Sum := ((0, 0, 0), 245, [.inl (ck_one 164), .inl (ck_one 0), .inl (ck_one 299)], ([], [], []), ([], []), [(.inr (some (.inl (ck_one 1))), 245, ([], [], []))])
set_option maxRecDepth 100000 in
theorem p5y3_1295_e : ck_ok p1_O none [] [] 287 [] 88 p5y3_1295 = true := by decide +kernel
theorem p5y3_1295_s {X : Int → Int} {LX : Nat} : ck_Ok p1_O X LX 287 p5y3_1295 := ck_ok_s (ck_E0) ck_X0 ck_l0 p5y3_1295_e
set_option maxRecDepth 100000 in
def p5y3_1296 : ck_Sum := ((1, 0, 0), 245, [.inl (ck_one 164)], ([], [], []), ([], []), [(.inr (some (.inl (ck_one 0))), 245, ([], [], []))])
set_option maxRecDepth 100000 in
theorem p5y3_1296_e : ck_ok p1_O none [] [(287, [p5y3_1295])] 286 [] 84 p5y3_1296 = true := by decide +kernel
theorem p5y3_1296_s {X : Int → Int} {LX : Nat} : ck_Ok p1_O X LX 286 p5y3_1296 := ck_ok_s (ck_E1 (ck_S1 p5y3_1295_s ck_S0) ck_E0) ck_X0 ck_l0 p5y3_1296_e
set_option maxRecDepth 100000 in
def p5y3_1297 : ck_Sum := ((2, 0, 0), 245, [.inr (.inr (.inl 226)), .inl (ck_one 164)], ([], [], [(234, 164, 164, ck_one 6)]), ([(226, 0, 0)], []), [(.inr (some (.inl (ck_one 6))), 245, ([], [], [(226, 0, 0, ck_one 0)]))])
set_option maxRecDepth 100000 in
theorem p5y3_1297_e : ck_ok p1_O none [] [(286, [p5y3_1296]), (283, [p5y3_147])] 285 [] 98 p5y3_1297 = true := by decide +kernel
theorem p5y3_1297_s {X : Int → Int} {LX : Nat} : ck_Ok p1_O X LX 285 p5y3_1297 := ck_ok_s (ck_E1 (ck_S1 p5y3_1296_s ck_S0) (ck_E1 (ck_S1 p5y3_147_s ck_S0) ck_E0)) ck_X0 ck_l0 p5y3_1297_e
set_option maxRecDepth 100000 in
def p5y3_1302 : ck_Sum := ((0, 0, 0), 245, [.inl (ck_one 165), .inl (ck_one 0), .inl (ck_one 299)], ([], [], []), ([], []), [(.inr (some (.inl (ck_one 1))), 245, ([], [], []))])
set_option maxRecDepth 100000 in
theorem p5y3_1302_e : ck_ok p1_O none [] [] 287 [] 88 p5y3_1302 = true := by decide +kernel
theorem p5y3_1302_s {X : Int → Int} {LX : Nat} : ck_Ok p1_O X LX 287 p5y3_1302 := ck_ok_s (ck_E0) ck_X0 ck_l0 p5y3_1302_e
set_option maxRecDepth 100000 in
def p5y3_1303 : ck_Sum := ((1, 0, 0), 245, [.inl (ck_one 165)], ([], [], []), ([], []), [(.inr (some (.inl (ck_one 0))), 245, ([], [], []))])
set_option maxRecDepth 100000 in
theorem p5y3_1303_e : ck_ok p1_O none [] [(287, [p5y3_1302])] 286 [] 84 p5y3_1303 = true := by decide +kernel
theorem p5y3_1303_s {X : Int → Int} {LX : Nat} : ck_Ok p1_O X LX 286 p5y3_1303 := ck_ok_s (ck_E1 (ck_S1 p5y3_1302_s ck_S0) ck_E0) ck_X0 ck_l0 p5y3_1303_e
set_option maxRecDepth 100000 in
def p5y3_1304 : ck_Sum := ((2, 0, 0), 245, [.inr (.inr (.inl 226)), .inl (ck_one 165)], ([], [], [(234, 165, 165, ck_one 1)]), ([(226, 0, 0)], []), [(.inr (some (.inl (ck_one 1))), 245, ([], [], [(226, 0, 0, ck_one 0)]))])
set_option maxRecDepth 100000 in
theorem p5y3_1304_e : ck_ok p1_O none [] [(286, [p5y3_1303]), (283, [p5y3_147])] 285 [] 98 p5y3_1304 = true := by decide +kernel
theorem p5y3_1304_s {X : Int → Int} {LX : Nat} : ck_Ok p1_O X LX 285 p5y3_1304 := ck_ok_s (ck_E1 (ck_S1 p5y3_1303_s ck_S0) (ck_E1 (ck_S1 p5y3_147_s ck_S0) ck_E0)) ck_X0 ck_l0 p5y3_1304_e
set_option maxRecDepth 100000 in
def p5y3_1309 : ck_Sum := ((0, 0, 0), 245, [.inl (ck_one 166), .inl (ck_one 0), .inl (ck_one 299)], ([], [], []), ([], []), [(.inr (some (.inl (ck_one 1))), 245, ([], [], []))])
set_option maxRecDepth 100000 in
theorem p5y3_1309_e : ck_ok p1_O none [] [] 287 [] 88 p5y3_1309 = true := by decide +kernel
theorem p5y3_1309_s {X : Int → Int} {LX : Nat} : ck_Ok p1_O X LX 287 p5y3_1309 := ck_ok_s (ck_E0) ck_X0 ck_l0 p5y3_1309_e
set_option maxRecDepth 100000 in
def p5y3_1310 : ck_Sum := ((1, 0, 0), 245, [.inl (ck_one 166)], ([], [], []), ([], []), [(.inr (some (.inl (ck_one 0))), 245, ([], [], []))])
set_option maxRecDepth 100000 in
theorem p5y3_1310_e : ck_ok p1_O none [] [(287, [p5y3_1309])] 286 [] 84 p5y3_1310 = true := by decide +kernel
theorem p5y3_1310_s {X : Int → Int} {LX : Nat} : ck_Ok p1_O X LX 286 p5y3_1310 := ck_ok_s (ck_E1 (ck_S1 p5y3_1309_s ck_S0) ck_E0) ck_X0 ck_l0 p5y3_1310_e
set_option maxRecDepth 100000 in
def p5y3_1311 : ck_Sum := ((2, 0, 0), 245, [.inr (.inr (.inl 226)), .inl (ck_one 166)], ([], [], [(234, 166, 166, ck_one 6)]), ([(226, 0, 0)], []), [(.inr (some (.inl (ck_one 6))), 245, ([], [], [(226, 0, 0, ck_one 0)]))])
set_option maxRecDepth 100000 in
theorem p5y3_1311_e : ck_ok p1_O none [] [(286, [p5y3_1310]), (283, [p5y3_147])] 285 [] 98 p5y3_1311 = true := by decide +kernel
theorem p5y3_1311_s {X : Int → Int} {LX : Nat} : ck_Ok p1_O X LX 285 p5y3_1311 := ck_ok_s (ck_E1 (ck_S1 p5y3_1310_s ck_S0) (ck_E1 (ck_S1 p5y3_147_s ck_S0) ck_E0)) ck_X0 ck_l0 p5y3_1311_e
set_option maxRecDepth 100000 in
def p5y3_1316 : ck_Sum := ((0, 0, 0), 245, [.inl (ck_one 167), .inl (ck_one 0), .inl (ck_one 299)], ([], [], []), ([], []), [(.inr (some (.inl (ck_one 1))), 245, ([], [], []))])
set_option maxRecDepth 100000 in
theorem p5y3_1316_e : ck_ok p1_O none [] [] 287 [] 88 p5y3_1316 = true := by decide +kernel
theorem p5y3_1316_s {X : Int → Int} {LX : Nat} : ck_Ok p1_O X LX 287 p5y3_1316 := ck_ok_s (ck_E0) ck_X0 ck_l0 p5y3_1316_e
set_option maxRecDepth 100000 in
def p5y3_1317 : ck_Sum := ((1, 0, 0), 245, [.inl (ck_one 167)], ([], [], []), ([], []), [(.inr (some (.inl (ck_one 0))), 245, ([], [], []))])
set_option maxRecDepth 100000 in
theorem p5y3_1317_e : ck_ok p1_O none [] [(287, [p5y3_1316])] 286 [] 84 p5y3_1317 = true := by decide +kernel
theorem p5y3_1317_s {X : Int → Int} {LX : Nat} : ck_Ok p1_O X LX 286 p5y3_1317 := ck_ok_s (ck_E1 (ck_S1 p5y3_1316_s ck_S0) ck_E0) ck_X0 ck_l0 p5y3_1317_e
set_option maxRecDepth 100000 in
def p5y3_1318 : ck_Sum := ((2, 0, 0), 245, [.inr (.inr (.inl 226)), .inl (ck_one 167)], ([], [], [(234, 167, 167, ck_one 6)]), ([(226, 0, 0)], []), [(.inr (some (.inl (ck_one 6))), 245, ([], [], [(226, 0, 0, ck_one 0)]))])
set_option maxRecDepth 100000 in
theorem p5y3_1318_e : ck_ok p1_O none [] [(286, [p5y3_1317]), (283, [p5y3_147])] 285 [] 98 p5y3_1318 = true := by decide +kernel
theorem p5y3_1318_s {X : Int → Int} {LX : Nat} : ck_Ok p1_O X LX 285 p5y3_1318 := ck_ok_s (ck_E1 (ck_S1 p5y3_1317_s ck_S0) (ck_E1 (ck_S1 p5y3_147_s ck_S0) ck_E0)) ck_X0 ck_l0 p5y3_1318_e
set_option maxRecDepth 100000 in
def p5y3_1323 : ck_Sum := ((0, 0, 0), 245, [.inl (ck_one 168), .inl (ck_one 0), .inl (ck_one 299)], ([], [], []), ([], []), [(.inr (some (.inl (ck_one 1))), 245, ([], [], []))])
set_option maxRecDepth 100000 in
theorem p5y3_1323_e : ck_ok p1_O none [] [] 287 [] 88 p5y3_1323 = true := by decide +kernel
theorem p5y3_1323_s {X : Int → Int} {LX : Nat} : ck_Ok p1_O X LX 287 p5y3_1323 := ck_ok_s (ck_E0) ck_X0 ck_l0 p5y3_1323_e
set_option maxRecDepth 100000 in
def p5y3_1324 : ck_Sum := ((1, 0, 0), 245, [.inl (ck_one 168)], ([], [], []), ([], []), [(.inr (some (.inl (ck_one 0))), 245, ([], [], []))])
set_option maxRecDepth 100000 in
theorem p5y3_1324_e : ck_ok p1_O none [] [(287, [p5y3_1323])] 286 [] 84 p5y3_1324 = true := by decide +kernel
theorem p5y3_1324_s {X : Int → Int} {LX : Nat} : ck_Ok p1_O X LX 286 p5y3_1324 := ck_ok_s (ck_E1 (ck_S1 p5y3_1323_s ck_S0) ck_E0) ck_X0 ck_l0 p5y3_1324_e
set_option maxRecDepth 100000 in
def p5y3_1325 : ck_Sum := ((2, 0, 0), 245, [.inr (.inr (.inl 226)), .inl (ck_one 168)], ([], [], [(234, 168, 168, ck_one 6)]), ([(226, 0, 0)], []), [(.inr (some (.inl (ck_one 6))), 245, ([], [], [(226, 0, 0, ck_one 0)]))])
set_option maxRecDepth 100000 in
theorem p5y3_1325_e : ck_ok p1_O none [] [(286, [p5y3_1324]), (283, [p5y3_147])] 285 [] 98 p5y3_1325 = true := by decide +kernel
theorem p5y3_1325_s {X : Int → Int} {LX : Nat} : ck_Ok p1_O X LX 285 p5y3_1325 := ck_ok_s (ck_E1 (ck_S1 p5y3_1324_s ck_S0) (ck_E1 (ck_S1 p5y3_147_s ck_S0) ck_E0)) ck_X0 ck_l0 p5y3_1325_e
set_option maxRecDepth 100000 in
def p5y3_1330 : ck_Sum := ((0, 0, 0), 245, [.inl (ck_one 169), .inl (ck_one 0), .inl (ck_one 299)], ([], [], []), ([], []), [(.inr (some (.inl (ck_one 1))), 245, ([], [], []))])
set_option maxRecDepth 100000 in
theorem p5y3_1330_e : ck_ok p1_O none [] [] 287 [] 88 p5y3_1330 = true := by decide +kernel
theorem p5y3_1330_s {X : Int → Int} {LX : Nat} : ck_Ok p1_O X LX 287 p5y3_1330 := ck_ok_s (ck_E0) ck_X0 ck_l0 p5y3_1330_e
set_option maxRecDepth 100000 in
def p5y3_1331 : ck_Sum := ((1, 0, 0), 245, [.inl (ck_one 169)], ([], [], []), ([], []), [(.inr (some (.inl (ck_one 0))), 245, ([], [], []))])
set_option maxRecDepth 100000 in
theorem p5y3_1331_e : ck_ok p1_O none [] [(287, [p5y3_1330])] 286 [] 84 p5y3_1331 = true := by decide +kernel
theorem p5y3_1331_s {X : Int → Int} {LX : Nat} : ck_Ok p1_O X LX 286 p5y3_1331 := ck_ok_s (ck_E1 (ck_S1 p5y3_1330_s ck_S0) ck_E0) ck_X0 ck_l0 p5y3_1331_e
set_option maxRecDepth 100000 in
def p5y3_1332 : ck_Sum := ((2, 0, 0), 245, [.inr (.inr (.inl 226)), .inl (ck_one 169)], ([], [], [(234, 169, 169, ck_one 8)]), ([(226, 0, 0)], []), [(.inr (some (.inl (ck_one 8))), 245, ([], [], [(226, 0, 0, ck_one 0)]))])
set_option maxRecDepth 100000 in
theorem p5y3_1332_e : ck_ok p1_O none [] [(286, [p5y3_1331]), (283, [p5y3_147])] 285 [] 98 p5y3_1332 = true := by decide +kernel
theorem p5y3_1332_s {X : Int → Int} {LX : Nat} : ck_Ok p1_O X LX 285 p5y3_1332 := ck_ok_s (ck_E1 (ck_S1 p5y3_1331_s ck_S0) (ck_E1 (ck_S1 p5y3_147_s ck_S0) ck_E0)) ck_X0 ck_l0 p5y3_1332_e
set_option maxRecDepth 100000 in
def p5y3_1337 : ck_Sum := ((0, 0, 0), 245, [.inl (ck_one 170), .inl (ck_one 0), .inl (ck_one 299)], ([], [], []), ([], []), [(.inr (some (.inl (ck_one 1))), 245, ([], [], []))])
set_option maxRecDepth 100000 in
theorem p5y3_1337_e : ck_ok p1_O none [] [] 287 [] 88 p5y3_1337 = true := by decide +kernel
theorem p5y3_1337_s {X : Int → Int} {LX : Nat} : ck_Ok p1_O X LX 287 p5y3_1337 := ck_ok_s (ck_E0) ck_X0 ck_l0 p5y3_1337_e
set_option maxRecDepth 100000 in
def p5y3_1338 : ck_Sum := ((1, 0, 0), 245, [.inl (ck_one 170)], ([], [], []), ([], []), [(.inr (some (.inl (ck_one 0))), 245, ([], [], []))])
set_option maxRecDepth 100000 in
theorem p5y3_1338_e : ck_ok p1_O none [] [(287, [p5y3_1337])] 286 [] 84 p5y3_1338 = true := by decide +kernel
theorem p5y3_1338_s {X : Int → Int} {LX : Nat} : ck_Ok p1_O X LX 286 p5y3_1338 := ck_ok_s (ck_E1 (ck_S1 p5y3_1337_s ck_S0) ck_E0) ck_X0 ck_l0 p5y3_1338_e
set_option maxRecDepth 100000 in
def p5y3_1339 : ck_Sum := ((2, 0, 0), 245, [.inr (.inr (.inl 226)), .inl (ck_one 170)], ([], [], [(234, 170, 170, ck_one 8)]), ([(226, 0, 0)], []), [(.inr (some (.inl (ck_one 8))), 245, ([], [], [(226, 0, 0, ck_one 0)]))])
set_option maxRecDepth 100000 in
theorem p5y3_1339_e : ck_ok p1_O none [] [(286, [p5y3_1338]), (283, [p5y3_147])] 285 [] 98 p5y3_1339 = true := by decide +kernel
theorem p5y3_1339_s {X : Int → Int} {LX : Nat} : ck_Ok p1_O X LX 285 p5y3_1339 := ck_ok_s (ck_E1 (ck_S1 p5y3_1338_s ck_S0) (ck_E1 (ck_S1 p5y3_147_s ck_S0) ck_E0)) ck_X0 ck_l0 p5y3_1339_e
set_option maxRecDepth 100000 in
def p5y3_1344 : ck_Sum := ((0, 0, 0), 245, [.inl (ck_one 171), .inl (ck_one 0), .inl (ck_one 299)], ([], [], []), ([], []), [(.inr (some (.inl (ck_one 1))), 245, ([], [], []))])
set_option maxRecDepth 100000 in
theorem p5y3_1344_e : ck_ok p1_O none [] [] 287 [] 88 p5y3_1344 = true := by decide +kernel
theorem p5y3_1344_s {X : Int → Int} {LX : Nat} : ck_Ok p1_O X LX 287 p5y3_1344 := ck_ok_s (ck_E0) ck_X0 ck_l0 p5y3_1344_e
set_option maxRecDepth 100000 in
def p5y3_1345 : ck_Sum := ((1, 0, 0), 245, [.inl (ck_one 171)], ([], [], []), ([], []), [(.inr (some (.inl (ck_one 0))), 245, ([], [], []))])
set_option maxRecDepth 100000 in
theorem p5y3_1345_e : ck_ok p1_O none [] [(287, [p5y3_1344])] 286 [] 84 p5y3_1345 = true := by decide +kernel
theorem p5y3_1345_s {X : Int → Int} {LX : Nat} : ck_Ok p1_O X LX 286 p5y3_1345 := ck_ok_s (ck_E1 (ck_S1 p5y3_1344_s ck_S0) ck_E0) ck_X0 ck_l0 p5y3_1345_e
set_option maxRecDepth 100000 in
def p5y3_1346 : ck_Sum := ((2, 0, 0), 245, [.inr (.inr (.inl 226)), .inl (ck_one 171)], ([], [], [(234, 171, 171, ck_one 6)]), ([(226, 0, 0)], []), [(.inr (some (.inl (ck_one 6))), 245, ([], [], [(226, 0, 0, ck_one 0)]))])
set_option maxRecDepth 100000 in
theorem p5y3_1346_e : ck_ok p1_O none [] [(286, [p5y3_1345]), (283, [p5y3_147])] 285 [] 98 p5y3_1346 = true := by decide +kernel
theorem p5y3_1346_s {X : Int → Int} {LX : Nat} : ck_Ok p1_O X LX 285 p5y3_1346 := ck_ok_s (ck_E1 (ck_S1 p5y3_1345_s ck_S0) (ck_E1 (ck_S1 p5y3_147_s ck_S0) ck_E0)) ck_X0 ck_l0 p5y3_1346_e
set_option maxRecDepth 100000 in
def p5y3_1351 : ck_Sum := ((0, 0, 0), 245, [.inl (ck_one 172), .inl (ck_one 0), .inl (ck_one 299)], ([], [], []), ([], []), [(.inr (some (.inl (ck_one 1))), 245, ([], [], []))])
set_option maxRecDepth 100000 in
theorem p5y3_1351_e : ck_ok p1_O none [] [] 287 [] 88 p5y3_1351 = true := by decide +kernel
theorem p5y3_1351_s {X : Int → Int} {LX : Nat} : ck_Ok p1_O X LX 287 p5y3_1351 := ck_ok_s (ck_E0) ck_X0 ck_l0 p5y3_1351_e
set_option maxRecDepth 100000 in
def p5y3_1352 : ck_Sum := ((1, 0, 0), 245, [.inl (ck_one 172)], ([], [], []), ([], []), [(.inr (some (.inl (ck_one 0))), 245, ([], [], []))])
set_option maxRecDepth 100000 in
theorem p5y3_1352_e : ck_ok p1_O none [] [(287, [p5y3_1351])] 286 [] 84 p5y3_1352 = true := by decide +kernel
theorem p5y3_1352_s {X : Int → Int} {LX : Nat} : ck_Ok p1_O X LX 286 p5y3_1352 := ck_ok_s (ck_E1 (ck_S1 p5y3_1351_s ck_S0) ck_E0) ck_X0 ck_l0 p5y3_1352_e
set_option maxRecDepth 100000 in
def p5y3_1353 : ck_Sum := ((2, 0, 0), 245, [.inr (.inr (.inl 226)), .inl (ck_one 172)], ([], [], [(234, 172, 172, ck_one 3)]), ([(226, 0, 0)], []), [(.inr (some (.inl (ck_one 3))), 245, ([], [], [(226, 0, 0, ck_one 0)]))])
set_option maxRecDepth 100000 in
theorem p5y3_1353_e : ck_ok p1_O none [] [(286, [p5y3_1352]), (283, [p5y3_147])] 285 [] 98 p5y3_1353 = true := by decide +kernel
theorem p5y3_1353_s {X : Int → Int} {LX : Nat} : ck_Ok p1_O X LX 285 p5y3_1353 := ck_ok_s (ck_E1 (ck_S1 p5y3_1352_s ck_S0) (ck_E1 (ck_S1 p5y3_147_s ck_S0) ck_E0)) ck_X0 ck_l0 p5y3_1353_e
set_option maxRecDepth 100000 in
def p5y3_1358 : ck_Sum := ((0, 0, 0), 245, [.inl (ck_one 173), .inl (ck_one 0), .inl (ck_one 299)], ([], [], []), ([], []), [(.inr (some (.inl (ck_one 1))), 245, ([], [], []))])
set_option maxRecDepth 100000 in
theorem p5y3_1358_e : ck_ok p1_O none [] [] 287 [] 88 p5y3_1358 = true := by decide +kernel
theorem p5y3_1358_s {X : Int → Int} {LX : Nat} : ck_Ok p1_O X LX 287 p5y3_1358 := ck_ok_s (ck_E0) ck_X0 ck_l0 p5y3_1358_e
set_option maxRecDepth 100000 in
def p5y3_1359 : ck_Sum := ((1, 0, 0), 245, [.inl (ck_one 173)], ([], [], []), ([], []), [(.inr (some (.inl (ck_one 0))), 245, ([], [], []))])
set_option maxRecDepth 100000 in
theorem p5y3_1359_e : ck_ok p1_O none [] [(287, [p5y3_1358])] 286 [] 84 p5y3_1359 = true := by decide +kernel
theorem p5y3_1359_s {X : Int → Int} {LX : Nat} : ck_Ok p1_O X LX 286 p5y3_1359 := ck_ok_s (ck_E1 (ck_S1 p5y3_1358_s ck_S0) ck_E0) ck_X0 ck_l0 p5y3_1359_e
set_option maxRecDepth 100000 in
def p5y3_1360 : ck_Sum := ((2, 0, 0), 245, [.inr (.inr (.inl 226)), .inl (ck_one 173)], ([], [], [(234, 173, 173, ck_one 7)]), ([(226, 0, 0)], []), [(.inr (some (.inl (ck_one 7))), 245, ([], [], [(226, 0, 0, ck_one 0)]))])
set_option maxRecDepth 100000 in
theorem p5y3_1360_e : ck_ok p1_O none [] [(286, [p5y3_1359]), (283, [p5y3_147])] 285 [] 98 p5y3_1360 = true := by decide +kernel
theorem p5y3_1360_s {X : Int → Int} {LX : Nat} : ck_Ok p1_O X LX 285 p5y3_1360 := ck_ok_s (ck_E1 (ck_S1 p5y3_1359_s ck_S0) (ck_E1 (ck_S1 p5y3_147_s ck_S0) ck_E0)) ck_X0 ck_l0 p5y3_1360_e
set_option maxRecDepth 100000 in
def p5y3_1365 : ck_Sum := ((0, 0, 0), 245, [.inl (ck_one 174), .inl (ck_one 0), .inl (ck_one 299)], ([], [], []), ([], []), [(.inr (some (.inl (ck_one 1))), 245, ([], [], []))])
set_option maxRecDepth 100000 in
theorem p5y3_1365_e : ck_ok p1_O none [] [] 287 [] 88 p5y3_1365 = true := by decide +kernel
theorem p5y3_1365_s {X : Int → Int} {LX : Nat} : ck_Ok p1_O X LX 287 p5y3_1365 := ck_ok_s (ck_E0) ck_X0 ck_l0 p5y3_1365_e
set_option maxRecDepth 100000 in
def p5y3_1366 : ck_Sum := ((1, 0, 0), 245, [.inl (ck_one 174)], ([], [], []), ([], []), [(.inr (some (.inl (ck_one 0))), 245, ([], [], []))])
set_option maxRecDepth 100000 in
theorem p5y3_1366_e : ck_ok p1_O none [] [(287, [p5y3_1365])] 286 [] 84 p5y3_1366 = true := by decide +kernel
theorem p5y3_1366_s {X : Int → Int} {LX : Nat} : ck_Ok p1_O X LX 286 p5y3_1366 := ck_ok_s (ck_E1 (ck_S1 p5y3_1365_s ck_S0) ck_E0) ck_X0 ck_l0 p5y3_1366_e
set_option maxRecDepth 100000 in
def p5y3_1367 : ck_Sum := ((2, 0, 0), 245, [.inr (.inr (.inl 226)), .inl (ck_one 174)], ([], [], [(234, 174, 174, ck_one 1)]), ([(226, 0, 0)], []), [(.inr (some (.inl (ck_one 1))), 245, ([], [], [(226, 0, 0, ck_one 0)]))])
set_option maxRecDepth 100000 in
theorem p5y3_1367_e : ck_ok p1_O none [] [(286, [p5y3_1366]), (283, [p5y3_147])] 285 [] 98 p5y3_1367 = true := by decide +kernel
theorem p5y3_1367_s {X : Int → Int} {LX : Nat} : ck_Ok p1_O X LX 285 p5y3_1367 := ck_ok_s (ck_E1 (ck_S1 p5y3_1366_s ck_S0) (ck_E1 (ck_S1 p5y3_147_s ck_S0) ck_E0)) ck_X0 ck_l0 p5y3_1367_e
set_option maxRecDepth 100000 in
def p5y3_1372 : ck_Sum := ((0, 0, 0), 245, [.inl (ck_one 175), .inl (ck_one 0), .inl (ck_one 299)], ([], [], []), ([], []), [(.inr (some (.inl (ck_one 1))), 245, ([], [], []))])
set_option maxRecDepth 100000 in
theorem p5y3_1372_e : ck_ok p1_O none [] [] 287 [] 88 p5y3_1372 = true := by decide +kernel
theorem p5y3_1372_s {X : Int → Int} {LX : Nat} : ck_Ok p1_O X LX 287 p5y3_1372 := ck_ok_s (ck_E0) ck_X0 ck_l0 p5y3_1372_e
set_option maxRecDepth 100000 in
def p5y3_1373 : ck_Sum := ((1, 0, 0), 245, [.inl (ck_one 175)], ([], [], []), ([], []), [(.inr (some (.inl (ck_one 0))), 245, ([], [], []))])
set_option maxRecDepth 100000 in
theorem p5y3_1373_e : ck_ok p1_O none [] [(287, [p5y3_1372])] 286 [] 84 p5y3_1373 = true := by decide +kernel
theorem p5y3_1373_s {X : Int → Int} {LX : Nat} : ck_Ok p1_O X LX 286 p5y3_1373 := ck_ok_s (ck_E1 (ck_S1 p5y3_1372_s ck_S0) ck_E0) ck_X0 ck_l0 p5y3_1373_e
set_option maxRecDepth 100000 in
def p5y3_1374 : ck_Sum := ((2, 0, 0), 245, [.inr (.inr (.inl 226)), .inl (ck_one 175)], ([], [], [(234, 175, 175, ck_one 7)]), ([(226, 0, 0)], []), [(.inr (some (.inl (ck_one 7))), 245, ([], [], [(226, 0, 0, ck_one 0)]))])
set_option maxRecDepth 100000 in
theorem p5y3_1374_e : ck_ok p1_O none [] [(286, [p5y3_1373]), (283, [p5y3_147])] 285 [] 98 p5y3_1374 = true := by decide +kernel
theorem p5y3_1374_s {X : Int → Int} {LX : Nat} : ck_Ok p1_O X LX 285 p5y3_1374 := ck_ok_s (ck_E1 (ck_S1 p5y3_1373_s ck_S0) (ck_E1 (ck_S1 p5y3_147_s ck_S0) ck_E0)) ck_X0 ck_l0 p5y3_1374_e
set_option maxRecDepth 100000 in
def p5y3_1379 : ck_Sum := ((0, 0, 0), 245, [.inl (ck_one 176), .inl (ck_one 0), .inl (ck_one 299)], ([], [], []), ([], []), [(.inr (some (.inl (ck_one 1))), 245, ([], [], []))])
set_option maxRecDepth 100000 in
theorem p5y3_1379_e : ck_ok p1_O none [] [] 287 [] 88 p5y3_1379 = true := by decide +kernel
theorem p5y3_1379_s {X : Int → Int} {LX : Nat} : ck_Ok p1_O X LX 287 p5y3_1379 := ck_ok_s (ck_E0) ck_X0 ck_l0 p5y3_1379_e
set_option maxRecDepth 100000 in
def p5y3_1380 : ck_Sum := ((1, 0, 0), 245, [.inl (ck_one 176)], ([], [], []), ([], []), [(.inr (some (.inl (ck_one 0))), 245, ([], [], []))])
set_option maxRecDepth 100000 in
theorem p5y3_1380_e : ck_ok p1_O none [] [(287, [p5y3_1379])] 286 [] 84 p5y3_1380 = true := by decide +kernel
theorem p5y3_1380_s {X : Int → Int} {LX : Nat} : ck_Ok p1_O X LX 286 p5y3_1380 := ck_ok_s (ck_E1 (ck_S1 p5y3_1379_s ck_S0) ck_E0) ck_X0 ck_l0 p5y3_1380_e
set_option maxRecDepth 100000 in
def p5y3_1381 : ck_Sum := ((2, 0, 0), 245, [.inr (.inr (.inl 226)), .inl (ck_one 176)], ([], [], [(234, 176, 176, ck_one 2)]), ([(226, 0, 0)], []), [(.inr (some (.inl (ck_one 2))), 245, ([], [], [(226, 0, 0, ck_one 0)]))])
set_option maxRecDepth 100000 in
theorem p5y3_1381_e : ck_ok p1_O none [] [(286, [p5y3_1380]), (283, [p5y3_147])] 285 [] 98 p5y3_1381 = true := by decide +kernel
theorem p5y3_1381_s {X : Int → Int} {LX : Nat} : ck_Ok p1_O X LX 285 p5y3_1381 := ck_ok_s (ck_E1 (ck_S1 p5y3_1380_s ck_S0) (ck_E1 (ck_S1 p5y3_147_s ck_S0) ck_E0)) ck_X0 ck_l0 p5y3_1381_e
set_option maxRecDepth 100000 in
def p5y3_1386 : ck_Sum := ((0, 0, 0), 245, [.inl (ck_one 177), .inl (ck_one 0), .inl (ck_one 299)], ([], [], []), ([], []), [(.inr (some (.inl (ck_one 1))), 245, ([], [], []))])
set_option maxRecDepth 100000 in
theorem p5y3_1386_e : ck_ok p1_O none [] [] 287 [] 88 p5y3_1386 = true := by decide +kernel
theorem p5y3_1386_s {X : Int → Int} {LX : Nat} : ck_Ok p1_O X LX 287 p5y3_1386 := ck_ok_s (ck_E0) ck_X0 ck_l0 p5y3_1386_e
set_option maxRecDepth 100000 in
def p5y3_1387 : ck_Sum := ((1, 0, 0), 245, [.inl (ck_one 177)], ([], [], []), ([], []), [(.inr (some (.inl (ck_one 0))), 245, ([], [], []))])
set_option maxRecDepth 100000 in
theorem p5y3_1387_e : ck_ok p1_O none [] [(287, [p5y3_1386])] 286 [] 84 p5y3_1387 = true := by decide +kernel
theorem p5y3_1387_s {X : Int → Int} {LX : Nat} : ck_Ok p1_O X LX 286 p5y3_1387 := ck_ok_s (ck_E1 (ck_S1 p5y3_1386_s ck_S0) ck_E0) ck_X0 ck_l0 p5y3_1387_e
set_option maxRecDepth 100000 in
def p5y3_1388 : ck_Sum := ((2, 0, 0), 245, [.inr (.inr (.inl 226)), .inl (ck_one 177)], ([], [], [(234, 177, 177, ck_one 8)]), ([(226, 0, 0)], []), [(.inr (some (.inl (ck_one 8))), 245, ([], [], [(226, 0, 0, ck_one 0)]))])
set_option maxRecDepth 100000 in
theorem p5y3_1388_e : ck_ok p1_O none [] [(286, [p5y3_1387]), (283, [p5y3_147])] 285 [] 98 p5y3_1388 = true := by decide +kernel
theorem p5y3_1388_s {X : Int → Int} {LX : Nat} : ck_Ok p1_O X LX 285 p5y3_1388 := ck_ok_s (ck_E1 (ck_S1 p5y3_1387_s ck_S0) (ck_E1 (ck_S1 p5y3_147_s ck_S0) ck_E0)) ck_X0 ck_l0 p5y3_1388_e
set_option maxRecDepth 100000 in
def p5y3_1393 : ck_Sum := ((0, 0, 0), 245, [.inl (ck_one 178), .inl (ck_one 0), .inl (ck_one 299)], ([], [], []), ([], []), [(.inr (some (.inl (ck_one 1))), 245, ([], [], []))])
set_option maxRecDepth 100000 in
theorem p5y3_1393_e : ck_ok p1_O none [] [] 287 [] 88 p5y3_1393 = true := by decide +kernel
theorem p5y3_1393_s {X : Int → Int} {LX : Nat} : ck_Ok p1_O X LX 287 p5y3_1393 := ck_ok_s (ck_E0) ck_X0 ck_l0 p5y3_1393_e
set_option maxRecDepth 100000 in
def p5y3_1394 : ck_Sum := ((1, 0, 0), 245, [.inl (ck_one 178)], ([], [], []), ([], []), [(.inr (some (.inl (ck_one 0))), 245, ([], [], []))])
set_option maxRecDepth 100000 in
theorem p5y3_1394_e : ck_ok p1_O none [] [(287, [p5y3_1393])] 286 [] 84 p5y3_1394 = true := by decide +kernel
theorem p5y3_1394_s {X : Int → Int} {LX : Nat} : ck_Ok p1_O X LX 286 p5y3_1394 := ck_ok_s (ck_E1 (ck_S1 p5y3_1393_s ck_S0) ck_E0) ck_X0 ck_l0 p5y3_1394_e
set_option maxRecDepth 100000 in
def p5y3_1395 : ck_Sum := ((2, 0, 0), 245, [.inr (.inr (.inl 226)), .inl (ck_one 178)], ([], [], [(234, 178, 178, ck_one 1)]), ([(226, 0, 0)], []), [(.inr (some (.inl (ck_one 1))), 245, ([], [], [(226, 0, 0, ck_one 0)]))])
set_option maxRecDepth 100000 in
theorem p5y3_1395_e : ck_ok p1_O none [] [(286, [p5y3_1394]), (283, [p5y3_147])] 285 [] 98 p5y3_1395 = true := by decide +kernel
theorem p5y3_1395_s {X : Int → Int} {LX : Nat} : ck_Ok p1_O X LX 285 p5y3_1395 := ck_ok_s (ck_E1 (ck_S1 p5y3_1394_s ck_S0) (ck_E1 (ck_S1 p5y3_147_s ck_S0) ck_E0)) ck_X0 ck_l0 p5y3_1395_e
set_option maxRecDepth 100000 in
def p5y3_1400 : ck_Sum := ((0, 0, 0), 245, [.inl (ck_one 179), .inl (ck_one 0), .inl (ck_one 299)], ([], [], []), ([], []), [(.inr (some (.inl (ck_one 1))), 245, ([], [], []))])
set_option maxRecDepth 100000 in
theorem p5y3_1400_e : ck_ok p1_O none [] [] 287 [] 88 p5y3_1400 = true := by decide +kernel
theorem p5y3_1400_s {X : Int → Int} {LX : Nat} : ck_Ok p1_O X LX 287 p5y3_1400 := ck_ok_s (ck_E0) ck_X0 ck_l0 p5y3_1400_e
set_option maxRecDepth 100000 in
def p5y3_1401 : ck_Sum := ((1, 0, 0), 245, [.inl (ck_one 179)], ([], [], []), ([], []), [(.inr (some (.inl (ck_one 0))), 245, ([], [], []))])
set_option maxRecDepth 100000 in
theorem p5y3_1401_e : ck_ok p1_O none [] [(287, [p5y3_1400])] 286 [] 84 p5y3_1401 = true := by decide +kernel
theorem p5y3_1401_s {X : Int → Int} {LX : Nat} : ck_Ok p1_O X LX 286 p5y3_1401 := ck_ok_s (ck_E1 (ck_S1 p5y3_1400_s ck_S0) ck_E0) ck_X0 ck_l0 p5y3_1401_e
set_option maxRecDepth 100000 in
def p5y3_1402 : ck_Sum := ((2, 0, 0), 245, [.inr (.inr (.inl 226)), .inl (ck_one 179)], ([], [], [(234, 179, 179, ck_one 3)]), ([(226, 0, 0)], []), [(.inr (some (.inl (ck_one 3))), 245, ([], [], [(226, 0, 0, ck_one 0)]))])
set_option maxRecDepth 100000 in
theorem p5y3_1402_e : ck_ok p1_O none [] [(286, [p5y3_1401]), (283, [p5y3_147])] 285 [] 98 p5y3_1402 = true := by decide +kernel
theorem p5y3_1402_s {X : Int → Int} {LX : Nat} : ck_Ok p1_O X LX 285 p5y3_1402 := ck_ok_s (ck_E1 (ck_S1 p5y3_1401_s ck_S0) (ck_E1 (ck_S1 p5y3_147_s ck_S0) ck_E0)) ck_X0 ck_l0 p5y3_1402_e
set_option maxRecDepth 100000 in
def p5y3_1407 : ck_Sum := ((0, 0, 0), 245, [.inl (ck_one 180), .inl (ck_one 0), .inl (ck_one 299)], ([], [], []), ([], []), [(.inr (some (.inl (ck_one 1))), 245, ([], [], []))])
set_option maxRecDepth 100000 in
theorem p5y3_1407_e : ck_ok p1_O none [] [] 287 [] 88 p5y3_1407 = true := by decide +kernel
theorem p5y3_1407_s {X : Int → Int} {LX : Nat} : ck_Ok p1_O X LX 287 p5y3_1407 := ck_ok_s (ck_E0) ck_X0 ck_l0 p5y3_1407_e
set_option maxRecDepth 100000 in
def p5y3_1408 : ck_Sum := ((1, 0, 0), 245, [.inl (ck_one 180)], ([], [], []), ([], []), [(.inr (some (.inl (ck_one 0))), 245, ([], [], []))])
set_option maxRecDepth 100000 in
theorem p5y3_1408_e : ck_ok p1_O none [] [(287, [p5y3_1407])] 286 [] 84 p5y3_1408 = true := by decide +kernel
theorem p5y3_1408_s {X : Int → Int} {LX : Nat} : ck_Ok p1_O X LX 286 p5y3_1408 := ck_ok_s (ck_E1 (ck_S1 p5y3_1407_s ck_S0) ck_E0) ck_X0 ck_l0 p5y3_1408_e
set_option maxRecDepth 100000 in
def p5y3_1409 : ck_Sum := ((2, 0, 0), 245, [.inr (.inr (.inl 226)), .inl (ck_one 180)], ([], [], [(234, 180, 180, ck_one 2)]), ([(226, 0, 0)], []), [(.inr (some (.inl (ck_one 2))), 245, ([], [], [(226, 0, 0, ck_one 0)]))])
set_option maxRecDepth 100000 in
theorem p5y3_1409_e : ck_ok p1_O none [] [(286, [p5y3_1408]), (283, [p5y3_147])] 285 [] 98 p5y3_1409 = true := by decide +kernel
theorem p5y3_1409_s {X : Int → Int} {LX : Nat} : ck_Ok p1_O X LX 285 p5y3_1409 := ck_ok_s (ck_E1 (ck_S1 p5y3_1408_s ck_S0) (ck_E1 (ck_S1 p5y3_147_s ck_S0) ck_E0)) ck_X0 ck_l0 p5y3_1409_e
set_option maxRecDepth 100000 in
def p5y3_1414 : ck_Sum := ((0, 0, 0), 245, [.inl (ck_one 181), .inl (ck_one 0), .inl (ck_one 299)], ([], [], []), ([], []), [(.inr (some (.inl (ck_one 1))), 245, ([], [], []))])
set_option maxRecDepth 100000 in
theorem p5y3_1414_e : ck_ok p1_O none [] [] 287 [] 88 p5y3_1414 = true := by decide +kernel
theorem p5y3_1414_s {X : Int → Int} {LX : Nat} : ck_Ok p1_O X LX 287 p5y3_1414 := ck_ok_s (ck_E0) ck_X0 ck_l0 p5y3_1414_e
set_option maxRecDepth 100000 in
def p5y3_1415 : ck_Sum := ((1, 0, 0), 245, [.inl (ck_one 181)], ([], [], []), ([], []), [(.inr (some (.inl (ck_one 0))), 245, ([], [], []))])
set_option maxRecDepth 100000 in
theorem p5y3_1415_e : ck_ok p1_O none [] [(287, [p5y3_1414])] 286 [] 84 p5y3_1415 = true := by decide +kernel
theorem p5y3_1415_s {X : Int → Int} {LX : Nat} : ck_Ok p1_O X LX 286 p5y3_1415 := ck_ok_s (ck_E1 (ck_S1 p5y3_1414_s ck_S0) ck_E0) ck_X0 ck_l0 p5y3_1415_e
set_option maxRecDepth 100000 in
def p5y3_1416 : ck_Sum := ((2, 0, 0), 245, [.inr (.inr (.inl 226)), .inl (ck_one 181)], ([], [], [(234, 181, 181, ck_one 4)]), ([(226, 0, 0)], []), [(.inr (some (.inl (ck_one 4))), 245, ([], [], [(226, 0, 0, ck_one 0)]))])
set_option maxRecDepth 100000 in
theorem p5y3_1416_e : ck_ok p1_O none [] [(286, [p5y3_1415]), (283, [p5y3_147])] 285 [] 98 p5y3_1416 = true := by decide +kernel
theorem p5y3_1416_s {X : Int → Int} {LX : Nat} : ck_Ok p1_O X LX 285 p5y3_1416 := ck_ok_s (ck_E1 (ck_S1 p5y3_1415_s ck_S0) (ck_E1 (ck_S1 p5y3_147_s ck_S0) ck_E0)) ck_X0 ck_l0 p5y3_1416_e
set_option maxRecDepth 100000 in
def p5y3_1421 : ck_Sum := ((0, 0, 0), 245, [.inl (ck_one 182), .inl (ck_one 0), .inl (ck_one 299)], ([], [], []), ([], []), [(.inr (some (.inl (ck_one 1))), 245, ([], [], []))])
set_option maxRecDepth 100000 in
theorem p5y3_1421_e : ck_ok p1_O none [] [] 287 [] 88 p5y3_1421 = true := by decide +kernel
theorem p5y3_1421_s {X : Int → Int} {LX : Nat} : ck_Ok p1_O X LX 287 p5y3_1421 := ck_ok_s (ck_E0) ck_X0 ck_l0 p5y3_1421_e
set_option maxRecDepth 100000 in
def p5y3_1422 : ck_Sum := ((1, 0, 0), 245, [.inl (ck_one 182)], ([], [], []), ([], []), [(.inr (some (.inl (ck_one 0))), 245, ([], [], []))])
set_option maxRecDepth 100000 in
theorem p5y3_1422_e : ck_ok p1_O none [] [(287, [p5y3_1421])] 286 [] 84 p5y3_1422 = true := by decide +kernel
theorem p5y3_1422_s {X : Int → Int} {LX : Nat} : ck_Ok p1_O X LX 286 p5y3_1422 := ck_ok_s (ck_E1 (ck_S1 p5y3_1421_s ck_S0) ck_E0) ck_X0 ck_l0 p5y3_1422_e
set_option maxRecDepth 100000 in
def p5y3_1423 : ck_Sum := ((2, 0, 0), 245, [.inr (.inr (.inl 226)), .inl (ck_one 182)], ([], [], [(234, 182, 182, ck_one 8)]), ([(226, 0, 0)], []), [(.inr (some (.inl (ck_one 8))), 245, ([], [], [(226, 0, 0, ck_one 0)]))])
set_option maxRecDepth 100000 in
theorem p5y3_1423_e : ck_ok p1_O none [] [(286, [p5y3_1422]), (283, [p5y3_147])] 285 [] 98 p5y3_1423 = true := by decide +kernel
theorem p5y3_1423_s {X : Int → Int} {LX : Nat} : ck_Ok p1_O X LX 285 p5y3_1423 := ck_ok_s (ck_E1 (ck_S1 p5y3_1422_s ck_S0) (ck_E1 (ck_S1 p5y3_147_s ck_S0) ck_E0)) ck_X0 ck_l0 p5y3_1423_e
set_option maxRecDepth 100000 in
def p5y3_1428 : ck_Sum := ((0, 0, 0), 245, [.inl (ck_one 183), .inl (ck_one 0), .inl (ck_one 299)], ([], [], []), ([], []), [(.inr (some (.inl (ck_one 1))), 245, ([], [], []))])
set_option maxRecDepth 100000 in
theorem p5y3_1428_e : ck_ok p1_O none [] [] 287 [] 88 p5y3_1428 = true := by decide +kernel
theorem p5y3_1428_s {X : Int → Int} {LX : Nat} : ck_Ok p1_O X LX 287 p5y3_1428 := ck_ok_s (ck_E0) ck_X0 ck_l0 p5y3_1428_e
set_option maxRecDepth 100000 in
def p5y3_1429 : ck_Sum := ((1, 0, 0), 245, [.inl (ck_one 183)], ([], [], []), ([], []), [(.inr (some (.inl (ck_one 0))), 245, ([], [], []))])
set_option maxRecDepth 100000 in
theorem p5y3_1429_e : ck_ok p1_O none [] [(287, [p5y3_1428])] 286 [] 84 p5y3_1429 = true := by decide +kernel
theorem p5y3_1429_s {X : Int → Int} {LX : Nat} : ck_Ok p1_O X LX 286 p5y3_1429 := ck_ok_s (ck_E1 (ck_S1 p5y3_1428_s ck_S0) ck_E0) ck_X0 ck_l0 p5y3_1429_e
set_option maxRecDepth 100000 in
def p5y3_1430 : ck_Sum := ((2, 0, 0), 245, [.inr (.inr (.inl 226)), .inl (ck_one 183)], ([], [], [(234, 183, 183, ck_one 5)]), ([(226, 0, 0)], []), [(.inr (some (.inl (ck_one 5))), 245, ([], [], [(226, 0, 0, ck_one 0)]))])
set_option maxRecDepth 100000 in
theorem p5y3_1430_e : ck_ok p1_O none [] [(286, [p5y3_1429]), (283, [p5y3_147])] 285 [] 98 p5y3_1430 = true := by decide +kernel
theorem p5y3_1430_s {X : Int → Int} {LX : Nat} : ck_Ok p1_O X LX 285 p5y3_1430 := ck_ok_s (ck_E1 (ck_S1 p5y3_1429_s ck_S0) (ck_E1 (ck_S1 p5y3_147_s ck_S0) ck_E0)) ck_X0 ck_l0 p5y3_1430_e
set_option maxRecDepth 100000 in
def p5y3_1435 : ck_Sum := ((0, 0, 0), 245, [.inl (ck_one 184), .inl (ck_one 0), .inl (ck_one 299)], ([], [], []), ([], []), [(.inr (some (.inl (ck_one 1))), 245, ([], [], []))])
set_option maxRecDepth 100000 in
theorem p5y3_1435_e : ck_ok p1_O none [] [] 287 [] 88 p5y3_1435 = true := by decide +kernel
theorem p5y3_1435_s {X : Int → Int} {LX : Nat} : ck_Ok p1_O X LX 287 p5y3_1435 := ck_ok_s (ck_E0) ck_X0 ck_l0 p5y3_1435_e
set_option maxRecDepth 100000 in
def p5y3_1436 : ck_Sum := ((1, 0, 0), 245, [.inl (ck_one 184)], ([], [], []), ([], []), [(.inr (some (.inl (ck_one 0))), 245, ([], [], []))])
set_option maxRecDepth 100000 in
theorem p5y3_1436_e : ck_ok p1_O none [] [(287, [p5y3_1435])] 286 [] 84 p5y3_1436 = true := by decide +kernel
theorem p5y3_1436_s {X : Int → Int} {LX : Nat} : ck_Ok p1_O X LX 286 p5y3_1436 := ck_ok_s (ck_E1 (ck_S1 p5y3_1435_s ck_S0) ck_E0) ck_X0 ck_l0 p5y3_1436_e
set_option maxRecDepth 100000 in
def p5y3_1437 : ck_Sum := ((2, 0, 0), 245, [.inr (.inr (.inl 226)), .inl (ck_one 184)], ([], [], [(234, 184, 184, ck_one 3)]), ([(226, 0, 0)], []), [(.inr (some (.inl (ck_one 3))), 245, ([], [], [(226, 0, 0, ck_one 0)]))])
set_option maxRecDepth 100000 in
theorem p5y3_1437_e : ck_ok p1_O none [] [(286, [p5y3_1436]), (283, [p5y3_147])] 285 [] 98 p5y3_1437 = true := by decide +kernel
theorem p5y3_1437_s {X : Int → Int} {LX : Nat} : ck_Ok p1_O X LX 285 p5y3_1437 := ck_ok_s (ck_E1 (ck_S1 p5y3_1436_s ck_S0) (ck_E1 (ck_S1 p5y3_147_s ck_S0) ck_E0)) ck_X0 ck_l0 p5y3_1437_e
set_option maxRecDepth 100000 in
def p5y3_1442 : ck_Sum := ((0, 0, 0), 245, [.inl (ck_one 185), .inl (ck_one 0), .inl (ck_one 299)], ([], [], []), ([], []), [(.inr (some (.inl (ck_one 1))), 245, ([], [], []))])
set_option maxRecDepth 100000 in
theorem p5y3_1442_e : ck_ok p1_O none [] [] 287 [] 88 p5y3_1442 = true := by decide +kernel
theorem p5y3_1442_s {X : Int → Int} {LX : Nat} : ck_Ok p1_O X LX 287 p5y3_1442 := ck_ok_s (ck_E0) ck_X0 ck_l0 p5y3_1442_e
set_option maxRecDepth 100000 in
def p5y3_1443 : ck_Sum := ((1, 0, 0), 245, [.inl (ck_one 185)], ([], [], []), ([], []), [(.inr (some (.inl (ck_one 0))), 245, ([], [], []))])
set_option maxRecDepth 100000 in
theorem p5y3_1443_e : ck_ok p1_O none [] [(287, [p5y3_1442])] 286 [] 84 p5y3_1443 = true := by decide +kernel
theorem p5y3_1443_s {X : Int → Int} {LX : Nat} : ck_Ok p1_O X LX 286 p5y3_1443 := ck_ok_s (ck_E1 (ck_S1 p5y3_1442_s ck_S0) ck_E0) ck_X0 ck_l0 p5y3_1443_e
set_option maxRecDepth 100000 in
def p5y3_1444 : ck_Sum := ((2, 0, 0), 245, [.inr (.inr (.inl 226)), .inl (ck_one 185)], ([], [], [(234, 185, 185, ck_one 9)]), ([(226, 0, 0)], []), [(.inr (some (.inl (ck_one 9))), 245, ([], [], [(226, 0, 0, ck_one 0)]))])
set_option maxRecDepth 100000 in
theorem p5y3_1444_e : ck_ok p1_O none [] [(286, [p5y3_1443]), (283, [p5y3_147])] 285 [] 98 p5y3_1444 = true := by decide +kernel
theorem p5y3_1444_s {X : Int → Int} {LX : Nat} : ck_Ok p1_O X LX 285 p5y3_1444 := ck_ok_s (ck_E1 (ck_S1 p5y3_1443_s ck_S0) (ck_E1 (ck_S1 p5y3_147_s ck_S0) ck_E0)) ck_X0 ck_l0 p5y3_1444_e
set_option maxRecDepth 100000 in
def p5y3_1449 : ck_Sum := ((0, 0, 0), 245, [.inl (ck_one 186), .inl (ck_one 0), .inl (ck_one 299)], ([], [], []), ([], []), [(.inr (some (.inl (ck_one 1))), 245, ([], [], []))])
set_option maxRecDepth 100000 in
theorem p5y3_1449_e : ck_ok p1_O none [] [] 287 [] 88 p5y3_1449 = true := by decide +kernel
theorem p5y3_1449_s {X : Int → Int} {LX : Nat} : ck_Ok p1_O X LX 287 p5y3_1449 := ck_ok_s (ck_E0) ck_X0 ck_l0 p5y3_1449_e
set_option maxRecDepth 100000 in
def p5y3_1450 : ck_Sum := ((1, 0, 0), 245, [.inl (ck_one 186)], ([], [], []), ([], []), [(.inr (some (.inl (ck_one 0))), 245, ([], [], []))])
set_option maxRecDepth 100000 in
theorem p5y3_1450_e : ck_ok p1_O none [] [(287, [p5y3_1449])] 286 [] 84 p5y3_1450 = true := by decide +kernel
theorem p5y3_1450_s {X : Int → Int} {LX : Nat} : ck_Ok p1_O X LX 286 p5y3_1450 := ck_ok_s (ck_E1 (ck_S1 p5y3_1449_s ck_S0) ck_E0) ck_X0 ck_l0 p5y3_1450_e
set_option maxRecDepth 100000 in
def p5y3_1451 : ck_Sum := ((2, 0, 0), 245, [.inr (.inr (.inl 226)), .inl (ck_one 186)], ([], [], [(234, 186, 186, ck_one 1)]), ([(226, 0, 0)], []), [(.inr (some (.inl (ck_one 1))), 245, ([], [], [(226, 0, 0, ck_one 0)]))])
set_option maxRecDepth 100000 in
theorem p5y3_1451_e : ck_ok p1_O none [] [(286, [p5y3_1450]), (283, [p5y3_147])] 285 [] 98 p5y3_1451 = true := by decide +kernel
theorem p5y3_1451_s {X : Int → Int} {LX : Nat} : ck_Ok p1_O X LX 285 p5y3_1451 := ck_ok_s (ck_E1 (ck_S1 p5y3_1450_s ck_S0) (ck_E1 (ck_S1 p5y3_147_s ck_S0) ck_E0)) ck_X0 ck_l0 p5y3_1451_e
set_option maxRecDepth 100000 in
def p5y3_1456 : ck_Sum := ((0, 0, 0), 245, [.inl (ck_one 187), .inl (ck_one 0), .inl (ck_one 299)], ([], [], []), ([], []), [(.inr (some (.inl (ck_one 1))), 245, ([], [], []))])
set_option maxRecDepth 100000 in
theorem p5y3_1456_e : ck_ok p1_O none [] [] 287 [] 88 p5y3_1456 = true := by decide +kernel
theorem p5y3_1456_s {X : Int → Int} {LX : Nat} : ck_Ok p1_O X LX 287 p5y3_1456 := ck_ok_s (ck_E0) ck_X0 ck_l0 p5y3_1456_e
set_option maxRecDepth 100000 in
def p5y3_1457 : ck_Sum := ((1, 0, 0), 245, [.inl (ck_one 187)], ([], [], []), ([], []), [(.inr (some (.inl (ck_one 0))), 245, ([], [], []))])
set_option maxRecDepth 100000 in
theorem p5y3_1457_e : ck_ok p1_O none [] [(287, [p5y3_1456])] 286 [] 84 p5y3_1457 = true := by decide +kernel
theorem p5y3_1457_s {X : Int → Int} {LX : Nat} : ck_Ok p1_O X LX 286 p5y3_1457 := ck_ok_s (ck_E1 (ck_S1 p5y3_1456_s ck_S0) ck_E0) ck_X0 ck_l0 p5y3_1457_e
set_option maxRecDepth 100000 in
def p5y3_1458 : ck_Sum := ((2, 0, 0), 245, [.inr (.inr (.inl 226)), .inl (ck_one 187)], ([], [], [(234, 187, 187, ck_one 6)]), ([(226, 0, 0)], []), [(.inr (some (.inl (ck_one 6))), 245, ([], [], [(226, 0, 0, ck_one 0)]))])
set_option maxRecDepth 100000 in
theorem p5y3_1458_e : ck_ok p1_O none [] [(286, [p5y3_1457]), (283, [p5y3_147])] 285 [] 98 p5y3_1458 = true := by decide +kernel
theorem p5y3_1458_s {X : Int → Int} {LX : Nat} : ck_Ok p1_O X LX 285 p5y3_1458 := ck_ok_s (ck_E1 (ck_S1 p5y3_1457_s ck_S0) (ck_E1 (ck_S1 p5y3_147_s ck_S0) ck_E0)) ck_X0 ck_l0 p5y3_1458_e
set_option maxRecDepth 100000 in
def p5y3_1463 : ck_Sum := ((0, 0, 0), 245, [.inl (ck_one 188), .inl (ck_one 0), .inl (ck_one 299)], ([], [], []), ([], []), [(.inr (some (.inl (ck_one 1))), 245, ([], [], []))])
set_option maxRecDepth 100000 in
theorem p5y3_1463_e : ck_ok p1_O none [] [] 287 [] 88 p5y3_1463 = true := by decide +kernel
theorem p5y3_1463_s {X : Int → Int} {LX : Nat} : ck_Ok p1_O X LX 287 p5y3_1463 := ck_ok_s (ck_E0) ck_X0 ck_l0 p5y3_1463_e
set_option maxRecDepth 100000 in
def p5y3_1464 : ck_Sum := ((1, 0, 0), 245, [.inl (ck_one 188)], ([], [], []), ([], []), [(.inr (some (.inl (ck_one 0))), 245, ([], [], []))])
set_option maxRecDepth 100000 in
theorem p5y3_1464_e : ck_ok p1_O none [] [(287, [p5y3_1463])] 286 [] 84 p5y3_1464 = true := by decide +kernel
theorem p5y3_1464_s {X : Int → Int} {LX : Nat} : ck_Ok p1_O X LX 286 p5y3_1464 := ck_ok_s (ck_E1 (ck_S1 p5y3_1463_s ck_S0) ck_E0) ck_X0 ck_l0 p5y3_1464_e
set_option maxRecDepth 100000 in
def p5y3_1465 : ck_Sum := ((2, 0, 0), 245, [.inr (.inr (.inl 226)), .inl (ck_one 188)], ([], [], [(234, 188, 188, ck_one 5)]), ([(226, 0, 0)], []), [(.inr (some (.inl (ck_one 5))), 245, ([], [], [(226, 0, 0, ck_one 0)]))])
set_option maxRecDepth 100000 in
theorem p5y3_1465_e : ck_ok p1_O none [] [(286, [p5y3_1464]), (283, [p5y3_147])] 285 [] 98 p5y3_1465 = true := by decide +kernel
theorem p5y3_1465_s {X : Int → Int} {LX : Nat} : ck_Ok p1_O X LX 285 p5y3_1465 := ck_ok_s (ck_E1 (ck_S1 p5y3_1464_s ck_S0) (ck_E1 (ck_S1 p5y3_147_s ck_S0) ck_E0)) ck_X0 ck_l0 p5y3_1465_e
set_option maxRecDepth 100000 in
def p5y3_1470 : ck_Sum := ((0, 0, 0), 245, [.inl (ck_one 189), .inl (ck_one 0), .inl (ck_one 299)], ([], [], []), ([], []), [(.inr (some (.inl (ck_one 1))), 245, ([], [], []))])
set_option maxRecDepth 100000 in
theorem p5y3_1470_e : ck_ok p1_O none [] [] 287 [] 88 p5y3_1470 = true := by decide +kernel
theorem p5y3_1470_s {X : Int → Int} {LX : Nat} : ck_Ok p1_O X LX 287 p5y3_1470 := ck_ok_s (ck_E0) ck_X0 ck_l0 p5y3_1470_e
set_option maxRecDepth 100000 in
def p5y3_1471 : ck_Sum := ((1, 0, 0), 245, [.inl (ck_one 189)], ([], [], []), ([], []), [(.inr (some (.inl (ck_one 0))), 245, ([], [], []))])
set_option maxRecDepth 100000 in
theorem p5y3_1471_e : ck_ok p1_O none [] [(287, [p5y3_1470])] 286 [] 84 p5y3_1471 = true := by decide +kernel
theorem p5y3_1471_s {X : Int → Int} {LX : Nat} : ck_Ok p1_O X LX 286 p5y3_1471 := ck_ok_s (ck_E1 (ck_S1 p5y3_1470_s ck_S0) ck_E0) ck_X0 ck_l0 p5y3_1471_e
set_option maxRecDepth 100000 in
def p5y3_1472 : ck_Sum := ((2, 0, 0), 245, [.inr (.inr (.inl 226)), .inl (ck_one 189)], ([], [], [(234, 189, 189, ck_one 8)]), ([(226, 0, 0)], []), [(.inr (some (.inl (ck_one 8))), 245, ([], [], [(226, 0, 0, ck_one 0)]))])
set_option maxRecDepth 100000 in
theorem p5y3_1472_e : ck_ok p1_O none [] [(286, [p5y3_1471]), (283, [p5y3_147])] 285 [] 98 p5y3_1472 = true := by decide +kernel
theorem p5y3_1472_s {X : Int → Int} {LX : Nat} : ck_Ok p1_O X LX 285 p5y3_1472 := ck_ok_s (ck_E1 (ck_S1 p5y3_1471_s ck_S0) (ck_E1 (ck_S1 p5y3_147_s ck_S0) ck_E0)) ck_X0 ck_l0 p5y3_1472_e
set_option maxRecDepth 100000 in
def p5y3_1477 : ck_Sum := ((0, 0, 0), 245, [.inl (ck_one 190), .inl (ck_one 0), .inl (ck_one 299)], ([], [], []), ([], []), [(.inr (some (.inl (ck_one 1))), 245, ([], [], []))])
set_option maxRecDepth 100000 in
theorem p5y3_1477_e : ck_ok p1_O none [] [] 287 [] 88 p5y3_1477 = true := by decide +kernel
theorem p5y3_1477_s {X : Int → Int} {LX : Nat} : ck_Ok p1_O X LX 287 p5y3_1477 := ck_ok_s (ck_E0) ck_X0 ck_l0 p5y3_1477_e
set_option maxRecDepth 100000 in
def p5y3_1478 : ck_Sum := ((1, 0, 0), 245, [.inl (ck_one 190)], ([], [], []), ([], []), [(.inr (some (.inl (ck_one 0))), 245, ([], [], []))])
set_option maxRecDepth 100000 in
theorem p5y3_1478_e : ck_ok p1_O none [] [(287, [p5y3_1477])] 286 [] 84 p5y3_1478 = true := by decide +kernel
theorem p5y3_1478_s {X : Int → Int} {LX : Nat} : ck_Ok p1_O X LX 286 p5y3_1478 := ck_ok_s (ck_E1 (ck_S1 p5y3_1477_s ck_S0) ck_E0) ck_X0 ck_l0 p5y3_1478_e
set_option maxRecDepth 100000 in
def p5y3_1479 : ck_Sum := ((2, 0, 0), 245, [.inr (.inr (.inl 226)), .inl (ck_one 190)], ([], [], [(234, 190, 190, ck_one 3)]), ([(226, 0, 0)], []), [(.inr (some (.inl (ck_one 3))), 245, ([], [], [(226, 0, 0, ck_one 0)]))])
set_option maxRecDepth 100000 in
theorem p5y3_1479_e : ck_ok p1_O none [] [(286, [p5y3_1478]), (283, [p5y3_147])] 285 [] 98 p5y3_1479 = true := by decide +kernel
theorem p5y3_1479_s {X : Int → Int} {LX : Nat} : ck_Ok p1_O X LX 285 p5y3_1479 := ck_ok_s (ck_E1 (ck_S1 p5y3_1478_s ck_S0) (ck_E1 (ck_S1 p5y3_147_s ck_S0) ck_E0)) ck_X0 ck_l0 p5y3_1479_e
set_option maxRecDepth 100000 in
def p5y3_1484 : ck_Sum := ((0, 0, 0), 245, [.inl (ck_one 191), .inl (ck_one 0), .inl (ck_one 299)], ([], [], []), ([], []), [(.inr (some (.inl (ck_one 1))), 245, ([], [], []))])
set_option maxRecDepth 100000 in
theorem p5y3_1484_e : ck_ok p1_O none [] [] 287 [] 88 p5y3_1484 = true := by decide +kernel
theorem p5y3_1484_s {X : Int → Int} {LX : Nat} : ck_Ok p1_O X LX 287 p5y3_1484 := ck_ok_s (ck_E0) ck_X0 ck_l0 p5y3_1484_e
set_option maxRecDepth 100000 in
def p5y3_1485 : ck_Sum := ((1, 0, 0), 245, [.inl (ck_one 191)], ([], [], []), ([], []), [(.inr (some (.inl (ck_one 0))), 245, ([], [], []))])
set_option maxRecDepth 100000 in
theorem p5y3_1485_e : ck_ok p1_O none [] [(287, [p5y3_1484])] 286 [] 84 p5y3_1485 = true := by decide +kernel
theorem p5y3_1485_s {X : Int → Int} {LX : Nat} : ck_Ok p1_O X LX 286 p5y3_1485 := ck_ok_s (ck_E1 (ck_S1 p5y3_1484_s ck_S0) ck_E0) ck_X0 ck_l0 p5y3_1485_e
set_option maxRecDepth 100000 in
def p5y3_1486 : ck_Sum := ((2, 0, 0), 245, [.inr (.inr (.inl 226)), .inl (ck_one 191)], ([], [], [(234, 191, 191, ck_one 5)]), ([(226, 0, 0)], []), [(.inr (some (.inl (ck_one 5))), 245, ([], [], [(226, 0, 0, ck_one 0)]))])
set_option maxRecDepth 100000 in
theorem p5y3_1486_e : ck_ok p1_O none [] [(286, [p5y3_1485]), (283, [p5y3_147])] 285 [] 98 p5y3_1486 = true := by decide +kernel
theorem p5y3_1486_s {X : Int → Int} {LX : Nat} : ck_Ok p1_O X LX 285 p5y3_1486 := ck_ok_s (ck_E1 (ck_S1 p5y3_1485_s ck_S0) (ck_E1 (ck_S1 p5y3_147_s ck_S0) ck_E0)) ck_X0 ck_l0 p5y3_1486_e
set_option maxRecDepth 100000 in
def p5y3_1491 : ck_Sum := ((0, 0, 0), 245, [.inl (ck_one 192), .inl (ck_one 0), .inl (ck_one 299)], ([], [], []), ([], []), [(.inr (some (.inl (ck_one 1))), 245, ([], [], []))])
set_option maxRecDepth 100000 in
theorem p5y3_1491_e : ck_ok p1_O none [] [] 287 [] 88 p5y3_1491 = true := by decide +kernel
theorem p5y3_1491_s {X : Int → Int} {LX : Nat} : ck_Ok p1_O X LX 287 p5y3_1491 := ck_ok_s (ck_E0) ck_X0 ck_l0 p5y3_1491_e
set_option maxRecDepth 100000 in
def p5y3_1492 : ck_Sum := ((1, 0, 0), 245, [.inl (ck_one 192)], ([], [], []), ([], []), [(.inr (some (.inl (ck_one 0))), 245, ([], [], []))])
set_option maxRecDepth 100000 in
theorem p5y3_1492_e : ck_ok p1_O none [] [(287, [p5y3_1491])] 286 [] 84 p5y3_1492 = true := by decide +kernel
theorem p5y3_1492_s {X : Int → Int} {LX : Nat} : ck_Ok p1_O X LX 286 p5y3_1492 := ck_ok_s (ck_E1 (ck_S1 p5y3_1491_s ck_S0) ck_E0) ck_X0 ck_l0 p5y3_1492_e
set_option maxRecDepth 100000 in
def p5y3_1493 : ck_Sum := ((2, 0, 0), 245, [.inr (.inr (.inl 226)), .inl (ck_one 192)], ([], [], [(234, 192, 192, ck_one 4)]), ([(226, 0, 0)], []), [(.inr (some (.inl (ck_one 4))), 245, ([], [], [(226, 0, 0, ck_one 0)]))])
set_option maxRecDepth 100000 in
theorem p5y3_1493_e : ck_ok p1_O none [] [(286, [p5y3_1492]), (283, [p5y3_147])] 285 [] 98 p5y3_1493 = true := by decide +kernel
theorem p5y3_1493_s {X : Int → Int} {LX : Nat} : ck_Ok p1_O X LX 285 p5y3_1493 := ck_ok_s (ck_E1 (ck_S1 p5y3_1492_s ck_S0) (ck_E1 (ck_S1 p5y3_147_s ck_S0) ck_E0)) ck_X0 ck_l0 p5y3_1493_e
set_option maxRecDepth 100000 in
def p5y3_1498 : ck_Sum := ((0, 0, 0), 245, [.inl (ck_one 193), .inl (ck_one 0), .inl (ck_one 299)], ([], [], []), ([], []), [(.inr (some (.inl (ck_one 1))), 245, ([], [], []))])
set_option maxRecDepth 100000 in
theorem p5y3_1498_e : ck_ok p1_O none [] [] 287 [] 88 p5y3_1498 = true := by decide +kernel
theorem p5y3_1498_s {X : Int → Int} {LX : Nat} : ck_Ok p1_O X LX 287 p5y3_1498 := ck_ok_s (ck_E0) ck_X0 ck_l0 p5y3_1498_e
set_option maxRecDepth 100000 in
def p5y3_1499 : ck_Sum := ((1, 0, 0), 245, [.inl (ck_one 193)], ([], [], []), ([], []), [(.inr (some (.inl (ck_one 0))), 245, ([], [], []))])
set_option maxRecDepth 100000 in
theorem p5y3_1499_e : ck_ok p1_O none [] [(287, [p5y3_1498])] 286 [] 84 p5y3_1499 = true := by decide +kernel
theorem p5y3_1499_s {X : Int → Int} {LX : Nat} : ck_Ok p1_O X LX 286 p5y3_1499 := ck_ok_s (ck_E1 (ck_S1 p5y3_1498_s ck_S0) ck_E0) ck_X0 ck_l0 p5y3_1499_e
set_option maxRecDepth 100000 in
def p5y3_1500 : ck_Sum := ((2, 0, 0), 245, [.inr (.inr (.inl 226)), .inl (ck_one 193)], ([], [], [(234, 193, 193, ck_one 9)]), ([(226, 0, 0)], []), [(.inr (some (.inl (ck_one 9))), 245, ([], [], [(226, 0, 0, ck_one 0)]))])
set_option maxRecDepth 100000 in
theorem p5y3_1500_e : ck_ok p1_O none [] [(286, [p5y3_1499]), (283, [p5y3_147])] 285 [] 98 p5y3_1500 = true := by decide +kernel
theorem p5y3_1500_s {X : Int → Int} {LX : Nat} : ck_Ok p1_O X LX 285 p5y3_1500 := ck_ok_s (ck_E1 (ck_S1 p5y3_1499_s ck_S0) (ck_E1 (ck_S1 p5y3_147_s ck_S0) ck_E0)) ck_X0 ck_l0 p5y3_1500_e
set_option maxRecDepth 100000 in
def p5y3_1505 : ck_Sum := ((0, 0, 0), 245, [.inl (ck_one 194), .inl (ck_one 0), .inl (ck_one 299)], ([], [], []), ([], []), [(.inr (some (.inl (ck_one 1))), 245, ([], [], []))])
set_option maxRecDepth 100000 in
theorem p5y3_1505_e : ck_ok p1_O none [] [] 287 [] 88 p5y3_1505 = true := by decide +kernel
theorem p5y3_1505_s {X : Int → Int} {LX : Nat} : ck_Ok p1_O X LX 287 p5y3_1505 := ck_ok_s (ck_E0) ck_X0 ck_l0 p5y3_1505_e
set_option maxRecDepth 100000 in
def p5y3_1506 : ck_Sum := ((1, 0, 0), 245, [.inl (ck_one 194)], ([], [], []), ([], []), [(.inr (some (.inl (ck_one 0))), 245, ([], [], []))])
set_option maxRecDepth 100000 in
theorem p5y3_1506_e : ck_ok p1_O none [] [(287, [p5y3_1505])] 286 [] 84 p5y3_1506 = true := by decide +kernel
theorem p5y3_1506_s {X : Int → Int} {LX : Nat} : ck_Ok p1_O X LX 286 p5y3_1506 := ck_ok_s (ck_E1 (ck_S1 p5y3_1505_s ck_S0) ck_E0) ck_X0 ck_l0 p5y3_1506_e
set_option maxRecDepth 100000 in
def p5y3_1507 : ck_Sum := ((2, 0, 0), 245, [.inr (.inr (.inl 226)), .inl (ck_one 194)], ([], [], [(234, 194, 194, ck_one 3)]), ([(226, 0, 0)], []), [(.inr (some (.inl (ck_one 3))), 245, ([], [], [(226, 0, 0, ck_one 0)]))])
set_option maxRecDepth 100000 in
theorem p5y3_1507_e : ck_ok p1_O none [] [(286, [p5y3_1506]), (283, [p5y3_147])] 285 [] 98 p5y3_1507 = true := by decide +kernel
theorem p5y3_1507_s {X : Int → Int} {LX : Nat} : ck_Ok p1_O X LX 285 p5y3_1507 := ck_ok_s (ck_E1 (ck_S1 p5y3_1506_s ck_S0) (ck_E1 (ck_S1 p5y3_147_s ck_S0) ck_E0)) ck_X0 ck_l0 p5y3_1507_e
set_option maxRecDepth 100000 in
def p5y3_1512 : ck_Sum := ((0, 0, 0), 245, [.inl (ck_one 195), .inl (ck_one 0), .inl (ck_one 299)], ([], [], []), ([], []), [(.inr (some (.inl (ck_one 1))), 245, ([], [], []))])
set_option maxRecDepth 100000 in
theorem p5y3_1512_e : ck_ok p1_O none [] [] 287 [] 88 p5y3_1512 = true := by decide +kernel
theorem p5y3_1512_s {X : Int → Int} {LX : Nat} : ck_Ok p1_O X LX 287 p5y3_1512 := ck_ok_s (ck_E0) ck_X0 ck_l0 p5y3_1512_e
set_option maxRecDepth 100000 in
def p5y3_1513 : ck_Sum := ((1, 0, 0), 245, [.inl (ck_one 195)], ([], [], []), ([], []), [(.inr (some (.inl (ck_one 0))), 245, ([], [], []))])
set_option maxRecDepth 100000 in
theorem p5y3_1513_e : ck_ok p1_O none [] [(287, [p5y3_1512])] 286 [] 84 p5y3_1513 = true := by decide +kernel
theorem p5y3_1513_s {X : Int → Int} {LX : Nat} : ck_Ok p1_O X LX 286 p5y3_1513 := ck_ok_s (ck_E1 (ck_S1 p5y3_1512_s ck_S0) ck_E0) ck_X0 ck_l0 p5y3_1513_e
set_option maxRecDepth 100000 in
def p5y3_1514 : ck_Sum := ((2, 0, 0), 245, [.inr (.inr (.inl 226)), .inl (ck_one 195)], ([], [], [(234, 195, 195, ck_one 1)]), ([(226, 0, 0)], []), [(.inr (some (.inl (ck_one 1))), 245, ([], [], [(226, 0, 0, ck_one 0)]))])
set_option maxRecDepth 100000 in
theorem p5y3_1514_e : ck_ok p1_O none [] [(286, [p5y3_1513]), (283, [p5y3_147])] 285 [] 98 p5y3_1514 = true := by decide +kernel
theorem p5y3_1514_s {X : Int → Int} {LX : Nat} : ck_Ok p1_O X LX 285 p5y3_1514 := ck_ok_s (ck_E1 (ck_S1 p5y3_1513_s ck_S0) (ck_E1 (ck_S1 p5y3_147_s ck_S0) ck_E0)) ck_X0 ck_l0 p5y3_1514_e
set_option maxRecDepth 100000 in
def p5y3_1519 : ck_Sum := ((0, 0, 0), 245, [.inl (ck_one 196), .inl (ck_one 0), .inl (ck_one 299)], ([], [], []), ([], []), [(.inr (some (.inl (ck_one 1))), 245, ([], [], []))])
set_option maxRecDepth 100000 in
theorem p5y3_1519_e : ck_ok p1_O none [] [] 287 [] 88 p5y3_1519 = true := by decide +kernel
theorem p5y3_1519_s {X : Int → Int} {LX : Nat} : ck_Ok p1_O X LX 287 p5y3_1519 := ck_ok_s (ck_E0) ck_X0 ck_l0 p5y3_1519_e
set_option maxRecDepth 100000 in
def p5y3_1520 : ck_Sum := ((1, 0, 0), 245, [.inl (ck_one 196)], ([], [], []), ([], []), [(.inr (some (.inl (ck_one 0))), 245, ([], [], []))])
set_option maxRecDepth 100000 in
theorem p5y3_1520_e : ck_ok p1_O none [] [(287, [p5y3_1519])] 286 [] 84 p5y3_1520 = true := by decide +kernel
theorem p5y3_1520_s {X : Int → Int} {LX : Nat} : ck_Ok p1_O X LX 286 p5y3_1520 := ck_ok_s (ck_E1 (ck_S1 p5y3_1519_s ck_S0) ck_E0) ck_X0 ck_l0 p5y3_1520_e
set_option maxRecDepth 100000 in
def p5y3_1521 : ck_Sum := ((2, 0, 0), 245, [.inr (.inr (.inl 226)), .inl (ck_one 196)], ([], [], [(234, 196, 196, ck_one 1)]), ([(226, 0, 0)], []), [(.inr (some (.inl (ck_one 1))), 245, ([], [], [(226, 0, 0, ck_one 0)]))])
set_option maxRecDepth 100000 in
theorem p5y3_1521_e : ck_ok p1_O none [] [(286, [p5y3_1520]), (283, [p5y3_147])] 285 [] 98 p5y3_1521 = true := by decide +kernel
theorem p5y3_1521_s {X : Int → Int} {LX : Nat} : ck_Ok p1_O X LX 285 p5y3_1521 := ck_ok_s (ck_E1 (ck_S1 p5y3_1520_s ck_S0) (ck_E1 (ck_S1 p5y3_147_s ck_S0) ck_E0)) ck_X0 ck_l0 p5y3_1521_e
set_option maxRecDepth 100000 in
def p5y3_1526 : ck_Sum := ((0, 0, 0), 245, [.inl (ck_one 197), .inl (ck_one 0), .inl (ck_one 299)], ([], [], []), ([], []), [(.inr (some (.inl (ck_one 1))), 245, ([], [], []))])
set_option maxRecDepth 100000 in
theorem p5y3_1526_e : ck_ok p1_O none [] [] 287 [] 88 p5y3_1526 = true := by decide +kernel
theorem p5y3_1526_s {X : Int → Int} {LX : Nat} : ck_Ok p1_O X LX 287 p5y3_1526 := ck_ok_s (ck_E0) ck_X0 ck_l0 p5y3_1526_e
set_option maxRecDepth 100000 in
def p5y3_1527 : ck_Sum := ((1, 0, 0), 245, [.inl (ck_one 197)], ([], [], []), ([], []), [(.inr (some (.inl (ck_one 0))), 245, ([], [], []))])
set_option maxRecDepth 100000 in
theorem p5y3_1527_e : ck_ok p1_O none [] [(287, [p5y3_1526])] 286 [] 84 p5y3_1527 = true := by decide +kernel
theorem p5y3_1527_s {X : Int → Int} {LX : Nat} : ck_Ok p1_O X LX 286 p5y3_1527 := ck_ok_s (ck_E1 (ck_S1 p5y3_1526_s ck_S0) ck_E0) ck_X0 ck_l0 p5y3_1527_e
set_option maxRecDepth 100000 in
def p5y3_1528 : ck_Sum := ((2, 0, 0), 245, [.inr (.inr (.inl 226)), .inl (ck_one 197)], ([], [], [(234, 197, 197, ck_one 6)]), ([(226, 0, 0)], []), [(.inr (some (.inl (ck_one 6))), 245, ([], [], [(226, 0, 0, ck_one 0)]))])
set_option maxRecDepth 100000 in
theorem p5y3_1528_e : ck_ok p1_O none [] [(286, [p5y3_1527]), (283, [p5y3_147])] 285 [] 98 p5y3_1528 = true := by decide +kernel
theorem p5y3_1528_s {X : Int → Int} {LX : Nat} : ck_Ok p1_O X LX 285 p5y3_1528 := ck_ok_s (ck_E1 (ck_S1 p5y3_1527_s ck_S0) (ck_E1 (ck_S1 p5y3_147_s ck_S0) ck_E0)) ck_X0 ck_l0 p5y3_1528_e
set_option maxRecDepth 100000 in
def p5y3_1533 : ck_Sum := ((0, 0, 0), 245, [.inl (ck_one 198), .inl (ck_one 0), .inl (ck_one 299)], ([], [], []), ([], []), [(.inr (some (.inl (ck_one 1))), 245, ([], [], []))])
set_option maxRecDepth 100000 in
theorem p5y3_1533_e : ck_ok p1_O none [] [] 287 [] 88 p5y3_1533 = true := by decide +kernel
theorem p5y3_1533_s {X : Int → Int} {LX : Nat} : ck_Ok p1_O X LX 287 p5y3_1533 := ck_ok_s (ck_E0) ck_X0 ck_l0 p5y3_1533_e
set_option maxRecDepth 100000 in
def p5y3_1534 : ck_Sum := ((1, 0, 0), 245, [.inl (ck_one 198)], ([], [], []), ([], []), [(.inr (some (.inl (ck_one 0))), 245, ([], [], []))])
set_option maxRecDepth 100000 in
theorem p5y3_1534_e : ck_ok p1_O none [] [(287, [p5y3_1533])] 286 [] 84 p5y3_1534 = true := by decide +kernel
theorem p5y3_1534_s {X : Int → Int} {LX : Nat} : ck_Ok p1_O X LX 286 p5y3_1534 := ck_ok_s (ck_E1 (ck_S1 p5y3_1533_s ck_S0) ck_E0) ck_X0 ck_l0 p5y3_1534_e
set_option maxRecDepth 100000 in
def p5y3_1535 : ck_Sum := ((2, 0, 0), 245, [.inr (.inr (.inl 226)), .inl (ck_one 198)], ([], [], [(234, 198, 198, ck_one 5)]), ([(226, 0, 0)], []), [(.inr (some (.inl (ck_one 5))), 245, ([], [], [(226, 0, 0, ck_one 0)]))])
set_option maxRecDepth 100000 in
theorem p5y3_1535_e : ck_ok p1_O none [] [(286, [p5y3_1534]), (283, [p5y3_147])] 285 [] 98 p5y3_1535 = true := by decide +kernel
theorem p5y3_1535_s {X : Int → Int} {LX : Nat} : ck_Ok p1_O X LX 285 p5y3_1535 := ck_ok_s (ck_E1 (ck_S1 p5y3_1534_s ck_S0) (ck_E1 (ck_S1 p5y3_147_s ck_S0) ck_E0)) ck_X0 ck_l0 p5y3_1535_e
set_option maxRecDepth 100000 in
def p5y3_1540 : ck_Sum := ((0, 0, 0), 245, [.inl (ck_one 199), .inl (ck_one 0), .inl (ck_one 299)], ([], [], []), ([], []), [(.inr (some (.inl (ck_one 1))), 245, ([], [], []))])
set_option maxRecDepth 100000 in
theorem p5y3_1540_e : ck_ok p1_O none [] [] 287 [] 88 p5y3_1540 = true := by decide +kernel
theorem p5y3_1540_s {X : Int → Int} {LX : Nat} : ck_Ok p1_O X LX 287 p5y3_1540 := ck_ok_s (ck_E0) ck_X0 ck_l0 p5y3_1540_e
set_option maxRecDepth 100000 in
def p5y3_1541 : ck_Sum := ((1, 0, 0), 245, [.inl (ck_one 199)], ([], [], []), ([], []), [(.inr (some (.inl (ck_one 0))), 245, ([], [], []))])
set_option maxRecDepth 100000 in
theorem p5y3_1541_e : ck_ok p1_O none [] [(287, [p5y3_1540])] 286 [] 84 p5y3_1541 = true := by decide +kernel
theorem p5y3_1541_s {X : Int → Int} {LX : Nat} : ck_Ok p1_O X LX 286 p5y3_1541 := ck_ok_s (ck_E1 (ck_S1 p5y3_1540_s ck_S0) ck_E0) ck_X0 ck_l0 p5y3_1541_e
set_option maxRecDepth 100000 in
def p5y3_1542 : ck_Sum := ((2, 0, 0), 245, [.inr (.inr (.inl 226)), .inl (ck_one 199)], ([], [], [(234, 199, 199, ck_one 6)]), ([(226, 0, 0)], []), [(.inr (some (.inl (ck_one 6))), 245, ([], [], [(226, 0, 0, ck_one 0)]))])
set_option maxRecDepth 100000 in
theorem p5y3_1542_e : ck_ok p1_O none [] [(286, [p5y3_1541]), (283, [p5y3_147])] 285 [] 98 p5y3_1542 = true := by decide +kernel
theorem p5y3_1542_s {X : Int → Int} {LX : Nat} : ck_Ok p1_O X LX 285 p5y3_1542 := ck_ok_s (ck_E1 (ck_S1 p5y3_1541_s ck_S0) (ck_E1 (ck_S1 p5y3_147_s ck_S0) ck_E0)) ck_X0 ck_l0 p5y3_1542_e
set_option maxRecDepth 100000 in
def p5y3_1547 : ck_Sum := ((0, 0, 0), 245, [.inl (ck_one 200), .inl (ck_one 0), .inl (ck_one 299)], ([], [], []), ([], []), [(.inr (some (.inl (ck_one 1))), 245, ([], [], []))])
set_option maxRecDepth 100000 in
theorem p5y3_1547_e : ck_ok p1_O none [] [] 287 [] 88 p5y3_1547 = true := by decide +kernel
theorem p5y3_1547_s {X : Int → Int} {LX : Nat} : ck_Ok p1_O X LX 287 p5y3_1547 := ck_ok_s (ck_E0) ck_X0 ck_l0 p5y3_1547_e
set_option maxRecDepth 100000 in
def p5y3_1548 : ck_Sum := ((1, 0, 0), 245, [.inl (ck_one 200)], ([], [], []), ([], []), [(.inr (some (.inl (ck_one 0))), 245, ([], [], []))])
set_option maxRecDepth 100000 in
theorem p5y3_1548_e : ck_ok p1_O none [] [(287, [p5y3_1547])] 286 [] 84 p5y3_1548 = true := by decide +kernel
theorem p5y3_1548_s {X : Int → Int} {LX : Nat} : ck_Ok p1_O X LX 286 p5y3_1548 := ck_ok_s (ck_E1 (ck_S1 p5y3_1547_s ck_S0) ck_E0) ck_X0 ck_l0 p5y3_1548_e
set_option maxRecDepth 100000 in
def p5y3_1549 : ck_Sum := ((2, 0, 0), 245, [.inr (.inr (.inl 226)), .inl (ck_one 200)], ([], [], [(234, 200, 200, ck_one 3)]), ([(226, 0, 0)], []), [(.inr (some (.inl (ck_one 3))), 245, ([], [], [(226, 0, 0, ck_one 0)]))])
set_option maxRecDepth 100000 in
theorem p5y3_1549_e : ck_ok p1_O none [] [(286, [p5y3_1548]), (283, [p5y3_147])] 285 [] 98 p5y3_1549 = true := by decide +kernel
theorem p5y3_1549_s {X : Int → Int} {LX : Nat} : ck_Ok p1_O X LX 285 p5y3_1549 := ck_ok_s (ck_E1 (ck_S1 p5y3_1548_s ck_S0) (ck_E1 (ck_S1 p5y3_147_s ck_S0) ck_E0)) ck_X0 ck_l0 p5y3_1549_e
set_option maxRecDepth 100000 in
def p5y3_1554 : ck_Sum := ((0, 0, 0), 245, [.inl (ck_one 201), .inl (ck_one 0), .inl (ck_one 299)], ([], [], []), ([], []), [(.inr (some (.inl (ck_one 1))), 245, ([], [], []))])
set_option maxRecDepth 100000 in
theorem p5y3_1554_e : ck_ok p1_O none [] [] 287 [] 88 p5y3_1554 = true := by decide +kernel
theorem p5y3_1554_s {X : Int → Int} {LX : Nat} : ck_Ok p1_O X LX 287 p5y3_1554 := ck_ok_s (ck_E0) ck_X0 ck_l0 p5y3_1554_e
set_option maxRecDepth 100000 in
def p5y3_1555 : ck_Sum := ((1, 0, 0), 245, [.inl (ck_one 201)], ([], [], []), ([], []), [(.inr (some (.inl (ck_one 0))), 245, ([], [], []))])
set_option maxRecDepth 100000 in
theorem p5y3_1555_e : ck_ok p1_O none [] [(287, [p5y3_1554])] 286 [] 84 p5y3_1555 = true := by decide +kernel
theorem p5y3_1555_s {X : Int → Int} {LX : Nat} : ck_Ok p1_O X LX 286 p5y3_1555 := ck_ok_s (ck_E1 (ck_S1 p5y3_1554_s ck_S0) ck_E0) ck_X0 ck_l0 p5y3_1555_e
set_option maxRecDepth 100000 in
def p5y3_1556 : ck_Sum := ((2, 0, 0), 245, [.inr (.inr (.inl 226)), .inl (ck_one 201)], ([], [], [(234, 201, 201, ck_one 0)]), ([(226, 0, 0)], []), [(.inr (some (.inl (ck_one 0))), 245, ([], [], [(226, 0, 0, ck_one 0)]))])
set_option maxRecDepth 100000 in
theorem p5y3_1556_e : ck_ok p1_O none [] [(286, [p5y3_1555]), (283, [p5y3_147])] 285 [] 98 p5y3_1556 = true := by decide +kernel
theorem p5y3_1556_s {X : Int → Int} {LX : Nat} : ck_Ok p1_O X LX 285 p5y3_1556 := ck_ok_s (ck_E1 (ck_S1 p5y3_1555_s ck_S0) (ck_E1 (ck_S1 p5y3_147_s ck_S0) ck_E0)) ck_X0 ck_l0 p5y3_1556_e
set_option maxRecDepth 100000 in
def p5y3_1561 : ck_Sum := ((0, 0, 0), 245, [.inl (ck_one 202), .inl (ck_one 0), .inl (ck_one 299)], ([], [], []), ([], []), [(.inr (some (.inl (ck_one 1))), 245, ([], [], []))])
set_option maxRecDepth 100000 in
theorem p5y3_1561_e : ck_ok p1_O none [] [] 287 [] 88 p5y3_1561 = true := by decide +kernel
theorem p5y3_1561_s {X : Int → Int} {LX : Nat} : ck_Ok p1_O X LX 287 p5y3_1561 := ck_ok_s (ck_E0) ck_X0 ck_l0 p5y3_1561_e
set_option maxRecDepth 100000 in
def p5y3_1562 : ck_Sum := ((1, 0, 0), 245, [.inl (ck_one 202)], ([], [], []), ([], []), [(.inr (some (.inl (ck_one 0))), 245, ([], [], []))])
set_option maxRecDepth 100000 in
theorem p5y3_1562_e : ck_ok p1_O none [] [(287, [p5y3_1561])] 286 [] 84 p5y3_1562 = true := by decide +kernel
theorem p5y3_1562_s {X : Int → Int} {LX : Nat} : ck_Ok p1_O X LX 286 p5y3_1562 := ck_ok_s (ck_E1 (ck_S1 p5y3_1561_s ck_S0) ck_E0) ck_X0 ck_l0 p5y3_1562_e
set_option maxRecDepth 100000 in
def p5y3_1563 : ck_Sum := ((2, 0, 0), 245, [.inr (.inr (.inl 226)), .inl (ck_one 202)], ([], [], [(234, 202, 202, ck_one 0)]), ([(226, 0, 0)], []), [(.inr (some (.inl (ck_one 0))), 245, ([], [], [(226, 0, 0, ck_one 0)]))])
set_option maxRecDepth 100000 in
theorem p5y3_1563_e : ck_ok p1_O none [] [(286, [p5y3_1562]), (283, [p5y3_147])] 285 [] 98 p5y3_1563 = true := by decide +kernel
theorem p5y3_1563_s {X : Int → Int} {LX : Nat} : ck_Ok p1_O X LX 285 p5y3_1563 := ck_ok_s (ck_E1 (ck_S1 p5y3_1562_s ck_S0) (ck_E1 (ck_S1 p5y3_147_s ck_S0) ck_E0)) ck_X0 ck_l0 p5y3_1563_e
set_option maxRecDepth 100000 in
def p5y3_149 : ck_Sum := ((0, 0, 0), 245, [.inr (.inr (.inl 226))], ([], [], [(226, 0, 0, ck_one 0)]), ([], []), [(.inr (some (.inl (ck_one 0))), 245, ([], [], []))])
set_option maxRecDepth 100000 in
theorem p5y3_149_e : ck_ok p1_O none [] [] 234 [] 76 p5y3_149 = true := by decide +kernel
theorem p5y3_149_s {X : Int → Int} {LX : Nat} : ck_Ok p1_O X LX 234 p5y3_149 := ck_ok_s (ck_E0) ck_X0 ck_l0 p5y3_149_e
set_option maxRecDepth 100000 in
def p5y3_F : ck_F := ([], [(3, 8, 0), (16, 8, 0), (29, 8, 0), (44, 8, 0), (57, 8, 0), (70, 8, 0), (83, 8, 0), (96, 8, 0), (109, 8, 0), (122, 8, 0), (135, 8, 0), (148, 8, 0), (161, 8, 0), (174, 8, 0), (187, 8, 0)], [(245, 0, 0, ck_one 0), (234, 202, 202, ck_one 0), (234, 201, 201, ck_one 0), (234, 200, 200, ck_one 3), (234, 199, 199, ck_one 6), (234, 198, 198, ck_one 5), (234, 197, 197, ck_one 6), (234, 196, 196, ck_one 1), (234, 195, 195, ck_one 1), (234, 194, 194, ck_one 3), (234, 193, 193, ck_one 9), (234, 192, 192, ck_one 4), (234, 191, 191, ck_one 5), (234, 190, 190, ck_one 3), (234, 189, 189, ck_one 8), (234, 188, 188, ck_one 5), (234, 187, 187, ck_one 6), (234, 186, 186, ck_one 1), (234, 185, 185, ck_one 9), (234, 184, 184, ck_one 3), (234, 183, 183, ck_one 5), (234, 182, 182, ck_one 8), (234, 181, 181, ck_one 4), (234, 180, 180, ck_one 2), (234, 179, 179, ck_one 3), (234, 178, 178, ck_one 1), (234, 177, 177, ck_one 8), (234, 176, 176, ck_one 2), (234, 175, 175, ck_one 7), (234, 174, 174, ck_one 1), (234, 173, 173, ck_one 7), (234, 172, 172, ck_one 3), (234, 171, 171, ck_one 6), (234, 170, 170, ck_one 8), (234, 169, 169, ck_one 8), (234, 168, 168, ck_one 6), (234, 167, 167, ck_one 6), (234, 166, 166, ck_one 6), (234, 165, 165, ck_one 1), (234, 164, 164, ck_one 6), (234, 163, 163, ck_one 8), (234, 162, 162, ck_one 3), (234, 161, 161, ck_one 7), (234, 160, 160, ck_one 9), (234, 159, 159, ck_one 7), (234, 158, 158, ck_one 3), (234, 157, 157, ck_one 1), (234, 156, 156, ck_one 3), (234, 155, 155, ck_one 6), (234, 154, 154, ck_one 5), (234, 153, 153, ck_one 9), (234, 152, 152, ck_one 3), (226, 0, 0, ck_one 0), (201, 202, 202, ck_one 0), (201, 201, 201, ck_one 0), (201, 200, 200, ck_one 3), (201, 199, 199, ck_one 6), (201, 198, 198, ck_one 5), (201, 197, 197, ck_one 6), (201, 196, 196, ck_one 1), (201, 195, 195, ck_one 1), (201, 194, 194, ck_one 3), (201, 193, 193, ck_one 9), (201, 192, 192, ck_one 4), (201, 191, 191, ck_one 5), (201, 190, 190, ck_one 3), (201, 189, 189, ck_one 8), (201, 188, 188, ck_one 5), (201, 187, 187, ck_one 6), (201, 186, 186, ck_one 1), (201, 185, 185, ck_one 9), (201, 184, 184, ck_one 3), (201, 183, 183, ck_one 5), (201, 182, 182, ck_one 8), (201, 181, 181, ck_one 4), (201, 180, 180, ck_one 2), (201, 179, 179, ck_one 3), (201, 178, 178, ck_one 1), (201, 177, 177, ck_one 8), (201, 176, 176, ck_one 2), (201, 175, 175, ck_one 7), (201, 174, 174, ck_one 1), (201, 173, 173, ck_one 7), (201, 172, 172, ck_one 3), (201, 171, 171, ck_one 6), (201, 170, 170, ck_one 8), (201, 169, 169, ck_one 8), (201, 168, 168, ck_one 6), (201, 167, 167, ck_one 6), (201, 166, 166, ck_one 6), (201, 165, 165, ck_one 1), (201, 164, 164, ck_one 6), (201, 163, 163, ck_one 8), (201, 162, 162, ck_one 3), (201, 161, 161, ck_one 7), (201, 160, 160, ck_one 9), (201, 159, 159, ck_one 7), (201, 158, 158, ck_one 3), (201, 157, 157, ck_one 1), (201, 156, 156, ck_one 3), (201, 155, 155, ck_one 6), (201, 154, 154, ck_one 5), (201, 153, 153, ck_one 9), (201, 152, 152, ck_one 3)])
def p5y3_E : List (Nat × List ck_Sum) := [(127, [p5y3_1210, p5y3_1217, p5y3_1224, p5y3_1231, p5y3_1238, p5y3_1245, p5y3_1252, p5y3_1259, p5y3_1266, p5y3_1273, p5y3_1280, p5y3_1287, p5y3_1294, p5y3_1301, p5y3_1308, p5y3_1315, p5y3_1322, p5y3_1329, p5y3_1336, p5y3_1343, p5y3_1350, p5y3_1357, p5y3_1364, p5y3_1371, p5y3_1378, p5y3_1385, p5y3_1392, p5y3_1399, p5y3_1406, p5y3_1413, p5y3_1420, p5y3_1427, p5y3_1434, p5y3_1441, p5y3_1448, p5y3_1455, p5y3_1462, p5y3_1469, p5y3_1476, p5y3_1483, p5y3_1490, p5y3_1497, p5y3_1504, p5y3_1511, p5y3_1518, p5y3_1525, p5y3_1532, p5y3_1539, p5y3_1546, p5y3_1553, p5y3_1560]), (285, [p5y3_1213, p5y3_1220, p5y3_1227, p5y3_1234, p5y3_1241, p5y3_1248, p5y3_1255, p5y3_1262, p5y3_1269, p5y3_1276, p5y3_1283, p5y3_1290, p5y3_1297, p5y3_1304, p5y3_1311, p5y3_1318, p5y3_1325, p5y3_1332, p5y3_1339, p5y3_1346, p5y3_1353, p5y3_1360, p5y3_1367, p5y3_1374, p5y3_1381, p5y3_1388, p5y3_1395, p5y3_1402, p5y3_1409, p5y3_1416, p5y3_1423, p5y3_1430, p5y3_1437, p5y3_1444, p5y3_1451, p5y3_1458, p5y3_1465, p5y3_1472, p5y3_1479, p5y3_1486, p5y3_1493, p5y3_1500, p5y3_1507, p5y3_1514, p5y3_1521, p5y3_1528, p5y3_1535, p5y3_1542, p5y3_1549, p5y3_1556, p5y3_1563]), (234, [p5y3_149])]
set_option maxRecDepth 100000 in
theorem p5y3_h {X : Int → Int} {LX : Nat} : ck_OkE p1_O X LX p5y3_E := ck_E1 (ck_S1 p5y3_1210_s (ck_S1 p5y3_1217_s (ck_S1 p5y3_1224_s (ck_S1 p5y3_1231_s (ck_S1 p5y3_1238_s (ck_S1 p5y3_1245_s (ck_S1 p5y3_1252_s (ck_S1 p5y3_1259_s (ck_S1 p5y3_1266_s (ck_S1 p5y3_1273_s (ck_S1 p5y3_1280_s (ck_S1 p5y3_1287_s (ck_S1 p5y3_1294_s (ck_S1 p5y3_1301_s (ck_S1 p5y3_1308_s (ck_S1 p5y3_1315_s (ck_S1 p5y3_1322_s (ck_S1 p5y3_1329_s (ck_S1 p5y3_1336_s (ck_S1 p5y3_1343_s (ck_S1 p5y3_1350_s (ck_S1 p5y3_1357_s (ck_S1 p5y3_1364_s (ck_S1 p5y3_1371_s (ck_S1 p5y3_1378_s (ck_S1 p5y3_1385_s (ck_S1 p5y3_1392_s (ck_S1 p5y3_1399_s (ck_S1 p5y3_1406_s (ck_S1 p5y3_1413_s (ck_S1 p5y3_1420_s (ck_S1 p5y3_1427_s (ck_S1 p5y3_1434_s (ck_S1 p5y3_1441_s (ck_S1 p5y3_1448_s (ck_S1 p5y3_1455_s (ck_S1 p5y3_1462_s (ck_S1 p5y3_1469_s (ck_S1 p5y3_1476_s (ck_S1 p5y3_1483_s (ck_S1 p5y3_1490_s (ck_S1 p5y3_1497_s (ck_S1 p5y3_1504_s (ck_S1 p5y3_1511_s (ck_S1 p5y3_1518_s (ck_S1 p5y3_1525_s (ck_S1 p5y3_1532_s (ck_S1 p5y3_1539_s (ck_S1 p5y3_1546_s (ck_S1 p5y3_1553_s (ck_S1 p5y3_1560_s ck_S0))))))))))))))))))))))))))))))))))))))))))))))))))) (ck_E1 (ck_S1 p5y3_1213_s (ck_S1 p5y3_1220_s (ck_S1 p5y3_1227_s (ck_S1 p5y3_1234_s (ck_S1 p5y3_1241_s (ck_S1 p5y3_1248_s (ck_S1 p5y3_1255_s (ck_S1 p5y3_1262_s (ck_S1 p5y3_1269_s (ck_S1 p5y3_1276_s (ck_S1 p5y3_1283_s (ck_S1 p5y3_1290_s (ck_S1 p5y3_1297_s (ck_S1 p5y3_1304_s (ck_S1 p5y3_1311_s (ck_S1 p5y3_1318_s (ck_S1 p5y3_1325_s (ck_S1 p5y3_1332_s (ck_S1 p5y3_1339_s (ck_S1 p5y3_1346_s (ck_S1 p5y3_1353_s (ck_S1 p5y3_1360_s (ck_S1 p5y3_1367_s (ck_S1 p5y3_1374_s (ck_S1 p5y3_1381_s (ck_S1 p5y3_1388_s (ck_S1 p5y3_1395_s (ck_S1 p5y3_1402_s (ck_S1 p5y3_1409_s (ck_S1 p5y3_1416_s (ck_S1 p5y3_1423_s (ck_S1 p5y3_1430_s (ck_S1 p5y3_1437_s (ck_S1 p5y3_1444_s (ck_S1 p5y3_1451_s (ck_S1 p5y3_1458_s (ck_S1 p5y3_1465_s (ck_S1 p5y3_1472_s (ck_S1 p5y3_1479_s (ck_S1 p5y3_1486_s (ck_S1 p5y3_1493_s (ck_S1 p5y3_1500_s (ck_S1 p5y3_1507_s (ck_S1 p5y3_1514_s (ck_S1 p5y3_1521_s (ck_S1 p5y3_1528_s (ck_S1 p5y3_1535_s (ck_S1 p5y3_1542_s (ck_S1 p5y3_1549_s (ck_S1 p5y3_1556_s (ck_S1 p5y3_1563_s ck_S0))))))))))))))))))))))))))))))))))))))))))))))))))) (ck_E1 (ck_S1 p5y3_149_s ck_S0) ck_E0))
set_option maxRecDepth 100000 in
theorem p5y3_b : (ck_prod ((1, [(152, 152), (153, 153), (154, 154), (155, 155), (156, 156), (157, 157), (158, 158), (159, 159), (160, 160), (161, 161), (162, 162), (163, 163), (164, 164), (165, 165), (166, 166), (167, 167), (168, 168), (169, 169), (170, 170), (171, 171), (172, 172), (173, 173), (174, 174), (175, 175), (176, 176), (177, 177), (178, 178), (179, 179), (180, 180), (181, 181), (182, 182), (183, 183), (184, 184), (185, 185), (186, 186), (187, 187), (188, 188), (189, 189), (190, 190), (191, 191), (192, 192), (193, 193), (194, 194), (195, 195), (196, 196), (197, 197), (198, 198), (199, 199), (200, 200), (201, 201), (202, 202)]) :: [])).all (fun xf => ck_go p1_O (some 6) xf p5y3_E 370 280 245 p1_W p1_outs [] 132 false [] 1000 2000 443 p1_L [] 245 p5y3_F) = true := by decide +kernel
theorem p5y3_s {X : Int → Int} {LX : Nat} (hLX : 6 = LX) (hX : ∀ j, gm_ir (X j)) (h1 : 152 ≤ X 1) (h2 : X 1 ≤ 202) {σ : Nat → Int} {L : gm_L} {K0 K : gm_K} {R0 R : gm_R} {M0 M : gm_M} (hS : ck_St p1_O σ p1_W 245 K0 R0 M0 p1_L [] p5y3_F L [] 245 K R M) : gm_Wp X LX 280 1000 2000 370 443 L [] 245 K R M (ck_Q p1_O σ p1_W 245 K0 R0 M0 p1_outs) := ck_boxesR p5y3_h hLX hX h1 h2 (by decide +kernel) (by decide +kernel) p5y3_b hS
