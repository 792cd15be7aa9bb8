/-! 78r86a03.sl -/
section
/-! EVERY CALL OF THE CLASS ENDS, under a law (laid by wip/am/p2l.py). -/
set_option maxRecDepth 100000 in
/-- GlacierMail$Rows.copyFrom -/
def pl_s271 : ck_Sum := ((1, 0, 0), 249, [.inr (.inr (.inl 84)), .inr (.inr (.inl 4))], ([], [], []), ([(84, 3, 3), (85, 0, 55)], []), [(.inr none, 249, ([], [], []))])
set_option maxRecDepth 100000 in
theorem pl_s271_e : ck_ok p2_OL none [] [] 58 [] 114 pl_s271 = true := by decide +kernel
theorem pl_s271_s {X : Int → Int} {LX : Nat} : ck_Ok p2_OL X LX 58 pl_s271 := ck_ok_s ⟨pl_nmu, ck_E0⟩ ck_X0 ck_l0 pl_s271_e
set_option maxRecDepth 100000 in
/-- GlacierMail$Rows.copyFrom -/
def pl_s272 : ck_Sum := ((1, 0, 0), 249, [.inr (.inr (.inl 86)), .inr (.inr (.inl 6))], ([], [], []), ([(86, 3, 3), (87, 0, 23)], []), [(.inr none, 249, ([], [], []))])
set_option maxRecDepth 100000 in
theorem pl_s272_e : ck_ok p2_OL none [] [] 58 [] 114 pl_s272 = true := by decide +kernel
theorem pl_s272_s {X : Int → Int} {LX : Nat} : ck_Ok p2_OL X LX 58 pl_s272 := ck_ok_s ⟨pl_nmu, ck_E0⟩ ck_X0 ck_l0 pl_s272_e
set_option maxRecDepth 100000 in
/-- GlacierMail$Rows.copyFrom -/
def pl_s273 : ck_Sum := ((1, 0, 0), 249, [.inr (.inr (.inl 88)), .inr (.inr (.inl 8))], ([], [], []), ([(88, 3, 3), (89, 0, 23)], []), [(.inr none, 249, ([], [], []))])
set_option maxRecDepth 100000 in
theorem pl_s273_e : ck_ok p2_OL none [] [] 58 [] 114 pl_s273 = true := by decide +kernel
theorem pl_s273_s {X : Int → Int} {LX : Nat} : ck_Ok p2_OL X LX 58 pl_s273 := ck_ok_s ⟨pl_nmu, ck_E0⟩ ck_X0 ck_l0 pl_s273_e
set_option maxRecDepth 100000 in
/-- GlacierMail$Rows.copyFrom -/
def pl_s274 : ck_Sum := ((1, 0, 0), 249, [.inr (.inr (.inl 90)), .inr (.inr (.inl 10))], ([], [], []), ([(90, 3, 3), (91, 0, 167)], []), [(.inr none, 249, ([], [], []))])
set_option maxRecDepth 100000 in
theorem pl_s274_e : ck_ok p2_OL none [] [] 58 [] 114 pl_s274 = true := by decide +kernel
theorem pl_s274_s {X : Int → Int} {LX : Nat} : ck_Ok p2_OL X LX 58 pl_s274 := ck_ok_s ⟨pl_nmu, ck_E0⟩ ck_X0 ck_l0 pl_s274_e
set_option maxRecDepth 100000 in
/-- GlacierMail$Rows.copyFrom -/
def pl_s275 : ck_Sum := ((1, 0, 0), 249, [.inr (.inr (.inl 92)), .inr (.inr (.inl 12))], ([], [], []), ([(92, 3, 3), (93, 0, 35)], []), [(.inr none, 249, ([], [], []))])
set_option maxRecDepth 100000 in
theorem pl_s275_e : ck_ok p2_OL none [] [] 58 [] 114 pl_s275 = true := by decide +kernel
theorem pl_s275_s {X : Int → Int} {LX : Nat} : ck_Ok p2_OL X LX 58 pl_s275 := ck_ok_s ⟨pl_nmu, ck_E0⟩ ck_X0 ck_l0 pl_s275_e
set_option maxRecDepth 100000 in
/-- GlacierMail$Rows.copyFrom -/
def pl_s276 : ck_Sum := ((1, 0, 0), 249, [.inr (.inr (.inl 94)), .inr (.inr (.inl 14))], ([], [], []), ([(94, 3, 3), (95, 0, 71)], []), [(.inr none, 249, ([], [], []))])
set_option maxRecDepth 100000 in
theorem pl_s276_e : ck_ok p2_OL none [] [] 58 [] 114 pl_s276 = true := by decide +kernel
theorem pl_s276_s {X : Int → Int} {LX : Nat} : ck_Ok p2_OL X LX 58 pl_s276 := ck_ok_s ⟨pl_nmu, ck_E0⟩ ck_X0 ck_l0 pl_s276_e
set_option maxRecDepth 100000 in
/-- GlacierMail$State.copyFrom -/
def pl_s277 : ck_Sum := ((2, 0, 0), 249, [.inr (.inr (.inl 83)), .inr (.inr (.inl 3))], ([], [(3, 8, 246), (83, 8, 100083)], [(3, 6, 6, (0, 299, [(10, 0)]))]), (zl92, [(83, 8)]), [(.inr none, 249, ([], [(83, 8, 246)], [(83, 6, 6, (0, 299, [(10, 0)]))]))])
set_option maxRecDepth 100000 in
theorem pl_s277_e : ck_ok p2_OL none [] [(58, [pl_s271, pl_s272, pl_s273, pl_s274, pl_s275, pl_s276])] 57 [] 204 pl_s277 = true := by decide +kernel
theorem pl_s277_s {X : Int → Int} {LX : Nat} : ck_Ok p2_OL X LX 57 pl_s277 := ck_ok_s ⟨pl_nmu, ck_E1 (ck_S1 pl_s271_s (ck_S1 pl_s272_s (ck_S1 pl_s273_s (ck_S1 pl_s274_s (ck_S1 pl_s275_s (ck_S1 pl_s276_s ck_S0)))))) ck_E0⟩ ck_X0 ck_l0 pl_s277_e
set_option maxRecDepth 100000 in
/-- GlacierMail$Rows.copyFrom -/
def pl_s278 : ck_Sum := ((1, 0, 0), 249, [.inr (.inr (.inl 97)), .inr (.inr (.inl 4))], ([], [], []), ([(97, 3, 3), (98, 0, 55)], []), [(.inr none, 249, ([], [], []))])
set_option maxRecDepth 100000 in
theorem pl_s278_e : ck_ok p2_OL none [] [] 58 [] 114 pl_s278 = true := by decide +kernel
theorem pl_s278_s {X : Int → Int} {LX : Nat} : ck_Ok p2_OL X LX 58 pl_s278 := ck_ok_s ⟨pl_nmu, ck_E0⟩ ck_X0 ck_l0 pl_s278_e
set_option maxRecDepth 100000 in
/-- GlacierMail$Rows.copyFrom -/
def pl_s279 : ck_Sum := ((1, 0, 0), 249, [.inr (.inr (.inl 99)), .inr (.inr (.inl 6))], ([], [], []), ([(99, 3, 3), (100, 0, 23)], []), [(.inr none, 249, ([], [], []))])
set_option maxRecDepth 100000 in
theorem pl_s279_e : ck_ok p2_OL none [] [] 58 [] 114 pl_s279 = true := by decide +kernel
theorem pl_s279_s {X : Int → Int} {LX : Nat} : ck_Ok p2_OL X LX 58 pl_s279 := ck_ok_s ⟨pl_nmu, ck_E0⟩ ck_X0 ck_l0 pl_s279_e
set_option maxRecDepth 100000 in
/-- GlacierMail$Rows.copyFrom -/
def pl_s280 : ck_Sum := ((1, 0, 0), 249, [.inr (.inr (.inl 101)), .inr (.inr (.inl 8))], ([], [], []), ([(101, 3, 3), (102, 0, 23)], []), [(.inr none, 249, ([], [], []))])
set_option maxRecDepth 100000 in
theorem pl_s280_e : ck_ok p2_OL none [] [] 58 [] 114 pl_s280 = true := by decide +kernel
theorem pl_s280_s {X : Int → Int} {LX : Nat} : ck_Ok p2_OL X LX 58 pl_s280 := ck_ok_s ⟨pl_nmu, ck_E0⟩ ck_X0 ck_l0 pl_s280_e
set_option maxRecDepth 100000 in
/-- GlacierMail$Rows.copyFrom -/
def pl_s281 : ck_Sum := ((1, 0, 0), 249, [.inr (.inr (.inl 103)), .inr (.inr (.inl 10))], ([], [], []), ([(103, 3, 3), (104, 0, 167)], []), [(.inr none, 249, ([], [], []))])
set_option maxRecDepth 100000 in
theorem pl_s281_e : ck_ok p2_OL none [] [] 58 [] 114 pl_s281 = true := by decide +kernel
theorem pl_s281_s {X : Int → Int} {LX : Nat} : ck_Ok p2_OL X LX 58 pl_s281 := ck_ok_s ⟨pl_nmu, ck_E0⟩ ck_X0 ck_l0 pl_s281_e
set_option maxRecDepth 100000 in
/-- GlacierMail$Rows.copyFrom -/
def pl_s282 : ck_Sum := ((1, 0, 0), 249, [.inr (.inr (.inl 105)), .inr (.inr (.inl 12))], ([], [], []), ([(105, 3, 3), (106, 0, 35)], []), [(.inr none, 249, ([], [], []))])
set_option maxRecDepth 100000 in
theorem pl_s282_e : ck_ok p2_OL none [] [] 58 [] 114 pl_s282 = true := by decide +kernel
theorem pl_s282_s {X : Int → Int} {LX : Nat} : ck_Ok p2_OL X LX 58 pl_s282 := ck_ok_s ⟨pl_nmu, ck_E0⟩ ck_X0 ck_l0 pl_s282_e
set_option maxRecDepth 100000 in
/-- GlacierMail$Rows.copyFrom -/
def pl_s283 : ck_Sum := ((1, 0, 0), 249, [.inr (.inr (.inl 107)), .inr (.inr (.inl 14))], ([], [], []), ([(107, 3, 3), (108, 0, 71)], []), [(.inr none, 249, ([], [], []))])
set_option maxRecDepth 100000 in
theorem pl_s283_e : ck_ok p2_OL none [] [] 58 [] 114 pl_s283 = true := by decide +kernel
theorem pl_s283_s {X : Int → Int} {LX : Nat} : ck_Ok p2_OL X LX 58 pl_s283 := ck_ok_s ⟨pl_nmu, ck_E0⟩ ck_X0 ck_l0 pl_s283_e
set_option maxRecDepth 100000 in
/-- GlacierMail$State.copyFrom -/
def pl_s284 : ck_Sum := ((2, 0, 0), 249, [.inr (.inr (.inl 96)), .inr (.inr (.inl 3))], ([], [(3, 8, 246), (96, 8, 100096)], [(3, 6, 6, (0, 299, [(10, 0)]))]), (zl93, [(96, 8)]), [(.inr none, 249, ([], [(96, 8, 246)], [(96, 6, 6, (0, 299, [(10, 0)]))]))])
set_option maxRecDepth 100000 in
theorem pl_s284_e : ck_ok p2_OL none [] [(58, [pl_s278, pl_s279, pl_s280, pl_s281, pl_s282, pl_s283])] 57 [] 204 pl_s284 = true := by decide +kernel
theorem pl_s284_s {X : Int → Int} {LX : Nat} : ck_Ok p2_OL X LX 57 pl_s284 := ck_ok_s ⟨pl_nmu, ck_E1 (ck_S1 pl_s278_s (ck_S1 pl_s279_s (ck_S1 pl_s280_s (ck_S1 pl_s281_s (ck_S1 pl_s282_s (ck_S1 pl_s283_s ck_S0)))))) ck_E0⟩ ck_X0 ck_l0 pl_s284_e
set_option maxRecDepth 100000 in
/-- GlacierMail$Rows.copyFrom -/
def pl_s285 : ck_Sum := ((1, 0, 0), 249, [.inr (.inr (.inl 110)), .inr (.inr (.inl 4))], ([], [], []), ([(110, 3, 3), (111, 0, 55)], []), [(.inr none, 249, ([], [], []))])
set_option maxRecDepth 100000 in
theorem pl_s285_e : ck_ok p2_OL none [] [] 58 [] 114 pl_s285 = true := by decide +kernel
theorem pl_s285_s {X : Int → Int} {LX : Nat} : ck_Ok p2_OL X LX 58 pl_s285 := ck_ok_s ⟨pl_nmu, ck_E0⟩ ck_X0 ck_l0 pl_s285_e
set_option maxRecDepth 100000 in
/-- GlacierMail$Rows.copyFrom -/
def pl_s286 : ck_Sum := ((1, 0, 0), 249, [.inr (.inr (.inl 112)), .inr (.inr (.inl 6))], ([], [], []), ([(112, 3, 3), (113, 0, 23)], []), [(.inr none, 249, ([], [], []))])
set_option maxRecDepth 100000 in
theorem pl_s286_e : ck_ok p2_OL none [] [] 58 [] 114 pl_s286 = true := by decide +kernel
theorem pl_s286_s {X : Int → Int} {LX : Nat} : ck_Ok p2_OL X LX 58 pl_s286 := ck_ok_s ⟨pl_nmu, ck_E0⟩ ck_X0 ck_l0 pl_s286_e
set_option maxRecDepth 100000 in
/-- GlacierMail$Rows.copyFrom -/
def pl_s287 : ck_Sum := ((1, 0, 0), 249, [.inr (.inr (.inl 114)), .inr (.inr (.inl 8))], ([], [], []), ([(114, 3, 3), (115, 0, 23)], []), [(.inr none, 249, ([], [], []))])
set_option maxRecDepth 100000 in
theorem pl_s287_e : ck_ok p2_OL none [] [] 58 [] 114 pl_s287 = true := by decide +kernel
theorem pl_s287_s {X : Int → Int} {LX : Nat} : ck_Ok p2_OL X LX 58 pl_s287 := ck_ok_s ⟨pl_nmu, ck_E0⟩ ck_X0 ck_l0 pl_s287_e
set_option maxRecDepth 100000 in
/-- GlacierMail$Rows.copyFrom -/
def pl_s288 : ck_Sum := ((1, 0, 0), 249, [.inr (.inr (.inl 116)), .inr (.inr (.inl 10))], ([], [], []), ([(116, 3, 3), (117, 0, 167)], []), [(.inr none, 249, ([], [], []))])
set_option maxRecDepth 100000 in
theorem pl_s288_e : ck_ok p2_OL none [] [] 58 [] 114 pl_s288 = true := by decide +kernel
theorem pl_s288_s {X : Int → Int} {LX : Nat} : ck_Ok p2_OL X LX 58 pl_s288 := ck_ok_s ⟨pl_nmu, ck_E0⟩ ck_X0 ck_l0 pl_s288_e
set_option maxRecDepth 100000 in
/-- GlacierMail$Rows.copyFrom -/
def pl_s289 : ck_Sum := ((1, 0, 0), 249, [.inr (.inr (.inl 118)), .inr (.inr (.inl 12))], ([], [], []), ([(118, 3, 3), (119, 0, 35)], []), [(.inr none, 249, ([], [], []))])
set_option maxRecDepth 100000 in
theorem pl_s289_e : ck_ok p2_OL none [] [] 58 [] 114 pl_s289 = true := by decide +kernel
theorem pl_s289_s {X : Int → Int} {LX : Nat} : ck_Ok p2_OL X LX 58 pl_s289 := ck_ok_s ⟨pl_nmu, ck_E0⟩ ck_X0 ck_l0 pl_s289_e
set_option maxRecDepth 100000 in
/-- GlacierMail$Rows.copyFrom -/
def pl_s290 : ck_Sum := ((1, 0, 0), 249, [.inr (.inr (.inl 120)), .inr (.inr (.inl 14))], ([], [], []), ([(120, 3, 3), (121, 0, 71)], []), [(.inr none, 249, ([], [], []))])
set_option maxRecDepth 100000 in
theorem pl_s290_e : ck_ok p2_OL none [] [] 58 [] 114 pl_s290 = true := by decide +kernel
theorem pl_s290_s {X : Int → Int} {LX : Nat} : ck_Ok p2_OL X LX 58 pl_s290 := ck_ok_s ⟨pl_nmu, ck_E0⟩ ck_X0 ck_l0 pl_s290_e
set_option maxRecDepth 100000 in
/-- GlacierMail$State.copyFrom -/
def pl_s291 : ck_Sum := ((2, 0, 0), 249, [.inr (.inr (.inl 109)), .inr (.inr (.inl 3))], ([], [(3, 8, 246), (109, 8, 100109)], [(3, 6, 6, (0, 299, [(10, 0)]))]), (zl94, [(109, 8)]), [(.inr none, 249, ([], [(109, 8, 246)], [(109, 6, 6, (0, 299, [(10, 0)]))]))])
set_option maxRecDepth 100000 in
theorem pl_s291_e : ck_ok p2_OL none [] [(58, [pl_s285, pl_s286, pl_s287, pl_s288, pl_s289, pl_s290])] 57 [] 204 pl_s291 = true := by decide +kernel
theorem pl_s291_s {X : Int → Int} {LX : Nat} : ck_Ok p2_OL X LX 57 pl_s291 := ck_ok_s ⟨pl_nmu, ck_E1 (ck_S1 pl_s285_s (ck_S1 pl_s286_s (ck_S1 pl_s287_s (ck_S1 pl_s288_s (ck_S1 pl_s289_s (ck_S1 pl_s290_s ck_S0)))))) ck_E0⟩ ck_X0 ck_l0 pl_s291_e
set_option maxRecDepth 100000 in
/-- GlacierMail$Rows.copyFrom -/
def pl_s292 : ck_Sum := ((1, 0, 0), 249, [.inr (.inr (.inl 123)), .inr (.inr (.inl 4))], ([], [], []), ([(123, 3, 3), (124, 0, 55)], []), [(.inr none, 249, ([], [], []))])
set_option maxRecDepth 100000 in
theorem pl_s292_e : ck_ok p2_OL none [] [] 58 [] 114 pl_s292 = true := by decide +kernel
theorem pl_s292_s {X : Int → Int} {LX : Nat} : ck_Ok p2_OL X LX 58 pl_s292 := ck_ok_s ⟨pl_nmu, ck_E0⟩ ck_X0 ck_l0 pl_s292_e
set_option maxRecDepth 100000 in
/-- GlacierMail$Rows.copyFrom -/
def pl_s293 : ck_Sum := ((1, 0, 0), 249, [.inr (.inr (.inl 125)), .inr (.inr (.inl 6))], ([], [], []), ([(125, 3, 3), (126, 0, 23)], []), [(.inr none, 249, ([], [], []))])
set_option maxRecDepth 100000 in
theorem pl_s293_e : ck_ok p2_OL none [] [] 58 [] 114 pl_s293 = true := by decide +kernel
theorem pl_s293_s {X : Int → Int} {LX : Nat} : ck_Ok p2_OL X LX 58 pl_s293 := ck_ok_s ⟨pl_nmu, ck_E0⟩ ck_X0 ck_l0 pl_s293_e
set_option maxRecDepth 100000 in
/-- GlacierMail$Rows.copyFrom -/
def pl_s294 : ck_Sum := ((1, 0, 0), 249, [.inr (.inr (.inl 127)), .inr (.inr (.inl 8))], ([], [], []), ([(127, 3, 3), (128, 0, 23)], []), [(.inr none, 249, ([], [], []))])
set_option maxRecDepth 100000 in
theorem pl_s294_e : ck_ok p2_OL none [] [] 58 [] 114 pl_s294 = true := by decide +kernel
theorem pl_s294_s {X : Int → Int} {LX : Nat} : ck_Ok p2_OL X LX 58 pl_s294 := ck_ok_s ⟨pl_nmu, ck_E0⟩ ck_X0 ck_l0 pl_s294_e
set_option maxRecDepth 100000 in
/-- GlacierMail$Rows.copyFrom -/
def pl_s295 : ck_Sum := ((1, 0, 0), 249, [.inr (.inr (.inl 129)), .inr (.inr (.inl 10))], ([], [], []), ([(129, 3, 3), (130, 0, 167)], []), [(.inr none, 249, ([], [], []))])
set_option maxRecDepth 100000 in
theorem pl_s295_e : ck_ok p2_OL none [] [] 58 [] 114 pl_s295 = true := by decide +kernel
theorem pl_s295_s {X : Int → Int} {LX : Nat} : ck_Ok p2_OL X LX 58 pl_s295 := ck_ok_s ⟨pl_nmu, ck_E0⟩ ck_X0 ck_l0 pl_s295_e
set_option maxRecDepth 100000 in
/-- GlacierMail$Rows.copyFrom -/
def pl_s296 : ck_Sum := ((1, 0, 0), 249, [.inr (.inr (.inl 131)), .inr (.inr (.inl 12))], ([], [], []), ([(131, 3, 3), (132, 0, 35)], []), [(.inr none, 249, ([], [], []))])
set_option maxRecDepth 100000 in
theorem pl_s296_e : ck_ok p2_OL none [] [] 58 [] 114 pl_s296 = true := by decide +kernel
theorem pl_s296_s {X : Int → Int} {LX : Nat} : ck_Ok p2_OL X LX 58 pl_s296 := ck_ok_s ⟨pl_nmu, ck_E0⟩ ck_X0 ck_l0 pl_s296_e
set_option maxRecDepth 100000 in
/-- GlacierMail$Rows.copyFrom -/
def pl_s297 : ck_Sum := ((1, 0, 0), 249, [.inr (.inr (.inl 133)), .inr (.inr (.inl 14))], ([], [], []), ([(133, 3, 3), (134, 0, 71)], []), [(.inr none, 249, ([], [], []))])
set_option maxRecDepth 100000 in
theorem pl_s297_e : ck_ok p2_OL none [] [] 58 [] 114 pl_s297 = true := by decide +kernel
theorem pl_s297_s {X : Int → Int} {LX : Nat} : ck_Ok p2_OL X LX 58 pl_s297 := ck_ok_s ⟨pl_nmu, ck_E0⟩ ck_X0 ck_l0 pl_s297_e
set_option maxRecDepth 100000 in
/-- GlacierMail$State.copyFrom -/
def pl_s298 : ck_Sum := ((2, 0, 0), 249, [.inr (.inr (.inl 122)), .inr (.inr (.inl 3))], ([], [(3, 8, 246), (122, 8, 100122)], [(3, 6, 6, (0, 299, [(10, 0)]))]), (zl95, [(122, 8)]), [(.inr none, 249, ([], [(122, 8, 246)], [(122, 6, 6, (0, 299, [(10, 0)]))]))])
set_option maxRecDepth 100000 in
theorem pl_s298_e : ck_ok p2_OL none [] [(58, [pl_s292, pl_s293, pl_s294, pl_s295, pl_s296, pl_s297])] 57 [] 204 pl_s298 = true := by decide +kernel
theorem pl_s298_s {X : Int → Int} {LX : Nat} : ck_Ok p2_OL X LX 57 pl_s298 := ck_ok_s ⟨pl_nmu, ck_E1 (ck_S1 pl_s292_s (ck_S1 pl_s293_s (ck_S1 pl_s294_s (ck_S1 pl_s295_s (ck_S1 pl_s296_s (ck_S1 pl_s297_s ck_S0)))))) ck_E0⟩ ck_X0 ck_l0 pl_s298_e
set_option maxRecDepth 100000 in
/-- GlacierMail$Rows.copyFrom -/
def pl_s299 : ck_Sum := ((1, 0, 0), 249, [.inr (.inr (.inl 136)), .inr (.inr (.inl 4))], ([], [], []), ([(136, 3, 3), (137, 0, 55)], []), [(.inr none, 249, ([], [], []))])
set_option maxRecDepth 100000 in
theorem pl_s299_e : ck_ok p2_OL none [] [] 58 [] 114 pl_s299 = true := by decide +kernel
theorem pl_s299_s {X : Int → Int} {LX : Nat} : ck_Ok p2_OL X LX 58 pl_s299 := ck_ok_s ⟨pl_nmu, ck_E0⟩ ck_X0 ck_l0 pl_s299_e
set_option maxRecDepth 100000 in
/-- GlacierMail$Rows.copyFrom -/
def pl_s300 : ck_Sum := ((1, 0, 0), 249, [.inr (.inr (.inl 138)), .inr (.inr (.inl 6))], ([], [], []), ([(138, 3, 3), (139, 0, 23)], []), [(.inr none, 249, ([], [], []))])
set_option maxRecDepth 100000 in
theorem pl_s300_e : ck_ok p2_OL none [] [] 58 [] 114 pl_s300 = true := by decide +kernel
theorem pl_s300_s {X : Int → Int} {LX : Nat} : ck_Ok p2_OL X LX 58 pl_s300 := ck_ok_s ⟨pl_nmu, ck_E0⟩ ck_X0 ck_l0 pl_s300_e
set_option maxRecDepth 100000 in
/-- GlacierMail$Rows.copyFrom -/
def pl_s301 : ck_Sum := ((1, 0, 0), 249, [.inr (.inr (.inl 140)), .inr (.inr (.inl 8))], ([], [], []), ([(140, 3, 3), (141, 0, 23)], []), [(.inr none, 249, ([], [], []))])
set_option maxRecDepth 100000 in
theorem pl_s301_e : ck_ok p2_OL none [] [] 58 [] 114 pl_s301 = true := by decide +kernel
theorem pl_s301_s {X : Int → Int} {LX : Nat} : ck_Ok p2_OL X LX 58 pl_s301 := ck_ok_s ⟨pl_nmu, ck_E0⟩ ck_X0 ck_l0 pl_s301_e
set_option maxRecDepth 100000 in
/-- GlacierMail$Rows.copyFrom -/
def pl_s302 : ck_Sum := ((1, 0, 0), 249, [.inr (.inr (.inl 142)), .inr (.inr (.inl 10))], ([], [], []), ([(142, 3, 3), (143, 0, 167)], []), [(.inr none, 249, ([], [], []))])
set_option maxRecDepth 100000 in
theorem pl_s302_e : ck_ok p2_OL none [] [] 58 [] 114 pl_s302 = true := by decide +kernel
theorem pl_s302_s {X : Int → Int} {LX : Nat} : ck_Ok p2_OL X LX 58 pl_s302 := ck_ok_s ⟨pl_nmu, ck_E0⟩ ck_X0 ck_l0 pl_s302_e
set_option maxRecDepth 100000 in
/-- GlacierMail$Rows.copyFrom -/
def pl_s303 : ck_Sum := ((1, 0, 0), 249, [.inr (.inr (.inl 144)), .inr (.inr (.inl 12))], ([], [], []), ([(144, 3, 3), (145, 0, 35)], []), [(.inr none, 249, ([], [], []))])
set_option maxRecDepth 100000 in
theorem pl_s303_e : ck_ok p2_OL none [] [] 58 [] 114 pl_s303 = true := by decide +kernel
theorem pl_s303_s {X : Int → Int} {LX : Nat} : ck_Ok p2_OL X LX 58 pl_s303 := ck_ok_s ⟨pl_nmu, ck_E0⟩ ck_X0 ck_l0 pl_s303_e
set_option maxRecDepth 100000 in
/-- GlacierMail$Rows.copyFrom -/
def pl_s304 : ck_Sum := ((1, 0, 0), 249, [.inr (.inr (.inl 146)), .inr (.inr (.inl 14))], ([], [], []), ([(146, 3, 3), (147, 0, 71)], []), [(.inr none, 249, ([], [], []))])
set_option maxRecDepth 100000 in
theorem pl_s304_e : ck_ok p2_OL none [] [] 58 [] 114 pl_s304 = true := by decide +kernel
theorem pl_s304_s {X : Int → Int} {LX : Nat} : ck_Ok p2_OL X LX 58 pl_s304 := ck_ok_s ⟨pl_nmu, ck_E0⟩ ck_X0 ck_l0 pl_s304_e
set_option maxRecDepth 100000 in
/-- GlacierMail$State.copyFrom -/
def pl_s305 : ck_Sum := ((2, 0, 0), 249, [.inr (.inr (.inl 135)), .inr (.inr (.inl 3))], ([], [(3, 8, 246), (135, 8, 100135)], [(3, 6, 6, (0, 299, [(10, 0)]))]), (zl96, [(135, 8)]), [(.inr none, 249, ([], [(135, 8, 246)], [(135, 6, 6, (0, 299, [(10, 0)]))]))])
set_option maxRecDepth 100000 in
theorem pl_s305_e : ck_ok p2_OL none [] [(58, [pl_s299, pl_s300, pl_s301, pl_s302, pl_s303, pl_s304])] 57 [] 204 pl_s305 = true := by decide +kernel
theorem pl_s305_s {X : Int → Int} {LX : Nat} : ck_Ok p2_OL X LX 57 pl_s305 := ck_ok_s ⟨pl_nmu, ck_E1 (ck_S1 pl_s299_s (ck_S1 pl_s300_s (ck_S1 pl_s301_s (ck_S1 pl_s302_s (ck_S1 pl_s303_s (ck_S1 pl_s304_s ck_S0)))))) ck_E0⟩ ck_X0 ck_l0 pl_s305_e
set_option maxRecDepth 100000 in
/-- GlacierMail$Rows.copyFrom -/
def pl_s306 : ck_Sum := ((1, 0, 0), 249, [.inr (.inr (.inl 149)), .inr (.inr (.inl 4))], ([], [], []), ([(149, 3, 3), (150, 0, 55)], []), [(.inr none, 249, ([], [], []))])
set_option maxRecDepth 100000 in
theorem pl_s306_e : ck_ok p2_OL none [] [] 58 [] 114 pl_s306 = true := by decide +kernel
theorem pl_s306_s {X : Int → Int} {LX : Nat} : ck_Ok p2_OL X LX 58 pl_s306 := ck_ok_s ⟨pl_nmu, ck_E0⟩ ck_X0 ck_l0 pl_s306_e
set_option maxRecDepth 100000 in
/-- GlacierMail$Rows.copyFrom -/
def pl_s307 : ck_Sum := ((1, 0, 0), 249, [.inr (.inr (.inl 151)), .inr (.inr (.inl 6))], ([], [], []), ([(151, 3, 3), (152, 0, 23)], []), [(.inr none, 249, ([], [], []))])
set_option maxRecDepth 100000 in
theorem pl_s307_e : ck_ok p2_OL none [] [] 58 [] 114 pl_s307 = true := by decide +kernel
theorem pl_s307_s {X : Int → Int} {LX : Nat} : ck_Ok p2_OL X LX 58 pl_s307 := ck_ok_s ⟨pl_nmu, ck_E0⟩ ck_X0 ck_l0 pl_s307_e
set_option maxRecDepth 100000 in
/-- GlacierMail$Rows.copyFrom -/
def pl_s308 : ck_Sum := ((1, 0, 0), 249, [.inr (.inr (.inl 153)), .inr (.inr (.inl 8))], ([], [], []), ([(153, 3, 3), (154, 0, 23)], []), [(.inr none, 249, ([], [], []))])
set_option maxRecDepth 100000 in
theorem pl_s308_e : ck_ok p2_OL none [] [] 58 [] 114 pl_s308 = true := by decide +kernel
theorem pl_s308_s {X : Int → Int} {LX : Nat} : ck_Ok p2_OL X LX 58 pl_s308 := ck_ok_s ⟨pl_nmu, ck_E0⟩ ck_X0 ck_l0 pl_s308_e
set_option maxRecDepth 100000 in
/-- GlacierMail$Rows.copyFrom -/
def pl_s309 : ck_Sum := ((1, 0, 0), 249, [.inr (.inr (.inl 155)), .inr (.inr (.inl 10))], ([], [], []), ([(155, 3, 3), (156, 0, 167)], []), [(.inr none, 249, ([], [], []))])
set_option maxRecDepth 100000 in
theorem pl_s309_e : ck_ok p2_OL none [] [] 58 [] 114 pl_s309 = true := by decide +kernel
theorem pl_s309_s {X : Int → Int} {LX : Nat} : ck_Ok p2_OL X LX 58 pl_s309 := ck_ok_s ⟨pl_nmu, ck_E0⟩ ck_X0 ck_l0 pl_s309_e
set_option maxRecDepth 100000 in
/-- GlacierMail$Rows.copyFrom -/
def pl_s310 : ck_Sum := ((1, 0, 0), 249, [.inr (.inr (.inl 157)), .inr (.inr (.inl 12))], ([], [], []), ([(157, 3, 3), (158, 0, 35)], []), [(.inr none, 249, ([], [], []))])
set_option maxRecDepth 100000 in
theorem pl_s310_e : ck_ok p2_OL none [] [] 58 [] 114 pl_s310 = true := by decide +kernel
theorem pl_s310_s {X : Int → Int} {LX : Nat} : ck_Ok p2_OL X LX 58 pl_s310 := ck_ok_s ⟨pl_nmu, ck_E0⟩ ck_X0 ck_l0 pl_s310_e
set_option maxRecDepth 100000 in
/-- GlacierMail$Rows.copyFrom -/
def pl_s311 : ck_Sum := ((1, 0, 0), 249, [.inr (.inr (.inl 159)), .inr (.inr (.inl 14))], ([], [], []), ([(159, 3, 3), (160, 0, 71)], []), [(.inr none, 249, ([], [], []))])
set_option maxRecDepth 100000 in
theorem pl_s311_e : ck_ok p2_OL none [] [] 58 [] 114 pl_s311 = true := by decide +kernel
theorem pl_s311_s {X : Int → Int} {LX : Nat} : ck_Ok p2_OL X LX 58 pl_s311 := ck_ok_s ⟨pl_nmu, ck_E0⟩ ck_X0 ck_l0 pl_s311_e
set_option maxRecDepth 100000 in
/-- GlacierMail$State.copyFrom -/
def pl_s312 : ck_Sum := ((2, 0, 0), 249, [.inr (.inr (.inl 148)), .inr (.inr (.inl 3))], ([], [(3, 8, 246), (148, 8, 100148)], [(3, 6, 6, (0, 299, [(10, 0)]))]), (zl97, [(148, 8)]), [(.inr none, 249, ([], [(148, 8, 246)], [(148, 6, 6, (0, 299, [(10, 0)]))]))])
set_option maxRecDepth 100000 in
theorem pl_s312_e : ck_ok p2_OL none [] [(58, [pl_s306, pl_s307, pl_s308, pl_s309, pl_s310, pl_s311])] 57 [] 204 pl_s312 = true := by decide +kernel
theorem pl_s312_s {X : Int → Int} {LX : Nat} : ck_Ok p2_OL X LX 57 pl_s312 := ck_ok_s ⟨pl_nmu, ck_E1 (ck_S1 pl_s306_s (ck_S1 pl_s307_s (ck_S1 pl_s308_s (ck_S1 pl_s309_s (ck_S1 pl_s310_s (ck_S1 pl_s311_s ck_S0)))))) ck_E0⟩ ck_X0 ck_l0 pl_s312_e
set_option maxRecDepth 100000 in
/-- GlacierMail$Rows.copyFrom -/
def pl_s313 : ck_Sum := ((1, 0, 0), 249, [.inr (.inr (.inl 162)), .inr (.inr (.inl 4))], ([], [], []), ([(162, 3, 3), (163, 0, 55)], []), [(.inr none, 249, ([], [], []))])
set_option maxRecDepth 100000 in
theorem pl_s313_e : ck_ok p2_OL none [] [] 58 [] 114 pl_s313 = true := by decide +kernel
theorem pl_s313_s {X : Int → Int} {LX : Nat} : ck_Ok p2_OL X LX 58 pl_s313 := ck_ok_s ⟨pl_nmu, ck_E0⟩ ck_X0 ck_l0 pl_s313_e
set_option maxRecDepth 100000 in
/-- GlacierMail$Rows.copyFrom -/
def pl_s314 : ck_Sum := ((1, 0, 0), 249, [.inr (.inr (.inl 164)), .inr (.inr (.inl 6))], ([], [], []), ([(164, 3, 3), (165, 0, 23)], []), [(.inr none, 249, ([], [], []))])
set_option maxRecDepth 100000 in
theorem pl_s314_e : ck_ok p2_OL none [] [] 58 [] 114 pl_s314 = true := by decide +kernel
theorem pl_s314_s {X : Int → Int} {LX : Nat} : ck_Ok p2_OL X LX 58 pl_s314 := ck_ok_s ⟨pl_nmu, ck_E0⟩ ck_X0 ck_l0 pl_s314_e
set_option maxRecDepth 100000 in
/-- GlacierMail$Rows.copyFrom -/
def pl_s315 : ck_Sum := ((1, 0, 0), 249, [.inr (.inr (.inl 166)), .inr (.inr (.inl 8))], ([], [], []), ([(166, 3, 3), (167, 0, 23)], []), [(.inr none, 249, ([], [], []))])
set_option maxRecDepth 100000 in
theorem pl_s315_e : ck_ok p2_OL none [] [] 58 [] 114 pl_s315 = true := by decide +kernel
theorem pl_s315_s {X : Int → Int} {LX : Nat} : ck_Ok p2_OL X LX 58 pl_s315 := ck_ok_s ⟨pl_nmu, ck_E0⟩ ck_X0 ck_l0 pl_s315_e
set_option maxRecDepth 100000 in
/-- GlacierMail$Rows.copyFrom -/
def pl_s316 : ck_Sum := ((1, 0, 0), 249, [.inr (.inr (.inl 168)), .inr (.inr (.inl 10))], ([], [], []), ([(168, 3, 3), (169, 0, 167)], []), [(.inr none, 249, ([], [], []))])
set_option maxRecDepth 100000 in
theorem pl_s316_e : ck_ok p2_OL none [] [] 58 [] 114 pl_s316 = true := by decide +kernel
theorem pl_s316_s {X : Int → Int} {LX : Nat} : ck_Ok p2_OL X LX 58 pl_s316 := ck_ok_s ⟨pl_nmu, ck_E0⟩ ck_X0 ck_l0 pl_s316_e
set_option maxRecDepth 100000 in
/-- GlacierMail$Rows.copyFrom -/
def pl_s317 : ck_Sum := ((1, 0, 0), 249, [.inr (.inr (.inl 170)), .inr (.inr (.inl 12))], ([], [], []), ([(170, 3, 3), (171, 0, 35)], []), [(.inr none, 249, ([], [], []))])
set_option maxRecDepth 100000 in
theorem pl_s317_e : ck_ok p2_OL none [] [] 58 [] 114 pl_s317 = true := by decide +kernel
theorem pl_s317_s {X : Int → Int} {LX : Nat} : ck_Ok p2_OL X LX 58 pl_s317 := ck_ok_s ⟨pl_nmu, ck_E0⟩ ck_X0 ck_l0 pl_s317_e
set_option maxRecDepth 100000 in
/-- GlacierMail$Rows.copyFrom -/
def pl_s318 : ck_Sum := ((1, 0, 0), 249, [.inr (.inr (.inl 172)), .inr (.inr (.inl 14))], ([], [], []), ([(172, 3, 3), (173, 0, 71)], []), [(.inr none, 249, ([], [], []))])
set_option maxRecDepth 100000 in
theorem pl_s318_e : ck_ok p2_OL none [] [] 58 [] 114 pl_s318 = true := by decide +kernel
theorem pl_s318_s {X : Int → Int} {LX : Nat} : ck_Ok p2_OL X LX 58 pl_s318 := ck_ok_s ⟨pl_nmu, ck_E0⟩ ck_X0 ck_l0 pl_s318_e
set_option maxRecDepth 100000 in
/-- GlacierMail$State.copyFrom -/
def pl_s319 : ck_Sum := ((2, 0, 0), 249, [.inr (.inr (.inl 161)), .inr (.inr (.inl 3))], ([], [(3, 8, 246), (161, 8, 100161)], [(3, 6, 6, (0, 299, [(10, 0)]))]), (zl98, [(161, 8)]), [(.inr none, 249, ([], [(161, 8, 246)], [(161, 6, 6, (0, 299, [(10, 0)]))]))])
set_option maxRecDepth 100000 in
theorem pl_s319_e : ck_ok p2_OL none [] [(58, [pl_s313, pl_s314, pl_s315, pl_s316, pl_s317, pl_s318])] 57 [] 204 pl_s319 = true := by decide +kernel
theorem pl_s319_s {X : Int → Int} {LX : Nat} : ck_Ok p2_OL X LX 57 pl_s319 := ck_ok_s ⟨pl_nmu, ck_E1 (ck_S1 pl_s313_s (ck_S1 pl_s314_s (ck_S1 pl_s315_s (ck_S1 pl_s316_s (ck_S1 pl_s317_s (ck_S1 pl_s318_s ck_S0)))))) ck_E0⟩ ck_X0 ck_l0 pl_s319_e
set_option maxRecDepth 100000 in
/-- GlacierMail$Rows.copyFrom -/
def pl_s320 : ck_Sum := ((1, 0, 0), 249, [.inr (.inr (.inl 175)), .inr (.inr (.inl 4))], ([], [], []), ([(175, 3, 3), (176, 0, 55)], []), [(.inr none, 249, ([], [], []))])
set_option maxRecDepth 100000 in
theorem pl_s320_e : ck_ok p2_OL none [] [] 58 [] 114 pl_s320 = true := by decide +kernel
theorem pl_s320_s {X : Int → Int} {LX : Nat} : ck_Ok p2_OL X LX 58 pl_s320 := ck_ok_s ⟨pl_nmu, ck_E0⟩ ck_X0 ck_l0 pl_s320_e
set_option maxRecDepth 100000 in
/-- GlacierMail$Rows.copyFrom -/
def pl_s321 : ck_Sum := ((1, 0, 0), 249, [.inr (.inr (.inl 177)), .inr (.inr (.inl 6))], ([], [], []), ([(177, 3, 3), (178, 0, 23)], []), [(.inr none, 249, ([], [], []))])
set_option maxRecDepth 100000 in
theorem pl_s321_e : ck_ok p2_OL none [] [] 58 [] 114 pl_s321 = true := by decide +kernel
theorem pl_s321_s {X : Int → Int} {LX : Nat} : ck_Ok p2_OL X LX 58 pl_s321 := ck_ok_s ⟨pl_nmu, ck_E0⟩ ck_X0 ck_l0 pl_s321_e
set_option maxRecDepth 100000 in
/-- GlacierMail$Rows.copyFrom -/
def pl_s322 : ck_Sum := ((1, 0, 0), 249, [.inr (.inr (.inl 179)), .inr (.inr (.inl 8))], ([], [], []), ([(179, 3, 3), (180, 0, 23)], []), [(.inr none, 249, ([], [], []))])
set_option maxRecDepth 100000 in
theorem pl_s322_e : ck_ok p2_OL none [] [] 58 [] 114 pl_s322 = true := by decide +kernel
theorem pl_s322_s {X : Int → Int} {LX : Nat} : ck_Ok p2_OL X LX 58 pl_s322 := ck_ok_s ⟨pl_nmu, ck_E0⟩ ck_X0 ck_l0 pl_s322_e
set_option maxRecDepth 100000 in
/-- GlacierMail$Rows.copyFrom -/
def pl_s323 : ck_Sum := ((1, 0, 0), 249, [.inr (.inr (.inl 181)), .inr (.inr (.inl 10))], ([], [], []), ([(181, 3, 3), (182, 0, 167)], []), [(.inr none, 249, ([], [], []))])
set_option maxRecDepth 100000 in
theorem pl_s323_e : ck_ok p2_OL none [] [] 58 [] 114 pl_s323 = true := by decide +kernel
theorem pl_s323_s {X : Int → Int} {LX : Nat} : ck_Ok p2_OL X LX 58 pl_s323 := ck_ok_s ⟨pl_nmu, ck_E0⟩ ck_X0 ck_l0 pl_s323_e
set_option maxRecDepth 100000 in
/-- GlacierMail$Rows.copyFrom -/
def pl_s324 : ck_Sum := ((1, 0, 0), 249, [.inr (.inr (.inl 183)), .inr (.inr (.inl 12))], ([], [], []), ([(183, 3, 3), (184, 0, 35)], []), [(.inr none, 249, ([], [], []))])
set_option maxRecDepth 100000 in
theorem pl_s324_e : ck_ok p2_OL none [] [] 58 [] 114 pl_s324 = true := by decide +kernel
theorem pl_s324_s {X : Int → Int} {LX : Nat} : ck_Ok p2_OL X LX 58 pl_s324 := ck_ok_s ⟨pl_nmu, ck_E0⟩ ck_X0 ck_l0 pl_s324_e
set_option maxRecDepth 100000 in
/-- GlacierMail$Rows.copyFrom -/
def pl_s325 : ck_Sum := ((1, 0, 0), 249, [.inr (.inr (.inl 185)), .inr (.inr (.inl 14))], ([], [], []), ([(185, 3, 3), (186, 0, 71)], []), [(.inr none, 249, ([], [], []))])
set_option maxRecDepth 100000 in
theorem pl_s325_e : ck_ok p2_OL none [] [] 58 [] 114 pl_s325 = true := by decide +kernel
theorem pl_s325_s {X : Int → Int} {LX : Nat} : ck_Ok p2_OL X LX 58 pl_s325 := ck_ok_s ⟨pl_nmu, ck_E0⟩ ck_X0 ck_l0 pl_s325_e
set_option maxRecDepth 100000 in
/-- GlacierMail$State.copyFrom -/
def pl_s326 : ck_Sum := ((2, 0, 0), 249, [.inr (.inr (.inl 174)), .inr (.inr (.inl 3))], ([], [(3, 8, 246), (174, 8, 100174)], [(3, 6, 6, (0, 299, [(10, 0)]))]), (zl99, [(174, 8)]), [(.inr none, 249, ([], [(174, 8, 246)], [(174, 6, 6, (0, 299, [(10, 0)]))]))])
set_option maxRecDepth 100000 in
theorem pl_s326_e : ck_ok p2_OL none [] [(58, [pl_s320, pl_s321, pl_s322, pl_s323, pl_s324, pl_s325])] 57 [] 204 pl_s326 = true := by decide +kernel
theorem pl_s326_s {X : Int → Int} {LX : Nat} : ck_Ok p2_OL X LX 57 pl_s326 := ck_ok_s ⟨pl_nmu, ck_E1 (ck_S1 pl_s320_s (ck_S1 pl_s321_s (ck_S1 pl_s322_s (ck_S1 pl_s323_s (ck_S1 pl_s324_s (ck_S1 pl_s325_s ck_S0)))))) ck_E0⟩ ck_X0 ck_l0 pl_s326_e
set_option maxRecDepth 100000 in
/-- GlacierMail$Rows.copyFrom -/
def pl_s327 : ck_Sum := ((1, 0, 0), 249, [.inr (.inr (.inl 188)), .inr (.inr (.inl 4))], ([], [], []), ([(188, 3, 3), (189, 0, 55)], []), [(.inr none, 249, ([], [], []))])
set_option maxRecDepth 100000 in
theorem pl_s327_e : ck_ok p2_OL none [] [] 58 [] 114 pl_s327 = true := by decide +kernel
theorem pl_s327_s {X : Int → Int} {LX : Nat} : ck_Ok p2_OL X LX 58 pl_s327 := ck_ok_s ⟨pl_nmu, ck_E0⟩ ck_X0 ck_l0 pl_s327_e
set_option maxRecDepth 100000 in
/-- GlacierMail$Rows.copyFrom -/
def pl_s328 : ck_Sum := ((1, 0, 0), 249, [.inr (.inr (.inl 190)), .inr (.inr (.inl 6))], ([], [], []), ([(190, 3, 3), (191, 0, 23)], []), [(.inr none, 249, ([], [], []))])
set_option maxRecDepth 100000 in
theorem pl_s328_e : ck_ok p2_OL none [] [] 58 [] 114 pl_s328 = true := by decide +kernel
theorem pl_s328_s {X : Int → Int} {LX : Nat} : ck_Ok p2_OL X LX 58 pl_s328 := ck_ok_s ⟨pl_nmu, ck_E0⟩ ck_X0 ck_l0 pl_s328_e
set_option maxRecDepth 100000 in
/-- GlacierMail$Rows.copyFrom -/
def pl_s329 : ck_Sum := ((1, 0, 0), 249, [.inr (.inr (.inl 192)), .inr (.inr (.inl 8))], ([], [], []), ([(192, 3, 3), (193, 0, 23)], []), [(.inr none, 249, ([], [], []))])
set_option maxRecDepth 100000 in
theorem pl_s329_e : ck_ok p2_OL none [] [] 58 [] 114 pl_s329 = true := by decide +kernel
theorem pl_s329_s {X : Int → Int} {LX : Nat} : ck_Ok p2_OL X LX 58 pl_s329 := ck_ok_s ⟨pl_nmu, ck_E0⟩ ck_X0 ck_l0 pl_s329_e
set_option maxRecDepth 100000 in
/-- GlacierMail$Rows.copyFrom -/
def pl_s330 : ck_Sum := ((1, 0, 0), 249, [.inr (.inr (.inl 194)), .inr (.inr (.inl 10))], ([], [], []), ([(194, 3, 3), (195, 0, 167)], []), [(.inr none, 249, ([], [], []))])
set_option maxRecDepth 100000 in
theorem pl_s330_e : ck_ok p2_OL none [] [] 58 [] 114 pl_s330 = true := by decide +kernel
theorem pl_s330_s {X : Int → Int} {LX : Nat} : ck_Ok p2_OL X LX 58 pl_s330 := ck_ok_s ⟨pl_nmu, ck_E0⟩ ck_X0 ck_l0 pl_s330_e
set_option maxRecDepth 100000 in
/-- GlacierMail$Rows.copyFrom -/
def pl_s331 : ck_Sum := ((1, 0, 0), 249, [.inr (.inr (.inl 196)), .inr (.inr (.inl 12))], ([], [], []), ([(196, 3, 3), (197, 0, 35)], []), [(.inr none, 249, ([], [], []))])
set_option maxRecDepth 100000 in
theorem pl_s331_e : ck_ok p2_OL none [] [] 58 [] 114 pl_s331 = true := by decide +kernel
theorem pl_s331_s {X : Int → Int} {LX : Nat} : ck_Ok p2_OL X LX 58 pl_s331 := ck_ok_s ⟨pl_nmu, ck_E0⟩ ck_X0 ck_l0 pl_s331_e
set_option maxRecDepth 100000 in
/-- GlacierMail$Rows.copyFrom -/
def pl_s332 : ck_Sum := ((1, 0, 0), 249, [.inr (.inr (.inl 198)), .inr (.inr (.inl 14))], ([], [], []), ([(198, 3, 3), (199, 0, 71)], []), [(.inr none, 249, ([], [], []))])
set_option maxRecDepth 100000 in
theorem pl_s332_e : ck_ok p2_OL none [] [] 58 [] 114 pl_s332 = true := by decide +kernel
theorem pl_s332_s {X : Int → Int} {LX : Nat} : ck_Ok p2_OL X LX 58 pl_s332 := ck_ok_s ⟨pl_nmu, ck_E0⟩ ck_X0 ck_l0 pl_s332_e
set_option maxRecDepth 100000 in
/-- GlacierMail$State.copyFrom -/
def pl_s333 : ck_Sum := ((2, 0, 0), 249, [.inr (.inr (.inl 187)), .inr (.inr (.inl 3))], ([], [(3, 8, 246), (187, 8, 100187)], [(3, 6, 6, (0, 299, [(10, 0)]))]), (zl100, [(187, 8)]), [(.inr none, 249, ([], [(187, 8, 246)], [(187, 6, 6, (0, 299, [(10, 0)]))]))])
set_option maxRecDepth 100000 in
theorem pl_s333_e : ck_ok p2_OL none [] [(58, [pl_s327, pl_s328, pl_s329, pl_s330, pl_s331, pl_s332])] 57 [] 204 pl_s333 = true := by decide +kernel
theorem pl_s333_s {X : Int → Int} {LX : Nat} : ck_Ok p2_OL X LX 57 pl_s333 := ck_ok_s ⟨pl_nmu, ck_E1 (ck_S1 pl_s327_s (ck_S1 pl_s328_s (ck_S1 pl_s329_s (ck_S1 pl_s330_s (ck_S1 pl_s331_s (ck_S1 pl_s332_s ck_S0)))))) ck_E0⟩ ck_X0 ck_l0 pl_s333_e
set_option maxRecDepth 100000 in
/-- GlacierMail$Rows.copyFrom -/
def pl_s334 : ck_Sum := ((1, 0, 0), 249, [.inr (.inr (.inl 45)), .inr (.inr (.inl 4))], ([], [], []), ([(45, 3, 3), (46, 0, 55)], []), [(.inr none, 249, ([], [], []))])
set_option maxRecDepth 100000 in
theorem pl_s334_e : ck_ok p2_OL none [] [] 58 [] 114 pl_s334 = true := by decide +kernel
theorem pl_s334_s {X : Int → Int} {LX : Nat} : ck_Ok p2_OL X LX 58 pl_s334 := ck_ok_s ⟨pl_nmu, ck_E0⟩ ck_X0 ck_l0 pl_s334_e
set_option maxRecDepth 100000 in
/-- GlacierMail$Rows.copyFrom -/
def pl_s335 : ck_Sum := ((1, 0, 0), 249, [.inr (.inr (.inl 47)), .inr (.inr (.inl 6))], ([], [], []), ([(47, 3, 3), (48, 0, 23)], []), [(.inr none, 249, ([], [], []))])
set_option maxRecDepth 100000 in
theorem pl_s335_e : ck_ok p2_OL none [] [] 58 [] 114 pl_s335 = true := by decide +kernel
theorem pl_s335_s {X : Int → Int} {LX : Nat} : ck_Ok p2_OL X LX 58 pl_s335 := ck_ok_s ⟨pl_nmu, ck_E0⟩ ck_X0 ck_l0 pl_s335_e
set_option maxRecDepth 100000 in
/-- GlacierMail$Rows.copyFrom -/
def pl_s336 : ck_Sum := ((1, 0, 0), 249, [.inr (.inr (.inl 49)), .inr (.inr (.inl 8))], ([], [], []), ([(49, 3, 3), (50, 0, 23)], []), [(.inr none, 249, ([], [], []))])
set_option maxRecDepth 100000 in
theorem pl_s336_e : ck_ok p2_OL none [] [] 58 [] 114 pl_s336 = true := by decide +kernel
theorem pl_s336_s {X : Int → Int} {LX : Nat} : ck_Ok p2_OL X LX 58 pl_s336 := ck_ok_s ⟨pl_nmu, ck_E0⟩ ck_X0 ck_l0 pl_s336_e
set_option maxRecDepth 100000 in
/-- GlacierMail$Rows.copyFrom -/
def pl_s337 : ck_Sum := ((1, 0, 0), 249, [.inr (.inr (.inl 51)), .inr (.inr (.inl 10))], ([], [], []), ([(51, 3, 3), (52, 0, 167)], []), [(.inr none, 249, ([], [], []))])
set_option maxRecDepth 100000 in
theorem pl_s337_e : ck_ok p2_OL none [] [] 58 [] 114 pl_s337 = true := by decide +kernel
theorem pl_s337_s {X : Int → Int} {LX : Nat} : ck_Ok p2_OL X LX 58 pl_s337 := ck_ok_s ⟨pl_nmu, ck_E0⟩ ck_X0 ck_l0 pl_s337_e
set_option maxRecDepth 100000 in
/-- GlacierMail$Rows.copyFrom -/
def pl_s338 : ck_Sum := ((1, 0, 0), 249, [.inr (.inr (.inl 53)), .inr (.inr (.inl 12))], ([], [], []), ([(53, 3, 3), (54, 0, 35)], []), [(.inr none, 249, ([], [], []))])
set_option maxRecDepth 100000 in
theorem pl_s338_e : ck_ok p2_OL none [] [] 58 [] 114 pl_s338 = true := by decide +kernel
theorem pl_s338_s {X : Int → Int} {LX : Nat} : ck_Ok p2_OL X LX 58 pl_s338 := ck_ok_s ⟨pl_nmu, ck_E0⟩ ck_X0 ck_l0 pl_s338_e
set_option maxRecDepth 100000 in
/-- GlacierMail$Rows.copyFrom -/
def pl_s339 : ck_Sum := ((1, 0, 0), 249, [.inr (.inr (.inl 55)), .inr (.inr (.inl 14))], ([], [], []), ([(55, 3, 3), (56, 0, 71)], []), [(.inr none, 249, ([], [], []))])
set_option maxRecDepth 100000 in
theorem pl_s339_e : ck_ok p2_OL none [] [] 58 [] 114 pl_s339 = true := by decide +kernel
theorem pl_s339_s {X : Int → Int} {LX : Nat} : ck_Ok p2_OL X LX 58 pl_s339 := ck_ok_s ⟨pl_nmu, ck_E0⟩ ck_X0 ck_l0 pl_s339_e
set_option maxRecDepth 100000 in
/-- GlacierMail$State.copyFrom -/
def pl_s340 : ck_Sum := ((2, 0, 0), 249, [.inr (.inr (.inl 44)), .inr (.inr (.inl 3))], ([], [(3, 8, 246), (44, 8, 100044)], [(3, 6, 6, (0, 299, [(10, 0)]))]), (zl101, [(44, 8)]), [(.inr none, 249, ([], [(44, 8, 246)], [(44, 6, 6, (0, 299, [(10, 0)]))]))])
set_option maxRecDepth 100000 in
theorem pl_s340_e : ck_ok p2_OL none [] [(58, [pl_s334, pl_s335, pl_s336, pl_s337, pl_s338, pl_s339])] 57 [] 204 pl_s340 = true := by decide +kernel
theorem pl_s340_s {X : Int → Int} {LX : Nat} : ck_Ok p2_OL X LX 57 pl_s340 := ck_ok_s ⟨pl_nmu, ck_E1 (ck_S1 pl_s334_s (ck_S1 pl_s335_s (ck_S1 pl_s336_s (ck_S1 pl_s337_s (ck_S1 pl_s338_s (ck_S1 pl_s339_s ck_S0)))))) ck_E0⟩ ck_X0 ck_l0 pl_s340_e
set_option maxRecDepth 100000 in
/-- GlacierMail$History.remember -/
def pl_s341 : ck_Sum := ((3, 0, 0), 249, [.inr (.inr (.inl 42)), .inr (.inr (.inl 3))], ([], zl230, [(3, 6, 6, (0, 299, [(10, 0)]))]), (zl103, zl104), [(.inr none, 249, ([], zl105, zl106)), (.inr none, 249, ([], zl231, zl108)), (.inr none, 249, ([], zl232, zl110)), (.inr none, 249, ([], zl233, zl112)), (.inr none, 249, ([], zl234, zl114)), (.inr none, 249, ([], zl235, zl116)), (.inr none, 249, ([], zl236, zl118)), (.inr none, 249, ([], zl237, zl120)), (.inr none, 249, ([], zl238, zl122)), (.inr none, 249, ([], zl239, zl124)), (.inr none, 249, ([], zl240, zl126)), (.inr none, 249, ([], zl241, zl128)), (.inr none, 249, ([], zl242, zl130))])
set_option maxRecDepth 100000 in
theorem pl_s341_e : ck_ok p2_OL none [] [(56, [pl_s256]), (57, [pl_s263, pl_s270, pl_s277, pl_s284, pl_s291, pl_s298, pl_s305, pl_s312, pl_s319, pl_s326, pl_s333, pl_s340])] 154 [] 124 pl_s341 = true := by decide +kernel
theorem pl_s341_s {X : Int → Int} {LX : Nat} : ck_Ok p2_OL X LX 154 pl_s341 := ck_ok_s ⟨pl_nmu, ck_E1 (ck_S1 pl_s256_s ck_S0) (ck_E1 (ck_S1 pl_s263_s (ck_S1 pl_s270_s (ck_S1 pl_s277_s (ck_S1 pl_s284_s (ck_S1 pl_s291_s (ck_S1 pl_s298_s (ck_S1 pl_s305_s (ck_S1 pl_s312_s (ck_S1 pl_s319_s (ck_S1 pl_s326_s (ck_S1 pl_s333_s (ck_S1 pl_s340_s ck_S0)))))))))))) ck_E0)⟩ ck_X0 ck_l0 pl_s341_e
set_option maxRecDepth 100000 in
/-- GlacierMail$Rows.add -/
def pl_s342 : ck_Sum := ((0, 0, 0), 249, [.inr (.inr (.inl 10))], ([], [], []), ([(10, 3, 3)], []), zl243)
set_option maxRecDepth 100000 in
theorem pl_s342_e : ck_ok p2_OL none [] [] 102 [] 102 pl_s342 = true := by decide +kernel
theorem pl_s342_s {X : Int → Int} {LX : Nat} : ck_Ok p2_OL X LX 102 pl_s342 := ck_ok_s ⟨pl_nmu, ck_E0⟩ ck_X0 ck_l0 pl_s342_e
set_option maxRecDepth 100000 in
/-- GlacierMail$Rows.put -/
def pl_s343 : ck_Sum := ((0, 0, 0), 249, [.inr (.inr (.inl 10)), .inl (0, 23, []), .inl (ck_one 0), .inl (0, 7, [])], ([], [], []), (zl132, []), [(.inr none, 249, ([], [], []))])
set_option maxRecDepth 100000 in
theorem pl_s343_e : ck_ok p2_OL none [] [] 45 [] 116 pl_s343 = true := by decide +kernel
theorem pl_s343_s {X : Int → Int} {LX : Nat} : ck_Ok p2_OL X LX 45 pl_s343 := ck_ok_s ⟨pl_nmu, ck_E0⟩ ck_X0 ck_l0 pl_s343_e
set_option maxRecDepth 100000 in
/-- GlacierMail$Rows.put -/
def pl_s344 : ck_Sum := ((0, 0, 0), 249, [.inr (.inr (.inl 10)), .inl (0, 23, []), .inl (ck_one 1), .inl (0, 7, [])], ([], [], []), (zl133, []), [(.inr none, 249, ([], [], []))])
set_option maxRecDepth 100000 in
theorem pl_s344_e : ck_ok p2_OL none [] [] 45 [] 116 pl_s344 = true := by decide +kernel
theorem pl_s344_s {X : Int → Int} {LX : Nat} : ck_Ok p2_OL X LX 45 pl_s344 := ck_ok_s ⟨pl_nmu, ck_E0⟩ ck_X0 ck_l0 pl_s344_e
set_option maxRecDepth 100000 in
/-- GlacierMail$Rows.put -/
def pl_s345 : ck_Sum := ((0, 0, 0), 249, [.inr (.inr (.inl 10)), .inl (0, 23, []), .inl (ck_one 2), .inl ((-1), 98, [])], ([], [], []), (zl134, []), [(.inr none, 249, ([], [], []))])
set_option maxRecDepth 100000 in
theorem pl_s345_e : ck_ok p2_OL none [] [] 45 [] 116 pl_s345 = true := by decide +kernel
theorem pl_s345_s {X : Int → Int} {LX : Nat} : ck_Ok p2_OL X LX 45 pl_s345 := ck_ok_s ⟨pl_nmu, ck_E0⟩ ck_X0 ck_l0 pl_s345_e
set_option maxRecDepth 100000 in
/-- GlacierMail$Rows.put -/
def pl_s346 : ck_Sum := ((0, 0, 0), 249, [.inr (.inr (.inl 10)), .inl (0, 23, []), .inl (ck_one 3), .inl (0, 299, [])], ([], [], []), (zl135, []), [(.inr none, 249, ([], [], []))])
set_option maxRecDepth 100000 in
theorem pl_s346_e : ck_ok p2_OL none [] [] 45 [] 116 pl_s346 = true := by decide +kernel
theorem pl_s346_s {X : Int → Int} {LX : Nat} : ck_Ok p2_OL X LX 45 pl_s346 := ck_ok_s ⟨pl_nmu, ck_E0⟩ ck_X0 ck_l0 pl_s346_e
set_option maxRecDepth 100000 in
/-- GlacierMail$Rows.put -/
def pl_s347 : ck_Sum := ((0, 0, 0), 249, [.inr (.inr (.inl 10)), .inl (0, 23, []), .inl (ck_one 4), .inl ((-1), 98, [])], ([], [], []), (zl136, []), [(.inr none, 249, ([], [], []))])
set_option maxRecDepth 100000 in
theorem pl_s347_e : ck_ok p2_OL none [] [] 45 [] 116 pl_s347 = true := by decide +kernel
theorem pl_s347_s {X : Int → Int} {LX : Nat} : ck_Ok p2_OL X LX 45 pl_s347 := ck_ok_s ⟨pl_nmu, ck_E0⟩ ck_X0 ck_l0 pl_s347_e
set_option maxRecDepth 100000 in
/-- GlacierMail$Rows.put -/
def pl_s348 : ck_Sum := ((0, 0, 0), 249, [.inr (.inr (.inl 10)), .inl (0, 23, []), .inl (ck_one 5), .inl (ck_one (-1))], ([], [], []), (zl137, []), [(.inr none, 249, ([], [], []))])
set_option maxRecDepth 100000 in
theorem pl_s348_e : ck_ok p2_OL none [] [] 45 [] 116 pl_s348 = true := by decide +kernel
theorem pl_s348_s {X : Int → Int} {LX : Nat} : ck_Ok p2_OL X LX 45 pl_s348 := ck_ok_s ⟨pl_nmu, ck_E0⟩ ck_X0 ck_l0 pl_s348_e
set_option maxRecDepth 100000 in
/-- GlacierMail$Rows.put -/
def pl_s349 : ck_Sum := ((0, 0, 0), 249, [.inr (.inr (.inl 10)), .inl (0, 23, []), .inl (ck_one 6), .inl (ck_one (-1))], ([], [], []), (zl138, []), [(.inr none, 249, ([], [], []))])
set_option maxRecDepth 100000 in
theorem pl_s349_e : ck_ok p2_OL none [] [] 45 [] 116 pl_s349 = true := by decide +kernel
theorem pl_s349_s {X : Int → Int} {LX : Nat} : ck_Ok p2_OL X LX 45 pl_s349 := ck_ok_s ⟨pl_nmu, ck_E0⟩ ck_X0 ck_l0 pl_s349_e
set_option maxRecDepth 100000 in
/-- GlacierMail$Rows.put -/
def pl_s350 : ck_Sum := ((0, 0, 0), 249, [.inr (.inr (.inl 10)), .inl (ck_one (-1)), .inl (ck_one 0), .inl (0, 7, [])], ([], [], []), ([], []), [(.inr none, 249, ([], [], []))])
set_option maxRecDepth 100000 in
theorem pl_s350_e : ck_ok p2_OL none [] [] 45 [] 76 pl_s350 = true := by decide +kernel
theorem pl_s350_s {X : Int → Int} {LX : Nat} : ck_Ok p2_OL X LX 45 pl_s350 := ck_ok_s ⟨pl_nmu, ck_E0⟩ ck_X0 ck_l0 pl_s350_e
set_option maxRecDepth 100000 in
/-- GlacierMail$Rows.put -/
def pl_s351 : ck_Sum := ((0, 0, 0), 249, [.inr (.inr (.inl 10)), .inl (ck_one (-1)), .inl (ck_one 1), .inl (0, 7, [])], ([], [], []), ([], []), [(.inr none, 249, ([], [], []))])
set_option maxRecDepth 100000 in
theorem pl_s351_e : ck_ok p2_OL none [] [] 45 [] 76 pl_s351 = true := by decide +kernel
theorem pl_s351_s {X : Int → Int} {LX : Nat} : ck_Ok p2_OL X LX 45 pl_s351 := ck_ok_s ⟨pl_nmu, ck_E0⟩ ck_X0 ck_l0 pl_s351_e
set_option maxRecDepth 100000 in
/-- GlacierMail$Rows.put -/
def pl_s352 : ck_Sum := ((0, 0, 0), 249, [.inr (.inr (.inl 10)), .inl (ck_one (-1)), .inl (ck_one 2), .inl ((-1), 98, [])], ([], [], []), ([], []), [(.inr none, 249, ([], [], []))])
set_option maxRecDepth 100000 in
theorem pl_s352_e : ck_ok p2_OL none [] [] 45 [] 76 pl_s352 = true := by decide +kernel
theorem pl_s352_s {X : Int → Int} {LX : Nat} : ck_Ok p2_OL X LX 45 pl_s352 := ck_ok_s ⟨pl_nmu, ck_E0⟩ ck_X0 ck_l0 pl_s352_e
set_option maxRecDepth 100000 in
/-- GlacierMail$Rows.put -/
def pl_s353 : ck_Sum := ((0, 0, 0), 249, [.inr (.inr (.inl 10)), .inl (ck_one (-1)), .inl (ck_one 3), .inl (0, 299, [])], ([], [], []), ([], []), [(.inr none, 249, ([], [], []))])
set_option maxRecDepth 100000 in
theorem pl_s353_e : ck_ok p2_OL none [] [] 45 [] 76 pl_s353 = true := by decide +kernel
theorem pl_s353_s {X : Int → Int} {LX : Nat} : ck_Ok p2_OL X LX 45 pl_s353 := ck_ok_s ⟨pl_nmu, ck_E0⟩ ck_X0 ck_l0 pl_s353_e
set_option maxRecDepth 100000 in
/-- GlacierMail$Rows.put -/
def pl_s354 : ck_Sum := ((0, 0, 0), 249, [.inr (.inr (.inl 10)), .inl (ck_one (-1)), .inl (ck_one 4), .inl ((-1), 98, [])], ([], [], []), ([], []), [(.inr none, 249, ([], [], []))])
set_option maxRecDepth 100000 in
theorem pl_s354_e : ck_ok p2_OL none [] [] 45 [] 76 pl_s354 = true := by decide +kernel
theorem pl_s354_s {X : Int → Int} {LX : Nat} : ck_Ok p2_OL X LX 45 pl_s354 := ck_ok_s ⟨pl_nmu, ck_E0⟩ ck_X0 ck_l0 pl_s354_e
set_option maxRecDepth 100000 in
/-- GlacierMail$Rows.put -/
def pl_s355 : ck_Sum := ((0, 0, 0), 249, [.inr (.inr (.inl 10)), .inl (ck_one (-1)), .inl (ck_one 5), .inl (ck_one (-1))], ([], [], []), ([], []), [(.inr none, 249, ([], [], []))])
set_option maxRecDepth 100000 in
theorem pl_s355_e : ck_ok p2_OL none [] [] 45 [] 76 pl_s355 = true := by decide +kernel
theorem pl_s355_s {X : Int → Int} {LX : Nat} : ck_Ok p2_OL X LX 45 pl_s355 := ck_ok_s ⟨pl_nmu, ck_E0⟩ ck_X0 ck_l0 pl_s355_e
set_option maxRecDepth 100000 in
/-- GlacierMail$Rows.put -/
def pl_s356 : ck_Sum := ((0, 0, 0), 249, [.inr (.inr (.inl 10)), .inl (ck_one (-1)), .inl (ck_one 6), .inl (ck_one (-1))], ([], [], []), ([], []), [(.inr none, 249, ([], [], []))])
set_option maxRecDepth 100000 in
theorem pl_s356_e : ck_ok p2_OL none [] [] 45 [] 76 pl_s356 = true := by decide +kernel
theorem pl_s356_s {X : Int → Int} {LX : Nat} : ck_Ok p2_OL X LX 45 pl_s356 := ck_ok_s ⟨pl_nmu, ck_E0⟩ ck_X0 ck_l0 pl_s356_e
set_option maxRecDepth 100000 in
/-- GlacierMail$State.throwIn -/
def pl_s357 : ck_Sum := ((1, 0, 0), 249, [.inr (.inr (.inl 3)), .inl (0, 7, []), .inl (0, 7, []), .inl ((-1), 98, []), .inl ((-1), 98, [])], ([], [], [(3, 6, 6, (0, 299, [(10, 0)]))]), ([(10, 3, 3), (11, 0, 167)], []), zl243)
set_option maxRecDepth 100000 in
theorem pl_s357_e : ck_ok p2_OL none [] [(102, [pl_s342]), (45, [pl_s343, pl_s344, pl_s345, pl_s346, pl_s347, pl_s348, pl_s349, pl_s350, pl_s351, pl_s352, pl_s353, pl_s354, pl_s355, pl_s356])] 119 [] 168 pl_s357 = true := by decide +kernel
theorem pl_s357_s {X : Int → Int} {LX : Nat} : ck_Ok p2_OL X LX 119 pl_s357 := ck_ok_s ⟨pl_nmu, ck_E1 (ck_S1 pl_s342_s ck_S0) (ck_E1 (ck_S1 pl_s343_s (ck_S1 pl_s344_s (ck_S1 pl_s345_s (ck_S1 pl_s346_s (ck_S1 pl_s347_s (ck_S1 pl_s348_s (ck_S1 pl_s349_s (ck_S1 pl_s350_s (ck_S1 pl_s351_s (ck_S1 pl_s352_s (ck_S1 pl_s353_s (ck_S1 pl_s354_s (ck_S1 pl_s355_s (ck_S1 pl_s356_s ck_S0)))))))))))))) ck_E0)⟩ ck_X0 ck_l0 pl_s357_e
set_option maxRecDepth 100000 in
/-- GlacierMail.post -/
def pl_s358 : ck_Sum := ((8, 4, 24), 249, [.inr (.inr (.inl 1)), .inl (0, 7, []), .inl (0, 7, [])], ([], zl230, [(3, 6, 6, (0, 299, [(10, 0)]))]), (zl139, zl104), [(.inl 3, 249, ([], zl105, [])), (.inl 0, 249, ([], zl105, [])), (.inr (some (.inl (0, 23, []))), 249, ([], zl105, zl140)), (.inr (some (.inl (ck_one (-1)))), 249, ([], zl105, zl141)), (.inr (some (.inl (0, 23, []))), 249, ([], zl242, zl142)), (.inr (some (.inl (ck_one (-1)))), 249, ([], zl242, zl143)), (.inr (some (.inl (0, 23, []))), 249, ([], zl241, zl144)), (.inr (some (.inl (ck_one (-1)))), 249, ([], zl241, zl145)), (.inr (some (.inl (0, 23, []))), 249, ([], zl240, zl146)), (.inr (some (.inl (ck_one (-1)))), 249, ([], zl240, zl147)), (.inr (some (.inl (0, 23, []))), 249, ([], zl239, zl148)), (.inr (some (.inl (ck_one (-1)))), 249, ([], zl239, zl149)), (.inr (some (.inl (0, 23, []))), 249, ([], zl238, zl150)), (.inr (some (.inl (ck_one (-1)))), 249, ([], zl238, zl151)), (.inr (some (.inl (0, 23, []))), 249, ([], zl237, zl152)), (.inr (some (.inl (ck_one (-1)))), 249, ([], zl237, zl153)), (.inr (some (.inl (0, 23, []))), 249, ([], zl236, zl154)), (.inr (some (.inl (ck_one (-1)))), 249, ([], zl236, zl155)), (.inr (some (.inl (0, 23, []))), 249, ([], zl235, zl156)), (.inr (some (.inl (ck_one (-1)))), 249, ([], zl235, zl157)), (.inr (some (.inl (0, 23, []))), 249, ([], zl234, zl158)), (.inr (some (.inl (ck_one (-1)))), 249, ([], zl234, zl159)), (.inr (some (.inl (0, 23, []))), 249, ([], zl233, zl160)), (.inr (some (.inl (ck_one (-1)))), 249, ([], zl233, zl161)), (.inr (some (.inl (0, 23, []))), 249, ([], zl232, zl162)), (.inr (some (.inl (ck_one (-1)))), 249, ([], zl232, zl163)), (.inr (some (.inl (0, 23, []))), 249, ([], zl231, zl164)), (.inr (some (.inl (ck_one (-1)))), 249, ([], zl231, zl165)), (.inl 1, 249, ([], zl105, [(10, 3, 3, ck_one 24)]))])
set_option maxRecDepth 100000 in
theorem pl_s358_e : ck_ok p2_OL none [] [(139, [pl_s197]), (153, [pl_s254]), (108, [pl_s255]), (154, [pl_s341]), (10, [pl_s224]), (119, [pl_s357])] 152 [] 152 pl_s358 = true := by decide +kernel
theorem pl_s358_s {X : Int → Int} {LX : Nat} : ck_Ok p2_OL X LX 152 pl_s358 := ck_ok_s ⟨pl_nmu, ck_E1 (ck_S1 pl_s197_s ck_S0) (ck_E1 (ck_S1 pl_s254_s ck_S0) (ck_E1 (ck_S1 pl_s255_s ck_S0) (ck_E1 (ck_S1 pl_s341_s ck_S0) (ck_E1 (ck_S1 pl_s224_s ck_S0) (ck_E1 (ck_S1 pl_s357_s ck_S0) ck_E0)))))⟩ ck_X0 ck_l0 pl_s358_e
set_option maxRecDepth 100000 in
/-- GlacierMail.watch -/
def pl_s359 : ck_Sum := ((8, 1, 6), 249, [.inr (.inr (.inl 1)), .inl ((-2147483648), (-1), []), .inl ((-2147483648), 2147483647, [])], ([], [], []), ([], []), [(.inl 3, 249, ([], [], []))])
set_option maxRecDepth 100000 in
theorem pl_s359_e : ck_ok p2_OL none [] [(139, [pl_s191])] 156 [] 76 pl_s359 = true := by decide +kernel
theorem pl_s359_s {X : Int → Int} {LX : Nat} : ck_Ok p2_OL X LX 156 pl_s359 := ck_ok_s ⟨pl_nmu, ck_E1 (ck_S1 pl_s191_s ck_S0) ck_E0⟩ ck_X0 ck_l0 pl_s359_e
set_option maxRecDepth 100000 in
/-- GlacierMail.watch -/
def pl_s360 : ck_Sum := ((8, 1, 6), 249, [.inr (.inr (.inl 1)), .inl (8, 2147483647, []), .inl ((-2147483648), 2147483647, [])], ([], [], []), ([], []), [(.inl 3, 249, ([], [], []))])
set_option maxRecDepth 100000 in
theorem pl_s360_e : ck_ok p2_OL none [] [(139, [pl_s194])] 156 [] 76 pl_s360 = true := by decide +kernel
theorem pl_s360_s {X : Int → Int} {LX : Nat} : ck_Ok p2_OL X LX 156 pl_s360 := ck_ok_s ⟨pl_nmu, ck_E1 (ck_S1 pl_s194_s ck_S0) ck_E0⟩ ck_X0 ck_l0 pl_s360_e
end
/-! 78r86a04.sl -/
section
/-! EVERY CALL OF THE CLASS ENDS, under a law (laid by wip/am/p2l.py). -/
set_option maxRecDepth 100000 in
/-- GlacierMail$Rows.put -/
def pl_s361 : ck_Sum := ((0, 0, 0), 249, [.inr (.inr (.inl 8)), .inl (0, 7, []), .inl (ck_one 2), .inl (ck_one (-1))], ([], [], []), (zl166, []), [(.inr none, 249, ([], [], []))])
set_option maxRecDepth 100000 in
theorem pl_s361_e : ck_ok p2_OL none [] [] 45 [] 116 pl_s361 = true := by decide +kernel
theorem pl_s361_s {X : Int → Int} {LX : Nat} : ck_Ok p2_OL X LX 45 pl_s361 := ck_ok_s ⟨pl_nmu, ck_E0⟩ ck_X0 ck_l0 pl_s361_e
set_option maxRecDepth 100000 in
/-- GlacierMail.need -/
def pl_s362 : ck_Sum := ((6, 1, 6), 249, [.inr (.inr (.inl 1)), .inl ((-2147483648), (-2), []), .inl (1, 6, [])], ([], [], []), ([], []), [(.inl 3, 249, ([], [], []))])
set_option maxRecDepth 100000 in
theorem pl_s362_e : ck_ok p2_OL none [] [] 133 [] 76 pl_s362 = true := by decide +kernel
theorem pl_s362_s {X : Int → Int} {LX : Nat} : ck_Ok p2_OL X LX 133 pl_s362 := ck_ok_s ⟨pl_nmu, ck_E0⟩ ck_X0 ck_l0 pl_s362_e
set_option maxRecDepth 100000 in
/-- GlacierMail.needLane -/
def pl_s363 : ck_Sum := ((7, 1, 6), 249, [.inr (.inr (.inl 1)), .inl ((-2147483648), (-2), [])], ([], [], []), ([], []), [(.inl 3, 249, ([], [], []))])
set_option maxRecDepth 100000 in
theorem pl_s363_e : ck_ok p2_OL none [] [(133, [pl_s362])] 132 [] 82 pl_s363 = true := by decide +kernel
theorem pl_s363_s {X : Int → Int} {LX : Nat} : ck_Ok p2_OL X LX 132 pl_s363 := ck_ok_s ⟨pl_nmu, ck_E1 (ck_S1 pl_s362_s ck_S0) ck_E0⟩ ck_X0 ck_l0 pl_s363_e
set_option maxRecDepth 100000 in
/-- GlacierMail.watch -/
def pl_s364 : ck_Sum := ((8, 2, 12), 249, [.inr (.inr (.inl 1)), .inl (0, 7, []), .inl ((-2147483648), (-1), [])], ([], zl230, [(3, 6, 6, (0, 299, [(10, 0)]))]), (zl167, zl104), zl244)
set_option maxRecDepth 100000 in
theorem pl_s364_e : ck_ok p2_OL none [] [(139, [pl_s197]), (154, [pl_s341]), (10, [pl_s224]), (45, [pl_s361]), (132, [pl_s363])] 156 [] 124 pl_s364 = true := by decide +kernel
theorem pl_s364_s {X : Int → Int} {LX : Nat} : ck_Ok p2_OL X LX 156 pl_s364 := ck_ok_s ⟨pl_nmu, ck_E1 (ck_S1 pl_s197_s ck_S0) (ck_E1 (ck_S1 pl_s341_s ck_S0) (ck_E1 (ck_S1 pl_s224_s ck_S0) (ck_E1 (ck_S1 pl_s361_s ck_S0) (ck_E1 (ck_S1 pl_s363_s ck_S0) ck_E0))))⟩ ck_X0 ck_l0 pl_s364_e
set_option maxRecDepth 100000 in
/-- GlacierMail.watch -/
def pl_s365 : ck_Sum := ((8, 2, 12), 249, [.inr (.inr (.inl 1)), .inl (0, 7, []), .inl (6, 2147483647, [])], ([], [], []), ([], []), [(.inl 3, 249, ([], [], []))])
set_option maxRecDepth 100000 in
theorem pl_s365_e : ck_ok p2_OL none [] [(139, [pl_s197]), (132, [pl_s156])] 156 [] 88 pl_s365 = true := by decide +kernel
theorem pl_s365_s {X : Int → Int} {LX : Nat} : ck_Ok p2_OL X LX 156 pl_s365 := ck_ok_s ⟨pl_nmu, ck_E1 (ck_S1 pl_s197_s ck_S0) (ck_E1 (ck_S1 pl_s156_s ck_S0) ck_E0)⟩ ck_X0 ck_l0 pl_s365_e
set_option maxRecDepth 100000 in
/-- GlacierMail$Rows.put -/
def pl_s366 : ck_Sum := ((0, 0, 0), 249, [.inr (.inr (.inl 8)), .inl (0, 7, []), .inl (ck_one 2), .inl (0, 5, [])], ([], [], []), (zl166, []), [(.inr none, 249, ([], [], []))])
set_option maxRecDepth 100000 in
theorem pl_s366_e : ck_ok p2_OL none [] [] 45 [] 116 pl_s366 = true := by decide +kernel
theorem pl_s366_s {X : Int → Int} {LX : Nat} : ck_Ok p2_OL X LX 45 pl_s366 := ck_ok_s ⟨pl_nmu, ck_E0⟩ ck_X0 ck_l0 pl_s366_e
set_option maxRecDepth 100000 in
/-- GlacierMail.watch -/
def pl_s367 : ck_Sum := ((8, 2, 12), 249, [.inr (.inr (.inl 1)), .inl (0, 7, []), .inl (0, 5, [])], ([], zl230, [(3, 6, 6, (0, 299, [(10, 0)]))]), (zl167, zl104), zl244)
set_option maxRecDepth 100000 in
theorem pl_s367_e : ck_ok p2_OL none [] [(139, [pl_s197]), (132, [pl_s159]), (154, [pl_s341]), (10, [pl_s224]), (45, [pl_s366])] 156 [] 130 pl_s367 = true := by decide +kernel
theorem pl_s367_s {X : Int → Int} {LX : Nat} : ck_Ok p2_OL X LX 156 pl_s367 := ck_ok_s ⟨pl_nmu, ck_E1 (ck_S1 pl_s197_s ck_S0) (ck_E1 (ck_S1 pl_s159_s ck_S0) (ck_E1 (ck_S1 pl_s341_s ck_S0) (ck_E1 (ck_S1 pl_s224_s ck_S0) (ck_E1 (ck_S1 pl_s366_s ck_S0) ck_E0))))⟩ ck_X0 ck_l0 pl_s367_e
set_option maxRecDepth 100000 in
/-- GlacierMail.open -/
def pl_s368 : ck_Sum := ((8, 1, 6), 249, [.inr (.inr (.inl 1)), .inl ((-2147483648), (-1), [])], ([], [], []), ([], []), [(.inl 3, 249, ([], [], []))])
set_option maxRecDepth 100000 in
theorem pl_s368_e : ck_ok p2_OL none [] [(143, [pl_s227])] 158 [] 76 pl_s368 = true := by decide +kernel
theorem pl_s368_s {X : Int → Int} {LX : Nat} : ck_Ok p2_OL X LX 158 pl_s368 := ck_ok_s ⟨pl_nmu, ck_E1 (ck_S1 pl_s227_s ck_S0) ck_E0⟩ ck_X0 ck_l0 pl_s368_e
set_option maxRecDepth 100000 in
/-- GlacierMail.open -/
def pl_s369 : ck_Sum := ((8, 1, 6), 249, [.inr (.inr (.inl 1)), .inl (24, 2147483647, [])], ([], [], []), ([], []), [(.inl 3, 249, ([], [], []))])
set_option maxRecDepth 100000 in
theorem pl_s369_e : ck_ok p2_OL none [] [(143, [pl_s230])] 158 [] 76 pl_s369 = true := by decide +kernel
theorem pl_s369_s {X : Int → Int} {LX : Nat} : ck_Ok p2_OL X LX 158 pl_s369 := ck_ok_s ⟨pl_nmu, ck_E1 (ck_S1 pl_s230_s ck_S0) ck_E0⟩ ck_X0 ck_l0 pl_s369_e
set_option maxRecDepth 100000 in
/-- GlacierMail.need -/
def pl_s370 : ck_Sum := ((6, 1, 6), 249, [.inr (.inr (.inl 1)), .inl (ck_one 0), .inl (0, 24, [])], ([], [], []), ([], []), [(.inr none, 249, ([], [], [])), (.inl 3, 249, ([], [], []))])
set_option maxRecDepth 100000 in
theorem pl_s370_e : ck_ok p2_OL none [] [] 133 [] 82 pl_s370 = true := by decide +kernel
theorem pl_s370_s {X : Int → Int} {LX : Nat} : ck_Ok p2_OL X LX 133 pl_s370 := ck_ok_s ⟨pl_nmu, ck_E0⟩ ck_X0 ck_l0 pl_s370_e
set_option maxRecDepth 100000 in
/-- GlacierMail.needLetter -/
def pl_s371 : ck_Sum := ((7, 1, 6), 249, [.inr (.inr (.inl 1)), .inl (ck_one 0)], ([], [], []), ([], []), [(.inl 3, 249, ([], [], [])), (.inr none, 249, ([], [], []))])
set_option maxRecDepth 100000 in
theorem pl_s371_e : ck_ok p2_OL none [] [(9, [pl_s200]), (133, [pl_s370])] 143 [] 86 pl_s371 = true := by decide +kernel
theorem pl_s371_s {X : Int → Int} {LX : Nat} : ck_Ok p2_OL X LX 143 pl_s371 := ck_ok_s ⟨pl_nmu, ck_E1 (ck_S1 pl_s200_s ck_S0) (ck_E1 (ck_S1 pl_s370_s ck_S0) ck_E0)⟩ ck_X0 ck_l0 pl_s371_e
set_option maxRecDepth 100000 in
/-- GlacierMail$State.isRock -/
def pl_s372 : ck_Sum := ((1, 0, 0), 249, [.inr (.inr (.inl 3)), .inl (ck_one 0)], ([], [], []), ([], []), [(.inr (some (.inl (ck_one 0))), 249, ([], [], [])), (.inr (some (.inl (ck_one 1))), 249, ([], [], []))])
set_option maxRecDepth 100000 in
theorem pl_s372_e : ck_ok p2_OL none [] [(10, [pl_s204])] 28 [] 90 pl_s372 = true := by decide +kernel
theorem pl_s372_s {X : Int → Int} {LX : Nat} : ck_Ok p2_OL X LX 28 pl_s372 := ck_ok_s ⟨pl_nmu, ck_E1 (ck_S1 pl_s204_s ck_S0) ck_E0⟩ ck_X0 ck_l0 pl_s372_e
set_option maxRecDepth 100000 in
/-- GlacierMail.waits -/
def pl_s373 : ck_Sum := ((2, 0, 0), 249, [.inr (.inr (.inl 1)), .inl (ck_one 0)], ([], [], [(3, 6, 6, (0, 299, [(10, 0)]))]), ([], []), [(.inr (some (.inl (ck_one 0))), 249, ([], [], [])), (.inr (some (.inl (ck_one 1))), 249, ([], [], []))])
set_option maxRecDepth 100000 in
theorem pl_s373_e : ck_ok p2_OL none [] [(28, [pl_s372]), (10, [pl_s204, pl_s218]), (67, [pl_s219])] 66 [] 134 pl_s373 = true := by decide +kernel
theorem pl_s373_s {X : Int → Int} {LX : Nat} : ck_Ok p2_OL X LX 66 pl_s373 := ck_ok_s ⟨pl_nmu, ck_E1 (ck_S1 pl_s372_s ck_S0) (ck_E1 (ck_S1 pl_s204_s (ck_S1 pl_s218_s ck_S0)) (ck_E1 (ck_S1 pl_s219_s ck_S0) ck_E0))⟩ ck_X0 ck_l0 pl_s373_e
set_option maxRecDepth 100000 in
/-- GlacierMail$Rows.put -/
def pl_s374 : ck_Sum := ((0, 0, 0), 249, [.inr (.inr (.inl 10)), .inl (ck_one 0), .inl (ck_one 5), .inl ((-1), 299, [])], ([], [], []), ([(11, 5, 5)], []), [(.inr none, 249, ([], [], []))])
set_option maxRecDepth 100000 in
theorem pl_s374_e : ck_ok p2_OL none [] [] 45 [] 116 pl_s374 = true := by decide +kernel
theorem pl_s374_s {X : Int → Int} {LX : Nat} : ck_Ok p2_OL X LX 45 pl_s374 := ck_ok_s ⟨pl_nmu, ck_E0⟩ ck_X0 ck_l0 pl_s374_e
set_option maxRecDepth 100000 in
/-- GlacierMail$Rows.put -/
def pl_s375 : ck_Sum := ((0, 0, 0), 249, [.inr (.inr (.inl 10)), .inl (ck_one 0), .inl (ck_one 6), .inl (0, 299, [])], ([], [], []), ([(11, 6, 6)], []), [(.inr none, 249, ([], [], []))])
set_option maxRecDepth 100000 in
theorem pl_s375_e : ck_ok p2_OL none [] [] 45 [] 116 pl_s375 = true := by decide +kernel
theorem pl_s375_s {X : Int → Int} {LX : Nat} : ck_Ok p2_OL X LX 45 pl_s375 := ck_ok_s ⟨pl_nmu, ck_E0⟩ ck_X0 ck_l0 pl_s375_e
set_option maxRecDepth 100000 in
/-- GlacierMail$Rows.put -/
def pl_s376 : ck_Sum := ((0, 0, 0), 249, [.inr (.inr (.inl 14)), .inl (0, 23, []), .inl (ck_one 0), .inl (0, 299, [])], ([], [], []), (zl172, []), [(.inr none, 249, ([], [], []))])
set_option maxRecDepth 100000 in
theorem pl_s376_e : ck_ok p2_OL none [] [] 45 [] 116 pl_s376 = true := by decide +kernel
theorem pl_s376_s {X : Int → Int} {LX : Nat} : ck_Ok p2_OL X LX 45 pl_s376 := ck_ok_s ⟨pl_nmu, ck_E0⟩ ck_X0 ck_l0 pl_s376_e
set_option maxRecDepth 100000 in
/-- GlacierMail$Rows.put -/
def pl_s377 : ck_Sum := ((0, 0, 0), 249, [.inr (.inr (.inl 14)), .inl (0, 23, []), .inl (ck_one 1), .inl (ck_one 0)], ([], [], []), (zl173, []), [(.inr none, 249, ([], [], []))])
set_option maxRecDepth 100000 in
theorem pl_s377_e : ck_ok p2_OL none [] [] 45 [] 116 pl_s377 = true := by decide +kernel
theorem pl_s377_s {X : Int → Int} {LX : Nat} : ck_Ok p2_OL X LX 45 pl_s377 := ck_ok_s ⟨pl_nmu, ck_E0⟩ ck_X0 ck_l0 pl_s377_e
set_option maxRecDepth 100000 in
/-- GlacierMail$Rows.put -/
def pl_s378 : ck_Sum := ((0, 0, 0), 249, [.inr (.inr (.inl 14)), .inl (0, 23, []), .inl (ck_one 2), .inl ((-1), 299, [])], ([], [], []), (zl174, []), [(.inr none, 249, ([], [], []))])
set_option maxRecDepth 100000 in
theorem pl_s378_e : ck_ok p2_OL none [] [] 45 [] 116 pl_s378 = true := by decide +kernel
theorem pl_s378_s {X : Int → Int} {LX : Nat} : ck_Ok p2_OL X LX 45 pl_s378 := ck_ok_s ⟨pl_nmu, ck_E0⟩ ck_X0 ck_l0 pl_s378_e
set_option maxRecDepth 100000 in
/-- GlacierMail$Rows.put -/
def pl_s379 : ck_Sum := ((0, 0, 0), 249, [.inr (.inr (.inl 14)), .inl (ck_one (-1)), .inl (ck_one 0), .inl (0, 299, [])], ([], [], []), ([], []), [(.inr none, 249, ([], [], []))])
set_option maxRecDepth 100000 in
theorem pl_s379_e : ck_ok p2_OL none [] [] 45 [] 76 pl_s379 = true := by decide +kernel
theorem pl_s379_s {X : Int → Int} {LX : Nat} : ck_Ok p2_OL X LX 45 pl_s379 := ck_ok_s ⟨pl_nmu, ck_E0⟩ ck_X0 ck_l0 pl_s379_e
set_option maxRecDepth 100000 in
/-- GlacierMail$Rows.put -/
def pl_s380 : ck_Sum := ((0, 0, 0), 249, [.inr (.inr (.inl 14)), .inl (ck_one (-1)), .inl (ck_one 1), .inl (ck_one 0)], ([], [], []), ([], []), [(.inr none, 249, ([], [], []))])
set_option maxRecDepth 100000 in
theorem pl_s380_e : ck_ok p2_OL none [] [] 45 [] 76 pl_s380 = true := by decide +kernel
theorem pl_s380_s {X : Int → Int} {LX : Nat} : ck_Ok p2_OL X LX 45 pl_s380 := ck_ok_s ⟨pl_nmu, ck_E0⟩ ck_X0 ck_l0 pl_s380_e
set_option maxRecDepth 100000 in
/-- GlacierMail$Rows.put -/
def pl_s381 : ck_Sum := ((0, 0, 0), 249, [.inr (.inr (.inl 14)), .inl (ck_one (-1)), .inl (ck_one 2), .inl ((-1), 299, [])], ([], [], []), ([], []), [(.inr none, 249, ([], [], []))])
set_option maxRecDepth 100000 in
theorem pl_s381_e : ck_ok p2_OL none [] [] 45 [] 76 pl_s381 = true := by decide +kernel
theorem pl_s381_s {X : Int → Int} {LX : Nat} : ck_Ok p2_OL X LX 45 pl_s381 := ck_ok_s ⟨pl_nmu, ck_E0⟩ ck_X0 ck_l0 pl_s381_e
set_option maxRecDepth 100000 in
/-- GlacierMail$Rows.add -/
def pl_s382 : ck_Sum := ((0, 0, 0), 249, [.inr (.inr (.inl 14))], ([], [], []), ([(14, 3, 3)], []), [(.inr (some (.inl (0, 23, []))), 249, ([], [], [(14, 3, 3, (1, 24, []))])), (.inr (some (.inl (ck_one (-1)))), 249, ([], [], [(14, 3, 3, ck_one 24)]))])
set_option maxRecDepth 100000 in
theorem pl_s382_e : ck_ok p2_OL none [] [] 102 [] 102 pl_s382 = true := by decide +kernel
theorem pl_s382_s {X : Int → Int} {LX : Nat} : ck_Ok p2_OL X LX 102 pl_s382 := ck_ok_s ⟨pl_nmu, ck_E0⟩ ck_X0 ck_l0 pl_s382_e
set_option maxRecDepth 100000 in
/-- GlacierMail$State.openLetter -/
def pl_s383 : ck_Sum := ((1, 0, 0), 249, [.inr (.inr (.inl 3)), .inl (ck_one 0), .inl ((-1), 299, [])], ([], [], [(3, 6, 6, (0, 299, [(10, 0)]))]), ([(11, 5, 6), (14, 3, 3), (15, 0, 71)], []), [(.inr none, 249, ([], [], [(14, 3, 3, (1, 24, []))]))])
set_option maxRecDepth 100000 in
theorem pl_s383_e : ck_ok p2_OL none [] [(45, [pl_s374, pl_s375, pl_s376, pl_s377, pl_s378, pl_s379, pl_s380, pl_s381]), (102, [pl_s382])] 159 [] 144 pl_s383 = true := by decide +kernel
theorem pl_s383_s {X : Int → Int} {LX : Nat} : ck_Ok p2_OL X LX 159 pl_s383 := ck_ok_s ⟨pl_nmu, ck_E1 (ck_S1 pl_s374_s (ck_S1 pl_s375_s (ck_S1 pl_s376_s (ck_S1 pl_s377_s (ck_S1 pl_s378_s (ck_S1 pl_s379_s (ck_S1 pl_s380_s (ck_S1 pl_s381_s ck_S0)))))))) (ck_E1 (ck_S1 pl_s382_s ck_S0) ck_E0)⟩ ck_X0 ck_l0 pl_s383_e
set_option maxRecDepth 100000 in
/-- GlacierMail.open -/
def pl_s384 : ck_Sum := ((8, 2, 12), 249, [.inr (.inr (.inl 1)), .inl (ck_one 0)], ([], zl230, [(3, 6, 6, (0, 299, [(10, 0)]))]), ([(1, 15, 15), (11, 5, 6), (14, 3, 3), (15, 0, 71), (42, 1, 2), (44, 0, 7), (45, 3, 3), (46, 0, 55), (47, 3, 3), (48, 0, 23), (49, 3, 3), (50, 0, 23), (51, 3, 3), (52, 0, 167), (53, 3, 3), (54, 0, 35), (55, 3, 3), (56, 0, 71), (57, 0, 7), (58, 3, 3), (59, 0, 55), (60, 3, 3), (61, 0, 23), (62, 3, 3), (63, 0, 23), (64, 3, 3), (65, 0, 167), (66, 3, 3), (67, 0, 35), (68, 3, 3), (69, 0, 71), (70, 0, 7), (71, 3, 3), (72, 0, 55), (73, 3, 3), (74, 0, 23), (75, 3, 3), (76, 0, 23), (77, 3, 3), (78, 0, 167), (79, 3, 3), (80, 0, 35), (81, 3, 3), (82, 0, 71), (83, 0, 7), (84, 3, 3), (85, 0, 55), (86, 3, 3), (87, 0, 23), (88, 3, 3), (89, 0, 23), (90, 3, 3), (91, 0, 167), (92, 3, 3), (93, 0, 35), (94, 3, 3), (95, 0, 71), (96, 0, 7), (97, 3, 3), (98, 0, 55), (99, 3, 3), (100, 0, 23), (101, 3, 3), (102, 0, 23), (103, 3, 3), (104, 0, 167), (105, 3, 3), (106, 0, 35), (107, 3, 3), (108, 0, 71), (109, 0, 7), (110, 3, 3), (111, 0, 55), (112, 3, 3), (113, 0, 23), (114, 3, 3), (115, 0, 23), (116, 3, 3), (117, 0, 167), (118, 3, 3), (119, 0, 35), (120, 3, 3), (121, 0, 71), (122, 0, 7), (123, 3, 3), (124, 0, 55), (125, 3, 3), (126, 0, 23), (127, 3, 3), (128, 0, 23), (129, 3, 3), (130, 0, 167), (131, 3, 3), (132, 0, 35), (133, 3, 3), (134, 0, 71), (135, 0, 7), (136, 3, 3), (137, 0, 55), (138, 3, 3), (139, 0, 23), (140, 3, 3), (141, 0, 23), (142, 3, 3), (143, 0, 167), (144, 3, 3), (145, 0, 35), (146, 3, 3), (147, 0, 71), (148, 0, 7), (149, 3, 3), (150, 0, 55), (151, 3, 3), (152, 0, 23), (153, 3, 3), (154, 0, 23), (155, 3, 3), (156, 0, 167), (157, 3, 3), (158, 0, 35), (159, 3, 3), (160, 0, 71), (161, 0, 7), (162, 3, 3), (163, 0, 55), (164, 3, 3), (165, 0, 23), (166, 3, 3), (167, 0, 23), (168, 3, 3), (169, 0, 167), (170, 3, 3), (171, 0, 35), (172, 3, 3), (173, 0, 71), (174, 0, 7), (175, 3, 3), (176, 0, 55), (177, 3, 3), (178, 0, 23), (179, 3, 3), (180, 0, 23), (181, 3, 3), (182, 0, 167), (183, 3, 3), (184, 0, 35), (185, 3, 3), (186, 0, 71), (187, 0, 7), (188, 3, 3), (189, 0, 55), (190, 3, 3), (191, 0, 23), (192, 3, 3), (193, 0, 23), (194, 3, 3), (195, 0, 167), (196, 3, 3), (197, 0, 35), (198, 3, 3), (199, 0, 71), (200, 6, 6), (204, 0, 9), (205, 0, 14849), (206, 2, 8), (220, 3, 3), (221, 0, 47)], zl104), zl245)
set_option maxRecDepth 100000 in
theorem pl_s384_e : ck_ok p2_OL none [] [(143, [pl_s371]), (24, [pl_s217]), (66, [pl_s373]), (154, [pl_s341]), (10, [pl_s204]), (159, [pl_s383])] 158 [] 140 pl_s384 = true := by decide +kernel
theorem pl_s384_s {X : Int → Int} {LX : Nat} : ck_Ok p2_OL X LX 158 pl_s384 := ck_ok_s ⟨pl_nmu, ck_E1 (ck_S1 pl_s371_s ck_S0) (ck_E1 (ck_S1 pl_s217_s ck_S0) (ck_E1 (ck_S1 pl_s373_s ck_S0) (ck_E1 (ck_S1 pl_s341_s ck_S0) (ck_E1 (ck_S1 pl_s204_s ck_S0) (ck_E1 (ck_S1 pl_s383_s ck_S0) ck_E0)))))⟩ ck_X0 ck_l0 pl_s384_e
set_option maxRecDepth 100000 in
/-- GlacierMail.need -/
def pl_s385 : ck_Sum := ((6, 1, 6), 249, [.inr (.inr (.inl 1)), .inl (ck_one 1), .inl (0, 24, [])], ([], [], []), ([], []), [(.inr none, 249, ([], [], [])), (.inl 3, 249, ([], [], []))])
set_option maxRecDepth 100000 in
theorem pl_s385_e : ck_ok p2_OL none [] [] 133 [] 82 pl_s385 = true := by decide +kernel
theorem pl_s385_s {X : Int → Int} {LX : Nat} : ck_Ok p2_OL X LX 133 pl_s385 := ck_ok_s ⟨pl_nmu, ck_E0⟩ ck_X0 ck_l0 pl_s385_e
set_option maxRecDepth 100000 in
/-- GlacierMail.needLetter -/
def pl_s386 : ck_Sum := ((7, 1, 6), 249, [.inr (.inr (.inl 1)), .inl (ck_one 1)], ([], [], []), ([], []), [(.inl 3, 249, ([], [], [])), (.inr none, 249, ([], [], []))])
set_option maxRecDepth 100000 in
theorem pl_s386_e : ck_ok p2_OL none [] [(9, [pl_s200]), (133, [pl_s385])] 143 [] 86 pl_s386 = true := by decide +kernel
theorem pl_s386_s {X : Int → Int} {LX : Nat} : ck_Ok p2_OL X LX 143 pl_s386 := ck_ok_s ⟨pl_nmu, ck_E1 (ck_S1 pl_s200_s ck_S0) (ck_E1 (ck_S1 pl_s385_s ck_S0) ck_E0)⟩ ck_X0 ck_l0 pl_s386_e
set_option maxRecDepth 100000 in
/-- GlacierMail$State.isRock -/
def pl_s387 : ck_Sum := ((1, 0, 0), 249, [.inr (.inr (.inl 3)), .inl (ck_one 1)], ([], [], []), ([], []), [(.inr (some (.inl (ck_one 0))), 249, ([], [], [])), (.inr (some (.inl (ck_one 1))), 249, ([], [], []))])
set_option maxRecDepth 100000 in
theorem pl_s387_e : ck_ok p2_OL none [] [(10, [pl_s204])] 28 [] 90 pl_s387 = true := by decide +kernel
theorem pl_s387_s {X : Int → Int} {LX : Nat} : ck_Ok p2_OL X LX 28 pl_s387 := ck_ok_s ⟨pl_nmu, ck_E1 (ck_S1 pl_s204_s ck_S0) ck_E0⟩ ck_X0 ck_l0 pl_s387_e
set_option maxRecDepth 100000 in
/-- GlacierMail.waits -/
def pl_s388 : ck_Sum := ((2, 0, 0), 249, [.inr (.inr (.inl 1)), .inl (ck_one 1)], ([], [], [(3, 6, 6, (0, 299, [(10, 0)]))]), ([], []), [(.inr (some (.inl (ck_one 0))), 249, ([], [], [])), (.inr (some (.inl (ck_one 1))), 249, ([], [], []))])
set_option maxRecDepth 100000 in
theorem pl_s388_e : ck_ok p2_OL none [] [(28, [pl_s387]), (10, [pl_s204, pl_s218]), (67, [pl_s219])] 66 [] 134 pl_s388 = true := by decide +kernel
theorem pl_s388_s {X : Int → Int} {LX : Nat} : ck_Ok p2_OL X LX 66 pl_s388 := ck_ok_s ⟨pl_nmu, ck_E1 (ck_S1 pl_s387_s ck_S0) (ck_E1 (ck_S1 pl_s204_s (ck_S1 pl_s218_s ck_S0)) (ck_E1 (ck_S1 pl_s219_s ck_S0) ck_E0))⟩ ck_X0 ck_l0 pl_s388_e
set_option maxRecDepth 100000 in
/-- GlacierMail$Rows.put -/
def pl_s389 : ck_Sum := ((0, 0, 0), 249, [.inr (.inr (.inl 10)), .inl (ck_one 1), .inl (ck_one 5), .inl ((-1), 299, [])], ([], [], []), ([(11, 12, 12)], []), [(.inr none, 249, ([], [], []))])
set_option maxRecDepth 100000 in
theorem pl_s389_e : ck_ok p2_OL none [] [] 45 [] 116 pl_s389 = true := by decide +kernel
theorem pl_s389_s {X : Int → Int} {LX : Nat} : ck_Ok p2_OL X LX 45 pl_s389 := ck_ok_s ⟨pl_nmu, ck_E0⟩ ck_X0 ck_l0 pl_s389_e
set_option maxRecDepth 100000 in
/-- GlacierMail$Rows.put -/
def pl_s390 : ck_Sum := ((0, 0, 0), 249, [.inr (.inr (.inl 10)), .inl (ck_one 1), .inl (ck_one 6), .inl (0, 299, [])], ([], [], []), ([(11, 13, 13)], []), [(.inr none, 249, ([], [], []))])
set_option maxRecDepth 100000 in
theorem pl_s390_e : ck_ok p2_OL none [] [] 45 [] 116 pl_s390 = true := by decide +kernel
theorem pl_s390_s {X : Int → Int} {LX : Nat} : ck_Ok p2_OL X LX 45 pl_s390 := ck_ok_s ⟨pl_nmu, ck_E0⟩ ck_X0 ck_l0 pl_s390_e
set_option maxRecDepth 100000 in
/-- GlacierMail$Rows.put -/
def pl_s391 : ck_Sum := ((0, 0, 0), 249, [.inr (.inr (.inl 14)), .inl (0, 23, []), .inl (ck_one 1), .inl (ck_one 1)], ([], [], []), (zl173, []), [(.inr none, 249, ([], [], []))])
set_option maxRecDepth 100000 in
theorem pl_s391_e : ck_ok p2_OL none [] [] 45 [] 116 pl_s391 = true := by decide +kernel
theorem pl_s391_s {X : Int → Int} {LX : Nat} : ck_Ok p2_OL X LX 45 pl_s391 := ck_ok_s ⟨pl_nmu, ck_E0⟩ ck_X0 ck_l0 pl_s391_e
set_option maxRecDepth 100000 in
/-- GlacierMail$Rows.put -/
def pl_s392 : ck_Sum := ((0, 0, 0), 249, [.inr (.inr (.inl 14)), .inl (ck_one (-1)), .inl (ck_one 1), .inl (ck_one 1)], ([], [], []), ([], []), [(.inr none, 249, ([], [], []))])
set_option maxRecDepth 100000 in
theorem pl_s392_e : ck_ok p2_OL none [] [] 45 [] 76 pl_s392 = true := by decide +kernel
theorem pl_s392_s {X : Int → Int} {LX : Nat} : ck_Ok p2_OL X LX 45 pl_s392 := ck_ok_s ⟨pl_nmu, ck_E0⟩ ck_X0 ck_l0 pl_s392_e
set_option maxRecDepth 100000 in
/-- GlacierMail$State.openLetter -/
def pl_s393 : ck_Sum := ((1, 0, 0), 249, [.inr (.inr (.inl 3)), .inl (ck_one 1), .inl ((-1), 299, [])], ([], [], [(3, 6, 6, (0, 299, [(10, 0)]))]), ([(11, 12, 13), (14, 3, 3), (15, 0, 71)], []), [(.inr none, 249, ([], [], [(14, 3, 3, (1, 24, []))]))])
set_option maxRecDepth 100000 in
theorem pl_s393_e : ck_ok p2_OL none [] [(45, [pl_s389, pl_s390, pl_s376, pl_s391, pl_s378, pl_s379, pl_s392, pl_s381]), (102, [pl_s382])] 159 [] 144 pl_s393 = true := by decide +kernel
theorem pl_s393_s {X : Int → Int} {LX : Nat} : ck_Ok p2_OL X LX 159 pl_s393 := ck_ok_s ⟨pl_nmu, ck_E1 (ck_S1 pl_s389_s (ck_S1 pl_s390_s (ck_S1 pl_s376_s (ck_S1 pl_s391_s (ck_S1 pl_s378_s (ck_S1 pl_s379_s (ck_S1 pl_s392_s (ck_S1 pl_s381_s ck_S0)))))))) (ck_E1 (ck_S1 pl_s382_s ck_S0) ck_E0)⟩ ck_X0 ck_l0 pl_s393_e
set_option maxRecDepth 100000 in
/-- GlacierMail.open -/
def pl_s394 : ck_Sum := ((8, 2, 12), 249, [.inr (.inr (.inl 1)), .inl (ck_one 1)], ([], zl230, [(3, 6, 6, (0, 299, [(10, 0)]))]), ([(1, 15, 15), (11, 12, 13), (14, 3, 3), (15, 0, 71), (42, 1, 2), (44, 0, 7), (45, 3, 3), (46, 0, 55), (47, 3, 3), (48, 0, 23), (49, 3, 3), (50, 0, 23), (51, 3, 3), (52, 0, 167), (53, 3, 3), (54, 0, 35), (55, 3, 3), (56, 0, 71), (57, 0, 7), (58, 3, 3), (59, 0, 55), (60, 3, 3), (61, 0, 23), (62, 3, 3), (63, 0, 23), (64, 3, 3), (65, 0, 167), (66, 3, 3), (67, 0, 35), (68, 3, 3), (69, 0, 71), (70, 0, 7), (71, 3, 3), (72, 0, 55), (73, 3, 3), (74, 0, 23), (75, 3, 3), (76, 0, 23), (77, 3, 3), (78, 0, 167), (79, 3, 3), (80, 0, 35), (81, 3, 3), (82, 0, 71), (83, 0, 7), (84, 3, 3), (85, 0, 55), (86, 3, 3), (87, 0, 23), (88, 3, 3), (89, 0, 23), (90, 3, 3), (91, 0, 167), (92, 3, 3), (93, 0, 35), (94, 3, 3), (95, 0, 71), (96, 0, 7), (97, 3, 3), (98, 0, 55), (99, 3, 3), (100, 0, 23), (101, 3, 3), (102, 0, 23), (103, 3, 3), (104, 0, 167), (105, 3, 3), (106, 0, 35), (107, 3, 3), (108, 0, 71), (109, 0, 7), (110, 3, 3), (111, 0, 55), (112, 3, 3), (113, 0, 23), (114, 3, 3), (115, 0, 23), (116, 3, 3), (117, 0, 167), (118, 3, 3), (119, 0, 35), (120, 3, 3), (121, 0, 71), (122, 0, 7), (123, 3, 3), (124, 0, 55), (125, 3, 3), (126, 0, 23), (127, 3, 3), (128, 0, 23), (129, 3, 3), (130, 0, 167), (131, 3, 3), (132, 0, 35), (133, 3, 3), (134, 0, 71), (135, 0, 7), (136, 3, 3), (137, 0, 55), (138, 3, 3), (139, 0, 23), (140, 3, 3), (141, 0, 23), (142, 3, 3), (143, 0, 167), (144, 3, 3), (145, 0, 35), (146, 3, 3), (147, 0, 71), (148, 0, 7), (149, 3, 3), (150, 0, 55), (151, 3, 3), (152, 0, 23), (153, 3, 3), (154, 0, 23), (155, 3, 3), (156, 0, 167), (157, 3, 3), (158, 0, 35), (159, 3, 3), (160, 0, 71), (161, 0, 7), (162, 3, 3), (163, 0, 55), (164, 3, 3), (165, 0, 23), (166, 3, 3), (167, 0, 23), (168, 3, 3), (169, 0, 167), (170, 3, 3), (171, 0, 35), (172, 3, 3), (173, 0, 71), (174, 0, 7), (175, 3, 3), (176, 0, 55), (177, 3, 3), (178, 0, 23), (179, 3, 3), (180, 0, 23), (181, 3, 3), (182, 0, 167), (183, 3, 3), (184, 0, 35), (185, 3, 3), (186, 0, 71), (187, 0, 7), (188, 3, 3), (189, 0, 55), (190, 3, 3), (191, 0, 23), (192, 3, 3), (193, 0, 23), (194, 3, 3), (195, 0, 167), (196, 3, 3), (197, 0, 35), (198, 3, 3), (199, 0, 71), (200, 6, 6), (204, 0, 9), (205, 0, 14849), (206, 2, 8), (220, 3, 3), (221, 0, 47)], zl104), zl245)
set_option maxRecDepth 100000 in
theorem pl_s394_e : ck_ok p2_OL none [] [(143, [pl_s386]), (24, [pl_s217]), (66, [pl_s388]), (154, [pl_s341]), (10, [pl_s204]), (159, [pl_s393])] 158 [] 140 pl_s394 = true := by decide +kernel
theorem pl_s394_s {X : Int → Int} {LX : Nat} : ck_Ok p2_OL X LX 158 pl_s394 := ck_ok_s ⟨pl_nmu, ck_E1 (ck_S1 pl_s386_s ck_S0) (ck_E1 (ck_S1 pl_s217_s ck_S0) (ck_E1 (ck_S1 pl_s388_s ck_S0) (ck_E1 (ck_S1 pl_s341_s ck_S0) (ck_E1 (ck_S1 pl_s204_s ck_S0) (ck_E1 (ck_S1 pl_s393_s ck_S0) ck_E0)))))⟩ ck_X0 ck_l0 pl_s394_e
set_option maxRecDepth 100000 in
/-- GlacierMail.need -/
def pl_s395 : ck_Sum := ((6, 1, 6), 249, [.inr (.inr (.inl 1)), .inl (ck_one 2), .inl (0, 24, [])], ([], [], []), ([], []), [(.inr none, 249, ([], [], [])), (.inl 3, 249, ([], [], []))])
set_option maxRecDepth 100000 in
theorem pl_s395_e : ck_ok p2_OL none [] [] 133 [] 82 pl_s395 = true := by decide +kernel
theorem pl_s395_s {X : Int → Int} {LX : Nat} : ck_Ok p2_OL X LX 133 pl_s395 := ck_ok_s ⟨pl_nmu, ck_E0⟩ ck_X0 ck_l0 pl_s395_e
set_option maxRecDepth 100000 in
/-- GlacierMail.needLetter -/
def pl_s396 : ck_Sum := ((7, 1, 6), 249, [.inr (.inr (.inl 1)), .inl (ck_one 2)], ([], [], []), ([], []), [(.inl 3, 249, ([], [], [])), (.inr none, 249, ([], [], []))])
set_option maxRecDepth 100000 in
theorem pl_s396_e : ck_ok p2_OL none [] [(9, [pl_s200]), (133, [pl_s395])] 143 [] 86 pl_s396 = true := by decide +kernel
theorem pl_s396_s {X : Int → Int} {LX : Nat} : ck_Ok p2_OL X LX 143 pl_s396 := ck_ok_s ⟨pl_nmu, ck_E1 (ck_S1 pl_s200_s ck_S0) (ck_E1 (ck_S1 pl_s395_s ck_S0) ck_E0)⟩ ck_X0 ck_l0 pl_s396_e
set_option maxRecDepth 100000 in
/-- GlacierMail$State.isRock -/
def pl_s397 : ck_Sum := ((1, 0, 0), 249, [.inr (.inr (.inl 3)), .inl (ck_one 2)], ([], [], []), ([], []), [(.inr (some (.inl (ck_one 0))), 249, ([], [], [])), (.inr (some (.inl (ck_one 1))), 249, ([], [], []))])
set_option maxRecDepth 100000 in
theorem pl_s397_e : ck_ok p2_OL none [] [(10, [pl_s204])] 28 [] 90 pl_s397 = true := by decide +kernel
theorem pl_s397_s {X : Int → Int} {LX : Nat} : ck_Ok p2_OL X LX 28 pl_s397 := ck_ok_s ⟨pl_nmu, ck_E1 (ck_S1 pl_s204_s ck_S0) ck_E0⟩ ck_X0 ck_l0 pl_s397_e
set_option maxRecDepth 100000 in
/-- GlacierMail.waits -/
def pl_s398 : ck_Sum := ((2, 0, 0), 249, [.inr (.inr (.inl 1)), .inl (ck_one 2)], ([], [], [(3, 6, 6, (0, 299, [(10, 0)]))]), ([], []), [(.inr (some (.inl (ck_one 0))), 249, ([], [], [])), (.inr (some (.inl (ck_one 1))), 249, ([], [], []))])
set_option maxRecDepth 100000 in
theorem pl_s398_e : ck_ok p2_OL none [] [(28, [pl_s397]), (10, [pl_s204, pl_s218]), (67, [pl_s219])] 66 [] 134 pl_s398 = true := by decide +kernel
theorem pl_s398_s {X : Int → Int} {LX : Nat} : ck_Ok p2_OL X LX 66 pl_s398 := ck_ok_s ⟨pl_nmu, ck_E1 (ck_S1 pl_s397_s ck_S0) (ck_E1 (ck_S1 pl_s204_s (ck_S1 pl_s218_s ck_S0)) (ck_E1 (ck_S1 pl_s219_s ck_S0) ck_E0))⟩ ck_X0 ck_l0 pl_s398_e
set_option maxRecDepth 100000 in
/-- GlacierMail$Rows.put -/
def pl_s399 : ck_Sum := ((0, 0, 0), 249, [.inr (.inr (.inl 10)), .inl (ck_one 2), .inl (ck_one 5), .inl ((-1), 299, [])], ([], [], []), ([(11, 19, 19)], []), [(.inr none, 249, ([], [], []))])
set_option maxRecDepth 100000 in
theorem pl_s399_e : ck_ok p2_OL none [] [] 45 [] 116 pl_s399 = true := by decide +kernel
theorem pl_s399_s {X : Int → Int} {LX : Nat} : ck_Ok p2_OL X LX 45 pl_s399 := ck_ok_s ⟨pl_nmu, ck_E0⟩ ck_X0 ck_l0 pl_s399_e
set_option maxRecDepth 100000 in
/-- GlacierMail$Rows.put -/
def pl_s400 : ck_Sum := ((0, 0, 0), 249, [.inr (.inr (.inl 10)), .inl (ck_one 2), .inl (ck_one 6), .inl (0, 299, [])], ([], [], []), ([(11, 20, 20)], []), [(.inr none, 249, ([], [], []))])
set_option maxRecDepth 100000 in
theorem pl_s400_e : ck_ok p2_OL none [] [] 45 [] 116 pl_s400 = true := by decide +kernel
theorem pl_s400_s {X : Int → Int} {LX : Nat} : ck_Ok p2_OL X LX 45 pl_s400 := ck_ok_s ⟨pl_nmu, ck_E0⟩ ck_X0 ck_l0 pl_s400_e
set_option maxRecDepth 100000 in
/-- GlacierMail$Rows.put -/
def pl_s401 : ck_Sum := ((0, 0, 0), 249, [.inr (.inr (.inl 14)), .inl (0, 23, []), .inl (ck_one 1), .inl (ck_one 2)], ([], [], []), (zl173, []), [(.inr none, 249, ([], [], []))])
set_option maxRecDepth 100000 in
theorem pl_s401_e : ck_ok p2_OL none [] [] 45 [] 116 pl_s401 = true := by decide +kernel
theorem pl_s401_s {X : Int → Int} {LX : Nat} : ck_Ok p2_OL X LX 45 pl_s401 := ck_ok_s ⟨pl_nmu, ck_E0⟩ ck_X0 ck_l0 pl_s401_e
set_option maxRecDepth 100000 in
/-- GlacierMail$Rows.put -/
def pl_s402 : ck_Sum := ((0, 0, 0), 249, [.inr (.inr (.inl 14)), .inl (ck_one (-1)), .inl (ck_one 1), .inl (ck_one 2)], ([], [], []), ([], []), [(.inr none, 249, ([], [], []))])
set_option maxRecDepth 100000 in
theorem pl_s402_e : ck_ok p2_OL none [] [] 45 [] 76 pl_s402 = true := by decide +kernel
theorem pl_s402_s {X : Int → Int} {LX : Nat} : ck_Ok p2_OL X LX 45 pl_s402 := ck_ok_s ⟨pl_nmu, ck_E0⟩ ck_X0 ck_l0 pl_s402_e
set_option maxRecDepth 100000 in
/-- GlacierMail$State.openLetter -/
def pl_s403 : ck_Sum := ((1, 0, 0), 249, [.inr (.inr (.inl 3)), .inl (ck_one 2), .inl ((-1), 299, [])], ([], [], [(3, 6, 6, (0, 299, [(10, 0)]))]), ([(11, 19, 20), (14, 3, 3), (15, 0, 71)], []), [(.inr none, 249, ([], [], [(14, 3, 3, (1, 24, []))]))])
set_option maxRecDepth 100000 in
theorem pl_s403_e : ck_ok p2_OL none [] [(45, [pl_s399, pl_s400, pl_s376, pl_s401, pl_s378, pl_s379, pl_s402, pl_s381]), (102, [pl_s382])] 159 [] 144 pl_s403 = true := by decide +kernel
theorem pl_s403_s {X : Int → Int} {LX : Nat} : ck_Ok p2_OL X LX 159 pl_s403 := ck_ok_s ⟨pl_nmu, ck_E1 (ck_S1 pl_s399_s (ck_S1 pl_s400_s (ck_S1 pl_s376_s (ck_S1 pl_s401_s (ck_S1 pl_s378_s (ck_S1 pl_s379_s (ck_S1 pl_s402_s (ck_S1 pl_s381_s ck_S0)))))))) (ck_E1 (ck_S1 pl_s382_s ck_S0) ck_E0)⟩ ck_X0 ck_l0 pl_s403_e
set_option maxRecDepth 100000 in
/-- GlacierMail.open -/
def pl_s404 : ck_Sum := ((8, 2, 12), 249, [.inr (.inr (.inl 1)), .inl (ck_one 2)], ([], zl230, [(3, 6, 6, (0, 299, [(10, 0)]))]), ([(1, 15, 15), (11, 19, 20), (14, 3, 3), (15, 0, 71), (42, 1, 2), (44, 0, 7), (45, 3, 3), (46, 0, 55), (47, 3, 3), (48, 0, 23), (49, 3, 3), (50, 0, 23), (51, 3, 3), (52, 0, 167), (53, 3, 3), (54, 0, 35), (55, 3, 3), (56, 0, 71), (57, 0, 7), (58, 3, 3), (59, 0, 55), (60, 3, 3), (61, 0, 23), (62, 3, 3), (63, 0, 23), (64, 3, 3), (65, 0, 167), (66, 3, 3), (67, 0, 35), (68, 3, 3), (69, 0, 71), (70, 0, 7), (71, 3, 3), (72, 0, 55), (73, 3, 3), (74, 0, 23), (75, 3, 3), (76, 0, 23), (77, 3, 3), (78, 0, 167), (79, 3, 3), (80, 0, 35), (81, 3, 3), (82, 0, 71), (83, 0, 7), (84, 3, 3), (85, 0, 55), (86, 3, 3), (87, 0, 23), (88, 3, 3), (89, 0, 23), (90, 3, 3), (91, 0, 167), (92, 3, 3), (93, 0, 35), (94, 3, 3), (95, 0, 71), (96, 0, 7), (97, 3, 3), (98, 0, 55), (99, 3, 3), (100, 0, 23), (101, 3, 3), (102, 0, 23), (103, 3, 3), (104, 0, 167), (105, 3, 3), (106, 0, 35), (107, 3, 3), (108, 0, 71), (109, 0, 7), (110, 3, 3), (111, 0, 55), (112, 3, 3), (113, 0, 23), (114, 3, 3), (115, 0, 23), (116, 3, 3), (117, 0, 167), (118, 3, 3), (119, 0, 35), (120, 3, 3), (121, 0, 71), (122, 0, 7), (123, 3, 3), (124, 0, 55), (125, 3, 3), (126, 0, 23), (127, 3, 3), (128, 0, 23), (129, 3, 3), (130, 0, 167), (131, 3, 3), (132, 0, 35), (133, 3, 3), (134, 0, 71), (135, 0, 7), (136, 3, 3), (137, 0, 55), (138, 3, 3), (139, 0, 23), (140, 3, 3), (141, 0, 23), (142, 3, 3), (143, 0, 167), (144, 3, 3), (145, 0, 35), (146, 3, 3), (147, 0, 71), (148, 0, 7), (149, 3, 3), (150, 0, 55), (151, 3, 3), (152, 0, 23), (153, 3, 3), (154, 0, 23), (155, 3, 3), (156, 0, 167), (157, 3, 3), (158, 0, 35), (159, 3, 3), (160, 0, 71), (161, 0, 7), (162, 3, 3), (163, 0, 55), (164, 3, 3), (165, 0, 23), (166, 3, 3), (167, 0, 23), (168, 3, 3), (169, 0, 167), (170, 3, 3), (171, 0, 35), (172, 3, 3), (173, 0, 71), (174, 0, 7), (175, 3, 3), (176, 0, 55), (177, 3, 3), (178, 0, 23), (179, 3, 3), (180, 0, 23), (181, 3, 3), (182, 0, 167), (183, 3, 3), (184, 0, 35), (185, 3, 3), (186, 0, 71), (187, 0, 7), (188, 3, 3), (189, 0, 55), (190, 3, 3), (191, 0, 23), (192, 3, 3), (193, 0, 23), (194, 3, 3), (195, 0, 167), (196, 3, 3), (197, 0, 35), (198, 3, 3), (199, 0, 71), (200, 6, 6), (204, 0, 9), (205, 0, 14849), (206, 2, 8), (220, 3, 3), (221, 0, 47)], zl104), zl245)
set_option maxRecDepth 100000 in
theorem pl_s404_e : ck_ok p2_OL none [] [(143, [pl_s396]), (24, [pl_s217]), (66, [pl_s398]), (154, [pl_s341]), (10, [pl_s204]), (159, [pl_s403])] 158 [] 140 pl_s404 = true := by decide +kernel
theorem pl_s404_s {X : Int → Int} {LX : Nat} : ck_Ok p2_OL X LX 158 pl_s404 := ck_ok_s ⟨pl_nmu, ck_E1 (ck_S1 pl_s396_s ck_S0) (ck_E1 (ck_S1 pl_s217_s ck_S0) (ck_E1 (ck_S1 pl_s398_s ck_S0) (ck_E1 (ck_S1 pl_s341_s ck_S0) (ck_E1 (ck_S1 pl_s204_s ck_S0) (ck_E1 (ck_S1 pl_s403_s ck_S0) ck_E0)))))⟩ ck_X0 ck_l0 pl_s404_e
set_option maxRecDepth 100000 in
/-- GlacierMail.need -/
def pl_s405 : ck_Sum := ((6, 1, 6), 249, [.inr (.inr (.inl 1)), .inl (ck_one 3), .inl (0, 24, [])], ([], [], []), ([], []), [(.inr none, 249, ([], [], [])), (.inl 3, 249, ([], [], []))])
set_option maxRecDepth 100000 in
theorem pl_s405_e : ck_ok p2_OL none [] [] 133 [] 82 pl_s405 = true := by decide +kernel
theorem pl_s405_s {X : Int → Int} {LX : Nat} : ck_Ok p2_OL X LX 133 pl_s405 := ck_ok_s ⟨pl_nmu, ck_E0⟩ ck_X0 ck_l0 pl_s405_e
set_option maxRecDepth 100000 in
/-- GlacierMail.needLetter -/
def pl_s406 : ck_Sum := ((7, 1, 6), 249, [.inr (.inr (.inl 1)), .inl (ck_one 3)], ([], [], []), ([], []), [(.inl 3, 249, ([], [], [])), (.inr none, 249, ([], [], []))])
set_option maxRecDepth 100000 in
theorem pl_s406_e : ck_ok p2_OL none [] [(9, [pl_s200]), (133, [pl_s405])] 143 [] 86 pl_s406 = true := by decide +kernel
theorem pl_s406_s {X : Int → Int} {LX : Nat} : ck_Ok p2_OL X LX 143 pl_s406 := ck_ok_s ⟨pl_nmu, ck_E1 (ck_S1 pl_s200_s ck_S0) (ck_E1 (ck_S1 pl_s405_s ck_S0) ck_E0)⟩ ck_X0 ck_l0 pl_s406_e
set_option maxRecDepth 100000 in
/-- GlacierMail$State.isRock -/
def pl_s407 : ck_Sum := ((1, 0, 0), 249, [.inr (.inr (.inl 3)), .inl (ck_one 3)], ([], [], []), ([], []), [(.inr (some (.inl (ck_one 0))), 249, ([], [], [])), (.inr (some (.inl (ck_one 1))), 249, ([], [], []))])
set_option maxRecDepth 100000 in
theorem pl_s407_e : ck_ok p2_OL none [] [(10, [pl_s204])] 28 [] 90 pl_s407 = true := by decide +kernel
theorem pl_s407_s {X : Int → Int} {LX : Nat} : ck_Ok p2_OL X LX 28 pl_s407 := ck_ok_s ⟨pl_nmu, ck_E1 (ck_S1 pl_s204_s ck_S0) ck_E0⟩ ck_X0 ck_l0 pl_s407_e
set_option maxRecDepth 100000 in
/-- GlacierMail.waits -/
def pl_s408 : ck_Sum := ((2, 0, 0), 249, [.inr (.inr (.inl 1)), .inl (ck_one 3)], ([], [], [(3, 6, 6, (0, 299, [(10, 0)]))]), ([], []), [(.inr (some (.inl (ck_one 0))), 249, ([], [], [])), (.inr (some (.inl (ck_one 1))), 249, ([], [], []))])
set_option maxRecDepth 100000 in
theorem pl_s408_e : ck_ok p2_OL none [] [(28, [pl_s407]), (10, [pl_s204, pl_s218]), (67, [pl_s219])] 66 [] 134 pl_s408 = true := by decide +kernel
theorem pl_s408_s {X : Int → Int} {LX : Nat} : ck_Ok p2_OL X LX 66 pl_s408 := ck_ok_s ⟨pl_nmu, ck_E1 (ck_S1 pl_s407_s ck_S0) (ck_E1 (ck_S1 pl_s204_s (ck_S1 pl_s218_s ck_S0)) (ck_E1 (ck_S1 pl_s219_s ck_S0) ck_E0))⟩ ck_X0 ck_l0 pl_s408_e
set_option maxRecDepth 100000 in
/-- GlacierMail$Rows.put -/
def pl_s409 : ck_Sum := ((0, 0, 0), 249, [.inr (.inr (.inl 10)), .inl (ck_one 3), .inl (ck_one 5), .inl ((-1), 299, [])], ([], [], []), ([(11, 26, 26)], []), [(.inr none, 249, ([], [], []))])
set_option maxRecDepth 100000 in
theorem pl_s409_e : ck_ok p2_OL none [] [] 45 [] 116 pl_s409 = true := by decide +kernel
theorem pl_s409_s {X : Int → Int} {LX : Nat} : ck_Ok p2_OL X LX 45 pl_s409 := ck_ok_s ⟨pl_nmu, ck_E0⟩ ck_X0 ck_l0 pl_s409_e
set_option maxRecDepth 100000 in
/-- GlacierMail$Rows.put -/
def pl_s410 : ck_Sum := ((0, 0, 0), 249, [.inr (.inr (.inl 10)), .inl (ck_one 3), .inl (ck_one 6), .inl (0, 299, [])], ([], [], []), ([(11, 27, 27)], []), [(.inr none, 249, ([], [], []))])
set_option maxRecDepth 100000 in
theorem pl_s410_e : ck_ok p2_OL none [] [] 45 [] 116 pl_s410 = true := by decide +kernel
theorem pl_s410_s {X : Int → Int} {LX : Nat} : ck_Ok p2_OL X LX 45 pl_s410 := ck_ok_s ⟨pl_nmu, ck_E0⟩ ck_X0 ck_l0 pl_s410_e
set_option maxRecDepth 100000 in
/-- GlacierMail$Rows.put -/
def pl_s411 : ck_Sum := ((0, 0, 0), 249, [.inr (.inr (.inl 14)), .inl (0, 23, []), .inl (ck_one 1), .inl (ck_one 3)], ([], [], []), (zl173, []), [(.inr none, 249, ([], [], []))])
set_option maxRecDepth 100000 in
theorem pl_s411_e : ck_ok p2_OL none [] [] 45 [] 116 pl_s411 = true := by decide +kernel
theorem pl_s411_s {X : Int → Int} {LX : Nat} : ck_Ok p2_OL X LX 45 pl_s411 := ck_ok_s ⟨pl_nmu, ck_E0⟩ ck_X0 ck_l0 pl_s411_e
set_option maxRecDepth 100000 in
/-- GlacierMail$Rows.put -/
def pl_s412 : ck_Sum := ((0, 0, 0), 249, [.inr (.inr (.inl 14)), .inl (ck_one (-1)), .inl (ck_one 1), .inl (ck_one 3)], ([], [], []), ([], []), [(.inr none, 249, ([], [], []))])
set_option maxRecDepth 100000 in
theorem pl_s412_e : ck_ok p2_OL none [] [] 45 [] 76 pl_s412 = true := by decide +kernel
theorem pl_s412_s {X : Int → Int} {LX : Nat} : ck_Ok p2_OL X LX 45 pl_s412 := ck_ok_s ⟨pl_nmu, ck_E0⟩ ck_X0 ck_l0 pl_s412_e
set_option maxRecDepth 100000 in
/-- GlacierMail$State.openLetter -/
def pl_s413 : ck_Sum := ((1, 0, 0), 249, [.inr (.inr (.inl 3)), .inl (ck_one 3), .inl ((-1), 299, [])], ([], [], [(3, 6, 6, (0, 299, [(10, 0)]))]), ([(11, 26, 27), (14, 3, 3), (15, 0, 71)], []), [(.inr none, 249, ([], [], [(14, 3, 3, (1, 24, []))]))])
set_option maxRecDepth 100000 in
theorem pl_s413_e : ck_ok p2_OL none [] [(45, [pl_s409, pl_s410, pl_s376, pl_s411, pl_s378, pl_s379, pl_s412, pl_s381]), (102, [pl_s382])] 159 [] 144 pl_s413 = true := by decide +kernel
theorem pl_s413_s {X : Int → Int} {LX : Nat} : ck_Ok p2_OL X LX 159 pl_s413 := ck_ok_s ⟨pl_nmu, ck_E1 (ck_S1 pl_s409_s (ck_S1 pl_s410_s (ck_S1 pl_s376_s (ck_S1 pl_s411_s (ck_S1 pl_s378_s (ck_S1 pl_s379_s (ck_S1 pl_s412_s (ck_S1 pl_s381_s ck_S0)))))))) (ck_E1 (ck_S1 pl_s382_s ck_S0) ck_E0)⟩ ck_X0 ck_l0 pl_s413_e
set_option maxRecDepth 100000 in
/-- GlacierMail.open -/
def pl_s414 : ck_Sum := ((8, 2, 12), 249, [.inr (.inr (.inl 1)), .inl (ck_one 3)], ([], zl230, [(3, 6, 6, (0, 299, [(10, 0)]))]), ([(1, 15, 15), (11, 26, 27), (14, 3, 3), (15, 0, 71), (42, 1, 2), (44, 0, 7), (45, 3, 3), (46, 0, 55), (47, 3, 3), (48, 0, 23), (49, 3, 3), (50, 0, 23), (51, 3, 3), (52, 0, 167), (53, 3, 3), (54, 0, 35), (55, 3, 3), (56, 0, 71), (57, 0, 7), (58, 3, 3), (59, 0, 55), (60, 3, 3), (61, 0, 23), (62, 3, 3), (63, 0, 23), (64, 3, 3), (65, 0, 167), (66, 3, 3), (67, 0, 35), (68, 3, 3), (69, 0, 71), (70, 0, 7), (71, 3, 3), (72, 0, 55), (73, 3, 3), (74, 0, 23), (75, 3, 3), (76, 0, 23), (77, 3, 3), (78, 0, 167), (79, 3, 3), (80, 0, 35), (81, 3, 3), (82, 0, 71), (83, 0, 7), (84, 3, 3), (85, 0, 55), (86, 3, 3), (87, 0, 23), (88, 3, 3), (89, 0, 23), (90, 3, 3), (91, 0, 167), (92, 3, 3), (93, 0, 35), (94, 3, 3), (95, 0, 71), (96, 0, 7), (97, 3, 3), (98, 0, 55), (99, 3, 3), (100, 0, 23), (101, 3, 3), (102, 0, 23), (103, 3, 3), (104, 0, 167), (105, 3, 3), (106, 0, 35), (107, 3, 3), (108, 0, 71), (109, 0, 7), (110, 3, 3), (111, 0, 55), (112, 3, 3), (113, 0, 23), (114, 3, 3), (115, 0, 23), (116, 3, 3), (117, 0, 167), (118, 3, 3), (119, 0, 35), (120, 3, 3), (121, 0, 71), (122, 0, 7), (123, 3, 3), (124, 0, 55), (125, 3, 3), (126, 0, 23), (127, 3, 3), (128, 0, 23), (129, 3, 3), (130, 0, 167), (131, 3, 3), (132, 0, 35), (133, 3, 3), (134, 0, 71), (135, 0, 7), (136, 3, 3), (137, 0, 55), (138, 3, 3), (139, 0, 23), (140, 3, 3), (141, 0, 23), (142, 3, 3), (143, 0, 167), (144, 3, 3), (145, 0, 35), (146, 3, 3), (147, 0, 71), (148, 0, 7), (149, 3, 3), (150, 0, 55), (151, 3, 3), (152, 0, 23), (153, 3, 3), (154, 0, 23), (155, 3, 3), (156, 0, 167), (157, 3, 3), (158, 0, 35), (159, 3, 3), (160, 0, 71), (161, 0, 7), (162, 3, 3), (163, 0, 55), (164, 3, 3), (165, 0, 23), (166, 3, 3), (167, 0, 23), (168, 3, 3), (169, 0, 167), (170, 3, 3), (171, 0, 35), (172, 3, 3), (173, 0, 71), (174, 0, 7), (175, 3, 3), (176, 0, 55), (177, 3, 3), (178, 0, 23), (179, 3, 3), (180, 0, 23), (181, 3, 3), (182, 0, 167), (183, 3, 3), (184, 0, 35), (185, 3, 3), (186, 0, 71), (187, 0, 7), (188, 3, 3), (189, 0, 55), (190, 3, 3), (191, 0, 23), (192, 3, 3), (193, 0, 23), (194, 3, 3), (195, 0, 167), (196, 3, 3), (197, 0, 35), (198, 3, 3), (199, 0, 71), (200, 6, 6), (204, 0, 9), (205, 0, 14849), (206, 2, 8), (220, 3, 3), (221, 0, 47)], zl104), zl245)
set_option maxRecDepth 100000 in
theorem pl_s414_e : ck_ok p2_OL none [] [(143, [pl_s406]), (24, [pl_s217]), (66, [pl_s408]), (154, [pl_s341]), (10, [pl_s204]), (159, [pl_s413])] 158 [] 140 pl_s414 = true := by decide +kernel
theorem pl_s414_s {X : Int → Int} {LX : Nat} : ck_Ok p2_OL X LX 158 pl_s414 := ck_ok_s ⟨pl_nmu, ck_E1 (ck_S1 pl_s406_s ck_S0) (ck_E1 (ck_S1 pl_s217_s ck_S0) (ck_E1 (ck_S1 pl_s408_s ck_S0) (ck_E1 (ck_S1 pl_s341_s ck_S0) (ck_E1 (ck_S1 pl_s204_s ck_S0) (ck_E1 (ck_S1 pl_s413_s ck_S0) ck_E0)))))⟩ ck_X0 ck_l0 pl_s414_e
set_option maxRecDepth 100000 in
/-- GlacierMail.need -/
def pl_s415 : ck_Sum := ((6, 1, 6), 249, [.inr (.inr (.inl 1)), .inl (ck_one 4), .inl (0, 24, [])], ([], [], []), ([], []), [(.inr none, 249, ([], [], [])), (.inl 3, 249, ([], [], []))])
set_option maxRecDepth 100000 in
theorem pl_s415_e : ck_ok p2_OL none [] [] 133 [] 82 pl_s415 = true := by decide +kernel
theorem pl_s415_s {X : Int → Int} {LX : Nat} : ck_Ok p2_OL X LX 133 pl_s415 := ck_ok_s ⟨pl_nmu, ck_E0⟩ ck_X0 ck_l0 pl_s415_e
set_option maxRecDepth 100000 in
/-- GlacierMail.needLetter -/
def pl_s416 : ck_Sum := ((7, 1, 6), 249, [.inr (.inr (.inl 1)), .inl (ck_one 4)], ([], [], []), ([], []), [(.inl 3, 249, ([], [], [])), (.inr none, 249, ([], [], []))])
set_option maxRecDepth 100000 in
theorem pl_s416_e : ck_ok p2_OL none [] [(9, [pl_s200]), (133, [pl_s415])] 143 [] 86 pl_s416 = true := by decide +kernel
theorem pl_s416_s {X : Int → Int} {LX : Nat} : ck_Ok p2_OL X LX 143 pl_s416 := ck_ok_s ⟨pl_nmu, ck_E1 (ck_S1 pl_s200_s ck_S0) (ck_E1 (ck_S1 pl_s415_s ck_S0) ck_E0)⟩ ck_X0 ck_l0 pl_s416_e
set_option maxRecDepth 100000 in
/-- GlacierMail$State.isRock -/
def pl_s417 : ck_Sum := ((1, 0, 0), 249, [.inr (.inr (.inl 3)), .inl (ck_one 4)], ([], [], []), ([], []), [(.inr (some (.inl (ck_one 0))), 249, ([], [], [])), (.inr (some (.inl (ck_one 1))), 249, ([], [], []))])
set_option maxRecDepth 100000 in
theorem pl_s417_e : ck_ok p2_OL none [] [(10, [pl_s204])] 28 [] 90 pl_s417 = true := by decide +kernel
theorem pl_s417_s {X : Int → Int} {LX : Nat} : ck_Ok p2_OL X LX 28 pl_s417 := ck_ok_s ⟨pl_nmu, ck_E1 (ck_S1 pl_s204_s ck_S0) ck_E0⟩ ck_X0 ck_l0 pl_s417_e
set_option maxRecDepth 100000 in
/-- GlacierMail.waits -/
def pl_s418 : ck_Sum := ((2, 0, 0), 249, [.inr (.inr (.inl 1)), .inl (ck_one 4)], ([], [], [(3, 6, 6, (0, 299, [(10, 0)]))]), ([], []), [(.inr (some (.inl (ck_one 0))), 249, ([], [], [])), (.inr (some (.inl (ck_one 1))), 249, ([], [], []))])
set_option maxRecDepth 100000 in
theorem pl_s418_e : ck_ok p2_OL none [] [(28, [pl_s417]), (10, [pl_s204, pl_s218]), (67, [pl_s219])] 66 [] 134 pl_s418 = true := by decide +kernel
theorem pl_s418_s {X : Int → Int} {LX : Nat} : ck_Ok p2_OL X LX 66 pl_s418 := ck_ok_s ⟨pl_nmu, ck_E1 (ck_S1 pl_s417_s ck_S0) (ck_E1 (ck_S1 pl_s204_s (ck_S1 pl_s218_s ck_S0)) (ck_E1 (ck_S1 pl_s219_s ck_S0) ck_E0))⟩ ck_X0 ck_l0 pl_s418_e
set_option maxRecDepth 100000 in
/-- GlacierMail$Rows.put -/
def pl_s419 : ck_Sum := ((0, 0, 0), 249, [.inr (.inr (.inl 10)), .inl (ck_one 4), .inl (ck_one 5), .inl ((-1), 299, [])], ([], [], []), ([(11, 33, 33)], []), [(.inr none, 249, ([], [], []))])
set_option maxRecDepth 100000 in
theorem pl_s419_e : ck_ok p2_OL none [] [] 45 [] 116 pl_s419 = true := by decide +kernel
theorem pl_s419_s {X : Int → Int} {LX : Nat} : ck_Ok p2_OL X LX 45 pl_s419 := ck_ok_s ⟨pl_nmu, ck_E0⟩ ck_X0 ck_l0 pl_s419_e
set_option maxRecDepth 100000 in
/-- GlacierMail$Rows.put -/
def pl_s420 : ck_Sum := ((0, 0, 0), 249, [.inr (.inr (.inl 10)), .inl (ck_one 4), .inl (ck_one 6), .inl (0, 299, [])], ([], [], []), ([(11, 34, 34)], []), [(.inr none, 249, ([], [], []))])
set_option maxRecDepth 100000 in
theorem pl_s420_e : ck_ok p2_OL none [] [] 45 [] 116 pl_s420 = true := by decide +kernel
theorem pl_s420_s {X : Int → Int} {LX : Nat} : ck_Ok p2_OL X LX 45 pl_s420 := ck_ok_s ⟨pl_nmu, ck_E0⟩ ck_X0 ck_l0 pl_s420_e
set_option maxRecDepth 100000 in
/-- GlacierMail$Rows.put -/
def pl_s421 : ck_Sum := ((0, 0, 0), 249, [.inr (.inr (.inl 14)), .inl (0, 23, []), .inl (ck_one 1), .inl (ck_one 4)], ([], [], []), (zl173, []), [(.inr none, 249, ([], [], []))])
set_option maxRecDepth 100000 in
theorem pl_s421_e : ck_ok p2_OL none [] [] 45 [] 116 pl_s421 = true := by decide +kernel
theorem pl_s421_s {X : Int → Int} {LX : Nat} : ck_Ok p2_OL X LX 45 pl_s421 := ck_ok_s ⟨pl_nmu, ck_E0⟩ ck_X0 ck_l0 pl_s421_e
set_option maxRecDepth 100000 in
/-- GlacierMail$Rows.put -/
def pl_s422 : ck_Sum := ((0, 0, 0), 249, [.inr (.inr (.inl 14)), .inl (ck_one (-1)), .inl (ck_one 1), .inl (ck_one 4)], ([], [], []), ([], []), [(.inr none, 249, ([], [], []))])
set_option maxRecDepth 100000 in
theorem pl_s422_e : ck_ok p2_OL none [] [] 45 [] 76 pl_s422 = true := by decide +kernel
theorem pl_s422_s {X : Int → Int} {LX : Nat} : ck_Ok p2_OL X LX 45 pl_s422 := ck_ok_s ⟨pl_nmu, ck_E0⟩ ck_X0 ck_l0 pl_s422_e
set_option maxRecDepth 100000 in
/-- GlacierMail$State.openLetter -/
def pl_s423 : ck_Sum := ((1, 0, 0), 249, [.inr (.inr (.inl 3)), .inl (ck_one 4), .inl ((-1), 299, [])], ([], [], [(3, 6, 6, (0, 299, [(10, 0)]))]), ([(11, 33, 34), (14, 3, 3), (15, 0, 71)], []), [(.inr none, 249, ([], [], [(14, 3, 3, (1, 24, []))]))])
set_option maxRecDepth 100000 in
theorem pl_s423_e : ck_ok p2_OL none [] [(45, [pl_s419, pl_s420, pl_s376, pl_s421, pl_s378, pl_s379, pl_s422, pl_s381]), (102, [pl_s382])] 159 [] 144 pl_s423 = true := by decide +kernel
theorem pl_s423_s {X : Int → Int} {LX : Nat} : ck_Ok p2_OL X LX 159 pl_s423 := ck_ok_s ⟨pl_nmu, ck_E1 (ck_S1 pl_s419_s (ck_S1 pl_s420_s (ck_S1 pl_s376_s (ck_S1 pl_s421_s (ck_S1 pl_s378_s (ck_S1 pl_s379_s (ck_S1 pl_s422_s (ck_S1 pl_s381_s ck_S0)))))))) (ck_E1 (ck_S1 pl_s382_s ck_S0) ck_E0)⟩ ck_X0 ck_l0 pl_s423_e
set_option maxRecDepth 100000 in
/-- GlacierMail.open -/
def pl_s424 : ck_Sum := ((8, 2, 12), 249, [.inr (.inr (.inl 1)), .inl (ck_one 4)], ([], zl230, [(3, 6, 6, (0, 299, [(10, 0)]))]), ([(1, 15, 15), (11, 33, 34), (14, 3, 3), (15, 0, 71), (42, 1, 2), (44, 0, 7), (45, 3, 3), (46, 0, 55), (47, 3, 3), (48, 0, 23), (49, 3, 3), (50, 0, 23), (51, 3, 3), (52, 0, 167), (53, 3, 3), (54, 0, 35), (55, 3, 3), (56, 0, 71), (57, 0, 7), (58, 3, 3), (59, 0, 55), (60, 3, 3), (61, 0, 23), (62, 3, 3), (63, 0, 23), (64, 3, 3), (65, 0, 167), (66, 3, 3), (67, 0, 35), (68, 3, 3), (69, 0, 71), (70, 0, 7), (71, 3, 3), (72, 0, 55), (73, 3, 3), (74, 0, 23), (75, 3, 3), (76, 0, 23), (77, 3, 3), (78, 0, 167), (79, 3, 3), (80, 0, 35), (81, 3, 3), (82, 0, 71), (83, 0, 7), (84, 3, 3), (85, 0, 55), (86, 3, 3), (87, 0, 23), (88, 3, 3), (89, 0, 23), (90, 3, 3), (91, 0, 167), (92, 3, 3), (93, 0, 35), (94, 3, 3), (95, 0, 71), (96, 0, 7), (97, 3, 3), (98, 0, 55), (99, 3, 3), (100, 0, 23), (101, 3, 3), (102, 0, 23), (103, 3, 3), (104, 0, 167), (105, 3, 3), (106, 0, 35), (107, 3, 3), (108, 0, 71), (109, 0, 7), (110, 3, 3), (111, 0, 55), (112, 3, 3), (113, 0, 23), (114, 3, 3), (115, 0, 23), (116, 3, 3), (117, 0, 167), (118, 3, 3), (119, 0, 35), (120, 3, 3), (121, 0, 71), (122, 0, 7), (123, 3, 3), (124, 0, 55), (125, 3, 3), (126, 0, 23), (127, 3, 3), (128, 0, 23), (129, 3, 3), (130, 0, 167), (131, 3, 3), (132, 0, 35), (133, 3, 3), (134, 0, 71), (135, 0, 7), (136, 3, 3), (137, 0, 55), (138, 3, 3), (139, 0, 23), (140, 3, 3), (141, 0, 23), (142, 3, 3), (143, 0, 167), (144, 3, 3), (145, 0, 35), (146, 3, 3), (147, 0, 71), (148, 0, 7), (149, 3, 3), (150, 0, 55), (151, 3, 3), (152, 0, 23), (153, 3, 3), (154, 0, 23), (155, 3, 3), (156, 0, 167), (157, 3, 3), (158, 0, 35), (159, 3, 3), (160, 0, 71), (161, 0, 7), (162, 3, 3), (163, 0, 55), (164, 3, 3), (165, 0, 23), (166, 3, 3), (167, 0, 23), (168, 3, 3), (169, 0, 167), (170, 3, 3), (171, 0, 35), (172, 3, 3), (173, 0, 71), (174, 0, 7), (175, 3, 3), (176, 0, 55), (177, 3, 3), (178, 0, 23), (179, 3, 3), (180, 0, 23), (181, 3, 3), (182, 0, 167), (183, 3, 3), (184, 0, 35), (185, 3, 3), (186, 0, 71), (187, 0, 7), (188, 3, 3), (189, 0, 55), (190, 3, 3), (191, 0, 23), (192, 3, 3), (193, 0, 23), (194, 3, 3), (195, 0, 167), (196, 3, 3), (197, 0, 35), (198, 3, 3), (199, 0, 71), (200, 6, 6), (204, 0, 9), (205, 0, 14849), (206, 2, 8), (220, 3, 3), (221, 0, 47)], zl104), zl245)
set_option maxRecDepth 100000 in
theorem pl_s424_e : ck_ok p2_OL none [] [(143, [pl_s416]), (24, [pl_s217]), (66, [pl_s418]), (154, [pl_s341]), (10, [pl_s204]), (159, [pl_s423])] 158 [] 140 pl_s424 = true := by decide +kernel
theorem pl_s424_s {X : Int → Int} {LX : Nat} : ck_Ok p2_OL X LX 158 pl_s424 := ck_ok_s ⟨pl_nmu, ck_E1 (ck_S1 pl_s416_s ck_S0) (ck_E1 (ck_S1 pl_s217_s ck_S0) (ck_E1 (ck_S1 pl_s418_s ck_S0) (ck_E1 (ck_S1 pl_s341_s ck_S0) (ck_E1 (ck_S1 pl_s204_s ck_S0) (ck_E1 (ck_S1 pl_s423_s ck_S0) ck_E0)))))⟩ ck_X0 ck_l0 pl_s424_e
set_option maxRecDepth 100000 in
/-- GlacierMail.need -/
def pl_s425 : ck_Sum := ((6, 1, 6), 249, [.inr (.inr (.inl 1)), .inl (ck_one 5), .inl (0, 24, [])], ([], [], []), ([], []), [(.inr none, 249, ([], [], [])), (.inl 3, 249, ([], [], []))])
set_option maxRecDepth 100000 in
theorem pl_s425_e : ck_ok p2_OL none [] [] 133 [] 82 pl_s425 = true := by decide +kernel
theorem pl_s425_s {X : Int → Int} {LX : Nat} : ck_Ok p2_OL X LX 133 pl_s425 := ck_ok_s ⟨pl_nmu, ck_E0⟩ ck_X0 ck_l0 pl_s425_e
set_option maxRecDepth 100000 in
/-- GlacierMail.needLetter -/
def pl_s426 : ck_Sum := ((7, 1, 6), 249, [.inr (.inr (.inl 1)), .inl (ck_one 5)], ([], [], []), ([], []), [(.inl 3, 249, ([], [], [])), (.inr none, 249, ([], [], []))])
set_option maxRecDepth 100000 in
theorem pl_s426_e : ck_ok p2_OL none [] [(9, [pl_s200]), (133, [pl_s425])] 143 [] 86 pl_s426 = true := by decide +kernel
theorem pl_s426_s {X : Int → Int} {LX : Nat} : ck_Ok p2_OL X LX 143 pl_s426 := ck_ok_s ⟨pl_nmu, ck_E1 (ck_S1 pl_s200_s ck_S0) (ck_E1 (ck_S1 pl_s425_s ck_S0) ck_E0)⟩ ck_X0 ck_l0 pl_s426_e
set_option maxRecDepth 100000 in
/-- GlacierMail$State.isRock -/
def pl_s427 : ck_Sum := ((1, 0, 0), 249, [.inr (.inr (.inl 3)), .inl (ck_one 5)], ([], [], []), ([], []), [(.inr (some (.inl (ck_one 0))), 249, ([], [], [])), (.inr (some (.inl (ck_one 1))), 249, ([], [], []))])
set_option maxRecDepth 100000 in
theorem pl_s427_e : ck_ok p2_OL none [] [(10, [pl_s204])] 28 [] 90 pl_s427 = true := by decide +kernel
theorem pl_s427_s {X : Int → Int} {LX : Nat} : ck_Ok p2_OL X LX 28 pl_s427 := ck_ok_s ⟨pl_nmu, ck_E1 (ck_S1 pl_s204_s ck_S0) ck_E0⟩ ck_X0 ck_l0 pl_s427_e
set_option maxRecDepth 100000 in
/-- GlacierMail.waits -/
def pl_s428 : ck_Sum := ((2, 0, 0), 249, [.inr (.inr (.inl 1)), .inl (ck_one 5)], ([], [], [(3, 6, 6, (0, 299, [(10, 0)]))]), ([], []), [(.inr (some (.inl (ck_one 0))), 249, ([], [], [])), (.inr (some (.inl (ck_one 1))), 249, ([], [], []))])
set_option maxRecDepth 100000 in
theorem pl_s428_e : ck_ok p2_OL none [] [(28, [pl_s427]), (10, [pl_s204, pl_s218]), (67, [pl_s219])] 66 [] 134 pl_s428 = true := by decide +kernel
theorem pl_s428_s {X : Int → Int} {LX : Nat} : ck_Ok p2_OL X LX 66 pl_s428 := ck_ok_s ⟨pl_nmu, ck_E1 (ck_S1 pl_s427_s ck_S0) (ck_E1 (ck_S1 pl_s204_s (ck_S1 pl_s218_s ck_S0)) (ck_E1 (ck_S1 pl_s219_s ck_S0) ck_E0))⟩ ck_X0 ck_l0 pl_s428_e
set_option maxRecDepth 100000 in
/-- GlacierMail$Rows.put -/
def pl_s429 : ck_Sum := ((0, 0, 0), 249, [.inr (.inr (.inl 10)), .inl (ck_one 5), .inl (ck_one 5), .inl ((-1), 299, [])], ([], [], []), ([(11, 40, 40)], []), [(.inr none, 249, ([], [], []))])
set_option maxRecDepth 100000 in
theorem pl_s429_e : ck_ok p2_OL none [] [] 45 [] 116 pl_s429 = true := by decide +kernel
theorem pl_s429_s {X : Int → Int} {LX : Nat} : ck_Ok p2_OL X LX 45 pl_s429 := ck_ok_s ⟨pl_nmu, ck_E0⟩ ck_X0 ck_l0 pl_s429_e
set_option maxRecDepth 100000 in
/-- GlacierMail$Rows.put -/
def pl_s430 : ck_Sum := ((0, 0, 0), 249, [.inr (.inr (.inl 10)), .inl (ck_one 5), .inl (ck_one 6), .inl (0, 299, [])], ([], [], []), ([(11, 41, 41)], []), [(.inr none, 249, ([], [], []))])
set_option maxRecDepth 100000 in
theorem pl_s430_e : ck_ok p2_OL none [] [] 45 [] 116 pl_s430 = true := by decide +kernel
theorem pl_s430_s {X : Int → Int} {LX : Nat} : ck_Ok p2_OL X LX 45 pl_s430 := ck_ok_s ⟨pl_nmu, ck_E0⟩ ck_X0 ck_l0 pl_s430_e
set_option maxRecDepth 100000 in
/-- GlacierMail$Rows.put -/
def pl_s431 : ck_Sum := ((0, 0, 0), 249, [.inr (.inr (.inl 14)), .inl (0, 23, []), .inl (ck_one 1), .inl (ck_one 5)], ([], [], []), (zl173, []), [(.inr none, 249, ([], [], []))])
set_option maxRecDepth 100000 in
theorem pl_s431_e : ck_ok p2_OL none [] [] 45 [] 116 pl_s431 = true := by decide +kernel
theorem pl_s431_s {X : Int → Int} {LX : Nat} : ck_Ok p2_OL X LX 45 pl_s431 := ck_ok_s ⟨pl_nmu, ck_E0⟩ ck_X0 ck_l0 pl_s431_e
set_option maxRecDepth 100000 in
/-- GlacierMail$Rows.put -/
def pl_s432 : ck_Sum := ((0, 0, 0), 249, [.inr (.inr (.inl 14)), .inl (ck_one (-1)), .inl (ck_one 1), .inl (ck_one 5)], ([], [], []), ([], []), [(.inr none, 249, ([], [], []))])
set_option maxRecDepth 100000 in
theorem pl_s432_e : ck_ok p2_OL none [] [] 45 [] 76 pl_s432 = true := by decide +kernel
theorem pl_s432_s {X : Int → Int} {LX : Nat} : ck_Ok p2_OL X LX 45 pl_s432 := ck_ok_s ⟨pl_nmu, ck_E0⟩ ck_X0 ck_l0 pl_s432_e
set_option maxRecDepth 100000 in
/-- GlacierMail$State.openLetter -/
def pl_s433 : ck_Sum := ((1, 0, 0), 249, [.inr (.inr (.inl 3)), .inl (ck_one 5), .inl ((-1), 299, [])], ([], [], [(3, 6, 6, (0, 299, [(10, 0)]))]), ([(11, 40, 41), (14, 3, 3), (15, 0, 71)], []), [(.inr none, 249, ([], [], [(14, 3, 3, (1, 24, []))]))])
set_option maxRecDepth 100000 in
theorem pl_s433_e : ck_ok p2_OL none [] [(45, [pl_s429, pl_s430, pl_s376, pl_s431, pl_s378, pl_s379, pl_s432, pl_s381]), (102, [pl_s382])] 159 [] 144 pl_s433 = true := by decide +kernel
theorem pl_s433_s {X : Int → Int} {LX : Nat} : ck_Ok p2_OL X LX 159 pl_s433 := ck_ok_s ⟨pl_nmu, ck_E1 (ck_S1 pl_s429_s (ck_S1 pl_s430_s (ck_S1 pl_s376_s (ck_S1 pl_s431_s (ck_S1 pl_s378_s (ck_S1 pl_s379_s (ck_S1 pl_s432_s (ck_S1 pl_s381_s ck_S0)))))))) (ck_E1 (ck_S1 pl_s382_s ck_S0) ck_E0)⟩ ck_X0 ck_l0 pl_s433_e
set_option maxRecDepth 100000 in
/-- GlacierMail.open -/
def pl_s434 : ck_Sum := ((8, 2, 12), 249, [.inr (.inr (.inl 1)), .inl (ck_one 5)], ([], zl230, [(3, 6, 6, (0, 299, [(10, 0)]))]), ([(1, 15, 15), (11, 40, 41), (14, 3, 3), (15, 0, 71), (42, 1, 2), (44, 0, 7), (45, 3, 3), (46, 0, 55), (47, 3, 3), (48, 0, 23), (49, 3, 3), (50, 0, 23), (51, 3, 3), (52, 0, 167), (53, 3, 3), (54, 0, 35), (55, 3, 3), (56, 0, 71), (57, 0, 7), (58, 3, 3), (59, 0, 55), (60, 3, 3), (61, 0, 23), (62, 3, 3), (63, 0, 23), (64, 3, 3), (65, 0, 167), (66, 3, 3), (67, 0, 35), (68, 3, 3), (69, 0, 71), (70, 0, 7), (71, 3, 3), (72, 0, 55), (73, 3, 3), (74, 0, 23), (75, 3, 3), (76, 0, 23), (77, 3, 3), (78, 0, 167), (79, 3, 3), (80, 0, 35), (81, 3, 3), (82, 0, 71), (83, 0, 7), (84, 3, 3), (85, 0, 55), (86, 3, 3), (87, 0, 23), (88, 3, 3), (89, 0, 23), (90, 3, 3), (91, 0, 167), (92, 3, 3), (93, 0, 35), (94, 3, 3), (95, 0, 71), (96, 0, 7), (97, 3, 3), (98, 0, 55), (99, 3, 3), (100, 0, 23), (101, 3, 3), (102, 0, 23), (103, 3, 3), (104, 0, 167), (105, 3, 3), (106, 0, 35), (107, 3, 3), (108, 0, 71), (109, 0, 7), (110, 3, 3), (111, 0, 55), (112, 3, 3), (113, 0, 23), (114, 3, 3), (115, 0, 23), (116, 3, 3), (117, 0, 167), (118, 3, 3), (119, 0, 35), (120, 3, 3), (121, 0, 71), (122, 0, 7), (123, 3, 3), (124, 0, 55), (125, 3, 3), (126, 0, 23), (127, 3, 3), (128, 0, 23), (129, 3, 3), (130, 0, 167), (131, 3, 3), (132, 0, 35), (133, 3, 3), (134, 0, 71), (135, 0, 7), (136, 3, 3), (137, 0, 55), (138, 3, 3), (139, 0, 23), (140, 3, 3), (141, 0, 23), (142, 3, 3), (143, 0, 167), (144, 3, 3), (145, 0, 35), (146, 3, 3), (147, 0, 71), (148, 0, 7), (149, 3, 3), (150, 0, 55), (151, 3, 3), (152, 0, 23), (153, 3, 3), (154, 0, 23), (155, 3, 3), (156, 0, 167), (157, 3, 3), (158, 0, 35), (159, 3, 3), (160, 0, 71), (161, 0, 7), (162, 3, 3), (163, 0, 55), (164, 3, 3), (165, 0, 23), (166, 3, 3), (167, 0, 23), (168, 3, 3), (169, 0, 167), (170, 3, 3), (171, 0, 35), (172, 3, 3), (173, 0, 71), (174, 0, 7), (175, 3, 3), (176, 0, 55), (177, 3, 3), (178, 0, 23), (179, 3, 3), (180, 0, 23), (181, 3, 3), (182, 0, 167), (183, 3, 3), (184, 0, 35), (185, 3, 3), (186, 0, 71), (187, 0, 7), (188, 3, 3), (189, 0, 55), (190, 3, 3), (191, 0, 23), (192, 3, 3), (193, 0, 23), (194, 3, 3), (195, 0, 167), (196, 3, 3), (197, 0, 35), (198, 3, 3), (199, 0, 71), (200, 6, 6), (204, 0, 9), (205, 0, 14849), (206, 2, 8), (220, 3, 3), (221, 0, 47)], zl104), zl245)
set_option maxRecDepth 100000 in
theorem pl_s434_e : ck_ok p2_OL none [] [(143, [pl_s426]), (24, [pl_s217]), (66, [pl_s428]), (154, [pl_s341]), (10, [pl_s204]), (159, [pl_s433])] 158 [] 140 pl_s434 = true := by decide +kernel
theorem pl_s434_s {X : Int → Int} {LX : Nat} : ck_Ok p2_OL X LX 158 pl_s434 := ck_ok_s ⟨pl_nmu, ck_E1 (ck_S1 pl_s426_s ck_S0) (ck_E1 (ck_S1 pl_s217_s ck_S0) (ck_E1 (ck_S1 pl_s428_s ck_S0) (ck_E1 (ck_S1 pl_s341_s ck_S0) (ck_E1 (ck_S1 pl_s204_s ck_S0) (ck_E1 (ck_S1 pl_s433_s ck_S0) ck_E0)))))⟩ ck_X0 ck_l0 pl_s434_e
set_option maxRecDepth 100000 in
/-- GlacierMail.need -/
def pl_s435 : ck_Sum := ((6, 1, 6), 249, [.inr (.inr (.inl 1)), .inl (ck_one 6), .inl (0, 24, [])], ([], [], []), ([], []), [(.inr none, 249, ([], [], [])), (.inl 3, 249, ([], [], []))])
set_option maxRecDepth 100000 in
theorem pl_s435_e : ck_ok p2_OL none [] [] 133 [] 82 pl_s435 = true := by decide +kernel
theorem pl_s435_s {X : Int → Int} {LX : Nat} : ck_Ok p2_OL X LX 133 pl_s435 := ck_ok_s ⟨pl_nmu, ck_E0⟩ ck_X0 ck_l0 pl_s435_e
set_option maxRecDepth 100000 in
/-- GlacierMail.needLetter -/
def pl_s436 : ck_Sum := ((7, 1, 6), 249, [.inr (.inr (.inl 1)), .inl (ck_one 6)], ([], [], []), ([], []), [(.inl 3, 249, ([], [], [])), (.inr none, 249, ([], [], []))])
set_option maxRecDepth 100000 in
theorem pl_s436_e : ck_ok p2_OL none [] [(9, [pl_s200]), (133, [pl_s435])] 143 [] 86 pl_s436 = true := by decide +kernel
theorem pl_s436_s {X : Int → Int} {LX : Nat} : ck_Ok p2_OL X LX 143 pl_s436 := ck_ok_s ⟨pl_nmu, ck_E1 (ck_S1 pl_s200_s ck_S0) (ck_E1 (ck_S1 pl_s435_s ck_S0) ck_E0)⟩ ck_X0 ck_l0 pl_s436_e
set_option maxRecDepth 100000 in
/-- GlacierMail$State.isRock -/
def pl_s437 : ck_Sum := ((1, 0, 0), 249, [.inr (.inr (.inl 3)), .inl (ck_one 6)], ([], [], []), ([], []), [(.inr (some (.inl (ck_one 0))), 249, ([], [], [])), (.inr (some (.inl (ck_one 1))), 249, ([], [], []))])
set_option maxRecDepth 100000 in
theorem pl_s437_e : ck_ok p2_OL none [] [(10, [pl_s204])] 28 [] 90 pl_s437 = true := by decide +kernel
theorem pl_s437_s {X : Int → Int} {LX : Nat} : ck_Ok p2_OL X LX 28 pl_s437 := ck_ok_s ⟨pl_nmu, ck_E1 (ck_S1 pl_s204_s ck_S0) ck_E0⟩ ck_X0 ck_l0 pl_s437_e
set_option maxRecDepth 100000 in
/-- GlacierMail.waits -/
def pl_s438 : ck_Sum := ((2, 0, 0), 249, [.inr (.inr (.inl 1)), .inl (ck_one 6)], ([], [], [(3, 6, 6, (0, 299, [(10, 0)]))]), ([], []), [(.inr (some (.inl (ck_one 0))), 249, ([], [], [])), (.inr (some (.inl (ck_one 1))), 249, ([], [], []))])
set_option maxRecDepth 100000 in
theorem pl_s438_e : ck_ok p2_OL none [] [(28, [pl_s437]), (10, [pl_s204, pl_s218]), (67, [pl_s219])] 66 [] 134 pl_s438 = true := by decide +kernel
theorem pl_s438_s {X : Int → Int} {LX : Nat} : ck_Ok p2_OL X LX 66 pl_s438 := ck_ok_s ⟨pl_nmu, ck_E1 (ck_S1 pl_s437_s ck_S0) (ck_E1 (ck_S1 pl_s204_s (ck_S1 pl_s218_s ck_S0)) (ck_E1 (ck_S1 pl_s219_s ck_S0) ck_E0))⟩ ck_X0 ck_l0 pl_s438_e
set_option maxRecDepth 100000 in
/-- GlacierMail$Rows.put -/
def pl_s439 : ck_Sum := ((0, 0, 0), 249, [.inr (.inr (.inl 10)), .inl (ck_one 6), .inl (ck_one 5), .inl ((-1), 299, [])], ([], [], []), ([(11, 47, 47)], []), [(.inr none, 249, ([], [], []))])
set_option maxRecDepth 100000 in
theorem pl_s439_e : ck_ok p2_OL none [] [] 45 [] 116 pl_s439 = true := by decide +kernel
theorem pl_s439_s {X : Int → Int} {LX : Nat} : ck_Ok p2_OL X LX 45 pl_s439 := ck_ok_s ⟨pl_nmu, ck_E0⟩ ck_X0 ck_l0 pl_s439_e
set_option maxRecDepth 100000 in
/-- GlacierMail$Rows.put -/
def pl_s440 : ck_Sum := ((0, 0, 0), 249, [.inr (.inr (.inl 10)), .inl (ck_one 6), .inl (ck_one 6), .inl (0, 299, [])], ([], [], []), ([(11, 48, 48)], []), [(.inr none, 249, ([], [], []))])
set_option maxRecDepth 100000 in
theorem pl_s440_e : ck_ok p2_OL none [] [] 45 [] 116 pl_s440 = true := by decide +kernel
theorem pl_s440_s {X : Int → Int} {LX : Nat} : ck_Ok p2_OL X LX 45 pl_s440 := ck_ok_s ⟨pl_nmu, ck_E0⟩ ck_X0 ck_l0 pl_s440_e
set_option maxRecDepth 100000 in
/-- GlacierMail$Rows.put -/
def pl_s441 : ck_Sum := ((0, 0, 0), 249, [.inr (.inr (.inl 14)), .inl (0, 23, []), .inl (ck_one 1), .inl (ck_one 6)], ([], [], []), (zl173, []), [(.inr none, 249, ([], [], []))])
set_option maxRecDepth 100000 in
theorem pl_s441_e : ck_ok p2_OL none [] [] 45 [] 116 pl_s441 = true := by decide +kernel
theorem pl_s441_s {X : Int → Int} {LX : Nat} : ck_Ok p2_OL X LX 45 pl_s441 := ck_ok_s ⟨pl_nmu, ck_E0⟩ ck_X0 ck_l0 pl_s441_e
set_option maxRecDepth 100000 in
/-- GlacierMail$Rows.put -/
def pl_s442 : ck_Sum := ((0, 0, 0), 249, [.inr (.inr (.inl 14)), .inl (ck_one (-1)), .inl (ck_one 1), .inl (ck_one 6)], ([], [], []), ([], []), [(.inr none, 249, ([], [], []))])
set_option maxRecDepth 100000 in
theorem pl_s442_e : ck_ok p2_OL none [] [] 45 [] 76 pl_s442 = true := by decide +kernel
theorem pl_s442_s {X : Int → Int} {LX : Nat} : ck_Ok p2_OL X LX 45 pl_s442 := ck_ok_s ⟨pl_nmu, ck_E0⟩ ck_X0 ck_l0 pl_s442_e
set_option maxRecDepth 100000 in
/-- GlacierMail$State.openLetter -/
def pl_s443 : ck_Sum := ((1, 0, 0), 249, [.inr (.inr (.inl 3)), .inl (ck_one 6), .inl ((-1), 299, [])], ([], [], [(3, 6, 6, (0, 299, [(10, 0)]))]), ([(11, 47, 48), (14, 3, 3), (15, 0, 71)], []), [(.inr none, 249, ([], [], [(14, 3, 3, (1, 24, []))]))])
set_option maxRecDepth 100000 in
theorem pl_s443_e : ck_ok p2_OL none [] [(45, [pl_s439, pl_s440, pl_s376, pl_s441, pl_s378, pl_s379, pl_s442, pl_s381]), (102, [pl_s382])] 159 [] 144 pl_s443 = true := by decide +kernel
theorem pl_s443_s {X : Int → Int} {LX : Nat} : ck_Ok p2_OL X LX 159 pl_s443 := ck_ok_s ⟨pl_nmu, ck_E1 (ck_S1 pl_s439_s (ck_S1 pl_s440_s (ck_S1 pl_s376_s (ck_S1 pl_s441_s (ck_S1 pl_s378_s (ck_S1 pl_s379_s (ck_S1 pl_s442_s (ck_S1 pl_s381_s ck_S0)))))))) (ck_E1 (ck_S1 pl_s382_s ck_S0) ck_E0)⟩ ck_X0 ck_l0 pl_s443_e
set_option maxRecDepth 100000 in
/-- GlacierMail.open -/
def pl_s444 : ck_Sum := ((8, 2, 12), 249, [.inr (.inr (.inl 1)), .inl (ck_one 6)], ([], zl230, [(3, 6, 6, (0, 299, [(10, 0)]))]), ([(1, 15, 15), (11, 47, 48), (14, 3, 3), (15, 0, 71), (42, 1, 2), (44, 0, 7), (45, 3, 3), (46, 0, 55), (47, 3, 3), (48, 0, 23), (49, 3, 3), (50, 0, 23), (51, 3, 3), (52, 0, 167), (53, 3, 3), (54, 0, 35), (55, 3, 3), (56, 0, 71), (57, 0, 7), (58, 3, 3), (59, 0, 55), (60, 3, 3), (61, 0, 23), (62, 3, 3), (63, 0, 23), (64, 3, 3), (65, 0, 167), (66, 3, 3), (67, 0, 35), (68, 3, 3), (69, 0, 71), (70, 0, 7), (71, 3, 3), (72, 0, 55), (73, 3, 3), (74, 0, 23), (75, 3, 3), (76, 0, 23), (77, 3, 3), (78, 0, 167), (79, 3, 3), (80, 0, 35), (81, 3, 3), (82, 0, 71), (83, 0, 7), (84, 3, 3), (85, 0, 55), (86, 3, 3), (87, 0, 23), (88, 3, 3), (89, 0, 23), (90, 3, 3), (91, 0, 167), (92, 3, 3), (93, 0, 35), (94, 3, 3), (95, 0, 71), (96, 0, 7), (97, 3, 3), (98, 0, 55), (99, 3, 3), (100, 0, 23), (101, 3, 3), (102, 0, 23), (103, 3, 3), (104, 0, 167), (105, 3, 3), (106, 0, 35), (107, 3, 3), (108, 0, 71), (109, 0, 7), (110, 3, 3), (111, 0, 55), (112, 3, 3), (113, 0, 23), (114, 3, 3), (115, 0, 23), (116, 3, 3), (117, 0, 167), (118, 3, 3), (119, 0, 35), (120, 3, 3), (121, 0, 71), (122, 0, 7), (123, 3, 3), (124, 0, 55), (125, 3, 3), (126, 0, 23), (127, 3, 3), (128, 0, 23), (129, 3, 3), (130, 0, 167), (131, 3, 3), (132, 0, 35), (133, 3, 3), (134, 0, 71), (135, 0, 7), (136, 3, 3), (137, 0, 55), (138, 3, 3), (139, 0, 23), (140, 3, 3), (141, 0, 23), (142, 3, 3), (143, 0, 167), (144, 3, 3), (145, 0, 35), (146, 3, 3), (147, 0, 71), (148, 0, 7), (149, 3, 3), (150, 0, 55), (151, 3, 3), (152, 0, 23), (153, 3, 3), (154, 0, 23), (155, 3, 3), (156, 0, 167), (157, 3, 3), (158, 0, 35), (159, 3, 3), (160, 0, 71), (161, 0, 7), (162, 3, 3), (163, 0, 55), (164, 3, 3), (165, 0, 23), (166, 3, 3), (167, 0, 23), (168, 3, 3), (169, 0, 167), (170, 3, 3), (171, 0, 35), (172, 3, 3), (173, 0, 71), (174, 0, 7), (175, 3, 3), (176, 0, 55), (177, 3, 3), (178, 0, 23), (179, 3, 3), (180, 0, 23), (181, 3, 3), (182, 0, 167), (183, 3, 3), (184, 0, 35), (185, 3, 3), (186, 0, 71), (187, 0, 7), (188, 3, 3), (189, 0, 55), (190, 3, 3), (191, 0, 23), (192, 3, 3), (193, 0, 23), (194, 3, 3), (195, 0, 167), (196, 3, 3), (197, 0, 35), (198, 3, 3), (199, 0, 71), (200, 6, 6), (204, 0, 9), (205, 0, 14849), (206, 2, 8), (220, 3, 3), (221, 0, 47)], zl104), zl245)
set_option maxRecDepth 100000 in
theorem pl_s444_e : ck_ok p2_OL none [] [(143, [pl_s436]), (24, [pl_s217]), (66, [pl_s438]), (154, [pl_s341]), (10, [pl_s204]), (159, [pl_s443])] 158 [] 140 pl_s444 = true := by decide +kernel
theorem pl_s444_s {X : Int → Int} {LX : Nat} : ck_Ok p2_OL X LX 158 pl_s444 := ck_ok_s ⟨pl_nmu, ck_E1 (ck_S1 pl_s436_s ck_S0) (ck_E1 (ck_S1 pl_s217_s ck_S0) (ck_E1 (ck_S1 pl_s438_s ck_S0) (ck_E1 (ck_S1 pl_s341_s ck_S0) (ck_E1 (ck_S1 pl_s204_s ck_S0) (ck_E1 (ck_S1 pl_s443_s ck_S0) ck_E0)))))⟩ ck_X0 ck_l0 pl_s444_e
set_option maxRecDepth 100000 in
/-- GlacierMail.need -/
def pl_s445 : ck_Sum := ((6, 1, 6), 249, [.inr (.inr (.inl 1)), .inl (ck_one 7), .inl (0, 24, [])], ([], [], []), ([], []), [(.inr none, 249, ([], [], [])), (.inl 3, 249, ([], [], []))])
set_option maxRecDepth 100000 in
theorem pl_s445_e : ck_ok p2_OL none [] [] 133 [] 82 pl_s445 = true := by decide +kernel
theorem pl_s445_s {X : Int → Int} {LX : Nat} : ck_Ok p2_OL X LX 133 pl_s445 := ck_ok_s ⟨pl_nmu, ck_E0⟩ ck_X0 ck_l0 pl_s445_e
set_option maxRecDepth 100000 in
/-- GlacierMail.needLetter -/
def pl_s446 : ck_Sum := ((7, 1, 6), 249, [.inr (.inr (.inl 1)), .inl (ck_one 7)], ([], [], []), ([], []), [(.inl 3, 249, ([], [], [])), (.inr none, 249, ([], [], []))])
set_option maxRecDepth 100000 in
theorem pl_s446_e : ck_ok p2_OL none [] [(9, [pl_s200]), (133, [pl_s445])] 143 [] 86 pl_s446 = true := by decide +kernel
theorem pl_s446_s {X : Int → Int} {LX : Nat} : ck_Ok p2_OL X LX 143 pl_s446 := ck_ok_s ⟨pl_nmu, ck_E1 (ck_S1 pl_s200_s ck_S0) (ck_E1 (ck_S1 pl_s445_s ck_S0) ck_E0)⟩ ck_X0 ck_l0 pl_s446_e
set_option maxRecDepth 100000 in
/-- GlacierMail$State.isRock -/
def pl_s447 : ck_Sum := ((1, 0, 0), 249, [.inr (.inr (.inl 3)), .inl (ck_one 7)], ([], [], []), ([], []), [(.inr (some (.inl (ck_one 0))), 249, ([], [], [])), (.inr (some (.inl (ck_one 1))), 249, ([], [], []))])
set_option maxRecDepth 100000 in
theorem pl_s447_e : ck_ok p2_OL none [] [(10, [pl_s204])] 28 [] 90 pl_s447 = true := by decide +kernel
theorem pl_s447_s {X : Int → Int} {LX : Nat} : ck_Ok p2_OL X LX 28 pl_s447 := ck_ok_s ⟨pl_nmu, ck_E1 (ck_S1 pl_s204_s ck_S0) ck_E0⟩ ck_X0 ck_l0 pl_s447_e
set_option maxRecDepth 100000 in
/-- GlacierMail.waits -/
def pl_s448 : ck_Sum := ((2, 0, 0), 249, [.inr (.inr (.inl 1)), .inl (ck_one 7)], ([], [], [(3, 6, 6, (0, 299, [(10, 0)]))]), ([], []), [(.inr (some (.inl (ck_one 0))), 249, ([], [], [])), (.inr (some (.inl (ck_one 1))), 249, ([], [], []))])
set_option maxRecDepth 100000 in
theorem pl_s448_e : ck_ok p2_OL none [] [(28, [pl_s447]), (10, [pl_s204, pl_s218]), (67, [pl_s219])] 66 [] 134 pl_s448 = true := by decide +kernel
theorem pl_s448_s {X : Int → Int} {LX : Nat} : ck_Ok p2_OL X LX 66 pl_s448 := ck_ok_s ⟨pl_nmu, ck_E1 (ck_S1 pl_s447_s ck_S0) (ck_E1 (ck_S1 pl_s204_s (ck_S1 pl_s218_s ck_S0)) (ck_E1 (ck_S1 pl_s219_s ck_S0) ck_E0))⟩ ck_X0 ck_l0 pl_s448_e
set_option maxRecDepth 100000 in
/-- GlacierMail$Rows.put -/
def pl_s449 : ck_Sum := ((0, 0, 0), 249, [.inr (.inr (.inl 10)), .inl (ck_one 7), .inl (ck_one 5), .inl ((-1), 299, [])], ([], [], []), ([(11, 54, 54)], []), [(.inr none, 249, ([], [], []))])
set_option maxRecDepth 100000 in
theorem pl_s449_e : ck_ok p2_OL none [] [] 45 [] 116 pl_s449 = true := by decide +kernel
theorem pl_s449_s {X : Int → Int} {LX : Nat} : ck_Ok p2_OL X LX 45 pl_s449 := ck_ok_s ⟨pl_nmu, ck_E0⟩ ck_X0 ck_l0 pl_s449_e
set_option maxRecDepth 100000 in
/-- GlacierMail$Rows.put -/
def pl_s450 : ck_Sum := ((0, 0, 0), 249, [.inr (.inr (.inl 10)), .inl (ck_one 7), .inl (ck_one 6), .inl (0, 299, [])], ([], [], []), ([(11, 55, 55)], []), [(.inr none, 249, ([], [], []))])
set_option maxRecDepth 100000 in
theorem pl_s450_e : ck_ok p2_OL none [] [] 45 [] 116 pl_s450 = true := by decide +kernel
theorem pl_s450_s {X : Int → Int} {LX : Nat} : ck_Ok p2_OL X LX 45 pl_s450 := ck_ok_s ⟨pl_nmu, ck_E0⟩ ck_X0 ck_l0 pl_s450_e
end
