/-! EVERY CALL ENDS, whatever was done before (laid by wip/am/p2k.py). -/
set_option maxRecDepth 100000 in
/-- GlacierMail$State.copyFrom -/
def p2_s451 : ck_Sum := ((2, 0, 0), 245, [.inr (.inr (.inl 57)), .inr (.inr (.inl 3))], ([], [(3, 8, 0), (57, 8, 100057)], [(3, 6, 6, (0, 299, [(10, 0)]))]), ([(57, 0, 7), (58, 3, 3), (59, 0, 55), (60, 3, 3), (61, 0, 23), (62, 3, 3), (63, 0, 23), (64, 3, 3), (65, 0, 167), (66, 3, 3), (67, 0, 35), (68, 3, 3), (69, 0, 71)], [(57, 8)]), [(.inr none, 245, ([], [(57, 8, 0)], [(57, 6, 6, (0, 299, [(10, 0)]))]))])
set_option maxRecDepth 100000 in
theorem p2_s451_e : ck_ok p2_O none [] [(58, [p2_s445, p2_s446, p2_s447, p2_s448, p2_s449, p2_s450])] 57 [] 204 p2_s451 = true := by decide +kernel
theorem p2_s451_s {X : Int → Int} {LX : Nat} : ck_Ok p2_O X LX 57 p2_s451 := ck_ok_s ⟨p2_nmu, ck_E1 (ck_S1 p2_s445_s (ck_S1 p2_s446_s (ck_S1 p2_s447_s (ck_S1 p2_s448_s (ck_S1 p2_s449_s (ck_S1 p2_s450_s ck_S0)))))) ck_E0⟩ ck_X0 ck_l0 p2_s451_e
set_option maxRecDepth 100000 in
/-- GlacierMail$Rows.copyFrom -/
def p2_s452 : ck_Sum := ((1, 0, 0), 245, [.inr (.inr (.inl 71)), .inr (.inr (.inl 4))], ([], [], []), ([(71, 3, 3), (72, 0, 55)], []), [(.inr none, 245, ([], [], []))])
set_option maxRecDepth 100000 in
theorem p2_s452_e : ck_ok p2_O none [] [] 58 [] 114 p2_s452 = true := by decide +kernel
theorem p2_s452_s {X : Int → Int} {LX : Nat} : ck_Ok p2_O X LX 58 p2_s452 := ck_ok_s ⟨p2_nmu, ck_E0⟩ ck_X0 ck_l0 p2_s452_e
set_option maxRecDepth 100000 in
/-- GlacierMail$Rows.copyFrom -/
def p2_s453 : ck_Sum := ((1, 0, 0), 245, [.inr (.inr (.inl 73)), .inr (.inr (.inl 6))], ([], [], []), ([(73, 3, 3), (74, 0, 23)], []), [(.inr none, 245, ([], [], []))])
set_option maxRecDepth 100000 in
theorem p2_s453_e : ck_ok p2_O none [] [] 58 [] 114 p2_s453 = true := by decide +kernel
theorem p2_s453_s {X : Int → Int} {LX : Nat} : ck_Ok p2_O X LX 58 p2_s453 := ck_ok_s ⟨p2_nmu, ck_E0⟩ ck_X0 ck_l0 p2_s453_e
set_option maxRecDepth 100000 in
/-- GlacierMail$Rows.copyFrom -/
def p2_s454 : ck_Sum := ((1, 0, 0), 245, [.inr (.inr (.inl 75)), .inr (.inr (.inl 8))], ([], [], []), ([(75, 3, 3), (76, 0, 23)], []), [(.inr none, 245, ([], [], []))])
set_option maxRecDepth 100000 in
theorem p2_s454_e : ck_ok p2_O none [] [] 58 [] 114 p2_s454 = true := by decide +kernel
theorem p2_s454_s {X : Int → Int} {LX : Nat} : ck_Ok p2_O X LX 58 p2_s454 := ck_ok_s ⟨p2_nmu, ck_E0⟩ ck_X0 ck_l0 p2_s454_e
set_option maxRecDepth 100000 in
/-- GlacierMail$Rows.copyFrom -/
def p2_s455 : ck_Sum := ((1, 0, 0), 245, [.inr (.inr (.inl 77)), .inr (.inr (.inl 10))], ([], [], []), ([(77, 3, 3), (78, 0, 167)], []), [(.inr none, 245, ([], [], []))])
set_option maxRecDepth 100000 in
theorem p2_s455_e : ck_ok p2_O none [] [] 58 [] 114 p2_s455 = true := by decide +kernel
theorem p2_s455_s {X : Int → Int} {LX : Nat} : ck_Ok p2_O X LX 58 p2_s455 := ck_ok_s ⟨p2_nmu, ck_E0⟩ ck_X0 ck_l0 p2_s455_e
set_option maxRecDepth 100000 in
/-- GlacierMail$Rows.copyFrom -/
def p2_s456 : ck_Sum := ((1, 0, 0), 245, [.inr (.inr (.inl 79)), .inr (.inr (.inl 12))], ([], [], []), ([(79, 3, 3), (80, 0, 35)], []), [(.inr none, 245, ([], [], []))])
set_option maxRecDepth 100000 in
theorem p2_s456_e : ck_ok p2_O none [] [] 58 [] 114 p2_s456 = true := by decide +kernel
theorem p2_s456_s {X : Int → Int} {LX : Nat} : ck_Ok p2_O X LX 58 p2_s456 := ck_ok_s ⟨p2_nmu, ck_E0⟩ ck_X0 ck_l0 p2_s456_e
set_option maxRecDepth 100000 in
/-- GlacierMail$Rows.copyFrom -/
def p2_s457 : ck_Sum := ((1, 0, 0), 245, [.inr (.inr (.inl 81)), .inr (.inr (.inl 14))], ([], [], []), ([(81, 3, 3), (82, 0, 71)], []), [(.inr none, 245, ([], [], []))])
set_option maxRecDepth 100000 in
theorem p2_s457_e : ck_ok p2_O none [] [] 58 [] 114 p2_s457 = true := by decide +kernel
theorem p2_s457_s {X : Int → Int} {LX : Nat} : ck_Ok p2_O X LX 58 p2_s457 := ck_ok_s ⟨p2_nmu, ck_E0⟩ ck_X0 ck_l0 p2_s457_e
set_option maxRecDepth 100000 in
/-- GlacierMail$State.copyFrom -/
def p2_s458 : ck_Sum := ((2, 0, 0), 245, [.inr (.inr (.inl 70)), .inr (.inr (.inl 3))], ([], [(3, 8, 0), (70, 8, 100070)], [(3, 6, 6, (0, 299, [(10, 0)]))]), ([(70, 0, 7), (71, 3, 3), (72, 0, 55), (73, 3, 3), (74, 0, 23), (75, 3, 3), (76, 0, 23), (77, 3, 3), (78, 0, 167), (79, 3, 3), (80, 0, 35), (81, 3, 3), (82, 0, 71)], [(70, 8)]), [(.inr none, 245, ([], [(70, 8, 0)], [(70, 6, 6, (0, 299, [(10, 0)]))]))])
set_option maxRecDepth 100000 in
theorem p2_s458_e : ck_ok p2_O none [] [(58, [p2_s452, p2_s453, p2_s454, p2_s455, p2_s456, p2_s457])] 57 [] 204 p2_s458 = true := by decide +kernel
theorem p2_s458_s {X : Int → Int} {LX : Nat} : ck_Ok p2_O X LX 57 p2_s458 := ck_ok_s ⟨p2_nmu, ck_E1 (ck_S1 p2_s452_s (ck_S1 p2_s453_s (ck_S1 p2_s454_s (ck_S1 p2_s455_s (ck_S1 p2_s456_s (ck_S1 p2_s457_s ck_S0)))))) ck_E0⟩ ck_X0 ck_l0 p2_s458_e
set_option maxRecDepth 100000 in
/-- GlacierMail$Rows.copyFrom -/
def p2_s459 : ck_Sum := ((1, 0, 0), 245, [.inr (.inr (.inl 84)), .inr (.inr (.inl 4))], ([], [], []), ([(84, 3, 3), (85, 0, 55)], []), [(.inr none, 245, ([], [], []))])
set_option maxRecDepth 100000 in
theorem p2_s459_e : ck_ok p2_O none [] [] 58 [] 114 p2_s459 = true := by decide +kernel
theorem p2_s459_s {X : Int → Int} {LX : Nat} : ck_Ok p2_O X LX 58 p2_s459 := ck_ok_s ⟨p2_nmu, ck_E0⟩ ck_X0 ck_l0 p2_s459_e
set_option maxRecDepth 100000 in
/-- GlacierMail$Rows.copyFrom -/
def p2_s460 : ck_Sum := ((1, 0, 0), 245, [.inr (.inr (.inl 86)), .inr (.inr (.inl 6))], ([], [], []), ([(86, 3, 3), (87, 0, 23)], []), [(.inr none, 245, ([], [], []))])
set_option maxRecDepth 100000 in
theorem p2_s460_e : ck_ok p2_O none [] [] 58 [] 114 p2_s460 = true := by decide +kernel
theorem p2_s460_s {X : Int → Int} {LX : Nat} : ck_Ok p2_O X LX 58 p2_s460 := ck_ok_s ⟨p2_nmu, ck_E0⟩ ck_X0 ck_l0 p2_s460_e
set_option maxRecDepth 100000 in
/-- GlacierMail$Rows.copyFrom -/
def p2_s461 : ck_Sum := ((1, 0, 0), 245, [.inr (.inr (.inl 88)), .inr (.inr (.inl 8))], ([], [], []), ([(88, 3, 3), (89, 0, 23)], []), [(.inr none, 245, ([], [], []))])
set_option maxRecDepth 100000 in
theorem p2_s461_e : ck_ok p2_O none [] [] 58 [] 114 p2_s461 = true := by decide +kernel
theorem p2_s461_s {X : Int → Int} {LX : Nat} : ck_Ok p2_O X LX 58 p2_s461 := ck_ok_s ⟨p2_nmu, ck_E0⟩ ck_X0 ck_l0 p2_s461_e
set_option maxRecDepth 100000 in
/-- GlacierMail$Rows.copyFrom -/
def p2_s462 : ck_Sum := ((1, 0, 0), 245, [.inr (.inr (.inl 90)), .inr (.inr (.inl 10))], ([], [], []), ([(90, 3, 3), (91, 0, 167)], []), [(.inr none, 245, ([], [], []))])
set_option maxRecDepth 100000 in
theorem p2_s462_e : ck_ok p2_O none [] [] 58 [] 114 p2_s462 = true := by decide +kernel
theorem p2_s462_s {X : Int → Int} {LX : Nat} : ck_Ok p2_O X LX 58 p2_s462 := ck_ok_s ⟨p2_nmu, ck_E0⟩ ck_X0 ck_l0 p2_s462_e
set_option maxRecDepth 100000 in
/-- GlacierMail$Rows.copyFrom -/
def p2_s463 : ck_Sum := ((1, 0, 0), 245, [.inr (.inr (.inl 92)), .inr (.inr (.inl 12))], ([], [], []), ([(92, 3, 3), (93, 0, 35)], []), [(.inr none, 245, ([], [], []))])
set_option maxRecDepth 100000 in
theorem p2_s463_e : ck_ok p2_O none [] [] 58 [] 114 p2_s463 = true := by decide +kernel
theorem p2_s463_s {X : Int → Int} {LX : Nat} : ck_Ok p2_O X LX 58 p2_s463 := ck_ok_s ⟨p2_nmu, ck_E0⟩ ck_X0 ck_l0 p2_s463_e
set_option maxRecDepth 100000 in
/-- GlacierMail$Rows.copyFrom -/
def p2_s464 : ck_Sum := ((1, 0, 0), 245, [.inr (.inr (.inl 94)), .inr (.inr (.inl 14))], ([], [], []), ([(94, 3, 3), (95, 0, 71)], []), [(.inr none, 245, ([], [], []))])
set_option maxRecDepth 100000 in
theorem p2_s464_e : ck_ok p2_O none [] [] 58 [] 114 p2_s464 = true := by decide +kernel
theorem p2_s464_s {X : Int → Int} {LX : Nat} : ck_Ok p2_O X LX 58 p2_s464 := ck_ok_s ⟨p2_nmu, ck_E0⟩ ck_X0 ck_l0 p2_s464_e
set_option maxRecDepth 100000 in
/-- GlacierMail$State.copyFrom -/
def p2_s465 : ck_Sum := ((2, 0, 0), 245, [.inr (.inr (.inl 83)), .inr (.inr (.inl 3))], ([], [(3, 8, 0), (83, 8, 100083)], [(3, 6, 6, (0, 299, [(10, 0)]))]), ([(83, 0, 7), (84, 3, 3), (85, 0, 55), (86, 3, 3), (87, 0, 23), (88, 3, 3), (89, 0, 23), (90, 3, 3), (91, 0, 167), (92, 3, 3), (93, 0, 35), (94, 3, 3), (95, 0, 71)], [(83, 8)]), [(.inr none, 245, ([], [(83, 8, 0)], [(83, 6, 6, (0, 299, [(10, 0)]))]))])
set_option maxRecDepth 100000 in
theorem p2_s465_e : ck_ok p2_O none [] [(58, [p2_s459, p2_s460, p2_s461, p2_s462, p2_s463, p2_s464])] 57 [] 204 p2_s465 = true := by decide +kernel
theorem p2_s465_s {X : Int → Int} {LX : Nat} : ck_Ok p2_O X LX 57 p2_s465 := ck_ok_s ⟨p2_nmu, ck_E1 (ck_S1 p2_s459_s (ck_S1 p2_s460_s (ck_S1 p2_s461_s (ck_S1 p2_s462_s (ck_S1 p2_s463_s (ck_S1 p2_s464_s ck_S0)))))) ck_E0⟩ ck_X0 ck_l0 p2_s465_e
set_option maxRecDepth 100000 in
/-- GlacierMail$Rows.copyFrom -/
def p2_s466 : ck_Sum := ((1, 0, 0), 245, [.inr (.inr (.inl 97)), .inr (.inr (.inl 4))], ([], [], []), ([(97, 3, 3), (98, 0, 55)], []), [(.inr none, 245, ([], [], []))])
set_option maxRecDepth 100000 in
theorem p2_s466_e : ck_ok p2_O none [] [] 58 [] 114 p2_s466 = true := by decide +kernel
theorem p2_s466_s {X : Int → Int} {LX : Nat} : ck_Ok p2_O X LX 58 p2_s466 := ck_ok_s ⟨p2_nmu, ck_E0⟩ ck_X0 ck_l0 p2_s466_e
set_option maxRecDepth 100000 in
/-- GlacierMail$Rows.copyFrom -/
def p2_s467 : ck_Sum := ((1, 0, 0), 245, [.inr (.inr (.inl 99)), .inr (.inr (.inl 6))], ([], [], []), ([(99, 3, 3), (100, 0, 23)], []), [(.inr none, 245, ([], [], []))])
set_option maxRecDepth 100000 in
theorem p2_s467_e : ck_ok p2_O none [] [] 58 [] 114 p2_s467 = true := by decide +kernel
theorem p2_s467_s {X : Int → Int} {LX : Nat} : ck_Ok p2_O X LX 58 p2_s467 := ck_ok_s ⟨p2_nmu, ck_E0⟩ ck_X0 ck_l0 p2_s467_e
set_option maxRecDepth 100000 in
/-- GlacierMail$Rows.copyFrom -/
def p2_s468 : ck_Sum := ((1, 0, 0), 245, [.inr (.inr (.inl 101)), .inr (.inr (.inl 8))], ([], [], []), ([(101, 3, 3), (102, 0, 23)], []), [(.inr none, 245, ([], [], []))])
set_option maxRecDepth 100000 in
theorem p2_s468_e : ck_ok p2_O none [] [] 58 [] 114 p2_s468 = true := by decide +kernel
theorem p2_s468_s {X : Int → Int} {LX : Nat} : ck_Ok p2_O X LX 58 p2_s468 := ck_ok_s ⟨p2_nmu, ck_E0⟩ ck_X0 ck_l0 p2_s468_e
set_option maxRecDepth 100000 in
/-- GlacierMail$Rows.copyFrom -/
def p2_s469 : ck_Sum := ((1, 0, 0), 245, [.inr (.inr (.inl 103)), .inr (.inr (.inl 10))], ([], [], []), ([(103, 3, 3), (104, 0, 167)], []), [(.inr none, 245, ([], [], []))])
set_option maxRecDepth 100000 in
theorem p2_s469_e : ck_ok p2_O none [] [] 58 [] 114 p2_s469 = true := by decide +kernel
theorem p2_s469_s {X : Int → Int} {LX : Nat} : ck_Ok p2_O X LX 58 p2_s469 := ck_ok_s ⟨p2_nmu, ck_E0⟩ ck_X0 ck_l0 p2_s469_e
set_option maxRecDepth 100000 in
/-- GlacierMail$Rows.copyFrom -/
def p2_s470 : ck_Sum := ((1, 0, 0), 245, [.inr (.inr (.inl 105)), .inr (.inr (.inl 12))], ([], [], []), ([(105, 3, 3), (106, 0, 35)], []), [(.inr none, 245, ([], [], []))])
set_option maxRecDepth 100000 in
theorem p2_s470_e : ck_ok p2_O none [] [] 58 [] 114 p2_s470 = true := by decide +kernel
theorem p2_s470_s {X : Int → Int} {LX : Nat} : ck_Ok p2_O X LX 58 p2_s470 := ck_ok_s ⟨p2_nmu, ck_E0⟩ ck_X0 ck_l0 p2_s470_e
set_option maxRecDepth 100000 in
/-- GlacierMail$Rows.copyFrom -/
def p2_s471 : ck_Sum := ((1, 0, 0), 245, [.inr (.inr (.inl 107)), .inr (.inr (.inl 14))], ([], [], []), ([(107, 3, 3), (108, 0, 71)], []), [(.inr none, 245, ([], [], []))])
set_option maxRecDepth 100000 in
theorem p2_s471_e : ck_ok p2_O none [] [] 58 [] 114 p2_s471 = true := by decide +kernel
theorem p2_s471_s {X : Int → Int} {LX : Nat} : ck_Ok p2_O X LX 58 p2_s471 := ck_ok_s ⟨p2_nmu, ck_E0⟩ ck_X0 ck_l0 p2_s471_e
set_option maxRecDepth 100000 in
/-- GlacierMail$State.copyFrom -/
def p2_s472 : ck_Sum := ((2, 0, 0), 245, [.inr (.inr (.inl 96)), .inr (.inr (.inl 3))], ([], [(3, 8, 0), (96, 8, 100096)], [(3, 6, 6, (0, 299, [(10, 0)]))]), ([(96, 0, 7), (97, 3, 3), (98, 0, 55), (99, 3, 3), (100, 0, 23), (101, 3, 3), (102, 0, 23), (103, 3, 3), (104, 0, 167), (105, 3, 3), (106, 0, 35), (107, 3, 3), (108, 0, 71)], [(96, 8)]), [(.inr none, 245, ([], [(96, 8, 0)], [(96, 6, 6, (0, 299, [(10, 0)]))]))])
set_option maxRecDepth 100000 in
theorem p2_s472_e : ck_ok p2_O none [] [(58, [p2_s466, p2_s467, p2_s468, p2_s469, p2_s470, p2_s471])] 57 [] 204 p2_s472 = true := by decide +kernel
theorem p2_s472_s {X : Int → Int} {LX : Nat} : ck_Ok p2_O X LX 57 p2_s472 := ck_ok_s ⟨p2_nmu, ck_E1 (ck_S1 p2_s466_s (ck_S1 p2_s467_s (ck_S1 p2_s468_s (ck_S1 p2_s469_s (ck_S1 p2_s470_s (ck_S1 p2_s471_s ck_S0)))))) ck_E0⟩ ck_X0 ck_l0 p2_s472_e
set_option maxRecDepth 100000 in
/-- GlacierMail$Rows.copyFrom -/
def p2_s473 : ck_Sum := ((1, 0, 0), 245, [.inr (.inr (.inl 110)), .inr (.inr (.inl 4))], ([], [], []), ([(110, 3, 3), (111, 0, 55)], []), [(.inr none, 245, ([], [], []))])
set_option maxRecDepth 100000 in
theorem p2_s473_e : ck_ok p2_O none [] [] 58 [] 114 p2_s473 = true := by decide +kernel
theorem p2_s473_s {X : Int → Int} {LX : Nat} : ck_Ok p2_O X LX 58 p2_s473 := ck_ok_s ⟨p2_nmu, ck_E0⟩ ck_X0 ck_l0 p2_s473_e
set_option maxRecDepth 100000 in
/-- GlacierMail$Rows.copyFrom -/
def p2_s474 : ck_Sum := ((1, 0, 0), 245, [.inr (.inr (.inl 112)), .inr (.inr (.inl 6))], ([], [], []), ([(112, 3, 3), (113, 0, 23)], []), [(.inr none, 245, ([], [], []))])
set_option maxRecDepth 100000 in
theorem p2_s474_e : ck_ok p2_O none [] [] 58 [] 114 p2_s474 = true := by decide +kernel
theorem p2_s474_s {X : Int → Int} {LX : Nat} : ck_Ok p2_O X LX 58 p2_s474 := ck_ok_s ⟨p2_nmu, ck_E0⟩ ck_X0 ck_l0 p2_s474_e
set_option maxRecDepth 100000 in
/-- GlacierMail$Rows.copyFrom -/
def p2_s475 : ck_Sum := ((1, 0, 0), 245, [.inr (.inr (.inl 114)), .inr (.inr (.inl 8))], ([], [], []), ([(114, 3, 3), (115, 0, 23)], []), [(.inr none, 245, ([], [], []))])
set_option maxRecDepth 100000 in
theorem p2_s475_e : ck_ok p2_O none [] [] 58 [] 114 p2_s475 = true := by decide +kernel
theorem p2_s475_s {X : Int → Int} {LX : Nat} : ck_Ok p2_O X LX 58 p2_s475 := ck_ok_s ⟨p2_nmu, ck_E0⟩ ck_X0 ck_l0 p2_s475_e
set_option maxRecDepth 100000 in
/-- GlacierMail$Rows.copyFrom -/
def p2_s476 : ck_Sum := ((1, 0, 0), 245, [.inr (.inr (.inl 116)), .inr (.inr (.inl 10))], ([], [], []), ([(116, 3, 3), (117, 0, 167)], []), [(.inr none, 245, ([], [], []))])
set_option maxRecDepth 100000 in
theorem p2_s476_e : ck_ok p2_O none [] [] 58 [] 114 p2_s476 = true := by decide +kernel
theorem p2_s476_s {X : Int → Int} {LX : Nat} : ck_Ok p2_O X LX 58 p2_s476 := ck_ok_s ⟨p2_nmu, ck_E0⟩ ck_X0 ck_l0 p2_s476_e
set_option maxRecDepth 100000 in
/-- GlacierMail$Rows.copyFrom -/
def p2_s477 : ck_Sum := ((1, 0, 0), 245, [.inr (.inr (.inl 118)), .inr (.inr (.inl 12))], ([], [], []), ([(118, 3, 3), (119, 0, 35)], []), [(.inr none, 245, ([], [], []))])
set_option maxRecDepth 100000 in
theorem p2_s477_e : ck_ok p2_O none [] [] 58 [] 114 p2_s477 = true := by decide +kernel
theorem p2_s477_s {X : Int → Int} {LX : Nat} : ck_Ok p2_O X LX 58 p2_s477 := ck_ok_s ⟨p2_nmu, ck_E0⟩ ck_X0 ck_l0 p2_s477_e
set_option maxRecDepth 100000 in
/-- GlacierMail$Rows.copyFrom -/
def p2_s478 : ck_Sum := ((1, 0, 0), 245, [.inr (.inr (.inl 120)), .inr (.inr (.inl 14))], ([], [], []), ([(120, 3, 3), (121, 0, 71)], []), [(.inr none, 245, ([], [], []))])
set_option maxRecDepth 100000 in
theorem p2_s478_e : ck_ok p2_O none [] [] 58 [] 114 p2_s478 = true := by decide +kernel
theorem p2_s478_s {X : Int → Int} {LX : Nat} : ck_Ok p2_O X LX 58 p2_s478 := ck_ok_s ⟨p2_nmu, ck_E0⟩ ck_X0 ck_l0 p2_s478_e
set_option maxRecDepth 100000 in
/-- GlacierMail$State.copyFrom -/
def p2_s479 : ck_Sum := ((2, 0, 0), 245, [.inr (.inr (.inl 109)), .inr (.inr (.inl 3))], ([], [(3, 8, 0), (109, 8, 100109)], [(3, 6, 6, (0, 299, [(10, 0)]))]), ([(109, 0, 7), (110, 3, 3), (111, 0, 55), (112, 3, 3), (113, 0, 23), (114, 3, 3), (115, 0, 23), (116, 3, 3), (117, 0, 167), (118, 3, 3), (119, 0, 35), (120, 3, 3), (121, 0, 71)], [(109, 8)]), [(.inr none, 245, ([], [(109, 8, 0)], [(109, 6, 6, (0, 299, [(10, 0)]))]))])
set_option maxRecDepth 100000 in
theorem p2_s479_e : ck_ok p2_O none [] [(58, [p2_s473, p2_s474, p2_s475, p2_s476, p2_s477, p2_s478])] 57 [] 204 p2_s479 = true := by decide +kernel
theorem p2_s479_s {X : Int → Int} {LX : Nat} : ck_Ok p2_O X LX 57 p2_s479 := ck_ok_s ⟨p2_nmu, ck_E1 (ck_S1 p2_s473_s (ck_S1 p2_s474_s (ck_S1 p2_s475_s (ck_S1 p2_s476_s (ck_S1 p2_s477_s (ck_S1 p2_s478_s ck_S0)))))) ck_E0⟩ ck_X0 ck_l0 p2_s479_e
set_option maxRecDepth 100000 in
/-- GlacierMail$Rows.copyFrom -/
def p2_s480 : ck_Sum := ((1, 0, 0), 245, [.inr (.inr (.inl 123)), .inr (.inr (.inl 4))], ([], [], []), ([(123, 3, 3), (124, 0, 55)], []), [(.inr none, 245, ([], [], []))])
set_option maxRecDepth 100000 in
theorem p2_s480_e : ck_ok p2_O none [] [] 58 [] 114 p2_s480 = true := by decide +kernel
theorem p2_s480_s {X : Int → Int} {LX : Nat} : ck_Ok p2_O X LX 58 p2_s480 := ck_ok_s ⟨p2_nmu, ck_E0⟩ ck_X0 ck_l0 p2_s480_e
set_option maxRecDepth 100000 in
/-- GlacierMail$Rows.copyFrom -/
def p2_s481 : ck_Sum := ((1, 0, 0), 245, [.inr (.inr (.inl 125)), .inr (.inr (.inl 6))], ([], [], []), ([(125, 3, 3), (126, 0, 23)], []), [(.inr none, 245, ([], [], []))])
set_option maxRecDepth 100000 in
theorem p2_s481_e : ck_ok p2_O none [] [] 58 [] 114 p2_s481 = true := by decide +kernel
theorem p2_s481_s {X : Int → Int} {LX : Nat} : ck_Ok p2_O X LX 58 p2_s481 := ck_ok_s ⟨p2_nmu, ck_E0⟩ ck_X0 ck_l0 p2_s481_e
set_option maxRecDepth 100000 in
/-- GlacierMail$Rows.copyFrom -/
def p2_s482 : ck_Sum := ((1, 0, 0), 245, [.inr (.inr (.inl 127)), .inr (.inr (.inl 8))], ([], [], []), ([(127, 3, 3), (128, 0, 23)], []), [(.inr none, 245, ([], [], []))])
set_option maxRecDepth 100000 in
theorem p2_s482_e : ck_ok p2_O none [] [] 58 [] 114 p2_s482 = true := by decide +kernel
theorem p2_s482_s {X : Int → Int} {LX : Nat} : ck_Ok p2_O X LX 58 p2_s482 := ck_ok_s ⟨p2_nmu, ck_E0⟩ ck_X0 ck_l0 p2_s482_e
set_option maxRecDepth 100000 in
/-- GlacierMail$Rows.copyFrom -/
def p2_s483 : ck_Sum := ((1, 0, 0), 245, [.inr (.inr (.inl 129)), .inr (.inr (.inl 10))], ([], [], []), ([(129, 3, 3), (130, 0, 167)], []), [(.inr none, 245, ([], [], []))])
set_option maxRecDepth 100000 in
theorem p2_s483_e : ck_ok p2_O none [] [] 58 [] 114 p2_s483 = true := by decide +kernel
theorem p2_s483_s {X : Int → Int} {LX : Nat} : ck_Ok p2_O X LX 58 p2_s483 := ck_ok_s ⟨p2_nmu, ck_E0⟩ ck_X0 ck_l0 p2_s483_e
set_option maxRecDepth 100000 in
/-- GlacierMail$Rows.copyFrom -/
def p2_s484 : ck_Sum := ((1, 0, 0), 245, [.inr (.inr (.inl 131)), .inr (.inr (.inl 12))], ([], [], []), ([(131, 3, 3), (132, 0, 35)], []), [(.inr none, 245, ([], [], []))])
set_option maxRecDepth 100000 in
theorem p2_s484_e : ck_ok p2_O none [] [] 58 [] 114 p2_s484 = true := by decide +kernel
theorem p2_s484_s {X : Int → Int} {LX : Nat} : ck_Ok p2_O X LX 58 p2_s484 := ck_ok_s ⟨p2_nmu, ck_E0⟩ ck_X0 ck_l0 p2_s484_e
set_option maxRecDepth 100000 in
/-- GlacierMail$Rows.copyFrom -/
def p2_s485 : ck_Sum := ((1, 0, 0), 245, [.inr (.inr (.inl 133)), .inr (.inr (.inl 14))], ([], [], []), ([(133, 3, 3), (134, 0, 71)], []), [(.inr none, 245, ([], [], []))])
set_option maxRecDepth 100000 in
theorem p2_s485_e : ck_ok p2_O none [] [] 58 [] 114 p2_s485 = true := by decide +kernel
theorem p2_s485_s {X : Int → Int} {LX : Nat} : ck_Ok p2_O X LX 58 p2_s485 := ck_ok_s ⟨p2_nmu, ck_E0⟩ ck_X0 ck_l0 p2_s485_e
set_option maxRecDepth 100000 in
/-- GlacierMail$State.copyFrom -/
def p2_s486 : ck_Sum := ((2, 0, 0), 245, [.inr (.inr (.inl 122)), .inr (.inr (.inl 3))], ([], [(3, 8, 0), (122, 8, 100122)], [(3, 6, 6, (0, 299, [(10, 0)]))]), ([(122, 0, 7), (123, 3, 3), (124, 0, 55), (125, 3, 3), (126, 0, 23), (127, 3, 3), (128, 0, 23), (129, 3, 3), (130, 0, 167), (131, 3, 3), (132, 0, 35), (133, 3, 3), (134, 0, 71)], [(122, 8)]), [(.inr none, 245, ([], [(122, 8, 0)], [(122, 6, 6, (0, 299, [(10, 0)]))]))])
set_option maxRecDepth 100000 in
theorem p2_s486_e : ck_ok p2_O none [] [(58, [p2_s480, p2_s481, p2_s482, p2_s483, p2_s484, p2_s485])] 57 [] 204 p2_s486 = true := by decide +kernel
theorem p2_s486_s {X : Int → Int} {LX : Nat} : ck_Ok p2_O X LX 57 p2_s486 := ck_ok_s ⟨p2_nmu, ck_E1 (ck_S1 p2_s480_s (ck_S1 p2_s481_s (ck_S1 p2_s482_s (ck_S1 p2_s483_s (ck_S1 p2_s484_s (ck_S1 p2_s485_s ck_S0)))))) ck_E0⟩ ck_X0 ck_l0 p2_s486_e
set_option maxRecDepth 100000 in
/-- GlacierMail$Rows.copyFrom -/
def p2_s487 : ck_Sum := ((1, 0, 0), 245, [.inr (.inr (.inl 136)), .inr (.inr (.inl 4))], ([], [], []), ([(136, 3, 3), (137, 0, 55)], []), [(.inr none, 245, ([], [], []))])
set_option maxRecDepth 100000 in
theorem p2_s487_e : ck_ok p2_O none [] [] 58 [] 114 p2_s487 = true := by decide +kernel
theorem p2_s487_s {X : Int → Int} {LX : Nat} : ck_Ok p2_O X LX 58 p2_s487 := ck_ok_s ⟨p2_nmu, ck_E0⟩ ck_X0 ck_l0 p2_s487_e
set_option maxRecDepth 100000 in
/-- GlacierMail$Rows.copyFrom -/
def p2_s488 : ck_Sum := ((1, 0, 0), 245, [.inr (.inr (.inl 138)), .inr (.inr (.inl 6))], ([], [], []), ([(138, 3, 3), (139, 0, 23)], []), [(.inr none, 245, ([], [], []))])
set_option maxRecDepth 100000 in
theorem p2_s488_e : ck_ok p2_O none [] [] 58 [] 114 p2_s488 = true := by decide +kernel
theorem p2_s488_s {X : Int → Int} {LX : Nat} : ck_Ok p2_O X LX 58 p2_s488 := ck_ok_s ⟨p2_nmu, ck_E0⟩ ck_X0 ck_l0 p2_s488_e
set_option maxRecDepth 100000 in
/-- GlacierMail$Rows.copyFrom -/
def p2_s489 : ck_Sum := ((1, 0, 0), 245, [.inr (.inr (.inl 140)), .inr (.inr (.inl 8))], ([], [], []), ([(140, 3, 3), (141, 0, 23)], []), [(.inr none, 245, ([], [], []))])
set_option maxRecDepth 100000 in
theorem p2_s489_e : ck_ok p2_O none [] [] 58 [] 114 p2_s489 = true := by decide +kernel
theorem p2_s489_s {X : Int → Int} {LX : Nat} : ck_Ok p2_O X LX 58 p2_s489 := ck_ok_s ⟨p2_nmu, ck_E0⟩ ck_X0 ck_l0 p2_s489_e
set_option maxRecDepth 100000 in
/-- GlacierMail$Rows.copyFrom -/
def p2_s490 : ck_Sum := ((1, 0, 0), 245, [.inr (.inr (.inl 142)), .inr (.inr (.inl 10))], ([], [], []), ([(142, 3, 3), (143, 0, 167)], []), [(.inr none, 245, ([], [], []))])
set_option maxRecDepth 100000 in
theorem p2_s490_e : ck_ok p2_O none [] [] 58 [] 114 p2_s490 = true := by decide +kernel
theorem p2_s490_s {X : Int → Int} {LX : Nat} : ck_Ok p2_O X LX 58 p2_s490 := ck_ok_s ⟨p2_nmu, ck_E0⟩ ck_X0 ck_l0 p2_s490_e
set_option maxRecDepth 100000 in
/-- GlacierMail$Rows.copyFrom -/
def p2_s491 : ck_Sum := ((1, 0, 0), 245, [.inr (.inr (.inl 144)), .inr (.inr (.inl 12))], ([], [], []), ([(144, 3, 3), (145, 0, 35)], []), [(.inr none, 245, ([], [], []))])
set_option maxRecDepth 100000 in
theorem p2_s491_e : ck_ok p2_O none [] [] 58 [] 114 p2_s491 = true := by decide +kernel
theorem p2_s491_s {X : Int → Int} {LX : Nat} : ck_Ok p2_O X LX 58 p2_s491 := ck_ok_s ⟨p2_nmu, ck_E0⟩ ck_X0 ck_l0 p2_s491_e
set_option maxRecDepth 100000 in
/-- GlacierMail$Rows.copyFrom -/
def p2_s492 : ck_Sum := ((1, 0, 0), 245, [.inr (.inr (.inl 146)), .inr (.inr (.inl 14))], ([], [], []), ([(146, 3, 3), (147, 0, 71)], []), [(.inr none, 245, ([], [], []))])
set_option maxRecDepth 100000 in
theorem p2_s492_e : ck_ok p2_O none [] [] 58 [] 114 p2_s492 = true := by decide +kernel
theorem p2_s492_s {X : Int → Int} {LX : Nat} : ck_Ok p2_O X LX 58 p2_s492 := ck_ok_s ⟨p2_nmu, ck_E0⟩ ck_X0 ck_l0 p2_s492_e
set_option maxRecDepth 100000 in
/-- GlacierMail$State.copyFrom -/
def p2_s493 : ck_Sum := ((2, 0, 0), 245, [.inr (.inr (.inl 135)), .inr (.inr (.inl 3))], ([], [(3, 8, 0), (135, 8, 100135)], [(3, 6, 6, (0, 299, [(10, 0)]))]), ([(135, 0, 7), (136, 3, 3), (137, 0, 55), (138, 3, 3), (139, 0, 23), (140, 3, 3), (141, 0, 23), (142, 3, 3), (143, 0, 167), (144, 3, 3), (145, 0, 35), (146, 3, 3), (147, 0, 71)], [(135, 8)]), [(.inr none, 245, ([], [(135, 8, 0)], [(135, 6, 6, (0, 299, [(10, 0)]))]))])
set_option maxRecDepth 100000 in
theorem p2_s493_e : ck_ok p2_O none [] [(58, [p2_s487, p2_s488, p2_s489, p2_s490, p2_s491, p2_s492])] 57 [] 204 p2_s493 = true := by decide +kernel
theorem p2_s493_s {X : Int → Int} {LX : Nat} : ck_Ok p2_O X LX 57 p2_s493 := ck_ok_s ⟨p2_nmu, ck_E1 (ck_S1 p2_s487_s (ck_S1 p2_s488_s (ck_S1 p2_s489_s (ck_S1 p2_s490_s (ck_S1 p2_s491_s (ck_S1 p2_s492_s ck_S0)))))) ck_E0⟩ ck_X0 ck_l0 p2_s493_e
set_option maxRecDepth 100000 in
/-- GlacierMail$Rows.copyFrom -/
def p2_s494 : ck_Sum := ((1, 0, 0), 245, [.inr (.inr (.inl 149)), .inr (.inr (.inl 4))], ([], [], []), ([(149, 3, 3), (150, 0, 55)], []), [(.inr none, 245, ([], [], []))])
set_option maxRecDepth 100000 in
theorem p2_s494_e : ck_ok p2_O none [] [] 58 [] 114 p2_s494 = true := by decide +kernel
theorem p2_s494_s {X : Int → Int} {LX : Nat} : ck_Ok p2_O X LX 58 p2_s494 := ck_ok_s ⟨p2_nmu, ck_E0⟩ ck_X0 ck_l0 p2_s494_e
set_option maxRecDepth 100000 in
/-- GlacierMail$Rows.copyFrom -/
def p2_s495 : ck_Sum := ((1, 0, 0), 245, [.inr (.inr (.inl 151)), .inr (.inr (.inl 6))], ([], [], []), ([(151, 3, 3), (152, 0, 23)], []), [(.inr none, 245, ([], [], []))])
set_option maxRecDepth 100000 in
theorem p2_s495_e : ck_ok p2_O none [] [] 58 [] 114 p2_s495 = true := by decide +kernel
theorem p2_s495_s {X : Int → Int} {LX : Nat} : ck_Ok p2_O X LX 58 p2_s495 := ck_ok_s ⟨p2_nmu, ck_E0⟩ ck_X0 ck_l0 p2_s495_e
set_option maxRecDepth 100000 in
/-- GlacierMail$Rows.copyFrom -/
def p2_s496 : ck_Sum := ((1, 0, 0), 245, [.inr (.inr (.inl 153)), .inr (.inr (.inl 8))], ([], [], []), ([(153, 3, 3), (154, 0, 23)], []), [(.inr none, 245, ([], [], []))])
set_option maxRecDepth 100000 in
theorem p2_s496_e : ck_ok p2_O none [] [] 58 [] 114 p2_s496 = true := by decide +kernel
theorem p2_s496_s {X : Int → Int} {LX : Nat} : ck_Ok p2_O X LX 58 p2_s496 := ck_ok_s ⟨p2_nmu, ck_E0⟩ ck_X0 ck_l0 p2_s496_e
set_option maxRecDepth 100000 in
/-- GlacierMail$Rows.copyFrom -/
def p2_s497 : ck_Sum := ((1, 0, 0), 245, [.inr (.inr (.inl 155)), .inr (.inr (.inl 10))], ([], [], []), ([(155, 3, 3), (156, 0, 167)], []), [(.inr none, 245, ([], [], []))])
set_option maxRecDepth 100000 in
theorem p2_s497_e : ck_ok p2_O none [] [] 58 [] 114 p2_s497 = true := by decide +kernel
theorem p2_s497_s {X : Int → Int} {LX : Nat} : ck_Ok p2_O X LX 58 p2_s497 := ck_ok_s ⟨p2_nmu, ck_E0⟩ ck_X0 ck_l0 p2_s497_e
set_option maxRecDepth 100000 in
/-- GlacierMail$Rows.copyFrom -/
def p2_s498 : ck_Sum := ((1, 0, 0), 245, [.inr (.inr (.inl 157)), .inr (.inr (.inl 12))], ([], [], []), ([(157, 3, 3), (158, 0, 35)], []), [(.inr none, 245, ([], [], []))])
set_option maxRecDepth 100000 in
theorem p2_s498_e : ck_ok p2_O none [] [] 58 [] 114 p2_s498 = true := by decide +kernel
theorem p2_s498_s {X : Int → Int} {LX : Nat} : ck_Ok p2_O X LX 58 p2_s498 := ck_ok_s ⟨p2_nmu, ck_E0⟩ ck_X0 ck_l0 p2_s498_e
set_option maxRecDepth 100000 in
/-- GlacierMail$Rows.copyFrom -/
def p2_s499 : ck_Sum := ((1, 0, 0), 245, [.inr (.inr (.inl 159)), .inr (.inr (.inl 14))], ([], [], []), ([(159, 3, 3), (160, 0, 71)], []), [(.inr none, 245, ([], [], []))])
set_option maxRecDepth 100000 in
theorem p2_s499_e : ck_ok p2_O none [] [] 58 [] 114 p2_s499 = true := by decide +kernel
theorem p2_s499_s {X : Int → Int} {LX : Nat} : ck_Ok p2_O X LX 58 p2_s499 := ck_ok_s ⟨p2_nmu, ck_E0⟩ ck_X0 ck_l0 p2_s499_e
set_option maxRecDepth 100000 in
/-- GlacierMail$State.copyFrom -/
def p2_s500 : ck_Sum := ((2, 0, 0), 245, [.inr (.inr (.inl 148)), .inr (.inr (.inl 3))], ([], [(3, 8, 0), (148, 8, 100148)], [(3, 6, 6, (0, 299, [(10, 0)]))]), ([(148, 0, 7), (149, 3, 3), (150, 0, 55), (151, 3, 3), (152, 0, 23), (153, 3, 3), (154, 0, 23), (155, 3, 3), (156, 0, 167), (157, 3, 3), (158, 0, 35), (159, 3, 3), (160, 0, 71)], [(148, 8)]), [(.inr none, 245, ([], [(148, 8, 0)], [(148, 6, 6, (0, 299, [(10, 0)]))]))])
set_option maxRecDepth 100000 in
theorem p2_s500_e : ck_ok p2_O none [] [(58, [p2_s494, p2_s495, p2_s496, p2_s497, p2_s498, p2_s499])] 57 [] 204 p2_s500 = true := by decide +kernel
theorem p2_s500_s {X : Int → Int} {LX : Nat} : ck_Ok p2_O X LX 57 p2_s500 := ck_ok_s ⟨p2_nmu, ck_E1 (ck_S1 p2_s494_s (ck_S1 p2_s495_s (ck_S1 p2_s496_s (ck_S1 p2_s497_s (ck_S1 p2_s498_s (ck_S1 p2_s499_s ck_S0)))))) ck_E0⟩ ck_X0 ck_l0 p2_s500_e
set_option maxRecDepth 100000 in
/-- GlacierMail$Rows.copyFrom -/
def p2_s501 : ck_Sum := ((1, 0, 0), 245, [.inr (.inr (.inl 162)), .inr (.inr (.inl 4))], ([], [], []), ([(162, 3, 3), (163, 0, 55)], []), [(.inr none, 245, ([], [], []))])
set_option maxRecDepth 100000 in
theorem p2_s501_e : ck_ok p2_O none [] [] 58 [] 114 p2_s501 = true := by decide +kernel
theorem p2_s501_s {X : Int → Int} {LX : Nat} : ck_Ok p2_O X LX 58 p2_s501 := ck_ok_s ⟨p2_nmu, ck_E0⟩ ck_X0 ck_l0 p2_s501_e
set_option maxRecDepth 100000 in
/-- GlacierMail$Rows.copyFrom -/
def p2_s502 : ck_Sum := ((1, 0, 0), 245, [.inr (.inr (.inl 164)), .inr (.inr (.inl 6))], ([], [], []), ([(164, 3, 3), (165, 0, 23)], []), [(.inr none, 245, ([], [], []))])
set_option maxRecDepth 100000 in
theorem p2_s502_e : ck_ok p2_O none [] [] 58 [] 114 p2_s502 = true := by decide +kernel
theorem p2_s502_s {X : Int → Int} {LX : Nat} : ck_Ok p2_O X LX 58 p2_s502 := ck_ok_s ⟨p2_nmu, ck_E0⟩ ck_X0 ck_l0 p2_s502_e
set_option maxRecDepth 100000 in
/-- GlacierMail$Rows.copyFrom -/
def p2_s503 : ck_Sum := ((1, 0, 0), 245, [.inr (.inr (.inl 166)), .inr (.inr (.inl 8))], ([], [], []), ([(166, 3, 3), (167, 0, 23)], []), [(.inr none, 245, ([], [], []))])
set_option maxRecDepth 100000 in
theorem p2_s503_e : ck_ok p2_O none [] [] 58 [] 114 p2_s503 = true := by decide +kernel
theorem p2_s503_s {X : Int → Int} {LX : Nat} : ck_Ok p2_O X LX 58 p2_s503 := ck_ok_s ⟨p2_nmu, ck_E0⟩ ck_X0 ck_l0 p2_s503_e
set_option maxRecDepth 100000 in
/-- GlacierMail$Rows.copyFrom -/
def p2_s504 : ck_Sum := ((1, 0, 0), 245, [.inr (.inr (.inl 168)), .inr (.inr (.inl 10))], ([], [], []), ([(168, 3, 3), (169, 0, 167)], []), [(.inr none, 245, ([], [], []))])
set_option maxRecDepth 100000 in
theorem p2_s504_e : ck_ok p2_O none [] [] 58 [] 114 p2_s504 = true := by decide +kernel
theorem p2_s504_s {X : Int → Int} {LX : Nat} : ck_Ok p2_O X LX 58 p2_s504 := ck_ok_s ⟨p2_nmu, ck_E0⟩ ck_X0 ck_l0 p2_s504_e
set_option maxRecDepth 100000 in
/-- GlacierMail$Rows.copyFrom -/
def p2_s505 : ck_Sum := ((1, 0, 0), 245, [.inr (.inr (.inl 170)), .inr (.inr (.inl 12))], ([], [], []), ([(170, 3, 3), (171, 0, 35)], []), [(.inr none, 245, ([], [], []))])
set_option maxRecDepth 100000 in
theorem p2_s505_e : ck_ok p2_O none [] [] 58 [] 114 p2_s505 = true := by decide +kernel
theorem p2_s505_s {X : Int → Int} {LX : Nat} : ck_Ok p2_O X LX 58 p2_s505 := ck_ok_s ⟨p2_nmu, ck_E0⟩ ck_X0 ck_l0 p2_s505_e
set_option maxRecDepth 100000 in
/-- GlacierMail$Rows.copyFrom -/
def p2_s506 : ck_Sum := ((1, 0, 0), 245, [.inr (.inr (.inl 172)), .inr (.inr (.inl 14))], ([], [], []), ([(172, 3, 3), (173, 0, 71)], []), [(.inr none, 245, ([], [], []))])
set_option maxRecDepth 100000 in
theorem p2_s506_e : ck_ok p2_O none [] [] 58 [] 114 p2_s506 = true := by decide +kernel
theorem p2_s506_s {X : Int → Int} {LX : Nat} : ck_Ok p2_O X LX 58 p2_s506 := ck_ok_s ⟨p2_nmu, ck_E0⟩ ck_X0 ck_l0 p2_s506_e
set_option maxRecDepth 100000 in
/-- GlacierMail$State.copyFrom -/
def p2_s507 : ck_Sum := ((2, 0, 0), 245, [.inr (.inr (.inl 161)), .inr (.inr (.inl 3))], ([], [(3, 8, 0), (161, 8, 100161)], [(3, 6, 6, (0, 299, [(10, 0)]))]), ([(161, 0, 7), (162, 3, 3), (163, 0, 55), (164, 3, 3), (165, 0, 23), (166, 3, 3), (167, 0, 23), (168, 3, 3), (169, 0, 167), (170, 3, 3), (171, 0, 35), (172, 3, 3), (173, 0, 71)], [(161, 8)]), [(.inr none, 245, ([], [(161, 8, 0)], [(161, 6, 6, (0, 299, [(10, 0)]))]))])
set_option maxRecDepth 100000 in
theorem p2_s507_e : ck_ok p2_O none [] [(58, [p2_s501, p2_s502, p2_s503, p2_s504, p2_s505, p2_s506])] 57 [] 204 p2_s507 = true := by decide +kernel
theorem p2_s507_s {X : Int → Int} {LX : Nat} : ck_Ok p2_O X LX 57 p2_s507 := ck_ok_s ⟨p2_nmu, ck_E1 (ck_S1 p2_s501_s (ck_S1 p2_s502_s (ck_S1 p2_s503_s (ck_S1 p2_s504_s (ck_S1 p2_s505_s (ck_S1 p2_s506_s ck_S0)))))) ck_E0⟩ ck_X0 ck_l0 p2_s507_e
set_option maxRecDepth 100000 in
/-- GlacierMail$Rows.copyFrom -/
def p2_s508 : ck_Sum := ((1, 0, 0), 245, [.inr (.inr (.inl 175)), .inr (.inr (.inl 4))], ([], [], []), ([(175, 3, 3), (176, 0, 55)], []), [(.inr none, 245, ([], [], []))])
set_option maxRecDepth 100000 in
theorem p2_s508_e : ck_ok p2_O none [] [] 58 [] 114 p2_s508 = true := by decide +kernel
theorem p2_s508_s {X : Int → Int} {LX : Nat} : ck_Ok p2_O X LX 58 p2_s508 := ck_ok_s ⟨p2_nmu, ck_E0⟩ ck_X0 ck_l0 p2_s508_e
set_option maxRecDepth 100000 in
/-- GlacierMail$Rows.copyFrom -/
def p2_s509 : ck_Sum := ((1, 0, 0), 245, [.inr (.inr (.inl 177)), .inr (.inr (.inl 6))], ([], [], []), ([(177, 3, 3), (178, 0, 23)], []), [(.inr none, 245, ([], [], []))])
set_option maxRecDepth 100000 in
theorem p2_s509_e : ck_ok p2_O none [] [] 58 [] 114 p2_s509 = true := by decide +kernel
theorem p2_s509_s {X : Int → Int} {LX : Nat} : ck_Ok p2_O X LX 58 p2_s509 := ck_ok_s ⟨p2_nmu, ck_E0⟩ ck_X0 ck_l0 p2_s509_e
set_option maxRecDepth 100000 in
/-- GlacierMail$Rows.copyFrom -/
def p2_s510 : ck_Sum := ((1, 0, 0), 245, [.inr (.inr (.inl 179)), .inr (.inr (.inl 8))], ([], [], []), ([(179, 3, 3), (180, 0, 23)], []), [(.inr none, 245, ([], [], []))])
set_option maxRecDepth 100000 in
theorem p2_s510_e : ck_ok p2_O none [] [] 58 [] 114 p2_s510 = true := by decide +kernel
theorem p2_s510_s {X : Int → Int} {LX : Nat} : ck_Ok p2_O X LX 58 p2_s510 := ck_ok_s ⟨p2_nmu, ck_E0⟩ ck_X0 ck_l0 p2_s510_e
set_option maxRecDepth 100000 in
/-- GlacierMail$Rows.copyFrom -/
def p2_s511 : ck_Sum := ((1, 0, 0), 245, [.inr (.inr (.inl 181)), .inr (.inr (.inl 10))], ([], [], []), ([(181, 3, 3), (182, 0, 167)], []), [(.inr none, 245, ([], [], []))])
set_option maxRecDepth 100000 in
theorem p2_s511_e : ck_ok p2_O none [] [] 58 [] 114 p2_s511 = true := by decide +kernel
theorem p2_s511_s {X : Int → Int} {LX : Nat} : ck_Ok p2_O X LX 58 p2_s511 := ck_ok_s ⟨p2_nmu, ck_E0⟩ ck_X0 ck_l0 p2_s511_e
set_option maxRecDepth 100000 in
/-- GlacierMail$Rows.copyFrom -/
def p2_s512 : ck_Sum := ((1, 0, 0), 245, [.inr (.inr (.inl 183)), .inr (.inr (.inl 12))], ([], [], []), ([(183, 3, 3), (184, 0, 35)], []), [(.inr none, 245, ([], [], []))])
set_option maxRecDepth 100000 in
theorem p2_s512_e : ck_ok p2_O none [] [] 58 [] 114 p2_s512 = true := by decide +kernel
theorem p2_s512_s {X : Int → Int} {LX : Nat} : ck_Ok p2_O X LX 58 p2_s512 := ck_ok_s ⟨p2_nmu, ck_E0⟩ ck_X0 ck_l0 p2_s512_e
set_option maxRecDepth 100000 in
/-- GlacierMail$Rows.copyFrom -/
def p2_s513 : ck_Sum := ((1, 0, 0), 245, [.inr (.inr (.inl 185)), .inr (.inr (.inl 14))], ([], [], []), ([(185, 3, 3), (186, 0, 71)], []), [(.inr none, 245, ([], [], []))])
set_option maxRecDepth 100000 in
theorem p2_s513_e : ck_ok p2_O none [] [] 58 [] 114 p2_s513 = true := by decide +kernel
theorem p2_s513_s {X : Int → Int} {LX : Nat} : ck_Ok p2_O X LX 58 p2_s513 := ck_ok_s ⟨p2_nmu, ck_E0⟩ ck_X0 ck_l0 p2_s513_e
set_option maxRecDepth 100000 in
/-- GlacierMail$State.copyFrom -/
def p2_s514 : ck_Sum := ((2, 0, 0), 245, [.inr (.inr (.inl 174)), .inr (.inr (.inl 3))], ([], [(3, 8, 0), (174, 8, 100174)], [(3, 6, 6, (0, 299, [(10, 0)]))]), ([(174, 0, 7), (175, 3, 3), (176, 0, 55), (177, 3, 3), (178, 0, 23), (179, 3, 3), (180, 0, 23), (181, 3, 3), (182, 0, 167), (183, 3, 3), (184, 0, 35), (185, 3, 3), (186, 0, 71)], [(174, 8)]), [(.inr none, 245, ([], [(174, 8, 0)], [(174, 6, 6, (0, 299, [(10, 0)]))]))])
set_option maxRecDepth 100000 in
theorem p2_s514_e : ck_ok p2_O none [] [(58, [p2_s508, p2_s509, p2_s510, p2_s511, p2_s512, p2_s513])] 57 [] 204 p2_s514 = true := by decide +kernel
theorem p2_s514_s {X : Int → Int} {LX : Nat} : ck_Ok p2_O X LX 57 p2_s514 := ck_ok_s ⟨p2_nmu, ck_E1 (ck_S1 p2_s508_s (ck_S1 p2_s509_s (ck_S1 p2_s510_s (ck_S1 p2_s511_s (ck_S1 p2_s512_s (ck_S1 p2_s513_s ck_S0)))))) ck_E0⟩ ck_X0 ck_l0 p2_s514_e
set_option maxRecDepth 100000 in
/-- GlacierMail$Rows.copyFrom -/
def p2_s515 : ck_Sum := ((1, 0, 0), 245, [.inr (.inr (.inl 188)), .inr (.inr (.inl 4))], ([], [], []), ([(188, 3, 3), (189, 0, 55)], []), [(.inr none, 245, ([], [], []))])
set_option maxRecDepth 100000 in
theorem p2_s515_e : ck_ok p2_O none [] [] 58 [] 114 p2_s515 = true := by decide +kernel
theorem p2_s515_s {X : Int → Int} {LX : Nat} : ck_Ok p2_O X LX 58 p2_s515 := ck_ok_s ⟨p2_nmu, ck_E0⟩ ck_X0 ck_l0 p2_s515_e
set_option maxRecDepth 100000 in
/-- GlacierMail$Rows.copyFrom -/
def p2_s516 : ck_Sum := ((1, 0, 0), 245, [.inr (.inr (.inl 190)), .inr (.inr (.inl 6))], ([], [], []), ([(190, 3, 3), (191, 0, 23)], []), [(.inr none, 245, ([], [], []))])
set_option maxRecDepth 100000 in
theorem p2_s516_e : ck_ok p2_O none [] [] 58 [] 114 p2_s516 = true := by decide +kernel
theorem p2_s516_s {X : Int → Int} {LX : Nat} : ck_Ok p2_O X LX 58 p2_s516 := ck_ok_s ⟨p2_nmu, ck_E0⟩ ck_X0 ck_l0 p2_s516_e
set_option maxRecDepth 100000 in
/-- GlacierMail$Rows.copyFrom -/
def p2_s517 : ck_Sum := ((1, 0, 0), 245, [.inr (.inr (.inl 192)), .inr (.inr (.inl 8))], ([], [], []), ([(192, 3, 3), (193, 0, 23)], []), [(.inr none, 245, ([], [], []))])
set_option maxRecDepth 100000 in
theorem p2_s517_e : ck_ok p2_O none [] [] 58 [] 114 p2_s517 = true := by decide +kernel
theorem p2_s517_s {X : Int → Int} {LX : Nat} : ck_Ok p2_O X LX 58 p2_s517 := ck_ok_s ⟨p2_nmu, ck_E0⟩ ck_X0 ck_l0 p2_s517_e
set_option maxRecDepth 100000 in
/-- GlacierMail$Rows.copyFrom -/
def p2_s518 : ck_Sum := ((1, 0, 0), 245, [.inr (.inr (.inl 194)), .inr (.inr (.inl 10))], ([], [], []), ([(194, 3, 3), (195, 0, 167)], []), [(.inr none, 245, ([], [], []))])
set_option maxRecDepth 100000 in
theorem p2_s518_e : ck_ok p2_O none [] [] 58 [] 114 p2_s518 = true := by decide +kernel
theorem p2_s518_s {X : Int → Int} {LX : Nat} : ck_Ok p2_O X LX 58 p2_s518 := ck_ok_s ⟨p2_nmu, ck_E0⟩ ck_X0 ck_l0 p2_s518_e
set_option maxRecDepth 100000 in
/-- GlacierMail$Rows.copyFrom -/
def p2_s519 : ck_Sum := ((1, 0, 0), 245, [.inr (.inr (.inl 196)), .inr (.inr (.inl 12))], ([], [], []), ([(196, 3, 3), (197, 0, 35)], []), [(.inr none, 245, ([], [], []))])
set_option maxRecDepth 100000 in
theorem p2_s519_e : ck_ok p2_O none [] [] 58 [] 114 p2_s519 = true := by decide +kernel
theorem p2_s519_s {X : Int → Int} {LX : Nat} : ck_Ok p2_O X LX 58 p2_s519 := ck_ok_s ⟨p2_nmu, ck_E0⟩ ck_X0 ck_l0 p2_s519_e
set_option maxRecDepth 100000 in
/-- GlacierMail$Rows.copyFrom -/
def p2_s520 : ck_Sum := ((1, 0, 0), 245, [.inr (.inr (.inl 198)), .inr (.inr (.inl 14))], ([], [], []), ([(198, 3, 3), (199, 0, 71)], []), [(.inr none, 245, ([], [], []))])
set_option maxRecDepth 100000 in
theorem p2_s520_e : ck_ok p2_O none [] [] 58 [] 114 p2_s520 = true := by decide +kernel
theorem p2_s520_s {X : Int → Int} {LX : Nat} : ck_Ok p2_O X LX 58 p2_s520 := ck_ok_s ⟨p2_nmu, ck_E0⟩ ck_X0 ck_l0 p2_s520_e
set_option maxRecDepth 100000 in
/-- GlacierMail$State.copyFrom -/
def p2_s521 : ck_Sum := ((2, 0, 0), 245, [.inr (.inr (.inl 187)), .inr (.inr (.inl 3))], ([], [(3, 8, 0), (187, 8, 100187)], [(3, 6, 6, (0, 299, [(10, 0)]))]), ([(187, 0, 7), (188, 3, 3), (189, 0, 55), (190, 3, 3), (191, 0, 23), (192, 3, 3), (193, 0, 23), (194, 3, 3), (195, 0, 167), (196, 3, 3), (197, 0, 35), (198, 3, 3), (199, 0, 71)], [(187, 8)]), [(.inr none, 245, ([], [(187, 8, 0)], [(187, 6, 6, (0, 299, [(10, 0)]))]))])
set_option maxRecDepth 100000 in
theorem p2_s521_e : ck_ok p2_O none [] [(58, [p2_s515, p2_s516, p2_s517, p2_s518, p2_s519, p2_s520])] 57 [] 204 p2_s521 = true := by decide +kernel
theorem p2_s521_s {X : Int → Int} {LX : Nat} : ck_Ok p2_O X LX 57 p2_s521 := ck_ok_s ⟨p2_nmu, ck_E1 (ck_S1 p2_s515_s (ck_S1 p2_s516_s (ck_S1 p2_s517_s (ck_S1 p2_s518_s (ck_S1 p2_s519_s (ck_S1 p2_s520_s ck_S0)))))) ck_E0⟩ ck_X0 ck_l0 p2_s521_e
set_option maxRecDepth 100000 in
/-- GlacierMail$Rows.copyFrom -/
def p2_s522 : ck_Sum := ((1, 0, 0), 245, [.inr (.inr (.inl 45)), .inr (.inr (.inl 4))], ([], [], []), ([(45, 3, 3), (46, 0, 55)], []), [(.inr none, 245, ([], [], []))])
set_option maxRecDepth 100000 in
theorem p2_s522_e : ck_ok p2_O none [] [] 58 [] 114 p2_s522 = true := by decide +kernel
theorem p2_s522_s {X : Int → Int} {LX : Nat} : ck_Ok p2_O X LX 58 p2_s522 := ck_ok_s ⟨p2_nmu, ck_E0⟩ ck_X0 ck_l0 p2_s522_e
set_option maxRecDepth 100000 in
/-- GlacierMail$Rows.copyFrom -/
def p2_s523 : ck_Sum := ((1, 0, 0), 245, [.inr (.inr (.inl 47)), .inr (.inr (.inl 6))], ([], [], []), ([(47, 3, 3), (48, 0, 23)], []), [(.inr none, 245, ([], [], []))])
set_option maxRecDepth 100000 in
theorem p2_s523_e : ck_ok p2_O none [] [] 58 [] 114 p2_s523 = true := by decide +kernel
theorem p2_s523_s {X : Int → Int} {LX : Nat} : ck_Ok p2_O X LX 58 p2_s523 := ck_ok_s ⟨p2_nmu, ck_E0⟩ ck_X0 ck_l0 p2_s523_e
set_option maxRecDepth 100000 in
/-- GlacierMail$Rows.copyFrom -/
def p2_s524 : ck_Sum := ((1, 0, 0), 245, [.inr (.inr (.inl 49)), .inr (.inr (.inl 8))], ([], [], []), ([(49, 3, 3), (50, 0, 23)], []), [(.inr none, 245, ([], [], []))])
set_option maxRecDepth 100000 in
theorem p2_s524_e : ck_ok p2_O none [] [] 58 [] 114 p2_s524 = true := by decide +kernel
theorem p2_s524_s {X : Int → Int} {LX : Nat} : ck_Ok p2_O X LX 58 p2_s524 := ck_ok_s ⟨p2_nmu, ck_E0⟩ ck_X0 ck_l0 p2_s524_e
set_option maxRecDepth 100000 in
/-- GlacierMail$Rows.copyFrom -/
def p2_s525 : ck_Sum := ((1, 0, 0), 245, [.inr (.inr (.inl 51)), .inr (.inr (.inl 10))], ([], [], []), ([(51, 3, 3), (52, 0, 167)], []), [(.inr none, 245, ([], [], []))])
set_option maxRecDepth 100000 in
theorem p2_s525_e : ck_ok p2_O none [] [] 58 [] 114 p2_s525 = true := by decide +kernel
theorem p2_s525_s {X : Int → Int} {LX : Nat} : ck_Ok p2_O X LX 58 p2_s525 := ck_ok_s ⟨p2_nmu, ck_E0⟩ ck_X0 ck_l0 p2_s525_e
set_option maxRecDepth 100000 in
/-- GlacierMail$Rows.copyFrom -/
def p2_s526 : ck_Sum := ((1, 0, 0), 245, [.inr (.inr (.inl 53)), .inr (.inr (.inl 12))], ([], [], []), ([(53, 3, 3), (54, 0, 35)], []), [(.inr none, 245, ([], [], []))])
set_option maxRecDepth 100000 in
theorem p2_s526_e : ck_ok p2_O none [] [] 58 [] 114 p2_s526 = true := by decide +kernel
theorem p2_s526_s {X : Int → Int} {LX : Nat} : ck_Ok p2_O X LX 58 p2_s526 := ck_ok_s ⟨p2_nmu, ck_E0⟩ ck_X0 ck_l0 p2_s526_e
set_option maxRecDepth 100000 in
/-- GlacierMail$Rows.copyFrom -/
def p2_s527 : ck_Sum := ((1, 0, 0), 245, [.inr (.inr (.inl 55)), .inr (.inr (.inl 14))], ([], [], []), ([(55, 3, 3), (56, 0, 71)], []), [(.inr none, 245, ([], [], []))])
set_option maxRecDepth 100000 in
theorem p2_s527_e : ck_ok p2_O none [] [] 58 [] 114 p2_s527 = true := by decide +kernel
theorem p2_s527_s {X : Int → Int} {LX : Nat} : ck_Ok p2_O X LX 58 p2_s527 := ck_ok_s ⟨p2_nmu, ck_E0⟩ ck_X0 ck_l0 p2_s527_e
set_option maxRecDepth 100000 in
/-- GlacierMail$State.copyFrom -/
def p2_s528 : ck_Sum := ((2, 0, 0), 245, [.inr (.inr (.inl 44)), .inr (.inr (.inl 3))], ([], [(3, 8, 0), (44, 8, 100044)], [(3, 6, 6, (0, 299, [(10, 0)]))]), ([(44, 0, 7), (45, 3, 3), (46, 0, 55), (47, 3, 3), (48, 0, 23), (49, 3, 3), (50, 0, 23), (51, 3, 3), (52, 0, 167), (53, 3, 3), (54, 0, 35), (55, 3, 3), (56, 0, 71)], [(44, 8)]), [(.inr none, 245, ([], [(44, 8, 0)], [(44, 6, 6, (0, 299, [(10, 0)]))]))])
set_option maxRecDepth 100000 in
theorem p2_s528_e : ck_ok p2_O none [] [(58, [p2_s522, p2_s523, p2_s524, p2_s525, p2_s526, p2_s527])] 57 [] 204 p2_s528 = true := by decide +kernel
theorem p2_s528_s {X : Int → Int} {LX : Nat} : ck_Ok p2_O X LX 57 p2_s528 := ck_ok_s ⟨p2_nmu, ck_E1 (ck_S1 p2_s522_s (ck_S1 p2_s523_s (ck_S1 p2_s524_s (ck_S1 p2_s525_s (ck_S1 p2_s526_s (ck_S1 p2_s527_s ck_S0)))))) ck_E0⟩ ck_X0 ck_l0 p2_s528_e
set_option maxRecDepth 100000 in
/-- GlacierMail$History.remember -/
def p2_s529 : ck_Sum := ((3, 0, 0), 245, [.inr (.inr (.inl 42)), .inr (.inr (.inl 3))], ([], [(3, 8, 0), (44, 8, 100044), (57, 8, 100057), (70, 8, 100070), (83, 8, 100083), (96, 8, 100096), (109, 8, 100109), (122, 8, 100122), (135, 8, 100135), (148, 8, 100148), (161, 8, 100161), (174, 8, 100174), (187, 8, 100187)], [(3, 6, 6, (0, 299, [(10, 0)]))]), ([(42, 1, 2), (44, 0, 7), (45, 3, 3), (46, 0, 55), (47, 3, 3), (48, 0, 23), (49, 3, 3), (50, 0, 23), (51, 3, 3), (52, 0, 167), (53, 3, 3), (54, 0, 35), (55, 3, 3), (56, 0, 71), (57, 0, 7), (58, 3, 3), (59, 0, 55), (60, 3, 3), (61, 0, 23), (62, 3, 3), (63, 0, 23), (64, 3, 3), (65, 0, 167), (66, 3, 3), (67, 0, 35), (68, 3, 3), (69, 0, 71), (70, 0, 7), (71, 3, 3), (72, 0, 55), (73, 3, 3), (74, 0, 23), (75, 3, 3), (76, 0, 23), (77, 3, 3), (78, 0, 167), (79, 3, 3), (80, 0, 35), (81, 3, 3), (82, 0, 71), (83, 0, 7), (84, 3, 3), (85, 0, 55), (86, 3, 3), (87, 0, 23), (88, 3, 3), (89, 0, 23), (90, 3, 3), (91, 0, 167), (92, 3, 3), (93, 0, 35), (94, 3, 3), (95, 0, 71), (96, 0, 7), (97, 3, 3), (98, 0, 55), (99, 3, 3), (100, 0, 23), (101, 3, 3), (102, 0, 23), (103, 3, 3), (104, 0, 167), (105, 3, 3), (106, 0, 35), (107, 3, 3), (108, 0, 71), (109, 0, 7), (110, 3, 3), (111, 0, 55), (112, 3, 3), (113, 0, 23), (114, 3, 3), (115, 0, 23), (116, 3, 3), (117, 0, 167), (118, 3, 3), (119, 0, 35), (120, 3, 3), (121, 0, 71), (122, 0, 7), (123, 3, 3), (124, 0, 55), (125, 3, 3), (126, 0, 23), (127, 3, 3), (128, 0, 23), (129, 3, 3), (130, 0, 167), (131, 3, 3), (132, 0, 35), (133, 3, 3), (134, 0, 71), (135, 0, 7), (136, 3, 3), (137, 0, 55), (138, 3, 3), (139, 0, 23), (140, 3, 3), (141, 0, 23), (142, 3, 3), (143, 0, 167), (144, 3, 3), (145, 0, 35), (146, 3, 3), (147, 0, 71), (148, 0, 7), (149, 3, 3), (150, 0, 55), (151, 3, 3), (152, 0, 23), (153, 3, 3), (154, 0, 23), (155, 3, 3), (156, 0, 167), (157, 3, 3), (158, 0, 35), (159, 3, 3), (160, 0, 71), (161, 0, 7), (162, 3, 3), (163, 0, 55), (164, 3, 3), (165, 0, 23), (166, 3, 3), (167, 0, 23), (168, 3, 3), (169, 0, 167), (170, 3, 3), (171, 0, 35), (172, 3, 3), (173, 0, 71), (174, 0, 7), (175, 3, 3), (176, 0, 55), (177, 3, 3), (178, 0, 23), (179, 3, 3), (180, 0, 23), (181, 3, 3), (182, 0, 167), (183, 3, 3), (184, 0, 35), (185, 3, 3), (186, 0, 71), (187, 0, 7), (188, 3, 3), (189, 0, 55), (190, 3, 3), (191, 0, 23), (192, 3, 3), (193, 0, 23), (194, 3, 3), (195, 0, 167), (196, 3, 3), (197, 0, 35), (198, 3, 3), (199, 0, 71)], [(44, 8), (57, 8), (70, 8), (83, 8), (96, 8), (109, 8), (122, 8), (135, 8), (148, 8), (161, 8), (174, 8), (187, 8)]), [(.inr none, 245, ([], [(44, 8, 100044), (57, 8, 100057), (70, 8, 100070), (83, 8, 100083), (96, 8, 100096), (109, 8, 100109), (122, 8, 100122), (135, 8, 100135), (148, 8, 100148), (161, 8, 100161), (174, 8, 100174), (187, 8, 100187)], [(42, 2, 2, (1, 12, [])), (42, 1, 1, (0, 11, []))])), (.inr none, 245, ([], [(44, 8, 100044), (57, 8, 0), (70, 8, 100070), (83, 8, 100083), (96, 8, 100096), (109, 8, 100109), (122, 8, 100122), (135, 8, 100135), (148, 8, 100148), (161, 8, 100161), (174, 8, 100174), (187, 8, 100187)], [(42, 2, 2, (1, 12, [])), (42, 1, 1, (0, 11, [])), (57, 6, 6, (0, 299, [(10, 0)]))])), (.inr none, 245, ([], [(44, 8, 100044), (57, 8, 100057), (70, 8, 0), (83, 8, 100083), (96, 8, 100096), (109, 8, 100109), (122, 8, 100122), (135, 8, 100135), (148, 8, 100148), (161, 8, 100161), (174, 8, 100174), (187, 8, 100187)], [(42, 2, 2, (1, 12, [])), (42, 1, 1, (0, 11, [])), (70, 6, 6, (0, 299, [(10, 0)]))])), (.inr none, 245, ([], [(44, 8, 100044), (57, 8, 100057), (70, 8, 100070), (83, 8, 0), (96, 8, 100096), (109, 8, 100109), (122, 8, 100122), (135, 8, 100135), (148, 8, 100148), (161, 8, 100161), (174, 8, 100174), (187, 8, 100187)], [(42, 2, 2, (1, 12, [])), (42, 1, 1, (0, 11, [])), (83, 6, 6, (0, 299, [(10, 0)]))])), (.inr none, 245, ([], [(44, 8, 100044), (57, 8, 100057), (70, 8, 100070), (83, 8, 100083), (96, 8, 0), (109, 8, 100109), (122, 8, 100122), (135, 8, 100135), (148, 8, 100148), (161, 8, 100161), (174, 8, 100174), (187, 8, 100187)], [(42, 2, 2, (1, 12, [])), (42, 1, 1, (0, 11, [])), (96, 6, 6, (0, 299, [(10, 0)]))])), (.inr none, 245, ([], [(44, 8, 100044), (57, 8, 100057), (70, 8, 100070), (83, 8, 100083), (96, 8, 100096), (109, 8, 0), (122, 8, 100122), (135, 8, 100135), (148, 8, 100148), (161, 8, 100161), (174, 8, 100174), (187, 8, 100187)], [(42, 2, 2, (1, 12, [])), (42, 1, 1, (0, 11, [])), (109, 6, 6, (0, 299, [(10, 0)]))])), (.inr none, 245, ([], [(44, 8, 100044), (57, 8, 100057), (70, 8, 100070), (83, 8, 100083), (96, 8, 100096), (109, 8, 100109), (122, 8, 0), (135, 8, 100135), (148, 8, 100148), (161, 8, 100161), (174, 8, 100174), (187, 8, 100187)], [(42, 2, 2, (1, 12, [])), (42, 1, 1, (0, 11, [])), (122, 6, 6, (0, 299, [(10, 0)]))])), (.inr none, 245, ([], [(44, 8, 100044), (57, 8, 100057), (70, 8, 100070), (83, 8, 100083), (96, 8, 100096), (109, 8, 100109), (122, 8, 100122), (135, 8, 0), (148, 8, 100148), (161, 8, 100161), (174, 8, 100174), (187, 8, 100187)], [(42, 2, 2, (1, 12, [])), (42, 1, 1, (0, 11, [])), (135, 6, 6, (0, 299, [(10, 0)]))])), (.inr none, 245, ([], [(44, 8, 100044), (57, 8, 100057), (70, 8, 100070), (83, 8, 100083), (96, 8, 100096), (109, 8, 100109), (122, 8, 100122), (135, 8, 100135), (148, 8, 0), (161, 8, 100161), (174, 8, 100174), (187, 8, 100187)], [(42, 2, 2, (1, 12, [])), (42, 1, 1, (0, 11, [])), (148, 6, 6, (0, 299, [(10, 0)]))])), (.inr none, 245, ([], [(44, 8, 100044), (57, 8, 100057), (70, 8, 100070), (83, 8, 100083), (96, 8, 100096), (109, 8, 100109), (122, 8, 100122), (135, 8, 100135), (148, 8, 100148), (161, 8, 0), (174, 8, 100174), (187, 8, 100187)], [(42, 2, 2, (1, 12, [])), (42, 1, 1, (0, 11, [])), (161, 6, 6, (0, 299, [(10, 0)]))])), (.inr none, 245, ([], [(44, 8, 100044), (57, 8, 100057), (70, 8, 100070), (83, 8, 100083), (96, 8, 100096), (109, 8, 100109), (122, 8, 100122), (135, 8, 100135), (148, 8, 100148), (161, 8, 100161), (174, 8, 0), (187, 8, 100187)], [(42, 2, 2, (1, 12, [])), (42, 1, 1, (0, 11, [])), (174, 6, 6, (0, 299, [(10, 0)]))])), (.inr none, 245, ([], [(44, 8, 100044), (57, 8, 100057), (70, 8, 100070), (83, 8, 100083), (96, 8, 100096), (109, 8, 100109), (122, 8, 100122), (135, 8, 100135), (148, 8, 100148), (161, 8, 100161), (174, 8, 100174), (187, 8, 0)], [(42, 2, 2, (1, 12, [])), (42, 1, 1, (0, 11, [])), (187, 6, 6, (0, 299, [(10, 0)]))])), (.inr none, 245, ([], [(44, 8, 0), (57, 8, 100057), (70, 8, 100070), (83, 8, 100083), (96, 8, 100096), (109, 8, 100109), (122, 8, 100122), (135, 8, 100135), (148, 8, 100148), (161, 8, 100161), (174, 8, 100174), (187, 8, 100187)], [(42, 2, 2, (1, 12, [])), (42, 1, 1, (0, 11, [])), (44, 6, 6, (0, 299, [(10, 0)]))]))])
set_option maxRecDepth 100000 in
theorem p2_s529_e : ck_ok p2_O none [] [(56, [p2_s444]), (57, [p2_s451, p2_s458, p2_s465, p2_s472, p2_s479, p2_s486, p2_s493, p2_s500, p2_s507, p2_s514, p2_s521, p2_s528])] 154 [] 124 p2_s529 = true := by decide +kernel
theorem p2_s529_s {X : Int → Int} {LX : Nat} : ck_Ok p2_O X LX 154 p2_s529 := ck_ok_s ⟨p2_nmu, ck_E1 (ck_S1 p2_s444_s ck_S0) (ck_E1 (ck_S1 p2_s451_s (ck_S1 p2_s458_s (ck_S1 p2_s465_s (ck_S1 p2_s472_s (ck_S1 p2_s479_s (ck_S1 p2_s486_s (ck_S1 p2_s493_s (ck_S1 p2_s500_s (ck_S1 p2_s507_s (ck_S1 p2_s514_s (ck_S1 p2_s521_s (ck_S1 p2_s528_s ck_S0)))))))))))) ck_E0)⟩ ck_X0 ck_l0 p2_s529_e
set_option maxRecDepth 100000 in
/-- GlacierMail$Rows.add -/
def p2_s530 : ck_Sum := ((0, 0, 0), 245, [.inr (.inr (.inl 10))], ([], [], []), ([(10, 3, 3)], []), [(.inr (some (.inl (0, 23, []))), 245, ([], [], [(10, 3, 3, (1, 24, []))])), (.inr (some (.inl (ck_one (-1)))), 245, ([], [], [(10, 3, 3, ck_one 24)]))])
set_option maxRecDepth 100000 in
theorem p2_s530_e : ck_ok p2_O none [] [] 102 [] 102 p2_s530 = true := by decide +kernel
theorem p2_s530_s {X : Int → Int} {LX : Nat} : ck_Ok p2_O X LX 102 p2_s530 := ck_ok_s ⟨p2_nmu, ck_E0⟩ ck_X0 ck_l0 p2_s530_e
set_option maxRecDepth 100000 in
/-- GlacierMail$Rows.put -/
def p2_s531 : ck_Sum := ((0, 0, 0), 245, [.inr (.inr (.inl 10)), .inl (0, 23, []), .inl (ck_one 0), .inl (0, 7, [])], ([], [], []), ([(11, 0, 0), (11, 7, 7), (11, 14, 14), (11, 21, 21), (11, 28, 28), (11, 35, 35), (11, 42, 42), (11, 49, 49), (11, 56, 56), (11, 63, 63), (11, 70, 70), (11, 77, 77), (11, 84, 84), (11, 91, 91), (11, 98, 98), (11, 105, 105), (11, 112, 112), (11, 119, 119), (11, 126, 126), (11, 133, 133), (11, 140, 140), (11, 147, 147), (11, 154, 154), (11, 161, 161)], []), [(.inr none, 245, ([], [], []))])
set_option maxRecDepth 100000 in
theorem p2_s531_e : ck_ok p2_O none [] [] 45 [] 116 p2_s531 = true := by decide +kernel
theorem p2_s531_s {X : Int → Int} {LX : Nat} : ck_Ok p2_O X LX 45 p2_s531 := ck_ok_s ⟨p2_nmu, ck_E0⟩ ck_X0 ck_l0 p2_s531_e
set_option maxRecDepth 100000 in
/-- GlacierMail$Rows.put -/
def p2_s532 : ck_Sum := ((0, 0, 0), 245, [.inr (.inr (.inl 10)), .inl (0, 23, []), .inl (ck_one 1), .inl (0, 7, [])], ([], [], []), ([(11, 1, 1), (11, 8, 8), (11, 15, 15), (11, 22, 22), (11, 29, 29), (11, 36, 36), (11, 43, 43), (11, 50, 50), (11, 57, 57), (11, 64, 64), (11, 71, 71), (11, 78, 78), (11, 85, 85), (11, 92, 92), (11, 99, 99), (11, 106, 106), (11, 113, 113), (11, 120, 120), (11, 127, 127), (11, 134, 134), (11, 141, 141), (11, 148, 148), (11, 155, 155), (11, 162, 162)], []), [(.inr none, 245, ([], [], []))])
set_option maxRecDepth 100000 in
theorem p2_s532_e : ck_ok p2_O none [] [] 45 [] 116 p2_s532 = true := by decide +kernel
theorem p2_s532_s {X : Int → Int} {LX : Nat} : ck_Ok p2_O X LX 45 p2_s532 := ck_ok_s ⟨p2_nmu, ck_E0⟩ ck_X0 ck_l0 p2_s532_e
set_option maxRecDepth 100000 in
/-- GlacierMail$Rows.put -/
def p2_s533 : ck_Sum := ((0, 0, 0), 245, [.inr (.inr (.inl 10)), .inl (0, 23, []), .inl (ck_one 2), .inl ((-1), 98, [])], ([], [], []), ([(11, 2, 2), (11, 9, 9), (11, 16, 16), (11, 23, 23), (11, 30, 30), (11, 37, 37), (11, 44, 44), (11, 51, 51), (11, 58, 58), (11, 65, 65), (11, 72, 72), (11, 79, 79), (11, 86, 86), (11, 93, 93), (11, 100, 100), (11, 107, 107), (11, 114, 114), (11, 121, 121), (11, 128, 128), (11, 135, 135), (11, 142, 142), (11, 149, 149), (11, 156, 156), (11, 163, 163)], []), [(.inr none, 245, ([], [], []))])
set_option maxRecDepth 100000 in
theorem p2_s533_e : ck_ok p2_O none [] [] 45 [] 116 p2_s533 = true := by decide +kernel
theorem p2_s533_s {X : Int → Int} {LX : Nat} : ck_Ok p2_O X LX 45 p2_s533 := ck_ok_s ⟨p2_nmu, ck_E0⟩ ck_X0 ck_l0 p2_s533_e
set_option maxRecDepth 100000 in
/-- GlacierMail$Rows.put -/
def p2_s534 : ck_Sum := ((0, 0, 0), 245, [.inr (.inr (.inl 10)), .inl (0, 23, []), .inl (ck_one 3), .inl (0, 299, [])], ([], [], []), ([(11, 3, 3), (11, 10, 10), (11, 17, 17), (11, 24, 24), (11, 31, 31), (11, 38, 38), (11, 45, 45), (11, 52, 52), (11, 59, 59), (11, 66, 66), (11, 73, 73), (11, 80, 80), (11, 87, 87), (11, 94, 94), (11, 101, 101), (11, 108, 108), (11, 115, 115), (11, 122, 122), (11, 129, 129), (11, 136, 136), (11, 143, 143), (11, 150, 150), (11, 157, 157), (11, 164, 164)], []), [(.inr none, 245, ([], [], []))])
set_option maxRecDepth 100000 in
theorem p2_s534_e : ck_ok p2_O none [] [] 45 [] 116 p2_s534 = true := by decide +kernel
theorem p2_s534_s {X : Int → Int} {LX : Nat} : ck_Ok p2_O X LX 45 p2_s534 := ck_ok_s ⟨p2_nmu, ck_E0⟩ ck_X0 ck_l0 p2_s534_e
set_option maxRecDepth 100000 in
/-- GlacierMail$Rows.put -/
def p2_s535 : ck_Sum := ((0, 0, 0), 245, [.inr (.inr (.inl 10)), .inl (0, 23, []), .inl (ck_one 4), .inl ((-1), 98, [])], ([], [], []), ([(11, 4, 4), (11, 11, 11), (11, 18, 18), (11, 25, 25), (11, 32, 32), (11, 39, 39), (11, 46, 46), (11, 53, 53), (11, 60, 60), (11, 67, 67), (11, 74, 74), (11, 81, 81), (11, 88, 88), (11, 95, 95), (11, 102, 102), (11, 109, 109), (11, 116, 116), (11, 123, 123), (11, 130, 130), (11, 137, 137), (11, 144, 144), (11, 151, 151), (11, 158, 158), (11, 165, 165)], []), [(.inr none, 245, ([], [], []))])
set_option maxRecDepth 100000 in
theorem p2_s535_e : ck_ok p2_O none [] [] 45 [] 116 p2_s535 = true := by decide +kernel
theorem p2_s535_s {X : Int → Int} {LX : Nat} : ck_Ok p2_O X LX 45 p2_s535 := ck_ok_s ⟨p2_nmu, ck_E0⟩ ck_X0 ck_l0 p2_s535_e
set_option maxRecDepth 100000 in
/-- GlacierMail$Rows.put -/
def p2_s536 : ck_Sum := ((0, 0, 0), 245, [.inr (.inr (.inl 10)), .inl (0, 23, []), .inl (ck_one 5), .inl (ck_one (-1))], ([], [], []), ([(11, 5, 5), (11, 12, 12), (11, 19, 19), (11, 26, 26), (11, 33, 33), (11, 40, 40), (11, 47, 47), (11, 54, 54), (11, 61, 61), (11, 68, 68), (11, 75, 75), (11, 82, 82), (11, 89, 89), (11, 96, 96), (11, 103, 103), (11, 110, 110), (11, 117, 117), (11, 124, 124), (11, 131, 131), (11, 138, 138), (11, 145, 145), (11, 152, 152), (11, 159, 159), (11, 166, 166)], []), [(.inr none, 245, ([], [], []))])
set_option maxRecDepth 100000 in
theorem p2_s536_e : ck_ok p2_O none [] [] 45 [] 116 p2_s536 = true := by decide +kernel
theorem p2_s536_s {X : Int → Int} {LX : Nat} : ck_Ok p2_O X LX 45 p2_s536 := ck_ok_s ⟨p2_nmu, ck_E0⟩ ck_X0 ck_l0 p2_s536_e
set_option maxRecDepth 100000 in
/-- GlacierMail$Rows.put -/
def p2_s537 : ck_Sum := ((0, 0, 0), 245, [.inr (.inr (.inl 10)), .inl (0, 23, []), .inl (ck_one 6), .inl (ck_one (-1))], ([], [], []), ([(11, 6, 6), (11, 13, 13), (11, 20, 20), (11, 27, 27), (11, 34, 34), (11, 41, 41), (11, 48, 48), (11, 55, 55), (11, 62, 62), (11, 69, 69), (11, 76, 76), (11, 83, 83), (11, 90, 90), (11, 97, 97), (11, 104, 104), (11, 111, 111), (11, 118, 118), (11, 125, 125), (11, 132, 132), (11, 139, 139), (11, 146, 146), (11, 153, 153), (11, 160, 160), (11, 167, 167)], []), [(.inr none, 245, ([], [], []))])
set_option maxRecDepth 100000 in
theorem p2_s537_e : ck_ok p2_O none [] [] 45 [] 116 p2_s537 = true := by decide +kernel
theorem p2_s537_s {X : Int → Int} {LX : Nat} : ck_Ok p2_O X LX 45 p2_s537 := ck_ok_s ⟨p2_nmu, ck_E0⟩ ck_X0 ck_l0 p2_s537_e
set_option maxRecDepth 100000 in
/-- GlacierMail$Rows.put -/
def p2_s538 : ck_Sum := ((0, 0, 0), 245, [.inr (.inr (.inl 10)), .inl (ck_one (-1)), .inl (ck_one 0), .inl (0, 7, [])], ([], [], []), ([], []), [(.inr none, 245, ([], [], []))])
set_option maxRecDepth 100000 in
theorem p2_s538_e : ck_ok p2_O none [] [] 45 [] 76 p2_s538 = true := by decide +kernel
theorem p2_s538_s {X : Int → Int} {LX : Nat} : ck_Ok p2_O X LX 45 p2_s538 := ck_ok_s ⟨p2_nmu, ck_E0⟩ ck_X0 ck_l0 p2_s538_e
set_option maxRecDepth 100000 in
/-- GlacierMail$Rows.put -/
def p2_s539 : ck_Sum := ((0, 0, 0), 245, [.inr (.inr (.inl 10)), .inl (ck_one (-1)), .inl (ck_one 1), .inl (0, 7, [])], ([], [], []), ([], []), [(.inr none, 245, ([], [], []))])
set_option maxRecDepth 100000 in
theorem p2_s539_e : ck_ok p2_O none [] [] 45 [] 76 p2_s539 = true := by decide +kernel
theorem p2_s539_s {X : Int → Int} {LX : Nat} : ck_Ok p2_O X LX 45 p2_s539 := ck_ok_s ⟨p2_nmu, ck_E0⟩ ck_X0 ck_l0 p2_s539_e
set_option maxRecDepth 100000 in
/-- GlacierMail$Rows.put -/
def p2_s540 : ck_Sum := ((0, 0, 0), 245, [.inr (.inr (.inl 10)), .inl (ck_one (-1)), .inl (ck_one 2), .inl ((-1), 98, [])], ([], [], []), ([], []), [(.inr none, 245, ([], [], []))])
set_option maxRecDepth 100000 in
theorem p2_s540_e : ck_ok p2_O none [] [] 45 [] 76 p2_s540 = true := by decide +kernel
theorem p2_s540_s {X : Int → Int} {LX : Nat} : ck_Ok p2_O X LX 45 p2_s540 := ck_ok_s ⟨p2_nmu, ck_E0⟩ ck_X0 ck_l0 p2_s540_e
