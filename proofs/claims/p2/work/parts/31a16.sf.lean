/-! EVERY CALL ENDS, whatever was done before (laid by wip/am/p2g.py). -/
set_option maxRecDepth 100000 in
/-- GlacierMail$Rows.copyFrom -/
def p2_s3539 : ck_Sum := ((1, 0, 0), 245, [.inr (.inr (.inl 14)), .inr (.inr (.inl 198))], ([], [], []), ([(14, 3, 3), (15, 0, 71)], []), [(.inr none, 245, ([], [], []))])
set_option maxRecDepth 100000 in
theorem p2_s3539_e : ck_ok p2_O none [] [] 58 [] 114 p2_s3539 = true := by decide +kernel
theorem p2_s3539_s {X : Int → Int} {LX : Nat} : ck_Ok p2_O X LX 58 p2_s3539 := ck_ok_s ⟨p2_nmu, ck_E0⟩ ck_X0 ck_l0 p2_s3539_e
set_option maxRecDepth 100000 in
/-- GlacierMail$State.copyFrom -/
def p2_s3540 : ck_Sum := ((2, 0, 0), 245, [.inr (.inr (.inl 3)), .inr (.inr (.inl 187))], ([], [(3, 8, 0), (187, 8, 100187)], []), ([(3, 0, 7), (4, 3, 3), (5, 0, 55), (6, 3, 3), (7, 0, 23), (8, 3, 3), (9, 0, 23), (10, 3, 3), (11, 0, 167), (12, 3, 3), (13, 0, 35), (14, 3, 3), (15, 0, 71)], [(3, 8)]), [(.inr none, 245, ([], [(3, 8, 100187)], []))])
set_option maxRecDepth 100000 in
theorem p2_s3540_e : ck_ok p2_O none [] [(58, [p2_s3534, p2_s3535, p2_s3536, p2_s3537, p2_s3538, p2_s3539])] 57 [] 204 p2_s3540 = true := by decide +kernel
theorem p2_s3540_s {X : Int → Int} {LX : Nat} : ck_Ok p2_O X LX 57 p2_s3540 := ck_ok_s ⟨p2_nmu, ck_E1 (ck_S1 p2_s3534_s (ck_S1 p2_s3535_s (ck_S1 p2_s3536_s (ck_S1 p2_s3537_s (ck_S1 p2_s3538_s (ck_S1 p2_s3539_s ck_S0)))))) ck_E0⟩ ck_X0 ck_l0 p2_s3540_e
set_option maxRecDepth 100000 in
/-- GlacierMail$History.takeBack -/
def p2_s3541 : ck_Sum := ((3, 0, 0), 245, [.inr (.inr (.inl 42)), .inr (.inr (.inl 3))], ([], [(3, 8, 0), (44, 8, 100044), (57, 8, 100057), (70, 8, 100070), (83, 8, 100083), (96, 8, 100096), (109, 8, 100109), (122, 8, 100122), (135, 8, 100135), (148, 8, 100148), (161, 8, 100161), (174, 8, 100174), (187, 8, 100187)], []), ([(3, 0, 7), (4, 3, 3), (5, 0, 55), (6, 3, 3), (7, 0, 23), (8, 3, 3), (9, 0, 23), (10, 3, 3), (11, 0, 167), (12, 3, 3), (13, 0, 35), (14, 3, 3), (15, 0, 71), (42, 1, 2)], [(3, 8)]), [(.inr (some (.inl (ck_one 1))), 245, ([], [(3, 8, 100044)], [(42, 2, 2, (0, 11, [])), (42, 1, 1, (0, 11, []))])), (.inr (some (.inl (ck_one 1))), 245, ([], [(3, 8, 100057)], [(42, 2, 2, (0, 11, [])), (42, 1, 1, (0, 11, []))])), (.inr (some (.inl (ck_one 1))), 245, ([], [(3, 8, 100070)], [(42, 2, 2, (0, 11, [])), (42, 1, 1, (0, 11, []))])), (.inr (some (.inl (ck_one 1))), 245, ([], [(3, 8, 100083)], [(42, 2, 2, (0, 11, [])), (42, 1, 1, (0, 11, []))])), (.inr (some (.inl (ck_one 1))), 245, ([], [(3, 8, 100096)], [(42, 2, 2, (0, 11, [])), (42, 1, 1, (0, 11, []))])), (.inr (some (.inl (ck_one 1))), 245, ([], [(3, 8, 100109)], [(42, 2, 2, (0, 11, [])), (42, 1, 1, (0, 11, []))])), (.inr (some (.inl (ck_one 1))), 245, ([], [(3, 8, 100122)], [(42, 2, 2, (0, 11, [])), (42, 1, 1, (0, 11, []))])), (.inr (some (.inl (ck_one 1))), 245, ([], [(3, 8, 100135)], [(42, 2, 2, (0, 11, [])), (42, 1, 1, (0, 11, []))])), (.inr (some (.inl (ck_one 1))), 245, ([], [(3, 8, 100148)], [(42, 2, 2, (0, 11, [])), (42, 1, 1, (0, 11, []))])), (.inr (some (.inl (ck_one 1))), 245, ([], [(3, 8, 100161)], [(42, 2, 2, (0, 11, [])), (42, 1, 1, (0, 11, []))])), (.inr (some (.inl (ck_one 1))), 245, ([], [(3, 8, 100174)], [(42, 2, 2, (0, 11, [])), (42, 1, 1, (0, 11, []))])), (.inr (some (.inl (ck_one 1))), 245, ([], [(3, 8, 100187)], [(42, 2, 2, (0, 11, [])), (42, 1, 1, (0, 11, []))])), (.inr (some (.inl (ck_one 0))), 245, ([], [(3, 8, 0)], [(42, 2, 2, ck_one 0)]))])
set_option maxRecDepth 100000 in
theorem p2_s3541_e : ck_ok p2_O none [] [(56, [p2_s3456]), (57, [p2_s3463, p2_s3470, p2_s3477, p2_s3484, p2_s3491, p2_s3498, p2_s3505, p2_s3512, p2_s3519, p2_s3526, p2_s3533, p2_s3540])] 55 [] 132 p2_s3541 = true := by decide +kernel
theorem p2_s3541_s {X : Int → Int} {LX : Nat} : ck_Ok p2_O X LX 55 p2_s3541 := ck_ok_s ⟨p2_nmu, ck_E1 (ck_S1 p2_s3456_s ck_S0) (ck_E1 (ck_S1 p2_s3463_s (ck_S1 p2_s3470_s (ck_S1 p2_s3477_s (ck_S1 p2_s3484_s (ck_S1 p2_s3491_s (ck_S1 p2_s3498_s (ck_S1 p2_s3505_s (ck_S1 p2_s3512_s (ck_S1 p2_s3519_s (ck_S1 p2_s3526_s (ck_S1 p2_s3533_s (ck_S1 p2_s3540_s ck_S0)))))))))))) ck_E0)⟩ ck_X0 ck_l0 p2_s3541_e
set_option maxRecDepth 100000 in
/-- GlacierMail.undo -/
def p2_s3542 : ck_Sum := ((4, 0, 0), 245, [.inr (.inr (.inl 1))], ([], [(3, 8, 0), (44, 8, 100044), (57, 8, 100057), (70, 8, 100070), (83, 8, 100083), (96, 8, 100096), (109, 8, 100109), (122, 8, 100122), (135, 8, 100135), (148, 8, 100148), (161, 8, 100161), (174, 8, 100174), (187, 8, 100187)], []), ([(1, 15, 15), (3, 0, 7), (4, 3, 3), (5, 0, 55), (6, 3, 3), (7, 0, 23), (8, 3, 3), (9, 0, 23), (10, 3, 3), (11, 0, 167), (12, 3, 3), (13, 0, 35), (14, 3, 3), (15, 0, 71), (42, 1, 2)], [(3, 8)]), [(.inr (some (.inl (ck_one 1))), 245, ([], [(3, 8, 100044)], [(42, 2, 2, (0, 11, [])), (42, 1, 1, (0, 11, [])), (1, 15, 15, ck_one 0)])), (.inr (some (.inl (ck_one 0))), 245, ([], [(3, 8, 0)], [(42, 2, 2, ck_one 0), (1, 15, 15, ck_one 0)])), (.inr (some (.inl (ck_one 1))), 245, ([], [(3, 8, 100187)], [(42, 2, 2, (0, 11, [])), (42, 1, 1, (0, 11, [])), (1, 15, 15, ck_one 0)])), (.inr (some (.inl (ck_one 1))), 245, ([], [(3, 8, 100174)], [(42, 2, 2, (0, 11, [])), (42, 1, 1, (0, 11, [])), (1, 15, 15, ck_one 0)])), (.inr (some (.inl (ck_one 1))), 245, ([], [(3, 8, 100161)], [(42, 2, 2, (0, 11, [])), (42, 1, 1, (0, 11, [])), (1, 15, 15, ck_one 0)])), (.inr (some (.inl (ck_one 1))), 245, ([], [(3, 8, 100148)], [(42, 2, 2, (0, 11, [])), (42, 1, 1, (0, 11, [])), (1, 15, 15, ck_one 0)])), (.inr (some (.inl (ck_one 1))), 245, ([], [(3, 8, 100135)], [(42, 2, 2, (0, 11, [])), (42, 1, 1, (0, 11, [])), (1, 15, 15, ck_one 0)])), (.inr (some (.inl (ck_one 1))), 245, ([], [(3, 8, 100122)], [(42, 2, 2, (0, 11, [])), (42, 1, 1, (0, 11, [])), (1, 15, 15, ck_one 0)])), (.inr (some (.inl (ck_one 1))), 245, ([], [(3, 8, 100109)], [(42, 2, 2, (0, 11, [])), (42, 1, 1, (0, 11, [])), (1, 15, 15, ck_one 0)])), (.inr (some (.inl (ck_one 1))), 245, ([], [(3, 8, 100096)], [(42, 2, 2, (0, 11, [])), (42, 1, 1, (0, 11, [])), (1, 15, 15, ck_one 0)])), (.inr (some (.inl (ck_one 1))), 245, ([], [(3, 8, 100083)], [(42, 2, 2, (0, 11, [])), (42, 1, 1, (0, 11, [])), (1, 15, 15, ck_one 0)])), (.inr (some (.inl (ck_one 1))), 245, ([], [(3, 8, 100070)], [(42, 2, 2, (0, 11, [])), (42, 1, 1, (0, 11, [])), (1, 15, 15, ck_one 0)])), (.inr (some (.inl (ck_one 1))), 245, ([], [(3, 8, 100057)], [(42, 2, 2, (0, 11, [])), (42, 1, 1, (0, 11, [])), (1, 15, 15, ck_one 0)]))])
set_option maxRecDepth 100000 in
theorem p2_s3542_e : ck_ok p2_O none [] [(55, [p2_s3541])] 54 [] 88 p2_s3542 = true := by decide +kernel
theorem p2_s3542_s {X : Int → Int} {LX : Nat} : ck_Ok p2_O X LX 54 p2_s3542 := ck_ok_s ⟨p2_nmu, ck_E1 (ck_S1 p2_s3541_s ck_S0) ck_E0⟩ ck_X0 ck_l0 p2_s3542_e
set_option maxRecDepth 100000 in
/-- GlacierMail$Rows.copyFrom -/
def p2_s3544 : ck_Sum := ((1, 0, 0), 245, [.inr (.inr (.inl 30)), .inr (.inr (.inl 4))], ([], [], []), ([(30, 3, 3), (31, 0, 55)], []), [(.inr none, 245, ([], [], []))])
set_option maxRecDepth 100000 in
theorem p2_s3544_e : ck_ok p2_O none [] [] 58 [] 114 p2_s3544 = true := by decide +kernel
theorem p2_s3544_s {X : Int → Int} {LX : Nat} : ck_Ok p2_O X LX 58 p2_s3544 := ck_ok_s ⟨p2_nmu, ck_E0⟩ ck_X0 ck_l0 p2_s3544_e
set_option maxRecDepth 100000 in
/-- GlacierMail$Rows.copyFrom -/
def p2_s3545 : ck_Sum := ((1, 0, 0), 245, [.inr (.inr (.inl 32)), .inr (.inr (.inl 6))], ([], [], []), ([(32, 3, 3), (33, 0, 23)], []), [(.inr none, 245, ([], [], []))])
set_option maxRecDepth 100000 in
theorem p2_s3545_e : ck_ok p2_O none [] [] 58 [] 114 p2_s3545 = true := by decide +kernel
theorem p2_s3545_s {X : Int → Int} {LX : Nat} : ck_Ok p2_O X LX 58 p2_s3545 := ck_ok_s ⟨p2_nmu, ck_E0⟩ ck_X0 ck_l0 p2_s3545_e
set_option maxRecDepth 100000 in
/-- GlacierMail$Rows.copyFrom -/
def p2_s3546 : ck_Sum := ((1, 0, 0), 245, [.inr (.inr (.inl 34)), .inr (.inr (.inl 8))], ([], [], []), ([(34, 3, 3), (35, 0, 23)], []), [(.inr none, 245, ([], [], []))])
set_option maxRecDepth 100000 in
theorem p2_s3546_e : ck_ok p2_O none [] [] 58 [] 114 p2_s3546 = true := by decide +kernel
theorem p2_s3546_s {X : Int → Int} {LX : Nat} : ck_Ok p2_O X LX 58 p2_s3546 := ck_ok_s ⟨p2_nmu, ck_E0⟩ ck_X0 ck_l0 p2_s3546_e
set_option maxRecDepth 100000 in
/-- GlacierMail$Rows.copyFrom -/
def p2_s3547 : ck_Sum := ((1, 0, 0), 245, [.inr (.inr (.inl 36)), .inr (.inr (.inl 10))], ([], [], []), ([(36, 3, 3), (37, 0, 167)], []), [(.inr none, 245, ([], [], []))])
set_option maxRecDepth 100000 in
theorem p2_s3547_e : ck_ok p2_O none [] [] 58 [] 114 p2_s3547 = true := by decide +kernel
theorem p2_s3547_s {X : Int → Int} {LX : Nat} : ck_Ok p2_O X LX 58 p2_s3547 := ck_ok_s ⟨p2_nmu, ck_E0⟩ ck_X0 ck_l0 p2_s3547_e
set_option maxRecDepth 100000 in
/-- GlacierMail$Rows.copyFrom -/
def p2_s3548 : ck_Sum := ((1, 0, 0), 245, [.inr (.inr (.inl 38)), .inr (.inr (.inl 12))], ([], [], []), ([(38, 3, 3), (39, 0, 35)], []), [(.inr none, 245, ([], [], []))])
set_option maxRecDepth 100000 in
theorem p2_s3548_e : ck_ok p2_O none [] [] 58 [] 114 p2_s3548 = true := by decide +kernel
theorem p2_s3548_s {X : Int → Int} {LX : Nat} : ck_Ok p2_O X LX 58 p2_s3548 := ck_ok_s ⟨p2_nmu, ck_E0⟩ ck_X0 ck_l0 p2_s3548_e
set_option maxRecDepth 100000 in
/-- GlacierMail$Rows.copyFrom -/
def p2_s3549 : ck_Sum := ((1, 0, 0), 245, [.inr (.inr (.inl 40)), .inr (.inr (.inl 14))], ([], [], []), ([(40, 3, 3), (41, 0, 71)], []), [(.inr none, 245, ([], [], []))])
set_option maxRecDepth 100000 in
theorem p2_s3549_e : ck_ok p2_O none [] [] 58 [] 114 p2_s3549 = true := by decide +kernel
theorem p2_s3549_s {X : Int → Int} {LX : Nat} : ck_Ok p2_O X LX 58 p2_s3549 := ck_ok_s ⟨p2_nmu, ck_E0⟩ ck_X0 ck_l0 p2_s3549_e
set_option maxRecDepth 100000 in
/-- GlacierMail$State.copyFrom -/
def p2_s3550 : ck_Sum := ((2, 0, 0), 245, [.inr (.inr (.inl 29)), .inr (.inr (.inl 3))], ([], [(3, 8, 0), (29, 8, 100029)], [(3, 6, 6, (0, 299, [(10, 0)]))]), ([(29, 0, 7), (30, 3, 3), (31, 0, 55), (32, 3, 3), (33, 0, 23), (34, 3, 3), (35, 0, 23), (36, 3, 3), (37, 0, 167), (38, 3, 3), (39, 0, 35), (40, 3, 3), (41, 0, 71)], [(29, 8)]), [(.inr none, 245, ([], [(29, 8, 0)], [(29, 6, 6, (0, 299, [(10, 0)]))]))])
set_option maxRecDepth 100000 in
theorem p2_s3550_e : ck_ok p2_O none [] [(58, [p2_s3544, p2_s3545, p2_s3546, p2_s3547, p2_s3548, p2_s3549])] 57 [] 204 p2_s3550 = true := by decide +kernel
theorem p2_s3550_s {X : Int → Int} {LX : Nat} : ck_Ok p2_O X LX 57 p2_s3550 := ck_ok_s ⟨p2_nmu, ck_E1 (ck_S1 p2_s3544_s (ck_S1 p2_s3545_s (ck_S1 p2_s3546_s (ck_S1 p2_s3547_s (ck_S1 p2_s3548_s (ck_S1 p2_s3549_s ck_S0)))))) ck_E0⟩ ck_X0 ck_l0 p2_s3550_e
set_option maxRecDepth 100000 in
/-- GlacierMail.image -/
def p2_s3551 : ck_Sum := ((3, 0, 0), 245, [.inr (.inr (.inl 1))], ([], [(3, 8, 0), (29, 8, 100029)], [(3, 6, 6, (0, 299, [(10, 0)]))]), ([(1, 6, 6), (29, 0, 7), (30, 3, 3), (31, 0, 55), (32, 3, 3), (33, 0, 23), (34, 3, 3), (35, 0, 23), (36, 3, 3), (37, 0, 167), (38, 3, 3), (39, 0, 35), (40, 3, 3), (41, 0, 71)], [(29, 8)]), [(.inr none, 245, ([], [(29, 8, 0)], [(1, 6, 6, ck_one 1), (29, 6, 6, (0, 299, [(10, 0)]))]))])
set_option maxRecDepth 100000 in
theorem p2_s3551_e : ck_ok p2_O none [] [(57, [p2_s3550])] 59 [] 88 p2_s3551 = true := by decide +kernel
theorem p2_s3551_s {X : Int → Int} {LX : Nat} : ck_Ok p2_O X LX 59 p2_s3551 := ck_ok_s ⟨p2_nmu, ck_E1 (ck_S1 p2_s3550_s ck_S0) ck_E0⟩ ck_X0 ck_l0 p2_s3551_e
set_option maxRecDepth 100000 in
/-- GlacierMail$Rows.copyFrom -/
def p2_s3553 : ck_Sum := ((1, 0, 0), 245, [.inr (.inr (.inl 4)), .inr (.inr (.inl 30))], ([], [], []), ([(4, 3, 3), (5, 0, 55)], []), [(.inr none, 245, ([], [], []))])
set_option maxRecDepth 100000 in
theorem p2_s3553_e : ck_ok p2_O none [] [] 58 [] 114 p2_s3553 = true := by decide +kernel
theorem p2_s3553_s {X : Int → Int} {LX : Nat} : ck_Ok p2_O X LX 58 p2_s3553 := ck_ok_s ⟨p2_nmu, ck_E0⟩ ck_X0 ck_l0 p2_s3553_e
set_option maxRecDepth 100000 in
/-- GlacierMail$Rows.copyFrom -/
def p2_s3554 : ck_Sum := ((1, 0, 0), 245, [.inr (.inr (.inl 6)), .inr (.inr (.inl 32))], ([], [], []), ([(6, 3, 3), (7, 0, 23)], []), [(.inr none, 245, ([], [], []))])
set_option maxRecDepth 100000 in
theorem p2_s3554_e : ck_ok p2_O none [] [] 58 [] 114 p2_s3554 = true := by decide +kernel
theorem p2_s3554_s {X : Int → Int} {LX : Nat} : ck_Ok p2_O X LX 58 p2_s3554 := ck_ok_s ⟨p2_nmu, ck_E0⟩ ck_X0 ck_l0 p2_s3554_e
set_option maxRecDepth 100000 in
/-- GlacierMail$Rows.copyFrom -/
def p2_s3555 : ck_Sum := ((1, 0, 0), 245, [.inr (.inr (.inl 8)), .inr (.inr (.inl 34))], ([], [], []), ([(8, 3, 3), (9, 0, 23)], []), [(.inr none, 245, ([], [], []))])
set_option maxRecDepth 100000 in
theorem p2_s3555_e : ck_ok p2_O none [] [] 58 [] 114 p2_s3555 = true := by decide +kernel
theorem p2_s3555_s {X : Int → Int} {LX : Nat} : ck_Ok p2_O X LX 58 p2_s3555 := ck_ok_s ⟨p2_nmu, ck_E0⟩ ck_X0 ck_l0 p2_s3555_e
set_option maxRecDepth 100000 in
/-- GlacierMail$Rows.copyFrom -/
def p2_s3556 : ck_Sum := ((1, 0, 0), 245, [.inr (.inr (.inl 10)), .inr (.inr (.inl 36))], ([], [], []), ([(10, 3, 3), (11, 0, 167)], []), [(.inr none, 245, ([], [], []))])
set_option maxRecDepth 100000 in
theorem p2_s3556_e : ck_ok p2_O none [] [] 58 [] 114 p2_s3556 = true := by decide +kernel
theorem p2_s3556_s {X : Int → Int} {LX : Nat} : ck_Ok p2_O X LX 58 p2_s3556 := ck_ok_s ⟨p2_nmu, ck_E0⟩ ck_X0 ck_l0 p2_s3556_e
set_option maxRecDepth 100000 in
/-- GlacierMail$Rows.copyFrom -/
def p2_s3557 : ck_Sum := ((1, 0, 0), 245, [.inr (.inr (.inl 12)), .inr (.inr (.inl 38))], ([], [], []), ([(12, 3, 3), (13, 0, 35)], []), [(.inr none, 245, ([], [], []))])
set_option maxRecDepth 100000 in
theorem p2_s3557_e : ck_ok p2_O none [] [] 58 [] 114 p2_s3557 = true := by decide +kernel
theorem p2_s3557_s {X : Int → Int} {LX : Nat} : ck_Ok p2_O X LX 58 p2_s3557 := ck_ok_s ⟨p2_nmu, ck_E0⟩ ck_X0 ck_l0 p2_s3557_e
set_option maxRecDepth 100000 in
/-- GlacierMail$Rows.copyFrom -/
def p2_s3558 : ck_Sum := ((1, 0, 0), 245, [.inr (.inr (.inl 14)), .inr (.inr (.inl 40))], ([], [], []), ([(14, 3, 3), (15, 0, 71)], []), [(.inr none, 245, ([], [], []))])
set_option maxRecDepth 100000 in
theorem p2_s3558_e : ck_ok p2_O none [] [] 58 [] 114 p2_s3558 = true := by decide +kernel
theorem p2_s3558_s {X : Int → Int} {LX : Nat} : ck_Ok p2_O X LX 58 p2_s3558 := ck_ok_s ⟨p2_nmu, ck_E0⟩ ck_X0 ck_l0 p2_s3558_e
set_option maxRecDepth 100000 in
/-- GlacierMail$State.copyFrom -/
def p2_s3559 : ck_Sum := ((2, 0, 0), 245, [.inr (.inr (.inl 3)), .inr (.inr (.inl 29))], ([], [(3, 8, 0), (29, 8, 100029)], []), ([(3, 0, 7), (4, 3, 3), (5, 0, 55), (6, 3, 3), (7, 0, 23), (8, 3, 3), (9, 0, 23), (10, 3, 3), (11, 0, 167), (12, 3, 3), (13, 0, 35), (14, 3, 3), (15, 0, 71)], [(3, 8)]), [(.inr none, 245, ([], [(3, 8, 100029)], []))])
set_option maxRecDepth 100000 in
theorem p2_s3559_e : ck_ok p2_O none [] [(58, [p2_s3553, p2_s3554, p2_s3555, p2_s3556, p2_s3557, p2_s3558])] 57 [] 204 p2_s3559 = true := by decide +kernel
theorem p2_s3559_s {X : Int → Int} {LX : Nat} : ck_Ok p2_O X LX 57 p2_s3559 := ck_ok_s ⟨p2_nmu, ck_E1 (ck_S1 p2_s3553_s (ck_S1 p2_s3554_s (ck_S1 p2_s3555_s (ck_S1 p2_s3556_s (ck_S1 p2_s3557_s (ck_S1 p2_s3558_s ck_S0)))))) ck_E0⟩ ck_X0 ck_l0 p2_s3559_e
set_option maxRecDepth 100000 in
/-- GlacierMail.back -/
def p2_s3560 : ck_Sum := ((4, 0, 0), 245, [.inr (.inr (.inl 1))], ([], [(3, 8, 0), (29, 8, 100029)], [(1, 6, 6, (0, 1, [(9, 0)]))]), ([(1, 15, 15), (3, 0, 7), (4, 3, 3), (5, 0, 55), (6, 3, 3), (7, 0, 23), (8, 3, 3), (9, 0, 23), (10, 3, 3), (11, 0, 167), (12, 3, 3), (13, 0, 35), (14, 3, 3), (15, 0, 71), (42, 2, 2), (200, 6, 6), (201, 0, 299), (202, 0, 593), (203, 0, 299)], [(3, 8)]), [(.inr (some (.inl (ck_one 1))), 245, ([], [(3, 8, 100029)], [(1, 15, 15, ck_one 0), (42, 2, 2, ck_one 0), (1, 6, 6, (1, 1, [(9, 0)]))])), (.inr (some (.inl (ck_one 0))), 245, ([], [(3, 8, 0)], [(1, 6, 6, (0, 0, [(9, 0)]))]))])
set_option maxRecDepth 100000 in
theorem p2_s3560_e : ck_ok p2_O none [] [(57, [p2_s3559]), (61, [p2_s164])] 60 [] 94 p2_s3560 = true := by decide +kernel
theorem p2_s3560_s {X : Int → Int} {LX : Nat} : ck_Ok p2_O X LX 60 p2_s3560 := ck_ok_s ⟨p2_nmu, ck_E1 (ck_S1 p2_s3559_s ck_S0) (ck_E1 (ck_S1 p2_s164_s ck_S0) ck_E0)⟩ ck_X0 ck_l0 p2_s3560_e
set_option maxRecDepth 100000 in
/-- GlacierMail.count -/
def p2_s3562 : ck_Sum := ((0, 0, 0), 245, [.inr (.inr (.inl 1)), .inl ((-2147483648), (-1), [])], ([], [], []), ([], []), [(.inr (some (.inl (ck_one (-1)))), 245, ([], [], []))])
set_option maxRecDepth 100000 in
theorem p2_s3562_e : ck_ok p2_O none [] [] 63 [] 78 p2_s3562 = true := by decide +kernel
theorem p2_s3562_s {X : Int → Int} {LX : Nat} : ck_Ok p2_O X LX 63 p2_s3562 := ck_ok_s ⟨p2_nmu, ck_E0⟩ ck_X0 ck_l0 p2_s3562_e
set_option maxRecDepth 100000 in
/-- GlacierMail$History.size -/
def p2_s3563 : ck_Sum := ((0, 0, 0), 245, [.inr (.inr (.inl 42))], ([], [], []), ([], []), [(.inr (some (.inl (0, 12, []))), 245, ([], [], []))])
set_option maxRecDepth 100000 in
theorem p2_s3563_e : ck_ok p2_O none [] [] 69 [] 76 p2_s3563 = true := by decide +kernel
theorem p2_s3563_s {X : Int → Int} {LX : Nat} : ck_Ok p2_O X LX 69 p2_s3563 := ck_ok_s ⟨p2_nmu, ck_E0⟩ ck_X0 ck_l0 p2_s3563_e
set_option maxRecDepth 100000 in
/-- GlacierMail.inIceNow -/
def p2_s3564 : ck_Sum := ((5, 0, 0), 245, [.inr (.inr (.inl 1))], ([], [(3, 8, 0)], [(3, 6, 6, (0, 299, [(10, 0)]))]), ([(1, 15, 15), (206, 2, 8), (220, 3, 3), (221, 0, 47)], []), [(.inr (some (.inl ((-2147483648), 2147483647, []))), 245, ([], [], [(1, 15, 15, ck_one 1)]))])
set_option maxRecDepth 100000 in
theorem p2_s3564_e : ck_ok p2_O none [] [(24, [p2_s405]), (9, [p2_s359]), (10, [p2_s407]), (67, [p2_s408])] 68 [(8, [some (.inr (.inr (.inl 1))), some (.inl ((-2147483648), 2147483647, [])), some (.inl (0, 24, []))], ([], [(3, 8, 0)], [(1, 15, 15, ck_one 1), (3, 6, 6, (0, 299, [(10, 0)]))]), 100, .inl 2, true)] 174 p2_s3564 = true := by decide +kernel
theorem p2_s3564_s {X : Int → Int} {LX : Nat} : ck_Ok p2_O X LX 68 p2_s3564 := ck_ok_s ⟨p2_nmu, ck_E1 (ck_S1 p2_s405_s ck_S0) (ck_E1 (ck_S1 p2_s359_s ck_S0) (ck_E1 (ck_S1 p2_s407_s ck_S0) (ck_E1 (ck_S1 p2_s408_s ck_S0) ck_E0)))⟩ ck_X0 ck_l0 p2_s3564_e
set_option maxRecDepth 100000 in
/-- GlacierMail.waiting -/
def p2_s3565 : ck_Sum := ((5, 0, 0), 245, [.inr (.inr (.inl 1)), .inl (ck_one (-1))], ([], [(3, 8, 0)], [(3, 6, 6, (0, 299, [(10, 0)]))]), ([(1, 15, 15), (206, 2, 8), (220, 3, 3), (221, 0, 47)], []), [(.inr (some (.inl ((-2147483648), 2147483647, []))), 245, ([], [], [(1, 15, 15, ck_one 1)]))])
set_option maxRecDepth 100000 in
theorem p2_s3565_e : ck_ok p2_O none [] [(24, [p2_s405]), (9, [p2_s359]), (66, [p2_s434])] 65 [(8, [some (.inr (.inr (.inl 1))), some (.inl (ck_one (-1))), some (.inl ((-2147483648), 2147483647, [])), some (.inl (0, 24, [])), none], ([], [(3, 8, 0)], [(1, 15, 15, ck_one 1), (3, 6, 6, (0, 299, [(10, 0)]))]), 100, .inl 3, true)] 178 p2_s3565 = true := by decide +kernel
theorem p2_s3565_s {X : Int → Int} {LX : Nat} : ck_Ok p2_O X LX 65 p2_s3565 := ck_ok_s ⟨p2_nmu, ck_E1 (ck_S1 p2_s405_s ck_S0) (ck_E1 (ck_S1 p2_s359_s ck_S0) (ck_E1 (ck_S1 p2_s434_s ck_S0) ck_E0))⟩ ck_X0 ck_l0 p2_s3565_e
set_option maxRecDepth 100000 in
/-- GlacierMail$Rows.size -/
def p2_s3566 : ck_Sum := ((0, 0, 0), 245, [.inr (.inr (.inl 14))], ([], [], []), ([], []), [(.inr (some (.inl (0, 24, []))), 245, ([], [], []))])
set_option maxRecDepth 100000 in
theorem p2_s3566_e : ck_ok p2_O none [] [] 9 [] 76 p2_s3566 = true := by decide +kernel
theorem p2_s3566_s {X : Int → Int} {LX : Nat} : ck_Ok p2_O X LX 9 p2_s3566 := ck_ok_s ⟨p2_nmu, ck_E0⟩ ck_X0 ck_l0 p2_s3566_e
set_option maxRecDepth 100000 in
/-- GlacierMail.count -/
def p2_s3567 : ck_Sum := ((6, 0, 0), 245, [.inr (.inr (.inl 1)), .inl (10, 2147483647, [])], ([], [(3, 8, 0)], [(3, 6, 6, (0, 299, [(10, 0)]))]), ([(1, 15, 15), (206, 2, 8), (220, 3, 3), (221, 0, 47)], []), [(.inr (some (.inl ((-2147483648), 2147483647, []))), 245, ([], [], [])), (.inr (some (.inl (0, 9999, []))), 245, ([], [], []))])
set_option maxRecDepth 100000 in
theorem p2_s3567_e : ck_ok p2_O none [] [(69, [p2_s3563]), (68, [p2_s3564]), (65, [p2_s3565]), (9, [p2_s3566])] 63 [] 84 p2_s3567 = true := by decide +kernel
theorem p2_s3567_s {X : Int → Int} {LX : Nat} : ck_Ok p2_O X LX 63 p2_s3567 := ck_ok_s ⟨p2_nmu, ck_E1 (ck_S1 p2_s3563_s ck_S0) (ck_E1 (ck_S1 p2_s3564_s ck_S0) (ck_E1 (ck_S1 p2_s3565_s ck_S0) (ck_E1 (ck_S1 p2_s3566_s ck_S0) ck_E0)))⟩ ck_X0 ck_l0 p2_s3567_e
set_option maxRecDepth 100000 in
/-- GlacierMail.lawLines -/
def p2_s3568 : ck_Sum := ((0, 0, 0), 245, [.inr (.inr (.inl 1))], ([], [(3, 8, 0)], []), ([], []), [(.inr (some (.inl (ck_one (-1)))), 245, ([], [], []))])
set_option maxRecDepth 100000 in
theorem p2_s3568_e : ck_ok p2_O none [] [] 64 [] 84 p2_s3568 = true := by decide +kernel
theorem p2_s3568_s {X : Int → Int} {LX : Nat} : ck_Ok p2_O X LX 64 p2_s3568 := ck_ok_s ⟨p2_nmu, ck_E0⟩ ck_X0 ck_l0 p2_s3568_e
set_option maxRecDepth 100000 in
/-- GlacierMail.count -/
def p2_s3569 : ck_Sum := ((1, 0, 0), 245, [.inr (.inr (.inl 1)), .inl (0, 9, [])], ([], [(3, 8, 0)], [(3, 6, 6, (0, 299, [(10, 0)]))]), ([], []), [(.inr (some (.inl (0, 2147483647, []))), 245, ([], [], [])), (.inr (some (.inl ((-2147483648), (-1), []))), 245, ([], [], []))])
set_option maxRecDepth 100000 in
theorem p2_s3569_e : ck_ok p2_O none [] [(64, [p2_s3568]), (9, [p2_s3125, p2_s159, p2_s359, p2_s348, p2_s155])] 63 [] 84 p2_s3569 = true := by decide +kernel
theorem p2_s3569_s {X : Int → Int} {LX : Nat} : ck_Ok p2_O X LX 63 p2_s3569 := ck_ok_s ⟨p2_nmu, ck_E1 (ck_S1 p2_s3568_s ck_S0) (ck_E1 (ck_S1 p2_s3125_s (ck_S1 p2_s159_s (ck_S1 p2_s359_s (ck_S1 p2_s348_s (ck_S1 p2_s155_s ck_S0))))) ck_E0)⟩ ck_X0 ck_l0 p2_s3569_e
set_option maxRecDepth 100000 in
/-- GlacierMailModel.in -/
def p2_s3570 : ck_Sum := ((0, 0, 0), 245, [.inl ((-2147483648), (-1), []), .inl (ck_one 0), .inl (ck_one 13)], ([], [], []), ([], []), [(.inr (some (.inl (ck_one 0))), 245, ([], [], []))])
set_option maxRecDepth 100000 in
theorem p2_s3570_e : ck_ok p2_O none [] [] 286 [] 80 p2_s3570 = true := by decide +kernel
theorem p2_s3570_s {X : Int → Int} {LX : Nat} : ck_Ok p2_O X LX 286 p2_s3570 := ck_ok_s ⟨p2_nmu, ck_E0⟩ ck_X0 ck_l0 p2_s3570_e
set_option maxRecDepth 100000 in
/-- GlacierMailModel.count -/
def p2_s3571 : ck_Sum := ((1, 0, 0), 245, [.inr (.inr (.inl 226)), .inl ((-2147483648), (-1), [])], ([], [], []), ([(226, 0, 0)], []), [(.inr (some (.inl (ck_one (-1)))), 245, ([], [], [(226, 0, 0, ck_one 0)]))])
set_option maxRecDepth 100000 in
theorem p2_s3571_e : ck_ok p2_O none [] [(286, [p2_s3570])] 368 [] 98 p2_s3571 = true := by decide +kernel
theorem p2_s3571_s {X : Int → Int} {LX : Nat} : ck_Ok p2_O X LX 368 p2_s3571 := ck_ok_s ⟨p2_nmu, ck_E1 (ck_S1 p2_s3570_s ck_S0) ck_E0⟩ ck_X0 ck_l0 p2_s3571_e
set_option maxRecDepth 100000 in
/-- GlacierMailModel.in -/
def p2_s3572 : ck_Sum := ((0, 0, 0), 245, [.inl (18, 2147483647, []), .inl (ck_one 0), .inl (ck_one 13)], ([], [], []), ([], []), [(.inr (some (.inl (ck_one 0))), 245, ([], [], []))])
set_option maxRecDepth 100000 in
theorem p2_s3572_e : ck_ok p2_O none [] [] 286 [] 86 p2_s3572 = true := by decide +kernel
theorem p2_s3572_s {X : Int → Int} {LX : Nat} : ck_Ok p2_O X LX 286 p2_s3572 := ck_ok_s ⟨p2_nmu, ck_E0⟩ ck_X0 ck_l0 p2_s3572_e
set_option maxRecDepth 100000 in
/-- GlacierMailModel.in -/
def p2_s3573 : ck_Sum := ((0, 0, 0), 245, [.inl (ck_one 13), .inl (ck_one 0), .inl (ck_one 13)], ([], [], []), ([], []), [(.inr (some (.inl (ck_one 1))), 245, ([], [], []))])
set_option maxRecDepth 100000 in
theorem p2_s3573_e : ck_ok p2_O none [] [] 286 [] 88 p2_s3573 = true := by decide +kernel
theorem p2_s3573_s {X : Int → Int} {LX : Nat} : ck_Ok p2_O X LX 286 p2_s3573 := ck_ok_s ⟨p2_nmu, ck_E0⟩ ck_X0 ck_l0 p2_s3573_e
set_option maxRecDepth 100000 in
/-- GlacierMailModel.in -/
def p2_s3574 : ck_Sum := ((0, 0, 0), 245, [.inl (ck_one 12), .inl (ck_one 0), .inl (ck_one 13)], ([], [], []), ([], []), [(.inr (some (.inl (ck_one 1))), 245, ([], [], []))])
set_option maxRecDepth 100000 in
theorem p2_s3574_e : ck_ok p2_O none [] [] 286 [] 88 p2_s3574 = true := by decide +kernel
theorem p2_s3574_s {X : Int → Int} {LX : Nat} : ck_Ok p2_O X LX 286 p2_s3574 := ck_ok_s ⟨p2_nmu, ck_E0⟩ ck_X0 ck_l0 p2_s3574_e
set_option maxRecDepth 100000 in
/-- GlacierMailModel.in -/
def p2_s3575 : ck_Sum := ((0, 0, 0), 245, [.inl (ck_one 11), .inl (ck_one 0), .inl (ck_one 13)], ([], [], []), ([], []), [(.inr (some (.inl (ck_one 1))), 245, ([], [], []))])
set_option maxRecDepth 100000 in
theorem p2_s3575_e : ck_ok p2_O none [] [] 286 [] 88 p2_s3575 = true := by decide +kernel
theorem p2_s3575_s {X : Int → Int} {LX : Nat} : ck_Ok p2_O X LX 286 p2_s3575 := ck_ok_s ⟨p2_nmu, ck_E0⟩ ck_X0 ck_l0 p2_s3575_e
set_option maxRecDepth 100000 in
/-- GlacierMailModel.in -/
def p2_s3576 : ck_Sum := ((0, 0, 0), 245, [.inl (ck_one 10), .inl (ck_one 0), .inl (ck_one 13)], ([], [], []), ([], []), [(.inr (some (.inl (ck_one 1))), 245, ([], [], []))])
set_option maxRecDepth 100000 in
theorem p2_s3576_e : ck_ok p2_O none [] [] 286 [] 88 p2_s3576 = true := by decide +kernel
theorem p2_s3576_s {X : Int → Int} {LX : Nat} : ck_Ok p2_O X LX 286 p2_s3576 := ck_ok_s ⟨p2_nmu, ck_E0⟩ ck_X0 ck_l0 p2_s3576_e
set_option maxRecDepth 100000 in
/-- GlacierMailModel.in -/
def p2_s3578 : ck_Sum := ((0, 0, 0), 245, [.inl (0, 7, []), .inl (ck_one 0), .inl (ck_one 13)], ([], [], []), ([], []), [(.inr (some (.inl (ck_one 1))), 245, ([], [], []))])
set_option maxRecDepth 100000 in
theorem p2_s3578_e : ck_ok p2_O none [] [] 286 [] 88 p2_s3578 = true := by decide +kernel
theorem p2_s3578_s {X : Int → Int} {LX : Nat} : ck_Ok p2_O X LX 286 p2_s3578 := ck_ok_s ⟨p2_nmu, ck_E0⟩ ck_X0 ck_l0 p2_s3578_e
set_option maxRecDepth 100000 in
/-- GlacierMailModel.in -/
def p2_s3579 : ck_Sum := ((0, 0, 0), 245, [.inl (ck_one 9), .inl (ck_one 0), .inl (ck_one 13)], ([], [], []), ([], []), [(.inr (some (.inl (ck_one 1))), 245, ([], [], []))])
set_option maxRecDepth 100000 in
theorem p2_s3579_e : ck_ok p2_O none [] [] 286 [] 88 p2_s3579 = true := by decide +kernel
theorem p2_s3579_s {X : Int → Int} {LX : Nat} : ck_Ok p2_O X LX 286 p2_s3579 := ck_ok_s ⟨p2_nmu, ck_E0⟩ ck_X0 ck_l0 p2_s3579_e
set_option maxRecDepth 100000 in
/-- GlacierMailModel.count -/
def p2_s3580 : ck_Sum := ((1, 0, 0), 245, [.inr (.inr (.inl 226)), .inl (0, 9, [])], ([], [], [(227, 9, 9, (0, 299, [(11, 0)]))]), ([(226, 0, 0)], []), [(.inr (some (.inl (0, 299, []))), 245, ([], [], [(226, 0, 0, ck_one 0)])), (.inr (some (.inl (ck_one (-1)))), 245, ([], [], [(227, 8, 8, ck_one 0), (226, 0, 0, ck_one 0)]))])
set_option maxRecDepth 100000 in
theorem p2_s3580_e : ck_ok p2_O none [] [(286, [p2_s3578, p2_s3579])] 368 [] 108 p2_s3580 = true := by decide +kernel
theorem p2_s3580_s {X : Int → Int} {LX : Nat} : ck_Ok p2_O X LX 368 p2_s3580 := ck_ok_s ⟨p2_nmu, ck_E1 (ck_S1 p2_s3578_s (ck_S1 p2_s3579_s ck_S0)) ck_E0⟩ ck_X0 ck_l0 p2_s3580_e
set_option maxRecDepth 100000 in
/-- GlacierMailModel.isAt -/
def p2_s3586 : ck_Sum := ((0, 0, 0), 245, [.inr (.inr (.inl 226)), .inl (ck_one 40), .inl (ck_one 40)], ([], [], [(226, 9, 9, (0, 400, [(1, 0)]))]), ([], []), [(.inr (some (.inl (ck_one 0))), 245, ([], [], [])), (.inr (some (.inl (ck_one 1))), 245, ([], [], [(226, 10, 10, (1, 400, [])), (226, 9, 9, (0, 399, [(1, 0)]))]))])
set_option maxRecDepth 100000 in
theorem p2_s3586_e : ck_ok p2_O none [] [] 246 [] 114 p2_s3586 = true := by decide +kernel
theorem p2_s3586_s {X : Int → Int} {LX : Nat} : ck_Ok p2_O X LX 246 p2_s3586 := ck_ok_s ⟨p2_nmu, ck_E0⟩ ck_X0 ck_l0 p2_s3586_e
set_option maxRecDepth 100000 in
/-- GlacierMailModel.sign -/
def p2_s3587 : ck_Sum := ((2, 0, 0), 245, [.inr (.inr (.inl 226)), .inl (ck_one 40)], ([], [], [(226, 9, 9, (0, 400, [(1, 0)]))]), ([(226, 9, 9), (226, 11, 11)], []), [(.inr (some (.inl (ck_one 0))), 245, ([], [], [(226, 11, 11, (0, 400, [(1000001, 0)])), (226, 9, 9, (0, 400, [(1000001, 0)]))])), (.inr (some (.inl (ck_one 1))), 245, ([], [], [(226, 9, 9, (1, 400, [(1000001, 1)])), (226, 10, 10, (1, 400, [])), (226, 11, 11, (0, 400, [(1000001, 0)]))]))])
set_option maxRecDepth 100000 in
theorem p2_s3587_e : ck_ok p2_O none [] [(245, [p2_s168]), (246, [p2_s3586])] 278 [] 100 p2_s3587 = true := by decide +kernel
theorem p2_s3587_s {X : Int → Int} {LX : Nat} : ck_Ok p2_O X LX 278 p2_s3587 := ck_ok_s ⟨p2_nmu, ck_E1 (ck_S1 p2_s168_s ck_S0) (ck_E1 (ck_S1 p2_s3586_s ck_S0) ck_E0)⟩ ck_X0 ck_l0 p2_s3587_e
set_option maxRecDepth 100000 in
/-- GlacierMailModel.isAt -/
def p2_s3619 : ck_Sum := ((0, 0, 0), 245, [.inr (.inr (.inl 226)), .inl (ck_one 60), .inl (ck_one 60)], ([], [], [(226, 9, 9, (0, 400, [(1, 0)]))]), ([], []), [(.inr (some (.inl (ck_one 0))), 245, ([], [], [])), (.inr (some (.inl (ck_one 1))), 245, ([], [], [(226, 10, 10, (1, 400, [])), (226, 9, 9, (0, 399, [(1, 0)]))]))])
set_option maxRecDepth 100000 in
theorem p2_s3619_e : ck_ok p2_O none [] [] 246 [] 114 p2_s3619 = true := by decide +kernel
theorem p2_s3619_s {X : Int → Int} {LX : Nat} : ck_Ok p2_O X LX 246 p2_s3619 := ck_ok_s ⟨p2_nmu, ck_E0⟩ ck_X0 ck_l0 p2_s3619_e
set_option maxRecDepth 100000 in
/-- GlacierMailModel.sign -/
def p2_s3620 : ck_Sum := ((2, 0, 0), 245, [.inr (.inr (.inl 226)), .inl (ck_one 60)], ([], [], [(226, 9, 9, (0, 400, [(1, 0)]))]), ([(226, 9, 9), (226, 11, 11)], []), [(.inr (some (.inl (ck_one 0))), 245, ([], [], [(226, 11, 11, (0, 400, [(1000001, 0)])), (226, 9, 9, (0, 400, [(1000001, 0)]))])), (.inr (some (.inl (ck_one 1))), 245, ([], [], [(226, 9, 9, (1, 400, [(1000001, 1)])), (226, 10, 10, (1, 400, [])), (226, 11, 11, (0, 400, [(1000001, 0)]))]))])
set_option maxRecDepth 100000 in
theorem p2_s3620_e : ck_ok p2_O none [] [(245, [p2_s168]), (246, [p2_s3619])] 278 [] 100 p2_s3620 = true := by decide +kernel
theorem p2_s3620_s {X : Int → Int} {LX : Nat} : ck_Ok p2_O X LX 278 p2_s3620 := ck_ok_s ⟨p2_nmu, ck_E1 (ck_S1 p2_s168_s ck_S0) (ck_E1 (ck_S1 p2_s3619_s ck_S0) ck_E0)⟩ ck_X0 ck_l0 p2_s3620_e
set_option maxRecDepth 100000 in
/-- GlacierMailModel.isAt -/
def p2_s3621 : ck_Sum := ((0, 0, 0), 245, [.inr (.inr (.inl 226)), .inl (ck_one 62), .inl (ck_one 62)], ([], [], [(226, 9, 9, (0, 400, [(1, 0)]))]), ([], []), [(.inr (some (.inl (ck_one 0))), 245, ([], [], [])), (.inr (some (.inl (ck_one 1))), 245, ([], [], [(226, 10, 10, (1, 400, [])), (226, 9, 9, (0, 399, [(1, 0)]))]))])
set_option maxRecDepth 100000 in
theorem p2_s3621_e : ck_ok p2_O none [] [] 246 [] 114 p2_s3621 = true := by decide +kernel
theorem p2_s3621_s {X : Int → Int} {LX : Nat} : ck_Ok p2_O X LX 246 p2_s3621 := ck_ok_s ⟨p2_nmu, ck_E0⟩ ck_X0 ck_l0 p2_s3621_e
set_option maxRecDepth 100000 in
/-- GlacierMailModel.sign -/
def p2_s3622 : ck_Sum := ((2, 0, 0), 245, [.inr (.inr (.inl 226)), .inl (ck_one 62)], ([], [], [(226, 9, 9, (0, 400, [(1, 0)]))]), ([(226, 9, 9), (226, 11, 11)], []), [(.inr (some (.inl (ck_one 0))), 245, ([], [], [(226, 11, 11, (0, 400, [(1000001, 0)])), (226, 9, 9, (0, 400, [(1000001, 0)]))])), (.inr (some (.inl (ck_one 1))), 245, ([], [], [(226, 9, 9, (1, 400, [(1000001, 1)])), (226, 10, 10, (1, 400, [])), (226, 11, 11, (0, 400, [(1000001, 0)]))]))])
set_option maxRecDepth 100000 in
theorem p2_s3622_e : ck_ok p2_O none [] [(245, [p2_s168]), (246, [p2_s3621])] 278 [] 100 p2_s3622 = true := by decide +kernel
theorem p2_s3622_s {X : Int → Int} {LX : Nat} : ck_Ok p2_O X LX 278 p2_s3622 := ck_ok_s ⟨p2_nmu, ck_E1 (ck_S1 p2_s168_s ck_S0) (ck_E1 (ck_S1 p2_s3621_s ck_S0) ck_E0)⟩ ck_X0 ck_l0 p2_s3622_e
set_option maxRecDepth 100000 in
/-- GlacierMailModel.isAt -/
def p2_s3658 : ck_Sum := ((0, 0, 0), 245, [.inr (.inr (.inl 226)), .inl (ck_one 41), .inl (ck_one 41)], ([], [], [(226, 9, 9, (0, 400, [(1, 0)]))]), ([], []), [(.inr (some (.inl (ck_one 0))), 245, ([], [], [])), (.inr (some (.inl (ck_one 1))), 245, ([], [], [(226, 10, 10, (1, 400, [])), (226, 9, 9, (0, 399, [(1, 0)]))]))])
set_option maxRecDepth 100000 in
theorem p2_s3658_e : ck_ok p2_O none [] [] 246 [] 114 p2_s3658 = true := by decide +kernel
theorem p2_s3658_s {X : Int → Int} {LX : Nat} : ck_Ok p2_O X LX 246 p2_s3658 := ck_ok_s ⟨p2_nmu, ck_E0⟩ ck_X0 ck_l0 p2_s3658_e
set_option maxRecDepth 100000 in
/-- GlacierMailModel.sign -/
def p2_s3659 : ck_Sum := ((2, 0, 0), 245, [.inr (.inr (.inl 226)), .inl (ck_one 41)], ([], [], [(226, 9, 9, (0, 400, [(1, 0)]))]), ([(226, 9, 9), (226, 11, 11)], []), [(.inr (some (.inl (ck_one 0))), 245, ([], [], [(226, 11, 11, (0, 400, [(1000001, 0)])), (226, 9, 9, (0, 400, [(1000001, 0)]))])), (.inr (some (.inl (ck_one 1))), 245, ([], [], [(226, 9, 9, (1, 400, [(1000001, 1)])), (226, 10, 10, (1, 400, [])), (226, 11, 11, (0, 400, [(1000001, 0)]))]))])
set_option maxRecDepth 100000 in
theorem p2_s3659_e : ck_ok p2_O none [] [(245, [p2_s168]), (246, [p2_s3658])] 278 [] 100 p2_s3659 = true := by decide +kernel
theorem p2_s3659_s {X : Int → Int} {LX : Nat} : ck_Ok p2_O X LX 278 p2_s3659 := ck_ok_s ⟨p2_nmu, ck_E1 (ck_S1 p2_s168_s ck_S0) (ck_E1 (ck_S1 p2_s3658_s ck_S0) ck_E0)⟩ ck_X0 ck_l0 p2_s3659_e
set_option maxRecDepth 100000 in
/-- GlacierMailModel.figures -/
def p2_s3610 : ck_Sum := ((2, 0, 0), 245, [.inr (.inr (.inl 226)), .inl (ck_one 0), .inl (ck_one 999), .inl (ck_one 3)], ([], [], [(226, 9, 9, (0, 400, [(1, 0)]))]), ([(226, 9, 9), (226, 11, 11)], []), [(.inr (some (.inl (ck_one (-1)))), 245, ([], [], [(226, 9, 9, (0, 400, [(1000001, 0)])), (226, 11, 11, (0, 400, [(1000001, 0)]))])), (.inr (some (.inl (0, 999, []))), 245, ([], [], [(226, 9, 9, (0, 400, [(1000001, 0)])), (226, 11, 11, (0, 400, [(1000001, 0)]))]))])
set_option maxRecDepth 100000 in
theorem p2_s3610_e : ck_ok p2_O none [] [(245, [p2_s168]), (246, [p2_s181])] 256 [(7, [some (.inr (.inr (.inl 226))), some (.inl (ck_one 0)), some (.inl (ck_one 999)), some (.inl (ck_one 3)), some (.inl ((-2147483648), 2147483647, []))], ([], [], [(226, 11, 11, (0, 400, [(1000001, 0)])), (226, 9, 9, (0, 400, [(1000001, 0)]))]), 100, .inr (226, 9), true)] 222 p2_s3610 = true := by decide +kernel
theorem p2_s3610_s {X : Int → Int} {LX : Nat} : ck_Ok p2_O X LX 256 p2_s3610 := ck_ok_s ⟨p2_nmu, ck_E1 (ck_S1 p2_s168_s ck_S0) (ck_E1 (ck_S1 p2_s181_s ck_S0) ck_E0)⟩ ck_X0 ck_l0 p2_s3610_e
set_option maxRecDepth 100000 in
/-- GlacierMailModel.isAt -/
def p2_s3614 : ck_Sum := ((0, 0, 0), 245, [.inr (.inr (.inl 226)), .inl (ck_one 43), .inl (ck_one 43)], ([], [], [(226, 9, 9, (0, 400, [(1, 0)]))]), ([], []), [(.inr (some (.inl (ck_one 0))), 245, ([], [], [])), (.inr (some (.inl (ck_one 1))), 245, ([], [], [(226, 10, 10, (1, 400, [])), (226, 9, 9, (0, 399, [(1, 0)]))]))])
set_option maxRecDepth 100000 in
theorem p2_s3614_e : ck_ok p2_O none [] [] 246 [] 114 p2_s3614 = true := by decide +kernel
theorem p2_s3614_s {X : Int → Int} {LX : Nat} : ck_Ok p2_O X LX 246 p2_s3614 := ck_ok_s ⟨p2_nmu, ck_E0⟩ ck_X0 ck_l0 p2_s3614_e
set_option maxRecDepth 100000 in
/-- GlacierMailModel.sign -/
def p2_s3615 : ck_Sum := ((2, 0, 0), 245, [.inr (.inr (.inl 226)), .inl (ck_one 43)], ([], [], [(226, 9, 9, (0, 400, [(1, 0)]))]), ([(226, 9, 9), (226, 11, 11)], []), [(.inr (some (.inl (ck_one 0))), 245, ([], [], [(226, 11, 11, (0, 400, [(1000001, 0)])), (226, 9, 9, (0, 400, [(1000001, 0)]))])), (.inr (some (.inl (ck_one 1))), 245, ([], [], [(226, 9, 9, (1, 400, [(1000001, 1)])), (226, 10, 10, (1, 400, [])), (226, 11, 11, (0, 400, [(1000001, 0)]))]))])
set_option maxRecDepth 100000 in
theorem p2_s3615_e : ck_ok p2_O none [] [(245, [p2_s168]), (246, [p2_s3614])] 278 [] 100 p2_s3615 = true := by decide +kernel
theorem p2_s3615_s {X : Int → Int} {LX : Nat} : ck_Ok p2_O X LX 278 p2_s3615 := ck_ok_s ⟨p2_nmu, ck_E1 (ck_S1 p2_s168_s ck_S0) (ck_E1 (ck_S1 p2_s3614_s ck_S0) ck_E0)⟩ ck_X0 ck_l0 p2_s3615_e
set_option maxRecDepth 100000 in
/-- GlacierMailModel.figures -/
def p2_s4759 : ck_Sum := ((2, 0, 0), 245, [.inr (.inr (.inl 226)), .inl (ck_one 0), .inl (ck_one 20), .inl (ck_one 3)], ([], [], [(226, 9, 9, (0, 400, [(1, 0)]))]), ([(226, 9, 9), (226, 11, 11)], []), [(.inr (some (.inl (ck_one (-1)))), 245, ([], [], [(226, 9, 9, (0, 400, [(1000001, 0)])), (226, 11, 11, (0, 400, [(1000001, 0)]))])), (.inr (some (.inl (0, 20, []))), 245, ([], [], [(226, 9, 9, (0, 400, [(1000001, 0)])), (226, 11, 11, (0, 400, [(1000001, 0)]))]))])
set_option maxRecDepth 100000 in
theorem p2_s4759_e : ck_ok p2_O none [] [(245, [p2_s168]), (246, [p2_s181])] 256 [(7, [some (.inr (.inr (.inl 226))), some (.inl (ck_one 0)), some (.inl (ck_one 20)), some (.inl (ck_one 3)), some (.inl ((-2147483648), 2147483647, []))], ([], [], [(226, 11, 11, (0, 400, [(1000001, 0)])), (226, 9, 9, (0, 400, [(1000001, 0)]))]), 100, .inr (226, 9), true)] 222 p2_s4759 = true := by decide +kernel
theorem p2_s4759_s {X : Int → Int} {LX : Nat} : ck_Ok p2_O X LX 256 p2_s4759 := ck_ok_s ⟨p2_nmu, ck_E1 (ck_S1 p2_s168_s ck_S0) (ck_E1 (ck_S1 p2_s181_s ck_S0) ck_E0)⟩ ck_X0 ck_l0 p2_s4759_e
set_option maxRecDepth 100000 in
/-- GlacierMailModel.readLine -/
def p2_s4784 : ck_Sum := ((3, 0, 0), 245, [.inr (.inr (.inl 226)), .inl (ck_one 0), .inl (ck_one 12)], ([], [], [(226, 9, 9, (0, 400, [(1, 0)]))]), ([(226, 9, 9), (226, 11, 11)], []), [(.inr (some (.inl (ck_one 0))), 245, ([], [], [(226, 9, 9, (0, 400, [(1000001, 0)])), (226, 11, 11, (0, 400, [(1000001, 0)]))]))])
set_option maxRecDepth 100000 in
theorem p2_s4784_e : ck_ok p2_O none [] [(248, [p2_s170])] 247 [] 88 p2_s4784 = true := by decide +kernel
theorem p2_s4784_s {X : Int → Int} {LX : Nat} : ck_Ok p2_O X LX 247 p2_s4784 := ck_ok_s ⟨p2_nmu, ck_E1 (ck_S1 p2_s170_s ck_S0) ck_E0⟩ ck_X0 ck_l0 p2_s4784_e
