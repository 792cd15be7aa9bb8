/-! EVERY CALL ENDS, whatever was done before (laid by wip/am/p2g.py). -/
set_option maxRecDepth 100000 in
/-- GlacierMail$Rows.copyFrom -/
def p2_s3489 : ck_Sum := ((1, 0, 0), 245, [.inr (.inr (.inl 12)), .inr (.inr (.inl 105))], ([], [], []), ([(12, 3, 3), (13, 0, 35)], []), [(.inr none, 245, ([], [], []))])
set_option maxRecDepth 100000 in
theorem p2_s3489_e : ck_ok p2_O none [] [] 58 [] 114 p2_s3489 = true := by decide +kernel
theorem p2_s3489_s {X : Int → Int} {LX : Nat} : ck_Ok p2_O X LX 58 p2_s3489 := ck_ok_s ⟨p2_nmu, ck_E0⟩ ck_X0 ck_l0 p2_s3489_e
set_option maxRecDepth 100000 in
/-- GlacierMail$Rows.copyFrom -/
def p2_s3490 : ck_Sum := ((1, 0, 0), 245, [.inr (.inr (.inl 14)), .inr (.inr (.inl 107))], ([], [], []), ([(14, 3, 3), (15, 0, 71)], []), [(.inr none, 245, ([], [], []))])
set_option maxRecDepth 100000 in
theorem p2_s3490_e : ck_ok p2_O none [] [] 58 [] 114 p2_s3490 = true := by decide +kernel
theorem p2_s3490_s {X : Int → Int} {LX : Nat} : ck_Ok p2_O X LX 58 p2_s3490 := ck_ok_s ⟨p2_nmu, ck_E0⟩ ck_X0 ck_l0 p2_s3490_e
set_option maxRecDepth 100000 in
/-- GlacierMail$State.copyFrom -/
def p2_s3491 : ck_Sum := ((2, 0, 0), 245, [.inr (.inr (.inl 3)), .inr (.inr (.inl 96))], ([], [(3, 8, 0), (96, 8, 100096)], []), ([(3, 0, 7), (4, 3, 3), (5, 0, 55), (6, 3, 3), (7, 0, 23), (8, 3, 3), (9, 0, 23), (10, 3, 3), (11, 0, 167), (12, 3, 3), (13, 0, 35), (14, 3, 3), (15, 0, 71)], [(3, 8)]), [(.inr none, 245, ([], [(3, 8, 100096)], []))])
set_option maxRecDepth 100000 in
theorem p2_s3491_e : ck_ok p2_O none [] [(58, [p2_s3485, p2_s3486, p2_s3487, p2_s3488, p2_s3489, p2_s3490])] 57 [] 204 p2_s3491 = true := by decide +kernel
theorem p2_s3491_s {X : Int → Int} {LX : Nat} : ck_Ok p2_O X LX 57 p2_s3491 := ck_ok_s ⟨p2_nmu, ck_E1 (ck_S1 p2_s3485_s (ck_S1 p2_s3486_s (ck_S1 p2_s3487_s (ck_S1 p2_s3488_s (ck_S1 p2_s3489_s (ck_S1 p2_s3490_s ck_S0)))))) ck_E0⟩ ck_X0 ck_l0 p2_s3491_e
set_option maxRecDepth 100000 in
/-- GlacierMail$Rows.copyFrom -/
def p2_s3492 : ck_Sum := ((1, 0, 0), 245, [.inr (.inr (.inl 4)), .inr (.inr (.inl 110))], ([], [], []), ([(4, 3, 3), (5, 0, 55)], []), [(.inr none, 245, ([], [], []))])
set_option maxRecDepth 100000 in
theorem p2_s3492_e : ck_ok p2_O none [] [] 58 [] 114 p2_s3492 = true := by decide +kernel
theorem p2_s3492_s {X : Int → Int} {LX : Nat} : ck_Ok p2_O X LX 58 p2_s3492 := ck_ok_s ⟨p2_nmu, ck_E0⟩ ck_X0 ck_l0 p2_s3492_e
set_option maxRecDepth 100000 in
/-- GlacierMail$Rows.copyFrom -/
def p2_s3493 : ck_Sum := ((1, 0, 0), 245, [.inr (.inr (.inl 6)), .inr (.inr (.inl 112))], ([], [], []), ([(6, 3, 3), (7, 0, 23)], []), [(.inr none, 245, ([], [], []))])
set_option maxRecDepth 100000 in
theorem p2_s3493_e : ck_ok p2_O none [] [] 58 [] 114 p2_s3493 = true := by decide +kernel
theorem p2_s3493_s {X : Int → Int} {LX : Nat} : ck_Ok p2_O X LX 58 p2_s3493 := ck_ok_s ⟨p2_nmu, ck_E0⟩ ck_X0 ck_l0 p2_s3493_e
set_option maxRecDepth 100000 in
/-- GlacierMail$Rows.copyFrom -/
def p2_s3494 : ck_Sum := ((1, 0, 0), 245, [.inr (.inr (.inl 8)), .inr (.inr (.inl 114))], ([], [], []), ([(8, 3, 3), (9, 0, 23)], []), [(.inr none, 245, ([], [], []))])
set_option maxRecDepth 100000 in
theorem p2_s3494_e : ck_ok p2_O none [] [] 58 [] 114 p2_s3494 = true := by decide +kernel
theorem p2_s3494_s {X : Int → Int} {LX : Nat} : ck_Ok p2_O X LX 58 p2_s3494 := ck_ok_s ⟨p2_nmu, ck_E0⟩ ck_X0 ck_l0 p2_s3494_e
set_option maxRecDepth 100000 in
/-- GlacierMail$Rows.copyFrom -/
def p2_s3495 : ck_Sum := ((1, 0, 0), 245, [.inr (.inr (.inl 10)), .inr (.inr (.inl 116))], ([], [], []), ([(10, 3, 3), (11, 0, 167)], []), [(.inr none, 245, ([], [], []))])
set_option maxRecDepth 100000 in
theorem p2_s3495_e : ck_ok p2_O none [] [] 58 [] 114 p2_s3495 = true := by decide +kernel
theorem p2_s3495_s {X : Int → Int} {LX : Nat} : ck_Ok p2_O X LX 58 p2_s3495 := ck_ok_s ⟨p2_nmu, ck_E0⟩ ck_X0 ck_l0 p2_s3495_e
set_option maxRecDepth 100000 in
/-- GlacierMail$Rows.copyFrom -/
def p2_s3496 : ck_Sum := ((1, 0, 0), 245, [.inr (.inr (.inl 12)), .inr (.inr (.inl 118))], ([], [], []), ([(12, 3, 3), (13, 0, 35)], []), [(.inr none, 245, ([], [], []))])
set_option maxRecDepth 100000 in
theorem p2_s3496_e : ck_ok p2_O none [] [] 58 [] 114 p2_s3496 = true := by decide +kernel
theorem p2_s3496_s {X : Int → Int} {LX : Nat} : ck_Ok p2_O X LX 58 p2_s3496 := ck_ok_s ⟨p2_nmu, ck_E0⟩ ck_X0 ck_l0 p2_s3496_e
set_option maxRecDepth 100000 in
/-- GlacierMail$Rows.copyFrom -/
def p2_s3497 : ck_Sum := ((1, 0, 0), 245, [.inr (.inr (.inl 14)), .inr (.inr (.inl 120))], ([], [], []), ([(14, 3, 3), (15, 0, 71)], []), [(.inr none, 245, ([], [], []))])
set_option maxRecDepth 100000 in
theorem p2_s3497_e : ck_ok p2_O none [] [] 58 [] 114 p2_s3497 = true := by decide +kernel
theorem p2_s3497_s {X : Int → Int} {LX : Nat} : ck_Ok p2_O X LX 58 p2_s3497 := ck_ok_s ⟨p2_nmu, ck_E0⟩ ck_X0 ck_l0 p2_s3497_e
set_option maxRecDepth 100000 in
/-- GlacierMail$State.copyFrom -/
def p2_s3498 : ck_Sum := ((2, 0, 0), 245, [.inr (.inr (.inl 3)), .inr (.inr (.inl 109))], ([], [(3, 8, 0), (109, 8, 100109)], []), ([(3, 0, 7), (4, 3, 3), (5, 0, 55), (6, 3, 3), (7, 0, 23), (8, 3, 3), (9, 0, 23), (10, 3, 3), (11, 0, 167), (12, 3, 3), (13, 0, 35), (14, 3, 3), (15, 0, 71)], [(3, 8)]), [(.inr none, 245, ([], [(3, 8, 100109)], []))])
set_option maxRecDepth 100000 in
theorem p2_s3498_e : ck_ok p2_O none [] [(58, [p2_s3492, p2_s3493, p2_s3494, p2_s3495, p2_s3496, p2_s3497])] 57 [] 204 p2_s3498 = true := by decide +kernel
theorem p2_s3498_s {X : Int → Int} {LX : Nat} : ck_Ok p2_O X LX 57 p2_s3498 := ck_ok_s ⟨p2_nmu, ck_E1 (ck_S1 p2_s3492_s (ck_S1 p2_s3493_s (ck_S1 p2_s3494_s (ck_S1 p2_s3495_s (ck_S1 p2_s3496_s (ck_S1 p2_s3497_s ck_S0)))))) ck_E0⟩ ck_X0 ck_l0 p2_s3498_e
set_option maxRecDepth 100000 in
/-- GlacierMail$Rows.copyFrom -/
def p2_s3499 : ck_Sum := ((1, 0, 0), 245, [.inr (.inr (.inl 4)), .inr (.inr (.inl 123))], ([], [], []), ([(4, 3, 3), (5, 0, 55)], []), [(.inr none, 245, ([], [], []))])
set_option maxRecDepth 100000 in
theorem p2_s3499_e : ck_ok p2_O none [] [] 58 [] 114 p2_s3499 = true := by decide +kernel
theorem p2_s3499_s {X : Int → Int} {LX : Nat} : ck_Ok p2_O X LX 58 p2_s3499 := ck_ok_s ⟨p2_nmu, ck_E0⟩ ck_X0 ck_l0 p2_s3499_e
set_option maxRecDepth 100000 in
/-- GlacierMail$Rows.copyFrom -/
def p2_s3500 : ck_Sum := ((1, 0, 0), 245, [.inr (.inr (.inl 6)), .inr (.inr (.inl 125))], ([], [], []), ([(6, 3, 3), (7, 0, 23)], []), [(.inr none, 245, ([], [], []))])
set_option maxRecDepth 100000 in
theorem p2_s3500_e : ck_ok p2_O none [] [] 58 [] 114 p2_s3500 = true := by decide +kernel
theorem p2_s3500_s {X : Int → Int} {LX : Nat} : ck_Ok p2_O X LX 58 p2_s3500 := ck_ok_s ⟨p2_nmu, ck_E0⟩ ck_X0 ck_l0 p2_s3500_e
set_option maxRecDepth 100000 in
/-- GlacierMail$Rows.copyFrom -/
def p2_s3501 : ck_Sum := ((1, 0, 0), 245, [.inr (.inr (.inl 8)), .inr (.inr (.inl 127))], ([], [], []), ([(8, 3, 3), (9, 0, 23)], []), [(.inr none, 245, ([], [], []))])
set_option maxRecDepth 100000 in
theorem p2_s3501_e : ck_ok p2_O none [] [] 58 [] 114 p2_s3501 = true := by decide +kernel
theorem p2_s3501_s {X : Int → Int} {LX : Nat} : ck_Ok p2_O X LX 58 p2_s3501 := ck_ok_s ⟨p2_nmu, ck_E0⟩ ck_X0 ck_l0 p2_s3501_e
set_option maxRecDepth 100000 in
/-- GlacierMail$Rows.copyFrom -/
def p2_s3502 : ck_Sum := ((1, 0, 0), 245, [.inr (.inr (.inl 10)), .inr (.inr (.inl 129))], ([], [], []), ([(10, 3, 3), (11, 0, 167)], []), [(.inr none, 245, ([], [], []))])
set_option maxRecDepth 100000 in
theorem p2_s3502_e : ck_ok p2_O none [] [] 58 [] 114 p2_s3502 = true := by decide +kernel
theorem p2_s3502_s {X : Int → Int} {LX : Nat} : ck_Ok p2_O X LX 58 p2_s3502 := ck_ok_s ⟨p2_nmu, ck_E0⟩ ck_X0 ck_l0 p2_s3502_e
set_option maxRecDepth 100000 in
/-- GlacierMail$Rows.copyFrom -/
def p2_s3503 : ck_Sum := ((1, 0, 0), 245, [.inr (.inr (.inl 12)), .inr (.inr (.inl 131))], ([], [], []), ([(12, 3, 3), (13, 0, 35)], []), [(.inr none, 245, ([], [], []))])
set_option maxRecDepth 100000 in
theorem p2_s3503_e : ck_ok p2_O none [] [] 58 [] 114 p2_s3503 = true := by decide +kernel
theorem p2_s3503_s {X : Int → Int} {LX : Nat} : ck_Ok p2_O X LX 58 p2_s3503 := ck_ok_s ⟨p2_nmu, ck_E0⟩ ck_X0 ck_l0 p2_s3503_e
set_option maxRecDepth 100000 in
/-- GlacierMail$Rows.copyFrom -/
def p2_s3504 : ck_Sum := ((1, 0, 0), 245, [.inr (.inr (.inl 14)), .inr (.inr (.inl 133))], ([], [], []), ([(14, 3, 3), (15, 0, 71)], []), [(.inr none, 245, ([], [], []))])
set_option maxRecDepth 100000 in
theorem p2_s3504_e : ck_ok p2_O none [] [] 58 [] 114 p2_s3504 = true := by decide +kernel
theorem p2_s3504_s {X : Int → Int} {LX : Nat} : ck_Ok p2_O X LX 58 p2_s3504 := ck_ok_s ⟨p2_nmu, ck_E0⟩ ck_X0 ck_l0 p2_s3504_e
set_option maxRecDepth 100000 in
/-- GlacierMail$State.copyFrom -/
def p2_s3505 : ck_Sum := ((2, 0, 0), 245, [.inr (.inr (.inl 3)), .inr (.inr (.inl 122))], ([], [(3, 8, 0), (122, 8, 100122)], []), ([(3, 0, 7), (4, 3, 3), (5, 0, 55), (6, 3, 3), (7, 0, 23), (8, 3, 3), (9, 0, 23), (10, 3, 3), (11, 0, 167), (12, 3, 3), (13, 0, 35), (14, 3, 3), (15, 0, 71)], [(3, 8)]), [(.inr none, 245, ([], [(3, 8, 100122)], []))])
set_option maxRecDepth 100000 in
theorem p2_s3505_e : ck_ok p2_O none [] [(58, [p2_s3499, p2_s3500, p2_s3501, p2_s3502, p2_s3503, p2_s3504])] 57 [] 204 p2_s3505 = true := by decide +kernel
theorem p2_s3505_s {X : Int → Int} {LX : Nat} : ck_Ok p2_O X LX 57 p2_s3505 := ck_ok_s ⟨p2_nmu, ck_E1 (ck_S1 p2_s3499_s (ck_S1 p2_s3500_s (ck_S1 p2_s3501_s (ck_S1 p2_s3502_s (ck_S1 p2_s3503_s (ck_S1 p2_s3504_s ck_S0)))))) ck_E0⟩ ck_X0 ck_l0 p2_s3505_e
set_option maxRecDepth 100000 in
/-- GlacierMail$Rows.copyFrom -/
def p2_s3506 : ck_Sum := ((1, 0, 0), 245, [.inr (.inr (.inl 4)), .inr (.inr (.inl 136))], ([], [], []), ([(4, 3, 3), (5, 0, 55)], []), [(.inr none, 245, ([], [], []))])
set_option maxRecDepth 100000 in
theorem p2_s3506_e : ck_ok p2_O none [] [] 58 [] 114 p2_s3506 = true := by decide +kernel
theorem p2_s3506_s {X : Int → Int} {LX : Nat} : ck_Ok p2_O X LX 58 p2_s3506 := ck_ok_s ⟨p2_nmu, ck_E0⟩ ck_X0 ck_l0 p2_s3506_e
set_option maxRecDepth 100000 in
/-- GlacierMail$Rows.copyFrom -/
def p2_s3507 : ck_Sum := ((1, 0, 0), 245, [.inr (.inr (.inl 6)), .inr (.inr (.inl 138))], ([], [], []), ([(6, 3, 3), (7, 0, 23)], []), [(.inr none, 245, ([], [], []))])
set_option maxRecDepth 100000 in
theorem p2_s3507_e : ck_ok p2_O none [] [] 58 [] 114 p2_s3507 = true := by decide +kernel
theorem p2_s3507_s {X : Int → Int} {LX : Nat} : ck_Ok p2_O X LX 58 p2_s3507 := ck_ok_s ⟨p2_nmu, ck_E0⟩ ck_X0 ck_l0 p2_s3507_e
set_option maxRecDepth 100000 in
/-- GlacierMail$Rows.copyFrom -/
def p2_s3508 : ck_Sum := ((1, 0, 0), 245, [.inr (.inr (.inl 8)), .inr (.inr (.inl 140))], ([], [], []), ([(8, 3, 3), (9, 0, 23)], []), [(.inr none, 245, ([], [], []))])
set_option maxRecDepth 100000 in
theorem p2_s3508_e : ck_ok p2_O none [] [] 58 [] 114 p2_s3508 = true := by decide +kernel
theorem p2_s3508_s {X : Int → Int} {LX : Nat} : ck_Ok p2_O X LX 58 p2_s3508 := ck_ok_s ⟨p2_nmu, ck_E0⟩ ck_X0 ck_l0 p2_s3508_e
set_option maxRecDepth 100000 in
/-- GlacierMail$Rows.copyFrom -/
def p2_s3509 : ck_Sum := ((1, 0, 0), 245, [.inr (.inr (.inl 10)), .inr (.inr (.inl 142))], ([], [], []), ([(10, 3, 3), (11, 0, 167)], []), [(.inr none, 245, ([], [], []))])
set_option maxRecDepth 100000 in
theorem p2_s3509_e : ck_ok p2_O none [] [] 58 [] 114 p2_s3509 = true := by decide +kernel
theorem p2_s3509_s {X : Int → Int} {LX : Nat} : ck_Ok p2_O X LX 58 p2_s3509 := ck_ok_s ⟨p2_nmu, ck_E0⟩ ck_X0 ck_l0 p2_s3509_e
set_option maxRecDepth 100000 in
/-- GlacierMail$Rows.copyFrom -/
def p2_s3510 : ck_Sum := ((1, 0, 0), 245, [.inr (.inr (.inl 12)), .inr (.inr (.inl 144))], ([], [], []), ([(12, 3, 3), (13, 0, 35)], []), [(.inr none, 245, ([], [], []))])
set_option maxRecDepth 100000 in
theorem p2_s3510_e : ck_ok p2_O none [] [] 58 [] 114 p2_s3510 = true := by decide +kernel
theorem p2_s3510_s {X : Int → Int} {LX : Nat} : ck_Ok p2_O X LX 58 p2_s3510 := ck_ok_s ⟨p2_nmu, ck_E0⟩ ck_X0 ck_l0 p2_s3510_e
set_option maxRecDepth 100000 in
/-- GlacierMail$Rows.copyFrom -/
def p2_s3511 : ck_Sum := ((1, 0, 0), 245, [.inr (.inr (.inl 14)), .inr (.inr (.inl 146))], ([], [], []), ([(14, 3, 3), (15, 0, 71)], []), [(.inr none, 245, ([], [], []))])
set_option maxRecDepth 100000 in
theorem p2_s3511_e : ck_ok p2_O none [] [] 58 [] 114 p2_s3511 = true := by decide +kernel
theorem p2_s3511_s {X : Int → Int} {LX : Nat} : ck_Ok p2_O X LX 58 p2_s3511 := ck_ok_s ⟨p2_nmu, ck_E0⟩ ck_X0 ck_l0 p2_s3511_e
set_option maxRecDepth 100000 in
/-- GlacierMail$State.copyFrom -/
def p2_s3512 : ck_Sum := ((2, 0, 0), 245, [.inr (.inr (.inl 3)), .inr (.inr (.inl 135))], ([], [(3, 8, 0), (135, 8, 100135)], []), ([(3, 0, 7), (4, 3, 3), (5, 0, 55), (6, 3, 3), (7, 0, 23), (8, 3, 3), (9, 0, 23), (10, 3, 3), (11, 0, 167), (12, 3, 3), (13, 0, 35), (14, 3, 3), (15, 0, 71)], [(3, 8)]), [(.inr none, 245, ([], [(3, 8, 100135)], []))])
set_option maxRecDepth 100000 in
theorem p2_s3512_e : ck_ok p2_O none [] [(58, [p2_s3506, p2_s3507, p2_s3508, p2_s3509, p2_s3510, p2_s3511])] 57 [] 204 p2_s3512 = true := by decide +kernel
theorem p2_s3512_s {X : Int → Int} {LX : Nat} : ck_Ok p2_O X LX 57 p2_s3512 := ck_ok_s ⟨p2_nmu, ck_E1 (ck_S1 p2_s3506_s (ck_S1 p2_s3507_s (ck_S1 p2_s3508_s (ck_S1 p2_s3509_s (ck_S1 p2_s3510_s (ck_S1 p2_s3511_s ck_S0)))))) ck_E0⟩ ck_X0 ck_l0 p2_s3512_e
set_option maxRecDepth 100000 in
/-- GlacierMail$Rows.copyFrom -/
def p2_s3513 : ck_Sum := ((1, 0, 0), 245, [.inr (.inr (.inl 4)), .inr (.inr (.inl 149))], ([], [], []), ([(4, 3, 3), (5, 0, 55)], []), [(.inr none, 245, ([], [], []))])
set_option maxRecDepth 100000 in
theorem p2_s3513_e : ck_ok p2_O none [] [] 58 [] 114 p2_s3513 = true := by decide +kernel
theorem p2_s3513_s {X : Int → Int} {LX : Nat} : ck_Ok p2_O X LX 58 p2_s3513 := ck_ok_s ⟨p2_nmu, ck_E0⟩ ck_X0 ck_l0 p2_s3513_e
set_option maxRecDepth 100000 in
/-- GlacierMail$Rows.copyFrom -/
def p2_s3514 : ck_Sum := ((1, 0, 0), 245, [.inr (.inr (.inl 6)), .inr (.inr (.inl 151))], ([], [], []), ([(6, 3, 3), (7, 0, 23)], []), [(.inr none, 245, ([], [], []))])
set_option maxRecDepth 100000 in
theorem p2_s3514_e : ck_ok p2_O none [] [] 58 [] 114 p2_s3514 = true := by decide +kernel
theorem p2_s3514_s {X : Int → Int} {LX : Nat} : ck_Ok p2_O X LX 58 p2_s3514 := ck_ok_s ⟨p2_nmu, ck_E0⟩ ck_X0 ck_l0 p2_s3514_e
set_option maxRecDepth 100000 in
/-- GlacierMail$Rows.copyFrom -/
def p2_s3515 : ck_Sum := ((1, 0, 0), 245, [.inr (.inr (.inl 8)), .inr (.inr (.inl 153))], ([], [], []), ([(8, 3, 3), (9, 0, 23)], []), [(.inr none, 245, ([], [], []))])
set_option maxRecDepth 100000 in
theorem p2_s3515_e : ck_ok p2_O none [] [] 58 [] 114 p2_s3515 = true := by decide +kernel
theorem p2_s3515_s {X : Int → Int} {LX : Nat} : ck_Ok p2_O X LX 58 p2_s3515 := ck_ok_s ⟨p2_nmu, ck_E0⟩ ck_X0 ck_l0 p2_s3515_e
set_option maxRecDepth 100000 in
/-- GlacierMail$Rows.copyFrom -/
def p2_s3516 : ck_Sum := ((1, 0, 0), 245, [.inr (.inr (.inl 10)), .inr (.inr (.inl 155))], ([], [], []), ([(10, 3, 3), (11, 0, 167)], []), [(.inr none, 245, ([], [], []))])
set_option maxRecDepth 100000 in
theorem p2_s3516_e : ck_ok p2_O none [] [] 58 [] 114 p2_s3516 = true := by decide +kernel
theorem p2_s3516_s {X : Int → Int} {LX : Nat} : ck_Ok p2_O X LX 58 p2_s3516 := ck_ok_s ⟨p2_nmu, ck_E0⟩ ck_X0 ck_l0 p2_s3516_e
set_option maxRecDepth 100000 in
/-- GlacierMail$Rows.copyFrom -/
def p2_s3517 : ck_Sum := ((1, 0, 0), 245, [.inr (.inr (.inl 12)), .inr (.inr (.inl 157))], ([], [], []), ([(12, 3, 3), (13, 0, 35)], []), [(.inr none, 245, ([], [], []))])
set_option maxRecDepth 100000 in
theorem p2_s3517_e : ck_ok p2_O none [] [] 58 [] 114 p2_s3517 = true := by decide +kernel
theorem p2_s3517_s {X : Int → Int} {LX : Nat} : ck_Ok p2_O X LX 58 p2_s3517 := ck_ok_s ⟨p2_nmu, ck_E0⟩ ck_X0 ck_l0 p2_s3517_e
set_option maxRecDepth 100000 in
/-- GlacierMail$Rows.copyFrom -/
def p2_s3518 : ck_Sum := ((1, 0, 0), 245, [.inr (.inr (.inl 14)), .inr (.inr (.inl 159))], ([], [], []), ([(14, 3, 3), (15, 0, 71)], []), [(.inr none, 245, ([], [], []))])
set_option maxRecDepth 100000 in
theorem p2_s3518_e : ck_ok p2_O none [] [] 58 [] 114 p2_s3518 = true := by decide +kernel
theorem p2_s3518_s {X : Int → Int} {LX : Nat} : ck_Ok p2_O X LX 58 p2_s3518 := ck_ok_s ⟨p2_nmu, ck_E0⟩ ck_X0 ck_l0 p2_s3518_e
set_option maxRecDepth 100000 in
/-- GlacierMail$State.copyFrom -/
def p2_s3519 : ck_Sum := ((2, 0, 0), 245, [.inr (.inr (.inl 3)), .inr (.inr (.inl 148))], ([], [(3, 8, 0), (148, 8, 100148)], []), ([(3, 0, 7), (4, 3, 3), (5, 0, 55), (6, 3, 3), (7, 0, 23), (8, 3, 3), (9, 0, 23), (10, 3, 3), (11, 0, 167), (12, 3, 3), (13, 0, 35), (14, 3, 3), (15, 0, 71)], [(3, 8)]), [(.inr none, 245, ([], [(3, 8, 100148)], []))])
set_option maxRecDepth 100000 in
theorem p2_s3519_e : ck_ok p2_O none [] [(58, [p2_s3513, p2_s3514, p2_s3515, p2_s3516, p2_s3517, p2_s3518])] 57 [] 204 p2_s3519 = true := by decide +kernel
theorem p2_s3519_s {X : Int → Int} {LX : Nat} : ck_Ok p2_O X LX 57 p2_s3519 := ck_ok_s ⟨p2_nmu, ck_E1 (ck_S1 p2_s3513_s (ck_S1 p2_s3514_s (ck_S1 p2_s3515_s (ck_S1 p2_s3516_s (ck_S1 p2_s3517_s (ck_S1 p2_s3518_s ck_S0)))))) ck_E0⟩ ck_X0 ck_l0 p2_s3519_e
set_option maxRecDepth 100000 in
/-- GlacierMail$Rows.copyFrom -/
def p2_s3520 : ck_Sum := ((1, 0, 0), 245, [.inr (.inr (.inl 4)), .inr (.inr (.inl 162))], ([], [], []), ([(4, 3, 3), (5, 0, 55)], []), [(.inr none, 245, ([], [], []))])
set_option maxRecDepth 100000 in
theorem p2_s3520_e : ck_ok p2_O none [] [] 58 [] 114 p2_s3520 = true := by decide +kernel
theorem p2_s3520_s {X : Int → Int} {LX : Nat} : ck_Ok p2_O X LX 58 p2_s3520 := ck_ok_s ⟨p2_nmu, ck_E0⟩ ck_X0 ck_l0 p2_s3520_e
set_option maxRecDepth 100000 in
/-- GlacierMail$Rows.copyFrom -/
def p2_s3521 : ck_Sum := ((1, 0, 0), 245, [.inr (.inr (.inl 6)), .inr (.inr (.inl 164))], ([], [], []), ([(6, 3, 3), (7, 0, 23)], []), [(.inr none, 245, ([], [], []))])
set_option maxRecDepth 100000 in
theorem p2_s3521_e : ck_ok p2_O none [] [] 58 [] 114 p2_s3521 = true := by decide +kernel
theorem p2_s3521_s {X : Int → Int} {LX : Nat} : ck_Ok p2_O X LX 58 p2_s3521 := ck_ok_s ⟨p2_nmu, ck_E0⟩ ck_X0 ck_l0 p2_s3521_e
set_option maxRecDepth 100000 in
/-- GlacierMail$Rows.copyFrom -/
def p2_s3522 : ck_Sum := ((1, 0, 0), 245, [.inr (.inr (.inl 8)), .inr (.inr (.inl 166))], ([], [], []), ([(8, 3, 3), (9, 0, 23)], []), [(.inr none, 245, ([], [], []))])
set_option maxRecDepth 100000 in
theorem p2_s3522_e : ck_ok p2_O none [] [] 58 [] 114 p2_s3522 = true := by decide +kernel
theorem p2_s3522_s {X : Int → Int} {LX : Nat} : ck_Ok p2_O X LX 58 p2_s3522 := ck_ok_s ⟨p2_nmu, ck_E0⟩ ck_X0 ck_l0 p2_s3522_e
set_option maxRecDepth 100000 in
/-- GlacierMail$Rows.copyFrom -/
def p2_s3523 : ck_Sum := ((1, 0, 0), 245, [.inr (.inr (.inl 10)), .inr (.inr (.inl 168))], ([], [], []), ([(10, 3, 3), (11, 0, 167)], []), [(.inr none, 245, ([], [], []))])
set_option maxRecDepth 100000 in
theorem p2_s3523_e : ck_ok p2_O none [] [] 58 [] 114 p2_s3523 = true := by decide +kernel
theorem p2_s3523_s {X : Int → Int} {LX : Nat} : ck_Ok p2_O X LX 58 p2_s3523 := ck_ok_s ⟨p2_nmu, ck_E0⟩ ck_X0 ck_l0 p2_s3523_e
set_option maxRecDepth 100000 in
/-- GlacierMail$Rows.copyFrom -/
def p2_s3524 : ck_Sum := ((1, 0, 0), 245, [.inr (.inr (.inl 12)), .inr (.inr (.inl 170))], ([], [], []), ([(12, 3, 3), (13, 0, 35)], []), [(.inr none, 245, ([], [], []))])
set_option maxRecDepth 100000 in
theorem p2_s3524_e : ck_ok p2_O none [] [] 58 [] 114 p2_s3524 = true := by decide +kernel
theorem p2_s3524_s {X : Int → Int} {LX : Nat} : ck_Ok p2_O X LX 58 p2_s3524 := ck_ok_s ⟨p2_nmu, ck_E0⟩ ck_X0 ck_l0 p2_s3524_e
set_option maxRecDepth 100000 in
/-- GlacierMail$Rows.copyFrom -/
def p2_s3525 : ck_Sum := ((1, 0, 0), 245, [.inr (.inr (.inl 14)), .inr (.inr (.inl 172))], ([], [], []), ([(14, 3, 3), (15, 0, 71)], []), [(.inr none, 245, ([], [], []))])
set_option maxRecDepth 100000 in
theorem p2_s3525_e : ck_ok p2_O none [] [] 58 [] 114 p2_s3525 = true := by decide +kernel
theorem p2_s3525_s {X : Int → Int} {LX : Nat} : ck_Ok p2_O X LX 58 p2_s3525 := ck_ok_s ⟨p2_nmu, ck_E0⟩ ck_X0 ck_l0 p2_s3525_e
set_option maxRecDepth 100000 in
/-- GlacierMail$State.copyFrom -/
def p2_s3526 : ck_Sum := ((2, 0, 0), 245, [.inr (.inr (.inl 3)), .inr (.inr (.inl 161))], ([], [(3, 8, 0), (161, 8, 100161)], []), ([(3, 0, 7), (4, 3, 3), (5, 0, 55), (6, 3, 3), (7, 0, 23), (8, 3, 3), (9, 0, 23), (10, 3, 3), (11, 0, 167), (12, 3, 3), (13, 0, 35), (14, 3, 3), (15, 0, 71)], [(3, 8)]), [(.inr none, 245, ([], [(3, 8, 100161)], []))])
set_option maxRecDepth 100000 in
theorem p2_s3526_e : ck_ok p2_O none [] [(58, [p2_s3520, p2_s3521, p2_s3522, p2_s3523, p2_s3524, p2_s3525])] 57 [] 204 p2_s3526 = true := by decide +kernel
theorem p2_s3526_s {X : Int → Int} {LX : Nat} : ck_Ok p2_O X LX 57 p2_s3526 := ck_ok_s ⟨p2_nmu, ck_E1 (ck_S1 p2_s3520_s (ck_S1 p2_s3521_s (ck_S1 p2_s3522_s (ck_S1 p2_s3523_s (ck_S1 p2_s3524_s (ck_S1 p2_s3525_s ck_S0)))))) ck_E0⟩ ck_X0 ck_l0 p2_s3526_e
set_option maxRecDepth 100000 in
/-- GlacierMail$Rows.copyFrom -/
def p2_s3527 : ck_Sum := ((1, 0, 0), 245, [.inr (.inr (.inl 4)), .inr (.inr (.inl 175))], ([], [], []), ([(4, 3, 3), (5, 0, 55)], []), [(.inr none, 245, ([], [], []))])
set_option maxRecDepth 100000 in
theorem p2_s3527_e : ck_ok p2_O none [] [] 58 [] 114 p2_s3527 = true := by decide +kernel
theorem p2_s3527_s {X : Int → Int} {LX : Nat} : ck_Ok p2_O X LX 58 p2_s3527 := ck_ok_s ⟨p2_nmu, ck_E0⟩ ck_X0 ck_l0 p2_s3527_e
set_option maxRecDepth 100000 in
/-- GlacierMail$Rows.copyFrom -/
def p2_s3528 : ck_Sum := ((1, 0, 0), 245, [.inr (.inr (.inl 6)), .inr (.inr (.inl 177))], ([], [], []), ([(6, 3, 3), (7, 0, 23)], []), [(.inr none, 245, ([], [], []))])
set_option maxRecDepth 100000 in
theorem p2_s3528_e : ck_ok p2_O none [] [] 58 [] 114 p2_s3528 = true := by decide +kernel
theorem p2_s3528_s {X : Int → Int} {LX : Nat} : ck_Ok p2_O X LX 58 p2_s3528 := ck_ok_s ⟨p2_nmu, ck_E0⟩ ck_X0 ck_l0 p2_s3528_e
set_option maxRecDepth 100000 in
/-- GlacierMail$Rows.copyFrom -/
def p2_s3529 : ck_Sum := ((1, 0, 0), 245, [.inr (.inr (.inl 8)), .inr (.inr (.inl 179))], ([], [], []), ([(8, 3, 3), (9, 0, 23)], []), [(.inr none, 245, ([], [], []))])
set_option maxRecDepth 100000 in
theorem p2_s3529_e : ck_ok p2_O none [] [] 58 [] 114 p2_s3529 = true := by decide +kernel
theorem p2_s3529_s {X : Int → Int} {LX : Nat} : ck_Ok p2_O X LX 58 p2_s3529 := ck_ok_s ⟨p2_nmu, ck_E0⟩ ck_X0 ck_l0 p2_s3529_e
set_option maxRecDepth 100000 in
/-- GlacierMail$Rows.copyFrom -/
def p2_s3530 : ck_Sum := ((1, 0, 0), 245, [.inr (.inr (.inl 10)), .inr (.inr (.inl 181))], ([], [], []), ([(10, 3, 3), (11, 0, 167)], []), [(.inr none, 245, ([], [], []))])
set_option maxRecDepth 100000 in
theorem p2_s3530_e : ck_ok p2_O none [] [] 58 [] 114 p2_s3530 = true := by decide +kernel
theorem p2_s3530_s {X : Int → Int} {LX : Nat} : ck_Ok p2_O X LX 58 p2_s3530 := ck_ok_s ⟨p2_nmu, ck_E0⟩ ck_X0 ck_l0 p2_s3530_e
set_option maxRecDepth 100000 in
/-- GlacierMail$Rows.copyFrom -/
def p2_s3531 : ck_Sum := ((1, 0, 0), 245, [.inr (.inr (.inl 12)), .inr (.inr (.inl 183))], ([], [], []), ([(12, 3, 3), (13, 0, 35)], []), [(.inr none, 245, ([], [], []))])
set_option maxRecDepth 100000 in
theorem p2_s3531_e : ck_ok p2_O none [] [] 58 [] 114 p2_s3531 = true := by decide +kernel
theorem p2_s3531_s {X : Int → Int} {LX : Nat} : ck_Ok p2_O X LX 58 p2_s3531 := ck_ok_s ⟨p2_nmu, ck_E0⟩ ck_X0 ck_l0 p2_s3531_e
set_option maxRecDepth 100000 in
/-- GlacierMail$Rows.copyFrom -/
def p2_s3532 : ck_Sum := ((1, 0, 0), 245, [.inr (.inr (.inl 14)), .inr (.inr (.inl 185))], ([], [], []), ([(14, 3, 3), (15, 0, 71)], []), [(.inr none, 245, ([], [], []))])
set_option maxRecDepth 100000 in
theorem p2_s3532_e : ck_ok p2_O none [] [] 58 [] 114 p2_s3532 = true := by decide +kernel
theorem p2_s3532_s {X : Int → Int} {LX : Nat} : ck_Ok p2_O X LX 58 p2_s3532 := ck_ok_s ⟨p2_nmu, ck_E0⟩ ck_X0 ck_l0 p2_s3532_e
set_option maxRecDepth 100000 in
/-- GlacierMail$State.copyFrom -/
def p2_s3533 : ck_Sum := ((2, 0, 0), 245, [.inr (.inr (.inl 3)), .inr (.inr (.inl 174))], ([], [(3, 8, 0), (174, 8, 100174)], []), ([(3, 0, 7), (4, 3, 3), (5, 0, 55), (6, 3, 3), (7, 0, 23), (8, 3, 3), (9, 0, 23), (10, 3, 3), (11, 0, 167), (12, 3, 3), (13, 0, 35), (14, 3, 3), (15, 0, 71)], [(3, 8)]), [(.inr none, 245, ([], [(3, 8, 100174)], []))])
set_option maxRecDepth 100000 in
theorem p2_s3533_e : ck_ok p2_O none [] [(58, [p2_s3527, p2_s3528, p2_s3529, p2_s3530, p2_s3531, p2_s3532])] 57 [] 204 p2_s3533 = true := by decide +kernel
theorem p2_s3533_s {X : Int → Int} {LX : Nat} : ck_Ok p2_O X LX 57 p2_s3533 := ck_ok_s ⟨p2_nmu, ck_E1 (ck_S1 p2_s3527_s (ck_S1 p2_s3528_s (ck_S1 p2_s3529_s (ck_S1 p2_s3530_s (ck_S1 p2_s3531_s (ck_S1 p2_s3532_s ck_S0)))))) ck_E0⟩ ck_X0 ck_l0 p2_s3533_e
set_option maxRecDepth 100000 in
/-- GlacierMail$Rows.copyFrom -/
def p2_s3534 : ck_Sum := ((1, 0, 0), 245, [.inr (.inr (.inl 4)), .inr (.inr (.inl 188))], ([], [], []), ([(4, 3, 3), (5, 0, 55)], []), [(.inr none, 245, ([], [], []))])
set_option maxRecDepth 100000 in
theorem p2_s3534_e : ck_ok p2_O none [] [] 58 [] 114 p2_s3534 = true := by decide +kernel
theorem p2_s3534_s {X : Int → Int} {LX : Nat} : ck_Ok p2_O X LX 58 p2_s3534 := ck_ok_s ⟨p2_nmu, ck_E0⟩ ck_X0 ck_l0 p2_s3534_e
set_option maxRecDepth 100000 in
/-- GlacierMail$Rows.copyFrom -/
def p2_s3535 : ck_Sum := ((1, 0, 0), 245, [.inr (.inr (.inl 6)), .inr (.inr (.inl 190))], ([], [], []), ([(6, 3, 3), (7, 0, 23)], []), [(.inr none, 245, ([], [], []))])
set_option maxRecDepth 100000 in
theorem p2_s3535_e : ck_ok p2_O none [] [] 58 [] 114 p2_s3535 = true := by decide +kernel
theorem p2_s3535_s {X : Int → Int} {LX : Nat} : ck_Ok p2_O X LX 58 p2_s3535 := ck_ok_s ⟨p2_nmu, ck_E0⟩ ck_X0 ck_l0 p2_s3535_e
set_option maxRecDepth 100000 in
/-- GlacierMail$Rows.copyFrom -/
def p2_s3536 : ck_Sum := ((1, 0, 0), 245, [.inr (.inr (.inl 8)), .inr (.inr (.inl 192))], ([], [], []), ([(8, 3, 3), (9, 0, 23)], []), [(.inr none, 245, ([], [], []))])
set_option maxRecDepth 100000 in
theorem p2_s3536_e : ck_ok p2_O none [] [] 58 [] 114 p2_s3536 = true := by decide +kernel
theorem p2_s3536_s {X : Int → Int} {LX : Nat} : ck_Ok p2_O X LX 58 p2_s3536 := ck_ok_s ⟨p2_nmu, ck_E0⟩ ck_X0 ck_l0 p2_s3536_e
set_option maxRecDepth 100000 in
/-- GlacierMail$Rows.copyFrom -/
def p2_s3537 : ck_Sum := ((1, 0, 0), 245, [.inr (.inr (.inl 10)), .inr (.inr (.inl 194))], ([], [], []), ([(10, 3, 3), (11, 0, 167)], []), [(.inr none, 245, ([], [], []))])
set_option maxRecDepth 100000 in
theorem p2_s3537_e : ck_ok p2_O none [] [] 58 [] 114 p2_s3537 = true := by decide +kernel
theorem p2_s3537_s {X : Int → Int} {LX : Nat} : ck_Ok p2_O X LX 58 p2_s3537 := ck_ok_s ⟨p2_nmu, ck_E0⟩ ck_X0 ck_l0 p2_s3537_e
set_option maxRecDepth 100000 in
/-- GlacierMail$Rows.copyFrom -/
def p2_s3538 : ck_Sum := ((1, 0, 0), 245, [.inr (.inr (.inl 12)), .inr (.inr (.inl 196))], ([], [], []), ([(12, 3, 3), (13, 0, 35)], []), [(.inr none, 245, ([], [], []))])
set_option maxRecDepth 100000 in
theorem p2_s3538_e : ck_ok p2_O none [] [] 58 [] 114 p2_s3538 = true := by decide +kernel
theorem p2_s3538_s {X : Int → Int} {LX : Nat} : ck_Ok p2_O X LX 58 p2_s3538 := ck_ok_s ⟨p2_nmu, ck_E0⟩ ck_X0 ck_l0 p2_s3538_e
set_option maxRecDepth 100000 in
/-- GlacierMail$Rows.copyFrom -/
def p2_s3539 : ck_Sum := ((1, 0, 0), 245, [.inr (.inr (.inl 14)), .inr (.inr (.inl 198))], ([], [], []), ([(14, 3, 3), (15, 0, 71)], []), [(.inr none, 245, ([], [], []))])
set_option maxRecDepth 100000 in
theorem p2_s3539_e : ck_ok p2_O none [] [] 58 [] 114 p2_s3539 = true := by decide +kernel
theorem p2_s3539_s {X : Int → Int} {LX : Nat} : ck_Ok p2_O X LX 58 p2_s3539 := ck_ok_s ⟨p2_nmu, ck_E0⟩ ck_X0 ck_l0 p2_s3539_e
set_option maxRecDepth 100000 in
/-- GlacierMail$State.copyFrom -/
def p2_s3540 : ck_Sum := ((2, 0, 0), 245, [.inr (.inr (.inl 3)), .inr (.inr (.inl 187))], ([], [(3, 8, 0), (187, 8, 100187)], []), ([(3, 0, 7), (4, 3, 3), (5, 0, 55), (6, 3, 3), (7, 0, 23), (8, 3, 3), (9, 0, 23), (10, 3, 3), (11, 0, 167), (12, 3, 3), (13, 0, 35), (14, 3, 3), (15, 0, 71)], [(3, 8)]), [(.inr none, 245, ([], [(3, 8, 100187)], []))])
set_option maxRecDepth 100000 in
theorem p2_s3540_e : ck_ok p2_O none [] [(58, [p2_s3534, p2_s3535, p2_s3536, p2_s3537, p2_s3538, p2_s3539])] 57 [] 204 p2_s3540 = true := by decide +kernel
theorem p2_s3540_s {X : Int → Int} {LX : Nat} : ck_Ok p2_O X LX 57 p2_s3540 := ck_ok_s ⟨p2_nmu, ck_E1 (ck_S1 p2_s3534_s (ck_S1 p2_s3535_s (ck_S1 p2_s3536_s (ck_S1 p2_s3537_s (ck_S1 p2_s3538_s (ck_S1 p2_s3539_s ck_S0)))))) ck_E0⟩ ck_X0 ck_l0 p2_s3540_e
set_option maxRecDepth 100000 in
/-- GlacierMail$History.takeBack -/
def p2_s3541 : ck_Sum := ((3, 0, 0), 245, [.inr (.inr (.inl 42)), .inr (.inr (.inl 3))], ([], [(3, 8, 0), (44, 8, 100044), (57, 8, 100057), (70, 8, 100070), (83, 8, 100083), (96, 8, 100096), (109, 8, 100109), (122, 8, 100122), (135, 8, 100135), (148, 8, 100148), (161, 8, 100161), (174, 8, 100174), (187, 8, 100187)], []), ([(3, 0, 7), (4, 3, 3), (5, 0, 55), (6, 3, 3), (7, 0, 23), (8, 3, 3), (9, 0, 23), (10, 3, 3), (11, 0, 167), (12, 3, 3), (13, 0, 35), (14, 3, 3), (15, 0, 71), (42, 1, 2)], [(3, 8)]), [(.inr (some (.inl (ck_one 1))), 245, ([], [(3, 8, 100044)], [(42, 2, 2, (0, 11, [])), (42, 1, 1, (0, 11, []))])), (.inr (some (.inl (ck_one 1))), 245, ([], [(3, 8, 100057)], [(42, 2, 2, (0, 11, [])), (42, 1, 1, (0, 11, []))])), (.inr (some (.inl (ck_one 1))), 245, ([], [(3, 8, 100070)], [(42, 2, 2, (0, 11, [])), (42, 1, 1, (0, 11, []))])), (.inr (some (.inl (ck_one 1))), 245, ([], [(3, 8, 100083)], [(42, 2, 2, (0, 11, [])), (42, 1, 1, (0, 11, []))])), (.inr (some (.inl (ck_one 1))), 245, ([], [(3, 8, 100096)], [(42, 2, 2, (0, 11, [])), (42, 1, 1, (0, 11, []))])), (.inr (some (.inl (ck_one 1))), 245, ([], [(3, 8, 100109)], [(42, 2, 2, (0, 11, [])), (42, 1, 1, (0, 11, []))])), (.inr (some (.inl (ck_one 1))), 245, ([], [(3, 8, 100122)], [(42, 2, 2, (0, 11, [])), (42, 1, 1, (0, 11, []))])), (.inr (some (.inl (ck_one 1))), 245, ([], [(3, 8, 100135)], [(42, 2, 2, (0, 11, [])), (42, 1, 1, (0, 11, []))])), (.inr (some (.inl (ck_one 1))), 245, ([], [(3, 8, 100148)], [(42, 2, 2, (0, 11, [])), (42, 1, 1, (0, 11, []))])), (.inr (some (.inl (ck_one 1))), 245, ([], [(3, 8, 100161)], [(42, 2, 2, (0, 11, [])), (42, 1, 1, (0, 11, []))])), (.inr (some (.inl (ck_one 1))), 245, ([], [(3, 8, 100174)], [(42, 2, 2, (0, 11, [])), (42, 1, 1, (0, 11, []))])), (.inr (some (.inl (ck_one 1))), 245, ([], [(3, 8, 100187)], [(42, 2, 2, (0, 11, [])), (42, 1, 1, (0, 11, []))])), (.inr (some (.inl (ck_one 0))), 245, ([], [(3, 8, 0)], [(42, 2, 2, ck_one 0)]))])
set_option maxRecDepth 100000 in
theorem p2_s3541_e : ck_ok p2_O none [] [(56, [p2_s3456]), (57, [p2_s3463, p2_s3470, p2_s3477, p2_s3484, p2_s3491, p2_s3498, p2_s3505, p2_s3512, p2_s3519, p2_s3526, p2_s3533, p2_s3540])] 55 [] 132 p2_s3541 = true := by decide +kernel
theorem p2_s3541_s {X : Int → Int} {LX : Nat} : ck_Ok p2_O X LX 55 p2_s3541 := ck_ok_s ⟨p2_nmu, ck_E1 (ck_S1 p2_s3456_s ck_S0) (ck_E1 (ck_S1 p2_s3463_s (ck_S1 p2_s3470_s (ck_S1 p2_s3477_s (ck_S1 p2_s3484_s (ck_S1 p2_s3491_s (ck_S1 p2_s3498_s (ck_S1 p2_s3505_s (ck_S1 p2_s3512_s (ck_S1 p2_s3519_s (ck_S1 p2_s3526_s (ck_S1 p2_s3533_s (ck_S1 p2_s3540_s ck_S0)))))))))))) ck_E0)⟩ ck_X0 ck_l0 p2_s3541_e
set_option maxRecDepth 100000 in
/-- GlacierMail.undo -/
def p2_s3542 : ck_Sum := ((4, 0, 0), 245, [.inr (.inr (.inl 1))], ([], [(3, 8, 0), (44, 8, 100044), (57, 8, 100057), (70, 8, 100070), (83, 8, 100083), (96, 8, 100096), (109, 8, 100109), (122, 8, 100122), (135, 8, 100135), (148, 8, 100148), (161, 8, 100161), (174, 8, 100174), (187, 8, 100187)], []), ([(1, 15, 15), (3, 0, 7), (4, 3, 3), (5, 0, 55), (6, 3, 3), (7, 0, 23), (8, 3, 3), (9, 0, 23), (10, 3, 3), (11, 0, 167), (12, 3, 3), (13, 0, 35), (14, 3, 3), (15, 0, 71), (42, 1, 2)], [(3, 8)]), [(.inr (some (.inl (ck_one 1))), 245, ([], [(3, 8, 100044)], [(42, 2, 2, (0, 11, [])), (42, 1, 1, (0, 11, [])), (1, 15, 15, ck_one 0)])), (.inr (some (.inl (ck_one 0))), 245, ([], [(3, 8, 0)], [(42, 2, 2, ck_one 0), (1, 15, 15, ck_one 0)])), (.inr (some (.inl (ck_one 1))), 245, ([], [(3, 8, 100187)], [(42, 2, 2, (0, 11, [])), (42, 1, 1, (0, 11, [])), (1, 15, 15, ck_one 0)])), (.inr (some (.inl (ck_one 1))), 245, ([], [(3, 8, 100174)], [(42, 2, 2, (0, 11, [])), (42, 1, 1, (0, 11, [])), (1, 15, 15, ck_one 0)])), (.inr (some (.inl (ck_one 1))), 245, ([], [(3, 8, 100161)], [(42, 2, 2, (0, 11, [])), (42, 1, 1, (0, 11, [])), (1, 15, 15, ck_one 0)])), (.inr (some (.inl (ck_one 1))), 245, ([], [(3, 8, 100148)], [(42, 2, 2, (0, 11, [])), (42, 1, 1, (0, 11, [])), (1, 15, 15, ck_one 0)])), (.inr (some (.inl (ck_one 1))), 245, ([], [(3, 8, 100135)], [(42, 2, 2, (0, 11, [])), (42, 1, 1, (0, 11, [])), (1, 15, 15, ck_one 0)])), (.inr (some (.inl (ck_one 1))), 245, ([], [(3, 8, 100122)], [(42, 2, 2, (0, 11, [])), (42, 1, 1, (0, 11, [])), (1, 15, 15, ck_one 0)])), (.inr (some (.inl (ck_one 1))), 245, ([], [(3, 8, 100109)], [(42, 2, 2, (0, 11, [])), (42, 1, 1, (0, 11, [])), (1, 15, 15, ck_one 0)])), (.inr (some (.inl (ck_one 1))), 245, ([], [(3, 8, 100096)], [(42, 2, 2, (0, 11, [])), (42, 1, 1, (0, 11, [])), (1, 15, 15, ck_one 0)])), (.inr (some (.inl (ck_one 1))), 245, ([], [(3, 8, 100083)], [(42, 2, 2, (0, 11, [])), (42, 1, 1, (0, 11, [])), (1, 15, 15, ck_one 0)])), (.inr (some (.inl (ck_one 1))), 245, ([], [(3, 8, 100070)], [(42, 2, 2, (0, 11, [])), (42, 1, 1, (0, 11, [])), (1, 15, 15, ck_one 0)])), (.inr (some (.inl (ck_one 1))), 245, ([], [(3, 8, 100057)], [(42, 2, 2, (0, 11, [])), (42, 1, 1, (0, 11, [])), (1, 15, 15, ck_one 0)]))])
set_option maxRecDepth 100000 in
theorem p2_s3542_e : ck_ok p2_O none [] [(55, [p2_s3541])] 54 [] 88 p2_s3542 = true := by decide +kernel
theorem p2_s3542_s {X : Int → Int} {LX : Nat} : ck_Ok p2_O X LX 54 p2_s3542 := ck_ok_s ⟨p2_nmu, ck_E1 (ck_S1 p2_s3541_s ck_S0) ck_E0⟩ ck_X0 ck_l0 p2_s3542_e
set_option maxRecDepth 100000 in
/-- GlacierMail$Rows.copyFrom -/
def p2_s3544 : ck_Sum := ((1, 0, 0), 245, [.inr (.inr (.inl 30)), .inr (.inr (.inl 4))], ([], [], []), ([(30, 3, 3), (31, 0, 55)], []), [(.inr none, 245, ([], [], []))])
set_option maxRecDepth 100000 in
theorem p2_s3544_e : ck_ok p2_O none [] [] 58 [] 114 p2_s3544 = true := by decide +kernel
theorem p2_s3544_s {X : Int → Int} {LX : Nat} : ck_Ok p2_O X LX 58 p2_s3544 := ck_ok_s ⟨p2_nmu, ck_E0⟩ ck_X0 ck_l0 p2_s3544_e
set_option maxRecDepth 100000 in
/-- GlacierMail$Rows.copyFrom -/
def p2_s3545 : ck_Sum := ((1, 0, 0), 245, [.inr (.inr (.inl 32)), .inr (.inr (.inl 6))], ([], [], []), ([(32, 3, 3), (33, 0, 23)], []), [(.inr none, 245, ([], [], []))])
set_option maxRecDepth 100000 in
theorem p2_s3545_e : ck_ok p2_O none [] [] 58 [] 114 p2_s3545 = true := by decide +kernel
theorem p2_s3545_s {X : Int → Int} {LX : Nat} : ck_Ok p2_O X LX 58 p2_s3545 := ck_ok_s ⟨p2_nmu, ck_E0⟩ ck_X0 ck_l0 p2_s3545_e
set_option maxRecDepth 100000 in
/-- GlacierMail$Rows.copyFrom -/
def p2_s3546 : ck_Sum := ((1, 0, 0), 245, [.inr (.inr (.inl 34)), .inr (.inr (.inl 8))], ([], [], []), ([(34, 3, 3), (35, 0, 23)], []), [(.inr none, 245, ([], [], []))])
set_option maxRecDepth 100000 in
theorem p2_s3546_e : ck_ok p2_O none [] [] 58 [] 114 p2_s3546 = true := by decide +kernel
theorem p2_s3546_s {X : Int → Int} {LX : Nat} : ck_Ok p2_O X LX 58 p2_s3546 := ck_ok_s ⟨p2_nmu, ck_E0⟩ ck_X0 ck_l0 p2_s3546_e
set_option maxRecDepth 100000 in
/-- GlacierMail$Rows.copyFrom -/
def p2_s3547 : ck_Sum := ((1, 0, 0), 245, [.inr (.inr (.inl 36)), .inr (.inr (.inl 10))], ([], [], []), ([(36, 3, 3), (37, 0, 167)], []), [(.inr none, 245, ([], [], []))])
set_option maxRecDepth 100000 in
theorem p2_s3547_e : ck_ok p2_O none [] [] 58 [] 114 p2_s3547 = true := by decide +kernel
theorem p2_s3547_s {X : Int → Int} {LX : Nat} : ck_Ok p2_O X LX 58 p2_s3547 := ck_ok_s ⟨p2_nmu, ck_E0⟩ ck_X0 ck_l0 p2_s3547_e
set_option maxRecDepth 100000 in
/-- GlacierMail$Rows.copyFrom -/
def p2_s3548 : ck_Sum := ((1, 0, 0), 245, [.inr (.inr (.inl 38)), .inr (.inr (.inl 12))], ([], [], []), ([(38, 3, 3), (39, 0, 35)], []), [(.inr none, 245, ([], [], []))])
set_option maxRecDepth 100000 in
theorem p2_s3548_e : ck_ok p2_O none [] [] 58 [] 114 p2_s3548 = true := by decide +kernel
theorem p2_s3548_s {X : Int → Int} {LX : Nat} : ck_Ok p2_O X LX 58 p2_s3548 := ck_ok_s ⟨p2_nmu, ck_E0⟩ ck_X0 ck_l0 p2_s3548_e
set_option maxRecDepth 100000 in
/-- GlacierMail$Rows.copyFrom -/
def p2_s3549 : ck_Sum := ((1, 0, 0), 245, [.inr (.inr (.inl 40)), .inr (.inr (.inl 14))], ([], [], []), ([(40, 3, 3), (41, 0, 71)], []), [(.inr none, 245, ([], [], []))])
set_option maxRecDepth 100000 in
theorem p2_s3549_e : ck_ok p2_O none [] [] 58 [] 114 p2_s3549 = true := by decide +kernel
theorem p2_s3549_s {X : Int → Int} {LX : Nat} : ck_Ok p2_O X LX 58 p2_s3549 := ck_ok_s ⟨p2_nmu, ck_E0⟩ ck_X0 ck_l0 p2_s3549_e
set_option maxRecDepth 100000 in
/-- GlacierMail$State.copyFrom -/
def p2_s3550 : ck_Sum := ((2, 0, 0), 245, [.inr (.inr (.inl 29)), .inr (.inr (.inl 3))], ([], [(3, 8, 0), (29, 8, 100029)], [(3, 6, 6, (0, 299, [(10, 0)]))]), ([(29, 0, 7), (30, 3, 3), (31, 0, 55), (32, 3, 3), (33, 0, 23), (34, 3, 3), (35, 0, 23), (36, 3, 3), (37, 0, 167), (38, 3, 3), (39, 0, 35), (40, 3, 3), (41, 0, 71)], [(29, 8)]), [(.inr none, 245, ([], [(29, 8, 0)], [(29, 6, 6, (0, 299, [(10, 0)]))]))])
set_option maxRecDepth 100000 in
theorem p2_s3550_e : ck_ok p2_O none [] [(58, [p2_s3544, p2_s3545, p2_s3546, p2_s3547, p2_s3548, p2_s3549])] 57 [] 204 p2_s3550 = true := by decide +kernel
theorem p2_s3550_s {X : Int → Int} {LX : Nat} : ck_Ok p2_O X LX 57 p2_s3550 := ck_ok_s ⟨p2_nmu, ck_E1 (ck_S1 p2_s3544_s (ck_S1 p2_s3545_s (ck_S1 p2_s3546_s (ck_S1 p2_s3547_s (ck_S1 p2_s3548_s (ck_S1 p2_s3549_s ck_S0)))))) ck_E0⟩ ck_X0 ck_l0 p2_s3550_e
set_option maxRecDepth 100000 in
/-- GlacierMail.image -/
def p2_s3551 : ck_Sum := ((3, 0, 0), 245, [.inr (.inr (.inl 1))], ([], [(3, 8, 0), (29, 8, 100029)], [(3, 6, 6, (0, 299, [(10, 0)]))]), ([(1, 6, 6), (29, 0, 7), (30, 3, 3), (31, 0, 55), (32, 3, 3), (33, 0, 23), (34, 3, 3), (35, 0, 23), (36, 3, 3), (37, 0, 167), (38, 3, 3), (39, 0, 35), (40, 3, 3), (41, 0, 71)], [(29, 8)]), [(.inr none, 245, ([], [(29, 8, 0)], [(1, 6, 6, ck_one 1), (29, 6, 6, (0, 299, [(10, 0)]))]))])
set_option maxRecDepth 100000 in
theorem p2_s3551_e : ck_ok p2_O none [] [(57, [p2_s3550])] 59 [] 88 p2_s3551 = true := by decide +kernel
theorem p2_s3551_s {X : Int → Int} {LX : Nat} : ck_Ok p2_O X LX 59 p2_s3551 := ck_ok_s ⟨p2_nmu, ck_E1 (ck_S1 p2_s3550_s ck_S0) ck_E0⟩ ck_X0 ck_l0 p2_s3551_e
set_option maxRecDepth 100000 in
/-- GlacierMail$Rows.copyFrom -/
def p2_s3553 : ck_Sum := ((1, 0, 0), 245, [.inr (.inr (.inl 4)), .inr (.inr (.inl 30))], ([], [], []), ([(4, 3, 3), (5, 0, 55)], []), [(.inr none, 245, ([], [], []))])
set_option maxRecDepth 100000 in
theorem p2_s3553_e : ck_ok p2_O none [] [] 58 [] 114 p2_s3553 = true := by decide +kernel
theorem p2_s3553_s {X : Int → Int} {LX : Nat} : ck_Ok p2_O X LX 58 p2_s3553 := ck_ok_s ⟨p2_nmu, ck_E0⟩ ck_X0 ck_l0 p2_s3553_e
set_option maxRecDepth 100000 in
/-- GlacierMail$Rows.copyFrom -/
def p2_s3554 : ck_Sum := ((1, 0, 0), 245, [.inr (.inr (.inl 6)), .inr (.inr (.inl 32))], ([], [], []), ([(6, 3, 3), (7, 0, 23)], []), [(.inr none, 245, ([], [], []))])
set_option maxRecDepth 100000 in
theorem p2_s3554_e : ck_ok p2_O none [] [] 58 [] 114 p2_s3554 = true := by decide +kernel
theorem p2_s3554_s {X : Int → Int} {LX : Nat} : ck_Ok p2_O X LX 58 p2_s3554 := ck_ok_s ⟨p2_nmu, ck_E0⟩ ck_X0 ck_l0 p2_s3554_e
set_option maxRecDepth 100000 in
/-- GlacierMail$Rows.copyFrom -/
def p2_s3555 : ck_Sum := ((1, 0, 0), 245, [.inr (.inr (.inl 8)), .inr (.inr (.inl 34))], ([], [], []), ([(8, 3, 3), (9, 0, 23)], []), [(.inr none, 245, ([], [], []))])
set_option maxRecDepth 100000 in
theorem p2_s3555_e : ck_ok p2_O none [] [] 58 [] 114 p2_s3555 = true := by decide +kernel
theorem p2_s3555_s {X : Int → Int} {LX : Nat} : ck_Ok p2_O X LX 58 p2_s3555 := ck_ok_s ⟨p2_nmu, ck_E0⟩ ck_X0 ck_l0 p2_s3555_e
set_option maxRecDepth 100000 in
/-- GlacierMail$Rows.copyFrom -/
def p2_s3556 : ck_Sum := ((1, 0, 0), 245, [.inr (.inr (.inl 10)), .inr (.inr (.inl 36))], ([], [], []), ([(10, 3, 3), (11, 0, 167)], []), [(.inr none, 245, ([], [], []))])
set_option maxRecDepth 100000 in
theorem p2_s3556_e : ck_ok p2_O none [] [] 58 [] 114 p2_s3556 = true := by decide +kernel
theorem p2_s3556_s {X : Int → Int} {LX : Nat} : ck_Ok p2_O X LX 58 p2_s3556 := ck_ok_s ⟨p2_nmu, ck_E0⟩ ck_X0 ck_l0 p2_s3556_e
set_option maxRecDepth 100000 in
/-- GlacierMail$Rows.copyFrom -/
def p2_s3557 : ck_Sum := ((1, 0, 0), 245, [.inr (.inr (.inl 12)), .inr (.inr (.inl 38))], ([], [], []), ([(12, 3, 3), (13, 0, 35)], []), [(.inr none, 245, ([], [], []))])
set_option maxRecDepth 100000 in
theorem p2_s3557_e : ck_ok p2_O none [] [] 58 [] 114 p2_s3557 = true := by decide +kernel
theorem p2_s3557_s {X : Int → Int} {LX : Nat} : ck_Ok p2_O X LX 58 p2_s3557 := ck_ok_s ⟨p2_nmu, ck_E0⟩ ck_X0 ck_l0 p2_s3557_e
set_option maxRecDepth 100000 in
/-- GlacierMail$Rows.copyFrom -/
def p2_s3558 : ck_Sum := ((1, 0, 0), 245, [.inr (.inr (.inl 14)), .inr (.inr (.inl 40))], ([], [], []), ([(14, 3, 3), (15, 0, 71)], []), [(.inr none, 245, ([], [], []))])
set_option maxRecDepth 100000 in
theorem p2_s3558_e : ck_ok p2_O none [] [] 58 [] 114 p2_s3558 = true := by decide +kernel
theorem p2_s3558_s {X : Int → Int} {LX : Nat} : ck_Ok p2_O X LX 58 p2_s3558 := ck_ok_s ⟨p2_nmu, ck_E0⟩ ck_X0 ck_l0 p2_s3558_e
set_option maxRecDepth 100000 in
/-- GlacierMail$State.copyFrom -/
def p2_s3559 : ck_Sum := ((2, 0, 0), 245, [.inr (.inr (.inl 3)), .inr (.inr (.inl 29))], ([], [(3, 8, 0), (29, 8, 100029)], []), ([(3, 0, 7), (4, 3, 3), (5, 0, 55), (6, 3, 3), (7, 0, 23), (8, 3, 3), (9, 0, 23), (10, 3, 3), (11, 0, 167), (12, 3, 3), (13, 0, 35), (14, 3, 3), (15, 0, 71)], [(3, 8)]), [(.inr none, 245, ([], [(3, 8, 100029)], []))])
set_option maxRecDepth 100000 in
theorem p2_s3559_e : ck_ok p2_O none [] [(58, [p2_s3553, p2_s3554, p2_s3555, p2_s3556, p2_s3557, p2_s3558])] 57 [] 204 p2_s3559 = true := by decide +kernel
theorem p2_s3559_s {X : Int → Int} {LX : Nat} : ck_Ok p2_O X LX 57 p2_s3559 := ck_ok_s ⟨p2_nmu, ck_E1 (ck_S1 p2_s3553_s (ck_S1 p2_s3554_s (ck_S1 p2_s3555_s (ck_S1 p2_s3556_s (ck_S1 p2_s3557_s (ck_S1 p2_s3558_s ck_S0)))))) ck_E0⟩ ck_X0 ck_l0 p2_s3559_e
set_option maxRecDepth 100000 in
/-- GlacierMail.back -/
def p2_s3560 : ck_Sum := ((4, 0, 0), 245, [.inr (.inr (.inl 1))], ([], [(3, 8, 0), (29, 8, 100029)], [(1, 6, 6, (0, 1, [(9, 0)]))]), ([(1, 15, 15), (3, 0, 7), (4, 3, 3), (5, 0, 55), (6, 3, 3), (7, 0, 23), (8, 3, 3), (9, 0, 23), (10, 3, 3), (11, 0, 167), (12, 3, 3), (13, 0, 35), (14, 3, 3), (15, 0, 71), (42, 2, 2), (200, 6, 6), (201, 0, 299), (202, 0, 593), (203, 0, 299)], [(3, 8)]), [(.inr (some (.inl (ck_one 1))), 245, ([], [(3, 8, 100029)], [(1, 15, 15, ck_one 0), (42, 2, 2, ck_one 0), (1, 6, 6, (1, 1, [(9, 0)]))])), (.inr (some (.inl (ck_one 0))), 245, ([], [(3, 8, 0)], [(1, 6, 6, (0, 0, [(9, 0)]))]))])
set_option maxRecDepth 100000 in
theorem p2_s3560_e : ck_ok p2_O none [] [(57, [p2_s3559]), (61, [p2_s164])] 60 [] 94 p2_s3560 = true := by decide +kernel
theorem p2_s3560_s {X : Int → Int} {LX : Nat} : ck_Ok p2_O X LX 60 p2_s3560 := ck_ok_s ⟨p2_nmu, ck_E1 (ck_S1 p2_s3559_s ck_S0) (ck_E1 (ck_S1 p2_s164_s ck_S0) ck_E0)⟩ ck_X0 ck_l0 p2_s3560_e
