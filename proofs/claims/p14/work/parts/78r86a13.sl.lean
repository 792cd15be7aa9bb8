/-! EVERY CALL OF THE CLASS ENDS, under a law (laid by wip/am/p2l.py). -/
set_option maxRecDepth 100000 in
/-- GlacierMail$Rows.copyFrom -/
def pl_s948 : ck_Sum := ((1, 0, 0), 249, [.inr (.inr (.inl 8)), .inr (.inr (.inl 179))], ([], [], []), ([(8, 3, 3), (9, 0, 23)], []), [(.inr none, 249, ([], [], []))])
set_option maxRecDepth 100000 in
theorem pl_s948_e : ck_ok p2_OL none [] [] 58 [] 114 pl_s948 = true := by decide +kernel
theorem pl_s948_s {X : Int → Int} {LX : Nat} : ck_Ok p2_OL X LX 58 pl_s948 := ck_ok_s ⟨pl_nmu, ck_E0⟩ ck_X0 ck_l0 pl_s948_e
set_option maxRecDepth 100000 in
/-- GlacierMail$Rows.copyFrom -/
def pl_s949 : ck_Sum := ((1, 0, 0), 249, [.inr (.inr (.inl 10)), .inr (.inr (.inl 181))], ([], [], []), ([(10, 3, 3), (11, 0, 167)], []), [(.inr none, 249, ([], [], []))])
set_option maxRecDepth 100000 in
theorem pl_s949_e : ck_ok p2_OL none [] [] 58 [] 114 pl_s949 = true := by decide +kernel
theorem pl_s949_s {X : Int → Int} {LX : Nat} : ck_Ok p2_OL X LX 58 pl_s949 := ck_ok_s ⟨pl_nmu, ck_E0⟩ ck_X0 ck_l0 pl_s949_e
set_option maxRecDepth 100000 in
/-- GlacierMail$Rows.copyFrom -/
def pl_s950 : ck_Sum := ((1, 0, 0), 249, [.inr (.inr (.inl 12)), .inr (.inr (.inl 183))], ([], [], []), ([(12, 3, 3), (13, 0, 35)], []), [(.inr none, 249, ([], [], []))])
set_option maxRecDepth 100000 in
theorem pl_s950_e : ck_ok p2_OL none [] [] 58 [] 114 pl_s950 = true := by decide +kernel
theorem pl_s950_s {X : Int → Int} {LX : Nat} : ck_Ok p2_OL X LX 58 pl_s950 := ck_ok_s ⟨pl_nmu, ck_E0⟩ ck_X0 ck_l0 pl_s950_e
set_option maxRecDepth 100000 in
/-- GlacierMail$Rows.copyFrom -/
def pl_s951 : ck_Sum := ((1, 0, 0), 249, [.inr (.inr (.inl 14)), .inr (.inr (.inl 185))], ([], [], []), ([(14, 3, 3), (15, 0, 71)], []), [(.inr none, 249, ([], [], []))])
set_option maxRecDepth 100000 in
theorem pl_s951_e : ck_ok p2_OL none [] [] 58 [] 114 pl_s951 = true := by decide +kernel
theorem pl_s951_s {X : Int → Int} {LX : Nat} : ck_Ok p2_OL X LX 58 pl_s951 := ck_ok_s ⟨pl_nmu, ck_E0⟩ ck_X0 ck_l0 pl_s951_e
set_option maxRecDepth 100000 in
/-- GlacierMail$State.copyFrom -/
def pl_s952 : ck_Sum := ((2, 0, 0), 249, [.inr (.inr (.inl 3)), .inr (.inr (.inl 174))], ([], [(3, 8, 246), (174, 8, 100174)], []), ([(3, 0, 7), (4, 3, 3), (5, 0, 55), (6, 3, 3), (7, 0, 23), (8, 3, 3), (9, 0, 23), (10, 3, 3), (11, 0, 167), (12, 3, 3), (13, 0, 35), (14, 3, 3), (15, 0, 71)], [(3, 8)]), [(.inr none, 249, ([], [(3, 8, 100174)], []))])
set_option maxRecDepth 100000 in
theorem pl_s952_e : ck_ok p2_OL none [] [(58, [pl_s946, pl_s947, pl_s948, pl_s949, pl_s950, pl_s951])] 57 [] 204 pl_s952 = true := by decide +kernel
theorem pl_s952_s {X : Int → Int} {LX : Nat} : ck_Ok p2_OL X LX 57 pl_s952 := ck_ok_s ⟨pl_nmu, ck_E1 (ck_S1 pl_s946_s (ck_S1 pl_s947_s (ck_S1 pl_s948_s (ck_S1 pl_s949_s (ck_S1 pl_s950_s (ck_S1 pl_s951_s ck_S0)))))) ck_E0⟩ ck_X0 ck_l0 pl_s952_e
set_option maxRecDepth 100000 in
/-- GlacierMail$Rows.copyFrom -/
def pl_s953 : ck_Sum := ((1, 0, 0), 249, [.inr (.inr (.inl 4)), .inr (.inr (.inl 188))], ([], [], []), ([(4, 3, 3), (5, 0, 55)], []), [(.inr none, 249, ([], [], []))])
set_option maxRecDepth 100000 in
theorem pl_s953_e : ck_ok p2_OL none [] [] 58 [] 114 pl_s953 = true := by decide +kernel
theorem pl_s953_s {X : Int → Int} {LX : Nat} : ck_Ok p2_OL X LX 58 pl_s953 := ck_ok_s ⟨pl_nmu, ck_E0⟩ ck_X0 ck_l0 pl_s953_e
set_option maxRecDepth 100000 in
/-- GlacierMail$Rows.copyFrom -/
def pl_s954 : ck_Sum := ((1, 0, 0), 249, [.inr (.inr (.inl 6)), .inr (.inr (.inl 190))], ([], [], []), ([(6, 3, 3), (7, 0, 23)], []), [(.inr none, 249, ([], [], []))])
set_option maxRecDepth 100000 in
theorem pl_s954_e : ck_ok p2_OL none [] [] 58 [] 114 pl_s954 = true := by decide +kernel
theorem pl_s954_s {X : Int → Int} {LX : Nat} : ck_Ok p2_OL X LX 58 pl_s954 := ck_ok_s ⟨pl_nmu, ck_E0⟩ ck_X0 ck_l0 pl_s954_e
set_option maxRecDepth 100000 in
/-- GlacierMail$Rows.copyFrom -/
def pl_s955 : ck_Sum := ((1, 0, 0), 249, [.inr (.inr (.inl 8)), .inr (.inr (.inl 192))], ([], [], []), ([(8, 3, 3), (9, 0, 23)], []), [(.inr none, 249, ([], [], []))])
set_option maxRecDepth 100000 in
theorem pl_s955_e : ck_ok p2_OL none [] [] 58 [] 114 pl_s955 = true := by decide +kernel
theorem pl_s955_s {X : Int → Int} {LX : Nat} : ck_Ok p2_OL X LX 58 pl_s955 := ck_ok_s ⟨pl_nmu, ck_E0⟩ ck_X0 ck_l0 pl_s955_e
set_option maxRecDepth 100000 in
/-- GlacierMail$Rows.copyFrom -/
def pl_s956 : ck_Sum := ((1, 0, 0), 249, [.inr (.inr (.inl 10)), .inr (.inr (.inl 194))], ([], [], []), ([(10, 3, 3), (11, 0, 167)], []), [(.inr none, 249, ([], [], []))])
set_option maxRecDepth 100000 in
theorem pl_s956_e : ck_ok p2_OL none [] [] 58 [] 114 pl_s956 = true := by decide +kernel
theorem pl_s956_s {X : Int → Int} {LX : Nat} : ck_Ok p2_OL X LX 58 pl_s956 := ck_ok_s ⟨pl_nmu, ck_E0⟩ ck_X0 ck_l0 pl_s956_e
set_option maxRecDepth 100000 in
/-- GlacierMail$Rows.copyFrom -/
def pl_s957 : ck_Sum := ((1, 0, 0), 249, [.inr (.inr (.inl 12)), .inr (.inr (.inl 196))], ([], [], []), ([(12, 3, 3), (13, 0, 35)], []), [(.inr none, 249, ([], [], []))])
set_option maxRecDepth 100000 in
theorem pl_s957_e : ck_ok p2_OL none [] [] 58 [] 114 pl_s957 = true := by decide +kernel
theorem pl_s957_s {X : Int → Int} {LX : Nat} : ck_Ok p2_OL X LX 58 pl_s957 := ck_ok_s ⟨pl_nmu, ck_E0⟩ ck_X0 ck_l0 pl_s957_e
set_option maxRecDepth 100000 in
/-- GlacierMail$Rows.copyFrom -/
def pl_s958 : ck_Sum := ((1, 0, 0), 249, [.inr (.inr (.inl 14)), .inr (.inr (.inl 198))], ([], [], []), ([(14, 3, 3), (15, 0, 71)], []), [(.inr none, 249, ([], [], []))])
set_option maxRecDepth 100000 in
theorem pl_s958_e : ck_ok p2_OL none [] [] 58 [] 114 pl_s958 = true := by decide +kernel
theorem pl_s958_s {X : Int → Int} {LX : Nat} : ck_Ok p2_OL X LX 58 pl_s958 := ck_ok_s ⟨pl_nmu, ck_E0⟩ ck_X0 ck_l0 pl_s958_e
set_option maxRecDepth 100000 in
/-- GlacierMail$State.copyFrom -/
def pl_s959 : ck_Sum := ((2, 0, 0), 249, [.inr (.inr (.inl 3)), .inr (.inr (.inl 187))], ([], [(3, 8, 246), (187, 8, 100187)], []), ([(3, 0, 7), (4, 3, 3), (5, 0, 55), (6, 3, 3), (7, 0, 23), (8, 3, 3), (9, 0, 23), (10, 3, 3), (11, 0, 167), (12, 3, 3), (13, 0, 35), (14, 3, 3), (15, 0, 71)], [(3, 8)]), [(.inr none, 249, ([], [(3, 8, 100187)], []))])
set_option maxRecDepth 100000 in
theorem pl_s959_e : ck_ok p2_OL none [] [(58, [pl_s953, pl_s954, pl_s955, pl_s956, pl_s957, pl_s958])] 57 [] 204 pl_s959 = true := by decide +kernel
theorem pl_s959_s {X : Int → Int} {LX : Nat} : ck_Ok p2_OL X LX 57 pl_s959 := ck_ok_s ⟨pl_nmu, ck_E1 (ck_S1 pl_s953_s (ck_S1 pl_s954_s (ck_S1 pl_s955_s (ck_S1 pl_s956_s (ck_S1 pl_s957_s (ck_S1 pl_s958_s ck_S0)))))) ck_E0⟩ ck_X0 ck_l0 pl_s959_e
set_option maxRecDepth 100000 in
/-- GlacierMail$History.takeBack -/
def pl_s960 : ck_Sum := ((3, 0, 0), 249, [.inr (.inr (.inl 42)), .inr (.inr (.inl 3))], ([], [(3, 8, 246), (44, 8, 100044), (57, 8, 100057), (70, 8, 100070), (83, 8, 100083), (96, 8, 100096), (109, 8, 100109), (122, 8, 100122), (135, 8, 100135), (148, 8, 100148), (161, 8, 100161), (174, 8, 100174), (187, 8, 100187)], []), ([(3, 0, 7), (4, 3, 3), (5, 0, 55), (6, 3, 3), (7, 0, 23), (8, 3, 3), (9, 0, 23), (10, 3, 3), (11, 0, 167), (12, 3, 3), (13, 0, 35), (14, 3, 3), (15, 0, 71), (42, 1, 2)], [(3, 8)]), [(.inr (some (.inl (ck_one 1))), 249, ([], [(3, 8, 100044)], [(42, 2, 2, (0, 11, [])), (42, 1, 1, (0, 11, []))])), (.inr (some (.inl (ck_one 1))), 249, ([], [(3, 8, 100057)], [(42, 2, 2, (0, 11, [])), (42, 1, 1, (0, 11, []))])), (.inr (some (.inl (ck_one 1))), 249, ([], [(3, 8, 100070)], [(42, 2, 2, (0, 11, [])), (42, 1, 1, (0, 11, []))])), (.inr (some (.inl (ck_one 1))), 249, ([], [(3, 8, 100083)], [(42, 2, 2, (0, 11, [])), (42, 1, 1, (0, 11, []))])), (.inr (some (.inl (ck_one 1))), 249, ([], [(3, 8, 100096)], [(42, 2, 2, (0, 11, [])), (42, 1, 1, (0, 11, []))])), (.inr (some (.inl (ck_one 1))), 249, ([], [(3, 8, 100109)], [(42, 2, 2, (0, 11, [])), (42, 1, 1, (0, 11, []))])), (.inr (some (.inl (ck_one 1))), 249, ([], [(3, 8, 100122)], [(42, 2, 2, (0, 11, [])), (42, 1, 1, (0, 11, []))])), (.inr (some (.inl (ck_one 1))), 249, ([], [(3, 8, 100135)], [(42, 2, 2, (0, 11, [])), (42, 1, 1, (0, 11, []))])), (.inr (some (.inl (ck_one 1))), 249, ([], [(3, 8, 100148)], [(42, 2, 2, (0, 11, [])), (42, 1, 1, (0, 11, []))])), (.inr (some (.inl (ck_one 1))), 249, ([], [(3, 8, 100161)], [(42, 2, 2, (0, 11, [])), (42, 1, 1, (0, 11, []))])), (.inr (some (.inl (ck_one 1))), 249, ([], [(3, 8, 100174)], [(42, 2, 2, (0, 11, [])), (42, 1, 1, (0, 11, []))])), (.inr (some (.inl (ck_one 1))), 249, ([], [(3, 8, 100187)], [(42, 2, 2, (0, 11, [])), (42, 1, 1, (0, 11, []))])), (.inr (some (.inl (ck_one 0))), 249, ([], [(3, 8, 246)], [(42, 2, 2, ck_one 0)]))])
set_option maxRecDepth 100000 in
theorem pl_s960_e : ck_ok p2_OL none [] [(56, [pl_s875]), (57, [pl_s882, pl_s889, pl_s896, pl_s903, pl_s910, pl_s917, pl_s924, pl_s931, pl_s938, pl_s945, pl_s952, pl_s959])] 55 [] 132 pl_s960 = true := by decide +kernel
theorem pl_s960_s {X : Int → Int} {LX : Nat} : ck_Ok p2_OL X LX 55 pl_s960 := ck_ok_s ⟨pl_nmu, ck_E1 (ck_S1 pl_s875_s ck_S0) (ck_E1 (ck_S1 pl_s882_s (ck_S1 pl_s889_s (ck_S1 pl_s896_s (ck_S1 pl_s903_s (ck_S1 pl_s910_s (ck_S1 pl_s917_s (ck_S1 pl_s924_s (ck_S1 pl_s931_s (ck_S1 pl_s938_s (ck_S1 pl_s945_s (ck_S1 pl_s952_s (ck_S1 pl_s959_s ck_S0)))))))))))) ck_E0)⟩ ck_X0 ck_l0 pl_s960_e
set_option maxRecDepth 100000 in
/-- GlacierMail.undo -/
def pl_s961 : ck_Sum := ((4, 0, 0), 249, [.inr (.inr (.inl 1))], ([], [(3, 8, 246), (44, 8, 100044), (57, 8, 100057), (70, 8, 100070), (83, 8, 100083), (96, 8, 100096), (109, 8, 100109), (122, 8, 100122), (135, 8, 100135), (148, 8, 100148), (161, 8, 100161), (174, 8, 100174), (187, 8, 100187)], []), ([(1, 15, 15), (3, 0, 7), (4, 3, 3), (5, 0, 55), (6, 3, 3), (7, 0, 23), (8, 3, 3), (9, 0, 23), (10, 3, 3), (11, 0, 167), (12, 3, 3), (13, 0, 35), (14, 3, 3), (15, 0, 71), (42, 1, 2)], [(3, 8)]), [(.inr (some (.inl (ck_one 1))), 249, ([], [(3, 8, 100044)], [(42, 2, 2, (0, 11, [])), (42, 1, 1, (0, 11, [])), (1, 15, 15, ck_one 0)])), (.inr (some (.inl (ck_one 0))), 249, ([], [(3, 8, 246)], [(42, 2, 2, ck_one 0), (1, 15, 15, ck_one 0)])), (.inr (some (.inl (ck_one 1))), 249, ([], [(3, 8, 100187)], [(42, 2, 2, (0, 11, [])), (42, 1, 1, (0, 11, [])), (1, 15, 15, ck_one 0)])), (.inr (some (.inl (ck_one 1))), 249, ([], [(3, 8, 100174)], [(42, 2, 2, (0, 11, [])), (42, 1, 1, (0, 11, [])), (1, 15, 15, ck_one 0)])), (.inr (some (.inl (ck_one 1))), 249, ([], [(3, 8, 100161)], [(42, 2, 2, (0, 11, [])), (42, 1, 1, (0, 11, [])), (1, 15, 15, ck_one 0)])), (.inr (some (.inl (ck_one 1))), 249, ([], [(3, 8, 100148)], [(42, 2, 2, (0, 11, [])), (42, 1, 1, (0, 11, [])), (1, 15, 15, ck_one 0)])), (.inr (some (.inl (ck_one 1))), 249, ([], [(3, 8, 100135)], [(42, 2, 2, (0, 11, [])), (42, 1, 1, (0, 11, [])), (1, 15, 15, ck_one 0)])), (.inr (some (.inl (ck_one 1))), 249, ([], [(3, 8, 100122)], [(42, 2, 2, (0, 11, [])), (42, 1, 1, (0, 11, [])), (1, 15, 15, ck_one 0)])), (.inr (some (.inl (ck_one 1))), 249, ([], [(3, 8, 100109)], [(42, 2, 2, (0, 11, [])), (42, 1, 1, (0, 11, [])), (1, 15, 15, ck_one 0)])), (.inr (some (.inl (ck_one 1))), 249, ([], [(3, 8, 100096)], [(42, 2, 2, (0, 11, [])), (42, 1, 1, (0, 11, [])), (1, 15, 15, ck_one 0)])), (.inr (some (.inl (ck_one 1))), 249, ([], [(3, 8, 100083)], [(42, 2, 2, (0, 11, [])), (42, 1, 1, (0, 11, [])), (1, 15, 15, ck_one 0)])), (.inr (some (.inl (ck_one 1))), 249, ([], [(3, 8, 100070)], [(42, 2, 2, (0, 11, [])), (42, 1, 1, (0, 11, [])), (1, 15, 15, ck_one 0)])), (.inr (some (.inl (ck_one 1))), 249, ([], [(3, 8, 100057)], [(42, 2, 2, (0, 11, [])), (42, 1, 1, (0, 11, [])), (1, 15, 15, ck_one 0)]))])
set_option maxRecDepth 100000 in
theorem pl_s961_e : ck_ok p2_OL none [] [(55, [pl_s960])] 54 [] 88 pl_s961 = true := by decide +kernel
theorem pl_s961_s {X : Int → Int} {LX : Nat} : ck_Ok p2_OL X LX 54 pl_s961 := ck_ok_s ⟨pl_nmu, ck_E1 (ck_S1 pl_s960_s ck_S0) ck_E0⟩ ck_X0 ck_l0 pl_s961_e
set_option maxRecDepth 100000 in
/-- GlacierMail$Rows.copyFrom -/
def pl_s962 : ck_Sum := ((1, 0, 0), 249, [.inr (.inr (.inl 30)), .inr (.inr (.inl 4))], ([], [], []), ([(30, 3, 3), (31, 0, 55)], []), [(.inr none, 249, ([], [], []))])
set_option maxRecDepth 100000 in
theorem pl_s962_e : ck_ok p2_OL none [] [] 58 [] 114 pl_s962 = true := by decide +kernel
theorem pl_s962_s {X : Int → Int} {LX : Nat} : ck_Ok p2_OL X LX 58 pl_s962 := ck_ok_s ⟨pl_nmu, ck_E0⟩ ck_X0 ck_l0 pl_s962_e
set_option maxRecDepth 100000 in
/-- GlacierMail$Rows.copyFrom -/
def pl_s963 : ck_Sum := ((1, 0, 0), 249, [.inr (.inr (.inl 32)), .inr (.inr (.inl 6))], ([], [], []), ([(32, 3, 3), (33, 0, 23)], []), [(.inr none, 249, ([], [], []))])
set_option maxRecDepth 100000 in
theorem pl_s963_e : ck_ok p2_OL none [] [] 58 [] 114 pl_s963 = true := by decide +kernel
theorem pl_s963_s {X : Int → Int} {LX : Nat} : ck_Ok p2_OL X LX 58 pl_s963 := ck_ok_s ⟨pl_nmu, ck_E0⟩ ck_X0 ck_l0 pl_s963_e
set_option maxRecDepth 100000 in
/-- GlacierMail$Rows.copyFrom -/
def pl_s964 : ck_Sum := ((1, 0, 0), 249, [.inr (.inr (.inl 34)), .inr (.inr (.inl 8))], ([], [], []), ([(34, 3, 3), (35, 0, 23)], []), [(.inr none, 249, ([], [], []))])
set_option maxRecDepth 100000 in
theorem pl_s964_e : ck_ok p2_OL none [] [] 58 [] 114 pl_s964 = true := by decide +kernel
theorem pl_s964_s {X : Int → Int} {LX : Nat} : ck_Ok p2_OL X LX 58 pl_s964 := ck_ok_s ⟨pl_nmu, ck_E0⟩ ck_X0 ck_l0 pl_s964_e
set_option maxRecDepth 100000 in
/-- GlacierMail$Rows.copyFrom -/
def pl_s965 : ck_Sum := ((1, 0, 0), 249, [.inr (.inr (.inl 36)), .inr (.inr (.inl 10))], ([], [], []), ([(36, 3, 3), (37, 0, 167)], []), [(.inr none, 249, ([], [], []))])
set_option maxRecDepth 100000 in
theorem pl_s965_e : ck_ok p2_OL none [] [] 58 [] 114 pl_s965 = true := by decide +kernel
theorem pl_s965_s {X : Int → Int} {LX : Nat} : ck_Ok p2_OL X LX 58 pl_s965 := ck_ok_s ⟨pl_nmu, ck_E0⟩ ck_X0 ck_l0 pl_s965_e
set_option maxRecDepth 100000 in
/-- GlacierMail$Rows.copyFrom -/
def pl_s966 : ck_Sum := ((1, 0, 0), 249, [.inr (.inr (.inl 38)), .inr (.inr (.inl 12))], ([], [], []), ([(38, 3, 3), (39, 0, 35)], []), [(.inr none, 249, ([], [], []))])
set_option maxRecDepth 100000 in
theorem pl_s966_e : ck_ok p2_OL none [] [] 58 [] 114 pl_s966 = true := by decide +kernel
theorem pl_s966_s {X : Int → Int} {LX : Nat} : ck_Ok p2_OL X LX 58 pl_s966 := ck_ok_s ⟨pl_nmu, ck_E0⟩ ck_X0 ck_l0 pl_s966_e
set_option maxRecDepth 100000 in
/-- GlacierMail$Rows.copyFrom -/
def pl_s967 : ck_Sum := ((1, 0, 0), 249, [.inr (.inr (.inl 40)), .inr (.inr (.inl 14))], ([], [], []), ([(40, 3, 3), (41, 0, 71)], []), [(.inr none, 249, ([], [], []))])
set_option maxRecDepth 100000 in
theorem pl_s967_e : ck_ok p2_OL none [] [] 58 [] 114 pl_s967 = true := by decide +kernel
theorem pl_s967_s {X : Int → Int} {LX : Nat} : ck_Ok p2_OL X LX 58 pl_s967 := ck_ok_s ⟨pl_nmu, ck_E0⟩ ck_X0 ck_l0 pl_s967_e
set_option maxRecDepth 100000 in
/-- GlacierMail$State.copyFrom -/
def pl_s968 : ck_Sum := ((2, 0, 0), 249, [.inr (.inr (.inl 29)), .inr (.inr (.inl 3))], ([], [(3, 8, 246), (29, 8, 100029)], [(3, 6, 6, (0, 299, [(10, 0)]))]), ([(29, 0, 7), (30, 3, 3), (31, 0, 55), (32, 3, 3), (33, 0, 23), (34, 3, 3), (35, 0, 23), (36, 3, 3), (37, 0, 167), (38, 3, 3), (39, 0, 35), (40, 3, 3), (41, 0, 71)], [(29, 8)]), [(.inr none, 249, ([], [(29, 8, 246)], [(29, 6, 6, (0, 299, [(10, 0)]))]))])
set_option maxRecDepth 100000 in
theorem pl_s968_e : ck_ok p2_OL none [] [(58, [pl_s962, pl_s963, pl_s964, pl_s965, pl_s966, pl_s967])] 57 [] 204 pl_s968 = true := by decide +kernel
theorem pl_s968_s {X : Int → Int} {LX : Nat} : ck_Ok p2_OL X LX 57 pl_s968 := ck_ok_s ⟨pl_nmu, ck_E1 (ck_S1 pl_s962_s (ck_S1 pl_s963_s (ck_S1 pl_s964_s (ck_S1 pl_s965_s (ck_S1 pl_s966_s (ck_S1 pl_s967_s ck_S0)))))) ck_E0⟩ ck_X0 ck_l0 pl_s968_e
set_option maxRecDepth 100000 in
/-- GlacierMail.image -/
def pl_s969 : ck_Sum := ((3, 0, 0), 249, [.inr (.inr (.inl 1))], ([], [(3, 8, 246), (29, 8, 100029)], [(3, 6, 6, (0, 299, [(10, 0)]))]), ([(1, 6, 6), (29, 0, 7), (30, 3, 3), (31, 0, 55), (32, 3, 3), (33, 0, 23), (34, 3, 3), (35, 0, 23), (36, 3, 3), (37, 0, 167), (38, 3, 3), (39, 0, 35), (40, 3, 3), (41, 0, 71)], [(29, 8)]), [(.inr none, 249, ([], [(29, 8, 246)], [(1, 6, 6, ck_one 1), (29, 6, 6, (0, 299, [(10, 0)]))]))])
set_option maxRecDepth 100000 in
theorem pl_s969_e : ck_ok p2_OL none [] [(57, [pl_s968])] 59 [] 88 pl_s969 = true := by decide +kernel
theorem pl_s969_s {X : Int → Int} {LX : Nat} : ck_Ok p2_OL X LX 59 pl_s969 := ck_ok_s ⟨pl_nmu, ck_E1 (ck_S1 pl_s968_s ck_S0) ck_E0⟩ ck_X0 ck_l0 pl_s969_e
set_option maxRecDepth 100000 in
/-- GlacierMail$Rows.copyFrom -/
def pl_s970 : ck_Sum := ((1, 0, 0), 249, [.inr (.inr (.inl 4)), .inr (.inr (.inl 30))], ([], [], []), ([(4, 3, 3), (5, 0, 55)], []), [(.inr none, 249, ([], [], []))])
set_option maxRecDepth 100000 in
theorem pl_s970_e : ck_ok p2_OL none [] [] 58 [] 114 pl_s970 = true := by decide +kernel
theorem pl_s970_s {X : Int → Int} {LX : Nat} : ck_Ok p2_OL X LX 58 pl_s970 := ck_ok_s ⟨pl_nmu, ck_E0⟩ ck_X0 ck_l0 pl_s970_e
set_option maxRecDepth 100000 in
/-- GlacierMail$Rows.copyFrom -/
def pl_s971 : ck_Sum := ((1, 0, 0), 249, [.inr (.inr (.inl 6)), .inr (.inr (.inl 32))], ([], [], []), ([(6, 3, 3), (7, 0, 23)], []), [(.inr none, 249, ([], [], []))])
set_option maxRecDepth 100000 in
theorem pl_s971_e : ck_ok p2_OL none [] [] 58 [] 114 pl_s971 = true := by decide +kernel
theorem pl_s971_s {X : Int → Int} {LX : Nat} : ck_Ok p2_OL X LX 58 pl_s971 := ck_ok_s ⟨pl_nmu, ck_E0⟩ ck_X0 ck_l0 pl_s971_e
set_option maxRecDepth 100000 in
/-- GlacierMail$Rows.copyFrom -/
def pl_s972 : ck_Sum := ((1, 0, 0), 249, [.inr (.inr (.inl 8)), .inr (.inr (.inl 34))], ([], [], []), ([(8, 3, 3), (9, 0, 23)], []), [(.inr none, 249, ([], [], []))])
set_option maxRecDepth 100000 in
theorem pl_s972_e : ck_ok p2_OL none [] [] 58 [] 114 pl_s972 = true := by decide +kernel
theorem pl_s972_s {X : Int → Int} {LX : Nat} : ck_Ok p2_OL X LX 58 pl_s972 := ck_ok_s ⟨pl_nmu, ck_E0⟩ ck_X0 ck_l0 pl_s972_e
set_option maxRecDepth 100000 in
/-- GlacierMail$Rows.copyFrom -/
def pl_s973 : ck_Sum := ((1, 0, 0), 249, [.inr (.inr (.inl 10)), .inr (.inr (.inl 36))], ([], [], []), ([(10, 3, 3), (11, 0, 167)], []), [(.inr none, 249, ([], [], []))])
set_option maxRecDepth 100000 in
theorem pl_s973_e : ck_ok p2_OL none [] [] 58 [] 114 pl_s973 = true := by decide +kernel
theorem pl_s973_s {X : Int → Int} {LX : Nat} : ck_Ok p2_OL X LX 58 pl_s973 := ck_ok_s ⟨pl_nmu, ck_E0⟩ ck_X0 ck_l0 pl_s973_e
set_option maxRecDepth 100000 in
/-- GlacierMail$Rows.copyFrom -/
def pl_s974 : ck_Sum := ((1, 0, 0), 249, [.inr (.inr (.inl 12)), .inr (.inr (.inl 38))], ([], [], []), ([(12, 3, 3), (13, 0, 35)], []), [(.inr none, 249, ([], [], []))])
set_option maxRecDepth 100000 in
theorem pl_s974_e : ck_ok p2_OL none [] [] 58 [] 114 pl_s974 = true := by decide +kernel
theorem pl_s974_s {X : Int → Int} {LX : Nat} : ck_Ok p2_OL X LX 58 pl_s974 := ck_ok_s ⟨pl_nmu, ck_E0⟩ ck_X0 ck_l0 pl_s974_e
set_option maxRecDepth 100000 in
/-- GlacierMail$Rows.copyFrom -/
def pl_s975 : ck_Sum := ((1, 0, 0), 249, [.inr (.inr (.inl 14)), .inr (.inr (.inl 40))], ([], [], []), ([(14, 3, 3), (15, 0, 71)], []), [(.inr none, 249, ([], [], []))])
set_option maxRecDepth 100000 in
theorem pl_s975_e : ck_ok p2_OL none [] [] 58 [] 114 pl_s975 = true := by decide +kernel
theorem pl_s975_s {X : Int → Int} {LX : Nat} : ck_Ok p2_OL X LX 58 pl_s975 := ck_ok_s ⟨pl_nmu, ck_E0⟩ ck_X0 ck_l0 pl_s975_e
set_option maxRecDepth 100000 in
/-- GlacierMail$State.copyFrom -/
def pl_s976 : ck_Sum := ((2, 0, 0), 249, [.inr (.inr (.inl 3)), .inr (.inr (.inl 29))], ([], [(3, 8, 246), (29, 8, 100029)], []), ([(3, 0, 7), (4, 3, 3), (5, 0, 55), (6, 3, 3), (7, 0, 23), (8, 3, 3), (9, 0, 23), (10, 3, 3), (11, 0, 167), (12, 3, 3), (13, 0, 35), (14, 3, 3), (15, 0, 71)], [(3, 8)]), [(.inr none, 249, ([], [(3, 8, 100029)], []))])
set_option maxRecDepth 100000 in
theorem pl_s976_e : ck_ok p2_OL none [] [(58, [pl_s970, pl_s971, pl_s972, pl_s973, pl_s974, pl_s975])] 57 [] 204 pl_s976 = true := by decide +kernel
theorem pl_s976_s {X : Int → Int} {LX : Nat} : ck_Ok p2_OL X LX 57 pl_s976 := ck_ok_s ⟨pl_nmu, ck_E1 (ck_S1 pl_s970_s (ck_S1 pl_s971_s (ck_S1 pl_s972_s (ck_S1 pl_s973_s (ck_S1 pl_s974_s (ck_S1 pl_s975_s ck_S0)))))) ck_E0⟩ ck_X0 ck_l0 pl_s976_e
set_option maxRecDepth 100000 in
/-- GlacierMail.back -/
def pl_s977 : ck_Sum := ((4, 0, 0), 249, [.inr (.inr (.inl 1))], ([], [(3, 8, 246), (29, 8, 100029)], [(1, 6, 6, (0, 1, [(9, 0)]))]), ([(1, 15, 15), (3, 0, 7), (4, 3, 3), (5, 0, 55), (6, 3, 3), (7, 0, 23), (8, 3, 3), (9, 0, 23), (10, 3, 3), (11, 0, 167), (12, 3, 3), (13, 0, 35), (14, 3, 3), (15, 0, 71), (42, 2, 2), (200, 6, 6), (201, 0, 299), (202, 0, 593), (203, 0, 299)], [(3, 8)]), [(.inr (some (.inl (ck_one 1))), 249, ([], [(3, 8, 100029)], [(1, 15, 15, ck_one 0), (42, 2, 2, ck_one 0), (200, 6, 6, ck_one 1), (1, 6, 6, (1, 1, [(9, 0)]))])), (.inr (some (.inl (ck_one 0))), 249, ([], [(3, 8, 246)], [(1, 6, 6, (0, 0, [(9, 0)]))]))])
set_option maxRecDepth 100000 in
theorem pl_s977_e : ck_ok p2_OL none [] [(57, [pl_s976]), (61, [pl_s142])] 60 [] 94 pl_s977 = true := by decide +kernel
theorem pl_s977_s {X : Int → Int} {LX : Nat} : ck_Ok p2_OL X LX 60 pl_s977 := ck_ok_s ⟨pl_nmu, ck_E1 (ck_S1 pl_s976_s ck_S0) (ck_E1 (ck_S1 pl_s142_s ck_S0) ck_E0)⟩ ck_X0 ck_l0 pl_s977_e
set_option maxRecDepth 100000 in
/-- GlacierMail.count -/
def pl_s978 : ck_Sum := ((0, 0, 0), 249, [.inr (.inr (.inl 1)), .inl ((-2147483648), (-1), [])], ([], [], []), ([], []), [(.inr (some (.inl (ck_one (-1)))), 249, ([], [], []))])
set_option maxRecDepth 100000 in
theorem pl_s978_e : ck_ok p2_OL none [] [] 63 [] 78 pl_s978 = true := by decide +kernel
theorem pl_s978_s {X : Int → Int} {LX : Nat} : ck_Ok p2_OL X LX 63 pl_s978 := ck_ok_s ⟨pl_nmu, ck_E0⟩ ck_X0 ck_l0 pl_s978_e
set_option maxRecDepth 100000 in
/-- GlacierMail$History.size -/
def pl_s979 : ck_Sum := ((0, 0, 0), 249, [.inr (.inr (.inl 42))], ([], [], []), ([], []), [(.inr (some (.inl (0, 12, []))), 249, ([], [], []))])
set_option maxRecDepth 100000 in
theorem pl_s979_e : ck_ok p2_OL none [] [] 69 [] 76 pl_s979 = true := by decide +kernel
theorem pl_s979_s {X : Int → Int} {LX : Nat} : ck_Ok p2_OL X LX 69 pl_s979 := ck_ok_s ⟨pl_nmu, ck_E0⟩ ck_X0 ck_l0 pl_s979_e
set_option maxRecDepth 100000 in
/-- GlacierMail.inIceNow -/
def pl_s980 : ck_Sum := ((6, 0, 0), 249, [.inr (.inr (.inl 1))], ([], [(3, 8, 246)], [(3, 6, 6, (0, 299, [(10, 0)]))]), ([(1, 15, 15), (200, 6, 6), (204, 0, 9), (205, 0, 14849), (206, 2, 8), (220, 3, 3), (221, 0, 47)], []), [(.inr (some (.inl ((-2147483648), 2147483647, []))), 249, ([], [], [(1, 15, 15, ck_one 1)]))])
set_option maxRecDepth 100000 in
theorem pl_s980_e : ck_ok p2_OL none [] [(24, [pl_s217]), (9, [pl_s200]), (10, [pl_s218]), (67, [pl_s219])] 68 [(8, [some (.inr (.inr (.inl 1))), some (.inl ((-2147483648), 2147483647, [])), some (.inl (0, 24, []))], ([], [(3, 8, 246)], [(1, 15, 15, ck_one 1), (3, 6, 6, (0, 299, [(10, 0)]))]), 100, .inl 2, true)] 174 pl_s980 = true := by decide +kernel
theorem pl_s980_s {X : Int → Int} {LX : Nat} : ck_Ok p2_OL X LX 68 pl_s980 := ck_ok_s ⟨pl_nmu, ck_E1 (ck_S1 pl_s217_s ck_S0) (ck_E1 (ck_S1 pl_s200_s ck_S0) (ck_E1 (ck_S1 pl_s218_s ck_S0) (ck_E1 (ck_S1 pl_s219_s ck_S0) ck_E0)))⟩ ck_X0 ck_l0 pl_s980_e
set_option maxRecDepth 100000 in
/-- GlacierMail.waiting -/
def pl_s981 : ck_Sum := ((6, 0, 0), 249, [.inr (.inr (.inl 1)), .inl (ck_one (-1))], ([], [(3, 8, 246)], [(3, 6, 6, (0, 299, [(10, 0)]))]), ([(1, 15, 15), (200, 6, 6), (204, 0, 9), (205, 0, 14849), (206, 2, 8), (220, 3, 3), (221, 0, 47)], []), [(.inr (some (.inl ((-2147483648), 2147483647, []))), 249, ([], [], [(1, 15, 15, ck_one 1)]))])
set_option maxRecDepth 100000 in
theorem pl_s981_e : ck_ok p2_OL none [] [(24, [pl_s217]), (9, [pl_s200]), (66, [pl_s220])] 65 [(8, [some (.inr (.inr (.inl 1))), some (.inl (ck_one (-1))), some (.inl ((-2147483648), 2147483647, [])), some (.inl (0, 24, [])), none], ([], [(3, 8, 246)], [(1, 15, 15, ck_one 1), (3, 6, 6, (0, 299, [(10, 0)]))]), 100, .inl 3, true)] 178 pl_s981 = true := by decide +kernel
theorem pl_s981_s {X : Int → Int} {LX : Nat} : ck_Ok p2_OL X LX 65 pl_s981 := ck_ok_s ⟨pl_nmu, ck_E1 (ck_S1 pl_s217_s ck_S0) (ck_E1 (ck_S1 pl_s200_s ck_S0) (ck_E1 (ck_S1 pl_s220_s ck_S0) ck_E0))⟩ ck_X0 ck_l0 pl_s981_e
set_option maxRecDepth 100000 in
/-- GlacierMail$Rows.size -/
def pl_s982 : ck_Sum := ((0, 0, 0), 249, [.inr (.inr (.inl 14))], ([], [], []), ([], []), [(.inr (some (.inl (0, 24, []))), 249, ([], [], []))])
set_option maxRecDepth 100000 in
theorem pl_s982_e : ck_ok p2_OL none [] [] 9 [] 76 pl_s982 = true := by decide +kernel
theorem pl_s982_s {X : Int → Int} {LX : Nat} : ck_Ok p2_OL X LX 9 pl_s982 := ck_ok_s ⟨pl_nmu, ck_E0⟩ ck_X0 ck_l0 pl_s982_e
set_option maxRecDepth 100000 in
/-- GlacierMail.count -/
def pl_s983 : ck_Sum := ((7, 0, 0), 249, [.inr (.inr (.inl 1)), .inl (10, 2147483647, [])], ([], [(3, 8, 246)], [(3, 6, 6, (0, 299, [(10, 0)]))]), ([(1, 15, 15), (200, 6, 6), (204, 0, 9), (205, 0, 14849), (206, 2, 8), (220, 3, 3), (221, 0, 47)], []), [(.inr (some (.inl ((-2147483648), 2147483647, []))), 249, ([], [], [])), (.inr (some (.inl (0, 9999, []))), 249, ([], [], []))])
set_option maxRecDepth 100000 in
theorem pl_s983_e : ck_ok p2_OL none [] [(69, [pl_s979]), (68, [pl_s980]), (65, [pl_s981]), (9, [pl_s982])] 63 [] 84 pl_s983 = true := by decide +kernel
theorem pl_s983_s {X : Int → Int} {LX : Nat} : ck_Ok p2_OL X LX 63 pl_s983 := ck_ok_s ⟨pl_nmu, ck_E1 (ck_S1 pl_s979_s ck_S0) (ck_E1 (ck_S1 pl_s980_s ck_S0) (ck_E1 (ck_S1 pl_s981_s ck_S0) (ck_E1 (ck_S1 pl_s982_s ck_S0) ck_E0)))⟩ ck_X0 ck_l0 pl_s983_e
set_option maxRecDepth 100000 in
/-- GlacierMail.lawLines -/
def pl_s984 : ck_Sum := ((1, 0, 0), 249, [.inr (.inr (.inl 1))], ([], [(3, 8, 246)], []), ([], []), [(.inr (some (.inl (0, 12, []))), 249, ([], [], []))])
set_option maxRecDepth 100000 in
theorem pl_s984_e : ck_ok p2_OL none [] [(9, [pl_s182])] 64 [] 90 pl_s984 = true := by decide +kernel
theorem pl_s984_s {X : Int → Int} {LX : Nat} : ck_Ok p2_OL X LX 64 pl_s984 := ck_ok_s ⟨pl_nmu, ck_E1 (ck_S1 pl_s182_s ck_S0) ck_E0⟩ ck_X0 ck_l0 pl_s984_e
set_option maxRecDepth 100000 in
/-- GlacierMail.count -/
def pl_s985 : ck_Sum := ((2, 0, 0), 249, [.inr (.inr (.inl 1)), .inl (0, 9, [])], ([], [(3, 8, 246)], [(3, 6, 6, (0, 299, [(10, 0)]))]), ([], []), [(.inr (some (.inl (0, 2147483647, []))), 249, ([], [], [])), (.inr (some (.inl ((-2147483648), (-1), []))), 249, ([], [], [(3, 7, 7, ((-2147483648), (-1), []))]))])
set_option maxRecDepth 100000 in
theorem pl_s985_e : ck_ok p2_OL none [] [(64, [pl_s984]), (9, [pl_s754, pl_s137, pl_s200, pl_s189, pl_s133])] 63 [] 84 pl_s985 = true := by decide +kernel
theorem pl_s985_s {X : Int → Int} {LX : Nat} : ck_Ok p2_OL X LX 63 pl_s985 := ck_ok_s ⟨pl_nmu, ck_E1 (ck_S1 pl_s984_s ck_S0) (ck_E1 (ck_S1 pl_s754_s (ck_S1 pl_s137_s (ck_S1 pl_s200_s (ck_S1 pl_s189_s (ck_S1 pl_s133_s ck_S0))))) ck_E0)⟩ ck_X0 ck_l0 pl_s985_e
