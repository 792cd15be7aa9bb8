/-! THE CONSTRUCTORS (laid by wip/am/p2o.py). -/
set_option maxRecDepth 100000 in
/-- GlacierMail$Rows.<init> -/
noncomputable def pc_s0 : ck_Sum := ((1, 1, 56), 4, [.inr (.inr (.inl 4)), .inl (ck_one 8), .inl (ck_one 7)], ([(4, 6, 0)], [], []), ([(4, 0, 1), (4, 3, 3)], [(4, 2)]), [(.inr none, 5, ([(5, 0, 56)], [(4, 2, 5)], [(4, 1, 1, ck_one 7), (4, 0, 0, ck_one 8), (4, 3, 3, ck_one 0), (5, 0, 55, ck_one 0)]))])
set_option maxRecDepth 100000 in
theorem pc_s0_s {X : Int → Int} {LX : Nat} : ck_Ok ck_O0 X LX 2 pc_s0 := ck_okq (cuts := []) (f := 106) ⟨(fun _ h => nomatch h), ck_E0⟩ (by decide +kernel)
set_option maxRecDepth 100000 in
/-- GlacierMail$Rows.<init> -/
noncomputable def pc_s1 : ck_Sum := ((1, 1, 24), 6, [.inr (.inr (.inl 6)), .inl (ck_one 8), .inl (ck_one 3)], ([(6, 6, 0)], [], []), ([(6, 0, 1), (6, 3, 3)], [(6, 2)]), [(.inr none, 7, ([(7, 0, 24)], [(6, 2, 7)], [(6, 1, 1, ck_one 3), (6, 0, 0, ck_one 8), (6, 3, 3, ck_one 0), (7, 0, 23, ck_one 0)]))])
set_option maxRecDepth 100000 in
theorem pc_s1_s {X : Int → Int} {LX : Nat} : ck_Ok ck_O0 X LX 2 pc_s1 := ck_okq (cuts := []) (f := 106) ⟨(fun _ h => nomatch h), ck_E0⟩ (by decide +kernel)
set_option maxRecDepth 100000 in
/-- GlacierMail$Rows.<init> -/
noncomputable def pc_s2 : ck_Sum := ((1, 1, 24), 8, [.inr (.inr (.inl 8)), .inl (ck_one 8), .inl (ck_one 3)], ([(8, 6, 0)], [], []), ([(8, 0, 1), (8, 3, 3)], [(8, 2)]), [(.inr none, 9, ([(9, 0, 24)], [(8, 2, 9)], [(8, 1, 1, ck_one 3), (8, 0, 0, ck_one 8), (8, 3, 3, ck_one 0), (9, 0, 23, ck_one 0)]))])
set_option maxRecDepth 100000 in
theorem pc_s2_s {X : Int → Int} {LX : Nat} : ck_Ok ck_O0 X LX 2 pc_s2 := ck_okq (cuts := []) (f := 106) ⟨(fun _ h => nomatch h), ck_E0⟩ (by decide +kernel)
set_option maxRecDepth 100000 in
/-- GlacierMail$Rows.<init> -/
noncomputable def pc_s3 : ck_Sum := ((1, 1, 168), 10, [.inr (.inr (.inl 10)), .inl (ck_one 24), .inl (ck_one 7)], ([(10, 6, 0)], [], []), ([(10, 0, 1), (10, 3, 3)], [(10, 2)]), [(.inr none, 11, ([(11, 0, 168)], [(10, 2, 11)], [(10, 1, 1, ck_one 7), (10, 0, 0, ck_one 24), (10, 3, 3, ck_one 0), (11, 0, 167, ck_one 0)]))])
set_option maxRecDepth 100000 in
theorem pc_s3_s {X : Int → Int} {LX : Nat} : ck_Ok ck_O0 X LX 2 pc_s3 := ck_okq (cuts := []) (f := 106) ⟨(fun _ h => nomatch h), ck_E0⟩ (by decide +kernel)
set_option maxRecDepth 100000 in
/-- GlacierMail$Rows.<init> -/
noncomputable def pc_s4 : ck_Sum := ((1, 1, 36), 12, [.inr (.inr (.inl 12)), .inl (ck_one 6), .inl (ck_one 6)], ([(12, 6, 0)], [], []), ([(12, 0, 1), (12, 3, 3)], [(12, 2)]), [(.inr none, 13, ([(13, 0, 36)], [(12, 2, 13)], [(12, 1, 1, ck_one 6), (12, 0, 0, ck_one 6), (12, 3, 3, ck_one 0), (13, 0, 35, ck_one 0)]))])
set_option maxRecDepth 100000 in
theorem pc_s4_s {X : Int → Int} {LX : Nat} : ck_Ok ck_O0 X LX 2 pc_s4 := ck_okq (cuts := []) (f := 106) ⟨(fun _ h => nomatch h), ck_E0⟩ (by decide +kernel)
set_option maxRecDepth 100000 in
/-- GlacierMail$Rows.<init> -/
noncomputable def pc_s5 : ck_Sum := ((1, 1, 72), 14, [.inr (.inr (.inl 14)), .inl (ck_one 24), .inl (ck_one 3)], ([(14, 6, 0)], [], []), ([(14, 0, 1), (14, 3, 3)], [(14, 2)]), [(.inr none, 15, ([(15, 0, 72)], [(14, 2, 15)], [(14, 1, 1, ck_one 3), (14, 0, 0, ck_one 24), (14, 3, 3, ck_one 0), (15, 0, 71, ck_one 0)]))])
set_option maxRecDepth 100000 in
theorem pc_s5_s {X : Int → Int} {LX : Nat} : ck_Ok ck_O0 X LX 2 pc_s5 := ck_okq (cuts := []) (f := 106) ⟨(fun _ h => nomatch h), ck_E0⟩ (by decide +kernel)
set_option maxRecDepth 100000 in
/-- GlacierMail$State.<init> -/
noncomputable def pc_s6 : ck_Sum := ((2, 12, 404), 3, [.inr (.inr (.inl 3))], ([(3, 5, 0)], [], []), ([(3, 0, 7)], [(3, 8), (3, 9), (3, 10), (3, 11), (3, 12), (3, 13), (3, 14)]), [(.inr none, 15, ([(4, 6, 0), (5, 0, 56), (6, 6, 0), (7, 0, 24), (8, 6, 0), (9, 0, 24), (10, 6, 0), (11, 0, 168), (12, 6, 0), (13, 0, 36), (14, 6, 0), (15, 0, 72)], [(3, 8, 0), (3, 9, 4), (3, 10, 6), (3, 11, 8), (3, 12, 10), (3, 13, 12), (3, 14, 14), (4, 2, 5), (6, 2, 7), (8, 2, 9), (10, 2, 11), (12, 2, 13), (14, 2, 15)], [(14, 1, 1, ck_one 3), (14, 0, 0, ck_one 24), (14, 3, 3, ck_one 0), (14, 2, 2, ck_one 0), (12, 1, 1, ck_one 6), (12, 0, 0, ck_one 6), (12, 3, 3, ck_one 0), (12, 2, 2, ck_one 0), (10, 1, 1, ck_one 7), (10, 0, 0, ck_one 24), (10, 3, 3, ck_one 0), (10, 2, 2, ck_one 0), (8, 1, 1, ck_one 3), (8, 0, 0, ck_one 8), (8, 3, 3, ck_one 0), (8, 2, 2, ck_one 0), (6, 1, 1, ck_one 3), (6, 0, 0, ck_one 8), (6, 3, 3, ck_one 0), (6, 2, 2, ck_one 0), (4, 1, 1, ck_one 7), (4, 0, 0, ck_one 8), (4, 3, 3, ck_one 0), (4, 2, 2, ck_one 0), (3, 7, 7, ck_one 0), (3, 6, 6, ck_one 0), (3, 5, 5, ck_one 1), (3, 4, 4, ck_one 3), (3, 3, 3, ck_one 2), (3, 2, 2, ck_one 10), (3, 1, 1, ck_one 40), (3, 0, 0, ck_one 3), (9, 0, 23, ck_one 0), (7, 0, 23, ck_one 0), (13, 0, 35, ck_one 0), (5, 0, 55, ck_one 0), (15, 0, 71, ck_one 0), (11, 0, 167, ck_one 0)]))])
set_option maxRecDepth 100000 in
theorem pc_s6_s {X : Int → Int} {LX : Nat} : ck_Ok ck_O0 X LX 1 pc_s6 := ck_okq (cuts := []) (f := 214) ⟨(fun _ h => nomatch h), ck_E1 (ck_S1 pc_s0_s (ck_S1 pc_s1_s (ck_S1 pc_s2_s (ck_S1 pc_s3_s (ck_S1 pc_s4_s (ck_S1 pc_s5_s ck_S0)))))) ck_E0⟩ (by decide +kernel)
set_option maxRecDepth 100000 in
/-- GlacierMail$Rows.<init> -/
noncomputable def pc_s7 : ck_Sum := ((1, 1, 56), 17, [.inr (.inr (.inl 17)), .inl (ck_one 8), .inl (ck_one 7)], ([(17, 6, 0)], [], []), ([(17, 0, 1), (17, 3, 3)], [(17, 2)]), [(.inr none, 18, ([(18, 0, 56)], [(17, 2, 18)], [(17, 1, 1, ck_one 7), (17, 0, 0, ck_one 8), (17, 3, 3, ck_one 0), (18, 0, 55, ck_one 0)]))])
set_option maxRecDepth 100000 in
theorem pc_s7_s {X : Int → Int} {LX : Nat} : ck_Ok ck_O0 X LX 2 pc_s7 := ck_okq (cuts := []) (f := 106) ⟨(fun _ h => nomatch h), ck_E0⟩ (by decide +kernel)
set_option maxRecDepth 100000 in
/-- GlacierMail$Rows.<init> -/
noncomputable def pc_s8 : ck_Sum := ((1, 1, 24), 19, [.inr (.inr (.inl 19)), .inl (ck_one 8), .inl (ck_one 3)], ([(19, 6, 0)], [], []), ([(19, 0, 1), (19, 3, 3)], [(19, 2)]), [(.inr none, 20, ([(20, 0, 24)], [(19, 2, 20)], [(19, 1, 1, ck_one 3), (19, 0, 0, ck_one 8), (19, 3, 3, ck_one 0), (20, 0, 23, ck_one 0)]))])
set_option maxRecDepth 100000 in
theorem pc_s8_s {X : Int → Int} {LX : Nat} : ck_Ok ck_O0 X LX 2 pc_s8 := ck_okq (cuts := []) (f := 106) ⟨(fun _ h => nomatch h), ck_E0⟩ (by decide +kernel)
set_option maxRecDepth 100000 in
/-- GlacierMail$Rows.<init> -/
noncomputable def pc_s9 : ck_Sum := ((1, 1, 24), 21, [.inr (.inr (.inl 21)), .inl (ck_one 8), .inl (ck_one 3)], ([(21, 6, 0)], [], []), ([(21, 0, 1), (21, 3, 3)], [(21, 2)]), [(.inr none, 22, ([(22, 0, 24)], [(21, 2, 22)], [(21, 1, 1, ck_one 3), (21, 0, 0, ck_one 8), (21, 3, 3, ck_one 0), (22, 0, 23, ck_one 0)]))])
set_option maxRecDepth 100000 in
theorem pc_s9_s {X : Int → Int} {LX : Nat} : ck_Ok ck_O0 X LX 2 pc_s9 := ck_okq (cuts := []) (f := 106) ⟨(fun _ h => nomatch h), ck_E0⟩ (by decide +kernel)
set_option maxRecDepth 100000 in
/-- GlacierMail$Rows.<init> -/
noncomputable def pc_s10 : ck_Sum := ((1, 1, 168), 23, [.inr (.inr (.inl 23)), .inl (ck_one 24), .inl (ck_one 7)], ([(23, 6, 0)], [], []), ([(23, 0, 1), (23, 3, 3)], [(23, 2)]), [(.inr none, 24, ([(24, 0, 168)], [(23, 2, 24)], [(23, 1, 1, ck_one 7), (23, 0, 0, ck_one 24), (23, 3, 3, ck_one 0), (24, 0, 167, ck_one 0)]))])
set_option maxRecDepth 100000 in
theorem pc_s10_s {X : Int → Int} {LX : Nat} : ck_Ok ck_O0 X LX 2 pc_s10 := ck_okq (cuts := []) (f := 106) ⟨(fun _ h => nomatch h), ck_E0⟩ (by decide +kernel)
set_option maxRecDepth 100000 in
/-- GlacierMail$Rows.<init> -/
noncomputable def pc_s11 : ck_Sum := ((1, 1, 36), 25, [.inr (.inr (.inl 25)), .inl (ck_one 6), .inl (ck_one 6)], ([(25, 6, 0)], [], []), ([(25, 0, 1), (25, 3, 3)], [(25, 2)]), [(.inr none, 26, ([(26, 0, 36)], [(25, 2, 26)], [(25, 1, 1, ck_one 6), (25, 0, 0, ck_one 6), (25, 3, 3, ck_one 0), (26, 0, 35, ck_one 0)]))])
set_option maxRecDepth 100000 in
theorem pc_s11_s {X : Int → Int} {LX : Nat} : ck_Ok ck_O0 X LX 2 pc_s11 := ck_okq (cuts := []) (f := 106) ⟨(fun _ h => nomatch h), ck_E0⟩ (by decide +kernel)
set_option maxRecDepth 100000 in
/-- GlacierMail$Rows.<init> -/
noncomputable def pc_s12 : ck_Sum := ((1, 1, 72), 27, [.inr (.inr (.inl 27)), .inl (ck_one 24), .inl (ck_one 3)], ([(27, 6, 0)], [], []), ([(27, 0, 1), (27, 3, 3)], [(27, 2)]), [(.inr none, 28, ([(28, 0, 72)], [(27, 2, 28)], [(27, 1, 1, ck_one 3), (27, 0, 0, ck_one 24), (27, 3, 3, ck_one 0), (28, 0, 71, ck_one 0)]))])
set_option maxRecDepth 100000 in
theorem pc_s12_s {X : Int → Int} {LX : Nat} : ck_Ok ck_O0 X LX 2 pc_s12 := ck_okq (cuts := []) (f := 106) ⟨(fun _ h => nomatch h), ck_E0⟩ (by decide +kernel)
set_option maxRecDepth 100000 in
/-- GlacierMail$State.<init> -/
noncomputable def pc_s13 : ck_Sum := ((2, 12, 404), 16, [.inr (.inr (.inl 16))], ([(16, 5, 0)], [], []), ([(16, 0, 7)], [(16, 8), (16, 9), (16, 10), (16, 11), (16, 12), (16, 13), (16, 14)]), [(.inr none, 28, ([(17, 6, 0), (18, 0, 56), (19, 6, 0), (20, 0, 24), (21, 6, 0), (22, 0, 24), (23, 6, 0), (24, 0, 168), (25, 6, 0), (26, 0, 36), (27, 6, 0), (28, 0, 72)], [(16, 8, 0), (16, 9, 17), (16, 10, 19), (16, 11, 21), (16, 12, 23), (16, 13, 25), (16, 14, 27), (17, 2, 18), (19, 2, 20), (21, 2, 22), (23, 2, 24), (25, 2, 26), (27, 2, 28)], [(27, 1, 1, ck_one 3), (27, 0, 0, ck_one 24), (27, 3, 3, ck_one 0), (27, 2, 2, ck_one 0), (25, 1, 1, ck_one 6), (25, 0, 0, ck_one 6), (25, 3, 3, ck_one 0), (25, 2, 2, ck_one 0), (23, 1, 1, ck_one 7), (23, 0, 0, ck_one 24), (23, 3, 3, ck_one 0), (23, 2, 2, ck_one 0), (21, 1, 1, ck_one 3), (21, 0, 0, ck_one 8), (21, 3, 3, ck_one 0), (21, 2, 2, ck_one 0), (19, 1, 1, ck_one 3), (19, 0, 0, ck_one 8), (19, 3, 3, ck_one 0), (19, 2, 2, ck_one 0), (17, 1, 1, ck_one 7), (17, 0, 0, ck_one 8), (17, 3, 3, ck_one 0), (17, 2, 2, ck_one 0), (16, 7, 7, ck_one 0), (16, 6, 6, ck_one 0), (16, 5, 5, ck_one 1), (16, 4, 4, ck_one 3), (16, 3, 3, ck_one 2), (16, 2, 2, ck_one 10), (16, 1, 1, ck_one 40), (16, 0, 0, ck_one 3), (22, 0, 23, ck_one 0), (20, 0, 23, ck_one 0), (26, 0, 35, ck_one 0), (18, 0, 55, ck_one 0), (28, 0, 71, ck_one 0), (24, 0, 167, ck_one 0)]))])
set_option maxRecDepth 100000 in
theorem pc_s13_s {X : Int → Int} {LX : Nat} : ck_Ok ck_O0 X LX 1 pc_s13 := ck_okq (cuts := []) (f := 214) ⟨(fun _ h => nomatch h), ck_E1 (ck_S1 pc_s7_s (ck_S1 pc_s8_s (ck_S1 pc_s9_s (ck_S1 pc_s10_s (ck_S1 pc_s11_s (ck_S1 pc_s12_s ck_S0)))))) ck_E0⟩ (by decide +kernel)
set_option maxRecDepth 100000 in
/-- GlacierMail$Rows.<init> -/
noncomputable def pc_s14 : ck_Sum := ((1, 1, 56), 30, [.inr (.inr (.inl 30)), .inl (ck_one 8), .inl (ck_one 7)], ([(30, 6, 0)], [], []), ([(30, 0, 1), (30, 3, 3)], [(30, 2)]), [(.inr none, 31, ([(31, 0, 56)], [(30, 2, 31)], [(30, 1, 1, ck_one 7), (30, 0, 0, ck_one 8), (30, 3, 3, ck_one 0), (31, 0, 55, ck_one 0)]))])
set_option maxRecDepth 100000 in
theorem pc_s14_s {X : Int → Int} {LX : Nat} : ck_Ok ck_O0 X LX 2 pc_s14 := ck_okq (cuts := []) (f := 106) ⟨(fun _ h => nomatch h), ck_E0⟩ (by decide +kernel)
set_option maxRecDepth 100000 in
/-- GlacierMail$Rows.<init> -/
noncomputable def pc_s15 : ck_Sum := ((1, 1, 24), 32, [.inr (.inr (.inl 32)), .inl (ck_one 8), .inl (ck_one 3)], ([(32, 6, 0)], [], []), ([(32, 0, 1), (32, 3, 3)], [(32, 2)]), [(.inr none, 33, ([(33, 0, 24)], [(32, 2, 33)], [(32, 1, 1, ck_one 3), (32, 0, 0, ck_one 8), (32, 3, 3, ck_one 0), (33, 0, 23, ck_one 0)]))])
set_option maxRecDepth 100000 in
theorem pc_s15_s {X : Int → Int} {LX : Nat} : ck_Ok ck_O0 X LX 2 pc_s15 := ck_okq (cuts := []) (f := 106) ⟨(fun _ h => nomatch h), ck_E0⟩ (by decide +kernel)
set_option maxRecDepth 100000 in
/-- GlacierMail$Rows.<init> -/
noncomputable def pc_s16 : ck_Sum := ((1, 1, 24), 34, [.inr (.inr (.inl 34)), .inl (ck_one 8), .inl (ck_one 3)], ([(34, 6, 0)], [], []), ([(34, 0, 1), (34, 3, 3)], [(34, 2)]), [(.inr none, 35, ([(35, 0, 24)], [(34, 2, 35)], [(34, 1, 1, ck_one 3), (34, 0, 0, ck_one 8), (34, 3, 3, ck_one 0), (35, 0, 23, ck_one 0)]))])
set_option maxRecDepth 100000 in
theorem pc_s16_s {X : Int → Int} {LX : Nat} : ck_Ok ck_O0 X LX 2 pc_s16 := ck_okq (cuts := []) (f := 106) ⟨(fun _ h => nomatch h), ck_E0⟩ (by decide +kernel)
set_option maxRecDepth 100000 in
/-- GlacierMail$Rows.<init> -/
noncomputable def pc_s17 : ck_Sum := ((1, 1, 168), 36, [.inr (.inr (.inl 36)), .inl (ck_one 24), .inl (ck_one 7)], ([(36, 6, 0)], [], []), ([(36, 0, 1), (36, 3, 3)], [(36, 2)]), [(.inr none, 37, ([(37, 0, 168)], [(36, 2, 37)], [(36, 1, 1, ck_one 7), (36, 0, 0, ck_one 24), (36, 3, 3, ck_one 0), (37, 0, 167, ck_one 0)]))])
set_option maxRecDepth 100000 in
theorem pc_s17_s {X : Int → Int} {LX : Nat} : ck_Ok ck_O0 X LX 2 pc_s17 := ck_okq (cuts := []) (f := 106) ⟨(fun _ h => nomatch h), ck_E0⟩ (by decide +kernel)
set_option maxRecDepth 100000 in
/-- GlacierMail$Rows.<init> -/
noncomputable def pc_s18 : ck_Sum := ((1, 1, 36), 38, [.inr (.inr (.inl 38)), .inl (ck_one 6), .inl (ck_one 6)], ([(38, 6, 0)], [], []), ([(38, 0, 1), (38, 3, 3)], [(38, 2)]), [(.inr none, 39, ([(39, 0, 36)], [(38, 2, 39)], [(38, 1, 1, ck_one 6), (38, 0, 0, ck_one 6), (38, 3, 3, ck_one 0), (39, 0, 35, ck_one 0)]))])
set_option maxRecDepth 100000 in
theorem pc_s18_s {X : Int → Int} {LX : Nat} : ck_Ok ck_O0 X LX 2 pc_s18 := ck_okq (cuts := []) (f := 106) ⟨(fun _ h => nomatch h), ck_E0⟩ (by decide +kernel)
set_option maxRecDepth 100000 in
/-- GlacierMail$Rows.<init> -/
noncomputable def pc_s19 : ck_Sum := ((1, 1, 72), 40, [.inr (.inr (.inl 40)), .inl (ck_one 24), .inl (ck_one 3)], ([(40, 6, 0)], [], []), ([(40, 0, 1), (40, 3, 3)], [(40, 2)]), [(.inr none, 41, ([(41, 0, 72)], [(40, 2, 41)], [(40, 1, 1, ck_one 3), (40, 0, 0, ck_one 24), (40, 3, 3, ck_one 0), (41, 0, 71, ck_one 0)]))])
set_option maxRecDepth 100000 in
theorem pc_s19_s {X : Int → Int} {LX : Nat} : ck_Ok ck_O0 X LX 2 pc_s19 := ck_okq (cuts := []) (f := 106) ⟨(fun _ h => nomatch h), ck_E0⟩ (by decide +kernel)
set_option maxRecDepth 100000 in
/-- GlacierMail$State.<init> -/
noncomputable def pc_s20 : ck_Sum := ((2, 12, 404), 29, [.inr (.inr (.inl 29))], ([(29, 5, 0)], [], []), ([(29, 0, 7)], [(29, 8), (29, 9), (29, 10), (29, 11), (29, 12), (29, 13), (29, 14)]), [(.inr none, 41, ([(30, 6, 0), (31, 0, 56), (32, 6, 0), (33, 0, 24), (34, 6, 0), (35, 0, 24), (36, 6, 0), (37, 0, 168), (38, 6, 0), (39, 0, 36), (40, 6, 0), (41, 0, 72)], [(29, 8, 0), (29, 9, 30), (29, 10, 32), (29, 11, 34), (29, 12, 36), (29, 13, 38), (29, 14, 40), (30, 2, 31), (32, 2, 33), (34, 2, 35), (36, 2, 37), (38, 2, 39), (40, 2, 41)], [(40, 1, 1, ck_one 3), (40, 0, 0, ck_one 24), (40, 3, 3, ck_one 0), (40, 2, 2, ck_one 0), (38, 1, 1, ck_one 6), (38, 0, 0, ck_one 6), (38, 3, 3, ck_one 0), (38, 2, 2, ck_one 0), (36, 1, 1, ck_one 7), (36, 0, 0, ck_one 24), (36, 3, 3, ck_one 0), (36, 2, 2, ck_one 0), (34, 1, 1, ck_one 3), (34, 0, 0, ck_one 8), (34, 3, 3, ck_one 0), (34, 2, 2, ck_one 0), (32, 1, 1, ck_one 3), (32, 0, 0, ck_one 8), (32, 3, 3, ck_one 0), (32, 2, 2, ck_one 0), (30, 1, 1, ck_one 7), (30, 0, 0, ck_one 8), (30, 3, 3, ck_one 0), (30, 2, 2, ck_one 0), (29, 7, 7, ck_one 0), (29, 6, 6, ck_one 0), (29, 5, 5, ck_one 1), (29, 4, 4, ck_one 3), (29, 3, 3, ck_one 2), (29, 2, 2, ck_one 10), (29, 1, 1, ck_one 40), (29, 0, 0, ck_one 3), (35, 0, 23, ck_one 0), (33, 0, 23, ck_one 0), (39, 0, 35, ck_one 0), (31, 0, 55, ck_one 0), (41, 0, 71, ck_one 0), (37, 0, 167, ck_one 0)]))])
set_option maxRecDepth 100000 in
theorem pc_s20_s {X : Int → Int} {LX : Nat} : ck_Ok ck_O0 X LX 1 pc_s20 := ck_okq (cuts := []) (f := 214) ⟨(fun _ h => nomatch h), ck_E1 (ck_S1 pc_s14_s (ck_S1 pc_s15_s (ck_S1 pc_s16_s (ck_S1 pc_s17_s (ck_S1 pc_s18_s (ck_S1 pc_s19_s ck_S0)))))) ck_E0⟩ (by decide +kernel)
set_option maxRecDepth 100000 in
/-- GlacierMail$Rows.<init> -/
noncomputable def pc_s21 : ck_Sum := ((1, 1, 56), 45, [.inr (.inr (.inl 45)), .inl (ck_one 8), .inl (ck_one 7)], ([(45, 6, 0)], [], []), ([(45, 0, 1), (45, 3, 3)], [(45, 2)]), [(.inr none, 46, ([(46, 0, 56)], [(45, 2, 46)], [(45, 1, 1, ck_one 7), (45, 0, 0, ck_one 8), (45, 3, 3, ck_one 0), (46, 0, 55, ck_one 0)]))])
set_option maxRecDepth 100000 in
theorem pc_s21_s {X : Int → Int} {LX : Nat} : ck_Ok ck_O0 X LX 2 pc_s21 := ck_okq (cuts := []) (f := 106) ⟨(fun _ h => nomatch h), ck_E0⟩ (by decide +kernel)
set_option maxRecDepth 100000 in
/-- GlacierMail$Rows.<init> -/
noncomputable def pc_s22 : ck_Sum := ((1, 1, 24), 47, [.inr (.inr (.inl 47)), .inl (ck_one 8), .inl (ck_one 3)], ([(47, 6, 0)], [], []), ([(47, 0, 1), (47, 3, 3)], [(47, 2)]), [(.inr none, 48, ([(48, 0, 24)], [(47, 2, 48)], [(47, 1, 1, ck_one 3), (47, 0, 0, ck_one 8), (47, 3, 3, ck_one 0), (48, 0, 23, ck_one 0)]))])
set_option maxRecDepth 100000 in
theorem pc_s22_s {X : Int → Int} {LX : Nat} : ck_Ok ck_O0 X LX 2 pc_s22 := ck_okq (cuts := []) (f := 106) ⟨(fun _ h => nomatch h), ck_E0⟩ (by decide +kernel)
set_option maxRecDepth 100000 in
/-- GlacierMail$Rows.<init> -/
noncomputable def pc_s23 : ck_Sum := ((1, 1, 24), 49, [.inr (.inr (.inl 49)), .inl (ck_one 8), .inl (ck_one 3)], ([(49, 6, 0)], [], []), ([(49, 0, 1), (49, 3, 3)], [(49, 2)]), [(.inr none, 50, ([(50, 0, 24)], [(49, 2, 50)], [(49, 1, 1, ck_one 3), (49, 0, 0, ck_one 8), (49, 3, 3, ck_one 0), (50, 0, 23, ck_one 0)]))])
set_option maxRecDepth 100000 in
theorem pc_s23_s {X : Int → Int} {LX : Nat} : ck_Ok ck_O0 X LX 2 pc_s23 := ck_okq (cuts := []) (f := 106) ⟨(fun _ h => nomatch h), ck_E0⟩ (by decide +kernel)
set_option maxRecDepth 100000 in
/-- GlacierMail$Rows.<init> -/
noncomputable def pc_s24 : ck_Sum := ((1, 1, 168), 51, [.inr (.inr (.inl 51)), .inl (ck_one 24), .inl (ck_one 7)], ([(51, 6, 0)], [], []), ([(51, 0, 1), (51, 3, 3)], [(51, 2)]), [(.inr none, 52, ([(52, 0, 168)], [(51, 2, 52)], [(51, 1, 1, ck_one 7), (51, 0, 0, ck_one 24), (51, 3, 3, ck_one 0), (52, 0, 167, ck_one 0)]))])
set_option maxRecDepth 100000 in
theorem pc_s24_s {X : Int → Int} {LX : Nat} : ck_Ok ck_O0 X LX 2 pc_s24 := ck_okq (cuts := []) (f := 106) ⟨(fun _ h => nomatch h), ck_E0⟩ (by decide +kernel)
set_option maxRecDepth 100000 in
/-- GlacierMail$Rows.<init> -/
noncomputable def pc_s25 : ck_Sum := ((1, 1, 36), 53, [.inr (.inr (.inl 53)), .inl (ck_one 6), .inl (ck_one 6)], ([(53, 6, 0)], [], []), ([(53, 0, 1), (53, 3, 3)], [(53, 2)]), [(.inr none, 54, ([(54, 0, 36)], [(53, 2, 54)], [(53, 1, 1, ck_one 6), (53, 0, 0, ck_one 6), (53, 3, 3, ck_one 0), (54, 0, 35, ck_one 0)]))])
set_option maxRecDepth 100000 in
theorem pc_s25_s {X : Int → Int} {LX : Nat} : ck_Ok ck_O0 X LX 2 pc_s25 := ck_okq (cuts := []) (f := 106) ⟨(fun _ h => nomatch h), ck_E0⟩ (by decide +kernel)
set_option maxRecDepth 100000 in
/-- GlacierMail$Rows.<init> -/
noncomputable def pc_s26 : ck_Sum := ((1, 1, 72), 55, [.inr (.inr (.inl 55)), .inl (ck_one 24), .inl (ck_one 3)], ([(55, 6, 0)], [], []), ([(55, 0, 1), (55, 3, 3)], [(55, 2)]), [(.inr none, 56, ([(56, 0, 72)], [(55, 2, 56)], [(55, 1, 1, ck_one 3), (55, 0, 0, ck_one 24), (55, 3, 3, ck_one 0), (56, 0, 71, ck_one 0)]))])
set_option maxRecDepth 100000 in
theorem pc_s26_s {X : Int → Int} {LX : Nat} : ck_Ok ck_O0 X LX 2 pc_s26 := ck_okq (cuts := []) (f := 106) ⟨(fun _ h => nomatch h), ck_E0⟩ (by decide +kernel)
set_option maxRecDepth 100000 in
/-- GlacierMail$State.<init> -/
noncomputable def pc_s27 : ck_Sum := ((2, 12, 404), 44, [.inr (.inr (.inl 44))], ([(44, 5, 0)], [], []), ([(44, 0, 7)], [(44, 8), (44, 9), (44, 10), (44, 11), (44, 12), (44, 13), (44, 14)]), [(.inr none, 56, ([(45, 6, 0), (46, 0, 56), (47, 6, 0), (48, 0, 24), (49, 6, 0), (50, 0, 24), (51, 6, 0), (52, 0, 168), (53, 6, 0), (54, 0, 36), (55, 6, 0), (56, 0, 72)], [(44, 8, 0), (44, 9, 45), (44, 10, 47), (44, 11, 49), (44, 12, 51), (44, 13, 53), (44, 14, 55), (45, 2, 46), (47, 2, 48), (49, 2, 50), (51, 2, 52), (53, 2, 54), (55, 2, 56)], [(55, 1, 1, ck_one 3), (55, 0, 0, ck_one 24), (55, 3, 3, ck_one 0), (55, 2, 2, ck_one 0), (53, 1, 1, ck_one 6), (53, 0, 0, ck_one 6), (53, 3, 3, ck_one 0), (53, 2, 2, ck_one 0), (51, 1, 1, ck_one 7), (51, 0, 0, ck_one 24), (51, 3, 3, ck_one 0), (51, 2, 2, ck_one 0), (49, 1, 1, ck_one 3), (49, 0, 0, ck_one 8), (49, 3, 3, ck_one 0), (49, 2, 2, ck_one 0), (47, 1, 1, ck_one 3), (47, 0, 0, ck_one 8), (47, 3, 3, ck_one 0), (47, 2, 2, ck_one 0), (45, 1, 1, ck_one 7), (45, 0, 0, ck_one 8), (45, 3, 3, ck_one 0), (45, 2, 2, ck_one 0), (44, 7, 7, ck_one 0), (44, 6, 6, ck_one 0), (44, 5, 5, ck_one 1), (44, 4, 4, ck_one 3), (44, 3, 3, ck_one 2), (44, 2, 2, ck_one 10), (44, 1, 1, ck_one 40), (44, 0, 0, ck_one 3), (50, 0, 23, ck_one 0), (48, 0, 23, ck_one 0), (54, 0, 35, ck_one 0), (46, 0, 55, ck_one 0), (56, 0, 71, ck_one 0), (52, 0, 167, ck_one 0)]))])
set_option maxRecDepth 100000 in
theorem pc_s27_s {X : Int → Int} {LX : Nat} : ck_Ok ck_O0 X LX 1 pc_s27 := ck_okq (cuts := []) (f := 214) ⟨(fun _ h => nomatch h), ck_E1 (ck_S1 pc_s21_s (ck_S1 pc_s22_s (ck_S1 pc_s23_s (ck_S1 pc_s24_s (ck_S1 pc_s25_s (ck_S1 pc_s26_s ck_S0)))))) ck_E0⟩ (by decide +kernel)
set_option maxRecDepth 100000 in
/-- GlacierMail$Rows.<init> -/
noncomputable def pc_s28 : ck_Sum := ((1, 1, 56), 58, [.inr (.inr (.inl 58)), .inl (ck_one 8), .inl (ck_one 7)], ([(58, 6, 0)], [], []), ([(58, 0, 1), (58, 3, 3)], [(58, 2)]), [(.inr none, 59, ([(59, 0, 56)], [(58, 2, 59)], [(58, 1, 1, ck_one 7), (58, 0, 0, ck_one 8), (58, 3, 3, ck_one 0), (59, 0, 55, ck_one 0)]))])
set_option maxRecDepth 100000 in
theorem pc_s28_s {X : Int → Int} {LX : Nat} : ck_Ok ck_O0 X LX 2 pc_s28 := ck_okq (cuts := []) (f := 106) ⟨(fun _ h => nomatch h), ck_E0⟩ (by decide +kernel)
set_option maxRecDepth 100000 in
/-- GlacierMail$Rows.<init> -/
noncomputable def pc_s29 : ck_Sum := ((1, 1, 24), 60, [.inr (.inr (.inl 60)), .inl (ck_one 8), .inl (ck_one 3)], ([(60, 6, 0)], [], []), ([(60, 0, 1), (60, 3, 3)], [(60, 2)]), [(.inr none, 61, ([(61, 0, 24)], [(60, 2, 61)], [(60, 1, 1, ck_one 3), (60, 0, 0, ck_one 8), (60, 3, 3, ck_one 0), (61, 0, 23, ck_one 0)]))])
set_option maxRecDepth 100000 in
theorem pc_s29_s {X : Int → Int} {LX : Nat} : ck_Ok ck_O0 X LX 2 pc_s29 := ck_okq (cuts := []) (f := 106) ⟨(fun _ h => nomatch h), ck_E0⟩ (by decide +kernel)
set_option maxRecDepth 100000 in
/-- GlacierMail$Rows.<init> -/
noncomputable def pc_s30 : ck_Sum := ((1, 1, 24), 62, [.inr (.inr (.inl 62)), .inl (ck_one 8), .inl (ck_one 3)], ([(62, 6, 0)], [], []), ([(62, 0, 1), (62, 3, 3)], [(62, 2)]), [(.inr none, 63, ([(63, 0, 24)], [(62, 2, 63)], [(62, 1, 1, ck_one 3), (62, 0, 0, ck_one 8), (62, 3, 3, ck_one 0), (63, 0, 23, ck_one 0)]))])
set_option maxRecDepth 100000 in
theorem pc_s30_s {X : Int → Int} {LX : Nat} : ck_Ok ck_O0 X LX 2 pc_s30 := ck_okq (cuts := []) (f := 106) ⟨(fun _ h => nomatch h), ck_E0⟩ (by decide +kernel)
set_option maxRecDepth 100000 in
/-- GlacierMail$Rows.<init> -/
noncomputable def pc_s31 : ck_Sum := ((1, 1, 168), 64, [.inr (.inr (.inl 64)), .inl (ck_one 24), .inl (ck_one 7)], ([(64, 6, 0)], [], []), ([(64, 0, 1), (64, 3, 3)], [(64, 2)]), [(.inr none, 65, ([(65, 0, 168)], [(64, 2, 65)], [(64, 1, 1, ck_one 7), (64, 0, 0, ck_one 24), (64, 3, 3, ck_one 0), (65, 0, 167, ck_one 0)]))])
set_option maxRecDepth 100000 in
theorem pc_s31_s {X : Int → Int} {LX : Nat} : ck_Ok ck_O0 X LX 2 pc_s31 := ck_okq (cuts := []) (f := 106) ⟨(fun _ h => nomatch h), ck_E0⟩ (by decide +kernel)
set_option maxRecDepth 100000 in
/-- GlacierMail$Rows.<init> -/
noncomputable def pc_s32 : ck_Sum := ((1, 1, 36), 66, [.inr (.inr (.inl 66)), .inl (ck_one 6), .inl (ck_one 6)], ([(66, 6, 0)], [], []), ([(66, 0, 1), (66, 3, 3)], [(66, 2)]), [(.inr none, 67, ([(67, 0, 36)], [(66, 2, 67)], [(66, 1, 1, ck_one 6), (66, 0, 0, ck_one 6), (66, 3, 3, ck_one 0), (67, 0, 35, ck_one 0)]))])
set_option maxRecDepth 100000 in
theorem pc_s32_s {X : Int → Int} {LX : Nat} : ck_Ok ck_O0 X LX 2 pc_s32 := ck_okq (cuts := []) (f := 106) ⟨(fun _ h => nomatch h), ck_E0⟩ (by decide +kernel)
set_option maxRecDepth 100000 in
/-- GlacierMail$Rows.<init> -/
noncomputable def pc_s33 : ck_Sum := ((1, 1, 72), 68, [.inr (.inr (.inl 68)), .inl (ck_one 24), .inl (ck_one 3)], ([(68, 6, 0)], [], []), ([(68, 0, 1), (68, 3, 3)], [(68, 2)]), [(.inr none, 69, ([(69, 0, 72)], [(68, 2, 69)], [(68, 1, 1, ck_one 3), (68, 0, 0, ck_one 24), (68, 3, 3, ck_one 0), (69, 0, 71, ck_one 0)]))])
set_option maxRecDepth 100000 in
theorem pc_s33_s {X : Int → Int} {LX : Nat} : ck_Ok ck_O0 X LX 2 pc_s33 := ck_okq (cuts := []) (f := 106) ⟨(fun _ h => nomatch h), ck_E0⟩ (by decide +kernel)
set_option maxRecDepth 100000 in
/-- GlacierMail$State.<init> -/
noncomputable def pc_s34 : ck_Sum := ((2, 12, 404), 57, [.inr (.inr (.inl 57))], ([(57, 5, 0)], [], []), ([(57, 0, 7)], [(57, 8), (57, 9), (57, 10), (57, 11), (57, 12), (57, 13), (57, 14)]), [(.inr none, 69, ([(58, 6, 0), (59, 0, 56), (60, 6, 0), (61, 0, 24), (62, 6, 0), (63, 0, 24), (64, 6, 0), (65, 0, 168), (66, 6, 0), (67, 0, 36), (68, 6, 0), (69, 0, 72)], [(57, 8, 0), (57, 9, 58), (57, 10, 60), (57, 11, 62), (57, 12, 64), (57, 13, 66), (57, 14, 68), (58, 2, 59), (60, 2, 61), (62, 2, 63), (64, 2, 65), (66, 2, 67), (68, 2, 69)], [(68, 1, 1, ck_one 3), (68, 0, 0, ck_one 24), (68, 3, 3, ck_one 0), (68, 2, 2, ck_one 0), (66, 1, 1, ck_one 6), (66, 0, 0, ck_one 6), (66, 3, 3, ck_one 0), (66, 2, 2, ck_one 0), (64, 1, 1, ck_one 7), (64, 0, 0, ck_one 24), (64, 3, 3, ck_one 0), (64, 2, 2, ck_one 0), (62, 1, 1, ck_one 3), (62, 0, 0, ck_one 8), (62, 3, 3, ck_one 0), (62, 2, 2, ck_one 0), (60, 1, 1, ck_one 3), (60, 0, 0, ck_one 8), (60, 3, 3, ck_one 0), (60, 2, 2, ck_one 0), (58, 1, 1, ck_one 7), (58, 0, 0, ck_one 8), (58, 3, 3, ck_one 0), (58, 2, 2, ck_one 0), (57, 7, 7, ck_one 0), (57, 6, 6, ck_one 0), (57, 5, 5, ck_one 1), (57, 4, 4, ck_one 3), (57, 3, 3, ck_one 2), (57, 2, 2, ck_one 10), (57, 1, 1, ck_one 40), (57, 0, 0, ck_one 3), (63, 0, 23, ck_one 0), (61, 0, 23, ck_one 0), (67, 0, 35, ck_one 0), (59, 0, 55, ck_one 0), (69, 0, 71, ck_one 0), (65, 0, 167, ck_one 0)]))])
set_option maxRecDepth 100000 in
theorem pc_s34_s {X : Int → Int} {LX : Nat} : ck_Ok ck_O0 X LX 1 pc_s34 := ck_okq (cuts := []) (f := 214) ⟨(fun _ h => nomatch h), ck_E1 (ck_S1 pc_s28_s (ck_S1 pc_s29_s (ck_S1 pc_s30_s (ck_S1 pc_s31_s (ck_S1 pc_s32_s (ck_S1 pc_s33_s ck_S0)))))) ck_E0⟩ (by decide +kernel)
set_option maxRecDepth 100000 in
/-- GlacierMail$Rows.<init> -/
noncomputable def pc_s35 : ck_Sum := ((1, 1, 56), 71, [.inr (.inr (.inl 71)), .inl (ck_one 8), .inl (ck_one 7)], ([(71, 6, 0)], [], []), ([(71, 0, 1), (71, 3, 3)], [(71, 2)]), [(.inr none, 72, ([(72, 0, 56)], [(71, 2, 72)], [(71, 1, 1, ck_one 7), (71, 0, 0, ck_one 8), (71, 3, 3, ck_one 0), (72, 0, 55, ck_one 0)]))])
set_option maxRecDepth 100000 in
theorem pc_s35_s {X : Int → Int} {LX : Nat} : ck_Ok ck_O0 X LX 2 pc_s35 := ck_okq (cuts := []) (f := 106) ⟨(fun _ h => nomatch h), ck_E0⟩ (by decide +kernel)
set_option maxRecDepth 100000 in
/-- GlacierMail$Rows.<init> -/
noncomputable def pc_s36 : ck_Sum := ((1, 1, 24), 73, [.inr (.inr (.inl 73)), .inl (ck_one 8), .inl (ck_one 3)], ([(73, 6, 0)], [], []), ([(73, 0, 1), (73, 3, 3)], [(73, 2)]), [(.inr none, 74, ([(74, 0, 24)], [(73, 2, 74)], [(73, 1, 1, ck_one 3), (73, 0, 0, ck_one 8), (73, 3, 3, ck_one 0), (74, 0, 23, ck_one 0)]))])
set_option maxRecDepth 100000 in
theorem pc_s36_s {X : Int → Int} {LX : Nat} : ck_Ok ck_O0 X LX 2 pc_s36 := ck_okq (cuts := []) (f := 106) ⟨(fun _ h => nomatch h), ck_E0⟩ (by decide +kernel)
set_option maxRecDepth 100000 in
/-- GlacierMail$Rows.<init> -/
noncomputable def pc_s37 : ck_Sum := ((1, 1, 24), 75, [.inr (.inr (.inl 75)), .inl (ck_one 8), .inl (ck_one 3)], ([(75, 6, 0)], [], []), ([(75, 0, 1), (75, 3, 3)], [(75, 2)]), [(.inr none, 76, ([(76, 0, 24)], [(75, 2, 76)], [(75, 1, 1, ck_one 3), (75, 0, 0, ck_one 8), (75, 3, 3, ck_one 0), (76, 0, 23, ck_one 0)]))])
set_option maxRecDepth 100000 in
theorem pc_s37_s {X : Int → Int} {LX : Nat} : ck_Ok ck_O0 X LX 2 pc_s37 := ck_okq (cuts := []) (f := 106) ⟨(fun _ h => nomatch h), ck_E0⟩ (by decide +kernel)
set_option maxRecDepth 100000 in
/-- GlacierMail$Rows.<init> -/
noncomputable def pc_s38 : ck_Sum := ((1, 1, 168), 77, [.inr (.inr (.inl 77)), .inl (ck_one 24), .inl (ck_one 7)], ([(77, 6, 0)], [], []), ([(77, 0, 1), (77, 3, 3)], [(77, 2)]), [(.inr none, 78, ([(78, 0, 168)], [(77, 2, 78)], [(77, 1, 1, ck_one 7), (77, 0, 0, ck_one 24), (77, 3, 3, ck_one 0), (78, 0, 167, ck_one 0)]))])
set_option maxRecDepth 100000 in
theorem pc_s38_s {X : Int → Int} {LX : Nat} : ck_Ok ck_O0 X LX 2 pc_s38 := ck_okq (cuts := []) (f := 106) ⟨(fun _ h => nomatch h), ck_E0⟩ (by decide +kernel)
set_option maxRecDepth 100000 in
/-- GlacierMail$Rows.<init> -/
noncomputable def pc_s39 : ck_Sum := ((1, 1, 36), 79, [.inr (.inr (.inl 79)), .inl (ck_one 6), .inl (ck_one 6)], ([(79, 6, 0)], [], []), ([(79, 0, 1), (79, 3, 3)], [(79, 2)]), [(.inr none, 80, ([(80, 0, 36)], [(79, 2, 80)], [(79, 1, 1, ck_one 6), (79, 0, 0, ck_one 6), (79, 3, 3, ck_one 0), (80, 0, 35, ck_one 0)]))])
set_option maxRecDepth 100000 in
theorem pc_s39_s {X : Int → Int} {LX : Nat} : ck_Ok ck_O0 X LX 2 pc_s39 := ck_okq (cuts := []) (f := 106) ⟨(fun _ h => nomatch h), ck_E0⟩ (by decide +kernel)
set_option maxRecDepth 100000 in
/-- GlacierMail$Rows.<init> -/
noncomputable def pc_s40 : ck_Sum := ((1, 1, 72), 81, [.inr (.inr (.inl 81)), .inl (ck_one 24), .inl (ck_one 3)], ([(81, 6, 0)], [], []), ([(81, 0, 1), (81, 3, 3)], [(81, 2)]), [(.inr none, 82, ([(82, 0, 72)], [(81, 2, 82)], [(81, 1, 1, ck_one 3), (81, 0, 0, ck_one 24), (81, 3, 3, ck_one 0), (82, 0, 71, ck_one 0)]))])
set_option maxRecDepth 100000 in
theorem pc_s40_s {X : Int → Int} {LX : Nat} : ck_Ok ck_O0 X LX 2 pc_s40 := ck_okq (cuts := []) (f := 106) ⟨(fun _ h => nomatch h), ck_E0⟩ (by decide +kernel)
set_option maxRecDepth 100000 in
/-- GlacierMail$State.<init> -/
noncomputable def pc_s41 : ck_Sum := ((2, 12, 404), 70, [.inr (.inr (.inl 70))], ([(70, 5, 0)], [], []), ([(70, 0, 7)], [(70, 8), (70, 9), (70, 10), (70, 11), (70, 12), (70, 13), (70, 14)]), [(.inr none, 82, ([(71, 6, 0), (72, 0, 56), (73, 6, 0), (74, 0, 24), (75, 6, 0), (76, 0, 24), (77, 6, 0), (78, 0, 168), (79, 6, 0), (80, 0, 36), (81, 6, 0), (82, 0, 72)], [(70, 8, 0), (70, 9, 71), (70, 10, 73), (70, 11, 75), (70, 12, 77), (70, 13, 79), (70, 14, 81), (71, 2, 72), (73, 2, 74), (75, 2, 76), (77, 2, 78), (79, 2, 80), (81, 2, 82)], [(81, 1, 1, ck_one 3), (81, 0, 0, ck_one 24), (81, 3, 3, ck_one 0), (81, 2, 2, ck_one 0), (79, 1, 1, ck_one 6), (79, 0, 0, ck_one 6), (79, 3, 3, ck_one 0), (79, 2, 2, ck_one 0), (77, 1, 1, ck_one 7), (77, 0, 0, ck_one 24), (77, 3, 3, ck_one 0), (77, 2, 2, ck_one 0), (75, 1, 1, ck_one 3), (75, 0, 0, ck_one 8), (75, 3, 3, ck_one 0), (75, 2, 2, ck_one 0), (73, 1, 1, ck_one 3), (73, 0, 0, ck_one 8), (73, 3, 3, ck_one 0), (73, 2, 2, ck_one 0), (71, 1, 1, ck_one 7), (71, 0, 0, ck_one 8), (71, 3, 3, ck_one 0), (71, 2, 2, ck_one 0), (70, 7, 7, ck_one 0), (70, 6, 6, ck_one 0), (70, 5, 5, ck_one 1), (70, 4, 4, ck_one 3), (70, 3, 3, ck_one 2), (70, 2, 2, ck_one 10), (70, 1, 1, ck_one 40), (70, 0, 0, ck_one 3), (76, 0, 23, ck_one 0), (74, 0, 23, ck_one 0), (80, 0, 35, ck_one 0), (72, 0, 55, ck_one 0), (82, 0, 71, ck_one 0), (78, 0, 167, ck_one 0)]))])
set_option maxRecDepth 100000 in
theorem pc_s41_s {X : Int → Int} {LX : Nat} : ck_Ok ck_O0 X LX 1 pc_s41 := ck_okq (cuts := []) (f := 214) ⟨(fun _ h => nomatch h), ck_E1 (ck_S1 pc_s35_s (ck_S1 pc_s36_s (ck_S1 pc_s37_s (ck_S1 pc_s38_s (ck_S1 pc_s39_s (ck_S1 pc_s40_s ck_S0)))))) ck_E0⟩ (by decide +kernel)
set_option maxRecDepth 100000 in
/-- GlacierMail$Rows.<init> -/
noncomputable def pc_s42 : ck_Sum := ((1, 1, 56), 84, [.inr (.inr (.inl 84)), .inl (ck_one 8), .inl (ck_one 7)], ([(84, 6, 0)], [], []), ([(84, 0, 1), (84, 3, 3)], [(84, 2)]), [(.inr none, 85, ([(85, 0, 56)], [(84, 2, 85)], [(84, 1, 1, ck_one 7), (84, 0, 0, ck_one 8), (84, 3, 3, ck_one 0), (85, 0, 55, ck_one 0)]))])
set_option maxRecDepth 100000 in
theorem pc_s42_s {X : Int → Int} {LX : Nat} : ck_Ok ck_O0 X LX 2 pc_s42 := ck_okq (cuts := []) (f := 106) ⟨(fun _ h => nomatch h), ck_E0⟩ (by decide +kernel)
set_option maxRecDepth 100000 in
/-- GlacierMail$Rows.<init> -/
noncomputable def pc_s43 : ck_Sum := ((1, 1, 24), 86, [.inr (.inr (.inl 86)), .inl (ck_one 8), .inl (ck_one 3)], ([(86, 6, 0)], [], []), ([(86, 0, 1), (86, 3, 3)], [(86, 2)]), [(.inr none, 87, ([(87, 0, 24)], [(86, 2, 87)], [(86, 1, 1, ck_one 3), (86, 0, 0, ck_one 8), (86, 3, 3, ck_one 0), (87, 0, 23, ck_one 0)]))])
set_option maxRecDepth 100000 in
theorem pc_s43_s {X : Int → Int} {LX : Nat} : ck_Ok ck_O0 X LX 2 pc_s43 := ck_okq (cuts := []) (f := 106) ⟨(fun _ h => nomatch h), ck_E0⟩ (by decide +kernel)
set_option maxRecDepth 100000 in
/-- GlacierMail$Rows.<init> -/
noncomputable def pc_s44 : ck_Sum := ((1, 1, 24), 88, [.inr (.inr (.inl 88)), .inl (ck_one 8), .inl (ck_one 3)], ([(88, 6, 0)], [], []), ([(88, 0, 1), (88, 3, 3)], [(88, 2)]), [(.inr none, 89, ([(89, 0, 24)], [(88, 2, 89)], [(88, 1, 1, ck_one 3), (88, 0, 0, ck_one 8), (88, 3, 3, ck_one 0), (89, 0, 23, ck_one 0)]))])
set_option maxRecDepth 100000 in
theorem pc_s44_s {X : Int → Int} {LX : Nat} : ck_Ok ck_O0 X LX 2 pc_s44 := ck_okq (cuts := []) (f := 106) ⟨(fun _ h => nomatch h), ck_E0⟩ (by decide +kernel)
set_option maxRecDepth 100000 in
/-- GlacierMail$Rows.<init> -/
noncomputable def pc_s45 : ck_Sum := ((1, 1, 168), 90, [.inr (.inr (.inl 90)), .inl (ck_one 24), .inl (ck_one 7)], ([(90, 6, 0)], [], []), ([(90, 0, 1), (90, 3, 3)], [(90, 2)]), [(.inr none, 91, ([(91, 0, 168)], [(90, 2, 91)], [(90, 1, 1, ck_one 7), (90, 0, 0, ck_one 24), (90, 3, 3, ck_one 0), (91, 0, 167, ck_one 0)]))])
set_option maxRecDepth 100000 in
theorem pc_s45_s {X : Int → Int} {LX : Nat} : ck_Ok ck_O0 X LX 2 pc_s45 := ck_okq (cuts := []) (f := 106) ⟨(fun _ h => nomatch h), ck_E0⟩ (by decide +kernel)
set_option maxRecDepth 100000 in
/-- GlacierMail$Rows.<init> -/
noncomputable def pc_s46 : ck_Sum := ((1, 1, 36), 92, [.inr (.inr (.inl 92)), .inl (ck_one 6), .inl (ck_one 6)], ([(92, 6, 0)], [], []), ([(92, 0, 1), (92, 3, 3)], [(92, 2)]), [(.inr none, 93, ([(93, 0, 36)], [(92, 2, 93)], [(92, 1, 1, ck_one 6), (92, 0, 0, ck_one 6), (92, 3, 3, ck_one 0), (93, 0, 35, ck_one 0)]))])
set_option maxRecDepth 100000 in
theorem pc_s46_s {X : Int → Int} {LX : Nat} : ck_Ok ck_O0 X LX 2 pc_s46 := ck_okq (cuts := []) (f := 106) ⟨(fun _ h => nomatch h), ck_E0⟩ (by decide +kernel)
set_option maxRecDepth 100000 in
/-- GlacierMail$Rows.<init> -/
noncomputable def pc_s47 : ck_Sum := ((1, 1, 72), 94, [.inr (.inr (.inl 94)), .inl (ck_one 24), .inl (ck_one 3)], ([(94, 6, 0)], [], []), ([(94, 0, 1), (94, 3, 3)], [(94, 2)]), [(.inr none, 95, ([(95, 0, 72)], [(94, 2, 95)], [(94, 1, 1, ck_one 3), (94, 0, 0, ck_one 24), (94, 3, 3, ck_one 0), (95, 0, 71, ck_one 0)]))])
set_option maxRecDepth 100000 in
theorem pc_s47_s {X : Int → Int} {LX : Nat} : ck_Ok ck_O0 X LX 2 pc_s47 := ck_okq (cuts := []) (f := 106) ⟨(fun _ h => nomatch h), ck_E0⟩ (by decide +kernel)
set_option maxRecDepth 100000 in
/-- GlacierMail$State.<init> -/
noncomputable def pc_s48 : ck_Sum := ((2, 12, 404), 83, [.inr (.inr (.inl 83))], ([(83, 5, 0)], [], []), ([(83, 0, 7)], [(83, 8), (83, 9), (83, 10), (83, 11), (83, 12), (83, 13), (83, 14)]), [(.inr none, 95, ([(84, 6, 0), (85, 0, 56), (86, 6, 0), (87, 0, 24), (88, 6, 0), (89, 0, 24), (90, 6, 0), (91, 0, 168), (92, 6, 0), (93, 0, 36), (94, 6, 0), (95, 0, 72)], [(83, 8, 0), (83, 9, 84), (83, 10, 86), (83, 11, 88), (83, 12, 90), (83, 13, 92), (83, 14, 94), (84, 2, 85), (86, 2, 87), (88, 2, 89), (90, 2, 91), (92, 2, 93), (94, 2, 95)], [(94, 1, 1, ck_one 3), (94, 0, 0, ck_one 24), (94, 3, 3, ck_one 0), (94, 2, 2, ck_one 0), (92, 1, 1, ck_one 6), (92, 0, 0, ck_one 6), (92, 3, 3, ck_one 0), (92, 2, 2, ck_one 0), (90, 1, 1, ck_one 7), (90, 0, 0, ck_one 24), (90, 3, 3, ck_one 0), (90, 2, 2, ck_one 0), (88, 1, 1, ck_one 3), (88, 0, 0, ck_one 8), (88, 3, 3, ck_one 0), (88, 2, 2, ck_one 0), (86, 1, 1, ck_one 3), (86, 0, 0, ck_one 8), (86, 3, 3, ck_one 0), (86, 2, 2, ck_one 0), (84, 1, 1, ck_one 7), (84, 0, 0, ck_one 8), (84, 3, 3, ck_one 0), (84, 2, 2, ck_one 0), (83, 7, 7, ck_one 0), (83, 6, 6, ck_one 0), (83, 5, 5, ck_one 1), (83, 4, 4, ck_one 3), (83, 3, 3, ck_one 2), (83, 2, 2, ck_one 10), (83, 1, 1, ck_one 40), (83, 0, 0, ck_one 3), (89, 0, 23, ck_one 0), (87, 0, 23, ck_one 0), (93, 0, 35, ck_one 0), (85, 0, 55, ck_one 0), (95, 0, 71, ck_one 0), (91, 0, 167, ck_one 0)]))])
set_option maxRecDepth 100000 in
theorem pc_s48_s {X : Int → Int} {LX : Nat} : ck_Ok ck_O0 X LX 1 pc_s48 := ck_okq (cuts := []) (f := 214) ⟨(fun _ h => nomatch h), ck_E1 (ck_S1 pc_s42_s (ck_S1 pc_s43_s (ck_S1 pc_s44_s (ck_S1 pc_s45_s (ck_S1 pc_s46_s (ck_S1 pc_s47_s ck_S0)))))) ck_E0⟩ (by decide +kernel)
set_option maxRecDepth 100000 in
/-- GlacierMail$Rows.<init> -/
noncomputable def pc_s49 : ck_Sum := ((1, 1, 56), 97, [.inr (.inr (.inl 97)), .inl (ck_one 8), .inl (ck_one 7)], ([(97, 6, 0)], [], []), ([(97, 0, 1), (97, 3, 3)], [(97, 2)]), [(.inr none, 98, ([(98, 0, 56)], [(97, 2, 98)], [(97, 1, 1, ck_one 7), (97, 0, 0, ck_one 8), (97, 3, 3, ck_one 0), (98, 0, 55, ck_one 0)]))])
set_option maxRecDepth 100000 in
theorem pc_s49_s {X : Int → Int} {LX : Nat} : ck_Ok ck_O0 X LX 2 pc_s49 := ck_okq (cuts := []) (f := 106) ⟨(fun _ h => nomatch h), ck_E0⟩ (by decide +kernel)
set_option maxRecDepth 100000 in
/-- GlacierMail$Rows.<init> -/
noncomputable def pc_s50 : ck_Sum := ((1, 1, 24), 99, [.inr (.inr (.inl 99)), .inl (ck_one 8), .inl (ck_one 3)], ([(99, 6, 0)], [], []), ([(99, 0, 1), (99, 3, 3)], [(99, 2)]), [(.inr none, 100, ([(100, 0, 24)], [(99, 2, 100)], [(99, 1, 1, ck_one 3), (99, 0, 0, ck_one 8), (99, 3, 3, ck_one 0), (100, 0, 23, ck_one 0)]))])
set_option maxRecDepth 100000 in
theorem pc_s50_s {X : Int → Int} {LX : Nat} : ck_Ok ck_O0 X LX 2 pc_s50 := ck_okq (cuts := []) (f := 106) ⟨(fun _ h => nomatch h), ck_E0⟩ (by decide +kernel)
set_option maxRecDepth 100000 in
/-- GlacierMail$Rows.<init> -/
noncomputable def pc_s51 : ck_Sum := ((1, 1, 24), 101, [.inr (.inr (.inl 101)), .inl (ck_one 8), .inl (ck_one 3)], ([(101, 6, 0)], [], []), ([(101, 0, 1), (101, 3, 3)], [(101, 2)]), [(.inr none, 102, ([(102, 0, 24)], [(101, 2, 102)], [(101, 1, 1, ck_one 3), (101, 0, 0, ck_one 8), (101, 3, 3, ck_one 0), (102, 0, 23, ck_one 0)]))])
set_option maxRecDepth 100000 in
theorem pc_s51_s {X : Int → Int} {LX : Nat} : ck_Ok ck_O0 X LX 2 pc_s51 := ck_okq (cuts := []) (f := 106) ⟨(fun _ h => nomatch h), ck_E0⟩ (by decide +kernel)
set_option maxRecDepth 100000 in
/-- GlacierMail$Rows.<init> -/
noncomputable def pc_s52 : ck_Sum := ((1, 1, 168), 103, [.inr (.inr (.inl 103)), .inl (ck_one 24), .inl (ck_one 7)], ([(103, 6, 0)], [], []), ([(103, 0, 1), (103, 3, 3)], [(103, 2)]), [(.inr none, 104, ([(104, 0, 168)], [(103, 2, 104)], [(103, 1, 1, ck_one 7), (103, 0, 0, ck_one 24), (103, 3, 3, ck_one 0), (104, 0, 167, ck_one 0)]))])
set_option maxRecDepth 100000 in
theorem pc_s52_s {X : Int → Int} {LX : Nat} : ck_Ok ck_O0 X LX 2 pc_s52 := ck_okq (cuts := []) (f := 106) ⟨(fun _ h => nomatch h), ck_E0⟩ (by decide +kernel)
set_option maxRecDepth 100000 in
/-- GlacierMail$Rows.<init> -/
noncomputable def pc_s53 : ck_Sum := ((1, 1, 36), 105, [.inr (.inr (.inl 105)), .inl (ck_one 6), .inl (ck_one 6)], ([(105, 6, 0)], [], []), ([(105, 0, 1), (105, 3, 3)], [(105, 2)]), [(.inr none, 106, ([(106, 0, 36)], [(105, 2, 106)], [(105, 1, 1, ck_one 6), (105, 0, 0, ck_one 6), (105, 3, 3, ck_one 0), (106, 0, 35, ck_one 0)]))])
set_option maxRecDepth 100000 in
theorem pc_s53_s {X : Int → Int} {LX : Nat} : ck_Ok ck_O0 X LX 2 pc_s53 := ck_okq (cuts := []) (f := 106) ⟨(fun _ h => nomatch h), ck_E0⟩ (by decide +kernel)
set_option maxRecDepth 100000 in
/-- GlacierMail$Rows.<init> -/
noncomputable def pc_s54 : ck_Sum := ((1, 1, 72), 107, [.inr (.inr (.inl 107)), .inl (ck_one 24), .inl (ck_one 3)], ([(107, 6, 0)], [], []), ([(107, 0, 1), (107, 3, 3)], [(107, 2)]), [(.inr none, 108, ([(108, 0, 72)], [(107, 2, 108)], [(107, 1, 1, ck_one 3), (107, 0, 0, ck_one 24), (107, 3, 3, ck_one 0), (108, 0, 71, ck_one 0)]))])
set_option maxRecDepth 100000 in
theorem pc_s54_s {X : Int → Int} {LX : Nat} : ck_Ok ck_O0 X LX 2 pc_s54 := ck_okq (cuts := []) (f := 106) ⟨(fun _ h => nomatch h), ck_E0⟩ (by decide +kernel)
set_option maxRecDepth 100000 in
/-- GlacierMail$State.<init> -/
noncomputable def pc_s55 : ck_Sum := ((2, 12, 404), 96, [.inr (.inr (.inl 96))], ([(96, 5, 0)], [], []), ([(96, 0, 7)], [(96, 8), (96, 9), (96, 10), (96, 11), (96, 12), (96, 13), (96, 14)]), [(.inr none, 108, ([(97, 6, 0), (98, 0, 56), (99, 6, 0), (100, 0, 24), (101, 6, 0), (102, 0, 24), (103, 6, 0), (104, 0, 168), (105, 6, 0), (106, 0, 36), (107, 6, 0), (108, 0, 72)], [(96, 8, 0), (96, 9, 97), (96, 10, 99), (96, 11, 101), (96, 12, 103), (96, 13, 105), (96, 14, 107), (97, 2, 98), (99, 2, 100), (101, 2, 102), (103, 2, 104), (105, 2, 106), (107, 2, 108)], [(107, 1, 1, ck_one 3), (107, 0, 0, ck_one 24), (107, 3, 3, ck_one 0), (107, 2, 2, ck_one 0), (105, 1, 1, ck_one 6), (105, 0, 0, ck_one 6), (105, 3, 3, ck_one 0), (105, 2, 2, ck_one 0), (103, 1, 1, ck_one 7), (103, 0, 0, ck_one 24), (103, 3, 3, ck_one 0), (103, 2, 2, ck_one 0), (101, 1, 1, ck_one 3), (101, 0, 0, ck_one 8), (101, 3, 3, ck_one 0), (101, 2, 2, ck_one 0), (99, 1, 1, ck_one 3), (99, 0, 0, ck_one 8), (99, 3, 3, ck_one 0), (99, 2, 2, ck_one 0), (97, 1, 1, ck_one 7), (97, 0, 0, ck_one 8), (97, 3, 3, ck_one 0), (97, 2, 2, ck_one 0), (96, 7, 7, ck_one 0), (96, 6, 6, ck_one 0), (96, 5, 5, ck_one 1), (96, 4, 4, ck_one 3), (96, 3, 3, ck_one 2), (96, 2, 2, ck_one 10), (96, 1, 1, ck_one 40), (96, 0, 0, ck_one 3), (102, 0, 23, ck_one 0), (100, 0, 23, ck_one 0), (106, 0, 35, ck_one 0), (98, 0, 55, ck_one 0), (108, 0, 71, ck_one 0), (104, 0, 167, ck_one 0)]))])
set_option maxRecDepth 100000 in
theorem pc_s55_s {X : Int → Int} {LX : Nat} : ck_Ok ck_O0 X LX 1 pc_s55 := ck_okq (cuts := []) (f := 214) ⟨(fun _ h => nomatch h), ck_E1 (ck_S1 pc_s49_s (ck_S1 pc_s50_s (ck_S1 pc_s51_s (ck_S1 pc_s52_s (ck_S1 pc_s53_s (ck_S1 pc_s54_s ck_S0)))))) ck_E0⟩ (by decide +kernel)
set_option maxRecDepth 100000 in
/-- GlacierMail$Rows.<init> -/
noncomputable def pc_s56 : ck_Sum := ((1, 1, 56), 110, [.inr (.inr (.inl 110)), .inl (ck_one 8), .inl (ck_one 7)], ([(110, 6, 0)], [], []), ([(110, 0, 1), (110, 3, 3)], [(110, 2)]), [(.inr none, 111, ([(111, 0, 56)], [(110, 2, 111)], [(110, 1, 1, ck_one 7), (110, 0, 0, ck_one 8), (110, 3, 3, ck_one 0), (111, 0, 55, ck_one 0)]))])
set_option maxRecDepth 100000 in
theorem pc_s56_s {X : Int → Int} {LX : Nat} : ck_Ok ck_O0 X LX 2 pc_s56 := ck_okq (cuts := []) (f := 106) ⟨(fun _ h => nomatch h), ck_E0⟩ (by decide +kernel)
set_option maxRecDepth 100000 in
/-- GlacierMail$Rows.<init> -/
noncomputable def pc_s57 : ck_Sum := ((1, 1, 24), 112, [.inr (.inr (.inl 112)), .inl (ck_one 8), .inl (ck_one 3)], ([(112, 6, 0)], [], []), ([(112, 0, 1), (112, 3, 3)], [(112, 2)]), [(.inr none, 113, ([(113, 0, 24)], [(112, 2, 113)], [(112, 1, 1, ck_one 3), (112, 0, 0, ck_one 8), (112, 3, 3, ck_one 0), (113, 0, 23, ck_one 0)]))])
set_option maxRecDepth 100000 in
theorem pc_s57_s {X : Int → Int} {LX : Nat} : ck_Ok ck_O0 X LX 2 pc_s57 := ck_okq (cuts := []) (f := 106) ⟨(fun _ h => nomatch h), ck_E0⟩ (by decide +kernel)
set_option maxRecDepth 100000 in
/-- GlacierMail$Rows.<init> -/
noncomputable def pc_s58 : ck_Sum := ((1, 1, 24), 114, [.inr (.inr (.inl 114)), .inl (ck_one 8), .inl (ck_one 3)], ([(114, 6, 0)], [], []), ([(114, 0, 1), (114, 3, 3)], [(114, 2)]), [(.inr none, 115, ([(115, 0, 24)], [(114, 2, 115)], [(114, 1, 1, ck_one 3), (114, 0, 0, ck_one 8), (114, 3, 3, ck_one 0), (115, 0, 23, ck_one 0)]))])
set_option maxRecDepth 100000 in
theorem pc_s58_s {X : Int → Int} {LX : Nat} : ck_Ok ck_O0 X LX 2 pc_s58 := ck_okq (cuts := []) (f := 106) ⟨(fun _ h => nomatch h), ck_E0⟩ (by decide +kernel)
set_option maxRecDepth 100000 in
/-- GlacierMail$Rows.<init> -/
noncomputable def pc_s59 : ck_Sum := ((1, 1, 168), 116, [.inr (.inr (.inl 116)), .inl (ck_one 24), .inl (ck_one 7)], ([(116, 6, 0)], [], []), ([(116, 0, 1), (116, 3, 3)], [(116, 2)]), [(.inr none, 117, ([(117, 0, 168)], [(116, 2, 117)], [(116, 1, 1, ck_one 7), (116, 0, 0, ck_one 24), (116, 3, 3, ck_one 0), (117, 0, 167, ck_one 0)]))])
set_option maxRecDepth 100000 in
theorem pc_s59_s {X : Int → Int} {LX : Nat} : ck_Ok ck_O0 X LX 2 pc_s59 := ck_okq (cuts := []) (f := 106) ⟨(fun _ h => nomatch h), ck_E0⟩ (by decide +kernel)
