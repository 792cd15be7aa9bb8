/-! EVERY CALL OF THE CLASS ENDS, under a law (laid by wip/am/p2l.py). -/
set_option maxRecDepth 100000 in
/-- GlacierMail$Rows.put -/
def pl_s361 : ck_Sum := ((0, 0, 0), 249, [.inr (.inr (.inl 8)), .inl (0, 7, []), .inl (ck_one 2), .inl (ck_one (-1))], ([], [], []), (zl166, []), [(.inr none, 249, ([], [], []))])
set_option maxRecDepth 100000 in
theorem pl_s361_s {X : Int → Int} {LX : Nat} : ck_Ok p2_OL X LX 45 pl_s361 := ck_ok_s (O := p2_OL) (X := X) (LX := LX) (E := []) (mi := 45) (cuts := []) (f := 116) (S := pl_s361) (lx := none) (XF := []) ⟨pl_nmu, ck_E0⟩ ck_X0 ck_l0 (by decide +kernel)
set_option maxRecDepth 100000 in
/-- GlacierMail.need -/
def pl_s362 : ck_Sum := ((6, 1, 6), 249, [.inr (.inr (.inl 1)), .inl ((-2147483648), (-2), []), .inl (1, 6, [])], ([], [], []), ([], []), [(.inl 3, 249, ([], [], []))])
set_option maxRecDepth 100000 in
theorem pl_s362_s {X : Int → Int} {LX : Nat} : ck_Ok p2_OL X LX 133 pl_s362 := ck_ok_s (O := p2_OL) (X := X) (LX := LX) (E := []) (mi := 133) (cuts := []) (f := 76) (S := pl_s362) (lx := none) (XF := []) ⟨pl_nmu, ck_E0⟩ ck_X0 ck_l0 (by decide +kernel)
set_option maxRecDepth 100000 in
/-- GlacierMail.needLane -/
def pl_s363 : ck_Sum := ((7, 1, 6), 249, [.inr (.inr (.inl 1)), .inl ((-2147483648), (-2), [])], ([], [], []), ([], []), [(.inl 3, 249, ([], [], []))])
set_option maxRecDepth 100000 in
theorem pl_s363_s {X : Int → Int} {LX : Nat} : ck_Ok p2_OL X LX 132 pl_s363 := ck_ok_s (O := p2_OL) (X := X) (LX := LX) (E := [(133, [pl_s362])]) (mi := 132) (cuts := []) (f := 82) (S := pl_s363) (lx := none) (XF := []) ⟨pl_nmu, ck_E1 (ck_S1 pl_s362_s ck_S0) ck_E0⟩ ck_X0 ck_l0 (by decide +kernel)
set_option maxRecDepth 100000 in
/-- GlacierMail.watch -/
def pl_s364 : ck_Sum := ((8, 2, 12), 249, [.inr (.inr (.inl 1)), .inl (0, 7, []), .inl ((-2147483648), (-1), [])], ([], zl230, [(3, 6, 6, (0, 299, [(10, 0)]))]), (zl167, zl104), zl244)
set_option maxRecDepth 100000 in
theorem pl_s364_s {X : Int → Int} {LX : Nat} : ck_Ok p2_OL X LX 156 pl_s364 := ck_ok_s (O := p2_OL) (X := X) (LX := LX) (E := [(139, [pl_s197]), (154, [pl_s341]), (10, [pl_s224]), (45, [pl_s361]), (132, [pl_s363])]) (mi := 156) (cuts := []) (f := 124) (S := pl_s364) (lx := none) (XF := []) ⟨pl_nmu, ck_E1 (ck_S1 pl_s197_s ck_S0) (ck_E1 (ck_S1 pl_s341_s ck_S0) (ck_E1 (ck_S1 pl_s224_s ck_S0) (ck_E1 (ck_S1 pl_s361_s ck_S0) (ck_E1 (ck_S1 pl_s363_s ck_S0) ck_E0))))⟩ ck_X0 ck_l0 (by decide +kernel)
set_option maxRecDepth 100000 in
/-- GlacierMail.watch -/
def pl_s365 : ck_Sum := ((8, 2, 12), 249, [.inr (.inr (.inl 1)), .inl (0, 7, []), .inl (6, 2147483647, [])], ([], [], []), ([], []), [(.inl 3, 249, ([], [], []))])
set_option maxRecDepth 100000 in
theorem pl_s365_s {X : Int → Int} {LX : Nat} : ck_Ok p2_OL X LX 156 pl_s365 := ck_ok_s (O := p2_OL) (X := X) (LX := LX) (E := [(139, [pl_s197]), (132, [pl_s156])]) (mi := 156) (cuts := []) (f := 88) (S := pl_s365) (lx := none) (XF := []) ⟨pl_nmu, ck_E1 (ck_S1 pl_s197_s ck_S0) (ck_E1 (ck_S1 pl_s156_s ck_S0) ck_E0)⟩ ck_X0 ck_l0 (by decide +kernel)
set_option maxRecDepth 100000 in
/-- GlacierMail$Rows.put -/
def pl_s366 : ck_Sum := ((0, 0, 0), 249, [.inr (.inr (.inl 8)), .inl (0, 7, []), .inl (ck_one 2), .inl (0, 5, [])], ([], [], []), (zl166, []), [(.inr none, 249, ([], [], []))])
set_option maxRecDepth 100000 in
theorem pl_s366_s {X : Int → Int} {LX : Nat} : ck_Ok p2_OL X LX 45 pl_s366 := ck_ok_s (O := p2_OL) (X := X) (LX := LX) (E := []) (mi := 45) (cuts := []) (f := 116) (S := pl_s366) (lx := none) (XF := []) ⟨pl_nmu, ck_E0⟩ ck_X0 ck_l0 (by decide +kernel)
set_option maxRecDepth 100000 in
/-- GlacierMail.watch -/
def pl_s367 : ck_Sum := ((8, 2, 12), 249, [.inr (.inr (.inl 1)), .inl (0, 7, []), .inl (0, 5, [])], ([], zl230, [(3, 6, 6, (0, 299, [(10, 0)]))]), (zl167, zl104), zl244)
set_option maxRecDepth 100000 in
theorem pl_s367_s {X : Int → Int} {LX : Nat} : ck_Ok p2_OL X LX 156 pl_s367 := ck_ok_s (O := p2_OL) (X := X) (LX := LX) (E := [(139, [pl_s197]), (132, [pl_s159]), (154, [pl_s341]), (10, [pl_s224]), (45, [pl_s366])]) (mi := 156) (cuts := []) (f := 130) (S := pl_s367) (lx := none) (XF := []) ⟨pl_nmu, ck_E1 (ck_S1 pl_s197_s ck_S0) (ck_E1 (ck_S1 pl_s159_s ck_S0) (ck_E1 (ck_S1 pl_s341_s ck_S0) (ck_E1 (ck_S1 pl_s224_s ck_S0) (ck_E1 (ck_S1 pl_s366_s ck_S0) ck_E0))))⟩ ck_X0 ck_l0 (by decide +kernel)
set_option maxRecDepth 100000 in
/-- GlacierMail.open -/
def pl_s368 : ck_Sum := ((8, 1, 6), 249, [.inr (.inr (.inl 1)), .inl ((-2147483648), (-1), [])], ([], [], []), ([], []), [(.inl 3, 249, ([], [], []))])
set_option maxRecDepth 100000 in
theorem pl_s368_s {X : Int → Int} {LX : Nat} : ck_Ok p2_OL X LX 158 pl_s368 := ck_ok_s (O := p2_OL) (X := X) (LX := LX) (E := [(143, [pl_s227])]) (mi := 158) (cuts := []) (f := 76) (S := pl_s368) (lx := none) (XF := []) ⟨pl_nmu, ck_E1 (ck_S1 pl_s227_s ck_S0) ck_E0⟩ ck_X0 ck_l0 (by decide +kernel)
set_option maxRecDepth 100000 in
/-- GlacierMail.open -/
def pl_s369 : ck_Sum := ((8, 1, 6), 249, [.inr (.inr (.inl 1)), .inl (24, 2147483647, [])], ([], [], []), ([], []), [(.inl 3, 249, ([], [], []))])
set_option maxRecDepth 100000 in
theorem pl_s369_s {X : Int → Int} {LX : Nat} : ck_Ok p2_OL X LX 158 pl_s369 := ck_ok_s (O := p2_OL) (X := X) (LX := LX) (E := [(143, [pl_s230])]) (mi := 158) (cuts := []) (f := 76) (S := pl_s369) (lx := none) (XF := []) ⟨pl_nmu, ck_E1 (ck_S1 pl_s230_s ck_S0) ck_E0⟩ ck_X0 ck_l0 (by decide +kernel)
set_option maxRecDepth 100000 in
/-- GlacierMail.need -/
def pl_s370 : ck_Sum := ((6, 1, 6), 249, [.inr (.inr (.inl 1)), .inl (ck_one 0), .inl (0, 24, [])], ([], [], []), ([], []), [(.inr none, 249, ([], [], [])), (.inl 3, 249, ([], [], []))])
set_option maxRecDepth 100000 in
theorem pl_s370_s {X : Int → Int} {LX : Nat} : ck_Ok p2_OL X LX 133 pl_s370 := ck_ok_s (O := p2_OL) (X := X) (LX := LX) (E := []) (mi := 133) (cuts := []) (f := 82) (S := pl_s370) (lx := none) (XF := []) ⟨pl_nmu, ck_E0⟩ ck_X0 ck_l0 (by decide +kernel)
set_option maxRecDepth 100000 in
/-- GlacierMail.needLetter -/
def pl_s371 : ck_Sum := ((7, 1, 6), 249, [.inr (.inr (.inl 1)), .inl (ck_one 0)], ([], [], []), ([], []), [(.inl 3, 249, ([], [], [])), (.inr none, 249, ([], [], []))])
set_option maxRecDepth 100000 in
theorem pl_s371_s {X : Int → Int} {LX : Nat} : ck_Ok p2_OL X LX 143 pl_s371 := ck_ok_s (O := p2_OL) (X := X) (LX := LX) (E := [(9, [pl_s200]), (133, [pl_s370])]) (mi := 143) (cuts := []) (f := 86) (S := pl_s371) (lx := none) (XF := []) ⟨pl_nmu, ck_E1 (ck_S1 pl_s200_s ck_S0) (ck_E1 (ck_S1 pl_s370_s ck_S0) ck_E0)⟩ ck_X0 ck_l0 (by decide +kernel)
set_option maxRecDepth 100000 in
/-- GlacierMail$State.isRock -/
def pl_s372 : ck_Sum := ((1, 0, 0), 249, [.inr (.inr (.inl 3)), .inl (ck_one 0)], ([], [], []), ([], []), [(.inr (some (.inl (ck_one 0))), 249, ([], [], [])), (.inr (some (.inl (ck_one 1))), 249, ([], [], []))])
set_option maxRecDepth 100000 in
theorem pl_s372_s {X : Int → Int} {LX : Nat} : ck_Ok p2_OL X LX 28 pl_s372 := ck_ok_s (O := p2_OL) (X := X) (LX := LX) (E := [(10, [pl_s204])]) (mi := 28) (cuts := []) (f := 90) (S := pl_s372) (lx := none) (XF := []) ⟨pl_nmu, ck_E1 (ck_S1 pl_s204_s ck_S0) ck_E0⟩ ck_X0 ck_l0 (by decide +kernel)
set_option maxRecDepth 100000 in
/-- GlacierMail.waits -/
def pl_s373 : ck_Sum := ((2, 0, 0), 249, [.inr (.inr (.inl 1)), .inl (ck_one 0)], ([], [], [(3, 6, 6, (0, 299, [(10, 0)]))]), ([], []), [(.inr (some (.inl (ck_one 0))), 249, ([], [], [])), (.inr (some (.inl (ck_one 1))), 249, ([], [], []))])
set_option maxRecDepth 100000 in
theorem pl_s373_s {X : Int → Int} {LX : Nat} : ck_Ok p2_OL X LX 66 pl_s373 := ck_ok_s (O := p2_OL) (X := X) (LX := LX) (E := [(28, [pl_s372]), (10, [pl_s204, pl_s218]), (67, [pl_s219])]) (mi := 66) (cuts := []) (f := 134) (S := pl_s373) (lx := none) (XF := []) ⟨pl_nmu, ck_E1 (ck_S1 pl_s372_s ck_S0) (ck_E1 (ck_S1 pl_s204_s (ck_S1 pl_s218_s ck_S0)) (ck_E1 (ck_S1 pl_s219_s ck_S0) ck_E0))⟩ ck_X0 ck_l0 (by decide +kernel)
set_option maxRecDepth 100000 in
/-- GlacierMail$Rows.put -/
def pl_s374 : ck_Sum := ((0, 0, 0), 249, [.inr (.inr (.inl 10)), .inl (ck_one 0), .inl (ck_one 5), .inl ((-1), 299, [])], ([], [], []), ([(11, 5, 5)], []), [(.inr none, 249, ([], [], []))])
set_option maxRecDepth 100000 in
theorem pl_s374_s {X : Int → Int} {LX : Nat} : ck_Ok p2_OL X LX 45 pl_s374 := ck_ok_s (O := p2_OL) (X := X) (LX := LX) (E := []) (mi := 45) (cuts := []) (f := 116) (S := pl_s374) (lx := none) (XF := []) ⟨pl_nmu, ck_E0⟩ ck_X0 ck_l0 (by decide +kernel)
set_option maxRecDepth 100000 in
/-- GlacierMail$Rows.put -/
def pl_s375 : ck_Sum := ((0, 0, 0), 249, [.inr (.inr (.inl 10)), .inl (ck_one 0), .inl (ck_one 6), .inl (0, 299, [])], ([], [], []), ([(11, 6, 6)], []), [(.inr none, 249, ([], [], []))])
set_option maxRecDepth 100000 in
theorem pl_s375_s {X : Int → Int} {LX : Nat} : ck_Ok p2_OL X LX 45 pl_s375 := ck_ok_s (O := p2_OL) (X := X) (LX := LX) (E := []) (mi := 45) (cuts := []) (f := 116) (S := pl_s375) (lx := none) (XF := []) ⟨pl_nmu, ck_E0⟩ ck_X0 ck_l0 (by decide +kernel)
set_option maxRecDepth 100000 in
/-- GlacierMail$Rows.put -/
def pl_s376 : ck_Sum := ((0, 0, 0), 249, [.inr (.inr (.inl 14)), .inl (0, 23, []), .inl (ck_one 0), .inl (0, 299, [])], ([], [], []), (zl172, []), [(.inr none, 249, ([], [], []))])
set_option maxRecDepth 100000 in
theorem pl_s376_s {X : Int → Int} {LX : Nat} : ck_Ok p2_OL X LX 45 pl_s376 := ck_ok_s (O := p2_OL) (X := X) (LX := LX) (E := []) (mi := 45) (cuts := []) (f := 116) (S := pl_s376) (lx := none) (XF := []) ⟨pl_nmu, ck_E0⟩ ck_X0 ck_l0 (by decide +kernel)
set_option maxRecDepth 100000 in
/-- GlacierMail$Rows.put -/
def pl_s377 : ck_Sum := ((0, 0, 0), 249, [.inr (.inr (.inl 14)), .inl (0, 23, []), .inl (ck_one 1), .inl (ck_one 0)], ([], [], []), (zl173, []), [(.inr none, 249, ([], [], []))])
set_option maxRecDepth 100000 in
theorem pl_s377_s {X : Int → Int} {LX : Nat} : ck_Ok p2_OL X LX 45 pl_s377 := ck_ok_s (O := p2_OL) (X := X) (LX := LX) (E := []) (mi := 45) (cuts := []) (f := 116) (S := pl_s377) (lx := none) (XF := []) ⟨pl_nmu, ck_E0⟩ ck_X0 ck_l0 (by decide +kernel)
set_option maxRecDepth 100000 in
/-- GlacierMail$Rows.put -/
def pl_s378 : ck_Sum := ((0, 0, 0), 249, [.inr (.inr (.inl 14)), .inl (0, 23, []), .inl (ck_one 2), .inl ((-1), 299, [])], ([], [], []), (zl174, []), [(.inr none, 249, ([], [], []))])
set_option maxRecDepth 100000 in
theorem pl_s378_s {X : Int → Int} {LX : Nat} : ck_Ok p2_OL X LX 45 pl_s378 := ck_ok_s (O := p2_OL) (X := X) (LX := LX) (E := []) (mi := 45) (cuts := []) (f := 116) (S := pl_s378) (lx := none) (XF := []) ⟨pl_nmu, ck_E0⟩ ck_X0 ck_l0 (by decide +kernel)
set_option maxRecDepth 100000 in
/-- GlacierMail$Rows.put -/
def pl_s379 : ck_Sum := ((0, 0, 0), 249, [.inr (.inr (.inl 14)), .inl (ck_one (-1)), .inl (ck_one 0), .inl (0, 299, [])], ([], [], []), ([], []), [(.inr none, 249, ([], [], []))])
set_option maxRecDepth 100000 in
theorem pl_s379_s {X : Int → Int} {LX : Nat} : ck_Ok p2_OL X LX 45 pl_s379 := ck_ok_s (O := p2_OL) (X := X) (LX := LX) (E := []) (mi := 45) (cuts := []) (f := 76) (S := pl_s379) (lx := none) (XF := []) ⟨pl_nmu, ck_E0⟩ ck_X0 ck_l0 (by decide +kernel)
set_option maxRecDepth 100000 in
/-- GlacierMail$Rows.put -/
def pl_s380 : ck_Sum := ((0, 0, 0), 249, [.inr (.inr (.inl 14)), .inl (ck_one (-1)), .inl (ck_one 1), .inl (ck_one 0)], ([], [], []), ([], []), [(.inr none, 249, ([], [], []))])
set_option maxRecDepth 100000 in
theorem pl_s380_s {X : Int → Int} {LX : Nat} : ck_Ok p2_OL X LX 45 pl_s380 := ck_ok_s (O := p2_OL) (X := X) (LX := LX) (E := []) (mi := 45) (cuts := []) (f := 76) (S := pl_s380) (lx := none) (XF := []) ⟨pl_nmu, ck_E0⟩ ck_X0 ck_l0 (by decide +kernel)
set_option maxRecDepth 100000 in
/-- GlacierMail$Rows.put -/
def pl_s381 : ck_Sum := ((0, 0, 0), 249, [.inr (.inr (.inl 14)), .inl (ck_one (-1)), .inl (ck_one 2), .inl ((-1), 299, [])], ([], [], []), ([], []), [(.inr none, 249, ([], [], []))])
set_option maxRecDepth 100000 in
theorem pl_s381_s {X : Int → Int} {LX : Nat} : ck_Ok p2_OL X LX 45 pl_s381 := ck_ok_s (O := p2_OL) (X := X) (LX := LX) (E := []) (mi := 45) (cuts := []) (f := 76) (S := pl_s381) (lx := none) (XF := []) ⟨pl_nmu, ck_E0⟩ ck_X0 ck_l0 (by decide +kernel)
set_option maxRecDepth 100000 in
/-- GlacierMail$Rows.add -/
def pl_s382 : ck_Sum := ((0, 0, 0), 249, [.inr (.inr (.inl 14))], ([], [], []), ([(14, 3, 3)], []), [(.inr (some (.inl (0, 23, []))), 249, ([], [], [(14, 3, 3, (1, 24, []))])), (.inr (some (.inl (ck_one (-1)))), 249, ([], [], [(14, 3, 3, ck_one 24)]))])
set_option maxRecDepth 100000 in
theorem pl_s382_s {X : Int → Int} {LX : Nat} : ck_Ok p2_OL X LX 102 pl_s382 := ck_ok_s (O := p2_OL) (X := X) (LX := LX) (E := []) (mi := 102) (cuts := []) (f := 102) (S := pl_s382) (lx := none) (XF := []) ⟨pl_nmu, ck_E0⟩ ck_X0 ck_l0 (by decide +kernel)
set_option maxRecDepth 100000 in
/-- GlacierMail$State.openLetter -/
def pl_s383 : ck_Sum := ((1, 0, 0), 249, [.inr (.inr (.inl 3)), .inl (ck_one 0), .inl ((-1), 299, [])], ([], [], [(3, 6, 6, (0, 299, [(10, 0)]))]), ([(11, 5, 6), (14, 3, 3), (15, 0, 71)], []), [(.inr none, 249, ([], [], [(14, 3, 3, (1, 24, []))]))])
set_option maxRecDepth 100000 in
theorem pl_s383_s {X : Int → Int} {LX : Nat} : ck_Ok p2_OL X LX 159 pl_s383 := ck_ok_s (O := p2_OL) (X := X) (LX := LX) (E := [(45, [pl_s374, pl_s375, pl_s376, pl_s377, pl_s378, pl_s379, pl_s380, pl_s381]), (102, [pl_s382])]) (mi := 159) (cuts := []) (f := 144) (S := pl_s383) (lx := none) (XF := []) ⟨pl_nmu, ck_E1 (ck_S1 pl_s374_s (ck_S1 pl_s375_s (ck_S1 pl_s376_s (ck_S1 pl_s377_s (ck_S1 pl_s378_s (ck_S1 pl_s379_s (ck_S1 pl_s380_s (ck_S1 pl_s381_s ck_S0)))))))) (ck_E1 (ck_S1 pl_s382_s ck_S0) ck_E0)⟩ ck_X0 ck_l0 (by decide +kernel)
set_option maxRecDepth 100000 in
/-- GlacierMail.open -/
def pl_s384 : ck_Sum := ((8, 2, 12), 249, [.inr (.inr (.inl 1)), .inl (ck_one 0)], ([], zl230, [(3, 6, 6, (0, 299, [(10, 0)]))]), ([(1, 15, 15), (11, 5, 6), (14, 3, 3), (15, 0, 71), (42, 1, 2), (44, 0, 7), (45, 3, 3), (46, 0, 55), (47, 3, 3), (48, 0, 23), (49, 3, 3), (50, 0, 23), (51, 3, 3), (52, 0, 167), (53, 3, 3), (54, 0, 35), (55, 3, 3), (56, 0, 71), (57, 0, 7), (58, 3, 3), (59, 0, 55), (60, 3, 3), (61, 0, 23), (62, 3, 3), (63, 0, 23), (64, 3, 3), (65, 0, 167), (66, 3, 3), (67, 0, 35), (68, 3, 3), (69, 0, 71), (70, 0, 7), (71, 3, 3), (72, 0, 55), (73, 3, 3), (74, 0, 23), (75, 3, 3), (76, 0, 23), (77, 3, 3), (78, 0, 167), (79, 3, 3), (80, 0, 35), (81, 3, 3), (82, 0, 71), (83, 0, 7), (84, 3, 3), (85, 0, 55), (86, 3, 3), (87, 0, 23), (88, 3, 3), (89, 0, 23), (90, 3, 3), (91, 0, 167), (92, 3, 3), (93, 0, 35), (94, 3, 3), (95, 0, 71), (96, 0, 7), (97, 3, 3), (98, 0, 55), (99, 3, 3), (100, 0, 23), (101, 3, 3), (102, 0, 23), (103, 3, 3), (104, 0, 167), (105, 3, 3), (106, 0, 35), (107, 3, 3), (108, 0, 71), (109, 0, 7), (110, 3, 3), (111, 0, 55), (112, 3, 3), (113, 0, 23), (114, 3, 3), (115, 0, 23), (116, 3, 3), (117, 0, 167), (118, 3, 3), (119, 0, 35), (120, 3, 3), (121, 0, 71), (122, 0, 7), (123, 3, 3), (124, 0, 55), (125, 3, 3), (126, 0, 23), (127, 3, 3), (128, 0, 23), (129, 3, 3), (130, 0, 167), (131, 3, 3), (132, 0, 35), (133, 3, 3), (134, 0, 71), (135, 0, 7), (136, 3, 3), (137, 0, 55), (138, 3, 3), (139, 0, 23), (140, 3, 3), (141, 0, 23), (142, 3, 3), (143, 0, 167), (144, 3, 3), (145, 0, 35), (146, 3, 3), (147, 0, 71), (148, 0, 7), (149, 3, 3), (150, 0, 55), (151, 3, 3), (152, 0, 23), (153, 3, 3), (154, 0, 23), (155, 3, 3), (156, 0, 167), (157, 3, 3), (158, 0, 35), (159, 3, 3), (160, 0, 71), (161, 0, 7), (162, 3, 3), (163, 0, 55), (164, 3, 3), (165, 0, 23), (166, 3, 3), (167, 0, 23), (168, 3, 3), (169, 0, 167), (170, 3, 3), (171, 0, 35), (172, 3, 3), (173, 0, 71), (174, 0, 7), (175, 3, 3), (176, 0, 55), (177, 3, 3), (178, 0, 23), (179, 3, 3), (180, 0, 23), (181, 3, 3), (182, 0, 167), (183, 3, 3), (184, 0, 35), (185, 3, 3), (186, 0, 71), (187, 0, 7), (188, 3, 3), (189, 0, 55), (190, 3, 3), (191, 0, 23), (192, 3, 3), (193, 0, 23), (194, 3, 3), (195, 0, 167), (196, 3, 3), (197, 0, 35), (198, 3, 3), (199, 0, 71), (200, 6, 6), (204, 0, 9), (205, 0, 14849), (206, 2, 8), (220, 3, 3), (221, 0, 47)], zl104), zl245)
set_option maxRecDepth 100000 in
theorem pl_s384_s {X : Int → Int} {LX : Nat} : ck_Ok p2_OL X LX 158 pl_s384 := ck_ok_s (O := p2_OL) (X := X) (LX := LX) (E := [(143, [pl_s371]), (24, [pl_s217]), (66, [pl_s373]), (154, [pl_s341]), (10, [pl_s204]), (159, [pl_s383])]) (mi := 158) (cuts := []) (f := 140) (S := pl_s384) (lx := none) (XF := []) ⟨pl_nmu, ck_E1 (ck_S1 pl_s371_s ck_S0) (ck_E1 (ck_S1 pl_s217_s ck_S0) (ck_E1 (ck_S1 pl_s373_s ck_S0) (ck_E1 (ck_S1 pl_s341_s ck_S0) (ck_E1 (ck_S1 pl_s204_s ck_S0) (ck_E1 (ck_S1 pl_s383_s ck_S0) ck_E0)))))⟩ ck_X0 ck_l0 (by decide +kernel)
set_option maxRecDepth 100000 in
/-- GlacierMail.need -/
def pl_s385 : ck_Sum := ((6, 1, 6), 249, [.inr (.inr (.inl 1)), .inl (ck_one 1), .inl (0, 24, [])], ([], [], []), ([], []), [(.inr none, 249, ([], [], [])), (.inl 3, 249, ([], [], []))])
set_option maxRecDepth 100000 in
theorem pl_s385_s {X : Int → Int} {LX : Nat} : ck_Ok p2_OL X LX 133 pl_s385 := ck_ok_s (O := p2_OL) (X := X) (LX := LX) (E := []) (mi := 133) (cuts := []) (f := 82) (S := pl_s385) (lx := none) (XF := []) ⟨pl_nmu, ck_E0⟩ ck_X0 ck_l0 (by decide +kernel)
set_option maxRecDepth 100000 in
/-- GlacierMail.needLetter -/
def pl_s386 : ck_Sum := ((7, 1, 6), 249, [.inr (.inr (.inl 1)), .inl (ck_one 1)], ([], [], []), ([], []), [(.inl 3, 249, ([], [], [])), (.inr none, 249, ([], [], []))])
set_option maxRecDepth 100000 in
theorem pl_s386_s {X : Int → Int} {LX : Nat} : ck_Ok p2_OL X LX 143 pl_s386 := ck_ok_s (O := p2_OL) (X := X) (LX := LX) (E := [(9, [pl_s200]), (133, [pl_s385])]) (mi := 143) (cuts := []) (f := 86) (S := pl_s386) (lx := none) (XF := []) ⟨pl_nmu, ck_E1 (ck_S1 pl_s200_s ck_S0) (ck_E1 (ck_S1 pl_s385_s ck_S0) ck_E0)⟩ ck_X0 ck_l0 (by decide +kernel)
set_option maxRecDepth 100000 in
/-- GlacierMail$State.isRock -/
def pl_s387 : ck_Sum := ((1, 0, 0), 249, [.inr (.inr (.inl 3)), .inl (ck_one 1)], ([], [], []), ([], []), [(.inr (some (.inl (ck_one 0))), 249, ([], [], [])), (.inr (some (.inl (ck_one 1))), 249, ([], [], []))])
set_option maxRecDepth 100000 in
theorem pl_s387_s {X : Int → Int} {LX : Nat} : ck_Ok p2_OL X LX 28 pl_s387 := ck_ok_s (O := p2_OL) (X := X) (LX := LX) (E := [(10, [pl_s204])]) (mi := 28) (cuts := []) (f := 90) (S := pl_s387) (lx := none) (XF := []) ⟨pl_nmu, ck_E1 (ck_S1 pl_s204_s ck_S0) ck_E0⟩ ck_X0 ck_l0 (by decide +kernel)
set_option maxRecDepth 100000 in
/-- GlacierMail.waits -/
def pl_s388 : ck_Sum := ((2, 0, 0), 249, [.inr (.inr (.inl 1)), .inl (ck_one 1)], ([], [], [(3, 6, 6, (0, 299, [(10, 0)]))]), ([], []), [(.inr (some (.inl (ck_one 0))), 249, ([], [], [])), (.inr (some (.inl (ck_one 1))), 249, ([], [], []))])
set_option maxRecDepth 100000 in
theorem pl_s388_s {X : Int → Int} {LX : Nat} : ck_Ok p2_OL X LX 66 pl_s388 := ck_ok_s (O := p2_OL) (X := X) (LX := LX) (E := [(28, [pl_s387]), (10, [pl_s204, pl_s218]), (67, [pl_s219])]) (mi := 66) (cuts := []) (f := 134) (S := pl_s388) (lx := none) (XF := []) ⟨pl_nmu, ck_E1 (ck_S1 pl_s387_s ck_S0) (ck_E1 (ck_S1 pl_s204_s (ck_S1 pl_s218_s ck_S0)) (ck_E1 (ck_S1 pl_s219_s ck_S0) ck_E0))⟩ ck_X0 ck_l0 (by decide +kernel)
set_option maxRecDepth 100000 in
/-- GlacierMail$Rows.put -/
def pl_s389 : ck_Sum := ((0, 0, 0), 249, [.inr (.inr (.inl 10)), .inl (ck_one 1), .inl (ck_one 5), .inl ((-1), 299, [])], ([], [], []), ([(11, 12, 12)], []), [(.inr none, 249, ([], [], []))])
set_option maxRecDepth 100000 in
theorem pl_s389_s {X : Int → Int} {LX : Nat} : ck_Ok p2_OL X LX 45 pl_s389 := ck_ok_s (O := p2_OL) (X := X) (LX := LX) (E := []) (mi := 45) (cuts := []) (f := 116) (S := pl_s389) (lx := none) (XF := []) ⟨pl_nmu, ck_E0⟩ ck_X0 ck_l0 (by decide +kernel)
set_option maxRecDepth 100000 in
/-- GlacierMail$Rows.put -/
def pl_s390 : ck_Sum := ((0, 0, 0), 249, [.inr (.inr (.inl 10)), .inl (ck_one 1), .inl (ck_one 6), .inl (0, 299, [])], ([], [], []), ([(11, 13, 13)], []), [(.inr none, 249, ([], [], []))])
set_option maxRecDepth 100000 in
theorem pl_s390_s {X : Int → Int} {LX : Nat} : ck_Ok p2_OL X LX 45 pl_s390 := ck_ok_s (O := p2_OL) (X := X) (LX := LX) (E := []) (mi := 45) (cuts := []) (f := 116) (S := pl_s390) (lx := none) (XF := []) ⟨pl_nmu, ck_E0⟩ ck_X0 ck_l0 (by decide +kernel)
set_option maxRecDepth 100000 in
/-- GlacierMail$Rows.put -/
def pl_s391 : ck_Sum := ((0, 0, 0), 249, [.inr (.inr (.inl 14)), .inl (0, 23, []), .inl (ck_one 1), .inl (ck_one 1)], ([], [], []), (zl173, []), [(.inr none, 249, ([], [], []))])
set_option maxRecDepth 100000 in
theorem pl_s391_s {X : Int → Int} {LX : Nat} : ck_Ok p2_OL X LX 45 pl_s391 := ck_ok_s (O := p2_OL) (X := X) (LX := LX) (E := []) (mi := 45) (cuts := []) (f := 116) (S := pl_s391) (lx := none) (XF := []) ⟨pl_nmu, ck_E0⟩ ck_X0 ck_l0 (by decide +kernel)
set_option maxRecDepth 100000 in
/-- GlacierMail$Rows.put -/
def pl_s392 : ck_Sum := ((0, 0, 0), 249, [.inr (.inr (.inl 14)), .inl (ck_one (-1)), .inl (ck_one 1), .inl (ck_one 1)], ([], [], []), ([], []), [(.inr none, 249, ([], [], []))])
set_option maxRecDepth 100000 in
theorem pl_s392_s {X : Int → Int} {LX : Nat} : ck_Ok p2_OL X LX 45 pl_s392 := ck_ok_s (O := p2_OL) (X := X) (LX := LX) (E := []) (mi := 45) (cuts := []) (f := 76) (S := pl_s392) (lx := none) (XF := []) ⟨pl_nmu, ck_E0⟩ ck_X0 ck_l0 (by decide +kernel)
set_option maxRecDepth 100000 in
/-- GlacierMail$State.openLetter -/
def pl_s393 : ck_Sum := ((1, 0, 0), 249, [.inr (.inr (.inl 3)), .inl (ck_one 1), .inl ((-1), 299, [])], ([], [], [(3, 6, 6, (0, 299, [(10, 0)]))]), ([(11, 12, 13), (14, 3, 3), (15, 0, 71)], []), [(.inr none, 249, ([], [], [(14, 3, 3, (1, 24, []))]))])
set_option maxRecDepth 100000 in
theorem pl_s393_s {X : Int → Int} {LX : Nat} : ck_Ok p2_OL X LX 159 pl_s393 := ck_ok_s (O := p2_OL) (X := X) (LX := LX) (E := [(45, [pl_s389, pl_s390, pl_s376, pl_s391, pl_s378, pl_s379, pl_s392, pl_s381]), (102, [pl_s382])]) (mi := 159) (cuts := []) (f := 144) (S := pl_s393) (lx := none) (XF := []) ⟨pl_nmu, ck_E1 (ck_S1 pl_s389_s (ck_S1 pl_s390_s (ck_S1 pl_s376_s (ck_S1 pl_s391_s (ck_S1 pl_s378_s (ck_S1 pl_s379_s (ck_S1 pl_s392_s (ck_S1 pl_s381_s ck_S0)))))))) (ck_E1 (ck_S1 pl_s382_s ck_S0) ck_E0)⟩ ck_X0 ck_l0 (by decide +kernel)
set_option maxRecDepth 100000 in
/-- GlacierMail.open -/
def pl_s394 : ck_Sum := ((8, 2, 12), 249, [.inr (.inr (.inl 1)), .inl (ck_one 1)], ([], zl230, [(3, 6, 6, (0, 299, [(10, 0)]))]), ([(1, 15, 15), (11, 12, 13), (14, 3, 3), (15, 0, 71), (42, 1, 2), (44, 0, 7), (45, 3, 3), (46, 0, 55), (47, 3, 3), (48, 0, 23), (49, 3, 3), (50, 0, 23), (51, 3, 3), (52, 0, 167), (53, 3, 3), (54, 0, 35), (55, 3, 3), (56, 0, 71), (57, 0, 7), (58, 3, 3), (59, 0, 55), (60, 3, 3), (61, 0, 23), (62, 3, 3), (63, 0, 23), (64, 3, 3), (65, 0, 167), (66, 3, 3), (67, 0, 35), (68, 3, 3), (69, 0, 71), (70, 0, 7), (71, 3, 3), (72, 0, 55), (73, 3, 3), (74, 0, 23), (75, 3, 3), (76, 0, 23), (77, 3, 3), (78, 0, 167), (79, 3, 3), (80, 0, 35), (81, 3, 3), (82, 0, 71), (83, 0, 7), (84, 3, 3), (85, 0, 55), (86, 3, 3), (87, 0, 23), (88, 3, 3), (89, 0, 23), (90, 3, 3), (91, 0, 167), (92, 3, 3), (93, 0, 35), (94, 3, 3), (95, 0, 71), (96, 0, 7), (97, 3, 3), (98, 0, 55), (99, 3, 3), (100, 0, 23), (101, 3, 3), (102, 0, 23), (103, 3, 3), (104, 0, 167), (105, 3, 3), (106, 0, 35), (107, 3, 3), (108, 0, 71), (109, 0, 7), (110, 3, 3), (111, 0, 55), (112, 3, 3), (113, 0, 23), (114, 3, 3), (115, 0, 23), (116, 3, 3), (117, 0, 167), (118, 3, 3), (119, 0, 35), (120, 3, 3), (121, 0, 71), (122, 0, 7), (123, 3, 3), (124, 0, 55), (125, 3, 3), (126, 0, 23), (127, 3, 3), (128, 0, 23), (129, 3, 3), (130, 0, 167), (131, 3, 3), (132, 0, 35), (133, 3, 3), (134, 0, 71), (135, 0, 7), (136, 3, 3), (137, 0, 55), (138, 3, 3), (139, 0, 23), (140, 3, 3), (141, 0, 23), (142, 3, 3), (143, 0, 167), (144, 3, 3), (145, 0, 35), (146, 3, 3), (147, 0, 71), (148, 0, 7), (149, 3, 3), (150, 0, 55), (151, 3, 3), (152, 0, 23), (153, 3, 3), (154, 0, 23), (155, 3, 3), (156, 0, 167), (157, 3, 3), (158, 0, 35), (159, 3, 3), (160, 0, 71), (161, 0, 7), (162, 3, 3), (163, 0, 55), (164, 3, 3), (165, 0, 23), (166, 3, 3), (167, 0, 23), (168, 3, 3), (169, 0, 167), (170, 3, 3), (171, 0, 35), (172, 3, 3), (173, 0, 71), (174, 0, 7), (175, 3, 3), (176, 0, 55), (177, 3, 3), (178, 0, 23), (179, 3, 3), (180, 0, 23), (181, 3, 3), (182, 0, 167), (183, 3, 3), (184, 0, 35), (185, 3, 3), (186, 0, 71), (187, 0, 7), (188, 3, 3), (189, 0, 55), (190, 3, 3), (191, 0, 23), (192, 3, 3), (193, 0, 23), (194, 3, 3), (195, 0, 167), (196, 3, 3), (197, 0, 35), (198, 3, 3), (199, 0, 71), (200, 6, 6), (204, 0, 9), (205, 0, 14849), (206, 2, 8), (220, 3, 3), (221, 0, 47)], zl104), zl245)
set_option maxRecDepth 100000 in
theorem pl_s394_s {X : Int → Int} {LX : Nat} : ck_Ok p2_OL X LX 158 pl_s394 := ck_ok_s (O := p2_OL) (X := X) (LX := LX) (E := [(143, [pl_s386]), (24, [pl_s217]), (66, [pl_s388]), (154, [pl_s341]), (10, [pl_s204]), (159, [pl_s393])]) (mi := 158) (cuts := []) (f := 140) (S := pl_s394) (lx := none) (XF := []) ⟨pl_nmu, ck_E1 (ck_S1 pl_s386_s ck_S0) (ck_E1 (ck_S1 pl_s217_s ck_S0) (ck_E1 (ck_S1 pl_s388_s ck_S0) (ck_E1 (ck_S1 pl_s341_s ck_S0) (ck_E1 (ck_S1 pl_s204_s ck_S0) (ck_E1 (ck_S1 pl_s393_s ck_S0) ck_E0)))))⟩ ck_X0 ck_l0 (by decide +kernel)
set_option maxRecDepth 100000 in
/-- GlacierMail.need -/
def pl_s395 : ck_Sum := ((6, 1, 6), 249, [.inr (.inr (.inl 1)), .inl (ck_one 2), .inl (0, 24, [])], ([], [], []), ([], []), [(.inr none, 249, ([], [], [])), (.inl 3, 249, ([], [], []))])
set_option maxRecDepth 100000 in
theorem pl_s395_s {X : Int → Int} {LX : Nat} : ck_Ok p2_OL X LX 133 pl_s395 := ck_ok_s (O := p2_OL) (X := X) (LX := LX) (E := []) (mi := 133) (cuts := []) (f := 82) (S := pl_s395) (lx := none) (XF := []) ⟨pl_nmu, ck_E0⟩ ck_X0 ck_l0 (by decide +kernel)
set_option maxRecDepth 100000 in
/-- GlacierMail.needLetter -/
def pl_s396 : ck_Sum := ((7, 1, 6), 249, [.inr (.inr (.inl 1)), .inl (ck_one 2)], ([], [], []), ([], []), [(.inl 3, 249, ([], [], [])), (.inr none, 249, ([], [], []))])
set_option maxRecDepth 100000 in
theorem pl_s396_s {X : Int → Int} {LX : Nat} : ck_Ok p2_OL X LX 143 pl_s396 := ck_ok_s (O := p2_OL) (X := X) (LX := LX) (E := [(9, [pl_s200]), (133, [pl_s395])]) (mi := 143) (cuts := []) (f := 86) (S := pl_s396) (lx := none) (XF := []) ⟨pl_nmu, ck_E1 (ck_S1 pl_s200_s ck_S0) (ck_E1 (ck_S1 pl_s395_s ck_S0) ck_E0)⟩ ck_X0 ck_l0 (by decide +kernel)
set_option maxRecDepth 100000 in
/-- GlacierMail$State.isRock -/
def pl_s397 : ck_Sum := ((1, 0, 0), 249, [.inr (.inr (.inl 3)), .inl (ck_one 2)], ([], [], []), ([], []), [(.inr (some (.inl (ck_one 0))), 249, ([], [], [])), (.inr (some (.inl (ck_one 1))), 249, ([], [], []))])
set_option maxRecDepth 100000 in
theorem pl_s397_s {X : Int → Int} {LX : Nat} : ck_Ok p2_OL X LX 28 pl_s397 := ck_ok_s (O := p2_OL) (X := X) (LX := LX) (E := [(10, [pl_s204])]) (mi := 28) (cuts := []) (f := 90) (S := pl_s397) (lx := none) (XF := []) ⟨pl_nmu, ck_E1 (ck_S1 pl_s204_s ck_S0) ck_E0⟩ ck_X0 ck_l0 (by decide +kernel)
set_option maxRecDepth 100000 in
/-- GlacierMail.waits -/
def pl_s398 : ck_Sum := ((2, 0, 0), 249, [.inr (.inr (.inl 1)), .inl (ck_one 2)], ([], [], [(3, 6, 6, (0, 299, [(10, 0)]))]), ([], []), [(.inr (some (.inl (ck_one 0))), 249, ([], [], [])), (.inr (some (.inl (ck_one 1))), 249, ([], [], []))])
set_option maxRecDepth 100000 in
theorem pl_s398_s {X : Int → Int} {LX : Nat} : ck_Ok p2_OL X LX 66 pl_s398 := ck_ok_s (O := p2_OL) (X := X) (LX := LX) (E := [(28, [pl_s397]), (10, [pl_s204, pl_s218]), (67, [pl_s219])]) (mi := 66) (cuts := []) (f := 134) (S := pl_s398) (lx := none) (XF := []) ⟨pl_nmu, ck_E1 (ck_S1 pl_s397_s ck_S0) (ck_E1 (ck_S1 pl_s204_s (ck_S1 pl_s218_s ck_S0)) (ck_E1 (ck_S1 pl_s219_s ck_S0) ck_E0))⟩ ck_X0 ck_l0 (by decide +kernel)
set_option maxRecDepth 100000 in
/-- GlacierMail$Rows.put -/
def pl_s399 : ck_Sum := ((0, 0, 0), 249, [.inr (.inr (.inl 10)), .inl (ck_one 2), .inl (ck_one 5), .inl ((-1), 299, [])], ([], [], []), ([(11, 19, 19)], []), [(.inr none, 249, ([], [], []))])
set_option maxRecDepth 100000 in
theorem pl_s399_s {X : Int → Int} {LX : Nat} : ck_Ok p2_OL X LX 45 pl_s399 := ck_ok_s (O := p2_OL) (X := X) (LX := LX) (E := []) (mi := 45) (cuts := []) (f := 116) (S := pl_s399) (lx := none) (XF := []) ⟨pl_nmu, ck_E0⟩ ck_X0 ck_l0 (by decide +kernel)
set_option maxRecDepth 100000 in
/-- GlacierMail$Rows.put -/
def pl_s400 : ck_Sum := ((0, 0, 0), 249, [.inr (.inr (.inl 10)), .inl (ck_one 2), .inl (ck_one 6), .inl (0, 299, [])], ([], [], []), ([(11, 20, 20)], []), [(.inr none, 249, ([], [], []))])
set_option maxRecDepth 100000 in
theorem pl_s400_s {X : Int → Int} {LX : Nat} : ck_Ok p2_OL X LX 45 pl_s400 := ck_ok_s (O := p2_OL) (X := X) (LX := LX) (E := []) (mi := 45) (cuts := []) (f := 116) (S := pl_s400) (lx := none) (XF := []) ⟨pl_nmu, ck_E0⟩ ck_X0 ck_l0 (by decide +kernel)
set_option maxRecDepth 100000 in
/-- GlacierMail$Rows.put -/
def pl_s401 : ck_Sum := ((0, 0, 0), 249, [.inr (.inr (.inl 14)), .inl (0, 23, []), .inl (ck_one 1), .inl (ck_one 2)], ([], [], []), (zl173, []), [(.inr none, 249, ([], [], []))])
set_option maxRecDepth 100000 in
theorem pl_s401_s {X : Int → Int} {LX : Nat} : ck_Ok p2_OL X LX 45 pl_s401 := ck_ok_s (O := p2_OL) (X := X) (LX := LX) (E := []) (mi := 45) (cuts := []) (f := 116) (S := pl_s401) (lx := none) (XF := []) ⟨pl_nmu, ck_E0⟩ ck_X0 ck_l0 (by decide +kernel)
set_option maxRecDepth 100000 in
/-- GlacierMail$Rows.put -/
def pl_s402 : ck_Sum := ((0, 0, 0), 249, [.inr (.inr (.inl 14)), .inl (ck_one (-1)), .inl (ck_one 1), .inl (ck_one 2)], ([], [], []), ([], []), [(.inr none, 249, ([], [], []))])
set_option maxRecDepth 100000 in
theorem pl_s402_s {X : Int → Int} {LX : Nat} : ck_Ok p2_OL X LX 45 pl_s402 := ck_ok_s (O := p2_OL) (X := X) (LX := LX) (E := []) (mi := 45) (cuts := []) (f := 76) (S := pl_s402) (lx := none) (XF := []) ⟨pl_nmu, ck_E0⟩ ck_X0 ck_l0 (by decide +kernel)
set_option maxRecDepth 100000 in
/-- GlacierMail$State.openLetter -/
def pl_s403 : ck_Sum := ((1, 0, 0), 249, [.inr (.inr (.inl 3)), .inl (ck_one 2), .inl ((-1), 299, [])], ([], [], [(3, 6, 6, (0, 299, [(10, 0)]))]), ([(11, 19, 20), (14, 3, 3), (15, 0, 71)], []), [(.inr none, 249, ([], [], [(14, 3, 3, (1, 24, []))]))])
set_option maxRecDepth 100000 in
theorem pl_s403_s {X : Int → Int} {LX : Nat} : ck_Ok p2_OL X LX 159 pl_s403 := ck_ok_s (O := p2_OL) (X := X) (LX := LX) (E := [(45, [pl_s399, pl_s400, pl_s376, pl_s401, pl_s378, pl_s379, pl_s402, pl_s381]), (102, [pl_s382])]) (mi := 159) (cuts := []) (f := 144) (S := pl_s403) (lx := none) (XF := []) ⟨pl_nmu, ck_E1 (ck_S1 pl_s399_s (ck_S1 pl_s400_s (ck_S1 pl_s376_s (ck_S1 pl_s401_s (ck_S1 pl_s378_s (ck_S1 pl_s379_s (ck_S1 pl_s402_s (ck_S1 pl_s381_s ck_S0)))))))) (ck_E1 (ck_S1 pl_s382_s ck_S0) ck_E0)⟩ ck_X0 ck_l0 (by decide +kernel)
set_option maxRecDepth 100000 in
/-- GlacierMail.open -/
def pl_s404 : ck_Sum := ((8, 2, 12), 249, [.inr (.inr (.inl 1)), .inl (ck_one 2)], ([], zl230, [(3, 6, 6, (0, 299, [(10, 0)]))]), ([(1, 15, 15), (11, 19, 20), (14, 3, 3), (15, 0, 71), (42, 1, 2), (44, 0, 7), (45, 3, 3), (46, 0, 55), (47, 3, 3), (48, 0, 23), (49, 3, 3), (50, 0, 23), (51, 3, 3), (52, 0, 167), (53, 3, 3), (54, 0, 35), (55, 3, 3), (56, 0, 71), (57, 0, 7), (58, 3, 3), (59, 0, 55), (60, 3, 3), (61, 0, 23), (62, 3, 3), (63, 0, 23), (64, 3, 3), (65, 0, 167), (66, 3, 3), (67, 0, 35), (68, 3, 3), (69, 0, 71), (70, 0, 7), (71, 3, 3), (72, 0, 55), (73, 3, 3), (74, 0, 23), (75, 3, 3), (76, 0, 23), (77, 3, 3), (78, 0, 167), (79, 3, 3), (80, 0, 35), (81, 3, 3), (82, 0, 71), (83, 0, 7), (84, 3, 3), (85, 0, 55), (86, 3, 3), (87, 0, 23), (88, 3, 3), (89, 0, 23), (90, 3, 3), (91, 0, 167), (92, 3, 3), (93, 0, 35), (94, 3, 3), (95, 0, 71), (96, 0, 7), (97, 3, 3), (98, 0, 55), (99, 3, 3), (100, 0, 23), (101, 3, 3), (102, 0, 23), (103, 3, 3), (104, 0, 167), (105, 3, 3), (106, 0, 35), (107, 3, 3), (108, 0, 71), (109, 0, 7), (110, 3, 3), (111, 0, 55), (112, 3, 3), (113, 0, 23), (114, 3, 3), (115, 0, 23), (116, 3, 3), (117, 0, 167), (118, 3, 3), (119, 0, 35), (120, 3, 3), (121, 0, 71), (122, 0, 7), (123, 3, 3), (124, 0, 55), (125, 3, 3), (126, 0, 23), (127, 3, 3), (128, 0, 23), (129, 3, 3), (130, 0, 167), (131, 3, 3), (132, 0, 35), (133, 3, 3), (134, 0, 71), (135, 0, 7), (136, 3, 3), (137, 0, 55), (138, 3, 3), (139, 0, 23), (140, 3, 3), (141, 0, 23), (142, 3, 3), (143, 0, 167), (144, 3, 3), (145, 0, 35), (146, 3, 3), (147, 0, 71), (148, 0, 7), (149, 3, 3), (150, 0, 55), (151, 3, 3), (152, 0, 23), (153, 3, 3), (154, 0, 23), (155, 3, 3), (156, 0, 167), (157, 3, 3), (158, 0, 35), (159, 3, 3), (160, 0, 71), (161, 0, 7), (162, 3, 3), (163, 0, 55), (164, 3, 3), (165, 0, 23), (166, 3, 3), (167, 0, 23), (168, 3, 3), (169, 0, 167), (170, 3, 3), (171, 0, 35), (172, 3, 3), (173, 0, 71), (174, 0, 7), (175, 3, 3), (176, 0, 55), (177, 3, 3), (178, 0, 23), (179, 3, 3), (180, 0, 23), (181, 3, 3), (182, 0, 167), (183, 3, 3), (184, 0, 35), (185, 3, 3), (186, 0, 71), (187, 0, 7), (188, 3, 3), (189, 0, 55), (190, 3, 3), (191, 0, 23), (192, 3, 3), (193, 0, 23), (194, 3, 3), (195, 0, 167), (196, 3, 3), (197, 0, 35), (198, 3, 3), (199, 0, 71), (200, 6, 6), (204, 0, 9), (205, 0, 14849), (206, 2, 8), (220, 3, 3), (221, 0, 47)], zl104), zl245)
set_option maxRecDepth 100000 in
theorem pl_s404_s {X : Int → Int} {LX : Nat} : ck_Ok p2_OL X LX 158 pl_s404 := ck_ok_s (O := p2_OL) (X := X) (LX := LX) (E := [(143, [pl_s396]), (24, [pl_s217]), (66, [pl_s398]), (154, [pl_s341]), (10, [pl_s204]), (159, [pl_s403])]) (mi := 158) (cuts := []) (f := 140) (S := pl_s404) (lx := none) (XF := []) ⟨pl_nmu, ck_E1 (ck_S1 pl_s396_s ck_S0) (ck_E1 (ck_S1 pl_s217_s ck_S0) (ck_E1 (ck_S1 pl_s398_s ck_S0) (ck_E1 (ck_S1 pl_s341_s ck_S0) (ck_E1 (ck_S1 pl_s204_s ck_S0) (ck_E1 (ck_S1 pl_s403_s ck_S0) ck_E0)))))⟩ ck_X0 ck_l0 (by decide +kernel)
set_option maxRecDepth 100000 in
/-- GlacierMail.need -/
def pl_s405 : ck_Sum := ((6, 1, 6), 249, [.inr (.inr (.inl 1)), .inl (ck_one 3), .inl (0, 24, [])], ([], [], []), ([], []), [(.inr none, 249, ([], [], [])), (.inl 3, 249, ([], [], []))])
set_option maxRecDepth 100000 in
theorem pl_s405_s {X : Int → Int} {LX : Nat} : ck_Ok p2_OL X LX 133 pl_s405 := ck_ok_s (O := p2_OL) (X := X) (LX := LX) (E := []) (mi := 133) (cuts := []) (f := 82) (S := pl_s405) (lx := none) (XF := []) ⟨pl_nmu, ck_E0⟩ ck_X0 ck_l0 (by decide +kernel)
set_option maxRecDepth 100000 in
/-- GlacierMail.needLetter -/
def pl_s406 : ck_Sum := ((7, 1, 6), 249, [.inr (.inr (.inl 1)), .inl (ck_one 3)], ([], [], []), ([], []), [(.inl 3, 249, ([], [], [])), (.inr none, 249, ([], [], []))])
set_option maxRecDepth 100000 in
theorem pl_s406_s {X : Int → Int} {LX : Nat} : ck_Ok p2_OL X LX 143 pl_s406 := ck_ok_s (O := p2_OL) (X := X) (LX := LX) (E := [(9, [pl_s200]), (133, [pl_s405])]) (mi := 143) (cuts := []) (f := 86) (S := pl_s406) (lx := none) (XF := []) ⟨pl_nmu, ck_E1 (ck_S1 pl_s200_s ck_S0) (ck_E1 (ck_S1 pl_s405_s ck_S0) ck_E0)⟩ ck_X0 ck_l0 (by decide +kernel)
set_option maxRecDepth 100000 in
/-- GlacierMail$State.isRock -/
def pl_s407 : ck_Sum := ((1, 0, 0), 249, [.inr (.inr (.inl 3)), .inl (ck_one 3)], ([], [], []), ([], []), [(.inr (some (.inl (ck_one 0))), 249, ([], [], [])), (.inr (some (.inl (ck_one 1))), 249, ([], [], []))])
set_option maxRecDepth 100000 in
theorem pl_s407_s {X : Int → Int} {LX : Nat} : ck_Ok p2_OL X LX 28 pl_s407 := ck_ok_s (O := p2_OL) (X := X) (LX := LX) (E := [(10, [pl_s204])]) (mi := 28) (cuts := []) (f := 90) (S := pl_s407) (lx := none) (XF := []) ⟨pl_nmu, ck_E1 (ck_S1 pl_s204_s ck_S0) ck_E0⟩ ck_X0 ck_l0 (by decide +kernel)
set_option maxRecDepth 100000 in
/-- GlacierMail.waits -/
def pl_s408 : ck_Sum := ((2, 0, 0), 249, [.inr (.inr (.inl 1)), .inl (ck_one 3)], ([], [], [(3, 6, 6, (0, 299, [(10, 0)]))]), ([], []), [(.inr (some (.inl (ck_one 0))), 249, ([], [], [])), (.inr (some (.inl (ck_one 1))), 249, ([], [], []))])
set_option maxRecDepth 100000 in
theorem pl_s408_s {X : Int → Int} {LX : Nat} : ck_Ok p2_OL X LX 66 pl_s408 := ck_ok_s (O := p2_OL) (X := X) (LX := LX) (E := [(28, [pl_s407]), (10, [pl_s204, pl_s218]), (67, [pl_s219])]) (mi := 66) (cuts := []) (f := 134) (S := pl_s408) (lx := none) (XF := []) ⟨pl_nmu, ck_E1 (ck_S1 pl_s407_s ck_S0) (ck_E1 (ck_S1 pl_s204_s (ck_S1 pl_s218_s ck_S0)) (ck_E1 (ck_S1 pl_s219_s ck_S0) ck_E0))⟩ ck_X0 ck_l0 (by decide +kernel)
set_option maxRecDepth 100000 in
/-- GlacierMail$Rows.put -/
def pl_s409 : ck_Sum := ((0, 0, 0), 249, [.inr (.inr (.inl 10)), .inl (ck_one 3), .inl (ck_one 5), .inl ((-1), 299, [])], ([], [], []), ([(11, 26, 26)], []), [(.inr none, 249, ([], [], []))])
set_option maxRecDepth 100000 in
theorem pl_s409_s {X : Int → Int} {LX : Nat} : ck_Ok p2_OL X LX 45 pl_s409 := ck_ok_s (O := p2_OL) (X := X) (LX := LX) (E := []) (mi := 45) (cuts := []) (f := 116) (S := pl_s409) (lx := none) (XF := []) ⟨pl_nmu, ck_E0⟩ ck_X0 ck_l0 (by decide +kernel)
set_option maxRecDepth 100000 in
/-- GlacierMail$Rows.put -/
def pl_s410 : ck_Sum := ((0, 0, 0), 249, [.inr (.inr (.inl 10)), .inl (ck_one 3), .inl (ck_one 6), .inl (0, 299, [])], ([], [], []), ([(11, 27, 27)], []), [(.inr none, 249, ([], [], []))])
set_option maxRecDepth 100000 in
theorem pl_s410_s {X : Int → Int} {LX : Nat} : ck_Ok p2_OL X LX 45 pl_s410 := ck_ok_s (O := p2_OL) (X := X) (LX := LX) (E := []) (mi := 45) (cuts := []) (f := 116) (S := pl_s410) (lx := none) (XF := []) ⟨pl_nmu, ck_E0⟩ ck_X0 ck_l0 (by decide +kernel)
set_option maxRecDepth 100000 in
/-- GlacierMail$Rows.put -/
def pl_s411 : ck_Sum := ((0, 0, 0), 249, [.inr (.inr (.inl 14)), .inl (0, 23, []), .inl (ck_one 1), .inl (ck_one 3)], ([], [], []), (zl173, []), [(.inr none, 249, ([], [], []))])
set_option maxRecDepth 100000 in
theorem pl_s411_s {X : Int → Int} {LX : Nat} : ck_Ok p2_OL X LX 45 pl_s411 := ck_ok_s (O := p2_OL) (X := X) (LX := LX) (E := []) (mi := 45) (cuts := []) (f := 116) (S := pl_s411) (lx := none) (XF := []) ⟨pl_nmu, ck_E0⟩ ck_X0 ck_l0 (by decide +kernel)
set_option maxRecDepth 100000 in
/-- GlacierMail$Rows.put -/
def pl_s412 : ck_Sum := ((0, 0, 0), 249, [.inr (.inr (.inl 14)), .inl (ck_one (-1)), .inl (ck_one 1), .inl (ck_one 3)], ([], [], []), ([], []), [(.inr none, 249, ([], [], []))])
set_option maxRecDepth 100000 in
theorem pl_s412_s {X : Int → Int} {LX : Nat} : ck_Ok p2_OL X LX 45 pl_s412 := ck_ok_s (O := p2_OL) (X := X) (LX := LX) (E := []) (mi := 45) (cuts := []) (f := 76) (S := pl_s412) (lx := none) (XF := []) ⟨pl_nmu, ck_E0⟩ ck_X0 ck_l0 (by decide +kernel)
set_option maxRecDepth 100000 in
/-- GlacierMail$State.openLetter -/
def pl_s413 : ck_Sum := ((1, 0, 0), 249, [.inr (.inr (.inl 3)), .inl (ck_one 3), .inl ((-1), 299, [])], ([], [], [(3, 6, 6, (0, 299, [(10, 0)]))]), ([(11, 26, 27), (14, 3, 3), (15, 0, 71)], []), [(.inr none, 249, ([], [], [(14, 3, 3, (1, 24, []))]))])
set_option maxRecDepth 100000 in
theorem pl_s413_s {X : Int → Int} {LX : Nat} : ck_Ok p2_OL X LX 159 pl_s413 := ck_ok_s (O := p2_OL) (X := X) (LX := LX) (E := [(45, [pl_s409, pl_s410, pl_s376, pl_s411, pl_s378, pl_s379, pl_s412, pl_s381]), (102, [pl_s382])]) (mi := 159) (cuts := []) (f := 144) (S := pl_s413) (lx := none) (XF := []) ⟨pl_nmu, ck_E1 (ck_S1 pl_s409_s (ck_S1 pl_s410_s (ck_S1 pl_s376_s (ck_S1 pl_s411_s (ck_S1 pl_s378_s (ck_S1 pl_s379_s (ck_S1 pl_s412_s (ck_S1 pl_s381_s ck_S0)))))))) (ck_E1 (ck_S1 pl_s382_s ck_S0) ck_E0)⟩ ck_X0 ck_l0 (by decide +kernel)
set_option maxRecDepth 100000 in
/-- GlacierMail.open -/
def pl_s414 : ck_Sum := ((8, 2, 12), 249, [.inr (.inr (.inl 1)), .inl (ck_one 3)], ([], zl230, [(3, 6, 6, (0, 299, [(10, 0)]))]), ([(1, 15, 15), (11, 26, 27), (14, 3, 3), (15, 0, 71), (42, 1, 2), (44, 0, 7), (45, 3, 3), (46, 0, 55), (47, 3, 3), (48, 0, 23), (49, 3, 3), (50, 0, 23), (51, 3, 3), (52, 0, 167), (53, 3, 3), (54, 0, 35), (55, 3, 3), (56, 0, 71), (57, 0, 7), (58, 3, 3), (59, 0, 55), (60, 3, 3), (61, 0, 23), (62, 3, 3), (63, 0, 23), (64, 3, 3), (65, 0, 167), (66, 3, 3), (67, 0, 35), (68, 3, 3), (69, 0, 71), (70, 0, 7), (71, 3, 3), (72, 0, 55), (73, 3, 3), (74, 0, 23), (75, 3, 3), (76, 0, 23), (77, 3, 3), (78, 0, 167), (79, 3, 3), (80, 0, 35), (81, 3, 3), (82, 0, 71), (83, 0, 7), (84, 3, 3), (85, 0, 55), (86, 3, 3), (87, 0, 23), (88, 3, 3), (89, 0, 23), (90, 3, 3), (91, 0, 167), (92, 3, 3), (93, 0, 35), (94, 3, 3), (95, 0, 71), (96, 0, 7), (97, 3, 3), (98, 0, 55), (99, 3, 3), (100, 0, 23), (101, 3, 3), (102, 0, 23), (103, 3, 3), (104, 0, 167), (105, 3, 3), (106, 0, 35), (107, 3, 3), (108, 0, 71), (109, 0, 7), (110, 3, 3), (111, 0, 55), (112, 3, 3), (113, 0, 23), (114, 3, 3), (115, 0, 23), (116, 3, 3), (117, 0, 167), (118, 3, 3), (119, 0, 35), (120, 3, 3), (121, 0, 71), (122, 0, 7), (123, 3, 3), (124, 0, 55), (125, 3, 3), (126, 0, 23), (127, 3, 3), (128, 0, 23), (129, 3, 3), (130, 0, 167), (131, 3, 3), (132, 0, 35), (133, 3, 3), (134, 0, 71), (135, 0, 7), (136, 3, 3), (137, 0, 55), (138, 3, 3), (139, 0, 23), (140, 3, 3), (141, 0, 23), (142, 3, 3), (143, 0, 167), (144, 3, 3), (145, 0, 35), (146, 3, 3), (147, 0, 71), (148, 0, 7), (149, 3, 3), (150, 0, 55), (151, 3, 3), (152, 0, 23), (153, 3, 3), (154, 0, 23), (155, 3, 3), (156, 0, 167), (157, 3, 3), (158, 0, 35), (159, 3, 3), (160, 0, 71), (161, 0, 7), (162, 3, 3), (163, 0, 55), (164, 3, 3), (165, 0, 23), (166, 3, 3), (167, 0, 23), (168, 3, 3), (169, 0, 167), (170, 3, 3), (171, 0, 35), (172, 3, 3), (173, 0, 71), (174, 0, 7), (175, 3, 3), (176, 0, 55), (177, 3, 3), (178, 0, 23), (179, 3, 3), (180, 0, 23), (181, 3, 3), (182, 0, 167), (183, 3, 3), (184, 0, 35), (185, 3, 3), (186, 0, 71), (187, 0, 7), (188, 3, 3), (189, 0, 55), (190, 3, 3), (191, 0, 23), (192, 3, 3), (193, 0, 23), (194, 3, 3), (195, 0, 167), (196, 3, 3), (197, 0, 35), (198, 3, 3), (199, 0, 71), (200, 6, 6), (204, 0, 9), (205, 0, 14849), (206, 2, 8), (220, 3, 3), (221, 0, 47)], zl104), zl245)
set_option maxRecDepth 100000 in
theorem pl_s414_s {X : Int → Int} {LX : Nat} : ck_Ok p2_OL X LX 158 pl_s414 := ck_ok_s (O := p2_OL) (X := X) (LX := LX) (E := [(143, [pl_s406]), (24, [pl_s217]), (66, [pl_s408]), (154, [pl_s341]), (10, [pl_s204]), (159, [pl_s413])]) (mi := 158) (cuts := []) (f := 140) (S := pl_s414) (lx := none) (XF := []) ⟨pl_nmu, ck_E1 (ck_S1 pl_s406_s ck_S0) (ck_E1 (ck_S1 pl_s217_s ck_S0) (ck_E1 (ck_S1 pl_s408_s ck_S0) (ck_E1 (ck_S1 pl_s341_s ck_S0) (ck_E1 (ck_S1 pl_s204_s ck_S0) (ck_E1 (ck_S1 pl_s413_s ck_S0) ck_E0)))))⟩ ck_X0 ck_l0 (by decide +kernel)
set_option maxRecDepth 100000 in
/-- GlacierMail.need -/
def pl_s415 : ck_Sum := ((6, 1, 6), 249, [.inr (.inr (.inl 1)), .inl (ck_one 4), .inl (0, 24, [])], ([], [], []), ([], []), [(.inr none, 249, ([], [], [])), (.inl 3, 249, ([], [], []))])
set_option maxRecDepth 100000 in
theorem pl_s415_s {X : Int → Int} {LX : Nat} : ck_Ok p2_OL X LX 133 pl_s415 := ck_ok_s (O := p2_OL) (X := X) (LX := LX) (E := []) (mi := 133) (cuts := []) (f := 82) (S := pl_s415) (lx := none) (XF := []) ⟨pl_nmu, ck_E0⟩ ck_X0 ck_l0 (by decide +kernel)
set_option maxRecDepth 100000 in
/-- GlacierMail.needLetter -/
def pl_s416 : ck_Sum := ((7, 1, 6), 249, [.inr (.inr (.inl 1)), .inl (ck_one 4)], ([], [], []), ([], []), [(.inl 3, 249, ([], [], [])), (.inr none, 249, ([], [], []))])
set_option maxRecDepth 100000 in
theorem pl_s416_s {X : Int → Int} {LX : Nat} : ck_Ok p2_OL X LX 143 pl_s416 := ck_ok_s (O := p2_OL) (X := X) (LX := LX) (E := [(9, [pl_s200]), (133, [pl_s415])]) (mi := 143) (cuts := []) (f := 86) (S := pl_s416) (lx := none) (XF := []) ⟨pl_nmu, ck_E1 (ck_S1 pl_s200_s ck_S0) (ck_E1 (ck_S1 pl_s415_s ck_S0) ck_E0)⟩ ck_X0 ck_l0 (by decide +kernel)
set_option maxRecDepth 100000 in
/-- GlacierMail$State.isRock -/
def pl_s417 : ck_Sum := ((1, 0, 0), 249, [.inr (.inr (.inl 3)), .inl (ck_one 4)], ([], [], []), ([], []), [(.inr (some (.inl (ck_one 0))), 249, ([], [], [])), (.inr (some (.inl (ck_one 1))), 249, ([], [], []))])
set_option maxRecDepth 100000 in
theorem pl_s417_s {X : Int → Int} {LX : Nat} : ck_Ok p2_OL X LX 28 pl_s417 := ck_ok_s (O := p2_OL) (X := X) (LX := LX) (E := [(10, [pl_s204])]) (mi := 28) (cuts := []) (f := 90) (S := pl_s417) (lx := none) (XF := []) ⟨pl_nmu, ck_E1 (ck_S1 pl_s204_s ck_S0) ck_E0⟩ ck_X0 ck_l0 (by decide +kernel)
set_option maxRecDepth 100000 in
/-- GlacierMail.waits -/
def pl_s418 : ck_Sum := ((2, 0, 0), 249, [.inr (.inr (.inl 1)), .inl (ck_one 4)], ([], [], [(3, 6, 6, (0, 299, [(10, 0)]))]), ([], []), [(.inr (some (.inl (ck_one 0))), 249, ([], [], [])), (.inr (some (.inl (ck_one 1))), 249, ([], [], []))])
set_option maxRecDepth 100000 in
theorem pl_s418_s {X : Int → Int} {LX : Nat} : ck_Ok p2_OL X LX 66 pl_s418 := ck_ok_s (O := p2_OL) (X := X) (LX := LX) (E := [(28, [pl_s417]), (10, [pl_s204, pl_s218]), (67, [pl_s219])]) (mi := 66) (cuts := []) (f := 134) (S := pl_s418) (lx := none) (XF := []) ⟨pl_nmu, ck_E1 (ck_S1 pl_s417_s ck_S0) (ck_E1 (ck_S1 pl_s204_s (ck_S1 pl_s218_s ck_S0)) (ck_E1 (ck_S1 pl_s219_s ck_S0) ck_E0))⟩ ck_X0 ck_l0 (by decide +kernel)
set_option maxRecDepth 100000 in
/-- GlacierMail$Rows.put -/
def pl_s419 : ck_Sum := ((0, 0, 0), 249, [.inr (.inr (.inl 10)), .inl (ck_one 4), .inl (ck_one 5), .inl ((-1), 299, [])], ([], [], []), ([(11, 33, 33)], []), [(.inr none, 249, ([], [], []))])
set_option maxRecDepth 100000 in
theorem pl_s419_s {X : Int → Int} {LX : Nat} : ck_Ok p2_OL X LX 45 pl_s419 := ck_ok_s (O := p2_OL) (X := X) (LX := LX) (E := []) (mi := 45) (cuts := []) (f := 116) (S := pl_s419) (lx := none) (XF := []) ⟨pl_nmu, ck_E0⟩ ck_X0 ck_l0 (by decide +kernel)
set_option maxRecDepth 100000 in
/-- GlacierMail$Rows.put -/
def pl_s420 : ck_Sum := ((0, 0, 0), 249, [.inr (.inr (.inl 10)), .inl (ck_one 4), .inl (ck_one 6), .inl (0, 299, [])], ([], [], []), ([(11, 34, 34)], []), [(.inr none, 249, ([], [], []))])
set_option maxRecDepth 100000 in
theorem pl_s420_s {X : Int → Int} {LX : Nat} : ck_Ok p2_OL X LX 45 pl_s420 := ck_ok_s (O := p2_OL) (X := X) (LX := LX) (E := []) (mi := 45) (cuts := []) (f := 116) (S := pl_s420) (lx := none) (XF := []) ⟨pl_nmu, ck_E0⟩ ck_X0 ck_l0 (by decide +kernel)
set_option maxRecDepth 100000 in
/-- GlacierMail$Rows.put -/
def pl_s421 : ck_Sum := ((0, 0, 0), 249, [.inr (.inr (.inl 14)), .inl (0, 23, []), .inl (ck_one 1), .inl (ck_one 4)], ([], [], []), (zl173, []), [(.inr none, 249, ([], [], []))])
set_option maxRecDepth 100000 in
theorem pl_s421_s {X : Int → Int} {LX : Nat} : ck_Ok p2_OL X LX 45 pl_s421 := ck_ok_s (O := p2_OL) (X := X) (LX := LX) (E := []) (mi := 45) (cuts := []) (f := 116) (S := pl_s421) (lx := none) (XF := []) ⟨pl_nmu, ck_E0⟩ ck_X0 ck_l0 (by decide +kernel)
set_option maxRecDepth 100000 in
/-- GlacierMail$Rows.put -/
def pl_s422 : ck_Sum := ((0, 0, 0), 249, [.inr (.inr (.inl 14)), .inl (ck_one (-1)), .inl (ck_one 1), .inl (ck_one 4)], ([], [], []), ([], []), [(.inr none, 249, ([], [], []))])
set_option maxRecDepth 100000 in
theorem pl_s422_s {X : Int → Int} {LX : Nat} : ck_Ok p2_OL X LX 45 pl_s422 := ck_ok_s (O := p2_OL) (X := X) (LX := LX) (E := []) (mi := 45) (cuts := []) (f := 76) (S := pl_s422) (lx := none) (XF := []) ⟨pl_nmu, ck_E0⟩ ck_X0 ck_l0 (by decide +kernel)
set_option maxRecDepth 100000 in
/-- GlacierMail$State.openLetter -/
def pl_s423 : ck_Sum := ((1, 0, 0), 249, [.inr (.inr (.inl 3)), .inl (ck_one 4), .inl ((-1), 299, [])], ([], [], [(3, 6, 6, (0, 299, [(10, 0)]))]), ([(11, 33, 34), (14, 3, 3), (15, 0, 71)], []), [(.inr none, 249, ([], [], [(14, 3, 3, (1, 24, []))]))])
set_option maxRecDepth 100000 in
theorem pl_s423_s {X : Int → Int} {LX : Nat} : ck_Ok p2_OL X LX 159 pl_s423 := ck_ok_s (O := p2_OL) (X := X) (LX := LX) (E := [(45, [pl_s419, pl_s420, pl_s376, pl_s421, pl_s378, pl_s379, pl_s422, pl_s381]), (102, [pl_s382])]) (mi := 159) (cuts := []) (f := 144) (S := pl_s423) (lx := none) (XF := []) ⟨pl_nmu, ck_E1 (ck_S1 pl_s419_s (ck_S1 pl_s420_s (ck_S1 pl_s376_s (ck_S1 pl_s421_s (ck_S1 pl_s378_s (ck_S1 pl_s379_s (ck_S1 pl_s422_s (ck_S1 pl_s381_s ck_S0)))))))) (ck_E1 (ck_S1 pl_s382_s ck_S0) ck_E0)⟩ ck_X0 ck_l0 (by decide +kernel)
set_option maxRecDepth 100000 in
/-- GlacierMail.open -/
def pl_s424 : ck_Sum := ((8, 2, 12), 249, [.inr (.inr (.inl 1)), .inl (ck_one 4)], ([], zl230, [(3, 6, 6, (0, 299, [(10, 0)]))]), ([(1, 15, 15), (11, 33, 34), (14, 3, 3), (15, 0, 71), (42, 1, 2), (44, 0, 7), (45, 3, 3), (46, 0, 55), (47, 3, 3), (48, 0, 23), (49, 3, 3), (50, 0, 23), (51, 3, 3), (52, 0, 167), (53, 3, 3), (54, 0, 35), (55, 3, 3), (56, 0, 71), (57, 0, 7), (58, 3, 3), (59, 0, 55), (60, 3, 3), (61, 0, 23), (62, 3, 3), (63, 0, 23), (64, 3, 3), (65, 0, 167), (66, 3, 3), (67, 0, 35), (68, 3, 3), (69, 0, 71), (70, 0, 7), (71, 3, 3), (72, 0, 55), (73, 3, 3), (74, 0, 23), (75, 3, 3), (76, 0, 23), (77, 3, 3), (78, 0, 167), (79, 3, 3), (80, 0, 35), (81, 3, 3), (82, 0, 71), (83, 0, 7), (84, 3, 3), (85, 0, 55), (86, 3, 3), (87, 0, 23), (88, 3, 3), (89, 0, 23), (90, 3, 3), (91, 0, 167), (92, 3, 3), (93, 0, 35), (94, 3, 3), (95, 0, 71), (96, 0, 7), (97, 3, 3), (98, 0, 55), (99, 3, 3), (100, 0, 23), (101, 3, 3), (102, 0, 23), (103, 3, 3), (104, 0, 167), (105, 3, 3), (106, 0, 35), (107, 3, 3), (108, 0, 71), (109, 0, 7), (110, 3, 3), (111, 0, 55), (112, 3, 3), (113, 0, 23), (114, 3, 3), (115, 0, 23), (116, 3, 3), (117, 0, 167), (118, 3, 3), (119, 0, 35), (120, 3, 3), (121, 0, 71), (122, 0, 7), (123, 3, 3), (124, 0, 55), (125, 3, 3), (126, 0, 23), (127, 3, 3), (128, 0, 23), (129, 3, 3), (130, 0, 167), (131, 3, 3), (132, 0, 35), (133, 3, 3), (134, 0, 71), (135, 0, 7), (136, 3, 3), (137, 0, 55), (138, 3, 3), (139, 0, 23), (140, 3, 3), (141, 0, 23), (142, 3, 3), (143, 0, 167), (144, 3, 3), (145, 0, 35), (146, 3, 3), (147, 0, 71), (148, 0, 7), (149, 3, 3), (150, 0, 55), (151, 3, 3), (152, 0, 23), (153, 3, 3), (154, 0, 23), (155, 3, 3), (156, 0, 167), (157, 3, 3), (158, 0, 35), (159, 3, 3), (160, 0, 71), (161, 0, 7), (162, 3, 3), (163, 0, 55), (164, 3, 3), (165, 0, 23), (166, 3, 3), (167, 0, 23), (168, 3, 3), (169, 0, 167), (170, 3, 3), (171, 0, 35), (172, 3, 3), (173, 0, 71), (174, 0, 7), (175, 3, 3), (176, 0, 55), (177, 3, 3), (178, 0, 23), (179, 3, 3), (180, 0, 23), (181, 3, 3), (182, 0, 167), (183, 3, 3), (184, 0, 35), (185, 3, 3), (186, 0, 71), (187, 0, 7), (188, 3, 3), (189, 0, 55), (190, 3, 3), (191, 0, 23), (192, 3, 3), (193, 0, 23), (194, 3, 3), (195, 0, 167), (196, 3, 3), (197, 0, 35), (198, 3, 3), (199, 0, 71), (200, 6, 6), (204, 0, 9), (205, 0, 14849), (206, 2, 8), (220, 3, 3), (221, 0, 47)], zl104), zl245)
set_option maxRecDepth 100000 in
theorem pl_s424_s {X : Int → Int} {LX : Nat} : ck_Ok p2_OL X LX 158 pl_s424 := ck_ok_s (O := p2_OL) (X := X) (LX := LX) (E := [(143, [pl_s416]), (24, [pl_s217]), (66, [pl_s418]), (154, [pl_s341]), (10, [pl_s204]), (159, [pl_s423])]) (mi := 158) (cuts := []) (f := 140) (S := pl_s424) (lx := none) (XF := []) ⟨pl_nmu, ck_E1 (ck_S1 pl_s416_s ck_S0) (ck_E1 (ck_S1 pl_s217_s ck_S0) (ck_E1 (ck_S1 pl_s418_s ck_S0) (ck_E1 (ck_S1 pl_s341_s ck_S0) (ck_E1 (ck_S1 pl_s204_s ck_S0) (ck_E1 (ck_S1 pl_s423_s ck_S0) ck_E0)))))⟩ ck_X0 ck_l0 (by decide +kernel)
set_option maxRecDepth 100000 in
/-- GlacierMail.need -/
def pl_s425 : ck_Sum := ((6, 1, 6), 249, [.inr (.inr (.inl 1)), .inl (ck_one 5), .inl (0, 24, [])], ([], [], []), ([], []), [(.inr none, 249, ([], [], [])), (.inl 3, 249, ([], [], []))])
set_option maxRecDepth 100000 in
theorem pl_s425_s {X : Int → Int} {LX : Nat} : ck_Ok p2_OL X LX 133 pl_s425 := ck_ok_s (O := p2_OL) (X := X) (LX := LX) (E := []) (mi := 133) (cuts := []) (f := 82) (S := pl_s425) (lx := none) (XF := []) ⟨pl_nmu, ck_E0⟩ ck_X0 ck_l0 (by decide +kernel)
set_option maxRecDepth 100000 in
/-- GlacierMail.needLetter -/
def pl_s426 : ck_Sum := ((7, 1, 6), 249, [.inr (.inr (.inl 1)), .inl (ck_one 5)], ([], [], []), ([], []), [(.inl 3, 249, ([], [], [])), (.inr none, 249, ([], [], []))])
set_option maxRecDepth 100000 in
theorem pl_s426_s {X : Int → Int} {LX : Nat} : ck_Ok p2_OL X LX 143 pl_s426 := ck_ok_s (O := p2_OL) (X := X) (LX := LX) (E := [(9, [pl_s200]), (133, [pl_s425])]) (mi := 143) (cuts := []) (f := 86) (S := pl_s426) (lx := none) (XF := []) ⟨pl_nmu, ck_E1 (ck_S1 pl_s200_s ck_S0) (ck_E1 (ck_S1 pl_s425_s ck_S0) ck_E0)⟩ ck_X0 ck_l0 (by decide +kernel)
set_option maxRecDepth 100000 in
/-- GlacierMail$State.isRock -/
def pl_s427 : ck_Sum := ((1, 0, 0), 249, [.inr (.inr (.inl 3)), .inl (ck_one 5)], ([], [], []), ([], []), [(.inr (some (.inl (ck_one 0))), 249, ([], [], [])), (.inr (some (.inl (ck_one 1))), 249, ([], [], []))])
set_option maxRecDepth 100000 in
theorem pl_s427_s {X : Int → Int} {LX : Nat} : ck_Ok p2_OL X LX 28 pl_s427 := ck_ok_s (O := p2_OL) (X := X) (LX := LX) (E := [(10, [pl_s204])]) (mi := 28) (cuts := []) (f := 90) (S := pl_s427) (lx := none) (XF := []) ⟨pl_nmu, ck_E1 (ck_S1 pl_s204_s ck_S0) ck_E0⟩ ck_X0 ck_l0 (by decide +kernel)
set_option maxRecDepth 100000 in
/-- GlacierMail.waits -/
def pl_s428 : ck_Sum := ((2, 0, 0), 249, [.inr (.inr (.inl 1)), .inl (ck_one 5)], ([], [], [(3, 6, 6, (0, 299, [(10, 0)]))]), ([], []), [(.inr (some (.inl (ck_one 0))), 249, ([], [], [])), (.inr (some (.inl (ck_one 1))), 249, ([], [], []))])
set_option maxRecDepth 100000 in
theorem pl_s428_s {X : Int → Int} {LX : Nat} : ck_Ok p2_OL X LX 66 pl_s428 := ck_ok_s (O := p2_OL) (X := X) (LX := LX) (E := [(28, [pl_s427]), (10, [pl_s204, pl_s218]), (67, [pl_s219])]) (mi := 66) (cuts := []) (f := 134) (S := pl_s428) (lx := none) (XF := []) ⟨pl_nmu, ck_E1 (ck_S1 pl_s427_s ck_S0) (ck_E1 (ck_S1 pl_s204_s (ck_S1 pl_s218_s ck_S0)) (ck_E1 (ck_S1 pl_s219_s ck_S0) ck_E0))⟩ ck_X0 ck_l0 (by decide +kernel)
set_option maxRecDepth 100000 in
/-- GlacierMail$Rows.put -/
def pl_s429 : ck_Sum := ((0, 0, 0), 249, [.inr (.inr (.inl 10)), .inl (ck_one 5), .inl (ck_one 5), .inl ((-1), 299, [])], ([], [], []), ([(11, 40, 40)], []), [(.inr none, 249, ([], [], []))])
set_option maxRecDepth 100000 in
theorem pl_s429_s {X : Int → Int} {LX : Nat} : ck_Ok p2_OL X LX 45 pl_s429 := ck_ok_s (O := p2_OL) (X := X) (LX := LX) (E := []) (mi := 45) (cuts := []) (f := 116) (S := pl_s429) (lx := none) (XF := []) ⟨pl_nmu, ck_E0⟩ ck_X0 ck_l0 (by decide +kernel)
set_option maxRecDepth 100000 in
/-- GlacierMail$Rows.put -/
def pl_s430 : ck_Sum := ((0, 0, 0), 249, [.inr (.inr (.inl 10)), .inl (ck_one 5), .inl (ck_one 6), .inl (0, 299, [])], ([], [], []), ([(11, 41, 41)], []), [(.inr none, 249, ([], [], []))])
set_option maxRecDepth 100000 in
theorem pl_s430_s {X : Int → Int} {LX : Nat} : ck_Ok p2_OL X LX 45 pl_s430 := ck_ok_s (O := p2_OL) (X := X) (LX := LX) (E := []) (mi := 45) (cuts := []) (f := 116) (S := pl_s430) (lx := none) (XF := []) ⟨pl_nmu, ck_E0⟩ ck_X0 ck_l0 (by decide +kernel)
set_option maxRecDepth 100000 in
/-- GlacierMail$Rows.put -/
def pl_s431 : ck_Sum := ((0, 0, 0), 249, [.inr (.inr (.inl 14)), .inl (0, 23, []), .inl (ck_one 1), .inl (ck_one 5)], ([], [], []), (zl173, []), [(.inr none, 249, ([], [], []))])
set_option maxRecDepth 100000 in
theorem pl_s431_s {X : Int → Int} {LX : Nat} : ck_Ok p2_OL X LX 45 pl_s431 := ck_ok_s (O := p2_OL) (X := X) (LX := LX) (E := []) (mi := 45) (cuts := []) (f := 116) (S := pl_s431) (lx := none) (XF := []) ⟨pl_nmu, ck_E0⟩ ck_X0 ck_l0 (by decide +kernel)
set_option maxRecDepth 100000 in
/-- GlacierMail$Rows.put -/
def pl_s432 : ck_Sum := ((0, 0, 0), 249, [.inr (.inr (.inl 14)), .inl (ck_one (-1)), .inl (ck_one 1), .inl (ck_one 5)], ([], [], []), ([], []), [(.inr none, 249, ([], [], []))])
set_option maxRecDepth 100000 in
theorem pl_s432_s {X : Int → Int} {LX : Nat} : ck_Ok p2_OL X LX 45 pl_s432 := ck_ok_s (O := p2_OL) (X := X) (LX := LX) (E := []) (mi := 45) (cuts := []) (f := 76) (S := pl_s432) (lx := none) (XF := []) ⟨pl_nmu, ck_E0⟩ ck_X0 ck_l0 (by decide +kernel)
set_option maxRecDepth 100000 in
/-- GlacierMail$State.openLetter -/
def pl_s433 : ck_Sum := ((1, 0, 0), 249, [.inr (.inr (.inl 3)), .inl (ck_one 5), .inl ((-1), 299, [])], ([], [], [(3, 6, 6, (0, 299, [(10, 0)]))]), ([(11, 40, 41), (14, 3, 3), (15, 0, 71)], []), [(.inr none, 249, ([], [], [(14, 3, 3, (1, 24, []))]))])
set_option maxRecDepth 100000 in
theorem pl_s433_s {X : Int → Int} {LX : Nat} : ck_Ok p2_OL X LX 159 pl_s433 := ck_ok_s (O := p2_OL) (X := X) (LX := LX) (E := [(45, [pl_s429, pl_s430, pl_s376, pl_s431, pl_s378, pl_s379, pl_s432, pl_s381]), (102, [pl_s382])]) (mi := 159) (cuts := []) (f := 144) (S := pl_s433) (lx := none) (XF := []) ⟨pl_nmu, ck_E1 (ck_S1 pl_s429_s (ck_S1 pl_s430_s (ck_S1 pl_s376_s (ck_S1 pl_s431_s (ck_S1 pl_s378_s (ck_S1 pl_s379_s (ck_S1 pl_s432_s (ck_S1 pl_s381_s ck_S0)))))))) (ck_E1 (ck_S1 pl_s382_s ck_S0) ck_E0)⟩ ck_X0 ck_l0 (by decide +kernel)
set_option maxRecDepth 100000 in
/-- GlacierMail.open -/
def pl_s434 : ck_Sum := ((8, 2, 12), 249, [.inr (.inr (.inl 1)), .inl (ck_one 5)], ([], zl230, [(3, 6, 6, (0, 299, [(10, 0)]))]), ([(1, 15, 15), (11, 40, 41), (14, 3, 3), (15, 0, 71), (42, 1, 2), (44, 0, 7), (45, 3, 3), (46, 0, 55), (47, 3, 3), (48, 0, 23), (49, 3, 3), (50, 0, 23), (51, 3, 3), (52, 0, 167), (53, 3, 3), (54, 0, 35), (55, 3, 3), (56, 0, 71), (57, 0, 7), (58, 3, 3), (59, 0, 55), (60, 3, 3), (61, 0, 23), (62, 3, 3), (63, 0, 23), (64, 3, 3), (65, 0, 167), (66, 3, 3), (67, 0, 35), (68, 3, 3), (69, 0, 71), (70, 0, 7), (71, 3, 3), (72, 0, 55), (73, 3, 3), (74, 0, 23), (75, 3, 3), (76, 0, 23), (77, 3, 3), (78, 0, 167), (79, 3, 3), (80, 0, 35), (81, 3, 3), (82, 0, 71), (83, 0, 7), (84, 3, 3), (85, 0, 55), (86, 3, 3), (87, 0, 23), (88, 3, 3), (89, 0, 23), (90, 3, 3), (91, 0, 167), (92, 3, 3), (93, 0, 35), (94, 3, 3), (95, 0, 71), (96, 0, 7), (97, 3, 3), (98, 0, 55), (99, 3, 3), (100, 0, 23), (101, 3, 3), (102, 0, 23), (103, 3, 3), (104, 0, 167), (105, 3, 3), (106, 0, 35), (107, 3, 3), (108, 0, 71), (109, 0, 7), (110, 3, 3), (111, 0, 55), (112, 3, 3), (113, 0, 23), (114, 3, 3), (115, 0, 23), (116, 3, 3), (117, 0, 167), (118, 3, 3), (119, 0, 35), (120, 3, 3), (121, 0, 71), (122, 0, 7), (123, 3, 3), (124, 0, 55), (125, 3, 3), (126, 0, 23), (127, 3, 3), (128, 0, 23), (129, 3, 3), (130, 0, 167), (131, 3, 3), (132, 0, 35), (133, 3, 3), (134, 0, 71), (135, 0, 7), (136, 3, 3), (137, 0, 55), (138, 3, 3), (139, 0, 23), (140, 3, 3), (141, 0, 23), (142, 3, 3), (143, 0, 167), (144, 3, 3), (145, 0, 35), (146, 3, 3), (147, 0, 71), (148, 0, 7), (149, 3, 3), (150, 0, 55), (151, 3, 3), (152, 0, 23), (153, 3, 3), (154, 0, 23), (155, 3, 3), (156, 0, 167), (157, 3, 3), (158, 0, 35), (159, 3, 3), (160, 0, 71), (161, 0, 7), (162, 3, 3), (163, 0, 55), (164, 3, 3), (165, 0, 23), (166, 3, 3), (167, 0, 23), (168, 3, 3), (169, 0, 167), (170, 3, 3), (171, 0, 35), (172, 3, 3), (173, 0, 71), (174, 0, 7), (175, 3, 3), (176, 0, 55), (177, 3, 3), (178, 0, 23), (179, 3, 3), (180, 0, 23), (181, 3, 3), (182, 0, 167), (183, 3, 3), (184, 0, 35), (185, 3, 3), (186, 0, 71), (187, 0, 7), (188, 3, 3), (189, 0, 55), (190, 3, 3), (191, 0, 23), (192, 3, 3), (193, 0, 23), (194, 3, 3), (195, 0, 167), (196, 3, 3), (197, 0, 35), (198, 3, 3), (199, 0, 71), (200, 6, 6), (204, 0, 9), (205, 0, 14849), (206, 2, 8), (220, 3, 3), (221, 0, 47)], zl104), zl245)
set_option maxRecDepth 100000 in
theorem pl_s434_s {X : Int → Int} {LX : Nat} : ck_Ok p2_OL X LX 158 pl_s434 := ck_ok_s (O := p2_OL) (X := X) (LX := LX) (E := [(143, [pl_s426]), (24, [pl_s217]), (66, [pl_s428]), (154, [pl_s341]), (10, [pl_s204]), (159, [pl_s433])]) (mi := 158) (cuts := []) (f := 140) (S := pl_s434) (lx := none) (XF := []) ⟨pl_nmu, ck_E1 (ck_S1 pl_s426_s ck_S0) (ck_E1 (ck_S1 pl_s217_s ck_S0) (ck_E1 (ck_S1 pl_s428_s ck_S0) (ck_E1 (ck_S1 pl_s341_s ck_S0) (ck_E1 (ck_S1 pl_s204_s ck_S0) (ck_E1 (ck_S1 pl_s433_s ck_S0) ck_E0)))))⟩ ck_X0 ck_l0 (by decide +kernel)
set_option maxRecDepth 100000 in
/-- GlacierMail.need -/
def pl_s435 : ck_Sum := ((6, 1, 6), 249, [.inr (.inr (.inl 1)), .inl (ck_one 6), .inl (0, 24, [])], ([], [], []), ([], []), [(.inr none, 249, ([], [], [])), (.inl 3, 249, ([], [], []))])
set_option maxRecDepth 100000 in
theorem pl_s435_s {X : Int → Int} {LX : Nat} : ck_Ok p2_OL X LX 133 pl_s435 := ck_ok_s (O := p2_OL) (X := X) (LX := LX) (E := []) (mi := 133) (cuts := []) (f := 82) (S := pl_s435) (lx := none) (XF := []) ⟨pl_nmu, ck_E0⟩ ck_X0 ck_l0 (by decide +kernel)
set_option maxRecDepth 100000 in
/-- GlacierMail.needLetter -/
def pl_s436 : ck_Sum := ((7, 1, 6), 249, [.inr (.inr (.inl 1)), .inl (ck_one 6)], ([], [], []), ([], []), [(.inl 3, 249, ([], [], [])), (.inr none, 249, ([], [], []))])
set_option maxRecDepth 100000 in
theorem pl_s436_s {X : Int → Int} {LX : Nat} : ck_Ok p2_OL X LX 143 pl_s436 := ck_ok_s (O := p2_OL) (X := X) (LX := LX) (E := [(9, [pl_s200]), (133, [pl_s435])]) (mi := 143) (cuts := []) (f := 86) (S := pl_s436) (lx := none) (XF := []) ⟨pl_nmu, ck_E1 (ck_S1 pl_s200_s ck_S0) (ck_E1 (ck_S1 pl_s435_s ck_S0) ck_E0)⟩ ck_X0 ck_l0 (by decide +kernel)
set_option maxRecDepth 100000 in
/-- GlacierMail$State.isRock -/
def pl_s437 : ck_Sum := ((1, 0, 0), 249, [.inr (.inr (.inl 3)), .inl (ck_one 6)], ([], [], []), ([], []), [(.inr (some (.inl (ck_one 0))), 249, ([], [], [])), (.inr (some (.inl (ck_one 1))), 249, ([], [], []))])
set_option maxRecDepth 100000 in
theorem pl_s437_s {X : Int → Int} {LX : Nat} : ck_Ok p2_OL X LX 28 pl_s437 := ck_ok_s (O := p2_OL) (X := X) (LX := LX) (E := [(10, [pl_s204])]) (mi := 28) (cuts := []) (f := 90) (S := pl_s437) (lx := none) (XF := []) ⟨pl_nmu, ck_E1 (ck_S1 pl_s204_s ck_S0) ck_E0⟩ ck_X0 ck_l0 (by decide +kernel)
set_option maxRecDepth 100000 in
/-- GlacierMail.waits -/
def pl_s438 : ck_Sum := ((2, 0, 0), 249, [.inr (.inr (.inl 1)), .inl (ck_one 6)], ([], [], [(3, 6, 6, (0, 299, [(10, 0)]))]), ([], []), [(.inr (some (.inl (ck_one 0))), 249, ([], [], [])), (.inr (some (.inl (ck_one 1))), 249, ([], [], []))])
set_option maxRecDepth 100000 in
theorem pl_s438_s {X : Int → Int} {LX : Nat} : ck_Ok p2_OL X LX 66 pl_s438 := ck_ok_s (O := p2_OL) (X := X) (LX := LX) (E := [(28, [pl_s437]), (10, [pl_s204, pl_s218]), (67, [pl_s219])]) (mi := 66) (cuts := []) (f := 134) (S := pl_s438) (lx := none) (XF := []) ⟨pl_nmu, ck_E1 (ck_S1 pl_s437_s ck_S0) (ck_E1 (ck_S1 pl_s204_s (ck_S1 pl_s218_s ck_S0)) (ck_E1 (ck_S1 pl_s219_s ck_S0) ck_E0))⟩ ck_X0 ck_l0 (by decide +kernel)
set_option maxRecDepth 100000 in
/-- GlacierMail$Rows.put -/
def pl_s439 : ck_Sum := ((0, 0, 0), 249, [.inr (.inr (.inl 10)), .inl (ck_one 6), .inl (ck_one 5), .inl ((-1), 299, [])], ([], [], []), ([(11, 47, 47)], []), [(.inr none, 249, ([], [], []))])
set_option maxRecDepth 100000 in
theorem pl_s439_s {X : Int → Int} {LX : Nat} : ck_Ok p2_OL X LX 45 pl_s439 := ck_ok_s (O := p2_OL) (X := X) (LX := LX) (E := []) (mi := 45) (cuts := []) (f := 116) (S := pl_s439) (lx := none) (XF := []) ⟨pl_nmu, ck_E0⟩ ck_X0 ck_l0 (by decide +kernel)
set_option maxRecDepth 100000 in
/-- GlacierMail$Rows.put -/
def pl_s440 : ck_Sum := ((0, 0, 0), 249, [.inr (.inr (.inl 10)), .inl (ck_one 6), .inl (ck_one 6), .inl (0, 299, [])], ([], [], []), ([(11, 48, 48)], []), [(.inr none, 249, ([], [], []))])
set_option maxRecDepth 100000 in
theorem pl_s440_s {X : Int → Int} {LX : Nat} : ck_Ok p2_OL X LX 45 pl_s440 := ck_ok_s (O := p2_OL) (X := X) (LX := LX) (E := []) (mi := 45) (cuts := []) (f := 116) (S := pl_s440) (lx := none) (XF := []) ⟨pl_nmu, ck_E0⟩ ck_X0 ck_l0 (by decide +kernel)
set_option maxRecDepth 100000 in
/-- GlacierMail$Rows.put -/
def pl_s441 : ck_Sum := ((0, 0, 0), 249, [.inr (.inr (.inl 14)), .inl (0, 23, []), .inl (ck_one 1), .inl (ck_one 6)], ([], [], []), (zl173, []), [(.inr none, 249, ([], [], []))])
set_option maxRecDepth 100000 in
theorem pl_s441_s {X : Int → Int} {LX : Nat} : ck_Ok p2_OL X LX 45 pl_s441 := ck_ok_s (O := p2_OL) (X := X) (LX := LX) (E := []) (mi := 45) (cuts := []) (f := 116) (S := pl_s441) (lx := none) (XF := []) ⟨pl_nmu, ck_E0⟩ ck_X0 ck_l0 (by decide +kernel)
set_option maxRecDepth 100000 in
/-- GlacierMail$Rows.put -/
def pl_s442 : ck_Sum := ((0, 0, 0), 249, [.inr (.inr (.inl 14)), .inl (ck_one (-1)), .inl (ck_one 1), .inl (ck_one 6)], ([], [], []), ([], []), [(.inr none, 249, ([], [], []))])
set_option maxRecDepth 100000 in
theorem pl_s442_s {X : Int → Int} {LX : Nat} : ck_Ok p2_OL X LX 45 pl_s442 := ck_ok_s (O := p2_OL) (X := X) (LX := LX) (E := []) (mi := 45) (cuts := []) (f := 76) (S := pl_s442) (lx := none) (XF := []) ⟨pl_nmu, ck_E0⟩ ck_X0 ck_l0 (by decide +kernel)
set_option maxRecDepth 100000 in
/-- GlacierMail$State.openLetter -/
def pl_s443 : ck_Sum := ((1, 0, 0), 249, [.inr (.inr (.inl 3)), .inl (ck_one 6), .inl ((-1), 299, [])], ([], [], [(3, 6, 6, (0, 299, [(10, 0)]))]), ([(11, 47, 48), (14, 3, 3), (15, 0, 71)], []), [(.inr none, 249, ([], [], [(14, 3, 3, (1, 24, []))]))])
set_option maxRecDepth 100000 in
theorem pl_s443_s {X : Int → Int} {LX : Nat} : ck_Ok p2_OL X LX 159 pl_s443 := ck_ok_s (O := p2_OL) (X := X) (LX := LX) (E := [(45, [pl_s439, pl_s440, pl_s376, pl_s441, pl_s378, pl_s379, pl_s442, pl_s381]), (102, [pl_s382])]) (mi := 159) (cuts := []) (f := 144) (S := pl_s443) (lx := none) (XF := []) ⟨pl_nmu, ck_E1 (ck_S1 pl_s439_s (ck_S1 pl_s440_s (ck_S1 pl_s376_s (ck_S1 pl_s441_s (ck_S1 pl_s378_s (ck_S1 pl_s379_s (ck_S1 pl_s442_s (ck_S1 pl_s381_s ck_S0)))))))) (ck_E1 (ck_S1 pl_s382_s ck_S0) ck_E0)⟩ ck_X0 ck_l0 (by decide +kernel)
set_option maxRecDepth 100000 in
/-- GlacierMail.open -/
def pl_s444 : ck_Sum := ((8, 2, 12), 249, [.inr (.inr (.inl 1)), .inl (ck_one 6)], ([], zl230, [(3, 6, 6, (0, 299, [(10, 0)]))]), ([(1, 15, 15), (11, 47, 48), (14, 3, 3), (15, 0, 71), (42, 1, 2), (44, 0, 7), (45, 3, 3), (46, 0, 55), (47, 3, 3), (48, 0, 23), (49, 3, 3), (50, 0, 23), (51, 3, 3), (52, 0, 167), (53, 3, 3), (54, 0, 35), (55, 3, 3), (56, 0, 71), (57, 0, 7), (58, 3, 3), (59, 0, 55), (60, 3, 3), (61, 0, 23), (62, 3, 3), (63, 0, 23), (64, 3, 3), (65, 0, 167), (66, 3, 3), (67, 0, 35), (68, 3, 3), (69, 0, 71), (70, 0, 7), (71, 3, 3), (72, 0, 55), (73, 3, 3), (74, 0, 23), (75, 3, 3), (76, 0, 23), (77, 3, 3), (78, 0, 167), (79, 3, 3), (80, 0, 35), (81, 3, 3), (82, 0, 71), (83, 0, 7), (84, 3, 3), (85, 0, 55), (86, 3, 3), (87, 0, 23), (88, 3, 3), (89, 0, 23), (90, 3, 3), (91, 0, 167), (92, 3, 3), (93, 0, 35), (94, 3, 3), (95, 0, 71), (96, 0, 7), (97, 3, 3), (98, 0, 55), (99, 3, 3), (100, 0, 23), (101, 3, 3), (102, 0, 23), (103, 3, 3), (104, 0, 167), (105, 3, 3), (106, 0, 35), (107, 3, 3), (108, 0, 71), (109, 0, 7), (110, 3, 3), (111, 0, 55), (112, 3, 3), (113, 0, 23), (114, 3, 3), (115, 0, 23), (116, 3, 3), (117, 0, 167), (118, 3, 3), (119, 0, 35), (120, 3, 3), (121, 0, 71), (122, 0, 7), (123, 3, 3), (124, 0, 55), (125, 3, 3), (126, 0, 23), (127, 3, 3), (128, 0, 23), (129, 3, 3), (130, 0, 167), (131, 3, 3), (132, 0, 35), (133, 3, 3), (134, 0, 71), (135, 0, 7), (136, 3, 3), (137, 0, 55), (138, 3, 3), (139, 0, 23), (140, 3, 3), (141, 0, 23), (142, 3, 3), (143, 0, 167), (144, 3, 3), (145, 0, 35), (146, 3, 3), (147, 0, 71), (148, 0, 7), (149, 3, 3), (150, 0, 55), (151, 3, 3), (152, 0, 23), (153, 3, 3), (154, 0, 23), (155, 3, 3), (156, 0, 167), (157, 3, 3), (158, 0, 35), (159, 3, 3), (160, 0, 71), (161, 0, 7), (162, 3, 3), (163, 0, 55), (164, 3, 3), (165, 0, 23), (166, 3, 3), (167, 0, 23), (168, 3, 3), (169, 0, 167), (170, 3, 3), (171, 0, 35), (172, 3, 3), (173, 0, 71), (174, 0, 7), (175, 3, 3), (176, 0, 55), (177, 3, 3), (178, 0, 23), (179, 3, 3), (180, 0, 23), (181, 3, 3), (182, 0, 167), (183, 3, 3), (184, 0, 35), (185, 3, 3), (186, 0, 71), (187, 0, 7), (188, 3, 3), (189, 0, 55), (190, 3, 3), (191, 0, 23), (192, 3, 3), (193, 0, 23), (194, 3, 3), (195, 0, 167), (196, 3, 3), (197, 0, 35), (198, 3, 3), (199, 0, 71), (200, 6, 6), (204, 0, 9), (205, 0, 14849), (206, 2, 8), (220, 3, 3), (221, 0, 47)], zl104), zl245)
set_option maxRecDepth 100000 in
theorem pl_s444_s {X : Int → Int} {LX : Nat} : ck_Ok p2_OL X LX 158 pl_s444 := ck_ok_s (O := p2_OL) (X := X) (LX := LX) (E := [(143, [pl_s436]), (24, [pl_s217]), (66, [pl_s438]), (154, [pl_s341]), (10, [pl_s204]), (159, [pl_s443])]) (mi := 158) (cuts := []) (f := 140) (S := pl_s444) (lx := none) (XF := []) ⟨pl_nmu, ck_E1 (ck_S1 pl_s436_s ck_S0) (ck_E1 (ck_S1 pl_s217_s ck_S0) (ck_E1 (ck_S1 pl_s438_s ck_S0) (ck_E1 (ck_S1 pl_s341_s ck_S0) (ck_E1 (ck_S1 pl_s204_s ck_S0) (ck_E1 (ck_S1 pl_s443_s ck_S0) ck_E0)))))⟩ ck_X0 ck_l0 (by decide +kernel)
set_option maxRecDepth 100000 in
/-- GlacierMail.need -/
def pl_s445 : ck_Sum := ((6, 1, 6), 249, [.inr (.inr (.inl 1)), .inl (ck_one 7), .inl (0, 24, [])], ([], [], []), ([], []), [(.inr none, 249, ([], [], [])), (.inl 3, 249, ([], [], []))])
set_option maxRecDepth 100000 in
theorem pl_s445_s {X : Int → Int} {LX : Nat} : ck_Ok p2_OL X LX 133 pl_s445 := ck_ok_s (O := p2_OL) (X := X) (LX := LX) (E := []) (mi := 133) (cuts := []) (f := 82) (S := pl_s445) (lx := none) (XF := []) ⟨pl_nmu, ck_E0⟩ ck_X0 ck_l0 (by decide +kernel)
set_option maxRecDepth 100000 in
/-- GlacierMail.needLetter -/
def pl_s446 : ck_Sum := ((7, 1, 6), 249, [.inr (.inr (.inl 1)), .inl (ck_one 7)], ([], [], []), ([], []), [(.inl 3, 249, ([], [], [])), (.inr none, 249, ([], [], []))])
set_option maxRecDepth 100000 in
theorem pl_s446_s {X : Int → Int} {LX : Nat} : ck_Ok p2_OL X LX 143 pl_s446 := ck_ok_s (O := p2_OL) (X := X) (LX := LX) (E := [(9, [pl_s200]), (133, [pl_s445])]) (mi := 143) (cuts := []) (f := 86) (S := pl_s446) (lx := none) (XF := []) ⟨pl_nmu, ck_E1 (ck_S1 pl_s200_s ck_S0) (ck_E1 (ck_S1 pl_s445_s ck_S0) ck_E0)⟩ ck_X0 ck_l0 (by decide +kernel)
set_option maxRecDepth 100000 in
/-- GlacierMail$State.isRock -/
def pl_s447 : ck_Sum := ((1, 0, 0), 249, [.inr (.inr (.inl 3)), .inl (ck_one 7)], ([], [], []), ([], []), [(.inr (some (.inl (ck_one 0))), 249, ([], [], [])), (.inr (some (.inl (ck_one 1))), 249, ([], [], []))])
set_option maxRecDepth 100000 in
theorem pl_s447_s {X : Int → Int} {LX : Nat} : ck_Ok p2_OL X LX 28 pl_s447 := ck_ok_s (O := p2_OL) (X := X) (LX := LX) (E := [(10, [pl_s204])]) (mi := 28) (cuts := []) (f := 90) (S := pl_s447) (lx := none) (XF := []) ⟨pl_nmu, ck_E1 (ck_S1 pl_s204_s ck_S0) ck_E0⟩ ck_X0 ck_l0 (by decide +kernel)
set_option maxRecDepth 100000 in
/-- GlacierMail.waits -/
def pl_s448 : ck_Sum := ((2, 0, 0), 249, [.inr (.inr (.inl 1)), .inl (ck_one 7)], ([], [], [(3, 6, 6, (0, 299, [(10, 0)]))]), ([], []), [(.inr (some (.inl (ck_one 0))), 249, ([], [], [])), (.inr (some (.inl (ck_one 1))), 249, ([], [], []))])
set_option maxRecDepth 100000 in
theorem pl_s448_s {X : Int → Int} {LX : Nat} : ck_Ok p2_OL X LX 66 pl_s448 := ck_ok_s (O := p2_OL) (X := X) (LX := LX) (E := [(28, [pl_s447]), (10, [pl_s204, pl_s218]), (67, [pl_s219])]) (mi := 66) (cuts := []) (f := 134) (S := pl_s448) (lx := none) (XF := []) ⟨pl_nmu, ck_E1 (ck_S1 pl_s447_s ck_S0) (ck_E1 (ck_S1 pl_s204_s (ck_S1 pl_s218_s ck_S0)) (ck_E1 (ck_S1 pl_s219_s ck_S0) ck_E0))⟩ ck_X0 ck_l0 (by decide +kernel)
set_option maxRecDepth 100000 in
/-- GlacierMail$Rows.put -/
def pl_s449 : ck_Sum := ((0, 0, 0), 249, [.inr (.inr (.inl 10)), .inl (ck_one 7), .inl (ck_one 5), .inl ((-1), 299, [])], ([], [], []), ([(11, 54, 54)], []), [(.inr none, 249, ([], [], []))])
set_option maxRecDepth 100000 in
theorem pl_s449_s {X : Int → Int} {LX : Nat} : ck_Ok p2_OL X LX 45 pl_s449 := ck_ok_s (O := p2_OL) (X := X) (LX := LX) (E := []) (mi := 45) (cuts := []) (f := 116) (S := pl_s449) (lx := none) (XF := []) ⟨pl_nmu, ck_E0⟩ ck_X0 ck_l0 (by decide +kernel)
set_option maxRecDepth 100000 in
/-- GlacierMail$Rows.put -/
def pl_s450 : ck_Sum := ((0, 0, 0), 249, [.inr (.inr (.inl 10)), .inl (ck_one 7), .inl (ck_one 6), .inl (0, 299, [])], ([], [], []), ([(11, 55, 55)], []), [(.inr none, 249, ([], [], []))])
set_option maxRecDepth 100000 in
theorem pl_s450_s {X : Int → Int} {LX : Nat} : ck_Ok p2_OL X LX 45 pl_s450 := ck_ok_s (O := p2_OL) (X := X) (LX := LX) (E := []) (mi := 45) (cuts := []) (f := 116) (S := pl_s450) (lx := none) (XF := []) ⟨pl_nmu, ck_E0⟩ ck_X0 ck_l0 (by decide +kernel)
