/-! 78r86a04.sl -/
section
/-! EVERY CALL OF THE CLASS ENDS, under a law (laid by wip/am/p2l.py). -/
set_option maxRecDepth 100000 in
/-- GlacierMail$Rows.put -/
noncomputable def pl_s361 : ck_Sum := ((0, 0, 0), 249, [.inr (.inr (.inl 8)), .inl (0, 7, []), .inl (ck_one 2), .inl (ck_one (-1))], ([], [], []), (zl166, []), [(.inr none, 249, ([], [], []))])
set_option maxRecDepth 100000 in
theorem pl_s361_s {X : Int → Int} {LX : Nat} : ck_Ok p2_OL X LX 45 pl_s361 := ck_ok_s (O := p2_OL) (X := X) (LX := LX) (E := []) (mi := 45) (cuts := []) (f := 116) (S := pl_s361) (lx := none) (XF := []) ⟨pl_nmu, ck_E0⟩ ck_X0 ck_l0 (by decide +kernel)
set_option maxRecDepth 100000 in
/-- GlacierMail.need -/
noncomputable def pl_s362 : ck_Sum := ((6, 1, 6), 249, [.inr (.inr (.inl 1)), .inl ((-2147483648), (-2), []), .inl (1, 6, [])], ([], [], []), ([], []), [(.inl 3, 249, ([], [], []))])
set_option maxRecDepth 100000 in
theorem pl_s362_s {X : Int → Int} {LX : Nat} : ck_Ok p2_OL X LX 133 pl_s362 := ck_ok_s (O := p2_OL) (X := X) (LX := LX) (E := []) (mi := 133) (cuts := []) (f := 76) (S := pl_s362) (lx := none) (XF := []) ⟨pl_nmu, ck_E0⟩ ck_X0 ck_l0 (by decide +kernel)
set_option maxRecDepth 100000 in
/-- GlacierMail.needLane -/
noncomputable def pl_s363 : ck_Sum := ((7, 1, 6), 249, [.inr (.inr (.inl 1)), .inl ((-2147483648), (-2), [])], ([], [], []), ([], []), [(.inl 3, 249, ([], [], []))])
set_option maxRecDepth 100000 in
theorem pl_s363_s {X : Int → Int} {LX : Nat} : ck_Ok p2_OL X LX 132 pl_s363 := ck_ok_s (O := p2_OL) (X := X) (LX := LX) (E := [(133, [pl_s362])]) (mi := 132) (cuts := []) (f := 82) (S := pl_s363) (lx := none) (XF := []) ⟨pl_nmu, ck_E1 (ck_S1 pl_s362_s ck_S0) ck_E0⟩ ck_X0 ck_l0 (by decide +kernel)
set_option maxRecDepth 100000 in
/-- GlacierMail.watch -/
noncomputable def pl_s364 : ck_Sum := ((8, 2, 12), 249, [.inr (.inr (.inl 1)), .inl (0, 7, []), .inl ((-2147483648), (-1), [])], ([], zl230, [(3, 6, 6, (0, 299, [(10, 0)]))]), (zl167, zl104), zl244)
set_option maxRecDepth 100000 in
theorem pl_s364_s {X : Int → Int} {LX : Nat} : ck_Ok p2_OL X LX 156 pl_s364 := ck_ok_s (O := p2_OL) (X := X) (LX := LX) (E := [(139, [pl_s197]), (154, [pl_s341]), (10, [pl_s224]), (45, [pl_s361]), (132, [pl_s363])]) (mi := 156) (cuts := []) (f := 124) (S := pl_s364) (lx := none) (XF := []) ⟨pl_nmu, ck_E1 (ck_S1 pl_s197_s ck_S0) (ck_E1 (ck_S1 pl_s341_s ck_S0) (ck_E1 (ck_S1 pl_s224_s ck_S0) (ck_E1 (ck_S1 pl_s361_s ck_S0) (ck_E1 (ck_S1 pl_s363_s ck_S0) ck_E0))))⟩ ck_X0 ck_l0 (by decide +kernel)
set_option maxRecDepth 100000 in
/-- GlacierMail.watch -/
noncomputable def pl_s365 : ck_Sum := ((8, 2, 12), 249, [.inr (.inr (.inl 1)), .inl (0, 7, []), .inl (6, 2147483647, [])], ([], [], []), ([], []), [(.inl 3, 249, ([], [], []))])
set_option maxRecDepth 100000 in
theorem pl_s365_s {X : Int → Int} {LX : Nat} : ck_Ok p2_OL X LX 156 pl_s365 := ck_ok_s (O := p2_OL) (X := X) (LX := LX) (E := [(139, [pl_s197]), (132, [pl_s156])]) (mi := 156) (cuts := []) (f := 88) (S := pl_s365) (lx := none) (XF := []) ⟨pl_nmu, ck_E1 (ck_S1 pl_s197_s ck_S0) (ck_E1 (ck_S1 pl_s156_s ck_S0) ck_E0)⟩ ck_X0 ck_l0 (by decide +kernel)
set_option maxRecDepth 100000 in
/-- GlacierMail$Rows.put -/
noncomputable def pl_s366 : ck_Sum := ((0, 0, 0), 249, [.inr (.inr (.inl 8)), .inl (0, 7, []), .inl (ck_one 2), .inl (0, 5, [])], ([], [], []), (zl166, []), [(.inr none, 249, ([], [], []))])
set_option maxRecDepth 100000 in
theorem pl_s366_s {X : Int → Int} {LX : Nat} : ck_Ok p2_OL X LX 45 pl_s366 := ck_ok_s (O := p2_OL) (X := X) (LX := LX) (E := []) (mi := 45) (cuts := []) (f := 116) (S := pl_s366) (lx := none) (XF := []) ⟨pl_nmu, ck_E0⟩ ck_X0 ck_l0 (by decide +kernel)
set_option maxRecDepth 100000 in
/-- GlacierMail.watch -/
noncomputable def pl_s367 : ck_Sum := ((8, 2, 12), 249, [.inr (.inr (.inl 1)), .inl (0, 7, []), .inl (0, 5, [])], ([], zl230, [(3, 6, 6, (0, 299, [(10, 0)]))]), (zl167, zl104), zl244)
set_option maxRecDepth 100000 in
theorem pl_s367_s {X : Int → Int} {LX : Nat} : ck_Ok p2_OL X LX 156 pl_s367 := ck_ok_s (O := p2_OL) (X := X) (LX := LX) (E := [(139, [pl_s197]), (132, [pl_s159]), (154, [pl_s341]), (10, [pl_s224]), (45, [pl_s366])]) (mi := 156) (cuts := []) (f := 130) (S := pl_s367) (lx := none) (XF := []) ⟨pl_nmu, ck_E1 (ck_S1 pl_s197_s ck_S0) (ck_E1 (ck_S1 pl_s159_s ck_S0) (ck_E1 (ck_S1 pl_s341_s ck_S0) (ck_E1 (ck_S1 pl_s224_s ck_S0) (ck_E1 (ck_S1 pl_s366_s ck_S0) ck_E0))))⟩ ck_X0 ck_l0 (by decide +kernel)
set_option maxRecDepth 100000 in
/-- GlacierMail.open -/
noncomputable def pl_s368 : ck_Sum := ((8, 1, 6), 249, [.inr (.inr (.inl 1)), .inl ((-2147483648), (-1), [])], ([], [], []), ([], []), [(.inl 3, 249, ([], [], []))])
set_option maxRecDepth 100000 in
theorem pl_s368_s {X : Int → Int} {LX : Nat} : ck_Ok p2_OL X LX 158 pl_s368 := ck_ok_s (O := p2_OL) (X := X) (LX := LX) (E := [(143, [pl_s227])]) (mi := 158) (cuts := []) (f := 76) (S := pl_s368) (lx := none) (XF := []) ⟨pl_nmu, ck_E1 (ck_S1 pl_s227_s ck_S0) ck_E0⟩ ck_X0 ck_l0 (by decide +kernel)
set_option maxRecDepth 100000 in
/-- GlacierMail.open -/
noncomputable def pl_s369 : ck_Sum := ((8, 1, 6), 249, [.inr (.inr (.inl 1)), .inl (24, 2147483647, [])], ([], [], []), ([], []), [(.inl 3, 249, ([], [], []))])
set_option maxRecDepth 100000 in
theorem pl_s369_s {X : Int → Int} {LX : Nat} : ck_Ok p2_OL X LX 158 pl_s369 := ck_ok_s (O := p2_OL) (X := X) (LX := LX) (E := [(143, [pl_s230])]) (mi := 158) (cuts := []) (f := 76) (S := pl_s369) (lx := none) (XF := []) ⟨pl_nmu, ck_E1 (ck_S1 pl_s230_s ck_S0) ck_E0⟩ ck_X0 ck_l0 (by decide +kernel)
set_option maxRecDepth 100000 in
/-- GlacierMail.need -/
noncomputable def pl_s370 : ck_Sum := ((6, 1, 6), 249, [.inr (.inr (.inl 1)), .inl (ck_one 0), .inl (0, 24, [])], ([], [], []), ([], []), [(.inr none, 249, ([], [], [])), (.inl 3, 249, ([], [], []))])
set_option maxRecDepth 100000 in
theorem pl_s370_s {X : Int → Int} {LX : Nat} : ck_Ok p2_OL X LX 133 pl_s370 := ck_ok_s (O := p2_OL) (X := X) (LX := LX) (E := []) (mi := 133) (cuts := []) (f := 82) (S := pl_s370) (lx := none) (XF := []) ⟨pl_nmu, ck_E0⟩ ck_X0 ck_l0 (by decide +kernel)
set_option maxRecDepth 100000 in
/-- GlacierMail.needLetter -/
noncomputable def pl_s371 : ck_Sum := ((7, 1, 6), 249, [.inr (.inr (.inl 1)), .inl (ck_one 0)], ([], [], []), ([], []), [(.inl 3, 249, ([], [], [])), (.inr none, 249, ([], [], []))])
set_option maxRecDepth 100000 in
theorem pl_s371_s {X : Int → Int} {LX : Nat} : ck_Ok p2_OL X LX 143 pl_s371 := ck_ok_s (O := p2_OL) (X := X) (LX := LX) (E := [(9, [pl_s200]), (133, [pl_s370])]) (mi := 143) (cuts := []) (f := 86) (S := pl_s371) (lx := none) (XF := []) ⟨pl_nmu, ck_E1 (ck_S1 pl_s200_s ck_S0) (ck_E1 (ck_S1 pl_s370_s ck_S0) ck_E0)⟩ ck_X0 ck_l0 (by decide +kernel)
set_option maxRecDepth 100000 in
/-- GlacierMail$State.isRock -/
noncomputable def pl_s372 : ck_Sum := ((1, 0, 0), 249, [.inr (.inr (.inl 3)), .inl (ck_one 0)], ([], [], []), ([], []), [(.inr (some (.inl (ck_one 0))), 249, ([], [], [])), (.inr (some (.inl (ck_one 1))), 249, ([], [], []))])
set_option maxRecDepth 100000 in
theorem pl_s372_s {X : Int → Int} {LX : Nat} : ck_Ok p2_OL X LX 28 pl_s372 := ck_ok_s (O := p2_OL) (X := X) (LX := LX) (E := [(10, [pl_s204])]) (mi := 28) (cuts := []) (f := 90) (S := pl_s372) (lx := none) (XF := []) ⟨pl_nmu, ck_E1 (ck_S1 pl_s204_s ck_S0) ck_E0⟩ ck_X0 ck_l0 (by decide +kernel)
set_option maxRecDepth 100000 in
/-- GlacierMail.waits -/
noncomputable def pl_s373 : ck_Sum := ((2, 0, 0), 249, [.inr (.inr (.inl 1)), .inl (ck_one 0)], ([], [], [(3, 6, 6, (0, 299, [(10, 0)]))]), ([], []), [(.inr (some (.inl (ck_one 0))), 249, ([], [], [])), (.inr (some (.inl (ck_one 1))), 249, ([], [], []))])
set_option maxRecDepth 100000 in
theorem pl_s373_s {X : Int → Int} {LX : Nat} : ck_Ok p2_OL X LX 66 pl_s373 := ck_ok_s (O := p2_OL) (X := X) (LX := LX) (E := [(28, [pl_s372]), (10, [pl_s204, pl_s218]), (67, [pl_s219])]) (mi := 66) (cuts := []) (f := 134) (S := pl_s373) (lx := none) (XF := []) ⟨pl_nmu, ck_E1 (ck_S1 pl_s372_s ck_S0) (ck_E1 (ck_S1 pl_s204_s (ck_S1 pl_s218_s ck_S0)) (ck_E1 (ck_S1 pl_s219_s ck_S0) ck_E0))⟩ ck_X0 ck_l0 (by decide +kernel)
set_option maxRecDepth 100000 in
/-- GlacierMail$Rows.put -/
noncomputable def pl_s374 : ck_Sum := ((0, 0, 0), 249, [.inr (.inr (.inl 10)), .inl (ck_one 0), .inl (ck_one 5), .inl ((-1), 299, [])], ([], [], []), ([(11, 5, 5)], []), [(.inr none, 249, ([], [], []))])
set_option maxRecDepth 100000 in
theorem pl_s374_s {X : Int → Int} {LX : Nat} : ck_Ok p2_OL X LX 45 pl_s374 := ck_ok_s (O := p2_OL) (X := X) (LX := LX) (E := []) (mi := 45) (cuts := []) (f := 116) (S := pl_s374) (lx := none) (XF := []) ⟨pl_nmu, ck_E0⟩ ck_X0 ck_l0 (by decide +kernel)
set_option maxRecDepth 100000 in
/-- GlacierMail$Rows.put -/
noncomputable def pl_s375 : ck_Sum := ((0, 0, 0), 249, [.inr (.inr (.inl 10)), .inl (ck_one 0), .inl (ck_one 6), .inl (0, 299, [])], ([], [], []), ([(11, 6, 6)], []), [(.inr none, 249, ([], [], []))])
set_option maxRecDepth 100000 in
theorem pl_s375_s {X : Int → Int} {LX : Nat} : ck_Ok p2_OL X LX 45 pl_s375 := ck_ok_s (O := p2_OL) (X := X) (LX := LX) (E := []) (mi := 45) (cuts := []) (f := 116) (S := pl_s375) (lx := none) (XF := []) ⟨pl_nmu, ck_E0⟩ ck_X0 ck_l0 (by decide +kernel)
set_option maxRecDepth 100000 in
/-- GlacierMail$Rows.put -/
noncomputable def pl_s376 : ck_Sum := ((0, 0, 0), 249, [.inr (.inr (.inl 14)), .inl (0, 23, []), .inl (ck_one 0), .inl (0, 299, [])], ([], [], []), (zl172, []), [(.inr none, 249, ([], [], []))])
set_option maxRecDepth 100000 in
theorem pl_s376_s {X : Int → Int} {LX : Nat} : ck_Ok p2_OL X LX 45 pl_s376 := ck_ok_s (O := p2_OL) (X := X) (LX := LX) (E := []) (mi := 45) (cuts := []) (f := 116) (S := pl_s376) (lx := none) (XF := []) ⟨pl_nmu, ck_E0⟩ ck_X0 ck_l0 (by decide +kernel)
set_option maxRecDepth 100000 in
/-- GlacierMail$Rows.put -/
noncomputable def pl_s377 : ck_Sum := ((0, 0, 0), 249, [.inr (.inr (.inl 14)), .inl (0, 23, []), .inl (ck_one 1), .inl (ck_one 0)], ([], [], []), (zl173, []), [(.inr none, 249, ([], [], []))])
set_option maxRecDepth 100000 in
theorem pl_s377_s {X : Int → Int} {LX : Nat} : ck_Ok p2_OL X LX 45 pl_s377 := ck_ok_s (O := p2_OL) (X := X) (LX := LX) (E := []) (mi := 45) (cuts := []) (f := 116) (S := pl_s377) (lx := none) (XF := []) ⟨pl_nmu, ck_E0⟩ ck_X0 ck_l0 (by decide +kernel)
set_option maxRecDepth 100000 in
/-- GlacierMail$Rows.put -/
noncomputable def pl_s378 : ck_Sum := ((0, 0, 0), 249, [.inr (.inr (.inl 14)), .inl (0, 23, []), .inl (ck_one 2), .inl ((-1), 299, [])], ([], [], []), (zl174, []), [(.inr none, 249, ([], [], []))])
set_option maxRecDepth 100000 in
theorem pl_s378_s {X : Int → Int} {LX : Nat} : ck_Ok p2_OL X LX 45 pl_s378 := ck_ok_s (O := p2_OL) (X := X) (LX := LX) (E := []) (mi := 45) (cuts := []) (f := 116) (S := pl_s378) (lx := none) (XF := []) ⟨pl_nmu, ck_E0⟩ ck_X0 ck_l0 (by decide +kernel)
set_option maxRecDepth 100000 in
/-- GlacierMail$Rows.put -/
noncomputable def pl_s379 : ck_Sum := ((0, 0, 0), 249, [.inr (.inr (.inl 14)), .inl (ck_one (-1)), .inl (ck_one 0), .inl (0, 299, [])], ([], [], []), ([], []), [(.inr none, 249, ([], [], []))])
set_option maxRecDepth 100000 in
theorem pl_s379_s {X : Int → Int} {LX : Nat} : ck_Ok p2_OL X LX 45 pl_s379 := ck_ok_s (O := p2_OL) (X := X) (LX := LX) (E := []) (mi := 45) (cuts := []) (f := 76) (S := pl_s379) (lx := none) (XF := []) ⟨pl_nmu, ck_E0⟩ ck_X0 ck_l0 (by decide +kernel)
set_option maxRecDepth 100000 in
/-- GlacierMail$Rows.put -/
noncomputable def pl_s380 : ck_Sum := ((0, 0, 0), 249, [.inr (.inr (.inl 14)), .inl (ck_one (-1)), .inl (ck_one 1), .inl (ck_one 0)], ([], [], []), ([], []), [(.inr none, 249, ([], [], []))])
set_option maxRecDepth 100000 in
theorem pl_s380_s {X : Int → Int} {LX : Nat} : ck_Ok p2_OL X LX 45 pl_s380 := ck_ok_s (O := p2_OL) (X := X) (LX := LX) (E := []) (mi := 45) (cuts := []) (f := 76) (S := pl_s380) (lx := none) (XF := []) ⟨pl_nmu, ck_E0⟩ ck_X0 ck_l0 (by decide +kernel)
set_option maxRecDepth 100000 in
/-- GlacierMail$Rows.put -/
noncomputable def pl_s381 : ck_Sum := ((0, 0, 0), 249, [.inr (.inr (.inl 14)), .inl (ck_one (-1)), .inl (ck_one 2), .inl ((-1), 299, [])], ([], [], []), ([], []), [(.inr none, 249, ([], [], []))])
set_option maxRecDepth 100000 in
theorem pl_s381_s {X : Int → Int} {LX : Nat} : ck_Ok p2_OL X LX 45 pl_s381 := ck_ok_s (O := p2_OL) (X := X) (LX := LX) (E := []) (mi := 45) (cuts := []) (f := 76) (S := pl_s381) (lx := none) (XF := []) ⟨pl_nmu, ck_E0⟩ ck_X0 ck_l0 (by decide +kernel)
set_option maxRecDepth 100000 in
/-- GlacierMail$Rows.add -/
noncomputable def pl_s382 : ck_Sum := ((0, 0, 0), 249, [.inr (.inr (.inl 14))], ([], [], []), ([(14, 3, 3)], []), [(.inr (some (.inl (0, 23, []))), 249, ([], [], [(14, 3, 3, (1, 24, []))])), (.inr (some (.inl (ck_one (-1)))), 249, ([], [], [(14, 3, 3, ck_one 24)]))])
set_option maxRecDepth 100000 in
theorem pl_s382_s {X : Int → Int} {LX : Nat} : ck_Ok p2_OL X LX 102 pl_s382 := ck_ok_s (O := p2_OL) (X := X) (LX := LX) (E := []) (mi := 102) (cuts := []) (f := 102) (S := pl_s382) (lx := none) (XF := []) ⟨pl_nmu, ck_E0⟩ ck_X0 ck_l0 (by decide +kernel)
set_option maxRecDepth 100000 in
/-- GlacierMail$State.openLetter -/
noncomputable def pl_s383 : ck_Sum := ((1, 0, 0), 249, [.inr (.inr (.inl 3)), .inl (ck_one 0), .inl ((-1), 299, [])], ([], [], [(3, 6, 6, (0, 299, [(10, 0)]))]), ([(11, 5, 6), (14, 3, 3), (15, 0, 71)], []), [(.inr none, 249, ([], [], [(14, 3, 3, (1, 24, []))]))])
set_option maxRecDepth 100000 in
theorem pl_s383_s {X : Int → Int} {LX : Nat} : ck_Ok p2_OL X LX 159 pl_s383 := ck_ok_s (O := p2_OL) (X := X) (LX := LX) (E := [(45, [pl_s374, pl_s375, pl_s376, pl_s377, pl_s378, pl_s379, pl_s380, pl_s381]), (102, [pl_s382])]) (mi := 159) (cuts := []) (f := 144) (S := pl_s383) (lx := none) (XF := []) ⟨pl_nmu, ck_E1 (ck_S1 pl_s374_s (ck_S1 pl_s375_s (ck_S1 pl_s376_s (ck_S1 pl_s377_s (ck_S1 pl_s378_s (ck_S1 pl_s379_s (ck_S1 pl_s380_s (ck_S1 pl_s381_s ck_S0)))))))) (ck_E1 (ck_S1 pl_s382_s ck_S0) ck_E0)⟩ ck_X0 ck_l0 (by decide +kernel)
set_option maxRecDepth 100000 in
/-- GlacierMail.open -/
noncomputable def pl_s384 : ck_Sum := ((8, 2, 12), 249, [.inr (.inr (.inl 1)), .inl (ck_one 0)], ([], zl230, [(3, 6, 6, (0, 299, [(10, 0)]))]), ([(1, 15, 15), (11, 5, 6), (14, 3, 3), (15, 0, 71), (42, 1, 2), (44, 0, 7), (45, 3, 3), (46, 0, 55), (47, 3, 3), (48, 0, 23), (49, 3, 3), (50, 0, 23), (51, 3, 3), (52, 0, 167), (53, 3, 3), (54, 0, 35), (55, 3, 3), (56, 0, 71), (57, 0, 7), (58, 3, 3), (59, 0, 55), (60, 3, 3), (61, 0, 23), (62, 3, 3), (63, 0, 23), (64, 3, 3), (65, 0, 167), (66, 3, 3), (67, 0, 35), (68, 3, 3), (69, 0, 71), (70, 0, 7), (71, 3, 3), (72, 0, 55), (73, 3, 3), (74, 0, 23), (75, 3, 3), (76, 0, 23), (77, 3, 3), (78, 0, 167), (79, 3, 3), (80, 0, 35), (81, 3, 3), (82, 0, 71), (83, 0, 7), (84, 3, 3), (85, 0, 55), (86, 3, 3), (87, 0, 23), (88, 3, 3), (89, 0, 23), (90, 3, 3), (91, 0, 167), (92, 3, 3), (93, 0, 35), (94, 3, 3), (95, 0, 71), (96, 0, 7), (97, 3, 3), (98, 0, 55), (99, 3, 3), (100, 0, 23), (101, 3, 3), (102, 0, 23), (103, 3, 3), (104, 0, 167), (105, 3, 3), (106, 0, 35), (107, 3, 3), (108, 0, 71), (109, 0, 7), (110, 3, 3), (111, 0, 55), (112, 3, 3), (113, 0, 23), (114, 3, 3), (115, 0, 23), (116, 3, 3), (117, 0, 167), (118, 3, 3), (119, 0, 35), (120, 3, 3), (121, 0, 71), (122, 0, 7), (123, 3, 3), (124, 0, 55), (125, 3, 3), (126, 0, 23), (127, 3, 3), (128, 0, 23), (129, 3, 3), (130, 0, 167), (131, 3, 3), (132, 0, 35), (133, 3, 3), (134, 0, 71), (135, 0, 7), (136, 3, 3), (137, 0, 55), (138, 3, 3), (139, 0, 23), (140, 3, 3), (141, 0, 23), (142, 3, 3), (143, 0, 167), (144, 3, 3), (145, 0, 35), (146, 3, 3), (147, 0, 71), (148, 0, 7), (149, 3, 3), (150, 0, 55), (151, 3, 3), (152, 0, 23), (153, 3, 3), (154, 0, 23), (155, 3, 3), (156, 0, 167), (157, 3, 3), (158, 0, 35), (159, 3, 3), (160, 0, 71), (161, 0, 7), (162, 3, 3), (163, 0, 55), (164, 3, 3), (165, 0, 23), (166, 3, 3), (167, 0, 23), (168, 3, 3), (169, 0, 167), (170, 3, 3), (171, 0, 35), (172, 3, 3), (173, 0, 71), (174, 0, 7), (175, 3, 3), (176, 0, 55), (177, 3, 3), (178, 0, 23), (179, 3, 3), (180, 0, 23), (181, 3, 3), (182, 0, 167), (183, 3, 3), (184, 0, 35), (185, 3, 3), (186, 0, 71), (187, 0, 7), (188, 3, 3), (189, 0, 55), (190, 3, 3), (191, 0, 23), (192, 3, 3), (193, 0, 23), (194, 3, 3), (195, 0, 167), (196, 3, 3), (197, 0, 35), (198, 3, 3), (199, 0, 71), (200, 6, 6), (204, 0, 9), (205, 0, 14849), (206, 2, 8), (220, 3, 3), (221, 0, 47)], zl104), zl245)
set_option maxRecDepth 100000 in
theorem pl_s384_s {X : Int → Int} {LX : Nat} : ck_Ok p2_OL X LX 158 pl_s384 := ck_ok_s (O := p2_OL) (X := X) (LX := LX) (E := [(143, [pl_s371]), (24, [pl_s217]), (66, [pl_s373]), (154, [pl_s341]), (10, [pl_s204]), (159, [pl_s383])]) (mi := 158) (cuts := []) (f := 140) (S := pl_s384) (lx := none) (XF := []) ⟨pl_nmu, ck_E1 (ck_S1 pl_s371_s ck_S0) (ck_E1 (ck_S1 pl_s217_s ck_S0) (ck_E1 (ck_S1 pl_s373_s ck_S0) (ck_E1 (ck_S1 pl_s341_s ck_S0) (ck_E1 (ck_S1 pl_s204_s ck_S0) (ck_E1 (ck_S1 pl_s383_s ck_S0) ck_E0)))))⟩ ck_X0 ck_l0 (by decide +kernel)
set_option maxRecDepth 100000 in
/-- GlacierMail.need -/
noncomputable def pl_s385 : ck_Sum := ((6, 1, 6), 249, [.inr (.inr (.inl 1)), .inl (ck_one 1), .inl (0, 24, [])], ([], [], []), ([], []), [(.inr none, 249, ([], [], [])), (.inl 3, 249, ([], [], []))])
set_option maxRecDepth 100000 in
theorem pl_s385_s {X : Int → Int} {LX : Nat} : ck_Ok p2_OL X LX 133 pl_s385 := ck_ok_s (O := p2_OL) (X := X) (LX := LX) (E := []) (mi := 133) (cuts := []) (f := 82) (S := pl_s385) (lx := none) (XF := []) ⟨pl_nmu, ck_E0⟩ ck_X0 ck_l0 (by decide +kernel)
set_option maxRecDepth 100000 in
/-- GlacierMail.needLetter -/
noncomputable def pl_s386 : ck_Sum := ((7, 1, 6), 249, [.inr (.inr (.inl 1)), .inl (ck_one 1)], ([], [], []), ([], []), [(.inl 3, 249, ([], [], [])), (.inr none, 249, ([], [], []))])
set_option maxRecDepth 100000 in
theorem pl_s386_s {X : Int → Int} {LX : Nat} : ck_Ok p2_OL X LX 143 pl_s386 := ck_ok_s (O := p2_OL) (X := X) (LX := LX) (E := [(9, [pl_s200]), (133, [pl_s385])]) (mi := 143) (cuts := []) (f := 86) (S := pl_s386) (lx := none) (XF := []) ⟨pl_nmu, ck_E1 (ck_S1 pl_s200_s ck_S0) (ck_E1 (ck_S1 pl_s385_s ck_S0) ck_E0)⟩ ck_X0 ck_l0 (by decide +kernel)
set_option maxRecDepth 100000 in
/-- GlacierMail$State.isRock -/
noncomputable def pl_s387 : ck_Sum := ((1, 0, 0), 249, [.inr (.inr (.inl 3)), .inl (ck_one 1)], ([], [], []), ([], []), [(.inr (some (.inl (ck_one 0))), 249, ([], [], [])), (.inr (some (.inl (ck_one 1))), 249, ([], [], []))])
set_option maxRecDepth 100000 in
theorem pl_s387_s {X : Int → Int} {LX : Nat} : ck_Ok p2_OL X LX 28 pl_s387 := ck_ok_s (O := p2_OL) (X := X) (LX := LX) (E := [(10, [pl_s204])]) (mi := 28) (cuts := []) (f := 90) (S := pl_s387) (lx := none) (XF := []) ⟨pl_nmu, ck_E1 (ck_S1 pl_s204_s ck_S0) ck_E0⟩ ck_X0 ck_l0 (by decide +kernel)
set_option maxRecDepth 100000 in
/-- GlacierMail.waits -/
noncomputable def pl_s388 : ck_Sum := ((2, 0, 0), 249, [.inr (.inr (.inl 1)), .inl (ck_one 1)], ([], [], [(3, 6, 6, (0, 299, [(10, 0)]))]), ([], []), [(.inr (some (.inl (ck_one 0))), 249, ([], [], [])), (.inr (some (.inl (ck_one 1))), 249, ([], [], []))])
set_option maxRecDepth 100000 in
theorem pl_s388_s {X : Int → Int} {LX : Nat} : ck_Ok p2_OL X LX 66 pl_s388 := ck_ok_s (O := p2_OL) (X := X) (LX := LX) (E := [(28, [pl_s387]), (10, [pl_s204, pl_s218]), (67, [pl_s219])]) (mi := 66) (cuts := []) (f := 134) (S := pl_s388) (lx := none) (XF := []) ⟨pl_nmu, ck_E1 (ck_S1 pl_s387_s ck_S0) (ck_E1 (ck_S1 pl_s204_s (ck_S1 pl_s218_s ck_S0)) (ck_E1 (ck_S1 pl_s219_s ck_S0) ck_E0))⟩ ck_X0 ck_l0 (by decide +kernel)
set_option maxRecDepth 100000 in
/-- GlacierMail$Rows.put -/
noncomputable def pl_s389 : ck_Sum := ((0, 0, 0), 249, [.inr (.inr (.inl 10)), .inl (ck_one 1), .inl (ck_one 5), .inl ((-1), 299, [])], ([], [], []), ([(11, 12, 12)], []), [(.inr none, 249, ([], [], []))])
set_option maxRecDepth 100000 in
theorem pl_s389_s {X : Int → Int} {LX : Nat} : ck_Ok p2_OL X LX 45 pl_s389 := ck_ok_s (O := p2_OL) (X := X) (LX := LX) (E := []) (mi := 45) (cuts := []) (f := 116) (S := pl_s389) (lx := none) (XF := []) ⟨pl_nmu, ck_E0⟩ ck_X0 ck_l0 (by decide +kernel)
set_option maxRecDepth 100000 in
/-- GlacierMail$Rows.put -/
noncomputable def pl_s390 : ck_Sum := ((0, 0, 0), 249, [.inr (.inr (.inl 10)), .inl (ck_one 1), .inl (ck_one 6), .inl (0, 299, [])], ([], [], []), ([(11, 13, 13)], []), [(.inr none, 249, ([], [], []))])
set_option maxRecDepth 100000 in
theorem pl_s390_s {X : Int → Int} {LX : Nat} : ck_Ok p2_OL X LX 45 pl_s390 := ck_ok_s (O := p2_OL) (X := X) (LX := LX) (E := []) (mi := 45) (cuts := []) (f := 116) (S := pl_s390) (lx := none) (XF := []) ⟨pl_nmu, ck_E0⟩ ck_X0 ck_l0 (by decide +kernel)
set_option maxRecDepth 100000 in
/-- GlacierMail$Rows.put -/
noncomputable def pl_s391 : ck_Sum := ((0, 0, 0), 249, [.inr (.inr (.inl 14)), .inl (0, 23, []), .inl (ck_one 1), .inl (ck_one 1)], ([], [], []), (zl173, []), [(.inr none, 249, ([], [], []))])
set_option maxRecDepth 100000 in
theorem pl_s391_s {X : Int → Int} {LX : Nat} : ck_Ok p2_OL X LX 45 pl_s391 := ck_ok_s (O := p2_OL) (X := X) (LX := LX) (E := []) (mi := 45) (cuts := []) (f := 116) (S := pl_s391) (lx := none) (XF := []) ⟨pl_nmu, ck_E0⟩ ck_X0 ck_l0 (by decide +kernel)
set_option maxRecDepth 100000 in
/-- GlacierMail$Rows.put -/
noncomputable def pl_s392 : ck_Sum := ((0, 0, 0), 249, [.inr (.inr (.inl 14)), .inl (ck_one (-1)), .inl (ck_one 1), .inl (ck_one 1)], ([], [], []), ([], []), [(.inr none, 249, ([], [], []))])
set_option maxRecDepth 100000 in
theorem pl_s392_s {X : Int → Int} {LX : Nat} : ck_Ok p2_OL X LX 45 pl_s392 := ck_ok_s (O := p2_OL) (X := X) (LX := LX) (E := []) (mi := 45) (cuts := []) (f := 76) (S := pl_s392) (lx := none) (XF := []) ⟨pl_nmu, ck_E0⟩ ck_X0 ck_l0 (by decide +kernel)
set_option maxRecDepth 100000 in
/-- GlacierMail$State.openLetter -/
noncomputable def pl_s393 : ck_Sum := ((1, 0, 0), 249, [.inr (.inr (.inl 3)), .inl (ck_one 1), .inl ((-1), 299, [])], ([], [], [(3, 6, 6, (0, 299, [(10, 0)]))]), ([(11, 12, 13), (14, 3, 3), (15, 0, 71)], []), [(.inr none, 249, ([], [], [(14, 3, 3, (1, 24, []))]))])
set_option maxRecDepth 100000 in
theorem pl_s393_s {X : Int → Int} {LX : Nat} : ck_Ok p2_OL X LX 159 pl_s393 := ck_ok_s (O := p2_OL) (X := X) (LX := LX) (E := [(45, [pl_s389, pl_s390, pl_s376, pl_s391, pl_s378, pl_s379, pl_s392, pl_s381]), (102, [pl_s382])]) (mi := 159) (cuts := []) (f := 144) (S := pl_s393) (lx := none) (XF := []) ⟨pl_nmu, ck_E1 (ck_S1 pl_s389_s (ck_S1 pl_s390_s (ck_S1 pl_s376_s (ck_S1 pl_s391_s (ck_S1 pl_s378_s (ck_S1 pl_s379_s (ck_S1 pl_s392_s (ck_S1 pl_s381_s ck_S0)))))))) (ck_E1 (ck_S1 pl_s382_s ck_S0) ck_E0)⟩ ck_X0 ck_l0 (by decide +kernel)
set_option maxRecDepth 100000 in
/-- GlacierMail.open -/
noncomputable def pl_s394 : ck_Sum := ((8, 2, 12), 249, [.inr (.inr (.inl 1)), .inl (ck_one 1)], ([], zl230, [(3, 6, 6, (0, 299, [(10, 0)]))]), ([(1, 15, 15), (11, 12, 13), (14, 3, 3), (15, 0, 71), (42, 1, 2), (44, 0, 7), (45, 3, 3), (46, 0, 55), (47, 3, 3), (48, 0, 23), (49, 3, 3), (50, 0, 23), (51, 3, 3), (52, 0, 167), (53, 3, 3), (54, 0, 35), (55, 3, 3), (56, 0, 71), (57, 0, 7), (58, 3, 3), (59, 0, 55), (60, 3, 3), (61, 0, 23), (62, 3, 3), (63, 0, 23), (64, 3, 3), (65, 0, 167), (66, 3, 3), (67, 0, 35), (68, 3, 3), (69, 0, 71), (70, 0, 7), (71, 3, 3), (72, 0, 55), (73, 3, 3), (74, 0, 23), (75, 3, 3), (76, 0, 23), (77, 3, 3), (78, 0, 167), (79, 3, 3), (80, 0, 35), (81, 3, 3), (82, 0, 71), (83, 0, 7), (84, 3, 3), (85, 0, 55), (86, 3, 3), (87, 0, 23), (88, 3, 3), (89, 0, 23), (90, 3, 3), (91, 0, 167), (92, 3, 3), (93, 0, 35), (94, 3, 3), (95, 0, 71), (96, 0, 7), (97, 3, 3), (98, 0, 55), (99, 3, 3), (100, 0, 23), (101, 3, 3), (102, 0, 23), (103, 3, 3), (104, 0, 167), (105, 3, 3), (106, 0, 35), (107, 3, 3), (108, 0, 71), (109, 0, 7), (110, 3, 3), (111, 0, 55), (112, 3, 3), (113, 0, 23), (114, 3, 3), (115, 0, 23), (116, 3, 3), (117, 0, 167), (118, 3, 3), (119, 0, 35), (120, 3, 3), (121, 0, 71), (122, 0, 7), (123, 3, 3), (124, 0, 55), (125, 3, 3), (126, 0, 23), (127, 3, 3), (128, 0, 23), (129, 3, 3), (130, 0, 167), (131, 3, 3), (132, 0, 35), (133, 3, 3), (134, 0, 71), (135, 0, 7), (136, 3, 3), (137, 0, 55), (138, 3, 3), (139, 0, 23), (140, 3, 3), (141, 0, 23), (142, 3, 3), (143, 0, 167), (144, 3, 3), (145, 0, 35), (146, 3, 3), (147, 0, 71), (148, 0, 7), (149, 3, 3), (150, 0, 55), (151, 3, 3), (152, 0, 23), (153, 3, 3), (154, 0, 23), (155, 3, 3), (156, 0, 167), (157, 3, 3), (158, 0, 35), (159, 3, 3), (160, 0, 71), (161, 0, 7), (162, 3, 3), (163, 0, 55), (164, 3, 3), (165, 0, 23), (166, 3, 3), (167, 0, 23), (168, 3, 3), (169, 0, 167), (170, 3, 3), (171, 0, 35), (172, 3, 3), (173, 0, 71), (174, 0, 7), (175, 3, 3), (176, 0, 55), (177, 3, 3), (178, 0, 23), (179, 3, 3), (180, 0, 23), (181, 3, 3), (182, 0, 167), (183, 3, 3), (184, 0, 35), (185, 3, 3), (186, 0, 71), (187, 0, 7), (188, 3, 3), (189, 0, 55), (190, 3, 3), (191, 0, 23), (192, 3, 3), (193, 0, 23), (194, 3, 3), (195, 0, 167), (196, 3, 3), (197, 0, 35), (198, 3, 3), (199, 0, 71), (200, 6, 6), (204, 0, 9), (205, 0, 14849), (206, 2, 8), (220, 3, 3), (221, 0, 47)], zl104), zl245)
set_option maxRecDepth 100000 in
theorem pl_s394_s {X : Int → Int} {LX : Nat} : ck_Ok p2_OL X LX 158 pl_s394 := ck_ok_s (O := p2_OL) (X := X) (LX := LX) (E := [(143, [pl_s386]), (24, [pl_s217]), (66, [pl_s388]), (154, [pl_s341]), (10, [pl_s204]), (159, [pl_s393])]) (mi := 158) (cuts := []) (f := 140) (S := pl_s394) (lx := none) (XF := []) ⟨pl_nmu, ck_E1 (ck_S1 pl_s386_s ck_S0) (ck_E1 (ck_S1 pl_s217_s ck_S0) (ck_E1 (ck_S1 pl_s388_s ck_S0) (ck_E1 (ck_S1 pl_s341_s ck_S0) (ck_E1 (ck_S1 pl_s204_s ck_S0) (ck_E1 (ck_S1 pl_s393_s ck_S0) ck_E0)))))⟩ ck_X0 ck_l0 (by decide +kernel)
set_option maxRecDepth 100000 in
/-- GlacierMail.need -/
noncomputable def pl_s395 : ck_Sum := ((6, 1, 6), 249, [.inr (.inr (.inl 1)), .inl (ck_one 2), .inl (0, 24, [])], ([], [], []), ([], []), [(.inr none, 249, ([], [], [])), (.inl 3, 249, ([], [], []))])
set_option maxRecDepth 100000 in
theorem pl_s395_s {X : Int → Int} {LX : Nat} : ck_Ok p2_OL X LX 133 pl_s395 := ck_ok_s (O := p2_OL) (X := X) (LX := LX) (E := []) (mi := 133) (cuts := []) (f := 82) (S := pl_s395) (lx := none) (XF := []) ⟨pl_nmu, ck_E0⟩ ck_X0 ck_l0 (by decide +kernel)
set_option maxRecDepth 100000 in
/-- GlacierMail.needLetter -/
noncomputable def pl_s396 : ck_Sum := ((7, 1, 6), 249, [.inr (.inr (.inl 1)), .inl (ck_one 2)], ([], [], []), ([], []), [(.inl 3, 249, ([], [], [])), (.inr none, 249, ([], [], []))])
set_option maxRecDepth 100000 in
theorem pl_s396_s {X : Int → Int} {LX : Nat} : ck_Ok p2_OL X LX 143 pl_s396 := ck_ok_s (O := p2_OL) (X := X) (LX := LX) (E := [(9, [pl_s200]), (133, [pl_s395])]) (mi := 143) (cuts := []) (f := 86) (S := pl_s396) (lx := none) (XF := []) ⟨pl_nmu, ck_E1 (ck_S1 pl_s200_s ck_S0) (ck_E1 (ck_S1 pl_s395_s ck_S0) ck_E0)⟩ ck_X0 ck_l0 (by decide +kernel)
set_option maxRecDepth 100000 in
/-- GlacierMail$State.isRock -/
noncomputable def pl_s397 : ck_Sum := ((1, 0, 0), 249, [.inr (.inr (.inl 3)), .inl (ck_one 2)], ([], [], []), ([], []), [(.inr (some (.inl (ck_one 0))), 249, ([], [], [])), (.inr (some (.inl (ck_one 1))), 249, ([], [], []))])
set_option maxRecDepth 100000 in
theorem pl_s397_s {X : Int → Int} {LX : Nat} : ck_Ok p2_OL X LX 28 pl_s397 := ck_ok_s (O := p2_OL) (X := X) (LX := LX) (E := [(10, [pl_s204])]) (mi := 28) (cuts := []) (f := 90) (S := pl_s397) (lx := none) (XF := []) ⟨pl_nmu, ck_E1 (ck_S1 pl_s204_s ck_S0) ck_E0⟩ ck_X0 ck_l0 (by decide +kernel)
set_option maxRecDepth 100000 in
/-- GlacierMail.waits -/
noncomputable def pl_s398 : ck_Sum := ((2, 0, 0), 249, [.inr (.inr (.inl 1)), .inl (ck_one 2)], ([], [], [(3, 6, 6, (0, 299, [(10, 0)]))]), ([], []), [(.inr (some (.inl (ck_one 0))), 249, ([], [], [])), (.inr (some (.inl (ck_one 1))), 249, ([], [], []))])
set_option maxRecDepth 100000 in
theorem pl_s398_s {X : Int → Int} {LX : Nat} : ck_Ok p2_OL X LX 66 pl_s398 := ck_ok_s (O := p2_OL) (X := X) (LX := LX) (E := [(28, [pl_s397]), (10, [pl_s204, pl_s218]), (67, [pl_s219])]) (mi := 66) (cuts := []) (f := 134) (S := pl_s398) (lx := none) (XF := []) ⟨pl_nmu, ck_E1 (ck_S1 pl_s397_s ck_S0) (ck_E1 (ck_S1 pl_s204_s (ck_S1 pl_s218_s ck_S0)) (ck_E1 (ck_S1 pl_s219_s ck_S0) ck_E0))⟩ ck_X0 ck_l0 (by decide +kernel)
set_option maxRecDepth 100000 in
/-- GlacierMail$Rows.put -/
noncomputable def pl_s399 : ck_Sum := ((0, 0, 0), 249, [.inr (.inr (.inl 10)), .inl (ck_one 2), .inl (ck_one 5), .inl ((-1), 299, [])], ([], [], []), ([(11, 19, 19)], []), [(.inr none, 249, ([], [], []))])
set_option maxRecDepth 100000 in
theorem pl_s399_s {X : Int → Int} {LX : Nat} : ck_Ok p2_OL X LX 45 pl_s399 := ck_ok_s (O := p2_OL) (X := X) (LX := LX) (E := []) (mi := 45) (cuts := []) (f := 116) (S := pl_s399) (lx := none) (XF := []) ⟨pl_nmu, ck_E0⟩ ck_X0 ck_l0 (by decide +kernel)
set_option maxRecDepth 100000 in
/-- GlacierMail$Rows.put -/
noncomputable def pl_s400 : ck_Sum := ((0, 0, 0), 249, [.inr (.inr (.inl 10)), .inl (ck_one 2), .inl (ck_one 6), .inl (0, 299, [])], ([], [], []), ([(11, 20, 20)], []), [(.inr none, 249, ([], [], []))])
set_option maxRecDepth 100000 in
theorem pl_s400_s {X : Int → Int} {LX : Nat} : ck_Ok p2_OL X LX 45 pl_s400 := ck_ok_s (O := p2_OL) (X := X) (LX := LX) (E := []) (mi := 45) (cuts := []) (f := 116) (S := pl_s400) (lx := none) (XF := []) ⟨pl_nmu, ck_E0⟩ ck_X0 ck_l0 (by decide +kernel)
set_option maxRecDepth 100000 in
/-- GlacierMail$Rows.put -/
noncomputable def pl_s401 : ck_Sum := ((0, 0, 0), 249, [.inr (.inr (.inl 14)), .inl (0, 23, []), .inl (ck_one 1), .inl (ck_one 2)], ([], [], []), (zl173, []), [(.inr none, 249, ([], [], []))])
set_option maxRecDepth 100000 in
theorem pl_s401_s {X : Int → Int} {LX : Nat} : ck_Ok p2_OL X LX 45 pl_s401 := ck_ok_s (O := p2_OL) (X := X) (LX := LX) (E := []) (mi := 45) (cuts := []) (f := 116) (S := pl_s401) (lx := none) (XF := []) ⟨pl_nmu, ck_E0⟩ ck_X0 ck_l0 (by decide +kernel)
set_option maxRecDepth 100000 in
/-- GlacierMail$Rows.put -/
noncomputable def pl_s402 : ck_Sum := ((0, 0, 0), 249, [.inr (.inr (.inl 14)), .inl (ck_one (-1)), .inl (ck_one 1), .inl (ck_one 2)], ([], [], []), ([], []), [(.inr none, 249, ([], [], []))])
set_option maxRecDepth 100000 in
theorem pl_s402_s {X : Int → Int} {LX : Nat} : ck_Ok p2_OL X LX 45 pl_s402 := ck_ok_s (O := p2_OL) (X := X) (LX := LX) (E := []) (mi := 45) (cuts := []) (f := 76) (S := pl_s402) (lx := none) (XF := []) ⟨pl_nmu, ck_E0⟩ ck_X0 ck_l0 (by decide +kernel)
set_option maxRecDepth 100000 in
/-- GlacierMail$State.openLetter -/
noncomputable def pl_s403 : ck_Sum := ((1, 0, 0), 249, [.inr (.inr (.inl 3)), .inl (ck_one 2), .inl ((-1), 299, [])], ([], [], [(3, 6, 6, (0, 299, [(10, 0)]))]), ([(11, 19, 20), (14, 3, 3), (15, 0, 71)], []), [(.inr none, 249, ([], [], [(14, 3, 3, (1, 24, []))]))])
set_option maxRecDepth 100000 in
theorem pl_s403_s {X : Int → Int} {LX : Nat} : ck_Ok p2_OL X LX 159 pl_s403 := ck_ok_s (O := p2_OL) (X := X) (LX := LX) (E := [(45, [pl_s399, pl_s400, pl_s376, pl_s401, pl_s378, pl_s379, pl_s402, pl_s381]), (102, [pl_s382])]) (mi := 159) (cuts := []) (f := 144) (S := pl_s403) (lx := none) (XF := []) ⟨pl_nmu, ck_E1 (ck_S1 pl_s399_s (ck_S1 pl_s400_s (ck_S1 pl_s376_s (ck_S1 pl_s401_s (ck_S1 pl_s378_s (ck_S1 pl_s379_s (ck_S1 pl_s402_s (ck_S1 pl_s381_s ck_S0)))))))) (ck_E1 (ck_S1 pl_s382_s ck_S0) ck_E0)⟩ ck_X0 ck_l0 (by decide +kernel)
set_option maxRecDepth 100000 in
/-- GlacierMail.open -/
noncomputable def pl_s404 : ck_Sum := ((8, 2, 12), 249, [.inr (.inr (.inl 1)), .inl (ck_one 2)], ([], zl230, [(3, 6, 6, (0, 299, [(10, 0)]))]), ([(1, 15, 15), (11, 19, 20), (14, 3, 3), (15, 0, 71), (42, 1, 2), (44, 0, 7), (45, 3, 3), (46, 0, 55), (47, 3, 3), (48, 0, 23), (49, 3, 3), (50, 0, 23), (51, 3, 3), (52, 0, 167), (53, 3, 3), (54, 0, 35), (55, 3, 3), (56, 0, 71), (57, 0, 7), (58, 3, 3), (59, 0, 55), (60, 3, 3), (61, 0, 23), (62, 3, 3), (63, 0, 23), (64, 3, 3), (65, 0, 167), (66, 3, 3), (67, 0, 35), (68, 3, 3), (69, 0, 71), (70, 0, 7), (71, 3, 3), (72, 0, 55), (73, 3, 3), (74, 0, 23), (75, 3, 3), (76, 0, 23), (77, 3, 3), (78, 0, 167), (79, 3, 3), (80, 0, 35), (81, 3, 3), (82, 0, 71), (83, 0, 7), (84, 3, 3), (85, 0, 55), (86, 3, 3), (87, 0, 23), (88, 3, 3), (89, 0, 23), (90, 3, 3), (91, 0, 167), (92, 3, 3), (93, 0, 35), (94, 3, 3), (95, 0, 71), (96, 0, 7), (97, 3, 3), (98, 0, 55), (99, 3, 3), (100, 0, 23), (101, 3, 3), (102, 0, 23), (103, 3, 3), (104, 0, 167), (105, 3, 3), (106, 0, 35), (107, 3, 3), (108, 0, 71), (109, 0, 7), (110, 3, 3), (111, 0, 55), (112, 3, 3), (113, 0, 23), (114, 3, 3), (115, 0, 23), (116, 3, 3), (117, 0, 167), (118, 3, 3), (119, 0, 35), (120, 3, 3), (121, 0, 71), (122, 0, 7), (123, 3, 3), (124, 0, 55), (125, 3, 3), (126, 0, 23), (127, 3, 3), (128, 0, 23), (129, 3, 3), (130, 0, 167), (131, 3, 3), (132, 0, 35), (133, 3, 3), (134, 0, 71), (135, 0, 7), (136, 3, 3), (137, 0, 55), (138, 3, 3), (139, 0, 23), (140, 3, 3), (141, 0, 23), (142, 3, 3), (143, 0, 167), (144, 3, 3), (145, 0, 35), (146, 3, 3), (147, 0, 71), (148, 0, 7), (149, 3, 3), (150, 0, 55), (151, 3, 3), (152, 0, 23), (153, 3, 3), (154, 0, 23), (155, 3, 3), (156, 0, 167), (157, 3, 3), (158, 0, 35), (159, 3, 3), (160, 0, 71), (161, 0, 7), (162, 3, 3), (163, 0, 55), (164, 3, 3), (165, 0, 23), (166, 3, 3), (167, 0, 23), (168, 3, 3), (169, 0, 167), (170, 3, 3), (171, 0, 35), (172, 3, 3), (173, 0, 71), (174, 0, 7), (175, 3, 3), (176, 0, 55), (177, 3, 3), (178, 0, 23), (179, 3, 3), (180, 0, 23), (181, 3, 3), (182, 0, 167), (183, 3, 3), (184, 0, 35), (185, 3, 3), (186, 0, 71), (187, 0, 7), (188, 3, 3), (189, 0, 55), (190, 3, 3), (191, 0, 23), (192, 3, 3), (193, 0, 23), (194, 3, 3), (195, 0, 167), (196, 3, 3), (197, 0, 35), (198, 3, 3), (199, 0, 71), (200, 6, 6), (204, 0, 9), (205, 0, 14849), (206, 2, 8), (220, 3, 3), (221, 0, 47)], zl104), zl245)
set_option maxRecDepth 100000 in
theorem pl_s404_s {X : Int → Int} {LX : Nat} : ck_Ok p2_OL X LX 158 pl_s404 := ck_ok_s (O := p2_OL) (X := X) (LX := LX) (E := [(143, [pl_s396]), (24, [pl_s217]), (66, [pl_s398]), (154, [pl_s341]), (10, [pl_s204]), (159, [pl_s403])]) (mi := 158) (cuts := []) (f := 140) (S := pl_s404) (lx := none) (XF := []) ⟨pl_nmu, ck_E1 (ck_S1 pl_s396_s ck_S0) (ck_E1 (ck_S1 pl_s217_s ck_S0) (ck_E1 (ck_S1 pl_s398_s ck_S0) (ck_E1 (ck_S1 pl_s341_s ck_S0) (ck_E1 (ck_S1 pl_s204_s ck_S0) (ck_E1 (ck_S1 pl_s403_s ck_S0) ck_E0)))))⟩ ck_X0 ck_l0 (by decide +kernel)
set_option maxRecDepth 100000 in
/-- GlacierMail.need -/
noncomputable def pl_s405 : ck_Sum := ((6, 1, 6), 249, [.inr (.inr (.inl 1)), .inl (ck_one 3), .inl (0, 24, [])], ([], [], []), ([], []), [(.inr none, 249, ([], [], [])), (.inl 3, 249, ([], [], []))])
set_option maxRecDepth 100000 in
theorem pl_s405_s {X : Int → Int} {LX : Nat} : ck_Ok p2_OL X LX 133 pl_s405 := ck_ok_s (O := p2_OL) (X := X) (LX := LX) (E := []) (mi := 133) (cuts := []) (f := 82) (S := pl_s405) (lx := none) (XF := []) ⟨pl_nmu, ck_E0⟩ ck_X0 ck_l0 (by decide +kernel)
set_option maxRecDepth 100000 in
/-- GlacierMail.needLetter -/
noncomputable def pl_s406 : ck_Sum := ((7, 1, 6), 249, [.inr (.inr (.inl 1)), .inl (ck_one 3)], ([], [], []), ([], []), [(.inl 3, 249, ([], [], [])), (.inr none, 249, ([], [], []))])
set_option maxRecDepth 100000 in
theorem pl_s406_s {X : Int → Int} {LX : Nat} : ck_Ok p2_OL X LX 143 pl_s406 := ck_ok_s (O := p2_OL) (X := X) (LX := LX) (E := [(9, [pl_s200]), (133, [pl_s405])]) (mi := 143) (cuts := []) (f := 86) (S := pl_s406) (lx := none) (XF := []) ⟨pl_nmu, ck_E1 (ck_S1 pl_s200_s ck_S0) (ck_E1 (ck_S1 pl_s405_s ck_S0) ck_E0)⟩ ck_X0 ck_l0 (by decide +kernel)
set_option maxRecDepth 100000 in
/-- GlacierMail$State.isRock -/
noncomputable def pl_s407 : ck_Sum := ((1, 0, 0), 249, [.inr (.inr (.inl 3)), .inl (ck_one 3)], ([], [], []), ([], []), [(.inr (some (.inl (ck_one 0))), 249, ([], [], [])), (.inr (some (.inl (ck_one 1))), 249, ([], [], []))])
set_option maxRecDepth 100000 in
theorem pl_s407_s {X : Int → Int} {LX : Nat} : ck_Ok p2_OL X LX 28 pl_s407 := ck_ok_s (O := p2_OL) (X := X) (LX := LX) (E := [(10, [pl_s204])]) (mi := 28) (cuts := []) (f := 90) (S := pl_s407) (lx := none) (XF := []) ⟨pl_nmu, ck_E1 (ck_S1 pl_s204_s ck_S0) ck_E0⟩ ck_X0 ck_l0 (by decide +kernel)
set_option maxRecDepth 100000 in
/-- GlacierMail.waits -/
noncomputable def pl_s408 : ck_Sum := ((2, 0, 0), 249, [.inr (.inr (.inl 1)), .inl (ck_one 3)], ([], [], [(3, 6, 6, (0, 299, [(10, 0)]))]), ([], []), [(.inr (some (.inl (ck_one 0))), 249, ([], [], [])), (.inr (some (.inl (ck_one 1))), 249, ([], [], []))])
set_option maxRecDepth 100000 in
theorem pl_s408_s {X : Int → Int} {LX : Nat} : ck_Ok p2_OL X LX 66 pl_s408 := ck_ok_s (O := p2_OL) (X := X) (LX := LX) (E := [(28, [pl_s407]), (10, [pl_s204, pl_s218]), (67, [pl_s219])]) (mi := 66) (cuts := []) (f := 134) (S := pl_s408) (lx := none) (XF := []) ⟨pl_nmu, ck_E1 (ck_S1 pl_s407_s ck_S0) (ck_E1 (ck_S1 pl_s204_s (ck_S1 pl_s218_s ck_S0)) (ck_E1 (ck_S1 pl_s219_s ck_S0) ck_E0))⟩ ck_X0 ck_l0 (by decide +kernel)
set_option maxRecDepth 100000 in
/-- GlacierMail$Rows.put -/
noncomputable def pl_s409 : ck_Sum := ((0, 0, 0), 249, [.inr (.inr (.inl 10)), .inl (ck_one 3), .inl (ck_one 5), .inl ((-1), 299, [])], ([], [], []), ([(11, 26, 26)], []), [(.inr none, 249, ([], [], []))])
set_option maxRecDepth 100000 in
theorem pl_s409_s {X : Int → Int} {LX : Nat} : ck_Ok p2_OL X LX 45 pl_s409 := ck_ok_s (O := p2_OL) (X := X) (LX := LX) (E := []) (mi := 45) (cuts := []) (f := 116) (S := pl_s409) (lx := none) (XF := []) ⟨pl_nmu, ck_E0⟩ ck_X0 ck_l0 (by decide +kernel)
set_option maxRecDepth 100000 in
/-- GlacierMail$Rows.put -/
noncomputable def pl_s410 : ck_Sum := ((0, 0, 0), 249, [.inr (.inr (.inl 10)), .inl (ck_one 3), .inl (ck_one 6), .inl (0, 299, [])], ([], [], []), ([(11, 27, 27)], []), [(.inr none, 249, ([], [], []))])
set_option maxRecDepth 100000 in
theorem pl_s410_s {X : Int → Int} {LX : Nat} : ck_Ok p2_OL X LX 45 pl_s410 := ck_ok_s (O := p2_OL) (X := X) (LX := LX) (E := []) (mi := 45) (cuts := []) (f := 116) (S := pl_s410) (lx := none) (XF := []) ⟨pl_nmu, ck_E0⟩ ck_X0 ck_l0 (by decide +kernel)
set_option maxRecDepth 100000 in
/-- GlacierMail$Rows.put -/
noncomputable def pl_s411 : ck_Sum := ((0, 0, 0), 249, [.inr (.inr (.inl 14)), .inl (0, 23, []), .inl (ck_one 1), .inl (ck_one 3)], ([], [], []), (zl173, []), [(.inr none, 249, ([], [], []))])
set_option maxRecDepth 100000 in
theorem pl_s411_s {X : Int → Int} {LX : Nat} : ck_Ok p2_OL X LX 45 pl_s411 := ck_ok_s (O := p2_OL) (X := X) (LX := LX) (E := []) (mi := 45) (cuts := []) (f := 116) (S := pl_s411) (lx := none) (XF := []) ⟨pl_nmu, ck_E0⟩ ck_X0 ck_l0 (by decide +kernel)
set_option maxRecDepth 100000 in
/-- GlacierMail$Rows.put -/
noncomputable def pl_s412 : ck_Sum := ((0, 0, 0), 249, [.inr (.inr (.inl 14)), .inl (ck_one (-1)), .inl (ck_one 1), .inl (ck_one 3)], ([], [], []), ([], []), [(.inr none, 249, ([], [], []))])
set_option maxRecDepth 100000 in
theorem pl_s412_s {X : Int → Int} {LX : Nat} : ck_Ok p2_OL X LX 45 pl_s412 := ck_ok_s (O := p2_OL) (X := X) (LX := LX) (E := []) (mi := 45) (cuts := []) (f := 76) (S := pl_s412) (lx := none) (XF := []) ⟨pl_nmu, ck_E0⟩ ck_X0 ck_l0 (by decide +kernel)
set_option maxRecDepth 100000 in
/-- GlacierMail$State.openLetter -/
noncomputable def pl_s413 : ck_Sum := ((1, 0, 0), 249, [.inr (.inr (.inl 3)), .inl (ck_one 3), .inl ((-1), 299, [])], ([], [], [(3, 6, 6, (0, 299, [(10, 0)]))]), ([(11, 26, 27), (14, 3, 3), (15, 0, 71)], []), [(.inr none, 249, ([], [], [(14, 3, 3, (1, 24, []))]))])
set_option maxRecDepth 100000 in
theorem pl_s413_s {X : Int → Int} {LX : Nat} : ck_Ok p2_OL X LX 159 pl_s413 := ck_ok_s (O := p2_OL) (X := X) (LX := LX) (E := [(45, [pl_s409, pl_s410, pl_s376, pl_s411, pl_s378, pl_s379, pl_s412, pl_s381]), (102, [pl_s382])]) (mi := 159) (cuts := []) (f := 144) (S := pl_s413) (lx := none) (XF := []) ⟨pl_nmu, ck_E1 (ck_S1 pl_s409_s (ck_S1 pl_s410_s (ck_S1 pl_s376_s (ck_S1 pl_s411_s (ck_S1 pl_s378_s (ck_S1 pl_s379_s (ck_S1 pl_s412_s (ck_S1 pl_s381_s ck_S0)))))))) (ck_E1 (ck_S1 pl_s382_s ck_S0) ck_E0)⟩ ck_X0 ck_l0 (by decide +kernel)
set_option maxRecDepth 100000 in
/-- GlacierMail.open -/
noncomputable def pl_s414 : ck_Sum := ((8, 2, 12), 249, [.inr (.inr (.inl 1)), .inl (ck_one 3)], ([], zl230, [(3, 6, 6, (0, 299, [(10, 0)]))]), ([(1, 15, 15), (11, 26, 27), (14, 3, 3), (15, 0, 71), (42, 1, 2), (44, 0, 7), (45, 3, 3), (46, 0, 55), (47, 3, 3), (48, 0, 23), (49, 3, 3), (50, 0, 23), (51, 3, 3), (52, 0, 167), (53, 3, 3), (54, 0, 35), (55, 3, 3), (56, 0, 71), (57, 0, 7), (58, 3, 3), (59, 0, 55), (60, 3, 3), (61, 0, 23), (62, 3, 3), (63, 0, 23), (64, 3, 3), (65, 0, 167), (66, 3, 3), (67, 0, 35), (68, 3, 3), (69, 0, 71), (70, 0, 7), (71, 3, 3), (72, 0, 55), (73, 3, 3), (74, 0, 23), (75, 3, 3), (76, 0, 23), (77, 3, 3), (78, 0, 167), (79, 3, 3), (80, 0, 35), (81, 3, 3), (82, 0, 71), (83, 0, 7), (84, 3, 3), (85, 0, 55), (86, 3, 3), (87, 0, 23), (88, 3, 3), (89, 0, 23), (90, 3, 3), (91, 0, 167), (92, 3, 3), (93, 0, 35), (94, 3, 3), (95, 0, 71), (96, 0, 7), (97, 3, 3), (98, 0, 55), (99, 3, 3), (100, 0, 23), (101, 3, 3), (102, 0, 23), (103, 3, 3), (104, 0, 167), (105, 3, 3), (106, 0, 35), (107, 3, 3), (108, 0, 71), (109, 0, 7), (110, 3, 3), (111, 0, 55), (112, 3, 3), (113, 0, 23), (114, 3, 3), (115, 0, 23), (116, 3, 3), (117, 0, 167), (118, 3, 3), (119, 0, 35), (120, 3, 3), (121, 0, 71), (122, 0, 7), (123, 3, 3), (124, 0, 55), (125, 3, 3), (126, 0, 23), (127, 3, 3), (128, 0, 23), (129, 3, 3), (130, 0, 167), (131, 3, 3), (132, 0, 35), (133, 3, 3), (134, 0, 71), (135, 0, 7), (136, 3, 3), (137, 0, 55), (138, 3, 3), (139, 0, 23), (140, 3, 3), (141, 0, 23), (142, 3, 3), (143, 0, 167), (144, 3, 3), (145, 0, 35), (146, 3, 3), (147, 0, 71), (148, 0, 7), (149, 3, 3), (150, 0, 55), (151, 3, 3), (152, 0, 23), (153, 3, 3), (154, 0, 23), (155, 3, 3), (156, 0, 167), (157, 3, 3), (158, 0, 35), (159, 3, 3), (160, 0, 71), (161, 0, 7), (162, 3, 3), (163, 0, 55), (164, 3, 3), (165, 0, 23), (166, 3, 3), (167, 0, 23), (168, 3, 3), (169, 0, 167), (170, 3, 3), (171, 0, 35), (172, 3, 3), (173, 0, 71), (174, 0, 7), (175, 3, 3), (176, 0, 55), (177, 3, 3), (178, 0, 23), (179, 3, 3), (180, 0, 23), (181, 3, 3), (182, 0, 167), (183, 3, 3), (184, 0, 35), (185, 3, 3), (186, 0, 71), (187, 0, 7), (188, 3, 3), (189, 0, 55), (190, 3, 3), (191, 0, 23), (192, 3, 3), (193, 0, 23), (194, 3, 3), (195, 0, 167), (196, 3, 3), (197, 0, 35), (198, 3, 3), (199, 0, 71), (200, 6, 6), (204, 0, 9), (205, 0, 14849), (206, 2, 8), (220, 3, 3), (221, 0, 47)], zl104), zl245)
set_option maxRecDepth 100000 in
theorem pl_s414_s {X : Int → Int} {LX : Nat} : ck_Ok p2_OL X LX 158 pl_s414 := ck_ok_s (O := p2_OL) (X := X) (LX := LX) (E := [(143, [pl_s406]), (24, [pl_s217]), (66, [pl_s408]), (154, [pl_s341]), (10, [pl_s204]), (159, [pl_s413])]) (mi := 158) (cuts := []) (f := 140) (S := pl_s414) (lx := none) (XF := []) ⟨pl_nmu, ck_E1 (ck_S1 pl_s406_s ck_S0) (ck_E1 (ck_S1 pl_s217_s ck_S0) (ck_E1 (ck_S1 pl_s408_s ck_S0) (ck_E1 (ck_S1 pl_s341_s ck_S0) (ck_E1 (ck_S1 pl_s204_s ck_S0) (ck_E1 (ck_S1 pl_s413_s ck_S0) ck_E0)))))⟩ ck_X0 ck_l0 (by decide +kernel)
set_option maxRecDepth 100000 in
/-- GlacierMail.need -/
noncomputable def pl_s415 : ck_Sum := ((6, 1, 6), 249, [.inr (.inr (.inl 1)), .inl (ck_one 4), .inl (0, 24, [])], ([], [], []), ([], []), [(.inr none, 249, ([], [], [])), (.inl 3, 249, ([], [], []))])
set_option maxRecDepth 100000 in
theorem pl_s415_s {X : Int → Int} {LX : Nat} : ck_Ok p2_OL X LX 133 pl_s415 := ck_ok_s (O := p2_OL) (X := X) (LX := LX) (E := []) (mi := 133) (cuts := []) (f := 82) (S := pl_s415) (lx := none) (XF := []) ⟨pl_nmu, ck_E0⟩ ck_X0 ck_l0 (by decide +kernel)
set_option maxRecDepth 100000 in
/-- GlacierMail.needLetter -/
noncomputable def pl_s416 : ck_Sum := ((7, 1, 6), 249, [.inr (.inr (.inl 1)), .inl (ck_one 4)], ([], [], []), ([], []), [(.inl 3, 249, ([], [], [])), (.inr none, 249, ([], [], []))])
set_option maxRecDepth 100000 in
theorem pl_s416_s {X : Int → Int} {LX : Nat} : ck_Ok p2_OL X LX 143 pl_s416 := ck_ok_s (O := p2_OL) (X := X) (LX := LX) (E := [(9, [pl_s200]), (133, [pl_s415])]) (mi := 143) (cuts := []) (f := 86) (S := pl_s416) (lx := none) (XF := []) ⟨pl_nmu, ck_E1 (ck_S1 pl_s200_s ck_S0) (ck_E1 (ck_S1 pl_s415_s ck_S0) ck_E0)⟩ ck_X0 ck_l0 (by decide +kernel)
set_option maxRecDepth 100000 in
/-- GlacierMail$State.isRock -/
noncomputable def pl_s417 : ck_Sum := ((1, 0, 0), 249, [.inr (.inr (.inl 3)), .inl (ck_one 4)], ([], [], []), ([], []), [(.inr (some (.inl (ck_one 0))), 249, ([], [], [])), (.inr (some (.inl (ck_one 1))), 249, ([], [], []))])
set_option maxRecDepth 100000 in
theorem pl_s417_s {X : Int → Int} {LX : Nat} : ck_Ok p2_OL X LX 28 pl_s417 := ck_ok_s (O := p2_OL) (X := X) (LX := LX) (E := [(10, [pl_s204])]) (mi := 28) (cuts := []) (f := 90) (S := pl_s417) (lx := none) (XF := []) ⟨pl_nmu, ck_E1 (ck_S1 pl_s204_s ck_S0) ck_E0⟩ ck_X0 ck_l0 (by decide +kernel)
set_option maxRecDepth 100000 in
/-- GlacierMail.waits -/
noncomputable def pl_s418 : ck_Sum := ((2, 0, 0), 249, [.inr (.inr (.inl 1)), .inl (ck_one 4)], ([], [], [(3, 6, 6, (0, 299, [(10, 0)]))]), ([], []), [(.inr (some (.inl (ck_one 0))), 249, ([], [], [])), (.inr (some (.inl (ck_one 1))), 249, ([], [], []))])
set_option maxRecDepth 100000 in
theorem pl_s418_s {X : Int → Int} {LX : Nat} : ck_Ok p2_OL X LX 66 pl_s418 := ck_ok_s (O := p2_OL) (X := X) (LX := LX) (E := [(28, [pl_s417]), (10, [pl_s204, pl_s218]), (67, [pl_s219])]) (mi := 66) (cuts := []) (f := 134) (S := pl_s418) (lx := none) (XF := []) ⟨pl_nmu, ck_E1 (ck_S1 pl_s417_s ck_S0) (ck_E1 (ck_S1 pl_s204_s (ck_S1 pl_s218_s ck_S0)) (ck_E1 (ck_S1 pl_s219_s ck_S0) ck_E0))⟩ ck_X0 ck_l0 (by decide +kernel)
set_option maxRecDepth 100000 in
/-- GlacierMail$Rows.put -/
noncomputable def pl_s419 : ck_Sum := ((0, 0, 0), 249, [.inr (.inr (.inl 10)), .inl (ck_one 4), .inl (ck_one 5), .inl ((-1), 299, [])], ([], [], []), ([(11, 33, 33)], []), [(.inr none, 249, ([], [], []))])
set_option maxRecDepth 100000 in
theorem pl_s419_s {X : Int → Int} {LX : Nat} : ck_Ok p2_OL X LX 45 pl_s419 := ck_ok_s (O := p2_OL) (X := X) (LX := LX) (E := []) (mi := 45) (cuts := []) (f := 116) (S := pl_s419) (lx := none) (XF := []) ⟨pl_nmu, ck_E0⟩ ck_X0 ck_l0 (by decide +kernel)
set_option maxRecDepth 100000 in
/-- GlacierMail$Rows.put -/
noncomputable def pl_s420 : ck_Sum := ((0, 0, 0), 249, [.inr (.inr (.inl 10)), .inl (ck_one 4), .inl (ck_one 6), .inl (0, 299, [])], ([], [], []), ([(11, 34, 34)], []), [(.inr none, 249, ([], [], []))])
set_option maxRecDepth 100000 in
theorem pl_s420_s {X : Int → Int} {LX : Nat} : ck_Ok p2_OL X LX 45 pl_s420 := ck_ok_s (O := p2_OL) (X := X) (LX := LX) (E := []) (mi := 45) (cuts := []) (f := 116) (S := pl_s420) (lx := none) (XF := []) ⟨pl_nmu, ck_E0⟩ ck_X0 ck_l0 (by decide +kernel)
set_option maxRecDepth 100000 in
/-- GlacierMail$Rows.put -/
noncomputable def pl_s421 : ck_Sum := ((0, 0, 0), 249, [.inr (.inr (.inl 14)), .inl (0, 23, []), .inl (ck_one 1), .inl (ck_one 4)], ([], [], []), (zl173, []), [(.inr none, 249, ([], [], []))])
set_option maxRecDepth 100000 in
theorem pl_s421_s {X : Int → Int} {LX : Nat} : ck_Ok p2_OL X LX 45 pl_s421 := ck_ok_s (O := p2_OL) (X := X) (LX := LX) (E := []) (mi := 45) (cuts := []) (f := 116) (S := pl_s421) (lx := none) (XF := []) ⟨pl_nmu, ck_E0⟩ ck_X0 ck_l0 (by decide +kernel)
set_option maxRecDepth 100000 in
/-- GlacierMail$Rows.put -/
noncomputable def pl_s422 : ck_Sum := ((0, 0, 0), 249, [.inr (.inr (.inl 14)), .inl (ck_one (-1)), .inl (ck_one 1), .inl (ck_one 4)], ([], [], []), ([], []), [(.inr none, 249, ([], [], []))])
set_option maxRecDepth 100000 in
theorem pl_s422_s {X : Int → Int} {LX : Nat} : ck_Ok p2_OL X LX 45 pl_s422 := ck_ok_s (O := p2_OL) (X := X) (LX := LX) (E := []) (mi := 45) (cuts := []) (f := 76) (S := pl_s422) (lx := none) (XF := []) ⟨pl_nmu, ck_E0⟩ ck_X0 ck_l0 (by decide +kernel)
set_option maxRecDepth 100000 in
/-- GlacierMail$State.openLetter -/
noncomputable def pl_s423 : ck_Sum := ((1, 0, 0), 249, [.inr (.inr (.inl 3)), .inl (ck_one 4), .inl ((-1), 299, [])], ([], [], [(3, 6, 6, (0, 299, [(10, 0)]))]), ([(11, 33, 34), (14, 3, 3), (15, 0, 71)], []), [(.inr none, 249, ([], [], [(14, 3, 3, (1, 24, []))]))])
set_option maxRecDepth 100000 in
theorem pl_s423_s {X : Int → Int} {LX : Nat} : ck_Ok p2_OL X LX 159 pl_s423 := ck_ok_s (O := p2_OL) (X := X) (LX := LX) (E := [(45, [pl_s419, pl_s420, pl_s376, pl_s421, pl_s378, pl_s379, pl_s422, pl_s381]), (102, [pl_s382])]) (mi := 159) (cuts := []) (f := 144) (S := pl_s423) (lx := none) (XF := []) ⟨pl_nmu, ck_E1 (ck_S1 pl_s419_s (ck_S1 pl_s420_s (ck_S1 pl_s376_s (ck_S1 pl_s421_s (ck_S1 pl_s378_s (ck_S1 pl_s379_s (ck_S1 pl_s422_s (ck_S1 pl_s381_s ck_S0)))))))) (ck_E1 (ck_S1 pl_s382_s ck_S0) ck_E0)⟩ ck_X0 ck_l0 (by decide +kernel)
set_option maxRecDepth 100000 in
/-- GlacierMail.open -/
noncomputable def pl_s424 : ck_Sum := ((8, 2, 12), 249, [.inr (.inr (.inl 1)), .inl (ck_one 4)], ([], zl230, [(3, 6, 6, (0, 299, [(10, 0)]))]), ([(1, 15, 15), (11, 33, 34), (14, 3, 3), (15, 0, 71), (42, 1, 2), (44, 0, 7), (45, 3, 3), (46, 0, 55), (47, 3, 3), (48, 0, 23), (49, 3, 3), (50, 0, 23), (51, 3, 3), (52, 0, 167), (53, 3, 3), (54, 0, 35), (55, 3, 3), (56, 0, 71), (57, 0, 7), (58, 3, 3), (59, 0, 55), (60, 3, 3), (61, 0, 23), (62, 3, 3), (63, 0, 23), (64, 3, 3), (65, 0, 167), (66, 3, 3), (67, 0, 35), (68, 3, 3), (69, 0, 71), (70, 0, 7), (71, 3, 3), (72, 0, 55), (73, 3, 3), (74, 0, 23), (75, 3, 3), (76, 0, 23), (77, 3, 3), (78, 0, 167), (79, 3, 3), (80, 0, 35), (81, 3, 3), (82, 0, 71), (83, 0, 7), (84, 3, 3), (85, 0, 55), (86, 3, 3), (87, 0, 23), (88, 3, 3), (89, 0, 23), (90, 3, 3), (91, 0, 167), (92, 3, 3), (93, 0, 35), (94, 3, 3), (95, 0, 71), (96, 0, 7), (97, 3, 3), (98, 0, 55), (99, 3, 3), (100, 0, 23), (101, 3, 3), (102, 0, 23), (103, 3, 3), (104, 0, 167), (105, 3, 3), (106, 0, 35), (107, 3, 3), (108, 0, 71), (109, 0, 7), (110, 3, 3), (111, 0, 55), (112, 3, 3), (113, 0, 23), (114, 3, 3), (115, 0, 23), (116, 3, 3), (117, 0, 167), (118, 3, 3), (119, 0, 35), (120, 3, 3), (121, 0, 71), (122, 0, 7), (123, 3, 3), (124, 0, 55), (125, 3, 3), (126, 0, 23), (127, 3, 3), (128, 0, 23), (129, 3, 3), (130, 0, 167), (131, 3, 3), (132, 0, 35), (133, 3, 3), (134, 0, 71), (135, 0, 7), (136, 3, 3), (137, 0, 55), (138, 3, 3), (139, 0, 23), (140, 3, 3), (141, 0, 23), (142, 3, 3), (143, 0, 167), (144, 3, 3), (145, 0, 35), (146, 3, 3), (147, 0, 71), (148, 0, 7), (149, 3, 3), (150, 0, 55), (151, 3, 3), (152, 0, 23), (153, 3, 3), (154, 0, 23), (155, 3, 3), (156, 0, 167), (157, 3, 3), (158, 0, 35), (159, 3, 3), (160, 0, 71), (161, 0, 7), (162, 3, 3), (163, 0, 55), (164, 3, 3), (165, 0, 23), (166, 3, 3), (167, 0, 23), (168, 3, 3), (169, 0, 167), (170, 3, 3), (171, 0, 35), (172, 3, 3), (173, 0, 71), (174, 0, 7), (175, 3, 3), (176, 0, 55), (177, 3, 3), (178, 0, 23), (179, 3, 3), (180, 0, 23), (181, 3, 3), (182, 0, 167), (183, 3, 3), (184, 0, 35), (185, 3, 3), (186, 0, 71), (187, 0, 7), (188, 3, 3), (189, 0, 55), (190, 3, 3), (191, 0, 23), (192, 3, 3), (193, 0, 23), (194, 3, 3), (195, 0, 167), (196, 3, 3), (197, 0, 35), (198, 3, 3), (199, 0, 71), (200, 6, 6), (204, 0, 9), (205, 0, 14849), (206, 2, 8), (220, 3, 3), (221, 0, 47)], zl104), zl245)
set_option maxRecDepth 100000 in
theorem pl_s424_s {X : Int → Int} {LX : Nat} : ck_Ok p2_OL X LX 158 pl_s424 := ck_ok_s (O := p2_OL) (X := X) (LX := LX) (E := [(143, [pl_s416]), (24, [pl_s217]), (66, [pl_s418]), (154, [pl_s341]), (10, [pl_s204]), (159, [pl_s423])]) (mi := 158) (cuts := []) (f := 140) (S := pl_s424) (lx := none) (XF := []) ⟨pl_nmu, ck_E1 (ck_S1 pl_s416_s ck_S0) (ck_E1 (ck_S1 pl_s217_s ck_S0) (ck_E1 (ck_S1 pl_s418_s ck_S0) (ck_E1 (ck_S1 pl_s341_s ck_S0) (ck_E1 (ck_S1 pl_s204_s ck_S0) (ck_E1 (ck_S1 pl_s423_s ck_S0) ck_E0)))))⟩ ck_X0 ck_l0 (by decide +kernel)
set_option maxRecDepth 100000 in
/-- GlacierMail.need -/
noncomputable def pl_s425 : ck_Sum := ((6, 1, 6), 249, [.inr (.inr (.inl 1)), .inl (ck_one 5), .inl (0, 24, [])], ([], [], []), ([], []), [(.inr none, 249, ([], [], [])), (.inl 3, 249, ([], [], []))])
set_option maxRecDepth 100000 in
theorem pl_s425_s {X : Int → Int} {LX : Nat} : ck_Ok p2_OL X LX 133 pl_s425 := ck_ok_s (O := p2_OL) (X := X) (LX := LX) (E := []) (mi := 133) (cuts := []) (f := 82) (S := pl_s425) (lx := none) (XF := []) ⟨pl_nmu, ck_E0⟩ ck_X0 ck_l0 (by decide +kernel)
set_option maxRecDepth 100000 in
/-- GlacierMail.needLetter -/
noncomputable def pl_s426 : ck_Sum := ((7, 1, 6), 249, [.inr (.inr (.inl 1)), .inl (ck_one 5)], ([], [], []), ([], []), [(.inl 3, 249, ([], [], [])), (.inr none, 249, ([], [], []))])
set_option maxRecDepth 100000 in
theorem pl_s426_s {X : Int → Int} {LX : Nat} : ck_Ok p2_OL X LX 143 pl_s426 := ck_ok_s (O := p2_OL) (X := X) (LX := LX) (E := [(9, [pl_s200]), (133, [pl_s425])]) (mi := 143) (cuts := []) (f := 86) (S := pl_s426) (lx := none) (XF := []) ⟨pl_nmu, ck_E1 (ck_S1 pl_s200_s ck_S0) (ck_E1 (ck_S1 pl_s425_s ck_S0) ck_E0)⟩ ck_X0 ck_l0 (by decide +kernel)
set_option maxRecDepth 100000 in
/-- GlacierMail$State.isRock -/
noncomputable def pl_s427 : ck_Sum := ((1, 0, 0), 249, [.inr (.inr (.inl 3)), .inl (ck_one 5)], ([], [], []), ([], []), [(.inr (some (.inl (ck_one 0))), 249, ([], [], [])), (.inr (some (.inl (ck_one 1))), 249, ([], [], []))])
set_option maxRecDepth 100000 in
theorem pl_s427_s {X : Int → Int} {LX : Nat} : ck_Ok p2_OL X LX 28 pl_s427 := ck_ok_s (O := p2_OL) (X := X) (LX := LX) (E := [(10, [pl_s204])]) (mi := 28) (cuts := []) (f := 90) (S := pl_s427) (lx := none) (XF := []) ⟨pl_nmu, ck_E1 (ck_S1 pl_s204_s ck_S0) ck_E0⟩ ck_X0 ck_l0 (by decide +kernel)
set_option maxRecDepth 100000 in
/-- GlacierMail.waits -/
noncomputable def pl_s428 : ck_Sum := ((2, 0, 0), 249, [.inr (.inr (.inl 1)), .inl (ck_one 5)], ([], [], [(3, 6, 6, (0, 299, [(10, 0)]))]), ([], []), [(.inr (some (.inl (ck_one 0))), 249, ([], [], [])), (.inr (some (.inl (ck_one 1))), 249, ([], [], []))])
set_option maxRecDepth 100000 in
theorem pl_s428_s {X : Int → Int} {LX : Nat} : ck_Ok p2_OL X LX 66 pl_s428 := ck_ok_s (O := p2_OL) (X := X) (LX := LX) (E := [(28, [pl_s427]), (10, [pl_s204, pl_s218]), (67, [pl_s219])]) (mi := 66) (cuts := []) (f := 134) (S := pl_s428) (lx := none) (XF := []) ⟨pl_nmu, ck_E1 (ck_S1 pl_s427_s ck_S0) (ck_E1 (ck_S1 pl_s204_s (ck_S1 pl_s218_s ck_S0)) (ck_E1 (ck_S1 pl_s219_s ck_S0) ck_E0))⟩ ck_X0 ck_l0 (by decide +kernel)
set_option maxRecDepth 100000 in
/-- GlacierMail$Rows.put -/
noncomputable def pl_s429 : ck_Sum := ((0, 0, 0), 249, [.inr (.inr (.inl 10)), .inl (ck_one 5), .inl (ck_one 5), .inl ((-1), 299, [])], ([], [], []), ([(11, 40, 40)], []), [(.inr none, 249, ([], [], []))])
set_option maxRecDepth 100000 in
theorem pl_s429_s {X : Int → Int} {LX : Nat} : ck_Ok p2_OL X LX 45 pl_s429 := ck_ok_s (O := p2_OL) (X := X) (LX := LX) (E := []) (mi := 45) (cuts := []) (f := 116) (S := pl_s429) (lx := none) (XF := []) ⟨pl_nmu, ck_E0⟩ ck_X0 ck_l0 (by decide +kernel)
set_option maxRecDepth 100000 in
/-- GlacierMail$Rows.put -/
noncomputable def pl_s430 : ck_Sum := ((0, 0, 0), 249, [.inr (.inr (.inl 10)), .inl (ck_one 5), .inl (ck_one 6), .inl (0, 299, [])], ([], [], []), ([(11, 41, 41)], []), [(.inr none, 249, ([], [], []))])
set_option maxRecDepth 100000 in
theorem pl_s430_s {X : Int → Int} {LX : Nat} : ck_Ok p2_OL X LX 45 pl_s430 := ck_ok_s (O := p2_OL) (X := X) (LX := LX) (E := []) (mi := 45) (cuts := []) (f := 116) (S := pl_s430) (lx := none) (XF := []) ⟨pl_nmu, ck_E0⟩ ck_X0 ck_l0 (by decide +kernel)
set_option maxRecDepth 100000 in
/-- GlacierMail$Rows.put -/
noncomputable def pl_s431 : ck_Sum := ((0, 0, 0), 249, [.inr (.inr (.inl 14)), .inl (0, 23, []), .inl (ck_one 1), .inl (ck_one 5)], ([], [], []), (zl173, []), [(.inr none, 249, ([], [], []))])
set_option maxRecDepth 100000 in
theorem pl_s431_s {X : Int → Int} {LX : Nat} : ck_Ok p2_OL X LX 45 pl_s431 := ck_ok_s (O := p2_OL) (X := X) (LX := LX) (E := []) (mi := 45) (cuts := []) (f := 116) (S := pl_s431) (lx := none) (XF := []) ⟨pl_nmu, ck_E0⟩ ck_X0 ck_l0 (by decide +kernel)
set_option maxRecDepth 100000 in
/-- GlacierMail$Rows.put -/
noncomputable def pl_s432 : ck_Sum := ((0, 0, 0), 249, [.inr (.inr (.inl 14)), .inl (ck_one (-1)), .inl (ck_one 1), .inl (ck_one 5)], ([], [], []), ([], []), [(.inr none, 249, ([], [], []))])
set_option maxRecDepth 100000 in
theorem pl_s432_s {X : Int → Int} {LX : Nat} : ck_Ok p2_OL X LX 45 pl_s432 := ck_ok_s (O := p2_OL) (X := X) (LX := LX) (E := []) (mi := 45) (cuts := []) (f := 76) (S := pl_s432) (lx := none) (XF := []) ⟨pl_nmu, ck_E0⟩ ck_X0 ck_l0 (by decide +kernel)
set_option maxRecDepth 100000 in
/-- GlacierMail$State.openLetter -/
noncomputable def pl_s433 : ck_Sum := ((1, 0, 0), 249, [.inr (.inr (.inl 3)), .inl (ck_one 5), .inl ((-1), 299, [])], ([], [], [(3, 6, 6, (0, 299, [(10, 0)]))]), ([(11, 40, 41), (14, 3, 3), (15, 0, 71)], []), [(.inr none, 249, ([], [], [(14, 3, 3, (1, 24, []))]))])
set_option maxRecDepth 100000 in
theorem pl_s433_s {X : Int → Int} {LX : Nat} : ck_Ok p2_OL X LX 159 pl_s433 := ck_ok_s (O := p2_OL) (X := X) (LX := LX) (E := [(45, [pl_s429, pl_s430, pl_s376, pl_s431, pl_s378, pl_s379, pl_s432, pl_s381]), (102, [pl_s382])]) (mi := 159) (cuts := []) (f := 144) (S := pl_s433) (lx := none) (XF := []) ⟨pl_nmu, ck_E1 (ck_S1 pl_s429_s (ck_S1 pl_s430_s (ck_S1 pl_s376_s (ck_S1 pl_s431_s (ck_S1 pl_s378_s (ck_S1 pl_s379_s (ck_S1 pl_s432_s (ck_S1 pl_s381_s ck_S0)))))))) (ck_E1 (ck_S1 pl_s382_s ck_S0) ck_E0)⟩ ck_X0 ck_l0 (by decide +kernel)
set_option maxRecDepth 100000 in
/-- GlacierMail.open -/
noncomputable def pl_s434 : ck_Sum := ((8, 2, 12), 249, [.inr (.inr (.inl 1)), .inl (ck_one 5)], ([], zl230, [(3, 6, 6, (0, 299, [(10, 0)]))]), ([(1, 15, 15), (11, 40, 41), (14, 3, 3), (15, 0, 71), (42, 1, 2), (44, 0, 7), (45, 3, 3), (46, 0, 55), (47, 3, 3), (48, 0, 23), (49, 3, 3), (50, 0, 23), (51, 3, 3), (52, 0, 167), (53, 3, 3), (54, 0, 35), (55, 3, 3), (56, 0, 71), (57, 0, 7), (58, 3, 3), (59, 0, 55), (60, 3, 3), (61, 0, 23), (62, 3, 3), (63, 0, 23), (64, 3, 3), (65, 0, 167), (66, 3, 3), (67, 0, 35), (68, 3, 3), (69, 0, 71), (70, 0, 7), (71, 3, 3), (72, 0, 55), (73, 3, 3), (74, 0, 23), (75, 3, 3), (76, 0, 23), (77, 3, 3), (78, 0, 167), (79, 3, 3), (80, 0, 35), (81, 3, 3), (82, 0, 71), (83, 0, 7), (84, 3, 3), (85, 0, 55), (86, 3, 3), (87, 0, 23), (88, 3, 3), (89, 0, 23), (90, 3, 3), (91, 0, 167), (92, 3, 3), (93, 0, 35), (94, 3, 3), (95, 0, 71), (96, 0, 7), (97, 3, 3), (98, 0, 55), (99, 3, 3), (100, 0, 23), (101, 3, 3), (102, 0, 23), (103, 3, 3), (104, 0, 167), (105, 3, 3), (106, 0, 35), (107, 3, 3), (108, 0, 71), (109, 0, 7), (110, 3, 3), (111, 0, 55), (112, 3, 3), (113, 0, 23), (114, 3, 3), (115, 0, 23), (116, 3, 3), (117, 0, 167), (118, 3, 3), (119, 0, 35), (120, 3, 3), (121, 0, 71), (122, 0, 7), (123, 3, 3), (124, 0, 55), (125, 3, 3), (126, 0, 23), (127, 3, 3), (128, 0, 23), (129, 3, 3), (130, 0, 167), (131, 3, 3), (132, 0, 35), (133, 3, 3), (134, 0, 71), (135, 0, 7), (136, 3, 3), (137, 0, 55), (138, 3, 3), (139, 0, 23), (140, 3, 3), (141, 0, 23), (142, 3, 3), (143, 0, 167), (144, 3, 3), (145, 0, 35), (146, 3, 3), (147, 0, 71), (148, 0, 7), (149, 3, 3), (150, 0, 55), (151, 3, 3), (152, 0, 23), (153, 3, 3), (154, 0, 23), (155, 3, 3), (156, 0, 167), (157, 3, 3), (158, 0, 35), (159, 3, 3), (160, 0, 71), (161, 0, 7), (162, 3, 3), (163, 0, 55), (164, 3, 3), (165, 0, 23), (166, 3, 3), (167, 0, 23), (168, 3, 3), (169, 0, 167), (170, 3, 3), (171, 0, 35), (172, 3, 3), (173, 0, 71), (174, 0, 7), (175, 3, 3), (176, 0, 55), (177, 3, 3), (178, 0, 23), (179, 3, 3), (180, 0, 23), (181, 3, 3), (182, 0, 167), (183, 3, 3), (184, 0, 35), (185, 3, 3), (186, 0, 71), (187, 0, 7), (188, 3, 3), (189, 0, 55), (190, 3, 3), (191, 0, 23), (192, 3, 3), (193, 0, 23), (194, 3, 3), (195, 0, 167), (196, 3, 3), (197, 0, 35), (198, 3, 3), (199, 0, 71), (200, 6, 6), (204, 0, 9), (205, 0, 14849), (206, 2, 8), (220, 3, 3), (221, 0, 47)], zl104), zl245)
set_option maxRecDepth 100000 in
theorem pl_s434_s {X : Int → Int} {LX : Nat} : ck_Ok p2_OL X LX 158 pl_s434 := ck_ok_s (O := p2_OL) (X := X) (LX := LX) (E := [(143, [pl_s426]), (24, [pl_s217]), (66, [pl_s428]), (154, [pl_s341]), (10, [pl_s204]), (159, [pl_s433])]) (mi := 158) (cuts := []) (f := 140) (S := pl_s434) (lx := none) (XF := []) ⟨pl_nmu, ck_E1 (ck_S1 pl_s426_s ck_S0) (ck_E1 (ck_S1 pl_s217_s ck_S0) (ck_E1 (ck_S1 pl_s428_s ck_S0) (ck_E1 (ck_S1 pl_s341_s ck_S0) (ck_E1 (ck_S1 pl_s204_s ck_S0) (ck_E1 (ck_S1 pl_s433_s ck_S0) ck_E0)))))⟩ ck_X0 ck_l0 (by decide +kernel)
set_option maxRecDepth 100000 in
/-- GlacierMail.need -/
noncomputable def pl_s435 : ck_Sum := ((6, 1, 6), 249, [.inr (.inr (.inl 1)), .inl (ck_one 6), .inl (0, 24, [])], ([], [], []), ([], []), [(.inr none, 249, ([], [], [])), (.inl 3, 249, ([], [], []))])
set_option maxRecDepth 100000 in
theorem pl_s435_s {X : Int → Int} {LX : Nat} : ck_Ok p2_OL X LX 133 pl_s435 := ck_ok_s (O := p2_OL) (X := X) (LX := LX) (E := []) (mi := 133) (cuts := []) (f := 82) (S := pl_s435) (lx := none) (XF := []) ⟨pl_nmu, ck_E0⟩ ck_X0 ck_l0 (by decide +kernel)
set_option maxRecDepth 100000 in
/-- GlacierMail.needLetter -/
noncomputable def pl_s436 : ck_Sum := ((7, 1, 6), 249, [.inr (.inr (.inl 1)), .inl (ck_one 6)], ([], [], []), ([], []), [(.inl 3, 249, ([], [], [])), (.inr none, 249, ([], [], []))])
set_option maxRecDepth 100000 in
theorem pl_s436_s {X : Int → Int} {LX : Nat} : ck_Ok p2_OL X LX 143 pl_s436 := ck_ok_s (O := p2_OL) (X := X) (LX := LX) (E := [(9, [pl_s200]), (133, [pl_s435])]) (mi := 143) (cuts := []) (f := 86) (S := pl_s436) (lx := none) (XF := []) ⟨pl_nmu, ck_E1 (ck_S1 pl_s200_s ck_S0) (ck_E1 (ck_S1 pl_s435_s ck_S0) ck_E0)⟩ ck_X0 ck_l0 (by decide +kernel)
set_option maxRecDepth 100000 in
/-- GlacierMail$State.isRock -/
noncomputable def pl_s437 : ck_Sum := ((1, 0, 0), 249, [.inr (.inr (.inl 3)), .inl (ck_one 6)], ([], [], []), ([], []), [(.inr (some (.inl (ck_one 0))), 249, ([], [], [])), (.inr (some (.inl (ck_one 1))), 249, ([], [], []))])
set_option maxRecDepth 100000 in
theorem pl_s437_s {X : Int → Int} {LX : Nat} : ck_Ok p2_OL X LX 28 pl_s437 := ck_ok_s (O := p2_OL) (X := X) (LX := LX) (E := [(10, [pl_s204])]) (mi := 28) (cuts := []) (f := 90) (S := pl_s437) (lx := none) (XF := []) ⟨pl_nmu, ck_E1 (ck_S1 pl_s204_s ck_S0) ck_E0⟩ ck_X0 ck_l0 (by decide +kernel)
set_option maxRecDepth 100000 in
/-- GlacierMail.waits -/
noncomputable def pl_s438 : ck_Sum := ((2, 0, 0), 249, [.inr (.inr (.inl 1)), .inl (ck_one 6)], ([], [], [(3, 6, 6, (0, 299, [(10, 0)]))]), ([], []), [(.inr (some (.inl (ck_one 0))), 249, ([], [], [])), (.inr (some (.inl (ck_one 1))), 249, ([], [], []))])
set_option maxRecDepth 100000 in
theorem pl_s438_s {X : Int → Int} {LX : Nat} : ck_Ok p2_OL X LX 66 pl_s438 := ck_ok_s (O := p2_OL) (X := X) (LX := LX) (E := [(28, [pl_s437]), (10, [pl_s204, pl_s218]), (67, [pl_s219])]) (mi := 66) (cuts := []) (f := 134) (S := pl_s438) (lx := none) (XF := []) ⟨pl_nmu, ck_E1 (ck_S1 pl_s437_s ck_S0) (ck_E1 (ck_S1 pl_s204_s (ck_S1 pl_s218_s ck_S0)) (ck_E1 (ck_S1 pl_s219_s ck_S0) ck_E0))⟩ ck_X0 ck_l0 (by decide +kernel)
set_option maxRecDepth 100000 in
/-- GlacierMail$Rows.put -/
noncomputable def pl_s439 : ck_Sum := ((0, 0, 0), 249, [.inr (.inr (.inl 10)), .inl (ck_one 6), .inl (ck_one 5), .inl ((-1), 299, [])], ([], [], []), ([(11, 47, 47)], []), [(.inr none, 249, ([], [], []))])
set_option maxRecDepth 100000 in
theorem pl_s439_s {X : Int → Int} {LX : Nat} : ck_Ok p2_OL X LX 45 pl_s439 := ck_ok_s (O := p2_OL) (X := X) (LX := LX) (E := []) (mi := 45) (cuts := []) (f := 116) (S := pl_s439) (lx := none) (XF := []) ⟨pl_nmu, ck_E0⟩ ck_X0 ck_l0 (by decide +kernel)
set_option maxRecDepth 100000 in
/-- GlacierMail$Rows.put -/
noncomputable def pl_s440 : ck_Sum := ((0, 0, 0), 249, [.inr (.inr (.inl 10)), .inl (ck_one 6), .inl (ck_one 6), .inl (0, 299, [])], ([], [], []), ([(11, 48, 48)], []), [(.inr none, 249, ([], [], []))])
set_option maxRecDepth 100000 in
theorem pl_s440_s {X : Int → Int} {LX : Nat} : ck_Ok p2_OL X LX 45 pl_s440 := ck_ok_s (O := p2_OL) (X := X) (LX := LX) (E := []) (mi := 45) (cuts := []) (f := 116) (S := pl_s440) (lx := none) (XF := []) ⟨pl_nmu, ck_E0⟩ ck_X0 ck_l0 (by decide +kernel)
set_option maxRecDepth 100000 in
/-- GlacierMail$Rows.put -/
noncomputable def pl_s441 : ck_Sum := ((0, 0, 0), 249, [.inr (.inr (.inl 14)), .inl (0, 23, []), .inl (ck_one 1), .inl (ck_one 6)], ([], [], []), (zl173, []), [(.inr none, 249, ([], [], []))])
set_option maxRecDepth 100000 in
theorem pl_s441_s {X : Int → Int} {LX : Nat} : ck_Ok p2_OL X LX 45 pl_s441 := ck_ok_s (O := p2_OL) (X := X) (LX := LX) (E := []) (mi := 45) (cuts := []) (f := 116) (S := pl_s441) (lx := none) (XF := []) ⟨pl_nmu, ck_E0⟩ ck_X0 ck_l0 (by decide +kernel)
set_option maxRecDepth 100000 in
/-- GlacierMail$Rows.put -/
noncomputable def pl_s442 : ck_Sum := ((0, 0, 0), 249, [.inr (.inr (.inl 14)), .inl (ck_one (-1)), .inl (ck_one 1), .inl (ck_one 6)], ([], [], []), ([], []), [(.inr none, 249, ([], [], []))])
set_option maxRecDepth 100000 in
theorem pl_s442_s {X : Int → Int} {LX : Nat} : ck_Ok p2_OL X LX 45 pl_s442 := ck_ok_s (O := p2_OL) (X := X) (LX := LX) (E := []) (mi := 45) (cuts := []) (f := 76) (S := pl_s442) (lx := none) (XF := []) ⟨pl_nmu, ck_E0⟩ ck_X0 ck_l0 (by decide +kernel)
set_option maxRecDepth 100000 in
/-- GlacierMail$State.openLetter -/
noncomputable def pl_s443 : ck_Sum := ((1, 0, 0), 249, [.inr (.inr (.inl 3)), .inl (ck_one 6), .inl ((-1), 299, [])], ([], [], [(3, 6, 6, (0, 299, [(10, 0)]))]), ([(11, 47, 48), (14, 3, 3), (15, 0, 71)], []), [(.inr none, 249, ([], [], [(14, 3, 3, (1, 24, []))]))])
set_option maxRecDepth 100000 in
theorem pl_s443_s {X : Int → Int} {LX : Nat} : ck_Ok p2_OL X LX 159 pl_s443 := ck_ok_s (O := p2_OL) (X := X) (LX := LX) (E := [(45, [pl_s439, pl_s440, pl_s376, pl_s441, pl_s378, pl_s379, pl_s442, pl_s381]), (102, [pl_s382])]) (mi := 159) (cuts := []) (f := 144) (S := pl_s443) (lx := none) (XF := []) ⟨pl_nmu, ck_E1 (ck_S1 pl_s439_s (ck_S1 pl_s440_s (ck_S1 pl_s376_s (ck_S1 pl_s441_s (ck_S1 pl_s378_s (ck_S1 pl_s379_s (ck_S1 pl_s442_s (ck_S1 pl_s381_s ck_S0)))))))) (ck_E1 (ck_S1 pl_s382_s ck_S0) ck_E0)⟩ ck_X0 ck_l0 (by decide +kernel)
set_option maxRecDepth 100000 in
/-- GlacierMail.open -/
noncomputable def pl_s444 : ck_Sum := ((8, 2, 12), 249, [.inr (.inr (.inl 1)), .inl (ck_one 6)], ([], zl230, [(3, 6, 6, (0, 299, [(10, 0)]))]), ([(1, 15, 15), (11, 47, 48), (14, 3, 3), (15, 0, 71), (42, 1, 2), (44, 0, 7), (45, 3, 3), (46, 0, 55), (47, 3, 3), (48, 0, 23), (49, 3, 3), (50, 0, 23), (51, 3, 3), (52, 0, 167), (53, 3, 3), (54, 0, 35), (55, 3, 3), (56, 0, 71), (57, 0, 7), (58, 3, 3), (59, 0, 55), (60, 3, 3), (61, 0, 23), (62, 3, 3), (63, 0, 23), (64, 3, 3), (65, 0, 167), (66, 3, 3), (67, 0, 35), (68, 3, 3), (69, 0, 71), (70, 0, 7), (71, 3, 3), (72, 0, 55), (73, 3, 3), (74, 0, 23), (75, 3, 3), (76, 0, 23), (77, 3, 3), (78, 0, 167), (79, 3, 3), (80, 0, 35), (81, 3, 3), (82, 0, 71), (83, 0, 7), (84, 3, 3), (85, 0, 55), (86, 3, 3), (87, 0, 23), (88, 3, 3), (89, 0, 23), (90, 3, 3), (91, 0, 167), (92, 3, 3), (93, 0, 35), (94, 3, 3), (95, 0, 71), (96, 0, 7), (97, 3, 3), (98, 0, 55), (99, 3, 3), (100, 0, 23), (101, 3, 3), (102, 0, 23), (103, 3, 3), (104, 0, 167), (105, 3, 3), (106, 0, 35), (107, 3, 3), (108, 0, 71), (109, 0, 7), (110, 3, 3), (111, 0, 55), (112, 3, 3), (113, 0, 23), (114, 3, 3), (115, 0, 23), (116, 3, 3), (117, 0, 167), (118, 3, 3), (119, 0, 35), (120, 3, 3), (121, 0, 71), (122, 0, 7), (123, 3, 3), (124, 0, 55), (125, 3, 3), (126, 0, 23), (127, 3, 3), (128, 0, 23), (129, 3, 3), (130, 0, 167), (131, 3, 3), (132, 0, 35), (133, 3, 3), (134, 0, 71), (135, 0, 7), (136, 3, 3), (137, 0, 55), (138, 3, 3), (139, 0, 23), (140, 3, 3), (141, 0, 23), (142, 3, 3), (143, 0, 167), (144, 3, 3), (145, 0, 35), (146, 3, 3), (147, 0, 71), (148, 0, 7), (149, 3, 3), (150, 0, 55), (151, 3, 3), (152, 0, 23), (153, 3, 3), (154, 0, 23), (155, 3, 3), (156, 0, 167), (157, 3, 3), (158, 0, 35), (159, 3, 3), (160, 0, 71), (161, 0, 7), (162, 3, 3), (163, 0, 55), (164, 3, 3), (165, 0, 23), (166, 3, 3), (167, 0, 23), (168, 3, 3), (169, 0, 167), (170, 3, 3), (171, 0, 35), (172, 3, 3), (173, 0, 71), (174, 0, 7), (175, 3, 3), (176, 0, 55), (177, 3, 3), (178, 0, 23), (179, 3, 3), (180, 0, 23), (181, 3, 3), (182, 0, 167), (183, 3, 3), (184, 0, 35), (185, 3, 3), (186, 0, 71), (187, 0, 7), (188, 3, 3), (189, 0, 55), (190, 3, 3), (191, 0, 23), (192, 3, 3), (193, 0, 23), (194, 3, 3), (195, 0, 167), (196, 3, 3), (197, 0, 35), (198, 3, 3), (199, 0, 71), (200, 6, 6), (204, 0, 9), (205, 0, 14849), (206, 2, 8), (220, 3, 3), (221, 0, 47)], zl104), zl245)
set_option maxRecDepth 100000 in
theorem pl_s444_s {X : Int → Int} {LX : Nat} : ck_Ok p2_OL X LX 158 pl_s444 := ck_ok_s (O := p2_OL) (X := X) (LX := LX) (E := [(143, [pl_s436]), (24, [pl_s217]), (66, [pl_s438]), (154, [pl_s341]), (10, [pl_s204]), (159, [pl_s443])]) (mi := 158) (cuts := []) (f := 140) (S := pl_s444) (lx := none) (XF := []) ⟨pl_nmu, ck_E1 (ck_S1 pl_s436_s ck_S0) (ck_E1 (ck_S1 pl_s217_s ck_S0) (ck_E1 (ck_S1 pl_s438_s ck_S0) (ck_E1 (ck_S1 pl_s341_s ck_S0) (ck_E1 (ck_S1 pl_s204_s ck_S0) (ck_E1 (ck_S1 pl_s443_s ck_S0) ck_E0)))))⟩ ck_X0 ck_l0 (by decide +kernel)
set_option maxRecDepth 100000 in
/-- GlacierMail.need -/
noncomputable def pl_s445 : ck_Sum := ((6, 1, 6), 249, [.inr (.inr (.inl 1)), .inl (ck_one 7), .inl (0, 24, [])], ([], [], []), ([], []), [(.inr none, 249, ([], [], [])), (.inl 3, 249, ([], [], []))])
set_option maxRecDepth 100000 in
theorem pl_s445_s {X : Int → Int} {LX : Nat} : ck_Ok p2_OL X LX 133 pl_s445 := ck_ok_s (O := p2_OL) (X := X) (LX := LX) (E := []) (mi := 133) (cuts := []) (f := 82) (S := pl_s445) (lx := none) (XF := []) ⟨pl_nmu, ck_E0⟩ ck_X0 ck_l0 (by decide +kernel)
set_option maxRecDepth 100000 in
/-- GlacierMail.needLetter -/
noncomputable def pl_s446 : ck_Sum := ((7, 1, 6), 249, [.inr (.inr (.inl 1)), .inl (ck_one 7)], ([], [], []), ([], []), [(.inl 3, 249, ([], [], [])), (.inr none, 249, ([], [], []))])
set_option maxRecDepth 100000 in
theorem pl_s446_s {X : Int → Int} {LX : Nat} : ck_Ok p2_OL X LX 143 pl_s446 := ck_ok_s (O := p2_OL) (X := X) (LX := LX) (E := [(9, [pl_s200]), (133, [pl_s445])]) (mi := 143) (cuts := []) (f := 86) (S := pl_s446) (lx := none) (XF := []) ⟨pl_nmu, ck_E1 (ck_S1 pl_s200_s ck_S0) (ck_E1 (ck_S1 pl_s445_s ck_S0) ck_E0)⟩ ck_X0 ck_l0 (by decide +kernel)
set_option maxRecDepth 100000 in
/-- GlacierMail$State.isRock -/
noncomputable def pl_s447 : ck_Sum := ((1, 0, 0), 249, [.inr (.inr (.inl 3)), .inl (ck_one 7)], ([], [], []), ([], []), [(.inr (some (.inl (ck_one 0))), 249, ([], [], [])), (.inr (some (.inl (ck_one 1))), 249, ([], [], []))])
set_option maxRecDepth 100000 in
theorem pl_s447_s {X : Int → Int} {LX : Nat} : ck_Ok p2_OL X LX 28 pl_s447 := ck_ok_s (O := p2_OL) (X := X) (LX := LX) (E := [(10, [pl_s204])]) (mi := 28) (cuts := []) (f := 90) (S := pl_s447) (lx := none) (XF := []) ⟨pl_nmu, ck_E1 (ck_S1 pl_s204_s ck_S0) ck_E0⟩ ck_X0 ck_l0 (by decide +kernel)
set_option maxRecDepth 100000 in
/-- GlacierMail.waits -/
noncomputable def pl_s448 : ck_Sum := ((2, 0, 0), 249, [.inr (.inr (.inl 1)), .inl (ck_one 7)], ([], [], [(3, 6, 6, (0, 299, [(10, 0)]))]), ([], []), [(.inr (some (.inl (ck_one 0))), 249, ([], [], [])), (.inr (some (.inl (ck_one 1))), 249, ([], [], []))])
set_option maxRecDepth 100000 in
theorem pl_s448_s {X : Int → Int} {LX : Nat} : ck_Ok p2_OL X LX 66 pl_s448 := ck_ok_s (O := p2_OL) (X := X) (LX := LX) (E := [(28, [pl_s447]), (10, [pl_s204, pl_s218]), (67, [pl_s219])]) (mi := 66) (cuts := []) (f := 134) (S := pl_s448) (lx := none) (XF := []) ⟨pl_nmu, ck_E1 (ck_S1 pl_s447_s ck_S0) (ck_E1 (ck_S1 pl_s204_s (ck_S1 pl_s218_s ck_S0)) (ck_E1 (ck_S1 pl_s219_s ck_S0) ck_E0))⟩ ck_X0 ck_l0 (by decide +kernel)
set_option maxRecDepth 100000 in
/-- GlacierMail$Rows.put -/
noncomputable def pl_s449 : ck_Sum := ((0, 0, 0), 249, [.inr (.inr (.inl 10)), .inl (ck_one 7), .inl (ck_one 5), .inl ((-1), 299, [])], ([], [], []), ([(11, 54, 54)], []), [(.inr none, 249, ([], [], []))])
set_option maxRecDepth 100000 in
theorem pl_s449_s {X : Int → Int} {LX : Nat} : ck_Ok p2_OL X LX 45 pl_s449 := ck_ok_s (O := p2_OL) (X := X) (LX := LX) (E := []) (mi := 45) (cuts := []) (f := 116) (S := pl_s449) (lx := none) (XF := []) ⟨pl_nmu, ck_E0⟩ ck_X0 ck_l0 (by decide +kernel)
set_option maxRecDepth 100000 in
/-- GlacierMail$Rows.put -/
noncomputable def pl_s450 : ck_Sum := ((0, 0, 0), 249, [.inr (.inr (.inl 10)), .inl (ck_one 7), .inl (ck_one 6), .inl (0, 299, [])], ([], [], []), ([(11, 55, 55)], []), [(.inr none, 249, ([], [], []))])
set_option maxRecDepth 100000 in
theorem pl_s450_s {X : Int → Int} {LX : Nat} : ck_Ok p2_OL X LX 45 pl_s450 := ck_ok_s (O := p2_OL) (X := X) (LX := LX) (E := []) (mi := 45) (cuts := []) (f := 116) (S := pl_s450) (lx := none) (XF := []) ⟨pl_nmu, ck_E0⟩ ck_X0 ck_l0 (by decide +kernel)
end
/-! 78r86a05.sl -/
section
/-! EVERY CALL OF THE CLASS ENDS, under a law (laid by wip/am/p2l.py). -/
set_option maxRecDepth 100000 in
/-- GlacierMail$Rows.put -/
noncomputable def pl_s451 : ck_Sum := ((0, 0, 0), 249, [.inr (.inr (.inl 14)), .inl (0, 23, []), .inl (ck_one 1), .inl (ck_one 7)], ([], [], []), (zl173, []), [(.inr none, 249, ([], [], []))])
set_option maxRecDepth 100000 in
theorem pl_s451_s {X : Int → Int} {LX : Nat} : ck_Ok p2_OL X LX 45 pl_s451 := ck_ok_s (O := p2_OL) (X := X) (LX := LX) (E := []) (mi := 45) (cuts := []) (f := 116) (S := pl_s451) (lx := none) (XF := []) ⟨pl_nmu, ck_E0⟩ ck_X0 ck_l0 (by decide +kernel)
set_option maxRecDepth 100000 in
/-- GlacierMail$Rows.put -/
noncomputable def pl_s452 : ck_Sum := ((0, 0, 0), 249, [.inr (.inr (.inl 14)), .inl (ck_one (-1)), .inl (ck_one 1), .inl (ck_one 7)], ([], [], []), ([], []), [(.inr none, 249, ([], [], []))])
set_option maxRecDepth 100000 in
theorem pl_s452_s {X : Int → Int} {LX : Nat} : ck_Ok p2_OL X LX 45 pl_s452 := ck_ok_s (O := p2_OL) (X := X) (LX := LX) (E := []) (mi := 45) (cuts := []) (f := 76) (S := pl_s452) (lx := none) (XF := []) ⟨pl_nmu, ck_E0⟩ ck_X0 ck_l0 (by decide +kernel)
set_option maxRecDepth 100000 in
/-- GlacierMail$State.openLetter -/
noncomputable def pl_s453 : ck_Sum := ((1, 0, 0), 249, [.inr (.inr (.inl 3)), .inl (ck_one 7), .inl ((-1), 299, [])], ([], [], [(3, 6, 6, (0, 299, [(10, 0)]))]), ([(11, 54, 55), (14, 3, 3), (15, 0, 71)], []), [(.inr none, 249, ([], [], [(14, 3, 3, (1, 24, []))]))])
set_option maxRecDepth 100000 in
theorem pl_s453_s {X : Int → Int} {LX : Nat} : ck_Ok p2_OL X LX 159 pl_s453 := ck_ok_s (O := p2_OL) (X := X) (LX := LX) (E := [(45, [pl_s449, pl_s450, pl_s376, pl_s451, pl_s378, pl_s379, pl_s452, pl_s381]), (102, [pl_s382])]) (mi := 159) (cuts := []) (f := 144) (S := pl_s453) (lx := none) (XF := []) ⟨pl_nmu, ck_E1 (ck_S1 pl_s449_s (ck_S1 pl_s450_s (ck_S1 pl_s376_s (ck_S1 pl_s451_s (ck_S1 pl_s378_s (ck_S1 pl_s379_s (ck_S1 pl_s452_s (ck_S1 pl_s381_s ck_S0)))))))) (ck_E1 (ck_S1 pl_s382_s ck_S0) ck_E0)⟩ ck_X0 ck_l0 (by decide +kernel)
set_option maxRecDepth 100000 in
/-- GlacierMail.open -/
noncomputable def pl_s454 : ck_Sum := ((8, 2, 12), 249, [.inr (.inr (.inl 1)), .inl (ck_one 7)], ([], zl230, [(3, 6, 6, (0, 299, [(10, 0)]))]), ([(1, 15, 15), (11, 54, 55), (14, 3, 3), (15, 0, 71), (42, 1, 2), (44, 0, 7), (45, 3, 3), (46, 0, 55), (47, 3, 3), (48, 0, 23), (49, 3, 3), (50, 0, 23), (51, 3, 3), (52, 0, 167), (53, 3, 3), (54, 0, 35), (55, 3, 3), (56, 0, 71), (57, 0, 7), (58, 3, 3), (59, 0, 55), (60, 3, 3), (61, 0, 23), (62, 3, 3), (63, 0, 23), (64, 3, 3), (65, 0, 167), (66, 3, 3), (67, 0, 35), (68, 3, 3), (69, 0, 71), (70, 0, 7), (71, 3, 3), (72, 0, 55), (73, 3, 3), (74, 0, 23), (75, 3, 3), (76, 0, 23), (77, 3, 3), (78, 0, 167), (79, 3, 3), (80, 0, 35), (81, 3, 3), (82, 0, 71), (83, 0, 7), (84, 3, 3), (85, 0, 55), (86, 3, 3), (87, 0, 23), (88, 3, 3), (89, 0, 23), (90, 3, 3), (91, 0, 167), (92, 3, 3), (93, 0, 35), (94, 3, 3), (95, 0, 71), (96, 0, 7), (97, 3, 3), (98, 0, 55), (99, 3, 3), (100, 0, 23), (101, 3, 3), (102, 0, 23), (103, 3, 3), (104, 0, 167), (105, 3, 3), (106, 0, 35), (107, 3, 3), (108, 0, 71), (109, 0, 7), (110, 3, 3), (111, 0, 55), (112, 3, 3), (113, 0, 23), (114, 3, 3), (115, 0, 23), (116, 3, 3), (117, 0, 167), (118, 3, 3), (119, 0, 35), (120, 3, 3), (121, 0, 71), (122, 0, 7), (123, 3, 3), (124, 0, 55), (125, 3, 3), (126, 0, 23), (127, 3, 3), (128, 0, 23), (129, 3, 3), (130, 0, 167), (131, 3, 3), (132, 0, 35), (133, 3, 3), (134, 0, 71), (135, 0, 7), (136, 3, 3), (137, 0, 55), (138, 3, 3), (139, 0, 23), (140, 3, 3), (141, 0, 23), (142, 3, 3), (143, 0, 167), (144, 3, 3), (145, 0, 35), (146, 3, 3), (147, 0, 71), (148, 0, 7), (149, 3, 3), (150, 0, 55), (151, 3, 3), (152, 0, 23), (153, 3, 3), (154, 0, 23), (155, 3, 3), (156, 0, 167), (157, 3, 3), (158, 0, 35), (159, 3, 3), (160, 0, 71), (161, 0, 7), (162, 3, 3), (163, 0, 55), (164, 3, 3), (165, 0, 23), (166, 3, 3), (167, 0, 23), (168, 3, 3), (169, 0, 167), (170, 3, 3), (171, 0, 35), (172, 3, 3), (173, 0, 71), (174, 0, 7), (175, 3, 3), (176, 0, 55), (177, 3, 3), (178, 0, 23), (179, 3, 3), (180, 0, 23), (181, 3, 3), (182, 0, 167), (183, 3, 3), (184, 0, 35), (185, 3, 3), (186, 0, 71), (187, 0, 7), (188, 3, 3), (189, 0, 55), (190, 3, 3), (191, 0, 23), (192, 3, 3), (193, 0, 23), (194, 3, 3), (195, 0, 167), (196, 3, 3), (197, 0, 35), (198, 3, 3), (199, 0, 71), (200, 6, 6), (204, 0, 9), (205, 0, 14849), (206, 2, 8), (220, 3, 3), (221, 0, 47)], zl104), zl245)
set_option maxRecDepth 100000 in
theorem pl_s454_s {X : Int → Int} {LX : Nat} : ck_Ok p2_OL X LX 158 pl_s454 := ck_ok_s (O := p2_OL) (X := X) (LX := LX) (E := [(143, [pl_s446]), (24, [pl_s217]), (66, [pl_s448]), (154, [pl_s341]), (10, [pl_s204]), (159, [pl_s453])]) (mi := 158) (cuts := []) (f := 140) (S := pl_s454) (lx := none) (XF := []) ⟨pl_nmu, ck_E1 (ck_S1 pl_s446_s ck_S0) (ck_E1 (ck_S1 pl_s217_s ck_S0) (ck_E1 (ck_S1 pl_s448_s ck_S0) (ck_E1 (ck_S1 pl_s341_s ck_S0) (ck_E1 (ck_S1 pl_s204_s ck_S0) (ck_E1 (ck_S1 pl_s453_s ck_S0) ck_E0)))))⟩ ck_X0 ck_l0 (by decide +kernel)
set_option maxRecDepth 100000 in
/-- GlacierMail.need -/
noncomputable def pl_s455 : ck_Sum := ((6, 1, 6), 249, [.inr (.inr (.inl 1)), .inl (ck_one 8), .inl (0, 24, [])], ([], [], []), ([], []), [(.inr none, 249, ([], [], [])), (.inl 3, 249, ([], [], []))])
set_option maxRecDepth 100000 in
theorem pl_s455_s {X : Int → Int} {LX : Nat} : ck_Ok p2_OL X LX 133 pl_s455 := ck_ok_s (O := p2_OL) (X := X) (LX := LX) (E := []) (mi := 133) (cuts := []) (f := 82) (S := pl_s455) (lx := none) (XF := []) ⟨pl_nmu, ck_E0⟩ ck_X0 ck_l0 (by decide +kernel)
set_option maxRecDepth 100000 in
/-- GlacierMail.needLetter -/
noncomputable def pl_s456 : ck_Sum := ((7, 1, 6), 249, [.inr (.inr (.inl 1)), .inl (ck_one 8)], ([], [], []), ([], []), [(.inl 3, 249, ([], [], [])), (.inr none, 249, ([], [], []))])
set_option maxRecDepth 100000 in
theorem pl_s456_s {X : Int → Int} {LX : Nat} : ck_Ok p2_OL X LX 143 pl_s456 := ck_ok_s (O := p2_OL) (X := X) (LX := LX) (E := [(9, [pl_s200]), (133, [pl_s455])]) (mi := 143) (cuts := []) (f := 86) (S := pl_s456) (lx := none) (XF := []) ⟨pl_nmu, ck_E1 (ck_S1 pl_s200_s ck_S0) (ck_E1 (ck_S1 pl_s455_s ck_S0) ck_E0)⟩ ck_X0 ck_l0 (by decide +kernel)
set_option maxRecDepth 100000 in
/-- GlacierMail$State.isRock -/
noncomputable def pl_s457 : ck_Sum := ((1, 0, 0), 249, [.inr (.inr (.inl 3)), .inl (ck_one 8)], ([], [], []), ([], []), [(.inr (some (.inl (ck_one 0))), 249, ([], [], [])), (.inr (some (.inl (ck_one 1))), 249, ([], [], []))])
set_option maxRecDepth 100000 in
theorem pl_s457_s {X : Int → Int} {LX : Nat} : ck_Ok p2_OL X LX 28 pl_s457 := ck_ok_s (O := p2_OL) (X := X) (LX := LX) (E := [(10, [pl_s204])]) (mi := 28) (cuts := []) (f := 90) (S := pl_s457) (lx := none) (XF := []) ⟨pl_nmu, ck_E1 (ck_S1 pl_s204_s ck_S0) ck_E0⟩ ck_X0 ck_l0 (by decide +kernel)
set_option maxRecDepth 100000 in
/-- GlacierMail.waits -/
noncomputable def pl_s458 : ck_Sum := ((2, 0, 0), 249, [.inr (.inr (.inl 1)), .inl (ck_one 8)], ([], [], [(3, 6, 6, (0, 299, [(10, 0)]))]), ([], []), [(.inr (some (.inl (ck_one 0))), 249, ([], [], [])), (.inr (some (.inl (ck_one 1))), 249, ([], [], []))])
set_option maxRecDepth 100000 in
theorem pl_s458_s {X : Int → Int} {LX : Nat} : ck_Ok p2_OL X LX 66 pl_s458 := ck_ok_s (O := p2_OL) (X := X) (LX := LX) (E := [(28, [pl_s457]), (10, [pl_s204, pl_s218]), (67, [pl_s219])]) (mi := 66) (cuts := []) (f := 134) (S := pl_s458) (lx := none) (XF := []) ⟨pl_nmu, ck_E1 (ck_S1 pl_s457_s ck_S0) (ck_E1 (ck_S1 pl_s204_s (ck_S1 pl_s218_s ck_S0)) (ck_E1 (ck_S1 pl_s219_s ck_S0) ck_E0))⟩ ck_X0 ck_l0 (by decide +kernel)
set_option maxRecDepth 100000 in
/-- GlacierMail$Rows.put -/
noncomputable def pl_s459 : ck_Sum := ((0, 0, 0), 249, [.inr (.inr (.inl 10)), .inl (ck_one 8), .inl (ck_one 5), .inl ((-1), 299, [])], ([], [], []), ([(11, 61, 61)], []), [(.inr none, 249, ([], [], []))])
set_option maxRecDepth 100000 in
theorem pl_s459_s {X : Int → Int} {LX : Nat} : ck_Ok p2_OL X LX 45 pl_s459 := ck_ok_s (O := p2_OL) (X := X) (LX := LX) (E := []) (mi := 45) (cuts := []) (f := 116) (S := pl_s459) (lx := none) (XF := []) ⟨pl_nmu, ck_E0⟩ ck_X0 ck_l0 (by decide +kernel)
set_option maxRecDepth 100000 in
/-- GlacierMail$Rows.put -/
noncomputable def pl_s460 : ck_Sum := ((0, 0, 0), 249, [.inr (.inr (.inl 10)), .inl (ck_one 8), .inl (ck_one 6), .inl (0, 299, [])], ([], [], []), ([(11, 62, 62)], []), [(.inr none, 249, ([], [], []))])
set_option maxRecDepth 100000 in
theorem pl_s460_s {X : Int → Int} {LX : Nat} : ck_Ok p2_OL X LX 45 pl_s460 := ck_ok_s (O := p2_OL) (X := X) (LX := LX) (E := []) (mi := 45) (cuts := []) (f := 116) (S := pl_s460) (lx := none) (XF := []) ⟨pl_nmu, ck_E0⟩ ck_X0 ck_l0 (by decide +kernel)
set_option maxRecDepth 100000 in
/-- GlacierMail$Rows.put -/
noncomputable def pl_s461 : ck_Sum := ((0, 0, 0), 249, [.inr (.inr (.inl 14)), .inl (0, 23, []), .inl (ck_one 1), .inl (ck_one 8)], ([], [], []), (zl173, []), [(.inr none, 249, ([], [], []))])
set_option maxRecDepth 100000 in
theorem pl_s461_s {X : Int → Int} {LX : Nat} : ck_Ok p2_OL X LX 45 pl_s461 := ck_ok_s (O := p2_OL) (X := X) (LX := LX) (E := []) (mi := 45) (cuts := []) (f := 116) (S := pl_s461) (lx := none) (XF := []) ⟨pl_nmu, ck_E0⟩ ck_X0 ck_l0 (by decide +kernel)
set_option maxRecDepth 100000 in
/-- GlacierMail$Rows.put -/
noncomputable def pl_s462 : ck_Sum := ((0, 0, 0), 249, [.inr (.inr (.inl 14)), .inl (ck_one (-1)), .inl (ck_one 1), .inl (ck_one 8)], ([], [], []), ([], []), [(.inr none, 249, ([], [], []))])
set_option maxRecDepth 100000 in
theorem pl_s462_s {X : Int → Int} {LX : Nat} : ck_Ok p2_OL X LX 45 pl_s462 := ck_ok_s (O := p2_OL) (X := X) (LX := LX) (E := []) (mi := 45) (cuts := []) (f := 76) (S := pl_s462) (lx := none) (XF := []) ⟨pl_nmu, ck_E0⟩ ck_X0 ck_l0 (by decide +kernel)
set_option maxRecDepth 100000 in
/-- GlacierMail$State.openLetter -/
noncomputable def pl_s463 : ck_Sum := ((1, 0, 0), 249, [.inr (.inr (.inl 3)), .inl (ck_one 8), .inl ((-1), 299, [])], ([], [], [(3, 6, 6, (0, 299, [(10, 0)]))]), ([(11, 61, 62), (14, 3, 3), (15, 0, 71)], []), [(.inr none, 249, ([], [], [(14, 3, 3, (1, 24, []))]))])
set_option maxRecDepth 100000 in
theorem pl_s463_s {X : Int → Int} {LX : Nat} : ck_Ok p2_OL X LX 159 pl_s463 := ck_ok_s (O := p2_OL) (X := X) (LX := LX) (E := [(45, [pl_s459, pl_s460, pl_s376, pl_s461, pl_s378, pl_s379, pl_s462, pl_s381]), (102, [pl_s382])]) (mi := 159) (cuts := []) (f := 144) (S := pl_s463) (lx := none) (XF := []) ⟨pl_nmu, ck_E1 (ck_S1 pl_s459_s (ck_S1 pl_s460_s (ck_S1 pl_s376_s (ck_S1 pl_s461_s (ck_S1 pl_s378_s (ck_S1 pl_s379_s (ck_S1 pl_s462_s (ck_S1 pl_s381_s ck_S0)))))))) (ck_E1 (ck_S1 pl_s382_s ck_S0) ck_E0)⟩ ck_X0 ck_l0 (by decide +kernel)
set_option maxRecDepth 100000 in
/-- GlacierMail.open -/
noncomputable def pl_s464 : ck_Sum := ((8, 2, 12), 249, [.inr (.inr (.inl 1)), .inl (ck_one 8)], ([], zl230, [(3, 6, 6, (0, 299, [(10, 0)]))]), ([(1, 15, 15), (11, 61, 62), (14, 3, 3), (15, 0, 71), (42, 1, 2), (44, 0, 7), (45, 3, 3), (46, 0, 55), (47, 3, 3), (48, 0, 23), (49, 3, 3), (50, 0, 23), (51, 3, 3), (52, 0, 167), (53, 3, 3), (54, 0, 35), (55, 3, 3), (56, 0, 71), (57, 0, 7), (58, 3, 3), (59, 0, 55), (60, 3, 3), (61, 0, 23), (62, 3, 3), (63, 0, 23), (64, 3, 3), (65, 0, 167), (66, 3, 3), (67, 0, 35), (68, 3, 3), (69, 0, 71), (70, 0, 7), (71, 3, 3), (72, 0, 55), (73, 3, 3), (74, 0, 23), (75, 3, 3), (76, 0, 23), (77, 3, 3), (78, 0, 167), (79, 3, 3), (80, 0, 35), (81, 3, 3), (82, 0, 71), (83, 0, 7), (84, 3, 3), (85, 0, 55), (86, 3, 3), (87, 0, 23), (88, 3, 3), (89, 0, 23), (90, 3, 3), (91, 0, 167), (92, 3, 3), (93, 0, 35), (94, 3, 3), (95, 0, 71), (96, 0, 7), (97, 3, 3), (98, 0, 55), (99, 3, 3), (100, 0, 23), (101, 3, 3), (102, 0, 23), (103, 3, 3), (104, 0, 167), (105, 3, 3), (106, 0, 35), (107, 3, 3), (108, 0, 71), (109, 0, 7), (110, 3, 3), (111, 0, 55), (112, 3, 3), (113, 0, 23), (114, 3, 3), (115, 0, 23), (116, 3, 3), (117, 0, 167), (118, 3, 3), (119, 0, 35), (120, 3, 3), (121, 0, 71), (122, 0, 7), (123, 3, 3), (124, 0, 55), (125, 3, 3), (126, 0, 23), (127, 3, 3), (128, 0, 23), (129, 3, 3), (130, 0, 167), (131, 3, 3), (132, 0, 35), (133, 3, 3), (134, 0, 71), (135, 0, 7), (136, 3, 3), (137, 0, 55), (138, 3, 3), (139, 0, 23), (140, 3, 3), (141, 0, 23), (142, 3, 3), (143, 0, 167), (144, 3, 3), (145, 0, 35), (146, 3, 3), (147, 0, 71), (148, 0, 7), (149, 3, 3), (150, 0, 55), (151, 3, 3), (152, 0, 23), (153, 3, 3), (154, 0, 23), (155, 3, 3), (156, 0, 167), (157, 3, 3), (158, 0, 35), (159, 3, 3), (160, 0, 71), (161, 0, 7), (162, 3, 3), (163, 0, 55), (164, 3, 3), (165, 0, 23), (166, 3, 3), (167, 0, 23), (168, 3, 3), (169, 0, 167), (170, 3, 3), (171, 0, 35), (172, 3, 3), (173, 0, 71), (174, 0, 7), (175, 3, 3), (176, 0, 55), (177, 3, 3), (178, 0, 23), (179, 3, 3), (180, 0, 23), (181, 3, 3), (182, 0, 167), (183, 3, 3), (184, 0, 35), (185, 3, 3), (186, 0, 71), (187, 0, 7), (188, 3, 3), (189, 0, 55), (190, 3, 3), (191, 0, 23), (192, 3, 3), (193, 0, 23), (194, 3, 3), (195, 0, 167), (196, 3, 3), (197, 0, 35), (198, 3, 3), (199, 0, 71), (200, 6, 6), (204, 0, 9), (205, 0, 14849), (206, 2, 8), (220, 3, 3), (221, 0, 47)], zl104), zl245)
set_option maxRecDepth 100000 in
theorem pl_s464_s {X : Int → Int} {LX : Nat} : ck_Ok p2_OL X LX 158 pl_s464 := ck_ok_s (O := p2_OL) (X := X) (LX := LX) (E := [(143, [pl_s456]), (24, [pl_s217]), (66, [pl_s458]), (154, [pl_s341]), (10, [pl_s204]), (159, [pl_s463])]) (mi := 158) (cuts := []) (f := 140) (S := pl_s464) (lx := none) (XF := []) ⟨pl_nmu, ck_E1 (ck_S1 pl_s456_s ck_S0) (ck_E1 (ck_S1 pl_s217_s ck_S0) (ck_E1 (ck_S1 pl_s458_s ck_S0) (ck_E1 (ck_S1 pl_s341_s ck_S0) (ck_E1 (ck_S1 pl_s204_s ck_S0) (ck_E1 (ck_S1 pl_s463_s ck_S0) ck_E0)))))⟩ ck_X0 ck_l0 (by decide +kernel)
set_option maxRecDepth 100000 in
/-- GlacierMail.need -/
noncomputable def pl_s465 : ck_Sum := ((6, 1, 6), 249, [.inr (.inr (.inl 1)), .inl (ck_one 9), .inl (0, 24, [])], ([], [], []), ([], []), [(.inr none, 249, ([], [], [])), (.inl 3, 249, ([], [], []))])
set_option maxRecDepth 100000 in
theorem pl_s465_s {X : Int → Int} {LX : Nat} : ck_Ok p2_OL X LX 133 pl_s465 := ck_ok_s (O := p2_OL) (X := X) (LX := LX) (E := []) (mi := 133) (cuts := []) (f := 82) (S := pl_s465) (lx := none) (XF := []) ⟨pl_nmu, ck_E0⟩ ck_X0 ck_l0 (by decide +kernel)
set_option maxRecDepth 100000 in
/-- GlacierMail.needLetter -/
noncomputable def pl_s466 : ck_Sum := ((7, 1, 6), 249, [.inr (.inr (.inl 1)), .inl (ck_one 9)], ([], [], []), ([], []), [(.inl 3, 249, ([], [], [])), (.inr none, 249, ([], [], []))])
set_option maxRecDepth 100000 in
theorem pl_s466_s {X : Int → Int} {LX : Nat} : ck_Ok p2_OL X LX 143 pl_s466 := ck_ok_s (O := p2_OL) (X := X) (LX := LX) (E := [(9, [pl_s200]), (133, [pl_s465])]) (mi := 143) (cuts := []) (f := 86) (S := pl_s466) (lx := none) (XF := []) ⟨pl_nmu, ck_E1 (ck_S1 pl_s200_s ck_S0) (ck_E1 (ck_S1 pl_s465_s ck_S0) ck_E0)⟩ ck_X0 ck_l0 (by decide +kernel)
set_option maxRecDepth 100000 in
/-- GlacierMail$State.isRock -/
noncomputable def pl_s467 : ck_Sum := ((1, 0, 0), 249, [.inr (.inr (.inl 3)), .inl (ck_one 9)], ([], [], []), ([], []), [(.inr (some (.inl (ck_one 0))), 249, ([], [], [])), (.inr (some (.inl (ck_one 1))), 249, ([], [], []))])
set_option maxRecDepth 100000 in
theorem pl_s467_s {X : Int → Int} {LX : Nat} : ck_Ok p2_OL X LX 28 pl_s467 := ck_ok_s (O := p2_OL) (X := X) (LX := LX) (E := [(10, [pl_s204])]) (mi := 28) (cuts := []) (f := 90) (S := pl_s467) (lx := none) (XF := []) ⟨pl_nmu, ck_E1 (ck_S1 pl_s204_s ck_S0) ck_E0⟩ ck_X0 ck_l0 (by decide +kernel)
set_option maxRecDepth 100000 in
/-- GlacierMail.waits -/
noncomputable def pl_s468 : ck_Sum := ((2, 0, 0), 249, [.inr (.inr (.inl 1)), .inl (ck_one 9)], ([], [], [(3, 6, 6, (0, 299, [(10, 0)]))]), ([], []), [(.inr (some (.inl (ck_one 0))), 249, ([], [], [])), (.inr (some (.inl (ck_one 1))), 249, ([], [], []))])
set_option maxRecDepth 100000 in
theorem pl_s468_s {X : Int → Int} {LX : Nat} : ck_Ok p2_OL X LX 66 pl_s468 := ck_ok_s (O := p2_OL) (X := X) (LX := LX) (E := [(28, [pl_s467]), (10, [pl_s204, pl_s218]), (67, [pl_s219])]) (mi := 66) (cuts := []) (f := 134) (S := pl_s468) (lx := none) (XF := []) ⟨pl_nmu, ck_E1 (ck_S1 pl_s467_s ck_S0) (ck_E1 (ck_S1 pl_s204_s (ck_S1 pl_s218_s ck_S0)) (ck_E1 (ck_S1 pl_s219_s ck_S0) ck_E0))⟩ ck_X0 ck_l0 (by decide +kernel)
set_option maxRecDepth 100000 in
/-- GlacierMail$Rows.put -/
noncomputable def pl_s469 : ck_Sum := ((0, 0, 0), 249, [.inr (.inr (.inl 10)), .inl (ck_one 9), .inl (ck_one 5), .inl ((-1), 299, [])], ([], [], []), ([(11, 68, 68)], []), [(.inr none, 249, ([], [], []))])
set_option maxRecDepth 100000 in
theorem pl_s469_s {X : Int → Int} {LX : Nat} : ck_Ok p2_OL X LX 45 pl_s469 := ck_ok_s (O := p2_OL) (X := X) (LX := LX) (E := []) (mi := 45) (cuts := []) (f := 116) (S := pl_s469) (lx := none) (XF := []) ⟨pl_nmu, ck_E0⟩ ck_X0 ck_l0 (by decide +kernel)
set_option maxRecDepth 100000 in
/-- GlacierMail$Rows.put -/
noncomputable def pl_s470 : ck_Sum := ((0, 0, 0), 249, [.inr (.inr (.inl 10)), .inl (ck_one 9), .inl (ck_one 6), .inl (0, 299, [])], ([], [], []), ([(11, 69, 69)], []), [(.inr none, 249, ([], [], []))])
set_option maxRecDepth 100000 in
theorem pl_s470_s {X : Int → Int} {LX : Nat} : ck_Ok p2_OL X LX 45 pl_s470 := ck_ok_s (O := p2_OL) (X := X) (LX := LX) (E := []) (mi := 45) (cuts := []) (f := 116) (S := pl_s470) (lx := none) (XF := []) ⟨pl_nmu, ck_E0⟩ ck_X0 ck_l0 (by decide +kernel)
set_option maxRecDepth 100000 in
/-- GlacierMail$Rows.put -/
noncomputable def pl_s471 : ck_Sum := ((0, 0, 0), 249, [.inr (.inr (.inl 14)), .inl (0, 23, []), .inl (ck_one 1), .inl (ck_one 9)], ([], [], []), (zl173, []), [(.inr none, 249, ([], [], []))])
set_option maxRecDepth 100000 in
theorem pl_s471_s {X : Int → Int} {LX : Nat} : ck_Ok p2_OL X LX 45 pl_s471 := ck_ok_s (O := p2_OL) (X := X) (LX := LX) (E := []) (mi := 45) (cuts := []) (f := 116) (S := pl_s471) (lx := none) (XF := []) ⟨pl_nmu, ck_E0⟩ ck_X0 ck_l0 (by decide +kernel)
set_option maxRecDepth 100000 in
/-- GlacierMail$Rows.put -/
noncomputable def pl_s472 : ck_Sum := ((0, 0, 0), 249, [.inr (.inr (.inl 14)), .inl (ck_one (-1)), .inl (ck_one 1), .inl (ck_one 9)], ([], [], []), ([], []), [(.inr none, 249, ([], [], []))])
set_option maxRecDepth 100000 in
theorem pl_s472_s {X : Int → Int} {LX : Nat} : ck_Ok p2_OL X LX 45 pl_s472 := ck_ok_s (O := p2_OL) (X := X) (LX := LX) (E := []) (mi := 45) (cuts := []) (f := 76) (S := pl_s472) (lx := none) (XF := []) ⟨pl_nmu, ck_E0⟩ ck_X0 ck_l0 (by decide +kernel)
set_option maxRecDepth 100000 in
/-- GlacierMail$State.openLetter -/
noncomputable def pl_s473 : ck_Sum := ((1, 0, 0), 249, [.inr (.inr (.inl 3)), .inl (ck_one 9), .inl ((-1), 299, [])], ([], [], [(3, 6, 6, (0, 299, [(10, 0)]))]), ([(11, 68, 69), (14, 3, 3), (15, 0, 71)], []), [(.inr none, 249, ([], [], [(14, 3, 3, (1, 24, []))]))])
set_option maxRecDepth 100000 in
theorem pl_s473_s {X : Int → Int} {LX : Nat} : ck_Ok p2_OL X LX 159 pl_s473 := ck_ok_s (O := p2_OL) (X := X) (LX := LX) (E := [(45, [pl_s469, pl_s470, pl_s376, pl_s471, pl_s378, pl_s379, pl_s472, pl_s381]), (102, [pl_s382])]) (mi := 159) (cuts := []) (f := 144) (S := pl_s473) (lx := none) (XF := []) ⟨pl_nmu, ck_E1 (ck_S1 pl_s469_s (ck_S1 pl_s470_s (ck_S1 pl_s376_s (ck_S1 pl_s471_s (ck_S1 pl_s378_s (ck_S1 pl_s379_s (ck_S1 pl_s472_s (ck_S1 pl_s381_s ck_S0)))))))) (ck_E1 (ck_S1 pl_s382_s ck_S0) ck_E0)⟩ ck_X0 ck_l0 (by decide +kernel)
set_option maxRecDepth 100000 in
/-- GlacierMail.open -/
noncomputable def pl_s474 : ck_Sum := ((8, 2, 12), 249, [.inr (.inr (.inl 1)), .inl (ck_one 9)], ([], zl230, [(3, 6, 6, (0, 299, [(10, 0)]))]), ([(1, 15, 15), (11, 68, 69), (14, 3, 3), (15, 0, 71), (42, 1, 2), (44, 0, 7), (45, 3, 3), (46, 0, 55), (47, 3, 3), (48, 0, 23), (49, 3, 3), (50, 0, 23), (51, 3, 3), (52, 0, 167), (53, 3, 3), (54, 0, 35), (55, 3, 3), (56, 0, 71), (57, 0, 7), (58, 3, 3), (59, 0, 55), (60, 3, 3), (61, 0, 23), (62, 3, 3), (63, 0, 23), (64, 3, 3), (65, 0, 167), (66, 3, 3), (67, 0, 35), (68, 3, 3), (69, 0, 71), (70, 0, 7), (71, 3, 3), (72, 0, 55), (73, 3, 3), (74, 0, 23), (75, 3, 3), (76, 0, 23), (77, 3, 3), (78, 0, 167), (79, 3, 3), (80, 0, 35), (81, 3, 3), (82, 0, 71), (83, 0, 7), (84, 3, 3), (85, 0, 55), (86, 3, 3), (87, 0, 23), (88, 3, 3), (89, 0, 23), (90, 3, 3), (91, 0, 167), (92, 3, 3), (93, 0, 35), (94, 3, 3), (95, 0, 71), (96, 0, 7), (97, 3, 3), (98, 0, 55), (99, 3, 3), (100, 0, 23), (101, 3, 3), (102, 0, 23), (103, 3, 3), (104, 0, 167), (105, 3, 3), (106, 0, 35), (107, 3, 3), (108, 0, 71), (109, 0, 7), (110, 3, 3), (111, 0, 55), (112, 3, 3), (113, 0, 23), (114, 3, 3), (115, 0, 23), (116, 3, 3), (117, 0, 167), (118, 3, 3), (119, 0, 35), (120, 3, 3), (121, 0, 71), (122, 0, 7), (123, 3, 3), (124, 0, 55), (125, 3, 3), (126, 0, 23), (127, 3, 3), (128, 0, 23), (129, 3, 3), (130, 0, 167), (131, 3, 3), (132, 0, 35), (133, 3, 3), (134, 0, 71), (135, 0, 7), (136, 3, 3), (137, 0, 55), (138, 3, 3), (139, 0, 23), (140, 3, 3), (141, 0, 23), (142, 3, 3), (143, 0, 167), (144, 3, 3), (145, 0, 35), (146, 3, 3), (147, 0, 71), (148, 0, 7), (149, 3, 3), (150, 0, 55), (151, 3, 3), (152, 0, 23), (153, 3, 3), (154, 0, 23), (155, 3, 3), (156, 0, 167), (157, 3, 3), (158, 0, 35), (159, 3, 3), (160, 0, 71), (161, 0, 7), (162, 3, 3), (163, 0, 55), (164, 3, 3), (165, 0, 23), (166, 3, 3), (167, 0, 23), (168, 3, 3), (169, 0, 167), (170, 3, 3), (171, 0, 35), (172, 3, 3), (173, 0, 71), (174, 0, 7), (175, 3, 3), (176, 0, 55), (177, 3, 3), (178, 0, 23), (179, 3, 3), (180, 0, 23), (181, 3, 3), (182, 0, 167), (183, 3, 3), (184, 0, 35), (185, 3, 3), (186, 0, 71), (187, 0, 7), (188, 3, 3), (189, 0, 55), (190, 3, 3), (191, 0, 23), (192, 3, 3), (193, 0, 23), (194, 3, 3), (195, 0, 167), (196, 3, 3), (197, 0, 35), (198, 3, 3), (199, 0, 71), (200, 6, 6), (204, 0, 9), (205, 0, 14849), (206, 2, 8), (220, 3, 3), (221, 0, 47)], zl104), zl245)
set_option maxRecDepth 100000 in
theorem pl_s474_s {X : Int → Int} {LX : Nat} : ck_Ok p2_OL X LX 158 pl_s474 := ck_ok_s (O := p2_OL) (X := X) (LX := LX) (E := [(143, [pl_s466]), (24, [pl_s217]), (66, [pl_s468]), (154, [pl_s341]), (10, [pl_s204]), (159, [pl_s473])]) (mi := 158) (cuts := []) (f := 140) (S := pl_s474) (lx := none) (XF := []) ⟨pl_nmu, ck_E1 (ck_S1 pl_s466_s ck_S0) (ck_E1 (ck_S1 pl_s217_s ck_S0) (ck_E1 (ck_S1 pl_s468_s ck_S0) (ck_E1 (ck_S1 pl_s341_s ck_S0) (ck_E1 (ck_S1 pl_s204_s ck_S0) (ck_E1 (ck_S1 pl_s473_s ck_S0) ck_E0)))))⟩ ck_X0 ck_l0 (by decide +kernel)
set_option maxRecDepth 100000 in
/-- GlacierMail.need -/
noncomputable def pl_s475 : ck_Sum := ((6, 1, 6), 249, [.inr (.inr (.inl 1)), .inl (ck_one 10), .inl (0, 24, [])], ([], [], []), ([], []), [(.inr none, 249, ([], [], [])), (.inl 3, 249, ([], [], []))])
set_option maxRecDepth 100000 in
theorem pl_s475_s {X : Int → Int} {LX : Nat} : ck_Ok p2_OL X LX 133 pl_s475 := ck_ok_s (O := p2_OL) (X := X) (LX := LX) (E := []) (mi := 133) (cuts := []) (f := 82) (S := pl_s475) (lx := none) (XF := []) ⟨pl_nmu, ck_E0⟩ ck_X0 ck_l0 (by decide +kernel)
set_option maxRecDepth 100000 in
/-- GlacierMail.needLetter -/
noncomputable def pl_s476 : ck_Sum := ((7, 1, 6), 249, [.inr (.inr (.inl 1)), .inl (ck_one 10)], ([], [], []), ([], []), [(.inl 3, 249, ([], [], [])), (.inr none, 249, ([], [], []))])
set_option maxRecDepth 100000 in
theorem pl_s476_s {X : Int → Int} {LX : Nat} : ck_Ok p2_OL X LX 143 pl_s476 := ck_ok_s (O := p2_OL) (X := X) (LX := LX) (E := [(9, [pl_s200]), (133, [pl_s475])]) (mi := 143) (cuts := []) (f := 86) (S := pl_s476) (lx := none) (XF := []) ⟨pl_nmu, ck_E1 (ck_S1 pl_s200_s ck_S0) (ck_E1 (ck_S1 pl_s475_s ck_S0) ck_E0)⟩ ck_X0 ck_l0 (by decide +kernel)
set_option maxRecDepth 100000 in
/-- GlacierMail$State.isRock -/
noncomputable def pl_s477 : ck_Sum := ((1, 0, 0), 249, [.inr (.inr (.inl 3)), .inl (ck_one 10)], ([], [], []), ([], []), [(.inr (some (.inl (ck_one 0))), 249, ([], [], [])), (.inr (some (.inl (ck_one 1))), 249, ([], [], []))])
set_option maxRecDepth 100000 in
theorem pl_s477_s {X : Int → Int} {LX : Nat} : ck_Ok p2_OL X LX 28 pl_s477 := ck_ok_s (O := p2_OL) (X := X) (LX := LX) (E := [(10, [pl_s204])]) (mi := 28) (cuts := []) (f := 90) (S := pl_s477) (lx := none) (XF := []) ⟨pl_nmu, ck_E1 (ck_S1 pl_s204_s ck_S0) ck_E0⟩ ck_X0 ck_l0 (by decide +kernel)
set_option maxRecDepth 100000 in
/-- GlacierMail.waits -/
noncomputable def pl_s478 : ck_Sum := ((2, 0, 0), 249, [.inr (.inr (.inl 1)), .inl (ck_one 10)], ([], [], [(3, 6, 6, (0, 299, [(10, 0)]))]), ([], []), [(.inr (some (.inl (ck_one 0))), 249, ([], [], [])), (.inr (some (.inl (ck_one 1))), 249, ([], [], []))])
set_option maxRecDepth 100000 in
theorem pl_s478_s {X : Int → Int} {LX : Nat} : ck_Ok p2_OL X LX 66 pl_s478 := ck_ok_s (O := p2_OL) (X := X) (LX := LX) (E := [(28, [pl_s477]), (10, [pl_s204, pl_s218]), (67, [pl_s219])]) (mi := 66) (cuts := []) (f := 134) (S := pl_s478) (lx := none) (XF := []) ⟨pl_nmu, ck_E1 (ck_S1 pl_s477_s ck_S0) (ck_E1 (ck_S1 pl_s204_s (ck_S1 pl_s218_s ck_S0)) (ck_E1 (ck_S1 pl_s219_s ck_S0) ck_E0))⟩ ck_X0 ck_l0 (by decide +kernel)
set_option maxRecDepth 100000 in
/-- GlacierMail$Rows.put -/
noncomputable def pl_s479 : ck_Sum := ((0, 0, 0), 249, [.inr (.inr (.inl 10)), .inl (ck_one 10), .inl (ck_one 5), .inl ((-1), 299, [])], ([], [], []), ([(11, 75, 75)], []), [(.inr none, 249, ([], [], []))])
set_option maxRecDepth 100000 in
theorem pl_s479_s {X : Int → Int} {LX : Nat} : ck_Ok p2_OL X LX 45 pl_s479 := ck_ok_s (O := p2_OL) (X := X) (LX := LX) (E := []) (mi := 45) (cuts := []) (f := 116) (S := pl_s479) (lx := none) (XF := []) ⟨pl_nmu, ck_E0⟩ ck_X0 ck_l0 (by decide +kernel)
set_option maxRecDepth 100000 in
/-- GlacierMail$Rows.put -/
noncomputable def pl_s480 : ck_Sum := ((0, 0, 0), 249, [.inr (.inr (.inl 10)), .inl (ck_one 10), .inl (ck_one 6), .inl (0, 299, [])], ([], [], []), ([(11, 76, 76)], []), [(.inr none, 249, ([], [], []))])
set_option maxRecDepth 100000 in
theorem pl_s480_s {X : Int → Int} {LX : Nat} : ck_Ok p2_OL X LX 45 pl_s480 := ck_ok_s (O := p2_OL) (X := X) (LX := LX) (E := []) (mi := 45) (cuts := []) (f := 116) (S := pl_s480) (lx := none) (XF := []) ⟨pl_nmu, ck_E0⟩ ck_X0 ck_l0 (by decide +kernel)
set_option maxRecDepth 100000 in
/-- GlacierMail$Rows.put -/
noncomputable def pl_s481 : ck_Sum := ((0, 0, 0), 249, [.inr (.inr (.inl 14)), .inl (0, 23, []), .inl (ck_one 1), .inl (ck_one 10)], ([], [], []), (zl173, []), [(.inr none, 249, ([], [], []))])
set_option maxRecDepth 100000 in
theorem pl_s481_s {X : Int → Int} {LX : Nat} : ck_Ok p2_OL X LX 45 pl_s481 := ck_ok_s (O := p2_OL) (X := X) (LX := LX) (E := []) (mi := 45) (cuts := []) (f := 116) (S := pl_s481) (lx := none) (XF := []) ⟨pl_nmu, ck_E0⟩ ck_X0 ck_l0 (by decide +kernel)
set_option maxRecDepth 100000 in
/-- GlacierMail$Rows.put -/
noncomputable def pl_s482 : ck_Sum := ((0, 0, 0), 249, [.inr (.inr (.inl 14)), .inl (ck_one (-1)), .inl (ck_one 1), .inl (ck_one 10)], ([], [], []), ([], []), [(.inr none, 249, ([], [], []))])
set_option maxRecDepth 100000 in
theorem pl_s482_s {X : Int → Int} {LX : Nat} : ck_Ok p2_OL X LX 45 pl_s482 := ck_ok_s (O := p2_OL) (X := X) (LX := LX) (E := []) (mi := 45) (cuts := []) (f := 76) (S := pl_s482) (lx := none) (XF := []) ⟨pl_nmu, ck_E0⟩ ck_X0 ck_l0 (by decide +kernel)
set_option maxRecDepth 100000 in
/-- GlacierMail$State.openLetter -/
noncomputable def pl_s483 : ck_Sum := ((1, 0, 0), 249, [.inr (.inr (.inl 3)), .inl (ck_one 10), .inl ((-1), 299, [])], ([], [], [(3, 6, 6, (0, 299, [(10, 0)]))]), ([(11, 75, 76), (14, 3, 3), (15, 0, 71)], []), [(.inr none, 249, ([], [], [(14, 3, 3, (1, 24, []))]))])
set_option maxRecDepth 100000 in
theorem pl_s483_s {X : Int → Int} {LX : Nat} : ck_Ok p2_OL X LX 159 pl_s483 := ck_ok_s (O := p2_OL) (X := X) (LX := LX) (E := [(45, [pl_s479, pl_s480, pl_s376, pl_s481, pl_s378, pl_s379, pl_s482, pl_s381]), (102, [pl_s382])]) (mi := 159) (cuts := []) (f := 144) (S := pl_s483) (lx := none) (XF := []) ⟨pl_nmu, ck_E1 (ck_S1 pl_s479_s (ck_S1 pl_s480_s (ck_S1 pl_s376_s (ck_S1 pl_s481_s (ck_S1 pl_s378_s (ck_S1 pl_s379_s (ck_S1 pl_s482_s (ck_S1 pl_s381_s ck_S0)))))))) (ck_E1 (ck_S1 pl_s382_s ck_S0) ck_E0)⟩ ck_X0 ck_l0 (by decide +kernel)
set_option maxRecDepth 100000 in
/-- GlacierMail.open -/
noncomputable def pl_s484 : ck_Sum := ((8, 2, 12), 249, [.inr (.inr (.inl 1)), .inl (ck_one 10)], ([], zl230, [(3, 6, 6, (0, 299, [(10, 0)]))]), ([(1, 15, 15), (11, 75, 76), (14, 3, 3), (15, 0, 71), (42, 1, 2), (44, 0, 7), (45, 3, 3), (46, 0, 55), (47, 3, 3), (48, 0, 23), (49, 3, 3), (50, 0, 23), (51, 3, 3), (52, 0, 167), (53, 3, 3), (54, 0, 35), (55, 3, 3), (56, 0, 71), (57, 0, 7), (58, 3, 3), (59, 0, 55), (60, 3, 3), (61, 0, 23), (62, 3, 3), (63, 0, 23), (64, 3, 3), (65, 0, 167), (66, 3, 3), (67, 0, 35), (68, 3, 3), (69, 0, 71), (70, 0, 7), (71, 3, 3), (72, 0, 55), (73, 3, 3), (74, 0, 23), (75, 3, 3), (76, 0, 23), (77, 3, 3), (78, 0, 167), (79, 3, 3), (80, 0, 35), (81, 3, 3), (82, 0, 71), (83, 0, 7), (84, 3, 3), (85, 0, 55), (86, 3, 3), (87, 0, 23), (88, 3, 3), (89, 0, 23), (90, 3, 3), (91, 0, 167), (92, 3, 3), (93, 0, 35), (94, 3, 3), (95, 0, 71), (96, 0, 7), (97, 3, 3), (98, 0, 55), (99, 3, 3), (100, 0, 23), (101, 3, 3), (102, 0, 23), (103, 3, 3), (104, 0, 167), (105, 3, 3), (106, 0, 35), (107, 3, 3), (108, 0, 71), (109, 0, 7), (110, 3, 3), (111, 0, 55), (112, 3, 3), (113, 0, 23), (114, 3, 3), (115, 0, 23), (116, 3, 3), (117, 0, 167), (118, 3, 3), (119, 0, 35), (120, 3, 3), (121, 0, 71), (122, 0, 7), (123, 3, 3), (124, 0, 55), (125, 3, 3), (126, 0, 23), (127, 3, 3), (128, 0, 23), (129, 3, 3), (130, 0, 167), (131, 3, 3), (132, 0, 35), (133, 3, 3), (134, 0, 71), (135, 0, 7), (136, 3, 3), (137, 0, 55), (138, 3, 3), (139, 0, 23), (140, 3, 3), (141, 0, 23), (142, 3, 3), (143, 0, 167), (144, 3, 3), (145, 0, 35), (146, 3, 3), (147, 0, 71), (148, 0, 7), (149, 3, 3), (150, 0, 55), (151, 3, 3), (152, 0, 23), (153, 3, 3), (154, 0, 23), (155, 3, 3), (156, 0, 167), (157, 3, 3), (158, 0, 35), (159, 3, 3), (160, 0, 71), (161, 0, 7), (162, 3, 3), (163, 0, 55), (164, 3, 3), (165, 0, 23), (166, 3, 3), (167, 0, 23), (168, 3, 3), (169, 0, 167), (170, 3, 3), (171, 0, 35), (172, 3, 3), (173, 0, 71), (174, 0, 7), (175, 3, 3), (176, 0, 55), (177, 3, 3), (178, 0, 23), (179, 3, 3), (180, 0, 23), (181, 3, 3), (182, 0, 167), (183, 3, 3), (184, 0, 35), (185, 3, 3), (186, 0, 71), (187, 0, 7), (188, 3, 3), (189, 0, 55), (190, 3, 3), (191, 0, 23), (192, 3, 3), (193, 0, 23), (194, 3, 3), (195, 0, 167), (196, 3, 3), (197, 0, 35), (198, 3, 3), (199, 0, 71), (200, 6, 6), (204, 0, 9), (205, 0, 14849), (206, 2, 8), (220, 3, 3), (221, 0, 47)], zl104), zl245)
set_option maxRecDepth 100000 in
theorem pl_s484_s {X : Int → Int} {LX : Nat} : ck_Ok p2_OL X LX 158 pl_s484 := ck_ok_s (O := p2_OL) (X := X) (LX := LX) (E := [(143, [pl_s476]), (24, [pl_s217]), (66, [pl_s478]), (154, [pl_s341]), (10, [pl_s204]), (159, [pl_s483])]) (mi := 158) (cuts := []) (f := 140) (S := pl_s484) (lx := none) (XF := []) ⟨pl_nmu, ck_E1 (ck_S1 pl_s476_s ck_S0) (ck_E1 (ck_S1 pl_s217_s ck_S0) (ck_E1 (ck_S1 pl_s478_s ck_S0) (ck_E1 (ck_S1 pl_s341_s ck_S0) (ck_E1 (ck_S1 pl_s204_s ck_S0) (ck_E1 (ck_S1 pl_s483_s ck_S0) ck_E0)))))⟩ ck_X0 ck_l0 (by decide +kernel)
set_option maxRecDepth 100000 in
/-- GlacierMail.need -/
noncomputable def pl_s485 : ck_Sum := ((6, 1, 6), 249, [.inr (.inr (.inl 1)), .inl (ck_one 11), .inl (0, 24, [])], ([], [], []), ([], []), [(.inr none, 249, ([], [], [])), (.inl 3, 249, ([], [], []))])
set_option maxRecDepth 100000 in
theorem pl_s485_s {X : Int → Int} {LX : Nat} : ck_Ok p2_OL X LX 133 pl_s485 := ck_ok_s (O := p2_OL) (X := X) (LX := LX) (E := []) (mi := 133) (cuts := []) (f := 82) (S := pl_s485) (lx := none) (XF := []) ⟨pl_nmu, ck_E0⟩ ck_X0 ck_l0 (by decide +kernel)
set_option maxRecDepth 100000 in
/-- GlacierMail.needLetter -/
noncomputable def pl_s486 : ck_Sum := ((7, 1, 6), 249, [.inr (.inr (.inl 1)), .inl (ck_one 11)], ([], [], []), ([], []), [(.inl 3, 249, ([], [], [])), (.inr none, 249, ([], [], []))])
set_option maxRecDepth 100000 in
theorem pl_s486_s {X : Int → Int} {LX : Nat} : ck_Ok p2_OL X LX 143 pl_s486 := ck_ok_s (O := p2_OL) (X := X) (LX := LX) (E := [(9, [pl_s200]), (133, [pl_s485])]) (mi := 143) (cuts := []) (f := 86) (S := pl_s486) (lx := none) (XF := []) ⟨pl_nmu, ck_E1 (ck_S1 pl_s200_s ck_S0) (ck_E1 (ck_S1 pl_s485_s ck_S0) ck_E0)⟩ ck_X0 ck_l0 (by decide +kernel)
set_option maxRecDepth 100000 in
/-- GlacierMail$State.isRock -/
noncomputable def pl_s487 : ck_Sum := ((1, 0, 0), 249, [.inr (.inr (.inl 3)), .inl (ck_one 11)], ([], [], []), ([], []), [(.inr (some (.inl (ck_one 0))), 249, ([], [], [])), (.inr (some (.inl (ck_one 1))), 249, ([], [], []))])
set_option maxRecDepth 100000 in
theorem pl_s487_s {X : Int → Int} {LX : Nat} : ck_Ok p2_OL X LX 28 pl_s487 := ck_ok_s (O := p2_OL) (X := X) (LX := LX) (E := [(10, [pl_s204])]) (mi := 28) (cuts := []) (f := 90) (S := pl_s487) (lx := none) (XF := []) ⟨pl_nmu, ck_E1 (ck_S1 pl_s204_s ck_S0) ck_E0⟩ ck_X0 ck_l0 (by decide +kernel)
set_option maxRecDepth 100000 in
/-- GlacierMail.waits -/
noncomputable def pl_s488 : ck_Sum := ((2, 0, 0), 249, [.inr (.inr (.inl 1)), .inl (ck_one 11)], ([], [], [(3, 6, 6, (0, 299, [(10, 0)]))]), ([], []), [(.inr (some (.inl (ck_one 0))), 249, ([], [], [])), (.inr (some (.inl (ck_one 1))), 249, ([], [], []))])
set_option maxRecDepth 100000 in
theorem pl_s488_s {X : Int → Int} {LX : Nat} : ck_Ok p2_OL X LX 66 pl_s488 := ck_ok_s (O := p2_OL) (X := X) (LX := LX) (E := [(28, [pl_s487]), (10, [pl_s204, pl_s218]), (67, [pl_s219])]) (mi := 66) (cuts := []) (f := 134) (S := pl_s488) (lx := none) (XF := []) ⟨pl_nmu, ck_E1 (ck_S1 pl_s487_s ck_S0) (ck_E1 (ck_S1 pl_s204_s (ck_S1 pl_s218_s ck_S0)) (ck_E1 (ck_S1 pl_s219_s ck_S0) ck_E0))⟩ ck_X0 ck_l0 (by decide +kernel)
set_option maxRecDepth 100000 in
/-- GlacierMail$Rows.put -/
noncomputable def pl_s489 : ck_Sum := ((0, 0, 0), 249, [.inr (.inr (.inl 10)), .inl (ck_one 11), .inl (ck_one 5), .inl ((-1), 299, [])], ([], [], []), ([(11, 82, 82)], []), [(.inr none, 249, ([], [], []))])
set_option maxRecDepth 100000 in
theorem pl_s489_s {X : Int → Int} {LX : Nat} : ck_Ok p2_OL X LX 45 pl_s489 := ck_ok_s (O := p2_OL) (X := X) (LX := LX) (E := []) (mi := 45) (cuts := []) (f := 116) (S := pl_s489) (lx := none) (XF := []) ⟨pl_nmu, ck_E0⟩ ck_X0 ck_l0 (by decide +kernel)
set_option maxRecDepth 100000 in
/-- GlacierMail$Rows.put -/
noncomputable def pl_s490 : ck_Sum := ((0, 0, 0), 249, [.inr (.inr (.inl 10)), .inl (ck_one 11), .inl (ck_one 6), .inl (0, 299, [])], ([], [], []), ([(11, 83, 83)], []), [(.inr none, 249, ([], [], []))])
set_option maxRecDepth 100000 in
theorem pl_s490_s {X : Int → Int} {LX : Nat} : ck_Ok p2_OL X LX 45 pl_s490 := ck_ok_s (O := p2_OL) (X := X) (LX := LX) (E := []) (mi := 45) (cuts := []) (f := 116) (S := pl_s490) (lx := none) (XF := []) ⟨pl_nmu, ck_E0⟩ ck_X0 ck_l0 (by decide +kernel)
set_option maxRecDepth 100000 in
/-- GlacierMail$Rows.put -/
noncomputable def pl_s491 : ck_Sum := ((0, 0, 0), 249, [.inr (.inr (.inl 14)), .inl (0, 23, []), .inl (ck_one 1), .inl (ck_one 11)], ([], [], []), (zl173, []), [(.inr none, 249, ([], [], []))])
set_option maxRecDepth 100000 in
theorem pl_s491_s {X : Int → Int} {LX : Nat} : ck_Ok p2_OL X LX 45 pl_s491 := ck_ok_s (O := p2_OL) (X := X) (LX := LX) (E := []) (mi := 45) (cuts := []) (f := 116) (S := pl_s491) (lx := none) (XF := []) ⟨pl_nmu, ck_E0⟩ ck_X0 ck_l0 (by decide +kernel)
set_option maxRecDepth 100000 in
/-- GlacierMail$Rows.put -/
noncomputable def pl_s492 : ck_Sum := ((0, 0, 0), 249, [.inr (.inr (.inl 14)), .inl (ck_one (-1)), .inl (ck_one 1), .inl (ck_one 11)], ([], [], []), ([], []), [(.inr none, 249, ([], [], []))])
set_option maxRecDepth 100000 in
theorem pl_s492_s {X : Int → Int} {LX : Nat} : ck_Ok p2_OL X LX 45 pl_s492 := ck_ok_s (O := p2_OL) (X := X) (LX := LX) (E := []) (mi := 45) (cuts := []) (f := 76) (S := pl_s492) (lx := none) (XF := []) ⟨pl_nmu, ck_E0⟩ ck_X0 ck_l0 (by decide +kernel)
set_option maxRecDepth 100000 in
/-- GlacierMail$State.openLetter -/
noncomputable def pl_s493 : ck_Sum := ((1, 0, 0), 249, [.inr (.inr (.inl 3)), .inl (ck_one 11), .inl ((-1), 299, [])], ([], [], [(3, 6, 6, (0, 299, [(10, 0)]))]), ([(11, 82, 83), (14, 3, 3), (15, 0, 71)], []), [(.inr none, 249, ([], [], [(14, 3, 3, (1, 24, []))]))])
set_option maxRecDepth 100000 in
theorem pl_s493_s {X : Int → Int} {LX : Nat} : ck_Ok p2_OL X LX 159 pl_s493 := ck_ok_s (O := p2_OL) (X := X) (LX := LX) (E := [(45, [pl_s489, pl_s490, pl_s376, pl_s491, pl_s378, pl_s379, pl_s492, pl_s381]), (102, [pl_s382])]) (mi := 159) (cuts := []) (f := 144) (S := pl_s493) (lx := none) (XF := []) ⟨pl_nmu, ck_E1 (ck_S1 pl_s489_s (ck_S1 pl_s490_s (ck_S1 pl_s376_s (ck_S1 pl_s491_s (ck_S1 pl_s378_s (ck_S1 pl_s379_s (ck_S1 pl_s492_s (ck_S1 pl_s381_s ck_S0)))))))) (ck_E1 (ck_S1 pl_s382_s ck_S0) ck_E0)⟩ ck_X0 ck_l0 (by decide +kernel)
set_option maxRecDepth 100000 in
/-- GlacierMail.open -/
noncomputable def pl_s494 : ck_Sum := ((8, 2, 12), 249, [.inr (.inr (.inl 1)), .inl (ck_one 11)], ([], zl230, [(3, 6, 6, (0, 299, [(10, 0)]))]), ([(1, 15, 15), (11, 82, 83), (14, 3, 3), (15, 0, 71), (42, 1, 2), (44, 0, 7), (45, 3, 3), (46, 0, 55), (47, 3, 3), (48, 0, 23), (49, 3, 3), (50, 0, 23), (51, 3, 3), (52, 0, 167), (53, 3, 3), (54, 0, 35), (55, 3, 3), (56, 0, 71), (57, 0, 7), (58, 3, 3), (59, 0, 55), (60, 3, 3), (61, 0, 23), (62, 3, 3), (63, 0, 23), (64, 3, 3), (65, 0, 167), (66, 3, 3), (67, 0, 35), (68, 3, 3), (69, 0, 71), (70, 0, 7), (71, 3, 3), (72, 0, 55), (73, 3, 3), (74, 0, 23), (75, 3, 3), (76, 0, 23), (77, 3, 3), (78, 0, 167), (79, 3, 3), (80, 0, 35), (81, 3, 3), (82, 0, 71), (83, 0, 7), (84, 3, 3), (85, 0, 55), (86, 3, 3), (87, 0, 23), (88, 3, 3), (89, 0, 23), (90, 3, 3), (91, 0, 167), (92, 3, 3), (93, 0, 35), (94, 3, 3), (95, 0, 71), (96, 0, 7), (97, 3, 3), (98, 0, 55), (99, 3, 3), (100, 0, 23), (101, 3, 3), (102, 0, 23), (103, 3, 3), (104, 0, 167), (105, 3, 3), (106, 0, 35), (107, 3, 3), (108, 0, 71), (109, 0, 7), (110, 3, 3), (111, 0, 55), (112, 3, 3), (113, 0, 23), (114, 3, 3), (115, 0, 23), (116, 3, 3), (117, 0, 167), (118, 3, 3), (119, 0, 35), (120, 3, 3), (121, 0, 71), (122, 0, 7), (123, 3, 3), (124, 0, 55), (125, 3, 3), (126, 0, 23), (127, 3, 3), (128, 0, 23), (129, 3, 3), (130, 0, 167), (131, 3, 3), (132, 0, 35), (133, 3, 3), (134, 0, 71), (135, 0, 7), (136, 3, 3), (137, 0, 55), (138, 3, 3), (139, 0, 23), (140, 3, 3), (141, 0, 23), (142, 3, 3), (143, 0, 167), (144, 3, 3), (145, 0, 35), (146, 3, 3), (147, 0, 71), (148, 0, 7), (149, 3, 3), (150, 0, 55), (151, 3, 3), (152, 0, 23), (153, 3, 3), (154, 0, 23), (155, 3, 3), (156, 0, 167), (157, 3, 3), (158, 0, 35), (159, 3, 3), (160, 0, 71), (161, 0, 7), (162, 3, 3), (163, 0, 55), (164, 3, 3), (165, 0, 23), (166, 3, 3), (167, 0, 23), (168, 3, 3), (169, 0, 167), (170, 3, 3), (171, 0, 35), (172, 3, 3), (173, 0, 71), (174, 0, 7), (175, 3, 3), (176, 0, 55), (177, 3, 3), (178, 0, 23), (179, 3, 3), (180, 0, 23), (181, 3, 3), (182, 0, 167), (183, 3, 3), (184, 0, 35), (185, 3, 3), (186, 0, 71), (187, 0, 7), (188, 3, 3), (189, 0, 55), (190, 3, 3), (191, 0, 23), (192, 3, 3), (193, 0, 23), (194, 3, 3), (195, 0, 167), (196, 3, 3), (197, 0, 35), (198, 3, 3), (199, 0, 71), (200, 6, 6), (204, 0, 9), (205, 0, 14849), (206, 2, 8), (220, 3, 3), (221, 0, 47)], zl104), zl245)
set_option maxRecDepth 100000 in
theorem pl_s494_s {X : Int → Int} {LX : Nat} : ck_Ok p2_OL X LX 158 pl_s494 := ck_ok_s (O := p2_OL) (X := X) (LX := LX) (E := [(143, [pl_s486]), (24, [pl_s217]), (66, [pl_s488]), (154, [pl_s341]), (10, [pl_s204]), (159, [pl_s493])]) (mi := 158) (cuts := []) (f := 140) (S := pl_s494) (lx := none) (XF := []) ⟨pl_nmu, ck_E1 (ck_S1 pl_s486_s ck_S0) (ck_E1 (ck_S1 pl_s217_s ck_S0) (ck_E1 (ck_S1 pl_s488_s ck_S0) (ck_E1 (ck_S1 pl_s341_s ck_S0) (ck_E1 (ck_S1 pl_s204_s ck_S0) (ck_E1 (ck_S1 pl_s493_s ck_S0) ck_E0)))))⟩ ck_X0 ck_l0 (by decide +kernel)
set_option maxRecDepth 100000 in
/-- GlacierMail.need -/
noncomputable def pl_s495 : ck_Sum := ((6, 1, 6), 249, [.inr (.inr (.inl 1)), .inl (ck_one 12), .inl (0, 24, [])], ([], [], []), ([], []), [(.inr none, 249, ([], [], [])), (.inl 3, 249, ([], [], []))])
set_option maxRecDepth 100000 in
theorem pl_s495_s {X : Int → Int} {LX : Nat} : ck_Ok p2_OL X LX 133 pl_s495 := ck_ok_s (O := p2_OL) (X := X) (LX := LX) (E := []) (mi := 133) (cuts := []) (f := 82) (S := pl_s495) (lx := none) (XF := []) ⟨pl_nmu, ck_E0⟩ ck_X0 ck_l0 (by decide +kernel)
set_option maxRecDepth 100000 in
/-- GlacierMail.needLetter -/
noncomputable def pl_s496 : ck_Sum := ((7, 1, 6), 249, [.inr (.inr (.inl 1)), .inl (ck_one 12)], ([], [], []), ([], []), [(.inl 3, 249, ([], [], [])), (.inr none, 249, ([], [], []))])
set_option maxRecDepth 100000 in
theorem pl_s496_s {X : Int → Int} {LX : Nat} : ck_Ok p2_OL X LX 143 pl_s496 := ck_ok_s (O := p2_OL) (X := X) (LX := LX) (E := [(9, [pl_s200]), (133, [pl_s495])]) (mi := 143) (cuts := []) (f := 86) (S := pl_s496) (lx := none) (XF := []) ⟨pl_nmu, ck_E1 (ck_S1 pl_s200_s ck_S0) (ck_E1 (ck_S1 pl_s495_s ck_S0) ck_E0)⟩ ck_X0 ck_l0 (by decide +kernel)
set_option maxRecDepth 100000 in
/-- GlacierMail$State.isRock -/
noncomputable def pl_s497 : ck_Sum := ((1, 0, 0), 249, [.inr (.inr (.inl 3)), .inl (ck_one 12)], ([], [], []), ([], []), [(.inr (some (.inl (ck_one 0))), 249, ([], [], [])), (.inr (some (.inl (ck_one 1))), 249, ([], [], []))])
set_option maxRecDepth 100000 in
theorem pl_s497_s {X : Int → Int} {LX : Nat} : ck_Ok p2_OL X LX 28 pl_s497 := ck_ok_s (O := p2_OL) (X := X) (LX := LX) (E := [(10, [pl_s204])]) (mi := 28) (cuts := []) (f := 90) (S := pl_s497) (lx := none) (XF := []) ⟨pl_nmu, ck_E1 (ck_S1 pl_s204_s ck_S0) ck_E0⟩ ck_X0 ck_l0 (by decide +kernel)
set_option maxRecDepth 100000 in
/-- GlacierMail.waits -/
noncomputable def pl_s498 : ck_Sum := ((2, 0, 0), 249, [.inr (.inr (.inl 1)), .inl (ck_one 12)], ([], [], [(3, 6, 6, (0, 299, [(10, 0)]))]), ([], []), [(.inr (some (.inl (ck_one 0))), 249, ([], [], [])), (.inr (some (.inl (ck_one 1))), 249, ([], [], []))])
set_option maxRecDepth 100000 in
theorem pl_s498_s {X : Int → Int} {LX : Nat} : ck_Ok p2_OL X LX 66 pl_s498 := ck_ok_s (O := p2_OL) (X := X) (LX := LX) (E := [(28, [pl_s497]), (10, [pl_s204, pl_s218]), (67, [pl_s219])]) (mi := 66) (cuts := []) (f := 134) (S := pl_s498) (lx := none) (XF := []) ⟨pl_nmu, ck_E1 (ck_S1 pl_s497_s ck_S0) (ck_E1 (ck_S1 pl_s204_s (ck_S1 pl_s218_s ck_S0)) (ck_E1 (ck_S1 pl_s219_s ck_S0) ck_E0))⟩ ck_X0 ck_l0 (by decide +kernel)
set_option maxRecDepth 100000 in
/-- GlacierMail$Rows.put -/
noncomputable def pl_s499 : ck_Sum := ((0, 0, 0), 249, [.inr (.inr (.inl 10)), .inl (ck_one 12), .inl (ck_one 5), .inl ((-1), 299, [])], ([], [], []), ([(11, 89, 89)], []), [(.inr none, 249, ([], [], []))])
set_option maxRecDepth 100000 in
theorem pl_s499_s {X : Int → Int} {LX : Nat} : ck_Ok p2_OL X LX 45 pl_s499 := ck_ok_s (O := p2_OL) (X := X) (LX := LX) (E := []) (mi := 45) (cuts := []) (f := 116) (S := pl_s499) (lx := none) (XF := []) ⟨pl_nmu, ck_E0⟩ ck_X0 ck_l0 (by decide +kernel)
set_option maxRecDepth 100000 in
/-- GlacierMail$Rows.put -/
noncomputable def pl_s500 : ck_Sum := ((0, 0, 0), 249, [.inr (.inr (.inl 10)), .inl (ck_one 12), .inl (ck_one 6), .inl (0, 299, [])], ([], [], []), ([(11, 90, 90)], []), [(.inr none, 249, ([], [], []))])
set_option maxRecDepth 100000 in
theorem pl_s500_s {X : Int → Int} {LX : Nat} : ck_Ok p2_OL X LX 45 pl_s500 := ck_ok_s (O := p2_OL) (X := X) (LX := LX) (E := []) (mi := 45) (cuts := []) (f := 116) (S := pl_s500) (lx := none) (XF := []) ⟨pl_nmu, ck_E0⟩ ck_X0 ck_l0 (by decide +kernel)
set_option maxRecDepth 100000 in
/-- GlacierMail$Rows.put -/
noncomputable def pl_s501 : ck_Sum := ((0, 0, 0), 249, [.inr (.inr (.inl 14)), .inl (0, 23, []), .inl (ck_one 1), .inl (ck_one 12)], ([], [], []), (zl173, []), [(.inr none, 249, ([], [], []))])
set_option maxRecDepth 100000 in
theorem pl_s501_s {X : Int → Int} {LX : Nat} : ck_Ok p2_OL X LX 45 pl_s501 := ck_ok_s (O := p2_OL) (X := X) (LX := LX) (E := []) (mi := 45) (cuts := []) (f := 116) (S := pl_s501) (lx := none) (XF := []) ⟨pl_nmu, ck_E0⟩ ck_X0 ck_l0 (by decide +kernel)
set_option maxRecDepth 100000 in
/-- GlacierMail$Rows.put -/
noncomputable def pl_s502 : ck_Sum := ((0, 0, 0), 249, [.inr (.inr (.inl 14)), .inl (ck_one (-1)), .inl (ck_one 1), .inl (ck_one 12)], ([], [], []), ([], []), [(.inr none, 249, ([], [], []))])
set_option maxRecDepth 100000 in
theorem pl_s502_s {X : Int → Int} {LX : Nat} : ck_Ok p2_OL X LX 45 pl_s502 := ck_ok_s (O := p2_OL) (X := X) (LX := LX) (E := []) (mi := 45) (cuts := []) (f := 76) (S := pl_s502) (lx := none) (XF := []) ⟨pl_nmu, ck_E0⟩ ck_X0 ck_l0 (by decide +kernel)
set_option maxRecDepth 100000 in
/-- GlacierMail$State.openLetter -/
noncomputable def pl_s503 : ck_Sum := ((1, 0, 0), 249, [.inr (.inr (.inl 3)), .inl (ck_one 12), .inl ((-1), 299, [])], ([], [], [(3, 6, 6, (0, 299, [(10, 0)]))]), ([(11, 89, 90), (14, 3, 3), (15, 0, 71)], []), [(.inr none, 249, ([], [], [(14, 3, 3, (1, 24, []))]))])
set_option maxRecDepth 100000 in
theorem pl_s503_s {X : Int → Int} {LX : Nat} : ck_Ok p2_OL X LX 159 pl_s503 := ck_ok_s (O := p2_OL) (X := X) (LX := LX) (E := [(45, [pl_s499, pl_s500, pl_s376, pl_s501, pl_s378, pl_s379, pl_s502, pl_s381]), (102, [pl_s382])]) (mi := 159) (cuts := []) (f := 144) (S := pl_s503) (lx := none) (XF := []) ⟨pl_nmu, ck_E1 (ck_S1 pl_s499_s (ck_S1 pl_s500_s (ck_S1 pl_s376_s (ck_S1 pl_s501_s (ck_S1 pl_s378_s (ck_S1 pl_s379_s (ck_S1 pl_s502_s (ck_S1 pl_s381_s ck_S0)))))))) (ck_E1 (ck_S1 pl_s382_s ck_S0) ck_E0)⟩ ck_X0 ck_l0 (by decide +kernel)
set_option maxRecDepth 100000 in
/-- GlacierMail.open -/
noncomputable def pl_s504 : ck_Sum := ((8, 2, 12), 249, [.inr (.inr (.inl 1)), .inl (ck_one 12)], ([], zl230, [(3, 6, 6, (0, 299, [(10, 0)]))]), ([(1, 15, 15), (11, 89, 90), (14, 3, 3), (15, 0, 71), (42, 1, 2), (44, 0, 7), (45, 3, 3), (46, 0, 55), (47, 3, 3), (48, 0, 23), (49, 3, 3), (50, 0, 23), (51, 3, 3), (52, 0, 167), (53, 3, 3), (54, 0, 35), (55, 3, 3), (56, 0, 71), (57, 0, 7), (58, 3, 3), (59, 0, 55), (60, 3, 3), (61, 0, 23), (62, 3, 3), (63, 0, 23), (64, 3, 3), (65, 0, 167), (66, 3, 3), (67, 0, 35), (68, 3, 3), (69, 0, 71), (70, 0, 7), (71, 3, 3), (72, 0, 55), (73, 3, 3), (74, 0, 23), (75, 3, 3), (76, 0, 23), (77, 3, 3), (78, 0, 167), (79, 3, 3), (80, 0, 35), (81, 3, 3), (82, 0, 71), (83, 0, 7), (84, 3, 3), (85, 0, 55), (86, 3, 3), (87, 0, 23), (88, 3, 3), (89, 0, 23), (90, 3, 3), (91, 0, 167), (92, 3, 3), (93, 0, 35), (94, 3, 3), (95, 0, 71), (96, 0, 7), (97, 3, 3), (98, 0, 55), (99, 3, 3), (100, 0, 23), (101, 3, 3), (102, 0, 23), (103, 3, 3), (104, 0, 167), (105, 3, 3), (106, 0, 35), (107, 3, 3), (108, 0, 71), (109, 0, 7), (110, 3, 3), (111, 0, 55), (112, 3, 3), (113, 0, 23), (114, 3, 3), (115, 0, 23), (116, 3, 3), (117, 0, 167), (118, 3, 3), (119, 0, 35), (120, 3, 3), (121, 0, 71), (122, 0, 7), (123, 3, 3), (124, 0, 55), (125, 3, 3), (126, 0, 23), (127, 3, 3), (128, 0, 23), (129, 3, 3), (130, 0, 167), (131, 3, 3), (132, 0, 35), (133, 3, 3), (134, 0, 71), (135, 0, 7), (136, 3, 3), (137, 0, 55), (138, 3, 3), (139, 0, 23), (140, 3, 3), (141, 0, 23), (142, 3, 3), (143, 0, 167), (144, 3, 3), (145, 0, 35), (146, 3, 3), (147, 0, 71), (148, 0, 7), (149, 3, 3), (150, 0, 55), (151, 3, 3), (152, 0, 23), (153, 3, 3), (154, 0, 23), (155, 3, 3), (156, 0, 167), (157, 3, 3), (158, 0, 35), (159, 3, 3), (160, 0, 71), (161, 0, 7), (162, 3, 3), (163, 0, 55), (164, 3, 3), (165, 0, 23), (166, 3, 3), (167, 0, 23), (168, 3, 3), (169, 0, 167), (170, 3, 3), (171, 0, 35), (172, 3, 3), (173, 0, 71), (174, 0, 7), (175, 3, 3), (176, 0, 55), (177, 3, 3), (178, 0, 23), (179, 3, 3), (180, 0, 23), (181, 3, 3), (182, 0, 167), (183, 3, 3), (184, 0, 35), (185, 3, 3), (186, 0, 71), (187, 0, 7), (188, 3, 3), (189, 0, 55), (190, 3, 3), (191, 0, 23), (192, 3, 3), (193, 0, 23), (194, 3, 3), (195, 0, 167), (196, 3, 3), (197, 0, 35), (198, 3, 3), (199, 0, 71), (200, 6, 6), (204, 0, 9), (205, 0, 14849), (206, 2, 8), (220, 3, 3), (221, 0, 47)], zl104), zl245)
set_option maxRecDepth 100000 in
theorem pl_s504_s {X : Int → Int} {LX : Nat} : ck_Ok p2_OL X LX 158 pl_s504 := ck_ok_s (O := p2_OL) (X := X) (LX := LX) (E := [(143, [pl_s496]), (24, [pl_s217]), (66, [pl_s498]), (154, [pl_s341]), (10, [pl_s204]), (159, [pl_s503])]) (mi := 158) (cuts := []) (f := 140) (S := pl_s504) (lx := none) (XF := []) ⟨pl_nmu, ck_E1 (ck_S1 pl_s496_s ck_S0) (ck_E1 (ck_S1 pl_s217_s ck_S0) (ck_E1 (ck_S1 pl_s498_s ck_S0) (ck_E1 (ck_S1 pl_s341_s ck_S0) (ck_E1 (ck_S1 pl_s204_s ck_S0) (ck_E1 (ck_S1 pl_s503_s ck_S0) ck_E0)))))⟩ ck_X0 ck_l0 (by decide +kernel)
set_option maxRecDepth 100000 in
/-- GlacierMail.need -/
noncomputable def pl_s505 : ck_Sum := ((6, 1, 6), 249, [.inr (.inr (.inl 1)), .inl (ck_one 13), .inl (0, 24, [])], ([], [], []), ([], []), [(.inr none, 249, ([], [], [])), (.inl 3, 249, ([], [], []))])
set_option maxRecDepth 100000 in
theorem pl_s505_s {X : Int → Int} {LX : Nat} : ck_Ok p2_OL X LX 133 pl_s505 := ck_ok_s (O := p2_OL) (X := X) (LX := LX) (E := []) (mi := 133) (cuts := []) (f := 82) (S := pl_s505) (lx := none) (XF := []) ⟨pl_nmu, ck_E0⟩ ck_X0 ck_l0 (by decide +kernel)
set_option maxRecDepth 100000 in
/-- GlacierMail.needLetter -/
noncomputable def pl_s506 : ck_Sum := ((7, 1, 6), 249, [.inr (.inr (.inl 1)), .inl (ck_one 13)], ([], [], []), ([], []), [(.inl 3, 249, ([], [], [])), (.inr none, 249, ([], [], []))])
set_option maxRecDepth 100000 in
theorem pl_s506_s {X : Int → Int} {LX : Nat} : ck_Ok p2_OL X LX 143 pl_s506 := ck_ok_s (O := p2_OL) (X := X) (LX := LX) (E := [(9, [pl_s200]), (133, [pl_s505])]) (mi := 143) (cuts := []) (f := 86) (S := pl_s506) (lx := none) (XF := []) ⟨pl_nmu, ck_E1 (ck_S1 pl_s200_s ck_S0) (ck_E1 (ck_S1 pl_s505_s ck_S0) ck_E0)⟩ ck_X0 ck_l0 (by decide +kernel)
set_option maxRecDepth 100000 in
/-- GlacierMail$State.isRock -/
noncomputable def pl_s507 : ck_Sum := ((1, 0, 0), 249, [.inr (.inr (.inl 3)), .inl (ck_one 13)], ([], [], []), ([], []), [(.inr (some (.inl (ck_one 0))), 249, ([], [], [])), (.inr (some (.inl (ck_one 1))), 249, ([], [], []))])
set_option maxRecDepth 100000 in
theorem pl_s507_s {X : Int → Int} {LX : Nat} : ck_Ok p2_OL X LX 28 pl_s507 := ck_ok_s (O := p2_OL) (X := X) (LX := LX) (E := [(10, [pl_s204])]) (mi := 28) (cuts := []) (f := 90) (S := pl_s507) (lx := none) (XF := []) ⟨pl_nmu, ck_E1 (ck_S1 pl_s204_s ck_S0) ck_E0⟩ ck_X0 ck_l0 (by decide +kernel)
set_option maxRecDepth 100000 in
/-- GlacierMail.waits -/
noncomputable def pl_s508 : ck_Sum := ((2, 0, 0), 249, [.inr (.inr (.inl 1)), .inl (ck_one 13)], ([], [], [(3, 6, 6, (0, 299, [(10, 0)]))]), ([], []), [(.inr (some (.inl (ck_one 0))), 249, ([], [], [])), (.inr (some (.inl (ck_one 1))), 249, ([], [], []))])
set_option maxRecDepth 100000 in
theorem pl_s508_s {X : Int → Int} {LX : Nat} : ck_Ok p2_OL X LX 66 pl_s508 := ck_ok_s (O := p2_OL) (X := X) (LX := LX) (E := [(28, [pl_s507]), (10, [pl_s204, pl_s218]), (67, [pl_s219])]) (mi := 66) (cuts := []) (f := 134) (S := pl_s508) (lx := none) (XF := []) ⟨pl_nmu, ck_E1 (ck_S1 pl_s507_s ck_S0) (ck_E1 (ck_S1 pl_s204_s (ck_S1 pl_s218_s ck_S0)) (ck_E1 (ck_S1 pl_s219_s ck_S0) ck_E0))⟩ ck_X0 ck_l0 (by decide +kernel)
set_option maxRecDepth 100000 in
/-- GlacierMail$Rows.put -/
noncomputable def pl_s509 : ck_Sum := ((0, 0, 0), 249, [.inr (.inr (.inl 10)), .inl (ck_one 13), .inl (ck_one 5), .inl ((-1), 299, [])], ([], [], []), ([(11, 96, 96)], []), [(.inr none, 249, ([], [], []))])
set_option maxRecDepth 100000 in
theorem pl_s509_s {X : Int → Int} {LX : Nat} : ck_Ok p2_OL X LX 45 pl_s509 := ck_ok_s (O := p2_OL) (X := X) (LX := LX) (E := []) (mi := 45) (cuts := []) (f := 116) (S := pl_s509) (lx := none) (XF := []) ⟨pl_nmu, ck_E0⟩ ck_X0 ck_l0 (by decide +kernel)
set_option maxRecDepth 100000 in
/-- GlacierMail$Rows.put -/
noncomputable def pl_s510 : ck_Sum := ((0, 0, 0), 249, [.inr (.inr (.inl 10)), .inl (ck_one 13), .inl (ck_one 6), .inl (0, 299, [])], ([], [], []), ([(11, 97, 97)], []), [(.inr none, 249, ([], [], []))])
set_option maxRecDepth 100000 in
theorem pl_s510_s {X : Int → Int} {LX : Nat} : ck_Ok p2_OL X LX 45 pl_s510 := ck_ok_s (O := p2_OL) (X := X) (LX := LX) (E := []) (mi := 45) (cuts := []) (f := 116) (S := pl_s510) (lx := none) (XF := []) ⟨pl_nmu, ck_E0⟩ ck_X0 ck_l0 (by decide +kernel)
set_option maxRecDepth 100000 in
/-- GlacierMail$Rows.put -/
noncomputable def pl_s511 : ck_Sum := ((0, 0, 0), 249, [.inr (.inr (.inl 14)), .inl (0, 23, []), .inl (ck_one 1), .inl (ck_one 13)], ([], [], []), (zl173, []), [(.inr none, 249, ([], [], []))])
set_option maxRecDepth 100000 in
theorem pl_s511_s {X : Int → Int} {LX : Nat} : ck_Ok p2_OL X LX 45 pl_s511 := ck_ok_s (O := p2_OL) (X := X) (LX := LX) (E := []) (mi := 45) (cuts := []) (f := 116) (S := pl_s511) (lx := none) (XF := []) ⟨pl_nmu, ck_E0⟩ ck_X0 ck_l0 (by decide +kernel)
set_option maxRecDepth 100000 in
/-- GlacierMail$Rows.put -/
noncomputable def pl_s512 : ck_Sum := ((0, 0, 0), 249, [.inr (.inr (.inl 14)), .inl (ck_one (-1)), .inl (ck_one 1), .inl (ck_one 13)], ([], [], []), ([], []), [(.inr none, 249, ([], [], []))])
set_option maxRecDepth 100000 in
theorem pl_s512_s {X : Int → Int} {LX : Nat} : ck_Ok p2_OL X LX 45 pl_s512 := ck_ok_s (O := p2_OL) (X := X) (LX := LX) (E := []) (mi := 45) (cuts := []) (f := 76) (S := pl_s512) (lx := none) (XF := []) ⟨pl_nmu, ck_E0⟩ ck_X0 ck_l0 (by decide +kernel)
set_option maxRecDepth 100000 in
/-- GlacierMail$State.openLetter -/
noncomputable def pl_s513 : ck_Sum := ((1, 0, 0), 249, [.inr (.inr (.inl 3)), .inl (ck_one 13), .inl ((-1), 299, [])], ([], [], [(3, 6, 6, (0, 299, [(10, 0)]))]), ([(11, 96, 97), (14, 3, 3), (15, 0, 71)], []), [(.inr none, 249, ([], [], [(14, 3, 3, (1, 24, []))]))])
set_option maxRecDepth 100000 in
theorem pl_s513_s {X : Int → Int} {LX : Nat} : ck_Ok p2_OL X LX 159 pl_s513 := ck_ok_s (O := p2_OL) (X := X) (LX := LX) (E := [(45, [pl_s509, pl_s510, pl_s376, pl_s511, pl_s378, pl_s379, pl_s512, pl_s381]), (102, [pl_s382])]) (mi := 159) (cuts := []) (f := 144) (S := pl_s513) (lx := none) (XF := []) ⟨pl_nmu, ck_E1 (ck_S1 pl_s509_s (ck_S1 pl_s510_s (ck_S1 pl_s376_s (ck_S1 pl_s511_s (ck_S1 pl_s378_s (ck_S1 pl_s379_s (ck_S1 pl_s512_s (ck_S1 pl_s381_s ck_S0)))))))) (ck_E1 (ck_S1 pl_s382_s ck_S0) ck_E0)⟩ ck_X0 ck_l0 (by decide +kernel)
set_option maxRecDepth 100000 in
/-- GlacierMail.open -/
noncomputable def pl_s514 : ck_Sum := ((8, 2, 12), 249, [.inr (.inr (.inl 1)), .inl (ck_one 13)], ([], zl230, [(3, 6, 6, (0, 299, [(10, 0)]))]), ([(1, 15, 15), (11, 96, 97), (14, 3, 3), (15, 0, 71), (42, 1, 2), (44, 0, 7), (45, 3, 3), (46, 0, 55), (47, 3, 3), (48, 0, 23), (49, 3, 3), (50, 0, 23), (51, 3, 3), (52, 0, 167), (53, 3, 3), (54, 0, 35), (55, 3, 3), (56, 0, 71), (57, 0, 7), (58, 3, 3), (59, 0, 55), (60, 3, 3), (61, 0, 23), (62, 3, 3), (63, 0, 23), (64, 3, 3), (65, 0, 167), (66, 3, 3), (67, 0, 35), (68, 3, 3), (69, 0, 71), (70, 0, 7), (71, 3, 3), (72, 0, 55), (73, 3, 3), (74, 0, 23), (75, 3, 3), (76, 0, 23), (77, 3, 3), (78, 0, 167), (79, 3, 3), (80, 0, 35), (81, 3, 3), (82, 0, 71), (83, 0, 7), (84, 3, 3), (85, 0, 55), (86, 3, 3), (87, 0, 23), (88, 3, 3), (89, 0, 23), (90, 3, 3), (91, 0, 167), (92, 3, 3), (93, 0, 35), (94, 3, 3), (95, 0, 71), (96, 0, 7), (97, 3, 3), (98, 0, 55), (99, 3, 3), (100, 0, 23), (101, 3, 3), (102, 0, 23), (103, 3, 3), (104, 0, 167), (105, 3, 3), (106, 0, 35), (107, 3, 3), (108, 0, 71), (109, 0, 7), (110, 3, 3), (111, 0, 55), (112, 3, 3), (113, 0, 23), (114, 3, 3), (115, 0, 23), (116, 3, 3), (117, 0, 167), (118, 3, 3), (119, 0, 35), (120, 3, 3), (121, 0, 71), (122, 0, 7), (123, 3, 3), (124, 0, 55), (125, 3, 3), (126, 0, 23), (127, 3, 3), (128, 0, 23), (129, 3, 3), (130, 0, 167), (131, 3, 3), (132, 0, 35), (133, 3, 3), (134, 0, 71), (135, 0, 7), (136, 3, 3), (137, 0, 55), (138, 3, 3), (139, 0, 23), (140, 3, 3), (141, 0, 23), (142, 3, 3), (143, 0, 167), (144, 3, 3), (145, 0, 35), (146, 3, 3), (147, 0, 71), (148, 0, 7), (149, 3, 3), (150, 0, 55), (151, 3, 3), (152, 0, 23), (153, 3, 3), (154, 0, 23), (155, 3, 3), (156, 0, 167), (157, 3, 3), (158, 0, 35), (159, 3, 3), (160, 0, 71), (161, 0, 7), (162, 3, 3), (163, 0, 55), (164, 3, 3), (165, 0, 23), (166, 3, 3), (167, 0, 23), (168, 3, 3), (169, 0, 167), (170, 3, 3), (171, 0, 35), (172, 3, 3), (173, 0, 71), (174, 0, 7), (175, 3, 3), (176, 0, 55), (177, 3, 3), (178, 0, 23), (179, 3, 3), (180, 0, 23), (181, 3, 3), (182, 0, 167), (183, 3, 3), (184, 0, 35), (185, 3, 3), (186, 0, 71), (187, 0, 7), (188, 3, 3), (189, 0, 55), (190, 3, 3), (191, 0, 23), (192, 3, 3), (193, 0, 23), (194, 3, 3), (195, 0, 167), (196, 3, 3), (197, 0, 35), (198, 3, 3), (199, 0, 71), (200, 6, 6), (204, 0, 9), (205, 0, 14849), (206, 2, 8), (220, 3, 3), (221, 0, 47)], zl104), zl245)
set_option maxRecDepth 100000 in
theorem pl_s514_s {X : Int → Int} {LX : Nat} : ck_Ok p2_OL X LX 158 pl_s514 := ck_ok_s (O := p2_OL) (X := X) (LX := LX) (E := [(143, [pl_s506]), (24, [pl_s217]), (66, [pl_s508]), (154, [pl_s341]), (10, [pl_s204]), (159, [pl_s513])]) (mi := 158) (cuts := []) (f := 140) (S := pl_s514) (lx := none) (XF := []) ⟨pl_nmu, ck_E1 (ck_S1 pl_s506_s ck_S0) (ck_E1 (ck_S1 pl_s217_s ck_S0) (ck_E1 (ck_S1 pl_s508_s ck_S0) (ck_E1 (ck_S1 pl_s341_s ck_S0) (ck_E1 (ck_S1 pl_s204_s ck_S0) (ck_E1 (ck_S1 pl_s513_s ck_S0) ck_E0)))))⟩ ck_X0 ck_l0 (by decide +kernel)
set_option maxRecDepth 100000 in
/-- GlacierMail.need -/
noncomputable def pl_s515 : ck_Sum := ((6, 1, 6), 249, [.inr (.inr (.inl 1)), .inl (ck_one 14), .inl (0, 24, [])], ([], [], []), ([], []), [(.inr none, 249, ([], [], [])), (.inl 3, 249, ([], [], []))])
set_option maxRecDepth 100000 in
theorem pl_s515_s {X : Int → Int} {LX : Nat} : ck_Ok p2_OL X LX 133 pl_s515 := ck_ok_s (O := p2_OL) (X := X) (LX := LX) (E := []) (mi := 133) (cuts := []) (f := 82) (S := pl_s515) (lx := none) (XF := []) ⟨pl_nmu, ck_E0⟩ ck_X0 ck_l0 (by decide +kernel)
set_option maxRecDepth 100000 in
/-- GlacierMail.needLetter -/
noncomputable def pl_s516 : ck_Sum := ((7, 1, 6), 249, [.inr (.inr (.inl 1)), .inl (ck_one 14)], ([], [], []), ([], []), [(.inl 3, 249, ([], [], [])), (.inr none, 249, ([], [], []))])
set_option maxRecDepth 100000 in
theorem pl_s516_s {X : Int → Int} {LX : Nat} : ck_Ok p2_OL X LX 143 pl_s516 := ck_ok_s (O := p2_OL) (X := X) (LX := LX) (E := [(9, [pl_s200]), (133, [pl_s515])]) (mi := 143) (cuts := []) (f := 86) (S := pl_s516) (lx := none) (XF := []) ⟨pl_nmu, ck_E1 (ck_S1 pl_s200_s ck_S0) (ck_E1 (ck_S1 pl_s515_s ck_S0) ck_E0)⟩ ck_X0 ck_l0 (by decide +kernel)
set_option maxRecDepth 100000 in
/-- GlacierMail$State.isRock -/
noncomputable def pl_s517 : ck_Sum := ((1, 0, 0), 249, [.inr (.inr (.inl 3)), .inl (ck_one 14)], ([], [], []), ([], []), [(.inr (some (.inl (ck_one 0))), 249, ([], [], [])), (.inr (some (.inl (ck_one 1))), 249, ([], [], []))])
set_option maxRecDepth 100000 in
theorem pl_s517_s {X : Int → Int} {LX : Nat} : ck_Ok p2_OL X LX 28 pl_s517 := ck_ok_s (O := p2_OL) (X := X) (LX := LX) (E := [(10, [pl_s204])]) (mi := 28) (cuts := []) (f := 90) (S := pl_s517) (lx := none) (XF := []) ⟨pl_nmu, ck_E1 (ck_S1 pl_s204_s ck_S0) ck_E0⟩ ck_X0 ck_l0 (by decide +kernel)
set_option maxRecDepth 100000 in
/-- GlacierMail.waits -/
noncomputable def pl_s518 : ck_Sum := ((2, 0, 0), 249, [.inr (.inr (.inl 1)), .inl (ck_one 14)], ([], [], [(3, 6, 6, (0, 299, [(10, 0)]))]), ([], []), [(.inr (some (.inl (ck_one 0))), 249, ([], [], [])), (.inr (some (.inl (ck_one 1))), 249, ([], [], []))])
set_option maxRecDepth 100000 in
theorem pl_s518_s {X : Int → Int} {LX : Nat} : ck_Ok p2_OL X LX 66 pl_s518 := ck_ok_s (O := p2_OL) (X := X) (LX := LX) (E := [(28, [pl_s517]), (10, [pl_s204, pl_s218]), (67, [pl_s219])]) (mi := 66) (cuts := []) (f := 134) (S := pl_s518) (lx := none) (XF := []) ⟨pl_nmu, ck_E1 (ck_S1 pl_s517_s ck_S0) (ck_E1 (ck_S1 pl_s204_s (ck_S1 pl_s218_s ck_S0)) (ck_E1 (ck_S1 pl_s219_s ck_S0) ck_E0))⟩ ck_X0 ck_l0 (by decide +kernel)
set_option maxRecDepth 100000 in
/-- GlacierMail$Rows.put -/
noncomputable def pl_s519 : ck_Sum := ((0, 0, 0), 249, [.inr (.inr (.inl 10)), .inl (ck_one 14), .inl (ck_one 5), .inl ((-1), 299, [])], ([], [], []), ([(11, 103, 103)], []), [(.inr none, 249, ([], [], []))])
set_option maxRecDepth 100000 in
theorem pl_s519_s {X : Int → Int} {LX : Nat} : ck_Ok p2_OL X LX 45 pl_s519 := ck_ok_s (O := p2_OL) (X := X) (LX := LX) (E := []) (mi := 45) (cuts := []) (f := 116) (S := pl_s519) (lx := none) (XF := []) ⟨pl_nmu, ck_E0⟩ ck_X0 ck_l0 (by decide +kernel)
set_option maxRecDepth 100000 in
/-- GlacierMail$Rows.put -/
noncomputable def pl_s520 : ck_Sum := ((0, 0, 0), 249, [.inr (.inr (.inl 10)), .inl (ck_one 14), .inl (ck_one 6), .inl (0, 299, [])], ([], [], []), ([(11, 104, 104)], []), [(.inr none, 249, ([], [], []))])
set_option maxRecDepth 100000 in
theorem pl_s520_s {X : Int → Int} {LX : Nat} : ck_Ok p2_OL X LX 45 pl_s520 := ck_ok_s (O := p2_OL) (X := X) (LX := LX) (E := []) (mi := 45) (cuts := []) (f := 116) (S := pl_s520) (lx := none) (XF := []) ⟨pl_nmu, ck_E0⟩ ck_X0 ck_l0 (by decide +kernel)
set_option maxRecDepth 100000 in
/-- GlacierMail$Rows.put -/
noncomputable def pl_s521 : ck_Sum := ((0, 0, 0), 249, [.inr (.inr (.inl 14)), .inl (0, 23, []), .inl (ck_one 1), .inl (ck_one 14)], ([], [], []), (zl173, []), [(.inr none, 249, ([], [], []))])
set_option maxRecDepth 100000 in
theorem pl_s521_s {X : Int → Int} {LX : Nat} : ck_Ok p2_OL X LX 45 pl_s521 := ck_ok_s (O := p2_OL) (X := X) (LX := LX) (E := []) (mi := 45) (cuts := []) (f := 116) (S := pl_s521) (lx := none) (XF := []) ⟨pl_nmu, ck_E0⟩ ck_X0 ck_l0 (by decide +kernel)
set_option maxRecDepth 100000 in
/-- GlacierMail$Rows.put -/
noncomputable def pl_s522 : ck_Sum := ((0, 0, 0), 249, [.inr (.inr (.inl 14)), .inl (ck_one (-1)), .inl (ck_one 1), .inl (ck_one 14)], ([], [], []), ([], []), [(.inr none, 249, ([], [], []))])
set_option maxRecDepth 100000 in
theorem pl_s522_s {X : Int → Int} {LX : Nat} : ck_Ok p2_OL X LX 45 pl_s522 := ck_ok_s (O := p2_OL) (X := X) (LX := LX) (E := []) (mi := 45) (cuts := []) (f := 76) (S := pl_s522) (lx := none) (XF := []) ⟨pl_nmu, ck_E0⟩ ck_X0 ck_l0 (by decide +kernel)
set_option maxRecDepth 100000 in
/-- GlacierMail$State.openLetter -/
noncomputable def pl_s523 : ck_Sum := ((1, 0, 0), 249, [.inr (.inr (.inl 3)), .inl (ck_one 14), .inl ((-1), 299, [])], ([], [], [(3, 6, 6, (0, 299, [(10, 0)]))]), ([(11, 103, 104), (14, 3, 3), (15, 0, 71)], []), [(.inr none, 249, ([], [], [(14, 3, 3, (1, 24, []))]))])
set_option maxRecDepth 100000 in
theorem pl_s523_s {X : Int → Int} {LX : Nat} : ck_Ok p2_OL X LX 159 pl_s523 := ck_ok_s (O := p2_OL) (X := X) (LX := LX) (E := [(45, [pl_s519, pl_s520, pl_s376, pl_s521, pl_s378, pl_s379, pl_s522, pl_s381]), (102, [pl_s382])]) (mi := 159) (cuts := []) (f := 144) (S := pl_s523) (lx := none) (XF := []) ⟨pl_nmu, ck_E1 (ck_S1 pl_s519_s (ck_S1 pl_s520_s (ck_S1 pl_s376_s (ck_S1 pl_s521_s (ck_S1 pl_s378_s (ck_S1 pl_s379_s (ck_S1 pl_s522_s (ck_S1 pl_s381_s ck_S0)))))))) (ck_E1 (ck_S1 pl_s382_s ck_S0) ck_E0)⟩ ck_X0 ck_l0 (by decide +kernel)
set_option maxRecDepth 100000 in
/-- GlacierMail.open -/
noncomputable def pl_s524 : ck_Sum := ((8, 2, 12), 249, [.inr (.inr (.inl 1)), .inl (ck_one 14)], ([], zl230, [(3, 6, 6, (0, 299, [(10, 0)]))]), ([(1, 15, 15), (11, 103, 104), (14, 3, 3), (15, 0, 71), (42, 1, 2), (44, 0, 7), (45, 3, 3), (46, 0, 55), (47, 3, 3), (48, 0, 23), (49, 3, 3), (50, 0, 23), (51, 3, 3), (52, 0, 167), (53, 3, 3), (54, 0, 35), (55, 3, 3), (56, 0, 71), (57, 0, 7), (58, 3, 3), (59, 0, 55), (60, 3, 3), (61, 0, 23), (62, 3, 3), (63, 0, 23), (64, 3, 3), (65, 0, 167), (66, 3, 3), (67, 0, 35), (68, 3, 3), (69, 0, 71), (70, 0, 7), (71, 3, 3), (72, 0, 55), (73, 3, 3), (74, 0, 23), (75, 3, 3), (76, 0, 23), (77, 3, 3), (78, 0, 167), (79, 3, 3), (80, 0, 35), (81, 3, 3), (82, 0, 71), (83, 0, 7), (84, 3, 3), (85, 0, 55), (86, 3, 3), (87, 0, 23), (88, 3, 3), (89, 0, 23), (90, 3, 3), (91, 0, 167), (92, 3, 3), (93, 0, 35), (94, 3, 3), (95, 0, 71), (96, 0, 7), (97, 3, 3), (98, 0, 55), (99, 3, 3), (100, 0, 23), (101, 3, 3), (102, 0, 23), (103, 3, 3), (104, 0, 167), (105, 3, 3), (106, 0, 35), (107, 3, 3), (108, 0, 71), (109, 0, 7), (110, 3, 3), (111, 0, 55), (112, 3, 3), (113, 0, 23), (114, 3, 3), (115, 0, 23), (116, 3, 3), (117, 0, 167), (118, 3, 3), (119, 0, 35), (120, 3, 3), (121, 0, 71), (122, 0, 7), (123, 3, 3), (124, 0, 55), (125, 3, 3), (126, 0, 23), (127, 3, 3), (128, 0, 23), (129, 3, 3), (130, 0, 167), (131, 3, 3), (132, 0, 35), (133, 3, 3), (134, 0, 71), (135, 0, 7), (136, 3, 3), (137, 0, 55), (138, 3, 3), (139, 0, 23), (140, 3, 3), (141, 0, 23), (142, 3, 3), (143, 0, 167), (144, 3, 3), (145, 0, 35), (146, 3, 3), (147, 0, 71), (148, 0, 7), (149, 3, 3), (150, 0, 55), (151, 3, 3), (152, 0, 23), (153, 3, 3), (154, 0, 23), (155, 3, 3), (156, 0, 167), (157, 3, 3), (158, 0, 35), (159, 3, 3), (160, 0, 71), (161, 0, 7), (162, 3, 3), (163, 0, 55), (164, 3, 3), (165, 0, 23), (166, 3, 3), (167, 0, 23), (168, 3, 3), (169, 0, 167), (170, 3, 3), (171, 0, 35), (172, 3, 3), (173, 0, 71), (174, 0, 7), (175, 3, 3), (176, 0, 55), (177, 3, 3), (178, 0, 23), (179, 3, 3), (180, 0, 23), (181, 3, 3), (182, 0, 167), (183, 3, 3), (184, 0, 35), (185, 3, 3), (186, 0, 71), (187, 0, 7), (188, 3, 3), (189, 0, 55), (190, 3, 3), (191, 0, 23), (192, 3, 3), (193, 0, 23), (194, 3, 3), (195, 0, 167), (196, 3, 3), (197, 0, 35), (198, 3, 3), (199, 0, 71), (200, 6, 6), (204, 0, 9), (205, 0, 14849), (206, 2, 8), (220, 3, 3), (221, 0, 47)], zl104), zl245)
set_option maxRecDepth 100000 in
theorem pl_s524_s {X : Int → Int} {LX : Nat} : ck_Ok p2_OL X LX 158 pl_s524 := ck_ok_s (O := p2_OL) (X := X) (LX := LX) (E := [(143, [pl_s516]), (24, [pl_s217]), (66, [pl_s518]), (154, [pl_s341]), (10, [pl_s204]), (159, [pl_s523])]) (mi := 158) (cuts := []) (f := 140) (S := pl_s524) (lx := none) (XF := []) ⟨pl_nmu, ck_E1 (ck_S1 pl_s516_s ck_S0) (ck_E1 (ck_S1 pl_s217_s ck_S0) (ck_E1 (ck_S1 pl_s518_s ck_S0) (ck_E1 (ck_S1 pl_s341_s ck_S0) (ck_E1 (ck_S1 pl_s204_s ck_S0) (ck_E1 (ck_S1 pl_s523_s ck_S0) ck_E0)))))⟩ ck_X0 ck_l0 (by decide +kernel)
set_option maxRecDepth 100000 in
/-- GlacierMail.need -/
noncomputable def pl_s525 : ck_Sum := ((6, 1, 6), 249, [.inr (.inr (.inl 1)), .inl (ck_one 15), .inl (0, 24, [])], ([], [], []), ([], []), [(.inr none, 249, ([], [], [])), (.inl 3, 249, ([], [], []))])
set_option maxRecDepth 100000 in
theorem pl_s525_s {X : Int → Int} {LX : Nat} : ck_Ok p2_OL X LX 133 pl_s525 := ck_ok_s (O := p2_OL) (X := X) (LX := LX) (E := []) (mi := 133) (cuts := []) (f := 82) (S := pl_s525) (lx := none) (XF := []) ⟨pl_nmu, ck_E0⟩ ck_X0 ck_l0 (by decide +kernel)
set_option maxRecDepth 100000 in
/-- GlacierMail.needLetter -/
noncomputable def pl_s526 : ck_Sum := ((7, 1, 6), 249, [.inr (.inr (.inl 1)), .inl (ck_one 15)], ([], [], []), ([], []), [(.inl 3, 249, ([], [], [])), (.inr none, 249, ([], [], []))])
set_option maxRecDepth 100000 in
theorem pl_s526_s {X : Int → Int} {LX : Nat} : ck_Ok p2_OL X LX 143 pl_s526 := ck_ok_s (O := p2_OL) (X := X) (LX := LX) (E := [(9, [pl_s200]), (133, [pl_s525])]) (mi := 143) (cuts := []) (f := 86) (S := pl_s526) (lx := none) (XF := []) ⟨pl_nmu, ck_E1 (ck_S1 pl_s200_s ck_S0) (ck_E1 (ck_S1 pl_s525_s ck_S0) ck_E0)⟩ ck_X0 ck_l0 (by decide +kernel)
set_option maxRecDepth 100000 in
/-- GlacierMail$State.isRock -/
noncomputable def pl_s527 : ck_Sum := ((1, 0, 0), 249, [.inr (.inr (.inl 3)), .inl (ck_one 15)], ([], [], []), ([], []), [(.inr (some (.inl (ck_one 0))), 249, ([], [], [])), (.inr (some (.inl (ck_one 1))), 249, ([], [], []))])
set_option maxRecDepth 100000 in
theorem pl_s527_s {X : Int → Int} {LX : Nat} : ck_Ok p2_OL X LX 28 pl_s527 := ck_ok_s (O := p2_OL) (X := X) (LX := LX) (E := [(10, [pl_s204])]) (mi := 28) (cuts := []) (f := 90) (S := pl_s527) (lx := none) (XF := []) ⟨pl_nmu, ck_E1 (ck_S1 pl_s204_s ck_S0) ck_E0⟩ ck_X0 ck_l0 (by decide +kernel)
set_option maxRecDepth 100000 in
/-- GlacierMail.waits -/
noncomputable def pl_s528 : ck_Sum := ((2, 0, 0), 249, [.inr (.inr (.inl 1)), .inl (ck_one 15)], ([], [], [(3, 6, 6, (0, 299, [(10, 0)]))]), ([], []), [(.inr (some (.inl (ck_one 0))), 249, ([], [], [])), (.inr (some (.inl (ck_one 1))), 249, ([], [], []))])
set_option maxRecDepth 100000 in
theorem pl_s528_s {X : Int → Int} {LX : Nat} : ck_Ok p2_OL X LX 66 pl_s528 := ck_ok_s (O := p2_OL) (X := X) (LX := LX) (E := [(28, [pl_s527]), (10, [pl_s204, pl_s218]), (67, [pl_s219])]) (mi := 66) (cuts := []) (f := 134) (S := pl_s528) (lx := none) (XF := []) ⟨pl_nmu, ck_E1 (ck_S1 pl_s527_s ck_S0) (ck_E1 (ck_S1 pl_s204_s (ck_S1 pl_s218_s ck_S0)) (ck_E1 (ck_S1 pl_s219_s ck_S0) ck_E0))⟩ ck_X0 ck_l0 (by decide +kernel)
set_option maxRecDepth 100000 in
/-- GlacierMail$Rows.put -/
noncomputable def pl_s529 : ck_Sum := ((0, 0, 0), 249, [.inr (.inr (.inl 10)), .inl (ck_one 15), .inl (ck_one 5), .inl ((-1), 299, [])], ([], [], []), ([(11, 110, 110)], []), [(.inr none, 249, ([], [], []))])
set_option maxRecDepth 100000 in
theorem pl_s529_s {X : Int → Int} {LX : Nat} : ck_Ok p2_OL X LX 45 pl_s529 := ck_ok_s (O := p2_OL) (X := X) (LX := LX) (E := []) (mi := 45) (cuts := []) (f := 116) (S := pl_s529) (lx := none) (XF := []) ⟨pl_nmu, ck_E0⟩ ck_X0 ck_l0 (by decide +kernel)
set_option maxRecDepth 100000 in
/-- GlacierMail$Rows.put -/
noncomputable def pl_s530 : ck_Sum := ((0, 0, 0), 249, [.inr (.inr (.inl 10)), .inl (ck_one 15), .inl (ck_one 6), .inl (0, 299, [])], ([], [], []), ([(11, 111, 111)], []), [(.inr none, 249, ([], [], []))])
set_option maxRecDepth 100000 in
theorem pl_s530_s {X : Int → Int} {LX : Nat} : ck_Ok p2_OL X LX 45 pl_s530 := ck_ok_s (O := p2_OL) (X := X) (LX := LX) (E := []) (mi := 45) (cuts := []) (f := 116) (S := pl_s530) (lx := none) (XF := []) ⟨pl_nmu, ck_E0⟩ ck_X0 ck_l0 (by decide +kernel)
set_option maxRecDepth 100000 in
/-- GlacierMail$Rows.put -/
noncomputable def pl_s531 : ck_Sum := ((0, 0, 0), 249, [.inr (.inr (.inl 14)), .inl (0, 23, []), .inl (ck_one 1), .inl (ck_one 15)], ([], [], []), (zl173, []), [(.inr none, 249, ([], [], []))])
set_option maxRecDepth 100000 in
theorem pl_s531_s {X : Int → Int} {LX : Nat} : ck_Ok p2_OL X LX 45 pl_s531 := ck_ok_s (O := p2_OL) (X := X) (LX := LX) (E := []) (mi := 45) (cuts := []) (f := 116) (S := pl_s531) (lx := none) (XF := []) ⟨pl_nmu, ck_E0⟩ ck_X0 ck_l0 (by decide +kernel)
set_option maxRecDepth 100000 in
/-- GlacierMail$Rows.put -/
noncomputable def pl_s532 : ck_Sum := ((0, 0, 0), 249, [.inr (.inr (.inl 14)), .inl (ck_one (-1)), .inl (ck_one 1), .inl (ck_one 15)], ([], [], []), ([], []), [(.inr none, 249, ([], [], []))])
set_option maxRecDepth 100000 in
theorem pl_s532_s {X : Int → Int} {LX : Nat} : ck_Ok p2_OL X LX 45 pl_s532 := ck_ok_s (O := p2_OL) (X := X) (LX := LX) (E := []) (mi := 45) (cuts := []) (f := 76) (S := pl_s532) (lx := none) (XF := []) ⟨pl_nmu, ck_E0⟩ ck_X0 ck_l0 (by decide +kernel)
set_option maxRecDepth 100000 in
/-- GlacierMail$State.openLetter -/
noncomputable def pl_s533 : ck_Sum := ((1, 0, 0), 249, [.inr (.inr (.inl 3)), .inl (ck_one 15), .inl ((-1), 299, [])], ([], [], [(3, 6, 6, (0, 299, [(10, 0)]))]), ([(11, 110, 111), (14, 3, 3), (15, 0, 71)], []), [(.inr none, 249, ([], [], [(14, 3, 3, (1, 24, []))]))])
set_option maxRecDepth 100000 in
theorem pl_s533_s {X : Int → Int} {LX : Nat} : ck_Ok p2_OL X LX 159 pl_s533 := ck_ok_s (O := p2_OL) (X := X) (LX := LX) (E := [(45, [pl_s529, pl_s530, pl_s376, pl_s531, pl_s378, pl_s379, pl_s532, pl_s381]), (102, [pl_s382])]) (mi := 159) (cuts := []) (f := 144) (S := pl_s533) (lx := none) (XF := []) ⟨pl_nmu, ck_E1 (ck_S1 pl_s529_s (ck_S1 pl_s530_s (ck_S1 pl_s376_s (ck_S1 pl_s531_s (ck_S1 pl_s378_s (ck_S1 pl_s379_s (ck_S1 pl_s532_s (ck_S1 pl_s381_s ck_S0)))))))) (ck_E1 (ck_S1 pl_s382_s ck_S0) ck_E0)⟩ ck_X0 ck_l0 (by decide +kernel)
set_option maxRecDepth 100000 in
/-- GlacierMail.open -/
noncomputable def pl_s534 : ck_Sum := ((8, 2, 12), 249, [.inr (.inr (.inl 1)), .inl (ck_one 15)], ([], zl230, [(3, 6, 6, (0, 299, [(10, 0)]))]), ([(1, 15, 15), (11, 110, 111), (14, 3, 3), (15, 0, 71), (42, 1, 2), (44, 0, 7), (45, 3, 3), (46, 0, 55), (47, 3, 3), (48, 0, 23), (49, 3, 3), (50, 0, 23), (51, 3, 3), (52, 0, 167), (53, 3, 3), (54, 0, 35), (55, 3, 3), (56, 0, 71), (57, 0, 7), (58, 3, 3), (59, 0, 55), (60, 3, 3), (61, 0, 23), (62, 3, 3), (63, 0, 23), (64, 3, 3), (65, 0, 167), (66, 3, 3), (67, 0, 35), (68, 3, 3), (69, 0, 71), (70, 0, 7), (71, 3, 3), (72, 0, 55), (73, 3, 3), (74, 0, 23), (75, 3, 3), (76, 0, 23), (77, 3, 3), (78, 0, 167), (79, 3, 3), (80, 0, 35), (81, 3, 3), (82, 0, 71), (83, 0, 7), (84, 3, 3), (85, 0, 55), (86, 3, 3), (87, 0, 23), (88, 3, 3), (89, 0, 23), (90, 3, 3), (91, 0, 167), (92, 3, 3), (93, 0, 35), (94, 3, 3), (95, 0, 71), (96, 0, 7), (97, 3, 3), (98, 0, 55), (99, 3, 3), (100, 0, 23), (101, 3, 3), (102, 0, 23), (103, 3, 3), (104, 0, 167), (105, 3, 3), (106, 0, 35), (107, 3, 3), (108, 0, 71), (109, 0, 7), (110, 3, 3), (111, 0, 55), (112, 3, 3), (113, 0, 23), (114, 3, 3), (115, 0, 23), (116, 3, 3), (117, 0, 167), (118, 3, 3), (119, 0, 35), (120, 3, 3), (121, 0, 71), (122, 0, 7), (123, 3, 3), (124, 0, 55), (125, 3, 3), (126, 0, 23), (127, 3, 3), (128, 0, 23), (129, 3, 3), (130, 0, 167), (131, 3, 3), (132, 0, 35), (133, 3, 3), (134, 0, 71), (135, 0, 7), (136, 3, 3), (137, 0, 55), (138, 3, 3), (139, 0, 23), (140, 3, 3), (141, 0, 23), (142, 3, 3), (143, 0, 167), (144, 3, 3), (145, 0, 35), (146, 3, 3), (147, 0, 71), (148, 0, 7), (149, 3, 3), (150, 0, 55), (151, 3, 3), (152, 0, 23), (153, 3, 3), (154, 0, 23), (155, 3, 3), (156, 0, 167), (157, 3, 3), (158, 0, 35), (159, 3, 3), (160, 0, 71), (161, 0, 7), (162, 3, 3), (163, 0, 55), (164, 3, 3), (165, 0, 23), (166, 3, 3), (167, 0, 23), (168, 3, 3), (169, 0, 167), (170, 3, 3), (171, 0, 35), (172, 3, 3), (173, 0, 71), (174, 0, 7), (175, 3, 3), (176, 0, 55), (177, 3, 3), (178, 0, 23), (179, 3, 3), (180, 0, 23), (181, 3, 3), (182, 0, 167), (183, 3, 3), (184, 0, 35), (185, 3, 3), (186, 0, 71), (187, 0, 7), (188, 3, 3), (189, 0, 55), (190, 3, 3), (191, 0, 23), (192, 3, 3), (193, 0, 23), (194, 3, 3), (195, 0, 167), (196, 3, 3), (197, 0, 35), (198, 3, 3), (199, 0, 71), (200, 6, 6), (204, 0, 9), (205, 0, 14849), (206, 2, 8), (220, 3, 3), (221, 0, 47)], zl104), zl245)
set_option maxRecDepth 100000 in
theorem pl_s534_s {X : Int → Int} {LX : Nat} : ck_Ok p2_OL X LX 158 pl_s534 := ck_ok_s (O := p2_OL) (X := X) (LX := LX) (E := [(143, [pl_s526]), (24, [pl_s217]), (66, [pl_s528]), (154, [pl_s341]), (10, [pl_s204]), (159, [pl_s533])]) (mi := 158) (cuts := []) (f := 140) (S := pl_s534) (lx := none) (XF := []) ⟨pl_nmu, ck_E1 (ck_S1 pl_s526_s ck_S0) (ck_E1 (ck_S1 pl_s217_s ck_S0) (ck_E1 (ck_S1 pl_s528_s ck_S0) (ck_E1 (ck_S1 pl_s341_s ck_S0) (ck_E1 (ck_S1 pl_s204_s ck_S0) (ck_E1 (ck_S1 pl_s533_s ck_S0) ck_E0)))))⟩ ck_X0 ck_l0 (by decide +kernel)
set_option maxRecDepth 100000 in
/-- GlacierMail.need -/
noncomputable def pl_s535 : ck_Sum := ((6, 1, 6), 249, [.inr (.inr (.inl 1)), .inl (ck_one 16), .inl (0, 24, [])], ([], [], []), ([], []), [(.inr none, 249, ([], [], [])), (.inl 3, 249, ([], [], []))])
set_option maxRecDepth 100000 in
theorem pl_s535_s {X : Int → Int} {LX : Nat} : ck_Ok p2_OL X LX 133 pl_s535 := ck_ok_s (O := p2_OL) (X := X) (LX := LX) (E := []) (mi := 133) (cuts := []) (f := 82) (S := pl_s535) (lx := none) (XF := []) ⟨pl_nmu, ck_E0⟩ ck_X0 ck_l0 (by decide +kernel)
set_option maxRecDepth 100000 in
/-- GlacierMail.needLetter -/
noncomputable def pl_s536 : ck_Sum := ((7, 1, 6), 249, [.inr (.inr (.inl 1)), .inl (ck_one 16)], ([], [], []), ([], []), [(.inl 3, 249, ([], [], [])), (.inr none, 249, ([], [], []))])
set_option maxRecDepth 100000 in
theorem pl_s536_s {X : Int → Int} {LX : Nat} : ck_Ok p2_OL X LX 143 pl_s536 := ck_ok_s (O := p2_OL) (X := X) (LX := LX) (E := [(9, [pl_s200]), (133, [pl_s535])]) (mi := 143) (cuts := []) (f := 86) (S := pl_s536) (lx := none) (XF := []) ⟨pl_nmu, ck_E1 (ck_S1 pl_s200_s ck_S0) (ck_E1 (ck_S1 pl_s535_s ck_S0) ck_E0)⟩ ck_X0 ck_l0 (by decide +kernel)
set_option maxRecDepth 100000 in
/-- GlacierMail$State.isRock -/
noncomputable def pl_s537 : ck_Sum := ((1, 0, 0), 249, [.inr (.inr (.inl 3)), .inl (ck_one 16)], ([], [], []), ([], []), [(.inr (some (.inl (ck_one 0))), 249, ([], [], [])), (.inr (some (.inl (ck_one 1))), 249, ([], [], []))])
set_option maxRecDepth 100000 in
theorem pl_s537_s {X : Int → Int} {LX : Nat} : ck_Ok p2_OL X LX 28 pl_s537 := ck_ok_s (O := p2_OL) (X := X) (LX := LX) (E := [(10, [pl_s204])]) (mi := 28) (cuts := []) (f := 90) (S := pl_s537) (lx := none) (XF := []) ⟨pl_nmu, ck_E1 (ck_S1 pl_s204_s ck_S0) ck_E0⟩ ck_X0 ck_l0 (by decide +kernel)
set_option maxRecDepth 100000 in
/-- GlacierMail.waits -/
noncomputable def pl_s538 : ck_Sum := ((2, 0, 0), 249, [.inr (.inr (.inl 1)), .inl (ck_one 16)], ([], [], [(3, 6, 6, (0, 299, [(10, 0)]))]), ([], []), [(.inr (some (.inl (ck_one 0))), 249, ([], [], [])), (.inr (some (.inl (ck_one 1))), 249, ([], [], []))])
set_option maxRecDepth 100000 in
theorem pl_s538_s {X : Int → Int} {LX : Nat} : ck_Ok p2_OL X LX 66 pl_s538 := ck_ok_s (O := p2_OL) (X := X) (LX := LX) (E := [(28, [pl_s537]), (10, [pl_s204, pl_s218]), (67, [pl_s219])]) (mi := 66) (cuts := []) (f := 134) (S := pl_s538) (lx := none) (XF := []) ⟨pl_nmu, ck_E1 (ck_S1 pl_s537_s ck_S0) (ck_E1 (ck_S1 pl_s204_s (ck_S1 pl_s218_s ck_S0)) (ck_E1 (ck_S1 pl_s219_s ck_S0) ck_E0))⟩ ck_X0 ck_l0 (by decide +kernel)
set_option maxRecDepth 100000 in
/-- GlacierMail$Rows.put -/
noncomputable def pl_s539 : ck_Sum := ((0, 0, 0), 249, [.inr (.inr (.inl 10)), .inl (ck_one 16), .inl (ck_one 5), .inl ((-1), 299, [])], ([], [], []), ([(11, 117, 117)], []), [(.inr none, 249, ([], [], []))])
set_option maxRecDepth 100000 in
theorem pl_s539_s {X : Int → Int} {LX : Nat} : ck_Ok p2_OL X LX 45 pl_s539 := ck_ok_s (O := p2_OL) (X := X) (LX := LX) (E := []) (mi := 45) (cuts := []) (f := 116) (S := pl_s539) (lx := none) (XF := []) ⟨pl_nmu, ck_E0⟩ ck_X0 ck_l0 (by decide +kernel)
set_option maxRecDepth 100000 in
/-- GlacierMail$Rows.put -/
noncomputable def pl_s540 : ck_Sum := ((0, 0, 0), 249, [.inr (.inr (.inl 10)), .inl (ck_one 16), .inl (ck_one 6), .inl (0, 299, [])], ([], [], []), ([(11, 118, 118)], []), [(.inr none, 249, ([], [], []))])
set_option maxRecDepth 100000 in
theorem pl_s540_s {X : Int → Int} {LX : Nat} : ck_Ok p2_OL X LX 45 pl_s540 := ck_ok_s (O := p2_OL) (X := X) (LX := LX) (E := []) (mi := 45) (cuts := []) (f := 116) (S := pl_s540) (lx := none) (XF := []) ⟨pl_nmu, ck_E0⟩ ck_X0 ck_l0 (by decide +kernel)
end
/-! 78r86a06.sl -/
section
/-! EVERY CALL OF THE CLASS ENDS, under a law (laid by wip/am/p2l.py). -/
set_option maxRecDepth 100000 in
/-- GlacierMail$Rows.put -/
noncomputable def pl_s541 : ck_Sum := ((0, 0, 0), 249, [.inr (.inr (.inl 14)), .inl (0, 23, []), .inl (ck_one 1), .inl (ck_one 16)], ([], [], []), (zl173, []), [(.inr none, 249, ([], [], []))])
set_option maxRecDepth 100000 in
theorem pl_s541_s {X : Int → Int} {LX : Nat} : ck_Ok p2_OL X LX 45 pl_s541 := ck_ok_s (O := p2_OL) (X := X) (LX := LX) (E := []) (mi := 45) (cuts := []) (f := 116) (S := pl_s541) (lx := none) (XF := []) ⟨pl_nmu, ck_E0⟩ ck_X0 ck_l0 (by decide +kernel)
set_option maxRecDepth 100000 in
/-- GlacierMail$Rows.put -/
noncomputable def pl_s542 : ck_Sum := ((0, 0, 0), 249, [.inr (.inr (.inl 14)), .inl (ck_one (-1)), .inl (ck_one 1), .inl (ck_one 16)], ([], [], []), ([], []), [(.inr none, 249, ([], [], []))])
set_option maxRecDepth 100000 in
theorem pl_s542_s {X : Int → Int} {LX : Nat} : ck_Ok p2_OL X LX 45 pl_s542 := ck_ok_s (O := p2_OL) (X := X) (LX := LX) (E := []) (mi := 45) (cuts := []) (f := 76) (S := pl_s542) (lx := none) (XF := []) ⟨pl_nmu, ck_E0⟩ ck_X0 ck_l0 (by decide +kernel)
set_option maxRecDepth 100000 in
/-- GlacierMail$State.openLetter -/
noncomputable def pl_s543 : ck_Sum := ((1, 0, 0), 249, [.inr (.inr (.inl 3)), .inl (ck_one 16), .inl ((-1), 299, [])], ([], [], [(3, 6, 6, (0, 299, [(10, 0)]))]), ([(11, 117, 118), (14, 3, 3), (15, 0, 71)], []), [(.inr none, 249, ([], [], [(14, 3, 3, (1, 24, []))]))])
set_option maxRecDepth 100000 in
theorem pl_s543_s {X : Int → Int} {LX : Nat} : ck_Ok p2_OL X LX 159 pl_s543 := ck_ok_s (O := p2_OL) (X := X) (LX := LX) (E := [(45, [pl_s539, pl_s540, pl_s376, pl_s541, pl_s378, pl_s379, pl_s542, pl_s381]), (102, [pl_s382])]) (mi := 159) (cuts := []) (f := 144) (S := pl_s543) (lx := none) (XF := []) ⟨pl_nmu, ck_E1 (ck_S1 pl_s539_s (ck_S1 pl_s540_s (ck_S1 pl_s376_s (ck_S1 pl_s541_s (ck_S1 pl_s378_s (ck_S1 pl_s379_s (ck_S1 pl_s542_s (ck_S1 pl_s381_s ck_S0)))))))) (ck_E1 (ck_S1 pl_s382_s ck_S0) ck_E0)⟩ ck_X0 ck_l0 (by decide +kernel)
set_option maxRecDepth 100000 in
/-- GlacierMail.open -/
noncomputable def pl_s544 : ck_Sum := ((8, 2, 12), 249, [.inr (.inr (.inl 1)), .inl (ck_one 16)], ([], zl230, [(3, 6, 6, (0, 299, [(10, 0)]))]), ([(1, 15, 15), (11, 117, 118), (14, 3, 3), (15, 0, 71), (42, 1, 2), (44, 0, 7), (45, 3, 3), (46, 0, 55), (47, 3, 3), (48, 0, 23), (49, 3, 3), (50, 0, 23), (51, 3, 3), (52, 0, 167), (53, 3, 3), (54, 0, 35), (55, 3, 3), (56, 0, 71), (57, 0, 7), (58, 3, 3), (59, 0, 55), (60, 3, 3), (61, 0, 23), (62, 3, 3), (63, 0, 23), (64, 3, 3), (65, 0, 167), (66, 3, 3), (67, 0, 35), (68, 3, 3), (69, 0, 71), (70, 0, 7), (71, 3, 3), (72, 0, 55), (73, 3, 3), (74, 0, 23), (75, 3, 3), (76, 0, 23), (77, 3, 3), (78, 0, 167), (79, 3, 3), (80, 0, 35), (81, 3, 3), (82, 0, 71), (83, 0, 7), (84, 3, 3), (85, 0, 55), (86, 3, 3), (87, 0, 23), (88, 3, 3), (89, 0, 23), (90, 3, 3), (91, 0, 167), (92, 3, 3), (93, 0, 35), (94, 3, 3), (95, 0, 71), (96, 0, 7), (97, 3, 3), (98, 0, 55), (99, 3, 3), (100, 0, 23), (101, 3, 3), (102, 0, 23), (103, 3, 3), (104, 0, 167), (105, 3, 3), (106, 0, 35), (107, 3, 3), (108, 0, 71), (109, 0, 7), (110, 3, 3), (111, 0, 55), (112, 3, 3), (113, 0, 23), (114, 3, 3), (115, 0, 23), (116, 3, 3), (117, 0, 167), (118, 3, 3), (119, 0, 35), (120, 3, 3), (121, 0, 71), (122, 0, 7), (123, 3, 3), (124, 0, 55), (125, 3, 3), (126, 0, 23), (127, 3, 3), (128, 0, 23), (129, 3, 3), (130, 0, 167), (131, 3, 3), (132, 0, 35), (133, 3, 3), (134, 0, 71), (135, 0, 7), (136, 3, 3), (137, 0, 55), (138, 3, 3), (139, 0, 23), (140, 3, 3), (141, 0, 23), (142, 3, 3), (143, 0, 167), (144, 3, 3), (145, 0, 35), (146, 3, 3), (147, 0, 71), (148, 0, 7), (149, 3, 3), (150, 0, 55), (151, 3, 3), (152, 0, 23), (153, 3, 3), (154, 0, 23), (155, 3, 3), (156, 0, 167), (157, 3, 3), (158, 0, 35), (159, 3, 3), (160, 0, 71), (161, 0, 7), (162, 3, 3), (163, 0, 55), (164, 3, 3), (165, 0, 23), (166, 3, 3), (167, 0, 23), (168, 3, 3), (169, 0, 167), (170, 3, 3), (171, 0, 35), (172, 3, 3), (173, 0, 71), (174, 0, 7), (175, 3, 3), (176, 0, 55), (177, 3, 3), (178, 0, 23), (179, 3, 3), (180, 0, 23), (181, 3, 3), (182, 0, 167), (183, 3, 3), (184, 0, 35), (185, 3, 3), (186, 0, 71), (187, 0, 7), (188, 3, 3), (189, 0, 55), (190, 3, 3), (191, 0, 23), (192, 3, 3), (193, 0, 23), (194, 3, 3), (195, 0, 167), (196, 3, 3), (197, 0, 35), (198, 3, 3), (199, 0, 71), (200, 6, 6), (204, 0, 9), (205, 0, 14849), (206, 2, 8), (220, 3, 3), (221, 0, 47)], zl104), zl245)
set_option maxRecDepth 100000 in
theorem pl_s544_s {X : Int → Int} {LX : Nat} : ck_Ok p2_OL X LX 158 pl_s544 := ck_ok_s (O := p2_OL) (X := X) (LX := LX) (E := [(143, [pl_s536]), (24, [pl_s217]), (66, [pl_s538]), (154, [pl_s341]), (10, [pl_s204]), (159, [pl_s543])]) (mi := 158) (cuts := []) (f := 140) (S := pl_s544) (lx := none) (XF := []) ⟨pl_nmu, ck_E1 (ck_S1 pl_s536_s ck_S0) (ck_E1 (ck_S1 pl_s217_s ck_S0) (ck_E1 (ck_S1 pl_s538_s ck_S0) (ck_E1 (ck_S1 pl_s341_s ck_S0) (ck_E1 (ck_S1 pl_s204_s ck_S0) (ck_E1 (ck_S1 pl_s543_s ck_S0) ck_E0)))))⟩ ck_X0 ck_l0 (by decide +kernel)
set_option maxRecDepth 100000 in
/-- GlacierMail.need -/
noncomputable def pl_s545 : ck_Sum := ((6, 1, 6), 249, [.inr (.inr (.inl 1)), .inl (ck_one 17), .inl (0, 24, [])], ([], [], []), ([], []), [(.inr none, 249, ([], [], [])), (.inl 3, 249, ([], [], []))])
set_option maxRecDepth 100000 in
theorem pl_s545_s {X : Int → Int} {LX : Nat} : ck_Ok p2_OL X LX 133 pl_s545 := ck_ok_s (O := p2_OL) (X := X) (LX := LX) (E := []) (mi := 133) (cuts := []) (f := 82) (S := pl_s545) (lx := none) (XF := []) ⟨pl_nmu, ck_E0⟩ ck_X0 ck_l0 (by decide +kernel)
set_option maxRecDepth 100000 in
/-- GlacierMail.needLetter -/
noncomputable def pl_s546 : ck_Sum := ((7, 1, 6), 249, [.inr (.inr (.inl 1)), .inl (ck_one 17)], ([], [], []), ([], []), [(.inl 3, 249, ([], [], [])), (.inr none, 249, ([], [], []))])
set_option maxRecDepth 100000 in
theorem pl_s546_s {X : Int → Int} {LX : Nat} : ck_Ok p2_OL X LX 143 pl_s546 := ck_ok_s (O := p2_OL) (X := X) (LX := LX) (E := [(9, [pl_s200]), (133, [pl_s545])]) (mi := 143) (cuts := []) (f := 86) (S := pl_s546) (lx := none) (XF := []) ⟨pl_nmu, ck_E1 (ck_S1 pl_s200_s ck_S0) (ck_E1 (ck_S1 pl_s545_s ck_S0) ck_E0)⟩ ck_X0 ck_l0 (by decide +kernel)
set_option maxRecDepth 100000 in
/-- GlacierMail$State.isRock -/
noncomputable def pl_s547 : ck_Sum := ((1, 0, 0), 249, [.inr (.inr (.inl 3)), .inl (ck_one 17)], ([], [], []), ([], []), [(.inr (some (.inl (ck_one 0))), 249, ([], [], [])), (.inr (some (.inl (ck_one 1))), 249, ([], [], []))])
set_option maxRecDepth 100000 in
theorem pl_s547_s {X : Int → Int} {LX : Nat} : ck_Ok p2_OL X LX 28 pl_s547 := ck_ok_s (O := p2_OL) (X := X) (LX := LX) (E := [(10, [pl_s204])]) (mi := 28) (cuts := []) (f := 90) (S := pl_s547) (lx := none) (XF := []) ⟨pl_nmu, ck_E1 (ck_S1 pl_s204_s ck_S0) ck_E0⟩ ck_X0 ck_l0 (by decide +kernel)
set_option maxRecDepth 100000 in
/-- GlacierMail.waits -/
noncomputable def pl_s548 : ck_Sum := ((2, 0, 0), 249, [.inr (.inr (.inl 1)), .inl (ck_one 17)], ([], [], [(3, 6, 6, (0, 299, [(10, 0)]))]), ([], []), [(.inr (some (.inl (ck_one 0))), 249, ([], [], [])), (.inr (some (.inl (ck_one 1))), 249, ([], [], []))])
set_option maxRecDepth 100000 in
theorem pl_s548_s {X : Int → Int} {LX : Nat} : ck_Ok p2_OL X LX 66 pl_s548 := ck_ok_s (O := p2_OL) (X := X) (LX := LX) (E := [(28, [pl_s547]), (10, [pl_s204, pl_s218]), (67, [pl_s219])]) (mi := 66) (cuts := []) (f := 134) (S := pl_s548) (lx := none) (XF := []) ⟨pl_nmu, ck_E1 (ck_S1 pl_s547_s ck_S0) (ck_E1 (ck_S1 pl_s204_s (ck_S1 pl_s218_s ck_S0)) (ck_E1 (ck_S1 pl_s219_s ck_S0) ck_E0))⟩ ck_X0 ck_l0 (by decide +kernel)
set_option maxRecDepth 100000 in
/-- GlacierMail$Rows.put -/
noncomputable def pl_s549 : ck_Sum := ((0, 0, 0), 249, [.inr (.inr (.inl 10)), .inl (ck_one 17), .inl (ck_one 5), .inl ((-1), 299, [])], ([], [], []), ([(11, 124, 124)], []), [(.inr none, 249, ([], [], []))])
set_option maxRecDepth 100000 in
theorem pl_s549_s {X : Int → Int} {LX : Nat} : ck_Ok p2_OL X LX 45 pl_s549 := ck_ok_s (O := p2_OL) (X := X) (LX := LX) (E := []) (mi := 45) (cuts := []) (f := 116) (S := pl_s549) (lx := none) (XF := []) ⟨pl_nmu, ck_E0⟩ ck_X0 ck_l0 (by decide +kernel)
set_option maxRecDepth 100000 in
/-- GlacierMail$Rows.put -/
noncomputable def pl_s550 : ck_Sum := ((0, 0, 0), 249, [.inr (.inr (.inl 10)), .inl (ck_one 17), .inl (ck_one 6), .inl (0, 299, [])], ([], [], []), ([(11, 125, 125)], []), [(.inr none, 249, ([], [], []))])
set_option maxRecDepth 100000 in
theorem pl_s550_s {X : Int → Int} {LX : Nat} : ck_Ok p2_OL X LX 45 pl_s550 := ck_ok_s (O := p2_OL) (X := X) (LX := LX) (E := []) (mi := 45) (cuts := []) (f := 116) (S := pl_s550) (lx := none) (XF := []) ⟨pl_nmu, ck_E0⟩ ck_X0 ck_l0 (by decide +kernel)
set_option maxRecDepth 100000 in
/-- GlacierMail$Rows.put -/
noncomputable def pl_s551 : ck_Sum := ((0, 0, 0), 249, [.inr (.inr (.inl 14)), .inl (0, 23, []), .inl (ck_one 1), .inl (ck_one 17)], ([], [], []), (zl173, []), [(.inr none, 249, ([], [], []))])
set_option maxRecDepth 100000 in
theorem pl_s551_s {X : Int → Int} {LX : Nat} : ck_Ok p2_OL X LX 45 pl_s551 := ck_ok_s (O := p2_OL) (X := X) (LX := LX) (E := []) (mi := 45) (cuts := []) (f := 116) (S := pl_s551) (lx := none) (XF := []) ⟨pl_nmu, ck_E0⟩ ck_X0 ck_l0 (by decide +kernel)
set_option maxRecDepth 100000 in
/-- GlacierMail$Rows.put -/
noncomputable def pl_s552 : ck_Sum := ((0, 0, 0), 249, [.inr (.inr (.inl 14)), .inl (ck_one (-1)), .inl (ck_one 1), .inl (ck_one 17)], ([], [], []), ([], []), [(.inr none, 249, ([], [], []))])
set_option maxRecDepth 100000 in
theorem pl_s552_s {X : Int → Int} {LX : Nat} : ck_Ok p2_OL X LX 45 pl_s552 := ck_ok_s (O := p2_OL) (X := X) (LX := LX) (E := []) (mi := 45) (cuts := []) (f := 76) (S := pl_s552) (lx := none) (XF := []) ⟨pl_nmu, ck_E0⟩ ck_X0 ck_l0 (by decide +kernel)
set_option maxRecDepth 100000 in
/-- GlacierMail$State.openLetter -/
noncomputable def pl_s553 : ck_Sum := ((1, 0, 0), 249, [.inr (.inr (.inl 3)), .inl (ck_one 17), .inl ((-1), 299, [])], ([], [], [(3, 6, 6, (0, 299, [(10, 0)]))]), ([(11, 124, 125), (14, 3, 3), (15, 0, 71)], []), [(.inr none, 249, ([], [], [(14, 3, 3, (1, 24, []))]))])
set_option maxRecDepth 100000 in
theorem pl_s553_s {X : Int → Int} {LX : Nat} : ck_Ok p2_OL X LX 159 pl_s553 := ck_ok_s (O := p2_OL) (X := X) (LX := LX) (E := [(45, [pl_s549, pl_s550, pl_s376, pl_s551, pl_s378, pl_s379, pl_s552, pl_s381]), (102, [pl_s382])]) (mi := 159) (cuts := []) (f := 144) (S := pl_s553) (lx := none) (XF := []) ⟨pl_nmu, ck_E1 (ck_S1 pl_s549_s (ck_S1 pl_s550_s (ck_S1 pl_s376_s (ck_S1 pl_s551_s (ck_S1 pl_s378_s (ck_S1 pl_s379_s (ck_S1 pl_s552_s (ck_S1 pl_s381_s ck_S0)))))))) (ck_E1 (ck_S1 pl_s382_s ck_S0) ck_E0)⟩ ck_X0 ck_l0 (by decide +kernel)
set_option maxRecDepth 100000 in
/-- GlacierMail.open -/
noncomputable def pl_s554 : ck_Sum := ((8, 2, 12), 249, [.inr (.inr (.inl 1)), .inl (ck_one 17)], ([], zl230, [(3, 6, 6, (0, 299, [(10, 0)]))]), ([(1, 15, 15), (11, 124, 125), (14, 3, 3), (15, 0, 71), (42, 1, 2), (44, 0, 7), (45, 3, 3), (46, 0, 55), (47, 3, 3), (48, 0, 23), (49, 3, 3), (50, 0, 23), (51, 3, 3), (52, 0, 167), (53, 3, 3), (54, 0, 35), (55, 3, 3), (56, 0, 71), (57, 0, 7), (58, 3, 3), (59, 0, 55), (60, 3, 3), (61, 0, 23), (62, 3, 3), (63, 0, 23), (64, 3, 3), (65, 0, 167), (66, 3, 3), (67, 0, 35), (68, 3, 3), (69, 0, 71), (70, 0, 7), (71, 3, 3), (72, 0, 55), (73, 3, 3), (74, 0, 23), (75, 3, 3), (76, 0, 23), (77, 3, 3), (78, 0, 167), (79, 3, 3), (80, 0, 35), (81, 3, 3), (82, 0, 71), (83, 0, 7), (84, 3, 3), (85, 0, 55), (86, 3, 3), (87, 0, 23), (88, 3, 3), (89, 0, 23), (90, 3, 3), (91, 0, 167), (92, 3, 3), (93, 0, 35), (94, 3, 3), (95, 0, 71), (96, 0, 7), (97, 3, 3), (98, 0, 55), (99, 3, 3), (100, 0, 23), (101, 3, 3), (102, 0, 23), (103, 3, 3), (104, 0, 167), (105, 3, 3), (106, 0, 35), (107, 3, 3), (108, 0, 71), (109, 0, 7), (110, 3, 3), (111, 0, 55), (112, 3, 3), (113, 0, 23), (114, 3, 3), (115, 0, 23), (116, 3, 3), (117, 0, 167), (118, 3, 3), (119, 0, 35), (120, 3, 3), (121, 0, 71), (122, 0, 7), (123, 3, 3), (124, 0, 55), (125, 3, 3), (126, 0, 23), (127, 3, 3), (128, 0, 23), (129, 3, 3), (130, 0, 167), (131, 3, 3), (132, 0, 35), (133, 3, 3), (134, 0, 71), (135, 0, 7), (136, 3, 3), (137, 0, 55), (138, 3, 3), (139, 0, 23), (140, 3, 3), (141, 0, 23), (142, 3, 3), (143, 0, 167), (144, 3, 3), (145, 0, 35), (146, 3, 3), (147, 0, 71), (148, 0, 7), (149, 3, 3), (150, 0, 55), (151, 3, 3), (152, 0, 23), (153, 3, 3), (154, 0, 23), (155, 3, 3), (156, 0, 167), (157, 3, 3), (158, 0, 35), (159, 3, 3), (160, 0, 71), (161, 0, 7), (162, 3, 3), (163, 0, 55), (164, 3, 3), (165, 0, 23), (166, 3, 3), (167, 0, 23), (168, 3, 3), (169, 0, 167), (170, 3, 3), (171, 0, 35), (172, 3, 3), (173, 0, 71), (174, 0, 7), (175, 3, 3), (176, 0, 55), (177, 3, 3), (178, 0, 23), (179, 3, 3), (180, 0, 23), (181, 3, 3), (182, 0, 167), (183, 3, 3), (184, 0, 35), (185, 3, 3), (186, 0, 71), (187, 0, 7), (188, 3, 3), (189, 0, 55), (190, 3, 3), (191, 0, 23), (192, 3, 3), (193, 0, 23), (194, 3, 3), (195, 0, 167), (196, 3, 3), (197, 0, 35), (198, 3, 3), (199, 0, 71), (200, 6, 6), (204, 0, 9), (205, 0, 14849), (206, 2, 8), (220, 3, 3), (221, 0, 47)], zl104), zl245)
set_option maxRecDepth 100000 in
theorem pl_s554_s {X : Int → Int} {LX : Nat} : ck_Ok p2_OL X LX 158 pl_s554 := ck_ok_s (O := p2_OL) (X := X) (LX := LX) (E := [(143, [pl_s546]), (24, [pl_s217]), (66, [pl_s548]), (154, [pl_s341]), (10, [pl_s204]), (159, [pl_s553])]) (mi := 158) (cuts := []) (f := 140) (S := pl_s554) (lx := none) (XF := []) ⟨pl_nmu, ck_E1 (ck_S1 pl_s546_s ck_S0) (ck_E1 (ck_S1 pl_s217_s ck_S0) (ck_E1 (ck_S1 pl_s548_s ck_S0) (ck_E1 (ck_S1 pl_s341_s ck_S0) (ck_E1 (ck_S1 pl_s204_s ck_S0) (ck_E1 (ck_S1 pl_s553_s ck_S0) ck_E0)))))⟩ ck_X0 ck_l0 (by decide +kernel)
set_option maxRecDepth 100000 in
/-- GlacierMail.need -/
noncomputable def pl_s555 : ck_Sum := ((6, 1, 6), 249, [.inr (.inr (.inl 1)), .inl (ck_one 18), .inl (0, 24, [])], ([], [], []), ([], []), [(.inr none, 249, ([], [], [])), (.inl 3, 249, ([], [], []))])
set_option maxRecDepth 100000 in
theorem pl_s555_s {X : Int → Int} {LX : Nat} : ck_Ok p2_OL X LX 133 pl_s555 := ck_ok_s (O := p2_OL) (X := X) (LX := LX) (E := []) (mi := 133) (cuts := []) (f := 82) (S := pl_s555) (lx := none) (XF := []) ⟨pl_nmu, ck_E0⟩ ck_X0 ck_l0 (by decide +kernel)
set_option maxRecDepth 100000 in
/-- GlacierMail.needLetter -/
noncomputable def pl_s556 : ck_Sum := ((7, 1, 6), 249, [.inr (.inr (.inl 1)), .inl (ck_one 18)], ([], [], []), ([], []), [(.inl 3, 249, ([], [], [])), (.inr none, 249, ([], [], []))])
set_option maxRecDepth 100000 in
theorem pl_s556_s {X : Int → Int} {LX : Nat} : ck_Ok p2_OL X LX 143 pl_s556 := ck_ok_s (O := p2_OL) (X := X) (LX := LX) (E := [(9, [pl_s200]), (133, [pl_s555])]) (mi := 143) (cuts := []) (f := 86) (S := pl_s556) (lx := none) (XF := []) ⟨pl_nmu, ck_E1 (ck_S1 pl_s200_s ck_S0) (ck_E1 (ck_S1 pl_s555_s ck_S0) ck_E0)⟩ ck_X0 ck_l0 (by decide +kernel)
set_option maxRecDepth 100000 in
/-- GlacierMail$State.isRock -/
noncomputable def pl_s557 : ck_Sum := ((1, 0, 0), 249, [.inr (.inr (.inl 3)), .inl (ck_one 18)], ([], [], []), ([], []), [(.inr (some (.inl (ck_one 0))), 249, ([], [], [])), (.inr (some (.inl (ck_one 1))), 249, ([], [], []))])
set_option maxRecDepth 100000 in
theorem pl_s557_s {X : Int → Int} {LX : Nat} : ck_Ok p2_OL X LX 28 pl_s557 := ck_ok_s (O := p2_OL) (X := X) (LX := LX) (E := [(10, [pl_s204])]) (mi := 28) (cuts := []) (f := 90) (S := pl_s557) (lx := none) (XF := []) ⟨pl_nmu, ck_E1 (ck_S1 pl_s204_s ck_S0) ck_E0⟩ ck_X0 ck_l0 (by decide +kernel)
set_option maxRecDepth 100000 in
/-- GlacierMail.waits -/
noncomputable def pl_s558 : ck_Sum := ((2, 0, 0), 249, [.inr (.inr (.inl 1)), .inl (ck_one 18)], ([], [], [(3, 6, 6, (0, 299, [(10, 0)]))]), ([], []), [(.inr (some (.inl (ck_one 0))), 249, ([], [], [])), (.inr (some (.inl (ck_one 1))), 249, ([], [], []))])
set_option maxRecDepth 100000 in
theorem pl_s558_s {X : Int → Int} {LX : Nat} : ck_Ok p2_OL X LX 66 pl_s558 := ck_ok_s (O := p2_OL) (X := X) (LX := LX) (E := [(28, [pl_s557]), (10, [pl_s204, pl_s218]), (67, [pl_s219])]) (mi := 66) (cuts := []) (f := 134) (S := pl_s558) (lx := none) (XF := []) ⟨pl_nmu, ck_E1 (ck_S1 pl_s557_s ck_S0) (ck_E1 (ck_S1 pl_s204_s (ck_S1 pl_s218_s ck_S0)) (ck_E1 (ck_S1 pl_s219_s ck_S0) ck_E0))⟩ ck_X0 ck_l0 (by decide +kernel)
set_option maxRecDepth 100000 in
/-- GlacierMail$Rows.put -/
noncomputable def pl_s559 : ck_Sum := ((0, 0, 0), 249, [.inr (.inr (.inl 10)), .inl (ck_one 18), .inl (ck_one 5), .inl ((-1), 299, [])], ([], [], []), ([(11, 131, 131)], []), [(.inr none, 249, ([], [], []))])
set_option maxRecDepth 100000 in
theorem pl_s559_s {X : Int → Int} {LX : Nat} : ck_Ok p2_OL X LX 45 pl_s559 := ck_ok_s (O := p2_OL) (X := X) (LX := LX) (E := []) (mi := 45) (cuts := []) (f := 116) (S := pl_s559) (lx := none) (XF := []) ⟨pl_nmu, ck_E0⟩ ck_X0 ck_l0 (by decide +kernel)
set_option maxRecDepth 100000 in
/-- GlacierMail$Rows.put -/
noncomputable def pl_s560 : ck_Sum := ((0, 0, 0), 249, [.inr (.inr (.inl 10)), .inl (ck_one 18), .inl (ck_one 6), .inl (0, 299, [])], ([], [], []), ([(11, 132, 132)], []), [(.inr none, 249, ([], [], []))])
set_option maxRecDepth 100000 in
theorem pl_s560_s {X : Int → Int} {LX : Nat} : ck_Ok p2_OL X LX 45 pl_s560 := ck_ok_s (O := p2_OL) (X := X) (LX := LX) (E := []) (mi := 45) (cuts := []) (f := 116) (S := pl_s560) (lx := none) (XF := []) ⟨pl_nmu, ck_E0⟩ ck_X0 ck_l0 (by decide +kernel)
set_option maxRecDepth 100000 in
/-- GlacierMail$Rows.put -/
noncomputable def pl_s561 : ck_Sum := ((0, 0, 0), 249, [.inr (.inr (.inl 14)), .inl (0, 23, []), .inl (ck_one 1), .inl (ck_one 18)], ([], [], []), (zl173, []), [(.inr none, 249, ([], [], []))])
set_option maxRecDepth 100000 in
theorem pl_s561_s {X : Int → Int} {LX : Nat} : ck_Ok p2_OL X LX 45 pl_s561 := ck_ok_s (O := p2_OL) (X := X) (LX := LX) (E := []) (mi := 45) (cuts := []) (f := 116) (S := pl_s561) (lx := none) (XF := []) ⟨pl_nmu, ck_E0⟩ ck_X0 ck_l0 (by decide +kernel)
set_option maxRecDepth 100000 in
/-- GlacierMail$Rows.put -/
noncomputable def pl_s562 : ck_Sum := ((0, 0, 0), 249, [.inr (.inr (.inl 14)), .inl (ck_one (-1)), .inl (ck_one 1), .inl (ck_one 18)], ([], [], []), ([], []), [(.inr none, 249, ([], [], []))])
set_option maxRecDepth 100000 in
theorem pl_s562_s {X : Int → Int} {LX : Nat} : ck_Ok p2_OL X LX 45 pl_s562 := ck_ok_s (O := p2_OL) (X := X) (LX := LX) (E := []) (mi := 45) (cuts := []) (f := 76) (S := pl_s562) (lx := none) (XF := []) ⟨pl_nmu, ck_E0⟩ ck_X0 ck_l0 (by decide +kernel)
set_option maxRecDepth 100000 in
/-- GlacierMail$State.openLetter -/
noncomputable def pl_s563 : ck_Sum := ((1, 0, 0), 249, [.inr (.inr (.inl 3)), .inl (ck_one 18), .inl ((-1), 299, [])], ([], [], [(3, 6, 6, (0, 299, [(10, 0)]))]), ([(11, 131, 132), (14, 3, 3), (15, 0, 71)], []), [(.inr none, 249, ([], [], [(14, 3, 3, (1, 24, []))]))])
set_option maxRecDepth 100000 in
theorem pl_s563_s {X : Int → Int} {LX : Nat} : ck_Ok p2_OL X LX 159 pl_s563 := ck_ok_s (O := p2_OL) (X := X) (LX := LX) (E := [(45, [pl_s559, pl_s560, pl_s376, pl_s561, pl_s378, pl_s379, pl_s562, pl_s381]), (102, [pl_s382])]) (mi := 159) (cuts := []) (f := 144) (S := pl_s563) (lx := none) (XF := []) ⟨pl_nmu, ck_E1 (ck_S1 pl_s559_s (ck_S1 pl_s560_s (ck_S1 pl_s376_s (ck_S1 pl_s561_s (ck_S1 pl_s378_s (ck_S1 pl_s379_s (ck_S1 pl_s562_s (ck_S1 pl_s381_s ck_S0)))))))) (ck_E1 (ck_S1 pl_s382_s ck_S0) ck_E0)⟩ ck_X0 ck_l0 (by decide +kernel)
set_option maxRecDepth 100000 in
/-- GlacierMail.open -/
noncomputable def pl_s564 : ck_Sum := ((8, 2, 12), 249, [.inr (.inr (.inl 1)), .inl (ck_one 18)], ([], zl230, [(3, 6, 6, (0, 299, [(10, 0)]))]), ([(1, 15, 15), (11, 131, 132), (14, 3, 3), (15, 0, 71), (42, 1, 2), (44, 0, 7), (45, 3, 3), (46, 0, 55), (47, 3, 3), (48, 0, 23), (49, 3, 3), (50, 0, 23), (51, 3, 3), (52, 0, 167), (53, 3, 3), (54, 0, 35), (55, 3, 3), (56, 0, 71), (57, 0, 7), (58, 3, 3), (59, 0, 55), (60, 3, 3), (61, 0, 23), (62, 3, 3), (63, 0, 23), (64, 3, 3), (65, 0, 167), (66, 3, 3), (67, 0, 35), (68, 3, 3), (69, 0, 71), (70, 0, 7), (71, 3, 3), (72, 0, 55), (73, 3, 3), (74, 0, 23), (75, 3, 3), (76, 0, 23), (77, 3, 3), (78, 0, 167), (79, 3, 3), (80, 0, 35), (81, 3, 3), (82, 0, 71), (83, 0, 7), (84, 3, 3), (85, 0, 55), (86, 3, 3), (87, 0, 23), (88, 3, 3), (89, 0, 23), (90, 3, 3), (91, 0, 167), (92, 3, 3), (93, 0, 35), (94, 3, 3), (95, 0, 71), (96, 0, 7), (97, 3, 3), (98, 0, 55), (99, 3, 3), (100, 0, 23), (101, 3, 3), (102, 0, 23), (103, 3, 3), (104, 0, 167), (105, 3, 3), (106, 0, 35), (107, 3, 3), (108, 0, 71), (109, 0, 7), (110, 3, 3), (111, 0, 55), (112, 3, 3), (113, 0, 23), (114, 3, 3), (115, 0, 23), (116, 3, 3), (117, 0, 167), (118, 3, 3), (119, 0, 35), (120, 3, 3), (121, 0, 71), (122, 0, 7), (123, 3, 3), (124, 0, 55), (125, 3, 3), (126, 0, 23), (127, 3, 3), (128, 0, 23), (129, 3, 3), (130, 0, 167), (131, 3, 3), (132, 0, 35), (133, 3, 3), (134, 0, 71), (135, 0, 7), (136, 3, 3), (137, 0, 55), (138, 3, 3), (139, 0, 23), (140, 3, 3), (141, 0, 23), (142, 3, 3), (143, 0, 167), (144, 3, 3), (145, 0, 35), (146, 3, 3), (147, 0, 71), (148, 0, 7), (149, 3, 3), (150, 0, 55), (151, 3, 3), (152, 0, 23), (153, 3, 3), (154, 0, 23), (155, 3, 3), (156, 0, 167), (157, 3, 3), (158, 0, 35), (159, 3, 3), (160, 0, 71), (161, 0, 7), (162, 3, 3), (163, 0, 55), (164, 3, 3), (165, 0, 23), (166, 3, 3), (167, 0, 23), (168, 3, 3), (169, 0, 167), (170, 3, 3), (171, 0, 35), (172, 3, 3), (173, 0, 71), (174, 0, 7), (175, 3, 3), (176, 0, 55), (177, 3, 3), (178, 0, 23), (179, 3, 3), (180, 0, 23), (181, 3, 3), (182, 0, 167), (183, 3, 3), (184, 0, 35), (185, 3, 3), (186, 0, 71), (187, 0, 7), (188, 3, 3), (189, 0, 55), (190, 3, 3), (191, 0, 23), (192, 3, 3), (193, 0, 23), (194, 3, 3), (195, 0, 167), (196, 3, 3), (197, 0, 35), (198, 3, 3), (199, 0, 71), (200, 6, 6), (204, 0, 9), (205, 0, 14849), (206, 2, 8), (220, 3, 3), (221, 0, 47)], zl104), zl245)
set_option maxRecDepth 100000 in
theorem pl_s564_s {X : Int → Int} {LX : Nat} : ck_Ok p2_OL X LX 158 pl_s564 := ck_ok_s (O := p2_OL) (X := X) (LX := LX) (E := [(143, [pl_s556]), (24, [pl_s217]), (66, [pl_s558]), (154, [pl_s341]), (10, [pl_s204]), (159, [pl_s563])]) (mi := 158) (cuts := []) (f := 140) (S := pl_s564) (lx := none) (XF := []) ⟨pl_nmu, ck_E1 (ck_S1 pl_s556_s ck_S0) (ck_E1 (ck_S1 pl_s217_s ck_S0) (ck_E1 (ck_S1 pl_s558_s ck_S0) (ck_E1 (ck_S1 pl_s341_s ck_S0) (ck_E1 (ck_S1 pl_s204_s ck_S0) (ck_E1 (ck_S1 pl_s563_s ck_S0) ck_E0)))))⟩ ck_X0 ck_l0 (by decide +kernel)
set_option maxRecDepth 100000 in
/-- GlacierMail.need -/
noncomputable def pl_s565 : ck_Sum := ((6, 1, 6), 249, [.inr (.inr (.inl 1)), .inl (ck_one 19), .inl (0, 24, [])], ([], [], []), ([], []), [(.inr none, 249, ([], [], [])), (.inl 3, 249, ([], [], []))])
set_option maxRecDepth 100000 in
theorem pl_s565_s {X : Int → Int} {LX : Nat} : ck_Ok p2_OL X LX 133 pl_s565 := ck_ok_s (O := p2_OL) (X := X) (LX := LX) (E := []) (mi := 133) (cuts := []) (f := 82) (S := pl_s565) (lx := none) (XF := []) ⟨pl_nmu, ck_E0⟩ ck_X0 ck_l0 (by decide +kernel)
set_option maxRecDepth 100000 in
/-- GlacierMail.needLetter -/
noncomputable def pl_s566 : ck_Sum := ((7, 1, 6), 249, [.inr (.inr (.inl 1)), .inl (ck_one 19)], ([], [], []), ([], []), [(.inl 3, 249, ([], [], [])), (.inr none, 249, ([], [], []))])
set_option maxRecDepth 100000 in
theorem pl_s566_s {X : Int → Int} {LX : Nat} : ck_Ok p2_OL X LX 143 pl_s566 := ck_ok_s (O := p2_OL) (X := X) (LX := LX) (E := [(9, [pl_s200]), (133, [pl_s565])]) (mi := 143) (cuts := []) (f := 86) (S := pl_s566) (lx := none) (XF := []) ⟨pl_nmu, ck_E1 (ck_S1 pl_s200_s ck_S0) (ck_E1 (ck_S1 pl_s565_s ck_S0) ck_E0)⟩ ck_X0 ck_l0 (by decide +kernel)
set_option maxRecDepth 100000 in
/-- GlacierMail$State.isRock -/
noncomputable def pl_s567 : ck_Sum := ((1, 0, 0), 249, [.inr (.inr (.inl 3)), .inl (ck_one 19)], ([], [], []), ([], []), [(.inr (some (.inl (ck_one 0))), 249, ([], [], [])), (.inr (some (.inl (ck_one 1))), 249, ([], [], []))])
set_option maxRecDepth 100000 in
theorem pl_s567_s {X : Int → Int} {LX : Nat} : ck_Ok p2_OL X LX 28 pl_s567 := ck_ok_s (O := p2_OL) (X := X) (LX := LX) (E := [(10, [pl_s204])]) (mi := 28) (cuts := []) (f := 90) (S := pl_s567) (lx := none) (XF := []) ⟨pl_nmu, ck_E1 (ck_S1 pl_s204_s ck_S0) ck_E0⟩ ck_X0 ck_l0 (by decide +kernel)
set_option maxRecDepth 100000 in
/-- GlacierMail.waits -/
noncomputable def pl_s568 : ck_Sum := ((2, 0, 0), 249, [.inr (.inr (.inl 1)), .inl (ck_one 19)], ([], [], [(3, 6, 6, (0, 299, [(10, 0)]))]), ([], []), [(.inr (some (.inl (ck_one 0))), 249, ([], [], [])), (.inr (some (.inl (ck_one 1))), 249, ([], [], []))])
set_option maxRecDepth 100000 in
theorem pl_s568_s {X : Int → Int} {LX : Nat} : ck_Ok p2_OL X LX 66 pl_s568 := ck_ok_s (O := p2_OL) (X := X) (LX := LX) (E := [(28, [pl_s567]), (10, [pl_s204, pl_s218]), (67, [pl_s219])]) (mi := 66) (cuts := []) (f := 134) (S := pl_s568) (lx := none) (XF := []) ⟨pl_nmu, ck_E1 (ck_S1 pl_s567_s ck_S0) (ck_E1 (ck_S1 pl_s204_s (ck_S1 pl_s218_s ck_S0)) (ck_E1 (ck_S1 pl_s219_s ck_S0) ck_E0))⟩ ck_X0 ck_l0 (by decide +kernel)
set_option maxRecDepth 100000 in
/-- GlacierMail$Rows.put -/
noncomputable def pl_s569 : ck_Sum := ((0, 0, 0), 249, [.inr (.inr (.inl 10)), .inl (ck_one 19), .inl (ck_one 5), .inl ((-1), 299, [])], ([], [], []), ([(11, 138, 138)], []), [(.inr none, 249, ([], [], []))])
set_option maxRecDepth 100000 in
theorem pl_s569_s {X : Int → Int} {LX : Nat} : ck_Ok p2_OL X LX 45 pl_s569 := ck_ok_s (O := p2_OL) (X := X) (LX := LX) (E := []) (mi := 45) (cuts := []) (f := 116) (S := pl_s569) (lx := none) (XF := []) ⟨pl_nmu, ck_E0⟩ ck_X0 ck_l0 (by decide +kernel)
set_option maxRecDepth 100000 in
/-- GlacierMail$Rows.put -/
noncomputable def pl_s570 : ck_Sum := ((0, 0, 0), 249, [.inr (.inr (.inl 10)), .inl (ck_one 19), .inl (ck_one 6), .inl (0, 299, [])], ([], [], []), ([(11, 139, 139)], []), [(.inr none, 249, ([], [], []))])
set_option maxRecDepth 100000 in
theorem pl_s570_s {X : Int → Int} {LX : Nat} : ck_Ok p2_OL X LX 45 pl_s570 := ck_ok_s (O := p2_OL) (X := X) (LX := LX) (E := []) (mi := 45) (cuts := []) (f := 116) (S := pl_s570) (lx := none) (XF := []) ⟨pl_nmu, ck_E0⟩ ck_X0 ck_l0 (by decide +kernel)
set_option maxRecDepth 100000 in
/-- GlacierMail$Rows.put -/
noncomputable def pl_s571 : ck_Sum := ((0, 0, 0), 249, [.inr (.inr (.inl 14)), .inl (0, 23, []), .inl (ck_one 1), .inl (ck_one 19)], ([], [], []), (zl173, []), [(.inr none, 249, ([], [], []))])
set_option maxRecDepth 100000 in
theorem pl_s571_s {X : Int → Int} {LX : Nat} : ck_Ok p2_OL X LX 45 pl_s571 := ck_ok_s (O := p2_OL) (X := X) (LX := LX) (E := []) (mi := 45) (cuts := []) (f := 116) (S := pl_s571) (lx := none) (XF := []) ⟨pl_nmu, ck_E0⟩ ck_X0 ck_l0 (by decide +kernel)
set_option maxRecDepth 100000 in
/-- GlacierMail$Rows.put -/
noncomputable def pl_s572 : ck_Sum := ((0, 0, 0), 249, [.inr (.inr (.inl 14)), .inl (ck_one (-1)), .inl (ck_one 1), .inl (ck_one 19)], ([], [], []), ([], []), [(.inr none, 249, ([], [], []))])
set_option maxRecDepth 100000 in
theorem pl_s572_s {X : Int → Int} {LX : Nat} : ck_Ok p2_OL X LX 45 pl_s572 := ck_ok_s (O := p2_OL) (X := X) (LX := LX) (E := []) (mi := 45) (cuts := []) (f := 76) (S := pl_s572) (lx := none) (XF := []) ⟨pl_nmu, ck_E0⟩ ck_X0 ck_l0 (by decide +kernel)
set_option maxRecDepth 100000 in
/-- GlacierMail$State.openLetter -/
noncomputable def pl_s573 : ck_Sum := ((1, 0, 0), 249, [.inr (.inr (.inl 3)), .inl (ck_one 19), .inl ((-1), 299, [])], ([], [], [(3, 6, 6, (0, 299, [(10, 0)]))]), ([(11, 138, 139), (14, 3, 3), (15, 0, 71)], []), [(.inr none, 249, ([], [], [(14, 3, 3, (1, 24, []))]))])
set_option maxRecDepth 100000 in
theorem pl_s573_s {X : Int → Int} {LX : Nat} : ck_Ok p2_OL X LX 159 pl_s573 := ck_ok_s (O := p2_OL) (X := X) (LX := LX) (E := [(45, [pl_s569, pl_s570, pl_s376, pl_s571, pl_s378, pl_s379, pl_s572, pl_s381]), (102, [pl_s382])]) (mi := 159) (cuts := []) (f := 144) (S := pl_s573) (lx := none) (XF := []) ⟨pl_nmu, ck_E1 (ck_S1 pl_s569_s (ck_S1 pl_s570_s (ck_S1 pl_s376_s (ck_S1 pl_s571_s (ck_S1 pl_s378_s (ck_S1 pl_s379_s (ck_S1 pl_s572_s (ck_S1 pl_s381_s ck_S0)))))))) (ck_E1 (ck_S1 pl_s382_s ck_S0) ck_E0)⟩ ck_X0 ck_l0 (by decide +kernel)
set_option maxRecDepth 100000 in
/-- GlacierMail.open -/
noncomputable def pl_s574 : ck_Sum := ((8, 2, 12), 249, [.inr (.inr (.inl 1)), .inl (ck_one 19)], ([], zl230, [(3, 6, 6, (0, 299, [(10, 0)]))]), ([(1, 15, 15), (11, 138, 139), (14, 3, 3), (15, 0, 71), (42, 1, 2), (44, 0, 7), (45, 3, 3), (46, 0, 55), (47, 3, 3), (48, 0, 23), (49, 3, 3), (50, 0, 23), (51, 3, 3), (52, 0, 167), (53, 3, 3), (54, 0, 35), (55, 3, 3), (56, 0, 71), (57, 0, 7), (58, 3, 3), (59, 0, 55), (60, 3, 3), (61, 0, 23), (62, 3, 3), (63, 0, 23), (64, 3, 3), (65, 0, 167), (66, 3, 3), (67, 0, 35), (68, 3, 3), (69, 0, 71), (70, 0, 7), (71, 3, 3), (72, 0, 55), (73, 3, 3), (74, 0, 23), (75, 3, 3), (76, 0, 23), (77, 3, 3), (78, 0, 167), (79, 3, 3), (80, 0, 35), (81, 3, 3), (82, 0, 71), (83, 0, 7), (84, 3, 3), (85, 0, 55), (86, 3, 3), (87, 0, 23), (88, 3, 3), (89, 0, 23), (90, 3, 3), (91, 0, 167), (92, 3, 3), (93, 0, 35), (94, 3, 3), (95, 0, 71), (96, 0, 7), (97, 3, 3), (98, 0, 55), (99, 3, 3), (100, 0, 23), (101, 3, 3), (102, 0, 23), (103, 3, 3), (104, 0, 167), (105, 3, 3), (106, 0, 35), (107, 3, 3), (108, 0, 71), (109, 0, 7), (110, 3, 3), (111, 0, 55), (112, 3, 3), (113, 0, 23), (114, 3, 3), (115, 0, 23), (116, 3, 3), (117, 0, 167), (118, 3, 3), (119, 0, 35), (120, 3, 3), (121, 0, 71), (122, 0, 7), (123, 3, 3), (124, 0, 55), (125, 3, 3), (126, 0, 23), (127, 3, 3), (128, 0, 23), (129, 3, 3), (130, 0, 167), (131, 3, 3), (132, 0, 35), (133, 3, 3), (134, 0, 71), (135, 0, 7), (136, 3, 3), (137, 0, 55), (138, 3, 3), (139, 0, 23), (140, 3, 3), (141, 0, 23), (142, 3, 3), (143, 0, 167), (144, 3, 3), (145, 0, 35), (146, 3, 3), (147, 0, 71), (148, 0, 7), (149, 3, 3), (150, 0, 55), (151, 3, 3), (152, 0, 23), (153, 3, 3), (154, 0, 23), (155, 3, 3), (156, 0, 167), (157, 3, 3), (158, 0, 35), (159, 3, 3), (160, 0, 71), (161, 0, 7), (162, 3, 3), (163, 0, 55), (164, 3, 3), (165, 0, 23), (166, 3, 3), (167, 0, 23), (168, 3, 3), (169, 0, 167), (170, 3, 3), (171, 0, 35), (172, 3, 3), (173, 0, 71), (174, 0, 7), (175, 3, 3), (176, 0, 55), (177, 3, 3), (178, 0, 23), (179, 3, 3), (180, 0, 23), (181, 3, 3), (182, 0, 167), (183, 3, 3), (184, 0, 35), (185, 3, 3), (186, 0, 71), (187, 0, 7), (188, 3, 3), (189, 0, 55), (190, 3, 3), (191, 0, 23), (192, 3, 3), (193, 0, 23), (194, 3, 3), (195, 0, 167), (196, 3, 3), (197, 0, 35), (198, 3, 3), (199, 0, 71), (200, 6, 6), (204, 0, 9), (205, 0, 14849), (206, 2, 8), (220, 3, 3), (221, 0, 47)], zl104), zl245)
set_option maxRecDepth 100000 in
theorem pl_s574_s {X : Int → Int} {LX : Nat} : ck_Ok p2_OL X LX 158 pl_s574 := ck_ok_s (O := p2_OL) (X := X) (LX := LX) (E := [(143, [pl_s566]), (24, [pl_s217]), (66, [pl_s568]), (154, [pl_s341]), (10, [pl_s204]), (159, [pl_s573])]) (mi := 158) (cuts := []) (f := 140) (S := pl_s574) (lx := none) (XF := []) ⟨pl_nmu, ck_E1 (ck_S1 pl_s566_s ck_S0) (ck_E1 (ck_S1 pl_s217_s ck_S0) (ck_E1 (ck_S1 pl_s568_s ck_S0) (ck_E1 (ck_S1 pl_s341_s ck_S0) (ck_E1 (ck_S1 pl_s204_s ck_S0) (ck_E1 (ck_S1 pl_s573_s ck_S0) ck_E0)))))⟩ ck_X0 ck_l0 (by decide +kernel)
set_option maxRecDepth 100000 in
/-- GlacierMail.need -/
noncomputable def pl_s575 : ck_Sum := ((6, 1, 6), 249, [.inr (.inr (.inl 1)), .inl (ck_one 20), .inl (0, 24, [])], ([], [], []), ([], []), [(.inr none, 249, ([], [], [])), (.inl 3, 249, ([], [], []))])
set_option maxRecDepth 100000 in
theorem pl_s575_s {X : Int → Int} {LX : Nat} : ck_Ok p2_OL X LX 133 pl_s575 := ck_ok_s (O := p2_OL) (X := X) (LX := LX) (E := []) (mi := 133) (cuts := []) (f := 82) (S := pl_s575) (lx := none) (XF := []) ⟨pl_nmu, ck_E0⟩ ck_X0 ck_l0 (by decide +kernel)
set_option maxRecDepth 100000 in
/-- GlacierMail.needLetter -/
noncomputable def pl_s576 : ck_Sum := ((7, 1, 6), 249, [.inr (.inr (.inl 1)), .inl (ck_one 20)], ([], [], []), ([], []), [(.inl 3, 249, ([], [], [])), (.inr none, 249, ([], [], []))])
set_option maxRecDepth 100000 in
theorem pl_s576_s {X : Int → Int} {LX : Nat} : ck_Ok p2_OL X LX 143 pl_s576 := ck_ok_s (O := p2_OL) (X := X) (LX := LX) (E := [(9, [pl_s200]), (133, [pl_s575])]) (mi := 143) (cuts := []) (f := 86) (S := pl_s576) (lx := none) (XF := []) ⟨pl_nmu, ck_E1 (ck_S1 pl_s200_s ck_S0) (ck_E1 (ck_S1 pl_s575_s ck_S0) ck_E0)⟩ ck_X0 ck_l0 (by decide +kernel)
set_option maxRecDepth 100000 in
/-- GlacierMail$State.isRock -/
noncomputable def pl_s577 : ck_Sum := ((1, 0, 0), 249, [.inr (.inr (.inl 3)), .inl (ck_one 20)], ([], [], []), ([], []), [(.inr (some (.inl (ck_one 0))), 249, ([], [], [])), (.inr (some (.inl (ck_one 1))), 249, ([], [], []))])
set_option maxRecDepth 100000 in
theorem pl_s577_s {X : Int → Int} {LX : Nat} : ck_Ok p2_OL X LX 28 pl_s577 := ck_ok_s (O := p2_OL) (X := X) (LX := LX) (E := [(10, [pl_s204])]) (mi := 28) (cuts := []) (f := 90) (S := pl_s577) (lx := none) (XF := []) ⟨pl_nmu, ck_E1 (ck_S1 pl_s204_s ck_S0) ck_E0⟩ ck_X0 ck_l0 (by decide +kernel)
set_option maxRecDepth 100000 in
/-- GlacierMail.waits -/
noncomputable def pl_s578 : ck_Sum := ((2, 0, 0), 249, [.inr (.inr (.inl 1)), .inl (ck_one 20)], ([], [], [(3, 6, 6, (0, 299, [(10, 0)]))]), ([], []), [(.inr (some (.inl (ck_one 0))), 249, ([], [], [])), (.inr (some (.inl (ck_one 1))), 249, ([], [], []))])
set_option maxRecDepth 100000 in
theorem pl_s578_s {X : Int → Int} {LX : Nat} : ck_Ok p2_OL X LX 66 pl_s578 := ck_ok_s (O := p2_OL) (X := X) (LX := LX) (E := [(28, [pl_s577]), (10, [pl_s204, pl_s218]), (67, [pl_s219])]) (mi := 66) (cuts := []) (f := 134) (S := pl_s578) (lx := none) (XF := []) ⟨pl_nmu, ck_E1 (ck_S1 pl_s577_s ck_S0) (ck_E1 (ck_S1 pl_s204_s (ck_S1 pl_s218_s ck_S0)) (ck_E1 (ck_S1 pl_s219_s ck_S0) ck_E0))⟩ ck_X0 ck_l0 (by decide +kernel)
set_option maxRecDepth 100000 in
/-- GlacierMail$Rows.put -/
noncomputable def pl_s579 : ck_Sum := ((0, 0, 0), 249, [.inr (.inr (.inl 10)), .inl (ck_one 20), .inl (ck_one 5), .inl ((-1), 299, [])], ([], [], []), ([(11, 145, 145)], []), [(.inr none, 249, ([], [], []))])
set_option maxRecDepth 100000 in
theorem pl_s579_s {X : Int → Int} {LX : Nat} : ck_Ok p2_OL X LX 45 pl_s579 := ck_ok_s (O := p2_OL) (X := X) (LX := LX) (E := []) (mi := 45) (cuts := []) (f := 116) (S := pl_s579) (lx := none) (XF := []) ⟨pl_nmu, ck_E0⟩ ck_X0 ck_l0 (by decide +kernel)
set_option maxRecDepth 100000 in
/-- GlacierMail$Rows.put -/
noncomputable def pl_s580 : ck_Sum := ((0, 0, 0), 249, [.inr (.inr (.inl 10)), .inl (ck_one 20), .inl (ck_one 6), .inl (0, 299, [])], ([], [], []), ([(11, 146, 146)], []), [(.inr none, 249, ([], [], []))])
set_option maxRecDepth 100000 in
theorem pl_s580_s {X : Int → Int} {LX : Nat} : ck_Ok p2_OL X LX 45 pl_s580 := ck_ok_s (O := p2_OL) (X := X) (LX := LX) (E := []) (mi := 45) (cuts := []) (f := 116) (S := pl_s580) (lx := none) (XF := []) ⟨pl_nmu, ck_E0⟩ ck_X0 ck_l0 (by decide +kernel)
set_option maxRecDepth 100000 in
/-- GlacierMail$Rows.put -/
noncomputable def pl_s581 : ck_Sum := ((0, 0, 0), 249, [.inr (.inr (.inl 14)), .inl (0, 23, []), .inl (ck_one 1), .inl (ck_one 20)], ([], [], []), (zl173, []), [(.inr none, 249, ([], [], []))])
set_option maxRecDepth 100000 in
theorem pl_s581_s {X : Int → Int} {LX : Nat} : ck_Ok p2_OL X LX 45 pl_s581 := ck_ok_s (O := p2_OL) (X := X) (LX := LX) (E := []) (mi := 45) (cuts := []) (f := 116) (S := pl_s581) (lx := none) (XF := []) ⟨pl_nmu, ck_E0⟩ ck_X0 ck_l0 (by decide +kernel)
set_option maxRecDepth 100000 in
/-- GlacierMail$Rows.put -/
noncomputable def pl_s582 : ck_Sum := ((0, 0, 0), 249, [.inr (.inr (.inl 14)), .inl (ck_one (-1)), .inl (ck_one 1), .inl (ck_one 20)], ([], [], []), ([], []), [(.inr none, 249, ([], [], []))])
set_option maxRecDepth 100000 in
theorem pl_s582_s {X : Int → Int} {LX : Nat} : ck_Ok p2_OL X LX 45 pl_s582 := ck_ok_s (O := p2_OL) (X := X) (LX := LX) (E := []) (mi := 45) (cuts := []) (f := 76) (S := pl_s582) (lx := none) (XF := []) ⟨pl_nmu, ck_E0⟩ ck_X0 ck_l0 (by decide +kernel)
set_option maxRecDepth 100000 in
/-- GlacierMail$State.openLetter -/
noncomputable def pl_s583 : ck_Sum := ((1, 0, 0), 249, [.inr (.inr (.inl 3)), .inl (ck_one 20), .inl ((-1), 299, [])], ([], [], [(3, 6, 6, (0, 299, [(10, 0)]))]), ([(11, 145, 146), (14, 3, 3), (15, 0, 71)], []), [(.inr none, 249, ([], [], [(14, 3, 3, (1, 24, []))]))])
set_option maxRecDepth 100000 in
theorem pl_s583_s {X : Int → Int} {LX : Nat} : ck_Ok p2_OL X LX 159 pl_s583 := ck_ok_s (O := p2_OL) (X := X) (LX := LX) (E := [(45, [pl_s579, pl_s580, pl_s376, pl_s581, pl_s378, pl_s379, pl_s582, pl_s381]), (102, [pl_s382])]) (mi := 159) (cuts := []) (f := 144) (S := pl_s583) (lx := none) (XF := []) ⟨pl_nmu, ck_E1 (ck_S1 pl_s579_s (ck_S1 pl_s580_s (ck_S1 pl_s376_s (ck_S1 pl_s581_s (ck_S1 pl_s378_s (ck_S1 pl_s379_s (ck_S1 pl_s582_s (ck_S1 pl_s381_s ck_S0)))))))) (ck_E1 (ck_S1 pl_s382_s ck_S0) ck_E0)⟩ ck_X0 ck_l0 (by decide +kernel)
set_option maxRecDepth 100000 in
/-- GlacierMail.open -/
noncomputable def pl_s584 : ck_Sum := ((8, 2, 12), 249, [.inr (.inr (.inl 1)), .inl (ck_one 20)], ([], zl230, [(3, 6, 6, (0, 299, [(10, 0)]))]), ([(1, 15, 15), (11, 145, 146), (14, 3, 3), (15, 0, 71), (42, 1, 2), (44, 0, 7), (45, 3, 3), (46, 0, 55), (47, 3, 3), (48, 0, 23), (49, 3, 3), (50, 0, 23), (51, 3, 3), (52, 0, 167), (53, 3, 3), (54, 0, 35), (55, 3, 3), (56, 0, 71), (57, 0, 7), (58, 3, 3), (59, 0, 55), (60, 3, 3), (61, 0, 23), (62, 3, 3), (63, 0, 23), (64, 3, 3), (65, 0, 167), (66, 3, 3), (67, 0, 35), (68, 3, 3), (69, 0, 71), (70, 0, 7), (71, 3, 3), (72, 0, 55), (73, 3, 3), (74, 0, 23), (75, 3, 3), (76, 0, 23), (77, 3, 3), (78, 0, 167), (79, 3, 3), (80, 0, 35), (81, 3, 3), (82, 0, 71), (83, 0, 7), (84, 3, 3), (85, 0, 55), (86, 3, 3), (87, 0, 23), (88, 3, 3), (89, 0, 23), (90, 3, 3), (91, 0, 167), (92, 3, 3), (93, 0, 35), (94, 3, 3), (95, 0, 71), (96, 0, 7), (97, 3, 3), (98, 0, 55), (99, 3, 3), (100, 0, 23), (101, 3, 3), (102, 0, 23), (103, 3, 3), (104, 0, 167), (105, 3, 3), (106, 0, 35), (107, 3, 3), (108, 0, 71), (109, 0, 7), (110, 3, 3), (111, 0, 55), (112, 3, 3), (113, 0, 23), (114, 3, 3), (115, 0, 23), (116, 3, 3), (117, 0, 167), (118, 3, 3), (119, 0, 35), (120, 3, 3), (121, 0, 71), (122, 0, 7), (123, 3, 3), (124, 0, 55), (125, 3, 3), (126, 0, 23), (127, 3, 3), (128, 0, 23), (129, 3, 3), (130, 0, 167), (131, 3, 3), (132, 0, 35), (133, 3, 3), (134, 0, 71), (135, 0, 7), (136, 3, 3), (137, 0, 55), (138, 3, 3), (139, 0, 23), (140, 3, 3), (141, 0, 23), (142, 3, 3), (143, 0, 167), (144, 3, 3), (145, 0, 35), (146, 3, 3), (147, 0, 71), (148, 0, 7), (149, 3, 3), (150, 0, 55), (151, 3, 3), (152, 0, 23), (153, 3, 3), (154, 0, 23), (155, 3, 3), (156, 0, 167), (157, 3, 3), (158, 0, 35), (159, 3, 3), (160, 0, 71), (161, 0, 7), (162, 3, 3), (163, 0, 55), (164, 3, 3), (165, 0, 23), (166, 3, 3), (167, 0, 23), (168, 3, 3), (169, 0, 167), (170, 3, 3), (171, 0, 35), (172, 3, 3), (173, 0, 71), (174, 0, 7), (175, 3, 3), (176, 0, 55), (177, 3, 3), (178, 0, 23), (179, 3, 3), (180, 0, 23), (181, 3, 3), (182, 0, 167), (183, 3, 3), (184, 0, 35), (185, 3, 3), (186, 0, 71), (187, 0, 7), (188, 3, 3), (189, 0, 55), (190, 3, 3), (191, 0, 23), (192, 3, 3), (193, 0, 23), (194, 3, 3), (195, 0, 167), (196, 3, 3), (197, 0, 35), (198, 3, 3), (199, 0, 71), (200, 6, 6), (204, 0, 9), (205, 0, 14849), (206, 2, 8), (220, 3, 3), (221, 0, 47)], zl104), zl245)
set_option maxRecDepth 100000 in
theorem pl_s584_s {X : Int → Int} {LX : Nat} : ck_Ok p2_OL X LX 158 pl_s584 := ck_ok_s (O := p2_OL) (X := X) (LX := LX) (E := [(143, [pl_s576]), (24, [pl_s217]), (66, [pl_s578]), (154, [pl_s341]), (10, [pl_s204]), (159, [pl_s583])]) (mi := 158) (cuts := []) (f := 140) (S := pl_s584) (lx := none) (XF := []) ⟨pl_nmu, ck_E1 (ck_S1 pl_s576_s ck_S0) (ck_E1 (ck_S1 pl_s217_s ck_S0) (ck_E1 (ck_S1 pl_s578_s ck_S0) (ck_E1 (ck_S1 pl_s341_s ck_S0) (ck_E1 (ck_S1 pl_s204_s ck_S0) (ck_E1 (ck_S1 pl_s583_s ck_S0) ck_E0)))))⟩ ck_X0 ck_l0 (by decide +kernel)
set_option maxRecDepth 100000 in
/-- GlacierMail.need -/
noncomputable def pl_s585 : ck_Sum := ((6, 1, 6), 249, [.inr (.inr (.inl 1)), .inl (ck_one 21), .inl (0, 24, [])], ([], [], []), ([], []), [(.inr none, 249, ([], [], [])), (.inl 3, 249, ([], [], []))])
set_option maxRecDepth 100000 in
theorem pl_s585_s {X : Int → Int} {LX : Nat} : ck_Ok p2_OL X LX 133 pl_s585 := ck_ok_s (O := p2_OL) (X := X) (LX := LX) (E := []) (mi := 133) (cuts := []) (f := 82) (S := pl_s585) (lx := none) (XF := []) ⟨pl_nmu, ck_E0⟩ ck_X0 ck_l0 (by decide +kernel)
set_option maxRecDepth 100000 in
/-- GlacierMail.needLetter -/
noncomputable def pl_s586 : ck_Sum := ((7, 1, 6), 249, [.inr (.inr (.inl 1)), .inl (ck_one 21)], ([], [], []), ([], []), [(.inl 3, 249, ([], [], [])), (.inr none, 249, ([], [], []))])
set_option maxRecDepth 100000 in
theorem pl_s586_s {X : Int → Int} {LX : Nat} : ck_Ok p2_OL X LX 143 pl_s586 := ck_ok_s (O := p2_OL) (X := X) (LX := LX) (E := [(9, [pl_s200]), (133, [pl_s585])]) (mi := 143) (cuts := []) (f := 86) (S := pl_s586) (lx := none) (XF := []) ⟨pl_nmu, ck_E1 (ck_S1 pl_s200_s ck_S0) (ck_E1 (ck_S1 pl_s585_s ck_S0) ck_E0)⟩ ck_X0 ck_l0 (by decide +kernel)
set_option maxRecDepth 100000 in
/-- GlacierMail$State.isRock -/
noncomputable def pl_s587 : ck_Sum := ((1, 0, 0), 249, [.inr (.inr (.inl 3)), .inl (ck_one 21)], ([], [], []), ([], []), [(.inr (some (.inl (ck_one 0))), 249, ([], [], [])), (.inr (some (.inl (ck_one 1))), 249, ([], [], []))])
set_option maxRecDepth 100000 in
theorem pl_s587_s {X : Int → Int} {LX : Nat} : ck_Ok p2_OL X LX 28 pl_s587 := ck_ok_s (O := p2_OL) (X := X) (LX := LX) (E := [(10, [pl_s204])]) (mi := 28) (cuts := []) (f := 90) (S := pl_s587) (lx := none) (XF := []) ⟨pl_nmu, ck_E1 (ck_S1 pl_s204_s ck_S0) ck_E0⟩ ck_X0 ck_l0 (by decide +kernel)
set_option maxRecDepth 100000 in
/-- GlacierMail.waits -/
noncomputable def pl_s588 : ck_Sum := ((2, 0, 0), 249, [.inr (.inr (.inl 1)), .inl (ck_one 21)], ([], [], [(3, 6, 6, (0, 299, [(10, 0)]))]), ([], []), [(.inr (some (.inl (ck_one 0))), 249, ([], [], [])), (.inr (some (.inl (ck_one 1))), 249, ([], [], []))])
set_option maxRecDepth 100000 in
theorem pl_s588_s {X : Int → Int} {LX : Nat} : ck_Ok p2_OL X LX 66 pl_s588 := ck_ok_s (O := p2_OL) (X := X) (LX := LX) (E := [(28, [pl_s587]), (10, [pl_s204, pl_s218]), (67, [pl_s219])]) (mi := 66) (cuts := []) (f := 134) (S := pl_s588) (lx := none) (XF := []) ⟨pl_nmu, ck_E1 (ck_S1 pl_s587_s ck_S0) (ck_E1 (ck_S1 pl_s204_s (ck_S1 pl_s218_s ck_S0)) (ck_E1 (ck_S1 pl_s219_s ck_S0) ck_E0))⟩ ck_X0 ck_l0 (by decide +kernel)
set_option maxRecDepth 100000 in
/-- GlacierMail$Rows.put -/
noncomputable def pl_s589 : ck_Sum := ((0, 0, 0), 249, [.inr (.inr (.inl 10)), .inl (ck_one 21), .inl (ck_one 5), .inl ((-1), 299, [])], ([], [], []), ([(11, 152, 152)], []), [(.inr none, 249, ([], [], []))])
set_option maxRecDepth 100000 in
theorem pl_s589_s {X : Int → Int} {LX : Nat} : ck_Ok p2_OL X LX 45 pl_s589 := ck_ok_s (O := p2_OL) (X := X) (LX := LX) (E := []) (mi := 45) (cuts := []) (f := 116) (S := pl_s589) (lx := none) (XF := []) ⟨pl_nmu, ck_E0⟩ ck_X0 ck_l0 (by decide +kernel)
set_option maxRecDepth 100000 in
/-- GlacierMail$Rows.put -/
noncomputable def pl_s590 : ck_Sum := ((0, 0, 0), 249, [.inr (.inr (.inl 10)), .inl (ck_one 21), .inl (ck_one 6), .inl (0, 299, [])], ([], [], []), ([(11, 153, 153)], []), [(.inr none, 249, ([], [], []))])
set_option maxRecDepth 100000 in
theorem pl_s590_s {X : Int → Int} {LX : Nat} : ck_Ok p2_OL X LX 45 pl_s590 := ck_ok_s (O := p2_OL) (X := X) (LX := LX) (E := []) (mi := 45) (cuts := []) (f := 116) (S := pl_s590) (lx := none) (XF := []) ⟨pl_nmu, ck_E0⟩ ck_X0 ck_l0 (by decide +kernel)
set_option maxRecDepth 100000 in
/-- GlacierMail$Rows.put -/
noncomputable def pl_s591 : ck_Sum := ((0, 0, 0), 249, [.inr (.inr (.inl 14)), .inl (0, 23, []), .inl (ck_one 1), .inl (ck_one 21)], ([], [], []), (zl173, []), [(.inr none, 249, ([], [], []))])
set_option maxRecDepth 100000 in
theorem pl_s591_s {X : Int → Int} {LX : Nat} : ck_Ok p2_OL X LX 45 pl_s591 := ck_ok_s (O := p2_OL) (X := X) (LX := LX) (E := []) (mi := 45) (cuts := []) (f := 116) (S := pl_s591) (lx := none) (XF := []) ⟨pl_nmu, ck_E0⟩ ck_X0 ck_l0 (by decide +kernel)
set_option maxRecDepth 100000 in
/-- GlacierMail$Rows.put -/
noncomputable def pl_s592 : ck_Sum := ((0, 0, 0), 249, [.inr (.inr (.inl 14)), .inl (ck_one (-1)), .inl (ck_one 1), .inl (ck_one 21)], ([], [], []), ([], []), [(.inr none, 249, ([], [], []))])
set_option maxRecDepth 100000 in
theorem pl_s592_s {X : Int → Int} {LX : Nat} : ck_Ok p2_OL X LX 45 pl_s592 := ck_ok_s (O := p2_OL) (X := X) (LX := LX) (E := []) (mi := 45) (cuts := []) (f := 76) (S := pl_s592) (lx := none) (XF := []) ⟨pl_nmu, ck_E0⟩ ck_X0 ck_l0 (by decide +kernel)
set_option maxRecDepth 100000 in
/-- GlacierMail$State.openLetter -/
noncomputable def pl_s593 : ck_Sum := ((1, 0, 0), 249, [.inr (.inr (.inl 3)), .inl (ck_one 21), .inl ((-1), 299, [])], ([], [], [(3, 6, 6, (0, 299, [(10, 0)]))]), ([(11, 152, 153), (14, 3, 3), (15, 0, 71)], []), [(.inr none, 249, ([], [], [(14, 3, 3, (1, 24, []))]))])
set_option maxRecDepth 100000 in
theorem pl_s593_s {X : Int → Int} {LX : Nat} : ck_Ok p2_OL X LX 159 pl_s593 := ck_ok_s (O := p2_OL) (X := X) (LX := LX) (E := [(45, [pl_s589, pl_s590, pl_s376, pl_s591, pl_s378, pl_s379, pl_s592, pl_s381]), (102, [pl_s382])]) (mi := 159) (cuts := []) (f := 144) (S := pl_s593) (lx := none) (XF := []) ⟨pl_nmu, ck_E1 (ck_S1 pl_s589_s (ck_S1 pl_s590_s (ck_S1 pl_s376_s (ck_S1 pl_s591_s (ck_S1 pl_s378_s (ck_S1 pl_s379_s (ck_S1 pl_s592_s (ck_S1 pl_s381_s ck_S0)))))))) (ck_E1 (ck_S1 pl_s382_s ck_S0) ck_E0)⟩ ck_X0 ck_l0 (by decide +kernel)
set_option maxRecDepth 100000 in
/-- GlacierMail.open -/
noncomputable def pl_s594 : ck_Sum := ((8, 2, 12), 249, [.inr (.inr (.inl 1)), .inl (ck_one 21)], ([], zl230, [(3, 6, 6, (0, 299, [(10, 0)]))]), ([(1, 15, 15), (11, 152, 153), (14, 3, 3), (15, 0, 71), (42, 1, 2), (44, 0, 7), (45, 3, 3), (46, 0, 55), (47, 3, 3), (48, 0, 23), (49, 3, 3), (50, 0, 23), (51, 3, 3), (52, 0, 167), (53, 3, 3), (54, 0, 35), (55, 3, 3), (56, 0, 71), (57, 0, 7), (58, 3, 3), (59, 0, 55), (60, 3, 3), (61, 0, 23), (62, 3, 3), (63, 0, 23), (64, 3, 3), (65, 0, 167), (66, 3, 3), (67, 0, 35), (68, 3, 3), (69, 0, 71), (70, 0, 7), (71, 3, 3), (72, 0, 55), (73, 3, 3), (74, 0, 23), (75, 3, 3), (76, 0, 23), (77, 3, 3), (78, 0, 167), (79, 3, 3), (80, 0, 35), (81, 3, 3), (82, 0, 71), (83, 0, 7), (84, 3, 3), (85, 0, 55), (86, 3, 3), (87, 0, 23), (88, 3, 3), (89, 0, 23), (90, 3, 3), (91, 0, 167), (92, 3, 3), (93, 0, 35), (94, 3, 3), (95, 0, 71), (96, 0, 7), (97, 3, 3), (98, 0, 55), (99, 3, 3), (100, 0, 23), (101, 3, 3), (102, 0, 23), (103, 3, 3), (104, 0, 167), (105, 3, 3), (106, 0, 35), (107, 3, 3), (108, 0, 71), (109, 0, 7), (110, 3, 3), (111, 0, 55), (112, 3, 3), (113, 0, 23), (114, 3, 3), (115, 0, 23), (116, 3, 3), (117, 0, 167), (118, 3, 3), (119, 0, 35), (120, 3, 3), (121, 0, 71), (122, 0, 7), (123, 3, 3), (124, 0, 55), (125, 3, 3), (126, 0, 23), (127, 3, 3), (128, 0, 23), (129, 3, 3), (130, 0, 167), (131, 3, 3), (132, 0, 35), (133, 3, 3), (134, 0, 71), (135, 0, 7), (136, 3, 3), (137, 0, 55), (138, 3, 3), (139, 0, 23), (140, 3, 3), (141, 0, 23), (142, 3, 3), (143, 0, 167), (144, 3, 3), (145, 0, 35), (146, 3, 3), (147, 0, 71), (148, 0, 7), (149, 3, 3), (150, 0, 55), (151, 3, 3), (152, 0, 23), (153, 3, 3), (154, 0, 23), (155, 3, 3), (156, 0, 167), (157, 3, 3), (158, 0, 35), (159, 3, 3), (160, 0, 71), (161, 0, 7), (162, 3, 3), (163, 0, 55), (164, 3, 3), (165, 0, 23), (166, 3, 3), (167, 0, 23), (168, 3, 3), (169, 0, 167), (170, 3, 3), (171, 0, 35), (172, 3, 3), (173, 0, 71), (174, 0, 7), (175, 3, 3), (176, 0, 55), (177, 3, 3), (178, 0, 23), (179, 3, 3), (180, 0, 23), (181, 3, 3), (182, 0, 167), (183, 3, 3), (184, 0, 35), (185, 3, 3), (186, 0, 71), (187, 0, 7), (188, 3, 3), (189, 0, 55), (190, 3, 3), (191, 0, 23), (192, 3, 3), (193, 0, 23), (194, 3, 3), (195, 0, 167), (196, 3, 3), (197, 0, 35), (198, 3, 3), (199, 0, 71), (200, 6, 6), (204, 0, 9), (205, 0, 14849), (206, 2, 8), (220, 3, 3), (221, 0, 47)], zl104), zl245)
set_option maxRecDepth 100000 in
theorem pl_s594_s {X : Int → Int} {LX : Nat} : ck_Ok p2_OL X LX 158 pl_s594 := ck_ok_s (O := p2_OL) (X := X) (LX := LX) (E := [(143, [pl_s586]), (24, [pl_s217]), (66, [pl_s588]), (154, [pl_s341]), (10, [pl_s204]), (159, [pl_s593])]) (mi := 158) (cuts := []) (f := 140) (S := pl_s594) (lx := none) (XF := []) ⟨pl_nmu, ck_E1 (ck_S1 pl_s586_s ck_S0) (ck_E1 (ck_S1 pl_s217_s ck_S0) (ck_E1 (ck_S1 pl_s588_s ck_S0) (ck_E1 (ck_S1 pl_s341_s ck_S0) (ck_E1 (ck_S1 pl_s204_s ck_S0) (ck_E1 (ck_S1 pl_s593_s ck_S0) ck_E0)))))⟩ ck_X0 ck_l0 (by decide +kernel)
set_option maxRecDepth 100000 in
/-- GlacierMail.need -/
noncomputable def pl_s595 : ck_Sum := ((6, 1, 6), 249, [.inr (.inr (.inl 1)), .inl (ck_one 22), .inl (0, 24, [])], ([], [], []), ([], []), [(.inr none, 249, ([], [], [])), (.inl 3, 249, ([], [], []))])
set_option maxRecDepth 100000 in
theorem pl_s595_s {X : Int → Int} {LX : Nat} : ck_Ok p2_OL X LX 133 pl_s595 := ck_ok_s (O := p2_OL) (X := X) (LX := LX) (E := []) (mi := 133) (cuts := []) (f := 82) (S := pl_s595) (lx := none) (XF := []) ⟨pl_nmu, ck_E0⟩ ck_X0 ck_l0 (by decide +kernel)
set_option maxRecDepth 100000 in
/-- GlacierMail.needLetter -/
noncomputable def pl_s596 : ck_Sum := ((7, 1, 6), 249, [.inr (.inr (.inl 1)), .inl (ck_one 22)], ([], [], []), ([], []), [(.inl 3, 249, ([], [], [])), (.inr none, 249, ([], [], []))])
set_option maxRecDepth 100000 in
theorem pl_s596_s {X : Int → Int} {LX : Nat} : ck_Ok p2_OL X LX 143 pl_s596 := ck_ok_s (O := p2_OL) (X := X) (LX := LX) (E := [(9, [pl_s200]), (133, [pl_s595])]) (mi := 143) (cuts := []) (f := 86) (S := pl_s596) (lx := none) (XF := []) ⟨pl_nmu, ck_E1 (ck_S1 pl_s200_s ck_S0) (ck_E1 (ck_S1 pl_s595_s ck_S0) ck_E0)⟩ ck_X0 ck_l0 (by decide +kernel)
set_option maxRecDepth 100000 in
/-- GlacierMail$State.isRock -/
noncomputable def pl_s597 : ck_Sum := ((1, 0, 0), 249, [.inr (.inr (.inl 3)), .inl (ck_one 22)], ([], [], []), ([], []), [(.inr (some (.inl (ck_one 0))), 249, ([], [], [])), (.inr (some (.inl (ck_one 1))), 249, ([], [], []))])
set_option maxRecDepth 100000 in
theorem pl_s597_s {X : Int → Int} {LX : Nat} : ck_Ok p2_OL X LX 28 pl_s597 := ck_ok_s (O := p2_OL) (X := X) (LX := LX) (E := [(10, [pl_s204])]) (mi := 28) (cuts := []) (f := 90) (S := pl_s597) (lx := none) (XF := []) ⟨pl_nmu, ck_E1 (ck_S1 pl_s204_s ck_S0) ck_E0⟩ ck_X0 ck_l0 (by decide +kernel)
set_option maxRecDepth 100000 in
/-- GlacierMail.waits -/
noncomputable def pl_s598 : ck_Sum := ((2, 0, 0), 249, [.inr (.inr (.inl 1)), .inl (ck_one 22)], ([], [], [(3, 6, 6, (0, 299, [(10, 0)]))]), ([], []), [(.inr (some (.inl (ck_one 0))), 249, ([], [], [])), (.inr (some (.inl (ck_one 1))), 249, ([], [], []))])
set_option maxRecDepth 100000 in
theorem pl_s598_s {X : Int → Int} {LX : Nat} : ck_Ok p2_OL X LX 66 pl_s598 := ck_ok_s (O := p2_OL) (X := X) (LX := LX) (E := [(28, [pl_s597]), (10, [pl_s204, pl_s218]), (67, [pl_s219])]) (mi := 66) (cuts := []) (f := 134) (S := pl_s598) (lx := none) (XF := []) ⟨pl_nmu, ck_E1 (ck_S1 pl_s597_s ck_S0) (ck_E1 (ck_S1 pl_s204_s (ck_S1 pl_s218_s ck_S0)) (ck_E1 (ck_S1 pl_s219_s ck_S0) ck_E0))⟩ ck_X0 ck_l0 (by decide +kernel)
set_option maxRecDepth 100000 in
/-- GlacierMail$Rows.put -/
noncomputable def pl_s599 : ck_Sum := ((0, 0, 0), 249, [.inr (.inr (.inl 10)), .inl (ck_one 22), .inl (ck_one 5), .inl ((-1), 299, [])], ([], [], []), ([(11, 159, 159)], []), [(.inr none, 249, ([], [], []))])
set_option maxRecDepth 100000 in
theorem pl_s599_s {X : Int → Int} {LX : Nat} : ck_Ok p2_OL X LX 45 pl_s599 := ck_ok_s (O := p2_OL) (X := X) (LX := LX) (E := []) (mi := 45) (cuts := []) (f := 116) (S := pl_s599) (lx := none) (XF := []) ⟨pl_nmu, ck_E0⟩ ck_X0 ck_l0 (by decide +kernel)
set_option maxRecDepth 100000 in
/-- GlacierMail$Rows.put -/
noncomputable def pl_s600 : ck_Sum := ((0, 0, 0), 249, [.inr (.inr (.inl 10)), .inl (ck_one 22), .inl (ck_one 6), .inl (0, 299, [])], ([], [], []), ([(11, 160, 160)], []), [(.inr none, 249, ([], [], []))])
set_option maxRecDepth 100000 in
theorem pl_s600_s {X : Int → Int} {LX : Nat} : ck_Ok p2_OL X LX 45 pl_s600 := ck_ok_s (O := p2_OL) (X := X) (LX := LX) (E := []) (mi := 45) (cuts := []) (f := 116) (S := pl_s600) (lx := none) (XF := []) ⟨pl_nmu, ck_E0⟩ ck_X0 ck_l0 (by decide +kernel)
set_option maxRecDepth 100000 in
/-- GlacierMail$Rows.put -/
noncomputable def pl_s601 : ck_Sum := ((0, 0, 0), 249, [.inr (.inr (.inl 14)), .inl (0, 23, []), .inl (ck_one 1), .inl (ck_one 22)], ([], [], []), (zl173, []), [(.inr none, 249, ([], [], []))])
set_option maxRecDepth 100000 in
theorem pl_s601_s {X : Int → Int} {LX : Nat} : ck_Ok p2_OL X LX 45 pl_s601 := ck_ok_s (O := p2_OL) (X := X) (LX := LX) (E := []) (mi := 45) (cuts := []) (f := 116) (S := pl_s601) (lx := none) (XF := []) ⟨pl_nmu, ck_E0⟩ ck_X0 ck_l0 (by decide +kernel)
set_option maxRecDepth 100000 in
/-- GlacierMail$Rows.put -/
noncomputable def pl_s602 : ck_Sum := ((0, 0, 0), 249, [.inr (.inr (.inl 14)), .inl (ck_one (-1)), .inl (ck_one 1), .inl (ck_one 22)], ([], [], []), ([], []), [(.inr none, 249, ([], [], []))])
set_option maxRecDepth 100000 in
theorem pl_s602_s {X : Int → Int} {LX : Nat} : ck_Ok p2_OL X LX 45 pl_s602 := ck_ok_s (O := p2_OL) (X := X) (LX := LX) (E := []) (mi := 45) (cuts := []) (f := 76) (S := pl_s602) (lx := none) (XF := []) ⟨pl_nmu, ck_E0⟩ ck_X0 ck_l0 (by decide +kernel)
set_option maxRecDepth 100000 in
/-- GlacierMail$State.openLetter -/
noncomputable def pl_s603 : ck_Sum := ((1, 0, 0), 249, [.inr (.inr (.inl 3)), .inl (ck_one 22), .inl ((-1), 299, [])], ([], [], [(3, 6, 6, (0, 299, [(10, 0)]))]), ([(11, 159, 160), (14, 3, 3), (15, 0, 71)], []), [(.inr none, 249, ([], [], [(14, 3, 3, (1, 24, []))]))])
set_option maxRecDepth 100000 in
theorem pl_s603_s {X : Int → Int} {LX : Nat} : ck_Ok p2_OL X LX 159 pl_s603 := ck_ok_s (O := p2_OL) (X := X) (LX := LX) (E := [(45, [pl_s599, pl_s600, pl_s376, pl_s601, pl_s378, pl_s379, pl_s602, pl_s381]), (102, [pl_s382])]) (mi := 159) (cuts := []) (f := 144) (S := pl_s603) (lx := none) (XF := []) ⟨pl_nmu, ck_E1 (ck_S1 pl_s599_s (ck_S1 pl_s600_s (ck_S1 pl_s376_s (ck_S1 pl_s601_s (ck_S1 pl_s378_s (ck_S1 pl_s379_s (ck_S1 pl_s602_s (ck_S1 pl_s381_s ck_S0)))))))) (ck_E1 (ck_S1 pl_s382_s ck_S0) ck_E0)⟩ ck_X0 ck_l0 (by decide +kernel)
set_option maxRecDepth 100000 in
/-- GlacierMail.open -/
noncomputable def pl_s604 : ck_Sum := ((8, 2, 12), 249, [.inr (.inr (.inl 1)), .inl (ck_one 22)], ([], zl230, [(3, 6, 6, (0, 299, [(10, 0)]))]), ([(1, 15, 15), (11, 159, 160), (14, 3, 3), (15, 0, 71), (42, 1, 2), (44, 0, 7), (45, 3, 3), (46, 0, 55), (47, 3, 3), (48, 0, 23), (49, 3, 3), (50, 0, 23), (51, 3, 3), (52, 0, 167), (53, 3, 3), (54, 0, 35), (55, 3, 3), (56, 0, 71), (57, 0, 7), (58, 3, 3), (59, 0, 55), (60, 3, 3), (61, 0, 23), (62, 3, 3), (63, 0, 23), (64, 3, 3), (65, 0, 167), (66, 3, 3), (67, 0, 35), (68, 3, 3), (69, 0, 71), (70, 0, 7), (71, 3, 3), (72, 0, 55), (73, 3, 3), (74, 0, 23), (75, 3, 3), (76, 0, 23), (77, 3, 3), (78, 0, 167), (79, 3, 3), (80, 0, 35), (81, 3, 3), (82, 0, 71), (83, 0, 7), (84, 3, 3), (85, 0, 55), (86, 3, 3), (87, 0, 23), (88, 3, 3), (89, 0, 23), (90, 3, 3), (91, 0, 167), (92, 3, 3), (93, 0, 35), (94, 3, 3), (95, 0, 71), (96, 0, 7), (97, 3, 3), (98, 0, 55), (99, 3, 3), (100, 0, 23), (101, 3, 3), (102, 0, 23), (103, 3, 3), (104, 0, 167), (105, 3, 3), (106, 0, 35), (107, 3, 3), (108, 0, 71), (109, 0, 7), (110, 3, 3), (111, 0, 55), (112, 3, 3), (113, 0, 23), (114, 3, 3), (115, 0, 23), (116, 3, 3), (117, 0, 167), (118, 3, 3), (119, 0, 35), (120, 3, 3), (121, 0, 71), (122, 0, 7), (123, 3, 3), (124, 0, 55), (125, 3, 3), (126, 0, 23), (127, 3, 3), (128, 0, 23), (129, 3, 3), (130, 0, 167), (131, 3, 3), (132, 0, 35), (133, 3, 3), (134, 0, 71), (135, 0, 7), (136, 3, 3), (137, 0, 55), (138, 3, 3), (139, 0, 23), (140, 3, 3), (141, 0, 23), (142, 3, 3), (143, 0, 167), (144, 3, 3), (145, 0, 35), (146, 3, 3), (147, 0, 71), (148, 0, 7), (149, 3, 3), (150, 0, 55), (151, 3, 3), (152, 0, 23), (153, 3, 3), (154, 0, 23), (155, 3, 3), (156, 0, 167), (157, 3, 3), (158, 0, 35), (159, 3, 3), (160, 0, 71), (161, 0, 7), (162, 3, 3), (163, 0, 55), (164, 3, 3), (165, 0, 23), (166, 3, 3), (167, 0, 23), (168, 3, 3), (169, 0, 167), (170, 3, 3), (171, 0, 35), (172, 3, 3), (173, 0, 71), (174, 0, 7), (175, 3, 3), (176, 0, 55), (177, 3, 3), (178, 0, 23), (179, 3, 3), (180, 0, 23), (181, 3, 3), (182, 0, 167), (183, 3, 3), (184, 0, 35), (185, 3, 3), (186, 0, 71), (187, 0, 7), (188, 3, 3), (189, 0, 55), (190, 3, 3), (191, 0, 23), (192, 3, 3), (193, 0, 23), (194, 3, 3), (195, 0, 167), (196, 3, 3), (197, 0, 35), (198, 3, 3), (199, 0, 71), (200, 6, 6), (204, 0, 9), (205, 0, 14849), (206, 2, 8), (220, 3, 3), (221, 0, 47)], zl104), zl245)
set_option maxRecDepth 100000 in
theorem pl_s604_s {X : Int → Int} {LX : Nat} : ck_Ok p2_OL X LX 158 pl_s604 := ck_ok_s (O := p2_OL) (X := X) (LX := LX) (E := [(143, [pl_s596]), (24, [pl_s217]), (66, [pl_s598]), (154, [pl_s341]), (10, [pl_s204]), (159, [pl_s603])]) (mi := 158) (cuts := []) (f := 140) (S := pl_s604) (lx := none) (XF := []) ⟨pl_nmu, ck_E1 (ck_S1 pl_s596_s ck_S0) (ck_E1 (ck_S1 pl_s217_s ck_S0) (ck_E1 (ck_S1 pl_s598_s ck_S0) (ck_E1 (ck_S1 pl_s341_s ck_S0) (ck_E1 (ck_S1 pl_s204_s ck_S0) (ck_E1 (ck_S1 pl_s603_s ck_S0) ck_E0)))))⟩ ck_X0 ck_l0 (by decide +kernel)
set_option maxRecDepth 100000 in
/-- GlacierMail.need -/
noncomputable def pl_s605 : ck_Sum := ((6, 1, 6), 249, [.inr (.inr (.inl 1)), .inl (ck_one 23), .inl (0, 24, [])], ([], [], []), ([], []), [(.inr none, 249, ([], [], [])), (.inl 3, 249, ([], [], []))])
set_option maxRecDepth 100000 in
theorem pl_s605_s {X : Int → Int} {LX : Nat} : ck_Ok p2_OL X LX 133 pl_s605 := ck_ok_s (O := p2_OL) (X := X) (LX := LX) (E := []) (mi := 133) (cuts := []) (f := 82) (S := pl_s605) (lx := none) (XF := []) ⟨pl_nmu, ck_E0⟩ ck_X0 ck_l0 (by decide +kernel)
set_option maxRecDepth 100000 in
/-- GlacierMail.needLetter -/
noncomputable def pl_s606 : ck_Sum := ((7, 1, 6), 249, [.inr (.inr (.inl 1)), .inl (ck_one 23)], ([], [], []), ([], []), [(.inl 3, 249, ([], [], [])), (.inr none, 249, ([], [], []))])
set_option maxRecDepth 100000 in
theorem pl_s606_s {X : Int → Int} {LX : Nat} : ck_Ok p2_OL X LX 143 pl_s606 := ck_ok_s (O := p2_OL) (X := X) (LX := LX) (E := [(9, [pl_s200]), (133, [pl_s605])]) (mi := 143) (cuts := []) (f := 86) (S := pl_s606) (lx := none) (XF := []) ⟨pl_nmu, ck_E1 (ck_S1 pl_s200_s ck_S0) (ck_E1 (ck_S1 pl_s605_s ck_S0) ck_E0)⟩ ck_X0 ck_l0 (by decide +kernel)
set_option maxRecDepth 100000 in
/-- GlacierMail$State.isRock -/
noncomputable def pl_s607 : ck_Sum := ((1, 0, 0), 249, [.inr (.inr (.inl 3)), .inl (ck_one 23)], ([], [], []), ([], []), [(.inr (some (.inl (ck_one 0))), 249, ([], [], [])), (.inr (some (.inl (ck_one 1))), 249, ([], [], []))])
set_option maxRecDepth 100000 in
theorem pl_s607_s {X : Int → Int} {LX : Nat} : ck_Ok p2_OL X LX 28 pl_s607 := ck_ok_s (O := p2_OL) (X := X) (LX := LX) (E := [(10, [pl_s204])]) (mi := 28) (cuts := []) (f := 90) (S := pl_s607) (lx := none) (XF := []) ⟨pl_nmu, ck_E1 (ck_S1 pl_s204_s ck_S0) ck_E0⟩ ck_X0 ck_l0 (by decide +kernel)
set_option maxRecDepth 100000 in
/-- GlacierMail.waits -/
noncomputable def pl_s608 : ck_Sum := ((2, 0, 0), 249, [.inr (.inr (.inl 1)), .inl (ck_one 23)], ([], [], [(3, 6, 6, (0, 299, [(10, 0)]))]), ([], []), [(.inr (some (.inl (ck_one 0))), 249, ([], [], [])), (.inr (some (.inl (ck_one 1))), 249, ([], [], []))])
set_option maxRecDepth 100000 in
theorem pl_s608_s {X : Int → Int} {LX : Nat} : ck_Ok p2_OL X LX 66 pl_s608 := ck_ok_s (O := p2_OL) (X := X) (LX := LX) (E := [(28, [pl_s607]), (10, [pl_s204, pl_s218]), (67, [pl_s219])]) (mi := 66) (cuts := []) (f := 134) (S := pl_s608) (lx := none) (XF := []) ⟨pl_nmu, ck_E1 (ck_S1 pl_s607_s ck_S0) (ck_E1 (ck_S1 pl_s204_s (ck_S1 pl_s218_s ck_S0)) (ck_E1 (ck_S1 pl_s219_s ck_S0) ck_E0))⟩ ck_X0 ck_l0 (by decide +kernel)
set_option maxRecDepth 100000 in
/-- GlacierMail$Rows.put -/
noncomputable def pl_s609 : ck_Sum := ((0, 0, 0), 249, [.inr (.inr (.inl 10)), .inl (ck_one 23), .inl (ck_one 5), .inl ((-1), 299, [])], ([], [], []), ([(11, 166, 166)], []), [(.inr none, 249, ([], [], []))])
set_option maxRecDepth 100000 in
theorem pl_s609_s {X : Int → Int} {LX : Nat} : ck_Ok p2_OL X LX 45 pl_s609 := ck_ok_s (O := p2_OL) (X := X) (LX := LX) (E := []) (mi := 45) (cuts := []) (f := 116) (S := pl_s609) (lx := none) (XF := []) ⟨pl_nmu, ck_E0⟩ ck_X0 ck_l0 (by decide +kernel)
set_option maxRecDepth 100000 in
/-- GlacierMail$Rows.put -/
noncomputable def pl_s610 : ck_Sum := ((0, 0, 0), 249, [.inr (.inr (.inl 10)), .inl (ck_one 23), .inl (ck_one 6), .inl (0, 299, [])], ([], [], []), ([(11, 167, 167)], []), [(.inr none, 249, ([], [], []))])
set_option maxRecDepth 100000 in
theorem pl_s610_s {X : Int → Int} {LX : Nat} : ck_Ok p2_OL X LX 45 pl_s610 := ck_ok_s (O := p2_OL) (X := X) (LX := LX) (E := []) (mi := 45) (cuts := []) (f := 116) (S := pl_s610) (lx := none) (XF := []) ⟨pl_nmu, ck_E0⟩ ck_X0 ck_l0 (by decide +kernel)
set_option maxRecDepth 100000 in
/-- GlacierMail$Rows.put -/
noncomputable def pl_s611 : ck_Sum := ((0, 0, 0), 249, [.inr (.inr (.inl 14)), .inl (0, 23, []), .inl (ck_one 1), .inl (ck_one 23)], ([], [], []), (zl173, []), [(.inr none, 249, ([], [], []))])
set_option maxRecDepth 100000 in
theorem pl_s611_s {X : Int → Int} {LX : Nat} : ck_Ok p2_OL X LX 45 pl_s611 := ck_ok_s (O := p2_OL) (X := X) (LX := LX) (E := []) (mi := 45) (cuts := []) (f := 116) (S := pl_s611) (lx := none) (XF := []) ⟨pl_nmu, ck_E0⟩ ck_X0 ck_l0 (by decide +kernel)
set_option maxRecDepth 100000 in
/-- GlacierMail$Rows.put -/
noncomputable def pl_s612 : ck_Sum := ((0, 0, 0), 249, [.inr (.inr (.inl 14)), .inl (ck_one (-1)), .inl (ck_one 1), .inl (ck_one 23)], ([], [], []), ([], []), [(.inr none, 249, ([], [], []))])
set_option maxRecDepth 100000 in
theorem pl_s612_s {X : Int → Int} {LX : Nat} : ck_Ok p2_OL X LX 45 pl_s612 := ck_ok_s (O := p2_OL) (X := X) (LX := LX) (E := []) (mi := 45) (cuts := []) (f := 76) (S := pl_s612) (lx := none) (XF := []) ⟨pl_nmu, ck_E0⟩ ck_X0 ck_l0 (by decide +kernel)
set_option maxRecDepth 100000 in
/-- GlacierMail$State.openLetter -/
noncomputable def pl_s613 : ck_Sum := ((1, 0, 0), 249, [.inr (.inr (.inl 3)), .inl (ck_one 23), .inl ((-1), 299, [])], ([], [], [(3, 6, 6, (0, 299, [(10, 0)]))]), ([(11, 166, 167), (14, 3, 3), (15, 0, 71)], []), [(.inr none, 249, ([], [], [(14, 3, 3, (1, 24, []))]))])
set_option maxRecDepth 100000 in
theorem pl_s613_s {X : Int → Int} {LX : Nat} : ck_Ok p2_OL X LX 159 pl_s613 := ck_ok_s (O := p2_OL) (X := X) (LX := LX) (E := [(45, [pl_s609, pl_s610, pl_s376, pl_s611, pl_s378, pl_s379, pl_s612, pl_s381]), (102, [pl_s382])]) (mi := 159) (cuts := []) (f := 144) (S := pl_s613) (lx := none) (XF := []) ⟨pl_nmu, ck_E1 (ck_S1 pl_s609_s (ck_S1 pl_s610_s (ck_S1 pl_s376_s (ck_S1 pl_s611_s (ck_S1 pl_s378_s (ck_S1 pl_s379_s (ck_S1 pl_s612_s (ck_S1 pl_s381_s ck_S0)))))))) (ck_E1 (ck_S1 pl_s382_s ck_S0) ck_E0)⟩ ck_X0 ck_l0 (by decide +kernel)
set_option maxRecDepth 100000 in
/-- GlacierMail.open -/
noncomputable def pl_s614 : ck_Sum := ((8, 2, 12), 249, [.inr (.inr (.inl 1)), .inl (ck_one 23)], ([], zl230, [(3, 6, 6, (0, 299, [(10, 0)]))]), ([(1, 15, 15), (11, 166, 167), (14, 3, 3), (15, 0, 71), (42, 1, 2), (44, 0, 7), (45, 3, 3), (46, 0, 55), (47, 3, 3), (48, 0, 23), (49, 3, 3), (50, 0, 23), (51, 3, 3), (52, 0, 167), (53, 3, 3), (54, 0, 35), (55, 3, 3), (56, 0, 71), (57, 0, 7), (58, 3, 3), (59, 0, 55), (60, 3, 3), (61, 0, 23), (62, 3, 3), (63, 0, 23), (64, 3, 3), (65, 0, 167), (66, 3, 3), (67, 0, 35), (68, 3, 3), (69, 0, 71), (70, 0, 7), (71, 3, 3), (72, 0, 55), (73, 3, 3), (74, 0, 23), (75, 3, 3), (76, 0, 23), (77, 3, 3), (78, 0, 167), (79, 3, 3), (80, 0, 35), (81, 3, 3), (82, 0, 71), (83, 0, 7), (84, 3, 3), (85, 0, 55), (86, 3, 3), (87, 0, 23), (88, 3, 3), (89, 0, 23), (90, 3, 3), (91, 0, 167), (92, 3, 3), (93, 0, 35), (94, 3, 3), (95, 0, 71), (96, 0, 7), (97, 3, 3), (98, 0, 55), (99, 3, 3), (100, 0, 23), (101, 3, 3), (102, 0, 23), (103, 3, 3), (104, 0, 167), (105, 3, 3), (106, 0, 35), (107, 3, 3), (108, 0, 71), (109, 0, 7), (110, 3, 3), (111, 0, 55), (112, 3, 3), (113, 0, 23), (114, 3, 3), (115, 0, 23), (116, 3, 3), (117, 0, 167), (118, 3, 3), (119, 0, 35), (120, 3, 3), (121, 0, 71), (122, 0, 7), (123, 3, 3), (124, 0, 55), (125, 3, 3), (126, 0, 23), (127, 3, 3), (128, 0, 23), (129, 3, 3), (130, 0, 167), (131, 3, 3), (132, 0, 35), (133, 3, 3), (134, 0, 71), (135, 0, 7), (136, 3, 3), (137, 0, 55), (138, 3, 3), (139, 0, 23), (140, 3, 3), (141, 0, 23), (142, 3, 3), (143, 0, 167), (144, 3, 3), (145, 0, 35), (146, 3, 3), (147, 0, 71), (148, 0, 7), (149, 3, 3), (150, 0, 55), (151, 3, 3), (152, 0, 23), (153, 3, 3), (154, 0, 23), (155, 3, 3), (156, 0, 167), (157, 3, 3), (158, 0, 35), (159, 3, 3), (160, 0, 71), (161, 0, 7), (162, 3, 3), (163, 0, 55), (164, 3, 3), (165, 0, 23), (166, 3, 3), (167, 0, 23), (168, 3, 3), (169, 0, 167), (170, 3, 3), (171, 0, 35), (172, 3, 3), (173, 0, 71), (174, 0, 7), (175, 3, 3), (176, 0, 55), (177, 3, 3), (178, 0, 23), (179, 3, 3), (180, 0, 23), (181, 3, 3), (182, 0, 167), (183, 3, 3), (184, 0, 35), (185, 3, 3), (186, 0, 71), (187, 0, 7), (188, 3, 3), (189, 0, 55), (190, 3, 3), (191, 0, 23), (192, 3, 3), (193, 0, 23), (194, 3, 3), (195, 0, 167), (196, 3, 3), (197, 0, 35), (198, 3, 3), (199, 0, 71), (200, 6, 6), (204, 0, 9), (205, 0, 14849), (206, 2, 8), (220, 3, 3), (221, 0, 47)], zl104), zl245)
set_option maxRecDepth 100000 in
theorem pl_s614_s {X : Int → Int} {LX : Nat} : ck_Ok p2_OL X LX 158 pl_s614 := ck_ok_s (O := p2_OL) (X := X) (LX := LX) (E := [(143, [pl_s606]), (24, [pl_s217]), (66, [pl_s608]), (154, [pl_s341]), (10, [pl_s204]), (159, [pl_s613])]) (mi := 158) (cuts := []) (f := 140) (S := pl_s614) (lx := none) (XF := []) ⟨pl_nmu, ck_E1 (ck_S1 pl_s606_s ck_S0) (ck_E1 (ck_S1 pl_s217_s ck_S0) (ck_E1 (ck_S1 pl_s608_s ck_S0) (ck_E1 (ck_S1 pl_s341_s ck_S0) (ck_E1 (ck_S1 pl_s204_s ck_S0) (ck_E1 (ck_S1 pl_s613_s ck_S0) ck_E0)))))⟩ ck_X0 ck_l0 (by decide +kernel)
set_option maxRecDepth 100000 in
/-- GlacierMail.years -/
noncomputable def pl_s615 : ck_Sum := ((6, 1, 6), 249, [.inr (.inr (.inl 1)), .inl ((-2147483648), 0, [])], ([], [], []), ([], []), [(.inl 0, 249, ([], [], []))])
set_option maxRecDepth 100000 in
theorem pl_s615_s {X : Int → Int} {LX : Nat} : ck_Ok p2_OL X LX 161 pl_s615 := ck_ok_s (O := p2_OL) (X := X) (LX := LX) (E := []) (mi := 161) (cuts := []) (f := 78) (S := pl_s615) (lx := none) (XF := []) ⟨pl_nmu, ck_E0⟩ ck_X0 ck_l0 (by decide +kernel)
set_option maxRecDepth 100000 in
/-- GlacierMail.years -/
noncomputable def pl_s616 : ck_Sum := ((6, 1, 6), 249, [.inr (.inr (.inl 1)), .inl (51, 2147483647, [])], ([], [], []), ([], []), [(.inl 0, 249, ([], [], []))])
set_option maxRecDepth 100000 in
theorem pl_s616_s {X : Int → Int} {LX : Nat} : ck_Ok p2_OL X LX 161 pl_s616 := ck_ok_s (O := p2_OL) (X := X) (LX := LX) (E := []) (mi := 161) (cuts := []) (f := 84) (S := pl_s616) (lx := none) (XF := []) ⟨pl_nmu, ck_E0⟩ ck_X0 ck_l0 (by decide +kernel)
set_option maxRecDepth 100000 in
/-- GlacierMail$Ice.setFacts -/
noncomputable def pl_s617 : ck_Sum := ((1, 0, 0), 249, [.inr (.inr (.inl 200)), .inl ((-1), 98, []), .inl (10, 99, []), .inl (0, 299, []), .inl (ck_one 0)], ([], [], []), ([(204, 0, 9)], []), [(.inr none, 249, ([], [], [(204, 9, 9, (0, 1, [])), (204, 8, 8, (0, 1, [])), (204, 7, 7, ck_one 0), (204, 6, 6, ck_one 0), (204, 5, 5, ck_one 0), (204, 4, 4, ck_one 0), (204, 3, 3, (0, 9, [])), (204, 2, 2, (0, 299, [])), (204, 1, 1, (10, 99, [])), (204, 0, 0, ((-1), 98, []))]))])
set_option maxRecDepth 100000 in
theorem pl_s617_s {X : Int → Int} {LX : Nat} : ck_Ok p2_OL X LX 39 pl_s617 := ck_ok_s (O := p2_OL) (X := X) (LX := LX) (E := [(34, [pl_s150])]) (mi := 39) (cuts := []) (f := 208) (S := pl_s617) (lx := none) (XF := []) ⟨pl_nmu, ck_E1 (ck_S1 pl_s150_s ck_S0) ck_E0⟩ ck_X0 ck_l0 (by decide +kernel)
set_option maxRecDepth 100000 in
/-- GlacierMail$Law.letsOpen -/
noncomputable def pl_s618 : ck_Sum := ((1, 0, 0), 249, [.inr (.inr (.inl 246)), .inr (.inr (.inl 204))], ([], [], []), ([], []), [(.inr (some (.inl (ck_one 0))), 249, ([], [], [])), (.inr (some (.inl (ck_one 1))), 249, ([], [], []))])
set_option maxRecDepth 100000 in
theorem pl_s618_s {X : Int → Int} {LX : Nat} : ck_Ok p2_OL X LX 165 pl_s618 := ck_ok_s (O := p2_OL) (X := X) (LX := LX) (E := [(9, [pl_s182]), (10, [pl_s183]), (41, [lh_S])]) (mi := 165) (cuts := [(2, [some (.inr (.inr (.inl 246))), some (.inr (.inr (.inl 204))), some (.inl (0, 12, [])), none], ([], [], []), 100, .inl 2, true)]) (f := 226) (S := pl_s618) (lx := none) (XF := []) ⟨pl_nmu, ck_E1 (ck_S1 pl_s182_s ck_S0) (ck_E1 (ck_S1 pl_s183_s ck_S0) (ck_E1 (ck_S1 lh_S_s ck_S0) ck_E0))⟩ ck_X0 ck_l0 (by decide +kernel)
set_option maxRecDepth 100000 in
/-- GlacierMail$Ice.mayOpen -/
noncomputable def pl_s619 : ck_Sum := ((2, 0, 0), 249, [.inr (.inr (.inl 200)), .inl (0, 7, []), .inl ((-1), 98, []), .inl ((-299), 300, []), .inl ((-2147483648), 299, [])], ([], [(3, 8, 246)], [(3, 6, 6, (0, 299, [(10, 0)]))]), ([(204, 0, 9)], []), [(.inr (some (.inl (ck_one 0))), 249, ([], [], zl246)), (.inr (some (.inl (ck_one 1))), 249, ([], [], zl246))])
set_option maxRecDepth 100000 in
theorem pl_s619_s {X : Int → Int} {LX : Nat} : ck_Ok p2_OL X LX 164 pl_s619 := ck_ok_s (O := p2_OL) (X := X) (LX := LX) (E := [(39, [pl_s617]), (165, [pl_s618])]) (mi := 164) (cuts := []) (f := 142) (S := pl_s619) (lx := none) (XF := []) ⟨pl_nmu, ck_E1 (ck_S1 pl_s617_s ck_S0) (ck_E1 (ck_S1 pl_s618_s ck_S0) ck_E0)⟩ ck_X0 ck_l0 (by decide +kernel)
set_option maxRecDepth 100000 in
/-- GlacierMail.openerOf -/
noncomputable def pl_s620 : ck_Sum := ((3, 0, 0), 249, [.inr (.inr (.inl 1)), .inl (0, 23, [])], ([], [(3, 8, 246)], [(3, 6, 6, (0, 299, [(10, 0)]))]), ([(204, 0, 9)], []), [(.inr (some (.inl ((-1), 299, []))), 249, ([], [], [])), (.inr (some (.inl (0, 7, []))), 249, ([], [], zl246))])
set_option maxRecDepth 100000 in
theorem pl_s620_s {X : Int → Int} {LX : Nat} : ck_Ok p2_OL X LX 163 pl_s620 := ck_ok_s (O := p2_OL) (X := X) (LX := LX) (E := [(10, [pl_s204, pl_s224, pl_s218]), (9, [pl_s189]), (164, [pl_s619])]) (mi := 163) (cuts := [(69, [some (.inr (.inr (.inl 1))), some (.inl (0, 23, [])), some (.inl ((-1), 299, [])), some (.inl ((-1), 299, [])), some (.inl ((-299), 300, [])), some (.inl (0, 9, []))], ([], [(3, 8, 246)], [(3, 6, 6, (0, 299, [(10, 0)]))]), 100, .inl 5, true)]) (f := 234) (S := pl_s620) (lx := none) (XF := []) ⟨pl_nmu, ck_E1 (ck_S1 pl_s204_s (ck_S1 pl_s224_s (ck_S1 pl_s218_s ck_S0))) (ck_E1 (ck_S1 pl_s189_s ck_S0) (ck_E1 (ck_S1 pl_s619_s ck_S0) ck_E0))⟩ ck_X0 ck_l0 (by decide +kernel)
set_option maxRecDepth 100000 in
/-- GlacierMail$Rows.put -/
noncomputable def pl_s621 : ck_Sum := ((0, 0, 0), 249, [.inr (.inr (.inl 10)), .inl (0, 23, []), .inl (ck_one 5), .inl (0, 299, [])], ([], [], []), (zl137, []), [(.inr none, 249, ([], [], []))])
set_option maxRecDepth 100000 in
theorem pl_s621_s {X : Int → Int} {LX : Nat} : ck_Ok p2_OL X LX 45 pl_s621 := ck_ok_s (O := p2_OL) (X := X) (LX := LX) (E := []) (mi := 45) (cuts := []) (f := 116) (S := pl_s621) (lx := none) (XF := []) ⟨pl_nmu, ck_E0⟩ ck_X0 ck_l0 (by decide +kernel)
set_option maxRecDepth 100000 in
/-- GlacierMail$Rows.put -/
noncomputable def pl_s622 : ck_Sum := ((0, 0, 0), 249, [.inr (.inr (.inl 10)), .inl (0, 23, []), .inl (ck_one 6), .inl (0, 299, [])], ([], [], []), (zl138, []), [(.inr none, 249, ([], [], []))])
set_option maxRecDepth 100000 in
theorem pl_s622_s {X : Int → Int} {LX : Nat} : ck_Ok p2_OL X LX 45 pl_s622 := ck_ok_s (O := p2_OL) (X := X) (LX := LX) (E := []) (mi := 45) (cuts := []) (f := 116) (S := pl_s622) (lx := none) (XF := []) ⟨pl_nmu, ck_E0⟩ ck_X0 ck_l0 (by decide +kernel)
set_option maxRecDepth 100000 in
/-- GlacierMail$Rows.put -/
noncomputable def pl_s623 : ck_Sum := ((0, 0, 0), 249, [.inr (.inr (.inl 14)), .inl (0, 23, []), .inl (ck_one 1), .inl (0, 23, [])], ([], [], []), (zl173, []), [(.inr none, 249, ([], [], []))])
set_option maxRecDepth 100000 in
theorem pl_s623_s {X : Int → Int} {LX : Nat} : ck_Ok p2_OL X LX 45 pl_s623 := ck_ok_s (O := p2_OL) (X := X) (LX := LX) (E := []) (mi := 45) (cuts := []) (f := 116) (S := pl_s623) (lx := none) (XF := []) ⟨pl_nmu, ck_E0⟩ ck_X0 ck_l0 (by decide +kernel)
set_option maxRecDepth 100000 in
/-- GlacierMail$Rows.put -/
noncomputable def pl_s624 : ck_Sum := ((0, 0, 0), 249, [.inr (.inr (.inl 14)), .inl (0, 23, []), .inl (ck_one 2), .inl (0, 299, [])], ([], [], []), (zl174, []), [(.inr none, 249, ([], [], []))])
set_option maxRecDepth 100000 in
theorem pl_s624_s {X : Int → Int} {LX : Nat} : ck_Ok p2_OL X LX 45 pl_s624 := ck_ok_s (O := p2_OL) (X := X) (LX := LX) (E := []) (mi := 45) (cuts := []) (f := 116) (S := pl_s624) (lx := none) (XF := []) ⟨pl_nmu, ck_E0⟩ ck_X0 ck_l0 (by decide +kernel)
set_option maxRecDepth 100000 in
/-- GlacierMail$Rows.put -/
noncomputable def pl_s625 : ck_Sum := ((0, 0, 0), 249, [.inr (.inr (.inl 14)), .inl (ck_one (-1)), .inl (ck_one 1), .inl (0, 23, [])], ([], [], []), ([], []), [(.inr none, 249, ([], [], []))])
set_option maxRecDepth 100000 in
theorem pl_s625_s {X : Int → Int} {LX : Nat} : ck_Ok p2_OL X LX 45 pl_s625 := ck_ok_s (O := p2_OL) (X := X) (LX := LX) (E := []) (mi := 45) (cuts := []) (f := 76) (S := pl_s625) (lx := none) (XF := []) ⟨pl_nmu, ck_E0⟩ ck_X0 ck_l0 (by decide +kernel)
set_option maxRecDepth 100000 in
/-- GlacierMail$Rows.put -/
noncomputable def pl_s626 : ck_Sum := ((0, 0, 0), 249, [.inr (.inr (.inl 14)), .inl (ck_one (-1)), .inl (ck_one 2), .inl (0, 299, [])], ([], [], []), ([], []), [(.inr none, 249, ([], [], []))])
set_option maxRecDepth 100000 in
theorem pl_s626_s {X : Int → Int} {LX : Nat} : ck_Ok p2_OL X LX 45 pl_s626 := ck_ok_s (O := p2_OL) (X := X) (LX := LX) (E := []) (mi := 45) (cuts := []) (f := 76) (S := pl_s626) (lx := none) (XF := []) ⟨pl_nmu, ck_E0⟩ ck_X0 ck_l0 (by decide +kernel)
set_option maxRecDepth 100000 in
/-- GlacierMail$State.openLetter -/
noncomputable def pl_s627 : ck_Sum := ((1, 0, 0), 249, [.inr (.inr (.inl 3)), .inl (0, 23, []), .inl (0, 299, [])], ([], [], [(3, 6, 6, (0, 299, [(10, 0)]))]), (zl178, []), [(.inr none, 249, ([], [], [(14, 3, 3, (1, 24, []))]))])
set_option maxRecDepth 100000 in
theorem pl_s627_s {X : Int → Int} {LX : Nat} : ck_Ok p2_OL X LX 159 pl_s627 := ck_ok_s (O := p2_OL) (X := X) (LX := LX) (E := [(45, [pl_s621, pl_s622, pl_s376, pl_s623, pl_s624, pl_s379, pl_s625, pl_s626]), (102, [pl_s382])]) (mi := 159) (cuts := []) (f := 144) (S := pl_s627) (lx := none) (XF := []) ⟨pl_nmu, ck_E1 (ck_S1 pl_s621_s (ck_S1 pl_s622_s (ck_S1 pl_s376_s (ck_S1 pl_s623_s (ck_S1 pl_s624_s (ck_S1 pl_s379_s (ck_S1 pl_s625_s (ck_S1 pl_s626_s ck_S0)))))))) (ck_E1 (ck_S1 pl_s382_s ck_S0) ck_E0)⟩ ck_X0 ck_l0 (by decide +kernel)
set_option maxRecDepth 100000 in
/-- GlacierMail$Rows.put -/
noncomputable def pl_s628 : ck_Sum := ((0, 0, 0), 249, [.inr (.inr (.inl 10)), .inl (0, 23, []), .inl (ck_one 5), .inl (0, 7, [])], ([], [], []), (zl137, []), [(.inr none, 249, ([], [], []))])
set_option maxRecDepth 100000 in
theorem pl_s628_s {X : Int → Int} {LX : Nat} : ck_Ok p2_OL X LX 45 pl_s628 := ck_ok_s (O := p2_OL) (X := X) (LX := LX) (E := []) (mi := 45) (cuts := []) (f := 116) (S := pl_s628) (lx := none) (XF := []) ⟨pl_nmu, ck_E0⟩ ck_X0 ck_l0 (by decide +kernel)
set_option maxRecDepth 100000 in
/-- GlacierMail$Rows.put -/
noncomputable def pl_s629 : ck_Sum := ((0, 0, 0), 249, [.inr (.inr (.inl 14)), .inl (0, 23, []), .inl (ck_one 2), .inl (0, 7, [])], ([], [], []), (zl174, []), [(.inr none, 249, ([], [], []))])
set_option maxRecDepth 100000 in
theorem pl_s629_s {X : Int → Int} {LX : Nat} : ck_Ok p2_OL X LX 45 pl_s629 := ck_ok_s (O := p2_OL) (X := X) (LX := LX) (E := []) (mi := 45) (cuts := []) (f := 116) (S := pl_s629) (lx := none) (XF := []) ⟨pl_nmu, ck_E0⟩ ck_X0 ck_l0 (by decide +kernel)
set_option maxRecDepth 100000 in
/-- GlacierMail$Rows.put -/
noncomputable def pl_s630 : ck_Sum := ((0, 0, 0), 249, [.inr (.inr (.inl 14)), .inl (ck_one (-1)), .inl (ck_one 2), .inl (0, 7, [])], ([], [], []), ([], []), [(.inr none, 249, ([], [], []))])
set_option maxRecDepth 100000 in
theorem pl_s630_s {X : Int → Int} {LX : Nat} : ck_Ok p2_OL X LX 45 pl_s630 := ck_ok_s (O := p2_OL) (X := X) (LX := LX) (E := []) (mi := 45) (cuts := []) (f := 76) (S := pl_s630) (lx := none) (XF := []) ⟨pl_nmu, ck_E0⟩ ck_X0 ck_l0 (by decide +kernel)
end
/-! 78r86a07.sl -/
section
/-! EVERY CALL OF THE CLASS ENDS, under a law (laid by wip/am/p2l.py). -/
set_option maxRecDepth 100000 in
/-- GlacierMail$State.openLetter -/
noncomputable def pl_s631 : ck_Sum := ((1, 0, 0), 249, [.inr (.inr (.inl 3)), .inl (0, 23, []), .inl (0, 7, [])], ([], [], [(3, 6, 6, (0, 299, [(10, 0)]))]), (zl178, []), [(.inr none, 249, ([], [], [(14, 3, 3, (1, 24, []))]))])
set_option maxRecDepth 100000 in
theorem pl_s631_s {X : Int → Int} {LX : Nat} : ck_Ok p2_OL X LX 159 pl_s631 := ck_ok_s (O := p2_OL) (X := X) (LX := LX) (E := [(45, [pl_s628, pl_s622, pl_s376, pl_s623, pl_s629, pl_s379, pl_s625, pl_s630]), (102, [pl_s382])]) (mi := 159) (cuts := []) (f := 144) (S := pl_s631) (lx := none) (XF := []) ⟨pl_nmu, ck_E1 (ck_S1 pl_s628_s (ck_S1 pl_s622_s (ck_S1 pl_s376_s (ck_S1 pl_s623_s (ck_S1 pl_s629_s (ck_S1 pl_s379_s (ck_S1 pl_s625_s (ck_S1 pl_s630_s ck_S0)))))))) (ck_E1 (ck_S1 pl_s382_s ck_S0) ck_E0)⟩ ck_X0 ck_l0 (by decide +kernel)
set_option maxRecDepth 100000 in
/-- GlacierMail.oneYearMore -/
noncomputable def pl_s632 : ck_Sum := ((4, 0, 0), 249, [.inr (.inr (.inl 1))], ([], [(3, 8, 246)], [(3, 6, 6, (0, 298, [(10, 0)]))]), ([(3, 6, 6), (11, 5, 6), (11, 12, 13), (11, 19, 20), (11, 26, 27), (11, 33, 34), (11, 40, 41), (11, 47, 48), (11, 54, 55), (11, 61, 62), (11, 68, 69), (11, 75, 76), (11, 82, 83), (11, 89, 90), (11, 96, 97), (11, 103, 104), (11, 110, 111), (11, 117, 118), (11, 124, 125), (11, 131, 132), (11, 138, 139), (11, 145, 146), (11, 152, 153), (11, 159, 160), (11, 166, 167), (14, 3, 3), (15, 0, 71), (204, 0, 9)], []), [(.inr (some (.inl ((-2147483648), 2147483647, []))), 249, ([], [], [(3, 6, 6, (1, 299, [(10, 1)]))]))])
set_option maxRecDepth 100000 in
theorem pl_s632_s {X : Int → Int} {LX : Nat} : ck_Ok p2_OL X LX 162 pl_s632 := ck_ok_s (O := p2_OL) (X := X) (LX := LX) (E := [(9, [pl_s200]), (66, [pl_s220]), (163, [pl_s620]), (159, [pl_s627, pl_s631])]) (mi := 162) (cuts := [(17, [some (.inr (.inr (.inl 1))), some (.inl ((-2147483648), 2147483647, [])), some (.inl (0, 24, [])), none], ([], [(3, 8, 246)], [(3, 6, 6, (1, 299, [(10, 1)]))]), 100, .inl 2, true)]) (f := 194) (S := pl_s632) (lx := none) (XF := []) ⟨pl_nmu, ck_E1 (ck_S1 pl_s200_s ck_S0) (ck_E1 (ck_S1 pl_s220_s ck_S0) (ck_E1 (ck_S1 pl_s620_s ck_S0) (ck_E1 (ck_S1 pl_s627_s (ck_S1 pl_s631_s ck_S0)) ck_E0)))⟩ ck_X0 ck_l0 (by decide +kernel)
set_option maxRecDepth 100000 in
/-- GlacierMail.years, any number -/
noncomputable def pl_yy : ck_Sum := ((6, 1, 6), 249, [.inr (.inr (.inl 1)), .inl (1, 50, [])], ([], zl230, [(3, 6, 6, (0, 299, [(10, 0)]))]), ([(1, 15, 15), (3, 6, 6), (11, 5, 6), (11, 12, 13), (11, 19, 20), (11, 26, 27), (11, 33, 34), (11, 40, 41), (11, 47, 48), (11, 54, 55), (11, 61, 62), (11, 68, 69), (11, 75, 76), (11, 82, 83), (11, 89, 90), (11, 96, 97), (11, 103, 104), (11, 110, 111), (11, 117, 118), (11, 124, 125), (11, 131, 132), (11, 138, 139), (11, 145, 146), (11, 152, 153), (11, 159, 160), (11, 166, 167), (14, 3, 3), (15, 0, 71), (42, 1, 2), (44, 0, 7), (45, 3, 3), (46, 0, 55), (47, 3, 3), (48, 0, 23), (49, 3, 3), (50, 0, 23), (51, 3, 3), (52, 0, 167), (53, 3, 3), (54, 0, 35), (55, 3, 3), (56, 0, 71), (57, 0, 7), (58, 3, 3), (59, 0, 55), (60, 3, 3), (61, 0, 23), (62, 3, 3), (63, 0, 23), (64, 3, 3), (65, 0, 167), (66, 3, 3), (67, 0, 35), (68, 3, 3), (69, 0, 71), (70, 0, 7), (71, 3, 3), (72, 0, 55), (73, 3, 3), (74, 0, 23), (75, 3, 3), (76, 0, 23), (77, 3, 3), (78, 0, 167), (79, 3, 3), (80, 0, 35), (81, 3, 3), (82, 0, 71), (83, 0, 7), (84, 3, 3), (85, 0, 55), (86, 3, 3), (87, 0, 23), (88, 3, 3), (89, 0, 23), (90, 3, 3), (91, 0, 167), (92, 3, 3), (93, 0, 35), (94, 3, 3), (95, 0, 71), (96, 0, 7), (97, 3, 3), (98, 0, 55), (99, 3, 3), (100, 0, 23), (101, 3, 3), (102, 0, 23), (103, 3, 3), (104, 0, 167), (105, 3, 3), (106, 0, 35), (107, 3, 3), (108, 0, 71), (109, 0, 7), (110, 3, 3), (111, 0, 55), (112, 3, 3), (113, 0, 23), (114, 3, 3), (115, 0, 23), (116, 3, 3), (117, 0, 167), (118, 3, 3), (119, 0, 35), (120, 3, 3), (121, 0, 71), (122, 0, 7), (123, 3, 3), (124, 0, 55), (125, 3, 3), (126, 0, 23), (127, 3, 3), (128, 0, 23), (129, 3, 3), (130, 0, 167), (131, 3, 3), (132, 0, 35), (133, 3, 3), (134, 0, 71), (135, 0, 7), (136, 3, 3), (137, 0, 55), (138, 3, 3), (139, 0, 23), (140, 3, 3), (141, 0, 23), (142, 3, 3), (143, 0, 167), (144, 3, 3), (145, 0, 35), (146, 3, 3), (147, 0, 71), (148, 0, 7), (149, 3, 3), (150, 0, 55), (151, 3, 3), (152, 0, 23), (153, 3, 3), (154, 0, 23), (155, 3, 3), (156, 0, 167), (157, 3, 3), (158, 0, 35), (159, 3, 3), (160, 0, 71), (161, 0, 7), (162, 3, 3), (163, 0, 55), (164, 3, 3), (165, 0, 23), (166, 3, 3), (167, 0, 23), (168, 3, 3), (169, 0, 167), (170, 3, 3), (171, 0, 35), (172, 3, 3), (173, 0, 71), (174, 0, 7), (175, 3, 3), (176, 0, 55), (177, 3, 3), (178, 0, 23), (179, 3, 3), (180, 0, 23), (181, 3, 3), (182, 0, 167), (183, 3, 3), (184, 0, 35), (185, 3, 3), (186, 0, 71), (187, 0, 7), (188, 3, 3), (189, 0, 55), (190, 3, 3), (191, 0, 23), (192, 3, 3), (193, 0, 23), (194, 3, 3), (195, 0, 167), (196, 3, 3), (197, 0, 35), (198, 3, 3), (199, 0, 71), (200, 6, 6), (204, 0, 9), (205, 0, 14849), (206, 2, 8), (220, 3, 3), (221, 0, 47)], zl104), [(.inr (some (.inl ((-2147483648), 2147483647, []))), 249, ([], zl105, [])), (.inr (some (.inl ((-2147483648), 2147483647, []))), 249, ([], zl242, [])), (.inr (some (.inl ((-2147483648), 2147483647, []))), 249, ([], zl241, [])), (.inr (some (.inl ((-2147483648), 2147483647, []))), 249, ([], zl240, [])), (.inr (some (.inl ((-2147483648), 2147483647, []))), 249, ([], zl239, [])), (.inr (some (.inl ((-2147483648), 2147483647, []))), 249, ([], zl238, [])), (.inr (some (.inl ((-2147483648), 2147483647, []))), 249, ([], zl237, [])), (.inr (some (.inl ((-2147483648), 2147483647, []))), 249, ([], zl236, [])), (.inr (some (.inl ((-2147483648), 2147483647, []))), 249, ([], zl235, [])), (.inr (some (.inl ((-2147483648), 2147483647, []))), 249, ([], zl234, [])), (.inr (some (.inl ((-2147483648), 2147483647, []))), 249, ([], zl233, [])), (.inr (some (.inl ((-2147483648), 2147483647, []))), 249, ([], zl232, [])), (.inr (some (.inl ((-2147483648), 2147483647, []))), 249, ([], zl231, [])), (.inl 0, 249, ([], zl105, []))])
noncomputable def pl_yy_E : List (Nat × List ck_Sum) := [(154, [pl_s341]), (24, [pl_s217]), (162, [pl_s632])]
noncomputable def pl_yy_RF : List (Nat × Int × Nat) := [(3, 8, 246), (44, 8, 100044), (57, 8, 100057), (70, 8, 100070), (83, 8, 100083), (96, 8, 100096), (109, 8, 100109), (122, 8, 100122), (135, 8, 100135), (148, 8, 100148), (161, 8, 100161), (174, 8, 100174), (187, 8, 100187)]
set_option maxRecDepth 100000 in
noncomputable def pl_yy_RS : List (Nat × List (Nat × Int × Nat)) := [(0, [(3, 8, 246), (44, 8, 100044), (57, 8, 100057), (70, 8, 100070), (83, 8, 100083), (96, 8, 100096), (109, 8, 100109), (122, 8, 100122), (135, 8, 100135), (148, 8, 100148), (161, 8, 100161), (174, 8, 100174), (187, 8, 100187)]), (2000000, [(3, 8, 246), (44, 8, 246), (57, 8, 100057), (70, 8, 100070), (83, 8, 100083), (96, 8, 100096), (109, 8, 100109), (122, 8, 100122), (135, 8, 100135), (148, 8, 100148), (161, 8, 100161), (174, 8, 100174), (187, 8, 100187)]), (2000001, [(3, 8, 246), (44, 8, 100044), (57, 8, 100057), (70, 8, 100070), (83, 8, 100083), (96, 8, 100096), (109, 8, 100109), (122, 8, 100122), (135, 8, 100135), (148, 8, 100148), (161, 8, 100161), (174, 8, 100174), (187, 8, 246)]), (2000002, [(3, 8, 246), (44, 8, 100044), (57, 8, 100057), (70, 8, 100070), (83, 8, 100083), (96, 8, 100096), (109, 8, 100109), (122, 8, 100122), (135, 8, 100135), (148, 8, 100148), (161, 8, 100161), (174, 8, 246), (187, 8, 100187)]), (2000003, [(3, 8, 246), (44, 8, 100044), (57, 8, 100057), (70, 8, 100070), (83, 8, 100083), (96, 8, 100096), (109, 8, 100109), (122, 8, 100122), (135, 8, 100135), (148, 8, 100148), (161, 8, 246), (174, 8, 100174), (187, 8, 100187)]), (2000004, [(3, 8, 246), (44, 8, 100044), (57, 8, 100057), (70, 8, 100070), (83, 8, 100083), (96, 8, 100096), (109, 8, 100109), (122, 8, 100122), (135, 8, 100135), (148, 8, 246), (161, 8, 100161), (174, 8, 100174), (187, 8, 100187)]), (2000005, [(3, 8, 246), (44, 8, 100044), (57, 8, 100057), (70, 8, 100070), (83, 8, 100083), (96, 8, 100096), (109, 8, 100109), (122, 8, 100122), (135, 8, 246), (148, 8, 100148), (161, 8, 100161), (174, 8, 100174), (187, 8, 100187)]), (2000006, [(3, 8, 246), (44, 8, 100044), (57, 8, 100057), (70, 8, 100070), (83, 8, 100083), (96, 8, 100096), (109, 8, 100109), (122, 8, 246), (135, 8, 100135), (148, 8, 100148), (161, 8, 100161), (174, 8, 100174), (187, 8, 100187)]), (2000007, [(3, 8, 246), (44, 8, 100044), (57, 8, 100057), (70, 8, 100070), (83, 8, 100083), (96, 8, 100096), (109, 8, 246), (122, 8, 100122), (135, 8, 100135), (148, 8, 100148), (161, 8, 100161), (174, 8, 100174), (187, 8, 100187)]), (2000008, [(3, 8, 246), (44, 8, 100044), (57, 8, 100057), (70, 8, 100070), (83, 8, 100083), (96, 8, 246), (109, 8, 100109), (122, 8, 100122), (135, 8, 100135), (148, 8, 100148), (161, 8, 100161), (174, 8, 100174), (187, 8, 100187)]), (2000009, [(3, 8, 246), (44, 8, 100044), (57, 8, 100057), (70, 8, 100070), (83, 8, 246), (96, 8, 100096), (109, 8, 100109), (122, 8, 100122), (135, 8, 100135), (148, 8, 100148), (161, 8, 100161), (174, 8, 100174), (187, 8, 100187)]), (2000010, [(3, 8, 246), (44, 8, 100044), (57, 8, 100057), (70, 8, 246), (83, 8, 100083), (96, 8, 100096), (109, 8, 100109), (122, 8, 100122), (135, 8, 100135), (148, 8, 100148), (161, 8, 100161), (174, 8, 100174), (187, 8, 100187)]), (2000011, [(3, 8, 246), (44, 8, 100044), (57, 8, 246), (70, 8, 100070), (83, 8, 100083), (96, 8, 100096), (109, 8, 100109), (122, 8, 100122), (135, 8, 100135), (148, 8, 100148), (161, 8, 100161), (174, 8, 100174), (187, 8, 100187)])]
set_option maxRecDepth 100000 in
theorem pl_yy_a : (decide (pl_yy.2.2.1.length ≤ gm_ml 161) && ck_go p2_OL none [] pl_yy_E 161 pl_yy.1.1 pl_yy.2.1 pl_yy.2.2.2.2.1 pl_yy.2.2.2.2.2 [(11, yy_C0 pl_yy_RF)] 170 false [(11, yy_C0 pl_yy_RF, 1, 6, pl_yy.2.1)] pl_yy.1.2.1 pl_yy.1.2.2 0 (pl_yy.2.2.1.map some ++ List.replicate (gm_ml 161 - pl_yy.2.2.1.length) none) [] pl_yy.2.1 pl_yy.2.2.2.1) = true := by decide +kernel
set_option maxRecDepth 100000 in
theorem pl_yy_b : ck_go p2_OL none [] pl_yy_E 161 pl_yy.1.1 pl_yy.2.1 pl_yy.2.2.2.2.1 pl_yy.2.2.2.2.2 [] 170 true [] 1 6 26 (yy_A (1, 50, []) none none) [] pl_yy.2.1 (yy_F pl_yy_RF (0, 299, [(10, 0)])) = true := by decide +kernel
set_option maxRecDepth 100000 in
theorem pl_yy_cu : ck_cu (pl_yy_RS.map fun p => (56, yy_C1 p.2 p.1)) = true := by decide +kernel
set_option maxRecDepth 100000 in
theorem pl_yy_c : ck_go p2_OL none [] pl_yy_E 161 pl_yy.1.1 pl_yy.2.1 pl_yy.2.2.2.2.1 pl_yy.2.2.2.2.2 (pl_yy_RS.map fun p => (56, yy_C1 p.2 p.1)) 170 true (pl_yy_RS.map fun p => (56, yy_C1 p.2 p.1, 0, 0, pl_yy.2.1)) 1 6 37 (yy_A (1, 50, [(302, 0)]) none none) [] pl_yy.2.1 (yy_F pl_yy_RF (0, 298, [(10, 0), (303, 0)])) = true := by decide +kernel
set_option maxRecDepth 100000 in
theorem pl_yy_d : (pl_yy_RS.all fun p => ck_go p2_OL none [] pl_yy_E 161 pl_yy.1.1 pl_yy.2.1 pl_yy.2.2.2.2.1 pl_yy.2.2.2.2.2 [(56, yy_C2 p.2)] 170 true [(56, yy_C2 p.2, 0, 0, pl_yy.2.1)] 0 0 61 (yy_A (1, 50, [(302, 0)]) (some (.inl ck_top)) (some (.inl (0, 49, [(304, 0)])))) [] pl_yy.2.1 (yy_F p.2 (0, 298, [(303, 0)])) && ck_go p2_OL none [] pl_yy_E 161 pl_yy.1.1 pl_yy.2.1 pl_yy.2.2.2.2.1 pl_yy.2.2.2.2.2 [] 170 true [] 0 0 74 (yy_A (1, 50, []) (some (.inl ck_top)) none) [] pl_yy.2.1 ([], p.2, [])) = true := by decide +kernel
theorem pl_yy_s {X : Int → Int} {LX : Nat} : ck_Ok p2_OL X LX 161 pl_yy := yy_s ⟨pl_nmu, ck_E1 (ck_S1 pl_s341_s ck_S0) (ck_E1 (ck_S1 pl_s217_s ck_S0) (ck_E1 (ck_S1 pl_s632_s ck_S0) ck_E0))⟩ (by decide +kernel) (by decide +kernel) (by decide +kernel) (by decide) (by decide) (by decide) pl_yy_a pl_yy_b pl_yy_cu pl_yy_c pl_yy_d
end
/-! 78r86a10.sl -/
section
/-! EVERY CALL OF THE CLASS ENDS, under a law (laid by wip/am/p2l.py). -/
set_option maxRecDepth 100000 in
/-- GlacierMail.throwsFor -/
noncomputable def pl_s683 : ck_Sum := ((8, 1, 6), 249, [.inr (.inr (.inl 1)), .inl ((-2147483648), (-1), []), .inl ((-2147483648), 2147483647, []), .inl ((-2147483648), 2147483647, []), .inl ((-2147483648), 2147483647, [])], ([], [], []), ([], []), [(.inl 3, 249, ([], [], []))])
set_option maxRecDepth 100000 in
theorem pl_s683_s {X : Int → Int} {LX : Nat} : ck_Ok p2_OL X LX 167 pl_s683 := ck_ok_s (O := p2_OL) (X := X) (LX := LX) (E := [(132, [pl_s153])]) (mi := 167) (cuts := []) (f := 76) (S := pl_s683) (lx := none) (XF := []) ⟨pl_nmu, ck_E1 (ck_S1 pl_s153_s ck_S0) ck_E0⟩ ck_X0 ck_l0 (by decide +kernel)
set_option maxRecDepth 100000 in
/-- GlacierMail.throwsFor -/
noncomputable def pl_s684 : ck_Sum := ((8, 1, 6), 249, [.inr (.inr (.inl 1)), .inl (6, 2147483647, []), .inl ((-2147483648), 2147483647, []), .inl ((-2147483648), 2147483647, []), .inl ((-2147483648), 2147483647, [])], ([], [], []), ([], []), [(.inl 3, 249, ([], [], []))])
set_option maxRecDepth 100000 in
theorem pl_s684_s {X : Int → Int} {LX : Nat} : ck_Ok p2_OL X LX 167 pl_s684 := ck_ok_s (O := p2_OL) (X := X) (LX := LX) (E := [(132, [pl_s156])]) (mi := 167) (cuts := []) (f := 76) (S := pl_s684) (lx := none) (XF := []) ⟨pl_nmu, ck_E1 (ck_S1 pl_s156_s ck_S0) ck_E0⟩ ck_X0 ck_l0 (by decide +kernel)
set_option maxRecDepth 100000 in
/-- GlacierMail.throwsFor -/
noncomputable def pl_s685 : ck_Sum := ((8, 2, 12), 249, [.inr (.inr (.inl 1)), .inl (0, 5, []), .inl ((-2147483648), (-1), []), .inl ((-2147483648), 2147483647, []), .inl ((-2147483648), 2147483647, [])], ([], [], []), ([], []), [(.inl 3, 249, ([], [], [])), (.inl 0, 249, ([], [], []))])
set_option maxRecDepth 100000 in
theorem pl_s685_s {X : Int → Int} {LX : Nat} : ck_Ok p2_OL X LX 167 pl_s685 := ck_ok_s (O := p2_OL) (X := X) (LX := LX) (E := [(132, [pl_s159]), (129, [pl_s145])]) (mi := 167) (cuts := []) (f := 82) (S := pl_s685) (lx := none) (XF := []) ⟨pl_nmu, ck_E1 (ck_S1 pl_s159_s ck_S0) (ck_E1 (ck_S1 pl_s145_s ck_S0) ck_E0)⟩ ck_X0 ck_l0 (by decide +kernel)
set_option maxRecDepth 100000 in
/-- GlacierMail.throwsFor -/
noncomputable def pl_s686 : ck_Sum := ((8, 2, 12), 249, [.inr (.inr (.inl 1)), .inl (0, 5, []), .inl (300, 2147483647, []), .inl ((-2147483648), 2147483647, []), .inl ((-2147483648), 2147483647, [])], ([], [], []), ([], []), [(.inl 3, 249, ([], [], [])), (.inl 0, 249, ([], [], []))])
set_option maxRecDepth 100000 in
theorem pl_s686_s {X : Int → Int} {LX : Nat} : ck_Ok p2_OL X LX 167 pl_s686 := ck_ok_s (O := p2_OL) (X := X) (LX := LX) (E := [(132, [pl_s159]), (129, [pl_s147])]) (mi := 167) (cuts := []) (f := 82) (S := pl_s686) (lx := none) (XF := []) ⟨pl_nmu, ck_E1 (ck_S1 pl_s159_s ck_S0) (ck_E1 (ck_S1 pl_s147_s ck_S0) ck_E0)⟩ ck_X0 ck_l0 (by decide +kernel)
set_option maxRecDepth 100000 in
/-- GlacierMail.throwsFor -/
noncomputable def pl_s687 : ck_Sum := ((8, 2, 12), 249, [.inr (.inr (.inl 1)), .inl (0, 5, []), .inl (0, 299, []), .inl ((-2147483648), (-1), []), .inl ((-2147483648), 2147483647, [])], ([], [], []), ([], []), [(.inl 3, 249, ([], [], [])), (.inl 0, 249, ([], [], []))])
set_option maxRecDepth 100000 in
theorem pl_s687_s {X : Int → Int} {LX : Nat} : ck_Ok p2_OL X LX 167 pl_s687 := ck_ok_s (O := p2_OL) (X := X) (LX := LX) (E := [(132, [pl_s159]), (129, [pl_s149, pl_s145])]) (mi := 167) (cuts := []) (f := 88) (S := pl_s687) (lx := none) (XF := []) ⟨pl_nmu, ck_E1 (ck_S1 pl_s159_s ck_S0) (ck_E1 (ck_S1 pl_s149_s (ck_S1 pl_s145_s ck_S0)) ck_E0)⟩ ck_X0 ck_l0 (by decide +kernel)
set_option maxRecDepth 100000 in
/-- GlacierMail.throwsFor -/
noncomputable def pl_s688 : ck_Sum := ((8, 2, 12), 249, [.inr (.inr (.inl 1)), .inl (0, 5, []), .inl (0, 299, []), .inl (300, 2147483647, []), .inl ((-2147483648), 2147483647, [])], ([], [], []), ([], []), [(.inl 3, 249, ([], [], [])), (.inl 0, 249, ([], [], []))])
set_option maxRecDepth 100000 in
theorem pl_s688_s {X : Int → Int} {LX : Nat} : ck_Ok p2_OL X LX 167 pl_s688 := ck_ok_s (O := p2_OL) (X := X) (LX := LX) (E := [(132, [pl_s159]), (129, [pl_s149, pl_s147])]) (mi := 167) (cuts := []) (f := 88) (S := pl_s688) (lx := none) (XF := []) ⟨pl_nmu, ck_E1 (ck_S1 pl_s159_s ck_S0) (ck_E1 (ck_S1 pl_s149_s (ck_S1 pl_s147_s ck_S0)) ck_E0)⟩ ck_X0 ck_l0 (by decide +kernel)
set_option maxRecDepth 100000 in
/-- GlacierMail.throwsFor -/
noncomputable def pl_s689 : ck_Sum := ((8, 2, 12), 249, [.inr (.inr (.inl 1)), .inl (0, 5, []), .inl (0, 299, []), .inl (0, 299, []), .inl ((-2147483648), (-1), [])], ([], [], [(3, 6, 6, (0, 299, [(10, 0)]))]), ([], []), [(.inl 3, 249, ([], [], [])), (.inl 4, 249, ([], [], [])), (.inl 0, 249, ([], [], [(3, 6, 6, (1, 299, [(10, 0)]))]))])
set_option maxRecDepth 100000 in
theorem pl_s689_s {X : Int → Int} {LX : Nat} : ck_Ok p2_OL X LX 167 pl_s689 := ck_ok_s (O := p2_OL) (X := X) (LX := LX) (E := [(132, [pl_s159]), (129, [pl_s149])]) (mi := 167) (cuts := []) (f := 104) (S := pl_s689) (lx := none) (XF := []) ⟨pl_nmu, ck_E1 (ck_S1 pl_s159_s ck_S0) (ck_E1 (ck_S1 pl_s149_s ck_S0) ck_E0)⟩ ck_X0 ck_l0 (by decide +kernel)
set_option maxRecDepth 100000 in
/-- GlacierMail.throwsFor -/
noncomputable def pl_s690 : ck_Sum := ((8, 2, 12), 249, [.inr (.inr (.inl 1)), .inl (0, 5, []), .inl (0, 299, []), .inl (0, 299, []), .inl (10, 2147483647, [])], ([], [], [(3, 6, 6, (0, 299, [(10, 0)]))]), ([], []), [(.inl 3, 249, ([], [], [])), (.inl 4, 249, ([], [], [])), (.inl 0, 249, ([], [], [(3, 6, 6, (1, 299, [(10, 0)]))]))])
set_option maxRecDepth 100000 in
theorem pl_s690_s {X : Int → Int} {LX : Nat} : ck_Ok p2_OL X LX 167 pl_s690 := ck_ok_s (O := p2_OL) (X := X) (LX := LX) (E := [(132, [pl_s159]), (129, [pl_s149])]) (mi := 167) (cuts := []) (f := 110) (S := pl_s690) (lx := none) (XF := []) ⟨pl_nmu, ck_E1 (ck_S1 pl_s159_s ck_S0) (ck_E1 (ck_S1 pl_s149_s ck_S0) ck_E0)⟩ ck_X0 ck_l0 (by decide +kernel)
set_option maxRecDepth 100000 in
/-- GlacierMail$Way.start -/
noncomputable def pl_s691 : ck_Sum := ((0, 0, 0), 249, [.inr (.inr (.inl 206)), .inl ((-2147483648), 2147483647, []), .inl ((-2147483648), 2147483647, []), .inl (0, 299, []), .inl (0, 1, [])], ([], [], []), ([(206, 2, 8)], []), [(.inr none, 249, ([], [], zl183))])
set_option maxRecDepth 100000 in
theorem pl_s691_s {X : Int → Int} {LX : Nat} : ck_Ok p2_OL X LX 29 pl_s691 := ck_ok_s (O := p2_OL) (X := X) (LX := LX) (E := []) (mi := 29) (cuts := []) (f := 114) (S := pl_s691) (lx := none) (XF := []) ⟨pl_nmu, ck_E0⟩ ck_X0 ck_l0 (by decide +kernel)
set_option maxRecDepth 100000 in
/-- GlacierMail.latest -/
noncomputable def pl_s693 : ck_Sum := ((8, 1, 6), 249, [.inr (.inr (.inl 1)), .inl ((-2147483648), (-1), []), .inl ((-2147483648), 2147483647, [])], ([], [], []), ([], []), [(.inl 3, 249, ([], [], []))])
set_option maxRecDepth 100000 in
theorem pl_s693_s {X : Int → Int} {LX : Nat} : ck_Ok p2_OL X LX 169 pl_s693 := ck_ok_s (O := p2_OL) (X := X) (LX := LX) (E := [(139, [pl_s191])]) (mi := 169) (cuts := []) (f := 76) (S := pl_s693) (lx := none) (XF := []) ⟨pl_nmu, ck_E1 (ck_S1 pl_s191_s ck_S0) ck_E0⟩ ck_X0 ck_l0 (by decide +kernel)
set_option maxRecDepth 100000 in
/-- GlacierMail.latest -/
noncomputable def pl_s694 : ck_Sum := ((8, 1, 6), 249, [.inr (.inr (.inl 1)), .inl (8, 2147483647, []), .inl ((-2147483648), 2147483647, [])], ([], [], []), ([], []), [(.inl 3, 249, ([], [], []))])
set_option maxRecDepth 100000 in
theorem pl_s694_s {X : Int → Int} {LX : Nat} : ck_Ok p2_OL X LX 169 pl_s694 := ck_ok_s (O := p2_OL) (X := X) (LX := LX) (E := [(139, [pl_s194])]) (mi := 169) (cuts := []) (f := 76) (S := pl_s694) (lx := none) (XF := []) ⟨pl_nmu, ck_E1 (ck_S1 pl_s194_s ck_S0) ck_E0⟩ ck_X0 ck_l0 (by decide +kernel)
set_option maxRecDepth 100000 in
/-- GlacierMail.latest -/
noncomputable def pl_s695 : ck_Sum := ((8, 2, 12), 249, [.inr (.inr (.inl 1)), .inl (0, 7, []), .inl ((-2147483648), (-1), [])], ([], [], []), ([], []), [(.inl 3, 249, ([], [], [])), (.inl 0, 249, ([], [], []))])
set_option maxRecDepth 100000 in
theorem pl_s695_s {X : Int → Int} {LX : Nat} : ck_Ok p2_OL X LX 169 pl_s695 := ck_ok_s (O := p2_OL) (X := X) (LX := LX) (E := [(139, [pl_s197]), (129, [pl_s145])]) (mi := 169) (cuts := []) (f := 82) (S := pl_s695) (lx := none) (XF := []) ⟨pl_nmu, ck_E1 (ck_S1 pl_s197_s ck_S0) (ck_E1 (ck_S1 pl_s145_s ck_S0) ck_E0)⟩ ck_X0 ck_l0 (by decide +kernel)
set_option maxRecDepth 100000 in
/-- GlacierMail.latest -/
noncomputable def pl_s696 : ck_Sum := ((8, 2, 12), 249, [.inr (.inr (.inl 1)), .inl (0, 7, []), .inl (300, 2147483647, [])], ([], [], []), ([], []), [(.inl 3, 249, ([], [], [])), (.inl 0, 249, ([], [], []))])
set_option maxRecDepth 100000 in
theorem pl_s696_s {X : Int → Int} {LX : Nat} : ck_Ok p2_OL X LX 169 pl_s696 := ck_ok_s (O := p2_OL) (X := X) (LX := LX) (E := [(139, [pl_s197]), (129, [pl_s147])]) (mi := 169) (cuts := []) (f := 82) (S := pl_s696) (lx := none) (XF := []) ⟨pl_nmu, ck_E1 (ck_S1 pl_s197_s ck_S0) (ck_E1 (ck_S1 pl_s147_s ck_S0) ck_E0)⟩ ck_X0 ck_l0 (by decide +kernel)
set_option maxRecDepth 100000 in
/-- GlacierMail$Way.startHut -/
noncomputable def pl_s697 : ck_Sum := ((1, 0, 0), 249, [.inr (.inr (.inl 206)), .inl (0, 7, []), .inl (0, 299, [])], ([], [], []), ([(206, 2, 8)], []), [(.inr none, 249, ([], [], zl183))])
set_option maxRecDepth 100000 in
theorem pl_s697_s {X : Int → Int} {LX : Nat} : ck_Ok p2_OL X LX 170 pl_s697 := ck_ok_s (O := p2_OL) (X := X) (LX := LX) (E := [(10, [pl_s224]), (29, [pl_s691])]) (mi := 170) (cuts := []) (f := 104) (S := pl_s697) (lx := none) (XF := []) ⟨pl_nmu, ck_E1 (ck_S1 pl_s224_s ck_S0) (ck_E1 (ck_S1 pl_s691_s ck_S0) ck_E0)⟩ ck_X0 ck_l0 (by decide +kernel)
set_option maxRecDepth 100000 in
/-- GlacierMail.hut -/
noncomputable def pl_s699 : ck_Sum := ((8, 1, 6), 249, [.inr (.inr (.inl 1)), .inl ((-2147483648), (-1), []), .inl ((-2147483648), 2147483647, [])], ([], [], []), ([], []), [(.inl 3, 249, ([], [], []))])
set_option maxRecDepth 100000 in
theorem pl_s699_s {X : Int → Int} {LX : Nat} : ck_Ok p2_OL X LX 172 pl_s699 := ck_ok_s (O := p2_OL) (X := X) (LX := LX) (E := [(132, [pl_s153])]) (mi := 172) (cuts := []) (f := 76) (S := pl_s699) (lx := none) (XF := []) ⟨pl_nmu, ck_E1 (ck_S1 pl_s153_s ck_S0) ck_E0⟩ ck_X0 ck_l0 (by decide +kernel)
set_option maxRecDepth 100000 in
/-- GlacierMail.hut -/
noncomputable def pl_s700 : ck_Sum := ((8, 1, 6), 249, [.inr (.inr (.inl 1)), .inl (6, 2147483647, []), .inl ((-2147483648), 2147483647, [])], ([], [], []), ([], []), [(.inl 3, 249, ([], [], []))])
set_option maxRecDepth 100000 in
theorem pl_s700_s {X : Int → Int} {LX : Nat} : ck_Ok p2_OL X LX 172 pl_s700 := ck_ok_s (O := p2_OL) (X := X) (LX := LX) (E := [(132, [pl_s156])]) (mi := 172) (cuts := []) (f := 76) (S := pl_s700) (lx := none) (XF := []) ⟨pl_nmu, ck_E1 (ck_S1 pl_s156_s ck_S0) ck_E0⟩ ck_X0 ck_l0 (by decide +kernel)
set_option maxRecDepth 100000 in
/-- GlacierMail.hut -/
noncomputable def pl_s701 : ck_Sum := ((8, 2, 12), 249, [.inr (.inr (.inl 1)), .inl (0, 5, []), .inl ((-2147483648), (-1), [])], ([], [], []), ([], []), [(.inl 3, 249, ([], [], [])), (.inl 0, 249, ([], [], []))])
set_option maxRecDepth 100000 in
theorem pl_s701_s {X : Int → Int} {LX : Nat} : ck_Ok p2_OL X LX 172 pl_s701 := ck_ok_s (O := p2_OL) (X := X) (LX := LX) (E := [(132, [pl_s159])]) (mi := 172) (cuts := []) (f := 84) (S := pl_s701) (lx := none) (XF := []) ⟨pl_nmu, ck_E1 (ck_S1 pl_s159_s ck_S0) ck_E0⟩ ck_X0 ck_l0 (by decide +kernel)
set_option maxRecDepth 100000 in
/-- GlacierMail.hut -/
noncomputable def pl_s702 : ck_Sum := ((8, 2, 12), 249, [.inr (.inr (.inl 1)), .inl (0, 5, []), .inl (300, 2147483647, [])], ([], [], []), ([], []), [(.inl 3, 249, ([], [], [])), (.inl 0, 249, ([], [], []))])
set_option maxRecDepth 100000 in
theorem pl_s702_s {X : Int → Int} {LX : Nat} : ck_Ok p2_OL X LX 172 pl_s702 := ck_ok_s (O := p2_OL) (X := X) (LX := LX) (E := [(132, [pl_s159])]) (mi := 172) (cuts := []) (f := 90) (S := pl_s702) (lx := none) (XF := []) ⟨pl_nmu, ck_E1 (ck_S1 pl_s159_s ck_S0) ck_E0⟩ ck_X0 ck_l0 (by decide +kernel)
set_option maxRecDepth 100000 in
/-- GlacierMail.without -/
noncomputable def pl_s704 : ck_Sum := ((8, 1, 6), 249, [.inr (.inr (.inl 1)), .inl ((-2147483648), (-1), []), .inl ((-2147483648), 2147483647, [])], ([], [], []), ([], []), [(.inl 3, 249, ([], [], []))])
set_option maxRecDepth 100000 in
theorem pl_s704_s {X : Int → Int} {LX : Nat} : ck_Ok p2_OL X LX 174 pl_s704 := ck_ok_s (O := p2_OL) (X := X) (LX := LX) (E := [(143, [pl_s227])]) (mi := 174) (cuts := []) (f := 76) (S := pl_s704) (lx := none) (XF := []) ⟨pl_nmu, ck_E1 (ck_S1 pl_s227_s ck_S0) ck_E0⟩ ck_X0 ck_l0 (by decide +kernel)
set_option maxRecDepth 100000 in
/-- GlacierMail.without -/
noncomputable def pl_s705 : ck_Sum := ((8, 1, 6), 249, [.inr (.inr (.inl 1)), .inl (24, 2147483647, []), .inl ((-2147483648), 2147483647, [])], ([], [], []), ([], []), [(.inl 3, 249, ([], [], []))])
set_option maxRecDepth 100000 in
theorem pl_s705_s {X : Int → Int} {LX : Nat} : ck_Ok p2_OL X LX 174 pl_s705 := ck_ok_s (O := p2_OL) (X := X) (LX := LX) (E := [(143, [pl_s230])]) (mi := 174) (cuts := []) (f := 76) (S := pl_s705) (lx := none) (XF := []) ⟨pl_nmu, ck_E1 (ck_S1 pl_s230_s ck_S0) ck_E0⟩ ck_X0 ck_l0 (by decide +kernel)
set_option maxRecDepth 100000 in
/-- GlacierMail.without -/
noncomputable def pl_s706 : ck_Sum := ((8, 2, 12), 249, [.inr (.inr (.inl 1)), .inl (0, 23, []), .inl ((-2147483648), (-1), [])], ([], [], []), ([], []), [(.inl 3, 249, ([], [], []))])
set_option maxRecDepth 100000 in
theorem pl_s706_s {X : Int → Int} {LX : Nat} : ck_Ok p2_OL X LX 174 pl_s706 := ck_ok_s (O := p2_OL) (X := X) (LX := LX) (E := [(143, [pl_s233]), (9, [pl_s137]), (133, [pl_s190])]) (mi := 174) (cuts := []) (f := 90) (S := pl_s706) (lx := none) (XF := []) ⟨pl_nmu, ck_E1 (ck_S1 pl_s233_s ck_S0) (ck_E1 (ck_S1 pl_s137_s ck_S0) (ck_E1 (ck_S1 pl_s190_s ck_S0) ck_E0))⟩ ck_X0 ck_l0 (by decide +kernel)
set_option maxRecDepth 100000 in
/-- GlacierMail.without -/
noncomputable def pl_s707 : ck_Sum := ((8, 2, 12), 249, [.inr (.inr (.inl 1)), .inl (0, 23, []), .inl (8, 2147483647, [])], ([], [], []), ([], []), [(.inl 3, 249, ([], [], []))])
set_option maxRecDepth 100000 in
theorem pl_s707_s {X : Int → Int} {LX : Nat} : ck_Ok p2_OL X LX 174 pl_s707 := ck_ok_s (O := p2_OL) (X := X) (LX := LX) (E := [(143, [pl_s233]), (9, [pl_s137]), (133, [pl_s193])]) (mi := 174) (cuts := []) (f := 90) (S := pl_s707) (lx := none) (XF := []) ⟨pl_nmu, ck_E1 (ck_S1 pl_s233_s ck_S0) (ck_E1 (ck_S1 pl_s137_s ck_S0) (ck_E1 (ck_S1 pl_s193_s ck_S0) ck_E0))⟩ ck_X0 ck_l0 (by decide +kernel)
set_option maxRecDepth 100000 in
/-- GlacierMail$Way.leaveOut -/
noncomputable def pl_s708 : ck_Sum := ((0, 0, 0), 249, [.inr (.inr (.inl 206)), .inl (0, 7, [])], ([], [], []), ([(206, 4, 4)], []), [(.inr none, 249, ([], [], [(206, 4, 4, (0, 7, []))]))])
set_option maxRecDepth 100000 in
theorem pl_s708_s {X : Int → Int} {LX : Nat} : ck_Ok p2_OL X LX 175 pl_s708 := ck_ok_s (O := p2_OL) (X := X) (LX := LX) (E := []) (mi := 175) (cuts := []) (f := 78) (S := pl_s708) (lx := none) (XF := []) ⟨pl_nmu, ck_E0⟩ ck_X0 ck_l0 (by decide +kernel)
set_option maxRecDepth 100000 in
/-- GlacierMail.moved -/
noncomputable def pl_s710 : ck_Sum := ((8, 1, 6), 249, [.inr (.inr (.inl 1)), .inl ((-2147483648), (-1), [])], ([], [], []), ([], []), [(.inl 3, 249, ([], [], []))])
set_option maxRecDepth 100000 in
theorem pl_s710_s {X : Int → Int} {LX : Nat} : ck_Ok p2_OL X LX 177 pl_s710 := ck_ok_s (O := p2_OL) (X := X) (LX := LX) (E := [(143, [pl_s227])]) (mi := 177) (cuts := []) (f := 76) (S := pl_s710) (lx := none) (XF := []) ⟨pl_nmu, ck_E1 (ck_S1 pl_s227_s ck_S0) ck_E0⟩ ck_X0 ck_l0 (by decide +kernel)
set_option maxRecDepth 100000 in
/-- GlacierMail.moved -/
noncomputable def pl_s711 : ck_Sum := ((8, 1, 6), 249, [.inr (.inr (.inl 1)), .inl (24, 2147483647, [])], ([], [], []), ([], []), [(.inl 3, 249, ([], [], []))])
set_option maxRecDepth 100000 in
theorem pl_s711_s {X : Int → Int} {LX : Nat} : ck_Ok p2_OL X LX 177 pl_s711 := ck_ok_s (O := p2_OL) (X := X) (LX := LX) (E := [(143, [pl_s230])]) (mi := 177) (cuts := []) (f := 76) (S := pl_s711) (lx := none) (XF := []) ⟨pl_nmu, ck_E1 (ck_S1 pl_s230_s ck_S0) ck_E0⟩ ck_X0 ck_l0 (by decide +kernel)
set_option maxRecDepth 100000 in
/-- GlacierMail.outIn -/
noncomputable def pl_s714 : ck_Sum := ((2, 0, 0), 249, [.inr (.inr (.inl 1)), .inl ((-2147483648), 299, []), .inl (ck_one 0)], ([], [], []), ([], []), [(.inr (some (.inl ((-2147483648), 2147483647, []))), 249, ([], [], []))])
set_option maxRecDepth 100000 in
theorem pl_s714_s {X : Int → Int} {LX : Nat} : ck_Ok p2_OL X LX 47 pl_s714 := ck_ok_s (O := p2_OL) (X := X) (LX := LX) (E := [(9, [pl_s201]), (10, [pl_s218]), (28, [pl_s205])]) (mi := 47) (cuts := [(5, [some (.inr (.inr (.inl 1))), some (.inl ((-2147483648), 299, [])), some (.inl (ck_one 0)), some (.inl ((-2147483648), 2147483647, [])), some (.inl (0, 24, []))], ([], [], []), 100, .inl 4, true)]) (f := 182) (S := pl_s714) (lx := none) (XF := []) ⟨pl_nmu, ck_E1 (ck_S1 pl_s201_s ck_S0) (ck_E1 (ck_S1 pl_s218_s ck_S0) (ck_E1 (ck_S1 pl_s205_s ck_S0) ck_E0))⟩ ck_X0 ck_l0 (by decide +kernel)
set_option maxRecDepth 100000 in
/-- GlacierMail.passes -/
noncomputable def pl_s716 : ck_Sum := ((8, 1, 6), 249, [.inr (.inr (.inl 1)), .inl ((-2147483648), (-1), [])], ([], [], []), ([], []), [(.inl 3, 249, ([], [], []))])
set_option maxRecDepth 100000 in
theorem pl_s716_s {X : Int → Int} {LX : Nat} : ck_Ok p2_OL X LX 179 pl_s716 := ck_ok_s (O := p2_OL) (X := X) (LX := LX) (E := [(143, [pl_s227])]) (mi := 179) (cuts := []) (f := 76) (S := pl_s716) (lx := none) (XF := []) ⟨pl_nmu, ck_E1 (ck_S1 pl_s227_s ck_S0) ck_E0⟩ ck_X0 ck_l0 (by decide +kernel)
set_option maxRecDepth 100000 in
/-- GlacierMail.passes -/
noncomputable def pl_s717 : ck_Sum := ((8, 1, 6), 249, [.inr (.inr (.inl 1)), .inl (24, 2147483647, [])], ([], [], []), ([], []), [(.inl 3, 249, ([], [], []))])
set_option maxRecDepth 100000 in
theorem pl_s717_s {X : Int → Int} {LX : Nat} : ck_Ok p2_OL X LX 179 pl_s717 := ck_ok_s (O := p2_OL) (X := X) (LX := LX) (E := [(143, [pl_s230])]) (mi := 179) (cuts := []) (f := 76) (S := pl_s717) (lx := none) (XF := []) ⟨pl_nmu, ck_E1 (ck_S1 pl_s230_s ck_S0) ck_E0⟩ ck_X0 ck_l0 (by decide +kernel)
set_option maxRecDepth 100000 in
/-- GlacierMail.sameLane -/
noncomputable def pl_s718 : ck_Sum := ((1, 0, 0), 249, [.inr (.inr (.inl 1)), .inl (0, 23, []), .inl (0, 23, [])], ([], [], []), ([], []), [(.inr (some (.inl (ck_one 0))), 249, ([], [], [])), (.inr (some (.inl (ck_one 1))), 249, ([], [], []))])
set_option maxRecDepth 100000 in
theorem pl_s718_s {X : Int → Int} {LX : Nat} : ck_Ok p2_OL X LX 180 pl_s718 := ck_ok_s (O := p2_OL) (X := X) (LX := LX) (E := [(10, [pl_s204])]) (mi := 180) (cuts := []) (f := 102) (S := pl_s718) (lx := none) (XF := []) ⟨pl_nmu, ck_E1 (ck_S1 pl_s204_s ck_S0) ck_E0⟩ ck_X0 ck_l0 (by decide +kernel)
set_option maxRecDepth 100000 in
/-- GlacierMail$Way.start -/
noncomputable def pl_s719 : ck_Sum := ((0, 0, 0), 249, [.inr (.inr (.inl 207)), .inl ((-1), 299, []), .inl ((-1), 299, []), .inl ((-1), 299, []), .inl (ck_one 0)], ([], [], []), ([(207, 2, 8)], []), [(.inr none, 249, ([], [], zl190))])
set_option maxRecDepth 100000 in
theorem pl_s719_s {X : Int → Int} {LX : Nat} : ck_Ok p2_OL X LX 29 pl_s719 := ck_ok_s (O := p2_OL) (X := X) (LX := LX) (E := []) (mi := 29) (cuts := []) (f := 114) (S := pl_s719) (lx := none) (XF := []) ⟨pl_nmu, ck_E0⟩ ck_X0 ck_l0 (by decide +kernel)
set_option maxRecDepth 100000 in
/-- GlacierMail$Way.start -/
noncomputable def pl_s720 : ck_Sum := ((0, 0, 0), 249, [.inr (.inr (.inl 207)), .inl ((-1), 299, []), .inl ((-1), 299, []), .inl ((-1), 299, []), .inl (ck_one 1)], ([], [], []), ([(207, 2, 8)], []), [(.inr none, 249, ([], [], zl191))])
set_option maxRecDepth 100000 in
theorem pl_s720_s {X : Int → Int} {LX : Nat} : ck_Ok p2_OL X LX 29 pl_s720 := ck_ok_s (O := p2_OL) (X := X) (LX := LX) (E := []) (mi := 29) (cuts := []) (f := 114) (S := pl_s720) (lx := none) (XF := []) ⟨pl_nmu, ck_E0⟩ ck_X0 ck_l0 (by decide +kernel)
set_option maxRecDepth 100000 in
/-- GlacierMail$Way.startLetter -/
noncomputable def pl_s721 : ck_Sum := ((2, 0, 0), 249, [.inr (.inr (.inl 207)), .inl (0, 23, [])], ([], [], []), ([(207, 2, 8)], []), [(.inr none, 249, ([], [], zl192))])
set_option maxRecDepth 100000 in
theorem pl_s721_s {X : Int → Int} {LX : Nat} : ck_Ok p2_OL X LX 27 pl_s721 := ck_ok_s (O := p2_OL) (X := X) (LX := LX) (E := [(10, [pl_s204]), (28, [pl_s205]), (29, [pl_s719, pl_s720])]) (mi := 27) (cuts := []) (f := 116) (S := pl_s721) (lx := none) (XF := []) ⟨pl_nmu, ck_E1 (ck_S1 pl_s204_s ck_S0) (ck_E1 (ck_S1 pl_s205_s ck_S0) (ck_E1 (ck_S1 pl_s719_s (ck_S1 pl_s720_s ck_S0)) ck_E0))⟩ ck_X0 ck_l0 (by decide +kernel)
set_option maxRecDepth 100000 in
/-- GlacierMail$Way.deepAfter -/
noncomputable def pl_s723 : ck_Sum := ((1, 0, 0), 249, [.inr (.inr (.inl 207))], ([], [], []), ([], []), [(.inr (some (.inl (0, 99, []))), 249, ([], [], []))])
set_option maxRecDepth 100000 in
theorem pl_s723_s {X : Int → Int} {LX : Nat} : ck_Ok p2_OL X LX 33 pl_s723 := ck_ok_s (O := p2_OL) (X := X) (LX := LX) (E := [(34, [pl_s179])]) (mi := 33) (cuts := []) (f := 110) (S := pl_s723) (lx := none) (XF := []) ⟨pl_nmu, ck_E1 (ck_S1 pl_s179_s ck_S0) ck_E0⟩ ck_X0 ck_l0 (by decide +kernel)
set_option maxRecDepth 100000 in
/-- GlacierMail$Way.takeFloods -/
noncomputable def pl_s724 : ck_Sum := ((1, 0, 0), 249, [.inr (.inr (.inl 207))], ([], [], []), ([(207, 5, 5), (207, 8, 8)], []), [(.inr none, 249, ([], [], []))])
set_option maxRecDepth 100000 in
theorem pl_s724_s {X : Int → Int} {LX : Nat} : ck_Ok p2_OL X LX 43 pl_s724 := ck_ok_s (O := p2_OL) (X := X) (LX := LX) (E := [(44, [pl_s211]), (9, [pl_s137]), (10, [pl_s138])]) (mi := 43) (cuts := [(22, [some (.inr (.inr (.inl 207))), some (.inr (.inr (.inl 6))), some (.inl ((-2147483648), 2147483647, [])), some (.inl (0, 9, [])), none], ([], [], []), 100, .inl 3, true)]) (f := 290) (S := pl_s724) (lx := none) (XF := []) ⟨pl_nmu, ck_E1 (ck_S1 pl_s211_s ck_S0) (ck_E1 (ck_S1 pl_s137_s ck_S0) (ck_E1 (ck_S1 pl_s138_s ck_S0) ck_E0))⟩ ck_X0 ck_l0 (by decide +kernel)
set_option maxRecDepth 100000 in
/-- GlacierMail.writers -/
noncomputable def pl_s732 : ck_Sum := ((8, 1, 6), 249, [.inr (.inr (.inl 1)), .inl ((-2147483648), (-1), []), .inl ((-2147483648), 2147483647, []), .inl ((-2147483648), 2147483647, [])], ([], [], []), ([], []), [(.inl 3, 249, ([], [], []))])
set_option maxRecDepth 100000 in
theorem pl_s732_s {X : Int → Int} {LX : Nat} : ck_Ok p2_OL X LX 186 pl_s732 := ck_ok_s (O := p2_OL) (X := X) (LX := LX) (E := [(132, [pl_s153])]) (mi := 186) (cuts := []) (f := 76) (S := pl_s732) (lx := none) (XF := []) ⟨pl_nmu, ck_E1 (ck_S1 pl_s153_s ck_S0) ck_E0⟩ ck_X0 ck_l0 (by decide +kernel)
set_option maxRecDepth 100000 in
/-- GlacierMail.writers -/
noncomputable def pl_s733 : ck_Sum := ((8, 1, 6), 249, [.inr (.inr (.inl 1)), .inl (6, 2147483647, []), .inl ((-2147483648), 2147483647, []), .inl ((-2147483648), 2147483647, [])], ([], [], []), ([], []), [(.inl 3, 249, ([], [], []))])
set_option maxRecDepth 100000 in
theorem pl_s733_s {X : Int → Int} {LX : Nat} : ck_Ok p2_OL X LX 186 pl_s733 := ck_ok_s (O := p2_OL) (X := X) (LX := LX) (E := [(132, [pl_s156])]) (mi := 186) (cuts := []) (f := 76) (S := pl_s733) (lx := none) (XF := []) ⟨pl_nmu, ck_E1 (ck_S1 pl_s156_s ck_S0) ck_E0⟩ ck_X0 ck_l0 (by decide +kernel)
set_option maxRecDepth 100000 in
/-- GlacierMail.needFind -/
noncomputable def pl_s734 : ck_Sum := ((7, 1, 6), 249, [.inr (.inr (.inl 1)), .inl ((-2147483648), (-1), []), .inl ((-2147483648), 2147483647, [])], ([], [], []), ([], []), [(.inl 0, 249, ([], [], []))])
set_option maxRecDepth 100000 in
theorem pl_s734_s {X : Int → Int} {LX : Nat} : ck_Ok p2_OL X LX 187 pl_s734 := ck_ok_s (O := p2_OL) (X := X) (LX := LX) (E := [(129, [pl_s145])]) (mi := 187) (cuts := []) (f := 76) (S := pl_s734) (lx := none) (XF := []) ⟨pl_nmu, ck_E1 (ck_S1 pl_s145_s ck_S0) ck_E0⟩ ck_X0 ck_l0 (by decide +kernel)
set_option maxRecDepth 100000 in
/-- GlacierMail.writers -/
noncomputable def pl_s735 : ck_Sum := ((8, 2, 12), 249, [.inr (.inr (.inl 1)), .inl (0, 5, []), .inl ((-2147483648), (-1), []), .inl ((-2147483648), 2147483647, [])], ([], [], []), ([], []), [(.inl 3, 249, ([], [], [])), (.inl 0, 249, ([], [], []))])
set_option maxRecDepth 100000 in
theorem pl_s735_s {X : Int → Int} {LX : Nat} : ck_Ok p2_OL X LX 186 pl_s735 := ck_ok_s (O := p2_OL) (X := X) (LX := LX) (E := [(132, [pl_s159]), (187, [pl_s734])]) (mi := 186) (cuts := []) (f := 84) (S := pl_s735) (lx := none) (XF := []) ⟨pl_nmu, ck_E1 (ck_S1 pl_s159_s ck_S0) (ck_E1 (ck_S1 pl_s734_s ck_S0) ck_E0)⟩ ck_X0 ck_l0 (by decide +kernel)
set_option maxRecDepth 100000 in
/-- GlacierMail.needFind -/
noncomputable def pl_s736 : ck_Sum := ((7, 1, 6), 249, [.inr (.inr (.inl 1)), .inl (300, 2147483647, []), .inl ((-2147483648), 2147483647, [])], ([], [], []), ([], []), [(.inl 0, 249, ([], [], []))])
set_option maxRecDepth 100000 in
theorem pl_s736_s {X : Int → Int} {LX : Nat} : ck_Ok p2_OL X LX 187 pl_s736 := ck_ok_s (O := p2_OL) (X := X) (LX := LX) (E := [(129, [pl_s147])]) (mi := 187) (cuts := []) (f := 76) (S := pl_s736) (lx := none) (XF := []) ⟨pl_nmu, ck_E1 (ck_S1 pl_s147_s ck_S0) ck_E0⟩ ck_X0 ck_l0 (by decide +kernel)
set_option maxRecDepth 100000 in
/-- GlacierMail.writers -/
noncomputable def pl_s737 : ck_Sum := ((8, 2, 12), 249, [.inr (.inr (.inl 1)), .inl (0, 5, []), .inl (300, 2147483647, []), .inl ((-2147483648), 2147483647, [])], ([], [], []), ([], []), [(.inl 3, 249, ([], [], [])), (.inl 0, 249, ([], [], []))])
set_option maxRecDepth 100000 in
theorem pl_s737_s {X : Int → Int} {LX : Nat} : ck_Ok p2_OL X LX 186 pl_s737 := ck_ok_s (O := p2_OL) (X := X) (LX := LX) (E := [(132, [pl_s159]), (187, [pl_s736])]) (mi := 186) (cuts := []) (f := 84) (S := pl_s737) (lx := none) (XF := []) ⟨pl_nmu, ck_E1 (ck_S1 pl_s159_s ck_S0) (ck_E1 (ck_S1 pl_s736_s ck_S0) ck_E0)⟩ ck_X0 ck_l0 (by decide +kernel)
set_option maxRecDepth 100000 in
/-- GlacierMail.needFind -/
noncomputable def pl_s738 : ck_Sum := ((6, 1, 6), 249, [.inr (.inr (.inl 1)), .inl (0, 299, []), .inl ((-2147483648), (-1), [])], ([], [], []), ([], []), [(.inl 0, 249, ([], [], []))])
set_option maxRecDepth 100000 in
theorem pl_s738_s {X : Int → Int} {LX : Nat} : ck_Ok p2_OL X LX 187 pl_s738 := ck_ok_s (O := p2_OL) (X := X) (LX := LX) (E := [(129, [pl_s149])]) (mi := 187) (cuts := []) (f := 82) (S := pl_s738) (lx := none) (XF := []) ⟨pl_nmu, ck_E1 (ck_S1 pl_s149_s ck_S0) ck_E0⟩ ck_X0 ck_l0 (by decide +kernel)
set_option maxRecDepth 100000 in
/-- GlacierMail.writers -/
noncomputable def pl_s739 : ck_Sum := ((8, 2, 12), 249, [.inr (.inr (.inl 1)), .inl (0, 5, []), .inl (0, 299, []), .inl ((-2147483648), (-1), [])], ([], [], []), ([], []), [(.inl 3, 249, ([], [], [])), (.inl 0, 249, ([], [], []))])
set_option maxRecDepth 100000 in
theorem pl_s739_s {X : Int → Int} {LX : Nat} : ck_Ok p2_OL X LX 186 pl_s739 := ck_ok_s (O := p2_OL) (X := X) (LX := LX) (E := [(132, [pl_s159]), (187, [pl_s738])]) (mi := 186) (cuts := []) (f := 84) (S := pl_s739) (lx := none) (XF := []) ⟨pl_nmu, ck_E1 (ck_S1 pl_s159_s ck_S0) (ck_E1 (ck_S1 pl_s738_s ck_S0) ck_E0)⟩ ck_X0 ck_l0 (by decide +kernel)
set_option maxRecDepth 100000 in
/-- GlacierMail.needFind -/
noncomputable def pl_s740 : ck_Sum := ((6, 1, 6), 249, [.inr (.inr (.inl 1)), .inl (0, 299, []), .inl (100, 2147483647, [])], ([], [], []), ([], []), [(.inl 0, 249, ([], [], []))])
set_option maxRecDepth 100000 in
theorem pl_s740_s {X : Int → Int} {LX : Nat} : ck_Ok p2_OL X LX 187 pl_s740 := ck_ok_s (O := p2_OL) (X := X) (LX := LX) (E := [(129, [pl_s149])]) (mi := 187) (cuts := []) (f := 88) (S := pl_s740) (lx := none) (XF := []) ⟨pl_nmu, ck_E1 (ck_S1 pl_s149_s ck_S0) ck_E0⟩ ck_X0 ck_l0 (by decide +kernel)
set_option maxRecDepth 100000 in
/-- GlacierMail.writers -/
noncomputable def pl_s741 : ck_Sum := ((8, 2, 12), 249, [.inr (.inr (.inl 1)), .inl (0, 5, []), .inl (0, 299, []), .inl (100, 2147483647, [])], ([], [], []), ([], []), [(.inl 3, 249, ([], [], [])), (.inl 0, 249, ([], [], []))])
set_option maxRecDepth 100000 in
theorem pl_s741_s {X : Int → Int} {LX : Nat} : ck_Ok p2_OL X LX 186 pl_s741 := ck_ok_s (O := p2_OL) (X := X) (LX := LX) (E := [(132, [pl_s159]), (187, [pl_s740])]) (mi := 186) (cuts := []) (f := 84) (S := pl_s741) (lx := none) (XF := []) ⟨pl_nmu, ck_E1 (ck_S1 pl_s159_s ck_S0) (ck_E1 (ck_S1 pl_s740_s ck_S0) ck_E0)⟩ ck_X0 ck_l0 (by decide +kernel)
set_option maxRecDepth 100000 in
/-- GlacierMail.needFind -/
noncomputable def pl_s742 : ck_Sum := ((1, 0, 0), 249, [.inr (.inr (.inl 1)), .inl (0, 299, []), .inl (0, 99, [])], ([], [], []), ([], []), [(.inr none, 249, ([], [], []))])
set_option maxRecDepth 100000 in
theorem pl_s742_s {X : Int → Int} {LX : Nat} : ck_Ok p2_OL X LX 187 pl_s742 := ck_ok_s (O := p2_OL) (X := X) (LX := LX) (E := [(129, [pl_s149])]) (mi := 187) (cuts := []) (f := 88) (S := pl_s742) (lx := none) (XF := []) ⟨pl_nmu, ck_E1 (ck_S1 pl_s149_s ck_S0) ck_E0⟩ ck_X0 ck_l0 (by decide +kernel)
set_option maxRecDepth 100000 in
/-- GlacierMail.wrote -/
noncomputable def pl_s745 : ck_Sum := ((8, 1, 6), 249, [.inr (.inr (.inl 1)), .inl ((-2147483648), (-1), []), .inl ((-2147483648), 2147483647, []), .inl ((-2147483648), 2147483647, []), .inl ((-2147483648), 2147483647, [])], ([], [], []), ([], []), [(.inl 3, 249, ([], [], []))])
set_option maxRecDepth 100000 in
theorem pl_s745_s {X : Int → Int} {LX : Nat} : ck_Ok p2_OL X LX 190 pl_s745 := ck_ok_s (O := p2_OL) (X := X) (LX := LX) (E := [(139, [pl_s191])]) (mi := 190) (cuts := []) (f := 76) (S := pl_s745) (lx := none) (XF := []) ⟨pl_nmu, ck_E1 (ck_S1 pl_s191_s ck_S0) ck_E0⟩ ck_X0 ck_l0 (by decide +kernel)
set_option maxRecDepth 100000 in
/-- GlacierMail.wrote -/
noncomputable def pl_s746 : ck_Sum := ((8, 1, 6), 249, [.inr (.inr (.inl 1)), .inl (8, 2147483647, []), .inl ((-2147483648), 2147483647, []), .inl ((-2147483648), 2147483647, []), .inl ((-2147483648), 2147483647, [])], ([], [], []), ([], []), [(.inl 3, 249, ([], [], []))])
set_option maxRecDepth 100000 in
theorem pl_s746_s {X : Int → Int} {LX : Nat} : ck_Ok p2_OL X LX 190 pl_s746 := ck_ok_s (O := p2_OL) (X := X) (LX := LX) (E := [(139, [pl_s194])]) (mi := 190) (cuts := []) (f := 76) (S := pl_s746) (lx := none) (XF := []) ⟨pl_nmu, ck_E1 (ck_S1 pl_s194_s ck_S0) ck_E0⟩ ck_X0 ck_l0 (by decide +kernel)
set_option maxRecDepth 100000 in
/-- GlacierMail.wrote -/
noncomputable def pl_s747 : ck_Sum := ((8, 2, 12), 249, [.inr (.inr (.inl 1)), .inl (0, 7, []), .inl ((-2147483648), (-1), []), .inl ((-2147483648), 2147483647, []), .inl ((-2147483648), 2147483647, [])], ([], [], []), ([], []), [(.inl 3, 249, ([], [], []))])
set_option maxRecDepth 100000 in
theorem pl_s747_s {X : Int → Int} {LX : Nat} : ck_Ok p2_OL X LX 190 pl_s747 := ck_ok_s (O := p2_OL) (X := X) (LX := LX) (E := [(139, [pl_s197]), (132, [pl_s153])]) (mi := 190) (cuts := []) (f := 82) (S := pl_s747) (lx := none) (XF := []) ⟨pl_nmu, ck_E1 (ck_S1 pl_s197_s ck_S0) (ck_E1 (ck_S1 pl_s153_s ck_S0) ck_E0)⟩ ck_X0 ck_l0 (by decide +kernel)
set_option maxRecDepth 100000 in
/-- GlacierMail.wrote -/
noncomputable def pl_s748 : ck_Sum := ((8, 2, 12), 249, [.inr (.inr (.inl 1)), .inl (0, 7, []), .inl (6, 2147483647, []), .inl ((-2147483648), 2147483647, []), .inl ((-2147483648), 2147483647, [])], ([], [], []), ([], []), [(.inl 3, 249, ([], [], []))])
set_option maxRecDepth 100000 in
theorem pl_s748_s {X : Int → Int} {LX : Nat} : ck_Ok p2_OL X LX 190 pl_s748 := ck_ok_s (O := p2_OL) (X := X) (LX := LX) (E := [(139, [pl_s197]), (132, [pl_s156])]) (mi := 190) (cuts := []) (f := 82) (S := pl_s748) (lx := none) (XF := []) ⟨pl_nmu, ck_E1 (ck_S1 pl_s197_s ck_S0) (ck_E1 (ck_S1 pl_s156_s ck_S0) ck_E0)⟩ ck_X0 ck_l0 (by decide +kernel)
set_option maxRecDepth 100000 in
/-- GlacierMail.wrote -/
noncomputable def pl_s749 : ck_Sum := ((8, 3, 18), 249, [.inr (.inr (.inl 1)), .inl (0, 7, []), .inl (0, 5, []), .inl ((-2147483648), (-1), []), .inl ((-2147483648), 2147483647, [])], ([], [], []), ([], []), [(.inl 3, 249, ([], [], [])), (.inl 0, 249, ([], [], []))])
set_option maxRecDepth 100000 in
theorem pl_s749_s {X : Int → Int} {LX : Nat} : ck_Ok p2_OL X LX 190 pl_s749 := ck_ok_s (O := p2_OL) (X := X) (LX := LX) (E := [(139, [pl_s197]), (132, [pl_s159]), (187, [pl_s734])]) (mi := 190) (cuts := []) (f := 90) (S := pl_s749) (lx := none) (XF := []) ⟨pl_nmu, ck_E1 (ck_S1 pl_s197_s ck_S0) (ck_E1 (ck_S1 pl_s159_s ck_S0) (ck_E1 (ck_S1 pl_s734_s ck_S0) ck_E0))⟩ ck_X0 ck_l0 (by decide +kernel)
set_option maxRecDepth 100000 in
/-- GlacierMail.wrote -/
noncomputable def pl_s750 : ck_Sum := ((8, 3, 18), 249, [.inr (.inr (.inl 1)), .inl (0, 7, []), .inl (0, 5, []), .inl (300, 2147483647, []), .inl ((-2147483648), 2147483647, [])], ([], [], []), ([], []), [(.inl 3, 249, ([], [], [])), (.inl 0, 249, ([], [], []))])
set_option maxRecDepth 100000 in
theorem pl_s750_s {X : Int → Int} {LX : Nat} : ck_Ok p2_OL X LX 190 pl_s750 := ck_ok_s (O := p2_OL) (X := X) (LX := LX) (E := [(139, [pl_s197]), (132, [pl_s159]), (187, [pl_s736])]) (mi := 190) (cuts := []) (f := 90) (S := pl_s750) (lx := none) (XF := []) ⟨pl_nmu, ck_E1 (ck_S1 pl_s197_s ck_S0) (ck_E1 (ck_S1 pl_s159_s ck_S0) (ck_E1 (ck_S1 pl_s736_s ck_S0) ck_E0))⟩ ck_X0 ck_l0 (by decide +kernel)
set_option maxRecDepth 100000 in
/-- GlacierMail.wrote -/
noncomputable def pl_s751 : ck_Sum := ((8, 3, 18), 249, [.inr (.inr (.inl 1)), .inl (0, 7, []), .inl (0, 5, []), .inl (0, 299, []), .inl ((-2147483648), (-1), [])], ([], [], []), ([], []), [(.inl 3, 249, ([], [], [])), (.inl 0, 249, ([], [], []))])
set_option maxRecDepth 100000 in
theorem pl_s751_s {X : Int → Int} {LX : Nat} : ck_Ok p2_OL X LX 190 pl_s751 := ck_ok_s (O := p2_OL) (X := X) (LX := LX) (E := [(139, [pl_s197]), (132, [pl_s159]), (187, [pl_s738])]) (mi := 190) (cuts := []) (f := 90) (S := pl_s751) (lx := none) (XF := []) ⟨pl_nmu, ck_E1 (ck_S1 pl_s197_s ck_S0) (ck_E1 (ck_S1 pl_s159_s ck_S0) (ck_E1 (ck_S1 pl_s738_s ck_S0) ck_E0))⟩ ck_X0 ck_l0 (by decide +kernel)
set_option maxRecDepth 100000 in
/-- GlacierMail.wrote -/
noncomputable def pl_s752 : ck_Sum := ((8, 3, 18), 249, [.inr (.inr (.inl 1)), .inl (0, 7, []), .inl (0, 5, []), .inl (0, 299, []), .inl (100, 2147483647, [])], ([], [], []), ([], []), [(.inl 3, 249, ([], [], [])), (.inl 0, 249, ([], [], []))])
set_option maxRecDepth 100000 in
theorem pl_s752_s {X : Int → Int} {LX : Nat} : ck_Ok p2_OL X LX 190 pl_s752 := ck_ok_s (O := p2_OL) (X := X) (LX := LX) (E := [(139, [pl_s197]), (132, [pl_s159]), (187, [pl_s740])]) (mi := 190) (cuts := []) (f := 90) (S := pl_s752) (lx := none) (XF := []) ⟨pl_nmu, ck_E1 (ck_S1 pl_s197_s ck_S0) (ck_E1 (ck_S1 pl_s159_s ck_S0) (ck_E1 (ck_S1 pl_s740_s ck_S0) ck_E0))⟩ ck_X0 ck_l0 (by decide +kernel)
set_option maxRecDepth 100000 in
/-- GlacierMail$Rows.size -/
noncomputable def pl_s754 : ck_Sum := ((0, 0, 0), 249, [.inr (.inr (.inl 12))], ([], [], []), ([], []), [(.inr (some (.inl (0, 6, []))), 249, ([], [], []))])
set_option maxRecDepth 100000 in
theorem pl_s754_s {X : Int → Int} {LX : Nat} : ck_Ok p2_OL X LX 9 pl_s754 := ck_ok_s (O := p2_OL) (X := X) (LX := LX) (E := []) (mi := 9) (cuts := []) (f := 76) (S := pl_s754) (lx := none) (XF := []) ⟨pl_nmu, ck_E0⟩ ck_X0 ck_l0 (by decide +kernel)
set_option maxRecDepth 100000 in
/-- GlacierMail.need -/
noncomputable def pl_s755 : ck_Sum := ((6, 1, 6), 249, [.inr (.inr (.inl 1)), .inl ((-2147483648), (-1), []), .inl (0, 6, [])], ([], [], []), ([], []), [(.inl 3, 249, ([], [], []))])
set_option maxRecDepth 100000 in
theorem pl_s755_s {X : Int → Int} {LX : Nat} : ck_Ok p2_OL X LX 133 pl_s755 := ck_ok_s (O := p2_OL) (X := X) (LX := LX) (E := []) (mi := 133) (cuts := []) (f := 76) (S := pl_s755) (lx := none) (XF := []) ⟨pl_nmu, ck_E0⟩ ck_X0 ck_l0 (by decide +kernel)
set_option maxRecDepth 100000 in
/-- GlacierMail.needTable -/
noncomputable def pl_s756 : ck_Sum := ((7, 1, 6), 249, [.inr (.inr (.inl 1)), .inl ((-2147483648), (-1), [])], ([], [], []), ([], []), [(.inl 3, 249, ([], [], []))])
set_option maxRecDepth 100000 in
theorem pl_s756_s {X : Int → Int} {LX : Nat} : ck_Ok p2_OL X LX 193 pl_s756 := ck_ok_s (O := p2_OL) (X := X) (LX := LX) (E := [(9, [pl_s754]), (133, [pl_s755])]) (mi := 193) (cuts := []) (f := 84) (S := pl_s756) (lx := none) (XF := []) ⟨pl_nmu, ck_E1 (ck_S1 pl_s754_s ck_S0) (ck_E1 (ck_S1 pl_s755_s ck_S0) ck_E0)⟩ ck_X0 ck_l0 (by decide +kernel)
set_option maxRecDepth 100000 in
/-- GlacierMail.table -/
noncomputable def pl_s757 : ck_Sum := ((8, 1, 6), 249, [.inr (.inr (.inl 1)), .inl ((-2147483648), (-1), []), .inl ((-2147483648), 2147483647, [])], ([], [], []), ([], []), [(.inl 3, 249, ([], [], []))])
set_option maxRecDepth 100000 in
theorem pl_s757_s {X : Int → Int} {LX : Nat} : ck_Ok p2_OL X LX 192 pl_s757 := ck_ok_s (O := p2_OL) (X := X) (LX := LX) (E := [(193, [pl_s756])]) (mi := 192) (cuts := []) (f := 76) (S := pl_s757) (lx := none) (XF := []) ⟨pl_nmu, ck_E1 (ck_S1 pl_s756_s ck_S0) ck_E0⟩ ck_X0 ck_l0 (by decide +kernel)
set_option maxRecDepth 100000 in
/-- GlacierMail.need -/
noncomputable def pl_s758 : ck_Sum := ((6, 1, 6), 249, [.inr (.inr (.inl 1)), .inl (6, 2147483647, []), .inl (0, 6, [])], ([], [], []), ([], []), [(.inl 3, 249, ([], [], []))])
set_option maxRecDepth 100000 in
theorem pl_s758_s {X : Int → Int} {LX : Nat} : ck_Ok p2_OL X LX 133 pl_s758 := ck_ok_s (O := p2_OL) (X := X) (LX := LX) (E := []) (mi := 133) (cuts := []) (f := 82) (S := pl_s758) (lx := none) (XF := []) ⟨pl_nmu, ck_E0⟩ ck_X0 ck_l0 (by decide +kernel)
set_option maxRecDepth 100000 in
/-- GlacierMail.needTable -/
noncomputable def pl_s759 : ck_Sum := ((7, 1, 6), 249, [.inr (.inr (.inl 1)), .inl (6, 2147483647, [])], ([], [], []), ([], []), [(.inl 3, 249, ([], [], []))])
set_option maxRecDepth 100000 in
theorem pl_s759_s {X : Int → Int} {LX : Nat} : ck_Ok p2_OL X LX 193 pl_s759 := ck_ok_s (O := p2_OL) (X := X) (LX := LX) (E := [(9, [pl_s754]), (133, [pl_s758])]) (mi := 193) (cuts := []) (f := 84) (S := pl_s759) (lx := none) (XF := []) ⟨pl_nmu, ck_E1 (ck_S1 pl_s754_s ck_S0) (ck_E1 (ck_S1 pl_s758_s ck_S0) ck_E0)⟩ ck_X0 ck_l0 (by decide +kernel)
set_option maxRecDepth 100000 in
/-- GlacierMail.table -/
noncomputable def pl_s760 : ck_Sum := ((8, 1, 6), 249, [.inr (.inr (.inl 1)), .inl (6, 2147483647, []), .inl ((-2147483648), 2147483647, [])], ([], [], []), ([], []), [(.inl 3, 249, ([], [], []))])
set_option maxRecDepth 100000 in
theorem pl_s760_s {X : Int → Int} {LX : Nat} : ck_Ok p2_OL X LX 192 pl_s760 := ck_ok_s (O := p2_OL) (X := X) (LX := LX) (E := [(193, [pl_s759])]) (mi := 192) (cuts := []) (f := 76) (S := pl_s760) (lx := none) (XF := []) ⟨pl_nmu, ck_E1 (ck_S1 pl_s759_s ck_S0) ck_E0⟩ ck_X0 ck_l0 (by decide +kernel)
set_option maxRecDepth 100000 in
/-- GlacierMail.need -/
noncomputable def pl_s761 : ck_Sum := ((6, 1, 6), 249, [.inr (.inr (.inl 1)), .inl (0, 5, []), .inl (0, 6, [])], ([], [], []), ([], []), [(.inr none, 249, ([], [], [])), (.inl 3, 249, ([], [], []))])
set_option maxRecDepth 100000 in
theorem pl_s761_s {X : Int → Int} {LX : Nat} : ck_Ok p2_OL X LX 133 pl_s761 := ck_ok_s (O := p2_OL) (X := X) (LX := LX) (E := []) (mi := 133) (cuts := []) (f := 82) (S := pl_s761) (lx := none) (XF := []) ⟨pl_nmu, ck_E0⟩ ck_X0 ck_l0 (by decide +kernel)
set_option maxRecDepth 100000 in
/-- GlacierMail.needTable -/
noncomputable def pl_s762 : ck_Sum := ((7, 1, 6), 249, [.inr (.inr (.inl 1)), .inl (0, 5, [])], ([], [], []), ([], []), [(.inl 3, 249, ([], [], [])), (.inr none, 249, ([], [], []))])
set_option maxRecDepth 100000 in
theorem pl_s762_s {X : Int → Int} {LX : Nat} : ck_Ok p2_OL X LX 193 pl_s762 := ck_ok_s (O := p2_OL) (X := X) (LX := LX) (E := [(9, [pl_s754]), (133, [pl_s761])]) (mi := 193) (cuts := []) (f := 86) (S := pl_s762) (lx := none) (XF := []) ⟨pl_nmu, ck_E1 (ck_S1 pl_s754_s ck_S0) (ck_E1 (ck_S1 pl_s761_s ck_S0) ck_E0)⟩ ck_X0 ck_l0 (by decide +kernel)
set_option maxRecDepth 100000 in
/-- GlacierMail.table -/
noncomputable def pl_s763 : ck_Sum := ((8, 2, 12), 249, [.inr (.inr (.inl 1)), .inl (0, 5, []), .inl ((-2147483648), (-1), [])], ([], [], []), ([], []), [(.inl 3, 249, ([], [], []))])
set_option maxRecDepth 100000 in
theorem pl_s763_s {X : Int → Int} {LX : Nat} : ck_Ok p2_OL X LX 192 pl_s763 := ck_ok_s (O := p2_OL) (X := X) (LX := LX) (E := [(193, [pl_s762]), (132, [pl_s153])]) (mi := 192) (cuts := []) (f := 82) (S := pl_s763) (lx := none) (XF := []) ⟨pl_nmu, ck_E1 (ck_S1 pl_s762_s ck_S0) (ck_E1 (ck_S1 pl_s153_s ck_S0) ck_E0)⟩ ck_X0 ck_l0 (by decide +kernel)
set_option maxRecDepth 100000 in
/-- GlacierMail.table -/
noncomputable def pl_s764 : ck_Sum := ((8, 2, 12), 249, [.inr (.inr (.inl 1)), .inl (0, 5, []), .inl (6, 2147483647, [])], ([], [], []), ([], []), [(.inl 3, 249, ([], [], []))])
set_option maxRecDepth 100000 in
theorem pl_s764_s {X : Int → Int} {LX : Nat} : ck_Ok p2_OL X LX 192 pl_s764 := ck_ok_s (O := p2_OL) (X := X) (LX := LX) (E := [(193, [pl_s762]), (132, [pl_s156])]) (mi := 192) (cuts := []) (f := 82) (S := pl_s764) (lx := none) (XF := []) ⟨pl_nmu, ck_E1 (ck_S1 pl_s762_s ck_S0) (ck_E1 (ck_S1 pl_s156_s ck_S0) ck_E0)⟩ ck_X0 ck_l0 (by decide +kernel)
set_option maxRecDepth 100000 in
/-- GlacierMail$Rows.get -/
noncomputable def pl_s765 : ck_Sum := ((0, 0, 0), 249, [.inr (.inr (.inl 12)), .inl ((-2147483648), 2147483647, []), .inl ((-2147483648), 2147483647, [])], ([], [], []), ([], []), [(.inr (some (.inl (ck_one (-1)))), 249, ([], [], [])), (.inr (some (.inl (0, 20, []))), 249, ([], [], [(12, 3, 3, (1, 6, []))]))])
set_option maxRecDepth 100000 in
theorem pl_s765_s {X : Int → Int} {LX : Nat} : ck_Ok p2_OL X LX 10 pl_s765 := ck_ok_s (O := p2_OL) (X := X) (LX := LX) (E := []) (mi := 10) (cuts := []) (f := 114) (S := pl_s765) (lx := none) (XF := []) ⟨pl_nmu, ck_E0⟩ ck_X0 ck_l0 (by decide +kernel)
set_option maxRecDepth 100000 in
/-- GlacierMail.table -/
noncomputable def pl_s766 : ck_Sum := ((8, 2, 12), 249, [.inr (.inr (.inl 1)), .inl (0, 5, []), .inl (0, 5, [])], ([], [], []), ([], []), [(.inl 3, 249, ([], [], [])), (.inr (some (.inl (ck_one (-1)))), 249, ([], [], [])), (.inr (some (.inl (0, 20, []))), 249, ([], [], [(12, 3, 3, (1, 6, []))]))])
set_option maxRecDepth 100000 in
theorem pl_s766_s {X : Int → Int} {LX : Nat} : ck_Ok p2_OL X LX 192 pl_s766 := ck_ok_s (O := p2_OL) (X := X) (LX := LX) (E := [(193, [pl_s762]), (132, [pl_s159]), (10, [pl_s765])]) (mi := 192) (cuts := []) (f := 96) (S := pl_s766) (lx := none) (XF := []) ⟨pl_nmu, ck_E1 (ck_S1 pl_s762_s ck_S0) (ck_E1 (ck_S1 pl_s159_s ck_S0) (ck_E1 (ck_S1 pl_s765_s ck_S0) ck_E0))⟩ ck_X0 ck_l0 (by decide +kernel)
set_option maxRecDepth 100000 in
/-- GlacierMail.apart -/
noncomputable def pl_s767 : ck_Sum := ((8, 1, 6), 249, [.inr (.inr (.inl 1)), .inl ((-2147483648), (-1), []), .inl ((-2147483648), 2147483647, []), .inl ((-2147483648), 2147483647, [])], ([], [], []), ([], []), [(.inl 3, 249, ([], [], []))])
set_option maxRecDepth 100000 in
theorem pl_s767_s {X : Int → Int} {LX : Nat} : ck_Ok p2_OL X LX 195 pl_s767 := ck_ok_s (O := p2_OL) (X := X) (LX := LX) (E := [(193, [pl_s756])]) (mi := 195) (cuts := []) (f := 76) (S := pl_s767) (lx := none) (XF := []) ⟨pl_nmu, ck_E1 (ck_S1 pl_s756_s ck_S0) ck_E0⟩ ck_X0 ck_l0 (by decide +kernel)
end
