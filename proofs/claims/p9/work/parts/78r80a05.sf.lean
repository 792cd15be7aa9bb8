/-! 78r80a05.sf -/
section
/-! EVERY CALL ENDS, whatever was done before (laid by wip/am/p2k.py). -/
set_option maxRecDepth 100000 in
/-- GlacierMail$State.copyFrom -/
noncomputable def p2_s451 : ck_Sum := ((2, 0, 0), 245, [.inr (.inr (.inl 57)), .inr (.inr (.inl 3))], ([], [(3, 8, 0), (57, 8, 100057)], [(3, 6, 6, (0, 299, [(10, 0)]))]), (zl90, [(57, 8)]), [(.inr none, 245, ([], [(57, 8, 0)], [(57, 6, 6, (0, 299, [(10, 0)]))]))])
set_option maxRecDepth 100000 in
theorem p2_s451_s {X : Int → Int} {LX : Nat} : ck_Ok p2_O X LX 57 p2_s451 := ck_ok_s (O := p2_O) (X := X) (LX := LX) (E := [(58, [p2_s445, p2_s446, p2_s447, p2_s448, p2_s449, p2_s450])]) (mi := 57) (cuts := []) (f := 204) (S := p2_s451) (lx := none) (XF := []) ⟨p2_nmu, ck_E1 (ck_S1 p2_s445_s (ck_S1 p2_s446_s (ck_S1 p2_s447_s (ck_S1 p2_s448_s (ck_S1 p2_s449_s (ck_S1 p2_s450_s ck_S0)))))) ck_E0⟩ ck_X0 ck_l0 (by decide +kernel)
set_option maxRecDepth 100000 in
/-- GlacierMail$Rows.copyFrom -/
noncomputable def p2_s452 : ck_Sum := ((1, 0, 0), 245, [.inr (.inr (.inl 71)), .inr (.inr (.inl 4))], ([], [], []), ([(71, 3, 3), (72, 0, 55)], []), [(.inr none, 245, ([], [], []))])
set_option maxRecDepth 100000 in
theorem p2_s452_s {X : Int → Int} {LX : Nat} : ck_Ok p2_O X LX 58 p2_s452 := ck_ok_s (O := p2_O) (X := X) (LX := LX) (E := []) (mi := 58) (cuts := []) (f := 114) (S := p2_s452) (lx := none) (XF := []) ⟨p2_nmu, ck_E0⟩ ck_X0 ck_l0 (by decide +kernel)
set_option maxRecDepth 100000 in
/-- GlacierMail$Rows.copyFrom -/
noncomputable def p2_s453 : ck_Sum := ((1, 0, 0), 245, [.inr (.inr (.inl 73)), .inr (.inr (.inl 6))], ([], [], []), ([(73, 3, 3), (74, 0, 23)], []), [(.inr none, 245, ([], [], []))])
set_option maxRecDepth 100000 in
theorem p2_s453_s {X : Int → Int} {LX : Nat} : ck_Ok p2_O X LX 58 p2_s453 := ck_ok_s (O := p2_O) (X := X) (LX := LX) (E := []) (mi := 58) (cuts := []) (f := 114) (S := p2_s453) (lx := none) (XF := []) ⟨p2_nmu, ck_E0⟩ ck_X0 ck_l0 (by decide +kernel)
set_option maxRecDepth 100000 in
/-- GlacierMail$Rows.copyFrom -/
noncomputable def p2_s454 : ck_Sum := ((1, 0, 0), 245, [.inr (.inr (.inl 75)), .inr (.inr (.inl 8))], ([], [], []), ([(75, 3, 3), (76, 0, 23)], []), [(.inr none, 245, ([], [], []))])
set_option maxRecDepth 100000 in
theorem p2_s454_s {X : Int → Int} {LX : Nat} : ck_Ok p2_O X LX 58 p2_s454 := ck_ok_s (O := p2_O) (X := X) (LX := LX) (E := []) (mi := 58) (cuts := []) (f := 114) (S := p2_s454) (lx := none) (XF := []) ⟨p2_nmu, ck_E0⟩ ck_X0 ck_l0 (by decide +kernel)
set_option maxRecDepth 100000 in
/-- GlacierMail$Rows.copyFrom -/
noncomputable def p2_s455 : ck_Sum := ((1, 0, 0), 245, [.inr (.inr (.inl 77)), .inr (.inr (.inl 10))], ([], [], []), ([(77, 3, 3), (78, 0, 167)], []), [(.inr none, 245, ([], [], []))])
set_option maxRecDepth 100000 in
theorem p2_s455_s {X : Int → Int} {LX : Nat} : ck_Ok p2_O X LX 58 p2_s455 := ck_ok_s (O := p2_O) (X := X) (LX := LX) (E := []) (mi := 58) (cuts := []) (f := 114) (S := p2_s455) (lx := none) (XF := []) ⟨p2_nmu, ck_E0⟩ ck_X0 ck_l0 (by decide +kernel)
set_option maxRecDepth 100000 in
/-- GlacierMail$Rows.copyFrom -/
noncomputable def p2_s456 : ck_Sum := ((1, 0, 0), 245, [.inr (.inr (.inl 79)), .inr (.inr (.inl 12))], ([], [], []), ([(79, 3, 3), (80, 0, 35)], []), [(.inr none, 245, ([], [], []))])
set_option maxRecDepth 100000 in
theorem p2_s456_s {X : Int → Int} {LX : Nat} : ck_Ok p2_O X LX 58 p2_s456 := ck_ok_s (O := p2_O) (X := X) (LX := LX) (E := []) (mi := 58) (cuts := []) (f := 114) (S := p2_s456) (lx := none) (XF := []) ⟨p2_nmu, ck_E0⟩ ck_X0 ck_l0 (by decide +kernel)
set_option maxRecDepth 100000 in
/-- GlacierMail$Rows.copyFrom -/
noncomputable def p2_s457 : ck_Sum := ((1, 0, 0), 245, [.inr (.inr (.inl 81)), .inr (.inr (.inl 14))], ([], [], []), ([(81, 3, 3), (82, 0, 71)], []), [(.inr none, 245, ([], [], []))])
set_option maxRecDepth 100000 in
theorem p2_s457_s {X : Int → Int} {LX : Nat} : ck_Ok p2_O X LX 58 p2_s457 := ck_ok_s (O := p2_O) (X := X) (LX := LX) (E := []) (mi := 58) (cuts := []) (f := 114) (S := p2_s457) (lx := none) (XF := []) ⟨p2_nmu, ck_E0⟩ ck_X0 ck_l0 (by decide +kernel)
set_option maxRecDepth 100000 in
/-- GlacierMail$State.copyFrom -/
noncomputable def p2_s458 : ck_Sum := ((2, 0, 0), 245, [.inr (.inr (.inl 70)), .inr (.inr (.inl 3))], ([], [(3, 8, 0), (70, 8, 100070)], [(3, 6, 6, (0, 299, [(10, 0)]))]), (zl91, [(70, 8)]), [(.inr none, 245, ([], [(70, 8, 0)], [(70, 6, 6, (0, 299, [(10, 0)]))]))])
set_option maxRecDepth 100000 in
theorem p2_s458_s {X : Int → Int} {LX : Nat} : ck_Ok p2_O X LX 57 p2_s458 := ck_ok_s (O := p2_O) (X := X) (LX := LX) (E := [(58, [p2_s452, p2_s453, p2_s454, p2_s455, p2_s456, p2_s457])]) (mi := 57) (cuts := []) (f := 204) (S := p2_s458) (lx := none) (XF := []) ⟨p2_nmu, ck_E1 (ck_S1 p2_s452_s (ck_S1 p2_s453_s (ck_S1 p2_s454_s (ck_S1 p2_s455_s (ck_S1 p2_s456_s (ck_S1 p2_s457_s ck_S0)))))) ck_E0⟩ ck_X0 ck_l0 (by decide +kernel)
set_option maxRecDepth 100000 in
/-- GlacierMail$Rows.copyFrom -/
noncomputable def p2_s459 : ck_Sum := ((1, 0, 0), 245, [.inr (.inr (.inl 84)), .inr (.inr (.inl 4))], ([], [], []), ([(84, 3, 3), (85, 0, 55)], []), [(.inr none, 245, ([], [], []))])
set_option maxRecDepth 100000 in
theorem p2_s459_s {X : Int → Int} {LX : Nat} : ck_Ok p2_O X LX 58 p2_s459 := ck_ok_s (O := p2_O) (X := X) (LX := LX) (E := []) (mi := 58) (cuts := []) (f := 114) (S := p2_s459) (lx := none) (XF := []) ⟨p2_nmu, ck_E0⟩ ck_X0 ck_l0 (by decide +kernel)
set_option maxRecDepth 100000 in
/-- GlacierMail$Rows.copyFrom -/
noncomputable def p2_s460 : ck_Sum := ((1, 0, 0), 245, [.inr (.inr (.inl 86)), .inr (.inr (.inl 6))], ([], [], []), ([(86, 3, 3), (87, 0, 23)], []), [(.inr none, 245, ([], [], []))])
set_option maxRecDepth 100000 in
theorem p2_s460_s {X : Int → Int} {LX : Nat} : ck_Ok p2_O X LX 58 p2_s460 := ck_ok_s (O := p2_O) (X := X) (LX := LX) (E := []) (mi := 58) (cuts := []) (f := 114) (S := p2_s460) (lx := none) (XF := []) ⟨p2_nmu, ck_E0⟩ ck_X0 ck_l0 (by decide +kernel)
set_option maxRecDepth 100000 in
/-- GlacierMail$Rows.copyFrom -/
noncomputable def p2_s461 : ck_Sum := ((1, 0, 0), 245, [.inr (.inr (.inl 88)), .inr (.inr (.inl 8))], ([], [], []), ([(88, 3, 3), (89, 0, 23)], []), [(.inr none, 245, ([], [], []))])
set_option maxRecDepth 100000 in
theorem p2_s461_s {X : Int → Int} {LX : Nat} : ck_Ok p2_O X LX 58 p2_s461 := ck_ok_s (O := p2_O) (X := X) (LX := LX) (E := []) (mi := 58) (cuts := []) (f := 114) (S := p2_s461) (lx := none) (XF := []) ⟨p2_nmu, ck_E0⟩ ck_X0 ck_l0 (by decide +kernel)
set_option maxRecDepth 100000 in
/-- GlacierMail$Rows.copyFrom -/
noncomputable def p2_s462 : ck_Sum := ((1, 0, 0), 245, [.inr (.inr (.inl 90)), .inr (.inr (.inl 10))], ([], [], []), ([(90, 3, 3), (91, 0, 167)], []), [(.inr none, 245, ([], [], []))])
set_option maxRecDepth 100000 in
theorem p2_s462_s {X : Int → Int} {LX : Nat} : ck_Ok p2_O X LX 58 p2_s462 := ck_ok_s (O := p2_O) (X := X) (LX := LX) (E := []) (mi := 58) (cuts := []) (f := 114) (S := p2_s462) (lx := none) (XF := []) ⟨p2_nmu, ck_E0⟩ ck_X0 ck_l0 (by decide +kernel)
set_option maxRecDepth 100000 in
/-- GlacierMail$Rows.copyFrom -/
noncomputable def p2_s463 : ck_Sum := ((1, 0, 0), 245, [.inr (.inr (.inl 92)), .inr (.inr (.inl 12))], ([], [], []), ([(92, 3, 3), (93, 0, 35)], []), [(.inr none, 245, ([], [], []))])
set_option maxRecDepth 100000 in
theorem p2_s463_s {X : Int → Int} {LX : Nat} : ck_Ok p2_O X LX 58 p2_s463 := ck_ok_s (O := p2_O) (X := X) (LX := LX) (E := []) (mi := 58) (cuts := []) (f := 114) (S := p2_s463) (lx := none) (XF := []) ⟨p2_nmu, ck_E0⟩ ck_X0 ck_l0 (by decide +kernel)
set_option maxRecDepth 100000 in
/-- GlacierMail$Rows.copyFrom -/
noncomputable def p2_s464 : ck_Sum := ((1, 0, 0), 245, [.inr (.inr (.inl 94)), .inr (.inr (.inl 14))], ([], [], []), ([(94, 3, 3), (95, 0, 71)], []), [(.inr none, 245, ([], [], []))])
set_option maxRecDepth 100000 in
theorem p2_s464_s {X : Int → Int} {LX : Nat} : ck_Ok p2_O X LX 58 p2_s464 := ck_ok_s (O := p2_O) (X := X) (LX := LX) (E := []) (mi := 58) (cuts := []) (f := 114) (S := p2_s464) (lx := none) (XF := []) ⟨p2_nmu, ck_E0⟩ ck_X0 ck_l0 (by decide +kernel)
set_option maxRecDepth 100000 in
/-- GlacierMail$State.copyFrom -/
noncomputable def p2_s465 : ck_Sum := ((2, 0, 0), 245, [.inr (.inr (.inl 83)), .inr (.inr (.inl 3))], ([], [(3, 8, 0), (83, 8, 100083)], [(3, 6, 6, (0, 299, [(10, 0)]))]), (zl92, [(83, 8)]), [(.inr none, 245, ([], [(83, 8, 0)], [(83, 6, 6, (0, 299, [(10, 0)]))]))])
set_option maxRecDepth 100000 in
theorem p2_s465_s {X : Int → Int} {LX : Nat} : ck_Ok p2_O X LX 57 p2_s465 := ck_ok_s (O := p2_O) (X := X) (LX := LX) (E := [(58, [p2_s459, p2_s460, p2_s461, p2_s462, p2_s463, p2_s464])]) (mi := 57) (cuts := []) (f := 204) (S := p2_s465) (lx := none) (XF := []) ⟨p2_nmu, ck_E1 (ck_S1 p2_s459_s (ck_S1 p2_s460_s (ck_S1 p2_s461_s (ck_S1 p2_s462_s (ck_S1 p2_s463_s (ck_S1 p2_s464_s ck_S0)))))) ck_E0⟩ ck_X0 ck_l0 (by decide +kernel)
set_option maxRecDepth 100000 in
/-- GlacierMail$Rows.copyFrom -/
noncomputable def p2_s466 : ck_Sum := ((1, 0, 0), 245, [.inr (.inr (.inl 97)), .inr (.inr (.inl 4))], ([], [], []), ([(97, 3, 3), (98, 0, 55)], []), [(.inr none, 245, ([], [], []))])
set_option maxRecDepth 100000 in
theorem p2_s466_s {X : Int → Int} {LX : Nat} : ck_Ok p2_O X LX 58 p2_s466 := ck_ok_s (O := p2_O) (X := X) (LX := LX) (E := []) (mi := 58) (cuts := []) (f := 114) (S := p2_s466) (lx := none) (XF := []) ⟨p2_nmu, ck_E0⟩ ck_X0 ck_l0 (by decide +kernel)
set_option maxRecDepth 100000 in
/-- GlacierMail$Rows.copyFrom -/
noncomputable def p2_s467 : ck_Sum := ((1, 0, 0), 245, [.inr (.inr (.inl 99)), .inr (.inr (.inl 6))], ([], [], []), ([(99, 3, 3), (100, 0, 23)], []), [(.inr none, 245, ([], [], []))])
set_option maxRecDepth 100000 in
theorem p2_s467_s {X : Int → Int} {LX : Nat} : ck_Ok p2_O X LX 58 p2_s467 := ck_ok_s (O := p2_O) (X := X) (LX := LX) (E := []) (mi := 58) (cuts := []) (f := 114) (S := p2_s467) (lx := none) (XF := []) ⟨p2_nmu, ck_E0⟩ ck_X0 ck_l0 (by decide +kernel)
set_option maxRecDepth 100000 in
/-- GlacierMail$Rows.copyFrom -/
noncomputable def p2_s468 : ck_Sum := ((1, 0, 0), 245, [.inr (.inr (.inl 101)), .inr (.inr (.inl 8))], ([], [], []), ([(101, 3, 3), (102, 0, 23)], []), [(.inr none, 245, ([], [], []))])
set_option maxRecDepth 100000 in
theorem p2_s468_s {X : Int → Int} {LX : Nat} : ck_Ok p2_O X LX 58 p2_s468 := ck_ok_s (O := p2_O) (X := X) (LX := LX) (E := []) (mi := 58) (cuts := []) (f := 114) (S := p2_s468) (lx := none) (XF := []) ⟨p2_nmu, ck_E0⟩ ck_X0 ck_l0 (by decide +kernel)
set_option maxRecDepth 100000 in
/-- GlacierMail$Rows.copyFrom -/
noncomputable def p2_s469 : ck_Sum := ((1, 0, 0), 245, [.inr (.inr (.inl 103)), .inr (.inr (.inl 10))], ([], [], []), ([(103, 3, 3), (104, 0, 167)], []), [(.inr none, 245, ([], [], []))])
set_option maxRecDepth 100000 in
theorem p2_s469_s {X : Int → Int} {LX : Nat} : ck_Ok p2_O X LX 58 p2_s469 := ck_ok_s (O := p2_O) (X := X) (LX := LX) (E := []) (mi := 58) (cuts := []) (f := 114) (S := p2_s469) (lx := none) (XF := []) ⟨p2_nmu, ck_E0⟩ ck_X0 ck_l0 (by decide +kernel)
set_option maxRecDepth 100000 in
/-- GlacierMail$Rows.copyFrom -/
noncomputable def p2_s470 : ck_Sum := ((1, 0, 0), 245, [.inr (.inr (.inl 105)), .inr (.inr (.inl 12))], ([], [], []), ([(105, 3, 3), (106, 0, 35)], []), [(.inr none, 245, ([], [], []))])
set_option maxRecDepth 100000 in
theorem p2_s470_s {X : Int → Int} {LX : Nat} : ck_Ok p2_O X LX 58 p2_s470 := ck_ok_s (O := p2_O) (X := X) (LX := LX) (E := []) (mi := 58) (cuts := []) (f := 114) (S := p2_s470) (lx := none) (XF := []) ⟨p2_nmu, ck_E0⟩ ck_X0 ck_l0 (by decide +kernel)
set_option maxRecDepth 100000 in
/-- GlacierMail$Rows.copyFrom -/
noncomputable def p2_s471 : ck_Sum := ((1, 0, 0), 245, [.inr (.inr (.inl 107)), .inr (.inr (.inl 14))], ([], [], []), ([(107, 3, 3), (108, 0, 71)], []), [(.inr none, 245, ([], [], []))])
set_option maxRecDepth 100000 in
theorem p2_s471_s {X : Int → Int} {LX : Nat} : ck_Ok p2_O X LX 58 p2_s471 := ck_ok_s (O := p2_O) (X := X) (LX := LX) (E := []) (mi := 58) (cuts := []) (f := 114) (S := p2_s471) (lx := none) (XF := []) ⟨p2_nmu, ck_E0⟩ ck_X0 ck_l0 (by decide +kernel)
set_option maxRecDepth 100000 in
/-- GlacierMail$State.copyFrom -/
noncomputable def p2_s472 : ck_Sum := ((2, 0, 0), 245, [.inr (.inr (.inl 96)), .inr (.inr (.inl 3))], ([], [(3, 8, 0), (96, 8, 100096)], [(3, 6, 6, (0, 299, [(10, 0)]))]), (zl93, [(96, 8)]), [(.inr none, 245, ([], [(96, 8, 0)], [(96, 6, 6, (0, 299, [(10, 0)]))]))])
set_option maxRecDepth 100000 in
theorem p2_s472_s {X : Int → Int} {LX : Nat} : ck_Ok p2_O X LX 57 p2_s472 := ck_ok_s (O := p2_O) (X := X) (LX := LX) (E := [(58, [p2_s466, p2_s467, p2_s468, p2_s469, p2_s470, p2_s471])]) (mi := 57) (cuts := []) (f := 204) (S := p2_s472) (lx := none) (XF := []) ⟨p2_nmu, ck_E1 (ck_S1 p2_s466_s (ck_S1 p2_s467_s (ck_S1 p2_s468_s (ck_S1 p2_s469_s (ck_S1 p2_s470_s (ck_S1 p2_s471_s ck_S0)))))) ck_E0⟩ ck_X0 ck_l0 (by decide +kernel)
set_option maxRecDepth 100000 in
/-- GlacierMail$Rows.copyFrom -/
noncomputable def p2_s473 : ck_Sum := ((1, 0, 0), 245, [.inr (.inr (.inl 110)), .inr (.inr (.inl 4))], ([], [], []), ([(110, 3, 3), (111, 0, 55)], []), [(.inr none, 245, ([], [], []))])
set_option maxRecDepth 100000 in
theorem p2_s473_s {X : Int → Int} {LX : Nat} : ck_Ok p2_O X LX 58 p2_s473 := ck_ok_s (O := p2_O) (X := X) (LX := LX) (E := []) (mi := 58) (cuts := []) (f := 114) (S := p2_s473) (lx := none) (XF := []) ⟨p2_nmu, ck_E0⟩ ck_X0 ck_l0 (by decide +kernel)
set_option maxRecDepth 100000 in
/-- GlacierMail$Rows.copyFrom -/
noncomputable def p2_s474 : ck_Sum := ((1, 0, 0), 245, [.inr (.inr (.inl 112)), .inr (.inr (.inl 6))], ([], [], []), ([(112, 3, 3), (113, 0, 23)], []), [(.inr none, 245, ([], [], []))])
set_option maxRecDepth 100000 in
theorem p2_s474_s {X : Int → Int} {LX : Nat} : ck_Ok p2_O X LX 58 p2_s474 := ck_ok_s (O := p2_O) (X := X) (LX := LX) (E := []) (mi := 58) (cuts := []) (f := 114) (S := p2_s474) (lx := none) (XF := []) ⟨p2_nmu, ck_E0⟩ ck_X0 ck_l0 (by decide +kernel)
set_option maxRecDepth 100000 in
/-- GlacierMail$Rows.copyFrom -/
noncomputable def p2_s475 : ck_Sum := ((1, 0, 0), 245, [.inr (.inr (.inl 114)), .inr (.inr (.inl 8))], ([], [], []), ([(114, 3, 3), (115, 0, 23)], []), [(.inr none, 245, ([], [], []))])
set_option maxRecDepth 100000 in
theorem p2_s475_s {X : Int → Int} {LX : Nat} : ck_Ok p2_O X LX 58 p2_s475 := ck_ok_s (O := p2_O) (X := X) (LX := LX) (E := []) (mi := 58) (cuts := []) (f := 114) (S := p2_s475) (lx := none) (XF := []) ⟨p2_nmu, ck_E0⟩ ck_X0 ck_l0 (by decide +kernel)
set_option maxRecDepth 100000 in
/-- GlacierMail$Rows.copyFrom -/
noncomputable def p2_s476 : ck_Sum := ((1, 0, 0), 245, [.inr (.inr (.inl 116)), .inr (.inr (.inl 10))], ([], [], []), ([(116, 3, 3), (117, 0, 167)], []), [(.inr none, 245, ([], [], []))])
set_option maxRecDepth 100000 in
theorem p2_s476_s {X : Int → Int} {LX : Nat} : ck_Ok p2_O X LX 58 p2_s476 := ck_ok_s (O := p2_O) (X := X) (LX := LX) (E := []) (mi := 58) (cuts := []) (f := 114) (S := p2_s476) (lx := none) (XF := []) ⟨p2_nmu, ck_E0⟩ ck_X0 ck_l0 (by decide +kernel)
set_option maxRecDepth 100000 in
/-- GlacierMail$Rows.copyFrom -/
noncomputable def p2_s477 : ck_Sum := ((1, 0, 0), 245, [.inr (.inr (.inl 118)), .inr (.inr (.inl 12))], ([], [], []), ([(118, 3, 3), (119, 0, 35)], []), [(.inr none, 245, ([], [], []))])
set_option maxRecDepth 100000 in
theorem p2_s477_s {X : Int → Int} {LX : Nat} : ck_Ok p2_O X LX 58 p2_s477 := ck_ok_s (O := p2_O) (X := X) (LX := LX) (E := []) (mi := 58) (cuts := []) (f := 114) (S := p2_s477) (lx := none) (XF := []) ⟨p2_nmu, ck_E0⟩ ck_X0 ck_l0 (by decide +kernel)
set_option maxRecDepth 100000 in
/-- GlacierMail$Rows.copyFrom -/
noncomputable def p2_s478 : ck_Sum := ((1, 0, 0), 245, [.inr (.inr (.inl 120)), .inr (.inr (.inl 14))], ([], [], []), ([(120, 3, 3), (121, 0, 71)], []), [(.inr none, 245, ([], [], []))])
set_option maxRecDepth 100000 in
theorem p2_s478_s {X : Int → Int} {LX : Nat} : ck_Ok p2_O X LX 58 p2_s478 := ck_ok_s (O := p2_O) (X := X) (LX := LX) (E := []) (mi := 58) (cuts := []) (f := 114) (S := p2_s478) (lx := none) (XF := []) ⟨p2_nmu, ck_E0⟩ ck_X0 ck_l0 (by decide +kernel)
set_option maxRecDepth 100000 in
/-- GlacierMail$State.copyFrom -/
noncomputable def p2_s479 : ck_Sum := ((2, 0, 0), 245, [.inr (.inr (.inl 109)), .inr (.inr (.inl 3))], ([], [(3, 8, 0), (109, 8, 100109)], [(3, 6, 6, (0, 299, [(10, 0)]))]), (zl94, [(109, 8)]), [(.inr none, 245, ([], [(109, 8, 0)], [(109, 6, 6, (0, 299, [(10, 0)]))]))])
set_option maxRecDepth 100000 in
theorem p2_s479_s {X : Int → Int} {LX : Nat} : ck_Ok p2_O X LX 57 p2_s479 := ck_ok_s (O := p2_O) (X := X) (LX := LX) (E := [(58, [p2_s473, p2_s474, p2_s475, p2_s476, p2_s477, p2_s478])]) (mi := 57) (cuts := []) (f := 204) (S := p2_s479) (lx := none) (XF := []) ⟨p2_nmu, ck_E1 (ck_S1 p2_s473_s (ck_S1 p2_s474_s (ck_S1 p2_s475_s (ck_S1 p2_s476_s (ck_S1 p2_s477_s (ck_S1 p2_s478_s ck_S0)))))) ck_E0⟩ ck_X0 ck_l0 (by decide +kernel)
set_option maxRecDepth 100000 in
/-- GlacierMail$Rows.copyFrom -/
noncomputable def p2_s480 : ck_Sum := ((1, 0, 0), 245, [.inr (.inr (.inl 123)), .inr (.inr (.inl 4))], ([], [], []), ([(123, 3, 3), (124, 0, 55)], []), [(.inr none, 245, ([], [], []))])
set_option maxRecDepth 100000 in
theorem p2_s480_s {X : Int → Int} {LX : Nat} : ck_Ok p2_O X LX 58 p2_s480 := ck_ok_s (O := p2_O) (X := X) (LX := LX) (E := []) (mi := 58) (cuts := []) (f := 114) (S := p2_s480) (lx := none) (XF := []) ⟨p2_nmu, ck_E0⟩ ck_X0 ck_l0 (by decide +kernel)
set_option maxRecDepth 100000 in
/-- GlacierMail$Rows.copyFrom -/
noncomputable def p2_s481 : ck_Sum := ((1, 0, 0), 245, [.inr (.inr (.inl 125)), .inr (.inr (.inl 6))], ([], [], []), ([(125, 3, 3), (126, 0, 23)], []), [(.inr none, 245, ([], [], []))])
set_option maxRecDepth 100000 in
theorem p2_s481_s {X : Int → Int} {LX : Nat} : ck_Ok p2_O X LX 58 p2_s481 := ck_ok_s (O := p2_O) (X := X) (LX := LX) (E := []) (mi := 58) (cuts := []) (f := 114) (S := p2_s481) (lx := none) (XF := []) ⟨p2_nmu, ck_E0⟩ ck_X0 ck_l0 (by decide +kernel)
set_option maxRecDepth 100000 in
/-- GlacierMail$Rows.copyFrom -/
noncomputable def p2_s482 : ck_Sum := ((1, 0, 0), 245, [.inr (.inr (.inl 127)), .inr (.inr (.inl 8))], ([], [], []), ([(127, 3, 3), (128, 0, 23)], []), [(.inr none, 245, ([], [], []))])
set_option maxRecDepth 100000 in
theorem p2_s482_s {X : Int → Int} {LX : Nat} : ck_Ok p2_O X LX 58 p2_s482 := ck_ok_s (O := p2_O) (X := X) (LX := LX) (E := []) (mi := 58) (cuts := []) (f := 114) (S := p2_s482) (lx := none) (XF := []) ⟨p2_nmu, ck_E0⟩ ck_X0 ck_l0 (by decide +kernel)
set_option maxRecDepth 100000 in
/-- GlacierMail$Rows.copyFrom -/
noncomputable def p2_s483 : ck_Sum := ((1, 0, 0), 245, [.inr (.inr (.inl 129)), .inr (.inr (.inl 10))], ([], [], []), ([(129, 3, 3), (130, 0, 167)], []), [(.inr none, 245, ([], [], []))])
set_option maxRecDepth 100000 in
theorem p2_s483_s {X : Int → Int} {LX : Nat} : ck_Ok p2_O X LX 58 p2_s483 := ck_ok_s (O := p2_O) (X := X) (LX := LX) (E := []) (mi := 58) (cuts := []) (f := 114) (S := p2_s483) (lx := none) (XF := []) ⟨p2_nmu, ck_E0⟩ ck_X0 ck_l0 (by decide +kernel)
set_option maxRecDepth 100000 in
/-- GlacierMail$Rows.copyFrom -/
noncomputable def p2_s484 : ck_Sum := ((1, 0, 0), 245, [.inr (.inr (.inl 131)), .inr (.inr (.inl 12))], ([], [], []), ([(131, 3, 3), (132, 0, 35)], []), [(.inr none, 245, ([], [], []))])
set_option maxRecDepth 100000 in
theorem p2_s484_s {X : Int → Int} {LX : Nat} : ck_Ok p2_O X LX 58 p2_s484 := ck_ok_s (O := p2_O) (X := X) (LX := LX) (E := []) (mi := 58) (cuts := []) (f := 114) (S := p2_s484) (lx := none) (XF := []) ⟨p2_nmu, ck_E0⟩ ck_X0 ck_l0 (by decide +kernel)
set_option maxRecDepth 100000 in
/-- GlacierMail$Rows.copyFrom -/
noncomputable def p2_s485 : ck_Sum := ((1, 0, 0), 245, [.inr (.inr (.inl 133)), .inr (.inr (.inl 14))], ([], [], []), ([(133, 3, 3), (134, 0, 71)], []), [(.inr none, 245, ([], [], []))])
set_option maxRecDepth 100000 in
theorem p2_s485_s {X : Int → Int} {LX : Nat} : ck_Ok p2_O X LX 58 p2_s485 := ck_ok_s (O := p2_O) (X := X) (LX := LX) (E := []) (mi := 58) (cuts := []) (f := 114) (S := p2_s485) (lx := none) (XF := []) ⟨p2_nmu, ck_E0⟩ ck_X0 ck_l0 (by decide +kernel)
set_option maxRecDepth 100000 in
/-- GlacierMail$State.copyFrom -/
noncomputable def p2_s486 : ck_Sum := ((2, 0, 0), 245, [.inr (.inr (.inl 122)), .inr (.inr (.inl 3))], ([], [(3, 8, 0), (122, 8, 100122)], [(3, 6, 6, (0, 299, [(10, 0)]))]), (zl95, [(122, 8)]), [(.inr none, 245, ([], [(122, 8, 0)], [(122, 6, 6, (0, 299, [(10, 0)]))]))])
set_option maxRecDepth 100000 in
theorem p2_s486_s {X : Int → Int} {LX : Nat} : ck_Ok p2_O X LX 57 p2_s486 := ck_ok_s (O := p2_O) (X := X) (LX := LX) (E := [(58, [p2_s480, p2_s481, p2_s482, p2_s483, p2_s484, p2_s485])]) (mi := 57) (cuts := []) (f := 204) (S := p2_s486) (lx := none) (XF := []) ⟨p2_nmu, ck_E1 (ck_S1 p2_s480_s (ck_S1 p2_s481_s (ck_S1 p2_s482_s (ck_S1 p2_s483_s (ck_S1 p2_s484_s (ck_S1 p2_s485_s ck_S0)))))) ck_E0⟩ ck_X0 ck_l0 (by decide +kernel)
set_option maxRecDepth 100000 in
/-- GlacierMail$Rows.copyFrom -/
noncomputable def p2_s487 : ck_Sum := ((1, 0, 0), 245, [.inr (.inr (.inl 136)), .inr (.inr (.inl 4))], ([], [], []), ([(136, 3, 3), (137, 0, 55)], []), [(.inr none, 245, ([], [], []))])
set_option maxRecDepth 100000 in
theorem p2_s487_s {X : Int → Int} {LX : Nat} : ck_Ok p2_O X LX 58 p2_s487 := ck_ok_s (O := p2_O) (X := X) (LX := LX) (E := []) (mi := 58) (cuts := []) (f := 114) (S := p2_s487) (lx := none) (XF := []) ⟨p2_nmu, ck_E0⟩ ck_X0 ck_l0 (by decide +kernel)
set_option maxRecDepth 100000 in
/-- GlacierMail$Rows.copyFrom -/
noncomputable def p2_s488 : ck_Sum := ((1, 0, 0), 245, [.inr (.inr (.inl 138)), .inr (.inr (.inl 6))], ([], [], []), ([(138, 3, 3), (139, 0, 23)], []), [(.inr none, 245, ([], [], []))])
set_option maxRecDepth 100000 in
theorem p2_s488_s {X : Int → Int} {LX : Nat} : ck_Ok p2_O X LX 58 p2_s488 := ck_ok_s (O := p2_O) (X := X) (LX := LX) (E := []) (mi := 58) (cuts := []) (f := 114) (S := p2_s488) (lx := none) (XF := []) ⟨p2_nmu, ck_E0⟩ ck_X0 ck_l0 (by decide +kernel)
set_option maxRecDepth 100000 in
/-- GlacierMail$Rows.copyFrom -/
noncomputable def p2_s489 : ck_Sum := ((1, 0, 0), 245, [.inr (.inr (.inl 140)), .inr (.inr (.inl 8))], ([], [], []), ([(140, 3, 3), (141, 0, 23)], []), [(.inr none, 245, ([], [], []))])
set_option maxRecDepth 100000 in
theorem p2_s489_s {X : Int → Int} {LX : Nat} : ck_Ok p2_O X LX 58 p2_s489 := ck_ok_s (O := p2_O) (X := X) (LX := LX) (E := []) (mi := 58) (cuts := []) (f := 114) (S := p2_s489) (lx := none) (XF := []) ⟨p2_nmu, ck_E0⟩ ck_X0 ck_l0 (by decide +kernel)
set_option maxRecDepth 100000 in
/-- GlacierMail$Rows.copyFrom -/
noncomputable def p2_s490 : ck_Sum := ((1, 0, 0), 245, [.inr (.inr (.inl 142)), .inr (.inr (.inl 10))], ([], [], []), ([(142, 3, 3), (143, 0, 167)], []), [(.inr none, 245, ([], [], []))])
set_option maxRecDepth 100000 in
theorem p2_s490_s {X : Int → Int} {LX : Nat} : ck_Ok p2_O X LX 58 p2_s490 := ck_ok_s (O := p2_O) (X := X) (LX := LX) (E := []) (mi := 58) (cuts := []) (f := 114) (S := p2_s490) (lx := none) (XF := []) ⟨p2_nmu, ck_E0⟩ ck_X0 ck_l0 (by decide +kernel)
set_option maxRecDepth 100000 in
/-- GlacierMail$Rows.copyFrom -/
noncomputable def p2_s491 : ck_Sum := ((1, 0, 0), 245, [.inr (.inr (.inl 144)), .inr (.inr (.inl 12))], ([], [], []), ([(144, 3, 3), (145, 0, 35)], []), [(.inr none, 245, ([], [], []))])
set_option maxRecDepth 100000 in
theorem p2_s491_s {X : Int → Int} {LX : Nat} : ck_Ok p2_O X LX 58 p2_s491 := ck_ok_s (O := p2_O) (X := X) (LX := LX) (E := []) (mi := 58) (cuts := []) (f := 114) (S := p2_s491) (lx := none) (XF := []) ⟨p2_nmu, ck_E0⟩ ck_X0 ck_l0 (by decide +kernel)
set_option maxRecDepth 100000 in
/-- GlacierMail$Rows.copyFrom -/
noncomputable def p2_s492 : ck_Sum := ((1, 0, 0), 245, [.inr (.inr (.inl 146)), .inr (.inr (.inl 14))], ([], [], []), ([(146, 3, 3), (147, 0, 71)], []), [(.inr none, 245, ([], [], []))])
set_option maxRecDepth 100000 in
theorem p2_s492_s {X : Int → Int} {LX : Nat} : ck_Ok p2_O X LX 58 p2_s492 := ck_ok_s (O := p2_O) (X := X) (LX := LX) (E := []) (mi := 58) (cuts := []) (f := 114) (S := p2_s492) (lx := none) (XF := []) ⟨p2_nmu, ck_E0⟩ ck_X0 ck_l0 (by decide +kernel)
set_option maxRecDepth 100000 in
/-- GlacierMail$State.copyFrom -/
noncomputable def p2_s493 : ck_Sum := ((2, 0, 0), 245, [.inr (.inr (.inl 135)), .inr (.inr (.inl 3))], ([], [(3, 8, 0), (135, 8, 100135)], [(3, 6, 6, (0, 299, [(10, 0)]))]), (zl96, [(135, 8)]), [(.inr none, 245, ([], [(135, 8, 0)], [(135, 6, 6, (0, 299, [(10, 0)]))]))])
set_option maxRecDepth 100000 in
theorem p2_s493_s {X : Int → Int} {LX : Nat} : ck_Ok p2_O X LX 57 p2_s493 := ck_ok_s (O := p2_O) (X := X) (LX := LX) (E := [(58, [p2_s487, p2_s488, p2_s489, p2_s490, p2_s491, p2_s492])]) (mi := 57) (cuts := []) (f := 204) (S := p2_s493) (lx := none) (XF := []) ⟨p2_nmu, ck_E1 (ck_S1 p2_s487_s (ck_S1 p2_s488_s (ck_S1 p2_s489_s (ck_S1 p2_s490_s (ck_S1 p2_s491_s (ck_S1 p2_s492_s ck_S0)))))) ck_E0⟩ ck_X0 ck_l0 (by decide +kernel)
set_option maxRecDepth 100000 in
/-- GlacierMail$Rows.copyFrom -/
noncomputable def p2_s494 : ck_Sum := ((1, 0, 0), 245, [.inr (.inr (.inl 149)), .inr (.inr (.inl 4))], ([], [], []), ([(149, 3, 3), (150, 0, 55)], []), [(.inr none, 245, ([], [], []))])
set_option maxRecDepth 100000 in
theorem p2_s494_s {X : Int → Int} {LX : Nat} : ck_Ok p2_O X LX 58 p2_s494 := ck_ok_s (O := p2_O) (X := X) (LX := LX) (E := []) (mi := 58) (cuts := []) (f := 114) (S := p2_s494) (lx := none) (XF := []) ⟨p2_nmu, ck_E0⟩ ck_X0 ck_l0 (by decide +kernel)
set_option maxRecDepth 100000 in
/-- GlacierMail$Rows.copyFrom -/
noncomputable def p2_s495 : ck_Sum := ((1, 0, 0), 245, [.inr (.inr (.inl 151)), .inr (.inr (.inl 6))], ([], [], []), ([(151, 3, 3), (152, 0, 23)], []), [(.inr none, 245, ([], [], []))])
set_option maxRecDepth 100000 in
theorem p2_s495_s {X : Int → Int} {LX : Nat} : ck_Ok p2_O X LX 58 p2_s495 := ck_ok_s (O := p2_O) (X := X) (LX := LX) (E := []) (mi := 58) (cuts := []) (f := 114) (S := p2_s495) (lx := none) (XF := []) ⟨p2_nmu, ck_E0⟩ ck_X0 ck_l0 (by decide +kernel)
set_option maxRecDepth 100000 in
/-- GlacierMail$Rows.copyFrom -/
noncomputable def p2_s496 : ck_Sum := ((1, 0, 0), 245, [.inr (.inr (.inl 153)), .inr (.inr (.inl 8))], ([], [], []), ([(153, 3, 3), (154, 0, 23)], []), [(.inr none, 245, ([], [], []))])
set_option maxRecDepth 100000 in
theorem p2_s496_s {X : Int → Int} {LX : Nat} : ck_Ok p2_O X LX 58 p2_s496 := ck_ok_s (O := p2_O) (X := X) (LX := LX) (E := []) (mi := 58) (cuts := []) (f := 114) (S := p2_s496) (lx := none) (XF := []) ⟨p2_nmu, ck_E0⟩ ck_X0 ck_l0 (by decide +kernel)
set_option maxRecDepth 100000 in
/-- GlacierMail$Rows.copyFrom -/
noncomputable def p2_s497 : ck_Sum := ((1, 0, 0), 245, [.inr (.inr (.inl 155)), .inr (.inr (.inl 10))], ([], [], []), ([(155, 3, 3), (156, 0, 167)], []), [(.inr none, 245, ([], [], []))])
set_option maxRecDepth 100000 in
theorem p2_s497_s {X : Int → Int} {LX : Nat} : ck_Ok p2_O X LX 58 p2_s497 := ck_ok_s (O := p2_O) (X := X) (LX := LX) (E := []) (mi := 58) (cuts := []) (f := 114) (S := p2_s497) (lx := none) (XF := []) ⟨p2_nmu, ck_E0⟩ ck_X0 ck_l0 (by decide +kernel)
set_option maxRecDepth 100000 in
/-- GlacierMail$Rows.copyFrom -/
noncomputable def p2_s498 : ck_Sum := ((1, 0, 0), 245, [.inr (.inr (.inl 157)), .inr (.inr (.inl 12))], ([], [], []), ([(157, 3, 3), (158, 0, 35)], []), [(.inr none, 245, ([], [], []))])
set_option maxRecDepth 100000 in
theorem p2_s498_s {X : Int → Int} {LX : Nat} : ck_Ok p2_O X LX 58 p2_s498 := ck_ok_s (O := p2_O) (X := X) (LX := LX) (E := []) (mi := 58) (cuts := []) (f := 114) (S := p2_s498) (lx := none) (XF := []) ⟨p2_nmu, ck_E0⟩ ck_X0 ck_l0 (by decide +kernel)
set_option maxRecDepth 100000 in
/-- GlacierMail$Rows.copyFrom -/
noncomputable def p2_s499 : ck_Sum := ((1, 0, 0), 245, [.inr (.inr (.inl 159)), .inr (.inr (.inl 14))], ([], [], []), ([(159, 3, 3), (160, 0, 71)], []), [(.inr none, 245, ([], [], []))])
set_option maxRecDepth 100000 in
theorem p2_s499_s {X : Int → Int} {LX : Nat} : ck_Ok p2_O X LX 58 p2_s499 := ck_ok_s (O := p2_O) (X := X) (LX := LX) (E := []) (mi := 58) (cuts := []) (f := 114) (S := p2_s499) (lx := none) (XF := []) ⟨p2_nmu, ck_E0⟩ ck_X0 ck_l0 (by decide +kernel)
set_option maxRecDepth 100000 in
/-- GlacierMail$State.copyFrom -/
noncomputable def p2_s500 : ck_Sum := ((2, 0, 0), 245, [.inr (.inr (.inl 148)), .inr (.inr (.inl 3))], ([], [(3, 8, 0), (148, 8, 100148)], [(3, 6, 6, (0, 299, [(10, 0)]))]), (zl97, [(148, 8)]), [(.inr none, 245, ([], [(148, 8, 0)], [(148, 6, 6, (0, 299, [(10, 0)]))]))])
set_option maxRecDepth 100000 in
theorem p2_s500_s {X : Int → Int} {LX : Nat} : ck_Ok p2_O X LX 57 p2_s500 := ck_ok_s (O := p2_O) (X := X) (LX := LX) (E := [(58, [p2_s494, p2_s495, p2_s496, p2_s497, p2_s498, p2_s499])]) (mi := 57) (cuts := []) (f := 204) (S := p2_s500) (lx := none) (XF := []) ⟨p2_nmu, ck_E1 (ck_S1 p2_s494_s (ck_S1 p2_s495_s (ck_S1 p2_s496_s (ck_S1 p2_s497_s (ck_S1 p2_s498_s (ck_S1 p2_s499_s ck_S0)))))) ck_E0⟩ ck_X0 ck_l0 (by decide +kernel)
set_option maxRecDepth 100000 in
/-- GlacierMail$Rows.copyFrom -/
noncomputable def p2_s501 : ck_Sum := ((1, 0, 0), 245, [.inr (.inr (.inl 162)), .inr (.inr (.inl 4))], ([], [], []), ([(162, 3, 3), (163, 0, 55)], []), [(.inr none, 245, ([], [], []))])
set_option maxRecDepth 100000 in
theorem p2_s501_s {X : Int → Int} {LX : Nat} : ck_Ok p2_O X LX 58 p2_s501 := ck_ok_s (O := p2_O) (X := X) (LX := LX) (E := []) (mi := 58) (cuts := []) (f := 114) (S := p2_s501) (lx := none) (XF := []) ⟨p2_nmu, ck_E0⟩ ck_X0 ck_l0 (by decide +kernel)
set_option maxRecDepth 100000 in
/-- GlacierMail$Rows.copyFrom -/
noncomputable def p2_s502 : ck_Sum := ((1, 0, 0), 245, [.inr (.inr (.inl 164)), .inr (.inr (.inl 6))], ([], [], []), ([(164, 3, 3), (165, 0, 23)], []), [(.inr none, 245, ([], [], []))])
set_option maxRecDepth 100000 in
theorem p2_s502_s {X : Int → Int} {LX : Nat} : ck_Ok p2_O X LX 58 p2_s502 := ck_ok_s (O := p2_O) (X := X) (LX := LX) (E := []) (mi := 58) (cuts := []) (f := 114) (S := p2_s502) (lx := none) (XF := []) ⟨p2_nmu, ck_E0⟩ ck_X0 ck_l0 (by decide +kernel)
set_option maxRecDepth 100000 in
/-- GlacierMail$Rows.copyFrom -/
noncomputable def p2_s503 : ck_Sum := ((1, 0, 0), 245, [.inr (.inr (.inl 166)), .inr (.inr (.inl 8))], ([], [], []), ([(166, 3, 3), (167, 0, 23)], []), [(.inr none, 245, ([], [], []))])
set_option maxRecDepth 100000 in
theorem p2_s503_s {X : Int → Int} {LX : Nat} : ck_Ok p2_O X LX 58 p2_s503 := ck_ok_s (O := p2_O) (X := X) (LX := LX) (E := []) (mi := 58) (cuts := []) (f := 114) (S := p2_s503) (lx := none) (XF := []) ⟨p2_nmu, ck_E0⟩ ck_X0 ck_l0 (by decide +kernel)
set_option maxRecDepth 100000 in
/-- GlacierMail$Rows.copyFrom -/
noncomputable def p2_s504 : ck_Sum := ((1, 0, 0), 245, [.inr (.inr (.inl 168)), .inr (.inr (.inl 10))], ([], [], []), ([(168, 3, 3), (169, 0, 167)], []), [(.inr none, 245, ([], [], []))])
set_option maxRecDepth 100000 in
theorem p2_s504_s {X : Int → Int} {LX : Nat} : ck_Ok p2_O X LX 58 p2_s504 := ck_ok_s (O := p2_O) (X := X) (LX := LX) (E := []) (mi := 58) (cuts := []) (f := 114) (S := p2_s504) (lx := none) (XF := []) ⟨p2_nmu, ck_E0⟩ ck_X0 ck_l0 (by decide +kernel)
set_option maxRecDepth 100000 in
/-- GlacierMail$Rows.copyFrom -/
noncomputable def p2_s505 : ck_Sum := ((1, 0, 0), 245, [.inr (.inr (.inl 170)), .inr (.inr (.inl 12))], ([], [], []), ([(170, 3, 3), (171, 0, 35)], []), [(.inr none, 245, ([], [], []))])
set_option maxRecDepth 100000 in
theorem p2_s505_s {X : Int → Int} {LX : Nat} : ck_Ok p2_O X LX 58 p2_s505 := ck_ok_s (O := p2_O) (X := X) (LX := LX) (E := []) (mi := 58) (cuts := []) (f := 114) (S := p2_s505) (lx := none) (XF := []) ⟨p2_nmu, ck_E0⟩ ck_X0 ck_l0 (by decide +kernel)
set_option maxRecDepth 100000 in
/-- GlacierMail$Rows.copyFrom -/
noncomputable def p2_s506 : ck_Sum := ((1, 0, 0), 245, [.inr (.inr (.inl 172)), .inr (.inr (.inl 14))], ([], [], []), ([(172, 3, 3), (173, 0, 71)], []), [(.inr none, 245, ([], [], []))])
set_option maxRecDepth 100000 in
theorem p2_s506_s {X : Int → Int} {LX : Nat} : ck_Ok p2_O X LX 58 p2_s506 := ck_ok_s (O := p2_O) (X := X) (LX := LX) (E := []) (mi := 58) (cuts := []) (f := 114) (S := p2_s506) (lx := none) (XF := []) ⟨p2_nmu, ck_E0⟩ ck_X0 ck_l0 (by decide +kernel)
set_option maxRecDepth 100000 in
/-- GlacierMail$State.copyFrom -/
noncomputable def p2_s507 : ck_Sum := ((2, 0, 0), 245, [.inr (.inr (.inl 161)), .inr (.inr (.inl 3))], ([], [(3, 8, 0), (161, 8, 100161)], [(3, 6, 6, (0, 299, [(10, 0)]))]), (zl98, [(161, 8)]), [(.inr none, 245, ([], [(161, 8, 0)], [(161, 6, 6, (0, 299, [(10, 0)]))]))])
set_option maxRecDepth 100000 in
theorem p2_s507_s {X : Int → Int} {LX : Nat} : ck_Ok p2_O X LX 57 p2_s507 := ck_ok_s (O := p2_O) (X := X) (LX := LX) (E := [(58, [p2_s501, p2_s502, p2_s503, p2_s504, p2_s505, p2_s506])]) (mi := 57) (cuts := []) (f := 204) (S := p2_s507) (lx := none) (XF := []) ⟨p2_nmu, ck_E1 (ck_S1 p2_s501_s (ck_S1 p2_s502_s (ck_S1 p2_s503_s (ck_S1 p2_s504_s (ck_S1 p2_s505_s (ck_S1 p2_s506_s ck_S0)))))) ck_E0⟩ ck_X0 ck_l0 (by decide +kernel)
set_option maxRecDepth 100000 in
/-- GlacierMail$Rows.copyFrom -/
noncomputable def p2_s508 : ck_Sum := ((1, 0, 0), 245, [.inr (.inr (.inl 175)), .inr (.inr (.inl 4))], ([], [], []), ([(175, 3, 3), (176, 0, 55)], []), [(.inr none, 245, ([], [], []))])
set_option maxRecDepth 100000 in
theorem p2_s508_s {X : Int → Int} {LX : Nat} : ck_Ok p2_O X LX 58 p2_s508 := ck_ok_s (O := p2_O) (X := X) (LX := LX) (E := []) (mi := 58) (cuts := []) (f := 114) (S := p2_s508) (lx := none) (XF := []) ⟨p2_nmu, ck_E0⟩ ck_X0 ck_l0 (by decide +kernel)
set_option maxRecDepth 100000 in
/-- GlacierMail$Rows.copyFrom -/
noncomputable def p2_s509 : ck_Sum := ((1, 0, 0), 245, [.inr (.inr (.inl 177)), .inr (.inr (.inl 6))], ([], [], []), ([(177, 3, 3), (178, 0, 23)], []), [(.inr none, 245, ([], [], []))])
set_option maxRecDepth 100000 in
theorem p2_s509_s {X : Int → Int} {LX : Nat} : ck_Ok p2_O X LX 58 p2_s509 := ck_ok_s (O := p2_O) (X := X) (LX := LX) (E := []) (mi := 58) (cuts := []) (f := 114) (S := p2_s509) (lx := none) (XF := []) ⟨p2_nmu, ck_E0⟩ ck_X0 ck_l0 (by decide +kernel)
set_option maxRecDepth 100000 in
/-- GlacierMail$Rows.copyFrom -/
noncomputable def p2_s510 : ck_Sum := ((1, 0, 0), 245, [.inr (.inr (.inl 179)), .inr (.inr (.inl 8))], ([], [], []), ([(179, 3, 3), (180, 0, 23)], []), [(.inr none, 245, ([], [], []))])
set_option maxRecDepth 100000 in
theorem p2_s510_s {X : Int → Int} {LX : Nat} : ck_Ok p2_O X LX 58 p2_s510 := ck_ok_s (O := p2_O) (X := X) (LX := LX) (E := []) (mi := 58) (cuts := []) (f := 114) (S := p2_s510) (lx := none) (XF := []) ⟨p2_nmu, ck_E0⟩ ck_X0 ck_l0 (by decide +kernel)
set_option maxRecDepth 100000 in
/-- GlacierMail$Rows.copyFrom -/
noncomputable def p2_s511 : ck_Sum := ((1, 0, 0), 245, [.inr (.inr (.inl 181)), .inr (.inr (.inl 10))], ([], [], []), ([(181, 3, 3), (182, 0, 167)], []), [(.inr none, 245, ([], [], []))])
set_option maxRecDepth 100000 in
theorem p2_s511_s {X : Int → Int} {LX : Nat} : ck_Ok p2_O X LX 58 p2_s511 := ck_ok_s (O := p2_O) (X := X) (LX := LX) (E := []) (mi := 58) (cuts := []) (f := 114) (S := p2_s511) (lx := none) (XF := []) ⟨p2_nmu, ck_E0⟩ ck_X0 ck_l0 (by decide +kernel)
set_option maxRecDepth 100000 in
/-- GlacierMail$Rows.copyFrom -/
noncomputable def p2_s512 : ck_Sum := ((1, 0, 0), 245, [.inr (.inr (.inl 183)), .inr (.inr (.inl 12))], ([], [], []), ([(183, 3, 3), (184, 0, 35)], []), [(.inr none, 245, ([], [], []))])
set_option maxRecDepth 100000 in
theorem p2_s512_s {X : Int → Int} {LX : Nat} : ck_Ok p2_O X LX 58 p2_s512 := ck_ok_s (O := p2_O) (X := X) (LX := LX) (E := []) (mi := 58) (cuts := []) (f := 114) (S := p2_s512) (lx := none) (XF := []) ⟨p2_nmu, ck_E0⟩ ck_X0 ck_l0 (by decide +kernel)
set_option maxRecDepth 100000 in
/-- GlacierMail$Rows.copyFrom -/
noncomputable def p2_s513 : ck_Sum := ((1, 0, 0), 245, [.inr (.inr (.inl 185)), .inr (.inr (.inl 14))], ([], [], []), ([(185, 3, 3), (186, 0, 71)], []), [(.inr none, 245, ([], [], []))])
set_option maxRecDepth 100000 in
theorem p2_s513_s {X : Int → Int} {LX : Nat} : ck_Ok p2_O X LX 58 p2_s513 := ck_ok_s (O := p2_O) (X := X) (LX := LX) (E := []) (mi := 58) (cuts := []) (f := 114) (S := p2_s513) (lx := none) (XF := []) ⟨p2_nmu, ck_E0⟩ ck_X0 ck_l0 (by decide +kernel)
set_option maxRecDepth 100000 in
/-- GlacierMail$State.copyFrom -/
noncomputable def p2_s514 : ck_Sum := ((2, 0, 0), 245, [.inr (.inr (.inl 174)), .inr (.inr (.inl 3))], ([], [(3, 8, 0), (174, 8, 100174)], [(3, 6, 6, (0, 299, [(10, 0)]))]), (zl99, [(174, 8)]), [(.inr none, 245, ([], [(174, 8, 0)], [(174, 6, 6, (0, 299, [(10, 0)]))]))])
set_option maxRecDepth 100000 in
theorem p2_s514_s {X : Int → Int} {LX : Nat} : ck_Ok p2_O X LX 57 p2_s514 := ck_ok_s (O := p2_O) (X := X) (LX := LX) (E := [(58, [p2_s508, p2_s509, p2_s510, p2_s511, p2_s512, p2_s513])]) (mi := 57) (cuts := []) (f := 204) (S := p2_s514) (lx := none) (XF := []) ⟨p2_nmu, ck_E1 (ck_S1 p2_s508_s (ck_S1 p2_s509_s (ck_S1 p2_s510_s (ck_S1 p2_s511_s (ck_S1 p2_s512_s (ck_S1 p2_s513_s ck_S0)))))) ck_E0⟩ ck_X0 ck_l0 (by decide +kernel)
set_option maxRecDepth 100000 in
/-- GlacierMail$Rows.copyFrom -/
noncomputable def p2_s515 : ck_Sum := ((1, 0, 0), 245, [.inr (.inr (.inl 188)), .inr (.inr (.inl 4))], ([], [], []), ([(188, 3, 3), (189, 0, 55)], []), [(.inr none, 245, ([], [], []))])
set_option maxRecDepth 100000 in
theorem p2_s515_s {X : Int → Int} {LX : Nat} : ck_Ok p2_O X LX 58 p2_s515 := ck_ok_s (O := p2_O) (X := X) (LX := LX) (E := []) (mi := 58) (cuts := []) (f := 114) (S := p2_s515) (lx := none) (XF := []) ⟨p2_nmu, ck_E0⟩ ck_X0 ck_l0 (by decide +kernel)
set_option maxRecDepth 100000 in
/-- GlacierMail$Rows.copyFrom -/
noncomputable def p2_s516 : ck_Sum := ((1, 0, 0), 245, [.inr (.inr (.inl 190)), .inr (.inr (.inl 6))], ([], [], []), ([(190, 3, 3), (191, 0, 23)], []), [(.inr none, 245, ([], [], []))])
set_option maxRecDepth 100000 in
theorem p2_s516_s {X : Int → Int} {LX : Nat} : ck_Ok p2_O X LX 58 p2_s516 := ck_ok_s (O := p2_O) (X := X) (LX := LX) (E := []) (mi := 58) (cuts := []) (f := 114) (S := p2_s516) (lx := none) (XF := []) ⟨p2_nmu, ck_E0⟩ ck_X0 ck_l0 (by decide +kernel)
set_option maxRecDepth 100000 in
/-- GlacierMail$Rows.copyFrom -/
noncomputable def p2_s517 : ck_Sum := ((1, 0, 0), 245, [.inr (.inr (.inl 192)), .inr (.inr (.inl 8))], ([], [], []), ([(192, 3, 3), (193, 0, 23)], []), [(.inr none, 245, ([], [], []))])
set_option maxRecDepth 100000 in
theorem p2_s517_s {X : Int → Int} {LX : Nat} : ck_Ok p2_O X LX 58 p2_s517 := ck_ok_s (O := p2_O) (X := X) (LX := LX) (E := []) (mi := 58) (cuts := []) (f := 114) (S := p2_s517) (lx := none) (XF := []) ⟨p2_nmu, ck_E0⟩ ck_X0 ck_l0 (by decide +kernel)
set_option maxRecDepth 100000 in
/-- GlacierMail$Rows.copyFrom -/
noncomputable def p2_s518 : ck_Sum := ((1, 0, 0), 245, [.inr (.inr (.inl 194)), .inr (.inr (.inl 10))], ([], [], []), ([(194, 3, 3), (195, 0, 167)], []), [(.inr none, 245, ([], [], []))])
set_option maxRecDepth 100000 in
theorem p2_s518_s {X : Int → Int} {LX : Nat} : ck_Ok p2_O X LX 58 p2_s518 := ck_ok_s (O := p2_O) (X := X) (LX := LX) (E := []) (mi := 58) (cuts := []) (f := 114) (S := p2_s518) (lx := none) (XF := []) ⟨p2_nmu, ck_E0⟩ ck_X0 ck_l0 (by decide +kernel)
set_option maxRecDepth 100000 in
/-- GlacierMail$Rows.copyFrom -/
noncomputable def p2_s519 : ck_Sum := ((1, 0, 0), 245, [.inr (.inr (.inl 196)), .inr (.inr (.inl 12))], ([], [], []), ([(196, 3, 3), (197, 0, 35)], []), [(.inr none, 245, ([], [], []))])
set_option maxRecDepth 100000 in
theorem p2_s519_s {X : Int → Int} {LX : Nat} : ck_Ok p2_O X LX 58 p2_s519 := ck_ok_s (O := p2_O) (X := X) (LX := LX) (E := []) (mi := 58) (cuts := []) (f := 114) (S := p2_s519) (lx := none) (XF := []) ⟨p2_nmu, ck_E0⟩ ck_X0 ck_l0 (by decide +kernel)
set_option maxRecDepth 100000 in
/-- GlacierMail$Rows.copyFrom -/
noncomputable def p2_s520 : ck_Sum := ((1, 0, 0), 245, [.inr (.inr (.inl 198)), .inr (.inr (.inl 14))], ([], [], []), ([(198, 3, 3), (199, 0, 71)], []), [(.inr none, 245, ([], [], []))])
set_option maxRecDepth 100000 in
theorem p2_s520_s {X : Int → Int} {LX : Nat} : ck_Ok p2_O X LX 58 p2_s520 := ck_ok_s (O := p2_O) (X := X) (LX := LX) (E := []) (mi := 58) (cuts := []) (f := 114) (S := p2_s520) (lx := none) (XF := []) ⟨p2_nmu, ck_E0⟩ ck_X0 ck_l0 (by decide +kernel)
set_option maxRecDepth 100000 in
/-- GlacierMail$State.copyFrom -/
noncomputable def p2_s521 : ck_Sum := ((2, 0, 0), 245, [.inr (.inr (.inl 187)), .inr (.inr (.inl 3))], ([], [(3, 8, 0), (187, 8, 100187)], [(3, 6, 6, (0, 299, [(10, 0)]))]), (zl100, [(187, 8)]), [(.inr none, 245, ([], [(187, 8, 0)], [(187, 6, 6, (0, 299, [(10, 0)]))]))])
set_option maxRecDepth 100000 in
theorem p2_s521_s {X : Int → Int} {LX : Nat} : ck_Ok p2_O X LX 57 p2_s521 := ck_ok_s (O := p2_O) (X := X) (LX := LX) (E := [(58, [p2_s515, p2_s516, p2_s517, p2_s518, p2_s519, p2_s520])]) (mi := 57) (cuts := []) (f := 204) (S := p2_s521) (lx := none) (XF := []) ⟨p2_nmu, ck_E1 (ck_S1 p2_s515_s (ck_S1 p2_s516_s (ck_S1 p2_s517_s (ck_S1 p2_s518_s (ck_S1 p2_s519_s (ck_S1 p2_s520_s ck_S0)))))) ck_E0⟩ ck_X0 ck_l0 (by decide +kernel)
set_option maxRecDepth 100000 in
/-- GlacierMail$Rows.copyFrom -/
noncomputable def p2_s522 : ck_Sum := ((1, 0, 0), 245, [.inr (.inr (.inl 45)), .inr (.inr (.inl 4))], ([], [], []), ([(45, 3, 3), (46, 0, 55)], []), [(.inr none, 245, ([], [], []))])
set_option maxRecDepth 100000 in
theorem p2_s522_s {X : Int → Int} {LX : Nat} : ck_Ok p2_O X LX 58 p2_s522 := ck_ok_s (O := p2_O) (X := X) (LX := LX) (E := []) (mi := 58) (cuts := []) (f := 114) (S := p2_s522) (lx := none) (XF := []) ⟨p2_nmu, ck_E0⟩ ck_X0 ck_l0 (by decide +kernel)
set_option maxRecDepth 100000 in
/-- GlacierMail$Rows.copyFrom -/
noncomputable def p2_s523 : ck_Sum := ((1, 0, 0), 245, [.inr (.inr (.inl 47)), .inr (.inr (.inl 6))], ([], [], []), ([(47, 3, 3), (48, 0, 23)], []), [(.inr none, 245, ([], [], []))])
set_option maxRecDepth 100000 in
theorem p2_s523_s {X : Int → Int} {LX : Nat} : ck_Ok p2_O X LX 58 p2_s523 := ck_ok_s (O := p2_O) (X := X) (LX := LX) (E := []) (mi := 58) (cuts := []) (f := 114) (S := p2_s523) (lx := none) (XF := []) ⟨p2_nmu, ck_E0⟩ ck_X0 ck_l0 (by decide +kernel)
set_option maxRecDepth 100000 in
/-- GlacierMail$Rows.copyFrom -/
noncomputable def p2_s524 : ck_Sum := ((1, 0, 0), 245, [.inr (.inr (.inl 49)), .inr (.inr (.inl 8))], ([], [], []), ([(49, 3, 3), (50, 0, 23)], []), [(.inr none, 245, ([], [], []))])
set_option maxRecDepth 100000 in
theorem p2_s524_s {X : Int → Int} {LX : Nat} : ck_Ok p2_O X LX 58 p2_s524 := ck_ok_s (O := p2_O) (X := X) (LX := LX) (E := []) (mi := 58) (cuts := []) (f := 114) (S := p2_s524) (lx := none) (XF := []) ⟨p2_nmu, ck_E0⟩ ck_X0 ck_l0 (by decide +kernel)
set_option maxRecDepth 100000 in
/-- GlacierMail$Rows.copyFrom -/
noncomputable def p2_s525 : ck_Sum := ((1, 0, 0), 245, [.inr (.inr (.inl 51)), .inr (.inr (.inl 10))], ([], [], []), ([(51, 3, 3), (52, 0, 167)], []), [(.inr none, 245, ([], [], []))])
set_option maxRecDepth 100000 in
theorem p2_s525_s {X : Int → Int} {LX : Nat} : ck_Ok p2_O X LX 58 p2_s525 := ck_ok_s (O := p2_O) (X := X) (LX := LX) (E := []) (mi := 58) (cuts := []) (f := 114) (S := p2_s525) (lx := none) (XF := []) ⟨p2_nmu, ck_E0⟩ ck_X0 ck_l0 (by decide +kernel)
set_option maxRecDepth 100000 in
/-- GlacierMail$Rows.copyFrom -/
noncomputable def p2_s526 : ck_Sum := ((1, 0, 0), 245, [.inr (.inr (.inl 53)), .inr (.inr (.inl 12))], ([], [], []), ([(53, 3, 3), (54, 0, 35)], []), [(.inr none, 245, ([], [], []))])
set_option maxRecDepth 100000 in
theorem p2_s526_s {X : Int → Int} {LX : Nat} : ck_Ok p2_O X LX 58 p2_s526 := ck_ok_s (O := p2_O) (X := X) (LX := LX) (E := []) (mi := 58) (cuts := []) (f := 114) (S := p2_s526) (lx := none) (XF := []) ⟨p2_nmu, ck_E0⟩ ck_X0 ck_l0 (by decide +kernel)
set_option maxRecDepth 100000 in
/-- GlacierMail$Rows.copyFrom -/
noncomputable def p2_s527 : ck_Sum := ((1, 0, 0), 245, [.inr (.inr (.inl 55)), .inr (.inr (.inl 14))], ([], [], []), ([(55, 3, 3), (56, 0, 71)], []), [(.inr none, 245, ([], [], []))])
set_option maxRecDepth 100000 in
theorem p2_s527_s {X : Int → Int} {LX : Nat} : ck_Ok p2_O X LX 58 p2_s527 := ck_ok_s (O := p2_O) (X := X) (LX := LX) (E := []) (mi := 58) (cuts := []) (f := 114) (S := p2_s527) (lx := none) (XF := []) ⟨p2_nmu, ck_E0⟩ ck_X0 ck_l0 (by decide +kernel)
set_option maxRecDepth 100000 in
/-- GlacierMail$State.copyFrom -/
noncomputable def p2_s528 : ck_Sum := ((2, 0, 0), 245, [.inr (.inr (.inl 44)), .inr (.inr (.inl 3))], ([], [(3, 8, 0), (44, 8, 100044)], [(3, 6, 6, (0, 299, [(10, 0)]))]), (zl101, [(44, 8)]), [(.inr none, 245, ([], [(44, 8, 0)], [(44, 6, 6, (0, 299, [(10, 0)]))]))])
set_option maxRecDepth 100000 in
theorem p2_s528_s {X : Int → Int} {LX : Nat} : ck_Ok p2_O X LX 57 p2_s528 := ck_ok_s (O := p2_O) (X := X) (LX := LX) (E := [(58, [p2_s522, p2_s523, p2_s524, p2_s525, p2_s526, p2_s527])]) (mi := 57) (cuts := []) (f := 204) (S := p2_s528) (lx := none) (XF := []) ⟨p2_nmu, ck_E1 (ck_S1 p2_s522_s (ck_S1 p2_s523_s (ck_S1 p2_s524_s (ck_S1 p2_s525_s (ck_S1 p2_s526_s (ck_S1 p2_s527_s ck_S0)))))) ck_E0⟩ ck_X0 ck_l0 (by decide +kernel)
set_option maxRecDepth 100000 in
/-- GlacierMail$History.remember -/
noncomputable def p2_s529 : ck_Sum := ((3, 0, 0), 245, [.inr (.inr (.inl 42)), .inr (.inr (.inl 3))], ([], zl102, [(3, 6, 6, (0, 299, [(10, 0)]))]), (zl103, zl104), [(.inr none, 245, ([], zl105, zl106)), (.inr none, 245, ([], zl107, zl108)), (.inr none, 245, ([], zl109, zl110)), (.inr none, 245, ([], zl111, zl112)), (.inr none, 245, ([], zl113, zl114)), (.inr none, 245, ([], zl115, zl116)), (.inr none, 245, ([], zl117, zl118)), (.inr none, 245, ([], zl119, zl120)), (.inr none, 245, ([], zl121, zl122)), (.inr none, 245, ([], zl123, zl124)), (.inr none, 245, ([], zl125, zl126)), (.inr none, 245, ([], zl127, zl128)), (.inr none, 245, ([], zl129, zl130))])
set_option maxRecDepth 100000 in
theorem p2_s529_s {X : Int → Int} {LX : Nat} : ck_Ok p2_O X LX 154 p2_s529 := ck_ok_s (O := p2_O) (X := X) (LX := LX) (E := [(56, [p2_s444]), (57, [p2_s451, p2_s458, p2_s465, p2_s472, p2_s479, p2_s486, p2_s493, p2_s500, p2_s507, p2_s514, p2_s521, p2_s528])]) (mi := 154) (cuts := []) (f := 124) (S := p2_s529) (lx := none) (XF := []) ⟨p2_nmu, ck_E1 (ck_S1 p2_s444_s ck_S0) (ck_E1 (ck_S1 p2_s451_s (ck_S1 p2_s458_s (ck_S1 p2_s465_s (ck_S1 p2_s472_s (ck_S1 p2_s479_s (ck_S1 p2_s486_s (ck_S1 p2_s493_s (ck_S1 p2_s500_s (ck_S1 p2_s507_s (ck_S1 p2_s514_s (ck_S1 p2_s521_s (ck_S1 p2_s528_s ck_S0)))))))))))) ck_E0)⟩ ck_X0 ck_l0 (by decide +kernel)
set_option maxRecDepth 100000 in
/-- GlacierMail$Rows.add -/
noncomputable def p2_s530 : ck_Sum := ((0, 0, 0), 245, [.inr (.inr (.inl 10))], ([], [], []), ([(10, 3, 3)], []), zl131)
set_option maxRecDepth 100000 in
theorem p2_s530_s {X : Int → Int} {LX : Nat} : ck_Ok p2_O X LX 102 p2_s530 := ck_ok_s (O := p2_O) (X := X) (LX := LX) (E := []) (mi := 102) (cuts := []) (f := 102) (S := p2_s530) (lx := none) (XF := []) ⟨p2_nmu, ck_E0⟩ ck_X0 ck_l0 (by decide +kernel)
set_option maxRecDepth 100000 in
/-- GlacierMail$Rows.put -/
noncomputable def p2_s531 : ck_Sum := ((0, 0, 0), 245, [.inr (.inr (.inl 10)), .inl (0, 23, []), .inl (ck_one 0), .inl (0, 7, [])], ([], [], []), (zl132, []), [(.inr none, 245, ([], [], []))])
set_option maxRecDepth 100000 in
theorem p2_s531_s {X : Int → Int} {LX : Nat} : ck_Ok p2_O X LX 45 p2_s531 := ck_ok_s (O := p2_O) (X := X) (LX := LX) (E := []) (mi := 45) (cuts := []) (f := 116) (S := p2_s531) (lx := none) (XF := []) ⟨p2_nmu, ck_E0⟩ ck_X0 ck_l0 (by decide +kernel)
set_option maxRecDepth 100000 in
/-- GlacierMail$Rows.put -/
noncomputable def p2_s532 : ck_Sum := ((0, 0, 0), 245, [.inr (.inr (.inl 10)), .inl (0, 23, []), .inl (ck_one 1), .inl (0, 7, [])], ([], [], []), (zl133, []), [(.inr none, 245, ([], [], []))])
set_option maxRecDepth 100000 in
theorem p2_s532_s {X : Int → Int} {LX : Nat} : ck_Ok p2_O X LX 45 p2_s532 := ck_ok_s (O := p2_O) (X := X) (LX := LX) (E := []) (mi := 45) (cuts := []) (f := 116) (S := p2_s532) (lx := none) (XF := []) ⟨p2_nmu, ck_E0⟩ ck_X0 ck_l0 (by decide +kernel)
set_option maxRecDepth 100000 in
/-- GlacierMail$Rows.put -/
noncomputable def p2_s533 : ck_Sum := ((0, 0, 0), 245, [.inr (.inr (.inl 10)), .inl (0, 23, []), .inl (ck_one 2), .inl ((-1), 98, [])], ([], [], []), (zl134, []), [(.inr none, 245, ([], [], []))])
set_option maxRecDepth 100000 in
theorem p2_s533_s {X : Int → Int} {LX : Nat} : ck_Ok p2_O X LX 45 p2_s533 := ck_ok_s (O := p2_O) (X := X) (LX := LX) (E := []) (mi := 45) (cuts := []) (f := 116) (S := p2_s533) (lx := none) (XF := []) ⟨p2_nmu, ck_E0⟩ ck_X0 ck_l0 (by decide +kernel)
set_option maxRecDepth 100000 in
/-- GlacierMail$Rows.put -/
noncomputable def p2_s534 : ck_Sum := ((0, 0, 0), 245, [.inr (.inr (.inl 10)), .inl (0, 23, []), .inl (ck_one 3), .inl (0, 299, [])], ([], [], []), (zl135, []), [(.inr none, 245, ([], [], []))])
set_option maxRecDepth 100000 in
theorem p2_s534_s {X : Int → Int} {LX : Nat} : ck_Ok p2_O X LX 45 p2_s534 := ck_ok_s (O := p2_O) (X := X) (LX := LX) (E := []) (mi := 45) (cuts := []) (f := 116) (S := p2_s534) (lx := none) (XF := []) ⟨p2_nmu, ck_E0⟩ ck_X0 ck_l0 (by decide +kernel)
set_option maxRecDepth 100000 in
/-- GlacierMail$Rows.put -/
noncomputable def p2_s535 : ck_Sum := ((0, 0, 0), 245, [.inr (.inr (.inl 10)), .inl (0, 23, []), .inl (ck_one 4), .inl ((-1), 98, [])], ([], [], []), (zl136, []), [(.inr none, 245, ([], [], []))])
set_option maxRecDepth 100000 in
theorem p2_s535_s {X : Int → Int} {LX : Nat} : ck_Ok p2_O X LX 45 p2_s535 := ck_ok_s (O := p2_O) (X := X) (LX := LX) (E := []) (mi := 45) (cuts := []) (f := 116) (S := p2_s535) (lx := none) (XF := []) ⟨p2_nmu, ck_E0⟩ ck_X0 ck_l0 (by decide +kernel)
set_option maxRecDepth 100000 in
/-- GlacierMail$Rows.put -/
noncomputable def p2_s536 : ck_Sum := ((0, 0, 0), 245, [.inr (.inr (.inl 10)), .inl (0, 23, []), .inl (ck_one 5), .inl (ck_one (-1))], ([], [], []), (zl137, []), [(.inr none, 245, ([], [], []))])
set_option maxRecDepth 100000 in
theorem p2_s536_s {X : Int → Int} {LX : Nat} : ck_Ok p2_O X LX 45 p2_s536 := ck_ok_s (O := p2_O) (X := X) (LX := LX) (E := []) (mi := 45) (cuts := []) (f := 116) (S := p2_s536) (lx := none) (XF := []) ⟨p2_nmu, ck_E0⟩ ck_X0 ck_l0 (by decide +kernel)
set_option maxRecDepth 100000 in
/-- GlacierMail$Rows.put -/
noncomputable def p2_s537 : ck_Sum := ((0, 0, 0), 245, [.inr (.inr (.inl 10)), .inl (0, 23, []), .inl (ck_one 6), .inl (ck_one (-1))], ([], [], []), (zl138, []), [(.inr none, 245, ([], [], []))])
set_option maxRecDepth 100000 in
theorem p2_s537_s {X : Int → Int} {LX : Nat} : ck_Ok p2_O X LX 45 p2_s537 := ck_ok_s (O := p2_O) (X := X) (LX := LX) (E := []) (mi := 45) (cuts := []) (f := 116) (S := p2_s537) (lx := none) (XF := []) ⟨p2_nmu, ck_E0⟩ ck_X0 ck_l0 (by decide +kernel)
set_option maxRecDepth 100000 in
/-- GlacierMail$Rows.put -/
noncomputable def p2_s538 : ck_Sum := ((0, 0, 0), 245, [.inr (.inr (.inl 10)), .inl (ck_one (-1)), .inl (ck_one 0), .inl (0, 7, [])], ([], [], []), ([], []), [(.inr none, 245, ([], [], []))])
set_option maxRecDepth 100000 in
theorem p2_s538_s {X : Int → Int} {LX : Nat} : ck_Ok p2_O X LX 45 p2_s538 := ck_ok_s (O := p2_O) (X := X) (LX := LX) (E := []) (mi := 45) (cuts := []) (f := 76) (S := p2_s538) (lx := none) (XF := []) ⟨p2_nmu, ck_E0⟩ ck_X0 ck_l0 (by decide +kernel)
set_option maxRecDepth 100000 in
/-- GlacierMail$Rows.put -/
noncomputable def p2_s539 : ck_Sum := ((0, 0, 0), 245, [.inr (.inr (.inl 10)), .inl (ck_one (-1)), .inl (ck_one 1), .inl (0, 7, [])], ([], [], []), ([], []), [(.inr none, 245, ([], [], []))])
set_option maxRecDepth 100000 in
theorem p2_s539_s {X : Int → Int} {LX : Nat} : ck_Ok p2_O X LX 45 p2_s539 := ck_ok_s (O := p2_O) (X := X) (LX := LX) (E := []) (mi := 45) (cuts := []) (f := 76) (S := p2_s539) (lx := none) (XF := []) ⟨p2_nmu, ck_E0⟩ ck_X0 ck_l0 (by decide +kernel)
set_option maxRecDepth 100000 in
/-- GlacierMail$Rows.put -/
noncomputable def p2_s540 : ck_Sum := ((0, 0, 0), 245, [.inr (.inr (.inl 10)), .inl (ck_one (-1)), .inl (ck_one 2), .inl ((-1), 98, [])], ([], [], []), ([], []), [(.inr none, 245, ([], [], []))])
set_option maxRecDepth 100000 in
theorem p2_s540_s {X : Int → Int} {LX : Nat} : ck_Ok p2_O X LX 45 p2_s540 := ck_ok_s (O := p2_O) (X := X) (LX := LX) (E := []) (mi := 45) (cuts := []) (f := 76) (S := p2_s540) (lx := none) (XF := []) ⟨p2_nmu, ck_E0⟩ ck_X0 ck_l0 (by decide +kernel)
end
/-! 78r80a06.sf -/
section
/-! EVERY CALL ENDS, whatever was done before (laid by wip/am/p2k.py). -/
set_option maxRecDepth 100000 in
/-- GlacierMail$Rows.put -/
noncomputable def p2_s541 : ck_Sum := ((0, 0, 0), 245, [.inr (.inr (.inl 10)), .inl (ck_one (-1)), .inl (ck_one 3), .inl (0, 299, [])], ([], [], []), ([], []), [(.inr none, 245, ([], [], []))])
set_option maxRecDepth 100000 in
theorem p2_s541_s {X : Int → Int} {LX : Nat} : ck_Ok p2_O X LX 45 p2_s541 := ck_ok_s (O := p2_O) (X := X) (LX := LX) (E := []) (mi := 45) (cuts := []) (f := 76) (S := p2_s541) (lx := none) (XF := []) ⟨p2_nmu, ck_E0⟩ ck_X0 ck_l0 (by decide +kernel)
set_option maxRecDepth 100000 in
/-- GlacierMail$Rows.put -/
noncomputable def p2_s542 : ck_Sum := ((0, 0, 0), 245, [.inr (.inr (.inl 10)), .inl (ck_one (-1)), .inl (ck_one 4), .inl ((-1), 98, [])], ([], [], []), ([], []), [(.inr none, 245, ([], [], []))])
set_option maxRecDepth 100000 in
theorem p2_s542_s {X : Int → Int} {LX : Nat} : ck_Ok p2_O X LX 45 p2_s542 := ck_ok_s (O := p2_O) (X := X) (LX := LX) (E := []) (mi := 45) (cuts := []) (f := 76) (S := p2_s542) (lx := none) (XF := []) ⟨p2_nmu, ck_E0⟩ ck_X0 ck_l0 (by decide +kernel)
set_option maxRecDepth 100000 in
/-- GlacierMail$Rows.put -/
noncomputable def p2_s543 : ck_Sum := ((0, 0, 0), 245, [.inr (.inr (.inl 10)), .inl (ck_one (-1)), .inl (ck_one 5), .inl (ck_one (-1))], ([], [], []), ([], []), [(.inr none, 245, ([], [], []))])
set_option maxRecDepth 100000 in
theorem p2_s543_s {X : Int → Int} {LX : Nat} : ck_Ok p2_O X LX 45 p2_s543 := ck_ok_s (O := p2_O) (X := X) (LX := LX) (E := []) (mi := 45) (cuts := []) (f := 76) (S := p2_s543) (lx := none) (XF := []) ⟨p2_nmu, ck_E0⟩ ck_X0 ck_l0 (by decide +kernel)
set_option maxRecDepth 100000 in
/-- GlacierMail$Rows.put -/
noncomputable def p2_s544 : ck_Sum := ((0, 0, 0), 245, [.inr (.inr (.inl 10)), .inl (ck_one (-1)), .inl (ck_one 6), .inl (ck_one (-1))], ([], [], []), ([], []), [(.inr none, 245, ([], [], []))])
set_option maxRecDepth 100000 in
theorem p2_s544_s {X : Int → Int} {LX : Nat} : ck_Ok p2_O X LX 45 p2_s544 := ck_ok_s (O := p2_O) (X := X) (LX := LX) (E := []) (mi := 45) (cuts := []) (f := 76) (S := p2_s544) (lx := none) (XF := []) ⟨p2_nmu, ck_E0⟩ ck_X0 ck_l0 (by decide +kernel)
set_option maxRecDepth 100000 in
/-- GlacierMail$State.throwIn -/
noncomputable def p2_s545 : ck_Sum := ((1, 0, 0), 245, [.inr (.inr (.inl 3)), .inl (0, 7, []), .inl (0, 7, []), .inl ((-1), 98, []), .inl ((-1), 98, [])], ([], [], [(3, 6, 6, (0, 299, [(10, 0)]))]), ([(10, 3, 3), (11, 0, 167)], []), zl131)
set_option maxRecDepth 100000 in
theorem p2_s545_s {X : Int → Int} {LX : Nat} : ck_Ok p2_O X LX 119 p2_s545 := ck_ok_s (O := p2_O) (X := X) (LX := LX) (E := [(102, [p2_s530]), (45, [p2_s531, p2_s532, p2_s533, p2_s534, p2_s535, p2_s536, p2_s537, p2_s538, p2_s539, p2_s540, p2_s541, p2_s542, p2_s543, p2_s544])]) (mi := 119) (cuts := []) (f := 168) (S := p2_s545) (lx := none) (XF := []) ⟨p2_nmu, ck_E1 (ck_S1 p2_s530_s ck_S0) (ck_E1 (ck_S1 p2_s531_s (ck_S1 p2_s532_s (ck_S1 p2_s533_s (ck_S1 p2_s534_s (ck_S1 p2_s535_s (ck_S1 p2_s536_s (ck_S1 p2_s537_s (ck_S1 p2_s538_s (ck_S1 p2_s539_s (ck_S1 p2_s540_s (ck_S1 p2_s541_s (ck_S1 p2_s542_s (ck_S1 p2_s543_s (ck_S1 p2_s544_s ck_S0)))))))))))))) ck_E0)⟩ ck_X0 ck_l0 (by decide +kernel)
set_option maxRecDepth 100000 in
/-- GlacierMail.post -/
noncomputable def p2_s546 : ck_Sum := ((8, 4, 24), 245, [.inr (.inr (.inl 1)), .inl (0, 7, []), .inl (0, 7, [])], ([], zl102, [(3, 6, 6, (0, 299, [(10, 0)]))]), (zl139, zl104), [(.inl 3, 245, ([], zl105, [])), (.inl 0, 245, ([], zl105, [])), (.inr (some (.inl (0, 23, []))), 245, ([], zl105, zl140)), (.inr (some (.inl (ck_one (-1)))), 245, ([], zl105, zl141)), (.inr (some (.inl (0, 23, []))), 245, ([], zl129, zl142)), (.inr (some (.inl (ck_one (-1)))), 245, ([], zl129, zl143)), (.inr (some (.inl (0, 23, []))), 245, ([], zl127, zl144)), (.inr (some (.inl (ck_one (-1)))), 245, ([], zl127, zl145)), (.inr (some (.inl (0, 23, []))), 245, ([], zl125, zl146)), (.inr (some (.inl (ck_one (-1)))), 245, ([], zl125, zl147)), (.inr (some (.inl (0, 23, []))), 245, ([], zl123, zl148)), (.inr (some (.inl (ck_one (-1)))), 245, ([], zl123, zl149)), (.inr (some (.inl (0, 23, []))), 245, ([], zl121, zl150)), (.inr (some (.inl (ck_one (-1)))), 245, ([], zl121, zl151)), (.inr (some (.inl (0, 23, []))), 245, ([], zl119, zl152)), (.inr (some (.inl (ck_one (-1)))), 245, ([], zl119, zl153)), (.inr (some (.inl (0, 23, []))), 245, ([], zl117, zl154)), (.inr (some (.inl (ck_one (-1)))), 245, ([], zl117, zl155)), (.inr (some (.inl (0, 23, []))), 245, ([], zl115, zl156)), (.inr (some (.inl (ck_one (-1)))), 245, ([], zl115, zl157)), (.inr (some (.inl (0, 23, []))), 245, ([], zl113, zl158)), (.inr (some (.inl (ck_one (-1)))), 245, ([], zl113, zl159)), (.inr (some (.inl (0, 23, []))), 245, ([], zl111, zl160)), (.inr (some (.inl (ck_one (-1)))), 245, ([], zl111, zl161)), (.inr (some (.inl (0, 23, []))), 245, ([], zl109, zl162)), (.inr (some (.inl (ck_one (-1)))), 245, ([], zl109, zl163)), (.inr (some (.inl (0, 23, []))), 245, ([], zl107, zl164)), (.inr (some (.inl (ck_one (-1)))), 245, ([], zl107, zl165)), (.inl 1, 245, ([], zl105, [(10, 3, 3, ck_one 24)]))])
set_option maxRecDepth 100000 in
theorem p2_s546_s {X : Int → Int} {LX : Nat} : ck_Ok p2_O X LX 152 p2_s546 := ck_ok_s (O := p2_O) (X := X) (LX := LX) (E := [(139, [p2_s328]), (153, [p2_s442]), (108, [p2_s443]), (154, [p2_s529]), (10, [p2_s356]), (119, [p2_s545])]) (mi := 152) (cuts := []) (f := 152) (S := p2_s546) (lx := none) (XF := []) ⟨p2_nmu, ck_E1 (ck_S1 p2_s328_s ck_S0) (ck_E1 (ck_S1 p2_s442_s ck_S0) (ck_E1 (ck_S1 p2_s443_s ck_S0) (ck_E1 (ck_S1 p2_s529_s ck_S0) (ck_E1 (ck_S1 p2_s356_s ck_S0) (ck_E1 (ck_S1 p2_s545_s ck_S0) ck_E0)))))⟩ ck_X0 ck_l0 (by decide +kernel)
set_option maxRecDepth 100000 in
/-- GlacierMailModel.post -/
noncomputable def p2_s547 : ck_Sum := ((2, 0, 0), 245, [.inr (.inr (.inl 226)), .inl ((-2147483648), (-1), []), .inl ((-2147483648), 2147483647, [])], ([], [], [(227, 3, 3, (0, 8, [(21, 0)]))]), ([(226, 0, 0)], []), [(.inr (some (.inl (ck_one 0))), 245, ([], [], [(226, 0, 0, ck_one 1)]))])
set_option maxRecDepth 100000 in
theorem p2_s547_s {X : Int → Int} {LX : Nat} : ck_Ok p2_O X LX 315 p2_s547 := ck_ok_s (O := p2_O) (X := X) (LX := LX) (E := [(298, [p2_s359]), (282, [p2_s241])]) (mi := 315) (cuts := []) (f := 100) (S := p2_s547) (lx := none) (XF := []) ⟨p2_nmu, ck_E1 (ck_S1 p2_s359_s ck_S0) (ck_E1 (ck_S1 p2_s241_s ck_S0) ck_E0)⟩ ck_X0 ck_l0 (by decide +kernel)
set_option maxRecDepth 100000 in
/-- GlacierMailModel.post -/
noncomputable def p2_s548 : ck_Sum := ((2, 0, 0), 245, [.inr (.inr (.inl 226)), .inl (8, 2147483647, []), .inl ((-2147483648), 2147483647, [])], ([], [], [(227, 3, 3, (0, 8, [(21, 0)]))]), ([(226, 0, 0)], []), [(.inr (some (.inl (ck_one 0))), 245, ([], [], [(226, 0, 0, ck_one 1)]))])
set_option maxRecDepth 100000 in
theorem p2_s548_s {X : Int → Int} {LX : Nat} : ck_Ok p2_O X LX 315 p2_s548 := ck_ok_s (O := p2_O) (X := X) (LX := LX) (E := [(298, [p2_s362]), (282, [p2_s241])]) (mi := 315) (cuts := []) (f := 100) (S := p2_s548) (lx := none) (XF := []) ⟨p2_nmu, ck_E1 (ck_S1 p2_s362_s ck_S0) (ck_E1 (ck_S1 p2_s241_s ck_S0) ck_E0)⟩ ck_X0 ck_l0 (by decide +kernel)
set_option maxRecDepth 100000 in
/-- GlacierMailModel.post -/
noncomputable def p2_s549 : ck_Sum := ((2, 0, 0), 245, [.inr (.inr (.inl 226)), .inl (0, 7, []), .inl ((-2147483648), (-1), [])], ([], [], [(227, 3, 3, (0, 8, [(21, 0)]))]), ([(226, 0, 0)], []), [(.inr (some (.inl (ck_one 0))), 245, ([], [], [(226, 0, 0, ck_one 1)]))])
set_option maxRecDepth 100000 in
theorem p2_s549_s {X : Int → Int} {LX : Nat} : ck_Ok p2_O X LX 315 p2_s549 := ck_ok_s (O := p2_O) (X := X) (LX := LX) (E := [(298, [p2_s365, p2_s359]), (282, [p2_s241])]) (mi := 315) (cuts := []) (f := 108) (S := p2_s549) (lx := none) (XF := []) ⟨p2_nmu, ck_E1 (ck_S1 p2_s365_s (ck_S1 p2_s359_s ck_S0)) (ck_E1 (ck_S1 p2_s241_s ck_S0) ck_E0)⟩ ck_X0 ck_l0 (by decide +kernel)
set_option maxRecDepth 100000 in
/-- GlacierMailModel.post -/
noncomputable def p2_s550 : ck_Sum := ((2, 0, 0), 245, [.inr (.inr (.inl 226)), .inl (0, 7, []), .inl (8, 2147483647, [])], ([], [], [(227, 3, 3, (0, 8, [(21, 0)]))]), ([(226, 0, 0)], []), [(.inr (some (.inl (ck_one 0))), 245, ([], [], [(226, 0, 0, ck_one 1)]))])
set_option maxRecDepth 100000 in
theorem p2_s550_s {X : Int → Int} {LX : Nat} : ck_Ok p2_O X LX 315 p2_s550 := ck_ok_s (O := p2_O) (X := X) (LX := LX) (E := [(298, [p2_s365, p2_s362]), (282, [p2_s241])]) (mi := 315) (cuts := []) (f := 108) (S := p2_s550) (lx := none) (XF := []) ⟨p2_nmu, ck_E1 (ck_S1 p2_s365_s (ck_S1 p2_s362_s ck_S0)) (ck_E1 (ck_S1 p2_s241_s ck_S0) ck_E0)⟩ ck_X0 ck_l0 (by decide +kernel)
set_option maxRecDepth 100000 in
/-- GlacierMailModel.throwsIf -/
noncomputable def p2_s551 : ck_Sum := ((0, 0, 0), 245, [.inr (.inr (.inl 226)), .inl (ck_one 0), .inl (ck_one 3)], ([], [], []), ([], []), [(.inr (some (.inl (ck_one 0))), 245, ([], [], []))])
set_option maxRecDepth 100000 in
theorem p2_s551_s {X : Int → Int} {LX : Nat} : ck_Ok p2_O X LX 282 p2_s551 := ck_ok_s (O := p2_O) (X := X) (LX := LX) (E := []) (mi := 282) (cuts := []) (f := 78) (S := p2_s551) (lx := none) (XF := []) ⟨p2_nmu, ck_E0⟩ ck_X0 ck_l0 (by decide +kernel)
set_option maxRecDepth 100000 in
/-- GlacierMailModel.throwsIf -/
noncomputable def p2_s552 : ck_Sum := ((0, 0, 0), 245, [.inr (.inr (.inl 226)), .inl (ck_one 1), .inl (ck_one 3)], ([], [], []), ([(226, 0, 0)], []), [(.inr (some (.inl (ck_one 1))), 245, ([], [], [(226, 0, 0, ck_one 3)]))])
set_option maxRecDepth 100000 in
theorem p2_s552_s {X : Int → Int} {LX : Nat} : ck_Ok p2_O X LX 282 p2_s552 := ck_ok_s (O := p2_O) (X := X) (LX := LX) (E := []) (mi := 282) (cuts := []) (f := 84) (S := p2_s552) (lx := none) (XF := []) ⟨p2_nmu, ck_E0⟩ ck_X0 ck_l0 (by decide +kernel)
set_option maxRecDepth 100000 in
/-- GlacierMailModel.remembers -/
noncomputable def p2_s553 : ck_Sum := ((0, 0, 0), 245, [.inr (.inr (.inl 226))], ([], [], [(226, 6, 6, (0, 12, [(27, 0)]))]), ([(226, 6, 6), (230, 0, 4739)], []), [(.inr none, 245, ([], [], [(226, 6, 6, (1, 12, [(1000027, 0)]))]))])
noncomputable def p2_s553_E : List (Nat × List ck_Sum) := []
set_option maxRecDepth 100000 in
noncomputable def p2_s553_C55 : ck_C := ([some (.inr (.inr (.inl 226))), some (.inl (ck_one 0))], ([], [], [(226, 6, 6, (1, 12, [(1000027, 0)]))]), 0, .inl 1, true)
set_option maxRecDepth 100000 in
noncomputable def p2_s553_C11 : ck_C := ([some (.inr (.inr (.inl 226))), some (.inl (ck_one 0))], ([], [], [(226, 6, 6, (12, 12, [(27, 0)]))]), 0, .inl 1, true)
set_option maxRecDepth 100000 in
noncomputable def p2_s553_Z : List (Nat × ck_C) := [(55, p2_s553_C55), (11, p2_s553_C11)]
set_option maxRecDepth 100000 in
theorem p2_s553_a : (decide (p2_s553.2.2.1.length ≤ gm_ml 316) && ck_go p2_O none [] p2_s553_E 316 p2_s553.1.1 p2_s553.2.1 p2_s553.2.2.2.2.1 p2_s553.2.2.2.2.2 p2_s553_Z 188 false [(55, p2_s553_C55, 0, 0, 245), (11, p2_s553_C11, 0, 0, 245)] p2_s553.1.2.1 p2_s553.1.2.2 0 (p2_s553.2.2.1.map some ++ List.replicate (gm_ml 316 - p2_s553.2.2.1.length) none) [] p2_s553.2.1 p2_s553.2.2.2.1) = true := by decide +kernel
theorem p2_s553_u : ck_cu p2_s553_Z = true := by decide +kernel
theorem p2_s553_h {X : Int → Int} {LX : Nat} : ck_nmu p2_O ∧ ck_OkE p2_O X LX p2_s553_E := ⟨p2_nmu, ck_E0⟩
set_option maxRecDepth 100000 in
theorem p2_s553_g55 : ck_go p2_O none [] p2_s553_E 316 p2_s553.1.1 p2_s553.2.1 p2_s553.2.2.2.2.1 p2_s553.2.2.2.2.2 p2_s553_Z 188 false [] 0 0 91 (p2_s553_C55.1.set 1 (some (.inl (ck_one 395)))) [] 245 (p2_s553_C55.2.1.1, p2_s553_C55.2.1.2.1, ck_cws [(230, 0, 4739)] p2_s553_C55.2.1.2.2) = true := by decide +kernel
theorem p2_s553_y55 {X : Int → Int} {LX : Nat} {σ σ0 : Nat → Int} {K0 : gm_K} {R0 : gm_R} {M0 : gm_M} (hσ : ∀ s, s < 100 → σ s = σ0 s) : ck_Hy p2_O X LX 316 p2_s553.1.1 p2_s553.2.2.2.2.1 p2_s553.2.1 K0 R0 M0 (ck_Q p2_O σ0 p2_s553.2.2.2.2.1 p2_s553.2.1 K0 R0 M0 p2_s553.2.2.2.2.2) σ (55, p2_s553_C55, 0, 0, 245) := by
  refine ck_cpH (v := 1) (A := 230) (B := 227) (N := 395) (wa := 0) (wb := 4739) (pc' := 91) p2_s553_u p2_s553_h hσ ⟨by decide, by decide⟩ (by decide +kernel) (fun bc bs L K R M hS => ?_) p2_s553_g55 (fun _ h => nomatch h)
  · obtain ⟨hF, hl, -, hf, -⟩ := hS
    obtain ⟨u0, l0, g0⟩ := hl.2 0 (.inr (.inr (.inl 226))) rfl
    cases g0
    obtain ⟨u1, lv, x1, rfl, -, e1, e2, -⟩ := hl.2 1 (.inl (ck_one 0)) rfl
    have e1 : (0 : Int) ≤ x1 := e1
    have e2 : x1 ≤ (0 : Int) := e2
    have e3 : x1 = 0 := by omega
    subst e3
    have h6 := (ck_fi_s hf (show ck_fi p2_s553_C55.2.1 226 6 6 = some (1, 12, [(1000027, 0)]) by decide +kernel)).2 6 (Int.le_refl _) (Int.le_refl _)
    have h61 : (1 : Int) ≤ M 226 6 := h6.2.1
    have h62 : M 226 6 ≤ (12 : Int) := h6.2.2.1
    have h63 : M 226 ((6 : Nat) : Int) = M 226 6 := rfl
    have kA : (K 230).2 = 4740 := (md_kd hF md_o.2.2).2
    have kB : (K 227).2 = 2093 := (md_kd hF md_o.1.2).2
    refine ⟨395 * (M 226 ((6 : Nat) : Int) - 1), 0, ⟨by omega, by omega⟩, gm_Fx_cpy hF (fun r hr => by rw [show p2_O.2.2.ty 230 = [] by decide +kernel] at hr; cases hr) (jj_store (K := K) hF.2.2.2.2 (by omega) (md_ty hF)), fun Q hx => ?_⟩
    exact cp_lp (iv := .iload_n 1) (v := 1) (ixA := 23) (ixB := 13) (jA := 4) (jB := 1) (A := 230) (B := 227) (mo := 226) (p := 55) (qA := 78) (qB := 83) (N := 395) (offe := 32) (offb := (-33)) (by decide) (md_mo hF) (md_kd hF md_o.2.2).1 (md_kd hF md_o.1.2).1 (md_rf hF md_r.2.2) (md_rf hF md_r.1.1) (by decide +kernel) (by decide +kernel) (by decide +kernel) (by decide +kernel) ⟨by omega, ⟨by omega, by omega⟩, ⟨by omega, by omega⟩, by omega, by omega⟩ (fun e => absurd e (by decide)) (by decide) (by decide +kernel) l0 lv ⟨rfl, rfl⟩ ⟨gm_vr 226, l0, by simp [gm_sort]⟩ (by decide +kernel) (by decide +kernel) (by decide +kernel) (by decide) (by decide +kernel) (by decide +kernel) (cp_sg_cr1 (iv := .iload_n 1) (c := 395) (ix := 79) (j := 6) (by decide) l0 lv ⟨rfl, rfl⟩ (by decide +kernel) (md_mo hF) (by decide +kernel) (by decide +kernel) (by decide +kernel) (by decide +kernel) (by decide +kernel) (by decide +kernel) (by decide +kernel) (by decide +kernel) (by decide +kernel) (by decide +kernel)) (by decide +kernel) (by decide +kernel) (cp_sg_i (iv := .iload_n 1) lv ⟨rfl, rfl⟩ (by decide +kernel)) (by decide +kernel) (by decide +kernel) (by decide +kernel) (by decide +kernel) (by decide) (by decide) hx
set_option maxRecDepth 100000 in
theorem p2_s553_g11 : ck_go p2_O none [] p2_s553_E 316 p2_s553.1.1 p2_s553.2.1 p2_s553.2.2.2.2.1 p2_s553.2.2.2.2.2 p2_s553_Z 188 false [(55, p2_s553_C55, 0, 0, 245)] 0 0 40 (p2_s553_C11.1.set 1 (some (.inl (ck_one 4345)))) [] 245 (p2_s553_C11.2.1.1, p2_s553_C11.2.1.2.1, ck_cws [(230, 0, 4344)] p2_s553_C11.2.1.2.2) = true := by decide +kernel
theorem p2_s553_y11 {X : Int → Int} {LX : Nat} {σ σ0 : Nat → Int} {K0 : gm_K} {R0 : gm_R} {M0 : gm_M} (hσ : ∀ s, s < 100 → σ s = σ0 s) : ck_Hy p2_O X LX 316 p2_s553.1.1 p2_s553.2.2.2.2.1 p2_s553.2.1 K0 R0 M0 (ck_Q p2_O σ0 p2_s553.2.2.2.2.1 p2_s553.2.1 K0 R0 M0 p2_s553.2.2.2.2.2) σ (11, p2_s553_C11, 0, 0, 245) := by
  refine ck_cpH (v := 1) (A := 230) (B := 230) (N := 4345) (wa := 0) (wb := 4344) (pc' := 40) p2_s553_u p2_s553_h hσ ⟨by decide, by decide⟩ (by decide +kernel) (fun bc bs L K R M hS => ?_) p2_s553_g11 (fun h hm => by
      rcases List.mem_cons.mp hm with rfl | hm
      · exact ⟨by unfold p2_s553_Z; exact List.mem_cons_self, p2_s553_y55 hσ⟩
      · cases hm)
  · obtain ⟨hF, hl, -, hf, -⟩ := hS
    obtain ⟨u0, l0, g0⟩ := hl.2 0 (.inr (.inr (.inl 226))) rfl
    cases g0
    obtain ⟨u1, lv, x1, rfl, -, e1, e2, -⟩ := hl.2 1 (.inl (ck_one 0)) rfl
    have e1 : (0 : Int) ≤ x1 := e1
    have e2 : x1 ≤ (0 : Int) := e2
    have e3 : x1 = 0 := by omega
    subst e3
    have kA : (K 230).2 = 4740 := (md_kd hF md_o.2.2).2
    have kB : (K 230).2 = 4740 := (md_kd hF md_o.2.2).2
    refine ⟨0, 395, ⟨by omega, by omega⟩, gm_Fx_cpy hF (fun r hr => by rw [show p2_O.2.2.ty 230 = [] by decide +kernel] at hr; cases hr) (jj_shift (K := K) hF.2.2.2.2), fun Q hx => ?_⟩
    exact cp_lp (iv := .iload_n 1) (v := 1) (ixA := 23) (ixB := 23) (jA := 4) (jB := 4) (A := 230) (B := 230) (mo := 226) (p := 11) (qA := 23) (qB := 32) (N := 4345) (offe := 25) (offb := (-26)) (by decide) (md_mo hF) (md_kd hF md_o.2.2).1 (md_kd hF md_o.2.2).1 (md_rf hF md_r.2.2) (md_rf hF md_r.2.2) (by decide +kernel) (by decide +kernel) (by decide +kernel) (by decide +kernel) ⟨by omega, ⟨by omega, by omega⟩, ⟨by omega, by omega⟩, by omega, by omega⟩ (fun _ => by omega) (by decide) (by decide +kernel) l0 lv ⟨rfl, rfl⟩ ⟨gm_vr 226, l0, by simp [gm_sort]⟩ (by decide +kernel) (by decide +kernel) (by decide +kernel) (by decide) (by decide +kernel) (by decide +kernel) (cp_sg_i (iv := .iload_n 1) lv ⟨rfl, rfl⟩ (by decide +kernel)) (by decide +kernel) (by decide +kernel) (cp_sg_ic (iv := .iload_n 1) (c := 395) lv ⟨rfl, rfl⟩ (by decide +kernel) (by decide +kernel) (by decide +kernel) (by decide +kernel)) (by decide +kernel) (by decide +kernel) (by decide +kernel) (by decide +kernel) (by decide) (by decide) hx
theorem p2_s553_s {X : Int → Int} {LX : Nat} : ck_Ok p2_O X LX 316 p2_s553 := by
  refine ck_ok_st (cuts := p2_s553_Z) p2_s553_u p2_s553_h p2_s553_a (fun h hm => ?_)
  rcases List.mem_cons.mp hm with rfl | hm
  · exact ⟨by unfold p2_s553_Z; exact List.mem_cons_self, fun σ K0 R0 M0 => p2_s553_y55 (fun _ _ => rfl)⟩
  rcases List.mem_cons.mp hm with rfl | hm
  · exact ⟨by unfold p2_s553_Z; exact List.mem_cons_of_mem _ (List.mem_cons_self), fun σ K0 R0 M0 => p2_s553_y11 (fun _ _ => rfl)⟩
  cases hm
set_option maxRecDepth 100000 in
/-- GlacierMailModel.of -/
noncomputable def p2_s554 : ck_Sum := ((0, 0, 0), 245, [.inr (.inr (.inl 226)), .inl (0, 7, []), .inl (ck_one 0)], ([], [], []), ([], []), [(.inr (some (.inl (0, 6, []))), 245, ([], [], []))])
set_option maxRecDepth 100000 in
theorem p2_s554_s {X : Int → Int} {LX : Nat} : ck_Ok p2_O X LX 299 p2_s554 := ck_ok_s (O := p2_O) (X := X) (LX := LX) (E := []) (mi := 299) (cuts := []) (f := 92) (S := p2_s554) (lx := none) (XF := []) ⟨p2_nmu, ck_E0⟩ ck_X0 ck_l0 (by decide +kernel)
set_option maxRecDepth 100000 in
/-- GlacierMailModel.of -/
noncomputable def p2_s555 : ck_Sum := ((0, 0, 0), 245, [.inr (.inr (.inl 226)), .inl (0, 7, []), .inl (ck_one 1)], ([], [], []), ([], []), [(.inr (some (.inl (0, 98, []))), 245, ([], [], []))])
set_option maxRecDepth 100000 in
theorem p2_s555_s {X : Int → Int} {LX : Nat} : ck_Ok p2_O X LX 299 p2_s555 := ck_ok_s (O := p2_O) (X := X) (LX := LX) (E := []) (mi := 299) (cuts := []) (f := 92) (S := p2_s555) (lx := none) (XF := []) ⟨p2_nmu, ck_E0⟩ ck_X0 ck_l0 (by decide +kernel)
/-- GlacierMailModel.throwsIn -/
noncomputable def p2_s556 : ck_Sum := op_ts 0 7 0 7 0 6 0 98
theorem p2_s556_s {X : Int → Int} {LX : Nat} : ck_Ok p2_O X LX 271 p2_s556 := op_throw (by decide +kernel) (by decide)
set_option maxRecDepth 100000 in
/-- GlacierMailModel.post -/
noncomputable def p2_s557 : ck_Sum := ((2, 0, 0), 245, [.inr (.inr (.inl 226)), .inl (0, 7, []), .inl (0, 7, [])], ([], [], [(227, 3, 3, (0, 8, [(21, 0)])), (227, 4, 4, (0, 24, [(22, 0)])), (226, 6, 6, (0, 12, [(27, 0)])), (227, 9, 9, (0, 299, [(11, 0)]))]), ([(226, 0, 0), (226, 6, 6), (227, 4, 4), (227, 119, 286), (230, 0, 4739)], []), [(.inr (some (.inl (0, 23, []))), 245, ([], [], [(227, 4, 4, (0, 24, [(1000022, 0)])), (226, 6, 6, (0, 12, [(1000027, 0)]))]))])
set_option maxRecDepth 100000 in
theorem p2_s557_s {X : Int → Int} {LX : Nat} : ck_Ok p2_O X LX 315 p2_s557 := ck_ok_s (O := p2_O) (X := X) (LX := LX) (E := [(298, [p2_s365]), (282, [p2_s241, p2_s242, p2_s243, p2_s551, p2_s552, p2_s244]), (254, [p2_s176]), (316, [p2_s553]), (299, [p2_s554, p2_s555]), (271, [p2_s556])]) (mi := 315) (cuts := []) (f := 174) (S := p2_s557) (lx := none) (XF := []) ⟨p2_nmu, ck_E1 (ck_S1 p2_s365_s ck_S0) (ck_E1 (ck_S1 p2_s241_s (ck_S1 p2_s242_s (ck_S1 p2_s243_s (ck_S1 p2_s551_s (ck_S1 p2_s552_s (ck_S1 p2_s244_s ck_S0)))))) (ck_E1 (ck_S1 p2_s176_s ck_S0) (ck_E1 (ck_S1 p2_s553_s ck_S0) (ck_E1 (ck_S1 p2_s554_s (ck_S1 p2_s555_s ck_S0)) (ck_E1 (ck_S1 p2_s556_s ck_S0) ck_E0)))))⟩ ck_X0 ck_l0 (by decide +kernel)
set_option maxRecDepth 100000 in
/-- GlacierMail.watch -/
noncomputable def p2_s558 : ck_Sum := ((8, 1, 6), 245, [.inr (.inr (.inl 1)), .inl ((-2147483648), (-1), []), .inl ((-2147483648), 2147483647, [])], ([], [], []), ([], []), [(.inl 3, 245, ([], [], []))])
set_option maxRecDepth 100000 in
theorem p2_s558_s {X : Int → Int} {LX : Nat} : ck_Ok p2_O X LX 156 p2_s558 := ck_ok_s (O := p2_O) (X := X) (LX := LX) (E := [(139, [p2_s322])]) (mi := 156) (cuts := []) (f := 76) (S := p2_s558) (lx := none) (XF := []) ⟨p2_nmu, ck_E1 (ck_S1 p2_s322_s ck_S0) ck_E0⟩ ck_X0 ck_l0 (by decide +kernel)
set_option maxRecDepth 100000 in
/-- GlacierMail.watch -/
noncomputable def p2_s559 : ck_Sum := ((8, 1, 6), 245, [.inr (.inr (.inl 1)), .inl (8, 2147483647, []), .inl ((-2147483648), 2147483647, [])], ([], [], []), ([], []), [(.inl 3, 245, ([], [], []))])
set_option maxRecDepth 100000 in
theorem p2_s559_s {X : Int → Int} {LX : Nat} : ck_Ok p2_O X LX 156 p2_s559 := ck_ok_s (O := p2_O) (X := X) (LX := LX) (E := [(139, [p2_s325])]) (mi := 156) (cuts := []) (f := 76) (S := p2_s559) (lx := none) (XF := []) ⟨p2_nmu, ck_E1 (ck_S1 p2_s325_s ck_S0) ck_E0⟩ ck_X0 ck_l0 (by decide +kernel)
set_option maxRecDepth 100000 in
/-- GlacierMail$Rows.put -/
noncomputable def p2_s560 : ck_Sum := ((0, 0, 0), 245, [.inr (.inr (.inl 8)), .inl (0, 7, []), .inl (ck_one 2), .inl (ck_one (-1))], ([], [], []), (zl166, []), [(.inr none, 245, ([], [], []))])
set_option maxRecDepth 100000 in
theorem p2_s560_s {X : Int → Int} {LX : Nat} : ck_Ok p2_O X LX 45 p2_s560 := ck_ok_s (O := p2_O) (X := X) (LX := LX) (E := []) (mi := 45) (cuts := []) (f := 116) (S := p2_s560) (lx := none) (XF := []) ⟨p2_nmu, ck_E0⟩ ck_X0 ck_l0 (by decide +kernel)
set_option maxRecDepth 100000 in
/-- GlacierMail.need -/
noncomputable def p2_s561 : ck_Sum := ((6, 1, 6), 245, [.inr (.inr (.inl 1)), .inl ((-2147483648), (-2), []), .inl (1, 6, [])], ([], [], []), ([], []), [(.inl 3, 245, ([], [], []))])
set_option maxRecDepth 100000 in
theorem p2_s561_s {X : Int → Int} {LX : Nat} : ck_Ok p2_O X LX 133 p2_s561 := ck_ok_s (O := p2_O) (X := X) (LX := LX) (E := []) (mi := 133) (cuts := []) (f := 76) (S := p2_s561) (lx := none) (XF := []) ⟨p2_nmu, ck_E0⟩ ck_X0 ck_l0 (by decide +kernel)
set_option maxRecDepth 100000 in
/-- GlacierMail.needLane -/
noncomputable def p2_s562 : ck_Sum := ((7, 1, 6), 245, [.inr (.inr (.inl 1)), .inl ((-2147483648), (-2), [])], ([], [], []), ([], []), [(.inl 3, 245, ([], [], []))])
set_option maxRecDepth 100000 in
theorem p2_s562_s {X : Int → Int} {LX : Nat} : ck_Ok p2_O X LX 132 p2_s562 := ck_ok_s (O := p2_O) (X := X) (LX := LX) (E := [(133, [p2_s561])]) (mi := 132) (cuts := []) (f := 82) (S := p2_s562) (lx := none) (XF := []) ⟨p2_nmu, ck_E1 (ck_S1 p2_s561_s ck_S0) ck_E0⟩ ck_X0 ck_l0 (by decide +kernel)
set_option maxRecDepth 100000 in
/-- GlacierMail.watch -/
noncomputable def p2_s563 : ck_Sum := ((8, 2, 12), 245, [.inr (.inr (.inl 1)), .inl (0, 7, []), .inl ((-2147483648), (-1), [])], ([], zl102, [(3, 6, 6, (0, 299, [(10, 0)]))]), (zl167, zl104), zl168)
set_option maxRecDepth 100000 in
theorem p2_s563_s {X : Int → Int} {LX : Nat} : ck_Ok p2_O X LX 156 p2_s563 := ck_ok_s (O := p2_O) (X := X) (LX := LX) (E := [(139, [p2_s328]), (154, [p2_s529]), (10, [p2_s356]), (45, [p2_s560]), (132, [p2_s562])]) (mi := 156) (cuts := []) (f := 124) (S := p2_s563) (lx := none) (XF := []) ⟨p2_nmu, ck_E1 (ck_S1 p2_s328_s ck_S0) (ck_E1 (ck_S1 p2_s529_s ck_S0) (ck_E1 (ck_S1 p2_s356_s ck_S0) (ck_E1 (ck_S1 p2_s560_s ck_S0) (ck_E1 (ck_S1 p2_s562_s ck_S0) ck_E0))))⟩ ck_X0 ck_l0 (by decide +kernel)
set_option maxRecDepth 100000 in
/-- GlacierMail.watch -/
noncomputable def p2_s564 : ck_Sum := ((8, 2, 12), 245, [.inr (.inr (.inl 1)), .inl (0, 7, []), .inl (6, 2147483647, [])], ([], [], []), ([], []), [(.inl 3, 245, ([], [], []))])
set_option maxRecDepth 100000 in
theorem p2_s564_s {X : Int → Int} {LX : Nat} : ck_Ok p2_O X LX 156 p2_s564 := ck_ok_s (O := p2_O) (X := X) (LX := LX) (E := [(139, [p2_s328]), (132, [p2_s269])]) (mi := 156) (cuts := []) (f := 88) (S := p2_s564) (lx := none) (XF := []) ⟨p2_nmu, ck_E1 (ck_S1 p2_s328_s ck_S0) (ck_E1 (ck_S1 p2_s269_s ck_S0) ck_E0)⟩ ck_X0 ck_l0 (by decide +kernel)
set_option maxRecDepth 100000 in
/-- GlacierMail$Rows.put -/
noncomputable def p2_s565 : ck_Sum := ((0, 0, 0), 245, [.inr (.inr (.inl 8)), .inl (0, 7, []), .inl (ck_one 2), .inl (0, 5, [])], ([], [], []), (zl166, []), [(.inr none, 245, ([], [], []))])
set_option maxRecDepth 100000 in
theorem p2_s565_s {X : Int → Int} {LX : Nat} : ck_Ok p2_O X LX 45 p2_s565 := ck_ok_s (O := p2_O) (X := X) (LX := LX) (E := []) (mi := 45) (cuts := []) (f := 116) (S := p2_s565) (lx := none) (XF := []) ⟨p2_nmu, ck_E0⟩ ck_X0 ck_l0 (by decide +kernel)
set_option maxRecDepth 100000 in
/-- GlacierMail.watch -/
noncomputable def p2_s566 : ck_Sum := ((8, 2, 12), 245, [.inr (.inr (.inl 1)), .inl (0, 7, []), .inl (0, 5, [])], ([], zl102, [(3, 6, 6, (0, 299, [(10, 0)]))]), (zl167, zl104), zl168)
set_option maxRecDepth 100000 in
theorem p2_s566_s {X : Int → Int} {LX : Nat} : ck_Ok p2_O X LX 156 p2_s566 := ck_ok_s (O := p2_O) (X := X) (LX := LX) (E := [(139, [p2_s328]), (132, [p2_s272]), (154, [p2_s529]), (10, [p2_s356]), (45, [p2_s565])]) (mi := 156) (cuts := []) (f := 130) (S := p2_s566) (lx := none) (XF := []) ⟨p2_nmu, ck_E1 (ck_S1 p2_s328_s ck_S0) (ck_E1 (ck_S1 p2_s272_s ck_S0) (ck_E1 (ck_S1 p2_s529_s ck_S0) (ck_E1 (ck_S1 p2_s356_s ck_S0) (ck_E1 (ck_S1 p2_s565_s ck_S0) ck_E0))))⟩ ck_X0 ck_l0 (by decide +kernel)
set_option maxRecDepth 100000 in
/-- GlacierMailModel.watch -/
noncomputable def p2_s567 : ck_Sum := ((2, 0, 0), 245, [.inr (.inr (.inl 226)), .inl ((-2147483648), (-1), []), .inl ((-2147483648), 2147483647, [])], ([], [], [(227, 3, 3, (0, 8, [(21, 0)]))]), ([(226, 0, 0)], []), [(.inr (some (.inl (ck_one 0))), 245, ([], [], [(226, 0, 0, ck_one 1)]))])
set_option maxRecDepth 100000 in
theorem p2_s567_s {X : Int → Int} {LX : Nat} : ck_Ok p2_O X LX 317 p2_s567 := ck_ok_s (O := p2_O) (X := X) (LX := LX) (E := [(298, [p2_s359]), (282, [p2_s241])]) (mi := 317) (cuts := []) (f := 100) (S := p2_s567) (lx := none) (XF := []) ⟨p2_nmu, ck_E1 (ck_S1 p2_s359_s ck_S0) (ck_E1 (ck_S1 p2_s241_s ck_S0) ck_E0)⟩ ck_X0 ck_l0 (by decide +kernel)
set_option maxRecDepth 100000 in
/-- GlacierMailModel.watch -/
noncomputable def p2_s568 : ck_Sum := ((2, 0, 0), 245, [.inr (.inr (.inl 226)), .inl (8, 2147483647, []), .inl ((-2147483648), 2147483647, [])], ([], [], [(227, 3, 3, (0, 8, [(21, 0)]))]), ([(226, 0, 0)], []), [(.inr (some (.inl (ck_one 0))), 245, ([], [], [(226, 0, 0, ck_one 1)]))])
set_option maxRecDepth 100000 in
theorem p2_s568_s {X : Int → Int} {LX : Nat} : ck_Ok p2_O X LX 317 p2_s568 := ck_ok_s (O := p2_O) (X := X) (LX := LX) (E := [(298, [p2_s362]), (282, [p2_s241])]) (mi := 317) (cuts := []) (f := 100) (S := p2_s568) (lx := none) (XF := []) ⟨p2_nmu, ck_E1 (ck_S1 p2_s362_s ck_S0) (ck_E1 (ck_S1 p2_s241_s ck_S0) ck_E0)⟩ ck_X0 ck_l0 (by decide +kernel)
set_option maxRecDepth 100000 in
/-- GlacierMailModel.of -/
noncomputable def p2_s569 : ck_Sum := ((0, 0, 0), 245, [.inr (.inr (.inl 226)), .inl (0, 7, []), .inl (ck_one 2)], ([], [], []), ([], []), [(.inr (some (.inl (ck_one (-1)))), 245, ([], [], [])), (.inr (some (.inl (0, 6, []))), 245, ([], [], []))])
set_option maxRecDepth 100000 in
theorem p2_s569_s {X : Int → Int} {LX : Nat} : ck_Ok p2_O X LX 299 p2_s569 := ck_ok_s (O := p2_O) (X := X) (LX := LX) (E := []) (mi := 299) (cuts := []) (f := 92) (S := p2_s569) (lx := none) (XF := []) ⟨p2_nmu, ck_E0⟩ ck_X0 ck_l0 (by decide +kernel)
set_option maxRecDepth 100000 in
/-- GlacierMailModel.in -/
noncomputable def p2_s570 : ck_Sum := ((0, 0, 0), 245, [.inl ((-2147483648), (-2), []), .inl (ck_one 0), .inl ((-1), 5, [])], ([], [], []), ([], []), [(.inr (some (.inl (ck_one 0))), 245, ([], [], []))])
set_option maxRecDepth 100000 in
theorem p2_s570_s {X : Int → Int} {LX : Nat} : ck_Ok p2_O X LX 286 p2_s570 := ck_ok_s (O := p2_O) (X := X) (LX := LX) (E := []) (mi := 286) (cuts := []) (f := 80) (S := p2_s570) (lx := none) (XF := []) ⟨p2_nmu, ck_E0⟩ ck_X0 ck_l0 (by decide +kernel)
set_option maxRecDepth 100000 in
/-- GlacierMailModel.noLane -/
noncomputable def p2_s571 : ck_Sum := ((1, 0, 0), 245, [.inr (.inr (.inl 226)), .inl ((-2147483648), (-2), [])], ([], [], []), ([], []), [(.inr (some (.inl (ck_one 1))), 245, ([], [], []))])
set_option maxRecDepth 100000 in
theorem p2_s571_s {X : Int → Int} {LX : Nat} : ck_Ok p2_O X LX 288 p2_s571 := ck_ok_s (O := p2_O) (X := X) (LX := LX) (E := [(261, [p2_s166]), (286, [p2_s570])]) (mi := 288) (cuts := []) (f := 92) (S := p2_s571) (lx := none) (XF := []) ⟨p2_nmu, ck_E1 (ck_S1 p2_s166_s ck_S0) (ck_E1 (ck_S1 p2_s570_s ck_S0) ck_E0)⟩ ck_X0 ck_l0 (by decide +kernel)
set_option maxRecDepth 100000 in
/-- GlacierMailModel.watch -/
noncomputable def p2_s572 : ck_Sum := ((2, 0, 0), 245, [.inr (.inr (.inl 226)), .inl (0, 7, []), .inl ((-2147483648), (-1), [])], ([], [], zl169), (zl170, []), zl171)
set_option maxRecDepth 100000 in
theorem p2_s572_s {X : Int → Int} {LX : Nat} : ck_Ok p2_O X LX 317 p2_s572 := ck_ok_s (O := p2_O) (X := X) (LX := LX) (E := [(298, [p2_s365]), (282, [p2_s241, p2_s242]), (316, [p2_s553]), (299, [p2_s569]), (288, [p2_s571])]) (mi := 317) (cuts := []) (f := 140) (S := p2_s572) (lx := none) (XF := []) ⟨p2_nmu, ck_E1 (ck_S1 p2_s365_s ck_S0) (ck_E1 (ck_S1 p2_s241_s (ck_S1 p2_s242_s ck_S0)) (ck_E1 (ck_S1 p2_s553_s ck_S0) (ck_E1 (ck_S1 p2_s569_s ck_S0) (ck_E1 (ck_S1 p2_s571_s ck_S0) ck_E0))))⟩ ck_X0 ck_l0 (by decide +kernel)
set_option maxRecDepth 100000 in
/-- GlacierMailModel.watch -/
noncomputable def p2_s573 : ck_Sum := ((2, 0, 0), 245, [.inr (.inr (.inl 226)), .inl (0, 7, []), .inl (6, 2147483647, [])], ([], [], [(227, 3, 3, (0, 8, [(21, 0)]))]), ([(226, 0, 0)], []), [(.inr (some (.inl (ck_one 0))), 245, ([], [], [(226, 0, 0, ck_one 1)]))])
set_option maxRecDepth 100000 in
theorem p2_s573_s {X : Int → Int} {LX : Nat} : ck_Ok p2_O X LX 317 p2_s573 := ck_ok_s (O := p2_O) (X := X) (LX := LX) (E := [(298, [p2_s365]), (282, [p2_s241]), (288, [p2_s287])]) (mi := 317) (cuts := []) (f := 114) (S := p2_s573) (lx := none) (XF := []) ⟨p2_nmu, ck_E1 (ck_S1 p2_s365_s ck_S0) (ck_E1 (ck_S1 p2_s241_s ck_S0) (ck_E1 (ck_S1 p2_s287_s ck_S0) ck_E0))⟩ ck_X0 ck_l0 (by decide +kernel)
set_option maxRecDepth 100000 in
/-- GlacierMailModel.watch -/
noncomputable def p2_s574 : ck_Sum := ((2, 0, 0), 245, [.inr (.inr (.inl 226)), .inl (0, 7, []), .inl (0, 5, [])], ([], [], zl169), (zl170, []), zl171)
set_option maxRecDepth 100000 in
theorem p2_s574_s {X : Int → Int} {LX : Nat} : ck_Ok p2_O X LX 317 p2_s574 := ck_ok_s (O := p2_O) (X := X) (LX := LX) (E := [(298, [p2_s365]), (282, [p2_s241, p2_s242]), (288, [p2_s290]), (316, [p2_s553]), (299, [p2_s569])]) (mi := 317) (cuts := []) (f := 148) (S := p2_s574) (lx := none) (XF := []) ⟨p2_nmu, ck_E1 (ck_S1 p2_s365_s ck_S0) (ck_E1 (ck_S1 p2_s241_s (ck_S1 p2_s242_s ck_S0)) (ck_E1 (ck_S1 p2_s290_s ck_S0) (ck_E1 (ck_S1 p2_s553_s ck_S0) (ck_E1 (ck_S1 p2_s569_s ck_S0) ck_E0))))⟩ ck_X0 ck_l0 (by decide +kernel)
set_option maxRecDepth 100000 in
/-- GlacierMail.open -/
noncomputable def p2_s575 : ck_Sum := ((8, 1, 6), 245, [.inr (.inr (.inl 1)), .inl ((-2147483648), (-1), [])], ([], [], []), ([], []), [(.inl 3, 245, ([], [], []))])
set_option maxRecDepth 100000 in
theorem p2_s575_s {X : Int → Int} {LX : Nat} : ck_Ok p2_O X LX 158 p2_s575 := ck_ok_s (O := p2_O) (X := X) (LX := LX) (E := [(143, [p2_s387])]) (mi := 158) (cuts := []) (f := 76) (S := p2_s575) (lx := none) (XF := []) ⟨p2_nmu, ck_E1 (ck_S1 p2_s387_s ck_S0) ck_E0⟩ ck_X0 ck_l0 (by decide +kernel)
set_option maxRecDepth 100000 in
/-- GlacierMail.open -/
noncomputable def p2_s576 : ck_Sum := ((8, 1, 6), 245, [.inr (.inr (.inl 1)), .inl (24, 2147483647, [])], ([], [], []), ([], []), [(.inl 3, 245, ([], [], []))])
set_option maxRecDepth 100000 in
theorem p2_s576_s {X : Int → Int} {LX : Nat} : ck_Ok p2_O X LX 158 p2_s576 := ck_ok_s (O := p2_O) (X := X) (LX := LX) (E := [(143, [p2_s390])]) (mi := 158) (cuts := []) (f := 76) (S := p2_s576) (lx := none) (XF := []) ⟨p2_nmu, ck_E1 (ck_S1 p2_s390_s ck_S0) ck_E0⟩ ck_X0 ck_l0 (by decide +kernel)
set_option maxRecDepth 100000 in
/-- GlacierMail.need -/
noncomputable def p2_s577 : ck_Sum := ((6, 1, 6), 245, [.inr (.inr (.inl 1)), .inl (ck_one 0), .inl (0, 24, [])], ([], [], []), ([], []), [(.inr none, 245, ([], [], [])), (.inl 3, 245, ([], [], []))])
set_option maxRecDepth 100000 in
theorem p2_s577_s {X : Int → Int} {LX : Nat} : ck_Ok p2_O X LX 133 p2_s577 := ck_ok_s (O := p2_O) (X := X) (LX := LX) (E := []) (mi := 133) (cuts := []) (f := 82) (S := p2_s577) (lx := none) (XF := []) ⟨p2_nmu, ck_E0⟩ ck_X0 ck_l0 (by decide +kernel)
set_option maxRecDepth 100000 in
/-- GlacierMail.needLetter -/
noncomputable def p2_s578 : ck_Sum := ((7, 1, 6), 245, [.inr (.inr (.inl 1)), .inl (ck_one 0)], ([], [], []), ([], []), [(.inl 3, 245, ([], [], [])), (.inr none, 245, ([], [], []))])
set_option maxRecDepth 100000 in
theorem p2_s578_s {X : Int → Int} {LX : Nat} : ck_Ok p2_O X LX 143 p2_s578 := ck_ok_s (O := p2_O) (X := X) (LX := LX) (E := [(9, [p2_s331]), (133, [p2_s577])]) (mi := 143) (cuts := []) (f := 86) (S := p2_s578) (lx := none) (XF := []) ⟨p2_nmu, ck_E1 (ck_S1 p2_s331_s ck_S0) (ck_E1 (ck_S1 p2_s577_s ck_S0) ck_E0)⟩ ck_X0 ck_l0 (by decide +kernel)
set_option maxRecDepth 100000 in
/-- GlacierMail$State.isRock -/
noncomputable def p2_s579 : ck_Sum := ((1, 0, 0), 245, [.inr (.inr (.inl 3)), .inl (ck_one 0)], ([], [], []), ([], []), [(.inr (some (.inl (ck_one 0))), 245, ([], [], [])), (.inr (some (.inl (ck_one 1))), 245, ([], [], []))])
set_option maxRecDepth 100000 in
theorem p2_s579_s {X : Int → Int} {LX : Nat} : ck_Ok p2_O X LX 28 p2_s579 := ck_ok_s (O := p2_O) (X := X) (LX := LX) (E := [(10, [p2_s335])]) (mi := 28) (cuts := []) (f := 90) (S := p2_s579) (lx := none) (XF := []) ⟨p2_nmu, ck_E1 (ck_S1 p2_s335_s ck_S0) ck_E0⟩ ck_X0 ck_l0 (by decide +kernel)
set_option maxRecDepth 100000 in
/-- GlacierMail.waits -/
noncomputable def p2_s580 : ck_Sum := ((2, 0, 0), 245, [.inr (.inr (.inl 1)), .inl (ck_one 0)], ([], [], [(3, 6, 6, (0, 299, [(10, 0)]))]), ([], []), [(.inr (some (.inl (ck_one 0))), 245, ([], [], [])), (.inr (some (.inl (ck_one 1))), 245, ([], [], []))])
set_option maxRecDepth 100000 in
theorem p2_s580_s {X : Int → Int} {LX : Nat} : ck_Ok p2_O X LX 66 p2_s580 := ck_ok_s (O := p2_O) (X := X) (LX := LX) (E := [(28, [p2_s579]), (10, [p2_s335, p2_s350]), (67, [p2_s351])]) (mi := 66) (cuts := []) (f := 134) (S := p2_s580) (lx := none) (XF := []) ⟨p2_nmu, ck_E1 (ck_S1 p2_s579_s ck_S0) (ck_E1 (ck_S1 p2_s335_s (ck_S1 p2_s350_s ck_S0)) (ck_E1 (ck_S1 p2_s351_s ck_S0) ck_E0))⟩ ck_X0 ck_l0 (by decide +kernel)
set_option maxRecDepth 100000 in
/-- GlacierMail$Rows.put -/
noncomputable def p2_s581 : ck_Sum := ((0, 0, 0), 245, [.inr (.inr (.inl 10)), .inl (ck_one 0), .inl (ck_one 5), .inl ((-1), 299, [])], ([], [], []), ([(11, 5, 5)], []), [(.inr none, 245, ([], [], []))])
set_option maxRecDepth 100000 in
theorem p2_s581_s {X : Int → Int} {LX : Nat} : ck_Ok p2_O X LX 45 p2_s581 := ck_ok_s (O := p2_O) (X := X) (LX := LX) (E := []) (mi := 45) (cuts := []) (f := 116) (S := p2_s581) (lx := none) (XF := []) ⟨p2_nmu, ck_E0⟩ ck_X0 ck_l0 (by decide +kernel)
set_option maxRecDepth 100000 in
/-- GlacierMail$Rows.put -/
noncomputable def p2_s582 : ck_Sum := ((0, 0, 0), 245, [.inr (.inr (.inl 10)), .inl (ck_one 0), .inl (ck_one 6), .inl (0, 299, [])], ([], [], []), ([(11, 6, 6)], []), [(.inr none, 245, ([], [], []))])
set_option maxRecDepth 100000 in
theorem p2_s582_s {X : Int → Int} {LX : Nat} : ck_Ok p2_O X LX 45 p2_s582 := ck_ok_s (O := p2_O) (X := X) (LX := LX) (E := []) (mi := 45) (cuts := []) (f := 116) (S := p2_s582) (lx := none) (XF := []) ⟨p2_nmu, ck_E0⟩ ck_X0 ck_l0 (by decide +kernel)
set_option maxRecDepth 100000 in
/-- GlacierMail$Rows.put -/
noncomputable def p2_s583 : ck_Sum := ((0, 0, 0), 245, [.inr (.inr (.inl 14)), .inl (0, 23, []), .inl (ck_one 0), .inl (0, 299, [])], ([], [], []), (zl172, []), [(.inr none, 245, ([], [], []))])
set_option maxRecDepth 100000 in
theorem p2_s583_s {X : Int → Int} {LX : Nat} : ck_Ok p2_O X LX 45 p2_s583 := ck_ok_s (O := p2_O) (X := X) (LX := LX) (E := []) (mi := 45) (cuts := []) (f := 116) (S := p2_s583) (lx := none) (XF := []) ⟨p2_nmu, ck_E0⟩ ck_X0 ck_l0 (by decide +kernel)
set_option maxRecDepth 100000 in
/-- GlacierMail$Rows.put -/
noncomputable def p2_s584 : ck_Sum := ((0, 0, 0), 245, [.inr (.inr (.inl 14)), .inl (0, 23, []), .inl (ck_one 1), .inl (ck_one 0)], ([], [], []), (zl173, []), [(.inr none, 245, ([], [], []))])
set_option maxRecDepth 100000 in
theorem p2_s584_s {X : Int → Int} {LX : Nat} : ck_Ok p2_O X LX 45 p2_s584 := ck_ok_s (O := p2_O) (X := X) (LX := LX) (E := []) (mi := 45) (cuts := []) (f := 116) (S := p2_s584) (lx := none) (XF := []) ⟨p2_nmu, ck_E0⟩ ck_X0 ck_l0 (by decide +kernel)
set_option maxRecDepth 100000 in
/-- GlacierMail$Rows.put -/
noncomputable def p2_s585 : ck_Sum := ((0, 0, 0), 245, [.inr (.inr (.inl 14)), .inl (0, 23, []), .inl (ck_one 2), .inl ((-1), 299, [])], ([], [], []), (zl174, []), [(.inr none, 245, ([], [], []))])
set_option maxRecDepth 100000 in
theorem p2_s585_s {X : Int → Int} {LX : Nat} : ck_Ok p2_O X LX 45 p2_s585 := ck_ok_s (O := p2_O) (X := X) (LX := LX) (E := []) (mi := 45) (cuts := []) (f := 116) (S := p2_s585) (lx := none) (XF := []) ⟨p2_nmu, ck_E0⟩ ck_X0 ck_l0 (by decide +kernel)
set_option maxRecDepth 100000 in
/-- GlacierMail$Rows.put -/
noncomputable def p2_s586 : ck_Sum := ((0, 0, 0), 245, [.inr (.inr (.inl 14)), .inl (ck_one (-1)), .inl (ck_one 0), .inl (0, 299, [])], ([], [], []), ([], []), [(.inr none, 245, ([], [], []))])
set_option maxRecDepth 100000 in
theorem p2_s586_s {X : Int → Int} {LX : Nat} : ck_Ok p2_O X LX 45 p2_s586 := ck_ok_s (O := p2_O) (X := X) (LX := LX) (E := []) (mi := 45) (cuts := []) (f := 76) (S := p2_s586) (lx := none) (XF := []) ⟨p2_nmu, ck_E0⟩ ck_X0 ck_l0 (by decide +kernel)
set_option maxRecDepth 100000 in
/-- GlacierMail$Rows.put -/
noncomputable def p2_s587 : ck_Sum := ((0, 0, 0), 245, [.inr (.inr (.inl 14)), .inl (ck_one (-1)), .inl (ck_one 1), .inl (ck_one 0)], ([], [], []), ([], []), [(.inr none, 245, ([], [], []))])
set_option maxRecDepth 100000 in
theorem p2_s587_s {X : Int → Int} {LX : Nat} : ck_Ok p2_O X LX 45 p2_s587 := ck_ok_s (O := p2_O) (X := X) (LX := LX) (E := []) (mi := 45) (cuts := []) (f := 76) (S := p2_s587) (lx := none) (XF := []) ⟨p2_nmu, ck_E0⟩ ck_X0 ck_l0 (by decide +kernel)
set_option maxRecDepth 100000 in
/-- GlacierMail$Rows.put -/
noncomputable def p2_s588 : ck_Sum := ((0, 0, 0), 245, [.inr (.inr (.inl 14)), .inl (ck_one (-1)), .inl (ck_one 2), .inl ((-1), 299, [])], ([], [], []), ([], []), [(.inr none, 245, ([], [], []))])
set_option maxRecDepth 100000 in
theorem p2_s588_s {X : Int → Int} {LX : Nat} : ck_Ok p2_O X LX 45 p2_s588 := ck_ok_s (O := p2_O) (X := X) (LX := LX) (E := []) (mi := 45) (cuts := []) (f := 76) (S := p2_s588) (lx := none) (XF := []) ⟨p2_nmu, ck_E0⟩ ck_X0 ck_l0 (by decide +kernel)
set_option maxRecDepth 100000 in
/-- GlacierMail$Rows.add -/
noncomputable def p2_s589 : ck_Sum := ((0, 0, 0), 245, [.inr (.inr (.inl 14))], ([], [], []), ([(14, 3, 3)], []), [(.inr (some (.inl (0, 23, []))), 245, ([], [], [(14, 3, 3, (1, 24, []))])), (.inr (some (.inl (ck_one (-1)))), 245, ([], [], [(14, 3, 3, ck_one 24)]))])
set_option maxRecDepth 100000 in
theorem p2_s589_s {X : Int → Int} {LX : Nat} : ck_Ok p2_O X LX 102 p2_s589 := ck_ok_s (O := p2_O) (X := X) (LX := LX) (E := []) (mi := 102) (cuts := []) (f := 102) (S := p2_s589) (lx := none) (XF := []) ⟨p2_nmu, ck_E0⟩ ck_X0 ck_l0 (by decide +kernel)
set_option maxRecDepth 100000 in
/-- GlacierMail$State.openLetter -/
noncomputable def p2_s590 : ck_Sum := ((1, 0, 0), 245, [.inr (.inr (.inl 3)), .inl (ck_one 0), .inl ((-1), 299, [])], ([], [], [(3, 6, 6, (0, 299, [(10, 0)]))]), ([(11, 5, 6), (14, 3, 3), (15, 0, 71)], []), [(.inr none, 245, ([], [], [(14, 3, 3, (1, 24, []))]))])
set_option maxRecDepth 100000 in
theorem p2_s590_s {X : Int → Int} {LX : Nat} : ck_Ok p2_O X LX 159 p2_s590 := ck_ok_s (O := p2_O) (X := X) (LX := LX) (E := [(45, [p2_s581, p2_s582, p2_s583, p2_s584, p2_s585, p2_s586, p2_s587, p2_s588]), (102, [p2_s589])]) (mi := 159) (cuts := []) (f := 144) (S := p2_s590) (lx := none) (XF := []) ⟨p2_nmu, ck_E1 (ck_S1 p2_s581_s (ck_S1 p2_s582_s (ck_S1 p2_s583_s (ck_S1 p2_s584_s (ck_S1 p2_s585_s (ck_S1 p2_s586_s (ck_S1 p2_s587_s (ck_S1 p2_s588_s ck_S0)))))))) (ck_E1 (ck_S1 p2_s589_s ck_S0) ck_E0)⟩ ck_X0 ck_l0 (by decide +kernel)
set_option maxRecDepth 100000 in
/-- GlacierMail.open -/
noncomputable def p2_s591 : ck_Sum := ((8, 2, 12), 245, [.inr (.inr (.inl 1)), .inl (ck_one 0)], ([], zl102, [(3, 6, 6, (0, 299, [(10, 0)]))]), ([(1, 15, 15), (11, 5, 6), (14, 3, 3), (15, 0, 71), (42, 1, 2), (44, 0, 7), (45, 3, 3), (46, 0, 55), (47, 3, 3), (48, 0, 23), (49, 3, 3), (50, 0, 23), (51, 3, 3), (52, 0, 167), (53, 3, 3), (54, 0, 35), (55, 3, 3), (56, 0, 71), (57, 0, 7), (58, 3, 3), (59, 0, 55), (60, 3, 3), (61, 0, 23), (62, 3, 3), (63, 0, 23), (64, 3, 3), (65, 0, 167), (66, 3, 3), (67, 0, 35), (68, 3, 3), (69, 0, 71), (70, 0, 7), (71, 3, 3), (72, 0, 55), (73, 3, 3), (74, 0, 23), (75, 3, 3), (76, 0, 23), (77, 3, 3), (78, 0, 167), (79, 3, 3), (80, 0, 35), (81, 3, 3), (82, 0, 71), (83, 0, 7), (84, 3, 3), (85, 0, 55), (86, 3, 3), (87, 0, 23), (88, 3, 3), (89, 0, 23), (90, 3, 3), (91, 0, 167), (92, 3, 3), (93, 0, 35), (94, 3, 3), (95, 0, 71), (96, 0, 7), (97, 3, 3), (98, 0, 55), (99, 3, 3), (100, 0, 23), (101, 3, 3), (102, 0, 23), (103, 3, 3), (104, 0, 167), (105, 3, 3), (106, 0, 35), (107, 3, 3), (108, 0, 71), (109, 0, 7), (110, 3, 3), (111, 0, 55), (112, 3, 3), (113, 0, 23), (114, 3, 3), (115, 0, 23), (116, 3, 3), (117, 0, 167), (118, 3, 3), (119, 0, 35), (120, 3, 3), (121, 0, 71), (122, 0, 7), (123, 3, 3), (124, 0, 55), (125, 3, 3), (126, 0, 23), (127, 3, 3), (128, 0, 23), (129, 3, 3), (130, 0, 167), (131, 3, 3), (132, 0, 35), (133, 3, 3), (134, 0, 71), (135, 0, 7), (136, 3, 3), (137, 0, 55), (138, 3, 3), (139, 0, 23), (140, 3, 3), (141, 0, 23), (142, 3, 3), (143, 0, 167), (144, 3, 3), (145, 0, 35), (146, 3, 3), (147, 0, 71), (148, 0, 7), (149, 3, 3), (150, 0, 55), (151, 3, 3), (152, 0, 23), (153, 3, 3), (154, 0, 23), (155, 3, 3), (156, 0, 167), (157, 3, 3), (158, 0, 35), (159, 3, 3), (160, 0, 71), (161, 0, 7), (162, 3, 3), (163, 0, 55), (164, 3, 3), (165, 0, 23), (166, 3, 3), (167, 0, 23), (168, 3, 3), (169, 0, 167), (170, 3, 3), (171, 0, 35), (172, 3, 3), (173, 0, 71), (174, 0, 7), (175, 3, 3), (176, 0, 55), (177, 3, 3), (178, 0, 23), (179, 3, 3), (180, 0, 23), (181, 3, 3), (182, 0, 167), (183, 3, 3), (184, 0, 35), (185, 3, 3), (186, 0, 71), (187, 0, 7), (188, 3, 3), (189, 0, 55), (190, 3, 3), (191, 0, 23), (192, 3, 3), (193, 0, 23), (194, 3, 3), (195, 0, 167), (196, 3, 3), (197, 0, 35), (198, 3, 3), (199, 0, 71), (206, 2, 8), (220, 3, 3), (221, 0, 47)], zl104), zl175)
set_option maxRecDepth 100000 in
theorem p2_s591_s {X : Int → Int} {LX : Nat} : ck_Ok p2_O X LX 158 p2_s591 := ck_ok_s (O := p2_O) (X := X) (LX := LX) (E := [(143, [p2_s578]), (24, [p2_s349]), (66, [p2_s580]), (154, [p2_s529]), (10, [p2_s335]), (159, [p2_s590])]) (mi := 158) (cuts := []) (f := 140) (S := p2_s591) (lx := none) (XF := []) ⟨p2_nmu, ck_E1 (ck_S1 p2_s578_s ck_S0) (ck_E1 (ck_S1 p2_s349_s ck_S0) (ck_E1 (ck_S1 p2_s580_s ck_S0) (ck_E1 (ck_S1 p2_s529_s ck_S0) (ck_E1 (ck_S1 p2_s335_s ck_S0) (ck_E1 (ck_S1 p2_s590_s ck_S0) ck_E0)))))⟩ ck_X0 ck_l0 (by decide +kernel)
set_option maxRecDepth 100000 in
/-- GlacierMail.need -/
noncomputable def p2_s592 : ck_Sum := ((6, 1, 6), 245, [.inr (.inr (.inl 1)), .inl (ck_one 1), .inl (0, 24, [])], ([], [], []), ([], []), [(.inr none, 245, ([], [], [])), (.inl 3, 245, ([], [], []))])
set_option maxRecDepth 100000 in
theorem p2_s592_s {X : Int → Int} {LX : Nat} : ck_Ok p2_O X LX 133 p2_s592 := ck_ok_s (O := p2_O) (X := X) (LX := LX) (E := []) (mi := 133) (cuts := []) (f := 82) (S := p2_s592) (lx := none) (XF := []) ⟨p2_nmu, ck_E0⟩ ck_X0 ck_l0 (by decide +kernel)
set_option maxRecDepth 100000 in
/-- GlacierMail.needLetter -/
noncomputable def p2_s593 : ck_Sum := ((7, 1, 6), 245, [.inr (.inr (.inl 1)), .inl (ck_one 1)], ([], [], []), ([], []), [(.inl 3, 245, ([], [], [])), (.inr none, 245, ([], [], []))])
set_option maxRecDepth 100000 in
theorem p2_s593_s {X : Int → Int} {LX : Nat} : ck_Ok p2_O X LX 143 p2_s593 := ck_ok_s (O := p2_O) (X := X) (LX := LX) (E := [(9, [p2_s331]), (133, [p2_s592])]) (mi := 143) (cuts := []) (f := 86) (S := p2_s593) (lx := none) (XF := []) ⟨p2_nmu, ck_E1 (ck_S1 p2_s331_s ck_S0) (ck_E1 (ck_S1 p2_s592_s ck_S0) ck_E0)⟩ ck_X0 ck_l0 (by decide +kernel)
set_option maxRecDepth 100000 in
/-- GlacierMail$State.isRock -/
noncomputable def p2_s594 : ck_Sum := ((1, 0, 0), 245, [.inr (.inr (.inl 3)), .inl (ck_one 1)], ([], [], []), ([], []), [(.inr (some (.inl (ck_one 0))), 245, ([], [], [])), (.inr (some (.inl (ck_one 1))), 245, ([], [], []))])
set_option maxRecDepth 100000 in
theorem p2_s594_s {X : Int → Int} {LX : Nat} : ck_Ok p2_O X LX 28 p2_s594 := ck_ok_s (O := p2_O) (X := X) (LX := LX) (E := [(10, [p2_s335])]) (mi := 28) (cuts := []) (f := 90) (S := p2_s594) (lx := none) (XF := []) ⟨p2_nmu, ck_E1 (ck_S1 p2_s335_s ck_S0) ck_E0⟩ ck_X0 ck_l0 (by decide +kernel)
set_option maxRecDepth 100000 in
/-- GlacierMail.waits -/
noncomputable def p2_s595 : ck_Sum := ((2, 0, 0), 245, [.inr (.inr (.inl 1)), .inl (ck_one 1)], ([], [], [(3, 6, 6, (0, 299, [(10, 0)]))]), ([], []), [(.inr (some (.inl (ck_one 0))), 245, ([], [], [])), (.inr (some (.inl (ck_one 1))), 245, ([], [], []))])
set_option maxRecDepth 100000 in
theorem p2_s595_s {X : Int → Int} {LX : Nat} : ck_Ok p2_O X LX 66 p2_s595 := ck_ok_s (O := p2_O) (X := X) (LX := LX) (E := [(28, [p2_s594]), (10, [p2_s335, p2_s350]), (67, [p2_s351])]) (mi := 66) (cuts := []) (f := 134) (S := p2_s595) (lx := none) (XF := []) ⟨p2_nmu, ck_E1 (ck_S1 p2_s594_s ck_S0) (ck_E1 (ck_S1 p2_s335_s (ck_S1 p2_s350_s ck_S0)) (ck_E1 (ck_S1 p2_s351_s ck_S0) ck_E0))⟩ ck_X0 ck_l0 (by decide +kernel)
set_option maxRecDepth 100000 in
/-- GlacierMail$Rows.put -/
noncomputable def p2_s596 : ck_Sum := ((0, 0, 0), 245, [.inr (.inr (.inl 10)), .inl (ck_one 1), .inl (ck_one 5), .inl ((-1), 299, [])], ([], [], []), ([(11, 12, 12)], []), [(.inr none, 245, ([], [], []))])
set_option maxRecDepth 100000 in
theorem p2_s596_s {X : Int → Int} {LX : Nat} : ck_Ok p2_O X LX 45 p2_s596 := ck_ok_s (O := p2_O) (X := X) (LX := LX) (E := []) (mi := 45) (cuts := []) (f := 116) (S := p2_s596) (lx := none) (XF := []) ⟨p2_nmu, ck_E0⟩ ck_X0 ck_l0 (by decide +kernel)
set_option maxRecDepth 100000 in
/-- GlacierMail$Rows.put -/
noncomputable def p2_s597 : ck_Sum := ((0, 0, 0), 245, [.inr (.inr (.inl 10)), .inl (ck_one 1), .inl (ck_one 6), .inl (0, 299, [])], ([], [], []), ([(11, 13, 13)], []), [(.inr none, 245, ([], [], []))])
set_option maxRecDepth 100000 in
theorem p2_s597_s {X : Int → Int} {LX : Nat} : ck_Ok p2_O X LX 45 p2_s597 := ck_ok_s (O := p2_O) (X := X) (LX := LX) (E := []) (mi := 45) (cuts := []) (f := 116) (S := p2_s597) (lx := none) (XF := []) ⟨p2_nmu, ck_E0⟩ ck_X0 ck_l0 (by decide +kernel)
set_option maxRecDepth 100000 in
/-- GlacierMail$Rows.put -/
noncomputable def p2_s598 : ck_Sum := ((0, 0, 0), 245, [.inr (.inr (.inl 14)), .inl (0, 23, []), .inl (ck_one 1), .inl (ck_one 1)], ([], [], []), (zl173, []), [(.inr none, 245, ([], [], []))])
set_option maxRecDepth 100000 in
theorem p2_s598_s {X : Int → Int} {LX : Nat} : ck_Ok p2_O X LX 45 p2_s598 := ck_ok_s (O := p2_O) (X := X) (LX := LX) (E := []) (mi := 45) (cuts := []) (f := 116) (S := p2_s598) (lx := none) (XF := []) ⟨p2_nmu, ck_E0⟩ ck_X0 ck_l0 (by decide +kernel)
set_option maxRecDepth 100000 in
/-- GlacierMail$Rows.put -/
noncomputable def p2_s599 : ck_Sum := ((0, 0, 0), 245, [.inr (.inr (.inl 14)), .inl (ck_one (-1)), .inl (ck_one 1), .inl (ck_one 1)], ([], [], []), ([], []), [(.inr none, 245, ([], [], []))])
set_option maxRecDepth 100000 in
theorem p2_s599_s {X : Int → Int} {LX : Nat} : ck_Ok p2_O X LX 45 p2_s599 := ck_ok_s (O := p2_O) (X := X) (LX := LX) (E := []) (mi := 45) (cuts := []) (f := 76) (S := p2_s599) (lx := none) (XF := []) ⟨p2_nmu, ck_E0⟩ ck_X0 ck_l0 (by decide +kernel)
set_option maxRecDepth 100000 in
/-- GlacierMail$State.openLetter -/
noncomputable def p2_s600 : ck_Sum := ((1, 0, 0), 245, [.inr (.inr (.inl 3)), .inl (ck_one 1), .inl ((-1), 299, [])], ([], [], [(3, 6, 6, (0, 299, [(10, 0)]))]), ([(11, 12, 13), (14, 3, 3), (15, 0, 71)], []), [(.inr none, 245, ([], [], [(14, 3, 3, (1, 24, []))]))])
set_option maxRecDepth 100000 in
theorem p2_s600_s {X : Int → Int} {LX : Nat} : ck_Ok p2_O X LX 159 p2_s600 := ck_ok_s (O := p2_O) (X := X) (LX := LX) (E := [(45, [p2_s596, p2_s597, p2_s583, p2_s598, p2_s585, p2_s586, p2_s599, p2_s588]), (102, [p2_s589])]) (mi := 159) (cuts := []) (f := 144) (S := p2_s600) (lx := none) (XF := []) ⟨p2_nmu, ck_E1 (ck_S1 p2_s596_s (ck_S1 p2_s597_s (ck_S1 p2_s583_s (ck_S1 p2_s598_s (ck_S1 p2_s585_s (ck_S1 p2_s586_s (ck_S1 p2_s599_s (ck_S1 p2_s588_s ck_S0)))))))) (ck_E1 (ck_S1 p2_s589_s ck_S0) ck_E0)⟩ ck_X0 ck_l0 (by decide +kernel)
set_option maxRecDepth 100000 in
/-- GlacierMail.open -/
noncomputable def p2_s601 : ck_Sum := ((8, 2, 12), 245, [.inr (.inr (.inl 1)), .inl (ck_one 1)], ([], zl102, [(3, 6, 6, (0, 299, [(10, 0)]))]), ([(1, 15, 15), (11, 12, 13), (14, 3, 3), (15, 0, 71), (42, 1, 2), (44, 0, 7), (45, 3, 3), (46, 0, 55), (47, 3, 3), (48, 0, 23), (49, 3, 3), (50, 0, 23), (51, 3, 3), (52, 0, 167), (53, 3, 3), (54, 0, 35), (55, 3, 3), (56, 0, 71), (57, 0, 7), (58, 3, 3), (59, 0, 55), (60, 3, 3), (61, 0, 23), (62, 3, 3), (63, 0, 23), (64, 3, 3), (65, 0, 167), (66, 3, 3), (67, 0, 35), (68, 3, 3), (69, 0, 71), (70, 0, 7), (71, 3, 3), (72, 0, 55), (73, 3, 3), (74, 0, 23), (75, 3, 3), (76, 0, 23), (77, 3, 3), (78, 0, 167), (79, 3, 3), (80, 0, 35), (81, 3, 3), (82, 0, 71), (83, 0, 7), (84, 3, 3), (85, 0, 55), (86, 3, 3), (87, 0, 23), (88, 3, 3), (89, 0, 23), (90, 3, 3), (91, 0, 167), (92, 3, 3), (93, 0, 35), (94, 3, 3), (95, 0, 71), (96, 0, 7), (97, 3, 3), (98, 0, 55), (99, 3, 3), (100, 0, 23), (101, 3, 3), (102, 0, 23), (103, 3, 3), (104, 0, 167), (105, 3, 3), (106, 0, 35), (107, 3, 3), (108, 0, 71), (109, 0, 7), (110, 3, 3), (111, 0, 55), (112, 3, 3), (113, 0, 23), (114, 3, 3), (115, 0, 23), (116, 3, 3), (117, 0, 167), (118, 3, 3), (119, 0, 35), (120, 3, 3), (121, 0, 71), (122, 0, 7), (123, 3, 3), (124, 0, 55), (125, 3, 3), (126, 0, 23), (127, 3, 3), (128, 0, 23), (129, 3, 3), (130, 0, 167), (131, 3, 3), (132, 0, 35), (133, 3, 3), (134, 0, 71), (135, 0, 7), (136, 3, 3), (137, 0, 55), (138, 3, 3), (139, 0, 23), (140, 3, 3), (141, 0, 23), (142, 3, 3), (143, 0, 167), (144, 3, 3), (145, 0, 35), (146, 3, 3), (147, 0, 71), (148, 0, 7), (149, 3, 3), (150, 0, 55), (151, 3, 3), (152, 0, 23), (153, 3, 3), (154, 0, 23), (155, 3, 3), (156, 0, 167), (157, 3, 3), (158, 0, 35), (159, 3, 3), (160, 0, 71), (161, 0, 7), (162, 3, 3), (163, 0, 55), (164, 3, 3), (165, 0, 23), (166, 3, 3), (167, 0, 23), (168, 3, 3), (169, 0, 167), (170, 3, 3), (171, 0, 35), (172, 3, 3), (173, 0, 71), (174, 0, 7), (175, 3, 3), (176, 0, 55), (177, 3, 3), (178, 0, 23), (179, 3, 3), (180, 0, 23), (181, 3, 3), (182, 0, 167), (183, 3, 3), (184, 0, 35), (185, 3, 3), (186, 0, 71), (187, 0, 7), (188, 3, 3), (189, 0, 55), (190, 3, 3), (191, 0, 23), (192, 3, 3), (193, 0, 23), (194, 3, 3), (195, 0, 167), (196, 3, 3), (197, 0, 35), (198, 3, 3), (199, 0, 71), (206, 2, 8), (220, 3, 3), (221, 0, 47)], zl104), zl175)
set_option maxRecDepth 100000 in
theorem p2_s601_s {X : Int → Int} {LX : Nat} : ck_Ok p2_O X LX 158 p2_s601 := ck_ok_s (O := p2_O) (X := X) (LX := LX) (E := [(143, [p2_s593]), (24, [p2_s349]), (66, [p2_s595]), (154, [p2_s529]), (10, [p2_s335]), (159, [p2_s600])]) (mi := 158) (cuts := []) (f := 140) (S := p2_s601) (lx := none) (XF := []) ⟨p2_nmu, ck_E1 (ck_S1 p2_s593_s ck_S0) (ck_E1 (ck_S1 p2_s349_s ck_S0) (ck_E1 (ck_S1 p2_s595_s ck_S0) (ck_E1 (ck_S1 p2_s529_s ck_S0) (ck_E1 (ck_S1 p2_s335_s ck_S0) (ck_E1 (ck_S1 p2_s600_s ck_S0) ck_E0)))))⟩ ck_X0 ck_l0 (by decide +kernel)
set_option maxRecDepth 100000 in
/-- GlacierMail.need -/
noncomputable def p2_s602 : ck_Sum := ((6, 1, 6), 245, [.inr (.inr (.inl 1)), .inl (ck_one 2), .inl (0, 24, [])], ([], [], []), ([], []), [(.inr none, 245, ([], [], [])), (.inl 3, 245, ([], [], []))])
set_option maxRecDepth 100000 in
theorem p2_s602_s {X : Int → Int} {LX : Nat} : ck_Ok p2_O X LX 133 p2_s602 := ck_ok_s (O := p2_O) (X := X) (LX := LX) (E := []) (mi := 133) (cuts := []) (f := 82) (S := p2_s602) (lx := none) (XF := []) ⟨p2_nmu, ck_E0⟩ ck_X0 ck_l0 (by decide +kernel)
set_option maxRecDepth 100000 in
/-- GlacierMail.needLetter -/
noncomputable def p2_s603 : ck_Sum := ((7, 1, 6), 245, [.inr (.inr (.inl 1)), .inl (ck_one 2)], ([], [], []), ([], []), [(.inl 3, 245, ([], [], [])), (.inr none, 245, ([], [], []))])
set_option maxRecDepth 100000 in
theorem p2_s603_s {X : Int → Int} {LX : Nat} : ck_Ok p2_O X LX 143 p2_s603 := ck_ok_s (O := p2_O) (X := X) (LX := LX) (E := [(9, [p2_s331]), (133, [p2_s602])]) (mi := 143) (cuts := []) (f := 86) (S := p2_s603) (lx := none) (XF := []) ⟨p2_nmu, ck_E1 (ck_S1 p2_s331_s ck_S0) (ck_E1 (ck_S1 p2_s602_s ck_S0) ck_E0)⟩ ck_X0 ck_l0 (by decide +kernel)
set_option maxRecDepth 100000 in
/-- GlacierMail$State.isRock -/
noncomputable def p2_s604 : ck_Sum := ((1, 0, 0), 245, [.inr (.inr (.inl 3)), .inl (ck_one 2)], ([], [], []), ([], []), [(.inr (some (.inl (ck_one 0))), 245, ([], [], [])), (.inr (some (.inl (ck_one 1))), 245, ([], [], []))])
set_option maxRecDepth 100000 in
theorem p2_s604_s {X : Int → Int} {LX : Nat} : ck_Ok p2_O X LX 28 p2_s604 := ck_ok_s (O := p2_O) (X := X) (LX := LX) (E := [(10, [p2_s335])]) (mi := 28) (cuts := []) (f := 90) (S := p2_s604) (lx := none) (XF := []) ⟨p2_nmu, ck_E1 (ck_S1 p2_s335_s ck_S0) ck_E0⟩ ck_X0 ck_l0 (by decide +kernel)
set_option maxRecDepth 100000 in
/-- GlacierMail.waits -/
noncomputable def p2_s605 : ck_Sum := ((2, 0, 0), 245, [.inr (.inr (.inl 1)), .inl (ck_one 2)], ([], [], [(3, 6, 6, (0, 299, [(10, 0)]))]), ([], []), [(.inr (some (.inl (ck_one 0))), 245, ([], [], [])), (.inr (some (.inl (ck_one 1))), 245, ([], [], []))])
set_option maxRecDepth 100000 in
theorem p2_s605_s {X : Int → Int} {LX : Nat} : ck_Ok p2_O X LX 66 p2_s605 := ck_ok_s (O := p2_O) (X := X) (LX := LX) (E := [(28, [p2_s604]), (10, [p2_s335, p2_s350]), (67, [p2_s351])]) (mi := 66) (cuts := []) (f := 134) (S := p2_s605) (lx := none) (XF := []) ⟨p2_nmu, ck_E1 (ck_S1 p2_s604_s ck_S0) (ck_E1 (ck_S1 p2_s335_s (ck_S1 p2_s350_s ck_S0)) (ck_E1 (ck_S1 p2_s351_s ck_S0) ck_E0))⟩ ck_X0 ck_l0 (by decide +kernel)
set_option maxRecDepth 100000 in
/-- GlacierMail$Rows.put -/
noncomputable def p2_s606 : ck_Sum := ((0, 0, 0), 245, [.inr (.inr (.inl 10)), .inl (ck_one 2), .inl (ck_one 5), .inl ((-1), 299, [])], ([], [], []), ([(11, 19, 19)], []), [(.inr none, 245, ([], [], []))])
set_option maxRecDepth 100000 in
theorem p2_s606_s {X : Int → Int} {LX : Nat} : ck_Ok p2_O X LX 45 p2_s606 := ck_ok_s (O := p2_O) (X := X) (LX := LX) (E := []) (mi := 45) (cuts := []) (f := 116) (S := p2_s606) (lx := none) (XF := []) ⟨p2_nmu, ck_E0⟩ ck_X0 ck_l0 (by decide +kernel)
set_option maxRecDepth 100000 in
/-- GlacierMail$Rows.put -/
noncomputable def p2_s607 : ck_Sum := ((0, 0, 0), 245, [.inr (.inr (.inl 10)), .inl (ck_one 2), .inl (ck_one 6), .inl (0, 299, [])], ([], [], []), ([(11, 20, 20)], []), [(.inr none, 245, ([], [], []))])
set_option maxRecDepth 100000 in
theorem p2_s607_s {X : Int → Int} {LX : Nat} : ck_Ok p2_O X LX 45 p2_s607 := ck_ok_s (O := p2_O) (X := X) (LX := LX) (E := []) (mi := 45) (cuts := []) (f := 116) (S := p2_s607) (lx := none) (XF := []) ⟨p2_nmu, ck_E0⟩ ck_X0 ck_l0 (by decide +kernel)
set_option maxRecDepth 100000 in
/-- GlacierMail$Rows.put -/
noncomputable def p2_s608 : ck_Sum := ((0, 0, 0), 245, [.inr (.inr (.inl 14)), .inl (0, 23, []), .inl (ck_one 1), .inl (ck_one 2)], ([], [], []), (zl173, []), [(.inr none, 245, ([], [], []))])
set_option maxRecDepth 100000 in
theorem p2_s608_s {X : Int → Int} {LX : Nat} : ck_Ok p2_O X LX 45 p2_s608 := ck_ok_s (O := p2_O) (X := X) (LX := LX) (E := []) (mi := 45) (cuts := []) (f := 116) (S := p2_s608) (lx := none) (XF := []) ⟨p2_nmu, ck_E0⟩ ck_X0 ck_l0 (by decide +kernel)
set_option maxRecDepth 100000 in
/-- GlacierMail$Rows.put -/
noncomputable def p2_s609 : ck_Sum := ((0, 0, 0), 245, [.inr (.inr (.inl 14)), .inl (ck_one (-1)), .inl (ck_one 1), .inl (ck_one 2)], ([], [], []), ([], []), [(.inr none, 245, ([], [], []))])
set_option maxRecDepth 100000 in
theorem p2_s609_s {X : Int → Int} {LX : Nat} : ck_Ok p2_O X LX 45 p2_s609 := ck_ok_s (O := p2_O) (X := X) (LX := LX) (E := []) (mi := 45) (cuts := []) (f := 76) (S := p2_s609) (lx := none) (XF := []) ⟨p2_nmu, ck_E0⟩ ck_X0 ck_l0 (by decide +kernel)
set_option maxRecDepth 100000 in
/-- GlacierMail$State.openLetter -/
noncomputable def p2_s610 : ck_Sum := ((1, 0, 0), 245, [.inr (.inr (.inl 3)), .inl (ck_one 2), .inl ((-1), 299, [])], ([], [], [(3, 6, 6, (0, 299, [(10, 0)]))]), ([(11, 19, 20), (14, 3, 3), (15, 0, 71)], []), [(.inr none, 245, ([], [], [(14, 3, 3, (1, 24, []))]))])
set_option maxRecDepth 100000 in
theorem p2_s610_s {X : Int → Int} {LX : Nat} : ck_Ok p2_O X LX 159 p2_s610 := ck_ok_s (O := p2_O) (X := X) (LX := LX) (E := [(45, [p2_s606, p2_s607, p2_s583, p2_s608, p2_s585, p2_s586, p2_s609, p2_s588]), (102, [p2_s589])]) (mi := 159) (cuts := []) (f := 144) (S := p2_s610) (lx := none) (XF := []) ⟨p2_nmu, ck_E1 (ck_S1 p2_s606_s (ck_S1 p2_s607_s (ck_S1 p2_s583_s (ck_S1 p2_s608_s (ck_S1 p2_s585_s (ck_S1 p2_s586_s (ck_S1 p2_s609_s (ck_S1 p2_s588_s ck_S0)))))))) (ck_E1 (ck_S1 p2_s589_s ck_S0) ck_E0)⟩ ck_X0 ck_l0 (by decide +kernel)
set_option maxRecDepth 100000 in
/-- GlacierMail.open -/
noncomputable def p2_s611 : ck_Sum := ((8, 2, 12), 245, [.inr (.inr (.inl 1)), .inl (ck_one 2)], ([], zl102, [(3, 6, 6, (0, 299, [(10, 0)]))]), ([(1, 15, 15), (11, 19, 20), (14, 3, 3), (15, 0, 71), (42, 1, 2), (44, 0, 7), (45, 3, 3), (46, 0, 55), (47, 3, 3), (48, 0, 23), (49, 3, 3), (50, 0, 23), (51, 3, 3), (52, 0, 167), (53, 3, 3), (54, 0, 35), (55, 3, 3), (56, 0, 71), (57, 0, 7), (58, 3, 3), (59, 0, 55), (60, 3, 3), (61, 0, 23), (62, 3, 3), (63, 0, 23), (64, 3, 3), (65, 0, 167), (66, 3, 3), (67, 0, 35), (68, 3, 3), (69, 0, 71), (70, 0, 7), (71, 3, 3), (72, 0, 55), (73, 3, 3), (74, 0, 23), (75, 3, 3), (76, 0, 23), (77, 3, 3), (78, 0, 167), (79, 3, 3), (80, 0, 35), (81, 3, 3), (82, 0, 71), (83, 0, 7), (84, 3, 3), (85, 0, 55), (86, 3, 3), (87, 0, 23), (88, 3, 3), (89, 0, 23), (90, 3, 3), (91, 0, 167), (92, 3, 3), (93, 0, 35), (94, 3, 3), (95, 0, 71), (96, 0, 7), (97, 3, 3), (98, 0, 55), (99, 3, 3), (100, 0, 23), (101, 3, 3), (102, 0, 23), (103, 3, 3), (104, 0, 167), (105, 3, 3), (106, 0, 35), (107, 3, 3), (108, 0, 71), (109, 0, 7), (110, 3, 3), (111, 0, 55), (112, 3, 3), (113, 0, 23), (114, 3, 3), (115, 0, 23), (116, 3, 3), (117, 0, 167), (118, 3, 3), (119, 0, 35), (120, 3, 3), (121, 0, 71), (122, 0, 7), (123, 3, 3), (124, 0, 55), (125, 3, 3), (126, 0, 23), (127, 3, 3), (128, 0, 23), (129, 3, 3), (130, 0, 167), (131, 3, 3), (132, 0, 35), (133, 3, 3), (134, 0, 71), (135, 0, 7), (136, 3, 3), (137, 0, 55), (138, 3, 3), (139, 0, 23), (140, 3, 3), (141, 0, 23), (142, 3, 3), (143, 0, 167), (144, 3, 3), (145, 0, 35), (146, 3, 3), (147, 0, 71), (148, 0, 7), (149, 3, 3), (150, 0, 55), (151, 3, 3), (152, 0, 23), (153, 3, 3), (154, 0, 23), (155, 3, 3), (156, 0, 167), (157, 3, 3), (158, 0, 35), (159, 3, 3), (160, 0, 71), (161, 0, 7), (162, 3, 3), (163, 0, 55), (164, 3, 3), (165, 0, 23), (166, 3, 3), (167, 0, 23), (168, 3, 3), (169, 0, 167), (170, 3, 3), (171, 0, 35), (172, 3, 3), (173, 0, 71), (174, 0, 7), (175, 3, 3), (176, 0, 55), (177, 3, 3), (178, 0, 23), (179, 3, 3), (180, 0, 23), (181, 3, 3), (182, 0, 167), (183, 3, 3), (184, 0, 35), (185, 3, 3), (186, 0, 71), (187, 0, 7), (188, 3, 3), (189, 0, 55), (190, 3, 3), (191, 0, 23), (192, 3, 3), (193, 0, 23), (194, 3, 3), (195, 0, 167), (196, 3, 3), (197, 0, 35), (198, 3, 3), (199, 0, 71), (206, 2, 8), (220, 3, 3), (221, 0, 47)], zl104), zl175)
set_option maxRecDepth 100000 in
theorem p2_s611_s {X : Int → Int} {LX : Nat} : ck_Ok p2_O X LX 158 p2_s611 := ck_ok_s (O := p2_O) (X := X) (LX := LX) (E := [(143, [p2_s603]), (24, [p2_s349]), (66, [p2_s605]), (154, [p2_s529]), (10, [p2_s335]), (159, [p2_s610])]) (mi := 158) (cuts := []) (f := 140) (S := p2_s611) (lx := none) (XF := []) ⟨p2_nmu, ck_E1 (ck_S1 p2_s603_s ck_S0) (ck_E1 (ck_S1 p2_s349_s ck_S0) (ck_E1 (ck_S1 p2_s605_s ck_S0) (ck_E1 (ck_S1 p2_s529_s ck_S0) (ck_E1 (ck_S1 p2_s335_s ck_S0) (ck_E1 (ck_S1 p2_s610_s ck_S0) ck_E0)))))⟩ ck_X0 ck_l0 (by decide +kernel)
set_option maxRecDepth 100000 in
/-- GlacierMail.need -/
noncomputable def p2_s612 : ck_Sum := ((6, 1, 6), 245, [.inr (.inr (.inl 1)), .inl (ck_one 3), .inl (0, 24, [])], ([], [], []), ([], []), [(.inr none, 245, ([], [], [])), (.inl 3, 245, ([], [], []))])
set_option maxRecDepth 100000 in
theorem p2_s612_s {X : Int → Int} {LX : Nat} : ck_Ok p2_O X LX 133 p2_s612 := ck_ok_s (O := p2_O) (X := X) (LX := LX) (E := []) (mi := 133) (cuts := []) (f := 82) (S := p2_s612) (lx := none) (XF := []) ⟨p2_nmu, ck_E0⟩ ck_X0 ck_l0 (by decide +kernel)
set_option maxRecDepth 100000 in
/-- GlacierMail.needLetter -/
noncomputable def p2_s613 : ck_Sum := ((7, 1, 6), 245, [.inr (.inr (.inl 1)), .inl (ck_one 3)], ([], [], []), ([], []), [(.inl 3, 245, ([], [], [])), (.inr none, 245, ([], [], []))])
set_option maxRecDepth 100000 in
theorem p2_s613_s {X : Int → Int} {LX : Nat} : ck_Ok p2_O X LX 143 p2_s613 := ck_ok_s (O := p2_O) (X := X) (LX := LX) (E := [(9, [p2_s331]), (133, [p2_s612])]) (mi := 143) (cuts := []) (f := 86) (S := p2_s613) (lx := none) (XF := []) ⟨p2_nmu, ck_E1 (ck_S1 p2_s331_s ck_S0) (ck_E1 (ck_S1 p2_s612_s ck_S0) ck_E0)⟩ ck_X0 ck_l0 (by decide +kernel)
set_option maxRecDepth 100000 in
/-- GlacierMail$State.isRock -/
noncomputable def p2_s614 : ck_Sum := ((1, 0, 0), 245, [.inr (.inr (.inl 3)), .inl (ck_one 3)], ([], [], []), ([], []), [(.inr (some (.inl (ck_one 0))), 245, ([], [], [])), (.inr (some (.inl (ck_one 1))), 245, ([], [], []))])
set_option maxRecDepth 100000 in
theorem p2_s614_s {X : Int → Int} {LX : Nat} : ck_Ok p2_O X LX 28 p2_s614 := ck_ok_s (O := p2_O) (X := X) (LX := LX) (E := [(10, [p2_s335])]) (mi := 28) (cuts := []) (f := 90) (S := p2_s614) (lx := none) (XF := []) ⟨p2_nmu, ck_E1 (ck_S1 p2_s335_s ck_S0) ck_E0⟩ ck_X0 ck_l0 (by decide +kernel)
set_option maxRecDepth 100000 in
/-- GlacierMail.waits -/
noncomputable def p2_s615 : ck_Sum := ((2, 0, 0), 245, [.inr (.inr (.inl 1)), .inl (ck_one 3)], ([], [], [(3, 6, 6, (0, 299, [(10, 0)]))]), ([], []), [(.inr (some (.inl (ck_one 0))), 245, ([], [], [])), (.inr (some (.inl (ck_one 1))), 245, ([], [], []))])
set_option maxRecDepth 100000 in
theorem p2_s615_s {X : Int → Int} {LX : Nat} : ck_Ok p2_O X LX 66 p2_s615 := ck_ok_s (O := p2_O) (X := X) (LX := LX) (E := [(28, [p2_s614]), (10, [p2_s335, p2_s350]), (67, [p2_s351])]) (mi := 66) (cuts := []) (f := 134) (S := p2_s615) (lx := none) (XF := []) ⟨p2_nmu, ck_E1 (ck_S1 p2_s614_s ck_S0) (ck_E1 (ck_S1 p2_s335_s (ck_S1 p2_s350_s ck_S0)) (ck_E1 (ck_S1 p2_s351_s ck_S0) ck_E0))⟩ ck_X0 ck_l0 (by decide +kernel)
set_option maxRecDepth 100000 in
/-- GlacierMail$Rows.put -/
noncomputable def p2_s616 : ck_Sum := ((0, 0, 0), 245, [.inr (.inr (.inl 10)), .inl (ck_one 3), .inl (ck_one 5), .inl ((-1), 299, [])], ([], [], []), ([(11, 26, 26)], []), [(.inr none, 245, ([], [], []))])
set_option maxRecDepth 100000 in
theorem p2_s616_s {X : Int → Int} {LX : Nat} : ck_Ok p2_O X LX 45 p2_s616 := ck_ok_s (O := p2_O) (X := X) (LX := LX) (E := []) (mi := 45) (cuts := []) (f := 116) (S := p2_s616) (lx := none) (XF := []) ⟨p2_nmu, ck_E0⟩ ck_X0 ck_l0 (by decide +kernel)
set_option maxRecDepth 100000 in
/-- GlacierMail$Rows.put -/
noncomputable def p2_s617 : ck_Sum := ((0, 0, 0), 245, [.inr (.inr (.inl 10)), .inl (ck_one 3), .inl (ck_one 6), .inl (0, 299, [])], ([], [], []), ([(11, 27, 27)], []), [(.inr none, 245, ([], [], []))])
set_option maxRecDepth 100000 in
theorem p2_s617_s {X : Int → Int} {LX : Nat} : ck_Ok p2_O X LX 45 p2_s617 := ck_ok_s (O := p2_O) (X := X) (LX := LX) (E := []) (mi := 45) (cuts := []) (f := 116) (S := p2_s617) (lx := none) (XF := []) ⟨p2_nmu, ck_E0⟩ ck_X0 ck_l0 (by decide +kernel)
set_option maxRecDepth 100000 in
/-- GlacierMail$Rows.put -/
noncomputable def p2_s618 : ck_Sum := ((0, 0, 0), 245, [.inr (.inr (.inl 14)), .inl (0, 23, []), .inl (ck_one 1), .inl (ck_one 3)], ([], [], []), (zl173, []), [(.inr none, 245, ([], [], []))])
set_option maxRecDepth 100000 in
theorem p2_s618_s {X : Int → Int} {LX : Nat} : ck_Ok p2_O X LX 45 p2_s618 := ck_ok_s (O := p2_O) (X := X) (LX := LX) (E := []) (mi := 45) (cuts := []) (f := 116) (S := p2_s618) (lx := none) (XF := []) ⟨p2_nmu, ck_E0⟩ ck_X0 ck_l0 (by decide +kernel)
set_option maxRecDepth 100000 in
/-- GlacierMail$Rows.put -/
noncomputable def p2_s619 : ck_Sum := ((0, 0, 0), 245, [.inr (.inr (.inl 14)), .inl (ck_one (-1)), .inl (ck_one 1), .inl (ck_one 3)], ([], [], []), ([], []), [(.inr none, 245, ([], [], []))])
set_option maxRecDepth 100000 in
theorem p2_s619_s {X : Int → Int} {LX : Nat} : ck_Ok p2_O X LX 45 p2_s619 := ck_ok_s (O := p2_O) (X := X) (LX := LX) (E := []) (mi := 45) (cuts := []) (f := 76) (S := p2_s619) (lx := none) (XF := []) ⟨p2_nmu, ck_E0⟩ ck_X0 ck_l0 (by decide +kernel)
set_option maxRecDepth 100000 in
/-- GlacierMail$State.openLetter -/
noncomputable def p2_s620 : ck_Sum := ((1, 0, 0), 245, [.inr (.inr (.inl 3)), .inl (ck_one 3), .inl ((-1), 299, [])], ([], [], [(3, 6, 6, (0, 299, [(10, 0)]))]), ([(11, 26, 27), (14, 3, 3), (15, 0, 71)], []), [(.inr none, 245, ([], [], [(14, 3, 3, (1, 24, []))]))])
set_option maxRecDepth 100000 in
theorem p2_s620_s {X : Int → Int} {LX : Nat} : ck_Ok p2_O X LX 159 p2_s620 := ck_ok_s (O := p2_O) (X := X) (LX := LX) (E := [(45, [p2_s616, p2_s617, p2_s583, p2_s618, p2_s585, p2_s586, p2_s619, p2_s588]), (102, [p2_s589])]) (mi := 159) (cuts := []) (f := 144) (S := p2_s620) (lx := none) (XF := []) ⟨p2_nmu, ck_E1 (ck_S1 p2_s616_s (ck_S1 p2_s617_s (ck_S1 p2_s583_s (ck_S1 p2_s618_s (ck_S1 p2_s585_s (ck_S1 p2_s586_s (ck_S1 p2_s619_s (ck_S1 p2_s588_s ck_S0)))))))) (ck_E1 (ck_S1 p2_s589_s ck_S0) ck_E0)⟩ ck_X0 ck_l0 (by decide +kernel)
set_option maxRecDepth 100000 in
/-- GlacierMail.open -/
noncomputable def p2_s621 : ck_Sum := ((8, 2, 12), 245, [.inr (.inr (.inl 1)), .inl (ck_one 3)], ([], zl102, [(3, 6, 6, (0, 299, [(10, 0)]))]), ([(1, 15, 15), (11, 26, 27), (14, 3, 3), (15, 0, 71), (42, 1, 2), (44, 0, 7), (45, 3, 3), (46, 0, 55), (47, 3, 3), (48, 0, 23), (49, 3, 3), (50, 0, 23), (51, 3, 3), (52, 0, 167), (53, 3, 3), (54, 0, 35), (55, 3, 3), (56, 0, 71), (57, 0, 7), (58, 3, 3), (59, 0, 55), (60, 3, 3), (61, 0, 23), (62, 3, 3), (63, 0, 23), (64, 3, 3), (65, 0, 167), (66, 3, 3), (67, 0, 35), (68, 3, 3), (69, 0, 71), (70, 0, 7), (71, 3, 3), (72, 0, 55), (73, 3, 3), (74, 0, 23), (75, 3, 3), (76, 0, 23), (77, 3, 3), (78, 0, 167), (79, 3, 3), (80, 0, 35), (81, 3, 3), (82, 0, 71), (83, 0, 7), (84, 3, 3), (85, 0, 55), (86, 3, 3), (87, 0, 23), (88, 3, 3), (89, 0, 23), (90, 3, 3), (91, 0, 167), (92, 3, 3), (93, 0, 35), (94, 3, 3), (95, 0, 71), (96, 0, 7), (97, 3, 3), (98, 0, 55), (99, 3, 3), (100, 0, 23), (101, 3, 3), (102, 0, 23), (103, 3, 3), (104, 0, 167), (105, 3, 3), (106, 0, 35), (107, 3, 3), (108, 0, 71), (109, 0, 7), (110, 3, 3), (111, 0, 55), (112, 3, 3), (113, 0, 23), (114, 3, 3), (115, 0, 23), (116, 3, 3), (117, 0, 167), (118, 3, 3), (119, 0, 35), (120, 3, 3), (121, 0, 71), (122, 0, 7), (123, 3, 3), (124, 0, 55), (125, 3, 3), (126, 0, 23), (127, 3, 3), (128, 0, 23), (129, 3, 3), (130, 0, 167), (131, 3, 3), (132, 0, 35), (133, 3, 3), (134, 0, 71), (135, 0, 7), (136, 3, 3), (137, 0, 55), (138, 3, 3), (139, 0, 23), (140, 3, 3), (141, 0, 23), (142, 3, 3), (143, 0, 167), (144, 3, 3), (145, 0, 35), (146, 3, 3), (147, 0, 71), (148, 0, 7), (149, 3, 3), (150, 0, 55), (151, 3, 3), (152, 0, 23), (153, 3, 3), (154, 0, 23), (155, 3, 3), (156, 0, 167), (157, 3, 3), (158, 0, 35), (159, 3, 3), (160, 0, 71), (161, 0, 7), (162, 3, 3), (163, 0, 55), (164, 3, 3), (165, 0, 23), (166, 3, 3), (167, 0, 23), (168, 3, 3), (169, 0, 167), (170, 3, 3), (171, 0, 35), (172, 3, 3), (173, 0, 71), (174, 0, 7), (175, 3, 3), (176, 0, 55), (177, 3, 3), (178, 0, 23), (179, 3, 3), (180, 0, 23), (181, 3, 3), (182, 0, 167), (183, 3, 3), (184, 0, 35), (185, 3, 3), (186, 0, 71), (187, 0, 7), (188, 3, 3), (189, 0, 55), (190, 3, 3), (191, 0, 23), (192, 3, 3), (193, 0, 23), (194, 3, 3), (195, 0, 167), (196, 3, 3), (197, 0, 35), (198, 3, 3), (199, 0, 71), (206, 2, 8), (220, 3, 3), (221, 0, 47)], zl104), zl175)
set_option maxRecDepth 100000 in
theorem p2_s621_s {X : Int → Int} {LX : Nat} : ck_Ok p2_O X LX 158 p2_s621 := ck_ok_s (O := p2_O) (X := X) (LX := LX) (E := [(143, [p2_s613]), (24, [p2_s349]), (66, [p2_s615]), (154, [p2_s529]), (10, [p2_s335]), (159, [p2_s620])]) (mi := 158) (cuts := []) (f := 140) (S := p2_s621) (lx := none) (XF := []) ⟨p2_nmu, ck_E1 (ck_S1 p2_s613_s ck_S0) (ck_E1 (ck_S1 p2_s349_s ck_S0) (ck_E1 (ck_S1 p2_s615_s ck_S0) (ck_E1 (ck_S1 p2_s529_s ck_S0) (ck_E1 (ck_S1 p2_s335_s ck_S0) (ck_E1 (ck_S1 p2_s620_s ck_S0) ck_E0)))))⟩ ck_X0 ck_l0 (by decide +kernel)
set_option maxRecDepth 100000 in
/-- GlacierMail.need -/
noncomputable def p2_s622 : ck_Sum := ((6, 1, 6), 245, [.inr (.inr (.inl 1)), .inl (ck_one 4), .inl (0, 24, [])], ([], [], []), ([], []), [(.inr none, 245, ([], [], [])), (.inl 3, 245, ([], [], []))])
set_option maxRecDepth 100000 in
theorem p2_s622_s {X : Int → Int} {LX : Nat} : ck_Ok p2_O X LX 133 p2_s622 := ck_ok_s (O := p2_O) (X := X) (LX := LX) (E := []) (mi := 133) (cuts := []) (f := 82) (S := p2_s622) (lx := none) (XF := []) ⟨p2_nmu, ck_E0⟩ ck_X0 ck_l0 (by decide +kernel)
set_option maxRecDepth 100000 in
/-- GlacierMail.needLetter -/
noncomputable def p2_s623 : ck_Sum := ((7, 1, 6), 245, [.inr (.inr (.inl 1)), .inl (ck_one 4)], ([], [], []), ([], []), [(.inl 3, 245, ([], [], [])), (.inr none, 245, ([], [], []))])
set_option maxRecDepth 100000 in
theorem p2_s623_s {X : Int → Int} {LX : Nat} : ck_Ok p2_O X LX 143 p2_s623 := ck_ok_s (O := p2_O) (X := X) (LX := LX) (E := [(9, [p2_s331]), (133, [p2_s622])]) (mi := 143) (cuts := []) (f := 86) (S := p2_s623) (lx := none) (XF := []) ⟨p2_nmu, ck_E1 (ck_S1 p2_s331_s ck_S0) (ck_E1 (ck_S1 p2_s622_s ck_S0) ck_E0)⟩ ck_X0 ck_l0 (by decide +kernel)
set_option maxRecDepth 100000 in
/-- GlacierMail$State.isRock -/
noncomputable def p2_s624 : ck_Sum := ((1, 0, 0), 245, [.inr (.inr (.inl 3)), .inl (ck_one 4)], ([], [], []), ([], []), [(.inr (some (.inl (ck_one 0))), 245, ([], [], [])), (.inr (some (.inl (ck_one 1))), 245, ([], [], []))])
set_option maxRecDepth 100000 in
theorem p2_s624_s {X : Int → Int} {LX : Nat} : ck_Ok p2_O X LX 28 p2_s624 := ck_ok_s (O := p2_O) (X := X) (LX := LX) (E := [(10, [p2_s335])]) (mi := 28) (cuts := []) (f := 90) (S := p2_s624) (lx := none) (XF := []) ⟨p2_nmu, ck_E1 (ck_S1 p2_s335_s ck_S0) ck_E0⟩ ck_X0 ck_l0 (by decide +kernel)
set_option maxRecDepth 100000 in
/-- GlacierMail.waits -/
noncomputable def p2_s625 : ck_Sum := ((2, 0, 0), 245, [.inr (.inr (.inl 1)), .inl (ck_one 4)], ([], [], [(3, 6, 6, (0, 299, [(10, 0)]))]), ([], []), [(.inr (some (.inl (ck_one 0))), 245, ([], [], [])), (.inr (some (.inl (ck_one 1))), 245, ([], [], []))])
set_option maxRecDepth 100000 in
theorem p2_s625_s {X : Int → Int} {LX : Nat} : ck_Ok p2_O X LX 66 p2_s625 := ck_ok_s (O := p2_O) (X := X) (LX := LX) (E := [(28, [p2_s624]), (10, [p2_s335, p2_s350]), (67, [p2_s351])]) (mi := 66) (cuts := []) (f := 134) (S := p2_s625) (lx := none) (XF := []) ⟨p2_nmu, ck_E1 (ck_S1 p2_s624_s ck_S0) (ck_E1 (ck_S1 p2_s335_s (ck_S1 p2_s350_s ck_S0)) (ck_E1 (ck_S1 p2_s351_s ck_S0) ck_E0))⟩ ck_X0 ck_l0 (by decide +kernel)
set_option maxRecDepth 100000 in
/-- GlacierMail$Rows.put -/
noncomputable def p2_s626 : ck_Sum := ((0, 0, 0), 245, [.inr (.inr (.inl 10)), .inl (ck_one 4), .inl (ck_one 5), .inl ((-1), 299, [])], ([], [], []), ([(11, 33, 33)], []), [(.inr none, 245, ([], [], []))])
set_option maxRecDepth 100000 in
theorem p2_s626_s {X : Int → Int} {LX : Nat} : ck_Ok p2_O X LX 45 p2_s626 := ck_ok_s (O := p2_O) (X := X) (LX := LX) (E := []) (mi := 45) (cuts := []) (f := 116) (S := p2_s626) (lx := none) (XF := []) ⟨p2_nmu, ck_E0⟩ ck_X0 ck_l0 (by decide +kernel)
set_option maxRecDepth 100000 in
/-- GlacierMail$Rows.put -/
noncomputable def p2_s627 : ck_Sum := ((0, 0, 0), 245, [.inr (.inr (.inl 10)), .inl (ck_one 4), .inl (ck_one 6), .inl (0, 299, [])], ([], [], []), ([(11, 34, 34)], []), [(.inr none, 245, ([], [], []))])
set_option maxRecDepth 100000 in
theorem p2_s627_s {X : Int → Int} {LX : Nat} : ck_Ok p2_O X LX 45 p2_s627 := ck_ok_s (O := p2_O) (X := X) (LX := LX) (E := []) (mi := 45) (cuts := []) (f := 116) (S := p2_s627) (lx := none) (XF := []) ⟨p2_nmu, ck_E0⟩ ck_X0 ck_l0 (by decide +kernel)
set_option maxRecDepth 100000 in
/-- GlacierMail$Rows.put -/
noncomputable def p2_s628 : ck_Sum := ((0, 0, 0), 245, [.inr (.inr (.inl 14)), .inl (0, 23, []), .inl (ck_one 1), .inl (ck_one 4)], ([], [], []), (zl173, []), [(.inr none, 245, ([], [], []))])
set_option maxRecDepth 100000 in
theorem p2_s628_s {X : Int → Int} {LX : Nat} : ck_Ok p2_O X LX 45 p2_s628 := ck_ok_s (O := p2_O) (X := X) (LX := LX) (E := []) (mi := 45) (cuts := []) (f := 116) (S := p2_s628) (lx := none) (XF := []) ⟨p2_nmu, ck_E0⟩ ck_X0 ck_l0 (by decide +kernel)
set_option maxRecDepth 100000 in
/-- GlacierMail$Rows.put -/
noncomputable def p2_s629 : ck_Sum := ((0, 0, 0), 245, [.inr (.inr (.inl 14)), .inl (ck_one (-1)), .inl (ck_one 1), .inl (ck_one 4)], ([], [], []), ([], []), [(.inr none, 245, ([], [], []))])
set_option maxRecDepth 100000 in
theorem p2_s629_s {X : Int → Int} {LX : Nat} : ck_Ok p2_O X LX 45 p2_s629 := ck_ok_s (O := p2_O) (X := X) (LX := LX) (E := []) (mi := 45) (cuts := []) (f := 76) (S := p2_s629) (lx := none) (XF := []) ⟨p2_nmu, ck_E0⟩ ck_X0 ck_l0 (by decide +kernel)
set_option maxRecDepth 100000 in
/-- GlacierMail$State.openLetter -/
noncomputable def p2_s630 : ck_Sum := ((1, 0, 0), 245, [.inr (.inr (.inl 3)), .inl (ck_one 4), .inl ((-1), 299, [])], ([], [], [(3, 6, 6, (0, 299, [(10, 0)]))]), ([(11, 33, 34), (14, 3, 3), (15, 0, 71)], []), [(.inr none, 245, ([], [], [(14, 3, 3, (1, 24, []))]))])
set_option maxRecDepth 100000 in
theorem p2_s630_s {X : Int → Int} {LX : Nat} : ck_Ok p2_O X LX 159 p2_s630 := ck_ok_s (O := p2_O) (X := X) (LX := LX) (E := [(45, [p2_s626, p2_s627, p2_s583, p2_s628, p2_s585, p2_s586, p2_s629, p2_s588]), (102, [p2_s589])]) (mi := 159) (cuts := []) (f := 144) (S := p2_s630) (lx := none) (XF := []) ⟨p2_nmu, ck_E1 (ck_S1 p2_s626_s (ck_S1 p2_s627_s (ck_S1 p2_s583_s (ck_S1 p2_s628_s (ck_S1 p2_s585_s (ck_S1 p2_s586_s (ck_S1 p2_s629_s (ck_S1 p2_s588_s ck_S0)))))))) (ck_E1 (ck_S1 p2_s589_s ck_S0) ck_E0)⟩ ck_X0 ck_l0 (by decide +kernel)
end
/-! 78r80a07.sf -/
section
/-! EVERY CALL ENDS, whatever was done before (laid by wip/am/p2k.py). -/
set_option maxRecDepth 100000 in
/-- GlacierMail.open -/
noncomputable def p2_s631 : ck_Sum := ((8, 2, 12), 245, [.inr (.inr (.inl 1)), .inl (ck_one 4)], ([], zl102, [(3, 6, 6, (0, 299, [(10, 0)]))]), ([(1, 15, 15), (11, 33, 34), (14, 3, 3), (15, 0, 71), (42, 1, 2), (44, 0, 7), (45, 3, 3), (46, 0, 55), (47, 3, 3), (48, 0, 23), (49, 3, 3), (50, 0, 23), (51, 3, 3), (52, 0, 167), (53, 3, 3), (54, 0, 35), (55, 3, 3), (56, 0, 71), (57, 0, 7), (58, 3, 3), (59, 0, 55), (60, 3, 3), (61, 0, 23), (62, 3, 3), (63, 0, 23), (64, 3, 3), (65, 0, 167), (66, 3, 3), (67, 0, 35), (68, 3, 3), (69, 0, 71), (70, 0, 7), (71, 3, 3), (72, 0, 55), (73, 3, 3), (74, 0, 23), (75, 3, 3), (76, 0, 23), (77, 3, 3), (78, 0, 167), (79, 3, 3), (80, 0, 35), (81, 3, 3), (82, 0, 71), (83, 0, 7), (84, 3, 3), (85, 0, 55), (86, 3, 3), (87, 0, 23), (88, 3, 3), (89, 0, 23), (90, 3, 3), (91, 0, 167), (92, 3, 3), (93, 0, 35), (94, 3, 3), (95, 0, 71), (96, 0, 7), (97, 3, 3), (98, 0, 55), (99, 3, 3), (100, 0, 23), (101, 3, 3), (102, 0, 23), (103, 3, 3), (104, 0, 167), (105, 3, 3), (106, 0, 35), (107, 3, 3), (108, 0, 71), (109, 0, 7), (110, 3, 3), (111, 0, 55), (112, 3, 3), (113, 0, 23), (114, 3, 3), (115, 0, 23), (116, 3, 3), (117, 0, 167), (118, 3, 3), (119, 0, 35), (120, 3, 3), (121, 0, 71), (122, 0, 7), (123, 3, 3), (124, 0, 55), (125, 3, 3), (126, 0, 23), (127, 3, 3), (128, 0, 23), (129, 3, 3), (130, 0, 167), (131, 3, 3), (132, 0, 35), (133, 3, 3), (134, 0, 71), (135, 0, 7), (136, 3, 3), (137, 0, 55), (138, 3, 3), (139, 0, 23), (140, 3, 3), (141, 0, 23), (142, 3, 3), (143, 0, 167), (144, 3, 3), (145, 0, 35), (146, 3, 3), (147, 0, 71), (148, 0, 7), (149, 3, 3), (150, 0, 55), (151, 3, 3), (152, 0, 23), (153, 3, 3), (154, 0, 23), (155, 3, 3), (156, 0, 167), (157, 3, 3), (158, 0, 35), (159, 3, 3), (160, 0, 71), (161, 0, 7), (162, 3, 3), (163, 0, 55), (164, 3, 3), (165, 0, 23), (166, 3, 3), (167, 0, 23), (168, 3, 3), (169, 0, 167), (170, 3, 3), (171, 0, 35), (172, 3, 3), (173, 0, 71), (174, 0, 7), (175, 3, 3), (176, 0, 55), (177, 3, 3), (178, 0, 23), (179, 3, 3), (180, 0, 23), (181, 3, 3), (182, 0, 167), (183, 3, 3), (184, 0, 35), (185, 3, 3), (186, 0, 71), (187, 0, 7), (188, 3, 3), (189, 0, 55), (190, 3, 3), (191, 0, 23), (192, 3, 3), (193, 0, 23), (194, 3, 3), (195, 0, 167), (196, 3, 3), (197, 0, 35), (198, 3, 3), (199, 0, 71), (206, 2, 8), (220, 3, 3), (221, 0, 47)], zl104), zl175)
set_option maxRecDepth 100000 in
theorem p2_s631_s {X : Int → Int} {LX : Nat} : ck_Ok p2_O X LX 158 p2_s631 := ck_ok_s (O := p2_O) (X := X) (LX := LX) (E := [(143, [p2_s623]), (24, [p2_s349]), (66, [p2_s625]), (154, [p2_s529]), (10, [p2_s335]), (159, [p2_s630])]) (mi := 158) (cuts := []) (f := 140) (S := p2_s631) (lx := none) (XF := []) ⟨p2_nmu, ck_E1 (ck_S1 p2_s623_s ck_S0) (ck_E1 (ck_S1 p2_s349_s ck_S0) (ck_E1 (ck_S1 p2_s625_s ck_S0) (ck_E1 (ck_S1 p2_s529_s ck_S0) (ck_E1 (ck_S1 p2_s335_s ck_S0) (ck_E1 (ck_S1 p2_s630_s ck_S0) ck_E0)))))⟩ ck_X0 ck_l0 (by decide +kernel)
set_option maxRecDepth 100000 in
/-- GlacierMail.need -/
noncomputable def p2_s632 : ck_Sum := ((6, 1, 6), 245, [.inr (.inr (.inl 1)), .inl (ck_one 5), .inl (0, 24, [])], ([], [], []), ([], []), [(.inr none, 245, ([], [], [])), (.inl 3, 245, ([], [], []))])
set_option maxRecDepth 100000 in
theorem p2_s632_s {X : Int → Int} {LX : Nat} : ck_Ok p2_O X LX 133 p2_s632 := ck_ok_s (O := p2_O) (X := X) (LX := LX) (E := []) (mi := 133) (cuts := []) (f := 82) (S := p2_s632) (lx := none) (XF := []) ⟨p2_nmu, ck_E0⟩ ck_X0 ck_l0 (by decide +kernel)
set_option maxRecDepth 100000 in
/-- GlacierMail.needLetter -/
noncomputable def p2_s633 : ck_Sum := ((7, 1, 6), 245, [.inr (.inr (.inl 1)), .inl (ck_one 5)], ([], [], []), ([], []), [(.inl 3, 245, ([], [], [])), (.inr none, 245, ([], [], []))])
set_option maxRecDepth 100000 in
theorem p2_s633_s {X : Int → Int} {LX : Nat} : ck_Ok p2_O X LX 143 p2_s633 := ck_ok_s (O := p2_O) (X := X) (LX := LX) (E := [(9, [p2_s331]), (133, [p2_s632])]) (mi := 143) (cuts := []) (f := 86) (S := p2_s633) (lx := none) (XF := []) ⟨p2_nmu, ck_E1 (ck_S1 p2_s331_s ck_S0) (ck_E1 (ck_S1 p2_s632_s ck_S0) ck_E0)⟩ ck_X0 ck_l0 (by decide +kernel)
set_option maxRecDepth 100000 in
/-- GlacierMail$State.isRock -/
noncomputable def p2_s634 : ck_Sum := ((1, 0, 0), 245, [.inr (.inr (.inl 3)), .inl (ck_one 5)], ([], [], []), ([], []), [(.inr (some (.inl (ck_one 0))), 245, ([], [], [])), (.inr (some (.inl (ck_one 1))), 245, ([], [], []))])
set_option maxRecDepth 100000 in
theorem p2_s634_s {X : Int → Int} {LX : Nat} : ck_Ok p2_O X LX 28 p2_s634 := ck_ok_s (O := p2_O) (X := X) (LX := LX) (E := [(10, [p2_s335])]) (mi := 28) (cuts := []) (f := 90) (S := p2_s634) (lx := none) (XF := []) ⟨p2_nmu, ck_E1 (ck_S1 p2_s335_s ck_S0) ck_E0⟩ ck_X0 ck_l0 (by decide +kernel)
set_option maxRecDepth 100000 in
/-- GlacierMail.waits -/
noncomputable def p2_s635 : ck_Sum := ((2, 0, 0), 245, [.inr (.inr (.inl 1)), .inl (ck_one 5)], ([], [], [(3, 6, 6, (0, 299, [(10, 0)]))]), ([], []), [(.inr (some (.inl (ck_one 0))), 245, ([], [], [])), (.inr (some (.inl (ck_one 1))), 245, ([], [], []))])
set_option maxRecDepth 100000 in
theorem p2_s635_s {X : Int → Int} {LX : Nat} : ck_Ok p2_O X LX 66 p2_s635 := ck_ok_s (O := p2_O) (X := X) (LX := LX) (E := [(28, [p2_s634]), (10, [p2_s335, p2_s350]), (67, [p2_s351])]) (mi := 66) (cuts := []) (f := 134) (S := p2_s635) (lx := none) (XF := []) ⟨p2_nmu, ck_E1 (ck_S1 p2_s634_s ck_S0) (ck_E1 (ck_S1 p2_s335_s (ck_S1 p2_s350_s ck_S0)) (ck_E1 (ck_S1 p2_s351_s ck_S0) ck_E0))⟩ ck_X0 ck_l0 (by decide +kernel)
set_option maxRecDepth 100000 in
/-- GlacierMail$Rows.put -/
noncomputable def p2_s636 : ck_Sum := ((0, 0, 0), 245, [.inr (.inr (.inl 10)), .inl (ck_one 5), .inl (ck_one 5), .inl ((-1), 299, [])], ([], [], []), ([(11, 40, 40)], []), [(.inr none, 245, ([], [], []))])
set_option maxRecDepth 100000 in
theorem p2_s636_s {X : Int → Int} {LX : Nat} : ck_Ok p2_O X LX 45 p2_s636 := ck_ok_s (O := p2_O) (X := X) (LX := LX) (E := []) (mi := 45) (cuts := []) (f := 116) (S := p2_s636) (lx := none) (XF := []) ⟨p2_nmu, ck_E0⟩ ck_X0 ck_l0 (by decide +kernel)
set_option maxRecDepth 100000 in
/-- GlacierMail$Rows.put -/
noncomputable def p2_s637 : ck_Sum := ((0, 0, 0), 245, [.inr (.inr (.inl 10)), .inl (ck_one 5), .inl (ck_one 6), .inl (0, 299, [])], ([], [], []), ([(11, 41, 41)], []), [(.inr none, 245, ([], [], []))])
set_option maxRecDepth 100000 in
theorem p2_s637_s {X : Int → Int} {LX : Nat} : ck_Ok p2_O X LX 45 p2_s637 := ck_ok_s (O := p2_O) (X := X) (LX := LX) (E := []) (mi := 45) (cuts := []) (f := 116) (S := p2_s637) (lx := none) (XF := []) ⟨p2_nmu, ck_E0⟩ ck_X0 ck_l0 (by decide +kernel)
set_option maxRecDepth 100000 in
/-- GlacierMail$Rows.put -/
noncomputable def p2_s638 : ck_Sum := ((0, 0, 0), 245, [.inr (.inr (.inl 14)), .inl (0, 23, []), .inl (ck_one 1), .inl (ck_one 5)], ([], [], []), (zl173, []), [(.inr none, 245, ([], [], []))])
set_option maxRecDepth 100000 in
theorem p2_s638_s {X : Int → Int} {LX : Nat} : ck_Ok p2_O X LX 45 p2_s638 := ck_ok_s (O := p2_O) (X := X) (LX := LX) (E := []) (mi := 45) (cuts := []) (f := 116) (S := p2_s638) (lx := none) (XF := []) ⟨p2_nmu, ck_E0⟩ ck_X0 ck_l0 (by decide +kernel)
set_option maxRecDepth 100000 in
/-- GlacierMail$Rows.put -/
noncomputable def p2_s639 : ck_Sum := ((0, 0, 0), 245, [.inr (.inr (.inl 14)), .inl (ck_one (-1)), .inl (ck_one 1), .inl (ck_one 5)], ([], [], []), ([], []), [(.inr none, 245, ([], [], []))])
set_option maxRecDepth 100000 in
theorem p2_s639_s {X : Int → Int} {LX : Nat} : ck_Ok p2_O X LX 45 p2_s639 := ck_ok_s (O := p2_O) (X := X) (LX := LX) (E := []) (mi := 45) (cuts := []) (f := 76) (S := p2_s639) (lx := none) (XF := []) ⟨p2_nmu, ck_E0⟩ ck_X0 ck_l0 (by decide +kernel)
set_option maxRecDepth 100000 in
/-- GlacierMail$State.openLetter -/
noncomputable def p2_s640 : ck_Sum := ((1, 0, 0), 245, [.inr (.inr (.inl 3)), .inl (ck_one 5), .inl ((-1), 299, [])], ([], [], [(3, 6, 6, (0, 299, [(10, 0)]))]), ([(11, 40, 41), (14, 3, 3), (15, 0, 71)], []), [(.inr none, 245, ([], [], [(14, 3, 3, (1, 24, []))]))])
set_option maxRecDepth 100000 in
theorem p2_s640_s {X : Int → Int} {LX : Nat} : ck_Ok p2_O X LX 159 p2_s640 := ck_ok_s (O := p2_O) (X := X) (LX := LX) (E := [(45, [p2_s636, p2_s637, p2_s583, p2_s638, p2_s585, p2_s586, p2_s639, p2_s588]), (102, [p2_s589])]) (mi := 159) (cuts := []) (f := 144) (S := p2_s640) (lx := none) (XF := []) ⟨p2_nmu, ck_E1 (ck_S1 p2_s636_s (ck_S1 p2_s637_s (ck_S1 p2_s583_s (ck_S1 p2_s638_s (ck_S1 p2_s585_s (ck_S1 p2_s586_s (ck_S1 p2_s639_s (ck_S1 p2_s588_s ck_S0)))))))) (ck_E1 (ck_S1 p2_s589_s ck_S0) ck_E0)⟩ ck_X0 ck_l0 (by decide +kernel)
set_option maxRecDepth 100000 in
/-- GlacierMail.open -/
noncomputable def p2_s641 : ck_Sum := ((8, 2, 12), 245, [.inr (.inr (.inl 1)), .inl (ck_one 5)], ([], zl102, [(3, 6, 6, (0, 299, [(10, 0)]))]), ([(1, 15, 15), (11, 40, 41), (14, 3, 3), (15, 0, 71), (42, 1, 2), (44, 0, 7), (45, 3, 3), (46, 0, 55), (47, 3, 3), (48, 0, 23), (49, 3, 3), (50, 0, 23), (51, 3, 3), (52, 0, 167), (53, 3, 3), (54, 0, 35), (55, 3, 3), (56, 0, 71), (57, 0, 7), (58, 3, 3), (59, 0, 55), (60, 3, 3), (61, 0, 23), (62, 3, 3), (63, 0, 23), (64, 3, 3), (65, 0, 167), (66, 3, 3), (67, 0, 35), (68, 3, 3), (69, 0, 71), (70, 0, 7), (71, 3, 3), (72, 0, 55), (73, 3, 3), (74, 0, 23), (75, 3, 3), (76, 0, 23), (77, 3, 3), (78, 0, 167), (79, 3, 3), (80, 0, 35), (81, 3, 3), (82, 0, 71), (83, 0, 7), (84, 3, 3), (85, 0, 55), (86, 3, 3), (87, 0, 23), (88, 3, 3), (89, 0, 23), (90, 3, 3), (91, 0, 167), (92, 3, 3), (93, 0, 35), (94, 3, 3), (95, 0, 71), (96, 0, 7), (97, 3, 3), (98, 0, 55), (99, 3, 3), (100, 0, 23), (101, 3, 3), (102, 0, 23), (103, 3, 3), (104, 0, 167), (105, 3, 3), (106, 0, 35), (107, 3, 3), (108, 0, 71), (109, 0, 7), (110, 3, 3), (111, 0, 55), (112, 3, 3), (113, 0, 23), (114, 3, 3), (115, 0, 23), (116, 3, 3), (117, 0, 167), (118, 3, 3), (119, 0, 35), (120, 3, 3), (121, 0, 71), (122, 0, 7), (123, 3, 3), (124, 0, 55), (125, 3, 3), (126, 0, 23), (127, 3, 3), (128, 0, 23), (129, 3, 3), (130, 0, 167), (131, 3, 3), (132, 0, 35), (133, 3, 3), (134, 0, 71), (135, 0, 7), (136, 3, 3), (137, 0, 55), (138, 3, 3), (139, 0, 23), (140, 3, 3), (141, 0, 23), (142, 3, 3), (143, 0, 167), (144, 3, 3), (145, 0, 35), (146, 3, 3), (147, 0, 71), (148, 0, 7), (149, 3, 3), (150, 0, 55), (151, 3, 3), (152, 0, 23), (153, 3, 3), (154, 0, 23), (155, 3, 3), (156, 0, 167), (157, 3, 3), (158, 0, 35), (159, 3, 3), (160, 0, 71), (161, 0, 7), (162, 3, 3), (163, 0, 55), (164, 3, 3), (165, 0, 23), (166, 3, 3), (167, 0, 23), (168, 3, 3), (169, 0, 167), (170, 3, 3), (171, 0, 35), (172, 3, 3), (173, 0, 71), (174, 0, 7), (175, 3, 3), (176, 0, 55), (177, 3, 3), (178, 0, 23), (179, 3, 3), (180, 0, 23), (181, 3, 3), (182, 0, 167), (183, 3, 3), (184, 0, 35), (185, 3, 3), (186, 0, 71), (187, 0, 7), (188, 3, 3), (189, 0, 55), (190, 3, 3), (191, 0, 23), (192, 3, 3), (193, 0, 23), (194, 3, 3), (195, 0, 167), (196, 3, 3), (197, 0, 35), (198, 3, 3), (199, 0, 71), (206, 2, 8), (220, 3, 3), (221, 0, 47)], zl104), zl175)
set_option maxRecDepth 100000 in
theorem p2_s641_s {X : Int → Int} {LX : Nat} : ck_Ok p2_O X LX 158 p2_s641 := ck_ok_s (O := p2_O) (X := X) (LX := LX) (E := [(143, [p2_s633]), (24, [p2_s349]), (66, [p2_s635]), (154, [p2_s529]), (10, [p2_s335]), (159, [p2_s640])]) (mi := 158) (cuts := []) (f := 140) (S := p2_s641) (lx := none) (XF := []) ⟨p2_nmu, ck_E1 (ck_S1 p2_s633_s ck_S0) (ck_E1 (ck_S1 p2_s349_s ck_S0) (ck_E1 (ck_S1 p2_s635_s ck_S0) (ck_E1 (ck_S1 p2_s529_s ck_S0) (ck_E1 (ck_S1 p2_s335_s ck_S0) (ck_E1 (ck_S1 p2_s640_s ck_S0) ck_E0)))))⟩ ck_X0 ck_l0 (by decide +kernel)
set_option maxRecDepth 100000 in
/-- GlacierMail.need -/
noncomputable def p2_s642 : ck_Sum := ((6, 1, 6), 245, [.inr (.inr (.inl 1)), .inl (ck_one 6), .inl (0, 24, [])], ([], [], []), ([], []), [(.inr none, 245, ([], [], [])), (.inl 3, 245, ([], [], []))])
set_option maxRecDepth 100000 in
theorem p2_s642_s {X : Int → Int} {LX : Nat} : ck_Ok p2_O X LX 133 p2_s642 := ck_ok_s (O := p2_O) (X := X) (LX := LX) (E := []) (mi := 133) (cuts := []) (f := 82) (S := p2_s642) (lx := none) (XF := []) ⟨p2_nmu, ck_E0⟩ ck_X0 ck_l0 (by decide +kernel)
set_option maxRecDepth 100000 in
/-- GlacierMail.needLetter -/
noncomputable def p2_s643 : ck_Sum := ((7, 1, 6), 245, [.inr (.inr (.inl 1)), .inl (ck_one 6)], ([], [], []), ([], []), [(.inl 3, 245, ([], [], [])), (.inr none, 245, ([], [], []))])
set_option maxRecDepth 100000 in
theorem p2_s643_s {X : Int → Int} {LX : Nat} : ck_Ok p2_O X LX 143 p2_s643 := ck_ok_s (O := p2_O) (X := X) (LX := LX) (E := [(9, [p2_s331]), (133, [p2_s642])]) (mi := 143) (cuts := []) (f := 86) (S := p2_s643) (lx := none) (XF := []) ⟨p2_nmu, ck_E1 (ck_S1 p2_s331_s ck_S0) (ck_E1 (ck_S1 p2_s642_s ck_S0) ck_E0)⟩ ck_X0 ck_l0 (by decide +kernel)
set_option maxRecDepth 100000 in
/-- GlacierMail$State.isRock -/
noncomputable def p2_s644 : ck_Sum := ((1, 0, 0), 245, [.inr (.inr (.inl 3)), .inl (ck_one 6)], ([], [], []), ([], []), [(.inr (some (.inl (ck_one 0))), 245, ([], [], [])), (.inr (some (.inl (ck_one 1))), 245, ([], [], []))])
set_option maxRecDepth 100000 in
theorem p2_s644_s {X : Int → Int} {LX : Nat} : ck_Ok p2_O X LX 28 p2_s644 := ck_ok_s (O := p2_O) (X := X) (LX := LX) (E := [(10, [p2_s335])]) (mi := 28) (cuts := []) (f := 90) (S := p2_s644) (lx := none) (XF := []) ⟨p2_nmu, ck_E1 (ck_S1 p2_s335_s ck_S0) ck_E0⟩ ck_X0 ck_l0 (by decide +kernel)
set_option maxRecDepth 100000 in
/-- GlacierMail.waits -/
noncomputable def p2_s645 : ck_Sum := ((2, 0, 0), 245, [.inr (.inr (.inl 1)), .inl (ck_one 6)], ([], [], [(3, 6, 6, (0, 299, [(10, 0)]))]), ([], []), [(.inr (some (.inl (ck_one 0))), 245, ([], [], [])), (.inr (some (.inl (ck_one 1))), 245, ([], [], []))])
set_option maxRecDepth 100000 in
theorem p2_s645_s {X : Int → Int} {LX : Nat} : ck_Ok p2_O X LX 66 p2_s645 := ck_ok_s (O := p2_O) (X := X) (LX := LX) (E := [(28, [p2_s644]), (10, [p2_s335, p2_s350]), (67, [p2_s351])]) (mi := 66) (cuts := []) (f := 134) (S := p2_s645) (lx := none) (XF := []) ⟨p2_nmu, ck_E1 (ck_S1 p2_s644_s ck_S0) (ck_E1 (ck_S1 p2_s335_s (ck_S1 p2_s350_s ck_S0)) (ck_E1 (ck_S1 p2_s351_s ck_S0) ck_E0))⟩ ck_X0 ck_l0 (by decide +kernel)
set_option maxRecDepth 100000 in
/-- GlacierMail$Rows.put -/
noncomputable def p2_s646 : ck_Sum := ((0, 0, 0), 245, [.inr (.inr (.inl 10)), .inl (ck_one 6), .inl (ck_one 5), .inl ((-1), 299, [])], ([], [], []), ([(11, 47, 47)], []), [(.inr none, 245, ([], [], []))])
set_option maxRecDepth 100000 in
theorem p2_s646_s {X : Int → Int} {LX : Nat} : ck_Ok p2_O X LX 45 p2_s646 := ck_ok_s (O := p2_O) (X := X) (LX := LX) (E := []) (mi := 45) (cuts := []) (f := 116) (S := p2_s646) (lx := none) (XF := []) ⟨p2_nmu, ck_E0⟩ ck_X0 ck_l0 (by decide +kernel)
set_option maxRecDepth 100000 in
/-- GlacierMail$Rows.put -/
noncomputable def p2_s647 : ck_Sum := ((0, 0, 0), 245, [.inr (.inr (.inl 10)), .inl (ck_one 6), .inl (ck_one 6), .inl (0, 299, [])], ([], [], []), ([(11, 48, 48)], []), [(.inr none, 245, ([], [], []))])
set_option maxRecDepth 100000 in
theorem p2_s647_s {X : Int → Int} {LX : Nat} : ck_Ok p2_O X LX 45 p2_s647 := ck_ok_s (O := p2_O) (X := X) (LX := LX) (E := []) (mi := 45) (cuts := []) (f := 116) (S := p2_s647) (lx := none) (XF := []) ⟨p2_nmu, ck_E0⟩ ck_X0 ck_l0 (by decide +kernel)
set_option maxRecDepth 100000 in
/-- GlacierMail$Rows.put -/
noncomputable def p2_s648 : ck_Sum := ((0, 0, 0), 245, [.inr (.inr (.inl 14)), .inl (0, 23, []), .inl (ck_one 1), .inl (ck_one 6)], ([], [], []), (zl173, []), [(.inr none, 245, ([], [], []))])
set_option maxRecDepth 100000 in
theorem p2_s648_s {X : Int → Int} {LX : Nat} : ck_Ok p2_O X LX 45 p2_s648 := ck_ok_s (O := p2_O) (X := X) (LX := LX) (E := []) (mi := 45) (cuts := []) (f := 116) (S := p2_s648) (lx := none) (XF := []) ⟨p2_nmu, ck_E0⟩ ck_X0 ck_l0 (by decide +kernel)
set_option maxRecDepth 100000 in
/-- GlacierMail$Rows.put -/
noncomputable def p2_s649 : ck_Sum := ((0, 0, 0), 245, [.inr (.inr (.inl 14)), .inl (ck_one (-1)), .inl (ck_one 1), .inl (ck_one 6)], ([], [], []), ([], []), [(.inr none, 245, ([], [], []))])
set_option maxRecDepth 100000 in
theorem p2_s649_s {X : Int → Int} {LX : Nat} : ck_Ok p2_O X LX 45 p2_s649 := ck_ok_s (O := p2_O) (X := X) (LX := LX) (E := []) (mi := 45) (cuts := []) (f := 76) (S := p2_s649) (lx := none) (XF := []) ⟨p2_nmu, ck_E0⟩ ck_X0 ck_l0 (by decide +kernel)
set_option maxRecDepth 100000 in
/-- GlacierMail$State.openLetter -/
noncomputable def p2_s650 : ck_Sum := ((1, 0, 0), 245, [.inr (.inr (.inl 3)), .inl (ck_one 6), .inl ((-1), 299, [])], ([], [], [(3, 6, 6, (0, 299, [(10, 0)]))]), ([(11, 47, 48), (14, 3, 3), (15, 0, 71)], []), [(.inr none, 245, ([], [], [(14, 3, 3, (1, 24, []))]))])
set_option maxRecDepth 100000 in
theorem p2_s650_s {X : Int → Int} {LX : Nat} : ck_Ok p2_O X LX 159 p2_s650 := ck_ok_s (O := p2_O) (X := X) (LX := LX) (E := [(45, [p2_s646, p2_s647, p2_s583, p2_s648, p2_s585, p2_s586, p2_s649, p2_s588]), (102, [p2_s589])]) (mi := 159) (cuts := []) (f := 144) (S := p2_s650) (lx := none) (XF := []) ⟨p2_nmu, ck_E1 (ck_S1 p2_s646_s (ck_S1 p2_s647_s (ck_S1 p2_s583_s (ck_S1 p2_s648_s (ck_S1 p2_s585_s (ck_S1 p2_s586_s (ck_S1 p2_s649_s (ck_S1 p2_s588_s ck_S0)))))))) (ck_E1 (ck_S1 p2_s589_s ck_S0) ck_E0)⟩ ck_X0 ck_l0 (by decide +kernel)
set_option maxRecDepth 100000 in
/-- GlacierMail.open -/
noncomputable def p2_s651 : ck_Sum := ((8, 2, 12), 245, [.inr (.inr (.inl 1)), .inl (ck_one 6)], ([], zl102, [(3, 6, 6, (0, 299, [(10, 0)]))]), ([(1, 15, 15), (11, 47, 48), (14, 3, 3), (15, 0, 71), (42, 1, 2), (44, 0, 7), (45, 3, 3), (46, 0, 55), (47, 3, 3), (48, 0, 23), (49, 3, 3), (50, 0, 23), (51, 3, 3), (52, 0, 167), (53, 3, 3), (54, 0, 35), (55, 3, 3), (56, 0, 71), (57, 0, 7), (58, 3, 3), (59, 0, 55), (60, 3, 3), (61, 0, 23), (62, 3, 3), (63, 0, 23), (64, 3, 3), (65, 0, 167), (66, 3, 3), (67, 0, 35), (68, 3, 3), (69, 0, 71), (70, 0, 7), (71, 3, 3), (72, 0, 55), (73, 3, 3), (74, 0, 23), (75, 3, 3), (76, 0, 23), (77, 3, 3), (78, 0, 167), (79, 3, 3), (80, 0, 35), (81, 3, 3), (82, 0, 71), (83, 0, 7), (84, 3, 3), (85, 0, 55), (86, 3, 3), (87, 0, 23), (88, 3, 3), (89, 0, 23), (90, 3, 3), (91, 0, 167), (92, 3, 3), (93, 0, 35), (94, 3, 3), (95, 0, 71), (96, 0, 7), (97, 3, 3), (98, 0, 55), (99, 3, 3), (100, 0, 23), (101, 3, 3), (102, 0, 23), (103, 3, 3), (104, 0, 167), (105, 3, 3), (106, 0, 35), (107, 3, 3), (108, 0, 71), (109, 0, 7), (110, 3, 3), (111, 0, 55), (112, 3, 3), (113, 0, 23), (114, 3, 3), (115, 0, 23), (116, 3, 3), (117, 0, 167), (118, 3, 3), (119, 0, 35), (120, 3, 3), (121, 0, 71), (122, 0, 7), (123, 3, 3), (124, 0, 55), (125, 3, 3), (126, 0, 23), (127, 3, 3), (128, 0, 23), (129, 3, 3), (130, 0, 167), (131, 3, 3), (132, 0, 35), (133, 3, 3), (134, 0, 71), (135, 0, 7), (136, 3, 3), (137, 0, 55), (138, 3, 3), (139, 0, 23), (140, 3, 3), (141, 0, 23), (142, 3, 3), (143, 0, 167), (144, 3, 3), (145, 0, 35), (146, 3, 3), (147, 0, 71), (148, 0, 7), (149, 3, 3), (150, 0, 55), (151, 3, 3), (152, 0, 23), (153, 3, 3), (154, 0, 23), (155, 3, 3), (156, 0, 167), (157, 3, 3), (158, 0, 35), (159, 3, 3), (160, 0, 71), (161, 0, 7), (162, 3, 3), (163, 0, 55), (164, 3, 3), (165, 0, 23), (166, 3, 3), (167, 0, 23), (168, 3, 3), (169, 0, 167), (170, 3, 3), (171, 0, 35), (172, 3, 3), (173, 0, 71), (174, 0, 7), (175, 3, 3), (176, 0, 55), (177, 3, 3), (178, 0, 23), (179, 3, 3), (180, 0, 23), (181, 3, 3), (182, 0, 167), (183, 3, 3), (184, 0, 35), (185, 3, 3), (186, 0, 71), (187, 0, 7), (188, 3, 3), (189, 0, 55), (190, 3, 3), (191, 0, 23), (192, 3, 3), (193, 0, 23), (194, 3, 3), (195, 0, 167), (196, 3, 3), (197, 0, 35), (198, 3, 3), (199, 0, 71), (206, 2, 8), (220, 3, 3), (221, 0, 47)], zl104), zl175)
set_option maxRecDepth 100000 in
theorem p2_s651_s {X : Int → Int} {LX : Nat} : ck_Ok p2_O X LX 158 p2_s651 := ck_ok_s (O := p2_O) (X := X) (LX := LX) (E := [(143, [p2_s643]), (24, [p2_s349]), (66, [p2_s645]), (154, [p2_s529]), (10, [p2_s335]), (159, [p2_s650])]) (mi := 158) (cuts := []) (f := 140) (S := p2_s651) (lx := none) (XF := []) ⟨p2_nmu, ck_E1 (ck_S1 p2_s643_s ck_S0) (ck_E1 (ck_S1 p2_s349_s ck_S0) (ck_E1 (ck_S1 p2_s645_s ck_S0) (ck_E1 (ck_S1 p2_s529_s ck_S0) (ck_E1 (ck_S1 p2_s335_s ck_S0) (ck_E1 (ck_S1 p2_s650_s ck_S0) ck_E0)))))⟩ ck_X0 ck_l0 (by decide +kernel)
set_option maxRecDepth 100000 in
/-- GlacierMail.need -/
noncomputable def p2_s652 : ck_Sum := ((6, 1, 6), 245, [.inr (.inr (.inl 1)), .inl (ck_one 7), .inl (0, 24, [])], ([], [], []), ([], []), [(.inr none, 245, ([], [], [])), (.inl 3, 245, ([], [], []))])
set_option maxRecDepth 100000 in
theorem p2_s652_s {X : Int → Int} {LX : Nat} : ck_Ok p2_O X LX 133 p2_s652 := ck_ok_s (O := p2_O) (X := X) (LX := LX) (E := []) (mi := 133) (cuts := []) (f := 82) (S := p2_s652) (lx := none) (XF := []) ⟨p2_nmu, ck_E0⟩ ck_X0 ck_l0 (by decide +kernel)
set_option maxRecDepth 100000 in
/-- GlacierMail.needLetter -/
noncomputable def p2_s653 : ck_Sum := ((7, 1, 6), 245, [.inr (.inr (.inl 1)), .inl (ck_one 7)], ([], [], []), ([], []), [(.inl 3, 245, ([], [], [])), (.inr none, 245, ([], [], []))])
set_option maxRecDepth 100000 in
theorem p2_s653_s {X : Int → Int} {LX : Nat} : ck_Ok p2_O X LX 143 p2_s653 := ck_ok_s (O := p2_O) (X := X) (LX := LX) (E := [(9, [p2_s331]), (133, [p2_s652])]) (mi := 143) (cuts := []) (f := 86) (S := p2_s653) (lx := none) (XF := []) ⟨p2_nmu, ck_E1 (ck_S1 p2_s331_s ck_S0) (ck_E1 (ck_S1 p2_s652_s ck_S0) ck_E0)⟩ ck_X0 ck_l0 (by decide +kernel)
set_option maxRecDepth 100000 in
/-- GlacierMail$State.isRock -/
noncomputable def p2_s654 : ck_Sum := ((1, 0, 0), 245, [.inr (.inr (.inl 3)), .inl (ck_one 7)], ([], [], []), ([], []), [(.inr (some (.inl (ck_one 0))), 245, ([], [], [])), (.inr (some (.inl (ck_one 1))), 245, ([], [], []))])
set_option maxRecDepth 100000 in
theorem p2_s654_s {X : Int → Int} {LX : Nat} : ck_Ok p2_O X LX 28 p2_s654 := ck_ok_s (O := p2_O) (X := X) (LX := LX) (E := [(10, [p2_s335])]) (mi := 28) (cuts := []) (f := 90) (S := p2_s654) (lx := none) (XF := []) ⟨p2_nmu, ck_E1 (ck_S1 p2_s335_s ck_S0) ck_E0⟩ ck_X0 ck_l0 (by decide +kernel)
set_option maxRecDepth 100000 in
/-- GlacierMail.waits -/
noncomputable def p2_s655 : ck_Sum := ((2, 0, 0), 245, [.inr (.inr (.inl 1)), .inl (ck_one 7)], ([], [], [(3, 6, 6, (0, 299, [(10, 0)]))]), ([], []), [(.inr (some (.inl (ck_one 0))), 245, ([], [], [])), (.inr (some (.inl (ck_one 1))), 245, ([], [], []))])
set_option maxRecDepth 100000 in
theorem p2_s655_s {X : Int → Int} {LX : Nat} : ck_Ok p2_O X LX 66 p2_s655 := ck_ok_s (O := p2_O) (X := X) (LX := LX) (E := [(28, [p2_s654]), (10, [p2_s335, p2_s350]), (67, [p2_s351])]) (mi := 66) (cuts := []) (f := 134) (S := p2_s655) (lx := none) (XF := []) ⟨p2_nmu, ck_E1 (ck_S1 p2_s654_s ck_S0) (ck_E1 (ck_S1 p2_s335_s (ck_S1 p2_s350_s ck_S0)) (ck_E1 (ck_S1 p2_s351_s ck_S0) ck_E0))⟩ ck_X0 ck_l0 (by decide +kernel)
set_option maxRecDepth 100000 in
/-- GlacierMail$Rows.put -/
noncomputable def p2_s656 : ck_Sum := ((0, 0, 0), 245, [.inr (.inr (.inl 10)), .inl (ck_one 7), .inl (ck_one 5), .inl ((-1), 299, [])], ([], [], []), ([(11, 54, 54)], []), [(.inr none, 245, ([], [], []))])
set_option maxRecDepth 100000 in
theorem p2_s656_s {X : Int → Int} {LX : Nat} : ck_Ok p2_O X LX 45 p2_s656 := ck_ok_s (O := p2_O) (X := X) (LX := LX) (E := []) (mi := 45) (cuts := []) (f := 116) (S := p2_s656) (lx := none) (XF := []) ⟨p2_nmu, ck_E0⟩ ck_X0 ck_l0 (by decide +kernel)
set_option maxRecDepth 100000 in
/-- GlacierMail$Rows.put -/
noncomputable def p2_s657 : ck_Sum := ((0, 0, 0), 245, [.inr (.inr (.inl 10)), .inl (ck_one 7), .inl (ck_one 6), .inl (0, 299, [])], ([], [], []), ([(11, 55, 55)], []), [(.inr none, 245, ([], [], []))])
set_option maxRecDepth 100000 in
theorem p2_s657_s {X : Int → Int} {LX : Nat} : ck_Ok p2_O X LX 45 p2_s657 := ck_ok_s (O := p2_O) (X := X) (LX := LX) (E := []) (mi := 45) (cuts := []) (f := 116) (S := p2_s657) (lx := none) (XF := []) ⟨p2_nmu, ck_E0⟩ ck_X0 ck_l0 (by decide +kernel)
set_option maxRecDepth 100000 in
/-- GlacierMail$Rows.put -/
noncomputable def p2_s658 : ck_Sum := ((0, 0, 0), 245, [.inr (.inr (.inl 14)), .inl (0, 23, []), .inl (ck_one 1), .inl (ck_one 7)], ([], [], []), (zl173, []), [(.inr none, 245, ([], [], []))])
set_option maxRecDepth 100000 in
theorem p2_s658_s {X : Int → Int} {LX : Nat} : ck_Ok p2_O X LX 45 p2_s658 := ck_ok_s (O := p2_O) (X := X) (LX := LX) (E := []) (mi := 45) (cuts := []) (f := 116) (S := p2_s658) (lx := none) (XF := []) ⟨p2_nmu, ck_E0⟩ ck_X0 ck_l0 (by decide +kernel)
set_option maxRecDepth 100000 in
/-- GlacierMail$Rows.put -/
noncomputable def p2_s659 : ck_Sum := ((0, 0, 0), 245, [.inr (.inr (.inl 14)), .inl (ck_one (-1)), .inl (ck_one 1), .inl (ck_one 7)], ([], [], []), ([], []), [(.inr none, 245, ([], [], []))])
set_option maxRecDepth 100000 in
theorem p2_s659_s {X : Int → Int} {LX : Nat} : ck_Ok p2_O X LX 45 p2_s659 := ck_ok_s (O := p2_O) (X := X) (LX := LX) (E := []) (mi := 45) (cuts := []) (f := 76) (S := p2_s659) (lx := none) (XF := []) ⟨p2_nmu, ck_E0⟩ ck_X0 ck_l0 (by decide +kernel)
set_option maxRecDepth 100000 in
/-- GlacierMail$State.openLetter -/
noncomputable def p2_s660 : ck_Sum := ((1, 0, 0), 245, [.inr (.inr (.inl 3)), .inl (ck_one 7), .inl ((-1), 299, [])], ([], [], [(3, 6, 6, (0, 299, [(10, 0)]))]), ([(11, 54, 55), (14, 3, 3), (15, 0, 71)], []), [(.inr none, 245, ([], [], [(14, 3, 3, (1, 24, []))]))])
set_option maxRecDepth 100000 in
theorem p2_s660_s {X : Int → Int} {LX : Nat} : ck_Ok p2_O X LX 159 p2_s660 := ck_ok_s (O := p2_O) (X := X) (LX := LX) (E := [(45, [p2_s656, p2_s657, p2_s583, p2_s658, p2_s585, p2_s586, p2_s659, p2_s588]), (102, [p2_s589])]) (mi := 159) (cuts := []) (f := 144) (S := p2_s660) (lx := none) (XF := []) ⟨p2_nmu, ck_E1 (ck_S1 p2_s656_s (ck_S1 p2_s657_s (ck_S1 p2_s583_s (ck_S1 p2_s658_s (ck_S1 p2_s585_s (ck_S1 p2_s586_s (ck_S1 p2_s659_s (ck_S1 p2_s588_s ck_S0)))))))) (ck_E1 (ck_S1 p2_s589_s ck_S0) ck_E0)⟩ ck_X0 ck_l0 (by decide +kernel)
set_option maxRecDepth 100000 in
/-- GlacierMail.open -/
noncomputable def p2_s661 : ck_Sum := ((8, 2, 12), 245, [.inr (.inr (.inl 1)), .inl (ck_one 7)], ([], zl102, [(3, 6, 6, (0, 299, [(10, 0)]))]), ([(1, 15, 15), (11, 54, 55), (14, 3, 3), (15, 0, 71), (42, 1, 2), (44, 0, 7), (45, 3, 3), (46, 0, 55), (47, 3, 3), (48, 0, 23), (49, 3, 3), (50, 0, 23), (51, 3, 3), (52, 0, 167), (53, 3, 3), (54, 0, 35), (55, 3, 3), (56, 0, 71), (57, 0, 7), (58, 3, 3), (59, 0, 55), (60, 3, 3), (61, 0, 23), (62, 3, 3), (63, 0, 23), (64, 3, 3), (65, 0, 167), (66, 3, 3), (67, 0, 35), (68, 3, 3), (69, 0, 71), (70, 0, 7), (71, 3, 3), (72, 0, 55), (73, 3, 3), (74, 0, 23), (75, 3, 3), (76, 0, 23), (77, 3, 3), (78, 0, 167), (79, 3, 3), (80, 0, 35), (81, 3, 3), (82, 0, 71), (83, 0, 7), (84, 3, 3), (85, 0, 55), (86, 3, 3), (87, 0, 23), (88, 3, 3), (89, 0, 23), (90, 3, 3), (91, 0, 167), (92, 3, 3), (93, 0, 35), (94, 3, 3), (95, 0, 71), (96, 0, 7), (97, 3, 3), (98, 0, 55), (99, 3, 3), (100, 0, 23), (101, 3, 3), (102, 0, 23), (103, 3, 3), (104, 0, 167), (105, 3, 3), (106, 0, 35), (107, 3, 3), (108, 0, 71), (109, 0, 7), (110, 3, 3), (111, 0, 55), (112, 3, 3), (113, 0, 23), (114, 3, 3), (115, 0, 23), (116, 3, 3), (117, 0, 167), (118, 3, 3), (119, 0, 35), (120, 3, 3), (121, 0, 71), (122, 0, 7), (123, 3, 3), (124, 0, 55), (125, 3, 3), (126, 0, 23), (127, 3, 3), (128, 0, 23), (129, 3, 3), (130, 0, 167), (131, 3, 3), (132, 0, 35), (133, 3, 3), (134, 0, 71), (135, 0, 7), (136, 3, 3), (137, 0, 55), (138, 3, 3), (139, 0, 23), (140, 3, 3), (141, 0, 23), (142, 3, 3), (143, 0, 167), (144, 3, 3), (145, 0, 35), (146, 3, 3), (147, 0, 71), (148, 0, 7), (149, 3, 3), (150, 0, 55), (151, 3, 3), (152, 0, 23), (153, 3, 3), (154, 0, 23), (155, 3, 3), (156, 0, 167), (157, 3, 3), (158, 0, 35), (159, 3, 3), (160, 0, 71), (161, 0, 7), (162, 3, 3), (163, 0, 55), (164, 3, 3), (165, 0, 23), (166, 3, 3), (167, 0, 23), (168, 3, 3), (169, 0, 167), (170, 3, 3), (171, 0, 35), (172, 3, 3), (173, 0, 71), (174, 0, 7), (175, 3, 3), (176, 0, 55), (177, 3, 3), (178, 0, 23), (179, 3, 3), (180, 0, 23), (181, 3, 3), (182, 0, 167), (183, 3, 3), (184, 0, 35), (185, 3, 3), (186, 0, 71), (187, 0, 7), (188, 3, 3), (189, 0, 55), (190, 3, 3), (191, 0, 23), (192, 3, 3), (193, 0, 23), (194, 3, 3), (195, 0, 167), (196, 3, 3), (197, 0, 35), (198, 3, 3), (199, 0, 71), (206, 2, 8), (220, 3, 3), (221, 0, 47)], zl104), zl175)
set_option maxRecDepth 100000 in
theorem p2_s661_s {X : Int → Int} {LX : Nat} : ck_Ok p2_O X LX 158 p2_s661 := ck_ok_s (O := p2_O) (X := X) (LX := LX) (E := [(143, [p2_s653]), (24, [p2_s349]), (66, [p2_s655]), (154, [p2_s529]), (10, [p2_s335]), (159, [p2_s660])]) (mi := 158) (cuts := []) (f := 140) (S := p2_s661) (lx := none) (XF := []) ⟨p2_nmu, ck_E1 (ck_S1 p2_s653_s ck_S0) (ck_E1 (ck_S1 p2_s349_s ck_S0) (ck_E1 (ck_S1 p2_s655_s ck_S0) (ck_E1 (ck_S1 p2_s529_s ck_S0) (ck_E1 (ck_S1 p2_s335_s ck_S0) (ck_E1 (ck_S1 p2_s660_s ck_S0) ck_E0)))))⟩ ck_X0 ck_l0 (by decide +kernel)
set_option maxRecDepth 100000 in
/-- GlacierMail.need -/
noncomputable def p2_s662 : ck_Sum := ((6, 1, 6), 245, [.inr (.inr (.inl 1)), .inl (ck_one 8), .inl (0, 24, [])], ([], [], []), ([], []), [(.inr none, 245, ([], [], [])), (.inl 3, 245, ([], [], []))])
set_option maxRecDepth 100000 in
theorem p2_s662_s {X : Int → Int} {LX : Nat} : ck_Ok p2_O X LX 133 p2_s662 := ck_ok_s (O := p2_O) (X := X) (LX := LX) (E := []) (mi := 133) (cuts := []) (f := 82) (S := p2_s662) (lx := none) (XF := []) ⟨p2_nmu, ck_E0⟩ ck_X0 ck_l0 (by decide +kernel)
set_option maxRecDepth 100000 in
/-- GlacierMail.needLetter -/
noncomputable def p2_s663 : ck_Sum := ((7, 1, 6), 245, [.inr (.inr (.inl 1)), .inl (ck_one 8)], ([], [], []), ([], []), [(.inl 3, 245, ([], [], [])), (.inr none, 245, ([], [], []))])
set_option maxRecDepth 100000 in
theorem p2_s663_s {X : Int → Int} {LX : Nat} : ck_Ok p2_O X LX 143 p2_s663 := ck_ok_s (O := p2_O) (X := X) (LX := LX) (E := [(9, [p2_s331]), (133, [p2_s662])]) (mi := 143) (cuts := []) (f := 86) (S := p2_s663) (lx := none) (XF := []) ⟨p2_nmu, ck_E1 (ck_S1 p2_s331_s ck_S0) (ck_E1 (ck_S1 p2_s662_s ck_S0) ck_E0)⟩ ck_X0 ck_l0 (by decide +kernel)
set_option maxRecDepth 100000 in
/-- GlacierMail$State.isRock -/
noncomputable def p2_s664 : ck_Sum := ((1, 0, 0), 245, [.inr (.inr (.inl 3)), .inl (ck_one 8)], ([], [], []), ([], []), [(.inr (some (.inl (ck_one 0))), 245, ([], [], [])), (.inr (some (.inl (ck_one 1))), 245, ([], [], []))])
set_option maxRecDepth 100000 in
theorem p2_s664_s {X : Int → Int} {LX : Nat} : ck_Ok p2_O X LX 28 p2_s664 := ck_ok_s (O := p2_O) (X := X) (LX := LX) (E := [(10, [p2_s335])]) (mi := 28) (cuts := []) (f := 90) (S := p2_s664) (lx := none) (XF := []) ⟨p2_nmu, ck_E1 (ck_S1 p2_s335_s ck_S0) ck_E0⟩ ck_X0 ck_l0 (by decide +kernel)
set_option maxRecDepth 100000 in
/-- GlacierMail.waits -/
noncomputable def p2_s665 : ck_Sum := ((2, 0, 0), 245, [.inr (.inr (.inl 1)), .inl (ck_one 8)], ([], [], [(3, 6, 6, (0, 299, [(10, 0)]))]), ([], []), [(.inr (some (.inl (ck_one 0))), 245, ([], [], [])), (.inr (some (.inl (ck_one 1))), 245, ([], [], []))])
set_option maxRecDepth 100000 in
theorem p2_s665_s {X : Int → Int} {LX : Nat} : ck_Ok p2_O X LX 66 p2_s665 := ck_ok_s (O := p2_O) (X := X) (LX := LX) (E := [(28, [p2_s664]), (10, [p2_s335, p2_s350]), (67, [p2_s351])]) (mi := 66) (cuts := []) (f := 134) (S := p2_s665) (lx := none) (XF := []) ⟨p2_nmu, ck_E1 (ck_S1 p2_s664_s ck_S0) (ck_E1 (ck_S1 p2_s335_s (ck_S1 p2_s350_s ck_S0)) (ck_E1 (ck_S1 p2_s351_s ck_S0) ck_E0))⟩ ck_X0 ck_l0 (by decide +kernel)
set_option maxRecDepth 100000 in
/-- GlacierMail$Rows.put -/
noncomputable def p2_s666 : ck_Sum := ((0, 0, 0), 245, [.inr (.inr (.inl 10)), .inl (ck_one 8), .inl (ck_one 5), .inl ((-1), 299, [])], ([], [], []), ([(11, 61, 61)], []), [(.inr none, 245, ([], [], []))])
set_option maxRecDepth 100000 in
theorem p2_s666_s {X : Int → Int} {LX : Nat} : ck_Ok p2_O X LX 45 p2_s666 := ck_ok_s (O := p2_O) (X := X) (LX := LX) (E := []) (mi := 45) (cuts := []) (f := 116) (S := p2_s666) (lx := none) (XF := []) ⟨p2_nmu, ck_E0⟩ ck_X0 ck_l0 (by decide +kernel)
set_option maxRecDepth 100000 in
/-- GlacierMail$Rows.put -/
noncomputable def p2_s667 : ck_Sum := ((0, 0, 0), 245, [.inr (.inr (.inl 10)), .inl (ck_one 8), .inl (ck_one 6), .inl (0, 299, [])], ([], [], []), ([(11, 62, 62)], []), [(.inr none, 245, ([], [], []))])
set_option maxRecDepth 100000 in
theorem p2_s667_s {X : Int → Int} {LX : Nat} : ck_Ok p2_O X LX 45 p2_s667 := ck_ok_s (O := p2_O) (X := X) (LX := LX) (E := []) (mi := 45) (cuts := []) (f := 116) (S := p2_s667) (lx := none) (XF := []) ⟨p2_nmu, ck_E0⟩ ck_X0 ck_l0 (by decide +kernel)
set_option maxRecDepth 100000 in
/-- GlacierMail$Rows.put -/
noncomputable def p2_s668 : ck_Sum := ((0, 0, 0), 245, [.inr (.inr (.inl 14)), .inl (0, 23, []), .inl (ck_one 1), .inl (ck_one 8)], ([], [], []), (zl173, []), [(.inr none, 245, ([], [], []))])
set_option maxRecDepth 100000 in
theorem p2_s668_s {X : Int → Int} {LX : Nat} : ck_Ok p2_O X LX 45 p2_s668 := ck_ok_s (O := p2_O) (X := X) (LX := LX) (E := []) (mi := 45) (cuts := []) (f := 116) (S := p2_s668) (lx := none) (XF := []) ⟨p2_nmu, ck_E0⟩ ck_X0 ck_l0 (by decide +kernel)
set_option maxRecDepth 100000 in
/-- GlacierMail$Rows.put -/
noncomputable def p2_s669 : ck_Sum := ((0, 0, 0), 245, [.inr (.inr (.inl 14)), .inl (ck_one (-1)), .inl (ck_one 1), .inl (ck_one 8)], ([], [], []), ([], []), [(.inr none, 245, ([], [], []))])
set_option maxRecDepth 100000 in
theorem p2_s669_s {X : Int → Int} {LX : Nat} : ck_Ok p2_O X LX 45 p2_s669 := ck_ok_s (O := p2_O) (X := X) (LX := LX) (E := []) (mi := 45) (cuts := []) (f := 76) (S := p2_s669) (lx := none) (XF := []) ⟨p2_nmu, ck_E0⟩ ck_X0 ck_l0 (by decide +kernel)
set_option maxRecDepth 100000 in
/-- GlacierMail$State.openLetter -/
noncomputable def p2_s670 : ck_Sum := ((1, 0, 0), 245, [.inr (.inr (.inl 3)), .inl (ck_one 8), .inl ((-1), 299, [])], ([], [], [(3, 6, 6, (0, 299, [(10, 0)]))]), ([(11, 61, 62), (14, 3, 3), (15, 0, 71)], []), [(.inr none, 245, ([], [], [(14, 3, 3, (1, 24, []))]))])
set_option maxRecDepth 100000 in
theorem p2_s670_s {X : Int → Int} {LX : Nat} : ck_Ok p2_O X LX 159 p2_s670 := ck_ok_s (O := p2_O) (X := X) (LX := LX) (E := [(45, [p2_s666, p2_s667, p2_s583, p2_s668, p2_s585, p2_s586, p2_s669, p2_s588]), (102, [p2_s589])]) (mi := 159) (cuts := []) (f := 144) (S := p2_s670) (lx := none) (XF := []) ⟨p2_nmu, ck_E1 (ck_S1 p2_s666_s (ck_S1 p2_s667_s (ck_S1 p2_s583_s (ck_S1 p2_s668_s (ck_S1 p2_s585_s (ck_S1 p2_s586_s (ck_S1 p2_s669_s (ck_S1 p2_s588_s ck_S0)))))))) (ck_E1 (ck_S1 p2_s589_s ck_S0) ck_E0)⟩ ck_X0 ck_l0 (by decide +kernel)
set_option maxRecDepth 100000 in
/-- GlacierMail.open -/
noncomputable def p2_s671 : ck_Sum := ((8, 2, 12), 245, [.inr (.inr (.inl 1)), .inl (ck_one 8)], ([], zl102, [(3, 6, 6, (0, 299, [(10, 0)]))]), ([(1, 15, 15), (11, 61, 62), (14, 3, 3), (15, 0, 71), (42, 1, 2), (44, 0, 7), (45, 3, 3), (46, 0, 55), (47, 3, 3), (48, 0, 23), (49, 3, 3), (50, 0, 23), (51, 3, 3), (52, 0, 167), (53, 3, 3), (54, 0, 35), (55, 3, 3), (56, 0, 71), (57, 0, 7), (58, 3, 3), (59, 0, 55), (60, 3, 3), (61, 0, 23), (62, 3, 3), (63, 0, 23), (64, 3, 3), (65, 0, 167), (66, 3, 3), (67, 0, 35), (68, 3, 3), (69, 0, 71), (70, 0, 7), (71, 3, 3), (72, 0, 55), (73, 3, 3), (74, 0, 23), (75, 3, 3), (76, 0, 23), (77, 3, 3), (78, 0, 167), (79, 3, 3), (80, 0, 35), (81, 3, 3), (82, 0, 71), (83, 0, 7), (84, 3, 3), (85, 0, 55), (86, 3, 3), (87, 0, 23), (88, 3, 3), (89, 0, 23), (90, 3, 3), (91, 0, 167), (92, 3, 3), (93, 0, 35), (94, 3, 3), (95, 0, 71), (96, 0, 7), (97, 3, 3), (98, 0, 55), (99, 3, 3), (100, 0, 23), (101, 3, 3), (102, 0, 23), (103, 3, 3), (104, 0, 167), (105, 3, 3), (106, 0, 35), (107, 3, 3), (108, 0, 71), (109, 0, 7), (110, 3, 3), (111, 0, 55), (112, 3, 3), (113, 0, 23), (114, 3, 3), (115, 0, 23), (116, 3, 3), (117, 0, 167), (118, 3, 3), (119, 0, 35), (120, 3, 3), (121, 0, 71), (122, 0, 7), (123, 3, 3), (124, 0, 55), (125, 3, 3), (126, 0, 23), (127, 3, 3), (128, 0, 23), (129, 3, 3), (130, 0, 167), (131, 3, 3), (132, 0, 35), (133, 3, 3), (134, 0, 71), (135, 0, 7), (136, 3, 3), (137, 0, 55), (138, 3, 3), (139, 0, 23), (140, 3, 3), (141, 0, 23), (142, 3, 3), (143, 0, 167), (144, 3, 3), (145, 0, 35), (146, 3, 3), (147, 0, 71), (148, 0, 7), (149, 3, 3), (150, 0, 55), (151, 3, 3), (152, 0, 23), (153, 3, 3), (154, 0, 23), (155, 3, 3), (156, 0, 167), (157, 3, 3), (158, 0, 35), (159, 3, 3), (160, 0, 71), (161, 0, 7), (162, 3, 3), (163, 0, 55), (164, 3, 3), (165, 0, 23), (166, 3, 3), (167, 0, 23), (168, 3, 3), (169, 0, 167), (170, 3, 3), (171, 0, 35), (172, 3, 3), (173, 0, 71), (174, 0, 7), (175, 3, 3), (176, 0, 55), (177, 3, 3), (178, 0, 23), (179, 3, 3), (180, 0, 23), (181, 3, 3), (182, 0, 167), (183, 3, 3), (184, 0, 35), (185, 3, 3), (186, 0, 71), (187, 0, 7), (188, 3, 3), (189, 0, 55), (190, 3, 3), (191, 0, 23), (192, 3, 3), (193, 0, 23), (194, 3, 3), (195, 0, 167), (196, 3, 3), (197, 0, 35), (198, 3, 3), (199, 0, 71), (206, 2, 8), (220, 3, 3), (221, 0, 47)], zl104), zl175)
set_option maxRecDepth 100000 in
theorem p2_s671_s {X : Int → Int} {LX : Nat} : ck_Ok p2_O X LX 158 p2_s671 := ck_ok_s (O := p2_O) (X := X) (LX := LX) (E := [(143, [p2_s663]), (24, [p2_s349]), (66, [p2_s665]), (154, [p2_s529]), (10, [p2_s335]), (159, [p2_s670])]) (mi := 158) (cuts := []) (f := 140) (S := p2_s671) (lx := none) (XF := []) ⟨p2_nmu, ck_E1 (ck_S1 p2_s663_s ck_S0) (ck_E1 (ck_S1 p2_s349_s ck_S0) (ck_E1 (ck_S1 p2_s665_s ck_S0) (ck_E1 (ck_S1 p2_s529_s ck_S0) (ck_E1 (ck_S1 p2_s335_s ck_S0) (ck_E1 (ck_S1 p2_s670_s ck_S0) ck_E0)))))⟩ ck_X0 ck_l0 (by decide +kernel)
set_option maxRecDepth 100000 in
/-- GlacierMail.need -/
noncomputable def p2_s672 : ck_Sum := ((6, 1, 6), 245, [.inr (.inr (.inl 1)), .inl (ck_one 9), .inl (0, 24, [])], ([], [], []), ([], []), [(.inr none, 245, ([], [], [])), (.inl 3, 245, ([], [], []))])
set_option maxRecDepth 100000 in
theorem p2_s672_s {X : Int → Int} {LX : Nat} : ck_Ok p2_O X LX 133 p2_s672 := ck_ok_s (O := p2_O) (X := X) (LX := LX) (E := []) (mi := 133) (cuts := []) (f := 82) (S := p2_s672) (lx := none) (XF := []) ⟨p2_nmu, ck_E0⟩ ck_X0 ck_l0 (by decide +kernel)
set_option maxRecDepth 100000 in
/-- GlacierMail.needLetter -/
noncomputable def p2_s673 : ck_Sum := ((7, 1, 6), 245, [.inr (.inr (.inl 1)), .inl (ck_one 9)], ([], [], []), ([], []), [(.inl 3, 245, ([], [], [])), (.inr none, 245, ([], [], []))])
set_option maxRecDepth 100000 in
theorem p2_s673_s {X : Int → Int} {LX : Nat} : ck_Ok p2_O X LX 143 p2_s673 := ck_ok_s (O := p2_O) (X := X) (LX := LX) (E := [(9, [p2_s331]), (133, [p2_s672])]) (mi := 143) (cuts := []) (f := 86) (S := p2_s673) (lx := none) (XF := []) ⟨p2_nmu, ck_E1 (ck_S1 p2_s331_s ck_S0) (ck_E1 (ck_S1 p2_s672_s ck_S0) ck_E0)⟩ ck_X0 ck_l0 (by decide +kernel)
set_option maxRecDepth 100000 in
/-- GlacierMail$State.isRock -/
noncomputable def p2_s674 : ck_Sum := ((1, 0, 0), 245, [.inr (.inr (.inl 3)), .inl (ck_one 9)], ([], [], []), ([], []), [(.inr (some (.inl (ck_one 0))), 245, ([], [], [])), (.inr (some (.inl (ck_one 1))), 245, ([], [], []))])
set_option maxRecDepth 100000 in
theorem p2_s674_s {X : Int → Int} {LX : Nat} : ck_Ok p2_O X LX 28 p2_s674 := ck_ok_s (O := p2_O) (X := X) (LX := LX) (E := [(10, [p2_s335])]) (mi := 28) (cuts := []) (f := 90) (S := p2_s674) (lx := none) (XF := []) ⟨p2_nmu, ck_E1 (ck_S1 p2_s335_s ck_S0) ck_E0⟩ ck_X0 ck_l0 (by decide +kernel)
set_option maxRecDepth 100000 in
/-- GlacierMail.waits -/
noncomputable def p2_s675 : ck_Sum := ((2, 0, 0), 245, [.inr (.inr (.inl 1)), .inl (ck_one 9)], ([], [], [(3, 6, 6, (0, 299, [(10, 0)]))]), ([], []), [(.inr (some (.inl (ck_one 0))), 245, ([], [], [])), (.inr (some (.inl (ck_one 1))), 245, ([], [], []))])
set_option maxRecDepth 100000 in
theorem p2_s675_s {X : Int → Int} {LX : Nat} : ck_Ok p2_O X LX 66 p2_s675 := ck_ok_s (O := p2_O) (X := X) (LX := LX) (E := [(28, [p2_s674]), (10, [p2_s335, p2_s350]), (67, [p2_s351])]) (mi := 66) (cuts := []) (f := 134) (S := p2_s675) (lx := none) (XF := []) ⟨p2_nmu, ck_E1 (ck_S1 p2_s674_s ck_S0) (ck_E1 (ck_S1 p2_s335_s (ck_S1 p2_s350_s ck_S0)) (ck_E1 (ck_S1 p2_s351_s ck_S0) ck_E0))⟩ ck_X0 ck_l0 (by decide +kernel)
set_option maxRecDepth 100000 in
/-- GlacierMail$Rows.put -/
noncomputable def p2_s676 : ck_Sum := ((0, 0, 0), 245, [.inr (.inr (.inl 10)), .inl (ck_one 9), .inl (ck_one 5), .inl ((-1), 299, [])], ([], [], []), ([(11, 68, 68)], []), [(.inr none, 245, ([], [], []))])
set_option maxRecDepth 100000 in
theorem p2_s676_s {X : Int → Int} {LX : Nat} : ck_Ok p2_O X LX 45 p2_s676 := ck_ok_s (O := p2_O) (X := X) (LX := LX) (E := []) (mi := 45) (cuts := []) (f := 116) (S := p2_s676) (lx := none) (XF := []) ⟨p2_nmu, ck_E0⟩ ck_X0 ck_l0 (by decide +kernel)
set_option maxRecDepth 100000 in
/-- GlacierMail$Rows.put -/
noncomputable def p2_s677 : ck_Sum := ((0, 0, 0), 245, [.inr (.inr (.inl 10)), .inl (ck_one 9), .inl (ck_one 6), .inl (0, 299, [])], ([], [], []), ([(11, 69, 69)], []), [(.inr none, 245, ([], [], []))])
set_option maxRecDepth 100000 in
theorem p2_s677_s {X : Int → Int} {LX : Nat} : ck_Ok p2_O X LX 45 p2_s677 := ck_ok_s (O := p2_O) (X := X) (LX := LX) (E := []) (mi := 45) (cuts := []) (f := 116) (S := p2_s677) (lx := none) (XF := []) ⟨p2_nmu, ck_E0⟩ ck_X0 ck_l0 (by decide +kernel)
set_option maxRecDepth 100000 in
/-- GlacierMail$Rows.put -/
noncomputable def p2_s678 : ck_Sum := ((0, 0, 0), 245, [.inr (.inr (.inl 14)), .inl (0, 23, []), .inl (ck_one 1), .inl (ck_one 9)], ([], [], []), (zl173, []), [(.inr none, 245, ([], [], []))])
set_option maxRecDepth 100000 in
theorem p2_s678_s {X : Int → Int} {LX : Nat} : ck_Ok p2_O X LX 45 p2_s678 := ck_ok_s (O := p2_O) (X := X) (LX := LX) (E := []) (mi := 45) (cuts := []) (f := 116) (S := p2_s678) (lx := none) (XF := []) ⟨p2_nmu, ck_E0⟩ ck_X0 ck_l0 (by decide +kernel)
set_option maxRecDepth 100000 in
/-- GlacierMail$Rows.put -/
noncomputable def p2_s679 : ck_Sum := ((0, 0, 0), 245, [.inr (.inr (.inl 14)), .inl (ck_one (-1)), .inl (ck_one 1), .inl (ck_one 9)], ([], [], []), ([], []), [(.inr none, 245, ([], [], []))])
set_option maxRecDepth 100000 in
theorem p2_s679_s {X : Int → Int} {LX : Nat} : ck_Ok p2_O X LX 45 p2_s679 := ck_ok_s (O := p2_O) (X := X) (LX := LX) (E := []) (mi := 45) (cuts := []) (f := 76) (S := p2_s679) (lx := none) (XF := []) ⟨p2_nmu, ck_E0⟩ ck_X0 ck_l0 (by decide +kernel)
set_option maxRecDepth 100000 in
/-- GlacierMail$State.openLetter -/
noncomputable def p2_s680 : ck_Sum := ((1, 0, 0), 245, [.inr (.inr (.inl 3)), .inl (ck_one 9), .inl ((-1), 299, [])], ([], [], [(3, 6, 6, (0, 299, [(10, 0)]))]), ([(11, 68, 69), (14, 3, 3), (15, 0, 71)], []), [(.inr none, 245, ([], [], [(14, 3, 3, (1, 24, []))]))])
set_option maxRecDepth 100000 in
theorem p2_s680_s {X : Int → Int} {LX : Nat} : ck_Ok p2_O X LX 159 p2_s680 := ck_ok_s (O := p2_O) (X := X) (LX := LX) (E := [(45, [p2_s676, p2_s677, p2_s583, p2_s678, p2_s585, p2_s586, p2_s679, p2_s588]), (102, [p2_s589])]) (mi := 159) (cuts := []) (f := 144) (S := p2_s680) (lx := none) (XF := []) ⟨p2_nmu, ck_E1 (ck_S1 p2_s676_s (ck_S1 p2_s677_s (ck_S1 p2_s583_s (ck_S1 p2_s678_s (ck_S1 p2_s585_s (ck_S1 p2_s586_s (ck_S1 p2_s679_s (ck_S1 p2_s588_s ck_S0)))))))) (ck_E1 (ck_S1 p2_s589_s ck_S0) ck_E0)⟩ ck_X0 ck_l0 (by decide +kernel)
set_option maxRecDepth 100000 in
/-- GlacierMail.open -/
noncomputable def p2_s681 : ck_Sum := ((8, 2, 12), 245, [.inr (.inr (.inl 1)), .inl (ck_one 9)], ([], zl102, [(3, 6, 6, (0, 299, [(10, 0)]))]), ([(1, 15, 15), (11, 68, 69), (14, 3, 3), (15, 0, 71), (42, 1, 2), (44, 0, 7), (45, 3, 3), (46, 0, 55), (47, 3, 3), (48, 0, 23), (49, 3, 3), (50, 0, 23), (51, 3, 3), (52, 0, 167), (53, 3, 3), (54, 0, 35), (55, 3, 3), (56, 0, 71), (57, 0, 7), (58, 3, 3), (59, 0, 55), (60, 3, 3), (61, 0, 23), (62, 3, 3), (63, 0, 23), (64, 3, 3), (65, 0, 167), (66, 3, 3), (67, 0, 35), (68, 3, 3), (69, 0, 71), (70, 0, 7), (71, 3, 3), (72, 0, 55), (73, 3, 3), (74, 0, 23), (75, 3, 3), (76, 0, 23), (77, 3, 3), (78, 0, 167), (79, 3, 3), (80, 0, 35), (81, 3, 3), (82, 0, 71), (83, 0, 7), (84, 3, 3), (85, 0, 55), (86, 3, 3), (87, 0, 23), (88, 3, 3), (89, 0, 23), (90, 3, 3), (91, 0, 167), (92, 3, 3), (93, 0, 35), (94, 3, 3), (95, 0, 71), (96, 0, 7), (97, 3, 3), (98, 0, 55), (99, 3, 3), (100, 0, 23), (101, 3, 3), (102, 0, 23), (103, 3, 3), (104, 0, 167), (105, 3, 3), (106, 0, 35), (107, 3, 3), (108, 0, 71), (109, 0, 7), (110, 3, 3), (111, 0, 55), (112, 3, 3), (113, 0, 23), (114, 3, 3), (115, 0, 23), (116, 3, 3), (117, 0, 167), (118, 3, 3), (119, 0, 35), (120, 3, 3), (121, 0, 71), (122, 0, 7), (123, 3, 3), (124, 0, 55), (125, 3, 3), (126, 0, 23), (127, 3, 3), (128, 0, 23), (129, 3, 3), (130, 0, 167), (131, 3, 3), (132, 0, 35), (133, 3, 3), (134, 0, 71), (135, 0, 7), (136, 3, 3), (137, 0, 55), (138, 3, 3), (139, 0, 23), (140, 3, 3), (141, 0, 23), (142, 3, 3), (143, 0, 167), (144, 3, 3), (145, 0, 35), (146, 3, 3), (147, 0, 71), (148, 0, 7), (149, 3, 3), (150, 0, 55), (151, 3, 3), (152, 0, 23), (153, 3, 3), (154, 0, 23), (155, 3, 3), (156, 0, 167), (157, 3, 3), (158, 0, 35), (159, 3, 3), (160, 0, 71), (161, 0, 7), (162, 3, 3), (163, 0, 55), (164, 3, 3), (165, 0, 23), (166, 3, 3), (167, 0, 23), (168, 3, 3), (169, 0, 167), (170, 3, 3), (171, 0, 35), (172, 3, 3), (173, 0, 71), (174, 0, 7), (175, 3, 3), (176, 0, 55), (177, 3, 3), (178, 0, 23), (179, 3, 3), (180, 0, 23), (181, 3, 3), (182, 0, 167), (183, 3, 3), (184, 0, 35), (185, 3, 3), (186, 0, 71), (187, 0, 7), (188, 3, 3), (189, 0, 55), (190, 3, 3), (191, 0, 23), (192, 3, 3), (193, 0, 23), (194, 3, 3), (195, 0, 167), (196, 3, 3), (197, 0, 35), (198, 3, 3), (199, 0, 71), (206, 2, 8), (220, 3, 3), (221, 0, 47)], zl104), zl175)
set_option maxRecDepth 100000 in
theorem p2_s681_s {X : Int → Int} {LX : Nat} : ck_Ok p2_O X LX 158 p2_s681 := ck_ok_s (O := p2_O) (X := X) (LX := LX) (E := [(143, [p2_s673]), (24, [p2_s349]), (66, [p2_s675]), (154, [p2_s529]), (10, [p2_s335]), (159, [p2_s680])]) (mi := 158) (cuts := []) (f := 140) (S := p2_s681) (lx := none) (XF := []) ⟨p2_nmu, ck_E1 (ck_S1 p2_s673_s ck_S0) (ck_E1 (ck_S1 p2_s349_s ck_S0) (ck_E1 (ck_S1 p2_s675_s ck_S0) (ck_E1 (ck_S1 p2_s529_s ck_S0) (ck_E1 (ck_S1 p2_s335_s ck_S0) (ck_E1 (ck_S1 p2_s680_s ck_S0) ck_E0)))))⟩ ck_X0 ck_l0 (by decide +kernel)
set_option maxRecDepth 100000 in
/-- GlacierMail.need -/
noncomputable def p2_s682 : ck_Sum := ((6, 1, 6), 245, [.inr (.inr (.inl 1)), .inl (ck_one 10), .inl (0, 24, [])], ([], [], []), ([], []), [(.inr none, 245, ([], [], [])), (.inl 3, 245, ([], [], []))])
set_option maxRecDepth 100000 in
theorem p2_s682_s {X : Int → Int} {LX : Nat} : ck_Ok p2_O X LX 133 p2_s682 := ck_ok_s (O := p2_O) (X := X) (LX := LX) (E := []) (mi := 133) (cuts := []) (f := 82) (S := p2_s682) (lx := none) (XF := []) ⟨p2_nmu, ck_E0⟩ ck_X0 ck_l0 (by decide +kernel)
set_option maxRecDepth 100000 in
/-- GlacierMail.needLetter -/
noncomputable def p2_s683 : ck_Sum := ((7, 1, 6), 245, [.inr (.inr (.inl 1)), .inl (ck_one 10)], ([], [], []), ([], []), [(.inl 3, 245, ([], [], [])), (.inr none, 245, ([], [], []))])
set_option maxRecDepth 100000 in
theorem p2_s683_s {X : Int → Int} {LX : Nat} : ck_Ok p2_O X LX 143 p2_s683 := ck_ok_s (O := p2_O) (X := X) (LX := LX) (E := [(9, [p2_s331]), (133, [p2_s682])]) (mi := 143) (cuts := []) (f := 86) (S := p2_s683) (lx := none) (XF := []) ⟨p2_nmu, ck_E1 (ck_S1 p2_s331_s ck_S0) (ck_E1 (ck_S1 p2_s682_s ck_S0) ck_E0)⟩ ck_X0 ck_l0 (by decide +kernel)
set_option maxRecDepth 100000 in
/-- GlacierMail$State.isRock -/
noncomputable def p2_s684 : ck_Sum := ((1, 0, 0), 245, [.inr (.inr (.inl 3)), .inl (ck_one 10)], ([], [], []), ([], []), [(.inr (some (.inl (ck_one 0))), 245, ([], [], [])), (.inr (some (.inl (ck_one 1))), 245, ([], [], []))])
set_option maxRecDepth 100000 in
theorem p2_s684_s {X : Int → Int} {LX : Nat} : ck_Ok p2_O X LX 28 p2_s684 := ck_ok_s (O := p2_O) (X := X) (LX := LX) (E := [(10, [p2_s335])]) (mi := 28) (cuts := []) (f := 90) (S := p2_s684) (lx := none) (XF := []) ⟨p2_nmu, ck_E1 (ck_S1 p2_s335_s ck_S0) ck_E0⟩ ck_X0 ck_l0 (by decide +kernel)
set_option maxRecDepth 100000 in
/-- GlacierMail.waits -/
noncomputable def p2_s685 : ck_Sum := ((2, 0, 0), 245, [.inr (.inr (.inl 1)), .inl (ck_one 10)], ([], [], [(3, 6, 6, (0, 299, [(10, 0)]))]), ([], []), [(.inr (some (.inl (ck_one 0))), 245, ([], [], [])), (.inr (some (.inl (ck_one 1))), 245, ([], [], []))])
set_option maxRecDepth 100000 in
theorem p2_s685_s {X : Int → Int} {LX : Nat} : ck_Ok p2_O X LX 66 p2_s685 := ck_ok_s (O := p2_O) (X := X) (LX := LX) (E := [(28, [p2_s684]), (10, [p2_s335, p2_s350]), (67, [p2_s351])]) (mi := 66) (cuts := []) (f := 134) (S := p2_s685) (lx := none) (XF := []) ⟨p2_nmu, ck_E1 (ck_S1 p2_s684_s ck_S0) (ck_E1 (ck_S1 p2_s335_s (ck_S1 p2_s350_s ck_S0)) (ck_E1 (ck_S1 p2_s351_s ck_S0) ck_E0))⟩ ck_X0 ck_l0 (by decide +kernel)
set_option maxRecDepth 100000 in
/-- GlacierMail$Rows.put -/
noncomputable def p2_s686 : ck_Sum := ((0, 0, 0), 245, [.inr (.inr (.inl 10)), .inl (ck_one 10), .inl (ck_one 5), .inl ((-1), 299, [])], ([], [], []), ([(11, 75, 75)], []), [(.inr none, 245, ([], [], []))])
set_option maxRecDepth 100000 in
theorem p2_s686_s {X : Int → Int} {LX : Nat} : ck_Ok p2_O X LX 45 p2_s686 := ck_ok_s (O := p2_O) (X := X) (LX := LX) (E := []) (mi := 45) (cuts := []) (f := 116) (S := p2_s686) (lx := none) (XF := []) ⟨p2_nmu, ck_E0⟩ ck_X0 ck_l0 (by decide +kernel)
set_option maxRecDepth 100000 in
/-- GlacierMail$Rows.put -/
noncomputable def p2_s687 : ck_Sum := ((0, 0, 0), 245, [.inr (.inr (.inl 10)), .inl (ck_one 10), .inl (ck_one 6), .inl (0, 299, [])], ([], [], []), ([(11, 76, 76)], []), [(.inr none, 245, ([], [], []))])
set_option maxRecDepth 100000 in
theorem p2_s687_s {X : Int → Int} {LX : Nat} : ck_Ok p2_O X LX 45 p2_s687 := ck_ok_s (O := p2_O) (X := X) (LX := LX) (E := []) (mi := 45) (cuts := []) (f := 116) (S := p2_s687) (lx := none) (XF := []) ⟨p2_nmu, ck_E0⟩ ck_X0 ck_l0 (by decide +kernel)
set_option maxRecDepth 100000 in
/-- GlacierMail$Rows.put -/
noncomputable def p2_s688 : ck_Sum := ((0, 0, 0), 245, [.inr (.inr (.inl 14)), .inl (0, 23, []), .inl (ck_one 1), .inl (ck_one 10)], ([], [], []), (zl173, []), [(.inr none, 245, ([], [], []))])
set_option maxRecDepth 100000 in
theorem p2_s688_s {X : Int → Int} {LX : Nat} : ck_Ok p2_O X LX 45 p2_s688 := ck_ok_s (O := p2_O) (X := X) (LX := LX) (E := []) (mi := 45) (cuts := []) (f := 116) (S := p2_s688) (lx := none) (XF := []) ⟨p2_nmu, ck_E0⟩ ck_X0 ck_l0 (by decide +kernel)
set_option maxRecDepth 100000 in
/-- GlacierMail$Rows.put -/
noncomputable def p2_s689 : ck_Sum := ((0, 0, 0), 245, [.inr (.inr (.inl 14)), .inl (ck_one (-1)), .inl (ck_one 1), .inl (ck_one 10)], ([], [], []), ([], []), [(.inr none, 245, ([], [], []))])
set_option maxRecDepth 100000 in
theorem p2_s689_s {X : Int → Int} {LX : Nat} : ck_Ok p2_O X LX 45 p2_s689 := ck_ok_s (O := p2_O) (X := X) (LX := LX) (E := []) (mi := 45) (cuts := []) (f := 76) (S := p2_s689) (lx := none) (XF := []) ⟨p2_nmu, ck_E0⟩ ck_X0 ck_l0 (by decide +kernel)
set_option maxRecDepth 100000 in
/-- GlacierMail$State.openLetter -/
noncomputable def p2_s690 : ck_Sum := ((1, 0, 0), 245, [.inr (.inr (.inl 3)), .inl (ck_one 10), .inl ((-1), 299, [])], ([], [], [(3, 6, 6, (0, 299, [(10, 0)]))]), ([(11, 75, 76), (14, 3, 3), (15, 0, 71)], []), [(.inr none, 245, ([], [], [(14, 3, 3, (1, 24, []))]))])
set_option maxRecDepth 100000 in
theorem p2_s690_s {X : Int → Int} {LX : Nat} : ck_Ok p2_O X LX 159 p2_s690 := ck_ok_s (O := p2_O) (X := X) (LX := LX) (E := [(45, [p2_s686, p2_s687, p2_s583, p2_s688, p2_s585, p2_s586, p2_s689, p2_s588]), (102, [p2_s589])]) (mi := 159) (cuts := []) (f := 144) (S := p2_s690) (lx := none) (XF := []) ⟨p2_nmu, ck_E1 (ck_S1 p2_s686_s (ck_S1 p2_s687_s (ck_S1 p2_s583_s (ck_S1 p2_s688_s (ck_S1 p2_s585_s (ck_S1 p2_s586_s (ck_S1 p2_s689_s (ck_S1 p2_s588_s ck_S0)))))))) (ck_E1 (ck_S1 p2_s589_s ck_S0) ck_E0)⟩ ck_X0 ck_l0 (by decide +kernel)
set_option maxRecDepth 100000 in
/-- GlacierMail.open -/
noncomputable def p2_s691 : ck_Sum := ((8, 2, 12), 245, [.inr (.inr (.inl 1)), .inl (ck_one 10)], ([], zl102, [(3, 6, 6, (0, 299, [(10, 0)]))]), ([(1, 15, 15), (11, 75, 76), (14, 3, 3), (15, 0, 71), (42, 1, 2), (44, 0, 7), (45, 3, 3), (46, 0, 55), (47, 3, 3), (48, 0, 23), (49, 3, 3), (50, 0, 23), (51, 3, 3), (52, 0, 167), (53, 3, 3), (54, 0, 35), (55, 3, 3), (56, 0, 71), (57, 0, 7), (58, 3, 3), (59, 0, 55), (60, 3, 3), (61, 0, 23), (62, 3, 3), (63, 0, 23), (64, 3, 3), (65, 0, 167), (66, 3, 3), (67, 0, 35), (68, 3, 3), (69, 0, 71), (70, 0, 7), (71, 3, 3), (72, 0, 55), (73, 3, 3), (74, 0, 23), (75, 3, 3), (76, 0, 23), (77, 3, 3), (78, 0, 167), (79, 3, 3), (80, 0, 35), (81, 3, 3), (82, 0, 71), (83, 0, 7), (84, 3, 3), (85, 0, 55), (86, 3, 3), (87, 0, 23), (88, 3, 3), (89, 0, 23), (90, 3, 3), (91, 0, 167), (92, 3, 3), (93, 0, 35), (94, 3, 3), (95, 0, 71), (96, 0, 7), (97, 3, 3), (98, 0, 55), (99, 3, 3), (100, 0, 23), (101, 3, 3), (102, 0, 23), (103, 3, 3), (104, 0, 167), (105, 3, 3), (106, 0, 35), (107, 3, 3), (108, 0, 71), (109, 0, 7), (110, 3, 3), (111, 0, 55), (112, 3, 3), (113, 0, 23), (114, 3, 3), (115, 0, 23), (116, 3, 3), (117, 0, 167), (118, 3, 3), (119, 0, 35), (120, 3, 3), (121, 0, 71), (122, 0, 7), (123, 3, 3), (124, 0, 55), (125, 3, 3), (126, 0, 23), (127, 3, 3), (128, 0, 23), (129, 3, 3), (130, 0, 167), (131, 3, 3), (132, 0, 35), (133, 3, 3), (134, 0, 71), (135, 0, 7), (136, 3, 3), (137, 0, 55), (138, 3, 3), (139, 0, 23), (140, 3, 3), (141, 0, 23), (142, 3, 3), (143, 0, 167), (144, 3, 3), (145, 0, 35), (146, 3, 3), (147, 0, 71), (148, 0, 7), (149, 3, 3), (150, 0, 55), (151, 3, 3), (152, 0, 23), (153, 3, 3), (154, 0, 23), (155, 3, 3), (156, 0, 167), (157, 3, 3), (158, 0, 35), (159, 3, 3), (160, 0, 71), (161, 0, 7), (162, 3, 3), (163, 0, 55), (164, 3, 3), (165, 0, 23), (166, 3, 3), (167, 0, 23), (168, 3, 3), (169, 0, 167), (170, 3, 3), (171, 0, 35), (172, 3, 3), (173, 0, 71), (174, 0, 7), (175, 3, 3), (176, 0, 55), (177, 3, 3), (178, 0, 23), (179, 3, 3), (180, 0, 23), (181, 3, 3), (182, 0, 167), (183, 3, 3), (184, 0, 35), (185, 3, 3), (186, 0, 71), (187, 0, 7), (188, 3, 3), (189, 0, 55), (190, 3, 3), (191, 0, 23), (192, 3, 3), (193, 0, 23), (194, 3, 3), (195, 0, 167), (196, 3, 3), (197, 0, 35), (198, 3, 3), (199, 0, 71), (206, 2, 8), (220, 3, 3), (221, 0, 47)], zl104), zl175)
set_option maxRecDepth 100000 in
theorem p2_s691_s {X : Int → Int} {LX : Nat} : ck_Ok p2_O X LX 158 p2_s691 := ck_ok_s (O := p2_O) (X := X) (LX := LX) (E := [(143, [p2_s683]), (24, [p2_s349]), (66, [p2_s685]), (154, [p2_s529]), (10, [p2_s335]), (159, [p2_s690])]) (mi := 158) (cuts := []) (f := 140) (S := p2_s691) (lx := none) (XF := []) ⟨p2_nmu, ck_E1 (ck_S1 p2_s683_s ck_S0) (ck_E1 (ck_S1 p2_s349_s ck_S0) (ck_E1 (ck_S1 p2_s685_s ck_S0) (ck_E1 (ck_S1 p2_s529_s ck_S0) (ck_E1 (ck_S1 p2_s335_s ck_S0) (ck_E1 (ck_S1 p2_s690_s ck_S0) ck_E0)))))⟩ ck_X0 ck_l0 (by decide +kernel)
set_option maxRecDepth 100000 in
/-- GlacierMail.need -/
noncomputable def p2_s692 : ck_Sum := ((6, 1, 6), 245, [.inr (.inr (.inl 1)), .inl (ck_one 11), .inl (0, 24, [])], ([], [], []), ([], []), [(.inr none, 245, ([], [], [])), (.inl 3, 245, ([], [], []))])
set_option maxRecDepth 100000 in
theorem p2_s692_s {X : Int → Int} {LX : Nat} : ck_Ok p2_O X LX 133 p2_s692 := ck_ok_s (O := p2_O) (X := X) (LX := LX) (E := []) (mi := 133) (cuts := []) (f := 82) (S := p2_s692) (lx := none) (XF := []) ⟨p2_nmu, ck_E0⟩ ck_X0 ck_l0 (by decide +kernel)
set_option maxRecDepth 100000 in
/-- GlacierMail.needLetter -/
noncomputable def p2_s693 : ck_Sum := ((7, 1, 6), 245, [.inr (.inr (.inl 1)), .inl (ck_one 11)], ([], [], []), ([], []), [(.inl 3, 245, ([], [], [])), (.inr none, 245, ([], [], []))])
set_option maxRecDepth 100000 in
theorem p2_s693_s {X : Int → Int} {LX : Nat} : ck_Ok p2_O X LX 143 p2_s693 := ck_ok_s (O := p2_O) (X := X) (LX := LX) (E := [(9, [p2_s331]), (133, [p2_s692])]) (mi := 143) (cuts := []) (f := 86) (S := p2_s693) (lx := none) (XF := []) ⟨p2_nmu, ck_E1 (ck_S1 p2_s331_s ck_S0) (ck_E1 (ck_S1 p2_s692_s ck_S0) ck_E0)⟩ ck_X0 ck_l0 (by decide +kernel)
set_option maxRecDepth 100000 in
/-- GlacierMail$State.isRock -/
noncomputable def p2_s694 : ck_Sum := ((1, 0, 0), 245, [.inr (.inr (.inl 3)), .inl (ck_one 11)], ([], [], []), ([], []), [(.inr (some (.inl (ck_one 0))), 245, ([], [], [])), (.inr (some (.inl (ck_one 1))), 245, ([], [], []))])
set_option maxRecDepth 100000 in
theorem p2_s694_s {X : Int → Int} {LX : Nat} : ck_Ok p2_O X LX 28 p2_s694 := ck_ok_s (O := p2_O) (X := X) (LX := LX) (E := [(10, [p2_s335])]) (mi := 28) (cuts := []) (f := 90) (S := p2_s694) (lx := none) (XF := []) ⟨p2_nmu, ck_E1 (ck_S1 p2_s335_s ck_S0) ck_E0⟩ ck_X0 ck_l0 (by decide +kernel)
set_option maxRecDepth 100000 in
/-- GlacierMail.waits -/
noncomputable def p2_s695 : ck_Sum := ((2, 0, 0), 245, [.inr (.inr (.inl 1)), .inl (ck_one 11)], ([], [], [(3, 6, 6, (0, 299, [(10, 0)]))]), ([], []), [(.inr (some (.inl (ck_one 0))), 245, ([], [], [])), (.inr (some (.inl (ck_one 1))), 245, ([], [], []))])
set_option maxRecDepth 100000 in
theorem p2_s695_s {X : Int → Int} {LX : Nat} : ck_Ok p2_O X LX 66 p2_s695 := ck_ok_s (O := p2_O) (X := X) (LX := LX) (E := [(28, [p2_s694]), (10, [p2_s335, p2_s350]), (67, [p2_s351])]) (mi := 66) (cuts := []) (f := 134) (S := p2_s695) (lx := none) (XF := []) ⟨p2_nmu, ck_E1 (ck_S1 p2_s694_s ck_S0) (ck_E1 (ck_S1 p2_s335_s (ck_S1 p2_s350_s ck_S0)) (ck_E1 (ck_S1 p2_s351_s ck_S0) ck_E0))⟩ ck_X0 ck_l0 (by decide +kernel)
set_option maxRecDepth 100000 in
/-- GlacierMail$Rows.put -/
noncomputable def p2_s696 : ck_Sum := ((0, 0, 0), 245, [.inr (.inr (.inl 10)), .inl (ck_one 11), .inl (ck_one 5), .inl ((-1), 299, [])], ([], [], []), ([(11, 82, 82)], []), [(.inr none, 245, ([], [], []))])
set_option maxRecDepth 100000 in
theorem p2_s696_s {X : Int → Int} {LX : Nat} : ck_Ok p2_O X LX 45 p2_s696 := ck_ok_s (O := p2_O) (X := X) (LX := LX) (E := []) (mi := 45) (cuts := []) (f := 116) (S := p2_s696) (lx := none) (XF := []) ⟨p2_nmu, ck_E0⟩ ck_X0 ck_l0 (by decide +kernel)
set_option maxRecDepth 100000 in
/-- GlacierMail$Rows.put -/
noncomputable def p2_s697 : ck_Sum := ((0, 0, 0), 245, [.inr (.inr (.inl 10)), .inl (ck_one 11), .inl (ck_one 6), .inl (0, 299, [])], ([], [], []), ([(11, 83, 83)], []), [(.inr none, 245, ([], [], []))])
set_option maxRecDepth 100000 in
theorem p2_s697_s {X : Int → Int} {LX : Nat} : ck_Ok p2_O X LX 45 p2_s697 := ck_ok_s (O := p2_O) (X := X) (LX := LX) (E := []) (mi := 45) (cuts := []) (f := 116) (S := p2_s697) (lx := none) (XF := []) ⟨p2_nmu, ck_E0⟩ ck_X0 ck_l0 (by decide +kernel)
set_option maxRecDepth 100000 in
/-- GlacierMail$Rows.put -/
noncomputable def p2_s698 : ck_Sum := ((0, 0, 0), 245, [.inr (.inr (.inl 14)), .inl (0, 23, []), .inl (ck_one 1), .inl (ck_one 11)], ([], [], []), (zl173, []), [(.inr none, 245, ([], [], []))])
set_option maxRecDepth 100000 in
theorem p2_s698_s {X : Int → Int} {LX : Nat} : ck_Ok p2_O X LX 45 p2_s698 := ck_ok_s (O := p2_O) (X := X) (LX := LX) (E := []) (mi := 45) (cuts := []) (f := 116) (S := p2_s698) (lx := none) (XF := []) ⟨p2_nmu, ck_E0⟩ ck_X0 ck_l0 (by decide +kernel)
set_option maxRecDepth 100000 in
/-- GlacierMail$Rows.put -/
noncomputable def p2_s699 : ck_Sum := ((0, 0, 0), 245, [.inr (.inr (.inl 14)), .inl (ck_one (-1)), .inl (ck_one 1), .inl (ck_one 11)], ([], [], []), ([], []), [(.inr none, 245, ([], [], []))])
set_option maxRecDepth 100000 in
theorem p2_s699_s {X : Int → Int} {LX : Nat} : ck_Ok p2_O X LX 45 p2_s699 := ck_ok_s (O := p2_O) (X := X) (LX := LX) (E := []) (mi := 45) (cuts := []) (f := 76) (S := p2_s699) (lx := none) (XF := []) ⟨p2_nmu, ck_E0⟩ ck_X0 ck_l0 (by decide +kernel)
set_option maxRecDepth 100000 in
/-- GlacierMail$State.openLetter -/
noncomputable def p2_s700 : ck_Sum := ((1, 0, 0), 245, [.inr (.inr (.inl 3)), .inl (ck_one 11), .inl ((-1), 299, [])], ([], [], [(3, 6, 6, (0, 299, [(10, 0)]))]), ([(11, 82, 83), (14, 3, 3), (15, 0, 71)], []), [(.inr none, 245, ([], [], [(14, 3, 3, (1, 24, []))]))])
set_option maxRecDepth 100000 in
theorem p2_s700_s {X : Int → Int} {LX : Nat} : ck_Ok p2_O X LX 159 p2_s700 := ck_ok_s (O := p2_O) (X := X) (LX := LX) (E := [(45, [p2_s696, p2_s697, p2_s583, p2_s698, p2_s585, p2_s586, p2_s699, p2_s588]), (102, [p2_s589])]) (mi := 159) (cuts := []) (f := 144) (S := p2_s700) (lx := none) (XF := []) ⟨p2_nmu, ck_E1 (ck_S1 p2_s696_s (ck_S1 p2_s697_s (ck_S1 p2_s583_s (ck_S1 p2_s698_s (ck_S1 p2_s585_s (ck_S1 p2_s586_s (ck_S1 p2_s699_s (ck_S1 p2_s588_s ck_S0)))))))) (ck_E1 (ck_S1 p2_s589_s ck_S0) ck_E0)⟩ ck_X0 ck_l0 (by decide +kernel)
set_option maxRecDepth 100000 in
/-- GlacierMail.open -/
noncomputable def p2_s701 : ck_Sum := ((8, 2, 12), 245, [.inr (.inr (.inl 1)), .inl (ck_one 11)], ([], zl102, [(3, 6, 6, (0, 299, [(10, 0)]))]), ([(1, 15, 15), (11, 82, 83), (14, 3, 3), (15, 0, 71), (42, 1, 2), (44, 0, 7), (45, 3, 3), (46, 0, 55), (47, 3, 3), (48, 0, 23), (49, 3, 3), (50, 0, 23), (51, 3, 3), (52, 0, 167), (53, 3, 3), (54, 0, 35), (55, 3, 3), (56, 0, 71), (57, 0, 7), (58, 3, 3), (59, 0, 55), (60, 3, 3), (61, 0, 23), (62, 3, 3), (63, 0, 23), (64, 3, 3), (65, 0, 167), (66, 3, 3), (67, 0, 35), (68, 3, 3), (69, 0, 71), (70, 0, 7), (71, 3, 3), (72, 0, 55), (73, 3, 3), (74, 0, 23), (75, 3, 3), (76, 0, 23), (77, 3, 3), (78, 0, 167), (79, 3, 3), (80, 0, 35), (81, 3, 3), (82, 0, 71), (83, 0, 7), (84, 3, 3), (85, 0, 55), (86, 3, 3), (87, 0, 23), (88, 3, 3), (89, 0, 23), (90, 3, 3), (91, 0, 167), (92, 3, 3), (93, 0, 35), (94, 3, 3), (95, 0, 71), (96, 0, 7), (97, 3, 3), (98, 0, 55), (99, 3, 3), (100, 0, 23), (101, 3, 3), (102, 0, 23), (103, 3, 3), (104, 0, 167), (105, 3, 3), (106, 0, 35), (107, 3, 3), (108, 0, 71), (109, 0, 7), (110, 3, 3), (111, 0, 55), (112, 3, 3), (113, 0, 23), (114, 3, 3), (115, 0, 23), (116, 3, 3), (117, 0, 167), (118, 3, 3), (119, 0, 35), (120, 3, 3), (121, 0, 71), (122, 0, 7), (123, 3, 3), (124, 0, 55), (125, 3, 3), (126, 0, 23), (127, 3, 3), (128, 0, 23), (129, 3, 3), (130, 0, 167), (131, 3, 3), (132, 0, 35), (133, 3, 3), (134, 0, 71), (135, 0, 7), (136, 3, 3), (137, 0, 55), (138, 3, 3), (139, 0, 23), (140, 3, 3), (141, 0, 23), (142, 3, 3), (143, 0, 167), (144, 3, 3), (145, 0, 35), (146, 3, 3), (147, 0, 71), (148, 0, 7), (149, 3, 3), (150, 0, 55), (151, 3, 3), (152, 0, 23), (153, 3, 3), (154, 0, 23), (155, 3, 3), (156, 0, 167), (157, 3, 3), (158, 0, 35), (159, 3, 3), (160, 0, 71), (161, 0, 7), (162, 3, 3), (163, 0, 55), (164, 3, 3), (165, 0, 23), (166, 3, 3), (167, 0, 23), (168, 3, 3), (169, 0, 167), (170, 3, 3), (171, 0, 35), (172, 3, 3), (173, 0, 71), (174, 0, 7), (175, 3, 3), (176, 0, 55), (177, 3, 3), (178, 0, 23), (179, 3, 3), (180, 0, 23), (181, 3, 3), (182, 0, 167), (183, 3, 3), (184, 0, 35), (185, 3, 3), (186, 0, 71), (187, 0, 7), (188, 3, 3), (189, 0, 55), (190, 3, 3), (191, 0, 23), (192, 3, 3), (193, 0, 23), (194, 3, 3), (195, 0, 167), (196, 3, 3), (197, 0, 35), (198, 3, 3), (199, 0, 71), (206, 2, 8), (220, 3, 3), (221, 0, 47)], zl104), zl175)
set_option maxRecDepth 100000 in
theorem p2_s701_s {X : Int → Int} {LX : Nat} : ck_Ok p2_O X LX 158 p2_s701 := ck_ok_s (O := p2_O) (X := X) (LX := LX) (E := [(143, [p2_s693]), (24, [p2_s349]), (66, [p2_s695]), (154, [p2_s529]), (10, [p2_s335]), (159, [p2_s700])]) (mi := 158) (cuts := []) (f := 140) (S := p2_s701) (lx := none) (XF := []) ⟨p2_nmu, ck_E1 (ck_S1 p2_s693_s ck_S0) (ck_E1 (ck_S1 p2_s349_s ck_S0) (ck_E1 (ck_S1 p2_s695_s ck_S0) (ck_E1 (ck_S1 p2_s529_s ck_S0) (ck_E1 (ck_S1 p2_s335_s ck_S0) (ck_E1 (ck_S1 p2_s700_s ck_S0) ck_E0)))))⟩ ck_X0 ck_l0 (by decide +kernel)
set_option maxRecDepth 100000 in
/-- GlacierMail.need -/
noncomputable def p2_s702 : ck_Sum := ((6, 1, 6), 245, [.inr (.inr (.inl 1)), .inl (ck_one 12), .inl (0, 24, [])], ([], [], []), ([], []), [(.inr none, 245, ([], [], [])), (.inl 3, 245, ([], [], []))])
set_option maxRecDepth 100000 in
theorem p2_s702_s {X : Int → Int} {LX : Nat} : ck_Ok p2_O X LX 133 p2_s702 := ck_ok_s (O := p2_O) (X := X) (LX := LX) (E := []) (mi := 133) (cuts := []) (f := 82) (S := p2_s702) (lx := none) (XF := []) ⟨p2_nmu, ck_E0⟩ ck_X0 ck_l0 (by decide +kernel)
set_option maxRecDepth 100000 in
/-- GlacierMail.needLetter -/
noncomputable def p2_s703 : ck_Sum := ((7, 1, 6), 245, [.inr (.inr (.inl 1)), .inl (ck_one 12)], ([], [], []), ([], []), [(.inl 3, 245, ([], [], [])), (.inr none, 245, ([], [], []))])
set_option maxRecDepth 100000 in
theorem p2_s703_s {X : Int → Int} {LX : Nat} : ck_Ok p2_O X LX 143 p2_s703 := ck_ok_s (O := p2_O) (X := X) (LX := LX) (E := [(9, [p2_s331]), (133, [p2_s702])]) (mi := 143) (cuts := []) (f := 86) (S := p2_s703) (lx := none) (XF := []) ⟨p2_nmu, ck_E1 (ck_S1 p2_s331_s ck_S0) (ck_E1 (ck_S1 p2_s702_s ck_S0) ck_E0)⟩ ck_X0 ck_l0 (by decide +kernel)
set_option maxRecDepth 100000 in
/-- GlacierMail$State.isRock -/
noncomputable def p2_s704 : ck_Sum := ((1, 0, 0), 245, [.inr (.inr (.inl 3)), .inl (ck_one 12)], ([], [], []), ([], []), [(.inr (some (.inl (ck_one 0))), 245, ([], [], [])), (.inr (some (.inl (ck_one 1))), 245, ([], [], []))])
set_option maxRecDepth 100000 in
theorem p2_s704_s {X : Int → Int} {LX : Nat} : ck_Ok p2_O X LX 28 p2_s704 := ck_ok_s (O := p2_O) (X := X) (LX := LX) (E := [(10, [p2_s335])]) (mi := 28) (cuts := []) (f := 90) (S := p2_s704) (lx := none) (XF := []) ⟨p2_nmu, ck_E1 (ck_S1 p2_s335_s ck_S0) ck_E0⟩ ck_X0 ck_l0 (by decide +kernel)
set_option maxRecDepth 100000 in
/-- GlacierMail.waits -/
noncomputable def p2_s705 : ck_Sum := ((2, 0, 0), 245, [.inr (.inr (.inl 1)), .inl (ck_one 12)], ([], [], [(3, 6, 6, (0, 299, [(10, 0)]))]), ([], []), [(.inr (some (.inl (ck_one 0))), 245, ([], [], [])), (.inr (some (.inl (ck_one 1))), 245, ([], [], []))])
set_option maxRecDepth 100000 in
theorem p2_s705_s {X : Int → Int} {LX : Nat} : ck_Ok p2_O X LX 66 p2_s705 := ck_ok_s (O := p2_O) (X := X) (LX := LX) (E := [(28, [p2_s704]), (10, [p2_s335, p2_s350]), (67, [p2_s351])]) (mi := 66) (cuts := []) (f := 134) (S := p2_s705) (lx := none) (XF := []) ⟨p2_nmu, ck_E1 (ck_S1 p2_s704_s ck_S0) (ck_E1 (ck_S1 p2_s335_s (ck_S1 p2_s350_s ck_S0)) (ck_E1 (ck_S1 p2_s351_s ck_S0) ck_E0))⟩ ck_X0 ck_l0 (by decide +kernel)
set_option maxRecDepth 100000 in
/-- GlacierMail$Rows.put -/
noncomputable def p2_s706 : ck_Sum := ((0, 0, 0), 245, [.inr (.inr (.inl 10)), .inl (ck_one 12), .inl (ck_one 5), .inl ((-1), 299, [])], ([], [], []), ([(11, 89, 89)], []), [(.inr none, 245, ([], [], []))])
set_option maxRecDepth 100000 in
theorem p2_s706_s {X : Int → Int} {LX : Nat} : ck_Ok p2_O X LX 45 p2_s706 := ck_ok_s (O := p2_O) (X := X) (LX := LX) (E := []) (mi := 45) (cuts := []) (f := 116) (S := p2_s706) (lx := none) (XF := []) ⟨p2_nmu, ck_E0⟩ ck_X0 ck_l0 (by decide +kernel)
set_option maxRecDepth 100000 in
/-- GlacierMail$Rows.put -/
noncomputable def p2_s707 : ck_Sum := ((0, 0, 0), 245, [.inr (.inr (.inl 10)), .inl (ck_one 12), .inl (ck_one 6), .inl (0, 299, [])], ([], [], []), ([(11, 90, 90)], []), [(.inr none, 245, ([], [], []))])
set_option maxRecDepth 100000 in
theorem p2_s707_s {X : Int → Int} {LX : Nat} : ck_Ok p2_O X LX 45 p2_s707 := ck_ok_s (O := p2_O) (X := X) (LX := LX) (E := []) (mi := 45) (cuts := []) (f := 116) (S := p2_s707) (lx := none) (XF := []) ⟨p2_nmu, ck_E0⟩ ck_X0 ck_l0 (by decide +kernel)
set_option maxRecDepth 100000 in
/-- GlacierMail$Rows.put -/
noncomputable def p2_s708 : ck_Sum := ((0, 0, 0), 245, [.inr (.inr (.inl 14)), .inl (0, 23, []), .inl (ck_one 1), .inl (ck_one 12)], ([], [], []), (zl173, []), [(.inr none, 245, ([], [], []))])
set_option maxRecDepth 100000 in
theorem p2_s708_s {X : Int → Int} {LX : Nat} : ck_Ok p2_O X LX 45 p2_s708 := ck_ok_s (O := p2_O) (X := X) (LX := LX) (E := []) (mi := 45) (cuts := []) (f := 116) (S := p2_s708) (lx := none) (XF := []) ⟨p2_nmu, ck_E0⟩ ck_X0 ck_l0 (by decide +kernel)
set_option maxRecDepth 100000 in
/-- GlacierMail$Rows.put -/
noncomputable def p2_s709 : ck_Sum := ((0, 0, 0), 245, [.inr (.inr (.inl 14)), .inl (ck_one (-1)), .inl (ck_one 1), .inl (ck_one 12)], ([], [], []), ([], []), [(.inr none, 245, ([], [], []))])
set_option maxRecDepth 100000 in
theorem p2_s709_s {X : Int → Int} {LX : Nat} : ck_Ok p2_O X LX 45 p2_s709 := ck_ok_s (O := p2_O) (X := X) (LX := LX) (E := []) (mi := 45) (cuts := []) (f := 76) (S := p2_s709) (lx := none) (XF := []) ⟨p2_nmu, ck_E0⟩ ck_X0 ck_l0 (by decide +kernel)
set_option maxRecDepth 100000 in
/-- GlacierMail$State.openLetter -/
noncomputable def p2_s710 : ck_Sum := ((1, 0, 0), 245, [.inr (.inr (.inl 3)), .inl (ck_one 12), .inl ((-1), 299, [])], ([], [], [(3, 6, 6, (0, 299, [(10, 0)]))]), ([(11, 89, 90), (14, 3, 3), (15, 0, 71)], []), [(.inr none, 245, ([], [], [(14, 3, 3, (1, 24, []))]))])
set_option maxRecDepth 100000 in
theorem p2_s710_s {X : Int → Int} {LX : Nat} : ck_Ok p2_O X LX 159 p2_s710 := ck_ok_s (O := p2_O) (X := X) (LX := LX) (E := [(45, [p2_s706, p2_s707, p2_s583, p2_s708, p2_s585, p2_s586, p2_s709, p2_s588]), (102, [p2_s589])]) (mi := 159) (cuts := []) (f := 144) (S := p2_s710) (lx := none) (XF := []) ⟨p2_nmu, ck_E1 (ck_S1 p2_s706_s (ck_S1 p2_s707_s (ck_S1 p2_s583_s (ck_S1 p2_s708_s (ck_S1 p2_s585_s (ck_S1 p2_s586_s (ck_S1 p2_s709_s (ck_S1 p2_s588_s ck_S0)))))))) (ck_E1 (ck_S1 p2_s589_s ck_S0) ck_E0)⟩ ck_X0 ck_l0 (by decide +kernel)
set_option maxRecDepth 100000 in
/-- GlacierMail.open -/
noncomputable def p2_s711 : ck_Sum := ((8, 2, 12), 245, [.inr (.inr (.inl 1)), .inl (ck_one 12)], ([], zl102, [(3, 6, 6, (0, 299, [(10, 0)]))]), ([(1, 15, 15), (11, 89, 90), (14, 3, 3), (15, 0, 71), (42, 1, 2), (44, 0, 7), (45, 3, 3), (46, 0, 55), (47, 3, 3), (48, 0, 23), (49, 3, 3), (50, 0, 23), (51, 3, 3), (52, 0, 167), (53, 3, 3), (54, 0, 35), (55, 3, 3), (56, 0, 71), (57, 0, 7), (58, 3, 3), (59, 0, 55), (60, 3, 3), (61, 0, 23), (62, 3, 3), (63, 0, 23), (64, 3, 3), (65, 0, 167), (66, 3, 3), (67, 0, 35), (68, 3, 3), (69, 0, 71), (70, 0, 7), (71, 3, 3), (72, 0, 55), (73, 3, 3), (74, 0, 23), (75, 3, 3), (76, 0, 23), (77, 3, 3), (78, 0, 167), (79, 3, 3), (80, 0, 35), (81, 3, 3), (82, 0, 71), (83, 0, 7), (84, 3, 3), (85, 0, 55), (86, 3, 3), (87, 0, 23), (88, 3, 3), (89, 0, 23), (90, 3, 3), (91, 0, 167), (92, 3, 3), (93, 0, 35), (94, 3, 3), (95, 0, 71), (96, 0, 7), (97, 3, 3), (98, 0, 55), (99, 3, 3), (100, 0, 23), (101, 3, 3), (102, 0, 23), (103, 3, 3), (104, 0, 167), (105, 3, 3), (106, 0, 35), (107, 3, 3), (108, 0, 71), (109, 0, 7), (110, 3, 3), (111, 0, 55), (112, 3, 3), (113, 0, 23), (114, 3, 3), (115, 0, 23), (116, 3, 3), (117, 0, 167), (118, 3, 3), (119, 0, 35), (120, 3, 3), (121, 0, 71), (122, 0, 7), (123, 3, 3), (124, 0, 55), (125, 3, 3), (126, 0, 23), (127, 3, 3), (128, 0, 23), (129, 3, 3), (130, 0, 167), (131, 3, 3), (132, 0, 35), (133, 3, 3), (134, 0, 71), (135, 0, 7), (136, 3, 3), (137, 0, 55), (138, 3, 3), (139, 0, 23), (140, 3, 3), (141, 0, 23), (142, 3, 3), (143, 0, 167), (144, 3, 3), (145, 0, 35), (146, 3, 3), (147, 0, 71), (148, 0, 7), (149, 3, 3), (150, 0, 55), (151, 3, 3), (152, 0, 23), (153, 3, 3), (154, 0, 23), (155, 3, 3), (156, 0, 167), (157, 3, 3), (158, 0, 35), (159, 3, 3), (160, 0, 71), (161, 0, 7), (162, 3, 3), (163, 0, 55), (164, 3, 3), (165, 0, 23), (166, 3, 3), (167, 0, 23), (168, 3, 3), (169, 0, 167), (170, 3, 3), (171, 0, 35), (172, 3, 3), (173, 0, 71), (174, 0, 7), (175, 3, 3), (176, 0, 55), (177, 3, 3), (178, 0, 23), (179, 3, 3), (180, 0, 23), (181, 3, 3), (182, 0, 167), (183, 3, 3), (184, 0, 35), (185, 3, 3), (186, 0, 71), (187, 0, 7), (188, 3, 3), (189, 0, 55), (190, 3, 3), (191, 0, 23), (192, 3, 3), (193, 0, 23), (194, 3, 3), (195, 0, 167), (196, 3, 3), (197, 0, 35), (198, 3, 3), (199, 0, 71), (206, 2, 8), (220, 3, 3), (221, 0, 47)], zl104), zl175)
set_option maxRecDepth 100000 in
theorem p2_s711_s {X : Int → Int} {LX : Nat} : ck_Ok p2_O X LX 158 p2_s711 := ck_ok_s (O := p2_O) (X := X) (LX := LX) (E := [(143, [p2_s703]), (24, [p2_s349]), (66, [p2_s705]), (154, [p2_s529]), (10, [p2_s335]), (159, [p2_s710])]) (mi := 158) (cuts := []) (f := 140) (S := p2_s711) (lx := none) (XF := []) ⟨p2_nmu, ck_E1 (ck_S1 p2_s703_s ck_S0) (ck_E1 (ck_S1 p2_s349_s ck_S0) (ck_E1 (ck_S1 p2_s705_s ck_S0) (ck_E1 (ck_S1 p2_s529_s ck_S0) (ck_E1 (ck_S1 p2_s335_s ck_S0) (ck_E1 (ck_S1 p2_s710_s ck_S0) ck_E0)))))⟩ ck_X0 ck_l0 (by decide +kernel)
set_option maxRecDepth 100000 in
/-- GlacierMail.need -/
noncomputable def p2_s712 : ck_Sum := ((6, 1, 6), 245, [.inr (.inr (.inl 1)), .inl (ck_one 13), .inl (0, 24, [])], ([], [], []), ([], []), [(.inr none, 245, ([], [], [])), (.inl 3, 245, ([], [], []))])
set_option maxRecDepth 100000 in
theorem p2_s712_s {X : Int → Int} {LX : Nat} : ck_Ok p2_O X LX 133 p2_s712 := ck_ok_s (O := p2_O) (X := X) (LX := LX) (E := []) (mi := 133) (cuts := []) (f := 82) (S := p2_s712) (lx := none) (XF := []) ⟨p2_nmu, ck_E0⟩ ck_X0 ck_l0 (by decide +kernel)
set_option maxRecDepth 100000 in
/-- GlacierMail.needLetter -/
noncomputable def p2_s713 : ck_Sum := ((7, 1, 6), 245, [.inr (.inr (.inl 1)), .inl (ck_one 13)], ([], [], []), ([], []), [(.inl 3, 245, ([], [], [])), (.inr none, 245, ([], [], []))])
set_option maxRecDepth 100000 in
theorem p2_s713_s {X : Int → Int} {LX : Nat} : ck_Ok p2_O X LX 143 p2_s713 := ck_ok_s (O := p2_O) (X := X) (LX := LX) (E := [(9, [p2_s331]), (133, [p2_s712])]) (mi := 143) (cuts := []) (f := 86) (S := p2_s713) (lx := none) (XF := []) ⟨p2_nmu, ck_E1 (ck_S1 p2_s331_s ck_S0) (ck_E1 (ck_S1 p2_s712_s ck_S0) ck_E0)⟩ ck_X0 ck_l0 (by decide +kernel)
set_option maxRecDepth 100000 in
/-- GlacierMail$State.isRock -/
noncomputable def p2_s714 : ck_Sum := ((1, 0, 0), 245, [.inr (.inr (.inl 3)), .inl (ck_one 13)], ([], [], []), ([], []), [(.inr (some (.inl (ck_one 0))), 245, ([], [], [])), (.inr (some (.inl (ck_one 1))), 245, ([], [], []))])
set_option maxRecDepth 100000 in
theorem p2_s714_s {X : Int → Int} {LX : Nat} : ck_Ok p2_O X LX 28 p2_s714 := ck_ok_s (O := p2_O) (X := X) (LX := LX) (E := [(10, [p2_s335])]) (mi := 28) (cuts := []) (f := 90) (S := p2_s714) (lx := none) (XF := []) ⟨p2_nmu, ck_E1 (ck_S1 p2_s335_s ck_S0) ck_E0⟩ ck_X0 ck_l0 (by decide +kernel)
set_option maxRecDepth 100000 in
/-- GlacierMail.waits -/
noncomputable def p2_s715 : ck_Sum := ((2, 0, 0), 245, [.inr (.inr (.inl 1)), .inl (ck_one 13)], ([], [], [(3, 6, 6, (0, 299, [(10, 0)]))]), ([], []), [(.inr (some (.inl (ck_one 0))), 245, ([], [], [])), (.inr (some (.inl (ck_one 1))), 245, ([], [], []))])
set_option maxRecDepth 100000 in
theorem p2_s715_s {X : Int → Int} {LX : Nat} : ck_Ok p2_O X LX 66 p2_s715 := ck_ok_s (O := p2_O) (X := X) (LX := LX) (E := [(28, [p2_s714]), (10, [p2_s335, p2_s350]), (67, [p2_s351])]) (mi := 66) (cuts := []) (f := 134) (S := p2_s715) (lx := none) (XF := []) ⟨p2_nmu, ck_E1 (ck_S1 p2_s714_s ck_S0) (ck_E1 (ck_S1 p2_s335_s (ck_S1 p2_s350_s ck_S0)) (ck_E1 (ck_S1 p2_s351_s ck_S0) ck_E0))⟩ ck_X0 ck_l0 (by decide +kernel)
set_option maxRecDepth 100000 in
/-- GlacierMail$Rows.put -/
noncomputable def p2_s716 : ck_Sum := ((0, 0, 0), 245, [.inr (.inr (.inl 10)), .inl (ck_one 13), .inl (ck_one 5), .inl ((-1), 299, [])], ([], [], []), ([(11, 96, 96)], []), [(.inr none, 245, ([], [], []))])
set_option maxRecDepth 100000 in
theorem p2_s716_s {X : Int → Int} {LX : Nat} : ck_Ok p2_O X LX 45 p2_s716 := ck_ok_s (O := p2_O) (X := X) (LX := LX) (E := []) (mi := 45) (cuts := []) (f := 116) (S := p2_s716) (lx := none) (XF := []) ⟨p2_nmu, ck_E0⟩ ck_X0 ck_l0 (by decide +kernel)
set_option maxRecDepth 100000 in
/-- GlacierMail$Rows.put -/
noncomputable def p2_s717 : ck_Sum := ((0, 0, 0), 245, [.inr (.inr (.inl 10)), .inl (ck_one 13), .inl (ck_one 6), .inl (0, 299, [])], ([], [], []), ([(11, 97, 97)], []), [(.inr none, 245, ([], [], []))])
set_option maxRecDepth 100000 in
theorem p2_s717_s {X : Int → Int} {LX : Nat} : ck_Ok p2_O X LX 45 p2_s717 := ck_ok_s (O := p2_O) (X := X) (LX := LX) (E := []) (mi := 45) (cuts := []) (f := 116) (S := p2_s717) (lx := none) (XF := []) ⟨p2_nmu, ck_E0⟩ ck_X0 ck_l0 (by decide +kernel)
set_option maxRecDepth 100000 in
/-- GlacierMail$Rows.put -/
noncomputable def p2_s718 : ck_Sum := ((0, 0, 0), 245, [.inr (.inr (.inl 14)), .inl (0, 23, []), .inl (ck_one 1), .inl (ck_one 13)], ([], [], []), (zl173, []), [(.inr none, 245, ([], [], []))])
set_option maxRecDepth 100000 in
theorem p2_s718_s {X : Int → Int} {LX : Nat} : ck_Ok p2_O X LX 45 p2_s718 := ck_ok_s (O := p2_O) (X := X) (LX := LX) (E := []) (mi := 45) (cuts := []) (f := 116) (S := p2_s718) (lx := none) (XF := []) ⟨p2_nmu, ck_E0⟩ ck_X0 ck_l0 (by decide +kernel)
set_option maxRecDepth 100000 in
/-- GlacierMail$Rows.put -/
noncomputable def p2_s719 : ck_Sum := ((0, 0, 0), 245, [.inr (.inr (.inl 14)), .inl (ck_one (-1)), .inl (ck_one 1), .inl (ck_one 13)], ([], [], []), ([], []), [(.inr none, 245, ([], [], []))])
set_option maxRecDepth 100000 in
theorem p2_s719_s {X : Int → Int} {LX : Nat} : ck_Ok p2_O X LX 45 p2_s719 := ck_ok_s (O := p2_O) (X := X) (LX := LX) (E := []) (mi := 45) (cuts := []) (f := 76) (S := p2_s719) (lx := none) (XF := []) ⟨p2_nmu, ck_E0⟩ ck_X0 ck_l0 (by decide +kernel)
set_option maxRecDepth 100000 in
/-- GlacierMail$State.openLetter -/
noncomputable def p2_s720 : ck_Sum := ((1, 0, 0), 245, [.inr (.inr (.inl 3)), .inl (ck_one 13), .inl ((-1), 299, [])], ([], [], [(3, 6, 6, (0, 299, [(10, 0)]))]), ([(11, 96, 97), (14, 3, 3), (15, 0, 71)], []), [(.inr none, 245, ([], [], [(14, 3, 3, (1, 24, []))]))])
set_option maxRecDepth 100000 in
theorem p2_s720_s {X : Int → Int} {LX : Nat} : ck_Ok p2_O X LX 159 p2_s720 := ck_ok_s (O := p2_O) (X := X) (LX := LX) (E := [(45, [p2_s716, p2_s717, p2_s583, p2_s718, p2_s585, p2_s586, p2_s719, p2_s588]), (102, [p2_s589])]) (mi := 159) (cuts := []) (f := 144) (S := p2_s720) (lx := none) (XF := []) ⟨p2_nmu, ck_E1 (ck_S1 p2_s716_s (ck_S1 p2_s717_s (ck_S1 p2_s583_s (ck_S1 p2_s718_s (ck_S1 p2_s585_s (ck_S1 p2_s586_s (ck_S1 p2_s719_s (ck_S1 p2_s588_s ck_S0)))))))) (ck_E1 (ck_S1 p2_s589_s ck_S0) ck_E0)⟩ ck_X0 ck_l0 (by decide +kernel)
end
/-! 78r80a08.sf -/
section
/-! EVERY CALL ENDS, whatever was done before (laid by wip/am/p2k.py). -/
set_option maxRecDepth 100000 in
/-- GlacierMail.open -/
noncomputable def p2_s721 : ck_Sum := ((8, 2, 12), 245, [.inr (.inr (.inl 1)), .inl (ck_one 13)], ([], zl102, [(3, 6, 6, (0, 299, [(10, 0)]))]), ([(1, 15, 15), (11, 96, 97), (14, 3, 3), (15, 0, 71), (42, 1, 2), (44, 0, 7), (45, 3, 3), (46, 0, 55), (47, 3, 3), (48, 0, 23), (49, 3, 3), (50, 0, 23), (51, 3, 3), (52, 0, 167), (53, 3, 3), (54, 0, 35), (55, 3, 3), (56, 0, 71), (57, 0, 7), (58, 3, 3), (59, 0, 55), (60, 3, 3), (61, 0, 23), (62, 3, 3), (63, 0, 23), (64, 3, 3), (65, 0, 167), (66, 3, 3), (67, 0, 35), (68, 3, 3), (69, 0, 71), (70, 0, 7), (71, 3, 3), (72, 0, 55), (73, 3, 3), (74, 0, 23), (75, 3, 3), (76, 0, 23), (77, 3, 3), (78, 0, 167), (79, 3, 3), (80, 0, 35), (81, 3, 3), (82, 0, 71), (83, 0, 7), (84, 3, 3), (85, 0, 55), (86, 3, 3), (87, 0, 23), (88, 3, 3), (89, 0, 23), (90, 3, 3), (91, 0, 167), (92, 3, 3), (93, 0, 35), (94, 3, 3), (95, 0, 71), (96, 0, 7), (97, 3, 3), (98, 0, 55), (99, 3, 3), (100, 0, 23), (101, 3, 3), (102, 0, 23), (103, 3, 3), (104, 0, 167), (105, 3, 3), (106, 0, 35), (107, 3, 3), (108, 0, 71), (109, 0, 7), (110, 3, 3), (111, 0, 55), (112, 3, 3), (113, 0, 23), (114, 3, 3), (115, 0, 23), (116, 3, 3), (117, 0, 167), (118, 3, 3), (119, 0, 35), (120, 3, 3), (121, 0, 71), (122, 0, 7), (123, 3, 3), (124, 0, 55), (125, 3, 3), (126, 0, 23), (127, 3, 3), (128, 0, 23), (129, 3, 3), (130, 0, 167), (131, 3, 3), (132, 0, 35), (133, 3, 3), (134, 0, 71), (135, 0, 7), (136, 3, 3), (137, 0, 55), (138, 3, 3), (139, 0, 23), (140, 3, 3), (141, 0, 23), (142, 3, 3), (143, 0, 167), (144, 3, 3), (145, 0, 35), (146, 3, 3), (147, 0, 71), (148, 0, 7), (149, 3, 3), (150, 0, 55), (151, 3, 3), (152, 0, 23), (153, 3, 3), (154, 0, 23), (155, 3, 3), (156, 0, 167), (157, 3, 3), (158, 0, 35), (159, 3, 3), (160, 0, 71), (161, 0, 7), (162, 3, 3), (163, 0, 55), (164, 3, 3), (165, 0, 23), (166, 3, 3), (167, 0, 23), (168, 3, 3), (169, 0, 167), (170, 3, 3), (171, 0, 35), (172, 3, 3), (173, 0, 71), (174, 0, 7), (175, 3, 3), (176, 0, 55), (177, 3, 3), (178, 0, 23), (179, 3, 3), (180, 0, 23), (181, 3, 3), (182, 0, 167), (183, 3, 3), (184, 0, 35), (185, 3, 3), (186, 0, 71), (187, 0, 7), (188, 3, 3), (189, 0, 55), (190, 3, 3), (191, 0, 23), (192, 3, 3), (193, 0, 23), (194, 3, 3), (195, 0, 167), (196, 3, 3), (197, 0, 35), (198, 3, 3), (199, 0, 71), (206, 2, 8), (220, 3, 3), (221, 0, 47)], zl104), zl175)
set_option maxRecDepth 100000 in
theorem p2_s721_s {X : Int → Int} {LX : Nat} : ck_Ok p2_O X LX 158 p2_s721 := ck_ok_s (O := p2_O) (X := X) (LX := LX) (E := [(143, [p2_s713]), (24, [p2_s349]), (66, [p2_s715]), (154, [p2_s529]), (10, [p2_s335]), (159, [p2_s720])]) (mi := 158) (cuts := []) (f := 140) (S := p2_s721) (lx := none) (XF := []) ⟨p2_nmu, ck_E1 (ck_S1 p2_s713_s ck_S0) (ck_E1 (ck_S1 p2_s349_s ck_S0) (ck_E1 (ck_S1 p2_s715_s ck_S0) (ck_E1 (ck_S1 p2_s529_s ck_S0) (ck_E1 (ck_S1 p2_s335_s ck_S0) (ck_E1 (ck_S1 p2_s720_s ck_S0) ck_E0)))))⟩ ck_X0 ck_l0 (by decide +kernel)
set_option maxRecDepth 100000 in
/-- GlacierMail.need -/
noncomputable def p2_s722 : ck_Sum := ((6, 1, 6), 245, [.inr (.inr (.inl 1)), .inl (ck_one 14), .inl (0, 24, [])], ([], [], []), ([], []), [(.inr none, 245, ([], [], [])), (.inl 3, 245, ([], [], []))])
set_option maxRecDepth 100000 in
theorem p2_s722_s {X : Int → Int} {LX : Nat} : ck_Ok p2_O X LX 133 p2_s722 := ck_ok_s (O := p2_O) (X := X) (LX := LX) (E := []) (mi := 133) (cuts := []) (f := 82) (S := p2_s722) (lx := none) (XF := []) ⟨p2_nmu, ck_E0⟩ ck_X0 ck_l0 (by decide +kernel)
set_option maxRecDepth 100000 in
/-- GlacierMail.needLetter -/
noncomputable def p2_s723 : ck_Sum := ((7, 1, 6), 245, [.inr (.inr (.inl 1)), .inl (ck_one 14)], ([], [], []), ([], []), [(.inl 3, 245, ([], [], [])), (.inr none, 245, ([], [], []))])
set_option maxRecDepth 100000 in
theorem p2_s723_s {X : Int → Int} {LX : Nat} : ck_Ok p2_O X LX 143 p2_s723 := ck_ok_s (O := p2_O) (X := X) (LX := LX) (E := [(9, [p2_s331]), (133, [p2_s722])]) (mi := 143) (cuts := []) (f := 86) (S := p2_s723) (lx := none) (XF := []) ⟨p2_nmu, ck_E1 (ck_S1 p2_s331_s ck_S0) (ck_E1 (ck_S1 p2_s722_s ck_S0) ck_E0)⟩ ck_X0 ck_l0 (by decide +kernel)
set_option maxRecDepth 100000 in
/-- GlacierMail$State.isRock -/
noncomputable def p2_s724 : ck_Sum := ((1, 0, 0), 245, [.inr (.inr (.inl 3)), .inl (ck_one 14)], ([], [], []), ([], []), [(.inr (some (.inl (ck_one 0))), 245, ([], [], [])), (.inr (some (.inl (ck_one 1))), 245, ([], [], []))])
set_option maxRecDepth 100000 in
theorem p2_s724_s {X : Int → Int} {LX : Nat} : ck_Ok p2_O X LX 28 p2_s724 := ck_ok_s (O := p2_O) (X := X) (LX := LX) (E := [(10, [p2_s335])]) (mi := 28) (cuts := []) (f := 90) (S := p2_s724) (lx := none) (XF := []) ⟨p2_nmu, ck_E1 (ck_S1 p2_s335_s ck_S0) ck_E0⟩ ck_X0 ck_l0 (by decide +kernel)
set_option maxRecDepth 100000 in
/-- GlacierMail.waits -/
noncomputable def p2_s725 : ck_Sum := ((2, 0, 0), 245, [.inr (.inr (.inl 1)), .inl (ck_one 14)], ([], [], [(3, 6, 6, (0, 299, [(10, 0)]))]), ([], []), [(.inr (some (.inl (ck_one 0))), 245, ([], [], [])), (.inr (some (.inl (ck_one 1))), 245, ([], [], []))])
set_option maxRecDepth 100000 in
theorem p2_s725_s {X : Int → Int} {LX : Nat} : ck_Ok p2_O X LX 66 p2_s725 := ck_ok_s (O := p2_O) (X := X) (LX := LX) (E := [(28, [p2_s724]), (10, [p2_s335, p2_s350]), (67, [p2_s351])]) (mi := 66) (cuts := []) (f := 134) (S := p2_s725) (lx := none) (XF := []) ⟨p2_nmu, ck_E1 (ck_S1 p2_s724_s ck_S0) (ck_E1 (ck_S1 p2_s335_s (ck_S1 p2_s350_s ck_S0)) (ck_E1 (ck_S1 p2_s351_s ck_S0) ck_E0))⟩ ck_X0 ck_l0 (by decide +kernel)
set_option maxRecDepth 100000 in
/-- GlacierMail$Rows.put -/
noncomputable def p2_s726 : ck_Sum := ((0, 0, 0), 245, [.inr (.inr (.inl 10)), .inl (ck_one 14), .inl (ck_one 5), .inl ((-1), 299, [])], ([], [], []), ([(11, 103, 103)], []), [(.inr none, 245, ([], [], []))])
set_option maxRecDepth 100000 in
theorem p2_s726_s {X : Int → Int} {LX : Nat} : ck_Ok p2_O X LX 45 p2_s726 := ck_ok_s (O := p2_O) (X := X) (LX := LX) (E := []) (mi := 45) (cuts := []) (f := 116) (S := p2_s726) (lx := none) (XF := []) ⟨p2_nmu, ck_E0⟩ ck_X0 ck_l0 (by decide +kernel)
set_option maxRecDepth 100000 in
/-- GlacierMail$Rows.put -/
noncomputable def p2_s727 : ck_Sum := ((0, 0, 0), 245, [.inr (.inr (.inl 10)), .inl (ck_one 14), .inl (ck_one 6), .inl (0, 299, [])], ([], [], []), ([(11, 104, 104)], []), [(.inr none, 245, ([], [], []))])
set_option maxRecDepth 100000 in
theorem p2_s727_s {X : Int → Int} {LX : Nat} : ck_Ok p2_O X LX 45 p2_s727 := ck_ok_s (O := p2_O) (X := X) (LX := LX) (E := []) (mi := 45) (cuts := []) (f := 116) (S := p2_s727) (lx := none) (XF := []) ⟨p2_nmu, ck_E0⟩ ck_X0 ck_l0 (by decide +kernel)
set_option maxRecDepth 100000 in
/-- GlacierMail$Rows.put -/
noncomputable def p2_s728 : ck_Sum := ((0, 0, 0), 245, [.inr (.inr (.inl 14)), .inl (0, 23, []), .inl (ck_one 1), .inl (ck_one 14)], ([], [], []), (zl173, []), [(.inr none, 245, ([], [], []))])
set_option maxRecDepth 100000 in
theorem p2_s728_s {X : Int → Int} {LX : Nat} : ck_Ok p2_O X LX 45 p2_s728 := ck_ok_s (O := p2_O) (X := X) (LX := LX) (E := []) (mi := 45) (cuts := []) (f := 116) (S := p2_s728) (lx := none) (XF := []) ⟨p2_nmu, ck_E0⟩ ck_X0 ck_l0 (by decide +kernel)
set_option maxRecDepth 100000 in
/-- GlacierMail$Rows.put -/
noncomputable def p2_s729 : ck_Sum := ((0, 0, 0), 245, [.inr (.inr (.inl 14)), .inl (ck_one (-1)), .inl (ck_one 1), .inl (ck_one 14)], ([], [], []), ([], []), [(.inr none, 245, ([], [], []))])
set_option maxRecDepth 100000 in
theorem p2_s729_s {X : Int → Int} {LX : Nat} : ck_Ok p2_O X LX 45 p2_s729 := ck_ok_s (O := p2_O) (X := X) (LX := LX) (E := []) (mi := 45) (cuts := []) (f := 76) (S := p2_s729) (lx := none) (XF := []) ⟨p2_nmu, ck_E0⟩ ck_X0 ck_l0 (by decide +kernel)
set_option maxRecDepth 100000 in
/-- GlacierMail$State.openLetter -/
noncomputable def p2_s730 : ck_Sum := ((1, 0, 0), 245, [.inr (.inr (.inl 3)), .inl (ck_one 14), .inl ((-1), 299, [])], ([], [], [(3, 6, 6, (0, 299, [(10, 0)]))]), ([(11, 103, 104), (14, 3, 3), (15, 0, 71)], []), [(.inr none, 245, ([], [], [(14, 3, 3, (1, 24, []))]))])
set_option maxRecDepth 100000 in
theorem p2_s730_s {X : Int → Int} {LX : Nat} : ck_Ok p2_O X LX 159 p2_s730 := ck_ok_s (O := p2_O) (X := X) (LX := LX) (E := [(45, [p2_s726, p2_s727, p2_s583, p2_s728, p2_s585, p2_s586, p2_s729, p2_s588]), (102, [p2_s589])]) (mi := 159) (cuts := []) (f := 144) (S := p2_s730) (lx := none) (XF := []) ⟨p2_nmu, ck_E1 (ck_S1 p2_s726_s (ck_S1 p2_s727_s (ck_S1 p2_s583_s (ck_S1 p2_s728_s (ck_S1 p2_s585_s (ck_S1 p2_s586_s (ck_S1 p2_s729_s (ck_S1 p2_s588_s ck_S0)))))))) (ck_E1 (ck_S1 p2_s589_s ck_S0) ck_E0)⟩ ck_X0 ck_l0 (by decide +kernel)
set_option maxRecDepth 100000 in
/-- GlacierMail.open -/
noncomputable def p2_s731 : ck_Sum := ((8, 2, 12), 245, [.inr (.inr (.inl 1)), .inl (ck_one 14)], ([], zl102, [(3, 6, 6, (0, 299, [(10, 0)]))]), ([(1, 15, 15), (11, 103, 104), (14, 3, 3), (15, 0, 71), (42, 1, 2), (44, 0, 7), (45, 3, 3), (46, 0, 55), (47, 3, 3), (48, 0, 23), (49, 3, 3), (50, 0, 23), (51, 3, 3), (52, 0, 167), (53, 3, 3), (54, 0, 35), (55, 3, 3), (56, 0, 71), (57, 0, 7), (58, 3, 3), (59, 0, 55), (60, 3, 3), (61, 0, 23), (62, 3, 3), (63, 0, 23), (64, 3, 3), (65, 0, 167), (66, 3, 3), (67, 0, 35), (68, 3, 3), (69, 0, 71), (70, 0, 7), (71, 3, 3), (72, 0, 55), (73, 3, 3), (74, 0, 23), (75, 3, 3), (76, 0, 23), (77, 3, 3), (78, 0, 167), (79, 3, 3), (80, 0, 35), (81, 3, 3), (82, 0, 71), (83, 0, 7), (84, 3, 3), (85, 0, 55), (86, 3, 3), (87, 0, 23), (88, 3, 3), (89, 0, 23), (90, 3, 3), (91, 0, 167), (92, 3, 3), (93, 0, 35), (94, 3, 3), (95, 0, 71), (96, 0, 7), (97, 3, 3), (98, 0, 55), (99, 3, 3), (100, 0, 23), (101, 3, 3), (102, 0, 23), (103, 3, 3), (104, 0, 167), (105, 3, 3), (106, 0, 35), (107, 3, 3), (108, 0, 71), (109, 0, 7), (110, 3, 3), (111, 0, 55), (112, 3, 3), (113, 0, 23), (114, 3, 3), (115, 0, 23), (116, 3, 3), (117, 0, 167), (118, 3, 3), (119, 0, 35), (120, 3, 3), (121, 0, 71), (122, 0, 7), (123, 3, 3), (124, 0, 55), (125, 3, 3), (126, 0, 23), (127, 3, 3), (128, 0, 23), (129, 3, 3), (130, 0, 167), (131, 3, 3), (132, 0, 35), (133, 3, 3), (134, 0, 71), (135, 0, 7), (136, 3, 3), (137, 0, 55), (138, 3, 3), (139, 0, 23), (140, 3, 3), (141, 0, 23), (142, 3, 3), (143, 0, 167), (144, 3, 3), (145, 0, 35), (146, 3, 3), (147, 0, 71), (148, 0, 7), (149, 3, 3), (150, 0, 55), (151, 3, 3), (152, 0, 23), (153, 3, 3), (154, 0, 23), (155, 3, 3), (156, 0, 167), (157, 3, 3), (158, 0, 35), (159, 3, 3), (160, 0, 71), (161, 0, 7), (162, 3, 3), (163, 0, 55), (164, 3, 3), (165, 0, 23), (166, 3, 3), (167, 0, 23), (168, 3, 3), (169, 0, 167), (170, 3, 3), (171, 0, 35), (172, 3, 3), (173, 0, 71), (174, 0, 7), (175, 3, 3), (176, 0, 55), (177, 3, 3), (178, 0, 23), (179, 3, 3), (180, 0, 23), (181, 3, 3), (182, 0, 167), (183, 3, 3), (184, 0, 35), (185, 3, 3), (186, 0, 71), (187, 0, 7), (188, 3, 3), (189, 0, 55), (190, 3, 3), (191, 0, 23), (192, 3, 3), (193, 0, 23), (194, 3, 3), (195, 0, 167), (196, 3, 3), (197, 0, 35), (198, 3, 3), (199, 0, 71), (206, 2, 8), (220, 3, 3), (221, 0, 47)], zl104), zl175)
set_option maxRecDepth 100000 in
theorem p2_s731_s {X : Int → Int} {LX : Nat} : ck_Ok p2_O X LX 158 p2_s731 := ck_ok_s (O := p2_O) (X := X) (LX := LX) (E := [(143, [p2_s723]), (24, [p2_s349]), (66, [p2_s725]), (154, [p2_s529]), (10, [p2_s335]), (159, [p2_s730])]) (mi := 158) (cuts := []) (f := 140) (S := p2_s731) (lx := none) (XF := []) ⟨p2_nmu, ck_E1 (ck_S1 p2_s723_s ck_S0) (ck_E1 (ck_S1 p2_s349_s ck_S0) (ck_E1 (ck_S1 p2_s725_s ck_S0) (ck_E1 (ck_S1 p2_s529_s ck_S0) (ck_E1 (ck_S1 p2_s335_s ck_S0) (ck_E1 (ck_S1 p2_s730_s ck_S0) ck_E0)))))⟩ ck_X0 ck_l0 (by decide +kernel)
set_option maxRecDepth 100000 in
/-- GlacierMail.need -/
noncomputable def p2_s732 : ck_Sum := ((6, 1, 6), 245, [.inr (.inr (.inl 1)), .inl (ck_one 15), .inl (0, 24, [])], ([], [], []), ([], []), [(.inr none, 245, ([], [], [])), (.inl 3, 245, ([], [], []))])
set_option maxRecDepth 100000 in
theorem p2_s732_s {X : Int → Int} {LX : Nat} : ck_Ok p2_O X LX 133 p2_s732 := ck_ok_s (O := p2_O) (X := X) (LX := LX) (E := []) (mi := 133) (cuts := []) (f := 82) (S := p2_s732) (lx := none) (XF := []) ⟨p2_nmu, ck_E0⟩ ck_X0 ck_l0 (by decide +kernel)
set_option maxRecDepth 100000 in
/-- GlacierMail.needLetter -/
noncomputable def p2_s733 : ck_Sum := ((7, 1, 6), 245, [.inr (.inr (.inl 1)), .inl (ck_one 15)], ([], [], []), ([], []), [(.inl 3, 245, ([], [], [])), (.inr none, 245, ([], [], []))])
set_option maxRecDepth 100000 in
theorem p2_s733_s {X : Int → Int} {LX : Nat} : ck_Ok p2_O X LX 143 p2_s733 := ck_ok_s (O := p2_O) (X := X) (LX := LX) (E := [(9, [p2_s331]), (133, [p2_s732])]) (mi := 143) (cuts := []) (f := 86) (S := p2_s733) (lx := none) (XF := []) ⟨p2_nmu, ck_E1 (ck_S1 p2_s331_s ck_S0) (ck_E1 (ck_S1 p2_s732_s ck_S0) ck_E0)⟩ ck_X0 ck_l0 (by decide +kernel)
set_option maxRecDepth 100000 in
/-- GlacierMail$State.isRock -/
noncomputable def p2_s734 : ck_Sum := ((1, 0, 0), 245, [.inr (.inr (.inl 3)), .inl (ck_one 15)], ([], [], []), ([], []), [(.inr (some (.inl (ck_one 0))), 245, ([], [], [])), (.inr (some (.inl (ck_one 1))), 245, ([], [], []))])
set_option maxRecDepth 100000 in
theorem p2_s734_s {X : Int → Int} {LX : Nat} : ck_Ok p2_O X LX 28 p2_s734 := ck_ok_s (O := p2_O) (X := X) (LX := LX) (E := [(10, [p2_s335])]) (mi := 28) (cuts := []) (f := 90) (S := p2_s734) (lx := none) (XF := []) ⟨p2_nmu, ck_E1 (ck_S1 p2_s335_s ck_S0) ck_E0⟩ ck_X0 ck_l0 (by decide +kernel)
set_option maxRecDepth 100000 in
/-- GlacierMail.waits -/
noncomputable def p2_s735 : ck_Sum := ((2, 0, 0), 245, [.inr (.inr (.inl 1)), .inl (ck_one 15)], ([], [], [(3, 6, 6, (0, 299, [(10, 0)]))]), ([], []), [(.inr (some (.inl (ck_one 0))), 245, ([], [], [])), (.inr (some (.inl (ck_one 1))), 245, ([], [], []))])
set_option maxRecDepth 100000 in
theorem p2_s735_s {X : Int → Int} {LX : Nat} : ck_Ok p2_O X LX 66 p2_s735 := ck_ok_s (O := p2_O) (X := X) (LX := LX) (E := [(28, [p2_s734]), (10, [p2_s335, p2_s350]), (67, [p2_s351])]) (mi := 66) (cuts := []) (f := 134) (S := p2_s735) (lx := none) (XF := []) ⟨p2_nmu, ck_E1 (ck_S1 p2_s734_s ck_S0) (ck_E1 (ck_S1 p2_s335_s (ck_S1 p2_s350_s ck_S0)) (ck_E1 (ck_S1 p2_s351_s ck_S0) ck_E0))⟩ ck_X0 ck_l0 (by decide +kernel)
set_option maxRecDepth 100000 in
/-- GlacierMail$Rows.put -/
noncomputable def p2_s736 : ck_Sum := ((0, 0, 0), 245, [.inr (.inr (.inl 10)), .inl (ck_one 15), .inl (ck_one 5), .inl ((-1), 299, [])], ([], [], []), ([(11, 110, 110)], []), [(.inr none, 245, ([], [], []))])
set_option maxRecDepth 100000 in
theorem p2_s736_s {X : Int → Int} {LX : Nat} : ck_Ok p2_O X LX 45 p2_s736 := ck_ok_s (O := p2_O) (X := X) (LX := LX) (E := []) (mi := 45) (cuts := []) (f := 116) (S := p2_s736) (lx := none) (XF := []) ⟨p2_nmu, ck_E0⟩ ck_X0 ck_l0 (by decide +kernel)
set_option maxRecDepth 100000 in
/-- GlacierMail$Rows.put -/
noncomputable def p2_s737 : ck_Sum := ((0, 0, 0), 245, [.inr (.inr (.inl 10)), .inl (ck_one 15), .inl (ck_one 6), .inl (0, 299, [])], ([], [], []), ([(11, 111, 111)], []), [(.inr none, 245, ([], [], []))])
set_option maxRecDepth 100000 in
theorem p2_s737_s {X : Int → Int} {LX : Nat} : ck_Ok p2_O X LX 45 p2_s737 := ck_ok_s (O := p2_O) (X := X) (LX := LX) (E := []) (mi := 45) (cuts := []) (f := 116) (S := p2_s737) (lx := none) (XF := []) ⟨p2_nmu, ck_E0⟩ ck_X0 ck_l0 (by decide +kernel)
set_option maxRecDepth 100000 in
/-- GlacierMail$Rows.put -/
noncomputable def p2_s738 : ck_Sum := ((0, 0, 0), 245, [.inr (.inr (.inl 14)), .inl (0, 23, []), .inl (ck_one 1), .inl (ck_one 15)], ([], [], []), (zl173, []), [(.inr none, 245, ([], [], []))])
set_option maxRecDepth 100000 in
theorem p2_s738_s {X : Int → Int} {LX : Nat} : ck_Ok p2_O X LX 45 p2_s738 := ck_ok_s (O := p2_O) (X := X) (LX := LX) (E := []) (mi := 45) (cuts := []) (f := 116) (S := p2_s738) (lx := none) (XF := []) ⟨p2_nmu, ck_E0⟩ ck_X0 ck_l0 (by decide +kernel)
set_option maxRecDepth 100000 in
/-- GlacierMail$Rows.put -/
noncomputable def p2_s739 : ck_Sum := ((0, 0, 0), 245, [.inr (.inr (.inl 14)), .inl (ck_one (-1)), .inl (ck_one 1), .inl (ck_one 15)], ([], [], []), ([], []), [(.inr none, 245, ([], [], []))])
set_option maxRecDepth 100000 in
theorem p2_s739_s {X : Int → Int} {LX : Nat} : ck_Ok p2_O X LX 45 p2_s739 := ck_ok_s (O := p2_O) (X := X) (LX := LX) (E := []) (mi := 45) (cuts := []) (f := 76) (S := p2_s739) (lx := none) (XF := []) ⟨p2_nmu, ck_E0⟩ ck_X0 ck_l0 (by decide +kernel)
set_option maxRecDepth 100000 in
/-- GlacierMail$State.openLetter -/
noncomputable def p2_s740 : ck_Sum := ((1, 0, 0), 245, [.inr (.inr (.inl 3)), .inl (ck_one 15), .inl ((-1), 299, [])], ([], [], [(3, 6, 6, (0, 299, [(10, 0)]))]), ([(11, 110, 111), (14, 3, 3), (15, 0, 71)], []), [(.inr none, 245, ([], [], [(14, 3, 3, (1, 24, []))]))])
set_option maxRecDepth 100000 in
theorem p2_s740_s {X : Int → Int} {LX : Nat} : ck_Ok p2_O X LX 159 p2_s740 := ck_ok_s (O := p2_O) (X := X) (LX := LX) (E := [(45, [p2_s736, p2_s737, p2_s583, p2_s738, p2_s585, p2_s586, p2_s739, p2_s588]), (102, [p2_s589])]) (mi := 159) (cuts := []) (f := 144) (S := p2_s740) (lx := none) (XF := []) ⟨p2_nmu, ck_E1 (ck_S1 p2_s736_s (ck_S1 p2_s737_s (ck_S1 p2_s583_s (ck_S1 p2_s738_s (ck_S1 p2_s585_s (ck_S1 p2_s586_s (ck_S1 p2_s739_s (ck_S1 p2_s588_s ck_S0)))))))) (ck_E1 (ck_S1 p2_s589_s ck_S0) ck_E0)⟩ ck_X0 ck_l0 (by decide +kernel)
set_option maxRecDepth 100000 in
/-- GlacierMail.open -/
noncomputable def p2_s741 : ck_Sum := ((8, 2, 12), 245, [.inr (.inr (.inl 1)), .inl (ck_one 15)], ([], zl102, [(3, 6, 6, (0, 299, [(10, 0)]))]), ([(1, 15, 15), (11, 110, 111), (14, 3, 3), (15, 0, 71), (42, 1, 2), (44, 0, 7), (45, 3, 3), (46, 0, 55), (47, 3, 3), (48, 0, 23), (49, 3, 3), (50, 0, 23), (51, 3, 3), (52, 0, 167), (53, 3, 3), (54, 0, 35), (55, 3, 3), (56, 0, 71), (57, 0, 7), (58, 3, 3), (59, 0, 55), (60, 3, 3), (61, 0, 23), (62, 3, 3), (63, 0, 23), (64, 3, 3), (65, 0, 167), (66, 3, 3), (67, 0, 35), (68, 3, 3), (69, 0, 71), (70, 0, 7), (71, 3, 3), (72, 0, 55), (73, 3, 3), (74, 0, 23), (75, 3, 3), (76, 0, 23), (77, 3, 3), (78, 0, 167), (79, 3, 3), (80, 0, 35), (81, 3, 3), (82, 0, 71), (83, 0, 7), (84, 3, 3), (85, 0, 55), (86, 3, 3), (87, 0, 23), (88, 3, 3), (89, 0, 23), (90, 3, 3), (91, 0, 167), (92, 3, 3), (93, 0, 35), (94, 3, 3), (95, 0, 71), (96, 0, 7), (97, 3, 3), (98, 0, 55), (99, 3, 3), (100, 0, 23), (101, 3, 3), (102, 0, 23), (103, 3, 3), (104, 0, 167), (105, 3, 3), (106, 0, 35), (107, 3, 3), (108, 0, 71), (109, 0, 7), (110, 3, 3), (111, 0, 55), (112, 3, 3), (113, 0, 23), (114, 3, 3), (115, 0, 23), (116, 3, 3), (117, 0, 167), (118, 3, 3), (119, 0, 35), (120, 3, 3), (121, 0, 71), (122, 0, 7), (123, 3, 3), (124, 0, 55), (125, 3, 3), (126, 0, 23), (127, 3, 3), (128, 0, 23), (129, 3, 3), (130, 0, 167), (131, 3, 3), (132, 0, 35), (133, 3, 3), (134, 0, 71), (135, 0, 7), (136, 3, 3), (137, 0, 55), (138, 3, 3), (139, 0, 23), (140, 3, 3), (141, 0, 23), (142, 3, 3), (143, 0, 167), (144, 3, 3), (145, 0, 35), (146, 3, 3), (147, 0, 71), (148, 0, 7), (149, 3, 3), (150, 0, 55), (151, 3, 3), (152, 0, 23), (153, 3, 3), (154, 0, 23), (155, 3, 3), (156, 0, 167), (157, 3, 3), (158, 0, 35), (159, 3, 3), (160, 0, 71), (161, 0, 7), (162, 3, 3), (163, 0, 55), (164, 3, 3), (165, 0, 23), (166, 3, 3), (167, 0, 23), (168, 3, 3), (169, 0, 167), (170, 3, 3), (171, 0, 35), (172, 3, 3), (173, 0, 71), (174, 0, 7), (175, 3, 3), (176, 0, 55), (177, 3, 3), (178, 0, 23), (179, 3, 3), (180, 0, 23), (181, 3, 3), (182, 0, 167), (183, 3, 3), (184, 0, 35), (185, 3, 3), (186, 0, 71), (187, 0, 7), (188, 3, 3), (189, 0, 55), (190, 3, 3), (191, 0, 23), (192, 3, 3), (193, 0, 23), (194, 3, 3), (195, 0, 167), (196, 3, 3), (197, 0, 35), (198, 3, 3), (199, 0, 71), (206, 2, 8), (220, 3, 3), (221, 0, 47)], zl104), zl175)
set_option maxRecDepth 100000 in
theorem p2_s741_s {X : Int → Int} {LX : Nat} : ck_Ok p2_O X LX 158 p2_s741 := ck_ok_s (O := p2_O) (X := X) (LX := LX) (E := [(143, [p2_s733]), (24, [p2_s349]), (66, [p2_s735]), (154, [p2_s529]), (10, [p2_s335]), (159, [p2_s740])]) (mi := 158) (cuts := []) (f := 140) (S := p2_s741) (lx := none) (XF := []) ⟨p2_nmu, ck_E1 (ck_S1 p2_s733_s ck_S0) (ck_E1 (ck_S1 p2_s349_s ck_S0) (ck_E1 (ck_S1 p2_s735_s ck_S0) (ck_E1 (ck_S1 p2_s529_s ck_S0) (ck_E1 (ck_S1 p2_s335_s ck_S0) (ck_E1 (ck_S1 p2_s740_s ck_S0) ck_E0)))))⟩ ck_X0 ck_l0 (by decide +kernel)
set_option maxRecDepth 100000 in
/-- GlacierMail.need -/
noncomputable def p2_s742 : ck_Sum := ((6, 1, 6), 245, [.inr (.inr (.inl 1)), .inl (ck_one 16), .inl (0, 24, [])], ([], [], []), ([], []), [(.inr none, 245, ([], [], [])), (.inl 3, 245, ([], [], []))])
set_option maxRecDepth 100000 in
theorem p2_s742_s {X : Int → Int} {LX : Nat} : ck_Ok p2_O X LX 133 p2_s742 := ck_ok_s (O := p2_O) (X := X) (LX := LX) (E := []) (mi := 133) (cuts := []) (f := 82) (S := p2_s742) (lx := none) (XF := []) ⟨p2_nmu, ck_E0⟩ ck_X0 ck_l0 (by decide +kernel)
set_option maxRecDepth 100000 in
/-- GlacierMail.needLetter -/
noncomputable def p2_s743 : ck_Sum := ((7, 1, 6), 245, [.inr (.inr (.inl 1)), .inl (ck_one 16)], ([], [], []), ([], []), [(.inl 3, 245, ([], [], [])), (.inr none, 245, ([], [], []))])
set_option maxRecDepth 100000 in
theorem p2_s743_s {X : Int → Int} {LX : Nat} : ck_Ok p2_O X LX 143 p2_s743 := ck_ok_s (O := p2_O) (X := X) (LX := LX) (E := [(9, [p2_s331]), (133, [p2_s742])]) (mi := 143) (cuts := []) (f := 86) (S := p2_s743) (lx := none) (XF := []) ⟨p2_nmu, ck_E1 (ck_S1 p2_s331_s ck_S0) (ck_E1 (ck_S1 p2_s742_s ck_S0) ck_E0)⟩ ck_X0 ck_l0 (by decide +kernel)
set_option maxRecDepth 100000 in
/-- GlacierMail$State.isRock -/
noncomputable def p2_s744 : ck_Sum := ((1, 0, 0), 245, [.inr (.inr (.inl 3)), .inl (ck_one 16)], ([], [], []), ([], []), [(.inr (some (.inl (ck_one 0))), 245, ([], [], [])), (.inr (some (.inl (ck_one 1))), 245, ([], [], []))])
set_option maxRecDepth 100000 in
theorem p2_s744_s {X : Int → Int} {LX : Nat} : ck_Ok p2_O X LX 28 p2_s744 := ck_ok_s (O := p2_O) (X := X) (LX := LX) (E := [(10, [p2_s335])]) (mi := 28) (cuts := []) (f := 90) (S := p2_s744) (lx := none) (XF := []) ⟨p2_nmu, ck_E1 (ck_S1 p2_s335_s ck_S0) ck_E0⟩ ck_X0 ck_l0 (by decide +kernel)
set_option maxRecDepth 100000 in
/-- GlacierMail.waits -/
noncomputable def p2_s745 : ck_Sum := ((2, 0, 0), 245, [.inr (.inr (.inl 1)), .inl (ck_one 16)], ([], [], [(3, 6, 6, (0, 299, [(10, 0)]))]), ([], []), [(.inr (some (.inl (ck_one 0))), 245, ([], [], [])), (.inr (some (.inl (ck_one 1))), 245, ([], [], []))])
set_option maxRecDepth 100000 in
theorem p2_s745_s {X : Int → Int} {LX : Nat} : ck_Ok p2_O X LX 66 p2_s745 := ck_ok_s (O := p2_O) (X := X) (LX := LX) (E := [(28, [p2_s744]), (10, [p2_s335, p2_s350]), (67, [p2_s351])]) (mi := 66) (cuts := []) (f := 134) (S := p2_s745) (lx := none) (XF := []) ⟨p2_nmu, ck_E1 (ck_S1 p2_s744_s ck_S0) (ck_E1 (ck_S1 p2_s335_s (ck_S1 p2_s350_s ck_S0)) (ck_E1 (ck_S1 p2_s351_s ck_S0) ck_E0))⟩ ck_X0 ck_l0 (by decide +kernel)
set_option maxRecDepth 100000 in
/-- GlacierMail$Rows.put -/
noncomputable def p2_s746 : ck_Sum := ((0, 0, 0), 245, [.inr (.inr (.inl 10)), .inl (ck_one 16), .inl (ck_one 5), .inl ((-1), 299, [])], ([], [], []), ([(11, 117, 117)], []), [(.inr none, 245, ([], [], []))])
set_option maxRecDepth 100000 in
theorem p2_s746_s {X : Int → Int} {LX : Nat} : ck_Ok p2_O X LX 45 p2_s746 := ck_ok_s (O := p2_O) (X := X) (LX := LX) (E := []) (mi := 45) (cuts := []) (f := 116) (S := p2_s746) (lx := none) (XF := []) ⟨p2_nmu, ck_E0⟩ ck_X0 ck_l0 (by decide +kernel)
set_option maxRecDepth 100000 in
/-- GlacierMail$Rows.put -/
noncomputable def p2_s747 : ck_Sum := ((0, 0, 0), 245, [.inr (.inr (.inl 10)), .inl (ck_one 16), .inl (ck_one 6), .inl (0, 299, [])], ([], [], []), ([(11, 118, 118)], []), [(.inr none, 245, ([], [], []))])
set_option maxRecDepth 100000 in
theorem p2_s747_s {X : Int → Int} {LX : Nat} : ck_Ok p2_O X LX 45 p2_s747 := ck_ok_s (O := p2_O) (X := X) (LX := LX) (E := []) (mi := 45) (cuts := []) (f := 116) (S := p2_s747) (lx := none) (XF := []) ⟨p2_nmu, ck_E0⟩ ck_X0 ck_l0 (by decide +kernel)
set_option maxRecDepth 100000 in
/-- GlacierMail$Rows.put -/
noncomputable def p2_s748 : ck_Sum := ((0, 0, 0), 245, [.inr (.inr (.inl 14)), .inl (0, 23, []), .inl (ck_one 1), .inl (ck_one 16)], ([], [], []), (zl173, []), [(.inr none, 245, ([], [], []))])
set_option maxRecDepth 100000 in
theorem p2_s748_s {X : Int → Int} {LX : Nat} : ck_Ok p2_O X LX 45 p2_s748 := ck_ok_s (O := p2_O) (X := X) (LX := LX) (E := []) (mi := 45) (cuts := []) (f := 116) (S := p2_s748) (lx := none) (XF := []) ⟨p2_nmu, ck_E0⟩ ck_X0 ck_l0 (by decide +kernel)
set_option maxRecDepth 100000 in
/-- GlacierMail$Rows.put -/
noncomputable def p2_s749 : ck_Sum := ((0, 0, 0), 245, [.inr (.inr (.inl 14)), .inl (ck_one (-1)), .inl (ck_one 1), .inl (ck_one 16)], ([], [], []), ([], []), [(.inr none, 245, ([], [], []))])
set_option maxRecDepth 100000 in
theorem p2_s749_s {X : Int → Int} {LX : Nat} : ck_Ok p2_O X LX 45 p2_s749 := ck_ok_s (O := p2_O) (X := X) (LX := LX) (E := []) (mi := 45) (cuts := []) (f := 76) (S := p2_s749) (lx := none) (XF := []) ⟨p2_nmu, ck_E0⟩ ck_X0 ck_l0 (by decide +kernel)
set_option maxRecDepth 100000 in
/-- GlacierMail$State.openLetter -/
noncomputable def p2_s750 : ck_Sum := ((1, 0, 0), 245, [.inr (.inr (.inl 3)), .inl (ck_one 16), .inl ((-1), 299, [])], ([], [], [(3, 6, 6, (0, 299, [(10, 0)]))]), ([(11, 117, 118), (14, 3, 3), (15, 0, 71)], []), [(.inr none, 245, ([], [], [(14, 3, 3, (1, 24, []))]))])
set_option maxRecDepth 100000 in
theorem p2_s750_s {X : Int → Int} {LX : Nat} : ck_Ok p2_O X LX 159 p2_s750 := ck_ok_s (O := p2_O) (X := X) (LX := LX) (E := [(45, [p2_s746, p2_s747, p2_s583, p2_s748, p2_s585, p2_s586, p2_s749, p2_s588]), (102, [p2_s589])]) (mi := 159) (cuts := []) (f := 144) (S := p2_s750) (lx := none) (XF := []) ⟨p2_nmu, ck_E1 (ck_S1 p2_s746_s (ck_S1 p2_s747_s (ck_S1 p2_s583_s (ck_S1 p2_s748_s (ck_S1 p2_s585_s (ck_S1 p2_s586_s (ck_S1 p2_s749_s (ck_S1 p2_s588_s ck_S0)))))))) (ck_E1 (ck_S1 p2_s589_s ck_S0) ck_E0)⟩ ck_X0 ck_l0 (by decide +kernel)
set_option maxRecDepth 100000 in
/-- GlacierMail.open -/
noncomputable def p2_s751 : ck_Sum := ((8, 2, 12), 245, [.inr (.inr (.inl 1)), .inl (ck_one 16)], ([], zl102, [(3, 6, 6, (0, 299, [(10, 0)]))]), ([(1, 15, 15), (11, 117, 118), (14, 3, 3), (15, 0, 71), (42, 1, 2), (44, 0, 7), (45, 3, 3), (46, 0, 55), (47, 3, 3), (48, 0, 23), (49, 3, 3), (50, 0, 23), (51, 3, 3), (52, 0, 167), (53, 3, 3), (54, 0, 35), (55, 3, 3), (56, 0, 71), (57, 0, 7), (58, 3, 3), (59, 0, 55), (60, 3, 3), (61, 0, 23), (62, 3, 3), (63, 0, 23), (64, 3, 3), (65, 0, 167), (66, 3, 3), (67, 0, 35), (68, 3, 3), (69, 0, 71), (70, 0, 7), (71, 3, 3), (72, 0, 55), (73, 3, 3), (74, 0, 23), (75, 3, 3), (76, 0, 23), (77, 3, 3), (78, 0, 167), (79, 3, 3), (80, 0, 35), (81, 3, 3), (82, 0, 71), (83, 0, 7), (84, 3, 3), (85, 0, 55), (86, 3, 3), (87, 0, 23), (88, 3, 3), (89, 0, 23), (90, 3, 3), (91, 0, 167), (92, 3, 3), (93, 0, 35), (94, 3, 3), (95, 0, 71), (96, 0, 7), (97, 3, 3), (98, 0, 55), (99, 3, 3), (100, 0, 23), (101, 3, 3), (102, 0, 23), (103, 3, 3), (104, 0, 167), (105, 3, 3), (106, 0, 35), (107, 3, 3), (108, 0, 71), (109, 0, 7), (110, 3, 3), (111, 0, 55), (112, 3, 3), (113, 0, 23), (114, 3, 3), (115, 0, 23), (116, 3, 3), (117, 0, 167), (118, 3, 3), (119, 0, 35), (120, 3, 3), (121, 0, 71), (122, 0, 7), (123, 3, 3), (124, 0, 55), (125, 3, 3), (126, 0, 23), (127, 3, 3), (128, 0, 23), (129, 3, 3), (130, 0, 167), (131, 3, 3), (132, 0, 35), (133, 3, 3), (134, 0, 71), (135, 0, 7), (136, 3, 3), (137, 0, 55), (138, 3, 3), (139, 0, 23), (140, 3, 3), (141, 0, 23), (142, 3, 3), (143, 0, 167), (144, 3, 3), (145, 0, 35), (146, 3, 3), (147, 0, 71), (148, 0, 7), (149, 3, 3), (150, 0, 55), (151, 3, 3), (152, 0, 23), (153, 3, 3), (154, 0, 23), (155, 3, 3), (156, 0, 167), (157, 3, 3), (158, 0, 35), (159, 3, 3), (160, 0, 71), (161, 0, 7), (162, 3, 3), (163, 0, 55), (164, 3, 3), (165, 0, 23), (166, 3, 3), (167, 0, 23), (168, 3, 3), (169, 0, 167), (170, 3, 3), (171, 0, 35), (172, 3, 3), (173, 0, 71), (174, 0, 7), (175, 3, 3), (176, 0, 55), (177, 3, 3), (178, 0, 23), (179, 3, 3), (180, 0, 23), (181, 3, 3), (182, 0, 167), (183, 3, 3), (184, 0, 35), (185, 3, 3), (186, 0, 71), (187, 0, 7), (188, 3, 3), (189, 0, 55), (190, 3, 3), (191, 0, 23), (192, 3, 3), (193, 0, 23), (194, 3, 3), (195, 0, 167), (196, 3, 3), (197, 0, 35), (198, 3, 3), (199, 0, 71), (206, 2, 8), (220, 3, 3), (221, 0, 47)], zl104), zl175)
set_option maxRecDepth 100000 in
theorem p2_s751_s {X : Int → Int} {LX : Nat} : ck_Ok p2_O X LX 158 p2_s751 := ck_ok_s (O := p2_O) (X := X) (LX := LX) (E := [(143, [p2_s743]), (24, [p2_s349]), (66, [p2_s745]), (154, [p2_s529]), (10, [p2_s335]), (159, [p2_s750])]) (mi := 158) (cuts := []) (f := 140) (S := p2_s751) (lx := none) (XF := []) ⟨p2_nmu, ck_E1 (ck_S1 p2_s743_s ck_S0) (ck_E1 (ck_S1 p2_s349_s ck_S0) (ck_E1 (ck_S1 p2_s745_s ck_S0) (ck_E1 (ck_S1 p2_s529_s ck_S0) (ck_E1 (ck_S1 p2_s335_s ck_S0) (ck_E1 (ck_S1 p2_s750_s ck_S0) ck_E0)))))⟩ ck_X0 ck_l0 (by decide +kernel)
set_option maxRecDepth 100000 in
/-- GlacierMail.need -/
noncomputable def p2_s752 : ck_Sum := ((6, 1, 6), 245, [.inr (.inr (.inl 1)), .inl (ck_one 17), .inl (0, 24, [])], ([], [], []), ([], []), [(.inr none, 245, ([], [], [])), (.inl 3, 245, ([], [], []))])
set_option maxRecDepth 100000 in
theorem p2_s752_s {X : Int → Int} {LX : Nat} : ck_Ok p2_O X LX 133 p2_s752 := ck_ok_s (O := p2_O) (X := X) (LX := LX) (E := []) (mi := 133) (cuts := []) (f := 82) (S := p2_s752) (lx := none) (XF := []) ⟨p2_nmu, ck_E0⟩ ck_X0 ck_l0 (by decide +kernel)
set_option maxRecDepth 100000 in
/-- GlacierMail.needLetter -/
noncomputable def p2_s753 : ck_Sum := ((7, 1, 6), 245, [.inr (.inr (.inl 1)), .inl (ck_one 17)], ([], [], []), ([], []), [(.inl 3, 245, ([], [], [])), (.inr none, 245, ([], [], []))])
set_option maxRecDepth 100000 in
theorem p2_s753_s {X : Int → Int} {LX : Nat} : ck_Ok p2_O X LX 143 p2_s753 := ck_ok_s (O := p2_O) (X := X) (LX := LX) (E := [(9, [p2_s331]), (133, [p2_s752])]) (mi := 143) (cuts := []) (f := 86) (S := p2_s753) (lx := none) (XF := []) ⟨p2_nmu, ck_E1 (ck_S1 p2_s331_s ck_S0) (ck_E1 (ck_S1 p2_s752_s ck_S0) ck_E0)⟩ ck_X0 ck_l0 (by decide +kernel)
set_option maxRecDepth 100000 in
/-- GlacierMail$State.isRock -/
noncomputable def p2_s754 : ck_Sum := ((1, 0, 0), 245, [.inr (.inr (.inl 3)), .inl (ck_one 17)], ([], [], []), ([], []), [(.inr (some (.inl (ck_one 0))), 245, ([], [], [])), (.inr (some (.inl (ck_one 1))), 245, ([], [], []))])
set_option maxRecDepth 100000 in
theorem p2_s754_s {X : Int → Int} {LX : Nat} : ck_Ok p2_O X LX 28 p2_s754 := ck_ok_s (O := p2_O) (X := X) (LX := LX) (E := [(10, [p2_s335])]) (mi := 28) (cuts := []) (f := 90) (S := p2_s754) (lx := none) (XF := []) ⟨p2_nmu, ck_E1 (ck_S1 p2_s335_s ck_S0) ck_E0⟩ ck_X0 ck_l0 (by decide +kernel)
set_option maxRecDepth 100000 in
/-- GlacierMail.waits -/
noncomputable def p2_s755 : ck_Sum := ((2, 0, 0), 245, [.inr (.inr (.inl 1)), .inl (ck_one 17)], ([], [], [(3, 6, 6, (0, 299, [(10, 0)]))]), ([], []), [(.inr (some (.inl (ck_one 0))), 245, ([], [], [])), (.inr (some (.inl (ck_one 1))), 245, ([], [], []))])
set_option maxRecDepth 100000 in
theorem p2_s755_s {X : Int → Int} {LX : Nat} : ck_Ok p2_O X LX 66 p2_s755 := ck_ok_s (O := p2_O) (X := X) (LX := LX) (E := [(28, [p2_s754]), (10, [p2_s335, p2_s350]), (67, [p2_s351])]) (mi := 66) (cuts := []) (f := 134) (S := p2_s755) (lx := none) (XF := []) ⟨p2_nmu, ck_E1 (ck_S1 p2_s754_s ck_S0) (ck_E1 (ck_S1 p2_s335_s (ck_S1 p2_s350_s ck_S0)) (ck_E1 (ck_S1 p2_s351_s ck_S0) ck_E0))⟩ ck_X0 ck_l0 (by decide +kernel)
set_option maxRecDepth 100000 in
/-- GlacierMail$Rows.put -/
noncomputable def p2_s756 : ck_Sum := ((0, 0, 0), 245, [.inr (.inr (.inl 10)), .inl (ck_one 17), .inl (ck_one 5), .inl ((-1), 299, [])], ([], [], []), ([(11, 124, 124)], []), [(.inr none, 245, ([], [], []))])
set_option maxRecDepth 100000 in
theorem p2_s756_s {X : Int → Int} {LX : Nat} : ck_Ok p2_O X LX 45 p2_s756 := ck_ok_s (O := p2_O) (X := X) (LX := LX) (E := []) (mi := 45) (cuts := []) (f := 116) (S := p2_s756) (lx := none) (XF := []) ⟨p2_nmu, ck_E0⟩ ck_X0 ck_l0 (by decide +kernel)
set_option maxRecDepth 100000 in
/-- GlacierMail$Rows.put -/
noncomputable def p2_s757 : ck_Sum := ((0, 0, 0), 245, [.inr (.inr (.inl 10)), .inl (ck_one 17), .inl (ck_one 6), .inl (0, 299, [])], ([], [], []), ([(11, 125, 125)], []), [(.inr none, 245, ([], [], []))])
set_option maxRecDepth 100000 in
theorem p2_s757_s {X : Int → Int} {LX : Nat} : ck_Ok p2_O X LX 45 p2_s757 := ck_ok_s (O := p2_O) (X := X) (LX := LX) (E := []) (mi := 45) (cuts := []) (f := 116) (S := p2_s757) (lx := none) (XF := []) ⟨p2_nmu, ck_E0⟩ ck_X0 ck_l0 (by decide +kernel)
set_option maxRecDepth 100000 in
/-- GlacierMail$Rows.put -/
noncomputable def p2_s758 : ck_Sum := ((0, 0, 0), 245, [.inr (.inr (.inl 14)), .inl (0, 23, []), .inl (ck_one 1), .inl (ck_one 17)], ([], [], []), (zl173, []), [(.inr none, 245, ([], [], []))])
set_option maxRecDepth 100000 in
theorem p2_s758_s {X : Int → Int} {LX : Nat} : ck_Ok p2_O X LX 45 p2_s758 := ck_ok_s (O := p2_O) (X := X) (LX := LX) (E := []) (mi := 45) (cuts := []) (f := 116) (S := p2_s758) (lx := none) (XF := []) ⟨p2_nmu, ck_E0⟩ ck_X0 ck_l0 (by decide +kernel)
set_option maxRecDepth 100000 in
/-- GlacierMail$Rows.put -/
noncomputable def p2_s759 : ck_Sum := ((0, 0, 0), 245, [.inr (.inr (.inl 14)), .inl (ck_one (-1)), .inl (ck_one 1), .inl (ck_one 17)], ([], [], []), ([], []), [(.inr none, 245, ([], [], []))])
set_option maxRecDepth 100000 in
theorem p2_s759_s {X : Int → Int} {LX : Nat} : ck_Ok p2_O X LX 45 p2_s759 := ck_ok_s (O := p2_O) (X := X) (LX := LX) (E := []) (mi := 45) (cuts := []) (f := 76) (S := p2_s759) (lx := none) (XF := []) ⟨p2_nmu, ck_E0⟩ ck_X0 ck_l0 (by decide +kernel)
set_option maxRecDepth 100000 in
/-- GlacierMail$State.openLetter -/
noncomputable def p2_s760 : ck_Sum := ((1, 0, 0), 245, [.inr (.inr (.inl 3)), .inl (ck_one 17), .inl ((-1), 299, [])], ([], [], [(3, 6, 6, (0, 299, [(10, 0)]))]), ([(11, 124, 125), (14, 3, 3), (15, 0, 71)], []), [(.inr none, 245, ([], [], [(14, 3, 3, (1, 24, []))]))])
set_option maxRecDepth 100000 in
theorem p2_s760_s {X : Int → Int} {LX : Nat} : ck_Ok p2_O X LX 159 p2_s760 := ck_ok_s (O := p2_O) (X := X) (LX := LX) (E := [(45, [p2_s756, p2_s757, p2_s583, p2_s758, p2_s585, p2_s586, p2_s759, p2_s588]), (102, [p2_s589])]) (mi := 159) (cuts := []) (f := 144) (S := p2_s760) (lx := none) (XF := []) ⟨p2_nmu, ck_E1 (ck_S1 p2_s756_s (ck_S1 p2_s757_s (ck_S1 p2_s583_s (ck_S1 p2_s758_s (ck_S1 p2_s585_s (ck_S1 p2_s586_s (ck_S1 p2_s759_s (ck_S1 p2_s588_s ck_S0)))))))) (ck_E1 (ck_S1 p2_s589_s ck_S0) ck_E0)⟩ ck_X0 ck_l0 (by decide +kernel)
set_option maxRecDepth 100000 in
/-- GlacierMail.open -/
noncomputable def p2_s761 : ck_Sum := ((8, 2, 12), 245, [.inr (.inr (.inl 1)), .inl (ck_one 17)], ([], zl102, [(3, 6, 6, (0, 299, [(10, 0)]))]), ([(1, 15, 15), (11, 124, 125), (14, 3, 3), (15, 0, 71), (42, 1, 2), (44, 0, 7), (45, 3, 3), (46, 0, 55), (47, 3, 3), (48, 0, 23), (49, 3, 3), (50, 0, 23), (51, 3, 3), (52, 0, 167), (53, 3, 3), (54, 0, 35), (55, 3, 3), (56, 0, 71), (57, 0, 7), (58, 3, 3), (59, 0, 55), (60, 3, 3), (61, 0, 23), (62, 3, 3), (63, 0, 23), (64, 3, 3), (65, 0, 167), (66, 3, 3), (67, 0, 35), (68, 3, 3), (69, 0, 71), (70, 0, 7), (71, 3, 3), (72, 0, 55), (73, 3, 3), (74, 0, 23), (75, 3, 3), (76, 0, 23), (77, 3, 3), (78, 0, 167), (79, 3, 3), (80, 0, 35), (81, 3, 3), (82, 0, 71), (83, 0, 7), (84, 3, 3), (85, 0, 55), (86, 3, 3), (87, 0, 23), (88, 3, 3), (89, 0, 23), (90, 3, 3), (91, 0, 167), (92, 3, 3), (93, 0, 35), (94, 3, 3), (95, 0, 71), (96, 0, 7), (97, 3, 3), (98, 0, 55), (99, 3, 3), (100, 0, 23), (101, 3, 3), (102, 0, 23), (103, 3, 3), (104, 0, 167), (105, 3, 3), (106, 0, 35), (107, 3, 3), (108, 0, 71), (109, 0, 7), (110, 3, 3), (111, 0, 55), (112, 3, 3), (113, 0, 23), (114, 3, 3), (115, 0, 23), (116, 3, 3), (117, 0, 167), (118, 3, 3), (119, 0, 35), (120, 3, 3), (121, 0, 71), (122, 0, 7), (123, 3, 3), (124, 0, 55), (125, 3, 3), (126, 0, 23), (127, 3, 3), (128, 0, 23), (129, 3, 3), (130, 0, 167), (131, 3, 3), (132, 0, 35), (133, 3, 3), (134, 0, 71), (135, 0, 7), (136, 3, 3), (137, 0, 55), (138, 3, 3), (139, 0, 23), (140, 3, 3), (141, 0, 23), (142, 3, 3), (143, 0, 167), (144, 3, 3), (145, 0, 35), (146, 3, 3), (147, 0, 71), (148, 0, 7), (149, 3, 3), (150, 0, 55), (151, 3, 3), (152, 0, 23), (153, 3, 3), (154, 0, 23), (155, 3, 3), (156, 0, 167), (157, 3, 3), (158, 0, 35), (159, 3, 3), (160, 0, 71), (161, 0, 7), (162, 3, 3), (163, 0, 55), (164, 3, 3), (165, 0, 23), (166, 3, 3), (167, 0, 23), (168, 3, 3), (169, 0, 167), (170, 3, 3), (171, 0, 35), (172, 3, 3), (173, 0, 71), (174, 0, 7), (175, 3, 3), (176, 0, 55), (177, 3, 3), (178, 0, 23), (179, 3, 3), (180, 0, 23), (181, 3, 3), (182, 0, 167), (183, 3, 3), (184, 0, 35), (185, 3, 3), (186, 0, 71), (187, 0, 7), (188, 3, 3), (189, 0, 55), (190, 3, 3), (191, 0, 23), (192, 3, 3), (193, 0, 23), (194, 3, 3), (195, 0, 167), (196, 3, 3), (197, 0, 35), (198, 3, 3), (199, 0, 71), (206, 2, 8), (220, 3, 3), (221, 0, 47)], zl104), zl175)
set_option maxRecDepth 100000 in
theorem p2_s761_s {X : Int → Int} {LX : Nat} : ck_Ok p2_O X LX 158 p2_s761 := ck_ok_s (O := p2_O) (X := X) (LX := LX) (E := [(143, [p2_s753]), (24, [p2_s349]), (66, [p2_s755]), (154, [p2_s529]), (10, [p2_s335]), (159, [p2_s760])]) (mi := 158) (cuts := []) (f := 140) (S := p2_s761) (lx := none) (XF := []) ⟨p2_nmu, ck_E1 (ck_S1 p2_s753_s ck_S0) (ck_E1 (ck_S1 p2_s349_s ck_S0) (ck_E1 (ck_S1 p2_s755_s ck_S0) (ck_E1 (ck_S1 p2_s529_s ck_S0) (ck_E1 (ck_S1 p2_s335_s ck_S0) (ck_E1 (ck_S1 p2_s760_s ck_S0) ck_E0)))))⟩ ck_X0 ck_l0 (by decide +kernel)
set_option maxRecDepth 100000 in
/-- GlacierMail.need -/
noncomputable def p2_s762 : ck_Sum := ((6, 1, 6), 245, [.inr (.inr (.inl 1)), .inl (ck_one 18), .inl (0, 24, [])], ([], [], []), ([], []), [(.inr none, 245, ([], [], [])), (.inl 3, 245, ([], [], []))])
set_option maxRecDepth 100000 in
theorem p2_s762_s {X : Int → Int} {LX : Nat} : ck_Ok p2_O X LX 133 p2_s762 := ck_ok_s (O := p2_O) (X := X) (LX := LX) (E := []) (mi := 133) (cuts := []) (f := 82) (S := p2_s762) (lx := none) (XF := []) ⟨p2_nmu, ck_E0⟩ ck_X0 ck_l0 (by decide +kernel)
set_option maxRecDepth 100000 in
/-- GlacierMail.needLetter -/
noncomputable def p2_s763 : ck_Sum := ((7, 1, 6), 245, [.inr (.inr (.inl 1)), .inl (ck_one 18)], ([], [], []), ([], []), [(.inl 3, 245, ([], [], [])), (.inr none, 245, ([], [], []))])
set_option maxRecDepth 100000 in
theorem p2_s763_s {X : Int → Int} {LX : Nat} : ck_Ok p2_O X LX 143 p2_s763 := ck_ok_s (O := p2_O) (X := X) (LX := LX) (E := [(9, [p2_s331]), (133, [p2_s762])]) (mi := 143) (cuts := []) (f := 86) (S := p2_s763) (lx := none) (XF := []) ⟨p2_nmu, ck_E1 (ck_S1 p2_s331_s ck_S0) (ck_E1 (ck_S1 p2_s762_s ck_S0) ck_E0)⟩ ck_X0 ck_l0 (by decide +kernel)
set_option maxRecDepth 100000 in
/-- GlacierMail$State.isRock -/
noncomputable def p2_s764 : ck_Sum := ((1, 0, 0), 245, [.inr (.inr (.inl 3)), .inl (ck_one 18)], ([], [], []), ([], []), [(.inr (some (.inl (ck_one 0))), 245, ([], [], [])), (.inr (some (.inl (ck_one 1))), 245, ([], [], []))])
set_option maxRecDepth 100000 in
theorem p2_s764_s {X : Int → Int} {LX : Nat} : ck_Ok p2_O X LX 28 p2_s764 := ck_ok_s (O := p2_O) (X := X) (LX := LX) (E := [(10, [p2_s335])]) (mi := 28) (cuts := []) (f := 90) (S := p2_s764) (lx := none) (XF := []) ⟨p2_nmu, ck_E1 (ck_S1 p2_s335_s ck_S0) ck_E0⟩ ck_X0 ck_l0 (by decide +kernel)
set_option maxRecDepth 100000 in
/-- GlacierMail.waits -/
noncomputable def p2_s765 : ck_Sum := ((2, 0, 0), 245, [.inr (.inr (.inl 1)), .inl (ck_one 18)], ([], [], [(3, 6, 6, (0, 299, [(10, 0)]))]), ([], []), [(.inr (some (.inl (ck_one 0))), 245, ([], [], [])), (.inr (some (.inl (ck_one 1))), 245, ([], [], []))])
set_option maxRecDepth 100000 in
theorem p2_s765_s {X : Int → Int} {LX : Nat} : ck_Ok p2_O X LX 66 p2_s765 := ck_ok_s (O := p2_O) (X := X) (LX := LX) (E := [(28, [p2_s764]), (10, [p2_s335, p2_s350]), (67, [p2_s351])]) (mi := 66) (cuts := []) (f := 134) (S := p2_s765) (lx := none) (XF := []) ⟨p2_nmu, ck_E1 (ck_S1 p2_s764_s ck_S0) (ck_E1 (ck_S1 p2_s335_s (ck_S1 p2_s350_s ck_S0)) (ck_E1 (ck_S1 p2_s351_s ck_S0) ck_E0))⟩ ck_X0 ck_l0 (by decide +kernel)
set_option maxRecDepth 100000 in
/-- GlacierMail$Rows.put -/
noncomputable def p2_s766 : ck_Sum := ((0, 0, 0), 245, [.inr (.inr (.inl 10)), .inl (ck_one 18), .inl (ck_one 5), .inl ((-1), 299, [])], ([], [], []), ([(11, 131, 131)], []), [(.inr none, 245, ([], [], []))])
set_option maxRecDepth 100000 in
theorem p2_s766_s {X : Int → Int} {LX : Nat} : ck_Ok p2_O X LX 45 p2_s766 := ck_ok_s (O := p2_O) (X := X) (LX := LX) (E := []) (mi := 45) (cuts := []) (f := 116) (S := p2_s766) (lx := none) (XF := []) ⟨p2_nmu, ck_E0⟩ ck_X0 ck_l0 (by decide +kernel)
set_option maxRecDepth 100000 in
/-- GlacierMail$Rows.put -/
noncomputable def p2_s767 : ck_Sum := ((0, 0, 0), 245, [.inr (.inr (.inl 10)), .inl (ck_one 18), .inl (ck_one 6), .inl (0, 299, [])], ([], [], []), ([(11, 132, 132)], []), [(.inr none, 245, ([], [], []))])
set_option maxRecDepth 100000 in
theorem p2_s767_s {X : Int → Int} {LX : Nat} : ck_Ok p2_O X LX 45 p2_s767 := ck_ok_s (O := p2_O) (X := X) (LX := LX) (E := []) (mi := 45) (cuts := []) (f := 116) (S := p2_s767) (lx := none) (XF := []) ⟨p2_nmu, ck_E0⟩ ck_X0 ck_l0 (by decide +kernel)
set_option maxRecDepth 100000 in
/-- GlacierMail$Rows.put -/
noncomputable def p2_s768 : ck_Sum := ((0, 0, 0), 245, [.inr (.inr (.inl 14)), .inl (0, 23, []), .inl (ck_one 1), .inl (ck_one 18)], ([], [], []), (zl173, []), [(.inr none, 245, ([], [], []))])
set_option maxRecDepth 100000 in
theorem p2_s768_s {X : Int → Int} {LX : Nat} : ck_Ok p2_O X LX 45 p2_s768 := ck_ok_s (O := p2_O) (X := X) (LX := LX) (E := []) (mi := 45) (cuts := []) (f := 116) (S := p2_s768) (lx := none) (XF := []) ⟨p2_nmu, ck_E0⟩ ck_X0 ck_l0 (by decide +kernel)
set_option maxRecDepth 100000 in
/-- GlacierMail$Rows.put -/
noncomputable def p2_s769 : ck_Sum := ((0, 0, 0), 245, [.inr (.inr (.inl 14)), .inl (ck_one (-1)), .inl (ck_one 1), .inl (ck_one 18)], ([], [], []), ([], []), [(.inr none, 245, ([], [], []))])
set_option maxRecDepth 100000 in
theorem p2_s769_s {X : Int → Int} {LX : Nat} : ck_Ok p2_O X LX 45 p2_s769 := ck_ok_s (O := p2_O) (X := X) (LX := LX) (E := []) (mi := 45) (cuts := []) (f := 76) (S := p2_s769) (lx := none) (XF := []) ⟨p2_nmu, ck_E0⟩ ck_X0 ck_l0 (by decide +kernel)
set_option maxRecDepth 100000 in
/-- GlacierMail$State.openLetter -/
noncomputable def p2_s770 : ck_Sum := ((1, 0, 0), 245, [.inr (.inr (.inl 3)), .inl (ck_one 18), .inl ((-1), 299, [])], ([], [], [(3, 6, 6, (0, 299, [(10, 0)]))]), ([(11, 131, 132), (14, 3, 3), (15, 0, 71)], []), [(.inr none, 245, ([], [], [(14, 3, 3, (1, 24, []))]))])
set_option maxRecDepth 100000 in
theorem p2_s770_s {X : Int → Int} {LX : Nat} : ck_Ok p2_O X LX 159 p2_s770 := ck_ok_s (O := p2_O) (X := X) (LX := LX) (E := [(45, [p2_s766, p2_s767, p2_s583, p2_s768, p2_s585, p2_s586, p2_s769, p2_s588]), (102, [p2_s589])]) (mi := 159) (cuts := []) (f := 144) (S := p2_s770) (lx := none) (XF := []) ⟨p2_nmu, ck_E1 (ck_S1 p2_s766_s (ck_S1 p2_s767_s (ck_S1 p2_s583_s (ck_S1 p2_s768_s (ck_S1 p2_s585_s (ck_S1 p2_s586_s (ck_S1 p2_s769_s (ck_S1 p2_s588_s ck_S0)))))))) (ck_E1 (ck_S1 p2_s589_s ck_S0) ck_E0)⟩ ck_X0 ck_l0 (by decide +kernel)
set_option maxRecDepth 100000 in
/-- GlacierMail.open -/
noncomputable def p2_s771 : ck_Sum := ((8, 2, 12), 245, [.inr (.inr (.inl 1)), .inl (ck_one 18)], ([], zl102, [(3, 6, 6, (0, 299, [(10, 0)]))]), ([(1, 15, 15), (11, 131, 132), (14, 3, 3), (15, 0, 71), (42, 1, 2), (44, 0, 7), (45, 3, 3), (46, 0, 55), (47, 3, 3), (48, 0, 23), (49, 3, 3), (50, 0, 23), (51, 3, 3), (52, 0, 167), (53, 3, 3), (54, 0, 35), (55, 3, 3), (56, 0, 71), (57, 0, 7), (58, 3, 3), (59, 0, 55), (60, 3, 3), (61, 0, 23), (62, 3, 3), (63, 0, 23), (64, 3, 3), (65, 0, 167), (66, 3, 3), (67, 0, 35), (68, 3, 3), (69, 0, 71), (70, 0, 7), (71, 3, 3), (72, 0, 55), (73, 3, 3), (74, 0, 23), (75, 3, 3), (76, 0, 23), (77, 3, 3), (78, 0, 167), (79, 3, 3), (80, 0, 35), (81, 3, 3), (82, 0, 71), (83, 0, 7), (84, 3, 3), (85, 0, 55), (86, 3, 3), (87, 0, 23), (88, 3, 3), (89, 0, 23), (90, 3, 3), (91, 0, 167), (92, 3, 3), (93, 0, 35), (94, 3, 3), (95, 0, 71), (96, 0, 7), (97, 3, 3), (98, 0, 55), (99, 3, 3), (100, 0, 23), (101, 3, 3), (102, 0, 23), (103, 3, 3), (104, 0, 167), (105, 3, 3), (106, 0, 35), (107, 3, 3), (108, 0, 71), (109, 0, 7), (110, 3, 3), (111, 0, 55), (112, 3, 3), (113, 0, 23), (114, 3, 3), (115, 0, 23), (116, 3, 3), (117, 0, 167), (118, 3, 3), (119, 0, 35), (120, 3, 3), (121, 0, 71), (122, 0, 7), (123, 3, 3), (124, 0, 55), (125, 3, 3), (126, 0, 23), (127, 3, 3), (128, 0, 23), (129, 3, 3), (130, 0, 167), (131, 3, 3), (132, 0, 35), (133, 3, 3), (134, 0, 71), (135, 0, 7), (136, 3, 3), (137, 0, 55), (138, 3, 3), (139, 0, 23), (140, 3, 3), (141, 0, 23), (142, 3, 3), (143, 0, 167), (144, 3, 3), (145, 0, 35), (146, 3, 3), (147, 0, 71), (148, 0, 7), (149, 3, 3), (150, 0, 55), (151, 3, 3), (152, 0, 23), (153, 3, 3), (154, 0, 23), (155, 3, 3), (156, 0, 167), (157, 3, 3), (158, 0, 35), (159, 3, 3), (160, 0, 71), (161, 0, 7), (162, 3, 3), (163, 0, 55), (164, 3, 3), (165, 0, 23), (166, 3, 3), (167, 0, 23), (168, 3, 3), (169, 0, 167), (170, 3, 3), (171, 0, 35), (172, 3, 3), (173, 0, 71), (174, 0, 7), (175, 3, 3), (176, 0, 55), (177, 3, 3), (178, 0, 23), (179, 3, 3), (180, 0, 23), (181, 3, 3), (182, 0, 167), (183, 3, 3), (184, 0, 35), (185, 3, 3), (186, 0, 71), (187, 0, 7), (188, 3, 3), (189, 0, 55), (190, 3, 3), (191, 0, 23), (192, 3, 3), (193, 0, 23), (194, 3, 3), (195, 0, 167), (196, 3, 3), (197, 0, 35), (198, 3, 3), (199, 0, 71), (206, 2, 8), (220, 3, 3), (221, 0, 47)], zl104), zl175)
set_option maxRecDepth 100000 in
theorem p2_s771_s {X : Int → Int} {LX : Nat} : ck_Ok p2_O X LX 158 p2_s771 := ck_ok_s (O := p2_O) (X := X) (LX := LX) (E := [(143, [p2_s763]), (24, [p2_s349]), (66, [p2_s765]), (154, [p2_s529]), (10, [p2_s335]), (159, [p2_s770])]) (mi := 158) (cuts := []) (f := 140) (S := p2_s771) (lx := none) (XF := []) ⟨p2_nmu, ck_E1 (ck_S1 p2_s763_s ck_S0) (ck_E1 (ck_S1 p2_s349_s ck_S0) (ck_E1 (ck_S1 p2_s765_s ck_S0) (ck_E1 (ck_S1 p2_s529_s ck_S0) (ck_E1 (ck_S1 p2_s335_s ck_S0) (ck_E1 (ck_S1 p2_s770_s ck_S0) ck_E0)))))⟩ ck_X0 ck_l0 (by decide +kernel)
set_option maxRecDepth 100000 in
/-- GlacierMail.need -/
noncomputable def p2_s772 : ck_Sum := ((6, 1, 6), 245, [.inr (.inr (.inl 1)), .inl (ck_one 19), .inl (0, 24, [])], ([], [], []), ([], []), [(.inr none, 245, ([], [], [])), (.inl 3, 245, ([], [], []))])
set_option maxRecDepth 100000 in
theorem p2_s772_s {X : Int → Int} {LX : Nat} : ck_Ok p2_O X LX 133 p2_s772 := ck_ok_s (O := p2_O) (X := X) (LX := LX) (E := []) (mi := 133) (cuts := []) (f := 82) (S := p2_s772) (lx := none) (XF := []) ⟨p2_nmu, ck_E0⟩ ck_X0 ck_l0 (by decide +kernel)
set_option maxRecDepth 100000 in
/-- GlacierMail.needLetter -/
noncomputable def p2_s773 : ck_Sum := ((7, 1, 6), 245, [.inr (.inr (.inl 1)), .inl (ck_one 19)], ([], [], []), ([], []), [(.inl 3, 245, ([], [], [])), (.inr none, 245, ([], [], []))])
set_option maxRecDepth 100000 in
theorem p2_s773_s {X : Int → Int} {LX : Nat} : ck_Ok p2_O X LX 143 p2_s773 := ck_ok_s (O := p2_O) (X := X) (LX := LX) (E := [(9, [p2_s331]), (133, [p2_s772])]) (mi := 143) (cuts := []) (f := 86) (S := p2_s773) (lx := none) (XF := []) ⟨p2_nmu, ck_E1 (ck_S1 p2_s331_s ck_S0) (ck_E1 (ck_S1 p2_s772_s ck_S0) ck_E0)⟩ ck_X0 ck_l0 (by decide +kernel)
set_option maxRecDepth 100000 in
/-- GlacierMail$State.isRock -/
noncomputable def p2_s774 : ck_Sum := ((1, 0, 0), 245, [.inr (.inr (.inl 3)), .inl (ck_one 19)], ([], [], []), ([], []), [(.inr (some (.inl (ck_one 0))), 245, ([], [], [])), (.inr (some (.inl (ck_one 1))), 245, ([], [], []))])
set_option maxRecDepth 100000 in
theorem p2_s774_s {X : Int → Int} {LX : Nat} : ck_Ok p2_O X LX 28 p2_s774 := ck_ok_s (O := p2_O) (X := X) (LX := LX) (E := [(10, [p2_s335])]) (mi := 28) (cuts := []) (f := 90) (S := p2_s774) (lx := none) (XF := []) ⟨p2_nmu, ck_E1 (ck_S1 p2_s335_s ck_S0) ck_E0⟩ ck_X0 ck_l0 (by decide +kernel)
set_option maxRecDepth 100000 in
/-- GlacierMail.waits -/
noncomputable def p2_s775 : ck_Sum := ((2, 0, 0), 245, [.inr (.inr (.inl 1)), .inl (ck_one 19)], ([], [], [(3, 6, 6, (0, 299, [(10, 0)]))]), ([], []), [(.inr (some (.inl (ck_one 0))), 245, ([], [], [])), (.inr (some (.inl (ck_one 1))), 245, ([], [], []))])
set_option maxRecDepth 100000 in
theorem p2_s775_s {X : Int → Int} {LX : Nat} : ck_Ok p2_O X LX 66 p2_s775 := ck_ok_s (O := p2_O) (X := X) (LX := LX) (E := [(28, [p2_s774]), (10, [p2_s335, p2_s350]), (67, [p2_s351])]) (mi := 66) (cuts := []) (f := 134) (S := p2_s775) (lx := none) (XF := []) ⟨p2_nmu, ck_E1 (ck_S1 p2_s774_s ck_S0) (ck_E1 (ck_S1 p2_s335_s (ck_S1 p2_s350_s ck_S0)) (ck_E1 (ck_S1 p2_s351_s ck_S0) ck_E0))⟩ ck_X0 ck_l0 (by decide +kernel)
set_option maxRecDepth 100000 in
/-- GlacierMail$Rows.put -/
noncomputable def p2_s776 : ck_Sum := ((0, 0, 0), 245, [.inr (.inr (.inl 10)), .inl (ck_one 19), .inl (ck_one 5), .inl ((-1), 299, [])], ([], [], []), ([(11, 138, 138)], []), [(.inr none, 245, ([], [], []))])
set_option maxRecDepth 100000 in
theorem p2_s776_s {X : Int → Int} {LX : Nat} : ck_Ok p2_O X LX 45 p2_s776 := ck_ok_s (O := p2_O) (X := X) (LX := LX) (E := []) (mi := 45) (cuts := []) (f := 116) (S := p2_s776) (lx := none) (XF := []) ⟨p2_nmu, ck_E0⟩ ck_X0 ck_l0 (by decide +kernel)
set_option maxRecDepth 100000 in
/-- GlacierMail$Rows.put -/
noncomputable def p2_s777 : ck_Sum := ((0, 0, 0), 245, [.inr (.inr (.inl 10)), .inl (ck_one 19), .inl (ck_one 6), .inl (0, 299, [])], ([], [], []), ([(11, 139, 139)], []), [(.inr none, 245, ([], [], []))])
set_option maxRecDepth 100000 in
theorem p2_s777_s {X : Int → Int} {LX : Nat} : ck_Ok p2_O X LX 45 p2_s777 := ck_ok_s (O := p2_O) (X := X) (LX := LX) (E := []) (mi := 45) (cuts := []) (f := 116) (S := p2_s777) (lx := none) (XF := []) ⟨p2_nmu, ck_E0⟩ ck_X0 ck_l0 (by decide +kernel)
set_option maxRecDepth 100000 in
/-- GlacierMail$Rows.put -/
noncomputable def p2_s778 : ck_Sum := ((0, 0, 0), 245, [.inr (.inr (.inl 14)), .inl (0, 23, []), .inl (ck_one 1), .inl (ck_one 19)], ([], [], []), (zl173, []), [(.inr none, 245, ([], [], []))])
set_option maxRecDepth 100000 in
theorem p2_s778_s {X : Int → Int} {LX : Nat} : ck_Ok p2_O X LX 45 p2_s778 := ck_ok_s (O := p2_O) (X := X) (LX := LX) (E := []) (mi := 45) (cuts := []) (f := 116) (S := p2_s778) (lx := none) (XF := []) ⟨p2_nmu, ck_E0⟩ ck_X0 ck_l0 (by decide +kernel)
set_option maxRecDepth 100000 in
/-- GlacierMail$Rows.put -/
noncomputable def p2_s779 : ck_Sum := ((0, 0, 0), 245, [.inr (.inr (.inl 14)), .inl (ck_one (-1)), .inl (ck_one 1), .inl (ck_one 19)], ([], [], []), ([], []), [(.inr none, 245, ([], [], []))])
set_option maxRecDepth 100000 in
theorem p2_s779_s {X : Int → Int} {LX : Nat} : ck_Ok p2_O X LX 45 p2_s779 := ck_ok_s (O := p2_O) (X := X) (LX := LX) (E := []) (mi := 45) (cuts := []) (f := 76) (S := p2_s779) (lx := none) (XF := []) ⟨p2_nmu, ck_E0⟩ ck_X0 ck_l0 (by decide +kernel)
set_option maxRecDepth 100000 in
/-- GlacierMail$State.openLetter -/
noncomputable def p2_s780 : ck_Sum := ((1, 0, 0), 245, [.inr (.inr (.inl 3)), .inl (ck_one 19), .inl ((-1), 299, [])], ([], [], [(3, 6, 6, (0, 299, [(10, 0)]))]), ([(11, 138, 139), (14, 3, 3), (15, 0, 71)], []), [(.inr none, 245, ([], [], [(14, 3, 3, (1, 24, []))]))])
set_option maxRecDepth 100000 in
theorem p2_s780_s {X : Int → Int} {LX : Nat} : ck_Ok p2_O X LX 159 p2_s780 := ck_ok_s (O := p2_O) (X := X) (LX := LX) (E := [(45, [p2_s776, p2_s777, p2_s583, p2_s778, p2_s585, p2_s586, p2_s779, p2_s588]), (102, [p2_s589])]) (mi := 159) (cuts := []) (f := 144) (S := p2_s780) (lx := none) (XF := []) ⟨p2_nmu, ck_E1 (ck_S1 p2_s776_s (ck_S1 p2_s777_s (ck_S1 p2_s583_s (ck_S1 p2_s778_s (ck_S1 p2_s585_s (ck_S1 p2_s586_s (ck_S1 p2_s779_s (ck_S1 p2_s588_s ck_S0)))))))) (ck_E1 (ck_S1 p2_s589_s ck_S0) ck_E0)⟩ ck_X0 ck_l0 (by decide +kernel)
set_option maxRecDepth 100000 in
/-- GlacierMail.open -/
noncomputable def p2_s781 : ck_Sum := ((8, 2, 12), 245, [.inr (.inr (.inl 1)), .inl (ck_one 19)], ([], zl102, [(3, 6, 6, (0, 299, [(10, 0)]))]), ([(1, 15, 15), (11, 138, 139), (14, 3, 3), (15, 0, 71), (42, 1, 2), (44, 0, 7), (45, 3, 3), (46, 0, 55), (47, 3, 3), (48, 0, 23), (49, 3, 3), (50, 0, 23), (51, 3, 3), (52, 0, 167), (53, 3, 3), (54, 0, 35), (55, 3, 3), (56, 0, 71), (57, 0, 7), (58, 3, 3), (59, 0, 55), (60, 3, 3), (61, 0, 23), (62, 3, 3), (63, 0, 23), (64, 3, 3), (65, 0, 167), (66, 3, 3), (67, 0, 35), (68, 3, 3), (69, 0, 71), (70, 0, 7), (71, 3, 3), (72, 0, 55), (73, 3, 3), (74, 0, 23), (75, 3, 3), (76, 0, 23), (77, 3, 3), (78, 0, 167), (79, 3, 3), (80, 0, 35), (81, 3, 3), (82, 0, 71), (83, 0, 7), (84, 3, 3), (85, 0, 55), (86, 3, 3), (87, 0, 23), (88, 3, 3), (89, 0, 23), (90, 3, 3), (91, 0, 167), (92, 3, 3), (93, 0, 35), (94, 3, 3), (95, 0, 71), (96, 0, 7), (97, 3, 3), (98, 0, 55), (99, 3, 3), (100, 0, 23), (101, 3, 3), (102, 0, 23), (103, 3, 3), (104, 0, 167), (105, 3, 3), (106, 0, 35), (107, 3, 3), (108, 0, 71), (109, 0, 7), (110, 3, 3), (111, 0, 55), (112, 3, 3), (113, 0, 23), (114, 3, 3), (115, 0, 23), (116, 3, 3), (117, 0, 167), (118, 3, 3), (119, 0, 35), (120, 3, 3), (121, 0, 71), (122, 0, 7), (123, 3, 3), (124, 0, 55), (125, 3, 3), (126, 0, 23), (127, 3, 3), (128, 0, 23), (129, 3, 3), (130, 0, 167), (131, 3, 3), (132, 0, 35), (133, 3, 3), (134, 0, 71), (135, 0, 7), (136, 3, 3), (137, 0, 55), (138, 3, 3), (139, 0, 23), (140, 3, 3), (141, 0, 23), (142, 3, 3), (143, 0, 167), (144, 3, 3), (145, 0, 35), (146, 3, 3), (147, 0, 71), (148, 0, 7), (149, 3, 3), (150, 0, 55), (151, 3, 3), (152, 0, 23), (153, 3, 3), (154, 0, 23), (155, 3, 3), (156, 0, 167), (157, 3, 3), (158, 0, 35), (159, 3, 3), (160, 0, 71), (161, 0, 7), (162, 3, 3), (163, 0, 55), (164, 3, 3), (165, 0, 23), (166, 3, 3), (167, 0, 23), (168, 3, 3), (169, 0, 167), (170, 3, 3), (171, 0, 35), (172, 3, 3), (173, 0, 71), (174, 0, 7), (175, 3, 3), (176, 0, 55), (177, 3, 3), (178, 0, 23), (179, 3, 3), (180, 0, 23), (181, 3, 3), (182, 0, 167), (183, 3, 3), (184, 0, 35), (185, 3, 3), (186, 0, 71), (187, 0, 7), (188, 3, 3), (189, 0, 55), (190, 3, 3), (191, 0, 23), (192, 3, 3), (193, 0, 23), (194, 3, 3), (195, 0, 167), (196, 3, 3), (197, 0, 35), (198, 3, 3), (199, 0, 71), (206, 2, 8), (220, 3, 3), (221, 0, 47)], zl104), zl175)
set_option maxRecDepth 100000 in
theorem p2_s781_s {X : Int → Int} {LX : Nat} : ck_Ok p2_O X LX 158 p2_s781 := ck_ok_s (O := p2_O) (X := X) (LX := LX) (E := [(143, [p2_s773]), (24, [p2_s349]), (66, [p2_s775]), (154, [p2_s529]), (10, [p2_s335]), (159, [p2_s780])]) (mi := 158) (cuts := []) (f := 140) (S := p2_s781) (lx := none) (XF := []) ⟨p2_nmu, ck_E1 (ck_S1 p2_s773_s ck_S0) (ck_E1 (ck_S1 p2_s349_s ck_S0) (ck_E1 (ck_S1 p2_s775_s ck_S0) (ck_E1 (ck_S1 p2_s529_s ck_S0) (ck_E1 (ck_S1 p2_s335_s ck_S0) (ck_E1 (ck_S1 p2_s780_s ck_S0) ck_E0)))))⟩ ck_X0 ck_l0 (by decide +kernel)
set_option maxRecDepth 100000 in
/-- GlacierMail.need -/
noncomputable def p2_s782 : ck_Sum := ((6, 1, 6), 245, [.inr (.inr (.inl 1)), .inl (ck_one 20), .inl (0, 24, [])], ([], [], []), ([], []), [(.inr none, 245, ([], [], [])), (.inl 3, 245, ([], [], []))])
set_option maxRecDepth 100000 in
theorem p2_s782_s {X : Int → Int} {LX : Nat} : ck_Ok p2_O X LX 133 p2_s782 := ck_ok_s (O := p2_O) (X := X) (LX := LX) (E := []) (mi := 133) (cuts := []) (f := 82) (S := p2_s782) (lx := none) (XF := []) ⟨p2_nmu, ck_E0⟩ ck_X0 ck_l0 (by decide +kernel)
set_option maxRecDepth 100000 in
/-- GlacierMail.needLetter -/
noncomputable def p2_s783 : ck_Sum := ((7, 1, 6), 245, [.inr (.inr (.inl 1)), .inl (ck_one 20)], ([], [], []), ([], []), [(.inl 3, 245, ([], [], [])), (.inr none, 245, ([], [], []))])
set_option maxRecDepth 100000 in
theorem p2_s783_s {X : Int → Int} {LX : Nat} : ck_Ok p2_O X LX 143 p2_s783 := ck_ok_s (O := p2_O) (X := X) (LX := LX) (E := [(9, [p2_s331]), (133, [p2_s782])]) (mi := 143) (cuts := []) (f := 86) (S := p2_s783) (lx := none) (XF := []) ⟨p2_nmu, ck_E1 (ck_S1 p2_s331_s ck_S0) (ck_E1 (ck_S1 p2_s782_s ck_S0) ck_E0)⟩ ck_X0 ck_l0 (by decide +kernel)
set_option maxRecDepth 100000 in
/-- GlacierMail$State.isRock -/
noncomputable def p2_s784 : ck_Sum := ((1, 0, 0), 245, [.inr (.inr (.inl 3)), .inl (ck_one 20)], ([], [], []), ([], []), [(.inr (some (.inl (ck_one 0))), 245, ([], [], [])), (.inr (some (.inl (ck_one 1))), 245, ([], [], []))])
set_option maxRecDepth 100000 in
theorem p2_s784_s {X : Int → Int} {LX : Nat} : ck_Ok p2_O X LX 28 p2_s784 := ck_ok_s (O := p2_O) (X := X) (LX := LX) (E := [(10, [p2_s335])]) (mi := 28) (cuts := []) (f := 90) (S := p2_s784) (lx := none) (XF := []) ⟨p2_nmu, ck_E1 (ck_S1 p2_s335_s ck_S0) ck_E0⟩ ck_X0 ck_l0 (by decide +kernel)
set_option maxRecDepth 100000 in
/-- GlacierMail.waits -/
noncomputable def p2_s785 : ck_Sum := ((2, 0, 0), 245, [.inr (.inr (.inl 1)), .inl (ck_one 20)], ([], [], [(3, 6, 6, (0, 299, [(10, 0)]))]), ([], []), [(.inr (some (.inl (ck_one 0))), 245, ([], [], [])), (.inr (some (.inl (ck_one 1))), 245, ([], [], []))])
set_option maxRecDepth 100000 in
theorem p2_s785_s {X : Int → Int} {LX : Nat} : ck_Ok p2_O X LX 66 p2_s785 := ck_ok_s (O := p2_O) (X := X) (LX := LX) (E := [(28, [p2_s784]), (10, [p2_s335, p2_s350]), (67, [p2_s351])]) (mi := 66) (cuts := []) (f := 134) (S := p2_s785) (lx := none) (XF := []) ⟨p2_nmu, ck_E1 (ck_S1 p2_s784_s ck_S0) (ck_E1 (ck_S1 p2_s335_s (ck_S1 p2_s350_s ck_S0)) (ck_E1 (ck_S1 p2_s351_s ck_S0) ck_E0))⟩ ck_X0 ck_l0 (by decide +kernel)
set_option maxRecDepth 100000 in
/-- GlacierMail$Rows.put -/
noncomputable def p2_s786 : ck_Sum := ((0, 0, 0), 245, [.inr (.inr (.inl 10)), .inl (ck_one 20), .inl (ck_one 5), .inl ((-1), 299, [])], ([], [], []), ([(11, 145, 145)], []), [(.inr none, 245, ([], [], []))])
set_option maxRecDepth 100000 in
theorem p2_s786_s {X : Int → Int} {LX : Nat} : ck_Ok p2_O X LX 45 p2_s786 := ck_ok_s (O := p2_O) (X := X) (LX := LX) (E := []) (mi := 45) (cuts := []) (f := 116) (S := p2_s786) (lx := none) (XF := []) ⟨p2_nmu, ck_E0⟩ ck_X0 ck_l0 (by decide +kernel)
set_option maxRecDepth 100000 in
/-- GlacierMail$Rows.put -/
noncomputable def p2_s787 : ck_Sum := ((0, 0, 0), 245, [.inr (.inr (.inl 10)), .inl (ck_one 20), .inl (ck_one 6), .inl (0, 299, [])], ([], [], []), ([(11, 146, 146)], []), [(.inr none, 245, ([], [], []))])
set_option maxRecDepth 100000 in
theorem p2_s787_s {X : Int → Int} {LX : Nat} : ck_Ok p2_O X LX 45 p2_s787 := ck_ok_s (O := p2_O) (X := X) (LX := LX) (E := []) (mi := 45) (cuts := []) (f := 116) (S := p2_s787) (lx := none) (XF := []) ⟨p2_nmu, ck_E0⟩ ck_X0 ck_l0 (by decide +kernel)
set_option maxRecDepth 100000 in
/-- GlacierMail$Rows.put -/
noncomputable def p2_s788 : ck_Sum := ((0, 0, 0), 245, [.inr (.inr (.inl 14)), .inl (0, 23, []), .inl (ck_one 1), .inl (ck_one 20)], ([], [], []), (zl173, []), [(.inr none, 245, ([], [], []))])
set_option maxRecDepth 100000 in
theorem p2_s788_s {X : Int → Int} {LX : Nat} : ck_Ok p2_O X LX 45 p2_s788 := ck_ok_s (O := p2_O) (X := X) (LX := LX) (E := []) (mi := 45) (cuts := []) (f := 116) (S := p2_s788) (lx := none) (XF := []) ⟨p2_nmu, ck_E0⟩ ck_X0 ck_l0 (by decide +kernel)
set_option maxRecDepth 100000 in
/-- GlacierMail$Rows.put -/
noncomputable def p2_s789 : ck_Sum := ((0, 0, 0), 245, [.inr (.inr (.inl 14)), .inl (ck_one (-1)), .inl (ck_one 1), .inl (ck_one 20)], ([], [], []), ([], []), [(.inr none, 245, ([], [], []))])
set_option maxRecDepth 100000 in
theorem p2_s789_s {X : Int → Int} {LX : Nat} : ck_Ok p2_O X LX 45 p2_s789 := ck_ok_s (O := p2_O) (X := X) (LX := LX) (E := []) (mi := 45) (cuts := []) (f := 76) (S := p2_s789) (lx := none) (XF := []) ⟨p2_nmu, ck_E0⟩ ck_X0 ck_l0 (by decide +kernel)
set_option maxRecDepth 100000 in
/-- GlacierMail$State.openLetter -/
noncomputable def p2_s790 : ck_Sum := ((1, 0, 0), 245, [.inr (.inr (.inl 3)), .inl (ck_one 20), .inl ((-1), 299, [])], ([], [], [(3, 6, 6, (0, 299, [(10, 0)]))]), ([(11, 145, 146), (14, 3, 3), (15, 0, 71)], []), [(.inr none, 245, ([], [], [(14, 3, 3, (1, 24, []))]))])
set_option maxRecDepth 100000 in
theorem p2_s790_s {X : Int → Int} {LX : Nat} : ck_Ok p2_O X LX 159 p2_s790 := ck_ok_s (O := p2_O) (X := X) (LX := LX) (E := [(45, [p2_s786, p2_s787, p2_s583, p2_s788, p2_s585, p2_s586, p2_s789, p2_s588]), (102, [p2_s589])]) (mi := 159) (cuts := []) (f := 144) (S := p2_s790) (lx := none) (XF := []) ⟨p2_nmu, ck_E1 (ck_S1 p2_s786_s (ck_S1 p2_s787_s (ck_S1 p2_s583_s (ck_S1 p2_s788_s (ck_S1 p2_s585_s (ck_S1 p2_s586_s (ck_S1 p2_s789_s (ck_S1 p2_s588_s ck_S0)))))))) (ck_E1 (ck_S1 p2_s589_s ck_S0) ck_E0)⟩ ck_X0 ck_l0 (by decide +kernel)
set_option maxRecDepth 100000 in
/-- GlacierMail.open -/
noncomputable def p2_s791 : ck_Sum := ((8, 2, 12), 245, [.inr (.inr (.inl 1)), .inl (ck_one 20)], ([], zl102, [(3, 6, 6, (0, 299, [(10, 0)]))]), ([(1, 15, 15), (11, 145, 146), (14, 3, 3), (15, 0, 71), (42, 1, 2), (44, 0, 7), (45, 3, 3), (46, 0, 55), (47, 3, 3), (48, 0, 23), (49, 3, 3), (50, 0, 23), (51, 3, 3), (52, 0, 167), (53, 3, 3), (54, 0, 35), (55, 3, 3), (56, 0, 71), (57, 0, 7), (58, 3, 3), (59, 0, 55), (60, 3, 3), (61, 0, 23), (62, 3, 3), (63, 0, 23), (64, 3, 3), (65, 0, 167), (66, 3, 3), (67, 0, 35), (68, 3, 3), (69, 0, 71), (70, 0, 7), (71, 3, 3), (72, 0, 55), (73, 3, 3), (74, 0, 23), (75, 3, 3), (76, 0, 23), (77, 3, 3), (78, 0, 167), (79, 3, 3), (80, 0, 35), (81, 3, 3), (82, 0, 71), (83, 0, 7), (84, 3, 3), (85, 0, 55), (86, 3, 3), (87, 0, 23), (88, 3, 3), (89, 0, 23), (90, 3, 3), (91, 0, 167), (92, 3, 3), (93, 0, 35), (94, 3, 3), (95, 0, 71), (96, 0, 7), (97, 3, 3), (98, 0, 55), (99, 3, 3), (100, 0, 23), (101, 3, 3), (102, 0, 23), (103, 3, 3), (104, 0, 167), (105, 3, 3), (106, 0, 35), (107, 3, 3), (108, 0, 71), (109, 0, 7), (110, 3, 3), (111, 0, 55), (112, 3, 3), (113, 0, 23), (114, 3, 3), (115, 0, 23), (116, 3, 3), (117, 0, 167), (118, 3, 3), (119, 0, 35), (120, 3, 3), (121, 0, 71), (122, 0, 7), (123, 3, 3), (124, 0, 55), (125, 3, 3), (126, 0, 23), (127, 3, 3), (128, 0, 23), (129, 3, 3), (130, 0, 167), (131, 3, 3), (132, 0, 35), (133, 3, 3), (134, 0, 71), (135, 0, 7), (136, 3, 3), (137, 0, 55), (138, 3, 3), (139, 0, 23), (140, 3, 3), (141, 0, 23), (142, 3, 3), (143, 0, 167), (144, 3, 3), (145, 0, 35), (146, 3, 3), (147, 0, 71), (148, 0, 7), (149, 3, 3), (150, 0, 55), (151, 3, 3), (152, 0, 23), (153, 3, 3), (154, 0, 23), (155, 3, 3), (156, 0, 167), (157, 3, 3), (158, 0, 35), (159, 3, 3), (160, 0, 71), (161, 0, 7), (162, 3, 3), (163, 0, 55), (164, 3, 3), (165, 0, 23), (166, 3, 3), (167, 0, 23), (168, 3, 3), (169, 0, 167), (170, 3, 3), (171, 0, 35), (172, 3, 3), (173, 0, 71), (174, 0, 7), (175, 3, 3), (176, 0, 55), (177, 3, 3), (178, 0, 23), (179, 3, 3), (180, 0, 23), (181, 3, 3), (182, 0, 167), (183, 3, 3), (184, 0, 35), (185, 3, 3), (186, 0, 71), (187, 0, 7), (188, 3, 3), (189, 0, 55), (190, 3, 3), (191, 0, 23), (192, 3, 3), (193, 0, 23), (194, 3, 3), (195, 0, 167), (196, 3, 3), (197, 0, 35), (198, 3, 3), (199, 0, 71), (206, 2, 8), (220, 3, 3), (221, 0, 47)], zl104), zl175)
set_option maxRecDepth 100000 in
theorem p2_s791_s {X : Int → Int} {LX : Nat} : ck_Ok p2_O X LX 158 p2_s791 := ck_ok_s (O := p2_O) (X := X) (LX := LX) (E := [(143, [p2_s783]), (24, [p2_s349]), (66, [p2_s785]), (154, [p2_s529]), (10, [p2_s335]), (159, [p2_s790])]) (mi := 158) (cuts := []) (f := 140) (S := p2_s791) (lx := none) (XF := []) ⟨p2_nmu, ck_E1 (ck_S1 p2_s783_s ck_S0) (ck_E1 (ck_S1 p2_s349_s ck_S0) (ck_E1 (ck_S1 p2_s785_s ck_S0) (ck_E1 (ck_S1 p2_s529_s ck_S0) (ck_E1 (ck_S1 p2_s335_s ck_S0) (ck_E1 (ck_S1 p2_s790_s ck_S0) ck_E0)))))⟩ ck_X0 ck_l0 (by decide +kernel)
set_option maxRecDepth 100000 in
/-- GlacierMail.need -/
noncomputable def p2_s792 : ck_Sum := ((6, 1, 6), 245, [.inr (.inr (.inl 1)), .inl (ck_one 21), .inl (0, 24, [])], ([], [], []), ([], []), [(.inr none, 245, ([], [], [])), (.inl 3, 245, ([], [], []))])
set_option maxRecDepth 100000 in
theorem p2_s792_s {X : Int → Int} {LX : Nat} : ck_Ok p2_O X LX 133 p2_s792 := ck_ok_s (O := p2_O) (X := X) (LX := LX) (E := []) (mi := 133) (cuts := []) (f := 82) (S := p2_s792) (lx := none) (XF := []) ⟨p2_nmu, ck_E0⟩ ck_X0 ck_l0 (by decide +kernel)
set_option maxRecDepth 100000 in
/-- GlacierMail.needLetter -/
noncomputable def p2_s793 : ck_Sum := ((7, 1, 6), 245, [.inr (.inr (.inl 1)), .inl (ck_one 21)], ([], [], []), ([], []), [(.inl 3, 245, ([], [], [])), (.inr none, 245, ([], [], []))])
set_option maxRecDepth 100000 in
theorem p2_s793_s {X : Int → Int} {LX : Nat} : ck_Ok p2_O X LX 143 p2_s793 := ck_ok_s (O := p2_O) (X := X) (LX := LX) (E := [(9, [p2_s331]), (133, [p2_s792])]) (mi := 143) (cuts := []) (f := 86) (S := p2_s793) (lx := none) (XF := []) ⟨p2_nmu, ck_E1 (ck_S1 p2_s331_s ck_S0) (ck_E1 (ck_S1 p2_s792_s ck_S0) ck_E0)⟩ ck_X0 ck_l0 (by decide +kernel)
set_option maxRecDepth 100000 in
/-- GlacierMail$State.isRock -/
noncomputable def p2_s794 : ck_Sum := ((1, 0, 0), 245, [.inr (.inr (.inl 3)), .inl (ck_one 21)], ([], [], []), ([], []), [(.inr (some (.inl (ck_one 0))), 245, ([], [], [])), (.inr (some (.inl (ck_one 1))), 245, ([], [], []))])
set_option maxRecDepth 100000 in
theorem p2_s794_s {X : Int → Int} {LX : Nat} : ck_Ok p2_O X LX 28 p2_s794 := ck_ok_s (O := p2_O) (X := X) (LX := LX) (E := [(10, [p2_s335])]) (mi := 28) (cuts := []) (f := 90) (S := p2_s794) (lx := none) (XF := []) ⟨p2_nmu, ck_E1 (ck_S1 p2_s335_s ck_S0) ck_E0⟩ ck_X0 ck_l0 (by decide +kernel)
set_option maxRecDepth 100000 in
/-- GlacierMail.waits -/
noncomputable def p2_s795 : ck_Sum := ((2, 0, 0), 245, [.inr (.inr (.inl 1)), .inl (ck_one 21)], ([], [], [(3, 6, 6, (0, 299, [(10, 0)]))]), ([], []), [(.inr (some (.inl (ck_one 0))), 245, ([], [], [])), (.inr (some (.inl (ck_one 1))), 245, ([], [], []))])
set_option maxRecDepth 100000 in
theorem p2_s795_s {X : Int → Int} {LX : Nat} : ck_Ok p2_O X LX 66 p2_s795 := ck_ok_s (O := p2_O) (X := X) (LX := LX) (E := [(28, [p2_s794]), (10, [p2_s335, p2_s350]), (67, [p2_s351])]) (mi := 66) (cuts := []) (f := 134) (S := p2_s795) (lx := none) (XF := []) ⟨p2_nmu, ck_E1 (ck_S1 p2_s794_s ck_S0) (ck_E1 (ck_S1 p2_s335_s (ck_S1 p2_s350_s ck_S0)) (ck_E1 (ck_S1 p2_s351_s ck_S0) ck_E0))⟩ ck_X0 ck_l0 (by decide +kernel)
set_option maxRecDepth 100000 in
/-- GlacierMail$Rows.put -/
noncomputable def p2_s796 : ck_Sum := ((0, 0, 0), 245, [.inr (.inr (.inl 10)), .inl (ck_one 21), .inl (ck_one 5), .inl ((-1), 299, [])], ([], [], []), ([(11, 152, 152)], []), [(.inr none, 245, ([], [], []))])
set_option maxRecDepth 100000 in
theorem p2_s796_s {X : Int → Int} {LX : Nat} : ck_Ok p2_O X LX 45 p2_s796 := ck_ok_s (O := p2_O) (X := X) (LX := LX) (E := []) (mi := 45) (cuts := []) (f := 116) (S := p2_s796) (lx := none) (XF := []) ⟨p2_nmu, ck_E0⟩ ck_X0 ck_l0 (by decide +kernel)
set_option maxRecDepth 100000 in
/-- GlacierMail$Rows.put -/
noncomputable def p2_s797 : ck_Sum := ((0, 0, 0), 245, [.inr (.inr (.inl 10)), .inl (ck_one 21), .inl (ck_one 6), .inl (0, 299, [])], ([], [], []), ([(11, 153, 153)], []), [(.inr none, 245, ([], [], []))])
set_option maxRecDepth 100000 in
theorem p2_s797_s {X : Int → Int} {LX : Nat} : ck_Ok p2_O X LX 45 p2_s797 := ck_ok_s (O := p2_O) (X := X) (LX := LX) (E := []) (mi := 45) (cuts := []) (f := 116) (S := p2_s797) (lx := none) (XF := []) ⟨p2_nmu, ck_E0⟩ ck_X0 ck_l0 (by decide +kernel)
set_option maxRecDepth 100000 in
/-- GlacierMail$Rows.put -/
noncomputable def p2_s798 : ck_Sum := ((0, 0, 0), 245, [.inr (.inr (.inl 14)), .inl (0, 23, []), .inl (ck_one 1), .inl (ck_one 21)], ([], [], []), (zl173, []), [(.inr none, 245, ([], [], []))])
set_option maxRecDepth 100000 in
theorem p2_s798_s {X : Int → Int} {LX : Nat} : ck_Ok p2_O X LX 45 p2_s798 := ck_ok_s (O := p2_O) (X := X) (LX := LX) (E := []) (mi := 45) (cuts := []) (f := 116) (S := p2_s798) (lx := none) (XF := []) ⟨p2_nmu, ck_E0⟩ ck_X0 ck_l0 (by decide +kernel)
set_option maxRecDepth 100000 in
/-- GlacierMail$Rows.put -/
noncomputable def p2_s799 : ck_Sum := ((0, 0, 0), 245, [.inr (.inr (.inl 14)), .inl (ck_one (-1)), .inl (ck_one 1), .inl (ck_one 21)], ([], [], []), ([], []), [(.inr none, 245, ([], [], []))])
set_option maxRecDepth 100000 in
theorem p2_s799_s {X : Int → Int} {LX : Nat} : ck_Ok p2_O X LX 45 p2_s799 := ck_ok_s (O := p2_O) (X := X) (LX := LX) (E := []) (mi := 45) (cuts := []) (f := 76) (S := p2_s799) (lx := none) (XF := []) ⟨p2_nmu, ck_E0⟩ ck_X0 ck_l0 (by decide +kernel)
set_option maxRecDepth 100000 in
/-- GlacierMail$State.openLetter -/
noncomputable def p2_s800 : ck_Sum := ((1, 0, 0), 245, [.inr (.inr (.inl 3)), .inl (ck_one 21), .inl ((-1), 299, [])], ([], [], [(3, 6, 6, (0, 299, [(10, 0)]))]), ([(11, 152, 153), (14, 3, 3), (15, 0, 71)], []), [(.inr none, 245, ([], [], [(14, 3, 3, (1, 24, []))]))])
set_option maxRecDepth 100000 in
theorem p2_s800_s {X : Int → Int} {LX : Nat} : ck_Ok p2_O X LX 159 p2_s800 := ck_ok_s (O := p2_O) (X := X) (LX := LX) (E := [(45, [p2_s796, p2_s797, p2_s583, p2_s798, p2_s585, p2_s586, p2_s799, p2_s588]), (102, [p2_s589])]) (mi := 159) (cuts := []) (f := 144) (S := p2_s800) (lx := none) (XF := []) ⟨p2_nmu, ck_E1 (ck_S1 p2_s796_s (ck_S1 p2_s797_s (ck_S1 p2_s583_s (ck_S1 p2_s798_s (ck_S1 p2_s585_s (ck_S1 p2_s586_s (ck_S1 p2_s799_s (ck_S1 p2_s588_s ck_S0)))))))) (ck_E1 (ck_S1 p2_s589_s ck_S0) ck_E0)⟩ ck_X0 ck_l0 (by decide +kernel)
set_option maxRecDepth 100000 in
/-- GlacierMail.open -/
noncomputable def p2_s801 : ck_Sum := ((8, 2, 12), 245, [.inr (.inr (.inl 1)), .inl (ck_one 21)], ([], zl102, [(3, 6, 6, (0, 299, [(10, 0)]))]), ([(1, 15, 15), (11, 152, 153), (14, 3, 3), (15, 0, 71), (42, 1, 2), (44, 0, 7), (45, 3, 3), (46, 0, 55), (47, 3, 3), (48, 0, 23), (49, 3, 3), (50, 0, 23), (51, 3, 3), (52, 0, 167), (53, 3, 3), (54, 0, 35), (55, 3, 3), (56, 0, 71), (57, 0, 7), (58, 3, 3), (59, 0, 55), (60, 3, 3), (61, 0, 23), (62, 3, 3), (63, 0, 23), (64, 3, 3), (65, 0, 167), (66, 3, 3), (67, 0, 35), (68, 3, 3), (69, 0, 71), (70, 0, 7), (71, 3, 3), (72, 0, 55), (73, 3, 3), (74, 0, 23), (75, 3, 3), (76, 0, 23), (77, 3, 3), (78, 0, 167), (79, 3, 3), (80, 0, 35), (81, 3, 3), (82, 0, 71), (83, 0, 7), (84, 3, 3), (85, 0, 55), (86, 3, 3), (87, 0, 23), (88, 3, 3), (89, 0, 23), (90, 3, 3), (91, 0, 167), (92, 3, 3), (93, 0, 35), (94, 3, 3), (95, 0, 71), (96, 0, 7), (97, 3, 3), (98, 0, 55), (99, 3, 3), (100, 0, 23), (101, 3, 3), (102, 0, 23), (103, 3, 3), (104, 0, 167), (105, 3, 3), (106, 0, 35), (107, 3, 3), (108, 0, 71), (109, 0, 7), (110, 3, 3), (111, 0, 55), (112, 3, 3), (113, 0, 23), (114, 3, 3), (115, 0, 23), (116, 3, 3), (117, 0, 167), (118, 3, 3), (119, 0, 35), (120, 3, 3), (121, 0, 71), (122, 0, 7), (123, 3, 3), (124, 0, 55), (125, 3, 3), (126, 0, 23), (127, 3, 3), (128, 0, 23), (129, 3, 3), (130, 0, 167), (131, 3, 3), (132, 0, 35), (133, 3, 3), (134, 0, 71), (135, 0, 7), (136, 3, 3), (137, 0, 55), (138, 3, 3), (139, 0, 23), (140, 3, 3), (141, 0, 23), (142, 3, 3), (143, 0, 167), (144, 3, 3), (145, 0, 35), (146, 3, 3), (147, 0, 71), (148, 0, 7), (149, 3, 3), (150, 0, 55), (151, 3, 3), (152, 0, 23), (153, 3, 3), (154, 0, 23), (155, 3, 3), (156, 0, 167), (157, 3, 3), (158, 0, 35), (159, 3, 3), (160, 0, 71), (161, 0, 7), (162, 3, 3), (163, 0, 55), (164, 3, 3), (165, 0, 23), (166, 3, 3), (167, 0, 23), (168, 3, 3), (169, 0, 167), (170, 3, 3), (171, 0, 35), (172, 3, 3), (173, 0, 71), (174, 0, 7), (175, 3, 3), (176, 0, 55), (177, 3, 3), (178, 0, 23), (179, 3, 3), (180, 0, 23), (181, 3, 3), (182, 0, 167), (183, 3, 3), (184, 0, 35), (185, 3, 3), (186, 0, 71), (187, 0, 7), (188, 3, 3), (189, 0, 55), (190, 3, 3), (191, 0, 23), (192, 3, 3), (193, 0, 23), (194, 3, 3), (195, 0, 167), (196, 3, 3), (197, 0, 35), (198, 3, 3), (199, 0, 71), (206, 2, 8), (220, 3, 3), (221, 0, 47)], zl104), zl175)
set_option maxRecDepth 100000 in
theorem p2_s801_s {X : Int → Int} {LX : Nat} : ck_Ok p2_O X LX 158 p2_s801 := ck_ok_s (O := p2_O) (X := X) (LX := LX) (E := [(143, [p2_s793]), (24, [p2_s349]), (66, [p2_s795]), (154, [p2_s529]), (10, [p2_s335]), (159, [p2_s800])]) (mi := 158) (cuts := []) (f := 140) (S := p2_s801) (lx := none) (XF := []) ⟨p2_nmu, ck_E1 (ck_S1 p2_s793_s ck_S0) (ck_E1 (ck_S1 p2_s349_s ck_S0) (ck_E1 (ck_S1 p2_s795_s ck_S0) (ck_E1 (ck_S1 p2_s529_s ck_S0) (ck_E1 (ck_S1 p2_s335_s ck_S0) (ck_E1 (ck_S1 p2_s800_s ck_S0) ck_E0)))))⟩ ck_X0 ck_l0 (by decide +kernel)
set_option maxRecDepth 100000 in
/-- GlacierMail.need -/
noncomputable def p2_s802 : ck_Sum := ((6, 1, 6), 245, [.inr (.inr (.inl 1)), .inl (ck_one 22), .inl (0, 24, [])], ([], [], []), ([], []), [(.inr none, 245, ([], [], [])), (.inl 3, 245, ([], [], []))])
set_option maxRecDepth 100000 in
theorem p2_s802_s {X : Int → Int} {LX : Nat} : ck_Ok p2_O X LX 133 p2_s802 := ck_ok_s (O := p2_O) (X := X) (LX := LX) (E := []) (mi := 133) (cuts := []) (f := 82) (S := p2_s802) (lx := none) (XF := []) ⟨p2_nmu, ck_E0⟩ ck_X0 ck_l0 (by decide +kernel)
set_option maxRecDepth 100000 in
/-- GlacierMail.needLetter -/
noncomputable def p2_s803 : ck_Sum := ((7, 1, 6), 245, [.inr (.inr (.inl 1)), .inl (ck_one 22)], ([], [], []), ([], []), [(.inl 3, 245, ([], [], [])), (.inr none, 245, ([], [], []))])
set_option maxRecDepth 100000 in
theorem p2_s803_s {X : Int → Int} {LX : Nat} : ck_Ok p2_O X LX 143 p2_s803 := ck_ok_s (O := p2_O) (X := X) (LX := LX) (E := [(9, [p2_s331]), (133, [p2_s802])]) (mi := 143) (cuts := []) (f := 86) (S := p2_s803) (lx := none) (XF := []) ⟨p2_nmu, ck_E1 (ck_S1 p2_s331_s ck_S0) (ck_E1 (ck_S1 p2_s802_s ck_S0) ck_E0)⟩ ck_X0 ck_l0 (by decide +kernel)
set_option maxRecDepth 100000 in
/-- GlacierMail$State.isRock -/
noncomputable def p2_s804 : ck_Sum := ((1, 0, 0), 245, [.inr (.inr (.inl 3)), .inl (ck_one 22)], ([], [], []), ([], []), [(.inr (some (.inl (ck_one 0))), 245, ([], [], [])), (.inr (some (.inl (ck_one 1))), 245, ([], [], []))])
set_option maxRecDepth 100000 in
theorem p2_s804_s {X : Int → Int} {LX : Nat} : ck_Ok p2_O X LX 28 p2_s804 := ck_ok_s (O := p2_O) (X := X) (LX := LX) (E := [(10, [p2_s335])]) (mi := 28) (cuts := []) (f := 90) (S := p2_s804) (lx := none) (XF := []) ⟨p2_nmu, ck_E1 (ck_S1 p2_s335_s ck_S0) ck_E0⟩ ck_X0 ck_l0 (by decide +kernel)
set_option maxRecDepth 100000 in
/-- GlacierMail.waits -/
noncomputable def p2_s805 : ck_Sum := ((2, 0, 0), 245, [.inr (.inr (.inl 1)), .inl (ck_one 22)], ([], [], [(3, 6, 6, (0, 299, [(10, 0)]))]), ([], []), [(.inr (some (.inl (ck_one 0))), 245, ([], [], [])), (.inr (some (.inl (ck_one 1))), 245, ([], [], []))])
set_option maxRecDepth 100000 in
theorem p2_s805_s {X : Int → Int} {LX : Nat} : ck_Ok p2_O X LX 66 p2_s805 := ck_ok_s (O := p2_O) (X := X) (LX := LX) (E := [(28, [p2_s804]), (10, [p2_s335, p2_s350]), (67, [p2_s351])]) (mi := 66) (cuts := []) (f := 134) (S := p2_s805) (lx := none) (XF := []) ⟨p2_nmu, ck_E1 (ck_S1 p2_s804_s ck_S0) (ck_E1 (ck_S1 p2_s335_s (ck_S1 p2_s350_s ck_S0)) (ck_E1 (ck_S1 p2_s351_s ck_S0) ck_E0))⟩ ck_X0 ck_l0 (by decide +kernel)
set_option maxRecDepth 100000 in
/-- GlacierMail$Rows.put -/
noncomputable def p2_s806 : ck_Sum := ((0, 0, 0), 245, [.inr (.inr (.inl 10)), .inl (ck_one 22), .inl (ck_one 5), .inl ((-1), 299, [])], ([], [], []), ([(11, 159, 159)], []), [(.inr none, 245, ([], [], []))])
set_option maxRecDepth 100000 in
theorem p2_s806_s {X : Int → Int} {LX : Nat} : ck_Ok p2_O X LX 45 p2_s806 := ck_ok_s (O := p2_O) (X := X) (LX := LX) (E := []) (mi := 45) (cuts := []) (f := 116) (S := p2_s806) (lx := none) (XF := []) ⟨p2_nmu, ck_E0⟩ ck_X0 ck_l0 (by decide +kernel)
set_option maxRecDepth 100000 in
/-- GlacierMail$Rows.put -/
noncomputable def p2_s807 : ck_Sum := ((0, 0, 0), 245, [.inr (.inr (.inl 10)), .inl (ck_one 22), .inl (ck_one 6), .inl (0, 299, [])], ([], [], []), ([(11, 160, 160)], []), [(.inr none, 245, ([], [], []))])
set_option maxRecDepth 100000 in
theorem p2_s807_s {X : Int → Int} {LX : Nat} : ck_Ok p2_O X LX 45 p2_s807 := ck_ok_s (O := p2_O) (X := X) (LX := LX) (E := []) (mi := 45) (cuts := []) (f := 116) (S := p2_s807) (lx := none) (XF := []) ⟨p2_nmu, ck_E0⟩ ck_X0 ck_l0 (by decide +kernel)
set_option maxRecDepth 100000 in
/-- GlacierMail$Rows.put -/
noncomputable def p2_s808 : ck_Sum := ((0, 0, 0), 245, [.inr (.inr (.inl 14)), .inl (0, 23, []), .inl (ck_one 1), .inl (ck_one 22)], ([], [], []), (zl173, []), [(.inr none, 245, ([], [], []))])
set_option maxRecDepth 100000 in
theorem p2_s808_s {X : Int → Int} {LX : Nat} : ck_Ok p2_O X LX 45 p2_s808 := ck_ok_s (O := p2_O) (X := X) (LX := LX) (E := []) (mi := 45) (cuts := []) (f := 116) (S := p2_s808) (lx := none) (XF := []) ⟨p2_nmu, ck_E0⟩ ck_X0 ck_l0 (by decide +kernel)
set_option maxRecDepth 100000 in
/-- GlacierMail$Rows.put -/
noncomputable def p2_s809 : ck_Sum := ((0, 0, 0), 245, [.inr (.inr (.inl 14)), .inl (ck_one (-1)), .inl (ck_one 1), .inl (ck_one 22)], ([], [], []), ([], []), [(.inr none, 245, ([], [], []))])
set_option maxRecDepth 100000 in
theorem p2_s809_s {X : Int → Int} {LX : Nat} : ck_Ok p2_O X LX 45 p2_s809 := ck_ok_s (O := p2_O) (X := X) (LX := LX) (E := []) (mi := 45) (cuts := []) (f := 76) (S := p2_s809) (lx := none) (XF := []) ⟨p2_nmu, ck_E0⟩ ck_X0 ck_l0 (by decide +kernel)
set_option maxRecDepth 100000 in
/-- GlacierMail$State.openLetter -/
noncomputable def p2_s810 : ck_Sum := ((1, 0, 0), 245, [.inr (.inr (.inl 3)), .inl (ck_one 22), .inl ((-1), 299, [])], ([], [], [(3, 6, 6, (0, 299, [(10, 0)]))]), ([(11, 159, 160), (14, 3, 3), (15, 0, 71)], []), [(.inr none, 245, ([], [], [(14, 3, 3, (1, 24, []))]))])
set_option maxRecDepth 100000 in
theorem p2_s810_s {X : Int → Int} {LX : Nat} : ck_Ok p2_O X LX 159 p2_s810 := ck_ok_s (O := p2_O) (X := X) (LX := LX) (E := [(45, [p2_s806, p2_s807, p2_s583, p2_s808, p2_s585, p2_s586, p2_s809, p2_s588]), (102, [p2_s589])]) (mi := 159) (cuts := []) (f := 144) (S := p2_s810) (lx := none) (XF := []) ⟨p2_nmu, ck_E1 (ck_S1 p2_s806_s (ck_S1 p2_s807_s (ck_S1 p2_s583_s (ck_S1 p2_s808_s (ck_S1 p2_s585_s (ck_S1 p2_s586_s (ck_S1 p2_s809_s (ck_S1 p2_s588_s ck_S0)))))))) (ck_E1 (ck_S1 p2_s589_s ck_S0) ck_E0)⟩ ck_X0 ck_l0 (by decide +kernel)
end
