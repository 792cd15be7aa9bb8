/-! 78r88l00.hp -/
section
/-! THE LAW'S OWN METHODS (laid by wip/am/p2n.py). -/
set_option maxRecDepth 100000 in
/-- GlacierMailLaw.valley -/
noncomputable def pl_h0 : ck_Sum := ((13, 1, 6), 249, [.inr (.inr (.inl 1)), .inr (.inr (.inl 245))], ([], [(3, 8, 246), (16, 8, 100016)], zl44), (zl253, [(3, 8), (16, 8)]), [(.inr (some (.inl (ck_one 0))), 249, ([], [(3, 8, 246), (16, 8, 246)], zl254)), (.inr (some (.inl (ck_one 1))), 249, ([], [(3, 8, 246), (16, 8, 246)], zl49)), (.inr (some (.inl (ck_one 2))), 249, ([], [(3, 8, 246), (16, 8, 246)], zl48))])
set_option maxRecDepth 100000 in
theorem pl_h0_s {X : Int → Int} {LX : Nat} : ck_Ok p2_OL X LX 70 pl_h0 := ck_ok_s (O := p2_OL) (X := X) (LX := LX) (E := [(71, [pl_s143])]) (mi := 70) (cuts := []) (f := 88) (S := pl_h0) (lx := none) (XF := []) ⟨pl_nmu, ck_E1 (ck_S1 pl_s143_s ck_S0) ck_E0⟩ ck_X0 ck_l0 (by decide +kernel)
set_option maxRecDepth 100000 in
/-- GlacierMailLaw.heat -/
noncomputable def pl_h1 : ck_Sum := ((8, 1, 6), 249, [.inr (.inr (.inl 1)), .inl ((-2147483648), (-1), []), .inr (.inr (.inl 245))], ([], [], []), ([], []), [(.inr (some (.inl (ck_one 1))), 249, ([], [], []))])
set_option maxRecDepth 100000 in
theorem pl_h1_s {X : Int → Int} {LX : Nat} : ck_Ok p2_OL X LX 127 pl_h1 := ck_ok_s (O := p2_OL) (X := X) (LX := LX) (E := [(128, [pl_s146])]) (mi := 127) (cuts := []) (f := 86) (S := pl_h1) (lx := none) (XF := []) ⟨pl_nmu, ck_E1 (ck_S1 pl_s146_s ck_S0) ck_E0⟩ ck_X0 ck_l0 (by decide +kernel)
set_option maxRecDepth 100000 in
/-- GlacierMailLaw.heat -/
noncomputable def pl_h2 : ck_Sum := ((8, 1, 6), 249, [.inr (.inr (.inl 1)), .inl (300, 2147483647, []), .inr (.inr (.inl 245))], ([], [], []), ([], []), [(.inr (some (.inl (ck_one 1))), 249, ([], [], []))])
set_option maxRecDepth 100000 in
theorem pl_h2_s {X : Int → Int} {LX : Nat} : ck_Ok p2_OL X LX 127 pl_h2 := ck_ok_s (O := p2_OL) (X := X) (LX := LX) (E := [(128, [pl_s148])]) (mi := 127) (cuts := []) (f := 86) (S := pl_h2) (lx := none) (XF := []) ⟨pl_nmu, ck_E1 (ck_S1 pl_s148_s ck_S0) ck_E0⟩ ck_X0 ck_l0 (by decide +kernel)
set_option maxRecDepth 100000 in
/-- GlacierMailLaw.heat -/
noncomputable def pl_h3 : ck_Sum := ((2, 0, 0), 249, [.inr (.inr (.inl 1)), .inl (0, 299, []), .inr (.inr (.inl 245))], ([], [], []), ([(245, 0, 0)], []), [(.inr (some (.inl (ck_one 0))), 249, ([], [], [(245, 0, 0, (0, 9, []))]))])
set_option maxRecDepth 100000 in
theorem pl_h3_s {X : Int → Int} {LX : Nat} : ck_Ok p2_OL X LX 127 pl_h3 := ck_ok_s (O := p2_OL) (X := X) (LX := LX) (E := [(128, [pl_s151])]) (mi := 127) (cuts := []) (f := 90) (S := pl_h3) (lx := none) (XF := []) ⟨pl_nmu, ck_E1 (ck_S1 pl_s151_s ck_S0) ck_E0⟩ ck_X0 ck_l0 (by decide +kernel)
set_option maxRecDepth 100000 in
/-- GlacierMailLaw.speed -/
noncomputable def pl_h4 : ck_Sum := ((9, 1, 6), 249, [.inr (.inr (.inl 1)), .inl ((-2147483648), (-1), []), .inl ((-2147483648), 2147483647, []), .inr (.inr (.inl 245))], ([], [], []), ([], []), [(.inr (some (.inl (ck_one 1))), 249, ([], [], []))])
set_option maxRecDepth 100000 in
theorem pl_h4_s {X : Int → Int} {LX : Nat} : ck_Ok p2_OL X LX 130 pl_h4 := ck_ok_s (O := p2_OL) (X := X) (LX := LX) (E := [(131, [pl_s154])]) (mi := 130) (cuts := []) (f := 88) (S := pl_h4) (lx := none) (XF := []) ⟨pl_nmu, ck_E1 (ck_S1 pl_s154_s ck_S0) ck_E0⟩ ck_X0 ck_l0 (by decide +kernel)
set_option maxRecDepth 100000 in
/-- GlacierMailLaw.speed -/
noncomputable def pl_h5 : ck_Sum := ((9, 1, 6), 249, [.inr (.inr (.inl 1)), .inl (6, 2147483647, []), .inl ((-2147483648), 2147483647, []), .inr (.inr (.inl 245))], ([], [], []), ([], []), [(.inr (some (.inl (ck_one 1))), 249, ([], [], []))])
set_option maxRecDepth 100000 in
theorem pl_h5_s {X : Int → Int} {LX : Nat} : ck_Ok p2_OL X LX 130 pl_h5 := ck_ok_s (O := p2_OL) (X := X) (LX := LX) (E := [(131, [pl_s157])]) (mi := 130) (cuts := []) (f := 88) (S := pl_h5) (lx := none) (XF := []) ⟨pl_nmu, ck_E1 (ck_S1 pl_s157_s ck_S0) ck_E0⟩ ck_X0 ck_l0 (by decide +kernel)
set_option maxRecDepth 100000 in
/-- GlacierMailLaw.speed -/
noncomputable def pl_h6 : ck_Sum := ((9, 2, 12), 249, [.inr (.inr (.inl 1)), .inl (0, 5, []), .inl ((-2147483648), (-1), []), .inr (.inr (.inl 245))], ([], [], []), ([], []), [(.inr (some (.inl (ck_one 1))), 249, ([], [], []))])
set_option maxRecDepth 100000 in
theorem pl_h6_s {X : Int → Int} {LX : Nat} : ck_Ok p2_OL X LX 130 pl_h6 := ck_ok_s (O := p2_OL) (X := X) (LX := LX) (E := [(131, [pl_s162])]) (mi := 130) (cuts := []) (f := 88) (S := pl_h6) (lx := none) (XF := []) ⟨pl_nmu, ck_E1 (ck_S1 pl_s162_s ck_S0) ck_E0⟩ ck_X0 ck_l0 (by decide +kernel)
set_option maxRecDepth 100000 in
/-- GlacierMailLaw.speed -/
noncomputable def pl_h7 : ck_Sum := ((9, 2, 12), 249, [.inr (.inr (.inl 1)), .inl (0, 5, []), .inl (99, 2147483647, []), .inr (.inr (.inl 245))], ([], [], []), ([], []), [(.inr (some (.inl (ck_one 1))), 249, ([], [], []))])
set_option maxRecDepth 100000 in
theorem pl_h7_s {X : Int → Int} {LX : Nat} : ck_Ok p2_OL X LX 130 pl_h7 := ck_ok_s (O := p2_OL) (X := X) (LX := LX) (E := [(131, [pl_s165])]) (mi := 130) (cuts := []) (f := 88) (S := pl_h7) (lx := none) (XF := []) ⟨pl_nmu, ck_E1 (ck_S1 pl_s165_s ck_S0) ck_E0⟩ ck_X0 ck_l0 (by decide +kernel)
set_option maxRecDepth 100000 in
/-- GlacierMailLaw.speed -/
noncomputable def pl_h8 : ck_Sum := ((9, 2, 12), 249, [.inr (.inr (.inl 1)), .inl (0, 5, []), .inl (0, 98, []), .inr (.inr (.inl 245))], ([], [], []), ([(245, 0, 0)], []), [(.inr (some (.inl (ck_one 1))), 249, ([], [], [])), (.inr (some (.inl (ck_one 0))), 249, ([], [], [(245, 0, 0, ((-1), 98, []))]))])
set_option maxRecDepth 100000 in
theorem pl_h8_s {X : Int → Int} {LX : Nat} : ck_Ok p2_OL X LX 130 pl_h8 := ck_ok_s (O := p2_OL) (X := X) (LX := LX) (E := [(131, [pl_s169])]) (mi := 130) (cuts := []) (f := 92) (S := pl_h8) (lx := none) (XF := []) ⟨pl_nmu, ck_E1 (ck_S1 pl_s169_s ck_S0) ck_E0⟩ ck_X0 ck_l0 (by decide +kernel)
set_option maxRecDepth 100000 in
/-- GlacierMailLaw.flow -/
noncomputable def pl_h9 : ck_Sum := ((9, 1, 6), 249, [.inr (.inr (.inl 1)), .inl ((-2147483648), (-1), []), .inl ((-2147483648), 2147483647, []), .inl ((-2147483648), 2147483647, []), .inr (.inr (.inl 245))], ([], [], []), ([], []), [(.inr (some (.inl (ck_one 1))), 249, ([], [], []))])
set_option maxRecDepth 100000 in
theorem pl_h9_s {X : Int → Int} {LX : Nat} : ck_Ok p2_OL X LX 135 pl_h9 := ck_ok_s (O := p2_OL) (X := X) (LX := LX) (E := [(136, [pl_s170])]) (mi := 135) (cuts := []) (f := 90) (S := pl_h9) (lx := none) (XF := []) ⟨pl_nmu, ck_E1 (ck_S1 pl_s170_s ck_S0) ck_E0⟩ ck_X0 ck_l0 (by decide +kernel)
set_option maxRecDepth 100000 in
/-- GlacierMailLaw.flow -/
noncomputable def pl_h10 : ck_Sum := ((9, 1, 6), 249, [.inr (.inr (.inl 1)), .inl (6, 2147483647, []), .inl ((-2147483648), 2147483647, []), .inl ((-2147483648), 2147483647, []), .inr (.inr (.inl 245))], ([], [], []), ([], []), [(.inr (some (.inl (ck_one 1))), 249, ([], [], []))])
set_option maxRecDepth 100000 in
theorem pl_h10_s {X : Int → Int} {LX : Nat} : ck_Ok p2_OL X LX 135 pl_h10 := ck_ok_s (O := p2_OL) (X := X) (LX := LX) (E := [(136, [pl_s171])]) (mi := 135) (cuts := []) (f := 90) (S := pl_h10) (lx := none) (XF := []) ⟨pl_nmu, ck_E1 (ck_S1 pl_s171_s ck_S0) ck_E0⟩ ck_X0 ck_l0 (by decide +kernel)
set_option maxRecDepth 100000 in
/-- GlacierMailLaw.flow -/
noncomputable def pl_h11 : ck_Sum := ((9, 2, 12), 249, [.inr (.inr (.inl 1)), .inl (0, 5, []), .inl ((-2147483648), (-1), []), .inl ((-2147483648), 2147483647, []), .inr (.inr (.inl 245))], ([], [], []), ([], []), [(.inr (some (.inl (ck_one 1))), 249, ([], [], []))])
set_option maxRecDepth 100000 in
theorem pl_h11_s {X : Int → Int} {LX : Nat} : ck_Ok p2_OL X LX 135 pl_h11 := ck_ok_s (O := p2_OL) (X := X) (LX := LX) (E := [(136, [pl_s172])]) (mi := 135) (cuts := []) (f := 90) (S := pl_h11) (lx := none) (XF := []) ⟨pl_nmu, ck_E1 (ck_S1 pl_s172_s ck_S0) ck_E0⟩ ck_X0 ck_l0 (by decide +kernel)
set_option maxRecDepth 100000 in
/-- GlacierMailLaw.flow -/
noncomputable def pl_h12 : ck_Sum := ((9, 2, 12), 249, [.inr (.inr (.inl 1)), .inl (0, 5, []), .inl (99, 2147483647, []), .inl ((-2147483648), 2147483647, []), .inr (.inr (.inl 245))], ([], [], []), ([], []), [(.inr (some (.inl (ck_one 1))), 249, ([], [], []))])
set_option maxRecDepth 100000 in
theorem pl_h12_s {X : Int → Int} {LX : Nat} : ck_Ok p2_OL X LX 135 pl_h12 := ck_ok_s (O := p2_OL) (X := X) (LX := LX) (E := [(136, [pl_s173])]) (mi := 135) (cuts := []) (f := 90) (S := pl_h12) (lx := none) (XF := []) ⟨pl_nmu, ck_E1 (ck_S1 pl_s173_s ck_S0) ck_E0⟩ ck_X0 ck_l0 (by decide +kernel)
set_option maxRecDepth 100000 in
/-- GlacierMailLaw.flow -/
noncomputable def pl_h13 : ck_Sum := ((9, 3, 18), 249, [.inr (.inr (.inl 1)), .inl (0, 5, []), .inl (0, 98, []), .inl ((-2147483648), (-1), []), .inr (.inr (.inl 245))], ([], [], []), ([], []), [(.inr (some (.inl (ck_one 1))), 249, ([], [], [])), (.inr (some (.inl (ck_one 2))), 249, ([], [], []))])
set_option maxRecDepth 100000 in
theorem pl_h13_s {X : Int → Int} {LX : Nat} : ck_Ok p2_OL X LX 135 pl_h13 := ck_ok_s (O := p2_OL) (X := X) (LX := LX) (E := [(136, [pl_s174])]) (mi := 135) (cuts := []) (f := 90) (S := pl_h13) (lx := none) (XF := []) ⟨pl_nmu, ck_E1 (ck_S1 pl_s174_s ck_S0) ck_E0⟩ ck_X0 ck_l0 (by decide +kernel)
set_option maxRecDepth 100000 in
/-- GlacierMailLaw.flow -/
noncomputable def pl_h14 : ck_Sum := ((9, 3, 18), 249, [.inr (.inr (.inl 1)), .inl (0, 5, []), .inl (0, 98, []), .inl (300, 2147483647, []), .inr (.inr (.inl 245))], ([], [], []), ([], []), [(.inr (some (.inl (ck_one 1))), 249, ([], [], [])), (.inr (some (.inl (ck_one 2))), 249, ([], [], []))])
set_option maxRecDepth 100000 in
theorem pl_h14_s {X : Int → Int} {LX : Nat} : ck_Ok p2_OL X LX 135 pl_h14 := ck_ok_s (O := p2_OL) (X := X) (LX := LX) (E := [(136, [pl_s175])]) (mi := 135) (cuts := []) (f := 90) (S := pl_h14) (lx := none) (XF := []) ⟨pl_nmu, ck_E1 (ck_S1 pl_s175_s ck_S0) ck_E0⟩ ck_X0 ck_l0 (by decide +kernel)
set_option maxRecDepth 100000 in
/-- GlacierMailLaw.person -/
noncomputable def pl_h16 : ck_Sum := ((9, 1, 6), 249, [.inr (.inr (.inl 1)), .inl ((-2147483648), (-1), []), .inl ((-2147483648), 2147483647, []), .inr (.inr (.inl 245))], ([], [], []), ([], []), [(.inr (some (.inl (ck_one 1))), 249, ([], [], []))])
set_option maxRecDepth 100000 in
theorem pl_h16_s {X : Int → Int} {LX : Nat} : ck_Ok p2_OL X LX 137 pl_h16 := ck_ok_s (O := p2_OL) (X := X) (LX := LX) (E := [(138, [pl_s192])]) (mi := 137) (cuts := []) (f := 88) (S := pl_h16) (lx := none) (XF := []) ⟨pl_nmu, ck_E1 (ck_S1 pl_s192_s ck_S0) ck_E0⟩ ck_X0 ck_l0 (by decide +kernel)
set_option maxRecDepth 100000 in
/-- GlacierMailLaw.person -/
noncomputable def pl_h17 : ck_Sum := ((9, 1, 6), 249, [.inr (.inr (.inl 1)), .inl (8, 2147483647, []), .inl ((-2147483648), 2147483647, []), .inr (.inr (.inl 245))], ([], [], []), ([], []), [(.inr (some (.inl (ck_one 1))), 249, ([], [], []))])
set_option maxRecDepth 100000 in
theorem pl_h17_s {X : Int → Int} {LX : Nat} : ck_Ok p2_OL X LX 137 pl_h17 := ck_ok_s (O := p2_OL) (X := X) (LX := LX) (E := [(138, [pl_s195])]) (mi := 137) (cuts := []) (f := 88) (S := pl_h17) (lx := none) (XF := []) ⟨pl_nmu, ck_E1 (ck_S1 pl_s195_s ck_S0) ck_E0⟩ ck_X0 ck_l0 (by decide +kernel)
set_option maxRecDepth 100000 in
/-- GlacierMailLaw.person -/
noncomputable def pl_h18 : ck_Sum := ((9, 2, 12), 249, [.inr (.inr (.inl 1)), .inl (0, 7, []), .inl ((-2147483648), (-1), []), .inr (.inr (.inl 245))], ([], [], []), ([], []), [(.inr (some (.inl (ck_one 1))), 249, ([], [], [])), (.inr (some (.inl (ck_one 2))), 249, ([], [], []))])
set_option maxRecDepth 100000 in
theorem pl_h18_s {X : Int → Int} {LX : Nat} : ck_Ok p2_OL X LX 137 pl_h18 := ck_ok_s (O := p2_OL) (X := X) (LX := LX) (E := [(138, [pl_s198])]) (mi := 137) (cuts := []) (f := 88) (S := pl_h18) (lx := none) (XF := []) ⟨pl_nmu, ck_E1 (ck_S1 pl_s198_s ck_S0) ck_E0⟩ ck_X0 ck_l0 (by decide +kernel)
set_option maxRecDepth 100000 in
/-- GlacierMailLaw.person -/
noncomputable def pl_h19 : ck_Sum := ((9, 2, 12), 249, [.inr (.inr (.inl 1)), .inl (0, 7, []), .inl (10, 2147483647, []), .inr (.inr (.inl 245))], ([], [], []), ([], []), [(.inr (some (.inl (ck_one 1))), 249, ([], [], [])), (.inr (some (.inl (ck_one 2))), 249, ([], [], []))])
set_option maxRecDepth 100000 in
theorem pl_h19_s {X : Int → Int} {LX : Nat} : ck_Ok p2_OL X LX 137 pl_h19 := ck_ok_s (O := p2_OL) (X := X) (LX := LX) (E := [(138, [pl_s199])]) (mi := 137) (cuts := []) (f := 88) (S := pl_h19) (lx := none) (XF := []) ⟨pl_nmu, ck_E1 (ck_S1 pl_s199_s ck_S0) ck_E0⟩ ck_X0 ck_l0 (by decide +kernel)
set_option maxRecDepth 100000 in
/-- GlacierMailLaw.letter -/
noncomputable def pl_h21 : ck_Sum := ((9, 1, 6), 249, [.inr (.inr (.inl 1)), .inl ((-2147483648), (-1), []), .inl ((-2147483648), 2147483647, []), .inr (.inr (.inl 245))], ([], [], []), ([], []), [(.inr (some (.inl (ck_one 1))), 249, ([], [], []))])
set_option maxRecDepth 100000 in
theorem pl_h21_s {X : Int → Int} {LX : Nat} : ck_Ok p2_OL X LX 141 pl_h21 := ck_ok_s (O := p2_OL) (X := X) (LX := LX) (E := [(142, [pl_s228])]) (mi := 141) (cuts := []) (f := 88) (S := pl_h21) (lx := none) (XF := []) ⟨pl_nmu, ck_E1 (ck_S1 pl_s228_s ck_S0) ck_E0⟩ ck_X0 ck_l0 (by decide +kernel)
set_option maxRecDepth 100000 in
/-- GlacierMailLaw.letter -/
noncomputable def pl_h22 : ck_Sum := ((9, 1, 6), 249, [.inr (.inr (.inl 1)), .inl (24, 2147483647, []), .inl ((-2147483648), 2147483647, []), .inr (.inr (.inl 245))], ([], [], []), ([], []), [(.inr (some (.inl (ck_one 1))), 249, ([], [], []))])
set_option maxRecDepth 100000 in
theorem pl_h22_s {X : Int → Int} {LX : Nat} : ck_Ok p2_OL X LX 141 pl_h22 := ck_ok_s (O := p2_OL) (X := X) (LX := LX) (E := [(142, [pl_s231])]) (mi := 141) (cuts := []) (f := 88) (S := pl_h22) (lx := none) (XF := []) ⟨pl_nmu, ck_E1 (ck_S1 pl_s231_s ck_S0) ck_E0⟩ ck_X0 ck_l0 (by decide +kernel)
set_option maxRecDepth 100000 in
/-- GlacierMailLaw.letter -/
noncomputable def pl_h23 : ck_Sum := ((9, 2, 12), 249, [.inr (.inr (.inl 1)), .inl (0, 23, []), .inl ((-2147483648), (-1), []), .inr (.inr (.inl 245))], ([], [], []), ([], []), [(.inr (some (.inl (ck_one 1))), 249, ([], [], [])), (.inr (some (.inl (ck_one 2))), 249, ([], [], []))])
set_option maxRecDepth 100000 in
theorem pl_h23_s {X : Int → Int} {LX : Nat} : ck_Ok p2_OL X LX 141 pl_h23 := ck_ok_s (O := p2_OL) (X := X) (LX := LX) (E := [(142, [pl_s234])]) (mi := 141) (cuts := []) (f := 88) (S := pl_h23) (lx := none) (XF := []) ⟨pl_nmu, ck_E1 (ck_S1 pl_s234_s ck_S0) ck_E0⟩ ck_X0 ck_l0 (by decide +kernel)
set_option maxRecDepth 100000 in
/-- GlacierMailLaw.letter -/
noncomputable def pl_h24 : ck_Sum := ((9, 2, 12), 249, [.inr (.inr (.inl 1)), .inl (0, 23, []), .inl (10, 2147483647, []), .inr (.inr (.inl 245))], ([], [], []), ([], []), [(.inr (some (.inl (ck_one 1))), 249, ([], [], [])), (.inr (some (.inl (ck_one 2))), 249, ([], [], []))])
set_option maxRecDepth 100000 in
theorem pl_h24_s {X : Int → Int} {LX : Nat} : ck_Ok p2_OL X LX 141 pl_h24 := ck_ok_s (O := p2_OL) (X := X) (LX := LX) (E := [(142, [pl_s235])]) (mi := 141) (cuts := []) (f := 88) (S := pl_h24) (lx := none) (XF := []) ⟨pl_nmu, ck_E1 (ck_S1 pl_s235_s ck_S0) ck_E0⟩ ck_X0 ck_l0 (by decide +kernel)
set_option maxRecDepth 100000 in
/-- GlacierMailLaw.where -/
noncomputable def pl_h26 : ck_Sum := ((9, 1, 6), 249, [.inr (.inr (.inl 1)), .inl ((-2147483648), (-1), []), .inl ((-2147483648), 2147483647, []), .inr (.inr (.inl 245))], ([], [], []), ([], []), [(.inr (some (.inl (ck_one 1))), 249, ([], [], []))])
set_option maxRecDepth 100000 in
theorem pl_h26_s {X : Int → Int} {LX : Nat} : ck_Ok p2_OL X LX 146 pl_h26 := ck_ok_s (O := p2_OL) (X := X) (LX := LX) (E := [(147, [pl_s239])]) (mi := 146) (cuts := []) (f := 88) (S := pl_h26) (lx := none) (XF := []) ⟨pl_nmu, ck_E1 (ck_S1 pl_s239_s ck_S0) ck_E0⟩ ck_X0 ck_l0 (by decide +kernel)
set_option maxRecDepth 100000 in
/-- GlacierMailLaw.where -/
noncomputable def pl_h27 : ck_Sum := ((9, 1, 6), 249, [.inr (.inr (.inl 1)), .inl (24, 2147483647, []), .inl ((-2147483648), 2147483647, []), .inr (.inr (.inl 245))], ([], [], []), ([], []), [(.inr (some (.inl (ck_one 1))), 249, ([], [], []))])
set_option maxRecDepth 100000 in
theorem pl_h27_s {X : Int → Int} {LX : Nat} : ck_Ok p2_OL X LX 146 pl_h27 := ck_ok_s (O := p2_OL) (X := X) (LX := LX) (E := [(147, [pl_s240])]) (mi := 146) (cuts := []) (f := 88) (S := pl_h27) (lx := none) (XF := []) ⟨pl_nmu, ck_E1 (ck_S1 pl_s240_s ck_S0) ck_E0⟩ ck_X0 ck_l0 (by decide +kernel)
set_option maxRecDepth 100000 in
/-- GlacierMailLaw.where -/
noncomputable def pl_h28 : ck_Sum := ((9, 2, 12), 249, [.inr (.inr (.inl 1)), .inl (0, 23, []), .inl ((-2147483648), (-1), []), .inr (.inr (.inl 245))], ([], [], []), ([], []), [(.inr (some (.inl (ck_one 1))), 249, ([], [], [])), (.inr (some (.inl (ck_one 2))), 249, ([], [], []))])
set_option maxRecDepth 100000 in
theorem pl_h28_s {X : Int → Int} {LX : Nat} : ck_Ok p2_OL X LX 146 pl_h28 := ck_ok_s (O := p2_OL) (X := X) (LX := LX) (E := [(147, [pl_s241])]) (mi := 146) (cuts := []) (f := 88) (S := pl_h28) (lx := none) (XF := []) ⟨pl_nmu, ck_E1 (ck_S1 pl_s241_s ck_S0) ck_E0⟩ ck_X0 ck_l0 (by decide +kernel)
set_option maxRecDepth 100000 in
/-- GlacierMailLaw.where -/
noncomputable def pl_h29 : ck_Sum := ((9, 2, 12), 249, [.inr (.inr (.inl 1)), .inl (0, 23, []), .inl (300, 2147483647, []), .inr (.inr (.inl 245))], ([], [], []), ([], []), [(.inr (some (.inl (ck_one 1))), 249, ([], [], [])), (.inr (some (.inl (ck_one 2))), 249, ([], [], []))])
set_option maxRecDepth 100000 in
theorem pl_h29_s {X : Int → Int} {LX : Nat} : ck_Ok p2_OL X LX 146 pl_h29 := ck_ok_s (O := p2_OL) (X := X) (LX := LX) (E := [(147, [pl_s242])]) (mi := 146) (cuts := []) (f := 88) (S := pl_h29) (lx := none) (XF := []) ⟨pl_nmu, ck_E1 (ck_S1 pl_s242_s ck_S0) ck_E0⟩ ck_X0 ck_l0 (by decide +kernel)
set_option maxRecDepth 100000 in
/-- GlacierMailLaw.deep -/
noncomputable def pl_h31 : ck_Sum := ((9, 1, 6), 249, [.inr (.inr (.inl 1)), .inl ((-2147483648), (-1), []), .inl ((-2147483648), 2147483647, []), .inr (.inr (.inl 245))], ([], [], []), ([], []), [(.inr (some (.inl (ck_one 1))), 249, ([], [], []))])
set_option maxRecDepth 100000 in
theorem pl_h31_s {X : Int → Int} {LX : Nat} : ck_Ok p2_OL X LX 149 pl_h31 := ck_ok_s (O := p2_OL) (X := X) (LX := LX) (E := [(150, [pl_s245])]) (mi := 149) (cuts := []) (f := 88) (S := pl_h31) (lx := none) (XF := []) ⟨pl_nmu, ck_E1 (ck_S1 pl_s245_s ck_S0) ck_E0⟩ ck_X0 ck_l0 (by decide +kernel)
set_option maxRecDepth 100000 in
/-- GlacierMailLaw.deep -/
noncomputable def pl_h32 : ck_Sum := ((9, 1, 6), 249, [.inr (.inr (.inl 1)), .inl (24, 2147483647, []), .inl ((-2147483648), 2147483647, []), .inr (.inr (.inl 245))], ([], [], []), ([], []), [(.inr (some (.inl (ck_one 1))), 249, ([], [], []))])
set_option maxRecDepth 100000 in
theorem pl_h32_s {X : Int → Int} {LX : Nat} : ck_Ok p2_OL X LX 149 pl_h32 := ck_ok_s (O := p2_OL) (X := X) (LX := LX) (E := [(150, [pl_s246])]) (mi := 149) (cuts := []) (f := 88) (S := pl_h32) (lx := none) (XF := []) ⟨pl_nmu, ck_E1 (ck_S1 pl_s246_s ck_S0) ck_E0⟩ ck_X0 ck_l0 (by decide +kernel)
set_option maxRecDepth 100000 in
/-- GlacierMailLaw.deep -/
noncomputable def pl_h33 : ck_Sum := ((9, 2, 12), 249, [.inr (.inr (.inl 1)), .inl (0, 23, []), .inl ((-2147483648), (-1), []), .inr (.inr (.inl 245))], ([], [], []), ([], []), [(.inr (some (.inl (ck_one 1))), 249, ([], [], [])), (.inr (some (.inl (ck_one 2))), 249, ([], [], []))])
set_option maxRecDepth 100000 in
theorem pl_h33_s {X : Int → Int} {LX : Nat} : ck_Ok p2_OL X LX 149 pl_h33 := ck_ok_s (O := p2_OL) (X := X) (LX := LX) (E := [(150, [pl_s247])]) (mi := 149) (cuts := []) (f := 88) (S := pl_h33) (lx := none) (XF := []) ⟨pl_nmu, ck_E1 (ck_S1 pl_s247_s ck_S0) ck_E0⟩ ck_X0 ck_l0 (by decide +kernel)
set_option maxRecDepth 100000 in
/-- GlacierMailLaw.deep -/
noncomputable def pl_h34 : ck_Sum := ((9, 2, 12), 249, [.inr (.inr (.inl 1)), .inl (0, 23, []), .inl (300, 2147483647, []), .inr (.inr (.inl 245))], ([], [], []), ([], []), [(.inr (some (.inl (ck_one 1))), 249, ([], [], [])), (.inr (some (.inl (ck_one 2))), 249, ([], [], []))])
set_option maxRecDepth 100000 in
theorem pl_h34_s {X : Int → Int} {LX : Nat} : ck_Ok p2_OL X LX 149 pl_h34 := ck_ok_s (O := p2_OL) (X := X) (LX := LX) (E := [(150, [pl_s248])]) (mi := 149) (cuts := []) (f := 88) (S := pl_h34) (lx := none) (XF := []) ⟨pl_nmu, ck_E1 (ck_S1 pl_s248_s ck_S0) ck_E0⟩ ck_X0 ck_l0 (by decide +kernel)
set_option maxRecDepth 100000 in
/-- GlacierMailLaw.post -/
noncomputable def pl_h36 : ck_Sum := ((9, 1, 6), 249, [.inr (.inr (.inl 1)), .inl ((-2147483648), (-1), []), .inl ((-2147483648), 2147483647, []), .inr (.inr (.inl 245))], ([], [], []), ([], []), [(.inr (some (.inl (ck_one 1))), 249, ([], [], []))])
set_option maxRecDepth 100000 in
theorem pl_h36_s {X : Int → Int} {LX : Nat} : ck_Ok p2_OL X LX 151 pl_h36 := ck_ok_s (O := p2_OL) (X := X) (LX := LX) (E := [(152, [pl_s250])]) (mi := 151) (cuts := []) (f := 88) (S := pl_h36) (lx := none) (XF := []) ⟨pl_nmu, ck_E1 (ck_S1 pl_s250_s ck_S0) ck_E0⟩ ck_X0 ck_l0 (by decide +kernel)
set_option maxRecDepth 100000 in
/-- GlacierMailLaw.post -/
noncomputable def pl_h37 : ck_Sum := ((9, 1, 6), 249, [.inr (.inr (.inl 1)), .inl (8, 2147483647, []), .inl ((-2147483648), 2147483647, []), .inr (.inr (.inl 245))], ([], [], []), ([], []), [(.inr (some (.inl (ck_one 1))), 249, ([], [], []))])
set_option maxRecDepth 100000 in
theorem pl_h37_s {X : Int → Int} {LX : Nat} : ck_Ok p2_OL X LX 151 pl_h37 := ck_ok_s (O := p2_OL) (X := X) (LX := LX) (E := [(152, [pl_s251])]) (mi := 151) (cuts := []) (f := 88) (S := pl_h37) (lx := none) (XF := []) ⟨pl_nmu, ck_E1 (ck_S1 pl_s251_s ck_S0) ck_E0⟩ ck_X0 ck_l0 (by decide +kernel)
set_option maxRecDepth 100000 in
/-- GlacierMailLaw.post -/
noncomputable def pl_h38 : ck_Sum := ((9, 2, 12), 249, [.inr (.inr (.inl 1)), .inl (0, 7, []), .inl ((-2147483648), (-1), []), .inr (.inr (.inl 245))], ([], [], []), ([], []), [(.inr (some (.inl (ck_one 1))), 249, ([], [], []))])
set_option maxRecDepth 100000 in
theorem pl_h38_s {X : Int → Int} {LX : Nat} : ck_Ok p2_OL X LX 151 pl_h38 := ck_ok_s (O := p2_OL) (X := X) (LX := LX) (E := [(152, [pl_s252])]) (mi := 151) (cuts := []) (f := 88) (S := pl_h38) (lx := none) (XF := []) ⟨pl_nmu, ck_E1 (ck_S1 pl_s252_s ck_S0) ck_E0⟩ ck_X0 ck_l0 (by decide +kernel)
set_option maxRecDepth 100000 in
/-- GlacierMailLaw.post -/
noncomputable def pl_h39 : ck_Sum := ((9, 2, 12), 249, [.inr (.inr (.inl 1)), .inl (0, 7, []), .inl (8, 2147483647, []), .inr (.inr (.inl 245))], ([], [], []), ([], []), [(.inr (some (.inl (ck_one 1))), 249, ([], [], []))])
set_option maxRecDepth 100000 in
theorem pl_h39_s {X : Int → Int} {LX : Nat} : ck_Ok p2_OL X LX 151 pl_h39 := ck_ok_s (O := p2_OL) (X := X) (LX := LX) (E := [(152, [pl_s253])]) (mi := 151) (cuts := []) (f := 88) (S := pl_h39) (lx := none) (XF := []) ⟨pl_nmu, ck_E1 (ck_S1 pl_s253_s ck_S0) ck_E0⟩ ck_X0 ck_l0 (by decide +kernel)
set_option maxRecDepth 100000 in
/-- GlacierMailLaw.post -/
noncomputable def pl_h40 : ck_Sum := ((9, 4, 24), 249, [.inr (.inr (.inl 1)), .inl (0, 7, []), .inl (0, 7, []), .inr (.inr (.inl 245))], ([], zl230, [(3, 6, 6, (0, 299, [(10, 0)]))]), (zl256, zl104), [(.inr (some (.inl (ck_one 1))), 249, ([], zl105, [])), (.inr (some (.inl (ck_one 3))), 249, ([], zl105, [(10, 3, 3, ck_one 24)])), (.inr (some (.inl (ck_one 0))), 249, ([], zl231, zl257)), (.inr (some (.inl (ck_one 0))), 249, ([], zl232, zl258)), (.inr (some (.inl (ck_one 0))), 249, ([], zl233, zl259)), (.inr (some (.inl (ck_one 0))), 249, ([], zl234, zl260)), (.inr (some (.inl (ck_one 0))), 249, ([], zl235, zl261)), (.inr (some (.inl (ck_one 0))), 249, ([], zl236, zl262)), (.inr (some (.inl (ck_one 0))), 249, ([], zl237, zl263)), (.inr (some (.inl (ck_one 0))), 249, ([], zl238, zl264)), (.inr (some (.inl (ck_one 0))), 249, ([], zl239, zl265)), (.inr (some (.inl (ck_one 0))), 249, ([], zl240, zl266)), (.inr (some (.inl (ck_one 0))), 249, ([], zl241, zl267)), (.inr (some (.inl (ck_one 0))), 249, ([], zl242, zl268)), (.inr (some (.inl (ck_one 0))), 249, ([], zl105, zl269)), (.inr (some (.inl (ck_one 2))), 249, ([], zl105, []))])
set_option maxRecDepth 100000 in
theorem pl_h40_s {X : Int → Int} {LX : Nat} : ck_Ok p2_OL X LX 151 pl_h40 := ck_ok_s (O := p2_OL) (X := X) (LX := LX) (E := [(152, [pl_s358])]) (mi := 151) (cuts := []) (f := 92) (S := pl_h40) (lx := none) (XF := []) ⟨pl_nmu, ck_E1 (ck_S1 pl_s358_s ck_S0) ck_E0⟩ ck_X0 ck_l0 (by decide +kernel)
set_option maxRecDepth 100000 in
/-- GlacierMailLaw.watch -/
noncomputable def pl_h41 : ck_Sum := ((9, 1, 6), 249, [.inr (.inr (.inl 1)), .inl ((-2147483648), (-1), []), .inl ((-2147483648), 2147483647, []), .inr (.inr (.inl 245))], ([], [], []), ([], []), [(.inr (some (.inl (ck_one 1))), 249, ([], [], []))])
set_option maxRecDepth 100000 in
theorem pl_h41_s {X : Int → Int} {LX : Nat} : ck_Ok p2_OL X LX 155 pl_h41 := ck_ok_s (O := p2_OL) (X := X) (LX := LX) (E := [(156, [pl_s359])]) (mi := 155) (cuts := []) (f := 88) (S := pl_h41) (lx := none) (XF := []) ⟨pl_nmu, ck_E1 (ck_S1 pl_s359_s ck_S0) ck_E0⟩ ck_X0 ck_l0 (by decide +kernel)
set_option maxRecDepth 100000 in
/-- GlacierMailLaw.watch -/
noncomputable def pl_h42 : ck_Sum := ((9, 1, 6), 249, [.inr (.inr (.inl 1)), .inl (8, 2147483647, []), .inl ((-2147483648), 2147483647, []), .inr (.inr (.inl 245))], ([], [], []), ([], []), [(.inr (some (.inl (ck_one 1))), 249, ([], [], []))])
set_option maxRecDepth 100000 in
theorem pl_h42_s {X : Int → Int} {LX : Nat} : ck_Ok p2_OL X LX 155 pl_h42 := ck_ok_s (O := p2_OL) (X := X) (LX := LX) (E := [(156, [pl_s360])]) (mi := 155) (cuts := []) (f := 88) (S := pl_h42) (lx := none) (XF := []) ⟨pl_nmu, ck_E1 (ck_S1 pl_s360_s ck_S0) ck_E0⟩ ck_X0 ck_l0 (by decide +kernel)
set_option maxRecDepth 100000 in
/-- GlacierMailLaw.watch -/
noncomputable def pl_h43 : ck_Sum := ((9, 2, 12), 249, [.inr (.inr (.inl 1)), .inl (0, 7, []), .inl ((-2147483648), (-1), []), .inr (.inr (.inl 245))], ([], zl230, [(3, 6, 6, (0, 299, [(10, 0)]))]), (zl270, zl104), zl281)
set_option maxRecDepth 100000 in
theorem pl_h43_s {X : Int → Int} {LX : Nat} : ck_Ok p2_OL X LX 155 pl_h43 := ck_ok_s (O := p2_OL) (X := X) (LX := LX) (E := [(156, [pl_s364])]) (mi := 155) (cuts := []) (f := 92) (S := pl_h43) (lx := none) (XF := []) ⟨pl_nmu, ck_E1 (ck_S1 pl_s364_s ck_S0) ck_E0⟩ ck_X0 ck_l0 (by decide +kernel)
set_option maxRecDepth 100000 in
/-- GlacierMailLaw.watch -/
noncomputable def pl_h44 : ck_Sum := ((9, 2, 12), 249, [.inr (.inr (.inl 1)), .inl (0, 7, []), .inl (6, 2147483647, []), .inr (.inr (.inl 245))], ([], [], []), ([], []), [(.inr (some (.inl (ck_one 1))), 249, ([], [], []))])
set_option maxRecDepth 100000 in
theorem pl_h44_s {X : Int → Int} {LX : Nat} : ck_Ok p2_OL X LX 155 pl_h44 := ck_ok_s (O := p2_OL) (X := X) (LX := LX) (E := [(156, [pl_s365])]) (mi := 155) (cuts := []) (f := 88) (S := pl_h44) (lx := none) (XF := []) ⟨pl_nmu, ck_E1 (ck_S1 pl_s365_s ck_S0) ck_E0⟩ ck_X0 ck_l0 (by decide +kernel)
set_option maxRecDepth 100000 in
/-- GlacierMailLaw.watch -/
noncomputable def pl_h45 : ck_Sum := ((9, 2, 12), 249, [.inr (.inr (.inl 1)), .inl (0, 7, []), .inl (0, 5, []), .inr (.inr (.inl 245))], ([], zl230, [(3, 6, 6, (0, 299, [(10, 0)]))]), (zl270, zl104), zl281)
set_option maxRecDepth 100000 in
theorem pl_h45_s {X : Int → Int} {LX : Nat} : ck_Ok p2_OL X LX 155 pl_h45 := ck_ok_s (O := p2_OL) (X := X) (LX := LX) (E := [(156, [pl_s367])]) (mi := 155) (cuts := []) (f := 92) (S := pl_h45) (lx := none) (XF := []) ⟨pl_nmu, ck_E1 (ck_S1 pl_s367_s ck_S0) ck_E0⟩ ck_X0 ck_l0 (by decide +kernel)
set_option maxRecDepth 100000 in
/-- GlacierMailLaw.open -/
noncomputable def pl_h46 : ck_Sum := ((9, 1, 6), 249, [.inr (.inr (.inl 1)), .inl ((-2147483648), (-1), []), .inr (.inr (.inl 245))], ([], [], []), ([], []), [(.inr (some (.inl (ck_one 1))), 249, ([], [], []))])
set_option maxRecDepth 100000 in
theorem pl_h46_s {X : Int → Int} {LX : Nat} : ck_Ok p2_OL X LX 157 pl_h46 := ck_ok_s (O := p2_OL) (X := X) (LX := LX) (E := [(158, [pl_s368])]) (mi := 157) (cuts := []) (f := 86) (S := pl_h46) (lx := none) (XF := []) ⟨pl_nmu, ck_E1 (ck_S1 pl_s368_s ck_S0) ck_E0⟩ ck_X0 ck_l0 (by decide +kernel)
set_option maxRecDepth 100000 in
/-- GlacierMailLaw.open -/
noncomputable def pl_h47 : ck_Sum := ((9, 1, 6), 249, [.inr (.inr (.inl 1)), .inl (24, 2147483647, []), .inr (.inr (.inl 245))], ([], [], []), ([], []), [(.inr (some (.inl (ck_one 1))), 249, ([], [], []))])
set_option maxRecDepth 100000 in
theorem pl_h47_s {X : Int → Int} {LX : Nat} : ck_Ok p2_OL X LX 157 pl_h47 := ck_ok_s (O := p2_OL) (X := X) (LX := LX) (E := [(158, [pl_s369])]) (mi := 157) (cuts := []) (f := 86) (S := pl_h47) (lx := none) (XF := []) ⟨pl_nmu, ck_E1 (ck_S1 pl_s369_s ck_S0) ck_E0⟩ ck_X0 ck_l0 (by decide +kernel)
set_option maxRecDepth 100000 in
/-- GlacierMailLaw.open -/
noncomputable def pl_h48 : ck_Sum := ((9, 2, 12), 249, [.inr (.inr (.inl 1)), .inl (ck_one 0), .inr (.inr (.inl 245))], ([], zl230, [(3, 6, 6, (0, 299, [(10, 0)]))]), ([(1, 15, 15), (11, 5, 6), (14, 3, 3), (15, 0, 71), (42, 1, 2), (44, 0, 7), (45, 3, 3), (46, 0, 55), (47, 3, 3), (48, 0, 23), (49, 3, 3), (50, 0, 23), (51, 3, 3), (52, 0, 167), (53, 3, 3), (54, 0, 35), (55, 3, 3), (56, 0, 71), (57, 0, 7), (58, 3, 3), (59, 0, 55), (60, 3, 3), (61, 0, 23), (62, 3, 3), (63, 0, 23), (64, 3, 3), (65, 0, 167), (66, 3, 3), (67, 0, 35), (68, 3, 3), (69, 0, 71), (70, 0, 7), (71, 3, 3), (72, 0, 55), (73, 3, 3), (74, 0, 23), (75, 3, 3), (76, 0, 23), (77, 3, 3), (78, 0, 167), (79, 3, 3), (80, 0, 35), (81, 3, 3), (82, 0, 71), (83, 0, 7), (84, 3, 3), (85, 0, 55), (86, 3, 3), (87, 0, 23), (88, 3, 3), (89, 0, 23), (90, 3, 3), (91, 0, 167), (92, 3, 3), (93, 0, 35), (94, 3, 3), (95, 0, 71), (96, 0, 7), (97, 3, 3), (98, 0, 55), (99, 3, 3), (100, 0, 23), (101, 3, 3), (102, 0, 23), (103, 3, 3), (104, 0, 167), (105, 3, 3), (106, 0, 35), (107, 3, 3), (108, 0, 71), (109, 0, 7), (110, 3, 3), (111, 0, 55), (112, 3, 3), (113, 0, 23), (114, 3, 3), (115, 0, 23), (116, 3, 3), (117, 0, 167), (118, 3, 3), (119, 0, 35), (120, 3, 3), (121, 0, 71), (122, 0, 7), (123, 3, 3), (124, 0, 55), (125, 3, 3), (126, 0, 23), (127, 3, 3), (128, 0, 23), (129, 3, 3), (130, 0, 167), (131, 3, 3), (132, 0, 35), (133, 3, 3), (134, 0, 71), (135, 0, 7), (136, 3, 3), (137, 0, 55), (138, 3, 3), (139, 0, 23), (140, 3, 3), (141, 0, 23), (142, 3, 3), (143, 0, 167), (144, 3, 3), (145, 0, 35), (146, 3, 3), (147, 0, 71), (148, 0, 7), (149, 3, 3), (150, 0, 55), (151, 3, 3), (152, 0, 23), (153, 3, 3), (154, 0, 23), (155, 3, 3), (156, 0, 167), (157, 3, 3), (158, 0, 35), (159, 3, 3), (160, 0, 71), (161, 0, 7), (162, 3, 3), (163, 0, 55), (164, 3, 3), (165, 0, 23), (166, 3, 3), (167, 0, 23), (168, 3, 3), (169, 0, 167), (170, 3, 3), (171, 0, 35), (172, 3, 3), (173, 0, 71), (174, 0, 7), (175, 3, 3), (176, 0, 55), (177, 3, 3), (178, 0, 23), (179, 3, 3), (180, 0, 23), (181, 3, 3), (182, 0, 167), (183, 3, 3), (184, 0, 35), (185, 3, 3), (186, 0, 71), (187, 0, 7), (188, 3, 3), (189, 0, 55), (190, 3, 3), (191, 0, 23), (192, 3, 3), (193, 0, 23), (194, 3, 3), (195, 0, 167), (196, 3, 3), (197, 0, 35), (198, 3, 3), (199, 0, 71), (200, 6, 6), (204, 0, 9), (205, 0, 14849), (206, 2, 8), (220, 3, 3), (221, 0, 47), (245, 0, 0)], zl104), zl282)
set_option maxRecDepth 100000 in
theorem pl_h48_s {X : Int → Int} {LX : Nat} : ck_Ok p2_OL X LX 157 pl_h48 := ck_ok_s (O := p2_OL) (X := X) (LX := LX) (E := [(158, [pl_s384])]) (mi := 157) (cuts := []) (f := 90) (S := pl_h48) (lx := none) (XF := []) ⟨pl_nmu, ck_E1 (ck_S1 pl_s384_s ck_S0) ck_E0⟩ ck_X0 ck_l0 (by decide +kernel)
set_option maxRecDepth 100000 in
/-- GlacierMailLaw.open -/
noncomputable def pl_h49 : ck_Sum := ((9, 2, 12), 249, [.inr (.inr (.inl 1)), .inl (ck_one 1), .inr (.inr (.inl 245))], ([], zl230, [(3, 6, 6, (0, 299, [(10, 0)]))]), ([(1, 15, 15), (11, 12, 13), (14, 3, 3), (15, 0, 71), (42, 1, 2), (44, 0, 7), (45, 3, 3), (46, 0, 55), (47, 3, 3), (48, 0, 23), (49, 3, 3), (50, 0, 23), (51, 3, 3), (52, 0, 167), (53, 3, 3), (54, 0, 35), (55, 3, 3), (56, 0, 71), (57, 0, 7), (58, 3, 3), (59, 0, 55), (60, 3, 3), (61, 0, 23), (62, 3, 3), (63, 0, 23), (64, 3, 3), (65, 0, 167), (66, 3, 3), (67, 0, 35), (68, 3, 3), (69, 0, 71), (70, 0, 7), (71, 3, 3), (72, 0, 55), (73, 3, 3), (74, 0, 23), (75, 3, 3), (76, 0, 23), (77, 3, 3), (78, 0, 167), (79, 3, 3), (80, 0, 35), (81, 3, 3), (82, 0, 71), (83, 0, 7), (84, 3, 3), (85, 0, 55), (86, 3, 3), (87, 0, 23), (88, 3, 3), (89, 0, 23), (90, 3, 3), (91, 0, 167), (92, 3, 3), (93, 0, 35), (94, 3, 3), (95, 0, 71), (96, 0, 7), (97, 3, 3), (98, 0, 55), (99, 3, 3), (100, 0, 23), (101, 3, 3), (102, 0, 23), (103, 3, 3), (104, 0, 167), (105, 3, 3), (106, 0, 35), (107, 3, 3), (108, 0, 71), (109, 0, 7), (110, 3, 3), (111, 0, 55), (112, 3, 3), (113, 0, 23), (114, 3, 3), (115, 0, 23), (116, 3, 3), (117, 0, 167), (118, 3, 3), (119, 0, 35), (120, 3, 3), (121, 0, 71), (122, 0, 7), (123, 3, 3), (124, 0, 55), (125, 3, 3), (126, 0, 23), (127, 3, 3), (128, 0, 23), (129, 3, 3), (130, 0, 167), (131, 3, 3), (132, 0, 35), (133, 3, 3), (134, 0, 71), (135, 0, 7), (136, 3, 3), (137, 0, 55), (138, 3, 3), (139, 0, 23), (140, 3, 3), (141, 0, 23), (142, 3, 3), (143, 0, 167), (144, 3, 3), (145, 0, 35), (146, 3, 3), (147, 0, 71), (148, 0, 7), (149, 3, 3), (150, 0, 55), (151, 3, 3), (152, 0, 23), (153, 3, 3), (154, 0, 23), (155, 3, 3), (156, 0, 167), (157, 3, 3), (158, 0, 35), (159, 3, 3), (160, 0, 71), (161, 0, 7), (162, 3, 3), (163, 0, 55), (164, 3, 3), (165, 0, 23), (166, 3, 3), (167, 0, 23), (168, 3, 3), (169, 0, 167), (170, 3, 3), (171, 0, 35), (172, 3, 3), (173, 0, 71), (174, 0, 7), (175, 3, 3), (176, 0, 55), (177, 3, 3), (178, 0, 23), (179, 3, 3), (180, 0, 23), (181, 3, 3), (182, 0, 167), (183, 3, 3), (184, 0, 35), (185, 3, 3), (186, 0, 71), (187, 0, 7), (188, 3, 3), (189, 0, 55), (190, 3, 3), (191, 0, 23), (192, 3, 3), (193, 0, 23), (194, 3, 3), (195, 0, 167), (196, 3, 3), (197, 0, 35), (198, 3, 3), (199, 0, 71), (200, 6, 6), (204, 0, 9), (205, 0, 14849), (206, 2, 8), (220, 3, 3), (221, 0, 47), (245, 0, 0)], zl104), zl282)
set_option maxRecDepth 100000 in
theorem pl_h49_s {X : Int → Int} {LX : Nat} : ck_Ok p2_OL X LX 157 pl_h49 := ck_ok_s (O := p2_OL) (X := X) (LX := LX) (E := [(158, [pl_s394])]) (mi := 157) (cuts := []) (f := 90) (S := pl_h49) (lx := none) (XF := []) ⟨pl_nmu, ck_E1 (ck_S1 pl_s394_s ck_S0) ck_E0⟩ ck_X0 ck_l0 (by decide +kernel)
set_option maxRecDepth 100000 in
/-- GlacierMailLaw.open -/
noncomputable def pl_h50 : ck_Sum := ((9, 2, 12), 249, [.inr (.inr (.inl 1)), .inl (ck_one 2), .inr (.inr (.inl 245))], ([], zl230, [(3, 6, 6, (0, 299, [(10, 0)]))]), ([(1, 15, 15), (11, 19, 20), (14, 3, 3), (15, 0, 71), (42, 1, 2), (44, 0, 7), (45, 3, 3), (46, 0, 55), (47, 3, 3), (48, 0, 23), (49, 3, 3), (50, 0, 23), (51, 3, 3), (52, 0, 167), (53, 3, 3), (54, 0, 35), (55, 3, 3), (56, 0, 71), (57, 0, 7), (58, 3, 3), (59, 0, 55), (60, 3, 3), (61, 0, 23), (62, 3, 3), (63, 0, 23), (64, 3, 3), (65, 0, 167), (66, 3, 3), (67, 0, 35), (68, 3, 3), (69, 0, 71), (70, 0, 7), (71, 3, 3), (72, 0, 55), (73, 3, 3), (74, 0, 23), (75, 3, 3), (76, 0, 23), (77, 3, 3), (78, 0, 167), (79, 3, 3), (80, 0, 35), (81, 3, 3), (82, 0, 71), (83, 0, 7), (84, 3, 3), (85, 0, 55), (86, 3, 3), (87, 0, 23), (88, 3, 3), (89, 0, 23), (90, 3, 3), (91, 0, 167), (92, 3, 3), (93, 0, 35), (94, 3, 3), (95, 0, 71), (96, 0, 7), (97, 3, 3), (98, 0, 55), (99, 3, 3), (100, 0, 23), (101, 3, 3), (102, 0, 23), (103, 3, 3), (104, 0, 167), (105, 3, 3), (106, 0, 35), (107, 3, 3), (108, 0, 71), (109, 0, 7), (110, 3, 3), (111, 0, 55), (112, 3, 3), (113, 0, 23), (114, 3, 3), (115, 0, 23), (116, 3, 3), (117, 0, 167), (118, 3, 3), (119, 0, 35), (120, 3, 3), (121, 0, 71), (122, 0, 7), (123, 3, 3), (124, 0, 55), (125, 3, 3), (126, 0, 23), (127, 3, 3), (128, 0, 23), (129, 3, 3), (130, 0, 167), (131, 3, 3), (132, 0, 35), (133, 3, 3), (134, 0, 71), (135, 0, 7), (136, 3, 3), (137, 0, 55), (138, 3, 3), (139, 0, 23), (140, 3, 3), (141, 0, 23), (142, 3, 3), (143, 0, 167), (144, 3, 3), (145, 0, 35), (146, 3, 3), (147, 0, 71), (148, 0, 7), (149, 3, 3), (150, 0, 55), (151, 3, 3), (152, 0, 23), (153, 3, 3), (154, 0, 23), (155, 3, 3), (156, 0, 167), (157, 3, 3), (158, 0, 35), (159, 3, 3), (160, 0, 71), (161, 0, 7), (162, 3, 3), (163, 0, 55), (164, 3, 3), (165, 0, 23), (166, 3, 3), (167, 0, 23), (168, 3, 3), (169, 0, 167), (170, 3, 3), (171, 0, 35), (172, 3, 3), (173, 0, 71), (174, 0, 7), (175, 3, 3), (176, 0, 55), (177, 3, 3), (178, 0, 23), (179, 3, 3), (180, 0, 23), (181, 3, 3), (182, 0, 167), (183, 3, 3), (184, 0, 35), (185, 3, 3), (186, 0, 71), (187, 0, 7), (188, 3, 3), (189, 0, 55), (190, 3, 3), (191, 0, 23), (192, 3, 3), (193, 0, 23), (194, 3, 3), (195, 0, 167), (196, 3, 3), (197, 0, 35), (198, 3, 3), (199, 0, 71), (200, 6, 6), (204, 0, 9), (205, 0, 14849), (206, 2, 8), (220, 3, 3), (221, 0, 47), (245, 0, 0)], zl104), zl282)
set_option maxRecDepth 100000 in
theorem pl_h50_s {X : Int → Int} {LX : Nat} : ck_Ok p2_OL X LX 157 pl_h50 := ck_ok_s (O := p2_OL) (X := X) (LX := LX) (E := [(158, [pl_s404])]) (mi := 157) (cuts := []) (f := 90) (S := pl_h50) (lx := none) (XF := []) ⟨pl_nmu, ck_E1 (ck_S1 pl_s404_s ck_S0) ck_E0⟩ ck_X0 ck_l0 (by decide +kernel)
set_option maxRecDepth 100000 in
/-- GlacierMailLaw.open -/
noncomputable def pl_h51 : ck_Sum := ((9, 2, 12), 249, [.inr (.inr (.inl 1)), .inl (ck_one 3), .inr (.inr (.inl 245))], ([], zl230, [(3, 6, 6, (0, 299, [(10, 0)]))]), ([(1, 15, 15), (11, 26, 27), (14, 3, 3), (15, 0, 71), (42, 1, 2), (44, 0, 7), (45, 3, 3), (46, 0, 55), (47, 3, 3), (48, 0, 23), (49, 3, 3), (50, 0, 23), (51, 3, 3), (52, 0, 167), (53, 3, 3), (54, 0, 35), (55, 3, 3), (56, 0, 71), (57, 0, 7), (58, 3, 3), (59, 0, 55), (60, 3, 3), (61, 0, 23), (62, 3, 3), (63, 0, 23), (64, 3, 3), (65, 0, 167), (66, 3, 3), (67, 0, 35), (68, 3, 3), (69, 0, 71), (70, 0, 7), (71, 3, 3), (72, 0, 55), (73, 3, 3), (74, 0, 23), (75, 3, 3), (76, 0, 23), (77, 3, 3), (78, 0, 167), (79, 3, 3), (80, 0, 35), (81, 3, 3), (82, 0, 71), (83, 0, 7), (84, 3, 3), (85, 0, 55), (86, 3, 3), (87, 0, 23), (88, 3, 3), (89, 0, 23), (90, 3, 3), (91, 0, 167), (92, 3, 3), (93, 0, 35), (94, 3, 3), (95, 0, 71), (96, 0, 7), (97, 3, 3), (98, 0, 55), (99, 3, 3), (100, 0, 23), (101, 3, 3), (102, 0, 23), (103, 3, 3), (104, 0, 167), (105, 3, 3), (106, 0, 35), (107, 3, 3), (108, 0, 71), (109, 0, 7), (110, 3, 3), (111, 0, 55), (112, 3, 3), (113, 0, 23), (114, 3, 3), (115, 0, 23), (116, 3, 3), (117, 0, 167), (118, 3, 3), (119, 0, 35), (120, 3, 3), (121, 0, 71), (122, 0, 7), (123, 3, 3), (124, 0, 55), (125, 3, 3), (126, 0, 23), (127, 3, 3), (128, 0, 23), (129, 3, 3), (130, 0, 167), (131, 3, 3), (132, 0, 35), (133, 3, 3), (134, 0, 71), (135, 0, 7), (136, 3, 3), (137, 0, 55), (138, 3, 3), (139, 0, 23), (140, 3, 3), (141, 0, 23), (142, 3, 3), (143, 0, 167), (144, 3, 3), (145, 0, 35), (146, 3, 3), (147, 0, 71), (148, 0, 7), (149, 3, 3), (150, 0, 55), (151, 3, 3), (152, 0, 23), (153, 3, 3), (154, 0, 23), (155, 3, 3), (156, 0, 167), (157, 3, 3), (158, 0, 35), (159, 3, 3), (160, 0, 71), (161, 0, 7), (162, 3, 3), (163, 0, 55), (164, 3, 3), (165, 0, 23), (166, 3, 3), (167, 0, 23), (168, 3, 3), (169, 0, 167), (170, 3, 3), (171, 0, 35), (172, 3, 3), (173, 0, 71), (174, 0, 7), (175, 3, 3), (176, 0, 55), (177, 3, 3), (178, 0, 23), (179, 3, 3), (180, 0, 23), (181, 3, 3), (182, 0, 167), (183, 3, 3), (184, 0, 35), (185, 3, 3), (186, 0, 71), (187, 0, 7), (188, 3, 3), (189, 0, 55), (190, 3, 3), (191, 0, 23), (192, 3, 3), (193, 0, 23), (194, 3, 3), (195, 0, 167), (196, 3, 3), (197, 0, 35), (198, 3, 3), (199, 0, 71), (200, 6, 6), (204, 0, 9), (205, 0, 14849), (206, 2, 8), (220, 3, 3), (221, 0, 47), (245, 0, 0)], zl104), zl282)
set_option maxRecDepth 100000 in
theorem pl_h51_s {X : Int → Int} {LX : Nat} : ck_Ok p2_OL X LX 157 pl_h51 := ck_ok_s (O := p2_OL) (X := X) (LX := LX) (E := [(158, [pl_s414])]) (mi := 157) (cuts := []) (f := 90) (S := pl_h51) (lx := none) (XF := []) ⟨pl_nmu, ck_E1 (ck_S1 pl_s414_s ck_S0) ck_E0⟩ ck_X0 ck_l0 (by decide +kernel)
set_option maxRecDepth 100000 in
/-- GlacierMailLaw.open -/
noncomputable def pl_h52 : ck_Sum := ((9, 2, 12), 249, [.inr (.inr (.inl 1)), .inl (ck_one 4), .inr (.inr (.inl 245))], ([], zl230, [(3, 6, 6, (0, 299, [(10, 0)]))]), ([(1, 15, 15), (11, 33, 34), (14, 3, 3), (15, 0, 71), (42, 1, 2), (44, 0, 7), (45, 3, 3), (46, 0, 55), (47, 3, 3), (48, 0, 23), (49, 3, 3), (50, 0, 23), (51, 3, 3), (52, 0, 167), (53, 3, 3), (54, 0, 35), (55, 3, 3), (56, 0, 71), (57, 0, 7), (58, 3, 3), (59, 0, 55), (60, 3, 3), (61, 0, 23), (62, 3, 3), (63, 0, 23), (64, 3, 3), (65, 0, 167), (66, 3, 3), (67, 0, 35), (68, 3, 3), (69, 0, 71), (70, 0, 7), (71, 3, 3), (72, 0, 55), (73, 3, 3), (74, 0, 23), (75, 3, 3), (76, 0, 23), (77, 3, 3), (78, 0, 167), (79, 3, 3), (80, 0, 35), (81, 3, 3), (82, 0, 71), (83, 0, 7), (84, 3, 3), (85, 0, 55), (86, 3, 3), (87, 0, 23), (88, 3, 3), (89, 0, 23), (90, 3, 3), (91, 0, 167), (92, 3, 3), (93, 0, 35), (94, 3, 3), (95, 0, 71), (96, 0, 7), (97, 3, 3), (98, 0, 55), (99, 3, 3), (100, 0, 23), (101, 3, 3), (102, 0, 23), (103, 3, 3), (104, 0, 167), (105, 3, 3), (106, 0, 35), (107, 3, 3), (108, 0, 71), (109, 0, 7), (110, 3, 3), (111, 0, 55), (112, 3, 3), (113, 0, 23), (114, 3, 3), (115, 0, 23), (116, 3, 3), (117, 0, 167), (118, 3, 3), (119, 0, 35), (120, 3, 3), (121, 0, 71), (122, 0, 7), (123, 3, 3), (124, 0, 55), (125, 3, 3), (126, 0, 23), (127, 3, 3), (128, 0, 23), (129, 3, 3), (130, 0, 167), (131, 3, 3), (132, 0, 35), (133, 3, 3), (134, 0, 71), (135, 0, 7), (136, 3, 3), (137, 0, 55), (138, 3, 3), (139, 0, 23), (140, 3, 3), (141, 0, 23), (142, 3, 3), (143, 0, 167), (144, 3, 3), (145, 0, 35), (146, 3, 3), (147, 0, 71), (148, 0, 7), (149, 3, 3), (150, 0, 55), (151, 3, 3), (152, 0, 23), (153, 3, 3), (154, 0, 23), (155, 3, 3), (156, 0, 167), (157, 3, 3), (158, 0, 35), (159, 3, 3), (160, 0, 71), (161, 0, 7), (162, 3, 3), (163, 0, 55), (164, 3, 3), (165, 0, 23), (166, 3, 3), (167, 0, 23), (168, 3, 3), (169, 0, 167), (170, 3, 3), (171, 0, 35), (172, 3, 3), (173, 0, 71), (174, 0, 7), (175, 3, 3), (176, 0, 55), (177, 3, 3), (178, 0, 23), (179, 3, 3), (180, 0, 23), (181, 3, 3), (182, 0, 167), (183, 3, 3), (184, 0, 35), (185, 3, 3), (186, 0, 71), (187, 0, 7), (188, 3, 3), (189, 0, 55), (190, 3, 3), (191, 0, 23), (192, 3, 3), (193, 0, 23), (194, 3, 3), (195, 0, 167), (196, 3, 3), (197, 0, 35), (198, 3, 3), (199, 0, 71), (200, 6, 6), (204, 0, 9), (205, 0, 14849), (206, 2, 8), (220, 3, 3), (221, 0, 47), (245, 0, 0)], zl104), zl282)
set_option maxRecDepth 100000 in
theorem pl_h52_s {X : Int → Int} {LX : Nat} : ck_Ok p2_OL X LX 157 pl_h52 := ck_ok_s (O := p2_OL) (X := X) (LX := LX) (E := [(158, [pl_s424])]) (mi := 157) (cuts := []) (f := 90) (S := pl_h52) (lx := none) (XF := []) ⟨pl_nmu, ck_E1 (ck_S1 pl_s424_s ck_S0) ck_E0⟩ ck_X0 ck_l0 (by decide +kernel)
set_option maxRecDepth 100000 in
/-- GlacierMailLaw.open -/
noncomputable def pl_h53 : ck_Sum := ((9, 2, 12), 249, [.inr (.inr (.inl 1)), .inl (ck_one 5), .inr (.inr (.inl 245))], ([], zl230, [(3, 6, 6, (0, 299, [(10, 0)]))]), ([(1, 15, 15), (11, 40, 41), (14, 3, 3), (15, 0, 71), (42, 1, 2), (44, 0, 7), (45, 3, 3), (46, 0, 55), (47, 3, 3), (48, 0, 23), (49, 3, 3), (50, 0, 23), (51, 3, 3), (52, 0, 167), (53, 3, 3), (54, 0, 35), (55, 3, 3), (56, 0, 71), (57, 0, 7), (58, 3, 3), (59, 0, 55), (60, 3, 3), (61, 0, 23), (62, 3, 3), (63, 0, 23), (64, 3, 3), (65, 0, 167), (66, 3, 3), (67, 0, 35), (68, 3, 3), (69, 0, 71), (70, 0, 7), (71, 3, 3), (72, 0, 55), (73, 3, 3), (74, 0, 23), (75, 3, 3), (76, 0, 23), (77, 3, 3), (78, 0, 167), (79, 3, 3), (80, 0, 35), (81, 3, 3), (82, 0, 71), (83, 0, 7), (84, 3, 3), (85, 0, 55), (86, 3, 3), (87, 0, 23), (88, 3, 3), (89, 0, 23), (90, 3, 3), (91, 0, 167), (92, 3, 3), (93, 0, 35), (94, 3, 3), (95, 0, 71), (96, 0, 7), (97, 3, 3), (98, 0, 55), (99, 3, 3), (100, 0, 23), (101, 3, 3), (102, 0, 23), (103, 3, 3), (104, 0, 167), (105, 3, 3), (106, 0, 35), (107, 3, 3), (108, 0, 71), (109, 0, 7), (110, 3, 3), (111, 0, 55), (112, 3, 3), (113, 0, 23), (114, 3, 3), (115, 0, 23), (116, 3, 3), (117, 0, 167), (118, 3, 3), (119, 0, 35), (120, 3, 3), (121, 0, 71), (122, 0, 7), (123, 3, 3), (124, 0, 55), (125, 3, 3), (126, 0, 23), (127, 3, 3), (128, 0, 23), (129, 3, 3), (130, 0, 167), (131, 3, 3), (132, 0, 35), (133, 3, 3), (134, 0, 71), (135, 0, 7), (136, 3, 3), (137, 0, 55), (138, 3, 3), (139, 0, 23), (140, 3, 3), (141, 0, 23), (142, 3, 3), (143, 0, 167), (144, 3, 3), (145, 0, 35), (146, 3, 3), (147, 0, 71), (148, 0, 7), (149, 3, 3), (150, 0, 55), (151, 3, 3), (152, 0, 23), (153, 3, 3), (154, 0, 23), (155, 3, 3), (156, 0, 167), (157, 3, 3), (158, 0, 35), (159, 3, 3), (160, 0, 71), (161, 0, 7), (162, 3, 3), (163, 0, 55), (164, 3, 3), (165, 0, 23), (166, 3, 3), (167, 0, 23), (168, 3, 3), (169, 0, 167), (170, 3, 3), (171, 0, 35), (172, 3, 3), (173, 0, 71), (174, 0, 7), (175, 3, 3), (176, 0, 55), (177, 3, 3), (178, 0, 23), (179, 3, 3), (180, 0, 23), (181, 3, 3), (182, 0, 167), (183, 3, 3), (184, 0, 35), (185, 3, 3), (186, 0, 71), (187, 0, 7), (188, 3, 3), (189, 0, 55), (190, 3, 3), (191, 0, 23), (192, 3, 3), (193, 0, 23), (194, 3, 3), (195, 0, 167), (196, 3, 3), (197, 0, 35), (198, 3, 3), (199, 0, 71), (200, 6, 6), (204, 0, 9), (205, 0, 14849), (206, 2, 8), (220, 3, 3), (221, 0, 47), (245, 0, 0)], zl104), zl282)
set_option maxRecDepth 100000 in
theorem pl_h53_s {X : Int → Int} {LX : Nat} : ck_Ok p2_OL X LX 157 pl_h53 := ck_ok_s (O := p2_OL) (X := X) (LX := LX) (E := [(158, [pl_s434])]) (mi := 157) (cuts := []) (f := 90) (S := pl_h53) (lx := none) (XF := []) ⟨pl_nmu, ck_E1 (ck_S1 pl_s434_s ck_S0) ck_E0⟩ ck_X0 ck_l0 (by decide +kernel)
set_option maxRecDepth 100000 in
/-- GlacierMailLaw.open -/
noncomputable def pl_h54 : ck_Sum := ((9, 2, 12), 249, [.inr (.inr (.inl 1)), .inl (ck_one 6), .inr (.inr (.inl 245))], ([], zl230, [(3, 6, 6, (0, 299, [(10, 0)]))]), ([(1, 15, 15), (11, 47, 48), (14, 3, 3), (15, 0, 71), (42, 1, 2), (44, 0, 7), (45, 3, 3), (46, 0, 55), (47, 3, 3), (48, 0, 23), (49, 3, 3), (50, 0, 23), (51, 3, 3), (52, 0, 167), (53, 3, 3), (54, 0, 35), (55, 3, 3), (56, 0, 71), (57, 0, 7), (58, 3, 3), (59, 0, 55), (60, 3, 3), (61, 0, 23), (62, 3, 3), (63, 0, 23), (64, 3, 3), (65, 0, 167), (66, 3, 3), (67, 0, 35), (68, 3, 3), (69, 0, 71), (70, 0, 7), (71, 3, 3), (72, 0, 55), (73, 3, 3), (74, 0, 23), (75, 3, 3), (76, 0, 23), (77, 3, 3), (78, 0, 167), (79, 3, 3), (80, 0, 35), (81, 3, 3), (82, 0, 71), (83, 0, 7), (84, 3, 3), (85, 0, 55), (86, 3, 3), (87, 0, 23), (88, 3, 3), (89, 0, 23), (90, 3, 3), (91, 0, 167), (92, 3, 3), (93, 0, 35), (94, 3, 3), (95, 0, 71), (96, 0, 7), (97, 3, 3), (98, 0, 55), (99, 3, 3), (100, 0, 23), (101, 3, 3), (102, 0, 23), (103, 3, 3), (104, 0, 167), (105, 3, 3), (106, 0, 35), (107, 3, 3), (108, 0, 71), (109, 0, 7), (110, 3, 3), (111, 0, 55), (112, 3, 3), (113, 0, 23), (114, 3, 3), (115, 0, 23), (116, 3, 3), (117, 0, 167), (118, 3, 3), (119, 0, 35), (120, 3, 3), (121, 0, 71), (122, 0, 7), (123, 3, 3), (124, 0, 55), (125, 3, 3), (126, 0, 23), (127, 3, 3), (128, 0, 23), (129, 3, 3), (130, 0, 167), (131, 3, 3), (132, 0, 35), (133, 3, 3), (134, 0, 71), (135, 0, 7), (136, 3, 3), (137, 0, 55), (138, 3, 3), (139, 0, 23), (140, 3, 3), (141, 0, 23), (142, 3, 3), (143, 0, 167), (144, 3, 3), (145, 0, 35), (146, 3, 3), (147, 0, 71), (148, 0, 7), (149, 3, 3), (150, 0, 55), (151, 3, 3), (152, 0, 23), (153, 3, 3), (154, 0, 23), (155, 3, 3), (156, 0, 167), (157, 3, 3), (158, 0, 35), (159, 3, 3), (160, 0, 71), (161, 0, 7), (162, 3, 3), (163, 0, 55), (164, 3, 3), (165, 0, 23), (166, 3, 3), (167, 0, 23), (168, 3, 3), (169, 0, 167), (170, 3, 3), (171, 0, 35), (172, 3, 3), (173, 0, 71), (174, 0, 7), (175, 3, 3), (176, 0, 55), (177, 3, 3), (178, 0, 23), (179, 3, 3), (180, 0, 23), (181, 3, 3), (182, 0, 167), (183, 3, 3), (184, 0, 35), (185, 3, 3), (186, 0, 71), (187, 0, 7), (188, 3, 3), (189, 0, 55), (190, 3, 3), (191, 0, 23), (192, 3, 3), (193, 0, 23), (194, 3, 3), (195, 0, 167), (196, 3, 3), (197, 0, 35), (198, 3, 3), (199, 0, 71), (200, 6, 6), (204, 0, 9), (205, 0, 14849), (206, 2, 8), (220, 3, 3), (221, 0, 47), (245, 0, 0)], zl104), zl282)
set_option maxRecDepth 100000 in
theorem pl_h54_s {X : Int → Int} {LX : Nat} : ck_Ok p2_OL X LX 157 pl_h54 := ck_ok_s (O := p2_OL) (X := X) (LX := LX) (E := [(158, [pl_s444])]) (mi := 157) (cuts := []) (f := 90) (S := pl_h54) (lx := none) (XF := []) ⟨pl_nmu, ck_E1 (ck_S1 pl_s444_s ck_S0) ck_E0⟩ ck_X0 ck_l0 (by decide +kernel)
set_option maxRecDepth 100000 in
/-- GlacierMailLaw.open -/
noncomputable def pl_h55 : ck_Sum := ((9, 2, 12), 249, [.inr (.inr (.inl 1)), .inl (ck_one 7), .inr (.inr (.inl 245))], ([], zl230, [(3, 6, 6, (0, 299, [(10, 0)]))]), ([(1, 15, 15), (11, 54, 55), (14, 3, 3), (15, 0, 71), (42, 1, 2), (44, 0, 7), (45, 3, 3), (46, 0, 55), (47, 3, 3), (48, 0, 23), (49, 3, 3), (50, 0, 23), (51, 3, 3), (52, 0, 167), (53, 3, 3), (54, 0, 35), (55, 3, 3), (56, 0, 71), (57, 0, 7), (58, 3, 3), (59, 0, 55), (60, 3, 3), (61, 0, 23), (62, 3, 3), (63, 0, 23), (64, 3, 3), (65, 0, 167), (66, 3, 3), (67, 0, 35), (68, 3, 3), (69, 0, 71), (70, 0, 7), (71, 3, 3), (72, 0, 55), (73, 3, 3), (74, 0, 23), (75, 3, 3), (76, 0, 23), (77, 3, 3), (78, 0, 167), (79, 3, 3), (80, 0, 35), (81, 3, 3), (82, 0, 71), (83, 0, 7), (84, 3, 3), (85, 0, 55), (86, 3, 3), (87, 0, 23), (88, 3, 3), (89, 0, 23), (90, 3, 3), (91, 0, 167), (92, 3, 3), (93, 0, 35), (94, 3, 3), (95, 0, 71), (96, 0, 7), (97, 3, 3), (98, 0, 55), (99, 3, 3), (100, 0, 23), (101, 3, 3), (102, 0, 23), (103, 3, 3), (104, 0, 167), (105, 3, 3), (106, 0, 35), (107, 3, 3), (108, 0, 71), (109, 0, 7), (110, 3, 3), (111, 0, 55), (112, 3, 3), (113, 0, 23), (114, 3, 3), (115, 0, 23), (116, 3, 3), (117, 0, 167), (118, 3, 3), (119, 0, 35), (120, 3, 3), (121, 0, 71), (122, 0, 7), (123, 3, 3), (124, 0, 55), (125, 3, 3), (126, 0, 23), (127, 3, 3), (128, 0, 23), (129, 3, 3), (130, 0, 167), (131, 3, 3), (132, 0, 35), (133, 3, 3), (134, 0, 71), (135, 0, 7), (136, 3, 3), (137, 0, 55), (138, 3, 3), (139, 0, 23), (140, 3, 3), (141, 0, 23), (142, 3, 3), (143, 0, 167), (144, 3, 3), (145, 0, 35), (146, 3, 3), (147, 0, 71), (148, 0, 7), (149, 3, 3), (150, 0, 55), (151, 3, 3), (152, 0, 23), (153, 3, 3), (154, 0, 23), (155, 3, 3), (156, 0, 167), (157, 3, 3), (158, 0, 35), (159, 3, 3), (160, 0, 71), (161, 0, 7), (162, 3, 3), (163, 0, 55), (164, 3, 3), (165, 0, 23), (166, 3, 3), (167, 0, 23), (168, 3, 3), (169, 0, 167), (170, 3, 3), (171, 0, 35), (172, 3, 3), (173, 0, 71), (174, 0, 7), (175, 3, 3), (176, 0, 55), (177, 3, 3), (178, 0, 23), (179, 3, 3), (180, 0, 23), (181, 3, 3), (182, 0, 167), (183, 3, 3), (184, 0, 35), (185, 3, 3), (186, 0, 71), (187, 0, 7), (188, 3, 3), (189, 0, 55), (190, 3, 3), (191, 0, 23), (192, 3, 3), (193, 0, 23), (194, 3, 3), (195, 0, 167), (196, 3, 3), (197, 0, 35), (198, 3, 3), (199, 0, 71), (200, 6, 6), (204, 0, 9), (205, 0, 14849), (206, 2, 8), (220, 3, 3), (221, 0, 47), (245, 0, 0)], zl104), zl282)
set_option maxRecDepth 100000 in
theorem pl_h55_s {X : Int → Int} {LX : Nat} : ck_Ok p2_OL X LX 157 pl_h55 := ck_ok_s (O := p2_OL) (X := X) (LX := LX) (E := [(158, [pl_s454])]) (mi := 157) (cuts := []) (f := 90) (S := pl_h55) (lx := none) (XF := []) ⟨pl_nmu, ck_E1 (ck_S1 pl_s454_s ck_S0) ck_E0⟩ ck_X0 ck_l0 (by decide +kernel)
set_option maxRecDepth 100000 in
/-- GlacierMailLaw.open -/
noncomputable def pl_h56 : ck_Sum := ((9, 2, 12), 249, [.inr (.inr (.inl 1)), .inl (ck_one 8), .inr (.inr (.inl 245))], ([], zl230, [(3, 6, 6, (0, 299, [(10, 0)]))]), ([(1, 15, 15), (11, 61, 62), (14, 3, 3), (15, 0, 71), (42, 1, 2), (44, 0, 7), (45, 3, 3), (46, 0, 55), (47, 3, 3), (48, 0, 23), (49, 3, 3), (50, 0, 23), (51, 3, 3), (52, 0, 167), (53, 3, 3), (54, 0, 35), (55, 3, 3), (56, 0, 71), (57, 0, 7), (58, 3, 3), (59, 0, 55), (60, 3, 3), (61, 0, 23), (62, 3, 3), (63, 0, 23), (64, 3, 3), (65, 0, 167), (66, 3, 3), (67, 0, 35), (68, 3, 3), (69, 0, 71), (70, 0, 7), (71, 3, 3), (72, 0, 55), (73, 3, 3), (74, 0, 23), (75, 3, 3), (76, 0, 23), (77, 3, 3), (78, 0, 167), (79, 3, 3), (80, 0, 35), (81, 3, 3), (82, 0, 71), (83, 0, 7), (84, 3, 3), (85, 0, 55), (86, 3, 3), (87, 0, 23), (88, 3, 3), (89, 0, 23), (90, 3, 3), (91, 0, 167), (92, 3, 3), (93, 0, 35), (94, 3, 3), (95, 0, 71), (96, 0, 7), (97, 3, 3), (98, 0, 55), (99, 3, 3), (100, 0, 23), (101, 3, 3), (102, 0, 23), (103, 3, 3), (104, 0, 167), (105, 3, 3), (106, 0, 35), (107, 3, 3), (108, 0, 71), (109, 0, 7), (110, 3, 3), (111, 0, 55), (112, 3, 3), (113, 0, 23), (114, 3, 3), (115, 0, 23), (116, 3, 3), (117, 0, 167), (118, 3, 3), (119, 0, 35), (120, 3, 3), (121, 0, 71), (122, 0, 7), (123, 3, 3), (124, 0, 55), (125, 3, 3), (126, 0, 23), (127, 3, 3), (128, 0, 23), (129, 3, 3), (130, 0, 167), (131, 3, 3), (132, 0, 35), (133, 3, 3), (134, 0, 71), (135, 0, 7), (136, 3, 3), (137, 0, 55), (138, 3, 3), (139, 0, 23), (140, 3, 3), (141, 0, 23), (142, 3, 3), (143, 0, 167), (144, 3, 3), (145, 0, 35), (146, 3, 3), (147, 0, 71), (148, 0, 7), (149, 3, 3), (150, 0, 55), (151, 3, 3), (152, 0, 23), (153, 3, 3), (154, 0, 23), (155, 3, 3), (156, 0, 167), (157, 3, 3), (158, 0, 35), (159, 3, 3), (160, 0, 71), (161, 0, 7), (162, 3, 3), (163, 0, 55), (164, 3, 3), (165, 0, 23), (166, 3, 3), (167, 0, 23), (168, 3, 3), (169, 0, 167), (170, 3, 3), (171, 0, 35), (172, 3, 3), (173, 0, 71), (174, 0, 7), (175, 3, 3), (176, 0, 55), (177, 3, 3), (178, 0, 23), (179, 3, 3), (180, 0, 23), (181, 3, 3), (182, 0, 167), (183, 3, 3), (184, 0, 35), (185, 3, 3), (186, 0, 71), (187, 0, 7), (188, 3, 3), (189, 0, 55), (190, 3, 3), (191, 0, 23), (192, 3, 3), (193, 0, 23), (194, 3, 3), (195, 0, 167), (196, 3, 3), (197, 0, 35), (198, 3, 3), (199, 0, 71), (200, 6, 6), (204, 0, 9), (205, 0, 14849), (206, 2, 8), (220, 3, 3), (221, 0, 47), (245, 0, 0)], zl104), zl282)
set_option maxRecDepth 100000 in
theorem pl_h56_s {X : Int → Int} {LX : Nat} : ck_Ok p2_OL X LX 157 pl_h56 := ck_ok_s (O := p2_OL) (X := X) (LX := LX) (E := [(158, [pl_s464])]) (mi := 157) (cuts := []) (f := 90) (S := pl_h56) (lx := none) (XF := []) ⟨pl_nmu, ck_E1 (ck_S1 pl_s464_s ck_S0) ck_E0⟩ ck_X0 ck_l0 (by decide +kernel)
set_option maxRecDepth 100000 in
/-- GlacierMailLaw.open -/
noncomputable def pl_h57 : ck_Sum := ((9, 2, 12), 249, [.inr (.inr (.inl 1)), .inl (ck_one 9), .inr (.inr (.inl 245))], ([], zl230, [(3, 6, 6, (0, 299, [(10, 0)]))]), ([(1, 15, 15), (11, 68, 69), (14, 3, 3), (15, 0, 71), (42, 1, 2), (44, 0, 7), (45, 3, 3), (46, 0, 55), (47, 3, 3), (48, 0, 23), (49, 3, 3), (50, 0, 23), (51, 3, 3), (52, 0, 167), (53, 3, 3), (54, 0, 35), (55, 3, 3), (56, 0, 71), (57, 0, 7), (58, 3, 3), (59, 0, 55), (60, 3, 3), (61, 0, 23), (62, 3, 3), (63, 0, 23), (64, 3, 3), (65, 0, 167), (66, 3, 3), (67, 0, 35), (68, 3, 3), (69, 0, 71), (70, 0, 7), (71, 3, 3), (72, 0, 55), (73, 3, 3), (74, 0, 23), (75, 3, 3), (76, 0, 23), (77, 3, 3), (78, 0, 167), (79, 3, 3), (80, 0, 35), (81, 3, 3), (82, 0, 71), (83, 0, 7), (84, 3, 3), (85, 0, 55), (86, 3, 3), (87, 0, 23), (88, 3, 3), (89, 0, 23), (90, 3, 3), (91, 0, 167), (92, 3, 3), (93, 0, 35), (94, 3, 3), (95, 0, 71), (96, 0, 7), (97, 3, 3), (98, 0, 55), (99, 3, 3), (100, 0, 23), (101, 3, 3), (102, 0, 23), (103, 3, 3), (104, 0, 167), (105, 3, 3), (106, 0, 35), (107, 3, 3), (108, 0, 71), (109, 0, 7), (110, 3, 3), (111, 0, 55), (112, 3, 3), (113, 0, 23), (114, 3, 3), (115, 0, 23), (116, 3, 3), (117, 0, 167), (118, 3, 3), (119, 0, 35), (120, 3, 3), (121, 0, 71), (122, 0, 7), (123, 3, 3), (124, 0, 55), (125, 3, 3), (126, 0, 23), (127, 3, 3), (128, 0, 23), (129, 3, 3), (130, 0, 167), (131, 3, 3), (132, 0, 35), (133, 3, 3), (134, 0, 71), (135, 0, 7), (136, 3, 3), (137, 0, 55), (138, 3, 3), (139, 0, 23), (140, 3, 3), (141, 0, 23), (142, 3, 3), (143, 0, 167), (144, 3, 3), (145, 0, 35), (146, 3, 3), (147, 0, 71), (148, 0, 7), (149, 3, 3), (150, 0, 55), (151, 3, 3), (152, 0, 23), (153, 3, 3), (154, 0, 23), (155, 3, 3), (156, 0, 167), (157, 3, 3), (158, 0, 35), (159, 3, 3), (160, 0, 71), (161, 0, 7), (162, 3, 3), (163, 0, 55), (164, 3, 3), (165, 0, 23), (166, 3, 3), (167, 0, 23), (168, 3, 3), (169, 0, 167), (170, 3, 3), (171, 0, 35), (172, 3, 3), (173, 0, 71), (174, 0, 7), (175, 3, 3), (176, 0, 55), (177, 3, 3), (178, 0, 23), (179, 3, 3), (180, 0, 23), (181, 3, 3), (182, 0, 167), (183, 3, 3), (184, 0, 35), (185, 3, 3), (186, 0, 71), (187, 0, 7), (188, 3, 3), (189, 0, 55), (190, 3, 3), (191, 0, 23), (192, 3, 3), (193, 0, 23), (194, 3, 3), (195, 0, 167), (196, 3, 3), (197, 0, 35), (198, 3, 3), (199, 0, 71), (200, 6, 6), (204, 0, 9), (205, 0, 14849), (206, 2, 8), (220, 3, 3), (221, 0, 47), (245, 0, 0)], zl104), zl282)
set_option maxRecDepth 100000 in
theorem pl_h57_s {X : Int → Int} {LX : Nat} : ck_Ok p2_OL X LX 157 pl_h57 := ck_ok_s (O := p2_OL) (X := X) (LX := LX) (E := [(158, [pl_s474])]) (mi := 157) (cuts := []) (f := 90) (S := pl_h57) (lx := none) (XF := []) ⟨pl_nmu, ck_E1 (ck_S1 pl_s474_s ck_S0) ck_E0⟩ ck_X0 ck_l0 (by decide +kernel)
set_option maxRecDepth 100000 in
/-- GlacierMailLaw.open -/
noncomputable def pl_h58 : ck_Sum := ((9, 2, 12), 249, [.inr (.inr (.inl 1)), .inl (ck_one 10), .inr (.inr (.inl 245))], ([], zl230, [(3, 6, 6, (0, 299, [(10, 0)]))]), ([(1, 15, 15), (11, 75, 76), (14, 3, 3), (15, 0, 71), (42, 1, 2), (44, 0, 7), (45, 3, 3), (46, 0, 55), (47, 3, 3), (48, 0, 23), (49, 3, 3), (50, 0, 23), (51, 3, 3), (52, 0, 167), (53, 3, 3), (54, 0, 35), (55, 3, 3), (56, 0, 71), (57, 0, 7), (58, 3, 3), (59, 0, 55), (60, 3, 3), (61, 0, 23), (62, 3, 3), (63, 0, 23), (64, 3, 3), (65, 0, 167), (66, 3, 3), (67, 0, 35), (68, 3, 3), (69, 0, 71), (70, 0, 7), (71, 3, 3), (72, 0, 55), (73, 3, 3), (74, 0, 23), (75, 3, 3), (76, 0, 23), (77, 3, 3), (78, 0, 167), (79, 3, 3), (80, 0, 35), (81, 3, 3), (82, 0, 71), (83, 0, 7), (84, 3, 3), (85, 0, 55), (86, 3, 3), (87, 0, 23), (88, 3, 3), (89, 0, 23), (90, 3, 3), (91, 0, 167), (92, 3, 3), (93, 0, 35), (94, 3, 3), (95, 0, 71), (96, 0, 7), (97, 3, 3), (98, 0, 55), (99, 3, 3), (100, 0, 23), (101, 3, 3), (102, 0, 23), (103, 3, 3), (104, 0, 167), (105, 3, 3), (106, 0, 35), (107, 3, 3), (108, 0, 71), (109, 0, 7), (110, 3, 3), (111, 0, 55), (112, 3, 3), (113, 0, 23), (114, 3, 3), (115, 0, 23), (116, 3, 3), (117, 0, 167), (118, 3, 3), (119, 0, 35), (120, 3, 3), (121, 0, 71), (122, 0, 7), (123, 3, 3), (124, 0, 55), (125, 3, 3), (126, 0, 23), (127, 3, 3), (128, 0, 23), (129, 3, 3), (130, 0, 167), (131, 3, 3), (132, 0, 35), (133, 3, 3), (134, 0, 71), (135, 0, 7), (136, 3, 3), (137, 0, 55), (138, 3, 3), (139, 0, 23), (140, 3, 3), (141, 0, 23), (142, 3, 3), (143, 0, 167), (144, 3, 3), (145, 0, 35), (146, 3, 3), (147, 0, 71), (148, 0, 7), (149, 3, 3), (150, 0, 55), (151, 3, 3), (152, 0, 23), (153, 3, 3), (154, 0, 23), (155, 3, 3), (156, 0, 167), (157, 3, 3), (158, 0, 35), (159, 3, 3), (160, 0, 71), (161, 0, 7), (162, 3, 3), (163, 0, 55), (164, 3, 3), (165, 0, 23), (166, 3, 3), (167, 0, 23), (168, 3, 3), (169, 0, 167), (170, 3, 3), (171, 0, 35), (172, 3, 3), (173, 0, 71), (174, 0, 7), (175, 3, 3), (176, 0, 55), (177, 3, 3), (178, 0, 23), (179, 3, 3), (180, 0, 23), (181, 3, 3), (182, 0, 167), (183, 3, 3), (184, 0, 35), (185, 3, 3), (186, 0, 71), (187, 0, 7), (188, 3, 3), (189, 0, 55), (190, 3, 3), (191, 0, 23), (192, 3, 3), (193, 0, 23), (194, 3, 3), (195, 0, 167), (196, 3, 3), (197, 0, 35), (198, 3, 3), (199, 0, 71), (200, 6, 6), (204, 0, 9), (205, 0, 14849), (206, 2, 8), (220, 3, 3), (221, 0, 47), (245, 0, 0)], zl104), zl282)
set_option maxRecDepth 100000 in
theorem pl_h58_s {X : Int → Int} {LX : Nat} : ck_Ok p2_OL X LX 157 pl_h58 := ck_ok_s (O := p2_OL) (X := X) (LX := LX) (E := [(158, [pl_s484])]) (mi := 157) (cuts := []) (f := 90) (S := pl_h58) (lx := none) (XF := []) ⟨pl_nmu, ck_E1 (ck_S1 pl_s484_s ck_S0) ck_E0⟩ ck_X0 ck_l0 (by decide +kernel)
end
/-! 78r88l01.hp -/
section
/-! THE LAW'S OWN METHODS (laid by wip/am/p2n.py). -/
set_option maxRecDepth 100000 in
/-- GlacierMailLaw.open -/
noncomputable def pl_h59 : ck_Sum := ((9, 2, 12), 249, [.inr (.inr (.inl 1)), .inl (ck_one 11), .inr (.inr (.inl 245))], ([], zl230, [(3, 6, 6, (0, 299, [(10, 0)]))]), ([(1, 15, 15), (11, 82, 83), (14, 3, 3), (15, 0, 71), (42, 1, 2), (44, 0, 7), (45, 3, 3), (46, 0, 55), (47, 3, 3), (48, 0, 23), (49, 3, 3), (50, 0, 23), (51, 3, 3), (52, 0, 167), (53, 3, 3), (54, 0, 35), (55, 3, 3), (56, 0, 71), (57, 0, 7), (58, 3, 3), (59, 0, 55), (60, 3, 3), (61, 0, 23), (62, 3, 3), (63, 0, 23), (64, 3, 3), (65, 0, 167), (66, 3, 3), (67, 0, 35), (68, 3, 3), (69, 0, 71), (70, 0, 7), (71, 3, 3), (72, 0, 55), (73, 3, 3), (74, 0, 23), (75, 3, 3), (76, 0, 23), (77, 3, 3), (78, 0, 167), (79, 3, 3), (80, 0, 35), (81, 3, 3), (82, 0, 71), (83, 0, 7), (84, 3, 3), (85, 0, 55), (86, 3, 3), (87, 0, 23), (88, 3, 3), (89, 0, 23), (90, 3, 3), (91, 0, 167), (92, 3, 3), (93, 0, 35), (94, 3, 3), (95, 0, 71), (96, 0, 7), (97, 3, 3), (98, 0, 55), (99, 3, 3), (100, 0, 23), (101, 3, 3), (102, 0, 23), (103, 3, 3), (104, 0, 167), (105, 3, 3), (106, 0, 35), (107, 3, 3), (108, 0, 71), (109, 0, 7), (110, 3, 3), (111, 0, 55), (112, 3, 3), (113, 0, 23), (114, 3, 3), (115, 0, 23), (116, 3, 3), (117, 0, 167), (118, 3, 3), (119, 0, 35), (120, 3, 3), (121, 0, 71), (122, 0, 7), (123, 3, 3), (124, 0, 55), (125, 3, 3), (126, 0, 23), (127, 3, 3), (128, 0, 23), (129, 3, 3), (130, 0, 167), (131, 3, 3), (132, 0, 35), (133, 3, 3), (134, 0, 71), (135, 0, 7), (136, 3, 3), (137, 0, 55), (138, 3, 3), (139, 0, 23), (140, 3, 3), (141, 0, 23), (142, 3, 3), (143, 0, 167), (144, 3, 3), (145, 0, 35), (146, 3, 3), (147, 0, 71), (148, 0, 7), (149, 3, 3), (150, 0, 55), (151, 3, 3), (152, 0, 23), (153, 3, 3), (154, 0, 23), (155, 3, 3), (156, 0, 167), (157, 3, 3), (158, 0, 35), (159, 3, 3), (160, 0, 71), (161, 0, 7), (162, 3, 3), (163, 0, 55), (164, 3, 3), (165, 0, 23), (166, 3, 3), (167, 0, 23), (168, 3, 3), (169, 0, 167), (170, 3, 3), (171, 0, 35), (172, 3, 3), (173, 0, 71), (174, 0, 7), (175, 3, 3), (176, 0, 55), (177, 3, 3), (178, 0, 23), (179, 3, 3), (180, 0, 23), (181, 3, 3), (182, 0, 167), (183, 3, 3), (184, 0, 35), (185, 3, 3), (186, 0, 71), (187, 0, 7), (188, 3, 3), (189, 0, 55), (190, 3, 3), (191, 0, 23), (192, 3, 3), (193, 0, 23), (194, 3, 3), (195, 0, 167), (196, 3, 3), (197, 0, 35), (198, 3, 3), (199, 0, 71), (200, 6, 6), (204, 0, 9), (205, 0, 14849), (206, 2, 8), (220, 3, 3), (221, 0, 47), (245, 0, 0)], zl104), zl282)
set_option maxRecDepth 100000 in
theorem pl_h59_s {X : Int → Int} {LX : Nat} : ck_Ok p2_OL X LX 157 pl_h59 := ck_ok_s (O := p2_OL) (X := X) (LX := LX) (E := [(158, [pl_s494])]) (mi := 157) (cuts := []) (f := 90) (S := pl_h59) (lx := none) (XF := []) ⟨pl_nmu, ck_E1 (ck_S1 pl_s494_s ck_S0) ck_E0⟩ ck_X0 ck_l0 (by decide +kernel)
set_option maxRecDepth 100000 in
/-- GlacierMailLaw.open -/
noncomputable def pl_h60 : ck_Sum := ((9, 2, 12), 249, [.inr (.inr (.inl 1)), .inl (ck_one 12), .inr (.inr (.inl 245))], ([], zl230, [(3, 6, 6, (0, 299, [(10, 0)]))]), ([(1, 15, 15), (11, 89, 90), (14, 3, 3), (15, 0, 71), (42, 1, 2), (44, 0, 7), (45, 3, 3), (46, 0, 55), (47, 3, 3), (48, 0, 23), (49, 3, 3), (50, 0, 23), (51, 3, 3), (52, 0, 167), (53, 3, 3), (54, 0, 35), (55, 3, 3), (56, 0, 71), (57, 0, 7), (58, 3, 3), (59, 0, 55), (60, 3, 3), (61, 0, 23), (62, 3, 3), (63, 0, 23), (64, 3, 3), (65, 0, 167), (66, 3, 3), (67, 0, 35), (68, 3, 3), (69, 0, 71), (70, 0, 7), (71, 3, 3), (72, 0, 55), (73, 3, 3), (74, 0, 23), (75, 3, 3), (76, 0, 23), (77, 3, 3), (78, 0, 167), (79, 3, 3), (80, 0, 35), (81, 3, 3), (82, 0, 71), (83, 0, 7), (84, 3, 3), (85, 0, 55), (86, 3, 3), (87, 0, 23), (88, 3, 3), (89, 0, 23), (90, 3, 3), (91, 0, 167), (92, 3, 3), (93, 0, 35), (94, 3, 3), (95, 0, 71), (96, 0, 7), (97, 3, 3), (98, 0, 55), (99, 3, 3), (100, 0, 23), (101, 3, 3), (102, 0, 23), (103, 3, 3), (104, 0, 167), (105, 3, 3), (106, 0, 35), (107, 3, 3), (108, 0, 71), (109, 0, 7), (110, 3, 3), (111, 0, 55), (112, 3, 3), (113, 0, 23), (114, 3, 3), (115, 0, 23), (116, 3, 3), (117, 0, 167), (118, 3, 3), (119, 0, 35), (120, 3, 3), (121, 0, 71), (122, 0, 7), (123, 3, 3), (124, 0, 55), (125, 3, 3), (126, 0, 23), (127, 3, 3), (128, 0, 23), (129, 3, 3), (130, 0, 167), (131, 3, 3), (132, 0, 35), (133, 3, 3), (134, 0, 71), (135, 0, 7), (136, 3, 3), (137, 0, 55), (138, 3, 3), (139, 0, 23), (140, 3, 3), (141, 0, 23), (142, 3, 3), (143, 0, 167), (144, 3, 3), (145, 0, 35), (146, 3, 3), (147, 0, 71), (148, 0, 7), (149, 3, 3), (150, 0, 55), (151, 3, 3), (152, 0, 23), (153, 3, 3), (154, 0, 23), (155, 3, 3), (156, 0, 167), (157, 3, 3), (158, 0, 35), (159, 3, 3), (160, 0, 71), (161, 0, 7), (162, 3, 3), (163, 0, 55), (164, 3, 3), (165, 0, 23), (166, 3, 3), (167, 0, 23), (168, 3, 3), (169, 0, 167), (170, 3, 3), (171, 0, 35), (172, 3, 3), (173, 0, 71), (174, 0, 7), (175, 3, 3), (176, 0, 55), (177, 3, 3), (178, 0, 23), (179, 3, 3), (180, 0, 23), (181, 3, 3), (182, 0, 167), (183, 3, 3), (184, 0, 35), (185, 3, 3), (186, 0, 71), (187, 0, 7), (188, 3, 3), (189, 0, 55), (190, 3, 3), (191, 0, 23), (192, 3, 3), (193, 0, 23), (194, 3, 3), (195, 0, 167), (196, 3, 3), (197, 0, 35), (198, 3, 3), (199, 0, 71), (200, 6, 6), (204, 0, 9), (205, 0, 14849), (206, 2, 8), (220, 3, 3), (221, 0, 47), (245, 0, 0)], zl104), zl282)
set_option maxRecDepth 100000 in
theorem pl_h60_s {X : Int → Int} {LX : Nat} : ck_Ok p2_OL X LX 157 pl_h60 := ck_ok_s (O := p2_OL) (X := X) (LX := LX) (E := [(158, [pl_s504])]) (mi := 157) (cuts := []) (f := 90) (S := pl_h60) (lx := none) (XF := []) ⟨pl_nmu, ck_E1 (ck_S1 pl_s504_s ck_S0) ck_E0⟩ ck_X0 ck_l0 (by decide +kernel)
set_option maxRecDepth 100000 in
/-- GlacierMailLaw.open -/
noncomputable def pl_h61 : ck_Sum := ((9, 2, 12), 249, [.inr (.inr (.inl 1)), .inl (ck_one 13), .inr (.inr (.inl 245))], ([], zl230, [(3, 6, 6, (0, 299, [(10, 0)]))]), ([(1, 15, 15), (11, 96, 97), (14, 3, 3), (15, 0, 71), (42, 1, 2), (44, 0, 7), (45, 3, 3), (46, 0, 55), (47, 3, 3), (48, 0, 23), (49, 3, 3), (50, 0, 23), (51, 3, 3), (52, 0, 167), (53, 3, 3), (54, 0, 35), (55, 3, 3), (56, 0, 71), (57, 0, 7), (58, 3, 3), (59, 0, 55), (60, 3, 3), (61, 0, 23), (62, 3, 3), (63, 0, 23), (64, 3, 3), (65, 0, 167), (66, 3, 3), (67, 0, 35), (68, 3, 3), (69, 0, 71), (70, 0, 7), (71, 3, 3), (72, 0, 55), (73, 3, 3), (74, 0, 23), (75, 3, 3), (76, 0, 23), (77, 3, 3), (78, 0, 167), (79, 3, 3), (80, 0, 35), (81, 3, 3), (82, 0, 71), (83, 0, 7), (84, 3, 3), (85, 0, 55), (86, 3, 3), (87, 0, 23), (88, 3, 3), (89, 0, 23), (90, 3, 3), (91, 0, 167), (92, 3, 3), (93, 0, 35), (94, 3, 3), (95, 0, 71), (96, 0, 7), (97, 3, 3), (98, 0, 55), (99, 3, 3), (100, 0, 23), (101, 3, 3), (102, 0, 23), (103, 3, 3), (104, 0, 167), (105, 3, 3), (106, 0, 35), (107, 3, 3), (108, 0, 71), (109, 0, 7), (110, 3, 3), (111, 0, 55), (112, 3, 3), (113, 0, 23), (114, 3, 3), (115, 0, 23), (116, 3, 3), (117, 0, 167), (118, 3, 3), (119, 0, 35), (120, 3, 3), (121, 0, 71), (122, 0, 7), (123, 3, 3), (124, 0, 55), (125, 3, 3), (126, 0, 23), (127, 3, 3), (128, 0, 23), (129, 3, 3), (130, 0, 167), (131, 3, 3), (132, 0, 35), (133, 3, 3), (134, 0, 71), (135, 0, 7), (136, 3, 3), (137, 0, 55), (138, 3, 3), (139, 0, 23), (140, 3, 3), (141, 0, 23), (142, 3, 3), (143, 0, 167), (144, 3, 3), (145, 0, 35), (146, 3, 3), (147, 0, 71), (148, 0, 7), (149, 3, 3), (150, 0, 55), (151, 3, 3), (152, 0, 23), (153, 3, 3), (154, 0, 23), (155, 3, 3), (156, 0, 167), (157, 3, 3), (158, 0, 35), (159, 3, 3), (160, 0, 71), (161, 0, 7), (162, 3, 3), (163, 0, 55), (164, 3, 3), (165, 0, 23), (166, 3, 3), (167, 0, 23), (168, 3, 3), (169, 0, 167), (170, 3, 3), (171, 0, 35), (172, 3, 3), (173, 0, 71), (174, 0, 7), (175, 3, 3), (176, 0, 55), (177, 3, 3), (178, 0, 23), (179, 3, 3), (180, 0, 23), (181, 3, 3), (182, 0, 167), (183, 3, 3), (184, 0, 35), (185, 3, 3), (186, 0, 71), (187, 0, 7), (188, 3, 3), (189, 0, 55), (190, 3, 3), (191, 0, 23), (192, 3, 3), (193, 0, 23), (194, 3, 3), (195, 0, 167), (196, 3, 3), (197, 0, 35), (198, 3, 3), (199, 0, 71), (200, 6, 6), (204, 0, 9), (205, 0, 14849), (206, 2, 8), (220, 3, 3), (221, 0, 47), (245, 0, 0)], zl104), zl282)
set_option maxRecDepth 100000 in
theorem pl_h61_s {X : Int → Int} {LX : Nat} : ck_Ok p2_OL X LX 157 pl_h61 := ck_ok_s (O := p2_OL) (X := X) (LX := LX) (E := [(158, [pl_s514])]) (mi := 157) (cuts := []) (f := 90) (S := pl_h61) (lx := none) (XF := []) ⟨pl_nmu, ck_E1 (ck_S1 pl_s514_s ck_S0) ck_E0⟩ ck_X0 ck_l0 (by decide +kernel)
set_option maxRecDepth 100000 in
/-- GlacierMailLaw.open -/
noncomputable def pl_h62 : ck_Sum := ((9, 2, 12), 249, [.inr (.inr (.inl 1)), .inl (ck_one 14), .inr (.inr (.inl 245))], ([], zl230, [(3, 6, 6, (0, 299, [(10, 0)]))]), ([(1, 15, 15), (11, 103, 104), (14, 3, 3), (15, 0, 71), (42, 1, 2), (44, 0, 7), (45, 3, 3), (46, 0, 55), (47, 3, 3), (48, 0, 23), (49, 3, 3), (50, 0, 23), (51, 3, 3), (52, 0, 167), (53, 3, 3), (54, 0, 35), (55, 3, 3), (56, 0, 71), (57, 0, 7), (58, 3, 3), (59, 0, 55), (60, 3, 3), (61, 0, 23), (62, 3, 3), (63, 0, 23), (64, 3, 3), (65, 0, 167), (66, 3, 3), (67, 0, 35), (68, 3, 3), (69, 0, 71), (70, 0, 7), (71, 3, 3), (72, 0, 55), (73, 3, 3), (74, 0, 23), (75, 3, 3), (76, 0, 23), (77, 3, 3), (78, 0, 167), (79, 3, 3), (80, 0, 35), (81, 3, 3), (82, 0, 71), (83, 0, 7), (84, 3, 3), (85, 0, 55), (86, 3, 3), (87, 0, 23), (88, 3, 3), (89, 0, 23), (90, 3, 3), (91, 0, 167), (92, 3, 3), (93, 0, 35), (94, 3, 3), (95, 0, 71), (96, 0, 7), (97, 3, 3), (98, 0, 55), (99, 3, 3), (100, 0, 23), (101, 3, 3), (102, 0, 23), (103, 3, 3), (104, 0, 167), (105, 3, 3), (106, 0, 35), (107, 3, 3), (108, 0, 71), (109, 0, 7), (110, 3, 3), (111, 0, 55), (112, 3, 3), (113, 0, 23), (114, 3, 3), (115, 0, 23), (116, 3, 3), (117, 0, 167), (118, 3, 3), (119, 0, 35), (120, 3, 3), (121, 0, 71), (122, 0, 7), (123, 3, 3), (124, 0, 55), (125, 3, 3), (126, 0, 23), (127, 3, 3), (128, 0, 23), (129, 3, 3), (130, 0, 167), (131, 3, 3), (132, 0, 35), (133, 3, 3), (134, 0, 71), (135, 0, 7), (136, 3, 3), (137, 0, 55), (138, 3, 3), (139, 0, 23), (140, 3, 3), (141, 0, 23), (142, 3, 3), (143, 0, 167), (144, 3, 3), (145, 0, 35), (146, 3, 3), (147, 0, 71), (148, 0, 7), (149, 3, 3), (150, 0, 55), (151, 3, 3), (152, 0, 23), (153, 3, 3), (154, 0, 23), (155, 3, 3), (156, 0, 167), (157, 3, 3), (158, 0, 35), (159, 3, 3), (160, 0, 71), (161, 0, 7), (162, 3, 3), (163, 0, 55), (164, 3, 3), (165, 0, 23), (166, 3, 3), (167, 0, 23), (168, 3, 3), (169, 0, 167), (170, 3, 3), (171, 0, 35), (172, 3, 3), (173, 0, 71), (174, 0, 7), (175, 3, 3), (176, 0, 55), (177, 3, 3), (178, 0, 23), (179, 3, 3), (180, 0, 23), (181, 3, 3), (182, 0, 167), (183, 3, 3), (184, 0, 35), (185, 3, 3), (186, 0, 71), (187, 0, 7), (188, 3, 3), (189, 0, 55), (190, 3, 3), (191, 0, 23), (192, 3, 3), (193, 0, 23), (194, 3, 3), (195, 0, 167), (196, 3, 3), (197, 0, 35), (198, 3, 3), (199, 0, 71), (200, 6, 6), (204, 0, 9), (205, 0, 14849), (206, 2, 8), (220, 3, 3), (221, 0, 47), (245, 0, 0)], zl104), zl282)
set_option maxRecDepth 100000 in
theorem pl_h62_s {X : Int → Int} {LX : Nat} : ck_Ok p2_OL X LX 157 pl_h62 := ck_ok_s (O := p2_OL) (X := X) (LX := LX) (E := [(158, [pl_s524])]) (mi := 157) (cuts := []) (f := 90) (S := pl_h62) (lx := none) (XF := []) ⟨pl_nmu, ck_E1 (ck_S1 pl_s524_s ck_S0) ck_E0⟩ ck_X0 ck_l0 (by decide +kernel)
set_option maxRecDepth 100000 in
/-- GlacierMailLaw.open -/
noncomputable def pl_h63 : ck_Sum := ((9, 2, 12), 249, [.inr (.inr (.inl 1)), .inl (ck_one 15), .inr (.inr (.inl 245))], ([], zl230, [(3, 6, 6, (0, 299, [(10, 0)]))]), ([(1, 15, 15), (11, 110, 111), (14, 3, 3), (15, 0, 71), (42, 1, 2), (44, 0, 7), (45, 3, 3), (46, 0, 55), (47, 3, 3), (48, 0, 23), (49, 3, 3), (50, 0, 23), (51, 3, 3), (52, 0, 167), (53, 3, 3), (54, 0, 35), (55, 3, 3), (56, 0, 71), (57, 0, 7), (58, 3, 3), (59, 0, 55), (60, 3, 3), (61, 0, 23), (62, 3, 3), (63, 0, 23), (64, 3, 3), (65, 0, 167), (66, 3, 3), (67, 0, 35), (68, 3, 3), (69, 0, 71), (70, 0, 7), (71, 3, 3), (72, 0, 55), (73, 3, 3), (74, 0, 23), (75, 3, 3), (76, 0, 23), (77, 3, 3), (78, 0, 167), (79, 3, 3), (80, 0, 35), (81, 3, 3), (82, 0, 71), (83, 0, 7), (84, 3, 3), (85, 0, 55), (86, 3, 3), (87, 0, 23), (88, 3, 3), (89, 0, 23), (90, 3, 3), (91, 0, 167), (92, 3, 3), (93, 0, 35), (94, 3, 3), (95, 0, 71), (96, 0, 7), (97, 3, 3), (98, 0, 55), (99, 3, 3), (100, 0, 23), (101, 3, 3), (102, 0, 23), (103, 3, 3), (104, 0, 167), (105, 3, 3), (106, 0, 35), (107, 3, 3), (108, 0, 71), (109, 0, 7), (110, 3, 3), (111, 0, 55), (112, 3, 3), (113, 0, 23), (114, 3, 3), (115, 0, 23), (116, 3, 3), (117, 0, 167), (118, 3, 3), (119, 0, 35), (120, 3, 3), (121, 0, 71), (122, 0, 7), (123, 3, 3), (124, 0, 55), (125, 3, 3), (126, 0, 23), (127, 3, 3), (128, 0, 23), (129, 3, 3), (130, 0, 167), (131, 3, 3), (132, 0, 35), (133, 3, 3), (134, 0, 71), (135, 0, 7), (136, 3, 3), (137, 0, 55), (138, 3, 3), (139, 0, 23), (140, 3, 3), (141, 0, 23), (142, 3, 3), (143, 0, 167), (144, 3, 3), (145, 0, 35), (146, 3, 3), (147, 0, 71), (148, 0, 7), (149, 3, 3), (150, 0, 55), (151, 3, 3), (152, 0, 23), (153, 3, 3), (154, 0, 23), (155, 3, 3), (156, 0, 167), (157, 3, 3), (158, 0, 35), (159, 3, 3), (160, 0, 71), (161, 0, 7), (162, 3, 3), (163, 0, 55), (164, 3, 3), (165, 0, 23), (166, 3, 3), (167, 0, 23), (168, 3, 3), (169, 0, 167), (170, 3, 3), (171, 0, 35), (172, 3, 3), (173, 0, 71), (174, 0, 7), (175, 3, 3), (176, 0, 55), (177, 3, 3), (178, 0, 23), (179, 3, 3), (180, 0, 23), (181, 3, 3), (182, 0, 167), (183, 3, 3), (184, 0, 35), (185, 3, 3), (186, 0, 71), (187, 0, 7), (188, 3, 3), (189, 0, 55), (190, 3, 3), (191, 0, 23), (192, 3, 3), (193, 0, 23), (194, 3, 3), (195, 0, 167), (196, 3, 3), (197, 0, 35), (198, 3, 3), (199, 0, 71), (200, 6, 6), (204, 0, 9), (205, 0, 14849), (206, 2, 8), (220, 3, 3), (221, 0, 47), (245, 0, 0)], zl104), zl282)
set_option maxRecDepth 100000 in
theorem pl_h63_s {X : Int → Int} {LX : Nat} : ck_Ok p2_OL X LX 157 pl_h63 := ck_ok_s (O := p2_OL) (X := X) (LX := LX) (E := [(158, [pl_s534])]) (mi := 157) (cuts := []) (f := 90) (S := pl_h63) (lx := none) (XF := []) ⟨pl_nmu, ck_E1 (ck_S1 pl_s534_s ck_S0) ck_E0⟩ ck_X0 ck_l0 (by decide +kernel)
set_option maxRecDepth 100000 in
/-- GlacierMailLaw.open -/
noncomputable def pl_h64 : ck_Sum := ((9, 2, 12), 249, [.inr (.inr (.inl 1)), .inl (ck_one 16), .inr (.inr (.inl 245))], ([], zl230, [(3, 6, 6, (0, 299, [(10, 0)]))]), ([(1, 15, 15), (11, 117, 118), (14, 3, 3), (15, 0, 71), (42, 1, 2), (44, 0, 7), (45, 3, 3), (46, 0, 55), (47, 3, 3), (48, 0, 23), (49, 3, 3), (50, 0, 23), (51, 3, 3), (52, 0, 167), (53, 3, 3), (54, 0, 35), (55, 3, 3), (56, 0, 71), (57, 0, 7), (58, 3, 3), (59, 0, 55), (60, 3, 3), (61, 0, 23), (62, 3, 3), (63, 0, 23), (64, 3, 3), (65, 0, 167), (66, 3, 3), (67, 0, 35), (68, 3, 3), (69, 0, 71), (70, 0, 7), (71, 3, 3), (72, 0, 55), (73, 3, 3), (74, 0, 23), (75, 3, 3), (76, 0, 23), (77, 3, 3), (78, 0, 167), (79, 3, 3), (80, 0, 35), (81, 3, 3), (82, 0, 71), (83, 0, 7), (84, 3, 3), (85, 0, 55), (86, 3, 3), (87, 0, 23), (88, 3, 3), (89, 0, 23), (90, 3, 3), (91, 0, 167), (92, 3, 3), (93, 0, 35), (94, 3, 3), (95, 0, 71), (96, 0, 7), (97, 3, 3), (98, 0, 55), (99, 3, 3), (100, 0, 23), (101, 3, 3), (102, 0, 23), (103, 3, 3), (104, 0, 167), (105, 3, 3), (106, 0, 35), (107, 3, 3), (108, 0, 71), (109, 0, 7), (110, 3, 3), (111, 0, 55), (112, 3, 3), (113, 0, 23), (114, 3, 3), (115, 0, 23), (116, 3, 3), (117, 0, 167), (118, 3, 3), (119, 0, 35), (120, 3, 3), (121, 0, 71), (122, 0, 7), (123, 3, 3), (124, 0, 55), (125, 3, 3), (126, 0, 23), (127, 3, 3), (128, 0, 23), (129, 3, 3), (130, 0, 167), (131, 3, 3), (132, 0, 35), (133, 3, 3), (134, 0, 71), (135, 0, 7), (136, 3, 3), (137, 0, 55), (138, 3, 3), (139, 0, 23), (140, 3, 3), (141, 0, 23), (142, 3, 3), (143, 0, 167), (144, 3, 3), (145, 0, 35), (146, 3, 3), (147, 0, 71), (148, 0, 7), (149, 3, 3), (150, 0, 55), (151, 3, 3), (152, 0, 23), (153, 3, 3), (154, 0, 23), (155, 3, 3), (156, 0, 167), (157, 3, 3), (158, 0, 35), (159, 3, 3), (160, 0, 71), (161, 0, 7), (162, 3, 3), (163, 0, 55), (164, 3, 3), (165, 0, 23), (166, 3, 3), (167, 0, 23), (168, 3, 3), (169, 0, 167), (170, 3, 3), (171, 0, 35), (172, 3, 3), (173, 0, 71), (174, 0, 7), (175, 3, 3), (176, 0, 55), (177, 3, 3), (178, 0, 23), (179, 3, 3), (180, 0, 23), (181, 3, 3), (182, 0, 167), (183, 3, 3), (184, 0, 35), (185, 3, 3), (186, 0, 71), (187, 0, 7), (188, 3, 3), (189, 0, 55), (190, 3, 3), (191, 0, 23), (192, 3, 3), (193, 0, 23), (194, 3, 3), (195, 0, 167), (196, 3, 3), (197, 0, 35), (198, 3, 3), (199, 0, 71), (200, 6, 6), (204, 0, 9), (205, 0, 14849), (206, 2, 8), (220, 3, 3), (221, 0, 47), (245, 0, 0)], zl104), zl282)
set_option maxRecDepth 100000 in
theorem pl_h64_s {X : Int → Int} {LX : Nat} : ck_Ok p2_OL X LX 157 pl_h64 := ck_ok_s (O := p2_OL) (X := X) (LX := LX) (E := [(158, [pl_s544])]) (mi := 157) (cuts := []) (f := 90) (S := pl_h64) (lx := none) (XF := []) ⟨pl_nmu, ck_E1 (ck_S1 pl_s544_s ck_S0) ck_E0⟩ ck_X0 ck_l0 (by decide +kernel)
set_option maxRecDepth 100000 in
/-- GlacierMailLaw.open -/
noncomputable def pl_h65 : ck_Sum := ((9, 2, 12), 249, [.inr (.inr (.inl 1)), .inl (ck_one 17), .inr (.inr (.inl 245))], ([], zl230, [(3, 6, 6, (0, 299, [(10, 0)]))]), ([(1, 15, 15), (11, 124, 125), (14, 3, 3), (15, 0, 71), (42, 1, 2), (44, 0, 7), (45, 3, 3), (46, 0, 55), (47, 3, 3), (48, 0, 23), (49, 3, 3), (50, 0, 23), (51, 3, 3), (52, 0, 167), (53, 3, 3), (54, 0, 35), (55, 3, 3), (56, 0, 71), (57, 0, 7), (58, 3, 3), (59, 0, 55), (60, 3, 3), (61, 0, 23), (62, 3, 3), (63, 0, 23), (64, 3, 3), (65, 0, 167), (66, 3, 3), (67, 0, 35), (68, 3, 3), (69, 0, 71), (70, 0, 7), (71, 3, 3), (72, 0, 55), (73, 3, 3), (74, 0, 23), (75, 3, 3), (76, 0, 23), (77, 3, 3), (78, 0, 167), (79, 3, 3), (80, 0, 35), (81, 3, 3), (82, 0, 71), (83, 0, 7), (84, 3, 3), (85, 0, 55), (86, 3, 3), (87, 0, 23), (88, 3, 3), (89, 0, 23), (90, 3, 3), (91, 0, 167), (92, 3, 3), (93, 0, 35), (94, 3, 3), (95, 0, 71), (96, 0, 7), (97, 3, 3), (98, 0, 55), (99, 3, 3), (100, 0, 23), (101, 3, 3), (102, 0, 23), (103, 3, 3), (104, 0, 167), (105, 3, 3), (106, 0, 35), (107, 3, 3), (108, 0, 71), (109, 0, 7), (110, 3, 3), (111, 0, 55), (112, 3, 3), (113, 0, 23), (114, 3, 3), (115, 0, 23), (116, 3, 3), (117, 0, 167), (118, 3, 3), (119, 0, 35), (120, 3, 3), (121, 0, 71), (122, 0, 7), (123, 3, 3), (124, 0, 55), (125, 3, 3), (126, 0, 23), (127, 3, 3), (128, 0, 23), (129, 3, 3), (130, 0, 167), (131, 3, 3), (132, 0, 35), (133, 3, 3), (134, 0, 71), (135, 0, 7), (136, 3, 3), (137, 0, 55), (138, 3, 3), (139, 0, 23), (140, 3, 3), (141, 0, 23), (142, 3, 3), (143, 0, 167), (144, 3, 3), (145, 0, 35), (146, 3, 3), (147, 0, 71), (148, 0, 7), (149, 3, 3), (150, 0, 55), (151, 3, 3), (152, 0, 23), (153, 3, 3), (154, 0, 23), (155, 3, 3), (156, 0, 167), (157, 3, 3), (158, 0, 35), (159, 3, 3), (160, 0, 71), (161, 0, 7), (162, 3, 3), (163, 0, 55), (164, 3, 3), (165, 0, 23), (166, 3, 3), (167, 0, 23), (168, 3, 3), (169, 0, 167), (170, 3, 3), (171, 0, 35), (172, 3, 3), (173, 0, 71), (174, 0, 7), (175, 3, 3), (176, 0, 55), (177, 3, 3), (178, 0, 23), (179, 3, 3), (180, 0, 23), (181, 3, 3), (182, 0, 167), (183, 3, 3), (184, 0, 35), (185, 3, 3), (186, 0, 71), (187, 0, 7), (188, 3, 3), (189, 0, 55), (190, 3, 3), (191, 0, 23), (192, 3, 3), (193, 0, 23), (194, 3, 3), (195, 0, 167), (196, 3, 3), (197, 0, 35), (198, 3, 3), (199, 0, 71), (200, 6, 6), (204, 0, 9), (205, 0, 14849), (206, 2, 8), (220, 3, 3), (221, 0, 47), (245, 0, 0)], zl104), zl282)
set_option maxRecDepth 100000 in
theorem pl_h65_s {X : Int → Int} {LX : Nat} : ck_Ok p2_OL X LX 157 pl_h65 := ck_ok_s (O := p2_OL) (X := X) (LX := LX) (E := [(158, [pl_s554])]) (mi := 157) (cuts := []) (f := 90) (S := pl_h65) (lx := none) (XF := []) ⟨pl_nmu, ck_E1 (ck_S1 pl_s554_s ck_S0) ck_E0⟩ ck_X0 ck_l0 (by decide +kernel)
set_option maxRecDepth 100000 in
/-- GlacierMailLaw.open -/
noncomputable def pl_h66 : ck_Sum := ((9, 2, 12), 249, [.inr (.inr (.inl 1)), .inl (ck_one 18), .inr (.inr (.inl 245))], ([], zl230, [(3, 6, 6, (0, 299, [(10, 0)]))]), ([(1, 15, 15), (11, 131, 132), (14, 3, 3), (15, 0, 71), (42, 1, 2), (44, 0, 7), (45, 3, 3), (46, 0, 55), (47, 3, 3), (48, 0, 23), (49, 3, 3), (50, 0, 23), (51, 3, 3), (52, 0, 167), (53, 3, 3), (54, 0, 35), (55, 3, 3), (56, 0, 71), (57, 0, 7), (58, 3, 3), (59, 0, 55), (60, 3, 3), (61, 0, 23), (62, 3, 3), (63, 0, 23), (64, 3, 3), (65, 0, 167), (66, 3, 3), (67, 0, 35), (68, 3, 3), (69, 0, 71), (70, 0, 7), (71, 3, 3), (72, 0, 55), (73, 3, 3), (74, 0, 23), (75, 3, 3), (76, 0, 23), (77, 3, 3), (78, 0, 167), (79, 3, 3), (80, 0, 35), (81, 3, 3), (82, 0, 71), (83, 0, 7), (84, 3, 3), (85, 0, 55), (86, 3, 3), (87, 0, 23), (88, 3, 3), (89, 0, 23), (90, 3, 3), (91, 0, 167), (92, 3, 3), (93, 0, 35), (94, 3, 3), (95, 0, 71), (96, 0, 7), (97, 3, 3), (98, 0, 55), (99, 3, 3), (100, 0, 23), (101, 3, 3), (102, 0, 23), (103, 3, 3), (104, 0, 167), (105, 3, 3), (106, 0, 35), (107, 3, 3), (108, 0, 71), (109, 0, 7), (110, 3, 3), (111, 0, 55), (112, 3, 3), (113, 0, 23), (114, 3, 3), (115, 0, 23), (116, 3, 3), (117, 0, 167), (118, 3, 3), (119, 0, 35), (120, 3, 3), (121, 0, 71), (122, 0, 7), (123, 3, 3), (124, 0, 55), (125, 3, 3), (126, 0, 23), (127, 3, 3), (128, 0, 23), (129, 3, 3), (130, 0, 167), (131, 3, 3), (132, 0, 35), (133, 3, 3), (134, 0, 71), (135, 0, 7), (136, 3, 3), (137, 0, 55), (138, 3, 3), (139, 0, 23), (140, 3, 3), (141, 0, 23), (142, 3, 3), (143, 0, 167), (144, 3, 3), (145, 0, 35), (146, 3, 3), (147, 0, 71), (148, 0, 7), (149, 3, 3), (150, 0, 55), (151, 3, 3), (152, 0, 23), (153, 3, 3), (154, 0, 23), (155, 3, 3), (156, 0, 167), (157, 3, 3), (158, 0, 35), (159, 3, 3), (160, 0, 71), (161, 0, 7), (162, 3, 3), (163, 0, 55), (164, 3, 3), (165, 0, 23), (166, 3, 3), (167, 0, 23), (168, 3, 3), (169, 0, 167), (170, 3, 3), (171, 0, 35), (172, 3, 3), (173, 0, 71), (174, 0, 7), (175, 3, 3), (176, 0, 55), (177, 3, 3), (178, 0, 23), (179, 3, 3), (180, 0, 23), (181, 3, 3), (182, 0, 167), (183, 3, 3), (184, 0, 35), (185, 3, 3), (186, 0, 71), (187, 0, 7), (188, 3, 3), (189, 0, 55), (190, 3, 3), (191, 0, 23), (192, 3, 3), (193, 0, 23), (194, 3, 3), (195, 0, 167), (196, 3, 3), (197, 0, 35), (198, 3, 3), (199, 0, 71), (200, 6, 6), (204, 0, 9), (205, 0, 14849), (206, 2, 8), (220, 3, 3), (221, 0, 47), (245, 0, 0)], zl104), zl282)
set_option maxRecDepth 100000 in
theorem pl_h66_s {X : Int → Int} {LX : Nat} : ck_Ok p2_OL X LX 157 pl_h66 := ck_ok_s (O := p2_OL) (X := X) (LX := LX) (E := [(158, [pl_s564])]) (mi := 157) (cuts := []) (f := 90) (S := pl_h66) (lx := none) (XF := []) ⟨pl_nmu, ck_E1 (ck_S1 pl_s564_s ck_S0) ck_E0⟩ ck_X0 ck_l0 (by decide +kernel)
set_option maxRecDepth 100000 in
/-- GlacierMailLaw.open -/
noncomputable def pl_h67 : ck_Sum := ((9, 2, 12), 249, [.inr (.inr (.inl 1)), .inl (ck_one 19), .inr (.inr (.inl 245))], ([], zl230, [(3, 6, 6, (0, 299, [(10, 0)]))]), ([(1, 15, 15), (11, 138, 139), (14, 3, 3), (15, 0, 71), (42, 1, 2), (44, 0, 7), (45, 3, 3), (46, 0, 55), (47, 3, 3), (48, 0, 23), (49, 3, 3), (50, 0, 23), (51, 3, 3), (52, 0, 167), (53, 3, 3), (54, 0, 35), (55, 3, 3), (56, 0, 71), (57, 0, 7), (58, 3, 3), (59, 0, 55), (60, 3, 3), (61, 0, 23), (62, 3, 3), (63, 0, 23), (64, 3, 3), (65, 0, 167), (66, 3, 3), (67, 0, 35), (68, 3, 3), (69, 0, 71), (70, 0, 7), (71, 3, 3), (72, 0, 55), (73, 3, 3), (74, 0, 23), (75, 3, 3), (76, 0, 23), (77, 3, 3), (78, 0, 167), (79, 3, 3), (80, 0, 35), (81, 3, 3), (82, 0, 71), (83, 0, 7), (84, 3, 3), (85, 0, 55), (86, 3, 3), (87, 0, 23), (88, 3, 3), (89, 0, 23), (90, 3, 3), (91, 0, 167), (92, 3, 3), (93, 0, 35), (94, 3, 3), (95, 0, 71), (96, 0, 7), (97, 3, 3), (98, 0, 55), (99, 3, 3), (100, 0, 23), (101, 3, 3), (102, 0, 23), (103, 3, 3), (104, 0, 167), (105, 3, 3), (106, 0, 35), (107, 3, 3), (108, 0, 71), (109, 0, 7), (110, 3, 3), (111, 0, 55), (112, 3, 3), (113, 0, 23), (114, 3, 3), (115, 0, 23), (116, 3, 3), (117, 0, 167), (118, 3, 3), (119, 0, 35), (120, 3, 3), (121, 0, 71), (122, 0, 7), (123, 3, 3), (124, 0, 55), (125, 3, 3), (126, 0, 23), (127, 3, 3), (128, 0, 23), (129, 3, 3), (130, 0, 167), (131, 3, 3), (132, 0, 35), (133, 3, 3), (134, 0, 71), (135, 0, 7), (136, 3, 3), (137, 0, 55), (138, 3, 3), (139, 0, 23), (140, 3, 3), (141, 0, 23), (142, 3, 3), (143, 0, 167), (144, 3, 3), (145, 0, 35), (146, 3, 3), (147, 0, 71), (148, 0, 7), (149, 3, 3), (150, 0, 55), (151, 3, 3), (152, 0, 23), (153, 3, 3), (154, 0, 23), (155, 3, 3), (156, 0, 167), (157, 3, 3), (158, 0, 35), (159, 3, 3), (160, 0, 71), (161, 0, 7), (162, 3, 3), (163, 0, 55), (164, 3, 3), (165, 0, 23), (166, 3, 3), (167, 0, 23), (168, 3, 3), (169, 0, 167), (170, 3, 3), (171, 0, 35), (172, 3, 3), (173, 0, 71), (174, 0, 7), (175, 3, 3), (176, 0, 55), (177, 3, 3), (178, 0, 23), (179, 3, 3), (180, 0, 23), (181, 3, 3), (182, 0, 167), (183, 3, 3), (184, 0, 35), (185, 3, 3), (186, 0, 71), (187, 0, 7), (188, 3, 3), (189, 0, 55), (190, 3, 3), (191, 0, 23), (192, 3, 3), (193, 0, 23), (194, 3, 3), (195, 0, 167), (196, 3, 3), (197, 0, 35), (198, 3, 3), (199, 0, 71), (200, 6, 6), (204, 0, 9), (205, 0, 14849), (206, 2, 8), (220, 3, 3), (221, 0, 47), (245, 0, 0)], zl104), zl282)
set_option maxRecDepth 100000 in
theorem pl_h67_s {X : Int → Int} {LX : Nat} : ck_Ok p2_OL X LX 157 pl_h67 := ck_ok_s (O := p2_OL) (X := X) (LX := LX) (E := [(158, [pl_s574])]) (mi := 157) (cuts := []) (f := 90) (S := pl_h67) (lx := none) (XF := []) ⟨pl_nmu, ck_E1 (ck_S1 pl_s574_s ck_S0) ck_E0⟩ ck_X0 ck_l0 (by decide +kernel)
set_option maxRecDepth 100000 in
/-- GlacierMailLaw.open -/
noncomputable def pl_h68 : ck_Sum := ((9, 2, 12), 249, [.inr (.inr (.inl 1)), .inl (ck_one 20), .inr (.inr (.inl 245))], ([], zl230, [(3, 6, 6, (0, 299, [(10, 0)]))]), ([(1, 15, 15), (11, 145, 146), (14, 3, 3), (15, 0, 71), (42, 1, 2), (44, 0, 7), (45, 3, 3), (46, 0, 55), (47, 3, 3), (48, 0, 23), (49, 3, 3), (50, 0, 23), (51, 3, 3), (52, 0, 167), (53, 3, 3), (54, 0, 35), (55, 3, 3), (56, 0, 71), (57, 0, 7), (58, 3, 3), (59, 0, 55), (60, 3, 3), (61, 0, 23), (62, 3, 3), (63, 0, 23), (64, 3, 3), (65, 0, 167), (66, 3, 3), (67, 0, 35), (68, 3, 3), (69, 0, 71), (70, 0, 7), (71, 3, 3), (72, 0, 55), (73, 3, 3), (74, 0, 23), (75, 3, 3), (76, 0, 23), (77, 3, 3), (78, 0, 167), (79, 3, 3), (80, 0, 35), (81, 3, 3), (82, 0, 71), (83, 0, 7), (84, 3, 3), (85, 0, 55), (86, 3, 3), (87, 0, 23), (88, 3, 3), (89, 0, 23), (90, 3, 3), (91, 0, 167), (92, 3, 3), (93, 0, 35), (94, 3, 3), (95, 0, 71), (96, 0, 7), (97, 3, 3), (98, 0, 55), (99, 3, 3), (100, 0, 23), (101, 3, 3), (102, 0, 23), (103, 3, 3), (104, 0, 167), (105, 3, 3), (106, 0, 35), (107, 3, 3), (108, 0, 71), (109, 0, 7), (110, 3, 3), (111, 0, 55), (112, 3, 3), (113, 0, 23), (114, 3, 3), (115, 0, 23), (116, 3, 3), (117, 0, 167), (118, 3, 3), (119, 0, 35), (120, 3, 3), (121, 0, 71), (122, 0, 7), (123, 3, 3), (124, 0, 55), (125, 3, 3), (126, 0, 23), (127, 3, 3), (128, 0, 23), (129, 3, 3), (130, 0, 167), (131, 3, 3), (132, 0, 35), (133, 3, 3), (134, 0, 71), (135, 0, 7), (136, 3, 3), (137, 0, 55), (138, 3, 3), (139, 0, 23), (140, 3, 3), (141, 0, 23), (142, 3, 3), (143, 0, 167), (144, 3, 3), (145, 0, 35), (146, 3, 3), (147, 0, 71), (148, 0, 7), (149, 3, 3), (150, 0, 55), (151, 3, 3), (152, 0, 23), (153, 3, 3), (154, 0, 23), (155, 3, 3), (156, 0, 167), (157, 3, 3), (158, 0, 35), (159, 3, 3), (160, 0, 71), (161, 0, 7), (162, 3, 3), (163, 0, 55), (164, 3, 3), (165, 0, 23), (166, 3, 3), (167, 0, 23), (168, 3, 3), (169, 0, 167), (170, 3, 3), (171, 0, 35), (172, 3, 3), (173, 0, 71), (174, 0, 7), (175, 3, 3), (176, 0, 55), (177, 3, 3), (178, 0, 23), (179, 3, 3), (180, 0, 23), (181, 3, 3), (182, 0, 167), (183, 3, 3), (184, 0, 35), (185, 3, 3), (186, 0, 71), (187, 0, 7), (188, 3, 3), (189, 0, 55), (190, 3, 3), (191, 0, 23), (192, 3, 3), (193, 0, 23), (194, 3, 3), (195, 0, 167), (196, 3, 3), (197, 0, 35), (198, 3, 3), (199, 0, 71), (200, 6, 6), (204, 0, 9), (205, 0, 14849), (206, 2, 8), (220, 3, 3), (221, 0, 47), (245, 0, 0)], zl104), zl282)
set_option maxRecDepth 100000 in
theorem pl_h68_s {X : Int → Int} {LX : Nat} : ck_Ok p2_OL X LX 157 pl_h68 := ck_ok_s (O := p2_OL) (X := X) (LX := LX) (E := [(158, [pl_s584])]) (mi := 157) (cuts := []) (f := 90) (S := pl_h68) (lx := none) (XF := []) ⟨pl_nmu, ck_E1 (ck_S1 pl_s584_s ck_S0) ck_E0⟩ ck_X0 ck_l0 (by decide +kernel)
set_option maxRecDepth 100000 in
/-- GlacierMailLaw.open -/
noncomputable def pl_h69 : ck_Sum := ((9, 2, 12), 249, [.inr (.inr (.inl 1)), .inl (ck_one 21), .inr (.inr (.inl 245))], ([], zl230, [(3, 6, 6, (0, 299, [(10, 0)]))]), ([(1, 15, 15), (11, 152, 153), (14, 3, 3), (15, 0, 71), (42, 1, 2), (44, 0, 7), (45, 3, 3), (46, 0, 55), (47, 3, 3), (48, 0, 23), (49, 3, 3), (50, 0, 23), (51, 3, 3), (52, 0, 167), (53, 3, 3), (54, 0, 35), (55, 3, 3), (56, 0, 71), (57, 0, 7), (58, 3, 3), (59, 0, 55), (60, 3, 3), (61, 0, 23), (62, 3, 3), (63, 0, 23), (64, 3, 3), (65, 0, 167), (66, 3, 3), (67, 0, 35), (68, 3, 3), (69, 0, 71), (70, 0, 7), (71, 3, 3), (72, 0, 55), (73, 3, 3), (74, 0, 23), (75, 3, 3), (76, 0, 23), (77, 3, 3), (78, 0, 167), (79, 3, 3), (80, 0, 35), (81, 3, 3), (82, 0, 71), (83, 0, 7), (84, 3, 3), (85, 0, 55), (86, 3, 3), (87, 0, 23), (88, 3, 3), (89, 0, 23), (90, 3, 3), (91, 0, 167), (92, 3, 3), (93, 0, 35), (94, 3, 3), (95, 0, 71), (96, 0, 7), (97, 3, 3), (98, 0, 55), (99, 3, 3), (100, 0, 23), (101, 3, 3), (102, 0, 23), (103, 3, 3), (104, 0, 167), (105, 3, 3), (106, 0, 35), (107, 3, 3), (108, 0, 71), (109, 0, 7), (110, 3, 3), (111, 0, 55), (112, 3, 3), (113, 0, 23), (114, 3, 3), (115, 0, 23), (116, 3, 3), (117, 0, 167), (118, 3, 3), (119, 0, 35), (120, 3, 3), (121, 0, 71), (122, 0, 7), (123, 3, 3), (124, 0, 55), (125, 3, 3), (126, 0, 23), (127, 3, 3), (128, 0, 23), (129, 3, 3), (130, 0, 167), (131, 3, 3), (132, 0, 35), (133, 3, 3), (134, 0, 71), (135, 0, 7), (136, 3, 3), (137, 0, 55), (138, 3, 3), (139, 0, 23), (140, 3, 3), (141, 0, 23), (142, 3, 3), (143, 0, 167), (144, 3, 3), (145, 0, 35), (146, 3, 3), (147, 0, 71), (148, 0, 7), (149, 3, 3), (150, 0, 55), (151, 3, 3), (152, 0, 23), (153, 3, 3), (154, 0, 23), (155, 3, 3), (156, 0, 167), (157, 3, 3), (158, 0, 35), (159, 3, 3), (160, 0, 71), (161, 0, 7), (162, 3, 3), (163, 0, 55), (164, 3, 3), (165, 0, 23), (166, 3, 3), (167, 0, 23), (168, 3, 3), (169, 0, 167), (170, 3, 3), (171, 0, 35), (172, 3, 3), (173, 0, 71), (174, 0, 7), (175, 3, 3), (176, 0, 55), (177, 3, 3), (178, 0, 23), (179, 3, 3), (180, 0, 23), (181, 3, 3), (182, 0, 167), (183, 3, 3), (184, 0, 35), (185, 3, 3), (186, 0, 71), (187, 0, 7), (188, 3, 3), (189, 0, 55), (190, 3, 3), (191, 0, 23), (192, 3, 3), (193, 0, 23), (194, 3, 3), (195, 0, 167), (196, 3, 3), (197, 0, 35), (198, 3, 3), (199, 0, 71), (200, 6, 6), (204, 0, 9), (205, 0, 14849), (206, 2, 8), (220, 3, 3), (221, 0, 47), (245, 0, 0)], zl104), zl282)
set_option maxRecDepth 100000 in
theorem pl_h69_s {X : Int → Int} {LX : Nat} : ck_Ok p2_OL X LX 157 pl_h69 := ck_ok_s (O := p2_OL) (X := X) (LX := LX) (E := [(158, [pl_s594])]) (mi := 157) (cuts := []) (f := 90) (S := pl_h69) (lx := none) (XF := []) ⟨pl_nmu, ck_E1 (ck_S1 pl_s594_s ck_S0) ck_E0⟩ ck_X0 ck_l0 (by decide +kernel)
set_option maxRecDepth 100000 in
/-- GlacierMailLaw.open -/
noncomputable def pl_h70 : ck_Sum := ((9, 2, 12), 249, [.inr (.inr (.inl 1)), .inl (ck_one 22), .inr (.inr (.inl 245))], ([], zl230, [(3, 6, 6, (0, 299, [(10, 0)]))]), ([(1, 15, 15), (11, 159, 160), (14, 3, 3), (15, 0, 71), (42, 1, 2), (44, 0, 7), (45, 3, 3), (46, 0, 55), (47, 3, 3), (48, 0, 23), (49, 3, 3), (50, 0, 23), (51, 3, 3), (52, 0, 167), (53, 3, 3), (54, 0, 35), (55, 3, 3), (56, 0, 71), (57, 0, 7), (58, 3, 3), (59, 0, 55), (60, 3, 3), (61, 0, 23), (62, 3, 3), (63, 0, 23), (64, 3, 3), (65, 0, 167), (66, 3, 3), (67, 0, 35), (68, 3, 3), (69, 0, 71), (70, 0, 7), (71, 3, 3), (72, 0, 55), (73, 3, 3), (74, 0, 23), (75, 3, 3), (76, 0, 23), (77, 3, 3), (78, 0, 167), (79, 3, 3), (80, 0, 35), (81, 3, 3), (82, 0, 71), (83, 0, 7), (84, 3, 3), (85, 0, 55), (86, 3, 3), (87, 0, 23), (88, 3, 3), (89, 0, 23), (90, 3, 3), (91, 0, 167), (92, 3, 3), (93, 0, 35), (94, 3, 3), (95, 0, 71), (96, 0, 7), (97, 3, 3), (98, 0, 55), (99, 3, 3), (100, 0, 23), (101, 3, 3), (102, 0, 23), (103, 3, 3), (104, 0, 167), (105, 3, 3), (106, 0, 35), (107, 3, 3), (108, 0, 71), (109, 0, 7), (110, 3, 3), (111, 0, 55), (112, 3, 3), (113, 0, 23), (114, 3, 3), (115, 0, 23), (116, 3, 3), (117, 0, 167), (118, 3, 3), (119, 0, 35), (120, 3, 3), (121, 0, 71), (122, 0, 7), (123, 3, 3), (124, 0, 55), (125, 3, 3), (126, 0, 23), (127, 3, 3), (128, 0, 23), (129, 3, 3), (130, 0, 167), (131, 3, 3), (132, 0, 35), (133, 3, 3), (134, 0, 71), (135, 0, 7), (136, 3, 3), (137, 0, 55), (138, 3, 3), (139, 0, 23), (140, 3, 3), (141, 0, 23), (142, 3, 3), (143, 0, 167), (144, 3, 3), (145, 0, 35), (146, 3, 3), (147, 0, 71), (148, 0, 7), (149, 3, 3), (150, 0, 55), (151, 3, 3), (152, 0, 23), (153, 3, 3), (154, 0, 23), (155, 3, 3), (156, 0, 167), (157, 3, 3), (158, 0, 35), (159, 3, 3), (160, 0, 71), (161, 0, 7), (162, 3, 3), (163, 0, 55), (164, 3, 3), (165, 0, 23), (166, 3, 3), (167, 0, 23), (168, 3, 3), (169, 0, 167), (170, 3, 3), (171, 0, 35), (172, 3, 3), (173, 0, 71), (174, 0, 7), (175, 3, 3), (176, 0, 55), (177, 3, 3), (178, 0, 23), (179, 3, 3), (180, 0, 23), (181, 3, 3), (182, 0, 167), (183, 3, 3), (184, 0, 35), (185, 3, 3), (186, 0, 71), (187, 0, 7), (188, 3, 3), (189, 0, 55), (190, 3, 3), (191, 0, 23), (192, 3, 3), (193, 0, 23), (194, 3, 3), (195, 0, 167), (196, 3, 3), (197, 0, 35), (198, 3, 3), (199, 0, 71), (200, 6, 6), (204, 0, 9), (205, 0, 14849), (206, 2, 8), (220, 3, 3), (221, 0, 47), (245, 0, 0)], zl104), zl282)
set_option maxRecDepth 100000 in
theorem pl_h70_s {X : Int → Int} {LX : Nat} : ck_Ok p2_OL X LX 157 pl_h70 := ck_ok_s (O := p2_OL) (X := X) (LX := LX) (E := [(158, [pl_s604])]) (mi := 157) (cuts := []) (f := 90) (S := pl_h70) (lx := none) (XF := []) ⟨pl_nmu, ck_E1 (ck_S1 pl_s604_s ck_S0) ck_E0⟩ ck_X0 ck_l0 (by decide +kernel)
set_option maxRecDepth 100000 in
/-- GlacierMailLaw.open -/
noncomputable def pl_h71 : ck_Sum := ((9, 2, 12), 249, [.inr (.inr (.inl 1)), .inl (ck_one 23), .inr (.inr (.inl 245))], ([], zl230, [(3, 6, 6, (0, 299, [(10, 0)]))]), ([(1, 15, 15), (11, 166, 167), (14, 3, 3), (15, 0, 71), (42, 1, 2), (44, 0, 7), (45, 3, 3), (46, 0, 55), (47, 3, 3), (48, 0, 23), (49, 3, 3), (50, 0, 23), (51, 3, 3), (52, 0, 167), (53, 3, 3), (54, 0, 35), (55, 3, 3), (56, 0, 71), (57, 0, 7), (58, 3, 3), (59, 0, 55), (60, 3, 3), (61, 0, 23), (62, 3, 3), (63, 0, 23), (64, 3, 3), (65, 0, 167), (66, 3, 3), (67, 0, 35), (68, 3, 3), (69, 0, 71), (70, 0, 7), (71, 3, 3), (72, 0, 55), (73, 3, 3), (74, 0, 23), (75, 3, 3), (76, 0, 23), (77, 3, 3), (78, 0, 167), (79, 3, 3), (80, 0, 35), (81, 3, 3), (82, 0, 71), (83, 0, 7), (84, 3, 3), (85, 0, 55), (86, 3, 3), (87, 0, 23), (88, 3, 3), (89, 0, 23), (90, 3, 3), (91, 0, 167), (92, 3, 3), (93, 0, 35), (94, 3, 3), (95, 0, 71), (96, 0, 7), (97, 3, 3), (98, 0, 55), (99, 3, 3), (100, 0, 23), (101, 3, 3), (102, 0, 23), (103, 3, 3), (104, 0, 167), (105, 3, 3), (106, 0, 35), (107, 3, 3), (108, 0, 71), (109, 0, 7), (110, 3, 3), (111, 0, 55), (112, 3, 3), (113, 0, 23), (114, 3, 3), (115, 0, 23), (116, 3, 3), (117, 0, 167), (118, 3, 3), (119, 0, 35), (120, 3, 3), (121, 0, 71), (122, 0, 7), (123, 3, 3), (124, 0, 55), (125, 3, 3), (126, 0, 23), (127, 3, 3), (128, 0, 23), (129, 3, 3), (130, 0, 167), (131, 3, 3), (132, 0, 35), (133, 3, 3), (134, 0, 71), (135, 0, 7), (136, 3, 3), (137, 0, 55), (138, 3, 3), (139, 0, 23), (140, 3, 3), (141, 0, 23), (142, 3, 3), (143, 0, 167), (144, 3, 3), (145, 0, 35), (146, 3, 3), (147, 0, 71), (148, 0, 7), (149, 3, 3), (150, 0, 55), (151, 3, 3), (152, 0, 23), (153, 3, 3), (154, 0, 23), (155, 3, 3), (156, 0, 167), (157, 3, 3), (158, 0, 35), (159, 3, 3), (160, 0, 71), (161, 0, 7), (162, 3, 3), (163, 0, 55), (164, 3, 3), (165, 0, 23), (166, 3, 3), (167, 0, 23), (168, 3, 3), (169, 0, 167), (170, 3, 3), (171, 0, 35), (172, 3, 3), (173, 0, 71), (174, 0, 7), (175, 3, 3), (176, 0, 55), (177, 3, 3), (178, 0, 23), (179, 3, 3), (180, 0, 23), (181, 3, 3), (182, 0, 167), (183, 3, 3), (184, 0, 35), (185, 3, 3), (186, 0, 71), (187, 0, 7), (188, 3, 3), (189, 0, 55), (190, 3, 3), (191, 0, 23), (192, 3, 3), (193, 0, 23), (194, 3, 3), (195, 0, 167), (196, 3, 3), (197, 0, 35), (198, 3, 3), (199, 0, 71), (200, 6, 6), (204, 0, 9), (205, 0, 14849), (206, 2, 8), (220, 3, 3), (221, 0, 47), (245, 0, 0)], zl104), zl282)
set_option maxRecDepth 100000 in
theorem pl_h71_s {X : Int → Int} {LX : Nat} : ck_Ok p2_OL X LX 157 pl_h71 := ck_ok_s (O := p2_OL) (X := X) (LX := LX) (E := [(158, [pl_s614])]) (mi := 157) (cuts := []) (f := 90) (S := pl_h71) (lx := none) (XF := []) ⟨pl_nmu, ck_E1 (ck_S1 pl_s614_s ck_S0) ck_E0⟩ ck_X0 ck_l0 (by decide +kernel)
set_option maxRecDepth 100000 in
/-- GlacierMailLaw.years -/
noncomputable def pl_h72 : ck_Sum := ((7, 1, 6), 249, [.inr (.inr (.inl 1)), .inl ((-2147483648), 0, []), .inr (.inr (.inl 245))], ([], [], []), ([], []), [(.inr (some (.inl (ck_one 1))), 249, ([], [], []))])
set_option maxRecDepth 100000 in
theorem pl_h72_s {X : Int → Int} {LX : Nat} : ck_Ok p2_OL X LX 160 pl_h72 := ck_ok_s (O := p2_OL) (X := X) (LX := LX) (E := [(161, [pl_s615])]) (mi := 160) (cuts := []) (f := 86) (S := pl_h72) (lx := none) (XF := []) ⟨pl_nmu, ck_E1 (ck_S1 pl_s615_s ck_S0) ck_E0⟩ ck_X0 ck_l0 (by decide +kernel)
set_option maxRecDepth 100000 in
/-- GlacierMailLaw.years -/
noncomputable def pl_h73 : ck_Sum := ((7, 1, 6), 249, [.inr (.inr (.inl 1)), .inl (51, 2147483647, []), .inr (.inr (.inl 245))], ([], [], []), ([], []), [(.inr (some (.inl (ck_one 1))), 249, ([], [], []))])
set_option maxRecDepth 100000 in
theorem pl_h73_s {X : Int → Int} {LX : Nat} : ck_Ok p2_OL X LX 160 pl_h73 := ck_ok_s (O := p2_OL) (X := X) (LX := LX) (E := [(161, [pl_s616])]) (mi := 160) (cuts := []) (f := 86) (S := pl_h73) (lx := none) (XF := []) ⟨pl_nmu, ck_E1 (ck_S1 pl_s616_s ck_S0) ck_E0⟩ ck_X0 ck_l0 (by decide +kernel)
set_option maxRecDepth 100000 in
/-- GlacierMailLaw.years -/
noncomputable def pl_h74 : ck_Sum := ((7, 1, 6), 249, [.inr (.inr (.inl 1)), .inl (1, 50, []), .inr (.inr (.inl 245))], ([], zl230, [(3, 6, 6, (0, 299, [(10, 0)]))]), ([(1, 15, 15), (3, 6, 6), (11, 5, 6), (11, 12, 13), (11, 19, 20), (11, 26, 27), (11, 33, 34), (11, 40, 41), (11, 47, 48), (11, 54, 55), (11, 61, 62), (11, 68, 69), (11, 75, 76), (11, 82, 83), (11, 89, 90), (11, 96, 97), (11, 103, 104), (11, 110, 111), (11, 117, 118), (11, 124, 125), (11, 131, 132), (11, 138, 139), (11, 145, 146), (11, 152, 153), (11, 159, 160), (11, 166, 167), (14, 3, 3), (15, 0, 71), (42, 1, 2), (44, 0, 7), (45, 3, 3), (46, 0, 55), (47, 3, 3), (48, 0, 23), (49, 3, 3), (50, 0, 23), (51, 3, 3), (52, 0, 167), (53, 3, 3), (54, 0, 35), (55, 3, 3), (56, 0, 71), (57, 0, 7), (58, 3, 3), (59, 0, 55), (60, 3, 3), (61, 0, 23), (62, 3, 3), (63, 0, 23), (64, 3, 3), (65, 0, 167), (66, 3, 3), (67, 0, 35), (68, 3, 3), (69, 0, 71), (70, 0, 7), (71, 3, 3), (72, 0, 55), (73, 3, 3), (74, 0, 23), (75, 3, 3), (76, 0, 23), (77, 3, 3), (78, 0, 167), (79, 3, 3), (80, 0, 35), (81, 3, 3), (82, 0, 71), (83, 0, 7), (84, 3, 3), (85, 0, 55), (86, 3, 3), (87, 0, 23), (88, 3, 3), (89, 0, 23), (90, 3, 3), (91, 0, 167), (92, 3, 3), (93, 0, 35), (94, 3, 3), (95, 0, 71), (96, 0, 7), (97, 3, 3), (98, 0, 55), (99, 3, 3), (100, 0, 23), (101, 3, 3), (102, 0, 23), (103, 3, 3), (104, 0, 167), (105, 3, 3), (106, 0, 35), (107, 3, 3), (108, 0, 71), (109, 0, 7), (110, 3, 3), (111, 0, 55), (112, 3, 3), (113, 0, 23), (114, 3, 3), (115, 0, 23), (116, 3, 3), (117, 0, 167), (118, 3, 3), (119, 0, 35), (120, 3, 3), (121, 0, 71), (122, 0, 7), (123, 3, 3), (124, 0, 55), (125, 3, 3), (126, 0, 23), (127, 3, 3), (128, 0, 23), (129, 3, 3), (130, 0, 167), (131, 3, 3), (132, 0, 35), (133, 3, 3), (134, 0, 71), (135, 0, 7), (136, 3, 3), (137, 0, 55), (138, 3, 3), (139, 0, 23), (140, 3, 3), (141, 0, 23), (142, 3, 3), (143, 0, 167), (144, 3, 3), (145, 0, 35), (146, 3, 3), (147, 0, 71), (148, 0, 7), (149, 3, 3), (150, 0, 55), (151, 3, 3), (152, 0, 23), (153, 3, 3), (154, 0, 23), (155, 3, 3), (156, 0, 167), (157, 3, 3), (158, 0, 35), (159, 3, 3), (160, 0, 71), (161, 0, 7), (162, 3, 3), (163, 0, 55), (164, 3, 3), (165, 0, 23), (166, 3, 3), (167, 0, 23), (168, 3, 3), (169, 0, 167), (170, 3, 3), (171, 0, 35), (172, 3, 3), (173, 0, 71), (174, 0, 7), (175, 3, 3), (176, 0, 55), (177, 3, 3), (178, 0, 23), (179, 3, 3), (180, 0, 23), (181, 3, 3), (182, 0, 167), (183, 3, 3), (184, 0, 35), (185, 3, 3), (186, 0, 71), (187, 0, 7), (188, 3, 3), (189, 0, 55), (190, 3, 3), (191, 0, 23), (192, 3, 3), (193, 0, 23), (194, 3, 3), (195, 0, 167), (196, 3, 3), (197, 0, 35), (198, 3, 3), (199, 0, 71), (200, 6, 6), (204, 0, 9), (205, 0, 14849), (206, 2, 8), (220, 3, 3), (221, 0, 47), (245, 0, 0)], zl104), [(.inr (some (.inl (ck_one 0))), 249, ([], zl105, [])), (.inr (some (.inl (ck_one 1))), 249, ([], zl105, [])), (.inr (some (.inl (ck_one 0))), 249, ([], zl231, [])), (.inr (some (.inl (ck_one 0))), 249, ([], zl232, [])), (.inr (some (.inl (ck_one 0))), 249, ([], zl233, [])), (.inr (some (.inl (ck_one 0))), 249, ([], zl234, [])), (.inr (some (.inl (ck_one 0))), 249, ([], zl235, [])), (.inr (some (.inl (ck_one 0))), 249, ([], zl236, [])), (.inr (some (.inl (ck_one 0))), 249, ([], zl237, [])), (.inr (some (.inl (ck_one 0))), 249, ([], zl238, [])), (.inr (some (.inl (ck_one 0))), 249, ([], zl239, [])), (.inr (some (.inl (ck_one 0))), 249, ([], zl240, [])), (.inr (some (.inl (ck_one 0))), 249, ([], zl241, [])), (.inr (some (.inl (ck_one 0))), 249, ([], zl242, []))])
set_option maxRecDepth 100000 in
theorem pl_h74_s {X : Int → Int} {LX : Nat} : ck_Ok p2_OL X LX 160 pl_h74 := ck_ok_s (O := p2_OL) (X := X) (LX := LX) (E := [(161, [pl_yy])]) (mi := 160) (cuts := []) (f := 90) (S := pl_h74) (lx := none) (XF := []) ⟨pl_nmu, ck_E1 (ck_S1 pl_yy_s ck_S0) ck_E0⟩ ck_X0 ck_l0 (by decide +kernel)
end
/-! 78r88l04.hp -/
section
/-! THE LAW'S OWN METHODS (laid by wip/am/p2n.py). -/
set_option maxRecDepth 100000 in
/-- GlacierMailLaw.throwsFor -/
noncomputable def pl_h124 : ck_Sum := ((9, 1, 6), 249, [.inr (.inr (.inl 1)), .inl ((-2147483648), (-1), []), .inl ((-2147483648), 2147483647, []), .inl ((-2147483648), 2147483647, []), .inl ((-2147483648), 2147483647, []), .inr (.inr (.inl 245))], ([], [], []), ([], []), [(.inr (some (.inl (ck_one 1))), 249, ([], [], []))])
set_option maxRecDepth 100000 in
theorem pl_h124_s {X : Int → Int} {LX : Nat} : ck_Ok p2_OL X LX 166 pl_h124 := ck_ok_s (O := p2_OL) (X := X) (LX := LX) (E := [(167, [pl_s683])]) (mi := 166) (cuts := []) (f := 92) (S := pl_h124) (lx := none) (XF := []) ⟨pl_nmu, ck_E1 (ck_S1 pl_s683_s ck_S0) ck_E0⟩ ck_X0 ck_l0 (by decide +kernel)
set_option maxRecDepth 100000 in
/-- GlacierMailLaw.throwsFor -/
noncomputable def pl_h125 : ck_Sum := ((9, 1, 6), 249, [.inr (.inr (.inl 1)), .inl (6, 2147483647, []), .inl ((-2147483648), 2147483647, []), .inl ((-2147483648), 2147483647, []), .inl ((-2147483648), 2147483647, []), .inr (.inr (.inl 245))], ([], [], []), ([], []), [(.inr (some (.inl (ck_one 1))), 249, ([], [], []))])
set_option maxRecDepth 100000 in
theorem pl_h125_s {X : Int → Int} {LX : Nat} : ck_Ok p2_OL X LX 166 pl_h125 := ck_ok_s (O := p2_OL) (X := X) (LX := LX) (E := [(167, [pl_s684])]) (mi := 166) (cuts := []) (f := 92) (S := pl_h125) (lx := none) (XF := []) ⟨pl_nmu, ck_E1 (ck_S1 pl_s684_s ck_S0) ck_E0⟩ ck_X0 ck_l0 (by decide +kernel)
set_option maxRecDepth 100000 in
/-- GlacierMailLaw.throwsFor -/
noncomputable def pl_h126 : ck_Sum := ((9, 2, 12), 249, [.inr (.inr (.inl 1)), .inl (0, 5, []), .inl ((-2147483648), (-1), []), .inl ((-2147483648), 2147483647, []), .inl ((-2147483648), 2147483647, []), .inr (.inr (.inl 245))], ([], [], []), ([], []), [(.inr (some (.inl (ck_one 1))), 249, ([], [], [])), (.inr (some (.inl (ck_one 2))), 249, ([], [], []))])
set_option maxRecDepth 100000 in
theorem pl_h126_s {X : Int → Int} {LX : Nat} : ck_Ok p2_OL X LX 166 pl_h126 := ck_ok_s (O := p2_OL) (X := X) (LX := LX) (E := [(167, [pl_s685])]) (mi := 166) (cuts := []) (f := 92) (S := pl_h126) (lx := none) (XF := []) ⟨pl_nmu, ck_E1 (ck_S1 pl_s685_s ck_S0) ck_E0⟩ ck_X0 ck_l0 (by decide +kernel)
set_option maxRecDepth 100000 in
/-- GlacierMailLaw.throwsFor -/
noncomputable def pl_h127 : ck_Sum := ((9, 2, 12), 249, [.inr (.inr (.inl 1)), .inl (0, 5, []), .inl (300, 2147483647, []), .inl ((-2147483648), 2147483647, []), .inl ((-2147483648), 2147483647, []), .inr (.inr (.inl 245))], ([], [], []), ([], []), [(.inr (some (.inl (ck_one 1))), 249, ([], [], [])), (.inr (some (.inl (ck_one 2))), 249, ([], [], []))])
set_option maxRecDepth 100000 in
theorem pl_h127_s {X : Int → Int} {LX : Nat} : ck_Ok p2_OL X LX 166 pl_h127 := ck_ok_s (O := p2_OL) (X := X) (LX := LX) (E := [(167, [pl_s686])]) (mi := 166) (cuts := []) (f := 92) (S := pl_h127) (lx := none) (XF := []) ⟨pl_nmu, ck_E1 (ck_S1 pl_s686_s ck_S0) ck_E0⟩ ck_X0 ck_l0 (by decide +kernel)
set_option maxRecDepth 100000 in
/-- GlacierMailLaw.throwsFor -/
noncomputable def pl_h128 : ck_Sum := ((9, 2, 12), 249, [.inr (.inr (.inl 1)), .inl (0, 5, []), .inl (0, 299, []), .inl ((-2147483648), (-1), []), .inl ((-2147483648), 2147483647, []), .inr (.inr (.inl 245))], ([], [], []), ([], []), [(.inr (some (.inl (ck_one 1))), 249, ([], [], [])), (.inr (some (.inl (ck_one 2))), 249, ([], [], []))])
set_option maxRecDepth 100000 in
theorem pl_h128_s {X : Int → Int} {LX : Nat} : ck_Ok p2_OL X LX 166 pl_h128 := ck_ok_s (O := p2_OL) (X := X) (LX := LX) (E := [(167, [pl_s687])]) (mi := 166) (cuts := []) (f := 92) (S := pl_h128) (lx := none) (XF := []) ⟨pl_nmu, ck_E1 (ck_S1 pl_s687_s ck_S0) ck_E0⟩ ck_X0 ck_l0 (by decide +kernel)
set_option maxRecDepth 100000 in
/-- GlacierMailLaw.throwsFor -/
noncomputable def pl_h129 : ck_Sum := ((9, 2, 12), 249, [.inr (.inr (.inl 1)), .inl (0, 5, []), .inl (0, 299, []), .inl (300, 2147483647, []), .inl ((-2147483648), 2147483647, []), .inr (.inr (.inl 245))], ([], [], []), ([], []), [(.inr (some (.inl (ck_one 1))), 249, ([], [], [])), (.inr (some (.inl (ck_one 2))), 249, ([], [], []))])
set_option maxRecDepth 100000 in
theorem pl_h129_s {X : Int → Int} {LX : Nat} : ck_Ok p2_OL X LX 166 pl_h129 := ck_ok_s (O := p2_OL) (X := X) (LX := LX) (E := [(167, [pl_s688])]) (mi := 166) (cuts := []) (f := 92) (S := pl_h129) (lx := none) (XF := []) ⟨pl_nmu, ck_E1 (ck_S1 pl_s688_s ck_S0) ck_E0⟩ ck_X0 ck_l0 (by decide +kernel)
set_option maxRecDepth 100000 in
/-- GlacierMailLaw.throwsFor -/
noncomputable def pl_h130 : ck_Sum := ((9, 2, 12), 249, [.inr (.inr (.inl 1)), .inl (0, 5, []), .inl (0, 299, []), .inl (0, 299, []), .inl ((-2147483648), (-1), []), .inr (.inr (.inl 245))], ([], [], [(3, 6, 6, (0, 299, [(10, 0)]))]), ([], []), zl283)
set_option maxRecDepth 100000 in
theorem pl_h130_s {X : Int → Int} {LX : Nat} : ck_Ok p2_OL X LX 166 pl_h130 := ck_ok_s (O := p2_OL) (X := X) (LX := LX) (E := [(167, [pl_s689])]) (mi := 166) (cuts := []) (f := 92) (S := pl_h130) (lx := none) (XF := []) ⟨pl_nmu, ck_E1 (ck_S1 pl_s689_s ck_S0) ck_E0⟩ ck_X0 ck_l0 (by decide +kernel)
set_option maxRecDepth 100000 in
/-- GlacierMailLaw.throwsFor -/
noncomputable def pl_h131 : ck_Sum := ((9, 2, 12), 249, [.inr (.inr (.inl 1)), .inl (0, 5, []), .inl (0, 299, []), .inl (0, 299, []), .inl (10, 2147483647, []), .inr (.inr (.inl 245))], ([], [], [(3, 6, 6, (0, 299, [(10, 0)]))]), ([], []), zl283)
set_option maxRecDepth 100000 in
theorem pl_h131_s {X : Int → Int} {LX : Nat} : ck_Ok p2_OL X LX 166 pl_h131 := ck_ok_s (O := p2_OL) (X := X) (LX := LX) (E := [(167, [pl_s690])]) (mi := 166) (cuts := []) (f := 92) (S := pl_h131) (lx := none) (XF := []) ⟨pl_nmu, ck_E1 (ck_S1 pl_s690_s ck_S0) ck_E0⟩ ck_X0 ck_l0 (by decide +kernel)
set_option maxRecDepth 100000 in
/-- GlacierMailLaw.latest -/
noncomputable def pl_h133 : ck_Sum := ((9, 1, 6), 249, [.inr (.inr (.inl 1)), .inl ((-2147483648), (-1), []), .inl ((-2147483648), 2147483647, []), .inr (.inr (.inl 245))], ([], [], []), ([], []), [(.inr (some (.inl (ck_one 1))), 249, ([], [], []))])
set_option maxRecDepth 100000 in
theorem pl_h133_s {X : Int → Int} {LX : Nat} : ck_Ok p2_OL X LX 168 pl_h133 := ck_ok_s (O := p2_OL) (X := X) (LX := LX) (E := [(169, [pl_s693])]) (mi := 168) (cuts := []) (f := 88) (S := pl_h133) (lx := none) (XF := []) ⟨pl_nmu, ck_E1 (ck_S1 pl_s693_s ck_S0) ck_E0⟩ ck_X0 ck_l0 (by decide +kernel)
set_option maxRecDepth 100000 in
/-- GlacierMailLaw.latest -/
noncomputable def pl_h134 : ck_Sum := ((9, 1, 6), 249, [.inr (.inr (.inl 1)), .inl (8, 2147483647, []), .inl ((-2147483648), 2147483647, []), .inr (.inr (.inl 245))], ([], [], []), ([], []), [(.inr (some (.inl (ck_one 1))), 249, ([], [], []))])
set_option maxRecDepth 100000 in
theorem pl_h134_s {X : Int → Int} {LX : Nat} : ck_Ok p2_OL X LX 168 pl_h134 := ck_ok_s (O := p2_OL) (X := X) (LX := LX) (E := [(169, [pl_s694])]) (mi := 168) (cuts := []) (f := 88) (S := pl_h134) (lx := none) (XF := []) ⟨pl_nmu, ck_E1 (ck_S1 pl_s694_s ck_S0) ck_E0⟩ ck_X0 ck_l0 (by decide +kernel)
set_option maxRecDepth 100000 in
/-- GlacierMailLaw.latest -/
noncomputable def pl_h135 : ck_Sum := ((9, 2, 12), 249, [.inr (.inr (.inl 1)), .inl (0, 7, []), .inl ((-2147483648), (-1), []), .inr (.inr (.inl 245))], ([], [], []), ([], []), [(.inr (some (.inl (ck_one 1))), 249, ([], [], [])), (.inr (some (.inl (ck_one 2))), 249, ([], [], []))])
set_option maxRecDepth 100000 in
theorem pl_h135_s {X : Int → Int} {LX : Nat} : ck_Ok p2_OL X LX 168 pl_h135 := ck_ok_s (O := p2_OL) (X := X) (LX := LX) (E := [(169, [pl_s695])]) (mi := 168) (cuts := []) (f := 88) (S := pl_h135) (lx := none) (XF := []) ⟨pl_nmu, ck_E1 (ck_S1 pl_s695_s ck_S0) ck_E0⟩ ck_X0 ck_l0 (by decide +kernel)
set_option maxRecDepth 100000 in
/-- GlacierMailLaw.latest -/
noncomputable def pl_h136 : ck_Sum := ((9, 2, 12), 249, [.inr (.inr (.inl 1)), .inl (0, 7, []), .inl (300, 2147483647, []), .inr (.inr (.inl 245))], ([], [], []), ([], []), [(.inr (some (.inl (ck_one 1))), 249, ([], [], [])), (.inr (some (.inl (ck_one 2))), 249, ([], [], []))])
set_option maxRecDepth 100000 in
theorem pl_h136_s {X : Int → Int} {LX : Nat} : ck_Ok p2_OL X LX 168 pl_h136 := ck_ok_s (O := p2_OL) (X := X) (LX := LX) (E := [(169, [pl_s696])]) (mi := 168) (cuts := []) (f := 88) (S := pl_h136) (lx := none) (XF := []) ⟨pl_nmu, ck_E1 (ck_S1 pl_s696_s ck_S0) ck_E0⟩ ck_X0 ck_l0 (by decide +kernel)
set_option maxRecDepth 100000 in
/-- GlacierMailLaw.hut -/
noncomputable def pl_h138 : ck_Sum := ((9, 1, 6), 249, [.inr (.inr (.inl 1)), .inl ((-2147483648), (-1), []), .inl ((-2147483648), 2147483647, []), .inr (.inr (.inl 245))], ([], [], []), ([], []), [(.inr (some (.inl (ck_one 1))), 249, ([], [], []))])
set_option maxRecDepth 100000 in
theorem pl_h138_s {X : Int → Int} {LX : Nat} : ck_Ok p2_OL X LX 171 pl_h138 := ck_ok_s (O := p2_OL) (X := X) (LX := LX) (E := [(172, [pl_s699])]) (mi := 171) (cuts := []) (f := 88) (S := pl_h138) (lx := none) (XF := []) ⟨pl_nmu, ck_E1 (ck_S1 pl_s699_s ck_S0) ck_E0⟩ ck_X0 ck_l0 (by decide +kernel)
set_option maxRecDepth 100000 in
/-- GlacierMailLaw.hut -/
noncomputable def pl_h139 : ck_Sum := ((9, 1, 6), 249, [.inr (.inr (.inl 1)), .inl (6, 2147483647, []), .inl ((-2147483648), 2147483647, []), .inr (.inr (.inl 245))], ([], [], []), ([], []), [(.inr (some (.inl (ck_one 1))), 249, ([], [], []))])
set_option maxRecDepth 100000 in
theorem pl_h139_s {X : Int → Int} {LX : Nat} : ck_Ok p2_OL X LX 171 pl_h139 := ck_ok_s (O := p2_OL) (X := X) (LX := LX) (E := [(172, [pl_s700])]) (mi := 171) (cuts := []) (f := 88) (S := pl_h139) (lx := none) (XF := []) ⟨pl_nmu, ck_E1 (ck_S1 pl_s700_s ck_S0) ck_E0⟩ ck_X0 ck_l0 (by decide +kernel)
set_option maxRecDepth 100000 in
/-- GlacierMailLaw.hut -/
noncomputable def pl_h140 : ck_Sum := ((9, 2, 12), 249, [.inr (.inr (.inl 1)), .inl (0, 5, []), .inl ((-2147483648), (-1), []), .inr (.inr (.inl 245))], ([], [], []), ([], []), [(.inr (some (.inl (ck_one 1))), 249, ([], [], [])), (.inr (some (.inl (ck_one 2))), 249, ([], [], []))])
set_option maxRecDepth 100000 in
theorem pl_h140_s {X : Int → Int} {LX : Nat} : ck_Ok p2_OL X LX 171 pl_h140 := ck_ok_s (O := p2_OL) (X := X) (LX := LX) (E := [(172, [pl_s701])]) (mi := 171) (cuts := []) (f := 88) (S := pl_h140) (lx := none) (XF := []) ⟨pl_nmu, ck_E1 (ck_S1 pl_s701_s ck_S0) ck_E0⟩ ck_X0 ck_l0 (by decide +kernel)
set_option maxRecDepth 100000 in
/-- GlacierMailLaw.hut -/
noncomputable def pl_h141 : ck_Sum := ((9, 2, 12), 249, [.inr (.inr (.inl 1)), .inl (0, 5, []), .inl (300, 2147483647, []), .inr (.inr (.inl 245))], ([], [], []), ([], []), [(.inr (some (.inl (ck_one 1))), 249, ([], [], [])), (.inr (some (.inl (ck_one 2))), 249, ([], [], []))])
set_option maxRecDepth 100000 in
theorem pl_h141_s {X : Int → Int} {LX : Nat} : ck_Ok p2_OL X LX 171 pl_h141 := ck_ok_s (O := p2_OL) (X := X) (LX := LX) (E := [(172, [pl_s702])]) (mi := 171) (cuts := []) (f := 88) (S := pl_h141) (lx := none) (XF := []) ⟨pl_nmu, ck_E1 (ck_S1 pl_s702_s ck_S0) ck_E0⟩ ck_X0 ck_l0 (by decide +kernel)
set_option maxRecDepth 100000 in
/-- GlacierMailLaw.without -/
noncomputable def pl_h143 : ck_Sum := ((9, 1, 6), 249, [.inr (.inr (.inl 1)), .inl ((-2147483648), (-1), []), .inl ((-2147483648), 2147483647, []), .inr (.inr (.inl 245))], ([], [], []), ([], []), [(.inr (some (.inl (ck_one 1))), 249, ([], [], []))])
set_option maxRecDepth 100000 in
theorem pl_h143_s {X : Int → Int} {LX : Nat} : ck_Ok p2_OL X LX 173 pl_h143 := ck_ok_s (O := p2_OL) (X := X) (LX := LX) (E := [(174, [pl_s704])]) (mi := 173) (cuts := []) (f := 88) (S := pl_h143) (lx := none) (XF := []) ⟨pl_nmu, ck_E1 (ck_S1 pl_s704_s ck_S0) ck_E0⟩ ck_X0 ck_l0 (by decide +kernel)
set_option maxRecDepth 100000 in
/-- GlacierMailLaw.without -/
noncomputable def pl_h144 : ck_Sum := ((9, 1, 6), 249, [.inr (.inr (.inl 1)), .inl (24, 2147483647, []), .inl ((-2147483648), 2147483647, []), .inr (.inr (.inl 245))], ([], [], []), ([], []), [(.inr (some (.inl (ck_one 1))), 249, ([], [], []))])
set_option maxRecDepth 100000 in
theorem pl_h144_s {X : Int → Int} {LX : Nat} : ck_Ok p2_OL X LX 173 pl_h144 := ck_ok_s (O := p2_OL) (X := X) (LX := LX) (E := [(174, [pl_s705])]) (mi := 173) (cuts := []) (f := 88) (S := pl_h144) (lx := none) (XF := []) ⟨pl_nmu, ck_E1 (ck_S1 pl_s705_s ck_S0) ck_E0⟩ ck_X0 ck_l0 (by decide +kernel)
set_option maxRecDepth 100000 in
/-- GlacierMailLaw.without -/
noncomputable def pl_h145 : ck_Sum := ((9, 2, 12), 249, [.inr (.inr (.inl 1)), .inl (0, 23, []), .inl ((-2147483648), (-1), []), .inr (.inr (.inl 245))], ([], [], []), ([], []), [(.inr (some (.inl (ck_one 1))), 249, ([], [], []))])
set_option maxRecDepth 100000 in
theorem pl_h145_s {X : Int → Int} {LX : Nat} : ck_Ok p2_OL X LX 173 pl_h145 := ck_ok_s (O := p2_OL) (X := X) (LX := LX) (E := [(174, [pl_s706])]) (mi := 173) (cuts := []) (f := 88) (S := pl_h145) (lx := none) (XF := []) ⟨pl_nmu, ck_E1 (ck_S1 pl_s706_s ck_S0) ck_E0⟩ ck_X0 ck_l0 (by decide +kernel)
set_option maxRecDepth 100000 in
/-- GlacierMailLaw.without -/
noncomputable def pl_h146 : ck_Sum := ((9, 2, 12), 249, [.inr (.inr (.inl 1)), .inl (0, 23, []), .inl (8, 2147483647, []), .inr (.inr (.inl 245))], ([], [], []), ([], []), [(.inr (some (.inl (ck_one 1))), 249, ([], [], []))])
set_option maxRecDepth 100000 in
theorem pl_h146_s {X : Int → Int} {LX : Nat} : ck_Ok p2_OL X LX 173 pl_h146 := ck_ok_s (O := p2_OL) (X := X) (LX := LX) (E := [(174, [pl_s707])]) (mi := 173) (cuts := []) (f := 88) (S := pl_h146) (lx := none) (XF := []) ⟨pl_nmu, ck_E1 (ck_S1 pl_s707_s ck_S0) ck_E0⟩ ck_X0 ck_l0 (by decide +kernel)
set_option maxRecDepth 100000 in
/-- GlacierMailLaw.moved -/
noncomputable def pl_h148 : ck_Sum := ((9, 1, 6), 249, [.inr (.inr (.inl 1)), .inl ((-2147483648), (-1), []), .inr (.inr (.inl 245))], ([], [], []), ([], []), [(.inr (some (.inl (ck_one 1))), 249, ([], [], []))])
set_option maxRecDepth 100000 in
theorem pl_h148_s {X : Int → Int} {LX : Nat} : ck_Ok p2_OL X LX 176 pl_h148 := ck_ok_s (O := p2_OL) (X := X) (LX := LX) (E := [(177, [pl_s710])]) (mi := 176) (cuts := []) (f := 86) (S := pl_h148) (lx := none) (XF := []) ⟨pl_nmu, ck_E1 (ck_S1 pl_s710_s ck_S0) ck_E0⟩ ck_X0 ck_l0 (by decide +kernel)
set_option maxRecDepth 100000 in
/-- GlacierMailLaw.moved -/
noncomputable def pl_h149 : ck_Sum := ((9, 1, 6), 249, [.inr (.inr (.inl 1)), .inl (24, 2147483647, []), .inr (.inr (.inl 245))], ([], [], []), ([], []), [(.inr (some (.inl (ck_one 1))), 249, ([], [], []))])
set_option maxRecDepth 100000 in
theorem pl_h149_s {X : Int → Int} {LX : Nat} : ck_Ok p2_OL X LX 176 pl_h149 := ck_ok_s (O := p2_OL) (X := X) (LX := LX) (E := [(177, [pl_s711])]) (mi := 176) (cuts := []) (f := 86) (S := pl_h149) (lx := none) (XF := []) ⟨pl_nmu, ck_E1 (ck_S1 pl_s711_s ck_S0) ck_E0⟩ ck_X0 ck_l0 (by decide +kernel)
set_option maxRecDepth 100000 in
/-- GlacierMailLaw.passes -/
noncomputable def pl_h151 : ck_Sum := ((9, 1, 6), 249, [.inr (.inr (.inl 1)), .inl ((-2147483648), (-1), []), .inr (.inr (.inl 245))], ([], [], []), ([], []), [(.inr (some (.inl (ck_one 1))), 249, ([], [], []))])
set_option maxRecDepth 100000 in
theorem pl_h151_s {X : Int → Int} {LX : Nat} : ck_Ok p2_OL X LX 178 pl_h151 := ck_ok_s (O := p2_OL) (X := X) (LX := LX) (E := [(179, [pl_s716])]) (mi := 178) (cuts := []) (f := 86) (S := pl_h151) (lx := none) (XF := []) ⟨pl_nmu, ck_E1 (ck_S1 pl_s716_s ck_S0) ck_E0⟩ ck_X0 ck_l0 (by decide +kernel)
set_option maxRecDepth 100000 in
/-- GlacierMailLaw.passes -/
noncomputable def pl_h152 : ck_Sum := ((9, 1, 6), 249, [.inr (.inr (.inl 1)), .inl (24, 2147483647, []), .inr (.inr (.inl 245))], ([], [], []), ([], []), [(.inr (some (.inl (ck_one 1))), 249, ([], [], []))])
set_option maxRecDepth 100000 in
theorem pl_h152_s {X : Int → Int} {LX : Nat} : ck_Ok p2_OL X LX 178 pl_h152 := ck_ok_s (O := p2_OL) (X := X) (LX := LX) (E := [(179, [pl_s717])]) (mi := 178) (cuts := []) (f := 86) (S := pl_h152) (lx := none) (XF := []) ⟨pl_nmu, ck_E1 (ck_S1 pl_s717_s ck_S0) ck_E0⟩ ck_X0 ck_l0 (by decide +kernel)
set_option maxRecDepth 100000 in
/-- GlacierMailLaw.writers -/
noncomputable def pl_h154 : ck_Sum := ((9, 1, 6), 249, [.inr (.inr (.inl 1)), .inl ((-2147483648), (-1), []), .inl ((-2147483648), 2147483647, []), .inl ((-2147483648), 2147483647, []), .inr (.inr (.inl 245))], ([], [], []), ([], []), [(.inr (some (.inl (ck_one 1))), 249, ([], [], []))])
set_option maxRecDepth 100000 in
theorem pl_h154_s {X : Int → Int} {LX : Nat} : ck_Ok p2_OL X LX 185 pl_h154 := ck_ok_s (O := p2_OL) (X := X) (LX := LX) (E := [(186, [pl_s732])]) (mi := 185) (cuts := []) (f := 90) (S := pl_h154) (lx := none) (XF := []) ⟨pl_nmu, ck_E1 (ck_S1 pl_s732_s ck_S0) ck_E0⟩ ck_X0 ck_l0 (by decide +kernel)
set_option maxRecDepth 100000 in
/-- GlacierMailLaw.writers -/
noncomputable def pl_h155 : ck_Sum := ((9, 1, 6), 249, [.inr (.inr (.inl 1)), .inl (6, 2147483647, []), .inl ((-2147483648), 2147483647, []), .inl ((-2147483648), 2147483647, []), .inr (.inr (.inl 245))], ([], [], []), ([], []), [(.inr (some (.inl (ck_one 1))), 249, ([], [], []))])
set_option maxRecDepth 100000 in
theorem pl_h155_s {X : Int → Int} {LX : Nat} : ck_Ok p2_OL X LX 185 pl_h155 := ck_ok_s (O := p2_OL) (X := X) (LX := LX) (E := [(186, [pl_s733])]) (mi := 185) (cuts := []) (f := 90) (S := pl_h155) (lx := none) (XF := []) ⟨pl_nmu, ck_E1 (ck_S1 pl_s733_s ck_S0) ck_E0⟩ ck_X0 ck_l0 (by decide +kernel)
set_option maxRecDepth 100000 in
/-- GlacierMailLaw.writers -/
noncomputable def pl_h156 : ck_Sum := ((9, 2, 12), 249, [.inr (.inr (.inl 1)), .inl (0, 5, []), .inl ((-2147483648), (-1), []), .inl ((-2147483648), 2147483647, []), .inr (.inr (.inl 245))], ([], [], []), ([], []), [(.inr (some (.inl (ck_one 1))), 249, ([], [], [])), (.inr (some (.inl (ck_one 2))), 249, ([], [], []))])
set_option maxRecDepth 100000 in
theorem pl_h156_s {X : Int → Int} {LX : Nat} : ck_Ok p2_OL X LX 185 pl_h156 := ck_ok_s (O := p2_OL) (X := X) (LX := LX) (E := [(186, [pl_s735])]) (mi := 185) (cuts := []) (f := 90) (S := pl_h156) (lx := none) (XF := []) ⟨pl_nmu, ck_E1 (ck_S1 pl_s735_s ck_S0) ck_E0⟩ ck_X0 ck_l0 (by decide +kernel)
set_option maxRecDepth 100000 in
/-- GlacierMailLaw.writers -/
noncomputable def pl_h157 : ck_Sum := ((9, 2, 12), 249, [.inr (.inr (.inl 1)), .inl (0, 5, []), .inl (300, 2147483647, []), .inl ((-2147483648), 2147483647, []), .inr (.inr (.inl 245))], ([], [], []), ([], []), [(.inr (some (.inl (ck_one 1))), 249, ([], [], [])), (.inr (some (.inl (ck_one 2))), 249, ([], [], []))])
set_option maxRecDepth 100000 in
theorem pl_h157_s {X : Int → Int} {LX : Nat} : ck_Ok p2_OL X LX 185 pl_h157 := ck_ok_s (O := p2_OL) (X := X) (LX := LX) (E := [(186, [pl_s737])]) (mi := 185) (cuts := []) (f := 90) (S := pl_h157) (lx := none) (XF := []) ⟨pl_nmu, ck_E1 (ck_S1 pl_s737_s ck_S0) ck_E0⟩ ck_X0 ck_l0 (by decide +kernel)
set_option maxRecDepth 100000 in
/-- GlacierMailLaw.writers -/
noncomputable def pl_h158 : ck_Sum := ((9, 2, 12), 249, [.inr (.inr (.inl 1)), .inl (0, 5, []), .inl (0, 299, []), .inl ((-2147483648), (-1), []), .inr (.inr (.inl 245))], ([], [], []), ([], []), [(.inr (some (.inl (ck_one 1))), 249, ([], [], [])), (.inr (some (.inl (ck_one 2))), 249, ([], [], []))])
set_option maxRecDepth 100000 in
theorem pl_h158_s {X : Int → Int} {LX : Nat} : ck_Ok p2_OL X LX 185 pl_h158 := ck_ok_s (O := p2_OL) (X := X) (LX := LX) (E := [(186, [pl_s739])]) (mi := 185) (cuts := []) (f := 90) (S := pl_h158) (lx := none) (XF := []) ⟨pl_nmu, ck_E1 (ck_S1 pl_s739_s ck_S0) ck_E0⟩ ck_X0 ck_l0 (by decide +kernel)
set_option maxRecDepth 100000 in
/-- GlacierMailLaw.writers -/
noncomputable def pl_h159 : ck_Sum := ((9, 2, 12), 249, [.inr (.inr (.inl 1)), .inl (0, 5, []), .inl (0, 299, []), .inl (100, 2147483647, []), .inr (.inr (.inl 245))], ([], [], []), ([], []), [(.inr (some (.inl (ck_one 1))), 249, ([], [], [])), (.inr (some (.inl (ck_one 2))), 249, ([], [], []))])
set_option maxRecDepth 100000 in
theorem pl_h159_s {X : Int → Int} {LX : Nat} : ck_Ok p2_OL X LX 185 pl_h159 := ck_ok_s (O := p2_OL) (X := X) (LX := LX) (E := [(186, [pl_s741])]) (mi := 185) (cuts := []) (f := 90) (S := pl_h159) (lx := none) (XF := []) ⟨pl_nmu, ck_E1 (ck_S1 pl_s741_s ck_S0) ck_E0⟩ ck_X0 ck_l0 (by decide +kernel)
set_option maxRecDepth 100000 in
/-- GlacierMailLaw.wrote -/
noncomputable def pl_h161 : ck_Sum := ((9, 1, 6), 249, [.inr (.inr (.inl 1)), .inl ((-2147483648), (-1), []), .inl ((-2147483648), 2147483647, []), .inl ((-2147483648), 2147483647, []), .inl ((-2147483648), 2147483647, []), .inr (.inr (.inl 245))], ([], [], []), ([], []), [(.inr (some (.inl (ck_one 1))), 249, ([], [], []))])
set_option maxRecDepth 100000 in
theorem pl_h161_s {X : Int → Int} {LX : Nat} : ck_Ok p2_OL X LX 189 pl_h161 := ck_ok_s (O := p2_OL) (X := X) (LX := LX) (E := [(190, [pl_s745])]) (mi := 189) (cuts := []) (f := 92) (S := pl_h161) (lx := none) (XF := []) ⟨pl_nmu, ck_E1 (ck_S1 pl_s745_s ck_S0) ck_E0⟩ ck_X0 ck_l0 (by decide +kernel)
set_option maxRecDepth 100000 in
/-- GlacierMailLaw.wrote -/
noncomputable def pl_h162 : ck_Sum := ((9, 1, 6), 249, [.inr (.inr (.inl 1)), .inl (8, 2147483647, []), .inl ((-2147483648), 2147483647, []), .inl ((-2147483648), 2147483647, []), .inl ((-2147483648), 2147483647, []), .inr (.inr (.inl 245))], ([], [], []), ([], []), [(.inr (some (.inl (ck_one 1))), 249, ([], [], []))])
set_option maxRecDepth 100000 in
theorem pl_h162_s {X : Int → Int} {LX : Nat} : ck_Ok p2_OL X LX 189 pl_h162 := ck_ok_s (O := p2_OL) (X := X) (LX := LX) (E := [(190, [pl_s746])]) (mi := 189) (cuts := []) (f := 92) (S := pl_h162) (lx := none) (XF := []) ⟨pl_nmu, ck_E1 (ck_S1 pl_s746_s ck_S0) ck_E0⟩ ck_X0 ck_l0 (by decide +kernel)
set_option maxRecDepth 100000 in
/-- GlacierMailLaw.wrote -/
noncomputable def pl_h163 : ck_Sum := ((9, 2, 12), 249, [.inr (.inr (.inl 1)), .inl (0, 7, []), .inl ((-2147483648), (-1), []), .inl ((-2147483648), 2147483647, []), .inl ((-2147483648), 2147483647, []), .inr (.inr (.inl 245))], ([], [], []), ([], []), [(.inr (some (.inl (ck_one 1))), 249, ([], [], []))])
set_option maxRecDepth 100000 in
theorem pl_h163_s {X : Int → Int} {LX : Nat} : ck_Ok p2_OL X LX 189 pl_h163 := ck_ok_s (O := p2_OL) (X := X) (LX := LX) (E := [(190, [pl_s747])]) (mi := 189) (cuts := []) (f := 92) (S := pl_h163) (lx := none) (XF := []) ⟨pl_nmu, ck_E1 (ck_S1 pl_s747_s ck_S0) ck_E0⟩ ck_X0 ck_l0 (by decide +kernel)
set_option maxRecDepth 100000 in
/-- GlacierMailLaw.wrote -/
noncomputable def pl_h164 : ck_Sum := ((9, 2, 12), 249, [.inr (.inr (.inl 1)), .inl (0, 7, []), .inl (6, 2147483647, []), .inl ((-2147483648), 2147483647, []), .inl ((-2147483648), 2147483647, []), .inr (.inr (.inl 245))], ([], [], []), ([], []), [(.inr (some (.inl (ck_one 1))), 249, ([], [], []))])
set_option maxRecDepth 100000 in
theorem pl_h164_s {X : Int → Int} {LX : Nat} : ck_Ok p2_OL X LX 189 pl_h164 := ck_ok_s (O := p2_OL) (X := X) (LX := LX) (E := [(190, [pl_s748])]) (mi := 189) (cuts := []) (f := 92) (S := pl_h164) (lx := none) (XF := []) ⟨pl_nmu, ck_E1 (ck_S1 pl_s748_s ck_S0) ck_E0⟩ ck_X0 ck_l0 (by decide +kernel)
set_option maxRecDepth 100000 in
/-- GlacierMailLaw.wrote -/
noncomputable def pl_h165 : ck_Sum := ((9, 3, 18), 249, [.inr (.inr (.inl 1)), .inl (0, 7, []), .inl (0, 5, []), .inl ((-2147483648), (-1), []), .inl ((-2147483648), 2147483647, []), .inr (.inr (.inl 245))], ([], [], []), ([], []), [(.inr (some (.inl (ck_one 1))), 249, ([], [], [])), (.inr (some (.inl (ck_one 2))), 249, ([], [], []))])
set_option maxRecDepth 100000 in
theorem pl_h165_s {X : Int → Int} {LX : Nat} : ck_Ok p2_OL X LX 189 pl_h165 := ck_ok_s (O := p2_OL) (X := X) (LX := LX) (E := [(190, [pl_s749])]) (mi := 189) (cuts := []) (f := 92) (S := pl_h165) (lx := none) (XF := []) ⟨pl_nmu, ck_E1 (ck_S1 pl_s749_s ck_S0) ck_E0⟩ ck_X0 ck_l0 (by decide +kernel)
set_option maxRecDepth 100000 in
/-- GlacierMailLaw.wrote -/
noncomputable def pl_h166 : ck_Sum := ((9, 3, 18), 249, [.inr (.inr (.inl 1)), .inl (0, 7, []), .inl (0, 5, []), .inl (300, 2147483647, []), .inl ((-2147483648), 2147483647, []), .inr (.inr (.inl 245))], ([], [], []), ([], []), [(.inr (some (.inl (ck_one 1))), 249, ([], [], [])), (.inr (some (.inl (ck_one 2))), 249, ([], [], []))])
set_option maxRecDepth 100000 in
theorem pl_h166_s {X : Int → Int} {LX : Nat} : ck_Ok p2_OL X LX 189 pl_h166 := ck_ok_s (O := p2_OL) (X := X) (LX := LX) (E := [(190, [pl_s750])]) (mi := 189) (cuts := []) (f := 92) (S := pl_h166) (lx := none) (XF := []) ⟨pl_nmu, ck_E1 (ck_S1 pl_s750_s ck_S0) ck_E0⟩ ck_X0 ck_l0 (by decide +kernel)
set_option maxRecDepth 100000 in
/-- GlacierMailLaw.wrote -/
noncomputable def pl_h167 : ck_Sum := ((9, 3, 18), 249, [.inr (.inr (.inl 1)), .inl (0, 7, []), .inl (0, 5, []), .inl (0, 299, []), .inl ((-2147483648), (-1), []), .inr (.inr (.inl 245))], ([], [], []), ([], []), [(.inr (some (.inl (ck_one 1))), 249, ([], [], [])), (.inr (some (.inl (ck_one 2))), 249, ([], [], []))])
set_option maxRecDepth 100000 in
theorem pl_h167_s {X : Int → Int} {LX : Nat} : ck_Ok p2_OL X LX 189 pl_h167 := ck_ok_s (O := p2_OL) (X := X) (LX := LX) (E := [(190, [pl_s751])]) (mi := 189) (cuts := []) (f := 92) (S := pl_h167) (lx := none) (XF := []) ⟨pl_nmu, ck_E1 (ck_S1 pl_s751_s ck_S0) ck_E0⟩ ck_X0 ck_l0 (by decide +kernel)
set_option maxRecDepth 100000 in
/-- GlacierMailLaw.wrote -/
noncomputable def pl_h168 : ck_Sum := ((9, 3, 18), 249, [.inr (.inr (.inl 1)), .inl (0, 7, []), .inl (0, 5, []), .inl (0, 299, []), .inl (100, 2147483647, []), .inr (.inr (.inl 245))], ([], [], []), ([], []), [(.inr (some (.inl (ck_one 1))), 249, ([], [], [])), (.inr (some (.inl (ck_one 2))), 249, ([], [], []))])
set_option maxRecDepth 100000 in
theorem pl_h168_s {X : Int → Int} {LX : Nat} : ck_Ok p2_OL X LX 189 pl_h168 := ck_ok_s (O := p2_OL) (X := X) (LX := LX) (E := [(190, [pl_s752])]) (mi := 189) (cuts := []) (f := 92) (S := pl_h168) (lx := none) (XF := []) ⟨pl_nmu, ck_E1 (ck_S1 pl_s752_s ck_S0) ck_E0⟩ ck_X0 ck_l0 (by decide +kernel)
set_option maxRecDepth 100000 in
/-- GlacierMailLaw.table -/
noncomputable def pl_h170 : ck_Sum := ((9, 1, 6), 249, [.inr (.inr (.inl 1)), .inl ((-2147483648), (-1), []), .inl ((-2147483648), 2147483647, []), .inr (.inr (.inl 245))], ([], [], []), ([], []), [(.inr (some (.inl (ck_one 1))), 249, ([], [], []))])
set_option maxRecDepth 100000 in
theorem pl_h170_s {X : Int → Int} {LX : Nat} : ck_Ok p2_OL X LX 191 pl_h170 := ck_ok_s (O := p2_OL) (X := X) (LX := LX) (E := [(192, [pl_s757])]) (mi := 191) (cuts := []) (f := 88) (S := pl_h170) (lx := none) (XF := []) ⟨pl_nmu, ck_E1 (ck_S1 pl_s757_s ck_S0) ck_E0⟩ ck_X0 ck_l0 (by decide +kernel)
set_option maxRecDepth 100000 in
/-- GlacierMailLaw.table -/
noncomputable def pl_h171 : ck_Sum := ((9, 1, 6), 249, [.inr (.inr (.inl 1)), .inl (6, 2147483647, []), .inl ((-2147483648), 2147483647, []), .inr (.inr (.inl 245))], ([], [], []), ([], []), [(.inr (some (.inl (ck_one 1))), 249, ([], [], []))])
set_option maxRecDepth 100000 in
theorem pl_h171_s {X : Int → Int} {LX : Nat} : ck_Ok p2_OL X LX 191 pl_h171 := ck_ok_s (O := p2_OL) (X := X) (LX := LX) (E := [(192, [pl_s760])]) (mi := 191) (cuts := []) (f := 88) (S := pl_h171) (lx := none) (XF := []) ⟨pl_nmu, ck_E1 (ck_S1 pl_s760_s ck_S0) ck_E0⟩ ck_X0 ck_l0 (by decide +kernel)
set_option maxRecDepth 100000 in
/-- GlacierMailLaw.table -/
noncomputable def pl_h172 : ck_Sum := ((9, 2, 12), 249, [.inr (.inr (.inl 1)), .inl (0, 5, []), .inl ((-2147483648), (-1), []), .inr (.inr (.inl 245))], ([], [], []), ([], []), [(.inr (some (.inl (ck_one 1))), 249, ([], [], []))])
set_option maxRecDepth 100000 in
theorem pl_h172_s {X : Int → Int} {LX : Nat} : ck_Ok p2_OL X LX 191 pl_h172 := ck_ok_s (O := p2_OL) (X := X) (LX := LX) (E := [(192, [pl_s763])]) (mi := 191) (cuts := []) (f := 88) (S := pl_h172) (lx := none) (XF := []) ⟨pl_nmu, ck_E1 (ck_S1 pl_s763_s ck_S0) ck_E0⟩ ck_X0 ck_l0 (by decide +kernel)
set_option maxRecDepth 100000 in
/-- GlacierMailLaw.table -/
noncomputable def pl_h173 : ck_Sum := ((9, 2, 12), 249, [.inr (.inr (.inl 1)), .inl (0, 5, []), .inl (6, 2147483647, []), .inr (.inr (.inl 245))], ([], [], []), ([], []), [(.inr (some (.inl (ck_one 1))), 249, ([], [], []))])
set_option maxRecDepth 100000 in
theorem pl_h173_s {X : Int → Int} {LX : Nat} : ck_Ok p2_OL X LX 191 pl_h173 := ck_ok_s (O := p2_OL) (X := X) (LX := LX) (E := [(192, [pl_s764])]) (mi := 191) (cuts := []) (f := 88) (S := pl_h173) (lx := none) (XF := []) ⟨pl_nmu, ck_E1 (ck_S1 pl_s764_s ck_S0) ck_E0⟩ ck_X0 ck_l0 (by decide +kernel)
set_option maxRecDepth 100000 in
/-- GlacierMailLaw.table -/
noncomputable def pl_h174 : ck_Sum := ((9, 2, 12), 249, [.inr (.inr (.inl 1)), .inl (0, 5, []), .inl (0, 5, []), .inr (.inr (.inl 245))], ([], [], []), ([(245, 0, 0)], []), [(.inr (some (.inl (ck_one 1))), 249, ([], [], [])), (.inr (some (.inl (ck_one 0))), 249, ([], [], [(245, 0, 0, ((-1), 20, []))]))])
set_option maxRecDepth 100000 in
theorem pl_h174_s {X : Int → Int} {LX : Nat} : ck_Ok p2_OL X LX 191 pl_h174 := ck_ok_s (O := p2_OL) (X := X) (LX := LX) (E := [(192, [pl_s766])]) (mi := 191) (cuts := []) (f := 92) (S := pl_h174) (lx := none) (XF := []) ⟨pl_nmu, ck_E1 (ck_S1 pl_s766_s ck_S0) ck_E0⟩ ck_X0 ck_l0 (by decide +kernel)
set_option maxRecDepth 100000 in
/-- GlacierMailLaw.apart -/
noncomputable def pl_h175 : ck_Sum := ((9, 1, 6), 249, [.inr (.inr (.inl 1)), .inl ((-2147483648), (-1), []), .inl ((-2147483648), 2147483647, []), .inl ((-2147483648), 2147483647, []), .inr (.inr (.inl 245))], ([], [], []), ([], []), [(.inr (some (.inl (ck_one 1))), 249, ([], [], []))])
set_option maxRecDepth 100000 in
theorem pl_h175_s {X : Int → Int} {LX : Nat} : ck_Ok p2_OL X LX 194 pl_h175 := ck_ok_s (O := p2_OL) (X := X) (LX := LX) (E := [(195, [pl_s767])]) (mi := 194) (cuts := []) (f := 90) (S := pl_h175) (lx := none) (XF := []) ⟨pl_nmu, ck_E1 (ck_S1 pl_s767_s ck_S0) ck_E0⟩ ck_X0 ck_l0 (by decide +kernel)
set_option maxRecDepth 100000 in
/-- GlacierMailLaw.apart -/
noncomputable def pl_h176 : ck_Sum := ((9, 1, 6), 249, [.inr (.inr (.inl 1)), .inl (6, 2147483647, []), .inl ((-2147483648), 2147483647, []), .inl ((-2147483648), 2147483647, []), .inr (.inr (.inl 245))], ([], [], []), ([], []), [(.inr (some (.inl (ck_one 1))), 249, ([], [], []))])
set_option maxRecDepth 100000 in
theorem pl_h176_s {X : Int → Int} {LX : Nat} : ck_Ok p2_OL X LX 194 pl_h176 := ck_ok_s (O := p2_OL) (X := X) (LX := LX) (E := [(195, [pl_s768])]) (mi := 194) (cuts := []) (f := 90) (S := pl_h176) (lx := none) (XF := []) ⟨pl_nmu, ck_E1 (ck_S1 pl_s768_s ck_S0) ck_E0⟩ ck_X0 ck_l0 (by decide +kernel)
set_option maxRecDepth 100000 in
/-- GlacierMailLaw.apart -/
noncomputable def pl_h177 : ck_Sum := ((9, 2, 12), 249, [.inr (.inr (.inl 1)), .inl (0, 5, []), .inl ((-2147483648), (-1), []), .inl ((-2147483648), 2147483647, []), .inr (.inr (.inl 245))], ([], [], []), ([], []), [(.inr (some (.inl (ck_one 1))), 249, ([], [], []))])
set_option maxRecDepth 100000 in
theorem pl_h177_s {X : Int → Int} {LX : Nat} : ck_Ok p2_OL X LX 194 pl_h177 := ck_ok_s (O := p2_OL) (X := X) (LX := LX) (E := [(195, [pl_s769])]) (mi := 194) (cuts := []) (f := 90) (S := pl_h177) (lx := none) (XF := []) ⟨pl_nmu, ck_E1 (ck_S1 pl_s769_s ck_S0) ck_E0⟩ ck_X0 ck_l0 (by decide +kernel)
set_option maxRecDepth 100000 in
/-- GlacierMailLaw.apart -/
noncomputable def pl_h178 : ck_Sum := ((9, 2, 12), 249, [.inr (.inr (.inl 1)), .inl (0, 5, []), .inl (6, 2147483647, []), .inl ((-2147483648), 2147483647, []), .inr (.inr (.inl 245))], ([], [], []), ([], []), [(.inr (some (.inl (ck_one 1))), 249, ([], [], []))])
set_option maxRecDepth 100000 in
theorem pl_h178_s {X : Int → Int} {LX : Nat} : ck_Ok p2_OL X LX 194 pl_h178 := ck_ok_s (O := p2_OL) (X := X) (LX := LX) (E := [(195, [pl_s770])]) (mi := 194) (cuts := []) (f := 90) (S := pl_h178) (lx := none) (XF := []) ⟨pl_nmu, ck_E1 (ck_S1 pl_s770_s ck_S0) ck_E0⟩ ck_X0 ck_l0 (by decide +kernel)
set_option maxRecDepth 100000 in
/-- GlacierMailLaw.apart -/
noncomputable def pl_h179 : ck_Sum := ((9, 2, 12), 249, [.inr (.inr (.inl 1)), .inl (0, 5, []), .inl (0, 5, []), .inl ((-2147483648), 2147483647, []), .inr (.inr (.inl 245))], ([], [], []), ([(245, 0, 0)], []), [(.inr (some (.inl (ck_one 1))), 249, ([], [], [])), (.inr (some (.inl (ck_one 0))), 249, ([], [], [(245, 0, 0, (0, 1, []))]))])
set_option maxRecDepth 100000 in
theorem pl_h179_s {X : Int → Int} {LX : Nat} : ck_Ok p2_OL X LX 194 pl_h179 := ck_ok_s (O := p2_OL) (X := X) (LX := LX) (E := [(195, [pl_s772])]) (mi := 194) (cuts := []) (f := 98) (S := pl_h179) (lx := none) (XF := []) ⟨pl_nmu, ck_E1 (ck_S1 pl_s772_s ck_S0) ck_E0⟩ ck_X0 ck_l0 (by decide +kernel)
set_option maxRecDepth 100000 in
/-- GlacierMailLaw.fit -/
noncomputable def pl_h180 : ck_Sum := ((7, 1, 6), 249, [.inr (.inr (.inl 1)), .inr (.inr (.inl 245))], ([], [], [(1, 1, 1, (0, 400, [(6, 0)]))]), ([(1, 1, 1), (245, 0, 0)], []), [(.inr (some (.inl (ck_one 1))), 249, ([], [], [(1, 1, 1, ck_one 0)])), (.inr (some (.inl (ck_one 0))), 249, ([], [], [(1, 1, 1, ck_one 0)]))])
set_option maxRecDepth 100000 in
theorem pl_h180_s {X : Int → Int} {LX : Nat} : ck_Ok p2_OL X LX 196 pl_h180 := ck_ok_s (O := p2_OL) (X := X) (LX := LX) (E := [(197, [pl_s778])]) (mi := 196) (cuts := []) (f := 88) (S := pl_h180) (lx := none) (XF := []) ⟨pl_nmu, ck_E1 (ck_S1 pl_s778_s ck_S0) ck_E0⟩ ck_X0 ck_l0 (by decide +kernel)
set_option maxRecDepth 100000 in
/-- GlacierMailLaw.soonest -/
noncomputable def pl_h181 : ck_Sum := ((9, 1, 6), 249, [.inr (.inr (.inl 1)), .inl ((-2147483648), (-1), []), .inl ((-2147483648), 2147483647, []), .inl (0, 1, []), .inr (.inr (.inl 245))], ([], [], []), ([], []), [(.inr (some (.inl (ck_one 1))), 249, ([], [], []))])
set_option maxRecDepth 100000 in
theorem pl_h181_s {X : Int → Int} {LX : Nat} : ck_Ok p2_OL X LX 200 pl_h181 := ck_ok_s (O := p2_OL) (X := X) (LX := LX) (E := [(201, [pl_s779])]) (mi := 200) (cuts := []) (f := 90) (S := pl_h181) (lx := none) (XF := []) ⟨pl_nmu, ck_E1 (ck_S1 pl_s779_s ck_S0) ck_E0⟩ ck_X0 ck_l0 (by decide +kernel)
set_option maxRecDepth 100000 in
/-- GlacierMailLaw.soonest -/
noncomputable def pl_h182 : ck_Sum := ((9, 1, 6), 249, [.inr (.inr (.inl 1)), .inl (8, 2147483647, []), .inl ((-2147483648), 2147483647, []), .inl (0, 1, []), .inr (.inr (.inl 245))], ([], [], []), ([], []), [(.inr (some (.inl (ck_one 1))), 249, ([], [], []))])
set_option maxRecDepth 100000 in
theorem pl_h182_s {X : Int → Int} {LX : Nat} : ck_Ok p2_OL X LX 200 pl_h182 := ck_ok_s (O := p2_OL) (X := X) (LX := LX) (E := [(201, [pl_s780])]) (mi := 200) (cuts := []) (f := 90) (S := pl_h182) (lx := none) (XF := []) ⟨pl_nmu, ck_E1 (ck_S1 pl_s780_s ck_S0) ck_E0⟩ ck_X0 ck_l0 (by decide +kernel)
set_option maxRecDepth 100000 in
/-- GlacierMailLaw.soonest -/
noncomputable def pl_h183 : ck_Sum := ((9, 2, 12), 249, [.inr (.inr (.inl 1)), .inl (0, 7, []), .inl ((-2147483648), (-1), []), .inl (0, 1, []), .inr (.inr (.inl 245))], ([], [], []), ([], []), [(.inr (some (.inl (ck_one 1))), 249, ([], [], []))])
set_option maxRecDepth 100000 in
theorem pl_h183_s {X : Int → Int} {LX : Nat} : ck_Ok p2_OL X LX 200 pl_h183 := ck_ok_s (O := p2_OL) (X := X) (LX := LX) (E := [(201, [pl_s781])]) (mi := 200) (cuts := []) (f := 90) (S := pl_h183) (lx := none) (XF := []) ⟨pl_nmu, ck_E1 (ck_S1 pl_s781_s ck_S0) ck_E0⟩ ck_X0 ck_l0 (by decide +kernel)
set_option maxRecDepth 100000 in
/-- GlacierMailLaw.soonest -/
noncomputable def pl_h184 : ck_Sum := ((9, 2, 12), 249, [.inr (.inr (.inl 1)), .inl (0, 7, []), .inl (8, 2147483647, []), .inl (0, 1, []), .inr (.inr (.inl 245))], ([], [], []), ([], []), [(.inr (some (.inl (ck_one 1))), 249, ([], [], []))])
set_option maxRecDepth 100000 in
theorem pl_h184_s {X : Int → Int} {LX : Nat} : ck_Ok p2_OL X LX 200 pl_h184 := ck_ok_s (O := p2_OL) (X := X) (LX := LX) (E := [(201, [pl_s782])]) (mi := 200) (cuts := []) (f := 90) (S := pl_h184) (lx := none) (XF := []) ⟨pl_nmu, ck_E1 (ck_S1 pl_s782_s ck_S0) ck_E0⟩ ck_X0 ck_l0 (by decide +kernel)
set_option maxRecDepth 100000 in
/-- GlacierMailLaw.chain -/
noncomputable def pl_h186 : ck_Sum := ((9, 1, 6), 249, [.inr (.inr (.inl 1)), .inl ((-2147483648), (-1), []), .inl ((-2147483648), 2147483647, []), .inl ((-2147483648), 2147483647, []), .inr (.inr (.inl 245))], ([], [], []), ([], []), [(.inr (some (.inl (ck_one 1))), 249, ([], [], []))])
set_option maxRecDepth 100000 in
theorem pl_h186_s {X : Int → Int} {LX : Nat} : ck_Ok p2_OL X LX 206 pl_h186 := ck_ok_s (O := p2_OL) (X := X) (LX := LX) (E := [(207, [pl_s798])]) (mi := 206) (cuts := []) (f := 90) (S := pl_h186) (lx := none) (XF := []) ⟨pl_nmu, ck_E1 (ck_S1 pl_s798_s ck_S0) ck_E0⟩ ck_X0 ck_l0 (by decide +kernel)
set_option maxRecDepth 100000 in
/-- GlacierMailLaw.chain -/
noncomputable def pl_h187 : ck_Sum := ((9, 1, 6), 249, [.inr (.inr (.inl 1)), .inl (8, 2147483647, []), .inl ((-2147483648), 2147483647, []), .inl ((-2147483648), 2147483647, []), .inr (.inr (.inl 245))], ([], [], []), ([], []), [(.inr (some (.inl (ck_one 1))), 249, ([], [], []))])
set_option maxRecDepth 100000 in
theorem pl_h187_s {X : Int → Int} {LX : Nat} : ck_Ok p2_OL X LX 206 pl_h187 := ck_ok_s (O := p2_OL) (X := X) (LX := LX) (E := [(207, [pl_s799])]) (mi := 206) (cuts := []) (f := 90) (S := pl_h187) (lx := none) (XF := []) ⟨pl_nmu, ck_E1 (ck_S1 pl_s799_s ck_S0) ck_E0⟩ ck_X0 ck_l0 (by decide +kernel)
set_option maxRecDepth 100000 in
/-- GlacierMailLaw.chain -/
noncomputable def pl_h188 : ck_Sum := ((9, 2, 12), 249, [.inr (.inr (.inl 1)), .inl (0, 7, []), .inl ((-2147483648), (-1), []), .inl ((-2147483648), 2147483647, []), .inr (.inr (.inl 245))], ([], [], []), ([], []), [(.inr (some (.inl (ck_one 1))), 249, ([], [], []))])
set_option maxRecDepth 100000 in
theorem pl_h188_s {X : Int → Int} {LX : Nat} : ck_Ok p2_OL X LX 206 pl_h188 := ck_ok_s (O := p2_OL) (X := X) (LX := LX) (E := [(207, [pl_s800])]) (mi := 206) (cuts := []) (f := 90) (S := pl_h188) (lx := none) (XF := []) ⟨pl_nmu, ck_E1 (ck_S1 pl_s800_s ck_S0) ck_E0⟩ ck_X0 ck_l0 (by decide +kernel)
set_option maxRecDepth 100000 in
/-- GlacierMailLaw.chain -/
noncomputable def pl_h189 : ck_Sum := ((9, 2, 12), 249, [.inr (.inr (.inl 1)), .inl (0, 7, []), .inl (8, 2147483647, []), .inl ((-2147483648), 2147483647, []), .inr (.inr (.inl 245))], ([], [], []), ([], []), [(.inr (some (.inl (ck_one 1))), 249, ([], [], []))])
set_option maxRecDepth 100000 in
theorem pl_h189_s {X : Int → Int} {LX : Nat} : ck_Ok p2_OL X LX 206 pl_h189 := ck_ok_s (O := p2_OL) (X := X) (LX := LX) (E := [(207, [pl_s801])]) (mi := 206) (cuts := []) (f := 90) (S := pl_h189) (lx := none) (XF := []) ⟨pl_nmu, ck_E1 (ck_S1 pl_s801_s ck_S0) ck_E0⟩ ck_X0 ck_l0 (by decide +kernel)
set_option maxRecDepth 100000 in
/-- GlacierMailLaw.reached -/
noncomputable def pl_h193 : ck_Sum := ((9, 1, 6), 249, [.inr (.inr (.inl 1)), .inl ((-2147483648), (-1), []), .inl ((-2147483648), 2147483647, []), .inr (.inr (.inl 245))], ([], [], []), ([], []), [(.inr (some (.inl (ck_one 1))), 249, ([], [], []))])
set_option maxRecDepth 100000 in
theorem pl_h193_s {X : Int → Int} {LX : Nat} : ck_Ok p2_OL X LX 210 pl_h193 := ck_ok_s (O := p2_OL) (X := X) (LX := LX) (E := [(211, [pl_s811])]) (mi := 210) (cuts := []) (f := 88) (S := pl_h193) (lx := none) (XF := []) ⟨pl_nmu, ck_E1 (ck_S1 pl_s811_s ck_S0) ck_E0⟩ ck_X0 ck_l0 (by decide +kernel)
set_option maxRecDepth 100000 in
/-- GlacierMailLaw.reached -/
noncomputable def pl_h194 : ck_Sum := ((9, 1, 6), 249, [.inr (.inr (.inl 1)), .inl (8, 2147483647, []), .inl ((-2147483648), 2147483647, []), .inr (.inr (.inl 245))], ([], [], []), ([], []), [(.inr (some (.inl (ck_one 1))), 249, ([], [], []))])
set_option maxRecDepth 100000 in
theorem pl_h194_s {X : Int → Int} {LX : Nat} : ck_Ok p2_OL X LX 210 pl_h194 := ck_ok_s (O := p2_OL) (X := X) (LX := LX) (E := [(211, [pl_s812])]) (mi := 210) (cuts := []) (f := 88) (S := pl_h194) (lx := none) (XF := []) ⟨pl_nmu, ck_E1 (ck_S1 pl_s812_s ck_S0) ck_E0⟩ ck_X0 ck_l0 (by decide +kernel)
set_option maxRecDepth 100000 in
/-- GlacierMailLaw.reached -/
noncomputable def pl_h195 : ck_Sum := ((9, 2, 12), 249, [.inr (.inr (.inl 1)), .inl (0, 7, []), .inl ((-2147483648), (-1), []), .inr (.inr (.inl 245))], ([], [], []), ([], []), [(.inr (some (.inl (ck_one 1))), 249, ([], [], [])), (.inr (some (.inl (ck_one 2))), 249, ([], [], []))])
set_option maxRecDepth 100000 in
theorem pl_h195_s {X : Int → Int} {LX : Nat} : ck_Ok p2_OL X LX 210 pl_h195 := ck_ok_s (O := p2_OL) (X := X) (LX := LX) (E := [(211, [pl_s813])]) (mi := 210) (cuts := []) (f := 88) (S := pl_h195) (lx := none) (XF := []) ⟨pl_nmu, ck_E1 (ck_S1 pl_s813_s ck_S0) ck_E0⟩ ck_X0 ck_l0 (by decide +kernel)
set_option maxRecDepth 100000 in
/-- GlacierMailLaw.reached -/
noncomputable def pl_h196 : ck_Sum := ((9, 2, 12), 249, [.inr (.inr (.inl 1)), .inl (0, 7, []), .inl (300, 2147483647, []), .inr (.inr (.inl 245))], ([], [], []), ([], []), [(.inr (some (.inl (ck_one 1))), 249, ([], [], [])), (.inr (some (.inl (ck_one 2))), 249, ([], [], []))])
set_option maxRecDepth 100000 in
theorem pl_h196_s {X : Int → Int} {LX : Nat} : ck_Ok p2_OL X LX 210 pl_h196 := ck_ok_s (O := p2_OL) (X := X) (LX := LX) (E := [(211, [pl_s814])]) (mi := 210) (cuts := []) (f := 88) (S := pl_h196) (lx := none) (XF := []) ⟨pl_nmu, ck_E1 (ck_S1 pl_s814_s ck_S0) ck_E0⟩ ck_X0 ck_l0 (by decide +kernel)
set_option maxRecDepth 100000 in
/-- GlacierMailLaw.thieves -/
noncomputable def pl_h198 : ck_Sum := ((8, 1, 6), 249, [.inr (.inr (.inl 1)), .inl ((-2147483648), (-1), []), .inl (0, 1, []), .inr (.inr (.inl 245))], ([], [], []), ([], []), [(.inr (some (.inl (ck_one 1))), 249, ([], [], []))])
set_option maxRecDepth 100000 in
theorem pl_h198_s {X : Int → Int} {LX : Nat} : ck_Ok p2_OL X LX 212 pl_h198 := ck_ok_s (O := p2_OL) (X := X) (LX := LX) (E := [(213, [pl_s820])]) (mi := 212) (cuts := []) (f := 88) (S := pl_h198) (lx := none) (XF := []) ⟨pl_nmu, ck_E1 (ck_S1 pl_s820_s ck_S0) ck_E0⟩ ck_X0 ck_l0 (by decide +kernel)
set_option maxRecDepth 100000 in
/-- GlacierMailLaw.thieves -/
noncomputable def pl_h199 : ck_Sum := ((8, 1, 6), 249, [.inr (.inr (.inl 1)), .inl (31, 2147483647, []), .inl (0, 1, []), .inr (.inr (.inl 245))], ([], [], []), ([], []), [(.inr (some (.inl (ck_one 1))), 249, ([], [], []))])
set_option maxRecDepth 100000 in
theorem pl_h199_s {X : Int → Int} {LX : Nat} : ck_Ok p2_OL X LX 212 pl_h199 := ck_ok_s (O := p2_OL) (X := X) (LX := LX) (E := [(213, [pl_s822])]) (mi := 212) (cuts := []) (f := 88) (S := pl_h199) (lx := none) (XF := []) ⟨pl_nmu, ck_E1 (ck_S1 pl_s822_s ck_S0) ck_E0⟩ ck_X0 ck_l0 (by decide +kernel)
set_option maxRecDepth 100000 in
/-- GlacierMailLaw.watchman -/
noncomputable def pl_h201 : ck_Sum := ((8, 1, 6), 249, [.inr (.inr (.inl 1)), .inl ((-2147483648), (-1), []), .inl (0, 1, []), .inr (.inr (.inl 245))], ([], [], []), ([], []), [(.inr (some (.inl (ck_one 1))), 249, ([], [], []))])
set_option maxRecDepth 100000 in
theorem pl_h201_s {X : Int → Int} {LX : Nat} : ck_Ok p2_OL X LX 217 pl_h201 := ck_ok_s (O := p2_OL) (X := X) (LX := LX) (E := [(218, [pl_s835])]) (mi := 217) (cuts := []) (f := 88) (S := pl_h201) (lx := none) (XF := []) ⟨pl_nmu, ck_E1 (ck_S1 pl_s835_s ck_S0) ck_E0⟩ ck_X0 ck_l0 (by decide +kernel)
set_option maxRecDepth 100000 in
/-- GlacierMailLaw.watchman -/
noncomputable def pl_h202 : ck_Sum := ((8, 1, 6), 249, [.inr (.inr (.inl 1)), .inl (31, 2147483647, []), .inl (0, 1, []), .inr (.inr (.inl 245))], ([], [], []), ([], []), [(.inr (some (.inl (ck_one 1))), 249, ([], [], []))])
set_option maxRecDepth 100000 in
theorem pl_h202_s {X : Int → Int} {LX : Nat} : ck_Ok p2_OL X LX 217 pl_h202 := ck_ok_s (O := p2_OL) (X := X) (LX := LX) (E := [(218, [pl_s836])]) (mi := 217) (cuts := []) (f := 88) (S := pl_h202) (lx := none) (XF := []) ⟨pl_nmu, ck_E1 (ck_S1 pl_s836_s ck_S0) ck_E0⟩ ck_X0 ck_l0 (by decide +kernel)
end
/-! 78r88l05.hp -/
section
/-! THE LAW'S OWN METHODS (laid by wip/am/p2n.py). -/
set_option maxRecDepth 100000 in
/-- GlacierMailLaw.meeting -/
noncomputable def pl_h204 : ck_Sum := ((9, 1, 6), 249, [.inr (.inr (.inl 1)), .inl ((-2147483648), (-1), []), .inl ((-2147483648), 2147483647, []), .inr (.inr (.inl 245))], ([], [], []), ([], []), [(.inr (some (.inl (ck_one 1))), 249, ([], [], []))])
set_option maxRecDepth 100000 in
theorem pl_h204_s {X : Int → Int} {LX : Nat} : ck_Ok p2_OL X LX 220 pl_h204 := ck_ok_s (O := p2_OL) (X := X) (LX := LX) (E := [(221, [pl_s840])]) (mi := 220) (cuts := []) (f := 88) (S := pl_h204) (lx := none) (XF := []) ⟨pl_nmu, ck_E1 (ck_S1 pl_s840_s ck_S0) ck_E0⟩ ck_X0 ck_l0 (by decide +kernel)
set_option maxRecDepth 100000 in
/-- GlacierMailLaw.meeting -/
noncomputable def pl_h205 : ck_Sum := ((9, 1, 6), 249, [.inr (.inr (.inl 1)), .inl (24, 2147483647, []), .inl ((-2147483648), 2147483647, []), .inr (.inr (.inl 245))], ([], [], []), ([], []), [(.inr (some (.inl (ck_one 1))), 249, ([], [], []))])
set_option maxRecDepth 100000 in
theorem pl_h205_s {X : Int → Int} {LX : Nat} : ck_Ok p2_OL X LX 220 pl_h205 := ck_ok_s (O := p2_OL) (X := X) (LX := LX) (E := [(221, [pl_s841])]) (mi := 220) (cuts := []) (f := 88) (S := pl_h205) (lx := none) (XF := []) ⟨pl_nmu, ck_E1 (ck_S1 pl_s841_s ck_S0) ck_E0⟩ ck_X0 ck_l0 (by decide +kernel)
set_option maxRecDepth 100000 in
/-- GlacierMailLaw.meeting -/
noncomputable def pl_h206 : ck_Sum := ((9, 2, 12), 249, [.inr (.inr (.inl 1)), .inl (0, 23, []), .inl ((-2147483648), (-1), []), .inr (.inr (.inl 245))], ([], [], []), ([], []), [(.inr (some (.inl (ck_one 1))), 249, ([], [], []))])
set_option maxRecDepth 100000 in
theorem pl_h206_s {X : Int → Int} {LX : Nat} : ck_Ok p2_OL X LX 220 pl_h206 := ck_ok_s (O := p2_OL) (X := X) (LX := LX) (E := [(221, [pl_s842])]) (mi := 220) (cuts := []) (f := 88) (S := pl_h206) (lx := none) (XF := []) ⟨pl_nmu, ck_E1 (ck_S1 pl_s842_s ck_S0) ck_E0⟩ ck_X0 ck_l0 (by decide +kernel)
set_option maxRecDepth 100000 in
/-- GlacierMailLaw.meeting -/
noncomputable def pl_h207 : ck_Sum := ((9, 2, 12), 249, [.inr (.inr (.inl 1)), .inl (0, 23, []), .inl (24, 2147483647, []), .inr (.inr (.inl 245))], ([], [], []), ([], []), [(.inr (some (.inl (ck_one 1))), 249, ([], [], []))])
set_option maxRecDepth 100000 in
theorem pl_h207_s {X : Int → Int} {LX : Nat} : ck_Ok p2_OL X LX 220 pl_h207 := ck_ok_s (O := p2_OL) (X := X) (LX := LX) (E := [(221, [pl_s843])]) (mi := 220) (cuts := []) (f := 88) (S := pl_h207) (lx := none) (XF := []) ⟨pl_nmu, ck_E1 (ck_S1 pl_s843_s ck_S0) ck_E0⟩ ck_X0 ck_l0 (by decide +kernel)
set_option maxRecDepth 100000 in
/-- GlacierMailLaw.outs -/
noncomputable def pl_h209 : ck_Sum := ((8, 1, 6), 249, [.inr (.inr (.inl 1)), .inl ((-2147483648), (-1), []), .inr (.inr (.inl 245))], ([], [], []), ([], []), [(.inr (some (.inl (ck_one 1))), 249, ([], [], []))])
set_option maxRecDepth 100000 in
theorem pl_h209_s {X : Int → Int} {LX : Nat} : ck_Ok p2_OL X LX 222 pl_h209 := ck_ok_s (O := p2_OL) (X := X) (LX := LX) (E := [(223, [pl_s847])]) (mi := 222) (cuts := []) (f := 86) (S := pl_h209) (lx := none) (XF := []) ⟨pl_nmu, ck_E1 (ck_S1 pl_s847_s ck_S0) ck_E0⟩ ck_X0 ck_l0 (by decide +kernel)
set_option maxRecDepth 100000 in
/-- GlacierMailLaw.outs -/
noncomputable def pl_h210 : ck_Sum := ((8, 1, 6), 249, [.inr (.inr (.inl 1)), .inl (300, 2147483647, []), .inr (.inr (.inl 245))], ([], [], []), ([], []), [(.inr (some (.inl (ck_one 1))), 249, ([], [], []))])
set_option maxRecDepth 100000 in
theorem pl_h210_s {X : Int → Int} {LX : Nat} : ck_Ok p2_OL X LX 222 pl_h210 := ck_ok_s (O := p2_OL) (X := X) (LX := LX) (E := [(223, [pl_s848])]) (mi := 222) (cuts := []) (f := 86) (S := pl_h210) (lx := none) (XF := []) ⟨pl_nmu, ck_E1 (ck_S1 pl_s848_s ck_S0) ck_E0⟩ ck_X0 ck_l0 (by decide +kernel)
set_option maxRecDepth 100000 in
/-- GlacierMailLaw.streams -/
noncomputable def pl_h212 : ck_Sum := ((8, 1, 6), 249, [.inr (.inr (.inl 1)), .inl ((-2147483648), (-1), []), .inl (0, 1, []), .inr (.inr (.inl 245))], ([], [], []), ([], []), [(.inr (some (.inl (ck_one 1))), 249, ([], [], []))])
set_option maxRecDepth 100000 in
theorem pl_h212_s {X : Int → Int} {LX : Nat} : ck_Ok p2_OL X LX 224 pl_h212 := ck_ok_s (O := p2_OL) (X := X) (LX := LX) (E := [(225, [pl_s853])]) (mi := 224) (cuts := []) (f := 88) (S := pl_h212) (lx := none) (XF := []) ⟨pl_nmu, ck_E1 (ck_S1 pl_s853_s ck_S0) ck_E0⟩ ck_X0 ck_l0 (by decide +kernel)
set_option maxRecDepth 100000 in
/-- GlacierMailLaw.streams -/
noncomputable def pl_h213 : ck_Sum := ((8, 1, 6), 249, [.inr (.inr (.inl 1)), .inl (300, 2147483647, []), .inl (0, 1, []), .inr (.inr (.inl 245))], ([], [], []), ([], []), [(.inr (some (.inl (ck_one 1))), 249, ([], [], []))])
set_option maxRecDepth 100000 in
theorem pl_h213_s {X : Int → Int} {LX : Nat} : ck_Ok p2_OL X LX 224 pl_h213 := ck_ok_s (O := p2_OL) (X := X) (LX := LX) (E := [(225, [pl_s854])]) (mi := 224) (cuts := []) (f := 88) (S := pl_h213) (lx := none) (XF := []) ⟨pl_nmu, ck_E1 (ck_S1 pl_s854_s ck_S0) ck_E0⟩ ck_X0 ck_l0 (by decide +kernel)
set_option maxRecDepth 100000 in
/-- GlacierMailLaw.range -/
noncomputable def pl_h215 : ck_Sum := ((9, 1, 6), 249, [.inr (.inr (.inl 1)), .inl ((-2147483648), (-1), []), .inl ((-2147483648), 2147483647, []), .inr (.inr (.inl 245))], ([], [], []), ([], []), [(.inr (some (.inl (ck_one 1))), 249, ([], [], []))])
set_option maxRecDepth 100000 in
theorem pl_h215_s {X : Int → Int} {LX : Nat} : ck_Ok p2_OL X LX 226 pl_h215 := ck_ok_s (O := p2_OL) (X := X) (LX := LX) (E := [(227, [pl_s856])]) (mi := 226) (cuts := []) (f := 88) (S := pl_h215) (lx := none) (XF := []) ⟨pl_nmu, ck_E1 (ck_S1 pl_s856_s ck_S0) ck_E0⟩ ck_X0 ck_l0 (by decide +kernel)
set_option maxRecDepth 100000 in
/-- GlacierMailLaw.range -/
noncomputable def pl_h216 : ck_Sum := ((9, 1, 6), 249, [.inr (.inr (.inl 1)), .inl (6, 2147483647, []), .inl ((-2147483648), 2147483647, []), .inr (.inr (.inl 245))], ([], [], []), ([], []), [(.inr (some (.inl (ck_one 1))), 249, ([], [], []))])
set_option maxRecDepth 100000 in
theorem pl_h216_s {X : Int → Int} {LX : Nat} : ck_Ok p2_OL X LX 226 pl_h216 := ck_ok_s (O := p2_OL) (X := X) (LX := LX) (E := [(227, [pl_s857])]) (mi := 226) (cuts := []) (f := 88) (S := pl_h216) (lx := none) (XF := []) ⟨pl_nmu, ck_E1 (ck_S1 pl_s857_s ck_S0) ck_E0⟩ ck_X0 ck_l0 (by decide +kernel)
set_option maxRecDepth 100000 in
/-- GlacierMailLaw.range -/
noncomputable def pl_h217 : ck_Sum := ((9, 2, 12), 249, [.inr (.inr (.inl 1)), .inl (0, 5, []), .inl ((-2147483648), (-1), []), .inr (.inr (.inl 245))], ([], [], []), ([], []), [(.inr (some (.inl (ck_one 1))), 249, ([], [], [])), (.inr (some (.inl (ck_one 2))), 249, ([], [], []))])
set_option maxRecDepth 100000 in
theorem pl_h217_s {X : Int → Int} {LX : Nat} : ck_Ok p2_OL X LX 226 pl_h217 := ck_ok_s (O := p2_OL) (X := X) (LX := LX) (E := [(227, [pl_s858])]) (mi := 226) (cuts := []) (f := 88) (S := pl_h217) (lx := none) (XF := []) ⟨pl_nmu, ck_E1 (ck_S1 pl_s858_s ck_S0) ck_E0⟩ ck_X0 ck_l0 (by decide +kernel)
set_option maxRecDepth 100000 in
/-- GlacierMailLaw.range -/
noncomputable def pl_h218 : ck_Sum := ((9, 2, 12), 249, [.inr (.inr (.inl 1)), .inl (0, 5, []), .inl (300, 2147483647, []), .inr (.inr (.inl 245))], ([], [], []), ([], []), [(.inr (some (.inl (ck_one 1))), 249, ([], [], [])), (.inr (some (.inl (ck_one 2))), 249, ([], [], []))])
set_option maxRecDepth 100000 in
theorem pl_h218_s {X : Int → Int} {LX : Nat} : ck_Ok p2_OL X LX 226 pl_h218 := ck_ok_s (O := p2_OL) (X := X) (LX := LX) (E := [(227, [pl_s859])]) (mi := 226) (cuts := []) (f := 88) (S := pl_h218) (lx := none) (XF := []) ⟨pl_nmu, ck_E1 (ck_S1 pl_s859_s ck_S0) ck_E0⟩ ck_X0 ck_l0 (by decide +kernel)
set_option maxRecDepth 100000 in
/-- GlacierMailLaw.swiftest -/
noncomputable def pl_h220 : ck_Sum := ((9, 1, 6), 249, [.inr (.inr (.inl 1)), .inl ((-2147483648), (-1), []), .inl ((-2147483648), 2147483647, []), .inr (.inr (.inl 245))], ([], [], []), ([], []), [(.inr (some (.inl (ck_one 1))), 249, ([], [], []))])
set_option maxRecDepth 100000 in
theorem pl_h220_s {X : Int → Int} {LX : Nat} : ck_Ok p2_OL X LX 228 pl_h220 := ck_ok_s (O := p2_OL) (X := X) (LX := LX) (E := [(229, [pl_s861])]) (mi := 228) (cuts := []) (f := 88) (S := pl_h220) (lx := none) (XF := []) ⟨pl_nmu, ck_E1 (ck_S1 pl_s861_s ck_S0) ck_E0⟩ ck_X0 ck_l0 (by decide +kernel)
set_option maxRecDepth 100000 in
/-- GlacierMailLaw.swiftest -/
noncomputable def pl_h221 : ck_Sum := ((9, 1, 6), 249, [.inr (.inr (.inl 1)), .inl (99, 2147483647, []), .inl ((-2147483648), 2147483647, []), .inr (.inr (.inl 245))], ([], [], []), ([], []), [(.inr (some (.inl (ck_one 1))), 249, ([], [], []))])
set_option maxRecDepth 100000 in
theorem pl_h221_s {X : Int → Int} {LX : Nat} : ck_Ok p2_OL X LX 228 pl_h221 := ck_ok_s (O := p2_OL) (X := X) (LX := LX) (E := [(229, [pl_s862])]) (mi := 228) (cuts := []) (f := 88) (S := pl_h221) (lx := none) (XF := []) ⟨pl_nmu, ck_E1 (ck_S1 pl_s862_s ck_S0) ck_E0⟩ ck_X0 ck_l0 (by decide +kernel)
set_option maxRecDepth 100000 in
/-- GlacierMailLaw.swiftest -/
noncomputable def pl_h222 : ck_Sum := ((9, 2, 12), 249, [.inr (.inr (.inl 1)), .inl (0, 98, []), .inl ((-2147483648), (-1), []), .inr (.inr (.inl 245))], ([], [], []), ([], []), [(.inr (some (.inl (ck_one 1))), 249, ([], [], [])), (.inr (some (.inl (ck_one 2))), 249, ([], [], []))])
set_option maxRecDepth 100000 in
theorem pl_h222_s {X : Int → Int} {LX : Nat} : ck_Ok p2_OL X LX 228 pl_h222 := ck_ok_s (O := p2_OL) (X := X) (LX := LX) (E := [(229, [pl_s863])]) (mi := 228) (cuts := []) (f := 88) (S := pl_h222) (lx := none) (XF := []) ⟨pl_nmu, ck_E1 (ck_S1 pl_s863_s ck_S0) ck_E0⟩ ck_X0 ck_l0 (by decide +kernel)
set_option maxRecDepth 100000 in
/-- GlacierMailLaw.swiftest -/
noncomputable def pl_h223 : ck_Sum := ((9, 2, 12), 249, [.inr (.inr (.inl 1)), .inl (0, 98, []), .inl (300, 2147483647, []), .inr (.inr (.inl 245))], ([], [], []), ([], []), [(.inr (some (.inl (ck_one 1))), 249, ([], [], [])), (.inr (some (.inl (ck_one 2))), 249, ([], [], []))])
set_option maxRecDepth 100000 in
theorem pl_h223_s {X : Int → Int} {LX : Nat} : ck_Ok p2_OL X LX 228 pl_h223 := ck_ok_s (O := p2_OL) (X := X) (LX := LX) (E := [(229, [pl_s864])]) (mi := 228) (cuts := []) (f := 88) (S := pl_h223) (lx := none) (XF := []) ⟨pl_nmu, ck_E1 (ck_S1 pl_s864_s ck_S0) ck_E0⟩ ck_X0 ck_l0 (by decide +kernel)
set_option maxRecDepth 100000 in
/-- GlacierMailLaw.bare -/
noncomputable def pl_h225 : ck_Sum := ((8, 1, 6), 249, [.inr (.inr (.inl 1)), .inl ((-2147483648), (-1), []), .inr (.inr (.inl 245))], ([], [], []), ([], []), [(.inr (some (.inl (ck_one 1))), 249, ([], [], []))])
set_option maxRecDepth 100000 in
theorem pl_h225_s {X : Int → Int} {LX : Nat} : ck_Ok p2_OL X LX 230 pl_h225 := ck_ok_s (O := p2_OL) (X := X) (LX := LX) (E := [(231, [pl_s866])]) (mi := 230) (cuts := []) (f := 86) (S := pl_h225) (lx := none) (XF := []) ⟨pl_nmu, ck_E1 (ck_S1 pl_s866_s ck_S0) ck_E0⟩ ck_X0 ck_l0 (by decide +kernel)
set_option maxRecDepth 100000 in
/-- GlacierMailLaw.bare -/
noncomputable def pl_h226 : ck_Sum := ((8, 1, 6), 249, [.inr (.inr (.inl 1)), .inl (300, 2147483647, []), .inr (.inr (.inl 245))], ([], [], []), ([], []), [(.inr (some (.inl (ck_one 1))), 249, ([], [], []))])
set_option maxRecDepth 100000 in
theorem pl_h226_s {X : Int → Int} {LX : Nat} : ck_Ok p2_OL X LX 230 pl_h226 := ck_ok_s (O := p2_OL) (X := X) (LX := LX) (E := [(231, [pl_s867])]) (mi := 230) (cuts := []) (f := 86) (S := pl_h226) (lx := none) (XF := []) ⟨pl_nmu, ck_E1 (ck_S1 pl_s867_s ck_S0) ck_E0⟩ ck_X0 ck_l0 (by decide +kernel)
set_option maxRecDepth 100000 in
/-- GlacierMailLaw.log -/
noncomputable def pl_h228 : ck_Sum := ((7, 1, 6), 249, [.inr (.inr (.inl 1)), .inl ((-2147483648), (-1), []), .inl ((-2147483648), 2147483647, []), .inr (.inr (.inl 245))], ([], [], []), ([(245, 0, 0)], []), [(.inr (some (.inl (ck_one 1))), 249, ([], [], [])), (.inr (some (.inl (ck_one 0))), 249, ([], [], [(245, 0, 0, ((-1), 299, []))]))])
set_option maxRecDepth 100000 in
theorem pl_h228_s {X : Int → Int} {LX : Nat} : ck_Ok p2_OL X LX 232 pl_h228 := ck_ok_s (O := p2_OL) (X := X) (LX := LX) (E := [(233, [pl_s870])]) (mi := 232) (cuts := []) (f := 92) (S := pl_h228) (lx := none) (XF := []) ⟨pl_nmu, ck_E1 (ck_S1 pl_s870_s ck_S0) ck_E0⟩ ck_X0 ck_l0 (by decide +kernel)
set_option maxRecDepth 100000 in
/-- GlacierMailLaw.log -/
noncomputable def pl_h229 : ck_Sum := ((7, 1, 6), 249, [.inr (.inr (.inl 1)), .inl (24, 2147483647, []), .inl ((-2147483648), 2147483647, []), .inr (.inr (.inl 245))], ([], [], []), ([(245, 0, 0)], []), [(.inr (some (.inl (ck_one 1))), 249, ([], [], [])), (.inr (some (.inl (ck_one 0))), 249, ([], [], [(245, 0, 0, ((-1), 299, []))]))])
set_option maxRecDepth 100000 in
theorem pl_h229_s {X : Int → Int} {LX : Nat} : ck_Ok p2_OL X LX 232 pl_h229 := ck_ok_s (O := p2_OL) (X := X) (LX := LX) (E := [(233, [pl_s871])]) (mi := 232) (cuts := []) (f := 92) (S := pl_h229) (lx := none) (XF := []) ⟨pl_nmu, ck_E1 (ck_S1 pl_s871_s ck_S0) ck_E0⟩ ck_X0 ck_l0 (by decide +kernel)
set_option maxRecDepth 100000 in
/-- GlacierMailLaw.log -/
noncomputable def pl_h230 : ck_Sum := ((7, 1, 6), 249, [.inr (.inr (.inl 1)), .inl (0, 23, []), .inl ((-2147483648), (-1), []), .inr (.inr (.inl 245))], ([], [], []), ([], []), [(.inr (some (.inl (ck_one 1))), 249, ([], [], []))])
set_option maxRecDepth 100000 in
theorem pl_h230_s {X : Int → Int} {LX : Nat} : ck_Ok p2_OL X LX 232 pl_h230 := ck_ok_s (O := p2_OL) (X := X) (LX := LX) (E := [(233, [pl_s872])]) (mi := 232) (cuts := []) (f := 88) (S := pl_h230) (lx := none) (XF := []) ⟨pl_nmu, ck_E1 (ck_S1 pl_s872_s ck_S0) ck_E0⟩ ck_X0 ck_l0 (by decide +kernel)
set_option maxRecDepth 100000 in
/-- GlacierMailLaw.log -/
noncomputable def pl_h231 : ck_Sum := ((7, 1, 6), 249, [.inr (.inr (.inl 1)), .inl (0, 23, []), .inl (10, 2147483647, []), .inr (.inr (.inl 245))], ([], [], []), ([], []), [(.inr (some (.inl (ck_one 1))), 249, ([], [], []))])
set_option maxRecDepth 100000 in
theorem pl_h231_s {X : Int → Int} {LX : Nat} : ck_Ok p2_OL X LX 232 pl_h231 := ck_ok_s (O := p2_OL) (X := X) (LX := LX) (E := [(233, [pl_s873])]) (mi := 232) (cuts := []) (f := 88) (S := pl_h231) (lx := none) (XF := []) ⟨pl_nmu, ck_E1 (ck_S1 pl_s873_s ck_S0) ck_E0⟩ ck_X0 ck_l0 (by decide +kernel)
set_option maxRecDepth 100000 in
/-- GlacierMailLaw.log -/
noncomputable def pl_h232 : ck_Sum := ((7, 1, 6), 249, [.inr (.inr (.inl 1)), .inl (0, 23, []), .inl (0, 9, []), .inr (.inr (.inl 245))], ([], [], []), ([(245, 0, 0)], []), [(.inr (some (.inl (ck_one 0))), 249, ([], [], [(245, 0, 0, ((-1), 299, []))])), (.inr (some (.inl (ck_one 1))), 249, ([], [], []))])
set_option maxRecDepth 100000 in
theorem pl_h232_s {X : Int → Int} {LX : Nat} : ck_Ok p2_OL X LX 232 pl_h232 := ck_ok_s (O := p2_OL) (X := X) (LX := LX) (E := [(233, [pl_s874])]) (mi := 232) (cuts := []) (f := 92) (S := pl_h232) (lx := none) (XF := []) ⟨pl_nmu, ck_E1 (ck_S1 pl_s874_s ck_S0) ck_E0⟩ ck_X0 ck_l0 (by decide +kernel)
end
