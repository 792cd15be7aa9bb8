/-! 78r88l04.hp -/
section
/-! THE LAW'S OWN METHODS (laid by wip/am/p2n.py). -/
set_option maxRecDepth 100000 in
/-- GlacierMailLaw.throwsFor -/
noncomputable def pl_h124 : ck_Sum := ((9, 1, 6), 249, [.inr (.inr (.inl 1)), .inl ((-2147483648), (-1), []), .inl ((-2147483648), 2147483647, []), .inl ((-2147483648), 2147483647, []), .inl ((-2147483648), 2147483647, []), .inr (.inr (.inl 245))], ([], [], []), ([], []), [(.inr (some (.inl (ck_one 1))), 249, ([], [], []))])
set_option maxRecDepth 100000 in
theorem pl_h124_s {X : Int → Int} {LX : Nat} : ck_Ok p2_OL X LX 166 pl_h124 := ck_ok_s (O := p2_OL) (X := X) (LX := LX) (E := [(167, [pl_s683])]) (mi := 166) (cuts := []) (f := 92) (S := pl_h124) (lx := none) (XF := []) ⟨pl_nmu, ck_E1 (ck_S1 pl_s683_s ck_S0) ck_E0⟩ ck_X0 ck_l0 (by decide +kernel)
set_option maxRecDepth 100000 in
/-- GlacierMailLaw.throwsFor -/
noncomputable def pl_h125 : ck_Sum := ((9, 1, 6), 249, [.inr (.inr (.inl 1)), .inl (6, 2147483647, []), .inl ((-2147483648), 2147483647, []), .inl ((-2147483648), 2147483647, []), .inl ((-2147483648), 2147483647, []), .inr (.inr (.inl 245))], ([], [], []), ([], []), [(.inr (some (.inl (ck_one 1))), 249, ([], [], []))])
set_option maxRecDepth 100000 in
theorem pl_h125_s {X : Int → Int} {LX : Nat} : ck_Ok p2_OL X LX 166 pl_h125 := ck_ok_s (O := p2_OL) (X := X) (LX := LX) (E := [(167, [pl_s684])]) (mi := 166) (cuts := []) (f := 92) (S := pl_h125) (lx := none) (XF := []) ⟨pl_nmu, ck_E1 (ck_S1 pl_s684_s ck_S0) ck_E0⟩ ck_X0 ck_l0 (by decide +kernel)
set_option maxRecDepth 100000 in
/-- GlacierMailLaw.throwsFor -/
noncomputable def pl_h126 : ck_Sum := ((9, 2, 12), 249, [.inr (.inr (.inl 1)), .inl (0, 5, []), .inl ((-2147483648), (-1), []), .inl ((-2147483648), 2147483647, []), .inl ((-2147483648), 2147483647, []), .inr (.inr (.inl 245))], ([], [], []), ([], []), [(.inr (some (.inl (ck_one 1))), 249, ([], [], [])), (.inr (some (.inl (ck_one 2))), 249, ([], [], []))])
set_option maxRecDepth 100000 in
theorem pl_h126_s {X : Int → Int} {LX : Nat} : ck_Ok p2_OL X LX 166 pl_h126 := ck_ok_s (O := p2_OL) (X := X) (LX := LX) (E := [(167, [pl_s685])]) (mi := 166) (cuts := []) (f := 92) (S := pl_h126) (lx := none) (XF := []) ⟨pl_nmu, ck_E1 (ck_S1 pl_s685_s ck_S0) ck_E0⟩ ck_X0 ck_l0 (by decide +kernel)
set_option maxRecDepth 100000 in
/-- GlacierMailLaw.throwsFor -/
noncomputable def pl_h127 : ck_Sum := ((9, 2, 12), 249, [.inr (.inr (.inl 1)), .inl (0, 5, []), .inl (300, 2147483647, []), .inl ((-2147483648), 2147483647, []), .inl ((-2147483648), 2147483647, []), .inr (.inr (.inl 245))], ([], [], []), ([], []), [(.inr (some (.inl (ck_one 1))), 249, ([], [], [])), (.inr (some (.inl (ck_one 2))), 249, ([], [], []))])
set_option maxRecDepth 100000 in
theorem pl_h127_s {X : Int → Int} {LX : Nat} : ck_Ok p2_OL X LX 166 pl_h127 := ck_ok_s (O := p2_OL) (X := X) (LX := LX) (E := [(167, [pl_s686])]) (mi := 166) (cuts := []) (f := 92) (S := pl_h127) (lx := none) (XF := []) ⟨pl_nmu, ck_E1 (ck_S1 pl_s686_s ck_S0) ck_E0⟩ ck_X0 ck_l0 (by decide +kernel)
set_option maxRecDepth 100000 in
/-- GlacierMailLaw.throwsFor -/
noncomputable def pl_h128 : ck_Sum := ((9, 2, 12), 249, [.inr (.inr (.inl 1)), .inl (0, 5, []), .inl (0, 299, []), .inl ((-2147483648), (-1), []), .inl ((-2147483648), 2147483647, []), .inr (.inr (.inl 245))], ([], [], []), ([], []), [(.inr (some (.inl (ck_one 1))), 249, ([], [], [])), (.inr (some (.inl (ck_one 2))), 249, ([], [], []))])
set_option maxRecDepth 100000 in
theorem pl_h128_s {X : Int → Int} {LX : Nat} : ck_Ok p2_OL X LX 166 pl_h128 := ck_ok_s (O := p2_OL) (X := X) (LX := LX) (E := [(167, [pl_s687])]) (mi := 166) (cuts := []) (f := 92) (S := pl_h128) (lx := none) (XF := []) ⟨pl_nmu, ck_E1 (ck_S1 pl_s687_s ck_S0) ck_E0⟩ ck_X0 ck_l0 (by decide +kernel)
set_option maxRecDepth 100000 in
/-- GlacierMailLaw.throwsFor -/
noncomputable def pl_h129 : ck_Sum := ((9, 2, 12), 249, [.inr (.inr (.inl 1)), .inl (0, 5, []), .inl (0, 299, []), .inl (300, 2147483647, []), .inl ((-2147483648), 2147483647, []), .inr (.inr (.inl 245))], ([], [], []), ([], []), [(.inr (some (.inl (ck_one 1))), 249, ([], [], [])), (.inr (some (.inl (ck_one 2))), 249, ([], [], []))])
set_option maxRecDepth 100000 in
theorem pl_h129_s {X : Int → Int} {LX : Nat} : ck_Ok p2_OL X LX 166 pl_h129 := ck_ok_s (O := p2_OL) (X := X) (LX := LX) (E := [(167, [pl_s688])]) (mi := 166) (cuts := []) (f := 92) (S := pl_h129) (lx := none) (XF := []) ⟨pl_nmu, ck_E1 (ck_S1 pl_s688_s ck_S0) ck_E0⟩ ck_X0 ck_l0 (by decide +kernel)
set_option maxRecDepth 100000 in
/-- GlacierMailLaw.throwsFor -/
noncomputable def pl_h130 : ck_Sum := ((9, 2, 12), 249, [.inr (.inr (.inl 1)), .inl (0, 5, []), .inl (0, 299, []), .inl (0, 299, []), .inl ((-2147483648), (-1), []), .inr (.inr (.inl 245))], ([], [], [(3, 6, 6, (0, 299, [(10, 0)]))]), ([], []), zl283)
set_option maxRecDepth 100000 in
theorem pl_h130_s {X : Int → Int} {LX : Nat} : ck_Ok p2_OL X LX 166 pl_h130 := ck_ok_s (O := p2_OL) (X := X) (LX := LX) (E := [(167, [pl_s689])]) (mi := 166) (cuts := []) (f := 92) (S := pl_h130) (lx := none) (XF := []) ⟨pl_nmu, ck_E1 (ck_S1 pl_s689_s ck_S0) ck_E0⟩ ck_X0 ck_l0 (by decide +kernel)
set_option maxRecDepth 100000 in
/-- GlacierMailLaw.throwsFor -/
noncomputable def pl_h131 : ck_Sum := ((9, 2, 12), 249, [.inr (.inr (.inl 1)), .inl (0, 5, []), .inl (0, 299, []), .inl (0, 299, []), .inl (10, 2147483647, []), .inr (.inr (.inl 245))], ([], [], [(3, 6, 6, (0, 299, [(10, 0)]))]), ([], []), zl283)
set_option maxRecDepth 100000 in
theorem pl_h131_s {X : Int → Int} {LX : Nat} : ck_Ok p2_OL X LX 166 pl_h131 := ck_ok_s (O := p2_OL) (X := X) (LX := LX) (E := [(167, [pl_s690])]) (mi := 166) (cuts := []) (f := 92) (S := pl_h131) (lx := none) (XF := []) ⟨pl_nmu, ck_E1 (ck_S1 pl_s690_s ck_S0) ck_E0⟩ ck_X0 ck_l0 (by decide +kernel)
set_option maxRecDepth 100000 in
/-- GlacierMailLaw.latest -/
noncomputable def pl_h133 : ck_Sum := ((9, 1, 6), 249, [.inr (.inr (.inl 1)), .inl ((-2147483648), (-1), []), .inl ((-2147483648), 2147483647, []), .inr (.inr (.inl 245))], ([], [], []), ([], []), [(.inr (some (.inl (ck_one 1))), 249, ([], [], []))])
set_option maxRecDepth 100000 in
theorem pl_h133_s {X : Int → Int} {LX : Nat} : ck_Ok p2_OL X LX 168 pl_h133 := ck_ok_s (O := p2_OL) (X := X) (LX := LX) (E := [(169, [pl_s693])]) (mi := 168) (cuts := []) (f := 88) (S := pl_h133) (lx := none) (XF := []) ⟨pl_nmu, ck_E1 (ck_S1 pl_s693_s ck_S0) ck_E0⟩ ck_X0 ck_l0 (by decide +kernel)
set_option maxRecDepth 100000 in
/-- GlacierMailLaw.latest -/
noncomputable def pl_h134 : ck_Sum := ((9, 1, 6), 249, [.inr (.inr (.inl 1)), .inl (8, 2147483647, []), .inl ((-2147483648), 2147483647, []), .inr (.inr (.inl 245))], ([], [], []), ([], []), [(.inr (some (.inl (ck_one 1))), 249, ([], [], []))])
set_option maxRecDepth 100000 in
theorem pl_h134_s {X : Int → Int} {LX : Nat} : ck_Ok p2_OL X LX 168 pl_h134 := ck_ok_s (O := p2_OL) (X := X) (LX := LX) (E := [(169, [pl_s694])]) (mi := 168) (cuts := []) (f := 88) (S := pl_h134) (lx := none) (XF := []) ⟨pl_nmu, ck_E1 (ck_S1 pl_s694_s ck_S0) ck_E0⟩ ck_X0 ck_l0 (by decide +kernel)
set_option maxRecDepth 100000 in
/-- GlacierMailLaw.latest -/
noncomputable def pl_h135 : ck_Sum := ((9, 2, 12), 249, [.inr (.inr (.inl 1)), .inl (0, 7, []), .inl ((-2147483648), (-1), []), .inr (.inr (.inl 245))], ([], [], []), ([], []), [(.inr (some (.inl (ck_one 1))), 249, ([], [], [])), (.inr (some (.inl (ck_one 2))), 249, ([], [], []))])
set_option maxRecDepth 100000 in
theorem pl_h135_s {X : Int → Int} {LX : Nat} : ck_Ok p2_OL X LX 168 pl_h135 := ck_ok_s (O := p2_OL) (X := X) (LX := LX) (E := [(169, [pl_s695])]) (mi := 168) (cuts := []) (f := 88) (S := pl_h135) (lx := none) (XF := []) ⟨pl_nmu, ck_E1 (ck_S1 pl_s695_s ck_S0) ck_E0⟩ ck_X0 ck_l0 (by decide +kernel)
set_option maxRecDepth 100000 in
/-- GlacierMailLaw.latest -/
noncomputable def pl_h136 : ck_Sum := ((9, 2, 12), 249, [.inr (.inr (.inl 1)), .inl (0, 7, []), .inl (300, 2147483647, []), .inr (.inr (.inl 245))], ([], [], []), ([], []), [(.inr (some (.inl (ck_one 1))), 249, ([], [], [])), (.inr (some (.inl (ck_one 2))), 249, ([], [], []))])
set_option maxRecDepth 100000 in
theorem pl_h136_s {X : Int → Int} {LX : Nat} : ck_Ok p2_OL X LX 168 pl_h136 := ck_ok_s (O := p2_OL) (X := X) (LX := LX) (E := [(169, [pl_s696])]) (mi := 168) (cuts := []) (f := 88) (S := pl_h136) (lx := none) (XF := []) ⟨pl_nmu, ck_E1 (ck_S1 pl_s696_s ck_S0) ck_E0⟩ ck_X0 ck_l0 (by decide +kernel)
set_option maxRecDepth 100000 in
/-- GlacierMailLaw.hut -/
noncomputable def pl_h138 : ck_Sum := ((9, 1, 6), 249, [.inr (.inr (.inl 1)), .inl ((-2147483648), (-1), []), .inl ((-2147483648), 2147483647, []), .inr (.inr (.inl 245))], ([], [], []), ([], []), [(.inr (some (.inl (ck_one 1))), 249, ([], [], []))])
set_option maxRecDepth 100000 in
theorem pl_h138_s {X : Int → Int} {LX : Nat} : ck_Ok p2_OL X LX 171 pl_h138 := ck_ok_s (O := p2_OL) (X := X) (LX := LX) (E := [(172, [pl_s699])]) (mi := 171) (cuts := []) (f := 88) (S := pl_h138) (lx := none) (XF := []) ⟨pl_nmu, ck_E1 (ck_S1 pl_s699_s ck_S0) ck_E0⟩ ck_X0 ck_l0 (by decide +kernel)
set_option maxRecDepth 100000 in
/-- GlacierMailLaw.hut -/
noncomputable def pl_h139 : ck_Sum := ((9, 1, 6), 249, [.inr (.inr (.inl 1)), .inl (6, 2147483647, []), .inl ((-2147483648), 2147483647, []), .inr (.inr (.inl 245))], ([], [], []), ([], []), [(.inr (some (.inl (ck_one 1))), 249, ([], [], []))])
set_option maxRecDepth 100000 in
theorem pl_h139_s {X : Int → Int} {LX : Nat} : ck_Ok p2_OL X LX 171 pl_h139 := ck_ok_s (O := p2_OL) (X := X) (LX := LX) (E := [(172, [pl_s700])]) (mi := 171) (cuts := []) (f := 88) (S := pl_h139) (lx := none) (XF := []) ⟨pl_nmu, ck_E1 (ck_S1 pl_s700_s ck_S0) ck_E0⟩ ck_X0 ck_l0 (by decide +kernel)
set_option maxRecDepth 100000 in
/-- GlacierMailLaw.hut -/
noncomputable def pl_h140 : ck_Sum := ((9, 2, 12), 249, [.inr (.inr (.inl 1)), .inl (0, 5, []), .inl ((-2147483648), (-1), []), .inr (.inr (.inl 245))], ([], [], []), ([], []), [(.inr (some (.inl (ck_one 1))), 249, ([], [], [])), (.inr (some (.inl (ck_one 2))), 249, ([], [], []))])
set_option maxRecDepth 100000 in
theorem pl_h140_s {X : Int → Int} {LX : Nat} : ck_Ok p2_OL X LX 171 pl_h140 := ck_ok_s (O := p2_OL) (X := X) (LX := LX) (E := [(172, [pl_s701])]) (mi := 171) (cuts := []) (f := 88) (S := pl_h140) (lx := none) (XF := []) ⟨pl_nmu, ck_E1 (ck_S1 pl_s701_s ck_S0) ck_E0⟩ ck_X0 ck_l0 (by decide +kernel)
set_option maxRecDepth 100000 in
/-- GlacierMailLaw.hut -/
noncomputable def pl_h141 : ck_Sum := ((9, 2, 12), 249, [.inr (.inr (.inl 1)), .inl (0, 5, []), .inl (300, 2147483647, []), .inr (.inr (.inl 245))], ([], [], []), ([], []), [(.inr (some (.inl (ck_one 1))), 249, ([], [], [])), (.inr (some (.inl (ck_one 2))), 249, ([], [], []))])
set_option maxRecDepth 100000 in
theorem pl_h141_s {X : Int → Int} {LX : Nat} : ck_Ok p2_OL X LX 171 pl_h141 := ck_ok_s (O := p2_OL) (X := X) (LX := LX) (E := [(172, [pl_s702])]) (mi := 171) (cuts := []) (f := 88) (S := pl_h141) (lx := none) (XF := []) ⟨pl_nmu, ck_E1 (ck_S1 pl_s702_s ck_S0) ck_E0⟩ ck_X0 ck_l0 (by decide +kernel)
set_option maxRecDepth 100000 in
/-- GlacierMailLaw.without -/
noncomputable def pl_h143 : ck_Sum := ((9, 1, 6), 249, [.inr (.inr (.inl 1)), .inl ((-2147483648), (-1), []), .inl ((-2147483648), 2147483647, []), .inr (.inr (.inl 245))], ([], [], []), ([], []), [(.inr (some (.inl (ck_one 1))), 249, ([], [], []))])
set_option maxRecDepth 100000 in
theorem pl_h143_s {X : Int → Int} {LX : Nat} : ck_Ok p2_OL X LX 173 pl_h143 := ck_ok_s (O := p2_OL) (X := X) (LX := LX) (E := [(174, [pl_s704])]) (mi := 173) (cuts := []) (f := 88) (S := pl_h143) (lx := none) (XF := []) ⟨pl_nmu, ck_E1 (ck_S1 pl_s704_s ck_S0) ck_E0⟩ ck_X0 ck_l0 (by decide +kernel)
set_option maxRecDepth 100000 in
/-- GlacierMailLaw.without -/
noncomputable def pl_h144 : ck_Sum := ((9, 1, 6), 249, [.inr (.inr (.inl 1)), .inl (24, 2147483647, []), .inl ((-2147483648), 2147483647, []), .inr (.inr (.inl 245))], ([], [], []), ([], []), [(.inr (some (.inl (ck_one 1))), 249, ([], [], []))])
set_option maxRecDepth 100000 in
theorem pl_h144_s {X : Int → Int} {LX : Nat} : ck_Ok p2_OL X LX 173 pl_h144 := ck_ok_s (O := p2_OL) (X := X) (LX := LX) (E := [(174, [pl_s705])]) (mi := 173) (cuts := []) (f := 88) (S := pl_h144) (lx := none) (XF := []) ⟨pl_nmu, ck_E1 (ck_S1 pl_s705_s ck_S0) ck_E0⟩ ck_X0 ck_l0 (by decide +kernel)
set_option maxRecDepth 100000 in
/-- GlacierMailLaw.without -/
noncomputable def pl_h145 : ck_Sum := ((9, 2, 12), 249, [.inr (.inr (.inl 1)), .inl (0, 23, []), .inl ((-2147483648), (-1), []), .inr (.inr (.inl 245))], ([], [], []), ([], []), [(.inr (some (.inl (ck_one 1))), 249, ([], [], []))])
set_option maxRecDepth 100000 in
theorem pl_h145_s {X : Int → Int} {LX : Nat} : ck_Ok p2_OL X LX 173 pl_h145 := ck_ok_s (O := p2_OL) (X := X) (LX := LX) (E := [(174, [pl_s706])]) (mi := 173) (cuts := []) (f := 88) (S := pl_h145) (lx := none) (XF := []) ⟨pl_nmu, ck_E1 (ck_S1 pl_s706_s ck_S0) ck_E0⟩ ck_X0 ck_l0 (by decide +kernel)
set_option maxRecDepth 100000 in
/-- GlacierMailLaw.without -/
noncomputable def pl_h146 : ck_Sum := ((9, 2, 12), 249, [.inr (.inr (.inl 1)), .inl (0, 23, []), .inl (8, 2147483647, []), .inr (.inr (.inl 245))], ([], [], []), ([], []), [(.inr (some (.inl (ck_one 1))), 249, ([], [], []))])
set_option maxRecDepth 100000 in
theorem pl_h146_s {X : Int → Int} {LX : Nat} : ck_Ok p2_OL X LX 173 pl_h146 := ck_ok_s (O := p2_OL) (X := X) (LX := LX) (E := [(174, [pl_s707])]) (mi := 173) (cuts := []) (f := 88) (S := pl_h146) (lx := none) (XF := []) ⟨pl_nmu, ck_E1 (ck_S1 pl_s707_s ck_S0) ck_E0⟩ ck_X0 ck_l0 (by decide +kernel)
set_option maxRecDepth 100000 in
/-- GlacierMailLaw.moved -/
noncomputable def pl_h148 : ck_Sum := ((9, 1, 6), 249, [.inr (.inr (.inl 1)), .inl ((-2147483648), (-1), []), .inr (.inr (.inl 245))], ([], [], []), ([], []), [(.inr (some (.inl (ck_one 1))), 249, ([], [], []))])
set_option maxRecDepth 100000 in
theorem pl_h148_s {X : Int → Int} {LX : Nat} : ck_Ok p2_OL X LX 176 pl_h148 := ck_ok_s (O := p2_OL) (X := X) (LX := LX) (E := [(177, [pl_s710])]) (mi := 176) (cuts := []) (f := 86) (S := pl_h148) (lx := none) (XF := []) ⟨pl_nmu, ck_E1 (ck_S1 pl_s710_s ck_S0) ck_E0⟩ ck_X0 ck_l0 (by decide +kernel)
set_option maxRecDepth 100000 in
/-- GlacierMailLaw.moved -/
noncomputable def pl_h149 : ck_Sum := ((9, 1, 6), 249, [.inr (.inr (.inl 1)), .inl (24, 2147483647, []), .inr (.inr (.inl 245))], ([], [], []), ([], []), [(.inr (some (.inl (ck_one 1))), 249, ([], [], []))])
set_option maxRecDepth 100000 in
theorem pl_h149_s {X : Int → Int} {LX : Nat} : ck_Ok p2_OL X LX 176 pl_h149 := ck_ok_s (O := p2_OL) (X := X) (LX := LX) (E := [(177, [pl_s711])]) (mi := 176) (cuts := []) (f := 86) (S := pl_h149) (lx := none) (XF := []) ⟨pl_nmu, ck_E1 (ck_S1 pl_s711_s ck_S0) ck_E0⟩ ck_X0 ck_l0 (by decide +kernel)
set_option maxRecDepth 100000 in
/-- GlacierMailLaw.passes -/
noncomputable def pl_h151 : ck_Sum := ((9, 1, 6), 249, [.inr (.inr (.inl 1)), .inl ((-2147483648), (-1), []), .inr (.inr (.inl 245))], ([], [], []), ([], []), [(.inr (some (.inl (ck_one 1))), 249, ([], [], []))])
set_option maxRecDepth 100000 in
theorem pl_h151_s {X : Int → Int} {LX : Nat} : ck_Ok p2_OL X LX 178 pl_h151 := ck_ok_s (O := p2_OL) (X := X) (LX := LX) (E := [(179, [pl_s716])]) (mi := 178) (cuts := []) (f := 86) (S := pl_h151) (lx := none) (XF := []) ⟨pl_nmu, ck_E1 (ck_S1 pl_s716_s ck_S0) ck_E0⟩ ck_X0 ck_l0 (by decide +kernel)
set_option maxRecDepth 100000 in
/-- GlacierMailLaw.passes -/
noncomputable def pl_h152 : ck_Sum := ((9, 1, 6), 249, [.inr (.inr (.inl 1)), .inl (24, 2147483647, []), .inr (.inr (.inl 245))], ([], [], []), ([], []), [(.inr (some (.inl (ck_one 1))), 249, ([], [], []))])
set_option maxRecDepth 100000 in
theorem pl_h152_s {X : Int → Int} {LX : Nat} : ck_Ok p2_OL X LX 178 pl_h152 := ck_ok_s (O := p2_OL) (X := X) (LX := LX) (E := [(179, [pl_s717])]) (mi := 178) (cuts := []) (f := 86) (S := pl_h152) (lx := none) (XF := []) ⟨pl_nmu, ck_E1 (ck_S1 pl_s717_s ck_S0) ck_E0⟩ ck_X0 ck_l0 (by decide +kernel)
set_option maxRecDepth 100000 in
/-- GlacierMailLaw.writers -/
noncomputable def pl_h154 : ck_Sum := ((9, 1, 6), 249, [.inr (.inr (.inl 1)), .inl ((-2147483648), (-1), []), .inl ((-2147483648), 2147483647, []), .inl ((-2147483648), 2147483647, []), .inr (.inr (.inl 245))], ([], [], []), ([], []), [(.inr (some (.inl (ck_one 1))), 249, ([], [], []))])
set_option maxRecDepth 100000 in
theorem pl_h154_s {X : Int → Int} {LX : Nat} : ck_Ok p2_OL X LX 185 pl_h154 := ck_ok_s (O := p2_OL) (X := X) (LX := LX) (E := [(186, [pl_s732])]) (mi := 185) (cuts := []) (f := 90) (S := pl_h154) (lx := none) (XF := []) ⟨pl_nmu, ck_E1 (ck_S1 pl_s732_s ck_S0) ck_E0⟩ ck_X0 ck_l0 (by decide +kernel)
set_option maxRecDepth 100000 in
/-- GlacierMailLaw.writers -/
noncomputable def pl_h155 : ck_Sum := ((9, 1, 6), 249, [.inr (.inr (.inl 1)), .inl (6, 2147483647, []), .inl ((-2147483648), 2147483647, []), .inl ((-2147483648), 2147483647, []), .inr (.inr (.inl 245))], ([], [], []), ([], []), [(.inr (some (.inl (ck_one 1))), 249, ([], [], []))])
set_option maxRecDepth 100000 in
theorem pl_h155_s {X : Int → Int} {LX : Nat} : ck_Ok p2_OL X LX 185 pl_h155 := ck_ok_s (O := p2_OL) (X := X) (LX := LX) (E := [(186, [pl_s733])]) (mi := 185) (cuts := []) (f := 90) (S := pl_h155) (lx := none) (XF := []) ⟨pl_nmu, ck_E1 (ck_S1 pl_s733_s ck_S0) ck_E0⟩ ck_X0 ck_l0 (by decide +kernel)
set_option maxRecDepth 100000 in
/-- GlacierMailLaw.writers -/
noncomputable def pl_h156 : ck_Sum := ((9, 2, 12), 249, [.inr (.inr (.inl 1)), .inl (0, 5, []), .inl ((-2147483648), (-1), []), .inl ((-2147483648), 2147483647, []), .inr (.inr (.inl 245))], ([], [], []), ([], []), [(.inr (some (.inl (ck_one 1))), 249, ([], [], [])), (.inr (some (.inl (ck_one 2))), 249, ([], [], []))])
set_option maxRecDepth 100000 in
theorem pl_h156_s {X : Int → Int} {LX : Nat} : ck_Ok p2_OL X LX 185 pl_h156 := ck_ok_s (O := p2_OL) (X := X) (LX := LX) (E := [(186, [pl_s735])]) (mi := 185) (cuts := []) (f := 90) (S := pl_h156) (lx := none) (XF := []) ⟨pl_nmu, ck_E1 (ck_S1 pl_s735_s ck_S0) ck_E0⟩ ck_X0 ck_l0 (by decide +kernel)
set_option maxRecDepth 100000 in
/-- GlacierMailLaw.writers -/
noncomputable def pl_h157 : ck_Sum := ((9, 2, 12), 249, [.inr (.inr (.inl 1)), .inl (0, 5, []), .inl (300, 2147483647, []), .inl ((-2147483648), 2147483647, []), .inr (.inr (.inl 245))], ([], [], []), ([], []), [(.inr (some (.inl (ck_one 1))), 249, ([], [], [])), (.inr (some (.inl (ck_one 2))), 249, ([], [], []))])
set_option maxRecDepth 100000 in
theorem pl_h157_s {X : Int → Int} {LX : Nat} : ck_Ok p2_OL X LX 185 pl_h157 := ck_ok_s (O := p2_OL) (X := X) (LX := LX) (E := [(186, [pl_s737])]) (mi := 185) (cuts := []) (f := 90) (S := pl_h157) (lx := none) (XF := []) ⟨pl_nmu, ck_E1 (ck_S1 pl_s737_s ck_S0) ck_E0⟩ ck_X0 ck_l0 (by decide +kernel)
set_option maxRecDepth 100000 in
/-- GlacierMailLaw.writers -/
noncomputable def pl_h158 : ck_Sum := ((9, 2, 12), 249, [.inr (.inr (.inl 1)), .inl (0, 5, []), .inl (0, 299, []), .inl ((-2147483648), (-1), []), .inr (.inr (.inl 245))], ([], [], []), ([], []), [(.inr (some (.inl (ck_one 1))), 249, ([], [], [])), (.inr (some (.inl (ck_one 2))), 249, ([], [], []))])
set_option maxRecDepth 100000 in
theorem pl_h158_s {X : Int → Int} {LX : Nat} : ck_Ok p2_OL X LX 185 pl_h158 := ck_ok_s (O := p2_OL) (X := X) (LX := LX) (E := [(186, [pl_s739])]) (mi := 185) (cuts := []) (f := 90) (S := pl_h158) (lx := none) (XF := []) ⟨pl_nmu, ck_E1 (ck_S1 pl_s739_s ck_S0) ck_E0⟩ ck_X0 ck_l0 (by decide +kernel)
set_option maxRecDepth 100000 in
/-- GlacierMailLaw.writers -/
noncomputable def pl_h159 : ck_Sum := ((9, 2, 12), 249, [.inr (.inr (.inl 1)), .inl (0, 5, []), .inl (0, 299, []), .inl (100, 2147483647, []), .inr (.inr (.inl 245))], ([], [], []), ([], []), [(.inr (some (.inl (ck_one 1))), 249, ([], [], [])), (.inr (some (.inl (ck_one 2))), 249, ([], [], []))])
set_option maxRecDepth 100000 in
theorem pl_h159_s {X : Int → Int} {LX : Nat} : ck_Ok p2_OL X LX 185 pl_h159 := ck_ok_s (O := p2_OL) (X := X) (LX := LX) (E := [(186, [pl_s741])]) (mi := 185) (cuts := []) (f := 90) (S := pl_h159) (lx := none) (XF := []) ⟨pl_nmu, ck_E1 (ck_S1 pl_s741_s ck_S0) ck_E0⟩ ck_X0 ck_l0 (by decide +kernel)
set_option maxRecDepth 100000 in
/-- GlacierMailLaw.wrote -/
noncomputable def pl_h161 : ck_Sum := ((9, 1, 6), 249, [.inr (.inr (.inl 1)), .inl ((-2147483648), (-1), []), .inl ((-2147483648), 2147483647, []), .inl ((-2147483648), 2147483647, []), .inl ((-2147483648), 2147483647, []), .inr (.inr (.inl 245))], ([], [], []), ([], []), [(.inr (some (.inl (ck_one 1))), 249, ([], [], []))])
set_option maxRecDepth 100000 in
theorem pl_h161_s {X : Int → Int} {LX : Nat} : ck_Ok p2_OL X LX 189 pl_h161 := ck_ok_s (O := p2_OL) (X := X) (LX := LX) (E := [(190, [pl_s745])]) (mi := 189) (cuts := []) (f := 92) (S := pl_h161) (lx := none) (XF := []) ⟨pl_nmu, ck_E1 (ck_S1 pl_s745_s ck_S0) ck_E0⟩ ck_X0 ck_l0 (by decide +kernel)
set_option maxRecDepth 100000 in
/-- GlacierMailLaw.wrote -/
noncomputable def pl_h162 : ck_Sum := ((9, 1, 6), 249, [.inr (.inr (.inl 1)), .inl (8, 2147483647, []), .inl ((-2147483648), 2147483647, []), .inl ((-2147483648), 2147483647, []), .inl ((-2147483648), 2147483647, []), .inr (.inr (.inl 245))], ([], [], []), ([], []), [(.inr (some (.inl (ck_one 1))), 249, ([], [], []))])
set_option maxRecDepth 100000 in
theorem pl_h162_s {X : Int → Int} {LX : Nat} : ck_Ok p2_OL X LX 189 pl_h162 := ck_ok_s (O := p2_OL) (X := X) (LX := LX) (E := [(190, [pl_s746])]) (mi := 189) (cuts := []) (f := 92) (S := pl_h162) (lx := none) (XF := []) ⟨pl_nmu, ck_E1 (ck_S1 pl_s746_s ck_S0) ck_E0⟩ ck_X0 ck_l0 (by decide +kernel)
set_option maxRecDepth 100000 in
/-- GlacierMailLaw.wrote -/
noncomputable def pl_h163 : ck_Sum := ((9, 2, 12), 249, [.inr (.inr (.inl 1)), .inl (0, 7, []), .inl ((-2147483648), (-1), []), .inl ((-2147483648), 2147483647, []), .inl ((-2147483648), 2147483647, []), .inr (.inr (.inl 245))], ([], [], []), ([], []), [(.inr (some (.inl (ck_one 1))), 249, ([], [], []))])
set_option maxRecDepth 100000 in
theorem pl_h163_s {X : Int → Int} {LX : Nat} : ck_Ok p2_OL X LX 189 pl_h163 := ck_ok_s (O := p2_OL) (X := X) (LX := LX) (E := [(190, [pl_s747])]) (mi := 189) (cuts := []) (f := 92) (S := pl_h163) (lx := none) (XF := []) ⟨pl_nmu, ck_E1 (ck_S1 pl_s747_s ck_S0) ck_E0⟩ ck_X0 ck_l0 (by decide +kernel)
set_option maxRecDepth 100000 in
/-- GlacierMailLaw.wrote -/
noncomputable def pl_h164 : ck_Sum := ((9, 2, 12), 249, [.inr (.inr (.inl 1)), .inl (0, 7, []), .inl (6, 2147483647, []), .inl ((-2147483648), 2147483647, []), .inl ((-2147483648), 2147483647, []), .inr (.inr (.inl 245))], ([], [], []), ([], []), [(.inr (some (.inl (ck_one 1))), 249, ([], [], []))])
set_option maxRecDepth 100000 in
theorem pl_h164_s {X : Int → Int} {LX : Nat} : ck_Ok p2_OL X LX 189 pl_h164 := ck_ok_s (O := p2_OL) (X := X) (LX := LX) (E := [(190, [pl_s748])]) (mi := 189) (cuts := []) (f := 92) (S := pl_h164) (lx := none) (XF := []) ⟨pl_nmu, ck_E1 (ck_S1 pl_s748_s ck_S0) ck_E0⟩ ck_X0 ck_l0 (by decide +kernel)
set_option maxRecDepth 100000 in
/-- GlacierMailLaw.wrote -/
noncomputable def pl_h165 : ck_Sum := ((9, 3, 18), 249, [.inr (.inr (.inl 1)), .inl (0, 7, []), .inl (0, 5, []), .inl ((-2147483648), (-1), []), .inl ((-2147483648), 2147483647, []), .inr (.inr (.inl 245))], ([], [], []), ([], []), [(.inr (some (.inl (ck_one 1))), 249, ([], [], [])), (.inr (some (.inl (ck_one 2))), 249, ([], [], []))])
set_option maxRecDepth 100000 in
theorem pl_h165_s {X : Int → Int} {LX : Nat} : ck_Ok p2_OL X LX 189 pl_h165 := ck_ok_s (O := p2_OL) (X := X) (LX := LX) (E := [(190, [pl_s749])]) (mi := 189) (cuts := []) (f := 92) (S := pl_h165) (lx := none) (XF := []) ⟨pl_nmu, ck_E1 (ck_S1 pl_s749_s ck_S0) ck_E0⟩ ck_X0 ck_l0 (by decide +kernel)
set_option maxRecDepth 100000 in
/-- GlacierMailLaw.wrote -/
noncomputable def pl_h166 : ck_Sum := ((9, 3, 18), 249, [.inr (.inr (.inl 1)), .inl (0, 7, []), .inl (0, 5, []), .inl (300, 2147483647, []), .inl ((-2147483648), 2147483647, []), .inr (.inr (.inl 245))], ([], [], []), ([], []), [(.inr (some (.inl (ck_one 1))), 249, ([], [], [])), (.inr (some (.inl (ck_one 2))), 249, ([], [], []))])
set_option maxRecDepth 100000 in
theorem pl_h166_s {X : Int → Int} {LX : Nat} : ck_Ok p2_OL X LX 189 pl_h166 := ck_ok_s (O := p2_OL) (X := X) (LX := LX) (E := [(190, [pl_s750])]) (mi := 189) (cuts := []) (f := 92) (S := pl_h166) (lx := none) (XF := []) ⟨pl_nmu, ck_E1 (ck_S1 pl_s750_s ck_S0) ck_E0⟩ ck_X0 ck_l0 (by decide +kernel)
set_option maxRecDepth 100000 in
/-- GlacierMailLaw.wrote -/
noncomputable def pl_h167 : ck_Sum := ((9, 3, 18), 249, [.inr (.inr (.inl 1)), .inl (0, 7, []), .inl (0, 5, []), .inl (0, 299, []), .inl ((-2147483648), (-1), []), .inr (.inr (.inl 245))], ([], [], []), ([], []), [(.inr (some (.inl (ck_one 1))), 249, ([], [], [])), (.inr (some (.inl (ck_one 2))), 249, ([], [], []))])
set_option maxRecDepth 100000 in
theorem pl_h167_s {X : Int → Int} {LX : Nat} : ck_Ok p2_OL X LX 189 pl_h167 := ck_ok_s (O := p2_OL) (X := X) (LX := LX) (E := [(190, [pl_s751])]) (mi := 189) (cuts := []) (f := 92) (S := pl_h167) (lx := none) (XF := []) ⟨pl_nmu, ck_E1 (ck_S1 pl_s751_s ck_S0) ck_E0⟩ ck_X0 ck_l0 (by decide +kernel)
set_option maxRecDepth 100000 in
/-- GlacierMailLaw.wrote -/
noncomputable def pl_h168 : ck_Sum := ((9, 3, 18), 249, [.inr (.inr (.inl 1)), .inl (0, 7, []), .inl (0, 5, []), .inl (0, 299, []), .inl (100, 2147483647, []), .inr (.inr (.inl 245))], ([], [], []), ([], []), [(.inr (some (.inl (ck_one 1))), 249, ([], [], [])), (.inr (some (.inl (ck_one 2))), 249, ([], [], []))])
set_option maxRecDepth 100000 in
theorem pl_h168_s {X : Int → Int} {LX : Nat} : ck_Ok p2_OL X LX 189 pl_h168 := ck_ok_s (O := p2_OL) (X := X) (LX := LX) (E := [(190, [pl_s752])]) (mi := 189) (cuts := []) (f := 92) (S := pl_h168) (lx := none) (XF := []) ⟨pl_nmu, ck_E1 (ck_S1 pl_s752_s ck_S0) ck_E0⟩ ck_X0 ck_l0 (by decide +kernel)
set_option maxRecDepth 100000 in
/-- GlacierMailLaw.table -/
noncomputable def pl_h170 : ck_Sum := ((9, 1, 6), 249, [.inr (.inr (.inl 1)), .inl ((-2147483648), (-1), []), .inl ((-2147483648), 2147483647, []), .inr (.inr (.inl 245))], ([], [], []), ([], []), [(.inr (some (.inl (ck_one 1))), 249, ([], [], []))])
set_option maxRecDepth 100000 in
theorem pl_h170_s {X : Int → Int} {LX : Nat} : ck_Ok p2_OL X LX 191 pl_h170 := ck_ok_s (O := p2_OL) (X := X) (LX := LX) (E := [(192, [pl_s757])]) (mi := 191) (cuts := []) (f := 88) (S := pl_h170) (lx := none) (XF := []) ⟨pl_nmu, ck_E1 (ck_S1 pl_s757_s ck_S0) ck_E0⟩ ck_X0 ck_l0 (by decide +kernel)
set_option maxRecDepth 100000 in
/-- GlacierMailLaw.table -/
noncomputable def pl_h171 : ck_Sum := ((9, 1, 6), 249, [.inr (.inr (.inl 1)), .inl (6, 2147483647, []), .inl ((-2147483648), 2147483647, []), .inr (.inr (.inl 245))], ([], [], []), ([], []), [(.inr (some (.inl (ck_one 1))), 249, ([], [], []))])
set_option maxRecDepth 100000 in
theorem pl_h171_s {X : Int → Int} {LX : Nat} : ck_Ok p2_OL X LX 191 pl_h171 := ck_ok_s (O := p2_OL) (X := X) (LX := LX) (E := [(192, [pl_s760])]) (mi := 191) (cuts := []) (f := 88) (S := pl_h171) (lx := none) (XF := []) ⟨pl_nmu, ck_E1 (ck_S1 pl_s760_s ck_S0) ck_E0⟩ ck_X0 ck_l0 (by decide +kernel)
set_option maxRecDepth 100000 in
/-- GlacierMailLaw.table -/
noncomputable def pl_h172 : ck_Sum := ((9, 2, 12), 249, [.inr (.inr (.inl 1)), .inl (0, 5, []), .inl ((-2147483648), (-1), []), .inr (.inr (.inl 245))], ([], [], []), ([], []), [(.inr (some (.inl (ck_one 1))), 249, ([], [], []))])
set_option maxRecDepth 100000 in
theorem pl_h172_s {X : Int → Int} {LX : Nat} : ck_Ok p2_OL X LX 191 pl_h172 := ck_ok_s (O := p2_OL) (X := X) (LX := LX) (E := [(192, [pl_s763])]) (mi := 191) (cuts := []) (f := 88) (S := pl_h172) (lx := none) (XF := []) ⟨pl_nmu, ck_E1 (ck_S1 pl_s763_s ck_S0) ck_E0⟩ ck_X0 ck_l0 (by decide +kernel)
set_option maxRecDepth 100000 in
/-- GlacierMailLaw.table -/
noncomputable def pl_h173 : ck_Sum := ((9, 2, 12), 249, [.inr (.inr (.inl 1)), .inl (0, 5, []), .inl (6, 2147483647, []), .inr (.inr (.inl 245))], ([], [], []), ([], []), [(.inr (some (.inl (ck_one 1))), 249, ([], [], []))])
set_option maxRecDepth 100000 in
theorem pl_h173_s {X : Int → Int} {LX : Nat} : ck_Ok p2_OL X LX 191 pl_h173 := ck_ok_s (O := p2_OL) (X := X) (LX := LX) (E := [(192, [pl_s764])]) (mi := 191) (cuts := []) (f := 88) (S := pl_h173) (lx := none) (XF := []) ⟨pl_nmu, ck_E1 (ck_S1 pl_s764_s ck_S0) ck_E0⟩ ck_X0 ck_l0 (by decide +kernel)
set_option maxRecDepth 100000 in
/-- GlacierMailLaw.table -/
noncomputable def pl_h174 : ck_Sum := ((9, 2, 12), 249, [.inr (.inr (.inl 1)), .inl (0, 5, []), .inl (0, 5, []), .inr (.inr (.inl 245))], ([], [], []), ([(245, 0, 0)], []), [(.inr (some (.inl (ck_one 1))), 249, ([], [], [])), (.inr (some (.inl (ck_one 0))), 249, ([], [], [(245, 0, 0, ((-1), 20, []))]))])
set_option maxRecDepth 100000 in
theorem pl_h174_s {X : Int → Int} {LX : Nat} : ck_Ok p2_OL X LX 191 pl_h174 := ck_ok_s (O := p2_OL) (X := X) (LX := LX) (E := [(192, [pl_s766])]) (mi := 191) (cuts := []) (f := 92) (S := pl_h174) (lx := none) (XF := []) ⟨pl_nmu, ck_E1 (ck_S1 pl_s766_s ck_S0) ck_E0⟩ ck_X0 ck_l0 (by decide +kernel)
set_option maxRecDepth 100000 in
/-- GlacierMailLaw.apart -/
noncomputable def pl_h175 : ck_Sum := ((9, 1, 6), 249, [.inr (.inr (.inl 1)), .inl ((-2147483648), (-1), []), .inl ((-2147483648), 2147483647, []), .inl ((-2147483648), 2147483647, []), .inr (.inr (.inl 245))], ([], [], []), ([], []), [(.inr (some (.inl (ck_one 1))), 249, ([], [], []))])
set_option maxRecDepth 100000 in
theorem pl_h175_s {X : Int → Int} {LX : Nat} : ck_Ok p2_OL X LX 194 pl_h175 := ck_ok_s (O := p2_OL) (X := X) (LX := LX) (E := [(195, [pl_s767])]) (mi := 194) (cuts := []) (f := 90) (S := pl_h175) (lx := none) (XF := []) ⟨pl_nmu, ck_E1 (ck_S1 pl_s767_s ck_S0) ck_E0⟩ ck_X0 ck_l0 (by decide +kernel)
set_option maxRecDepth 100000 in
/-- GlacierMailLaw.apart -/
noncomputable def pl_h176 : ck_Sum := ((9, 1, 6), 249, [.inr (.inr (.inl 1)), .inl (6, 2147483647, []), .inl ((-2147483648), 2147483647, []), .inl ((-2147483648), 2147483647, []), .inr (.inr (.inl 245))], ([], [], []), ([], []), [(.inr (some (.inl (ck_one 1))), 249, ([], [], []))])
set_option maxRecDepth 100000 in
theorem pl_h176_s {X : Int → Int} {LX : Nat} : ck_Ok p2_OL X LX 194 pl_h176 := ck_ok_s (O := p2_OL) (X := X) (LX := LX) (E := [(195, [pl_s768])]) (mi := 194) (cuts := []) (f := 90) (S := pl_h176) (lx := none) (XF := []) ⟨pl_nmu, ck_E1 (ck_S1 pl_s768_s ck_S0) ck_E0⟩ ck_X0 ck_l0 (by decide +kernel)
set_option maxRecDepth 100000 in
/-- GlacierMailLaw.apart -/
noncomputable def pl_h177 : ck_Sum := ((9, 2, 12), 249, [.inr (.inr (.inl 1)), .inl (0, 5, []), .inl ((-2147483648), (-1), []), .inl ((-2147483648), 2147483647, []), .inr (.inr (.inl 245))], ([], [], []), ([], []), [(.inr (some (.inl (ck_one 1))), 249, ([], [], []))])
set_option maxRecDepth 100000 in
theorem pl_h177_s {X : Int → Int} {LX : Nat} : ck_Ok p2_OL X LX 194 pl_h177 := ck_ok_s (O := p2_OL) (X := X) (LX := LX) (E := [(195, [pl_s769])]) (mi := 194) (cuts := []) (f := 90) (S := pl_h177) (lx := none) (XF := []) ⟨pl_nmu, ck_E1 (ck_S1 pl_s769_s ck_S0) ck_E0⟩ ck_X0 ck_l0 (by decide +kernel)
set_option maxRecDepth 100000 in
/-- GlacierMailLaw.apart -/
noncomputable def pl_h178 : ck_Sum := ((9, 2, 12), 249, [.inr (.inr (.inl 1)), .inl (0, 5, []), .inl (6, 2147483647, []), .inl ((-2147483648), 2147483647, []), .inr (.inr (.inl 245))], ([], [], []), ([], []), [(.inr (some (.inl (ck_one 1))), 249, ([], [], []))])
set_option maxRecDepth 100000 in
theorem pl_h178_s {X : Int → Int} {LX : Nat} : ck_Ok p2_OL X LX 194 pl_h178 := ck_ok_s (O := p2_OL) (X := X) (LX := LX) (E := [(195, [pl_s770])]) (mi := 194) (cuts := []) (f := 90) (S := pl_h178) (lx := none) (XF := []) ⟨pl_nmu, ck_E1 (ck_S1 pl_s770_s ck_S0) ck_E0⟩ ck_X0 ck_l0 (by decide +kernel)
set_option maxRecDepth 100000 in
/-- GlacierMailLaw.apart -/
noncomputable def pl_h179 : ck_Sum := ((9, 2, 12), 249, [.inr (.inr (.inl 1)), .inl (0, 5, []), .inl (0, 5, []), .inl ((-2147483648), 2147483647, []), .inr (.inr (.inl 245))], ([], [], []), ([(245, 0, 0)], []), [(.inr (some (.inl (ck_one 1))), 249, ([], [], [])), (.inr (some (.inl (ck_one 0))), 249, ([], [], [(245, 0, 0, (0, 1, []))]))])
set_option maxRecDepth 100000 in
theorem pl_h179_s {X : Int → Int} {LX : Nat} : ck_Ok p2_OL X LX 194 pl_h179 := ck_ok_s (O := p2_OL) (X := X) (LX := LX) (E := [(195, [pl_s772])]) (mi := 194) (cuts := []) (f := 98) (S := pl_h179) (lx := none) (XF := []) ⟨pl_nmu, ck_E1 (ck_S1 pl_s772_s ck_S0) ck_E0⟩ ck_X0 ck_l0 (by decide +kernel)
set_option maxRecDepth 100000 in
/-- GlacierMailLaw.fit -/
noncomputable def pl_h180 : ck_Sum := ((7, 1, 6), 249, [.inr (.inr (.inl 1)), .inr (.inr (.inl 245))], ([], [], [(1, 1, 1, (0, 400, [(6, 0)]))]), ([(1, 1, 1), (245, 0, 0)], []), [(.inr (some (.inl (ck_one 1))), 249, ([], [], [(1, 1, 1, ck_one 0)])), (.inr (some (.inl (ck_one 0))), 249, ([], [], [(1, 1, 1, ck_one 0)]))])
set_option maxRecDepth 100000 in
theorem pl_h180_s {X : Int → Int} {LX : Nat} : ck_Ok p2_OL X LX 196 pl_h180 := ck_ok_s (O := p2_OL) (X := X) (LX := LX) (E := [(197, [pl_s778])]) (mi := 196) (cuts := []) (f := 88) (S := pl_h180) (lx := none) (XF := []) ⟨pl_nmu, ck_E1 (ck_S1 pl_s778_s ck_S0) ck_E0⟩ ck_X0 ck_l0 (by decide +kernel)
set_option maxRecDepth 100000 in
/-- GlacierMailLaw.soonest -/
noncomputable def pl_h181 : ck_Sum := ((9, 1, 6), 249, [.inr (.inr (.inl 1)), .inl ((-2147483648), (-1), []), .inl ((-2147483648), 2147483647, []), .inl (0, 1, []), .inr (.inr (.inl 245))], ([], [], []), ([], []), [(.inr (some (.inl (ck_one 1))), 249, ([], [], []))])
set_option maxRecDepth 100000 in
theorem pl_h181_s {X : Int → Int} {LX : Nat} : ck_Ok p2_OL X LX 200 pl_h181 := ck_ok_s (O := p2_OL) (X := X) (LX := LX) (E := [(201, [pl_s779])]) (mi := 200) (cuts := []) (f := 90) (S := pl_h181) (lx := none) (XF := []) ⟨pl_nmu, ck_E1 (ck_S1 pl_s779_s ck_S0) ck_E0⟩ ck_X0 ck_l0 (by decide +kernel)
set_option maxRecDepth 100000 in
/-- GlacierMailLaw.soonest -/
noncomputable def pl_h182 : ck_Sum := ((9, 1, 6), 249, [.inr (.inr (.inl 1)), .inl (8, 2147483647, []), .inl ((-2147483648), 2147483647, []), .inl (0, 1, []), .inr (.inr (.inl 245))], ([], [], []), ([], []), [(.inr (some (.inl (ck_one 1))), 249, ([], [], []))])
set_option maxRecDepth 100000 in
theorem pl_h182_s {X : Int → Int} {LX : Nat} : ck_Ok p2_OL X LX 200 pl_h182 := ck_ok_s (O := p2_OL) (X := X) (LX := LX) (E := [(201, [pl_s780])]) (mi := 200) (cuts := []) (f := 90) (S := pl_h182) (lx := none) (XF := []) ⟨pl_nmu, ck_E1 (ck_S1 pl_s780_s ck_S0) ck_E0⟩ ck_X0 ck_l0 (by decide +kernel)
set_option maxRecDepth 100000 in
/-- GlacierMailLaw.soonest -/
noncomputable def pl_h183 : ck_Sum := ((9, 2, 12), 249, [.inr (.inr (.inl 1)), .inl (0, 7, []), .inl ((-2147483648), (-1), []), .inl (0, 1, []), .inr (.inr (.inl 245))], ([], [], []), ([], []), [(.inr (some (.inl (ck_one 1))), 249, ([], [], []))])
set_option maxRecDepth 100000 in
theorem pl_h183_s {X : Int → Int} {LX : Nat} : ck_Ok p2_OL X LX 200 pl_h183 := ck_ok_s (O := p2_OL) (X := X) (LX := LX) (E := [(201, [pl_s781])]) (mi := 200) (cuts := []) (f := 90) (S := pl_h183) (lx := none) (XF := []) ⟨pl_nmu, ck_E1 (ck_S1 pl_s781_s ck_S0) ck_E0⟩ ck_X0 ck_l0 (by decide +kernel)
set_option maxRecDepth 100000 in
/-- GlacierMailLaw.soonest -/
noncomputable def pl_h184 : ck_Sum := ((9, 2, 12), 249, [.inr (.inr (.inl 1)), .inl (0, 7, []), .inl (8, 2147483647, []), .inl (0, 1, []), .inr (.inr (.inl 245))], ([], [], []), ([], []), [(.inr (some (.inl (ck_one 1))), 249, ([], [], []))])
set_option maxRecDepth 100000 in
theorem pl_h184_s {X : Int → Int} {LX : Nat} : ck_Ok p2_OL X LX 200 pl_h184 := ck_ok_s (O := p2_OL) (X := X) (LX := LX) (E := [(201, [pl_s782])]) (mi := 200) (cuts := []) (f := 90) (S := pl_h184) (lx := none) (XF := []) ⟨pl_nmu, ck_E1 (ck_S1 pl_s782_s ck_S0) ck_E0⟩ ck_X0 ck_l0 (by decide +kernel)
set_option maxRecDepth 100000 in
/-- GlacierMailLaw.chain -/
noncomputable def pl_h186 : ck_Sum := ((9, 1, 6), 249, [.inr (.inr (.inl 1)), .inl ((-2147483648), (-1), []), .inl ((-2147483648), 2147483647, []), .inl ((-2147483648), 2147483647, []), .inr (.inr (.inl 245))], ([], [], []), ([], []), [(.inr (some (.inl (ck_one 1))), 249, ([], [], []))])
set_option maxRecDepth 100000 in
theorem pl_h186_s {X : Int → Int} {LX : Nat} : ck_Ok p2_OL X LX 206 pl_h186 := ck_ok_s (O := p2_OL) (X := X) (LX := LX) (E := [(207, [pl_s798])]) (mi := 206) (cuts := []) (f := 90) (S := pl_h186) (lx := none) (XF := []) ⟨pl_nmu, ck_E1 (ck_S1 pl_s798_s ck_S0) ck_E0⟩ ck_X0 ck_l0 (by decide +kernel)
set_option maxRecDepth 100000 in
/-- GlacierMailLaw.chain -/
noncomputable def pl_h187 : ck_Sum := ((9, 1, 6), 249, [.inr (.inr (.inl 1)), .inl (8, 2147483647, []), .inl ((-2147483648), 2147483647, []), .inl ((-2147483648), 2147483647, []), .inr (.inr (.inl 245))], ([], [], []), ([], []), [(.inr (some (.inl (ck_one 1))), 249, ([], [], []))])
set_option maxRecDepth 100000 in
theorem pl_h187_s {X : Int → Int} {LX : Nat} : ck_Ok p2_OL X LX 206 pl_h187 := ck_ok_s (O := p2_OL) (X := X) (LX := LX) (E := [(207, [pl_s799])]) (mi := 206) (cuts := []) (f := 90) (S := pl_h187) (lx := none) (XF := []) ⟨pl_nmu, ck_E1 (ck_S1 pl_s799_s ck_S0) ck_E0⟩ ck_X0 ck_l0 (by decide +kernel)
set_option maxRecDepth 100000 in
/-- GlacierMailLaw.chain -/
noncomputable def pl_h188 : ck_Sum := ((9, 2, 12), 249, [.inr (.inr (.inl 1)), .inl (0, 7, []), .inl ((-2147483648), (-1), []), .inl ((-2147483648), 2147483647, []), .inr (.inr (.inl 245))], ([], [], []), ([], []), [(.inr (some (.inl (ck_one 1))), 249, ([], [], []))])
set_option maxRecDepth 100000 in
theorem pl_h188_s {X : Int → Int} {LX : Nat} : ck_Ok p2_OL X LX 206 pl_h188 := ck_ok_s (O := p2_OL) (X := X) (LX := LX) (E := [(207, [pl_s800])]) (mi := 206) (cuts := []) (f := 90) (S := pl_h188) (lx := none) (XF := []) ⟨pl_nmu, ck_E1 (ck_S1 pl_s800_s ck_S0) ck_E0⟩ ck_X0 ck_l0 (by decide +kernel)
set_option maxRecDepth 100000 in
/-- GlacierMailLaw.chain -/
noncomputable def pl_h189 : ck_Sum := ((9, 2, 12), 249, [.inr (.inr (.inl 1)), .inl (0, 7, []), .inl (8, 2147483647, []), .inl ((-2147483648), 2147483647, []), .inr (.inr (.inl 245))], ([], [], []), ([], []), [(.inr (some (.inl (ck_one 1))), 249, ([], [], []))])
set_option maxRecDepth 100000 in
theorem pl_h189_s {X : Int → Int} {LX : Nat} : ck_Ok p2_OL X LX 206 pl_h189 := ck_ok_s (O := p2_OL) (X := X) (LX := LX) (E := [(207, [pl_s801])]) (mi := 206) (cuts := []) (f := 90) (S := pl_h189) (lx := none) (XF := []) ⟨pl_nmu, ck_E1 (ck_S1 pl_s801_s ck_S0) ck_E0⟩ ck_X0 ck_l0 (by decide +kernel)
set_option maxRecDepth 100000 in
/-- GlacierMailLaw.reached -/
noncomputable def pl_h193 : ck_Sum := ((9, 1, 6), 249, [.inr (.inr (.inl 1)), .inl ((-2147483648), (-1), []), .inl ((-2147483648), 2147483647, []), .inr (.inr (.inl 245))], ([], [], []), ([], []), [(.inr (some (.inl (ck_one 1))), 249, ([], [], []))])
set_option maxRecDepth 100000 in
theorem pl_h193_s {X : Int → Int} {LX : Nat} : ck_Ok p2_OL X LX 210 pl_h193 := ck_ok_s (O := p2_OL) (X := X) (LX := LX) (E := [(211, [pl_s811])]) (mi := 210) (cuts := []) (f := 88) (S := pl_h193) (lx := none) (XF := []) ⟨pl_nmu, ck_E1 (ck_S1 pl_s811_s ck_S0) ck_E0⟩ ck_X0 ck_l0 (by decide +kernel)
set_option maxRecDepth 100000 in
/-- GlacierMailLaw.reached -/
noncomputable def pl_h194 : ck_Sum := ((9, 1, 6), 249, [.inr (.inr (.inl 1)), .inl (8, 2147483647, []), .inl ((-2147483648), 2147483647, []), .inr (.inr (.inl 245))], ([], [], []), ([], []), [(.inr (some (.inl (ck_one 1))), 249, ([], [], []))])
set_option maxRecDepth 100000 in
theorem pl_h194_s {X : Int → Int} {LX : Nat} : ck_Ok p2_OL X LX 210 pl_h194 := ck_ok_s (O := p2_OL) (X := X) (LX := LX) (E := [(211, [pl_s812])]) (mi := 210) (cuts := []) (f := 88) (S := pl_h194) (lx := none) (XF := []) ⟨pl_nmu, ck_E1 (ck_S1 pl_s812_s ck_S0) ck_E0⟩ ck_X0 ck_l0 (by decide +kernel)
set_option maxRecDepth 100000 in
/-- GlacierMailLaw.reached -/
noncomputable def pl_h195 : ck_Sum := ((9, 2, 12), 249, [.inr (.inr (.inl 1)), .inl (0, 7, []), .inl ((-2147483648), (-1), []), .inr (.inr (.inl 245))], ([], [], []), ([], []), [(.inr (some (.inl (ck_one 1))), 249, ([], [], [])), (.inr (some (.inl (ck_one 2))), 249, ([], [], []))])
set_option maxRecDepth 100000 in
theorem pl_h195_s {X : Int → Int} {LX : Nat} : ck_Ok p2_OL X LX 210 pl_h195 := ck_ok_s (O := p2_OL) (X := X) (LX := LX) (E := [(211, [pl_s813])]) (mi := 210) (cuts := []) (f := 88) (S := pl_h195) (lx := none) (XF := []) ⟨pl_nmu, ck_E1 (ck_S1 pl_s813_s ck_S0) ck_E0⟩ ck_X0 ck_l0 (by decide +kernel)
set_option maxRecDepth 100000 in
/-- GlacierMailLaw.reached -/
noncomputable def pl_h196 : ck_Sum := ((9, 2, 12), 249, [.inr (.inr (.inl 1)), .inl (0, 7, []), .inl (300, 2147483647, []), .inr (.inr (.inl 245))], ([], [], []), ([], []), [(.inr (some (.inl (ck_one 1))), 249, ([], [], [])), (.inr (some (.inl (ck_one 2))), 249, ([], [], []))])
set_option maxRecDepth 100000 in
theorem pl_h196_s {X : Int → Int} {LX : Nat} : ck_Ok p2_OL X LX 210 pl_h196 := ck_ok_s (O := p2_OL) (X := X) (LX := LX) (E := [(211, [pl_s814])]) (mi := 210) (cuts := []) (f := 88) (S := pl_h196) (lx := none) (XF := []) ⟨pl_nmu, ck_E1 (ck_S1 pl_s814_s ck_S0) ck_E0⟩ ck_X0 ck_l0 (by decide +kernel)
set_option maxRecDepth 100000 in
/-- GlacierMailLaw.thieves -/
noncomputable def pl_h198 : ck_Sum := ((8, 1, 6), 249, [.inr (.inr (.inl 1)), .inl ((-2147483648), (-1), []), .inl (0, 1, []), .inr (.inr (.inl 245))], ([], [], []), ([], []), [(.inr (some (.inl (ck_one 1))), 249, ([], [], []))])
set_option maxRecDepth 100000 in
theorem pl_h198_s {X : Int → Int} {LX : Nat} : ck_Ok p2_OL X LX 212 pl_h198 := ck_ok_s (O := p2_OL) (X := X) (LX := LX) (E := [(213, [pl_s820])]) (mi := 212) (cuts := []) (f := 88) (S := pl_h198) (lx := none) (XF := []) ⟨pl_nmu, ck_E1 (ck_S1 pl_s820_s ck_S0) ck_E0⟩ ck_X0 ck_l0 (by decide +kernel)
set_option maxRecDepth 100000 in
/-- GlacierMailLaw.thieves -/
noncomputable def pl_h199 : ck_Sum := ((8, 1, 6), 249, [.inr (.inr (.inl 1)), .inl (31, 2147483647, []), .inl (0, 1, []), .inr (.inr (.inl 245))], ([], [], []), ([], []), [(.inr (some (.inl (ck_one 1))), 249, ([], [], []))])
set_option maxRecDepth 100000 in
theorem pl_h199_s {X : Int → Int} {LX : Nat} : ck_Ok p2_OL X LX 212 pl_h199 := ck_ok_s (O := p2_OL) (X := X) (LX := LX) (E := [(213, [pl_s822])]) (mi := 212) (cuts := []) (f := 88) (S := pl_h199) (lx := none) (XF := []) ⟨pl_nmu, ck_E1 (ck_S1 pl_s822_s ck_S0) ck_E0⟩ ck_X0 ck_l0 (by decide +kernel)
set_option maxRecDepth 100000 in
/-- GlacierMailLaw.watchman -/
noncomputable def pl_h201 : ck_Sum := ((8, 1, 6), 249, [.inr (.inr (.inl 1)), .inl ((-2147483648), (-1), []), .inl (0, 1, []), .inr (.inr (.inl 245))], ([], [], []), ([], []), [(.inr (some (.inl (ck_one 1))), 249, ([], [], []))])
set_option maxRecDepth 100000 in
theorem pl_h201_s {X : Int → Int} {LX : Nat} : ck_Ok p2_OL X LX 217 pl_h201 := ck_ok_s (O := p2_OL) (X := X) (LX := LX) (E := [(218, [pl_s835])]) (mi := 217) (cuts := []) (f := 88) (S := pl_h201) (lx := none) (XF := []) ⟨pl_nmu, ck_E1 (ck_S1 pl_s835_s ck_S0) ck_E0⟩ ck_X0 ck_l0 (by decide +kernel)
set_option maxRecDepth 100000 in
/-- GlacierMailLaw.watchman -/
noncomputable def pl_h202 : ck_Sum := ((8, 1, 6), 249, [.inr (.inr (.inl 1)), .inl (31, 2147483647, []), .inl (0, 1, []), .inr (.inr (.inl 245))], ([], [], []), ([], []), [(.inr (some (.inl (ck_one 1))), 249, ([], [], []))])
set_option maxRecDepth 100000 in
theorem pl_h202_s {X : Int → Int} {LX : Nat} : ck_Ok p2_OL X LX 217 pl_h202 := ck_ok_s (O := p2_OL) (X := X) (LX := LX) (E := [(218, [pl_s836])]) (mi := 217) (cuts := []) (f := 88) (S := pl_h202) (lx := none) (XF := []) ⟨pl_nmu, ck_E1 (ck_S1 pl_s836_s ck_S0) ck_E0⟩ ck_X0 ck_l0 (by decide +kernel)
end
/-! 78r88l05.hp -/
section
/-! THE LAW'S OWN METHODS (laid by wip/am/p2n.py). -/
set_option maxRecDepth 100000 in
/-- GlacierMailLaw.meeting -/
noncomputable def pl_h204 : ck_Sum := ((9, 1, 6), 249, [.inr (.inr (.inl 1)), .inl ((-2147483648), (-1), []), .inl ((-2147483648), 2147483647, []), .inr (.inr (.inl 245))], ([], [], []), ([], []), [(.inr (some (.inl (ck_one 1))), 249, ([], [], []))])
set_option maxRecDepth 100000 in
theorem pl_h204_s {X : Int → Int} {LX : Nat} : ck_Ok p2_OL X LX 220 pl_h204 := ck_ok_s (O := p2_OL) (X := X) (LX := LX) (E := [(221, [pl_s840])]) (mi := 220) (cuts := []) (f := 88) (S := pl_h204) (lx := none) (XF := []) ⟨pl_nmu, ck_E1 (ck_S1 pl_s840_s ck_S0) ck_E0⟩ ck_X0 ck_l0 (by decide +kernel)
set_option maxRecDepth 100000 in
/-- GlacierMailLaw.meeting -/
noncomputable def pl_h205 : ck_Sum := ((9, 1, 6), 249, [.inr (.inr (.inl 1)), .inl (24, 2147483647, []), .inl ((-2147483648), 2147483647, []), .inr (.inr (.inl 245))], ([], [], []), ([], []), [(.inr (some (.inl (ck_one 1))), 249, ([], [], []))])
set_option maxRecDepth 100000 in
theorem pl_h205_s {X : Int → Int} {LX : Nat} : ck_Ok p2_OL X LX 220 pl_h205 := ck_ok_s (O := p2_OL) (X := X) (LX := LX) (E := [(221, [pl_s841])]) (mi := 220) (cuts := []) (f := 88) (S := pl_h205) (lx := none) (XF := []) ⟨pl_nmu, ck_E1 (ck_S1 pl_s841_s ck_S0) ck_E0⟩ ck_X0 ck_l0 (by decide +kernel)
set_option maxRecDepth 100000 in
/-- GlacierMailLaw.meeting -/
noncomputable def pl_h206 : ck_Sum := ((9, 2, 12), 249, [.inr (.inr (.inl 1)), .inl (0, 23, []), .inl ((-2147483648), (-1), []), .inr (.inr (.inl 245))], ([], [], []), ([], []), [(.inr (some (.inl (ck_one 1))), 249, ([], [], []))])
set_option maxRecDepth 100000 in
theorem pl_h206_s {X : Int → Int} {LX : Nat} : ck_Ok p2_OL X LX 220 pl_h206 := ck_ok_s (O := p2_OL) (X := X) (LX := LX) (E := [(221, [pl_s842])]) (mi := 220) (cuts := []) (f := 88) (S := pl_h206) (lx := none) (XF := []) ⟨pl_nmu, ck_E1 (ck_S1 pl_s842_s ck_S0) ck_E0⟩ ck_X0 ck_l0 (by decide +kernel)
set_option maxRecDepth 100000 in
/-- GlacierMailLaw.meeting -/
noncomputable def pl_h207 : ck_Sum := ((9, 2, 12), 249, [.inr (.inr (.inl 1)), .inl (0, 23, []), .inl (24, 2147483647, []), .inr (.inr (.inl 245))], ([], [], []), ([], []), [(.inr (some (.inl (ck_one 1))), 249, ([], [], []))])
set_option maxRecDepth 100000 in
theorem pl_h207_s {X : Int → Int} {LX : Nat} : ck_Ok p2_OL X LX 220 pl_h207 := ck_ok_s (O := p2_OL) (X := X) (LX := LX) (E := [(221, [pl_s843])]) (mi := 220) (cuts := []) (f := 88) (S := pl_h207) (lx := none) (XF := []) ⟨pl_nmu, ck_E1 (ck_S1 pl_s843_s ck_S0) ck_E0⟩ ck_X0 ck_l0 (by decide +kernel)
set_option maxRecDepth 100000 in
/-- GlacierMailLaw.outs -/
noncomputable def pl_h209 : ck_Sum := ((8, 1, 6), 249, [.inr (.inr (.inl 1)), .inl ((-2147483648), (-1), []), .inr (.inr (.inl 245))], ([], [], []), ([], []), [(.inr (some (.inl (ck_one 1))), 249, ([], [], []))])
set_option maxRecDepth 100000 in
theorem pl_h209_s {X : Int → Int} {LX : Nat} : ck_Ok p2_OL X LX 222 pl_h209 := ck_ok_s (O := p2_OL) (X := X) (LX := LX) (E := [(223, [pl_s847])]) (mi := 222) (cuts := []) (f := 86) (S := pl_h209) (lx := none) (XF := []) ⟨pl_nmu, ck_E1 (ck_S1 pl_s847_s ck_S0) ck_E0⟩ ck_X0 ck_l0 (by decide +kernel)
set_option maxRecDepth 100000 in
/-- GlacierMailLaw.outs -/
noncomputable def pl_h210 : ck_Sum := ((8, 1, 6), 249, [.inr (.inr (.inl 1)), .inl (300, 2147483647, []), .inr (.inr (.inl 245))], ([], [], []), ([], []), [(.inr (some (.inl (ck_one 1))), 249, ([], [], []))])
set_option maxRecDepth 100000 in
theorem pl_h210_s {X : Int → Int} {LX : Nat} : ck_Ok p2_OL X LX 222 pl_h210 := ck_ok_s (O := p2_OL) (X := X) (LX := LX) (E := [(223, [pl_s848])]) (mi := 222) (cuts := []) (f := 86) (S := pl_h210) (lx := none) (XF := []) ⟨pl_nmu, ck_E1 (ck_S1 pl_s848_s ck_S0) ck_E0⟩ ck_X0 ck_l0 (by decide +kernel)
set_option maxRecDepth 100000 in
/-- GlacierMailLaw.streams -/
noncomputable def pl_h212 : ck_Sum := ((8, 1, 6), 249, [.inr (.inr (.inl 1)), .inl ((-2147483648), (-1), []), .inl (0, 1, []), .inr (.inr (.inl 245))], ([], [], []), ([], []), [(.inr (some (.inl (ck_one 1))), 249, ([], [], []))])
set_option maxRecDepth 100000 in
theorem pl_h212_s {X : Int → Int} {LX : Nat} : ck_Ok p2_OL X LX 224 pl_h212 := ck_ok_s (O := p2_OL) (X := X) (LX := LX) (E := [(225, [pl_s853])]) (mi := 224) (cuts := []) (f := 88) (S := pl_h212) (lx := none) (XF := []) ⟨pl_nmu, ck_E1 (ck_S1 pl_s853_s ck_S0) ck_E0⟩ ck_X0 ck_l0 (by decide +kernel)
set_option maxRecDepth 100000 in
/-- GlacierMailLaw.streams -/
noncomputable def pl_h213 : ck_Sum := ((8, 1, 6), 249, [.inr (.inr (.inl 1)), .inl (300, 2147483647, []), .inl (0, 1, []), .inr (.inr (.inl 245))], ([], [], []), ([], []), [(.inr (some (.inl (ck_one 1))), 249, ([], [], []))])
set_option maxRecDepth 100000 in
theorem pl_h213_s {X : Int → Int} {LX : Nat} : ck_Ok p2_OL X LX 224 pl_h213 := ck_ok_s (O := p2_OL) (X := X) (LX := LX) (E := [(225, [pl_s854])]) (mi := 224) (cuts := []) (f := 88) (S := pl_h213) (lx := none) (XF := []) ⟨pl_nmu, ck_E1 (ck_S1 pl_s854_s ck_S0) ck_E0⟩ ck_X0 ck_l0 (by decide +kernel)
set_option maxRecDepth 100000 in
/-- GlacierMailLaw.range -/
noncomputable def pl_h215 : ck_Sum := ((9, 1, 6), 249, [.inr (.inr (.inl 1)), .inl ((-2147483648), (-1), []), .inl ((-2147483648), 2147483647, []), .inr (.inr (.inl 245))], ([], [], []), ([], []), [(.inr (some (.inl (ck_one 1))), 249, ([], [], []))])
set_option maxRecDepth 100000 in
theorem pl_h215_s {X : Int → Int} {LX : Nat} : ck_Ok p2_OL X LX 226 pl_h215 := ck_ok_s (O := p2_OL) (X := X) (LX := LX) (E := [(227, [pl_s856])]) (mi := 226) (cuts := []) (f := 88) (S := pl_h215) (lx := none) (XF := []) ⟨pl_nmu, ck_E1 (ck_S1 pl_s856_s ck_S0) ck_E0⟩ ck_X0 ck_l0 (by decide +kernel)
set_option maxRecDepth 100000 in
/-- GlacierMailLaw.range -/
noncomputable def pl_h216 : ck_Sum := ((9, 1, 6), 249, [.inr (.inr (.inl 1)), .inl (6, 2147483647, []), .inl ((-2147483648), 2147483647, []), .inr (.inr (.inl 245))], ([], [], []), ([], []), [(.inr (some (.inl (ck_one 1))), 249, ([], [], []))])
set_option maxRecDepth 100000 in
theorem pl_h216_s {X : Int → Int} {LX : Nat} : ck_Ok p2_OL X LX 226 pl_h216 := ck_ok_s (O := p2_OL) (X := X) (LX := LX) (E := [(227, [pl_s857])]) (mi := 226) (cuts := []) (f := 88) (S := pl_h216) (lx := none) (XF := []) ⟨pl_nmu, ck_E1 (ck_S1 pl_s857_s ck_S0) ck_E0⟩ ck_X0 ck_l0 (by decide +kernel)
set_option maxRecDepth 100000 in
/-- GlacierMailLaw.range -/
noncomputable def pl_h217 : ck_Sum := ((9, 2, 12), 249, [.inr (.inr (.inl 1)), .inl (0, 5, []), .inl ((-2147483648), (-1), []), .inr (.inr (.inl 245))], ([], [], []), ([], []), [(.inr (some (.inl (ck_one 1))), 249, ([], [], [])), (.inr (some (.inl (ck_one 2))), 249, ([], [], []))])
set_option maxRecDepth 100000 in
theorem pl_h217_s {X : Int → Int} {LX : Nat} : ck_Ok p2_OL X LX 226 pl_h217 := ck_ok_s (O := p2_OL) (X := X) (LX := LX) (E := [(227, [pl_s858])]) (mi := 226) (cuts := []) (f := 88) (S := pl_h217) (lx := none) (XF := []) ⟨pl_nmu, ck_E1 (ck_S1 pl_s858_s ck_S0) ck_E0⟩ ck_X0 ck_l0 (by decide +kernel)
set_option maxRecDepth 100000 in
/-- GlacierMailLaw.range -/
noncomputable def pl_h218 : ck_Sum := ((9, 2, 12), 249, [.inr (.inr (.inl 1)), .inl (0, 5, []), .inl (300, 2147483647, []), .inr (.inr (.inl 245))], ([], [], []), ([], []), [(.inr (some (.inl (ck_one 1))), 249, ([], [], [])), (.inr (some (.inl (ck_one 2))), 249, ([], [], []))])
set_option maxRecDepth 100000 in
theorem pl_h218_s {X : Int → Int} {LX : Nat} : ck_Ok p2_OL X LX 226 pl_h218 := ck_ok_s (O := p2_OL) (X := X) (LX := LX) (E := [(227, [pl_s859])]) (mi := 226) (cuts := []) (f := 88) (S := pl_h218) (lx := none) (XF := []) ⟨pl_nmu, ck_E1 (ck_S1 pl_s859_s ck_S0) ck_E0⟩ ck_X0 ck_l0 (by decide +kernel)
set_option maxRecDepth 100000 in
/-- GlacierMailLaw.swiftest -/
noncomputable def pl_h220 : ck_Sum := ((9, 1, 6), 249, [.inr (.inr (.inl 1)), .inl ((-2147483648), (-1), []), .inl ((-2147483648), 2147483647, []), .inr (.inr (.inl 245))], ([], [], []), ([], []), [(.inr (some (.inl (ck_one 1))), 249, ([], [], []))])
set_option maxRecDepth 100000 in
theorem pl_h220_s {X : Int → Int} {LX : Nat} : ck_Ok p2_OL X LX 228 pl_h220 := ck_ok_s (O := p2_OL) (X := X) (LX := LX) (E := [(229, [pl_s861])]) (mi := 228) (cuts := []) (f := 88) (S := pl_h220) (lx := none) (XF := []) ⟨pl_nmu, ck_E1 (ck_S1 pl_s861_s ck_S0) ck_E0⟩ ck_X0 ck_l0 (by decide +kernel)
set_option maxRecDepth 100000 in
/-- GlacierMailLaw.swiftest -/
noncomputable def pl_h221 : ck_Sum := ((9, 1, 6), 249, [.inr (.inr (.inl 1)), .inl (99, 2147483647, []), .inl ((-2147483648), 2147483647, []), .inr (.inr (.inl 245))], ([], [], []), ([], []), [(.inr (some (.inl (ck_one 1))), 249, ([], [], []))])
set_option maxRecDepth 100000 in
theorem pl_h221_s {X : Int → Int} {LX : Nat} : ck_Ok p2_OL X LX 228 pl_h221 := ck_ok_s (O := p2_OL) (X := X) (LX := LX) (E := [(229, [pl_s862])]) (mi := 228) (cuts := []) (f := 88) (S := pl_h221) (lx := none) (XF := []) ⟨pl_nmu, ck_E1 (ck_S1 pl_s862_s ck_S0) ck_E0⟩ ck_X0 ck_l0 (by decide +kernel)
set_option maxRecDepth 100000 in
/-- GlacierMailLaw.swiftest -/
noncomputable def pl_h222 : ck_Sum := ((9, 2, 12), 249, [.inr (.inr (.inl 1)), .inl (0, 98, []), .inl ((-2147483648), (-1), []), .inr (.inr (.inl 245))], ([], [], []), ([], []), [(.inr (some (.inl (ck_one 1))), 249, ([], [], [])), (.inr (some (.inl (ck_one 2))), 249, ([], [], []))])
set_option maxRecDepth 100000 in
theorem pl_h222_s {X : Int → Int} {LX : Nat} : ck_Ok p2_OL X LX 228 pl_h222 := ck_ok_s (O := p2_OL) (X := X) (LX := LX) (E := [(229, [pl_s863])]) (mi := 228) (cuts := []) (f := 88) (S := pl_h222) (lx := none) (XF := []) ⟨pl_nmu, ck_E1 (ck_S1 pl_s863_s ck_S0) ck_E0⟩ ck_X0 ck_l0 (by decide +kernel)
set_option maxRecDepth 100000 in
/-- GlacierMailLaw.swiftest -/
noncomputable def pl_h223 : ck_Sum := ((9, 2, 12), 249, [.inr (.inr (.inl 1)), .inl (0, 98, []), .inl (300, 2147483647, []), .inr (.inr (.inl 245))], ([], [], []), ([], []), [(.inr (some (.inl (ck_one 1))), 249, ([], [], [])), (.inr (some (.inl (ck_one 2))), 249, ([], [], []))])
set_option maxRecDepth 100000 in
theorem pl_h223_s {X : Int → Int} {LX : Nat} : ck_Ok p2_OL X LX 228 pl_h223 := ck_ok_s (O := p2_OL) (X := X) (LX := LX) (E := [(229, [pl_s864])]) (mi := 228) (cuts := []) (f := 88) (S := pl_h223) (lx := none) (XF := []) ⟨pl_nmu, ck_E1 (ck_S1 pl_s864_s ck_S0) ck_E0⟩ ck_X0 ck_l0 (by decide +kernel)
set_option maxRecDepth 100000 in
/-- GlacierMailLaw.bare -/
noncomputable def pl_h225 : ck_Sum := ((8, 1, 6), 249, [.inr (.inr (.inl 1)), .inl ((-2147483648), (-1), []), .inr (.inr (.inl 245))], ([], [], []), ([], []), [(.inr (some (.inl (ck_one 1))), 249, ([], [], []))])
set_option maxRecDepth 100000 in
theorem pl_h225_s {X : Int → Int} {LX : Nat} : ck_Ok p2_OL X LX 230 pl_h225 := ck_ok_s (O := p2_OL) (X := X) (LX := LX) (E := [(231, [pl_s866])]) (mi := 230) (cuts := []) (f := 86) (S := pl_h225) (lx := none) (XF := []) ⟨pl_nmu, ck_E1 (ck_S1 pl_s866_s ck_S0) ck_E0⟩ ck_X0 ck_l0 (by decide +kernel)
set_option maxRecDepth 100000 in
/-- GlacierMailLaw.bare -/
noncomputable def pl_h226 : ck_Sum := ((8, 1, 6), 249, [.inr (.inr (.inl 1)), .inl (300, 2147483647, []), .inr (.inr (.inl 245))], ([], [], []), ([], []), [(.inr (some (.inl (ck_one 1))), 249, ([], [], []))])
set_option maxRecDepth 100000 in
theorem pl_h226_s {X : Int → Int} {LX : Nat} : ck_Ok p2_OL X LX 230 pl_h226 := ck_ok_s (O := p2_OL) (X := X) (LX := LX) (E := [(231, [pl_s867])]) (mi := 230) (cuts := []) (f := 86) (S := pl_h226) (lx := none) (XF := []) ⟨pl_nmu, ck_E1 (ck_S1 pl_s867_s ck_S0) ck_E0⟩ ck_X0 ck_l0 (by decide +kernel)
set_option maxRecDepth 100000 in
/-- GlacierMailLaw.log -/
noncomputable def pl_h228 : ck_Sum := ((7, 1, 6), 249, [.inr (.inr (.inl 1)), .inl ((-2147483648), (-1), []), .inl ((-2147483648), 2147483647, []), .inr (.inr (.inl 245))], ([], [], []), ([(245, 0, 0)], []), [(.inr (some (.inl (ck_one 1))), 249, ([], [], [])), (.inr (some (.inl (ck_one 0))), 249, ([], [], [(245, 0, 0, ((-1), 299, []))]))])
set_option maxRecDepth 100000 in
theorem pl_h228_s {X : Int → Int} {LX : Nat} : ck_Ok p2_OL X LX 232 pl_h228 := ck_ok_s (O := p2_OL) (X := X) (LX := LX) (E := [(233, [pl_s870])]) (mi := 232) (cuts := []) (f := 92) (S := pl_h228) (lx := none) (XF := []) ⟨pl_nmu, ck_E1 (ck_S1 pl_s870_s ck_S0) ck_E0⟩ ck_X0 ck_l0 (by decide +kernel)
set_option maxRecDepth 100000 in
/-- GlacierMailLaw.log -/
noncomputable def pl_h229 : ck_Sum := ((7, 1, 6), 249, [.inr (.inr (.inl 1)), .inl (24, 2147483647, []), .inl ((-2147483648), 2147483647, []), .inr (.inr (.inl 245))], ([], [], []), ([(245, 0, 0)], []), [(.inr (some (.inl (ck_one 1))), 249, ([], [], [])), (.inr (some (.inl (ck_one 0))), 249, ([], [], [(245, 0, 0, ((-1), 299, []))]))])
set_option maxRecDepth 100000 in
theorem pl_h229_s {X : Int → Int} {LX : Nat} : ck_Ok p2_OL X LX 232 pl_h229 := ck_ok_s (O := p2_OL) (X := X) (LX := LX) (E := [(233, [pl_s871])]) (mi := 232) (cuts := []) (f := 92) (S := pl_h229) (lx := none) (XF := []) ⟨pl_nmu, ck_E1 (ck_S1 pl_s871_s ck_S0) ck_E0⟩ ck_X0 ck_l0 (by decide +kernel)
set_option maxRecDepth 100000 in
/-- GlacierMailLaw.log -/
noncomputable def pl_h230 : ck_Sum := ((7, 1, 6), 249, [.inr (.inr (.inl 1)), .inl (0, 23, []), .inl ((-2147483648), (-1), []), .inr (.inr (.inl 245))], ([], [], []), ([], []), [(.inr (some (.inl (ck_one 1))), 249, ([], [], []))])
set_option maxRecDepth 100000 in
theorem pl_h230_s {X : Int → Int} {LX : Nat} : ck_Ok p2_OL X LX 232 pl_h230 := ck_ok_s (O := p2_OL) (X := X) (LX := LX) (E := [(233, [pl_s872])]) (mi := 232) (cuts := []) (f := 88) (S := pl_h230) (lx := none) (XF := []) ⟨pl_nmu, ck_E1 (ck_S1 pl_s872_s ck_S0) ck_E0⟩ ck_X0 ck_l0 (by decide +kernel)
set_option maxRecDepth 100000 in
/-- GlacierMailLaw.log -/
noncomputable def pl_h231 : ck_Sum := ((7, 1, 6), 249, [.inr (.inr (.inl 1)), .inl (0, 23, []), .inl (10, 2147483647, []), .inr (.inr (.inl 245))], ([], [], []), ([], []), [(.inr (some (.inl (ck_one 1))), 249, ([], [], []))])
set_option maxRecDepth 100000 in
theorem pl_h231_s {X : Int → Int} {LX : Nat} : ck_Ok p2_OL X LX 232 pl_h231 := ck_ok_s (O := p2_OL) (X := X) (LX := LX) (E := [(233, [pl_s873])]) (mi := 232) (cuts := []) (f := 88) (S := pl_h231) (lx := none) (XF := []) ⟨pl_nmu, ck_E1 (ck_S1 pl_s873_s ck_S0) ck_E0⟩ ck_X0 ck_l0 (by decide +kernel)
set_option maxRecDepth 100000 in
/-- GlacierMailLaw.log -/
noncomputable def pl_h232 : ck_Sum := ((7, 1, 6), 249, [.inr (.inr (.inl 1)), .inl (0, 23, []), .inl (0, 9, []), .inr (.inr (.inl 245))], ([], [], []), ([(245, 0, 0)], []), [(.inr (some (.inl (ck_one 0))), 249, ([], [], [(245, 0, 0, ((-1), 299, []))])), (.inr (some (.inl (ck_one 1))), 249, ([], [], []))])
set_option maxRecDepth 100000 in
theorem pl_h232_s {X : Int → Int} {LX : Nat} : ck_Ok p2_OL X LX 232 pl_h232 := ck_ok_s (O := p2_OL) (X := X) (LX := LX) (E := [(233, [pl_s874])]) (mi := 232) (cuts := []) (f := 92) (S := pl_h232) (lx := none) (XF := []) ⟨pl_nmu, ck_E1 (ck_S1 pl_s874_s ck_S0) ck_E0⟩ ck_X0 ck_l0 (by decide +kernel)
end
