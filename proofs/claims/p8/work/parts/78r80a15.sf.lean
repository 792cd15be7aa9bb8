/-! EVERY CALL ENDS, whatever was done before (laid by wip/am/p2k.py). -/
set_option maxRecDepth 100000 in
/-- GlacierMailModel.in -/
noncomputable def p2_s1150 : ck_Sum := ((0, 0, 0), 245, [.inl ((-2147483648), 0, []), .inl (ck_one 1), .inl (ck_one 50)], ([], [], []), ([], []), [(.inr (some (.inl (ck_one 0))), 245, ([], [], []))])
set_option maxRecDepth 100000 in
theorem p2_s1150_s {X : Int → Int} {LX : Nat} : ck_Ok p2_O X LX 286 p2_s1150 := ck_ok_s (O := p2_O) (X := X) (LX := LX) (E := []) (mi := 286) (cuts := []) (f := 80) (S := p2_s1150) (lx := none) (XF := []) ⟨p2_nmu, ck_E0⟩ ck_X0 ck_l0 (by decide +kernel)
set_option maxRecDepth 100000 in
/-- GlacierMailModel.years -/
noncomputable def p2_s1151 : ck_Sum := ((1, 0, 0), 245, [.inr (.inr (.inl 226)), .inl ((-2147483648), 0, [])], ([], [], []), ([(226, 0, 0)], []), [(.inr (some (.inl (ck_one 0))), 245, ([], [], [(226, 0, 0, ck_one 1)]))])
set_option maxRecDepth 100000 in
theorem p2_s1151_s {X : Int → Int} {LX : Nat} : ck_Ok p2_O X LX 320 p2_s1151 := ck_ok_s (O := p2_O) (X := X) (LX := LX) (E := [(286, [p2_s1150]), (282, [p2_s241])]) (mi := 320) (cuts := []) (f := 102) (S := p2_s1151) (lx := none) (XF := []) ⟨p2_nmu, ck_E1 (ck_S1 p2_s1150_s ck_S0) (ck_E1 (ck_S1 p2_s241_s ck_S0) ck_E0)⟩ ck_X0 ck_l0 (by decide +kernel)
set_option maxRecDepth 100000 in
/-- GlacierMailModel.in -/
noncomputable def p2_s1152 : ck_Sum := ((0, 0, 0), 245, [.inl (51, 2147483647, []), .inl (ck_one 1), .inl (ck_one 50)], ([], [], []), ([], []), [(.inr (some (.inl (ck_one 0))), 245, ([], [], []))])
set_option maxRecDepth 100000 in
theorem p2_s1152_s {X : Int → Int} {LX : Nat} : ck_Ok p2_O X LX 286 p2_s1152 := ck_ok_s (O := p2_O) (X := X) (LX := LX) (E := []) (mi := 286) (cuts := []) (f := 86) (S := p2_s1152) (lx := none) (XF := []) ⟨p2_nmu, ck_E0⟩ ck_X0 ck_l0 (by decide +kernel)
set_option maxRecDepth 100000 in
/-- GlacierMailModel.years -/
noncomputable def p2_s1153 : ck_Sum := ((1, 0, 0), 245, [.inr (.inr (.inl 226)), .inl (51, 2147483647, [])], ([], [], []), ([(226, 0, 0)], []), [(.inr (some (.inl (ck_one 0))), 245, ([], [], [(226, 0, 0, ck_one 1)]))])
set_option maxRecDepth 100000 in
theorem p2_s1153_s {X : Int → Int} {LX : Nat} : ck_Ok p2_O X LX 320 p2_s1153 := ck_ok_s (O := p2_O) (X := X) (LX := LX) (E := [(286, [p2_s1152]), (282, [p2_s241])]) (mi := 320) (cuts := []) (f := 102) (S := p2_s1153) (lx := none) (XF := []) ⟨p2_nmu, ck_E1 (ck_S1 p2_s1152_s ck_S0) (ck_E1 (ck_S1 p2_s241_s ck_S0) ck_E0)⟩ ck_X0 ck_l0 (by decide +kernel)
set_option maxRecDepth 100000 in
/-- GlacierMailModel.in -/
noncomputable def p2_s1154 : ck_Sum := ((0, 0, 0), 245, [.inl (ck_one 1), .inl (ck_one 1), .inl (ck_one 50)], ([], [], []), ([], []), [(.inr (some (.inl (ck_one 1))), 245, ([], [], []))])
set_option maxRecDepth 100000 in
theorem p2_s1154_s {X : Int → Int} {LX : Nat} : ck_Ok p2_O X LX 286 p2_s1154 := ck_ok_s (O := p2_O) (X := X) (LX := LX) (E := []) (mi := 286) (cuts := []) (f := 88) (S := p2_s1154) (lx := none) (XF := []) ⟨p2_nmu, ck_E0⟩ ck_X0 ck_l0 (by decide +kernel)
set_option maxRecDepth 100000 in
/-- GlacierMailModel.ofLetter -/
noncomputable def p2_s1155 : ck_Sum := ((0, 0, 0), 245, [.inr (.inr (.inl 226)), .inl (ck_one 0), .inl (ck_one 2)], ([], [], []), ([], []), [(.inr (some (.inl (0, 6, []))), 245, ([], [], []))])
set_option maxRecDepth 100000 in
theorem p2_s1155_s {X : Int → Int} {LX : Nat} : ck_Ok p2_O X LX 301 p2_s1155 := ck_ok_s (O := p2_O) (X := X) (LX := LX) (E := []) (mi := 301) (cuts := []) (f := 92) (S := p2_s1155) (lx := none) (XF := []) ⟨p2_nmu, ck_E0⟩ ck_X0 ck_l0 (by decide +kernel)
set_option maxRecDepth 100000 in
/-- GlacierMailModel.of -/
noncomputable def p2_s1156 : ck_Sum := ((0, 0, 0), 245, [.inr (.inr (.inl 226)), .inl (ck_one (-1)), .inl (ck_one 2)], ([], [], []), ([], []), [(.inr (some (.inl (0, 20, []))), 245, ([], [], []))])
set_option maxRecDepth 100000 in
theorem p2_s1156_s {X : Int → Int} {LX : Nat} : ck_Ok p2_O X LX 299 p2_s1156 := ck_ok_s (O := p2_O) (X := X) (LX := LX) (E := []) (mi := 299) (cuts := []) (f := 92) (S := p2_s1156) (lx := none) (XF := []) ⟨p2_nmu, ck_E0⟩ ck_X0 ck_l0 (by decide +kernel)
set_option maxRecDepth 100000 in
/-- GlacierMailModel.mayOpen -/
noncomputable def p2_s1157 : ck_Sum := ((4, 0, 0), 245, [.inr (.inr (.inl 226)), .inl (0, 7, []), .inl (0, 23, [])], ([], [], [(226, 29, 29, (0, 299, [])), (227, 9, 9, (0, 299, [(11, 0)]))]), ([(226, 17, 23), (233, 0, 399)], []), [(.inr (some (.inl (ck_one 0))), 245, ([], [], zl179)), (.inr (some (.inl (ck_one 1))), 245, ([], [], zl179))])
set_option maxRecDepth 100000 in
theorem p2_s1157_s {X : Int → Int} {LX : Nat} : ck_Ok p2_O X LX 323 p2_s1157 := ck_ok_s (O := p2_O) (X := X) (LX := LX) (E := [(301, [p2_s375, p2_s377]), (259, [p2_s180]), (266, [p2_s190]), (294, [sl_S])]) (mi := 323) (cuts := []) (f := 156) (S := p2_s1157) (lx := none) (XF := []) ⟨p2_nmu, ck_E1 (ck_S1 p2_s375_s (ck_S1 p2_s377_s ck_S0)) (ck_E1 (ck_S1 p2_s180_s ck_S0) (ck_E1 (ck_S1 p2_s190_s ck_S0) (ck_E1 (ck_S1 sl_S_s ck_S0) ck_E0)))⟩ ck_X0 ck_l0 (by decide +kernel)
set_option maxRecDepth 100000 in
/-- GlacierMailModel.opener -/
noncomputable def p2_s1158 : ck_Sum := ((5, 0, 0), 245, [.inr (.inr (.inl 226)), .inl (ck_one 0)], ([], [], zl180), ([(226, 17, 23), (233, 0, 399)], []), [(.inr (some (.inl (ck_one (-1)))), 245, ([], [], [])), (.inr (some (.inl (0, 7, []))), 245, ([], [], []))])
set_option maxRecDepth 100000 in
theorem p2_s1158_s {X : Int → Int} {LX : Nat} : ck_Ok p2_O X LX 322 p2_s1158 := ck_ok_s (O := p2_O) (X := X) (LX := LX) (E := [(301, [p2_s1155, p2_s830]), (299, [p2_s1156, p2_s569]), (253, [p2_s186]), (323, [p2_s1157])]) (mi := 322) (cuts := [(31, [some (.inr (.inr (.inl 226))), some (.inl (ck_one 0)), some (.inl (0, 6, [])), some (.inl (0, 8, []))], ([], [], [(227, 120, 120, ((-1), 7, [])), (226, 29, 29, (0, 299, [])), (227, 9, 9, (1, 299, [(11, 0)])), (227, 3, 3, (0, 8, [(21, 0)]))]), 100, .inl 3, true)]) (f := 166) (S := p2_s1158) (lx := none) (XF := []) ⟨p2_nmu, ck_E1 (ck_S1 p2_s1155_s (ck_S1 p2_s830_s ck_S0)) (ck_E1 (ck_S1 p2_s1156_s (ck_S1 p2_s569_s ck_S0)) (ck_E1 (ck_S1 p2_s186_s ck_S0) (ck_E1 (ck_S1 p2_s1157_s ck_S0) ck_E0)))⟩ ck_X0 ck_l0 (by decide +kernel)
set_option maxRecDepth 100000 in
/-- GlacierMailModel.ofLetter -/
noncomputable def p2_s1159 : ck_Sum := ((0, 0, 0), 245, [.inr (.inr (.inl 226)), .inl (ck_one 1), .inl (ck_one 2)], ([], [], []), ([], []), [(.inr (some (.inl (0, 6, []))), 245, ([], [], []))])
set_option maxRecDepth 100000 in
theorem p2_s1159_s {X : Int → Int} {LX : Nat} : ck_Ok p2_O X LX 301 p2_s1159 := ck_ok_s (O := p2_O) (X := X) (LX := LX) (E := []) (mi := 301) (cuts := []) (f := 92) (S := p2_s1159) (lx := none) (XF := []) ⟨p2_nmu, ck_E0⟩ ck_X0 ck_l0 (by decide +kernel)
set_option maxRecDepth 100000 in
/-- GlacierMailModel.opener -/
noncomputable def p2_s1160 : ck_Sum := ((5, 0, 0), 245, [.inr (.inr (.inl 226)), .inl (ck_one 1)], ([], [], zl180), ([(226, 17, 23), (233, 0, 399)], []), [(.inr (some (.inl (ck_one (-1)))), 245, ([], [], [])), (.inr (some (.inl (0, 7, []))), 245, ([], [], []))])
set_option maxRecDepth 100000 in
theorem p2_s1160_s {X : Int → Int} {LX : Nat} : ck_Ok p2_O X LX 322 p2_s1160 := ck_ok_s (O := p2_O) (X := X) (LX := LX) (E := [(301, [p2_s1159, p2_s841]), (299, [p2_s1156, p2_s569]), (253, [p2_s186]), (323, [p2_s1157])]) (mi := 322) (cuts := [(31, [some (.inr (.inr (.inl 226))), some (.inl (ck_one 1)), some (.inl (0, 6, [])), some (.inl (0, 8, []))], ([], [], [(227, 127, 127, ((-1), 7, [])), (226, 29, 29, (0, 299, [])), (227, 9, 9, (1, 299, [(11, 0)])), (227, 3, 3, (0, 8, [(21, 0)]))]), 100, .inl 3, true)]) (f := 166) (S := p2_s1160) (lx := none) (XF := []) ⟨p2_nmu, ck_E1 (ck_S1 p2_s1159_s (ck_S1 p2_s841_s ck_S0)) (ck_E1 (ck_S1 p2_s1156_s (ck_S1 p2_s569_s ck_S0)) (ck_E1 (ck_S1 p2_s186_s ck_S0) (ck_E1 (ck_S1 p2_s1157_s ck_S0) ck_E0)))⟩ ck_X0 ck_l0 (by decide +kernel)
set_option maxRecDepth 100000 in
/-- GlacierMailModel.ofLetter -/
noncomputable def p2_s1161 : ck_Sum := ((0, 0, 0), 245, [.inr (.inr (.inl 226)), .inl (ck_one 2), .inl (ck_one 2)], ([], [], []), ([], []), [(.inr (some (.inl (0, 6, []))), 245, ([], [], []))])
set_option maxRecDepth 100000 in
theorem p2_s1161_s {X : Int → Int} {LX : Nat} : ck_Ok p2_O X LX 301 p2_s1161 := ck_ok_s (O := p2_O) (X := X) (LX := LX) (E := []) (mi := 301) (cuts := []) (f := 92) (S := p2_s1161) (lx := none) (XF := []) ⟨p2_nmu, ck_E0⟩ ck_X0 ck_l0 (by decide +kernel)
set_option maxRecDepth 100000 in
/-- GlacierMailModel.opener -/
noncomputable def p2_s1162 : ck_Sum := ((5, 0, 0), 245, [.inr (.inr (.inl 226)), .inl (ck_one 2)], ([], [], zl180), ([(226, 17, 23), (233, 0, 399)], []), [(.inr (some (.inl (ck_one (-1)))), 245, ([], [], [])), (.inr (some (.inl (0, 7, []))), 245, ([], [], []))])
set_option maxRecDepth 100000 in
theorem p2_s1162_s {X : Int → Int} {LX : Nat} : ck_Ok p2_O X LX 322 p2_s1162 := ck_ok_s (O := p2_O) (X := X) (LX := LX) (E := [(301, [p2_s1161, p2_s852]), (299, [p2_s1156, p2_s569]), (253, [p2_s186]), (323, [p2_s1157])]) (mi := 322) (cuts := [(31, [some (.inr (.inr (.inl 226))), some (.inl (ck_one 2)), some (.inl (0, 6, [])), some (.inl (0, 8, []))], ([], [], [(227, 134, 134, ((-1), 7, [])), (226, 29, 29, (0, 299, [])), (227, 9, 9, (1, 299, [(11, 0)])), (227, 3, 3, (0, 8, [(21, 0)]))]), 100, .inl 3, true)]) (f := 166) (S := p2_s1162) (lx := none) (XF := []) ⟨p2_nmu, ck_E1 (ck_S1 p2_s1161_s (ck_S1 p2_s852_s ck_S0)) (ck_E1 (ck_S1 p2_s1156_s (ck_S1 p2_s569_s ck_S0)) (ck_E1 (ck_S1 p2_s186_s ck_S0) (ck_E1 (ck_S1 p2_s1157_s ck_S0) ck_E0)))⟩ ck_X0 ck_l0 (by decide +kernel)
set_option maxRecDepth 100000 in
/-- GlacierMailModel.ofLetter -/
noncomputable def p2_s1163 : ck_Sum := ((0, 0, 0), 245, [.inr (.inr (.inl 226)), .inl (ck_one 3), .inl (ck_one 2)], ([], [], []), ([], []), [(.inr (some (.inl (0, 6, []))), 245, ([], [], []))])
set_option maxRecDepth 100000 in
theorem p2_s1163_s {X : Int → Int} {LX : Nat} : ck_Ok p2_O X LX 301 p2_s1163 := ck_ok_s (O := p2_O) (X := X) (LX := LX) (E := []) (mi := 301) (cuts := []) (f := 92) (S := p2_s1163) (lx := none) (XF := []) ⟨p2_nmu, ck_E0⟩ ck_X0 ck_l0 (by decide +kernel)
set_option maxRecDepth 100000 in
/-- GlacierMailModel.opener -/
noncomputable def p2_s1164 : ck_Sum := ((5, 0, 0), 245, [.inr (.inr (.inl 226)), .inl (ck_one 3)], ([], [], zl180), ([(226, 17, 23), (233, 0, 399)], []), [(.inr (some (.inl (ck_one (-1)))), 245, ([], [], [])), (.inr (some (.inl (0, 7, []))), 245, ([], [], []))])
set_option maxRecDepth 100000 in
theorem p2_s1164_s {X : Int → Int} {LX : Nat} : ck_Ok p2_O X LX 322 p2_s1164 := ck_ok_s (O := p2_O) (X := X) (LX := LX) (E := [(301, [p2_s1163, p2_s863]), (299, [p2_s1156, p2_s569]), (253, [p2_s186]), (323, [p2_s1157])]) (mi := 322) (cuts := [(31, [some (.inr (.inr (.inl 226))), some (.inl (ck_one 3)), some (.inl (0, 6, [])), some (.inl (0, 8, []))], ([], [], [(227, 141, 141, ((-1), 7, [])), (226, 29, 29, (0, 299, [])), (227, 9, 9, (1, 299, [(11, 0)])), (227, 3, 3, (0, 8, [(21, 0)]))]), 100, .inl 3, true)]) (f := 166) (S := p2_s1164) (lx := none) (XF := []) ⟨p2_nmu, ck_E1 (ck_S1 p2_s1163_s (ck_S1 p2_s863_s ck_S0)) (ck_E1 (ck_S1 p2_s1156_s (ck_S1 p2_s569_s ck_S0)) (ck_E1 (ck_S1 p2_s186_s ck_S0) (ck_E1 (ck_S1 p2_s1157_s ck_S0) ck_E0)))⟩ ck_X0 ck_l0 (by decide +kernel)
set_option maxRecDepth 100000 in
/-- GlacierMailModel.ofLetter -/
noncomputable def p2_s1165 : ck_Sum := ((0, 0, 0), 245, [.inr (.inr (.inl 226)), .inl (ck_one 4), .inl (ck_one 2)], ([], [], []), ([], []), [(.inr (some (.inl (0, 6, []))), 245, ([], [], []))])
set_option maxRecDepth 100000 in
theorem p2_s1165_s {X : Int → Int} {LX : Nat} : ck_Ok p2_O X LX 301 p2_s1165 := ck_ok_s (O := p2_O) (X := X) (LX := LX) (E := []) (mi := 301) (cuts := []) (f := 92) (S := p2_s1165) (lx := none) (XF := []) ⟨p2_nmu, ck_E0⟩ ck_X0 ck_l0 (by decide +kernel)
set_option maxRecDepth 100000 in
/-- GlacierMailModel.opener -/
noncomputable def p2_s1166 : ck_Sum := ((5, 0, 0), 245, [.inr (.inr (.inl 226)), .inl (ck_one 4)], ([], [], zl180), ([(226, 17, 23), (233, 0, 399)], []), [(.inr (some (.inl (ck_one (-1)))), 245, ([], [], [])), (.inr (some (.inl (0, 7, []))), 245, ([], [], []))])
set_option maxRecDepth 100000 in
theorem p2_s1166_s {X : Int → Int} {LX : Nat} : ck_Ok p2_O X LX 322 p2_s1166 := ck_ok_s (O := p2_O) (X := X) (LX := LX) (E := [(301, [p2_s1165, p2_s874]), (299, [p2_s1156, p2_s569]), (253, [p2_s186]), (323, [p2_s1157])]) (mi := 322) (cuts := [(31, [some (.inr (.inr (.inl 226))), some (.inl (ck_one 4)), some (.inl (0, 6, [])), some (.inl (0, 8, []))], ([], [], [(227, 148, 148, ((-1), 7, [])), (226, 29, 29, (0, 299, [])), (227, 9, 9, (1, 299, [(11, 0)])), (227, 3, 3, (0, 8, [(21, 0)]))]), 100, .inl 3, true)]) (f := 166) (S := p2_s1166) (lx := none) (XF := []) ⟨p2_nmu, ck_E1 (ck_S1 p2_s1165_s (ck_S1 p2_s874_s ck_S0)) (ck_E1 (ck_S1 p2_s1156_s (ck_S1 p2_s569_s ck_S0)) (ck_E1 (ck_S1 p2_s186_s ck_S0) (ck_E1 (ck_S1 p2_s1157_s ck_S0) ck_E0)))⟩ ck_X0 ck_l0 (by decide +kernel)
set_option maxRecDepth 100000 in
/-- GlacierMailModel.ofLetter -/
noncomputable def p2_s1167 : ck_Sum := ((0, 0, 0), 245, [.inr (.inr (.inl 226)), .inl (ck_one 5), .inl (ck_one 2)], ([], [], []), ([], []), [(.inr (some (.inl (0, 6, []))), 245, ([], [], []))])
set_option maxRecDepth 100000 in
theorem p2_s1167_s {X : Int → Int} {LX : Nat} : ck_Ok p2_O X LX 301 p2_s1167 := ck_ok_s (O := p2_O) (X := X) (LX := LX) (E := []) (mi := 301) (cuts := []) (f := 92) (S := p2_s1167) (lx := none) (XF := []) ⟨p2_nmu, ck_E0⟩ ck_X0 ck_l0 (by decide +kernel)
set_option maxRecDepth 100000 in
/-- GlacierMailModel.opener -/
noncomputable def p2_s1168 : ck_Sum := ((5, 0, 0), 245, [.inr (.inr (.inl 226)), .inl (ck_one 5)], ([], [], zl180), ([(226, 17, 23), (233, 0, 399)], []), [(.inr (some (.inl (ck_one (-1)))), 245, ([], [], [])), (.inr (some (.inl (0, 7, []))), 245, ([], [], []))])
set_option maxRecDepth 100000 in
theorem p2_s1168_s {X : Int → Int} {LX : Nat} : ck_Ok p2_O X LX 322 p2_s1168 := ck_ok_s (O := p2_O) (X := X) (LX := LX) (E := [(301, [p2_s1167, p2_s885]), (299, [p2_s1156, p2_s569]), (253, [p2_s186]), (323, [p2_s1157])]) (mi := 322) (cuts := [(31, [some (.inr (.inr (.inl 226))), some (.inl (ck_one 5)), some (.inl (0, 6, [])), some (.inl (0, 8, []))], ([], [], [(227, 155, 155, ((-1), 7, [])), (226, 29, 29, (0, 299, [])), (227, 9, 9, (1, 299, [(11, 0)])), (227, 3, 3, (0, 8, [(21, 0)]))]), 100, .inl 3, true)]) (f := 166) (S := p2_s1168) (lx := none) (XF := []) ⟨p2_nmu, ck_E1 (ck_S1 p2_s1167_s (ck_S1 p2_s885_s ck_S0)) (ck_E1 (ck_S1 p2_s1156_s (ck_S1 p2_s569_s ck_S0)) (ck_E1 (ck_S1 p2_s186_s ck_S0) (ck_E1 (ck_S1 p2_s1157_s ck_S0) ck_E0)))⟩ ck_X0 ck_l0 (by decide +kernel)
set_option maxRecDepth 100000 in
/-- GlacierMailModel.ofLetter -/
noncomputable def p2_s1169 : ck_Sum := ((0, 0, 0), 245, [.inr (.inr (.inl 226)), .inl (ck_one 6), .inl (ck_one 2)], ([], [], []), ([], []), [(.inr (some (.inl (0, 6, []))), 245, ([], [], []))])
set_option maxRecDepth 100000 in
theorem p2_s1169_s {X : Int → Int} {LX : Nat} : ck_Ok p2_O X LX 301 p2_s1169 := ck_ok_s (O := p2_O) (X := X) (LX := LX) (E := []) (mi := 301) (cuts := []) (f := 92) (S := p2_s1169) (lx := none) (XF := []) ⟨p2_nmu, ck_E0⟩ ck_X0 ck_l0 (by decide +kernel)
set_option maxRecDepth 100000 in
/-- GlacierMailModel.opener -/
noncomputable def p2_s1170 : ck_Sum := ((5, 0, 0), 245, [.inr (.inr (.inl 226)), .inl (ck_one 6)], ([], [], zl180), ([(226, 17, 23), (233, 0, 399)], []), [(.inr (some (.inl (ck_one (-1)))), 245, ([], [], [])), (.inr (some (.inl (0, 7, []))), 245, ([], [], []))])
set_option maxRecDepth 100000 in
theorem p2_s1170_s {X : Int → Int} {LX : Nat} : ck_Ok p2_O X LX 322 p2_s1170 := ck_ok_s (O := p2_O) (X := X) (LX := LX) (E := [(301, [p2_s1169, p2_s896]), (299, [p2_s1156, p2_s569]), (253, [p2_s186]), (323, [p2_s1157])]) (mi := 322) (cuts := [(31, [some (.inr (.inr (.inl 226))), some (.inl (ck_one 6)), some (.inl (0, 6, [])), some (.inl (0, 8, []))], ([], [], [(227, 162, 162, ((-1), 7, [])), (226, 29, 29, (0, 299, [])), (227, 9, 9, (1, 299, [(11, 0)])), (227, 3, 3, (0, 8, [(21, 0)]))]), 100, .inl 3, true)]) (f := 166) (S := p2_s1170) (lx := none) (XF := []) ⟨p2_nmu, ck_E1 (ck_S1 p2_s1169_s (ck_S1 p2_s896_s ck_S0)) (ck_E1 (ck_S1 p2_s1156_s (ck_S1 p2_s569_s ck_S0)) (ck_E1 (ck_S1 p2_s186_s ck_S0) (ck_E1 (ck_S1 p2_s1157_s ck_S0) ck_E0)))⟩ ck_X0 ck_l0 (by decide +kernel)
set_option maxRecDepth 100000 in
/-- GlacierMailModel.ofLetter -/
noncomputable def p2_s1171 : ck_Sum := ((0, 0, 0), 245, [.inr (.inr (.inl 226)), .inl (ck_one 7), .inl (ck_one 2)], ([], [], []), ([], []), [(.inr (some (.inl (0, 6, []))), 245, ([], [], []))])
set_option maxRecDepth 100000 in
theorem p2_s1171_s {X : Int → Int} {LX : Nat} : ck_Ok p2_O X LX 301 p2_s1171 := ck_ok_s (O := p2_O) (X := X) (LX := LX) (E := []) (mi := 301) (cuts := []) (f := 92) (S := p2_s1171) (lx := none) (XF := []) ⟨p2_nmu, ck_E0⟩ ck_X0 ck_l0 (by decide +kernel)
set_option maxRecDepth 100000 in
/-- GlacierMailModel.opener -/
noncomputable def p2_s1172 : ck_Sum := ((5, 0, 0), 245, [.inr (.inr (.inl 226)), .inl (ck_one 7)], ([], [], zl180), ([(226, 17, 23), (233, 0, 399)], []), [(.inr (some (.inl (ck_one (-1)))), 245, ([], [], [])), (.inr (some (.inl (0, 7, []))), 245, ([], [], []))])
set_option maxRecDepth 100000 in
theorem p2_s1172_s {X : Int → Int} {LX : Nat} : ck_Ok p2_O X LX 322 p2_s1172 := ck_ok_s (O := p2_O) (X := X) (LX := LX) (E := [(301, [p2_s1171, p2_s907]), (299, [p2_s1156, p2_s569]), (253, [p2_s186]), (323, [p2_s1157])]) (mi := 322) (cuts := [(31, [some (.inr (.inr (.inl 226))), some (.inl (ck_one 7)), some (.inl (0, 6, [])), some (.inl (0, 8, []))], ([], [], [(227, 169, 169, ((-1), 7, [])), (226, 29, 29, (0, 299, [])), (227, 9, 9, (1, 299, [(11, 0)])), (227, 3, 3, (0, 8, [(21, 0)]))]), 100, .inl 3, true)]) (f := 166) (S := p2_s1172) (lx := none) (XF := []) ⟨p2_nmu, ck_E1 (ck_S1 p2_s1171_s (ck_S1 p2_s907_s ck_S0)) (ck_E1 (ck_S1 p2_s1156_s (ck_S1 p2_s569_s ck_S0)) (ck_E1 (ck_S1 p2_s186_s ck_S0) (ck_E1 (ck_S1 p2_s1157_s ck_S0) ck_E0)))⟩ ck_X0 ck_l0 (by decide +kernel)
set_option maxRecDepth 100000 in
/-- GlacierMailModel.ofLetter -/
noncomputable def p2_s1173 : ck_Sum := ((0, 0, 0), 245, [.inr (.inr (.inl 226)), .inl (ck_one 8), .inl (ck_one 2)], ([], [], []), ([], []), [(.inr (some (.inl (0, 6, []))), 245, ([], [], []))])
set_option maxRecDepth 100000 in
theorem p2_s1173_s {X : Int → Int} {LX : Nat} : ck_Ok p2_O X LX 301 p2_s1173 := ck_ok_s (O := p2_O) (X := X) (LX := LX) (E := []) (mi := 301) (cuts := []) (f := 92) (S := p2_s1173) (lx := none) (XF := []) ⟨p2_nmu, ck_E0⟩ ck_X0 ck_l0 (by decide +kernel)
set_option maxRecDepth 100000 in
/-- GlacierMailModel.opener -/
noncomputable def p2_s1174 : ck_Sum := ((5, 0, 0), 245, [.inr (.inr (.inl 226)), .inl (ck_one 8)], ([], [], zl180), ([(226, 17, 23), (233, 0, 399)], []), [(.inr (some (.inl (ck_one (-1)))), 245, ([], [], [])), (.inr (some (.inl (0, 7, []))), 245, ([], [], []))])
set_option maxRecDepth 100000 in
theorem p2_s1174_s {X : Int → Int} {LX : Nat} : ck_Ok p2_O X LX 322 p2_s1174 := ck_ok_s (O := p2_O) (X := X) (LX := LX) (E := [(301, [p2_s1173, p2_s918]), (299, [p2_s1156, p2_s569]), (253, [p2_s186]), (323, [p2_s1157])]) (mi := 322) (cuts := [(31, [some (.inr (.inr (.inl 226))), some (.inl (ck_one 8)), some (.inl (0, 6, [])), some (.inl (0, 8, []))], ([], [], [(227, 176, 176, ((-1), 7, [])), (226, 29, 29, (0, 299, [])), (227, 9, 9, (1, 299, [(11, 0)])), (227, 3, 3, (0, 8, [(21, 0)]))]), 100, .inl 3, true)]) (f := 166) (S := p2_s1174) (lx := none) (XF := []) ⟨p2_nmu, ck_E1 (ck_S1 p2_s1173_s (ck_S1 p2_s918_s ck_S0)) (ck_E1 (ck_S1 p2_s1156_s (ck_S1 p2_s569_s ck_S0)) (ck_E1 (ck_S1 p2_s186_s ck_S0) (ck_E1 (ck_S1 p2_s1157_s ck_S0) ck_E0)))⟩ ck_X0 ck_l0 (by decide +kernel)
set_option maxRecDepth 100000 in
/-- GlacierMailModel.ofLetter -/
noncomputable def p2_s1175 : ck_Sum := ((0, 0, 0), 245, [.inr (.inr (.inl 226)), .inl (ck_one 9), .inl (ck_one 2)], ([], [], []), ([], []), [(.inr (some (.inl (0, 6, []))), 245, ([], [], []))])
set_option maxRecDepth 100000 in
theorem p2_s1175_s {X : Int → Int} {LX : Nat} : ck_Ok p2_O X LX 301 p2_s1175 := ck_ok_s (O := p2_O) (X := X) (LX := LX) (E := []) (mi := 301) (cuts := []) (f := 92) (S := p2_s1175) (lx := none) (XF := []) ⟨p2_nmu, ck_E0⟩ ck_X0 ck_l0 (by decide +kernel)
set_option maxRecDepth 100000 in
/-- GlacierMailModel.opener -/
noncomputable def p2_s1176 : ck_Sum := ((5, 0, 0), 245, [.inr (.inr (.inl 226)), .inl (ck_one 9)], ([], [], zl180), ([(226, 17, 23), (233, 0, 399)], []), [(.inr (some (.inl (ck_one (-1)))), 245, ([], [], [])), (.inr (some (.inl (0, 7, []))), 245, ([], [], []))])
set_option maxRecDepth 100000 in
theorem p2_s1176_s {X : Int → Int} {LX : Nat} : ck_Ok p2_O X LX 322 p2_s1176 := ck_ok_s (O := p2_O) (X := X) (LX := LX) (E := [(301, [p2_s1175, p2_s929]), (299, [p2_s1156, p2_s569]), (253, [p2_s186]), (323, [p2_s1157])]) (mi := 322) (cuts := [(31, [some (.inr (.inr (.inl 226))), some (.inl (ck_one 9)), some (.inl (0, 6, [])), some (.inl (0, 8, []))], ([], [], [(227, 183, 183, ((-1), 7, [])), (226, 29, 29, (0, 299, [])), (227, 9, 9, (1, 299, [(11, 0)])), (227, 3, 3, (0, 8, [(21, 0)]))]), 100, .inl 3, true)]) (f := 166) (S := p2_s1176) (lx := none) (XF := []) ⟨p2_nmu, ck_E1 (ck_S1 p2_s1175_s (ck_S1 p2_s929_s ck_S0)) (ck_E1 (ck_S1 p2_s1156_s (ck_S1 p2_s569_s ck_S0)) (ck_E1 (ck_S1 p2_s186_s ck_S0) (ck_E1 (ck_S1 p2_s1157_s ck_S0) ck_E0)))⟩ ck_X0 ck_l0 (by decide +kernel)
set_option maxRecDepth 100000 in
/-- GlacierMailModel.ofLetter -/
noncomputable def p2_s1177 : ck_Sum := ((0, 0, 0), 245, [.inr (.inr (.inl 226)), .inl (ck_one 10), .inl (ck_one 2)], ([], [], []), ([], []), [(.inr (some (.inl (0, 6, []))), 245, ([], [], []))])
set_option maxRecDepth 100000 in
theorem p2_s1177_s {X : Int → Int} {LX : Nat} : ck_Ok p2_O X LX 301 p2_s1177 := ck_ok_s (O := p2_O) (X := X) (LX := LX) (E := []) (mi := 301) (cuts := []) (f := 92) (S := p2_s1177) (lx := none) (XF := []) ⟨p2_nmu, ck_E0⟩ ck_X0 ck_l0 (by decide +kernel)
set_option maxRecDepth 100000 in
/-- GlacierMailModel.opener -/
noncomputable def p2_s1178 : ck_Sum := ((5, 0, 0), 245, [.inr (.inr (.inl 226)), .inl (ck_one 10)], ([], [], zl180), ([(226, 17, 23), (233, 0, 399)], []), [(.inr (some (.inl (ck_one (-1)))), 245, ([], [], [])), (.inr (some (.inl (0, 7, []))), 245, ([], [], []))])
set_option maxRecDepth 100000 in
theorem p2_s1178_s {X : Int → Int} {LX : Nat} : ck_Ok p2_O X LX 322 p2_s1178 := ck_ok_s (O := p2_O) (X := X) (LX := LX) (E := [(301, [p2_s1177, p2_s940]), (299, [p2_s1156, p2_s569]), (253, [p2_s186]), (323, [p2_s1157])]) (mi := 322) (cuts := [(31, [some (.inr (.inr (.inl 226))), some (.inl (ck_one 10)), some (.inl (0, 6, [])), some (.inl (0, 8, []))], ([], [], [(227, 190, 190, ((-1), 7, [])), (226, 29, 29, (0, 299, [])), (227, 9, 9, (1, 299, [(11, 0)])), (227, 3, 3, (0, 8, [(21, 0)]))]), 100, .inl 3, true)]) (f := 166) (S := p2_s1178) (lx := none) (XF := []) ⟨p2_nmu, ck_E1 (ck_S1 p2_s1177_s (ck_S1 p2_s940_s ck_S0)) (ck_E1 (ck_S1 p2_s1156_s (ck_S1 p2_s569_s ck_S0)) (ck_E1 (ck_S1 p2_s186_s ck_S0) (ck_E1 (ck_S1 p2_s1157_s ck_S0) ck_E0)))⟩ ck_X0 ck_l0 (by decide +kernel)
set_option maxRecDepth 100000 in
/-- GlacierMailModel.ofLetter -/
noncomputable def p2_s1179 : ck_Sum := ((0, 0, 0), 245, [.inr (.inr (.inl 226)), .inl (ck_one 11), .inl (ck_one 2)], ([], [], []), ([], []), [(.inr (some (.inl (0, 6, []))), 245, ([], [], []))])
set_option maxRecDepth 100000 in
theorem p2_s1179_s {X : Int → Int} {LX : Nat} : ck_Ok p2_O X LX 301 p2_s1179 := ck_ok_s (O := p2_O) (X := X) (LX := LX) (E := []) (mi := 301) (cuts := []) (f := 92) (S := p2_s1179) (lx := none) (XF := []) ⟨p2_nmu, ck_E0⟩ ck_X0 ck_l0 (by decide +kernel)
set_option maxRecDepth 100000 in
/-- GlacierMailModel.opener -/
noncomputable def p2_s1180 : ck_Sum := ((5, 0, 0), 245, [.inr (.inr (.inl 226)), .inl (ck_one 11)], ([], [], zl180), ([(226, 17, 23), (233, 0, 399)], []), [(.inr (some (.inl (ck_one (-1)))), 245, ([], [], [])), (.inr (some (.inl (0, 7, []))), 245, ([], [], []))])
set_option maxRecDepth 100000 in
theorem p2_s1180_s {X : Int → Int} {LX : Nat} : ck_Ok p2_O X LX 322 p2_s1180 := ck_ok_s (O := p2_O) (X := X) (LX := LX) (E := [(301, [p2_s1179, p2_s951]), (299, [p2_s1156, p2_s569]), (253, [p2_s186]), (323, [p2_s1157])]) (mi := 322) (cuts := [(31, [some (.inr (.inr (.inl 226))), some (.inl (ck_one 11)), some (.inl (0, 6, [])), some (.inl (0, 8, []))], ([], [], [(227, 197, 197, ((-1), 7, [])), (226, 29, 29, (0, 299, [])), (227, 9, 9, (1, 299, [(11, 0)])), (227, 3, 3, (0, 8, [(21, 0)]))]), 100, .inl 3, true)]) (f := 166) (S := p2_s1180) (lx := none) (XF := []) ⟨p2_nmu, ck_E1 (ck_S1 p2_s1179_s (ck_S1 p2_s951_s ck_S0)) (ck_E1 (ck_S1 p2_s1156_s (ck_S1 p2_s569_s ck_S0)) (ck_E1 (ck_S1 p2_s186_s ck_S0) (ck_E1 (ck_S1 p2_s1157_s ck_S0) ck_E0)))⟩ ck_X0 ck_l0 (by decide +kernel)
set_option maxRecDepth 100000 in
/-- GlacierMailModel.ofLetter -/
noncomputable def p2_s1181 : ck_Sum := ((0, 0, 0), 245, [.inr (.inr (.inl 226)), .inl (ck_one 12), .inl (ck_one 2)], ([], [], []), ([], []), [(.inr (some (.inl (0, 6, []))), 245, ([], [], []))])
set_option maxRecDepth 100000 in
theorem p2_s1181_s {X : Int → Int} {LX : Nat} : ck_Ok p2_O X LX 301 p2_s1181 := ck_ok_s (O := p2_O) (X := X) (LX := LX) (E := []) (mi := 301) (cuts := []) (f := 92) (S := p2_s1181) (lx := none) (XF := []) ⟨p2_nmu, ck_E0⟩ ck_X0 ck_l0 (by decide +kernel)
set_option maxRecDepth 100000 in
/-- GlacierMailModel.opener -/
noncomputable def p2_s1182 : ck_Sum := ((5, 0, 0), 245, [.inr (.inr (.inl 226)), .inl (ck_one 12)], ([], [], zl180), ([(226, 17, 23), (233, 0, 399)], []), [(.inr (some (.inl (ck_one (-1)))), 245, ([], [], [])), (.inr (some (.inl (0, 7, []))), 245, ([], [], []))])
set_option maxRecDepth 100000 in
theorem p2_s1182_s {X : Int → Int} {LX : Nat} : ck_Ok p2_O X LX 322 p2_s1182 := ck_ok_s (O := p2_O) (X := X) (LX := LX) (E := [(301, [p2_s1181, p2_s962]), (299, [p2_s1156, p2_s569]), (253, [p2_s186]), (323, [p2_s1157])]) (mi := 322) (cuts := [(31, [some (.inr (.inr (.inl 226))), some (.inl (ck_one 12)), some (.inl (0, 6, [])), some (.inl (0, 8, []))], ([], [], [(227, 204, 204, ((-1), 7, [])), (226, 29, 29, (0, 299, [])), (227, 9, 9, (1, 299, [(11, 0)])), (227, 3, 3, (0, 8, [(21, 0)]))]), 100, .inl 3, true)]) (f := 166) (S := p2_s1182) (lx := none) (XF := []) ⟨p2_nmu, ck_E1 (ck_S1 p2_s1181_s (ck_S1 p2_s962_s ck_S0)) (ck_E1 (ck_S1 p2_s1156_s (ck_S1 p2_s569_s ck_S0)) (ck_E1 (ck_S1 p2_s186_s ck_S0) (ck_E1 (ck_S1 p2_s1157_s ck_S0) ck_E0)))⟩ ck_X0 ck_l0 (by decide +kernel)
set_option maxRecDepth 100000 in
/-- GlacierMailModel.ofLetter -/
noncomputable def p2_s1183 : ck_Sum := ((0, 0, 0), 245, [.inr (.inr (.inl 226)), .inl (ck_one 13), .inl (ck_one 2)], ([], [], []), ([], []), [(.inr (some (.inl (0, 6, []))), 245, ([], [], []))])
set_option maxRecDepth 100000 in
theorem p2_s1183_s {X : Int → Int} {LX : Nat} : ck_Ok p2_O X LX 301 p2_s1183 := ck_ok_s (O := p2_O) (X := X) (LX := LX) (E := []) (mi := 301) (cuts := []) (f := 92) (S := p2_s1183) (lx := none) (XF := []) ⟨p2_nmu, ck_E0⟩ ck_X0 ck_l0 (by decide +kernel)
set_option maxRecDepth 100000 in
/-- GlacierMailModel.opener -/
noncomputable def p2_s1184 : ck_Sum := ((5, 0, 0), 245, [.inr (.inr (.inl 226)), .inl (ck_one 13)], ([], [], zl180), ([(226, 17, 23), (233, 0, 399)], []), [(.inr (some (.inl (ck_one (-1)))), 245, ([], [], [])), (.inr (some (.inl (0, 7, []))), 245, ([], [], []))])
set_option maxRecDepth 100000 in
theorem p2_s1184_s {X : Int → Int} {LX : Nat} : ck_Ok p2_O X LX 322 p2_s1184 := ck_ok_s (O := p2_O) (X := X) (LX := LX) (E := [(301, [p2_s1183, p2_s973]), (299, [p2_s1156, p2_s569]), (253, [p2_s186]), (323, [p2_s1157])]) (mi := 322) (cuts := [(31, [some (.inr (.inr (.inl 226))), some (.inl (ck_one 13)), some (.inl (0, 6, [])), some (.inl (0, 8, []))], ([], [], [(227, 211, 211, ((-1), 7, [])), (226, 29, 29, (0, 299, [])), (227, 9, 9, (1, 299, [(11, 0)])), (227, 3, 3, (0, 8, [(21, 0)]))]), 100, .inl 3, true)]) (f := 166) (S := p2_s1184) (lx := none) (XF := []) ⟨p2_nmu, ck_E1 (ck_S1 p2_s1183_s (ck_S1 p2_s973_s ck_S0)) (ck_E1 (ck_S1 p2_s1156_s (ck_S1 p2_s569_s ck_S0)) (ck_E1 (ck_S1 p2_s186_s ck_S0) (ck_E1 (ck_S1 p2_s1157_s ck_S0) ck_E0)))⟩ ck_X0 ck_l0 (by decide +kernel)
set_option maxRecDepth 100000 in
/-- GlacierMailModel.ofLetter -/
noncomputable def p2_s1185 : ck_Sum := ((0, 0, 0), 245, [.inr (.inr (.inl 226)), .inl (ck_one 14), .inl (ck_one 2)], ([], [], []), ([], []), [(.inr (some (.inl (0, 6, []))), 245, ([], [], []))])
set_option maxRecDepth 100000 in
theorem p2_s1185_s {X : Int → Int} {LX : Nat} : ck_Ok p2_O X LX 301 p2_s1185 := ck_ok_s (O := p2_O) (X := X) (LX := LX) (E := []) (mi := 301) (cuts := []) (f := 92) (S := p2_s1185) (lx := none) (XF := []) ⟨p2_nmu, ck_E0⟩ ck_X0 ck_l0 (by decide +kernel)
set_option maxRecDepth 100000 in
/-- GlacierMailModel.opener -/
noncomputable def p2_s1186 : ck_Sum := ((5, 0, 0), 245, [.inr (.inr (.inl 226)), .inl (ck_one 14)], ([], [], zl180), ([(226, 17, 23), (233, 0, 399)], []), [(.inr (some (.inl (ck_one (-1)))), 245, ([], [], [])), (.inr (some (.inl (0, 7, []))), 245, ([], [], []))])
set_option maxRecDepth 100000 in
theorem p2_s1186_s {X : Int → Int} {LX : Nat} : ck_Ok p2_O X LX 322 p2_s1186 := ck_ok_s (O := p2_O) (X := X) (LX := LX) (E := [(301, [p2_s1185, p2_s984]), (299, [p2_s1156, p2_s569]), (253, [p2_s186]), (323, [p2_s1157])]) (mi := 322) (cuts := [(31, [some (.inr (.inr (.inl 226))), some (.inl (ck_one 14)), some (.inl (0, 6, [])), some (.inl (0, 8, []))], ([], [], [(227, 218, 218, ((-1), 7, [])), (226, 29, 29, (0, 299, [])), (227, 9, 9, (1, 299, [(11, 0)])), (227, 3, 3, (0, 8, [(21, 0)]))]), 100, .inl 3, true)]) (f := 166) (S := p2_s1186) (lx := none) (XF := []) ⟨p2_nmu, ck_E1 (ck_S1 p2_s1185_s (ck_S1 p2_s984_s ck_S0)) (ck_E1 (ck_S1 p2_s1156_s (ck_S1 p2_s569_s ck_S0)) (ck_E1 (ck_S1 p2_s186_s ck_S0) (ck_E1 (ck_S1 p2_s1157_s ck_S0) ck_E0)))⟩ ck_X0 ck_l0 (by decide +kernel)
set_option maxRecDepth 100000 in
/-- GlacierMailModel.ofLetter -/
noncomputable def p2_s1187 : ck_Sum := ((0, 0, 0), 245, [.inr (.inr (.inl 226)), .inl (ck_one 15), .inl (ck_one 2)], ([], [], []), ([], []), [(.inr (some (.inl (0, 6, []))), 245, ([], [], []))])
set_option maxRecDepth 100000 in
theorem p2_s1187_s {X : Int → Int} {LX : Nat} : ck_Ok p2_O X LX 301 p2_s1187 := ck_ok_s (O := p2_O) (X := X) (LX := LX) (E := []) (mi := 301) (cuts := []) (f := 92) (S := p2_s1187) (lx := none) (XF := []) ⟨p2_nmu, ck_E0⟩ ck_X0 ck_l0 (by decide +kernel)
set_option maxRecDepth 100000 in
/-- GlacierMailModel.opener -/
noncomputable def p2_s1188 : ck_Sum := ((5, 0, 0), 245, [.inr (.inr (.inl 226)), .inl (ck_one 15)], ([], [], zl180), ([(226, 17, 23), (233, 0, 399)], []), [(.inr (some (.inl (ck_one (-1)))), 245, ([], [], [])), (.inr (some (.inl (0, 7, []))), 245, ([], [], []))])
set_option maxRecDepth 100000 in
theorem p2_s1188_s {X : Int → Int} {LX : Nat} : ck_Ok p2_O X LX 322 p2_s1188 := ck_ok_s (O := p2_O) (X := X) (LX := LX) (E := [(301, [p2_s1187, p2_s995]), (299, [p2_s1156, p2_s569]), (253, [p2_s186]), (323, [p2_s1157])]) (mi := 322) (cuts := [(31, [some (.inr (.inr (.inl 226))), some (.inl (ck_one 15)), some (.inl (0, 6, [])), some (.inl (0, 8, []))], ([], [], [(227, 225, 225, ((-1), 7, [])), (226, 29, 29, (0, 299, [])), (227, 9, 9, (1, 299, [(11, 0)])), (227, 3, 3, (0, 8, [(21, 0)]))]), 100, .inl 3, true)]) (f := 166) (S := p2_s1188) (lx := none) (XF := []) ⟨p2_nmu, ck_E1 (ck_S1 p2_s1187_s (ck_S1 p2_s995_s ck_S0)) (ck_E1 (ck_S1 p2_s1156_s (ck_S1 p2_s569_s ck_S0)) (ck_E1 (ck_S1 p2_s186_s ck_S0) (ck_E1 (ck_S1 p2_s1157_s ck_S0) ck_E0)))⟩ ck_X0 ck_l0 (by decide +kernel)
set_option maxRecDepth 100000 in
/-- GlacierMailModel.ofLetter -/
noncomputable def p2_s1189 : ck_Sum := ((0, 0, 0), 245, [.inr (.inr (.inl 226)), .inl (ck_one 16), .inl (ck_one 2)], ([], [], []), ([], []), [(.inr (some (.inl (0, 6, []))), 245, ([], [], []))])
set_option maxRecDepth 100000 in
theorem p2_s1189_s {X : Int → Int} {LX : Nat} : ck_Ok p2_O X LX 301 p2_s1189 := ck_ok_s (O := p2_O) (X := X) (LX := LX) (E := []) (mi := 301) (cuts := []) (f := 92) (S := p2_s1189) (lx := none) (XF := []) ⟨p2_nmu, ck_E0⟩ ck_X0 ck_l0 (by decide +kernel)
set_option maxRecDepth 100000 in
/-- GlacierMailModel.opener -/
noncomputable def p2_s1190 : ck_Sum := ((5, 0, 0), 245, [.inr (.inr (.inl 226)), .inl (ck_one 16)], ([], [], zl180), ([(226, 17, 23), (233, 0, 399)], []), [(.inr (some (.inl (ck_one (-1)))), 245, ([], [], [])), (.inr (some (.inl (0, 7, []))), 245, ([], [], []))])
set_option maxRecDepth 100000 in
theorem p2_s1190_s {X : Int → Int} {LX : Nat} : ck_Ok p2_O X LX 322 p2_s1190 := ck_ok_s (O := p2_O) (X := X) (LX := LX) (E := [(301, [p2_s1189, p2_s1006]), (299, [p2_s1156, p2_s569]), (253, [p2_s186]), (323, [p2_s1157])]) (mi := 322) (cuts := [(31, [some (.inr (.inr (.inl 226))), some (.inl (ck_one 16)), some (.inl (0, 6, [])), some (.inl (0, 8, []))], ([], [], [(227, 232, 232, ((-1), 7, [])), (226, 29, 29, (0, 299, [])), (227, 9, 9, (1, 299, [(11, 0)])), (227, 3, 3, (0, 8, [(21, 0)]))]), 100, .inl 3, true)]) (f := 166) (S := p2_s1190) (lx := none) (XF := []) ⟨p2_nmu, ck_E1 (ck_S1 p2_s1189_s (ck_S1 p2_s1006_s ck_S0)) (ck_E1 (ck_S1 p2_s1156_s (ck_S1 p2_s569_s ck_S0)) (ck_E1 (ck_S1 p2_s186_s ck_S0) (ck_E1 (ck_S1 p2_s1157_s ck_S0) ck_E0)))⟩ ck_X0 ck_l0 (by decide +kernel)
set_option maxRecDepth 100000 in
/-- GlacierMailModel.ofLetter -/
noncomputable def p2_s1191 : ck_Sum := ((0, 0, 0), 245, [.inr (.inr (.inl 226)), .inl (ck_one 17), .inl (ck_one 2)], ([], [], []), ([], []), [(.inr (some (.inl (0, 6, []))), 245, ([], [], []))])
set_option maxRecDepth 100000 in
theorem p2_s1191_s {X : Int → Int} {LX : Nat} : ck_Ok p2_O X LX 301 p2_s1191 := ck_ok_s (O := p2_O) (X := X) (LX := LX) (E := []) (mi := 301) (cuts := []) (f := 92) (S := p2_s1191) (lx := none) (XF := []) ⟨p2_nmu, ck_E0⟩ ck_X0 ck_l0 (by decide +kernel)
set_option maxRecDepth 100000 in
/-- GlacierMailModel.opener -/
noncomputable def p2_s1192 : ck_Sum := ((5, 0, 0), 245, [.inr (.inr (.inl 226)), .inl (ck_one 17)], ([], [], zl180), ([(226, 17, 23), (233, 0, 399)], []), [(.inr (some (.inl (ck_one (-1)))), 245, ([], [], [])), (.inr (some (.inl (0, 7, []))), 245, ([], [], []))])
set_option maxRecDepth 100000 in
theorem p2_s1192_s {X : Int → Int} {LX : Nat} : ck_Ok p2_O X LX 322 p2_s1192 := ck_ok_s (O := p2_O) (X := X) (LX := LX) (E := [(301, [p2_s1191, p2_s1017]), (299, [p2_s1156, p2_s569]), (253, [p2_s186]), (323, [p2_s1157])]) (mi := 322) (cuts := [(31, [some (.inr (.inr (.inl 226))), some (.inl (ck_one 17)), some (.inl (0, 6, [])), some (.inl (0, 8, []))], ([], [], [(227, 239, 239, ((-1), 7, [])), (226, 29, 29, (0, 299, [])), (227, 9, 9, (1, 299, [(11, 0)])), (227, 3, 3, (0, 8, [(21, 0)]))]), 100, .inl 3, true)]) (f := 166) (S := p2_s1192) (lx := none) (XF := []) ⟨p2_nmu, ck_E1 (ck_S1 p2_s1191_s (ck_S1 p2_s1017_s ck_S0)) (ck_E1 (ck_S1 p2_s1156_s (ck_S1 p2_s569_s ck_S0)) (ck_E1 (ck_S1 p2_s186_s ck_S0) (ck_E1 (ck_S1 p2_s1157_s ck_S0) ck_E0)))⟩ ck_X0 ck_l0 (by decide +kernel)
set_option maxRecDepth 100000 in
/-- GlacierMailModel.ofLetter -/
noncomputable def p2_s1193 : ck_Sum := ((0, 0, 0), 245, [.inr (.inr (.inl 226)), .inl (ck_one 18), .inl (ck_one 2)], ([], [], []), ([], []), [(.inr (some (.inl (0, 6, []))), 245, ([], [], []))])
set_option maxRecDepth 100000 in
theorem p2_s1193_s {X : Int → Int} {LX : Nat} : ck_Ok p2_O X LX 301 p2_s1193 := ck_ok_s (O := p2_O) (X := X) (LX := LX) (E := []) (mi := 301) (cuts := []) (f := 92) (S := p2_s1193) (lx := none) (XF := []) ⟨p2_nmu, ck_E0⟩ ck_X0 ck_l0 (by decide +kernel)
set_option maxRecDepth 100000 in
/-- GlacierMailModel.opener -/
noncomputable def p2_s1194 : ck_Sum := ((5, 0, 0), 245, [.inr (.inr (.inl 226)), .inl (ck_one 18)], ([], [], zl180), ([(226, 17, 23), (233, 0, 399)], []), [(.inr (some (.inl (ck_one (-1)))), 245, ([], [], [])), (.inr (some (.inl (0, 7, []))), 245, ([], [], []))])
set_option maxRecDepth 100000 in
theorem p2_s1194_s {X : Int → Int} {LX : Nat} : ck_Ok p2_O X LX 322 p2_s1194 := ck_ok_s (O := p2_O) (X := X) (LX := LX) (E := [(301, [p2_s1193, p2_s1028]), (299, [p2_s1156, p2_s569]), (253, [p2_s186]), (323, [p2_s1157])]) (mi := 322) (cuts := [(31, [some (.inr (.inr (.inl 226))), some (.inl (ck_one 18)), some (.inl (0, 6, [])), some (.inl (0, 8, []))], ([], [], [(227, 246, 246, ((-1), 7, [])), (226, 29, 29, (0, 299, [])), (227, 9, 9, (1, 299, [(11, 0)])), (227, 3, 3, (0, 8, [(21, 0)]))]), 100, .inl 3, true)]) (f := 166) (S := p2_s1194) (lx := none) (XF := []) ⟨p2_nmu, ck_E1 (ck_S1 p2_s1193_s (ck_S1 p2_s1028_s ck_S0)) (ck_E1 (ck_S1 p2_s1156_s (ck_S1 p2_s569_s ck_S0)) (ck_E1 (ck_S1 p2_s186_s ck_S0) (ck_E1 (ck_S1 p2_s1157_s ck_S0) ck_E0)))⟩ ck_X0 ck_l0 (by decide +kernel)
set_option maxRecDepth 100000 in
/-- GlacierMailModel.ofLetter -/
noncomputable def p2_s1195 : ck_Sum := ((0, 0, 0), 245, [.inr (.inr (.inl 226)), .inl (ck_one 19), .inl (ck_one 2)], ([], [], []), ([], []), [(.inr (some (.inl (0, 6, []))), 245, ([], [], []))])
set_option maxRecDepth 100000 in
theorem p2_s1195_s {X : Int → Int} {LX : Nat} : ck_Ok p2_O X LX 301 p2_s1195 := ck_ok_s (O := p2_O) (X := X) (LX := LX) (E := []) (mi := 301) (cuts := []) (f := 92) (S := p2_s1195) (lx := none) (XF := []) ⟨p2_nmu, ck_E0⟩ ck_X0 ck_l0 (by decide +kernel)
set_option maxRecDepth 100000 in
/-- GlacierMailModel.opener -/
noncomputable def p2_s1196 : ck_Sum := ((5, 0, 0), 245, [.inr (.inr (.inl 226)), .inl (ck_one 19)], ([], [], zl180), ([(226, 17, 23), (233, 0, 399)], []), [(.inr (some (.inl (ck_one (-1)))), 245, ([], [], [])), (.inr (some (.inl (0, 7, []))), 245, ([], [], []))])
set_option maxRecDepth 100000 in
theorem p2_s1196_s {X : Int → Int} {LX : Nat} : ck_Ok p2_O X LX 322 p2_s1196 := ck_ok_s (O := p2_O) (X := X) (LX := LX) (E := [(301, [p2_s1195, p2_s1039]), (299, [p2_s1156, p2_s569]), (253, [p2_s186]), (323, [p2_s1157])]) (mi := 322) (cuts := [(31, [some (.inr (.inr (.inl 226))), some (.inl (ck_one 19)), some (.inl (0, 6, [])), some (.inl (0, 8, []))], ([], [], [(227, 253, 253, ((-1), 7, [])), (226, 29, 29, (0, 299, [])), (227, 9, 9, (1, 299, [(11, 0)])), (227, 3, 3, (0, 8, [(21, 0)]))]), 100, .inl 3, true)]) (f := 166) (S := p2_s1196) (lx := none) (XF := []) ⟨p2_nmu, ck_E1 (ck_S1 p2_s1195_s (ck_S1 p2_s1039_s ck_S0)) (ck_E1 (ck_S1 p2_s1156_s (ck_S1 p2_s569_s ck_S0)) (ck_E1 (ck_S1 p2_s186_s ck_S0) (ck_E1 (ck_S1 p2_s1157_s ck_S0) ck_E0)))⟩ ck_X0 ck_l0 (by decide +kernel)
set_option maxRecDepth 100000 in
/-- GlacierMailModel.ofLetter -/
noncomputable def p2_s1197 : ck_Sum := ((0, 0, 0), 245, [.inr (.inr (.inl 226)), .inl (ck_one 20), .inl (ck_one 2)], ([], [], []), ([], []), [(.inr (some (.inl (0, 6, []))), 245, ([], [], []))])
set_option maxRecDepth 100000 in
theorem p2_s1197_s {X : Int → Int} {LX : Nat} : ck_Ok p2_O X LX 301 p2_s1197 := ck_ok_s (O := p2_O) (X := X) (LX := LX) (E := []) (mi := 301) (cuts := []) (f := 92) (S := p2_s1197) (lx := none) (XF := []) ⟨p2_nmu, ck_E0⟩ ck_X0 ck_l0 (by decide +kernel)
set_option maxRecDepth 100000 in
/-- GlacierMailModel.opener -/
noncomputable def p2_s1198 : ck_Sum := ((5, 0, 0), 245, [.inr (.inr (.inl 226)), .inl (ck_one 20)], ([], [], zl180), ([(226, 17, 23), (233, 0, 399)], []), [(.inr (some (.inl (ck_one (-1)))), 245, ([], [], [])), (.inr (some (.inl (0, 7, []))), 245, ([], [], []))])
set_option maxRecDepth 100000 in
theorem p2_s1198_s {X : Int → Int} {LX : Nat} : ck_Ok p2_O X LX 322 p2_s1198 := ck_ok_s (O := p2_O) (X := X) (LX := LX) (E := [(301, [p2_s1197, p2_s1050]), (299, [p2_s1156, p2_s569]), (253, [p2_s186]), (323, [p2_s1157])]) (mi := 322) (cuts := [(31, [some (.inr (.inr (.inl 226))), some (.inl (ck_one 20)), some (.inl (0, 6, [])), some (.inl (0, 8, []))], ([], [], [(227, 260, 260, ((-1), 7, [])), (226, 29, 29, (0, 299, [])), (227, 9, 9, (1, 299, [(11, 0)])), (227, 3, 3, (0, 8, [(21, 0)]))]), 100, .inl 3, true)]) (f := 166) (S := p2_s1198) (lx := none) (XF := []) ⟨p2_nmu, ck_E1 (ck_S1 p2_s1197_s (ck_S1 p2_s1050_s ck_S0)) (ck_E1 (ck_S1 p2_s1156_s (ck_S1 p2_s569_s ck_S0)) (ck_E1 (ck_S1 p2_s186_s ck_S0) (ck_E1 (ck_S1 p2_s1157_s ck_S0) ck_E0)))⟩ ck_X0 ck_l0 (by decide +kernel)
set_option maxRecDepth 100000 in
/-- GlacierMailModel.ofLetter -/
noncomputable def p2_s1199 : ck_Sum := ((0, 0, 0), 245, [.inr (.inr (.inl 226)), .inl (ck_one 21), .inl (ck_one 2)], ([], [], []), ([], []), [(.inr (some (.inl (0, 6, []))), 245, ([], [], []))])
set_option maxRecDepth 100000 in
theorem p2_s1199_s {X : Int → Int} {LX : Nat} : ck_Ok p2_O X LX 301 p2_s1199 := ck_ok_s (O := p2_O) (X := X) (LX := LX) (E := []) (mi := 301) (cuts := []) (f := 92) (S := p2_s1199) (lx := none) (XF := []) ⟨p2_nmu, ck_E0⟩ ck_X0 ck_l0 (by decide +kernel)
set_option maxRecDepth 100000 in
/-- GlacierMailModel.opener -/
noncomputable def p2_s1200 : ck_Sum := ((5, 0, 0), 245, [.inr (.inr (.inl 226)), .inl (ck_one 21)], ([], [], zl180), ([(226, 17, 23), (233, 0, 399)], []), [(.inr (some (.inl (ck_one (-1)))), 245, ([], [], [])), (.inr (some (.inl (0, 7, []))), 245, ([], [], []))])
set_option maxRecDepth 100000 in
theorem p2_s1200_s {X : Int → Int} {LX : Nat} : ck_Ok p2_O X LX 322 p2_s1200 := ck_ok_s (O := p2_O) (X := X) (LX := LX) (E := [(301, [p2_s1199, p2_s1061]), (299, [p2_s1156, p2_s569]), (253, [p2_s186]), (323, [p2_s1157])]) (mi := 322) (cuts := [(31, [some (.inr (.inr (.inl 226))), some (.inl (ck_one 21)), some (.inl (0, 6, [])), some (.inl (0, 8, []))], ([], [], [(227, 267, 267, ((-1), 7, [])), (226, 29, 29, (0, 299, [])), (227, 9, 9, (1, 299, [(11, 0)])), (227, 3, 3, (0, 8, [(21, 0)]))]), 100, .inl 3, true)]) (f := 166) (S := p2_s1200) (lx := none) (XF := []) ⟨p2_nmu, ck_E1 (ck_S1 p2_s1199_s (ck_S1 p2_s1061_s ck_S0)) (ck_E1 (ck_S1 p2_s1156_s (ck_S1 p2_s569_s ck_S0)) (ck_E1 (ck_S1 p2_s186_s ck_S0) (ck_E1 (ck_S1 p2_s1157_s ck_S0) ck_E0)))⟩ ck_X0 ck_l0 (by decide +kernel)
set_option maxRecDepth 100000 in
/-- GlacierMailModel.ofLetter -/
noncomputable def p2_s1201 : ck_Sum := ((0, 0, 0), 245, [.inr (.inr (.inl 226)), .inl (ck_one 22), .inl (ck_one 2)], ([], [], []), ([], []), [(.inr (some (.inl (0, 6, []))), 245, ([], [], []))])
set_option maxRecDepth 100000 in
theorem p2_s1201_s {X : Int → Int} {LX : Nat} : ck_Ok p2_O X LX 301 p2_s1201 := ck_ok_s (O := p2_O) (X := X) (LX := LX) (E := []) (mi := 301) (cuts := []) (f := 92) (S := p2_s1201) (lx := none) (XF := []) ⟨p2_nmu, ck_E0⟩ ck_X0 ck_l0 (by decide +kernel)
set_option maxRecDepth 100000 in
/-- GlacierMailModel.opener -/
noncomputable def p2_s1202 : ck_Sum := ((5, 0, 0), 245, [.inr (.inr (.inl 226)), .inl (ck_one 22)], ([], [], zl180), ([(226, 17, 23), (233, 0, 399)], []), [(.inr (some (.inl (ck_one (-1)))), 245, ([], [], [])), (.inr (some (.inl (0, 7, []))), 245, ([], [], []))])
set_option maxRecDepth 100000 in
theorem p2_s1202_s {X : Int → Int} {LX : Nat} : ck_Ok p2_O X LX 322 p2_s1202 := ck_ok_s (O := p2_O) (X := X) (LX := LX) (E := [(301, [p2_s1201, p2_s1072]), (299, [p2_s1156, p2_s569]), (253, [p2_s186]), (323, [p2_s1157])]) (mi := 322) (cuts := [(31, [some (.inr (.inr (.inl 226))), some (.inl (ck_one 22)), some (.inl (0, 6, [])), some (.inl (0, 8, []))], ([], [], [(227, 274, 274, ((-1), 7, [])), (226, 29, 29, (0, 299, [])), (227, 9, 9, (1, 299, [(11, 0)])), (227, 3, 3, (0, 8, [(21, 0)]))]), 100, .inl 3, true)]) (f := 166) (S := p2_s1202) (lx := none) (XF := []) ⟨p2_nmu, ck_E1 (ck_S1 p2_s1201_s (ck_S1 p2_s1072_s ck_S0)) (ck_E1 (ck_S1 p2_s1156_s (ck_S1 p2_s569_s ck_S0)) (ck_E1 (ck_S1 p2_s186_s ck_S0) (ck_E1 (ck_S1 p2_s1157_s ck_S0) ck_E0)))⟩ ck_X0 ck_l0 (by decide +kernel)
set_option maxRecDepth 100000 in
/-- GlacierMailModel.ofLetter -/
noncomputable def p2_s1203 : ck_Sum := ((0, 0, 0), 245, [.inr (.inr (.inl 226)), .inl (ck_one 23), .inl (ck_one 2)], ([], [], []), ([], []), [(.inr (some (.inl (0, 6, []))), 245, ([], [], []))])
set_option maxRecDepth 100000 in
theorem p2_s1203_s {X : Int → Int} {LX : Nat} : ck_Ok p2_O X LX 301 p2_s1203 := ck_ok_s (O := p2_O) (X := X) (LX := LX) (E := []) (mi := 301) (cuts := []) (f := 92) (S := p2_s1203) (lx := none) (XF := []) ⟨p2_nmu, ck_E0⟩ ck_X0 ck_l0 (by decide +kernel)
set_option maxRecDepth 100000 in
/-- GlacierMailModel.opener -/
noncomputable def p2_s1204 : ck_Sum := ((5, 0, 0), 245, [.inr (.inr (.inl 226)), .inl (ck_one 23)], ([], [], zl180), ([(226, 17, 23), (233, 0, 399)], []), [(.inr (some (.inl (ck_one (-1)))), 245, ([], [], [])), (.inr (some (.inl (0, 7, []))), 245, ([], [], []))])
set_option maxRecDepth 100000 in
theorem p2_s1204_s {X : Int → Int} {LX : Nat} : ck_Ok p2_O X LX 322 p2_s1204 := ck_ok_s (O := p2_O) (X := X) (LX := LX) (E := [(301, [p2_s1203, p2_s1083]), (299, [p2_s1156, p2_s569]), (253, [p2_s186]), (323, [p2_s1157])]) (mi := 322) (cuts := [(31, [some (.inr (.inr (.inl 226))), some (.inl (ck_one 23)), some (.inl (0, 6, [])), some (.inl (0, 8, []))], ([], [], [(227, 281, 281, ((-1), 7, [])), (226, 29, 29, (0, 299, [])), (227, 9, 9, (1, 299, [(11, 0)])), (227, 3, 3, (0, 8, [(21, 0)]))]), 100, .inl 3, true)]) (f := 166) (S := p2_s1204) (lx := none) (XF := []) ⟨p2_nmu, ck_E1 (ck_S1 p2_s1203_s (ck_S1 p2_s1083_s ck_S0)) (ck_E1 (ck_S1 p2_s1156_s (ck_S1 p2_s569_s ck_S0)) (ck_E1 (ck_S1 p2_s186_s ck_S0) (ck_E1 (ck_S1 p2_s1157_s ck_S0) ck_E0)))⟩ ck_X0 ck_l0 (by decide +kernel)
