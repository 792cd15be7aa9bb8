/-! 78r80a15.sf -/
section
/-! EVERY CALL ENDS, whatever was done before (laid by wip/am/p2k.py). -/
set_option maxRecDepth 100000 in
/-- GlacierMailModel.in -/
noncomputable def p2_s1150 : ck_Sum := ((0, 0, 0), 245, [.inl ((-2147483648), 0, []), .inl (ck_one 1), .inl (ck_one 50)], ([], [], []), ([], []), [(.inr (some (.inl (ck_one 0))), 245, ([], [], []))])
set_option maxRecDepth 100000 in
theorem p2_s1150_s {X : Int → Int} {LX : Nat} : ck_Ok p2_O X LX 286 p2_s1150 := ck_okq (cuts := []) (f := 80) ⟨p2_nmu, ck_E0⟩ (by decide +kernel)
set_option maxRecDepth 100000 in
/-- GlacierMailModel.years -/
noncomputable def p2_s1151 : ck_Sum := ((1, 0, 0), 245, [.inr (.inr (.inl 226)), .inl ((-2147483648), 0, [])], ([], [], []), ([(226, 0, 0)], []), [(.inr (some (.inl (ck_one 0))), 245, ([], [], [(226, 0, 0, ck_one 1)]))])
set_option maxRecDepth 100000 in
theorem p2_s1151_s {X : Int → Int} {LX : Nat} : ck_Ok p2_O X LX 320 p2_s1151 := ck_okq (cuts := []) (f := 102) ⟨p2_nmu, ck_E1 (ck_S1 p2_s1150_s ck_S0) (ck_E1 (ck_S1 p2_s241_s ck_S0) ck_E0)⟩ (by decide +kernel)
set_option maxRecDepth 100000 in
/-- GlacierMailModel.in -/
noncomputable def p2_s1152 : ck_Sum := ((0, 0, 0), 245, [.inl (51, 2147483647, []), .inl (ck_one 1), .inl (ck_one 50)], ([], [], []), ([], []), [(.inr (some (.inl (ck_one 0))), 245, ([], [], []))])
set_option maxRecDepth 100000 in
theorem p2_s1152_s {X : Int → Int} {LX : Nat} : ck_Ok p2_O X LX 286 p2_s1152 := ck_okq (cuts := []) (f := 86) ⟨p2_nmu, ck_E0⟩ (by decide +kernel)
set_option maxRecDepth 100000 in
/-- GlacierMailModel.years -/
noncomputable def p2_s1153 : ck_Sum := ((1, 0, 0), 245, [.inr (.inr (.inl 226)), .inl (51, 2147483647, [])], ([], [], []), ([(226, 0, 0)], []), [(.inr (some (.inl (ck_one 0))), 245, ([], [], [(226, 0, 0, ck_one 1)]))])
set_option maxRecDepth 100000 in
theorem p2_s1153_s {X : Int → Int} {LX : Nat} : ck_Ok p2_O X LX 320 p2_s1153 := ck_okq (cuts := []) (f := 102) ⟨p2_nmu, ck_E1 (ck_S1 p2_s1152_s ck_S0) (ck_E1 (ck_S1 p2_s241_s ck_S0) ck_E0)⟩ (by decide +kernel)
set_option maxRecDepth 100000 in
/-- GlacierMailModel.in -/
noncomputable def p2_s1154 : ck_Sum := ((0, 0, 0), 245, [.inl (ck_one 1), .inl (ck_one 1), .inl (ck_one 50)], ([], [], []), ([], []), [(.inr (some (.inl (ck_one 1))), 245, ([], [], []))])
set_option maxRecDepth 100000 in
theorem p2_s1154_s {X : Int → Int} {LX : Nat} : ck_Ok p2_O X LX 286 p2_s1154 := ck_okq (cuts := []) (f := 88) ⟨p2_nmu, ck_E0⟩ (by decide +kernel)
set_option maxRecDepth 100000 in
/-- GlacierMailModel.ofLetter -/
noncomputable def p2_s1155 : ck_Sum := ((0, 0, 0), 245, [.inr (.inr (.inl 226)), .inl (ck_one 0), .inl (ck_one 2)], ([], [], []), ([], []), [(.inr (some (.inl (0, 6, []))), 245, ([], [], []))])
set_option maxRecDepth 100000 in
theorem p2_s1155_s {X : Int → Int} {LX : Nat} : ck_Ok p2_O X LX 301 p2_s1155 := ck_okq (cuts := []) (f := 92) ⟨p2_nmu, ck_E0⟩ (by decide +kernel)
set_option maxRecDepth 100000 in
/-- GlacierMailModel.of -/
noncomputable def p2_s1156 : ck_Sum := ((0, 0, 0), 245, [.inr (.inr (.inl 226)), .inl (ck_one (-1)), .inl (ck_one 2)], ([], [], []), ([], []), [(.inr (some (.inl (0, 20, []))), 245, ([], [], []))])
set_option maxRecDepth 100000 in
theorem p2_s1156_s {X : Int → Int} {LX : Nat} : ck_Ok p2_O X LX 299 p2_s1156 := ck_okq (cuts := []) (f := 92) ⟨p2_nmu, ck_E0⟩ (by decide +kernel)
set_option maxRecDepth 100000 in
/-- GlacierMailModel.mayOpen -/
noncomputable def p2_s1157 : ck_Sum := ((4, 0, 0), 245, [.inr (.inr (.inl 226)), .inl (0, 7, []), .inl (0, 23, [])], ([], [], [(226, 29, 29, (0, 299, [])), (227, 9, 9, (0, 299, [(11, 0)]))]), ([(226, 17, 23), (233, 0, 399)], []), [(.inr (some (.inl (ck_one 0))), 245, ([], [], zl179)), (.inr (some (.inl (ck_one 1))), 245, ([], [], zl179))])
set_option maxRecDepth 100000 in
theorem p2_s1157_s {X : Int → Int} {LX : Nat} : ck_Ok p2_O X LX 323 p2_s1157 := ck_okq (cuts := []) (f := 156) ⟨p2_nmu, ck_E1 (ck_S1 p2_s375_s (ck_S1 p2_s377_s ck_S0)) (ck_E1 (ck_S1 p2_s180_s ck_S0) (ck_E1 (ck_S1 p2_s190_s ck_S0) (ck_E1 (ck_S1 sl_S_s ck_S0) ck_E0)))⟩ (by decide +kernel)
set_option maxRecDepth 100000 in
/-- GlacierMailModel.opener -/
noncomputable def p2_s1158 : ck_Sum := ((5, 0, 0), 245, [.inr (.inr (.inl 226)), .inl (ck_one 0)], ([], [], zl180), ([(226, 17, 23), (233, 0, 399)], []), [(.inr (some (.inl (ck_one (-1)))), 245, ([], [], [])), (.inr (some (.inl (0, 7, []))), 245, ([], [], []))])
set_option maxRecDepth 100000 in
theorem p2_s1158_s {X : Int → Int} {LX : Nat} : ck_Ok p2_O X LX 322 p2_s1158 := ck_okq (cuts := [(31, [some (.inr (.inr (.inl 226))), some (.inl (ck_one 0)), some (.inl (0, 6, [])), some (.inl (0, 8, []))], ([], [], [(227, 120, 120, ((-1), 7, [])), (226, 29, 29, (0, 299, [])), (227, 9, 9, (1, 299, [(11, 0)])), (227, 3, 3, (0, 8, [(21, 0)]))]), 100, .inl 3, true)]) (f := 166) ⟨p2_nmu, ck_E1 (ck_S1 p2_s1155_s (ck_S1 p2_s830_s ck_S0)) (ck_E1 (ck_S1 p2_s1156_s (ck_S1 p2_s569_s ck_S0)) (ck_E1 (ck_S1 p2_s186_s ck_S0) (ck_E1 (ck_S1 p2_s1157_s ck_S0) ck_E0)))⟩ (by decide +kernel)
set_option maxRecDepth 100000 in
/-- GlacierMailModel.ofLetter -/
noncomputable def p2_s1159 : ck_Sum := ((0, 0, 0), 245, [.inr (.inr (.inl 226)), .inl (ck_one 1), .inl (ck_one 2)], ([], [], []), ([], []), [(.inr (some (.inl (0, 6, []))), 245, ([], [], []))])
set_option maxRecDepth 100000 in
theorem p2_s1159_s {X : Int → Int} {LX : Nat} : ck_Ok p2_O X LX 301 p2_s1159 := ck_okq (cuts := []) (f := 92) ⟨p2_nmu, ck_E0⟩ (by decide +kernel)
set_option maxRecDepth 100000 in
/-- GlacierMailModel.opener -/
noncomputable def p2_s1160 : ck_Sum := ((5, 0, 0), 245, [.inr (.inr (.inl 226)), .inl (ck_one 1)], ([], [], zl180), ([(226, 17, 23), (233, 0, 399)], []), [(.inr (some (.inl (ck_one (-1)))), 245, ([], [], [])), (.inr (some (.inl (0, 7, []))), 245, ([], [], []))])
set_option maxRecDepth 100000 in
theorem p2_s1160_s {X : Int → Int} {LX : Nat} : ck_Ok p2_O X LX 322 p2_s1160 := ck_okq (cuts := [(31, [some (.inr (.inr (.inl 226))), some (.inl (ck_one 1)), some (.inl (0, 6, [])), some (.inl (0, 8, []))], ([], [], [(227, 127, 127, ((-1), 7, [])), (226, 29, 29, (0, 299, [])), (227, 9, 9, (1, 299, [(11, 0)])), (227, 3, 3, (0, 8, [(21, 0)]))]), 100, .inl 3, true)]) (f := 166) ⟨p2_nmu, ck_E1 (ck_S1 p2_s1159_s (ck_S1 p2_s841_s ck_S0)) (ck_E1 (ck_S1 p2_s1156_s (ck_S1 p2_s569_s ck_S0)) (ck_E1 (ck_S1 p2_s186_s ck_S0) (ck_E1 (ck_S1 p2_s1157_s ck_S0) ck_E0)))⟩ (by decide +kernel)
set_option maxRecDepth 100000 in
/-- GlacierMailModel.ofLetter -/
noncomputable def p2_s1161 : ck_Sum := ((0, 0, 0), 245, [.inr (.inr (.inl 226)), .inl (ck_one 2), .inl (ck_one 2)], ([], [], []), ([], []), [(.inr (some (.inl (0, 6, []))), 245, ([], [], []))])
set_option maxRecDepth 100000 in
theorem p2_s1161_s {X : Int → Int} {LX : Nat} : ck_Ok p2_O X LX 301 p2_s1161 := ck_okq (cuts := []) (f := 92) ⟨p2_nmu, ck_E0⟩ (by decide +kernel)
set_option maxRecDepth 100000 in
/-- GlacierMailModel.opener -/
noncomputable def p2_s1162 : ck_Sum := ((5, 0, 0), 245, [.inr (.inr (.inl 226)), .inl (ck_one 2)], ([], [], zl180), ([(226, 17, 23), (233, 0, 399)], []), [(.inr (some (.inl (ck_one (-1)))), 245, ([], [], [])), (.inr (some (.inl (0, 7, []))), 245, ([], [], []))])
set_option maxRecDepth 100000 in
theorem p2_s1162_s {X : Int → Int} {LX : Nat} : ck_Ok p2_O X LX 322 p2_s1162 := ck_okq (cuts := [(31, [some (.inr (.inr (.inl 226))), some (.inl (ck_one 2)), some (.inl (0, 6, [])), some (.inl (0, 8, []))], ([], [], [(227, 134, 134, ((-1), 7, [])), (226, 29, 29, (0, 299, [])), (227, 9, 9, (1, 299, [(11, 0)])), (227, 3, 3, (0, 8, [(21, 0)]))]), 100, .inl 3, true)]) (f := 166) ⟨p2_nmu, ck_E1 (ck_S1 p2_s1161_s (ck_S1 p2_s852_s ck_S0)) (ck_E1 (ck_S1 p2_s1156_s (ck_S1 p2_s569_s ck_S0)) (ck_E1 (ck_S1 p2_s186_s ck_S0) (ck_E1 (ck_S1 p2_s1157_s ck_S0) ck_E0)))⟩ (by decide +kernel)
set_option maxRecDepth 100000 in
/-- GlacierMailModel.ofLetter -/
noncomputable def p2_s1163 : ck_Sum := ((0, 0, 0), 245, [.inr (.inr (.inl 226)), .inl (ck_one 3), .inl (ck_one 2)], ([], [], []), ([], []), [(.inr (some (.inl (0, 6, []))), 245, ([], [], []))])
set_option maxRecDepth 100000 in
theorem p2_s1163_s {X : Int → Int} {LX : Nat} : ck_Ok p2_O X LX 301 p2_s1163 := ck_okq (cuts := []) (f := 92) ⟨p2_nmu, ck_E0⟩ (by decide +kernel)
set_option maxRecDepth 100000 in
/-- GlacierMailModel.opener -/
noncomputable def p2_s1164 : ck_Sum := ((5, 0, 0), 245, [.inr (.inr (.inl 226)), .inl (ck_one 3)], ([], [], zl180), ([(226, 17, 23), (233, 0, 399)], []), [(.inr (some (.inl (ck_one (-1)))), 245, ([], [], [])), (.inr (some (.inl (0, 7, []))), 245, ([], [], []))])
set_option maxRecDepth 100000 in
theorem p2_s1164_s {X : Int → Int} {LX : Nat} : ck_Ok p2_O X LX 322 p2_s1164 := ck_okq (cuts := [(31, [some (.inr (.inr (.inl 226))), some (.inl (ck_one 3)), some (.inl (0, 6, [])), some (.inl (0, 8, []))], ([], [], [(227, 141, 141, ((-1), 7, [])), (226, 29, 29, (0, 299, [])), (227, 9, 9, (1, 299, [(11, 0)])), (227, 3, 3, (0, 8, [(21, 0)]))]), 100, .inl 3, true)]) (f := 166) ⟨p2_nmu, ck_E1 (ck_S1 p2_s1163_s (ck_S1 p2_s863_s ck_S0)) (ck_E1 (ck_S1 p2_s1156_s (ck_S1 p2_s569_s ck_S0)) (ck_E1 (ck_S1 p2_s186_s ck_S0) (ck_E1 (ck_S1 p2_s1157_s ck_S0) ck_E0)))⟩ (by decide +kernel)
set_option maxRecDepth 100000 in
/-- GlacierMailModel.ofLetter -/
noncomputable def p2_s1165 : ck_Sum := ((0, 0, 0), 245, [.inr (.inr (.inl 226)), .inl (ck_one 4), .inl (ck_one 2)], ([], [], []), ([], []), [(.inr (some (.inl (0, 6, []))), 245, ([], [], []))])
set_option maxRecDepth 100000 in
theorem p2_s1165_s {X : Int → Int} {LX : Nat} : ck_Ok p2_O X LX 301 p2_s1165 := ck_okq (cuts := []) (f := 92) ⟨p2_nmu, ck_E0⟩ (by decide +kernel)
set_option maxRecDepth 100000 in
/-- GlacierMailModel.opener -/
noncomputable def p2_s1166 : ck_Sum := ((5, 0, 0), 245, [.inr (.inr (.inl 226)), .inl (ck_one 4)], ([], [], zl180), ([(226, 17, 23), (233, 0, 399)], []), [(.inr (some (.inl (ck_one (-1)))), 245, ([], [], [])), (.inr (some (.inl (0, 7, []))), 245, ([], [], []))])
set_option maxRecDepth 100000 in
theorem p2_s1166_s {X : Int → Int} {LX : Nat} : ck_Ok p2_O X LX 322 p2_s1166 := ck_okq (cuts := [(31, [some (.inr (.inr (.inl 226))), some (.inl (ck_one 4)), some (.inl (0, 6, [])), some (.inl (0, 8, []))], ([], [], [(227, 148, 148, ((-1), 7, [])), (226, 29, 29, (0, 299, [])), (227, 9, 9, (1, 299, [(11, 0)])), (227, 3, 3, (0, 8, [(21, 0)]))]), 100, .inl 3, true)]) (f := 166) ⟨p2_nmu, ck_E1 (ck_S1 p2_s1165_s (ck_S1 p2_s874_s ck_S0)) (ck_E1 (ck_S1 p2_s1156_s (ck_S1 p2_s569_s ck_S0)) (ck_E1 (ck_S1 p2_s186_s ck_S0) (ck_E1 (ck_S1 p2_s1157_s ck_S0) ck_E0)))⟩ (by decide +kernel)
set_option maxRecDepth 100000 in
/-- GlacierMailModel.ofLetter -/
noncomputable def p2_s1167 : ck_Sum := ((0, 0, 0), 245, [.inr (.inr (.inl 226)), .inl (ck_one 5), .inl (ck_one 2)], ([], [], []), ([], []), [(.inr (some (.inl (0, 6, []))), 245, ([], [], []))])
set_option maxRecDepth 100000 in
theorem p2_s1167_s {X : Int → Int} {LX : Nat} : ck_Ok p2_O X LX 301 p2_s1167 := ck_okq (cuts := []) (f := 92) ⟨p2_nmu, ck_E0⟩ (by decide +kernel)
set_option maxRecDepth 100000 in
/-- GlacierMailModel.opener -/
noncomputable def p2_s1168 : ck_Sum := ((5, 0, 0), 245, [.inr (.inr (.inl 226)), .inl (ck_one 5)], ([], [], zl180), ([(226, 17, 23), (233, 0, 399)], []), [(.inr (some (.inl (ck_one (-1)))), 245, ([], [], [])), (.inr (some (.inl (0, 7, []))), 245, ([], [], []))])
set_option maxRecDepth 100000 in
theorem p2_s1168_s {X : Int → Int} {LX : Nat} : ck_Ok p2_O X LX 322 p2_s1168 := ck_okq (cuts := [(31, [some (.inr (.inr (.inl 226))), some (.inl (ck_one 5)), some (.inl (0, 6, [])), some (.inl (0, 8, []))], ([], [], [(227, 155, 155, ((-1), 7, [])), (226, 29, 29, (0, 299, [])), (227, 9, 9, (1, 299, [(11, 0)])), (227, 3, 3, (0, 8, [(21, 0)]))]), 100, .inl 3, true)]) (f := 166) ⟨p2_nmu, ck_E1 (ck_S1 p2_s1167_s (ck_S1 p2_s885_s ck_S0)) (ck_E1 (ck_S1 p2_s1156_s (ck_S1 p2_s569_s ck_S0)) (ck_E1 (ck_S1 p2_s186_s ck_S0) (ck_E1 (ck_S1 p2_s1157_s ck_S0) ck_E0)))⟩ (by decide +kernel)
set_option maxRecDepth 100000 in
/-- GlacierMailModel.ofLetter -/
noncomputable def p2_s1169 : ck_Sum := ((0, 0, 0), 245, [.inr (.inr (.inl 226)), .inl (ck_one 6), .inl (ck_one 2)], ([], [], []), ([], []), [(.inr (some (.inl (0, 6, []))), 245, ([], [], []))])
set_option maxRecDepth 100000 in
theorem p2_s1169_s {X : Int → Int} {LX : Nat} : ck_Ok p2_O X LX 301 p2_s1169 := ck_okq (cuts := []) (f := 92) ⟨p2_nmu, ck_E0⟩ (by decide +kernel)
set_option maxRecDepth 100000 in
/-- GlacierMailModel.opener -/
noncomputable def p2_s1170 : ck_Sum := ((5, 0, 0), 245, [.inr (.inr (.inl 226)), .inl (ck_one 6)], ([], [], zl180), ([(226, 17, 23), (233, 0, 399)], []), [(.inr (some (.inl (ck_one (-1)))), 245, ([], [], [])), (.inr (some (.inl (0, 7, []))), 245, ([], [], []))])
set_option maxRecDepth 100000 in
theorem p2_s1170_s {X : Int → Int} {LX : Nat} : ck_Ok p2_O X LX 322 p2_s1170 := ck_okq (cuts := [(31, [some (.inr (.inr (.inl 226))), some (.inl (ck_one 6)), some (.inl (0, 6, [])), some (.inl (0, 8, []))], ([], [], [(227, 162, 162, ((-1), 7, [])), (226, 29, 29, (0, 299, [])), (227, 9, 9, (1, 299, [(11, 0)])), (227, 3, 3, (0, 8, [(21, 0)]))]), 100, .inl 3, true)]) (f := 166) ⟨p2_nmu, ck_E1 (ck_S1 p2_s1169_s (ck_S1 p2_s896_s ck_S0)) (ck_E1 (ck_S1 p2_s1156_s (ck_S1 p2_s569_s ck_S0)) (ck_E1 (ck_S1 p2_s186_s ck_S0) (ck_E1 (ck_S1 p2_s1157_s ck_S0) ck_E0)))⟩ (by decide +kernel)
set_option maxRecDepth 100000 in
/-- GlacierMailModel.ofLetter -/
noncomputable def p2_s1171 : ck_Sum := ((0, 0, 0), 245, [.inr (.inr (.inl 226)), .inl (ck_one 7), .inl (ck_one 2)], ([], [], []), ([], []), [(.inr (some (.inl (0, 6, []))), 245, ([], [], []))])
set_option maxRecDepth 100000 in
theorem p2_s1171_s {X : Int → Int} {LX : Nat} : ck_Ok p2_O X LX 301 p2_s1171 := ck_okq (cuts := []) (f := 92) ⟨p2_nmu, ck_E0⟩ (by decide +kernel)
set_option maxRecDepth 100000 in
/-- GlacierMailModel.opener -/
noncomputable def p2_s1172 : ck_Sum := ((5, 0, 0), 245, [.inr (.inr (.inl 226)), .inl (ck_one 7)], ([], [], zl180), ([(226, 17, 23), (233, 0, 399)], []), [(.inr (some (.inl (ck_one (-1)))), 245, ([], [], [])), (.inr (some (.inl (0, 7, []))), 245, ([], [], []))])
set_option maxRecDepth 100000 in
theorem p2_s1172_s {X : Int → Int} {LX : Nat} : ck_Ok p2_O X LX 322 p2_s1172 := ck_okq (cuts := [(31, [some (.inr (.inr (.inl 226))), some (.inl (ck_one 7)), some (.inl (0, 6, [])), some (.inl (0, 8, []))], ([], [], [(227, 169, 169, ((-1), 7, [])), (226, 29, 29, (0, 299, [])), (227, 9, 9, (1, 299, [(11, 0)])), (227, 3, 3, (0, 8, [(21, 0)]))]), 100, .inl 3, true)]) (f := 166) ⟨p2_nmu, ck_E1 (ck_S1 p2_s1171_s (ck_S1 p2_s907_s ck_S0)) (ck_E1 (ck_S1 p2_s1156_s (ck_S1 p2_s569_s ck_S0)) (ck_E1 (ck_S1 p2_s186_s ck_S0) (ck_E1 (ck_S1 p2_s1157_s ck_S0) ck_E0)))⟩ (by decide +kernel)
set_option maxRecDepth 100000 in
/-- GlacierMailModel.ofLetter -/
noncomputable def p2_s1173 : ck_Sum := ((0, 0, 0), 245, [.inr (.inr (.inl 226)), .inl (ck_one 8), .inl (ck_one 2)], ([], [], []), ([], []), [(.inr (some (.inl (0, 6, []))), 245, ([], [], []))])
set_option maxRecDepth 100000 in
theorem p2_s1173_s {X : Int → Int} {LX : Nat} : ck_Ok p2_O X LX 301 p2_s1173 := ck_okq (cuts := []) (f := 92) ⟨p2_nmu, ck_E0⟩ (by decide +kernel)
set_option maxRecDepth 100000 in
/-- GlacierMailModel.opener -/
noncomputable def p2_s1174 : ck_Sum := ((5, 0, 0), 245, [.inr (.inr (.inl 226)), .inl (ck_one 8)], ([], [], zl180), ([(226, 17, 23), (233, 0, 399)], []), [(.inr (some (.inl (ck_one (-1)))), 245, ([], [], [])), (.inr (some (.inl (0, 7, []))), 245, ([], [], []))])
set_option maxRecDepth 100000 in
theorem p2_s1174_s {X : Int → Int} {LX : Nat} : ck_Ok p2_O X LX 322 p2_s1174 := ck_okq (cuts := [(31, [some (.inr (.inr (.inl 226))), some (.inl (ck_one 8)), some (.inl (0, 6, [])), some (.inl (0, 8, []))], ([], [], [(227, 176, 176, ((-1), 7, [])), (226, 29, 29, (0, 299, [])), (227, 9, 9, (1, 299, [(11, 0)])), (227, 3, 3, (0, 8, [(21, 0)]))]), 100, .inl 3, true)]) (f := 166) ⟨p2_nmu, ck_E1 (ck_S1 p2_s1173_s (ck_S1 p2_s918_s ck_S0)) (ck_E1 (ck_S1 p2_s1156_s (ck_S1 p2_s569_s ck_S0)) (ck_E1 (ck_S1 p2_s186_s ck_S0) (ck_E1 (ck_S1 p2_s1157_s ck_S0) ck_E0)))⟩ (by decide +kernel)
set_option maxRecDepth 100000 in
/-- GlacierMailModel.ofLetter -/
noncomputable def p2_s1175 : ck_Sum := ((0, 0, 0), 245, [.inr (.inr (.inl 226)), .inl (ck_one 9), .inl (ck_one 2)], ([], [], []), ([], []), [(.inr (some (.inl (0, 6, []))), 245, ([], [], []))])
set_option maxRecDepth 100000 in
theorem p2_s1175_s {X : Int → Int} {LX : Nat} : ck_Ok p2_O X LX 301 p2_s1175 := ck_okq (cuts := []) (f := 92) ⟨p2_nmu, ck_E0⟩ (by decide +kernel)
set_option maxRecDepth 100000 in
/-- GlacierMailModel.opener -/
noncomputable def p2_s1176 : ck_Sum := ((5, 0, 0), 245, [.inr (.inr (.inl 226)), .inl (ck_one 9)], ([], [], zl180), ([(226, 17, 23), (233, 0, 399)], []), [(.inr (some (.inl (ck_one (-1)))), 245, ([], [], [])), (.inr (some (.inl (0, 7, []))), 245, ([], [], []))])
set_option maxRecDepth 100000 in
theorem p2_s1176_s {X : Int → Int} {LX : Nat} : ck_Ok p2_O X LX 322 p2_s1176 := ck_okq (cuts := [(31, [some (.inr (.inr (.inl 226))), some (.inl (ck_one 9)), some (.inl (0, 6, [])), some (.inl (0, 8, []))], ([], [], [(227, 183, 183, ((-1), 7, [])), (226, 29, 29, (0, 299, [])), (227, 9, 9, (1, 299, [(11, 0)])), (227, 3, 3, (0, 8, [(21, 0)]))]), 100, .inl 3, true)]) (f := 166) ⟨p2_nmu, ck_E1 (ck_S1 p2_s1175_s (ck_S1 p2_s929_s ck_S0)) (ck_E1 (ck_S1 p2_s1156_s (ck_S1 p2_s569_s ck_S0)) (ck_E1 (ck_S1 p2_s186_s ck_S0) (ck_E1 (ck_S1 p2_s1157_s ck_S0) ck_E0)))⟩ (by decide +kernel)
set_option maxRecDepth 100000 in
/-- GlacierMailModel.ofLetter -/
noncomputable def p2_s1177 : ck_Sum := ((0, 0, 0), 245, [.inr (.inr (.inl 226)), .inl (ck_one 10), .inl (ck_one 2)], ([], [], []), ([], []), [(.inr (some (.inl (0, 6, []))), 245, ([], [], []))])
set_option maxRecDepth 100000 in
theorem p2_s1177_s {X : Int → Int} {LX : Nat} : ck_Ok p2_O X LX 301 p2_s1177 := ck_okq (cuts := []) (f := 92) ⟨p2_nmu, ck_E0⟩ (by decide +kernel)
set_option maxRecDepth 100000 in
/-- GlacierMailModel.opener -/
noncomputable def p2_s1178 : ck_Sum := ((5, 0, 0), 245, [.inr (.inr (.inl 226)), .inl (ck_one 10)], ([], [], zl180), ([(226, 17, 23), (233, 0, 399)], []), [(.inr (some (.inl (ck_one (-1)))), 245, ([], [], [])), (.inr (some (.inl (0, 7, []))), 245, ([], [], []))])
set_option maxRecDepth 100000 in
theorem p2_s1178_s {X : Int → Int} {LX : Nat} : ck_Ok p2_O X LX 322 p2_s1178 := ck_okq (cuts := [(31, [some (.inr (.inr (.inl 226))), some (.inl (ck_one 10)), some (.inl (0, 6, [])), some (.inl (0, 8, []))], ([], [], [(227, 190, 190, ((-1), 7, [])), (226, 29, 29, (0, 299, [])), (227, 9, 9, (1, 299, [(11, 0)])), (227, 3, 3, (0, 8, [(21, 0)]))]), 100, .inl 3, true)]) (f := 166) ⟨p2_nmu, ck_E1 (ck_S1 p2_s1177_s (ck_S1 p2_s940_s ck_S0)) (ck_E1 (ck_S1 p2_s1156_s (ck_S1 p2_s569_s ck_S0)) (ck_E1 (ck_S1 p2_s186_s ck_S0) (ck_E1 (ck_S1 p2_s1157_s ck_S0) ck_E0)))⟩ (by decide +kernel)
set_option maxRecDepth 100000 in
/-- GlacierMailModel.ofLetter -/
noncomputable def p2_s1179 : ck_Sum := ((0, 0, 0), 245, [.inr (.inr (.inl 226)), .inl (ck_one 11), .inl (ck_one 2)], ([], [], []), ([], []), [(.inr (some (.inl (0, 6, []))), 245, ([], [], []))])
set_option maxRecDepth 100000 in
theorem p2_s1179_s {X : Int → Int} {LX : Nat} : ck_Ok p2_O X LX 301 p2_s1179 := ck_okq (cuts := []) (f := 92) ⟨p2_nmu, ck_E0⟩ (by decide +kernel)
set_option maxRecDepth 100000 in
/-- GlacierMailModel.opener -/
noncomputable def p2_s1180 : ck_Sum := ((5, 0, 0), 245, [.inr (.inr (.inl 226)), .inl (ck_one 11)], ([], [], zl180), ([(226, 17, 23), (233, 0, 399)], []), [(.inr (some (.inl (ck_one (-1)))), 245, ([], [], [])), (.inr (some (.inl (0, 7, []))), 245, ([], [], []))])
set_option maxRecDepth 100000 in
theorem p2_s1180_s {X : Int → Int} {LX : Nat} : ck_Ok p2_O X LX 322 p2_s1180 := ck_okq (cuts := [(31, [some (.inr (.inr (.inl 226))), some (.inl (ck_one 11)), some (.inl (0, 6, [])), some (.inl (0, 8, []))], ([], [], [(227, 197, 197, ((-1), 7, [])), (226, 29, 29, (0, 299, [])), (227, 9, 9, (1, 299, [(11, 0)])), (227, 3, 3, (0, 8, [(21, 0)]))]), 100, .inl 3, true)]) (f := 166) ⟨p2_nmu, ck_E1 (ck_S1 p2_s1179_s (ck_S1 p2_s951_s ck_S0)) (ck_E1 (ck_S1 p2_s1156_s (ck_S1 p2_s569_s ck_S0)) (ck_E1 (ck_S1 p2_s186_s ck_S0) (ck_E1 (ck_S1 p2_s1157_s ck_S0) ck_E0)))⟩ (by decide +kernel)
set_option maxRecDepth 100000 in
/-- GlacierMailModel.ofLetter -/
noncomputable def p2_s1181 : ck_Sum := ((0, 0, 0), 245, [.inr (.inr (.inl 226)), .inl (ck_one 12), .inl (ck_one 2)], ([], [], []), ([], []), [(.inr (some (.inl (0, 6, []))), 245, ([], [], []))])
set_option maxRecDepth 100000 in
theorem p2_s1181_s {X : Int → Int} {LX : Nat} : ck_Ok p2_O X LX 301 p2_s1181 := ck_okq (cuts := []) (f := 92) ⟨p2_nmu, ck_E0⟩ (by decide +kernel)
set_option maxRecDepth 100000 in
/-- GlacierMailModel.opener -/
noncomputable def p2_s1182 : ck_Sum := ((5, 0, 0), 245, [.inr (.inr (.inl 226)), .inl (ck_one 12)], ([], [], zl180), ([(226, 17, 23), (233, 0, 399)], []), [(.inr (some (.inl (ck_one (-1)))), 245, ([], [], [])), (.inr (some (.inl (0, 7, []))), 245, ([], [], []))])
set_option maxRecDepth 100000 in
theorem p2_s1182_s {X : Int → Int} {LX : Nat} : ck_Ok p2_O X LX 322 p2_s1182 := ck_okq (cuts := [(31, [some (.inr (.inr (.inl 226))), some (.inl (ck_one 12)), some (.inl (0, 6, [])), some (.inl (0, 8, []))], ([], [], [(227, 204, 204, ((-1), 7, [])), (226, 29, 29, (0, 299, [])), (227, 9, 9, (1, 299, [(11, 0)])), (227, 3, 3, (0, 8, [(21, 0)]))]), 100, .inl 3, true)]) (f := 166) ⟨p2_nmu, ck_E1 (ck_S1 p2_s1181_s (ck_S1 p2_s962_s ck_S0)) (ck_E1 (ck_S1 p2_s1156_s (ck_S1 p2_s569_s ck_S0)) (ck_E1 (ck_S1 p2_s186_s ck_S0) (ck_E1 (ck_S1 p2_s1157_s ck_S0) ck_E0)))⟩ (by decide +kernel)
set_option maxRecDepth 100000 in
/-- GlacierMailModel.ofLetter -/
noncomputable def p2_s1183 : ck_Sum := ((0, 0, 0), 245, [.inr (.inr (.inl 226)), .inl (ck_one 13), .inl (ck_one 2)], ([], [], []), ([], []), [(.inr (some (.inl (0, 6, []))), 245, ([], [], []))])
set_option maxRecDepth 100000 in
theorem p2_s1183_s {X : Int → Int} {LX : Nat} : ck_Ok p2_O X LX 301 p2_s1183 := ck_okq (cuts := []) (f := 92) ⟨p2_nmu, ck_E0⟩ (by decide +kernel)
set_option maxRecDepth 100000 in
/-- GlacierMailModel.opener -/
noncomputable def p2_s1184 : ck_Sum := ((5, 0, 0), 245, [.inr (.inr (.inl 226)), .inl (ck_one 13)], ([], [], zl180), ([(226, 17, 23), (233, 0, 399)], []), [(.inr (some (.inl (ck_one (-1)))), 245, ([], [], [])), (.inr (some (.inl (0, 7, []))), 245, ([], [], []))])
set_option maxRecDepth 100000 in
theorem p2_s1184_s {X : Int → Int} {LX : Nat} : ck_Ok p2_O X LX 322 p2_s1184 := ck_okq (cuts := [(31, [some (.inr (.inr (.inl 226))), some (.inl (ck_one 13)), some (.inl (0, 6, [])), some (.inl (0, 8, []))], ([], [], [(227, 211, 211, ((-1), 7, [])), (226, 29, 29, (0, 299, [])), (227, 9, 9, (1, 299, [(11, 0)])), (227, 3, 3, (0, 8, [(21, 0)]))]), 100, .inl 3, true)]) (f := 166) ⟨p2_nmu, ck_E1 (ck_S1 p2_s1183_s (ck_S1 p2_s973_s ck_S0)) (ck_E1 (ck_S1 p2_s1156_s (ck_S1 p2_s569_s ck_S0)) (ck_E1 (ck_S1 p2_s186_s ck_S0) (ck_E1 (ck_S1 p2_s1157_s ck_S0) ck_E0)))⟩ (by decide +kernel)
set_option maxRecDepth 100000 in
/-- GlacierMailModel.ofLetter -/
noncomputable def p2_s1185 : ck_Sum := ((0, 0, 0), 245, [.inr (.inr (.inl 226)), .inl (ck_one 14), .inl (ck_one 2)], ([], [], []), ([], []), [(.inr (some (.inl (0, 6, []))), 245, ([], [], []))])
set_option maxRecDepth 100000 in
theorem p2_s1185_s {X : Int → Int} {LX : Nat} : ck_Ok p2_O X LX 301 p2_s1185 := ck_okq (cuts := []) (f := 92) ⟨p2_nmu, ck_E0⟩ (by decide +kernel)
set_option maxRecDepth 100000 in
/-- GlacierMailModel.opener -/
noncomputable def p2_s1186 : ck_Sum := ((5, 0, 0), 245, [.inr (.inr (.inl 226)), .inl (ck_one 14)], ([], [], zl180), ([(226, 17, 23), (233, 0, 399)], []), [(.inr (some (.inl (ck_one (-1)))), 245, ([], [], [])), (.inr (some (.inl (0, 7, []))), 245, ([], [], []))])
set_option maxRecDepth 100000 in
theorem p2_s1186_s {X : Int → Int} {LX : Nat} : ck_Ok p2_O X LX 322 p2_s1186 := ck_okq (cuts := [(31, [some (.inr (.inr (.inl 226))), some (.inl (ck_one 14)), some (.inl (0, 6, [])), some (.inl (0, 8, []))], ([], [], [(227, 218, 218, ((-1), 7, [])), (226, 29, 29, (0, 299, [])), (227, 9, 9, (1, 299, [(11, 0)])), (227, 3, 3, (0, 8, [(21, 0)]))]), 100, .inl 3, true)]) (f := 166) ⟨p2_nmu, ck_E1 (ck_S1 p2_s1185_s (ck_S1 p2_s984_s ck_S0)) (ck_E1 (ck_S1 p2_s1156_s (ck_S1 p2_s569_s ck_S0)) (ck_E1 (ck_S1 p2_s186_s ck_S0) (ck_E1 (ck_S1 p2_s1157_s ck_S0) ck_E0)))⟩ (by decide +kernel)
set_option maxRecDepth 100000 in
/-- GlacierMailModel.ofLetter -/
noncomputable def p2_s1187 : ck_Sum := ((0, 0, 0), 245, [.inr (.inr (.inl 226)), .inl (ck_one 15), .inl (ck_one 2)], ([], [], []), ([], []), [(.inr (some (.inl (0, 6, []))), 245, ([], [], []))])
set_option maxRecDepth 100000 in
theorem p2_s1187_s {X : Int → Int} {LX : Nat} : ck_Ok p2_O X LX 301 p2_s1187 := ck_okq (cuts := []) (f := 92) ⟨p2_nmu, ck_E0⟩ (by decide +kernel)
set_option maxRecDepth 100000 in
/-- GlacierMailModel.opener -/
noncomputable def p2_s1188 : ck_Sum := ((5, 0, 0), 245, [.inr (.inr (.inl 226)), .inl (ck_one 15)], ([], [], zl180), ([(226, 17, 23), (233, 0, 399)], []), [(.inr (some (.inl (ck_one (-1)))), 245, ([], [], [])), (.inr (some (.inl (0, 7, []))), 245, ([], [], []))])
set_option maxRecDepth 100000 in
theorem p2_s1188_s {X : Int → Int} {LX : Nat} : ck_Ok p2_O X LX 322 p2_s1188 := ck_okq (cuts := [(31, [some (.inr (.inr (.inl 226))), some (.inl (ck_one 15)), some (.inl (0, 6, [])), some (.inl (0, 8, []))], ([], [], [(227, 225, 225, ((-1), 7, [])), (226, 29, 29, (0, 299, [])), (227, 9, 9, (1, 299, [(11, 0)])), (227, 3, 3, (0, 8, [(21, 0)]))]), 100, .inl 3, true)]) (f := 166) ⟨p2_nmu, ck_E1 (ck_S1 p2_s1187_s (ck_S1 p2_s995_s ck_S0)) (ck_E1 (ck_S1 p2_s1156_s (ck_S1 p2_s569_s ck_S0)) (ck_E1 (ck_S1 p2_s186_s ck_S0) (ck_E1 (ck_S1 p2_s1157_s ck_S0) ck_E0)))⟩ (by decide +kernel)
set_option maxRecDepth 100000 in
/-- GlacierMailModel.ofLetter -/
noncomputable def p2_s1189 : ck_Sum := ((0, 0, 0), 245, [.inr (.inr (.inl 226)), .inl (ck_one 16), .inl (ck_one 2)], ([], [], []), ([], []), [(.inr (some (.inl (0, 6, []))), 245, ([], [], []))])
set_option maxRecDepth 100000 in
theorem p2_s1189_s {X : Int → Int} {LX : Nat} : ck_Ok p2_O X LX 301 p2_s1189 := ck_okq (cuts := []) (f := 92) ⟨p2_nmu, ck_E0⟩ (by decide +kernel)
set_option maxRecDepth 100000 in
/-- GlacierMailModel.opener -/
noncomputable def p2_s1190 : ck_Sum := ((5, 0, 0), 245, [.inr (.inr (.inl 226)), .inl (ck_one 16)], ([], [], zl180), ([(226, 17, 23), (233, 0, 399)], []), [(.inr (some (.inl (ck_one (-1)))), 245, ([], [], [])), (.inr (some (.inl (0, 7, []))), 245, ([], [], []))])
set_option maxRecDepth 100000 in
theorem p2_s1190_s {X : Int → Int} {LX : Nat} : ck_Ok p2_O X LX 322 p2_s1190 := ck_okq (cuts := [(31, [some (.inr (.inr (.inl 226))), some (.inl (ck_one 16)), some (.inl (0, 6, [])), some (.inl (0, 8, []))], ([], [], [(227, 232, 232, ((-1), 7, [])), (226, 29, 29, (0, 299, [])), (227, 9, 9, (1, 299, [(11, 0)])), (227, 3, 3, (0, 8, [(21, 0)]))]), 100, .inl 3, true)]) (f := 166) ⟨p2_nmu, ck_E1 (ck_S1 p2_s1189_s (ck_S1 p2_s1006_s ck_S0)) (ck_E1 (ck_S1 p2_s1156_s (ck_S1 p2_s569_s ck_S0)) (ck_E1 (ck_S1 p2_s186_s ck_S0) (ck_E1 (ck_S1 p2_s1157_s ck_S0) ck_E0)))⟩ (by decide +kernel)
set_option maxRecDepth 100000 in
/-- GlacierMailModel.ofLetter -/
noncomputable def p2_s1191 : ck_Sum := ((0, 0, 0), 245, [.inr (.inr (.inl 226)), .inl (ck_one 17), .inl (ck_one 2)], ([], [], []), ([], []), [(.inr (some (.inl (0, 6, []))), 245, ([], [], []))])
set_option maxRecDepth 100000 in
theorem p2_s1191_s {X : Int → Int} {LX : Nat} : ck_Ok p2_O X LX 301 p2_s1191 := ck_okq (cuts := []) (f := 92) ⟨p2_nmu, ck_E0⟩ (by decide +kernel)
set_option maxRecDepth 100000 in
/-- GlacierMailModel.opener -/
noncomputable def p2_s1192 : ck_Sum := ((5, 0, 0), 245, [.inr (.inr (.inl 226)), .inl (ck_one 17)], ([], [], zl180), ([(226, 17, 23), (233, 0, 399)], []), [(.inr (some (.inl (ck_one (-1)))), 245, ([], [], [])), (.inr (some (.inl (0, 7, []))), 245, ([], [], []))])
set_option maxRecDepth 100000 in
theorem p2_s1192_s {X : Int → Int} {LX : Nat} : ck_Ok p2_O X LX 322 p2_s1192 := ck_okq (cuts := [(31, [some (.inr (.inr (.inl 226))), some (.inl (ck_one 17)), some (.inl (0, 6, [])), some (.inl (0, 8, []))], ([], [], [(227, 239, 239, ((-1), 7, [])), (226, 29, 29, (0, 299, [])), (227, 9, 9, (1, 299, [(11, 0)])), (227, 3, 3, (0, 8, [(21, 0)]))]), 100, .inl 3, true)]) (f := 166) ⟨p2_nmu, ck_E1 (ck_S1 p2_s1191_s (ck_S1 p2_s1017_s ck_S0)) (ck_E1 (ck_S1 p2_s1156_s (ck_S1 p2_s569_s ck_S0)) (ck_E1 (ck_S1 p2_s186_s ck_S0) (ck_E1 (ck_S1 p2_s1157_s ck_S0) ck_E0)))⟩ (by decide +kernel)
set_option maxRecDepth 100000 in
/-- GlacierMailModel.ofLetter -/
noncomputable def p2_s1193 : ck_Sum := ((0, 0, 0), 245, [.inr (.inr (.inl 226)), .inl (ck_one 18), .inl (ck_one 2)], ([], [], []), ([], []), [(.inr (some (.inl (0, 6, []))), 245, ([], [], []))])
set_option maxRecDepth 100000 in
theorem p2_s1193_s {X : Int → Int} {LX : Nat} : ck_Ok p2_O X LX 301 p2_s1193 := ck_okq (cuts := []) (f := 92) ⟨p2_nmu, ck_E0⟩ (by decide +kernel)
set_option maxRecDepth 100000 in
/-- GlacierMailModel.opener -/
noncomputable def p2_s1194 : ck_Sum := ((5, 0, 0), 245, [.inr (.inr (.inl 226)), .inl (ck_one 18)], ([], [], zl180), ([(226, 17, 23), (233, 0, 399)], []), [(.inr (some (.inl (ck_one (-1)))), 245, ([], [], [])), (.inr (some (.inl (0, 7, []))), 245, ([], [], []))])
set_option maxRecDepth 100000 in
theorem p2_s1194_s {X : Int → Int} {LX : Nat} : ck_Ok p2_O X LX 322 p2_s1194 := ck_okq (cuts := [(31, [some (.inr (.inr (.inl 226))), some (.inl (ck_one 18)), some (.inl (0, 6, [])), some (.inl (0, 8, []))], ([], [], [(227, 246, 246, ((-1), 7, [])), (226, 29, 29, (0, 299, [])), (227, 9, 9, (1, 299, [(11, 0)])), (227, 3, 3, (0, 8, [(21, 0)]))]), 100, .inl 3, true)]) (f := 166) ⟨p2_nmu, ck_E1 (ck_S1 p2_s1193_s (ck_S1 p2_s1028_s ck_S0)) (ck_E1 (ck_S1 p2_s1156_s (ck_S1 p2_s569_s ck_S0)) (ck_E1 (ck_S1 p2_s186_s ck_S0) (ck_E1 (ck_S1 p2_s1157_s ck_S0) ck_E0)))⟩ (by decide +kernel)
set_option maxRecDepth 100000 in
/-- GlacierMailModel.ofLetter -/
noncomputable def p2_s1195 : ck_Sum := ((0, 0, 0), 245, [.inr (.inr (.inl 226)), .inl (ck_one 19), .inl (ck_one 2)], ([], [], []), ([], []), [(.inr (some (.inl (0, 6, []))), 245, ([], [], []))])
set_option maxRecDepth 100000 in
theorem p2_s1195_s {X : Int → Int} {LX : Nat} : ck_Ok p2_O X LX 301 p2_s1195 := ck_okq (cuts := []) (f := 92) ⟨p2_nmu, ck_E0⟩ (by decide +kernel)
set_option maxRecDepth 100000 in
/-- GlacierMailModel.opener -/
noncomputable def p2_s1196 : ck_Sum := ((5, 0, 0), 245, [.inr (.inr (.inl 226)), .inl (ck_one 19)], ([], [], zl180), ([(226, 17, 23), (233, 0, 399)], []), [(.inr (some (.inl (ck_one (-1)))), 245, ([], [], [])), (.inr (some (.inl (0, 7, []))), 245, ([], [], []))])
set_option maxRecDepth 100000 in
theorem p2_s1196_s {X : Int → Int} {LX : Nat} : ck_Ok p2_O X LX 322 p2_s1196 := ck_okq (cuts := [(31, [some (.inr (.inr (.inl 226))), some (.inl (ck_one 19)), some (.inl (0, 6, [])), some (.inl (0, 8, []))], ([], [], [(227, 253, 253, ((-1), 7, [])), (226, 29, 29, (0, 299, [])), (227, 9, 9, (1, 299, [(11, 0)])), (227, 3, 3, (0, 8, [(21, 0)]))]), 100, .inl 3, true)]) (f := 166) ⟨p2_nmu, ck_E1 (ck_S1 p2_s1195_s (ck_S1 p2_s1039_s ck_S0)) (ck_E1 (ck_S1 p2_s1156_s (ck_S1 p2_s569_s ck_S0)) (ck_E1 (ck_S1 p2_s186_s ck_S0) (ck_E1 (ck_S1 p2_s1157_s ck_S0) ck_E0)))⟩ (by decide +kernel)
set_option maxRecDepth 100000 in
/-- GlacierMailModel.ofLetter -/
noncomputable def p2_s1197 : ck_Sum := ((0, 0, 0), 245, [.inr (.inr (.inl 226)), .inl (ck_one 20), .inl (ck_one 2)], ([], [], []), ([], []), [(.inr (some (.inl (0, 6, []))), 245, ([], [], []))])
set_option maxRecDepth 100000 in
theorem p2_s1197_s {X : Int → Int} {LX : Nat} : ck_Ok p2_O X LX 301 p2_s1197 := ck_okq (cuts := []) (f := 92) ⟨p2_nmu, ck_E0⟩ (by decide +kernel)
set_option maxRecDepth 100000 in
/-- GlacierMailModel.opener -/
noncomputable def p2_s1198 : ck_Sum := ((5, 0, 0), 245, [.inr (.inr (.inl 226)), .inl (ck_one 20)], ([], [], zl180), ([(226, 17, 23), (233, 0, 399)], []), [(.inr (some (.inl (ck_one (-1)))), 245, ([], [], [])), (.inr (some (.inl (0, 7, []))), 245, ([], [], []))])
set_option maxRecDepth 100000 in
theorem p2_s1198_s {X : Int → Int} {LX : Nat} : ck_Ok p2_O X LX 322 p2_s1198 := ck_okq (cuts := [(31, [some (.inr (.inr (.inl 226))), some (.inl (ck_one 20)), some (.inl (0, 6, [])), some (.inl (0, 8, []))], ([], [], [(227, 260, 260, ((-1), 7, [])), (226, 29, 29, (0, 299, [])), (227, 9, 9, (1, 299, [(11, 0)])), (227, 3, 3, (0, 8, [(21, 0)]))]), 100, .inl 3, true)]) (f := 166) ⟨p2_nmu, ck_E1 (ck_S1 p2_s1197_s (ck_S1 p2_s1050_s ck_S0)) (ck_E1 (ck_S1 p2_s1156_s (ck_S1 p2_s569_s ck_S0)) (ck_E1 (ck_S1 p2_s186_s ck_S0) (ck_E1 (ck_S1 p2_s1157_s ck_S0) ck_E0)))⟩ (by decide +kernel)
set_option maxRecDepth 100000 in
/-- GlacierMailModel.ofLetter -/
noncomputable def p2_s1199 : ck_Sum := ((0, 0, 0), 245, [.inr (.inr (.inl 226)), .inl (ck_one 21), .inl (ck_one 2)], ([], [], []), ([], []), [(.inr (some (.inl (0, 6, []))), 245, ([], [], []))])
set_option maxRecDepth 100000 in
theorem p2_s1199_s {X : Int → Int} {LX : Nat} : ck_Ok p2_O X LX 301 p2_s1199 := ck_okq (cuts := []) (f := 92) ⟨p2_nmu, ck_E0⟩ (by decide +kernel)
set_option maxRecDepth 100000 in
/-- GlacierMailModel.opener -/
noncomputable def p2_s1200 : ck_Sum := ((5, 0, 0), 245, [.inr (.inr (.inl 226)), .inl (ck_one 21)], ([], [], zl180), ([(226, 17, 23), (233, 0, 399)], []), [(.inr (some (.inl (ck_one (-1)))), 245, ([], [], [])), (.inr (some (.inl (0, 7, []))), 245, ([], [], []))])
set_option maxRecDepth 100000 in
theorem p2_s1200_s {X : Int → Int} {LX : Nat} : ck_Ok p2_O X LX 322 p2_s1200 := ck_okq (cuts := [(31, [some (.inr (.inr (.inl 226))), some (.inl (ck_one 21)), some (.inl (0, 6, [])), some (.inl (0, 8, []))], ([], [], [(227, 267, 267, ((-1), 7, [])), (226, 29, 29, (0, 299, [])), (227, 9, 9, (1, 299, [(11, 0)])), (227, 3, 3, (0, 8, [(21, 0)]))]), 100, .inl 3, true)]) (f := 166) ⟨p2_nmu, ck_E1 (ck_S1 p2_s1199_s (ck_S1 p2_s1061_s ck_S0)) (ck_E1 (ck_S1 p2_s1156_s (ck_S1 p2_s569_s ck_S0)) (ck_E1 (ck_S1 p2_s186_s ck_S0) (ck_E1 (ck_S1 p2_s1157_s ck_S0) ck_E0)))⟩ (by decide +kernel)
set_option maxRecDepth 100000 in
/-- GlacierMailModel.ofLetter -/
noncomputable def p2_s1201 : ck_Sum := ((0, 0, 0), 245, [.inr (.inr (.inl 226)), .inl (ck_one 22), .inl (ck_one 2)], ([], [], []), ([], []), [(.inr (some (.inl (0, 6, []))), 245, ([], [], []))])
set_option maxRecDepth 100000 in
theorem p2_s1201_s {X : Int → Int} {LX : Nat} : ck_Ok p2_O X LX 301 p2_s1201 := ck_okq (cuts := []) (f := 92) ⟨p2_nmu, ck_E0⟩ (by decide +kernel)
set_option maxRecDepth 100000 in
/-- GlacierMailModel.opener -/
noncomputable def p2_s1202 : ck_Sum := ((5, 0, 0), 245, [.inr (.inr (.inl 226)), .inl (ck_one 22)], ([], [], zl180), ([(226, 17, 23), (233, 0, 399)], []), [(.inr (some (.inl (ck_one (-1)))), 245, ([], [], [])), (.inr (some (.inl (0, 7, []))), 245, ([], [], []))])
set_option maxRecDepth 100000 in
theorem p2_s1202_s {X : Int → Int} {LX : Nat} : ck_Ok p2_O X LX 322 p2_s1202 := ck_okq (cuts := [(31, [some (.inr (.inr (.inl 226))), some (.inl (ck_one 22)), some (.inl (0, 6, [])), some (.inl (0, 8, []))], ([], [], [(227, 274, 274, ((-1), 7, [])), (226, 29, 29, (0, 299, [])), (227, 9, 9, (1, 299, [(11, 0)])), (227, 3, 3, (0, 8, [(21, 0)]))]), 100, .inl 3, true)]) (f := 166) ⟨p2_nmu, ck_E1 (ck_S1 p2_s1201_s (ck_S1 p2_s1072_s ck_S0)) (ck_E1 (ck_S1 p2_s1156_s (ck_S1 p2_s569_s ck_S0)) (ck_E1 (ck_S1 p2_s186_s ck_S0) (ck_E1 (ck_S1 p2_s1157_s ck_S0) ck_E0)))⟩ (by decide +kernel)
set_option maxRecDepth 100000 in
/-- GlacierMailModel.ofLetter -/
noncomputable def p2_s1203 : ck_Sum := ((0, 0, 0), 245, [.inr (.inr (.inl 226)), .inl (ck_one 23), .inl (ck_one 2)], ([], [], []), ([], []), [(.inr (some (.inl (0, 6, []))), 245, ([], [], []))])
set_option maxRecDepth 100000 in
theorem p2_s1203_s {X : Int → Int} {LX : Nat} : ck_Ok p2_O X LX 301 p2_s1203 := ck_okq (cuts := []) (f := 92) ⟨p2_nmu, ck_E0⟩ (by decide +kernel)
set_option maxRecDepth 100000 in
/-- GlacierMailModel.opener -/
noncomputable def p2_s1204 : ck_Sum := ((5, 0, 0), 245, [.inr (.inr (.inl 226)), .inl (ck_one 23)], ([], [], zl180), ([(226, 17, 23), (233, 0, 399)], []), [(.inr (some (.inl (ck_one (-1)))), 245, ([], [], [])), (.inr (some (.inl (0, 7, []))), 245, ([], [], []))])
set_option maxRecDepth 100000 in
theorem p2_s1204_s {X : Int → Int} {LX : Nat} : ck_Ok p2_O X LX 322 p2_s1204 := ck_okq (cuts := [(31, [some (.inr (.inr (.inl 226))), some (.inl (ck_one 23)), some (.inl (0, 6, [])), some (.inl (0, 8, []))], ([], [], [(227, 281, 281, ((-1), 7, [])), (226, 29, 29, (0, 299, [])), (227, 9, 9, (1, 299, [(11, 0)])), (227, 3, 3, (0, 8, [(21, 0)]))]), 100, .inl 3, true)]) (f := 166) ⟨p2_nmu, ck_E1 (ck_S1 p2_s1203_s (ck_S1 p2_s1083_s ck_S0)) (ck_E1 (ck_S1 p2_s1156_s (ck_S1 p2_s569_s ck_S0)) (ck_E1 (ck_S1 p2_s186_s ck_S0) (ck_E1 (ck_S1 p2_s1157_s ck_S0) ck_E0)))⟩ (by decide +kernel)
end
/-! 78r80a15b.sf -/
section
/-! THE REFERENCE'S year. -/
set_option maxRecDepth 100000 in
/-- GlacierMailModel.year -/
noncomputable def p2_s1205 : ck_Sum := ((9, 0, 0), 245, [.inr (.inr (.inl 226))], ([], [], [(227, 9, 9, (0, 298, [(11, 0)])), (227, 2, 2, (0, 8, [(20, 0)])), (227, 3, 3, (0, 8, [(21, 0)])), (227, 4, 4, (0, 24, [(22, 0)])), (227, 5, 5, (0, 8, [(23, 0)])), (227, 14, 14, (0, 24, [(26, 0)]))]), ([(226, 17, 23), (226, 26, 26), (226, 29, 30), (227, 9, 9), (227, 14, 14), (227, 124, 125), (227, 131, 132), (227, 138, 139), (227, 145, 146), (227, 152, 153), (227, 159, 160), (227, 166, 167), (227, 173, 174), (227, 180, 181), (227, 187, 188), (227, 194, 195), (227, 201, 202), (227, 208, 209), (227, 215, 216), (227, 222, 223), (227, 229, 230), (227, 236, 237), (227, 243, 244), (227, 250, 251), (227, 257, 258), (227, 264, 265), (227, 271, 272), (227, 278, 279), (227, 285, 286), (227, 323, 394), (233, 0, 399), (235, 0, 29699), (236, 0, 299), (237, 0, 299)], []), [(.inr (some (.inl (0, 24, []))), 245, ([], [], [(227, 9, 9, (1, 299, [(11, 1)]))]))])
noncomputable def p2_s1205_E : List (Nat × List ck_Sum) := [(254, [p2_s176]), (302, [p2_s829, p2_s840, p2_s851, p2_s862, p2_s873, p2_s884, p2_s895, p2_s906, p2_s917, p2_s928, p2_s939, p2_s950, p2_s961, p2_s972, p2_s983, p2_s994, p2_s1005, p2_s1016, p2_s1027, p2_s1038, p2_s1049, p2_s1060, p2_s1071, p2_s1082]), (322, [p2_s1158, p2_s1160, p2_s1162, p2_s1164, p2_s1166, p2_s1168, p2_s1170, p2_s1172, p2_s1174, p2_s1176, p2_s1178, p2_s1180, p2_s1182, p2_s1184, p2_s1186, p2_s1188, p2_s1190, p2_s1192, p2_s1194, p2_s1196, p2_s1198, p2_s1200, p2_s1202, p2_s1204]), (319, [p2_s833, p2_s844, p2_s855, p2_s866, p2_s877, p2_s888, p2_s899, p2_s910, p2_s921, p2_s932, p2_s943, p2_s954, p2_s965, p2_s976, p2_s987, p2_s998, p2_s1009, p2_s1020, p2_s1031, p2_s1042, p2_s1053, p2_s1064, p2_s1075, p2_s1086])]
noncomputable def p2_s1205_i : List (Nat × ck_C) := []
set_option maxRecDepth 100000 in
noncomputable def p2_s1205_l : List ck_H := [(15, ([some (.inr (.inr (.inl 226))), some (.inl (0, 24, [])), some (.inl (ck_one 24)), some (.inl ((-1), 7, []))], ([], [], [(227, 9, 9, (1, 299, [(11, 1)])), (227, 2, 2, (0, 8, [(20, 0)])), (227, 3, 3, (0, 8, [(21, 0)])), (227, 4, 4, (24, 24, [(22, 0)])), (227, 5, 5, (0, 8, [(23, 0)]))]), 2000000, .inl 1, true), 0, 0, 245), (15, ([some (.inr (.inr (.inl 226))), some (.inl (0, 23, [])), some (.inl (ck_one 23)), some (.inl ((-1), 7, []))], ([], [], [(227, 9, 9, (1, 299, [(11, 1)])), (227, 2, 2, (0, 8, [(20, 0)])), (227, 3, 3, (0, 8, [(21, 0)])), (227, 4, 4, (23, 24, [(22, 0)])), (227, 5, 5, (0, 8, [(23, 0)]))]), 2000001, .inl 1, true), 0, 0, 245), (15, ([some (.inr (.inr (.inl 226))), some (.inl (0, 22, [])), some (.inl (ck_one 22)), some (.inl ((-1), 7, []))], ([], [], [(227, 9, 9, (1, 299, [(11, 1)])), (227, 2, 2, (0, 8, [(20, 0)])), (227, 3, 3, (0, 8, [(21, 0)])), (227, 4, 4, (22, 24, [(22, 0)])), (227, 5, 5, (0, 8, [(23, 0)]))]), 2000002, .inl 1, true), 0, 0, 245), (15, ([some (.inr (.inr (.inl 226))), some (.inl (0, 21, [])), some (.inl (ck_one 21)), some (.inl ((-1), 7, []))], ([], [], [(227, 9, 9, (1, 299, [(11, 1)])), (227, 2, 2, (0, 8, [(20, 0)])), (227, 3, 3, (0, 8, [(21, 0)])), (227, 4, 4, (21, 24, [(22, 0)])), (227, 5, 5, (0, 8, [(23, 0)]))]), 2000003, .inl 1, true), 0, 0, 245), (15, ([some (.inr (.inr (.inl 226))), some (.inl (0, 20, [])), some (.inl (ck_one 20)), some (.inl ((-1), 7, []))], ([], [], [(227, 9, 9, (1, 299, [(11, 1)])), (227, 2, 2, (0, 8, [(20, 0)])), (227, 3, 3, (0, 8, [(21, 0)])), (227, 4, 4, (20, 24, [(22, 0)])), (227, 5, 5, (0, 8, [(23, 0)]))]), 2000004, .inl 1, true), 0, 0, 245), (15, ([some (.inr (.inr (.inl 226))), some (.inl (0, 19, [])), some (.inl (ck_one 19)), some (.inl ((-1), 7, []))], ([], [], [(227, 9, 9, (1, 299, [(11, 1)])), (227, 2, 2, (0, 8, [(20, 0)])), (227, 3, 3, (0, 8, [(21, 0)])), (227, 4, 4, (19, 24, [(22, 0)])), (227, 5, 5, (0, 8, [(23, 0)]))]), 2000005, .inl 1, true), 0, 0, 245), (15, ([some (.inr (.inr (.inl 226))), some (.inl (0, 18, [])), some (.inl (ck_one 18)), some (.inl ((-1), 7, []))], ([], [], [(227, 9, 9, (1, 299, [(11, 1)])), (227, 2, 2, (0, 8, [(20, 0)])), (227, 3, 3, (0, 8, [(21, 0)])), (227, 4, 4, (18, 24, [(22, 0)])), (227, 5, 5, (0, 8, [(23, 0)]))]), 2000006, .inl 1, true), 0, 0, 245), (15, ([some (.inr (.inr (.inl 226))), some (.inl (0, 17, [])), some (.inl (ck_one 17)), some (.inl ((-1), 7, []))], ([], [], [(227, 9, 9, (1, 299, [(11, 1)])), (227, 2, 2, (0, 8, [(20, 0)])), (227, 3, 3, (0, 8, [(21, 0)])), (227, 4, 4, (17, 24, [(22, 0)])), (227, 5, 5, (0, 8, [(23, 0)]))]), 2000007, .inl 1, true), 0, 0, 245), (15, ([some (.inr (.inr (.inl 226))), some (.inl (0, 16, [])), some (.inl (ck_one 16)), some (.inl ((-1), 7, []))], ([], [], [(227, 9, 9, (1, 299, [(11, 1)])), (227, 2, 2, (0, 8, [(20, 0)])), (227, 3, 3, (0, 8, [(21, 0)])), (227, 4, 4, (16, 24, [(22, 0)])), (227, 5, 5, (0, 8, [(23, 0)]))]), 2000008, .inl 1, true), 0, 0, 245), (15, ([some (.inr (.inr (.inl 226))), some (.inl (0, 15, [])), some (.inl (ck_one 15)), some (.inl ((-1), 7, []))], ([], [], [(227, 9, 9, (1, 299, [(11, 1)])), (227, 2, 2, (0, 8, [(20, 0)])), (227, 3, 3, (0, 8, [(21, 0)])), (227, 4, 4, (15, 24, [(22, 0)])), (227, 5, 5, (0, 8, [(23, 0)]))]), 2000009, .inl 1, true), 0, 0, 245), (15, ([some (.inr (.inr (.inl 226))), some (.inl (0, 14, [])), some (.inl (ck_one 14)), some (.inl ((-1), 7, []))], ([], [], [(227, 9, 9, (1, 299, [(11, 1)])), (227, 2, 2, (0, 8, [(20, 0)])), (227, 3, 3, (0, 8, [(21, 0)])), (227, 4, 4, (14, 24, [(22, 0)])), (227, 5, 5, (0, 8, [(23, 0)]))]), 2000010, .inl 1, true), 0, 0, 245), (15, ([some (.inr (.inr (.inl 226))), some (.inl (0, 13, [])), some (.inl (ck_one 13)), some (.inl ((-1), 7, []))], ([], [], [(227, 9, 9, (1, 299, [(11, 1)])), (227, 2, 2, (0, 8, [(20, 0)])), (227, 3, 3, (0, 8, [(21, 0)])), (227, 4, 4, (13, 24, [(22, 0)])), (227, 5, 5, (0, 8, [(23, 0)]))]), 2000011, .inl 1, true), 0, 0, 245), (15, ([some (.inr (.inr (.inl 226))), some (.inl (0, 12, [])), some (.inl (ck_one 12)), some (.inl ((-1), 7, []))], ([], [], [(227, 9, 9, (1, 299, [(11, 1)])), (227, 2, 2, (0, 8, [(20, 0)])), (227, 3, 3, (0, 8, [(21, 0)])), (227, 4, 4, (12, 24, [(22, 0)])), (227, 5, 5, (0, 8, [(23, 0)]))]), 2000012, .inl 1, true), 0, 0, 245), (15, ([some (.inr (.inr (.inl 226))), some (.inl (0, 11, [])), some (.inl (ck_one 11)), some (.inl ((-1), 7, []))], ([], [], [(227, 9, 9, (1, 299, [(11, 1)])), (227, 2, 2, (0, 8, [(20, 0)])), (227, 3, 3, (0, 8, [(21, 0)])), (227, 4, 4, (11, 24, [(22, 0)])), (227, 5, 5, (0, 8, [(23, 0)]))]), 2000013, .inl 1, true), 0, 0, 245), (15, ([some (.inr (.inr (.inl 226))), some (.inl (0, 10, [])), some (.inl (ck_one 10)), some (.inl ((-1), 7, []))], ([], [], [(227, 9, 9, (1, 299, [(11, 1)])), (227, 2, 2, (0, 8, [(20, 0)])), (227, 3, 3, (0, 8, [(21, 0)])), (227, 4, 4, (10, 24, [(22, 0)])), (227, 5, 5, (0, 8, [(23, 0)]))]), 2000014, .inl 1, true), 0, 0, 245), (15, ([some (.inr (.inr (.inl 226))), some (.inl (0, 9, [])), some (.inl (ck_one 9)), some (.inl ((-1), 7, []))], ([], [], [(227, 9, 9, (1, 299, [(11, 1)])), (227, 2, 2, (0, 8, [(20, 0)])), (227, 3, 3, (0, 8, [(21, 0)])), (227, 4, 4, (9, 24, [(22, 0)])), (227, 5, 5, (0, 8, [(23, 0)]))]), 2000015, .inl 1, true), 0, 0, 245), (15, ([some (.inr (.inr (.inl 226))), some (.inl (0, 8, [])), some (.inl (ck_one 8)), some (.inl ((-1), 7, []))], ([], [], [(227, 9, 9, (1, 299, [(11, 1)])), (227, 2, 2, (0, 8, [(20, 0)])), (227, 3, 3, (0, 8, [(21, 0)])), (227, 4, 4, (8, 24, [(22, 0)])), (227, 5, 5, (0, 8, [(23, 0)]))]), 2000016, .inl 1, true), 0, 0, 245), (15, ([some (.inr (.inr (.inl 226))), some (.inl (0, 7, [])), some (.inl (ck_one 7)), some (.inl ((-1), 7, []))], ([], [], [(227, 9, 9, (1, 299, [(11, 1)])), (227, 2, 2, (0, 8, [(20, 0)])), (227, 3, 3, (0, 8, [(21, 0)])), (227, 4, 4, (7, 24, [(22, 0)])), (227, 5, 5, (0, 8, [(23, 0)]))]), 2000017, .inl 1, true), 0, 0, 245), (15, ([some (.inr (.inr (.inl 226))), some (.inl (0, 6, [])), some (.inl (ck_one 6)), some (.inl ((-1), 7, []))], ([], [], [(227, 9, 9, (1, 299, [(11, 1)])), (227, 2, 2, (0, 8, [(20, 0)])), (227, 3, 3, (0, 8, [(21, 0)])), (227, 4, 4, (6, 24, [(22, 0)])), (227, 5, 5, (0, 8, [(23, 0)]))]), 2000018, .inl 1, true), 0, 0, 245), (15, ([some (.inr (.inr (.inl 226))), some (.inl (0, 5, [])), some (.inl (ck_one 5)), some (.inl ((-1), 7, []))], ([], [], [(227, 9, 9, (1, 299, [(11, 1)])), (227, 2, 2, (0, 8, [(20, 0)])), (227, 3, 3, (0, 8, [(21, 0)])), (227, 4, 4, (5, 24, [(22, 0)])), (227, 5, 5, (0, 8, [(23, 0)]))]), 2000019, .inl 1, true), 0, 0, 245), (15, ([some (.inr (.inr (.inl 226))), some (.inl (0, 4, [])), some (.inl (ck_one 4)), some (.inl ((-1), 7, []))], ([], [], [(227, 9, 9, (1, 299, [(11, 1)])), (227, 2, 2, (0, 8, [(20, 0)])), (227, 3, 3, (0, 8, [(21, 0)])), (227, 4, 4, (4, 24, [(22, 0)])), (227, 5, 5, (0, 8, [(23, 0)]))]), 2000020, .inl 1, true), 0, 0, 245), (15, ([some (.inr (.inr (.inl 226))), some (.inl (0, 3, [])), some (.inl (ck_one 3)), some (.inl ((-1), 7, []))], ([], [], [(227, 9, 9, (1, 299, [(11, 1)])), (227, 2, 2, (0, 8, [(20, 0)])), (227, 3, 3, (0, 8, [(21, 0)])), (227, 4, 4, (3, 24, [(22, 0)])), (227, 5, 5, (0, 8, [(23, 0)]))]), 2000021, .inl 1, true), 0, 0, 245), (15, ([some (.inr (.inr (.inl 226))), some (.inl (0, 2, [])), some (.inl (ck_one 2)), some (.inl ((-1), 7, []))], ([], [], [(227, 9, 9, (1, 299, [(11, 1)])), (227, 2, 2, (0, 8, [(20, 0)])), (227, 3, 3, (0, 8, [(21, 0)])), (227, 4, 4, (2, 24, [(22, 0)])), (227, 5, 5, (0, 8, [(23, 0)]))]), 2000022, .inl 1, true), 0, 0, 245), (15, ([some (.inr (.inr (.inl 226))), some (.inl (0, 1, [])), some (.inl (ck_one 1)), some (.inl ((-1), 7, []))], ([], [], [(227, 9, 9, (1, 299, [(11, 1)])), (227, 2, 2, (0, 8, [(20, 0)])), (227, 3, 3, (0, 8, [(21, 0)])), (227, 4, 4, (1, 24, [(22, 0)])), (227, 5, 5, (0, 8, [(23, 0)]))]), 2000023, .inl 1, true), 0, 0, 245), (15, ([some (.inr (.inr (.inl 226))), some (.inl (ck_one 0)), some (.inl (ck_one 0)), none], ([], [], [(227, 9, 9, (1, 299, [(11, 1)])), (227, 2, 2, (0, 8, [(20, 0)])), (227, 3, 3, (0, 8, [(21, 0)])), (227, 4, 4, (0, 24, [(22, 0)])), (227, 5, 5, (0, 8, [(23, 0)])), (227, 14, 14, (0, 24, [(26, 0)]))]), 2000024, .inl 1, true), 0, 0, 245)]
set_option maxRecDepth 100000 in
theorem p2_s1205_a : (decide (p2_s1205.2.2.1.length ≤ gm_ml 321) && ck_cu (p2_s1205_l.map (fun h => (h.1, h.2.1)) ++ p2_s1205_i)) = true := by decide +kernel
set_option maxRecDepth 100000 in
theorem p2_s1205_e0 : ck_stpi p2_O p2_s1205_E 321 p2_s1205.1.1 p2_s1205.2.1 p2_s1205.2.2.2.2.1 p2_s1205.2.2.2.2.2 (p2_s1205_l.map (fun h => (h.1, h.2.1)) ++ p2_s1205_i) 1766 p2_s1205_l 0 = true := by decide +kernel
set_option maxRecDepth 100000 in
theorem p2_s1205_e1 : ck_stpi p2_O p2_s1205_E 321 p2_s1205.1.1 p2_s1205.2.1 p2_s1205.2.2.2.2.1 p2_s1205.2.2.2.2.2 (p2_s1205_l.map (fun h => (h.1, h.2.1)) ++ p2_s1205_i) 1766 p2_s1205_l 1 = true := by decide +kernel
set_option maxRecDepth 100000 in
theorem p2_s1205_e2 : ck_stpi p2_O p2_s1205_E 321 p2_s1205.1.1 p2_s1205.2.1 p2_s1205.2.2.2.2.1 p2_s1205.2.2.2.2.2 (p2_s1205_l.map (fun h => (h.1, h.2.1)) ++ p2_s1205_i) 1766 p2_s1205_l 2 = true := by decide +kernel
set_option maxRecDepth 100000 in
theorem p2_s1205_e3 : ck_stpi p2_O p2_s1205_E 321 p2_s1205.1.1 p2_s1205.2.1 p2_s1205.2.2.2.2.1 p2_s1205.2.2.2.2.2 (p2_s1205_l.map (fun h => (h.1, h.2.1)) ++ p2_s1205_i) 1766 p2_s1205_l 3 = true := by decide +kernel
set_option maxRecDepth 100000 in
theorem p2_s1205_e4 : ck_stpi p2_O p2_s1205_E 321 p2_s1205.1.1 p2_s1205.2.1 p2_s1205.2.2.2.2.1 p2_s1205.2.2.2.2.2 (p2_s1205_l.map (fun h => (h.1, h.2.1)) ++ p2_s1205_i) 1766 p2_s1205_l 4 = true := by decide +kernel
set_option maxRecDepth 100000 in
theorem p2_s1205_e5 : ck_stpi p2_O p2_s1205_E 321 p2_s1205.1.1 p2_s1205.2.1 p2_s1205.2.2.2.2.1 p2_s1205.2.2.2.2.2 (p2_s1205_l.map (fun h => (h.1, h.2.1)) ++ p2_s1205_i) 1766 p2_s1205_l 5 = true := by decide +kernel
set_option maxRecDepth 100000 in
theorem p2_s1205_e6 : ck_stpi p2_O p2_s1205_E 321 p2_s1205.1.1 p2_s1205.2.1 p2_s1205.2.2.2.2.1 p2_s1205.2.2.2.2.2 (p2_s1205_l.map (fun h => (h.1, h.2.1)) ++ p2_s1205_i) 1766 p2_s1205_l 6 = true := by decide +kernel
set_option maxRecDepth 100000 in
theorem p2_s1205_e7 : ck_stpi p2_O p2_s1205_E 321 p2_s1205.1.1 p2_s1205.2.1 p2_s1205.2.2.2.2.1 p2_s1205.2.2.2.2.2 (p2_s1205_l.map (fun h => (h.1, h.2.1)) ++ p2_s1205_i) 1766 p2_s1205_l 7 = true := by decide +kernel
set_option maxRecDepth 100000 in
theorem p2_s1205_e8 : ck_stpi p2_O p2_s1205_E 321 p2_s1205.1.1 p2_s1205.2.1 p2_s1205.2.2.2.2.1 p2_s1205.2.2.2.2.2 (p2_s1205_l.map (fun h => (h.1, h.2.1)) ++ p2_s1205_i) 1766 p2_s1205_l 8 = true := by decide +kernel
set_option maxRecDepth 100000 in
theorem p2_s1205_e9 : ck_stpi p2_O p2_s1205_E 321 p2_s1205.1.1 p2_s1205.2.1 p2_s1205.2.2.2.2.1 p2_s1205.2.2.2.2.2 (p2_s1205_l.map (fun h => (h.1, h.2.1)) ++ p2_s1205_i) 1766 p2_s1205_l 9 = true := by decide +kernel
set_option maxRecDepth 100000 in
theorem p2_s1205_e10 : ck_stpi p2_O p2_s1205_E 321 p2_s1205.1.1 p2_s1205.2.1 p2_s1205.2.2.2.2.1 p2_s1205.2.2.2.2.2 (p2_s1205_l.map (fun h => (h.1, h.2.1)) ++ p2_s1205_i) 1766 p2_s1205_l 10 = true := by decide +kernel
set_option maxRecDepth 100000 in
theorem p2_s1205_e11 : ck_stpi p2_O p2_s1205_E 321 p2_s1205.1.1 p2_s1205.2.1 p2_s1205.2.2.2.2.1 p2_s1205.2.2.2.2.2 (p2_s1205_l.map (fun h => (h.1, h.2.1)) ++ p2_s1205_i) 1766 p2_s1205_l 11 = true := by decide +kernel
set_option maxRecDepth 100000 in
theorem p2_s1205_e12 : ck_stpi p2_O p2_s1205_E 321 p2_s1205.1.1 p2_s1205.2.1 p2_s1205.2.2.2.2.1 p2_s1205.2.2.2.2.2 (p2_s1205_l.map (fun h => (h.1, h.2.1)) ++ p2_s1205_i) 1766 p2_s1205_l 12 = true := by decide +kernel
set_option maxRecDepth 100000 in
theorem p2_s1205_e13 : ck_stpi p2_O p2_s1205_E 321 p2_s1205.1.1 p2_s1205.2.1 p2_s1205.2.2.2.2.1 p2_s1205.2.2.2.2.2 (p2_s1205_l.map (fun h => (h.1, h.2.1)) ++ p2_s1205_i) 1766 p2_s1205_l 13 = true := by decide +kernel
set_option maxRecDepth 100000 in
theorem p2_s1205_e14 : ck_stpi p2_O p2_s1205_E 321 p2_s1205.1.1 p2_s1205.2.1 p2_s1205.2.2.2.2.1 p2_s1205.2.2.2.2.2 (p2_s1205_l.map (fun h => (h.1, h.2.1)) ++ p2_s1205_i) 1766 p2_s1205_l 14 = true := by decide +kernel
set_option maxRecDepth 100000 in
theorem p2_s1205_e15 : ck_stpi p2_O p2_s1205_E 321 p2_s1205.1.1 p2_s1205.2.1 p2_s1205.2.2.2.2.1 p2_s1205.2.2.2.2.2 (p2_s1205_l.map (fun h => (h.1, h.2.1)) ++ p2_s1205_i) 1766 p2_s1205_l 15 = true := by decide +kernel
set_option maxRecDepth 100000 in
theorem p2_s1205_e16 : ck_stpi p2_O p2_s1205_E 321 p2_s1205.1.1 p2_s1205.2.1 p2_s1205.2.2.2.2.1 p2_s1205.2.2.2.2.2 (p2_s1205_l.map (fun h => (h.1, h.2.1)) ++ p2_s1205_i) 1766 p2_s1205_l 16 = true := by decide +kernel
set_option maxRecDepth 100000 in
theorem p2_s1205_e17 : ck_stpi p2_O p2_s1205_E 321 p2_s1205.1.1 p2_s1205.2.1 p2_s1205.2.2.2.2.1 p2_s1205.2.2.2.2.2 (p2_s1205_l.map (fun h => (h.1, h.2.1)) ++ p2_s1205_i) 1766 p2_s1205_l 17 = true := by decide +kernel
set_option maxRecDepth 100000 in
theorem p2_s1205_e18 : ck_stpi p2_O p2_s1205_E 321 p2_s1205.1.1 p2_s1205.2.1 p2_s1205.2.2.2.2.1 p2_s1205.2.2.2.2.2 (p2_s1205_l.map (fun h => (h.1, h.2.1)) ++ p2_s1205_i) 1766 p2_s1205_l 18 = true := by decide +kernel
set_option maxRecDepth 100000 in
theorem p2_s1205_e19 : ck_stpi p2_O p2_s1205_E 321 p2_s1205.1.1 p2_s1205.2.1 p2_s1205.2.2.2.2.1 p2_s1205.2.2.2.2.2 (p2_s1205_l.map (fun h => (h.1, h.2.1)) ++ p2_s1205_i) 1766 p2_s1205_l 19 = true := by decide +kernel
set_option maxRecDepth 100000 in
theorem p2_s1205_e20 : ck_stpi p2_O p2_s1205_E 321 p2_s1205.1.1 p2_s1205.2.1 p2_s1205.2.2.2.2.1 p2_s1205.2.2.2.2.2 (p2_s1205_l.map (fun h => (h.1, h.2.1)) ++ p2_s1205_i) 1766 p2_s1205_l 20 = true := by decide +kernel
set_option maxRecDepth 100000 in
theorem p2_s1205_e21 : ck_stpi p2_O p2_s1205_E 321 p2_s1205.1.1 p2_s1205.2.1 p2_s1205.2.2.2.2.1 p2_s1205.2.2.2.2.2 (p2_s1205_l.map (fun h => (h.1, h.2.1)) ++ p2_s1205_i) 1766 p2_s1205_l 21 = true := by decide +kernel
set_option maxRecDepth 100000 in
theorem p2_s1205_e22 : ck_stpi p2_O p2_s1205_E 321 p2_s1205.1.1 p2_s1205.2.1 p2_s1205.2.2.2.2.1 p2_s1205.2.2.2.2.2 (p2_s1205_l.map (fun h => (h.1, h.2.1)) ++ p2_s1205_i) 1766 p2_s1205_l 22 = true := by decide +kernel
set_option maxRecDepth 100000 in
theorem p2_s1205_e23 : ck_stpi p2_O p2_s1205_E 321 p2_s1205.1.1 p2_s1205.2.1 p2_s1205.2.2.2.2.1 p2_s1205.2.2.2.2.2 (p2_s1205_l.map (fun h => (h.1, h.2.1)) ++ p2_s1205_i) 1766 p2_s1205_l 23 = true := by decide +kernel
set_option maxRecDepth 100000 in
theorem p2_s1205_e24 : ck_stpi p2_O p2_s1205_E 321 p2_s1205.1.1 p2_s1205.2.1 p2_s1205.2.2.2.2.1 p2_s1205.2.2.2.2.2 (p2_s1205_l.map (fun h => (h.1, h.2.1)) ++ p2_s1205_i) 1766 p2_s1205_l 24 = true := by decide +kernel
set_option maxRecDepth 100000 in
theorem p2_s1205_z : ck_go p2_O none [] p2_s1205_E 321 p2_s1205.1.1 p2_s1205.2.1 p2_s1205.2.2.2.2.1 p2_s1205.2.2.2.2.2 (p2_s1205_l.map (fun h => (h.1, h.2.1)) ++ p2_s1205_i) 1766 false p2_s1205_l p2_s1205.1.2.1 p2_s1205.1.2.2 0 (p2_s1205.2.2.1.map some ++ List.replicate (gm_ml 321 - p2_s1205.2.2.1.length) none) [] p2_s1205.2.1 p2_s1205.2.2.2.1 = true := by decide +kernel
theorem p2_s1205_s {X : Int → Int} {LX : Nat} : ck_Ok p2_O X LX 321 p2_s1205 := by
  refine ck_okp_i (cuts := p2_s1205_i) (l := p2_s1205_l) (f := 1766) ⟨p2_nmu, ck_E1 (ck_S1 p2_s176_s ck_S0) (ck_E1 (ck_S1 p2_s829_s (ck_S1 p2_s840_s (ck_S1 p2_s851_s (ck_S1 p2_s862_s (ck_S1 p2_s873_s (ck_S1 p2_s884_s (ck_S1 p2_s895_s (ck_S1 p2_s906_s (ck_S1 p2_s917_s (ck_S1 p2_s928_s (ck_S1 p2_s939_s (ck_S1 p2_s950_s (ck_S1 p2_s961_s (ck_S1 p2_s972_s (ck_S1 p2_s983_s (ck_S1 p2_s994_s (ck_S1 p2_s1005_s (ck_S1 p2_s1016_s (ck_S1 p2_s1027_s (ck_S1 p2_s1038_s (ck_S1 p2_s1049_s (ck_S1 p2_s1060_s (ck_S1 p2_s1071_s (ck_S1 p2_s1082_s ck_S0)))))))))))))))))))))))) (ck_E1 (ck_S1 p2_s1158_s (ck_S1 p2_s1160_s (ck_S1 p2_s1162_s (ck_S1 p2_s1164_s (ck_S1 p2_s1166_s (ck_S1 p2_s1168_s (ck_S1 p2_s1170_s (ck_S1 p2_s1172_s (ck_S1 p2_s1174_s (ck_S1 p2_s1176_s (ck_S1 p2_s1178_s (ck_S1 p2_s1180_s (ck_S1 p2_s1182_s (ck_S1 p2_s1184_s (ck_S1 p2_s1186_s (ck_S1 p2_s1188_s (ck_S1 p2_s1190_s (ck_S1 p2_s1192_s (ck_S1 p2_s1194_s (ck_S1 p2_s1196_s (ck_S1 p2_s1198_s (ck_S1 p2_s1200_s (ck_S1 p2_s1202_s (ck_S1 p2_s1204_s ck_S0)))))))))))))))))))))))) (ck_E1 (ck_S1 p2_s833_s (ck_S1 p2_s844_s (ck_S1 p2_s855_s (ck_S1 p2_s866_s (ck_S1 p2_s877_s (ck_S1 p2_s888_s (ck_S1 p2_s899_s (ck_S1 p2_s910_s (ck_S1 p2_s921_s (ck_S1 p2_s932_s (ck_S1 p2_s943_s (ck_S1 p2_s954_s (ck_S1 p2_s965_s (ck_S1 p2_s976_s (ck_S1 p2_s987_s (ck_S1 p2_s998_s (ck_S1 p2_s1009_s (ck_S1 p2_s1020_s (ck_S1 p2_s1031_s (ck_S1 p2_s1042_s (ck_S1 p2_s1053_s (ck_S1 p2_s1064_s (ck_S1 p2_s1075_s (ck_S1 p2_s1086_s ck_S0)))))))))))))))))))))))) ck_E0)))⟩ p2_s1205_a (fun i hi => ?_) p2_s1205_z
  have hi : i < 25 := hi
  have : i = 0 ∨ i = 1 ∨ i = 2 ∨ i = 3 ∨ i = 4 ∨ i = 5 ∨ i = 6 ∨ i = 7 ∨ i = 8 ∨ i = 9 ∨ i = 10 ∨ i = 11 ∨ i = 12 ∨ i = 13 ∨ i = 14 ∨ i = 15 ∨ i = 16 ∨ i = 17 ∨ i = 18 ∨ i = 19 ∨ i = 20 ∨ i = 21 ∨ i = 22 ∨ i = 23 ∨ i = 24 := by omega
  rcases this with rfl | rfl | rfl | rfl | rfl | rfl | rfl | rfl | rfl | rfl | rfl | rfl | rfl | rfl | rfl | rfl | rfl | rfl | rfl | rfl | rfl | rfl | rfl | rfl | rfl
  · exact p2_s1205_e0
  · exact p2_s1205_e1
  · exact p2_s1205_e2
  · exact p2_s1205_e3
  · exact p2_s1205_e4
  · exact p2_s1205_e5
  · exact p2_s1205_e6
  · exact p2_s1205_e7
  · exact p2_s1205_e8
  · exact p2_s1205_e9
  · exact p2_s1205_e10
  · exact p2_s1205_e11
  · exact p2_s1205_e12
  · exact p2_s1205_e13
  · exact p2_s1205_e14
  · exact p2_s1205_e15
  · exact p2_s1205_e16
  · exact p2_s1205_e17
  · exact p2_s1205_e18
  · exact p2_s1205_e19
  · exact p2_s1205_e20
  · exact p2_s1205_e21
  · exact p2_s1205_e22
  · exact p2_s1205_e23
  · exact p2_s1205_e24
end
/-! 78r80a15c.sf -/
section
/-! EVERY CALL ENDS, whatever was done before (laid by wip/am/p2k.py). -/
set_option maxRecDepth 100000 in
/-- GlacierMailModel.years -/
noncomputable def p2_s1206 : ck_Sum := ((10, 0, 0), 245, [.inr (.inr (.inl 226)), .inl (ck_one 1)], ([], [], zl181), (zl182, []), [(.inr (some (.inl (0, 24, []))), 245, ([], [], [(227, 9, 9, (1, 299, [(1000011, 0)])), (226, 6, 6, (0, 12, [(1000027, 0)])), (226, 0, 0, (0, 1, []))]))])
set_option maxRecDepth 100000 in
theorem p2_s1206_s {X : Int → Int} {LX : Nat} : ck_Ok p2_O X LX 320 p2_s1206 := ck_okq (cuts := []) (f := 150) ⟨p2_nmu, ck_E1 (ck_S1 p2_s1154_s ck_S0) (ck_E1 (ck_S1 p2_s190_s ck_S0) (ck_E1 (ck_S1 p2_s242_s (ck_S1 p2_s241_s ck_S0)) (ck_E1 (ck_S1 p2_s553_s ck_S0) (ck_E1 (ck_S1 p2_s1205_s ck_S0) ck_E0))))⟩ (by decide +kernel)
set_option maxRecDepth 100000 in
/-- GlacierMailModel.in -/
noncomputable def p2_s1207 : ck_Sum := ((0, 0, 0), 245, [.inl (ck_one 2), .inl (ck_one 1), .inl (ck_one 50)], ([], [], []), ([], []), [(.inr (some (.inl (ck_one 1))), 245, ([], [], []))])
set_option maxRecDepth 100000 in
theorem p2_s1207_s {X : Int → Int} {LX : Nat} : ck_Ok p2_O X LX 286 p2_s1207 := ck_okq (cuts := []) (f := 88) ⟨p2_nmu, ck_E0⟩ (by decide +kernel)
set_option maxRecDepth 100000 in
/-- GlacierMailModel.years -/
noncomputable def p2_s1208 : ck_Sum := ((10, 0, 0), 245, [.inr (.inr (.inl 226)), .inl (ck_one 2)], ([], [], zl181), (zl182, []), [(.inr (some (.inl (0, 48, []))), 245, ([], [], [(227, 9, 9, (2, 299, [(1000011, 0)])), (226, 6, 6, (0, 12, [(1000027, 0)])), (226, 0, 0, (0, 1, []))]))])
set_option maxRecDepth 100000 in
theorem p2_s1208_s {X : Int → Int} {LX : Nat} : ck_Ok p2_O X LX 320 p2_s1208 := ck_okq (cuts := []) (f := 170) ⟨p2_nmu, ck_E1 (ck_S1 p2_s1207_s ck_S0) (ck_E1 (ck_S1 p2_s190_s ck_S0) (ck_E1 (ck_S1 p2_s242_s (ck_S1 p2_s241_s ck_S0)) (ck_E1 (ck_S1 p2_s553_s ck_S0) (ck_E1 (ck_S1 p2_s1205_s ck_S0) ck_E0))))⟩ (by decide +kernel)
set_option maxRecDepth 100000 in
/-- GlacierMailModel.in -/
noncomputable def p2_s1209 : ck_Sum := ((0, 0, 0), 245, [.inl (ck_one 3), .inl (ck_one 1), .inl (ck_one 50)], ([], [], []), ([], []), [(.inr (some (.inl (ck_one 1))), 245, ([], [], []))])
set_option maxRecDepth 100000 in
theorem p2_s1209_s {X : Int → Int} {LX : Nat} : ck_Ok p2_O X LX 286 p2_s1209 := ck_okq (cuts := []) (f := 88) ⟨p2_nmu, ck_E0⟩ (by decide +kernel)
set_option maxRecDepth 100000 in
/-- GlacierMailModel.years -/
noncomputable def p2_s1210 : ck_Sum := ((10, 0, 0), 245, [.inr (.inr (.inl 226)), .inl (ck_one 3)], ([], [], zl181), (zl182, []), [(.inr (some (.inl (0, 72, []))), 245, ([], [], [(227, 9, 9, (3, 299, [(1000011, 0)])), (226, 6, 6, (0, 12, [(1000027, 0)])), (226, 0, 0, (0, 1, []))]))])
set_option maxRecDepth 100000 in
theorem p2_s1210_s {X : Int → Int} {LX : Nat} : ck_Ok p2_O X LX 320 p2_s1210 := ck_okq (cuts := []) (f := 190) ⟨p2_nmu, ck_E1 (ck_S1 p2_s1209_s ck_S0) (ck_E1 (ck_S1 p2_s190_s ck_S0) (ck_E1 (ck_S1 p2_s242_s (ck_S1 p2_s241_s ck_S0)) (ck_E1 (ck_S1 p2_s553_s ck_S0) (ck_E1 (ck_S1 p2_s1205_s ck_S0) ck_E0))))⟩ (by decide +kernel)
set_option maxRecDepth 100000 in
/-- GlacierMailModel.in -/
noncomputable def p2_s1211 : ck_Sum := ((0, 0, 0), 245, [.inl (ck_one 4), .inl (ck_one 1), .inl (ck_one 50)], ([], [], []), ([], []), [(.inr (some (.inl (ck_one 1))), 245, ([], [], []))])
set_option maxRecDepth 100000 in
theorem p2_s1211_s {X : Int → Int} {LX : Nat} : ck_Ok p2_O X LX 286 p2_s1211 := ck_okq (cuts := []) (f := 88) ⟨p2_nmu, ck_E0⟩ (by decide +kernel)
set_option maxRecDepth 100000 in
/-- GlacierMailModel.years -/
noncomputable def p2_s1212 : ck_Sum := ((10, 0, 0), 245, [.inr (.inr (.inl 226)), .inl (ck_one 4)], ([], [], zl181), (zl182, []), [(.inr (some (.inl (0, 96, []))), 245, ([], [], [(227, 9, 9, (4, 299, [(1000011, 0)])), (226, 6, 6, (0, 12, [(1000027, 0)])), (226, 0, 0, (0, 1, []))]))])
set_option maxRecDepth 100000 in
theorem p2_s1212_s {X : Int → Int} {LX : Nat} : ck_Ok p2_O X LX 320 p2_s1212 := ck_okq (cuts := []) (f := 210) ⟨p2_nmu, ck_E1 (ck_S1 p2_s1211_s ck_S0) (ck_E1 (ck_S1 p2_s190_s ck_S0) (ck_E1 (ck_S1 p2_s242_s (ck_S1 p2_s241_s ck_S0)) (ck_E1 (ck_S1 p2_s553_s ck_S0) (ck_E1 (ck_S1 p2_s1205_s ck_S0) ck_E0))))⟩ (by decide +kernel)
set_option maxRecDepth 100000 in
/-- GlacierMailModel.in -/
noncomputable def p2_s1213 : ck_Sum := ((0, 0, 0), 245, [.inl (ck_one 5), .inl (ck_one 1), .inl (ck_one 50)], ([], [], []), ([], []), [(.inr (some (.inl (ck_one 1))), 245, ([], [], []))])
set_option maxRecDepth 100000 in
theorem p2_s1213_s {X : Int → Int} {LX : Nat} : ck_Ok p2_O X LX 286 p2_s1213 := ck_okq (cuts := []) (f := 88) ⟨p2_nmu, ck_E0⟩ (by decide +kernel)
set_option maxRecDepth 100000 in
/-- GlacierMailModel.years -/
noncomputable def p2_s1214 : ck_Sum := ((10, 0, 0), 245, [.inr (.inr (.inl 226)), .inl (ck_one 5)], ([], [], zl181), (zl182, []), [(.inr (some (.inl (0, 120, []))), 245, ([], [], [(227, 9, 9, (5, 299, [(1000011, 0)])), (226, 6, 6, (0, 12, [(1000027, 0)])), (226, 0, 0, (0, 1, []))]))])
set_option maxRecDepth 100000 in
theorem p2_s1214_s {X : Int → Int} {LX : Nat} : ck_Ok p2_O X LX 320 p2_s1214 := ck_okq (cuts := []) (f := 230) ⟨p2_nmu, ck_E1 (ck_S1 p2_s1213_s ck_S0) (ck_E1 (ck_S1 p2_s190_s ck_S0) (ck_E1 (ck_S1 p2_s242_s (ck_S1 p2_s241_s ck_S0)) (ck_E1 (ck_S1 p2_s553_s ck_S0) (ck_E1 (ck_S1 p2_s1205_s ck_S0) ck_E0))))⟩ (by decide +kernel)
set_option maxRecDepth 100000 in
/-- GlacierMailModel.in -/
noncomputable def p2_s1215 : ck_Sum := ((0, 0, 0), 245, [.inl (ck_one 6), .inl (ck_one 1), .inl (ck_one 50)], ([], [], []), ([], []), [(.inr (some (.inl (ck_one 1))), 245, ([], [], []))])
set_option maxRecDepth 100000 in
theorem p2_s1215_s {X : Int → Int} {LX : Nat} : ck_Ok p2_O X LX 286 p2_s1215 := ck_okq (cuts := []) (f := 88) ⟨p2_nmu, ck_E0⟩ (by decide +kernel)
set_option maxRecDepth 100000 in
/-- GlacierMailModel.years -/
noncomputable def p2_s1216 : ck_Sum := ((10, 0, 0), 245, [.inr (.inr (.inl 226)), .inl (ck_one 6)], ([], [], zl181), (zl182, []), [(.inr (some (.inl (0, 144, []))), 245, ([], [], [(227, 9, 9, (6, 299, [(1000011, 0)])), (226, 6, 6, (0, 12, [(1000027, 0)])), (226, 0, 0, (0, 1, []))]))])
set_option maxRecDepth 100000 in
theorem p2_s1216_s {X : Int → Int} {LX : Nat} : ck_Ok p2_O X LX 320 p2_s1216 := ck_okq (cuts := []) (f := 250) ⟨p2_nmu, ck_E1 (ck_S1 p2_s1215_s ck_S0) (ck_E1 (ck_S1 p2_s190_s ck_S0) (ck_E1 (ck_S1 p2_s242_s (ck_S1 p2_s241_s ck_S0)) (ck_E1 (ck_S1 p2_s553_s ck_S0) (ck_E1 (ck_S1 p2_s1205_s ck_S0) ck_E0))))⟩ (by decide +kernel)
set_option maxRecDepth 100000 in
/-- GlacierMailModel.in -/
noncomputable def p2_s1217 : ck_Sum := ((0, 0, 0), 245, [.inl (ck_one 7), .inl (ck_one 1), .inl (ck_one 50)], ([], [], []), ([], []), [(.inr (some (.inl (ck_one 1))), 245, ([], [], []))])
set_option maxRecDepth 100000 in
theorem p2_s1217_s {X : Int → Int} {LX : Nat} : ck_Ok p2_O X LX 286 p2_s1217 := ck_okq (cuts := []) (f := 88) ⟨p2_nmu, ck_E0⟩ (by decide +kernel)
set_option maxRecDepth 100000 in
/-- GlacierMailModel.years -/
noncomputable def p2_s1218 : ck_Sum := ((10, 0, 0), 245, [.inr (.inr (.inl 226)), .inl (ck_one 7)], ([], [], zl181), (zl182, []), [(.inr (some (.inl (0, 168, []))), 245, ([], [], [(227, 9, 9, (7, 299, [(1000011, 0)])), (226, 6, 6, (0, 12, [(1000027, 0)])), (226, 0, 0, (0, 1, []))]))])
set_option maxRecDepth 100000 in
theorem p2_s1218_s {X : Int → Int} {LX : Nat} : ck_Ok p2_O X LX 320 p2_s1218 := ck_okq (cuts := []) (f := 270) ⟨p2_nmu, ck_E1 (ck_S1 p2_s1217_s ck_S0) (ck_E1 (ck_S1 p2_s190_s ck_S0) (ck_E1 (ck_S1 p2_s242_s (ck_S1 p2_s241_s ck_S0)) (ck_E1 (ck_S1 p2_s553_s ck_S0) (ck_E1 (ck_S1 p2_s1205_s ck_S0) ck_E0))))⟩ (by decide +kernel)
set_option maxRecDepth 100000 in
/-- GlacierMailModel.in -/
noncomputable def p2_s1219 : ck_Sum := ((0, 0, 0), 245, [.inl (ck_one 8), .inl (ck_one 1), .inl (ck_one 50)], ([], [], []), ([], []), [(.inr (some (.inl (ck_one 1))), 245, ([], [], []))])
set_option maxRecDepth 100000 in
theorem p2_s1219_s {X : Int → Int} {LX : Nat} : ck_Ok p2_O X LX 286 p2_s1219 := ck_okq (cuts := []) (f := 88) ⟨p2_nmu, ck_E0⟩ (by decide +kernel)
set_option maxRecDepth 100000 in
/-- GlacierMailModel.years -/
noncomputable def p2_s1220 : ck_Sum := ((10, 0, 0), 245, [.inr (.inr (.inl 226)), .inl (ck_one 8)], ([], [], zl181), (zl182, []), [(.inr (some (.inl (0, 192, []))), 245, ([], [], [(227, 9, 9, (8, 299, [(1000011, 0)])), (226, 6, 6, (0, 12, [(1000027, 0)])), (226, 0, 0, (0, 1, []))]))])
set_option maxRecDepth 100000 in
theorem p2_s1220_s {X : Int → Int} {LX : Nat} : ck_Ok p2_O X LX 320 p2_s1220 := ck_okq (cuts := []) (f := 290) ⟨p2_nmu, ck_E1 (ck_S1 p2_s1219_s ck_S0) (ck_E1 (ck_S1 p2_s190_s ck_S0) (ck_E1 (ck_S1 p2_s242_s (ck_S1 p2_s241_s ck_S0)) (ck_E1 (ck_S1 p2_s553_s ck_S0) (ck_E1 (ck_S1 p2_s1205_s ck_S0) ck_E0))))⟩ (by decide +kernel)
set_option maxRecDepth 100000 in
/-- GlacierMailModel.in -/
noncomputable def p2_s1221 : ck_Sum := ((0, 0, 0), 245, [.inl (ck_one 9), .inl (ck_one 1), .inl (ck_one 50)], ([], [], []), ([], []), [(.inr (some (.inl (ck_one 1))), 245, ([], [], []))])
set_option maxRecDepth 100000 in
theorem p2_s1221_s {X : Int → Int} {LX : Nat} : ck_Ok p2_O X LX 286 p2_s1221 := ck_okq (cuts := []) (f := 88) ⟨p2_nmu, ck_E0⟩ (by decide +kernel)
set_option maxRecDepth 100000 in
/-- GlacierMailModel.years -/
noncomputable def p2_s1222 : ck_Sum := ((10, 0, 0), 245, [.inr (.inr (.inl 226)), .inl (ck_one 9)], ([], [], zl181), (zl182, []), [(.inr (some (.inl (0, 216, []))), 245, ([], [], [(227, 9, 9, (9, 299, [(1000011, 0)])), (226, 6, 6, (0, 12, [(1000027, 0)])), (226, 0, 0, (0, 1, []))]))])
set_option maxRecDepth 100000 in
theorem p2_s1222_s {X : Int → Int} {LX : Nat} : ck_Ok p2_O X LX 320 p2_s1222 := ck_okq (cuts := []) (f := 310) ⟨p2_nmu, ck_E1 (ck_S1 p2_s1221_s ck_S0) (ck_E1 (ck_S1 p2_s190_s ck_S0) (ck_E1 (ck_S1 p2_s242_s (ck_S1 p2_s241_s ck_S0)) (ck_E1 (ck_S1 p2_s553_s ck_S0) (ck_E1 (ck_S1 p2_s1205_s ck_S0) ck_E0))))⟩ (by decide +kernel)
set_option maxRecDepth 100000 in
/-- GlacierMailModel.in -/
noncomputable def p2_s1223 : ck_Sum := ((0, 0, 0), 245, [.inl (ck_one 10), .inl (ck_one 1), .inl (ck_one 50)], ([], [], []), ([], []), [(.inr (some (.inl (ck_one 1))), 245, ([], [], []))])
set_option maxRecDepth 100000 in
theorem p2_s1223_s {X : Int → Int} {LX : Nat} : ck_Ok p2_O X LX 286 p2_s1223 := ck_okq (cuts := []) (f := 88) ⟨p2_nmu, ck_E0⟩ (by decide +kernel)
set_option maxRecDepth 100000 in
/-- GlacierMailModel.years -/
noncomputable def p2_s1224 : ck_Sum := ((10, 0, 0), 245, [.inr (.inr (.inl 226)), .inl (ck_one 10)], ([], [], zl181), (zl182, []), [(.inr (some (.inl (0, 240, []))), 245, ([], [], [(227, 9, 9, (10, 299, [(1000011, 0)])), (226, 6, 6, (0, 12, [(1000027, 0)])), (226, 0, 0, (0, 1, []))]))])
set_option maxRecDepth 100000 in
theorem p2_s1224_s {X : Int → Int} {LX : Nat} : ck_Ok p2_O X LX 320 p2_s1224 := ck_okq (cuts := []) (f := 330) ⟨p2_nmu, ck_E1 (ck_S1 p2_s1223_s ck_S0) (ck_E1 (ck_S1 p2_s190_s ck_S0) (ck_E1 (ck_S1 p2_s242_s (ck_S1 p2_s241_s ck_S0)) (ck_E1 (ck_S1 p2_s553_s ck_S0) (ck_E1 (ck_S1 p2_s1205_s ck_S0) ck_E0))))⟩ (by decide +kernel)
set_option maxRecDepth 100000 in
/-- GlacierMailModel.in -/
noncomputable def p2_s1225 : ck_Sum := ((0, 0, 0), 245, [.inl (ck_one 11), .inl (ck_one 1), .inl (ck_one 50)], ([], [], []), ([], []), [(.inr (some (.inl (ck_one 1))), 245, ([], [], []))])
set_option maxRecDepth 100000 in
theorem p2_s1225_s {X : Int → Int} {LX : Nat} : ck_Ok p2_O X LX 286 p2_s1225 := ck_okq (cuts := []) (f := 88) ⟨p2_nmu, ck_E0⟩ (by decide +kernel)
end
