/-! 73a00.pg -/
section
/-! THE REFERENCE'S law(): its readers, with counted cells (laid by wip/am/g8.py). -/
set_option maxRecDepth 100000 in
/-- GlacierMailModel.isAt -/
noncomputable def pg_s0 : ck_Sum := ((0, 0, 0), 245, [.inr (.inr (.inl 226)), .inl (ck_one 32), .inl (ck_one 32)], ([], [], [(226, 9, 9, (0, 400, [(1, 0)]))]), ([], []), [(.inr (some (.inl (ck_one 0))), 245, ([], [], [])), (.inr (some (.inl (ck_one 1))), 245, ([], [], [(226, 10, 10, (1, 400, [])), (226, 9, 9, (0, 399, [(1, 0)]))]))])
set_option maxRecDepth 100000 in
theorem pg_s0_s {X : Int → Int} {LX : Nat} : ck_Ok pg_O X LX 246 pg_s0 := ck_ok_s (O := pg_O) (X := X) (LX := LX) (E := []) (mi := 246) (cuts := []) (f := 114) (S := pg_s0) (lx := none) (XF := []) ⟨pg_nmu, ck_E0⟩ ck_X0 ck_l0 (by decide +kernel)
set_option maxRecDepth 100000 in
/-- GlacierMailModel.blanks -/
noncomputable def pg_s1 : ck_Sum := ((1, 0, 0), 245, [.inr (.inr (.inl 226))], ([], [], [(0, 3, 3, ((-400), 400, [(31, 0)])), (0, 4, 4, ((-400), 400, [(32, 0)])), (0, 5, 5, ((-400), 400, [(33, 0)])), (226, 9, 9, (0, 400, [(1, 0)]))]), ([(0, 3, 5), (226, 9, 9), (226, 11, 11)], []), [(.inr none, 245, ([], [], [(0, 5, 5, ((-400), 400, [(1000033, 0)])), (0, 3, 3, ((-400), 400, [(1000033, 0)])), (0, 4, 4, ck_one 0), (226, 11, 11, (0, 400, [(1000001, 0)])), (226, 9, 9, (0, 400, [(1000001, 0)]))]))])
set_option maxRecDepth 100000 in
theorem pg_s1_s {X : Int → Int} {LX : Nat} : ck_Ok pg_O X LX 245 pg_s1 := ck_ok_s (O := pg_O) (X := X) (LX := LX) (E := [(246, [pg_s0])]) (mi := 245) (cuts := [(0, [some (.inr (.inr (.inl 226)))], ([], [], [(0, 3, 3, ((-400), 400, [(31, 0)])), (0, 4, 4, ((-400), 400, [(1000032, 0)])), (0, 5, 5, ((-400), 400, [(1000033, 0)])), (226, 9, 9, (0, 400, [(1000001, 0)]))]), 100, .inr (0, 4), true)]) (f := 142) (S := pg_s1) (lx := none) (XF := []) ⟨pg_nmu, ck_E1 (ck_S1 pg_s0_s ck_S0) ck_E0⟩ ck_X0 ck_l0 (by decide +kernel)
set_option maxRecDepth 100000 in
/-- GlacierMailModel.isAt -/
noncomputable def pg_s2 : ck_Sum := ((0, 0, 0), 245, [.inr (.inr (.inl 226)), .inl (ck_one 97), .inl (ck_one 122)], ([], [], [(226, 9, 9, (0, 400, [(1, 0)]))]), ([], []), [(.inr (some (.inl (ck_one 0))), 245, ([], [], [])), (.inr (some (.inl (ck_one 1))), 245, ([], [], [(226, 10, 10, (1, 400, [])), (226, 9, 9, (0, 399, [(1, 0)]))]))])
set_option maxRecDepth 100000 in
theorem pg_s2_s {X : Int → Int} {LX : Nat} : ck_Ok pg_O X LX 246 pg_s2 := ck_ok_s (O := pg_O) (X := X) (LX := LX) (E := []) (mi := 246) (cuts := []) (f := 114) (S := pg_s2) (lx := none) (XF := []) ⟨pg_nmu, ck_E0⟩ ck_X0 ck_l0 (by decide +kernel)
set_option maxRecDepth 100000 in
/-- GlacierMailModel.letterRow -/
noncomputable def pg_s3 : ck_Sum := ((2, 0, 0), 245, [.inr (.inr (.inl 226))], ([], [], [(0, 3, 3, ((-400), 400, [(31, 0)])), (0, 4, 4, ((-400), 400, [(32, 0)])), (0, 5, 5, ((-400), 400, [(33, 0)])), (226, 9, 9, (0, 400, [(1, 0)]))]), ([(0, 3, 5), (226, 9, 9), (226, 11, 11)], []), [(.inr none, 245, ([], [], [(0, 5, 5, ((-400), 400, [(1000033, 0)])), (226, 11, 11, (0, 400, [(1000001, 0)])), (0, 3, 3, ((-400), 400, [(1000033, 0)])), (0, 4, 4, (0, 400, [])), (226, 9, 9, (0, 400, [(1000001, 0)]))]))])
set_option maxRecDepth 100000 in
theorem pg_s3_s {X : Int → Int} {LX : Nat} : ck_Ok pg_O X LX 248 pg_s3 := ck_ok_s (O := pg_O) (X := X) (LX := LX) (E := [(245, [pg_s1]), (246, [pg_s2])]) (mi := 248) (cuts := [(4, [some (.inr (.inr (.inl 226)))], ([], [], [(0, 5, 5, ((-400), 400, [(1000033, 0)])), (0, 3, 3, ((-400), 400, [(1000033, 0)])), (0, 4, 4, (0, 400, [])), (226, 11, 11, (0, 400, [(1000001, 0)])), (226, 9, 9, (0, 400, [(1000001, 0)]))]), 100, .inr (0, 5), true)]) (f := 142) (S := pg_s3) (lx := none) (XF := []) ⟨pg_nmu, ck_E1 (ck_S1 pg_s1_s ck_S0) (ck_E1 (ck_S1 pg_s2_s ck_S0) ck_E0)⟩ ck_X0 ck_l0 (by decide +kernel)
set_option maxRecDepth 100000 in
/-- GlacierMailModel.isWord -/
noncomputable def pg_s4 : ck_Sum := ((6, 0, 0), 245, [.inr (.inr (.inl 226)), .inr (.inr (.inr 59))], ([], [], [(0, 3, 3, ((-400), 400, [(31, 0)])), (0, 4, 4, ((-400), 400, [(32, 0)])), (0, 5, 5, ((-400), 400, [(33, 0)])), (226, 9, 9, (0, 400, [(1, 0)]))]), ([], []), [(.inr (some (.inl (ck_one 0))), 245, ([], [], [])), (.inr (some (.inl (ck_one 1))), 245, ([], [], [(0, 5, 5, ((-396), 400, [(33, 0), (31, 4)])), (226, 11, 11, (0, 396, [])), (0, 4, 4, (4, 4, [(32, 0)]))]))])
set_option maxRecDepth 100000 in
theorem pg_s4_s {X : Int → Int} {LX : Nat} : ck_Ok pg_O X LX 250 pg_s4 := ck_ok_s (O := pg_O) (X := X) (LX := LX) (E := []) (mi := 250) (cuts := []) (f := 288) (S := pg_s4) (lx := none) (XF := []) ⟨pg_nmu, ck_E0⟩ ck_X0 ck_l0 (by decide +kernel)
set_option maxRecDepth 100000 in
/-- GlacierMailModel.isWord -/
noncomputable def pg_s5 : ck_Sum := ((6, 0, 0), 245, [.inr (.inr (.inl 226)), .inr (.inr (.inr 60))], ([], [], [(0, 3, 3, ((-400), 400, [(31, 0)])), (0, 4, 4, ((-400), 400, [(32, 0)])), (0, 5, 5, ((-400), 400, [(33, 0)])), (226, 9, 9, (0, 400, [(1, 0)]))]), ([], []), [(.inr (some (.inl (ck_one 0))), 245, ([], [], [])), (.inr (some (.inl (ck_one 1))), 245, ([], [], [(0, 5, 5, ((-396), 400, [(33, 0), (31, 4)])), (226, 11, 11, (0, 396, [])), (0, 4, 4, (4, 4, [(32, 0)]))]))])
set_option maxRecDepth 100000 in
theorem pg_s5_s {X : Int → Int} {LX : Nat} : ck_Ok pg_O X LX 250 pg_s5 := ck_ok_s (O := pg_O) (X := X) (LX := LX) (E := []) (mi := 250) (cuts := []) (f := 288) (S := pg_s5) (lx := none) (XF := []) ⟨pg_nmu, ck_E0⟩ ck_X0 ck_l0 (by decide +kernel)
set_option maxRecDepth 100000 in
/-- GlacierMailModel.isWord -/
noncomputable def pg_s6 : ck_Sum := ((6, 0, 0), 245, [.inr (.inr (.inl 226)), .inr (.inr (.inr 61))], ([], [], [(0, 3, 3, ((-400), 400, [(31, 0)])), (0, 4, 4, ((-400), 400, [(32, 0)])), (0, 5, 5, ((-400), 400, [(33, 0)])), (226, 9, 9, (0, 400, [(1, 0)]))]), ([], []), [(.inr (some (.inl (ck_one 0))), 245, ([], [], [])), (.inr (some (.inl (ck_one 1))), 245, ([], [], [(0, 5, 5, ((-396), 400, [(33, 0), (31, 4)])), (226, 11, 11, (0, 396, [])), (0, 4, 4, (4, 4, [(32, 0)]))]))])
set_option maxRecDepth 100000 in
theorem pg_s6_s {X : Int → Int} {LX : Nat} : ck_Ok pg_O X LX 250 pg_s6 := ck_ok_s (O := pg_O) (X := X) (LX := LX) (E := []) (mi := 250) (cuts := []) (f := 288) (S := pg_s6) (lx := none) (XF := []) ⟨pg_nmu, ck_E0⟩ ck_X0 ck_l0 (by decide +kernel)
set_option maxRecDepth 100000 in
/-- GlacierMailModel.isAt -/
noncomputable def pg_s7 : ck_Sum := ((0, 0, 0), 245, [.inr (.inr (.inl 226)), .inl (ck_one 48), .inl (ck_one 57)], ([], [], [(226, 9, 9, (0, 400, [(1, 0)]))]), ([], []), [(.inr (some (.inl (ck_one 0))), 245, ([], [], [])), (.inr (some (.inl (ck_one 1))), 245, ([], [], [(226, 10, 10, (1, 400, [])), (226, 9, 9, (0, 399, [(1, 0)]))]))])
set_option maxRecDepth 100000 in
theorem pg_s7_s {X : Int → Int} {LX : Nat} : ck_Ok pg_O X LX 246 pg_s7 := ck_ok_s (O := pg_O) (X := X) (LX := LX) (E := []) (mi := 246) (cuts := []) (f := 114) (S := pg_s7) (lx := none) (XF := []) ⟨pg_nmu, ck_E0⟩ ck_X0 ck_l0 (by decide +kernel)
set_option maxRecDepth 100000 in
/-- GlacierMailModel.figures -/
noncomputable def pg_s8 : ck_Sum := ((2, 0, 0), 245, [.inr (.inr (.inl 226)), .inl (ck_one 0), .inl (ck_one 20), .inl (ck_one 3)], ([], [], [(0, 3, 3, ((-400), 400, [(31, 0)])), (0, 4, 4, ((-400), 400, [(32, 0)])), (0, 5, 5, ((-400), 400, [(33, 0)])), (226, 9, 9, (0, 400, [(1, 0)]))]), ([(0, 3, 5), (226, 9, 9), (226, 11, 11)], []), [(.inr (some (.inl (ck_one (-1)))), 245, ([], [], [(0, 5, 5, ((-400), 400, [(1000033, 0)])), (226, 11, 11, (0, 400, [(1000001, 0)])), (0, 4, 4, (0, 400, [])), (0, 3, 3, ((-400), 400, [(1000033, 0)])), (226, 9, 9, (0, 400, [(1000001, 0)]))])), (.inr (some (.inl (0, 20, []))), 245, ([], [], [(0, 5, 5, ((-399), 400, [(1000033, 1)])), (226, 11, 11, (0, 399, [(1000001, 0)])), (0, 4, 4, (1, 3, [])), (0, 3, 3, ((-400), 400, [(1000033, 0)])), (226, 9, 9, (0, 400, [(1000001, 0)]))]))])
set_option maxRecDepth 100000 in
theorem pg_s8_s {X : Int → Int} {LX : Nat} : ck_Ok pg_O X LX 256 pg_s8 := ck_ok_s (O := pg_O) (X := X) (LX := LX) (E := [(245, [pg_s1]), (246, [pg_s7])]) (mi := 256) (cuts := [(7, [some (.inr (.inr (.inl 226))), some (.inl (ck_one 0)), some (.inl (ck_one 20)), some (.inl (ck_one 3)), some (.inl ((-2147483648), 2147483647, []))], ([], [], [(0, 5, 5, ((-400), 400, [(1000033, 0)])), (0, 3, 3, ((-400), 400, [(1000033, 0)])), (0, 4, 4, (0, 400, [])), (226, 11, 11, (0, 400, [(1000001, 0)])), (226, 9, 9, (0, 400, [(1000001, 0)]))]), 100, .inr (0, 5), true)]) (f := 222) (S := pg_s8) (lx := none) (XF := []) ⟨pg_nmu, ck_E1 (ck_S1 pg_s1_s ck_S0) (ck_E1 (ck_S1 pg_s7_s ck_S0) ck_E0)⟩ ck_X0 ck_l0 (by decide +kernel)
set_option maxRecDepth 100000 in
/-- GlacierMailModel.isWord -/
noncomputable def pg_s9 : ck_Sum := ((6, 0, 0), 245, [.inr (.inr (.inl 226)), .inr (.inr (.inr 62))], ([], [], [(0, 3, 3, ((-400), 400, [(31, 0)])), (0, 4, 4, ((-400), 400, [(32, 0)])), (0, 5, 5, ((-400), 400, [(33, 0)])), (226, 9, 9, (0, 400, [(1, 0)]))]), ([], []), [(.inr (some (.inl (ck_one 0))), 245, ([], [], [])), (.inr (some (.inl (ck_one 1))), 245, ([], [], [(0, 5, 5, ((-398), 400, [(33, 0), (31, 2)])), (226, 11, 11, (0, 398, [])), (0, 4, 4, (2, 2, [(32, 0)]))]))])
set_option maxRecDepth 100000 in
theorem pg_s9_s {X : Int → Int} {LX : Nat} : ck_Ok pg_O X LX 250 pg_s9 := ck_ok_s (O := pg_O) (X := X) (LX := LX) (E := []) (mi := 250) (cuts := []) (f := 200) (S := pg_s9) (lx := none) (XF := []) ⟨pg_nmu, ck_E0⟩ ck_X0 ck_l0 (by decide +kernel)
set_option maxRecDepth 100000 in
/-- GlacierMailModel.isNext -/
noncomputable def pg_s10 : ck_Sum := ((7, 0, 0), 245, [.inr (.inr (.inl 226)), .inr (.inr (.inr 62))], ([], [], [(0, 3, 3, ((-400), 400, [(31, 0)])), (0, 4, 4, ((-400), 400, [(32, 0)])), (0, 5, 5, ((-400), 400, [(33, 0)])), (226, 9, 9, (0, 400, [(1, 0)]))]), ([(0, 3, 5), (226, 9, 9), (226, 11, 11)], []), [(.inr (some (.inl (ck_one 0))), 245, ([], [], [(0, 5, 5, ((-400), 400, [(1000033, 0)])), (0, 3, 3, ((-400), 400, [(1000033, 0)])), (0, 4, 4, ck_one 0), (226, 9, 9, (0, 400, [(1000001, 0)])), (226, 11, 11, (0, 400, [(1000001, 0)]))])), (.inr (some (.inl (ck_one 1))), 245, ([], [], [(0, 5, 5, ((-398), 400, [(1000033, 2)])), (226, 11, 11, (0, 398, [])), (0, 4, 4, ck_one 2), (0, 3, 3, ((-400), 400, [(1000033, 0)])), (226, 9, 9, (0, 400, [(1000001, 0)]))]))])
set_option maxRecDepth 100000 in
theorem pg_s10_s {X : Int → Int} {LX : Nat} : ck_Ok pg_O X LX 269 pg_s10 := ck_ok_s (O := pg_O) (X := X) (LX := LX) (E := [(248, [pg_s3]), (250, [pg_s9])]) (mi := 269) (cuts := []) (f := 94) (S := pg_s10) (lx := none) (XF := []) ⟨pg_nmu, ck_E1 (ck_S1 pg_s3_s ck_S0) (ck_E1 (ck_S1 pg_s9_s ck_S0) ck_E0)⟩ ck_X0 ck_l0 (by decide +kernel)
set_option maxRecDepth 100000 in
/-- GlacierMailModel.isAt -/
noncomputable def pg_s11 : ck_Sum := ((0, 0, 0), 245, [.inr (.inr (.inl 226)), .inl (ck_one 40), .inl (ck_one 40)], ([], [], [(226, 9, 9, (0, 400, [(1, 0)]))]), ([], []), [(.inr (some (.inl (ck_one 0))), 245, ([], [], [])), (.inr (some (.inl (ck_one 1))), 245, ([], [], [(226, 10, 10, (1, 400, [])), (226, 9, 9, (0, 399, [(1, 0)]))]))])
set_option maxRecDepth 100000 in
theorem pg_s11_s {X : Int → Int} {LX : Nat} : ck_Ok pg_O X LX 246 pg_s11 := ck_ok_s (O := pg_O) (X := X) (LX := LX) (E := []) (mi := 246) (cuts := []) (f := 114) (S := pg_s11) (lx := none) (XF := []) ⟨pg_nmu, ck_E0⟩ ck_X0 ck_l0 (by decide +kernel)
set_option maxRecDepth 100000 in
/-- GlacierMailModel.sign -/
noncomputable def pg_s12 : ck_Sum := ((2, 0, 0), 245, [.inr (.inr (.inl 226)), .inl (ck_one 40)], ([], [], [(0, 3, 3, ((-400), 400, [(31, 0)])), (0, 4, 4, ((-400), 400, [(32, 0)])), (0, 5, 5, ((-400), 400, [(33, 0)])), (226, 9, 9, (0, 400, [(1, 0)]))]), ([(0, 3, 5), (226, 9, 9), (226, 11, 11)], []), [(.inr (some (.inl (ck_one 0))), 245, ([], [], [(0, 5, 5, ((-400), 400, [(1000033, 0)])), (226, 11, 11, (0, 400, [(1000001, 0)])), (0, 3, 3, ((-400), 400, [(1000033, 0)])), (0, 4, 4, ck_one 0), (226, 9, 9, (0, 400, [(1000001, 0)]))])), (.inr (some (.inl (ck_one 1))), 245, ([], [], [(0, 5, 5, ((-399), 400, [(1000033, 1)])), (0, 3, 3, ((-400), 400, [(1000033, 0)])), (0, 4, 4, ck_one 1), (226, 9, 9, (1, 400, [(1000001, 1)])), (226, 11, 11, (0, 399, [(1000001, 0)])), (226, 10, 10, (1, 400, []))]))])
set_option maxRecDepth 100000 in
theorem pg_s12_s {X : Int → Int} {LX : Nat} : ck_Ok pg_O X LX 278 pg_s12 := ck_ok_s (O := pg_O) (X := X) (LX := LX) (E := [(245, [pg_s1]), (246, [pg_s11])]) (mi := 278) (cuts := []) (f := 100) (S := pg_s12) (lx := none) (XF := []) ⟨pg_nmu, ck_E1 (ck_S1 pg_s1_s ck_S0) (ck_E1 (ck_S1 pg_s11_s ck_S0) ck_E0)⟩ ck_X0 ck_l0 (by decide +kernel)
set_option maxRecDepth 100000 in
/-- GlacierMailModel.isAt -/
noncomputable def pg_s13 : ck_Sum := ((0, 0, 0), 245, [.inr (.inr (.inl 226)), .inl (ck_one 60), .inl (ck_one 60)], ([], [], [(226, 9, 9, (0, 400, [(1, 0)]))]), ([], []), [(.inr (some (.inl (ck_one 0))), 245, ([], [], [])), (.inr (some (.inl (ck_one 1))), 245, ([], [], [(226, 10, 10, (1, 400, [])), (226, 9, 9, (0, 399, [(1, 0)]))]))])
set_option maxRecDepth 100000 in
theorem pg_s13_s {X : Int → Int} {LX : Nat} : ck_Ok pg_O X LX 246 pg_s13 := ck_ok_s (O := pg_O) (X := X) (LX := LX) (E := []) (mi := 246) (cuts := []) (f := 114) (S := pg_s13) (lx := none) (XF := []) ⟨pg_nmu, ck_E0⟩ ck_X0 ck_l0 (by decide +kernel)
set_option maxRecDepth 100000 in
/-- GlacierMailModel.sign -/
noncomputable def pg_s14 : ck_Sum := ((2, 0, 0), 245, [.inr (.inr (.inl 226)), .inl (ck_one 60)], ([], [], [(0, 3, 3, ((-400), 400, [(31, 0)])), (0, 4, 4, ((-400), 400, [(32, 0)])), (0, 5, 5, ((-400), 400, [(33, 0)])), (226, 9, 9, (0, 400, [(1, 0)]))]), ([(0, 3, 5), (226, 9, 9), (226, 11, 11)], []), [(.inr (some (.inl (ck_one 0))), 245, ([], [], [(0, 5, 5, ((-400), 400, [(1000033, 0)])), (226, 11, 11, (0, 400, [(1000001, 0)])), (0, 3, 3, ((-400), 400, [(1000033, 0)])), (0, 4, 4, ck_one 0), (226, 9, 9, (0, 400, [(1000001, 0)]))])), (.inr (some (.inl (ck_one 1))), 245, ([], [], [(0, 5, 5, ((-399), 400, [(1000033, 1)])), (0, 3, 3, ((-400), 400, [(1000033, 0)])), (0, 4, 4, ck_one 1), (226, 9, 9, (1, 400, [(1000001, 1)])), (226, 11, 11, (0, 399, [(1000001, 0)])), (226, 10, 10, (1, 400, []))]))])
set_option maxRecDepth 100000 in
theorem pg_s14_s {X : Int → Int} {LX : Nat} : ck_Ok pg_O X LX 278 pg_s14 := ck_ok_s (O := pg_O) (X := X) (LX := LX) (E := [(245, [pg_s1]), (246, [pg_s13])]) (mi := 278) (cuts := []) (f := 100) (S := pg_s14) (lx := none) (XF := []) ⟨pg_nmu, ck_E1 (ck_S1 pg_s1_s ck_S0) (ck_E1 (ck_S1 pg_s13_s ck_S0) ck_E0)⟩ ck_X0 ck_l0 (by decide +kernel)
set_option maxRecDepth 100000 in
/-- GlacierMailModel.isAt -/
noncomputable def pg_s15 : ck_Sum := ((0, 0, 0), 245, [.inr (.inr (.inl 226)), .inl (ck_one 62), .inl (ck_one 62)], ([], [], [(226, 9, 9, (0, 400, [(1, 0)]))]), ([], []), [(.inr (some (.inl (ck_one 0))), 245, ([], [], [])), (.inr (some (.inl (ck_one 1))), 245, ([], [], [(226, 10, 10, (1, 400, [])), (226, 9, 9, (0, 399, [(1, 0)]))]))])
set_option maxRecDepth 100000 in
theorem pg_s15_s {X : Int → Int} {LX : Nat} : ck_Ok pg_O X LX 246 pg_s15 := ck_ok_s (O := pg_O) (X := X) (LX := LX) (E := []) (mi := 246) (cuts := []) (f := 114) (S := pg_s15) (lx := none) (XF := []) ⟨pg_nmu, ck_E0⟩ ck_X0 ck_l0 (by decide +kernel)
set_option maxRecDepth 100000 in
/-- GlacierMailModel.sign -/
noncomputable def pg_s16 : ck_Sum := ((2, 0, 0), 245, [.inr (.inr (.inl 226)), .inl (ck_one 62)], ([], [], [(0, 3, 3, ((-400), 400, [(31, 0)])), (0, 4, 4, ((-400), 400, [(32, 0)])), (0, 5, 5, ((-400), 400, [(33, 0)])), (226, 9, 9, (0, 400, [(1, 0)]))]), ([(0, 3, 5), (226, 9, 9), (226, 11, 11)], []), [(.inr (some (.inl (ck_one 0))), 245, ([], [], [(0, 5, 5, ((-400), 400, [(1000033, 0)])), (226, 11, 11, (0, 400, [(1000001, 0)])), (0, 3, 3, ((-400), 400, [(1000033, 0)])), (0, 4, 4, ck_one 0), (226, 9, 9, (0, 400, [(1000001, 0)]))])), (.inr (some (.inl (ck_one 1))), 245, ([], [], [(0, 5, 5, ((-399), 400, [(1000033, 1)])), (0, 3, 3, ((-400), 400, [(1000033, 0)])), (0, 4, 4, ck_one 1), (226, 9, 9, (1, 400, [(1000001, 1)])), (226, 11, 11, (0, 399, [(1000001, 0)])), (226, 10, 10, (1, 400, []))]))])
set_option maxRecDepth 100000 in
theorem pg_s16_s {X : Int → Int} {LX : Nat} : ck_Ok pg_O X LX 278 pg_s16 := ck_ok_s (O := pg_O) (X := X) (LX := LX) (E := [(245, [pg_s1]), (246, [pg_s15])]) (mi := 278) (cuts := []) (f := 100) (S := pg_s16) (lx := none) (XF := []) ⟨pg_nmu, ck_E1 (ck_S1 pg_s1_s ck_S0) (ck_E1 (ck_S1 pg_s15_s ck_S0) ck_E0)⟩ ck_X0 ck_l0 (by decide +kernel)
set_option maxRecDepth 100000 in
/-- GlacierMailModel.isAt -/
noncomputable def pg_s17 : ck_Sum := ((0, 0, 0), 245, [.inr (.inr (.inl 226)), .inl (ck_one 41), .inl (ck_one 41)], ([], [], [(226, 9, 9, (0, 400, [(1, 0)]))]), ([], []), [(.inr (some (.inl (ck_one 0))), 245, ([], [], [])), (.inr (some (.inl (ck_one 1))), 245, ([], [], [(226, 10, 10, (1, 400, [])), (226, 9, 9, (0, 399, [(1, 0)]))]))])
set_option maxRecDepth 100000 in
theorem pg_s17_s {X : Int → Int} {LX : Nat} : ck_Ok pg_O X LX 246 pg_s17 := ck_ok_s (O := pg_O) (X := X) (LX := LX) (E := []) (mi := 246) (cuts := []) (f := 114) (S := pg_s17) (lx := none) (XF := []) ⟨pg_nmu, ck_E0⟩ ck_X0 ck_l0 (by decide +kernel)
set_option maxRecDepth 100000 in
/-- GlacierMailModel.sign -/
noncomputable def pg_s18 : ck_Sum := ((2, 0, 0), 245, [.inr (.inr (.inl 226)), .inl (ck_one 41)], ([], [], [(0, 3, 3, ((-400), 400, [(31, 0)])), (0, 4, 4, ((-400), 400, [(32, 0)])), (0, 5, 5, ((-400), 400, [(33, 0)])), (226, 9, 9, (0, 400, [(1, 0)]))]), ([(0, 3, 5), (226, 9, 9), (226, 11, 11)], []), [(.inr (some (.inl (ck_one 0))), 245, ([], [], [(0, 5, 5, ((-400), 400, [(1000033, 0)])), (226, 11, 11, (0, 400, [(1000001, 0)])), (0, 3, 3, ((-400), 400, [(1000033, 0)])), (0, 4, 4, ck_one 0), (226, 9, 9, (0, 400, [(1000001, 0)]))])), (.inr (some (.inl (ck_one 1))), 245, ([], [], [(0, 5, 5, ((-399), 400, [(1000033, 1)])), (0, 3, 3, ((-400), 400, [(1000033, 0)])), (0, 4, 4, ck_one 1), (226, 9, 9, (1, 400, [(1000001, 1)])), (226, 11, 11, (0, 399, [(1000001, 0)])), (226, 10, 10, (1, 400, []))]))])
set_option maxRecDepth 100000 in
theorem pg_s18_s {X : Int → Int} {LX : Nat} : ck_Ok pg_O X LX 278 pg_s18 := ck_ok_s (O := pg_O) (X := X) (LX := LX) (E := [(245, [pg_s1]), (246, [pg_s17])]) (mi := 278) (cuts := []) (f := 100) (S := pg_s18) (lx := none) (XF := []) ⟨pg_nmu, ck_E1 (ck_S1 pg_s1_s ck_S0) (ck_E1 (ck_S1 pg_s17_s ck_S0) ck_E0)⟩ ck_X0 ck_l0 (by decide +kernel)
set_option maxRecDepth 100000 in
/-- GlacierMailModel.isWord -/
noncomputable def pg_s19 : ck_Sum := ((6, 0, 0), 245, [.inr (.inr (.inl 226)), .inr (.inr (.inr 63))], ([], [], [(0, 3, 3, ((-400), 400, [(31, 0)])), (0, 4, 4, ((-400), 400, [(32, 0)])), (0, 5, 5, ((-400), 400, [(33, 0)])), (226, 9, 9, (0, 400, [(1, 0)]))]), ([], []), [(.inr (some (.inl (ck_one 0))), 245, ([], [], [])), (.inr (some (.inl (ck_one 1))), 245, ([], [], [(0, 5, 5, ((-397), 400, [(33, 0), (31, 3)])), (226, 11, 11, (0, 397, [])), (0, 4, 4, (3, 3, [(32, 0)]))]))])
set_option maxRecDepth 100000 in
theorem pg_s19_s {X : Int → Int} {LX : Nat} : ck_Ok pg_O X LX 250 pg_s19 := ck_ok_s (O := pg_O) (X := X) (LX := LX) (E := []) (mi := 250) (cuts := []) (f := 244) (S := pg_s19) (lx := none) (XF := []) ⟨pg_nmu, ck_E0⟩ ck_X0 ck_l0 (by decide +kernel)
set_option maxRecDepth 100000 in
/-- GlacierMailModel.isNext -/
noncomputable def pg_s20 : ck_Sum := ((7, 0, 0), 245, [.inr (.inr (.inl 226)), .inr (.inr (.inr 63))], ([], [], [(0, 3, 3, ((-400), 400, [(31, 0)])), (0, 4, 4, ((-400), 400, [(32, 0)])), (0, 5, 5, ((-400), 400, [(33, 0)])), (226, 9, 9, (0, 400, [(1, 0)]))]), ([(0, 3, 5), (226, 9, 9), (226, 11, 11)], []), [(.inr (some (.inl (ck_one 0))), 245, ([], [], [(0, 5, 5, ((-400), 400, [(1000033, 0)])), (0, 3, 3, ((-400), 400, [(1000033, 0)])), (0, 4, 4, ck_one 0), (226, 9, 9, (0, 400, [(1000001, 0)])), (226, 11, 11, (0, 400, [(1000001, 0)]))])), (.inr (some (.inl (ck_one 1))), 245, ([], [], [(0, 5, 5, ((-397), 400, [(1000033, 3)])), (226, 11, 11, (0, 397, [])), (0, 4, 4, ck_one 3), (0, 3, 3, ((-400), 400, [(1000033, 0)])), (226, 9, 9, (0, 400, [(1000001, 0)]))]))])
set_option maxRecDepth 100000 in
theorem pg_s20_s {X : Int → Int} {LX : Nat} : ck_Ok pg_O X LX 269 pg_s20 := ck_ok_s (O := pg_O) (X := X) (LX := LX) (E := [(248, [pg_s3]), (250, [pg_s19])]) (mi := 269) (cuts := []) (f := 94) (S := pg_s20) (lx := none) (XF := []) ⟨pg_nmu, ck_E1 (ck_S1 pg_s3_s ck_S0) (ck_E1 (ck_S1 pg_s19_s ck_S0) ck_E0)⟩ ck_X0 ck_l0 (by decide +kernel)
set_option maxRecDepth 100000 in
/-- GlacierMailModel.isWord -/
noncomputable def pg_s21 : ck_Sum := ((6, 0, 0), 245, [.inr (.inr (.inl 226)), .inr (.inr (.inr 64))], ([], [], [(0, 3, 3, ((-400), 400, [(31, 0)])), (0, 4, 4, ((-400), 400, [(32, 0)])), (0, 5, 5, ((-400), 400, [(33, 0)])), (226, 9, 9, (0, 400, [(1, 0)]))]), ([], []), [(.inr (some (.inl (ck_one 0))), 245, ([], [], [])), (.inr (some (.inl (ck_one 1))), 245, ([], [], [(0, 5, 5, ((-396), 400, [(33, 0), (31, 4)])), (226, 11, 11, (0, 396, [])), (0, 4, 4, (4, 4, [(32, 0)]))]))])
set_option maxRecDepth 100000 in
theorem pg_s21_s {X : Int → Int} {LX : Nat} : ck_Ok pg_O X LX 250 pg_s21 := ck_ok_s (O := pg_O) (X := X) (LX := LX) (E := []) (mi := 250) (cuts := []) (f := 288) (S := pg_s21) (lx := none) (XF := []) ⟨pg_nmu, ck_E0⟩ ck_X0 ck_l0 (by decide +kernel)
set_option maxRecDepth 100000 in
/-- GlacierMailModel.isNext -/
noncomputable def pg_s22 : ck_Sum := ((7, 0, 0), 245, [.inr (.inr (.inl 226)), .inr (.inr (.inr 64))], ([], [], [(0, 3, 3, ((-400), 400, [(31, 0)])), (0, 4, 4, ((-400), 400, [(32, 0)])), (0, 5, 5, ((-400), 400, [(33, 0)])), (226, 9, 9, (0, 400, [(1, 0)]))]), ([(0, 3, 5), (226, 9, 9), (226, 11, 11)], []), [(.inr (some (.inl (ck_one 0))), 245, ([], [], [(0, 5, 5, ((-400), 400, [(1000033, 0)])), (0, 3, 3, ((-400), 400, [(1000033, 0)])), (0, 4, 4, ck_one 0), (226, 9, 9, (0, 400, [(1000001, 0)])), (226, 11, 11, (0, 400, [(1000001, 0)]))])), (.inr (some (.inl (ck_one 1))), 245, ([], [], [(0, 5, 5, ((-396), 400, [(1000033, 4)])), (226, 11, 11, (0, 396, [])), (0, 4, 4, ck_one 4), (0, 3, 3, ((-400), 400, [(1000033, 0)])), (226, 9, 9, (0, 400, [(1000001, 0)]))]))])
set_option maxRecDepth 100000 in
theorem pg_s22_s {X : Int → Int} {LX : Nat} : ck_Ok pg_O X LX 269 pg_s22 := ck_ok_s (O := pg_O) (X := X) (LX := LX) (E := [(248, [pg_s3]), (250, [pg_s21])]) (mi := 269) (cuts := []) (f := 94) (S := pg_s22) (lx := none) (XF := []) ⟨pg_nmu, ck_E1 (ck_S1 pg_s3_s ck_S0) (ck_E1 (ck_S1 pg_s21_s ck_S0) ck_E0)⟩ ck_X0 ck_l0 (by decide +kernel)
set_option maxRecDepth 100000 in
/-- GlacierMailModel.isWord -/
noncomputable def pg_s23 : ck_Sum := ((6, 0, 0), 245, [.inr (.inr (.inl 226)), .inr (.inr (.inr 65))], ([], [], [(0, 3, 3, ((-400), 400, [(31, 0)])), (0, 4, 4, ((-400), 400, [(32, 0)])), (0, 5, 5, ((-400), 400, [(33, 0)])), (226, 9, 9, (0, 400, [(1, 0)]))]), ([], []), [(.inr (some (.inl (ck_one 0))), 245, ([], [], [])), (.inr (some (.inl (ck_one 1))), 245, ([], [], [(0, 5, 5, ((-395), 400, [(33, 0), (31, 5)])), (226, 11, 11, (0, 395, [])), (0, 4, 4, (5, 5, [(32, 0)]))]))])
set_option maxRecDepth 100000 in
theorem pg_s23_s {X : Int → Int} {LX : Nat} : ck_Ok pg_O X LX 250 pg_s23 := ck_ok_s (O := pg_O) (X := X) (LX := LX) (E := []) (mi := 250) (cuts := []) (f := 332) (S := pg_s23) (lx := none) (XF := []) ⟨pg_nmu, ck_E0⟩ ck_X0 ck_l0 (by decide +kernel)
set_option maxRecDepth 100000 in
/-- GlacierMailModel.isNext -/
noncomputable def pg_s24 : ck_Sum := ((7, 0, 0), 245, [.inr (.inr (.inl 226)), .inr (.inr (.inr 65))], ([], [], [(0, 3, 3, ((-400), 400, [(31, 0)])), (0, 4, 4, ((-400), 400, [(32, 0)])), (0, 5, 5, ((-400), 400, [(33, 0)])), (226, 9, 9, (0, 400, [(1, 0)]))]), ([(0, 3, 5), (226, 9, 9), (226, 11, 11)], []), [(.inr (some (.inl (ck_one 0))), 245, ([], [], [(0, 5, 5, ((-400), 400, [(1000033, 0)])), (0, 3, 3, ((-400), 400, [(1000033, 0)])), (0, 4, 4, ck_one 0), (226, 9, 9, (0, 400, [(1000001, 0)])), (226, 11, 11, (0, 400, [(1000001, 0)]))])), (.inr (some (.inl (ck_one 1))), 245, ([], [], [(0, 5, 5, ((-395), 400, [(1000033, 5)])), (226, 11, 11, (0, 395, [])), (0, 4, 4, ck_one 5), (0, 3, 3, ((-400), 400, [(1000033, 0)])), (226, 9, 9, (0, 400, [(1000001, 0)]))]))])
set_option maxRecDepth 100000 in
theorem pg_s24_s {X : Int → Int} {LX : Nat} : ck_Ok pg_O X LX 269 pg_s24 := ck_ok_s (O := pg_O) (X := X) (LX := LX) (E := [(248, [pg_s3]), (250, [pg_s23])]) (mi := 269) (cuts := []) (f := 94) (S := pg_s24) (lx := none) (XF := []) ⟨pg_nmu, ck_E1 (ck_S1 pg_s3_s ck_S0) (ck_E1 (ck_S1 pg_s23_s ck_S0) ck_E0)⟩ ck_X0 ck_l0 (by decide +kernel)
set_option maxRecDepth 100000 in
/-- GlacierMailModel.isWord -/
noncomputable def pg_s25 : ck_Sum := ((6, 0, 0), 245, [.inr (.inr (.inl 226)), .inr (.inr (.inr 66))], ([], [], [(0, 3, 3, ((-400), 400, [(31, 0)])), (0, 4, 4, ((-400), 400, [(32, 0)])), (0, 5, 5, ((-400), 400, [(33, 0)])), (226, 9, 9, (0, 400, [(1, 0)]))]), ([], []), [(.inr (some (.inl (ck_one 0))), 245, ([], [], [])), (.inr (some (.inl (ck_one 1))), 245, ([], [], [(0, 5, 5, ((-396), 400, [(33, 0), (31, 4)])), (226, 11, 11, (0, 396, [])), (0, 4, 4, (4, 4, [(32, 0)]))]))])
set_option maxRecDepth 100000 in
theorem pg_s25_s {X : Int → Int} {LX : Nat} : ck_Ok pg_O X LX 250 pg_s25 := ck_ok_s (O := pg_O) (X := X) (LX := LX) (E := []) (mi := 250) (cuts := []) (f := 288) (S := pg_s25) (lx := none) (XF := []) ⟨pg_nmu, ck_E0⟩ ck_X0 ck_l0 (by decide +kernel)
set_option maxRecDepth 100000 in
/-- GlacierMailModel.isWord -/
noncomputable def pg_s26 : ck_Sum := ((6, 0, 0), 245, [.inr (.inr (.inl 226)), .inr (.inr (.inr 67))], ([], [], [(0, 3, 3, ((-400), 400, [(31, 0)])), (0, 4, 4, ((-400), 400, [(32, 0)])), (0, 5, 5, ((-400), 400, [(33, 0)])), (226, 9, 9, (0, 400, [(1, 0)]))]), ([], []), [(.inr (some (.inl (ck_one 0))), 245, ([], [], [])), (.inr (some (.inl (ck_one 1))), 245, ([], [], [(0, 5, 5, ((-397), 400, [(33, 0), (31, 3)])), (226, 11, 11, (0, 397, [])), (0, 4, 4, (3, 3, [(32, 0)]))]))])
set_option maxRecDepth 100000 in
theorem pg_s26_s {X : Int → Int} {LX : Nat} : ck_Ok pg_O X LX 250 pg_s26 := ck_ok_s (O := pg_O) (X := X) (LX := LX) (E := []) (mi := 250) (cuts := []) (f := 244) (S := pg_s26) (lx := none) (XF := []) ⟨pg_nmu, ck_E0⟩ ck_X0 ck_l0 (by decide +kernel)
set_option maxRecDepth 100000 in
/-- GlacierMailModel.isWord -/
noncomputable def pg_s27 : ck_Sum := ((6, 0, 0), 245, [.inr (.inr (.inl 226)), .inr (.inr (.inr 68))], ([], [], [(0, 3, 3, ((-400), 400, [(31, 0)])), (0, 4, 4, ((-400), 400, [(32, 0)])), (0, 5, 5, ((-400), 400, [(33, 0)])), (226, 9, 9, (0, 400, [(1, 0)]))]), ([], []), [(.inr (some (.inl (ck_one 0))), 245, ([], [], [])), (.inr (some (.inl (ck_one 1))), 245, ([], [], [(0, 5, 5, ((-396), 400, [(33, 0), (31, 4)])), (226, 11, 11, (0, 396, [])), (0, 4, 4, (4, 4, [(32, 0)]))]))])
set_option maxRecDepth 100000 in
theorem pg_s27_s {X : Int → Int} {LX : Nat} : ck_Ok pg_O X LX 250 pg_s27 := ck_ok_s (O := pg_O) (X := X) (LX := LX) (E := []) (mi := 250) (cuts := []) (f := 288) (S := pg_s27) (lx := none) (XF := []) ⟨pg_nmu, ck_E0⟩ ck_X0 ck_l0 (by decide +kernel)
set_option maxRecDepth 100000 in
/-- GlacierMailModel.isWord -/
noncomputable def pg_s28 : ck_Sum := ((6, 0, 0), 245, [.inr (.inr (.inl 226)), .inr (.inr (.inr 69))], ([], [], [(0, 3, 3, ((-400), 400, [(31, 0)])), (0, 4, 4, ((-400), 400, [(32, 0)])), (0, 5, 5, ((-400), 400, [(33, 0)])), (226, 9, 9, (0, 400, [(1, 0)]))]), ([], []), [(.inr (some (.inl (ck_one 0))), 245, ([], [], [])), (.inr (some (.inl (ck_one 1))), 245, ([], [], [(0, 5, 5, ((-396), 400, [(33, 0), (31, 4)])), (226, 11, 11, (0, 396, [])), (0, 4, 4, (4, 4, [(32, 0)]))]))])
set_option maxRecDepth 100000 in
theorem pg_s28_s {X : Int → Int} {LX : Nat} : ck_Ok pg_O X LX 250 pg_s28 := ck_ok_s (O := pg_O) (X := X) (LX := LX) (E := []) (mi := 250) (cuts := []) (f := 288) (S := pg_s28) (lx := none) (XF := []) ⟨pg_nmu, ck_E0⟩ ck_X0 ck_l0 (by decide +kernel)
set_option maxRecDepth 100000 in
/-- GlacierMailModel.isWord -/
noncomputable def pg_s29 : ck_Sum := ((6, 0, 0), 245, [.inr (.inr (.inl 226)), .inr (.inr (.inr 70))], ([], [], [(0, 3, 3, ((-400), 400, [(31, 0)])), (0, 4, 4, ((-400), 400, [(32, 0)])), (0, 5, 5, ((-400), 400, [(33, 0)])), (226, 9, 9, (0, 400, [(1, 0)]))]), ([], []), [(.inr (some (.inl (ck_one 0))), 245, ([], [], [])), (.inr (some (.inl (ck_one 1))), 245, ([], [], [(0, 5, 5, ((-395), 400, [(33, 0), (31, 5)])), (226, 11, 11, (0, 395, [])), (0, 4, 4, (5, 5, [(32, 0)]))]))])
set_option maxRecDepth 100000 in
theorem pg_s29_s {X : Int → Int} {LX : Nat} : ck_Ok pg_O X LX 250 pg_s29 := ck_ok_s (O := pg_O) (X := X) (LX := LX) (E := []) (mi := 250) (cuts := []) (f := 332) (S := pg_s29) (lx := none) (XF := []) ⟨pg_nmu, ck_E0⟩ ck_X0 ck_l0 (by decide +kernel)
set_option maxRecDepth 100000 in
/-- GlacierMailModel.isWord -/
noncomputable def pg_s30 : ck_Sum := ((6, 0, 0), 245, [.inr (.inr (.inl 226)), .inr (.inr (.inr 53))], ([], [], [(0, 3, 3, ((-400), 400, [(31, 0)])), (0, 4, 4, ((-400), 400, [(32, 0)])), (0, 5, 5, ((-400), 400, [(33, 0)])), (226, 9, 9, (0, 400, [(1, 0)]))]), ([], []), [(.inr (some (.inl (ck_one 0))), 245, ([], [], [])), (.inr (some (.inl (ck_one 1))), 245, ([], [], [(0, 5, 5, ((-394), 400, [(33, 0), (31, 6)])), (226, 11, 11, (0, 394, [])), (0, 4, 4, (6, 6, [(32, 0)]))]))])
set_option maxRecDepth 100000 in
theorem pg_s30_s {X : Int → Int} {LX : Nat} : ck_Ok pg_O X LX 250 pg_s30 := ck_ok_s (O := pg_O) (X := X) (LX := LX) (E := []) (mi := 250) (cuts := []) (f := 376) (S := pg_s30) (lx := none) (XF := []) ⟨pg_nmu, ck_E0⟩ ck_X0 ck_l0 (by decide +kernel)
set_option maxRecDepth 100000 in
/-- GlacierMailModel.isWord -/
noncomputable def pg_s31 : ck_Sum := ((6, 0, 0), 245, [.inr (.inr (.inl 226)), .inr (.inr (.inr 71))], ([], [], [(0, 3, 3, ((-400), 400, [(31, 0)])), (0, 4, 4, ((-400), 400, [(32, 0)])), (0, 5, 5, ((-400), 400, [(33, 0)])), (226, 9, 9, (0, 400, [(1, 0)]))]), ([], []), [(.inr (some (.inl (ck_one 0))), 245, ([], [], [])), (.inr (some (.inl (ck_one 1))), 245, ([], [], [(0, 5, 5, ((-397), 400, [(33, 0), (31, 3)])), (226, 11, 11, (0, 397, [])), (0, 4, 4, (3, 3, [(32, 0)]))]))])
set_option maxRecDepth 100000 in
theorem pg_s31_s {X : Int → Int} {LX : Nat} : ck_Ok pg_O X LX 250 pg_s31 := ck_ok_s (O := pg_O) (X := X) (LX := LX) (E := []) (mi := 250) (cuts := []) (f := 244) (S := pg_s31) (lx := none) (XF := []) ⟨pg_nmu, ck_E0⟩ ck_X0 ck_l0 (by decide +kernel)
set_option maxRecDepth 100000 in
/-- GlacierMailModel.isWord -/
noncomputable def pg_s32 : ck_Sum := ((6, 0, 0), 245, [.inr (.inr (.inl 226)), .inr (.inr (.inr 72))], ([], [], [(0, 3, 3, ((-400), 400, [(31, 0)])), (0, 4, 4, ((-400), 400, [(32, 0)])), (0, 5, 5, ((-400), 400, [(33, 0)])), (226, 9, 9, (0, 400, [(1, 0)]))]), ([], []), [(.inr (some (.inl (ck_one 0))), 245, ([], [], [])), (.inr (some (.inl (ck_one 1))), 245, ([], [], [(0, 5, 5, ((-396), 400, [(33, 0), (31, 4)])), (226, 11, 11, (0, 396, [])), (0, 4, 4, (4, 4, [(32, 0)]))]))])
set_option maxRecDepth 100000 in
theorem pg_s32_s {X : Int → Int} {LX : Nat} : ck_Ok pg_O X LX 250 pg_s32 := ck_ok_s (O := pg_O) (X := X) (LX := LX) (E := []) (mi := 250) (cuts := []) (f := 288) (S := pg_s32) (lx := none) (XF := []) ⟨pg_nmu, ck_E0⟩ ck_X0 ck_l0 (by decide +kernel)
set_option maxRecDepth 100000 in
/-- GlacierMailModel.figures -/
noncomputable def pg_s34 : ck_Sum := ((2, 0, 0), 245, [.inr (.inr (.inl 226)), .inl (ck_one 0), .inl (ck_one 999), .inl (ck_one 3)], ([], [], [(0, 3, 3, ((-400), 400, [(31, 0)])), (0, 4, 4, ((-400), 400, [(32, 0)])), (0, 5, 5, ((-400), 400, [(33, 0)])), (226, 9, 9, (0, 400, [(1, 0)]))]), ([(0, 3, 5), (226, 9, 9), (226, 11, 11)], []), [(.inr (some (.inl (ck_one (-1)))), 245, ([], [], [(0, 5, 5, ((-400), 400, [(1000033, 0)])), (226, 11, 11, (0, 400, [(1000001, 0)])), (0, 4, 4, (0, 400, [])), (0, 3, 3, ((-400), 400, [(1000033, 0)])), (226, 9, 9, (0, 400, [(1000001, 0)]))])), (.inr (some (.inl (0, 999, []))), 245, ([], [], [(0, 5, 5, ((-399), 400, [(1000033, 1)])), (226, 11, 11, (0, 399, [(1000001, 0)])), (0, 4, 4, (1, 3, [])), (0, 3, 3, ((-400), 400, [(1000033, 0)])), (226, 9, 9, (0, 400, [(1000001, 0)]))]))])
set_option maxRecDepth 100000 in
theorem pg_s34_s {X : Int → Int} {LX : Nat} : ck_Ok pg_O X LX 256 pg_s34 := ck_ok_s (O := pg_O) (X := X) (LX := LX) (E := [(245, [pg_s1]), (246, [pg_s7])]) (mi := 256) (cuts := [(7, [some (.inr (.inr (.inl 226))), some (.inl (ck_one 0)), some (.inl (ck_one 999)), some (.inl (ck_one 3)), some (.inl ((-2147483648), 2147483647, []))], ([], [], [(0, 5, 5, ((-400), 400, [(1000033, 0)])), (0, 3, 3, ((-400), 400, [(1000033, 0)])), (0, 4, 4, (0, 400, [])), (226, 11, 11, (0, 400, [(1000001, 0)])), (226, 9, 9, (0, 400, [(1000001, 0)]))]), 100, .inr (0, 5), true)]) (f := 222) (S := pg_s34) (lx := none) (XF := []) ⟨pg_nmu, ck_E1 (ck_S1 pg_s1_s ck_S0) (ck_E1 (ck_S1 pg_s7_s ck_S0) ck_E0)⟩ ck_X0 ck_l0 (by decide +kernel)
set_option maxRecDepth 100000 in
/-- GlacierMailModel.readPart -/
noncomputable def pg_s35 : ck_Sum := ((7, 0, 0), 245, [.inr (.inr (.inl 226))], ([], [], [(0, 0, 0, (0, 400, [(30, 0)])), (0, 3, 3, ((-400), 400, [(31, 0)])), (0, 4, 4, ((-400), 400, [(32, 0)])), (0, 5, 5, (1, 400, [(33, 0)])), (226, 9, 9, (0, 400, [(1, 0)]))]), ([(0, 0, 0), (0, 3, 5), (226, 9, 9), (226, 11, 11), (226, 15, 15), (227, 1293, 2092)], []), [(.inr (some (.inl (ck_one 0))), 245, ([], [], [(0, 5, 5, (0, 399, [(1000033, (-1))])), (226, 11, 11, (0, 400, [(1000001, 0)])), (0, 0, 0, (1, 400, [(30, 1)])), (0, 3, 3, (0, 399, [(1000033, (-1))])), (226, 15, 15, (1, 400, [])), (0, 4, 4, (0, 400, [])), (226, 9, 9, (0, 400, [(1000001, 0)]))])), (.inr (some (.inl (ck_one 1))), 245, ([], [], [(0, 5, 5, (1, 399, [(1000033, 0)])), (226, 11, 11, (0, 399, [])), (0, 0, 0, (1, 400, [(30, 1)])), (0, 3, 3, (0, 399, [(1000033, (-1))])), (226, 15, 15, (1, 400, [])), (0, 4, 4, (1, 6, [])), (226, 9, 9, (0, 400, [(1000001, 0)]))]))])
set_option maxRecDepth 100000 in
theorem pg_s35_s {X : Int → Int} {LX : Nat} : ck_Ok pg_O X LX 281 pg_s35 := ck_ok_s (O := pg_O) (X := X) (LX := LX) (E := [(248, [pg_s3]), (250, [pg_s25, pg_s26, pg_s27, pg_s28, pg_s29, pg_s30, pg_s31, pg_s32]), (279, [pg_em0]), (256, [pg_s34])]) (mi := 281) (cuts := []) (f := 172) (S := pg_s35) (lx := none) (XF := []) ⟨pg_nmu, ck_E1 (ck_S1 pg_s3_s ck_S0) (ck_E1 (ck_S1 pg_s25_s (ck_S1 pg_s26_s (ck_S1 pg_s27_s (ck_S1 pg_s28_s (ck_S1 pg_s29_s (ck_S1 pg_s30_s (ck_S1 pg_s31_s (ck_S1 pg_s32_s ck_S0)))))))) (ck_E1 (ck_S1 pg_em0_s ck_S0) (ck_E1 (ck_S1 pg_s34_s ck_S0) ck_E0)))⟩ ck_X0 ck_l0 (by decide +kernel)
set_option maxRecDepth 100000 in
/-- GlacierMailModel.isAt -/
noncomputable def pg_s36 : ck_Sum := ((0, 0, 0), 245, [.inr (.inr (.inl 226)), .inl (ck_one 43), .inl (ck_one 43)], ([], [], [(226, 9, 9, (0, 400, [(1, 0)]))]), ([], []), [(.inr (some (.inl (ck_one 0))), 245, ([], [], [])), (.inr (some (.inl (ck_one 1))), 245, ([], [], [(226, 10, 10, (1, 400, [])), (226, 9, 9, (0, 399, [(1, 0)]))]))])
set_option maxRecDepth 100000 in
theorem pg_s36_s {X : Int → Int} {LX : Nat} : ck_Ok pg_O X LX 246 pg_s36 := ck_ok_s (O := pg_O) (X := X) (LX := LX) (E := []) (mi := 246) (cuts := []) (f := 114) (S := pg_s36) (lx := none) (XF := []) ⟨pg_nmu, ck_E0⟩ ck_X0 ck_l0 (by decide +kernel)
set_option maxRecDepth 100000 in
/-- GlacierMailModel.sign -/
noncomputable def pg_s37 : ck_Sum := ((2, 0, 0), 245, [.inr (.inr (.inl 226)), .inl (ck_one 43)], ([], [], [(0, 3, 3, ((-400), 400, [(31, 0)])), (0, 4, 4, ((-400), 400, [(32, 0)])), (0, 5, 5, ((-400), 400, [(33, 0)])), (226, 9, 9, (0, 400, [(1, 0)]))]), ([(0, 3, 5), (226, 9, 9), (226, 11, 11)], []), [(.inr (some (.inl (ck_one 0))), 245, ([], [], [(0, 5, 5, ((-400), 400, [(1000033, 0)])), (226, 11, 11, (0, 400, [(1000001, 0)])), (0, 3, 3, ((-400), 400, [(1000033, 0)])), (0, 4, 4, ck_one 0), (226, 9, 9, (0, 400, [(1000001, 0)]))])), (.inr (some (.inl (ck_one 1))), 245, ([], [], [(0, 5, 5, ((-399), 400, [(1000033, 1)])), (0, 3, 3, ((-400), 400, [(1000033, 0)])), (0, 4, 4, ck_one 1), (226, 9, 9, (1, 400, [(1000001, 1)])), (226, 11, 11, (0, 399, [(1000001, 0)])), (226, 10, 10, (1, 400, []))]))])
set_option maxRecDepth 100000 in
theorem pg_s37_s {X : Int → Int} {LX : Nat} : ck_Ok pg_O X LX 278 pg_s37 := ck_ok_s (O := pg_O) (X := X) (LX := LX) (E := [(245, [pg_s1]), (246, [pg_s36])]) (mi := 278) (cuts := []) (f := 100) (S := pg_s37) (lx := none) (XF := []) ⟨pg_nmu, ck_E1 (ck_S1 pg_s1_s ck_S0) (ck_E1 (ck_S1 pg_s36_s ck_S0) ck_E0)⟩ ck_X0 ck_l0 (by decide +kernel)
set_option maxRecDepth 100000 in
/-- GlacierMailModel.readSum -/
noncomputable def pg_s39 : ck_Sum := ((8, 0, 0), 245, [.inr (.inr (.inl 226))], ([], [], [(0, 0, 0, (0, 400, [(30, 0)])), (0, 3, 3, ((-400), 400, [(31, 0)])), (0, 4, 4, ((-400), 400, [(32, 0)])), (0, 5, 5, (1, 400, [(33, 0)])), (226, 9, 9, (0, 400, [(1, 0)])), (226, 15, 15, (0, 400, [(2, 0)]))]), ([(0, 0, 0), (0, 3, 5), (226, 9, 9), (226, 11, 11), (226, 15, 15), (227, 1293, 2092)], []), [(.inr (some (.inl (ck_one 0))), 245, ([], [], [(0, 5, 5, (0, 399, [(1000033, (-1))])), (226, 11, 11, (0, 400, [(1000001, 0)])), (0, 0, 0, (1, 400, [(1000030, 1)])), (0, 3, 3, (0, 399, [(1000033, (-1))])), (226, 15, 15, (1, 400, [])), (0, 4, 4, (0, 400, [])), (226, 9, 9, (0, 400, [(1000001, 0)]))])), (.inr (some (.inl (ck_one 1))), 245, ([], [], [(0, 5, 5, (1, 400, [(1000033, 0)])), (226, 11, 11, (0, 400, [(1000001, 0)])), (0, 3, 3, (1, 400, [(1000033, 0)])), (0, 4, 4, ck_one 0), (226, 9, 9, (0, 400, [(1000001, 0)])), (0, 0, 0, (1, 400, [(30, 1)])), (226, 15, 15, (1, 400, []))]))])
set_option maxRecDepth 100000 in
theorem pg_s39_s {X : Int → Int} {LX : Nat} : ck_Ok pg_O X LX 280 pg_s39 := ck_ok_s (O := pg_O) (X := X) (LX := LX) (E := [(281, [pg_s35]), (278, [pg_s37]), (279, [pg_em1])]) (mi := 280) (cuts := [(9, [some (.inr (.inr (.inl 226)))], ([], [], [(0, 5, 5, (1, 399, [(1000033, 0)])), (226, 11, 11, (0, 399, [])), (0, 0, 0, (1, 400, [(30, 1)])), (0, 3, 3, (0, 399, [(1000033, (-1))])), (226, 15, 15, (1, 400, [])), (0, 4, 4, (1, 6, [])), (226, 9, 9, (0, 400, [(1000001, 0)]))]), 100, .inr (226, 9), true)]) (f := 142) (S := pg_s39) (lx := none) (XF := []) ⟨pg_nmu, ck_E1 (ck_S1 pg_s35_s ck_S0) (ck_E1 (ck_S1 pg_s37_s ck_S0) (ck_E1 (ck_S1 pg_em1_s ck_S0) ck_E0))⟩ ck_X0 ck_l0 (by decide +kernel)
set_option maxRecDepth 100000 in
/-- GlacierMailModel.readAtom -/
noncomputable def pg_s41 : ck_Sum := ((9, 0, 0), 245, [.inr (.inr (.inl 226))], ([], [], [(226, 12, 12, ck_one 6), (0, 0, 0, (0, 400, [(30, 0)])), (0, 3, 3, ((-400), 400, [(31, 0)])), (0, 4, 4, ((-400), 400, [(32, 0)])), (0, 5, 5, (1, 400, [(33, 0)])), (226, 9, 9, (0, 400, [(1, 0)])), (226, 15, 15, (0, 400, [(2, 0)]))]), ([(0, 0, 0), (0, 3, 5), (226, 9, 9), (226, 11, 11), (226, 15, 15), (227, 1293, 2092)], []), [(.inr (some (.inl (ck_one 0))), 245, ([], [], [(0, 5, 5, (0, 400, [(1000033, (-1))])), (0, 0, 0, (0, 400, [(1000030, 0)])), (0, 3, 3, (0, 400, [(1000033, (-1))])), (0, 4, 4, (0, 400, [])), (226, 9, 9, (0, 400, [(1000001, 0)]))])), (.inr (some (.inl (ck_one 1))), 245, ([], [], [(0, 0, 0, (1, 400, [(30, 1)])), (0, 3, 3, (0, 399, [(1000033, (-1))])), (0, 5, 5, (1, 399, [(1000033, 0)])), (226, 15, 15, (1, 400, [])), (0, 4, 4, (0, 5, [])), (226, 9, 9, (0, 400, [(1000001, 0)]))]))])
set_option maxRecDepth 100000 in
theorem pg_s41_s {X : Int → Int} {LX : Nat} : ck_Ok pg_O X LX 277 pg_s41 := ck_ok_s (O := pg_O) (X := X) (LX := LX) (E := [(278, [pg_s12, pg_s14, pg_s16]), (269, [pg_s20, pg_s22, pg_s24]), (280, [pg_s39]), (279, [pg_em1, pg_em0])]) (mi := 277) (cuts := []) (f := 154) (S := pg_s41) (lx := none) (XF := []) ⟨pg_nmu, ck_E1 (ck_S1 pg_s12_s (ck_S1 pg_s14_s (ck_S1 pg_s16_s ck_S0))) (ck_E1 (ck_S1 pg_s20_s (ck_S1 pg_s22_s (ck_S1 pg_s24_s ck_S0))) (ck_E1 (ck_S1 pg_s39_s ck_S0) (ck_E1 (ck_S1 pg_em1_s (ck_S1 pg_em0_s ck_S0)) ck_E0)))⟩ ck_X0 ck_l0 (by decide +kernel)
set_option maxRecDepth 100000 in
/-- GlacierMailModel.isWord -/
noncomputable def pg_s42 : ck_Sum := ((6, 0, 0), 245, [.inr (.inr (.inl 226)), .inr (.inr (.inr 73))], ([], [], [(0, 3, 3, ((-400), 400, [(31, 0)])), (0, 4, 4, ((-400), 400, [(32, 0)])), (0, 5, 5, ((-400), 400, [(33, 0)])), (226, 9, 9, (0, 400, [(1, 0)]))]), ([], []), [(.inr (some (.inl (ck_one 0))), 245, ([], [], [])), (.inr (some (.inl (ck_one 1))), 245, ([], [], [(0, 5, 5, ((-397), 400, [(33, 0), (31, 3)])), (226, 11, 11, (0, 397, [])), (0, 4, 4, (3, 3, [(32, 0)]))]))])
set_option maxRecDepth 100000 in
theorem pg_s42_s {X : Int → Int} {LX : Nat} : ck_Ok pg_O X LX 250 pg_s42 := ck_ok_s (O := pg_O) (X := X) (LX := LX) (E := []) (mi := 250) (cuts := []) (f := 244) (S := pg_s42) (lx := none) (XF := []) ⟨pg_nmu, ck_E0⟩ ck_X0 ck_l0 (by decide +kernel)
set_option maxRecDepth 100000 in
/-- GlacierMailModel.isNext -/
noncomputable def pg_s43 : ck_Sum := ((7, 0, 0), 245, [.inr (.inr (.inl 226)), .inr (.inr (.inr 73))], ([], [], [(0, 3, 3, ((-400), 400, [(31, 0)])), (0, 4, 4, ((-400), 400, [(32, 0)])), (0, 5, 5, ((-400), 400, [(33, 0)])), (226, 9, 9, (0, 400, [(1, 0)]))]), ([(0, 3, 5), (226, 9, 9), (226, 11, 11)], []), [(.inr (some (.inl (ck_one 0))), 245, ([], [], [(0, 5, 5, ((-400), 400, [(1000033, 0)])), (0, 3, 3, ((-400), 400, [(1000033, 0)])), (0, 4, 4, ck_one 0), (226, 9, 9, (0, 400, [(1000001, 0)])), (226, 11, 11, (0, 400, [(1000001, 0)]))])), (.inr (some (.inl (ck_one 1))), 245, ([], [], [(0, 5, 5, ((-397), 400, [(1000033, 3)])), (226, 11, 11, (0, 397, [])), (0, 4, 4, ck_one 3), (0, 3, 3, ((-400), 400, [(1000033, 0)])), (226, 9, 9, (0, 400, [(1000001, 0)]))]))])
set_option maxRecDepth 100000 in
theorem pg_s43_s {X : Int → Int} {LX : Nat} : ck_Ok pg_O X LX 269 pg_s43 := ck_ok_s (O := pg_O) (X := X) (LX := LX) (E := [(248, [pg_s3]), (250, [pg_s42])]) (mi := 269) (cuts := []) (f := 94) (S := pg_s43) (lx := none) (XF := []) ⟨pg_nmu, ck_E1 (ck_S1 pg_s3_s ck_S0) (ck_E1 (ck_S1 pg_s42_s ck_S0) ck_E0)⟩ ck_X0 ck_l0 (by decide +kernel)
set_option maxRecDepth 100000 in
/-- GlacierMailModel.readAllOf -/
noncomputable def pg_s45 : ck_Sum := ((10, 0, 0), 245, [.inr (.inr (.inl 226))], ([], [], [(226, 12, 12, ck_one 6), (0, 0, 0, (0, 400, [(30, 0)])), (0, 3, 3, ((-400), 400, [(31, 0)])), (0, 4, 4, ((-400), 400, [(32, 0)])), (0, 5, 5, (1, 400, [(33, 0)])), (226, 9, 9, (0, 400, [(1, 0)])), (226, 15, 15, (0, 400, [(2, 0)]))]), ([(0, 0, 0), (0, 3, 5), (226, 9, 9), (226, 11, 11), (226, 15, 15), (227, 1293, 2092)], []), [(.inr (some (.inl (ck_one 0))), 245, ([], [], [(0, 5, 5, (0, 400, [(1000033, (-1))])), (0, 0, 0, (0, 400, [(1000030, 0)])), (0, 3, 3, (0, 400, [(1000033, (-1))])), (0, 4, 4, (0, 400, [])), (226, 9, 9, (0, 400, [(1000001, 0)]))])), (.inr (some (.inl (ck_one 1))), 245, ([], [], [(0, 5, 5, (1, 400, [(1000033, 0)])), (226, 11, 11, (0, 400, [(1000001, 0)])), (0, 3, 3, (1, 400, [(1000033, 0)])), (0, 4, 4, ck_one 0), (226, 9, 9, (0, 400, [(1000001, 0)])), (0, 0, 0, (1, 400, [(30, 1)])), (226, 15, 15, (1, 400, []))]))])
set_option maxRecDepth 100000 in
theorem pg_s45_s {X : Int → Int} {LX : Nat} : ck_Ok pg_O X LX 276 pg_s45 := ck_ok_s (O := pg_O) (X := X) (LX := LX) (E := [(277, [pg_s41]), (269, [pg_s43]), (279, [pg_em3])]) (mi := 276) (cuts := [(9, [some (.inr (.inr (.inl 226)))], ([], [], [(0, 5, 5, (1, 399, [(1000033, 0)])), (226, 11, 11, (0, 400, [])), (0, 0, 0, (1, 400, [(30, 1)])), (0, 3, 3, (0, 399, [(1000033, (-1))])), (226, 15, 15, (1, 400, [])), (0, 4, 4, (0, 5, [])), (226, 9, 9, (0, 400, [(1000001, 0)])), (226, 12, 12, ck_one 6)]), 100, .inr (0, 5), true)]) (f := 142) (S := pg_s45) (lx := none) (XF := []) ⟨pg_nmu, ck_E1 (ck_S1 pg_s41_s ck_S0) (ck_E1 (ck_S1 pg_s43_s ck_S0) (ck_E1 (ck_S1 pg_em3_s ck_S0) ck_E0))⟩ ck_X0 ck_l0 (by decide +kernel)
set_option maxRecDepth 100000 in
/-- GlacierMailModel.isWord -/
noncomputable def pg_s46 : ck_Sum := ((6, 0, 0), 245, [.inr (.inr (.inl 226)), .inr (.inr (.inr 74))], ([], [], [(0, 3, 3, ((-400), 400, [(31, 0)])), (0, 4, 4, ((-400), 400, [(32, 0)])), (0, 5, 5, ((-400), 400, [(33, 0)])), (226, 9, 9, (0, 400, [(1, 0)]))]), ([], []), [(.inr (some (.inl (ck_one 0))), 245, ([], [], [])), (.inr (some (.inl (ck_one 1))), 245, ([], [], [(0, 5, 5, ((-398), 400, [(33, 0), (31, 2)])), (226, 11, 11, (0, 398, [])), (0, 4, 4, (2, 2, [(32, 0)]))]))])
set_option maxRecDepth 100000 in
theorem pg_s46_s {X : Int → Int} {LX : Nat} : ck_Ok pg_O X LX 250 pg_s46 := ck_ok_s (O := pg_O) (X := X) (LX := LX) (E := []) (mi := 250) (cuts := []) (f := 200) (S := pg_s46) (lx := none) (XF := []) ⟨pg_nmu, ck_E0⟩ ck_X0 ck_l0 (by decide +kernel)
set_option maxRecDepth 100000 in
/-- GlacierMailModel.isNext -/
noncomputable def pg_s47 : ck_Sum := ((7, 0, 0), 245, [.inr (.inr (.inl 226)), .inr (.inr (.inr 74))], ([], [], [(0, 3, 3, ((-400), 400, [(31, 0)])), (0, 4, 4, ((-400), 400, [(32, 0)])), (0, 5, 5, ((-400), 400, [(33, 0)])), (226, 9, 9, (0, 400, [(1, 0)]))]), ([(0, 3, 5), (226, 9, 9), (226, 11, 11)], []), [(.inr (some (.inl (ck_one 0))), 245, ([], [], [(0, 5, 5, ((-400), 400, [(1000033, 0)])), (0, 3, 3, ((-400), 400, [(1000033, 0)])), (0, 4, 4, ck_one 0), (226, 9, 9, (0, 400, [(1000001, 0)])), (226, 11, 11, (0, 400, [(1000001, 0)]))])), (.inr (some (.inl (ck_one 1))), 245, ([], [], [(0, 5, 5, ((-398), 400, [(1000033, 2)])), (226, 11, 11, (0, 398, [])), (0, 4, 4, ck_one 2), (0, 3, 3, ((-400), 400, [(1000033, 0)])), (226, 9, 9, (0, 400, [(1000001, 0)]))]))])
set_option maxRecDepth 100000 in
theorem pg_s47_s {X : Int → Int} {LX : Nat} : ck_Ok pg_O X LX 269 pg_s47 := ck_ok_s (O := pg_O) (X := X) (LX := LX) (E := [(248, [pg_s3]), (250, [pg_s46])]) (mi := 269) (cuts := []) (f := 94) (S := pg_s47) (lx := none) (XF := []) ⟨pg_nmu, ck_E1 (ck_S1 pg_s3_s ck_S0) (ck_E1 (ck_S1 pg_s46_s ck_S0) ck_E0)⟩ ck_X0 ck_l0 (by decide +kernel)
set_option maxRecDepth 100000 in
/-- GlacierMailModel.readCond -/
noncomputable def pg_s48 : ck_Sum := ((11, 0, 0), 245, [.inr (.inr (.inl 226))], ([], [], [(226, 12, 12, ck_one 6), (0, 0, 0, (0, 400, [(30, 0)])), (0, 3, 3, ((-400), 400, [(31, 0)])), (0, 4, 4, ((-400), 400, [(32, 0)])), (0, 5, 5, (1, 400, [(33, 0)])), (226, 9, 9, (0, 400, [(1, 0)])), (226, 15, 15, (0, 400, [(2, 0)]))]), ([(0, 0, 0), (0, 3, 5), (226, 9, 9), (226, 11, 11), (226, 15, 15), (227, 1293, 2092)], []), [(.inr (some (.inl (ck_one 0))), 245, ([], [], [(0, 5, 5, (0, 400, [(1000033, (-1))])), (0, 0, 0, (0, 400, [(1000030, 0)])), (0, 3, 3, (0, 400, [(1000033, (-1))])), (0, 4, 4, (0, 400, [])), (226, 9, 9, (0, 400, [(1000001, 0)]))])), (.inr (some (.inl (ck_one 1))), 245, ([], [], [(0, 5, 5, (1, 400, [(1000033, 0)])), (226, 11, 11, (0, 400, [(1000001, 0)])), (0, 3, 3, (1, 400, [(1000033, 0)])), (0, 4, 4, ck_one 0), (226, 9, 9, (0, 400, [(1000001, 0)])), (0, 0, 0, (1, 400, [(30, 1)])), (226, 15, 15, (1, 400, []))]))])
set_option maxRecDepth 100000 in
theorem pg_s48_s {X : Int → Int} {LX : Nat} : ck_Ok pg_O X LX 275 pg_s48 := ck_ok_s (O := pg_O) (X := X) (LX := LX) (E := [(276, [pg_s45]), (269, [pg_s47]), (279, [pg_em3])]) (mi := 275) (cuts := [(9, [some (.inr (.inr (.inl 226)))], ([], [], [(0, 5, 5, (1, 400, [(1000033, 0)])), (226, 11, 11, (0, 400, [(1000001, 0)])), (0, 3, 3, (1, 400, [(1000033, 0)])), (0, 4, 4, ck_one 0), (226, 9, 9, (0, 400, [(1000001, 0)])), (0, 0, 0, (1, 400, [(30, 1)])), (226, 15, 15, (1, 400, [])), (226, 12, 12, ck_one 6)]), 100, .inr (0, 5), true)]) (f := 142) (S := pg_s48) (lx := none) (XF := []) ⟨pg_nmu, ck_E1 (ck_S1 pg_s45_s ck_S0) (ck_E1 (ck_S1 pg_s47_s ck_S0) (ck_E1 (ck_S1 pg_em3_s ck_S0) ck_E0))⟩ ck_X0 ck_l0 (by decide +kernel)
set_option maxRecDepth 100000 in
/-- GlacierMailModel.readAtom -/
noncomputable def pg_s49 : ck_Sum := ((12, 0, 0), 245, [.inr (.inr (.inl 226))], ([], [], [(226, 12, 12, ck_one 5), (0, 0, 0, (0, 400, [(30, 0)])), (0, 3, 3, ((-400), 400, [(31, 0)])), (0, 4, 4, ((-400), 400, [(32, 0)])), (0, 5, 5, (1, 400, [(33, 0)])), (226, 9, 9, (0, 400, [(1, 0)])), (226, 15, 15, (0, 400, [(2, 0)]))]), ([(0, 0, 0), (0, 3, 5), (226, 9, 9), (226, 11, 12), (226, 15, 15), (227, 1293, 2092)], []), [(.inr (some (.inl (ck_one 0))), 245, ([], [], [(0, 5, 5, (0, 400, [(1000033, (-1))])), (0, 0, 0, (0, 400, [(1000030, 0)])), (0, 3, 3, (0, 400, [(1000033, (-1))])), (0, 4, 4, (0, 400, [])), (226, 9, 9, (0, 400, [(1000001, 0)])), (226, 12, 12, (5, 6, []))])), (.inr (some (.inl (ck_one 1))), 245, ([], [], [(0, 0, 0, (1, 400, [(30, 1)])), (0, 3, 3, (0, 400, [(1000033, (-1))])), (0, 5, 5, (1, 400, [(1000033, 0)])), (226, 15, 15, (1, 400, [])), (0, 4, 4, (0, 5, [])), (226, 9, 9, (0, 400, [(1000001, 0)])), (226, 12, 12, ck_one 5)]))])
set_option maxRecDepth 100000 in
theorem pg_s49_s {X : Int → Int} {LX : Nat} : ck_Ok pg_O X LX 277 pg_s49 := ck_ok_s (O := pg_O) (X := X) (LX := LX) (E := [(278, [pg_s12, pg_s14, pg_s16, pg_s18]), (269, [pg_s20, pg_s22, pg_s24]), (280, [pg_s39]), (279, [pg_em1, pg_em0, pg_em2]), (277, [pg_s41]), (275, [pg_s48])]) (mi := 277) (cuts := []) (f := 154) (S := pg_s49) (lx := none) (XF := []) ⟨pg_nmu, ck_E1 (ck_S1 pg_s12_s (ck_S1 pg_s14_s (ck_S1 pg_s16_s (ck_S1 pg_s18_s ck_S0)))) (ck_E1 (ck_S1 pg_s20_s (ck_S1 pg_s22_s (ck_S1 pg_s24_s ck_S0))) (ck_E1 (ck_S1 pg_s39_s ck_S0) (ck_E1 (ck_S1 pg_em1_s (ck_S1 pg_em0_s (ck_S1 pg_em2_s ck_S0))) (ck_E1 (ck_S1 pg_s41_s ck_S0) (ck_E1 (ck_S1 pg_s48_s ck_S0) ck_E0)))))⟩ ck_X0 ck_l0 (by decide +kernel)
set_option maxRecDepth 100000 in
/-- GlacierMailModel.readAllOf -/
noncomputable def pg_s50 : ck_Sum := ((13, 0, 0), 245, [.inr (.inr (.inl 226))], ([], [], [(226, 12, 12, ck_one 5), (0, 0, 0, (0, 400, [(30, 0)])), (0, 3, 3, ((-400), 400, [(31, 0)])), (0, 4, 4, ((-400), 400, [(32, 0)])), (0, 5, 5, (1, 400, [(33, 0)])), (226, 9, 9, (0, 400, [(1, 0)])), (226, 15, 15, (0, 400, [(2, 0)]))]), ([(0, 0, 0), (0, 3, 5), (226, 9, 9), (226, 11, 12), (226, 15, 15), (227, 1293, 2092)], []), [(.inr (some (.inl (ck_one 0))), 245, ([], [], [(0, 5, 5, (0, 400, [(1000033, (-1))])), (0, 0, 0, (0, 400, [(1000030, 0)])), (0, 3, 3, (0, 400, [(1000033, (-1))])), (0, 4, 4, (0, 400, [])), (226, 9, 9, (0, 400, [(1000001, 0)])), (226, 12, 12, (5, 6, []))])), (.inr (some (.inl (ck_one 1))), 245, ([], [], [(0, 5, 5, (1, 400, [(1000033, 0)])), (226, 11, 11, (0, 400, [(1000001, 0)])), (0, 3, 3, (1, 400, [(1000033, 0)])), (0, 4, 4, ck_one 0), (226, 9, 9, (0, 400, [(1000001, 0)])), (0, 0, 0, (1, 400, [(30, 1)])), (226, 15, 15, (1, 400, [])), (226, 12, 12, ck_one 5)]))])
set_option maxRecDepth 100000 in
theorem pg_s50_s {X : Int → Int} {LX : Nat} : ck_Ok pg_O X LX 276 pg_s50 := ck_ok_s (O := pg_O) (X := X) (LX := LX) (E := [(277, [pg_s49]), (269, [pg_s43]), (279, [pg_em3])]) (mi := 276) (cuts := [(9, [some (.inr (.inr (.inl 226)))], ([], [], [(0, 5, 5, (1, 400, [(1000033, 0)])), (226, 11, 11, (0, 400, [])), (0, 0, 0, (1, 400, [(30, 1)])), (0, 3, 3, (0, 400, [(1000033, (-1))])), (226, 15, 15, (1, 400, [])), (0, 4, 4, (0, 5, [])), (226, 9, 9, (0, 400, [(1000001, 0)])), (226, 12, 12, ck_one 5)]), 100, .inr (0, 5), true)]) (f := 142) (S := pg_s50) (lx := none) (XF := []) ⟨pg_nmu, ck_E1 (ck_S1 pg_s49_s ck_S0) (ck_E1 (ck_S1 pg_s43_s ck_S0) (ck_E1 (ck_S1 pg_em3_s ck_S0) ck_E0))⟩ ck_X0 ck_l0 (by decide +kernel)
set_option maxRecDepth 100000 in
/-- GlacierMailModel.readCond -/
noncomputable def pg_s51 : ck_Sum := ((14, 0, 0), 245, [.inr (.inr (.inl 226))], ([], [], [(226, 12, 12, ck_one 5), (0, 0, 0, (0, 400, [(30, 0)])), (0, 3, 3, ((-400), 400, [(31, 0)])), (0, 4, 4, ((-400), 400, [(32, 0)])), (0, 5, 5, (1, 400, [(33, 0)])), (226, 9, 9, (0, 400, [(1, 0)])), (226, 15, 15, (0, 400, [(2, 0)]))]), ([(0, 0, 0), (0, 3, 5), (226, 9, 9), (226, 11, 12), (226, 15, 15), (227, 1293, 2092)], []), [(.inr (some (.inl (ck_one 0))), 245, ([], [], [(0, 5, 5, (0, 400, [(1000033, (-1))])), (0, 0, 0, (0, 400, [(1000030, 0)])), (0, 3, 3, (0, 400, [(1000033, (-1))])), (0, 4, 4, (0, 400, [])), (226, 9, 9, (0, 400, [(1000001, 0)])), (226, 12, 12, (5, 6, []))])), (.inr (some (.inl (ck_one 1))), 245, ([], [], [(0, 5, 5, (1, 400, [(1000033, 0)])), (226, 11, 11, (0, 400, [(1000001, 0)])), (0, 3, 3, (1, 400, [(1000033, 0)])), (0, 4, 4, ck_one 0), (226, 9, 9, (0, 400, [(1000001, 0)])), (0, 0, 0, (1, 400, [(30, 1)])), (226, 15, 15, (1, 400, [])), (226, 12, 12, ck_one 5)]))])
set_option maxRecDepth 100000 in
theorem pg_s51_s {X : Int → Int} {LX : Nat} : ck_Ok pg_O X LX 275 pg_s51 := ck_ok_s (O := pg_O) (X := X) (LX := LX) (E := [(276, [pg_s50]), (269, [pg_s47]), (279, [pg_em3])]) (mi := 275) (cuts := [(9, [some (.inr (.inr (.inl 226)))], ([], [], [(0, 5, 5, (1, 400, [(1000033, 0)])), (226, 11, 11, (0, 400, [(1000001, 0)])), (0, 3, 3, (1, 400, [(1000033, 0)])), (0, 4, 4, ck_one 0), (226, 9, 9, (0, 400, [(1000001, 0)])), (0, 0, 0, (1, 400, [(30, 1)])), (226, 15, 15, (1, 400, [])), (226, 12, 12, ck_one 5)]), 100, .inr (0, 5), true)]) (f := 142) (S := pg_s51) (lx := none) (XF := []) ⟨pg_nmu, ck_E1 (ck_S1 pg_s50_s ck_S0) (ck_E1 (ck_S1 pg_s47_s ck_S0) (ck_E1 (ck_S1 pg_em3_s ck_S0) ck_E0))⟩ ck_X0 ck_l0 (by decide +kernel)
set_option maxRecDepth 100000 in
/-- GlacierMailModel.readAtom -/
noncomputable def pg_s52 : ck_Sum := ((15, 0, 0), 245, [.inr (.inr (.inl 226))], ([], [], [(226, 12, 12, ck_one 4), (0, 0, 0, (0, 400, [(30, 0)])), (0, 3, 3, ((-400), 400, [(31, 0)])), (0, 4, 4, ((-400), 400, [(32, 0)])), (0, 5, 5, (1, 400, [(33, 0)])), (226, 9, 9, (0, 400, [(1, 0)])), (226, 15, 15, (0, 400, [(2, 0)]))]), ([(0, 0, 0), (0, 3, 5), (226, 9, 9), (226, 11, 12), (226, 15, 15), (227, 1293, 2092)], []), [(.inr (some (.inl (ck_one 0))), 245, ([], [], [(0, 5, 5, (0, 400, [(1000033, (-1))])), (0, 0, 0, (0, 400, [(1000030, 0)])), (0, 3, 3, (0, 400, [(1000033, (-1))])), (0, 4, 4, (0, 400, [])), (226, 9, 9, (0, 400, [(1000001, 0)])), (226, 12, 12, (4, 6, []))])), (.inr (some (.inl (ck_one 1))), 245, ([], [], [(0, 0, 0, (1, 400, [(30, 1)])), (0, 3, 3, (0, 400, [(1000033, (-1))])), (0, 5, 5, (1, 400, [(1000033, 0)])), (226, 15, 15, (1, 400, [])), (0, 4, 4, (0, 5, [])), (226, 9, 9, (0, 400, [(1000001, 0)])), (226, 12, 12, ck_one 4)]))])
set_option maxRecDepth 100000 in
theorem pg_s52_s {X : Int → Int} {LX : Nat} : ck_Ok pg_O X LX 277 pg_s52 := ck_ok_s (O := pg_O) (X := X) (LX := LX) (E := [(278, [pg_s12, pg_s14, pg_s16, pg_s18]), (269, [pg_s20, pg_s22, pg_s24]), (280, [pg_s39]), (279, [pg_em1, pg_em0, pg_em2]), (277, [pg_s49]), (275, [pg_s51])]) (mi := 277) (cuts := []) (f := 154) (S := pg_s52) (lx := none) (XF := []) ⟨pg_nmu, ck_E1 (ck_S1 pg_s12_s (ck_S1 pg_s14_s (ck_S1 pg_s16_s (ck_S1 pg_s18_s ck_S0)))) (ck_E1 (ck_S1 pg_s20_s (ck_S1 pg_s22_s (ck_S1 pg_s24_s ck_S0))) (ck_E1 (ck_S1 pg_s39_s ck_S0) (ck_E1 (ck_S1 pg_em1_s (ck_S1 pg_em0_s (ck_S1 pg_em2_s ck_S0))) (ck_E1 (ck_S1 pg_s49_s ck_S0) (ck_E1 (ck_S1 pg_s51_s ck_S0) ck_E0)))))⟩ ck_X0 ck_l0 (by decide +kernel)
set_option maxRecDepth 100000 in
/-- GlacierMailModel.readAllOf -/
noncomputable def pg_s53 : ck_Sum := ((16, 0, 0), 245, [.inr (.inr (.inl 226))], ([], [], [(226, 12, 12, ck_one 4), (0, 0, 0, (0, 400, [(30, 0)])), (0, 3, 3, ((-400), 400, [(31, 0)])), (0, 4, 4, ((-400), 400, [(32, 0)])), (0, 5, 5, (1, 400, [(33, 0)])), (226, 9, 9, (0, 400, [(1, 0)])), (226, 15, 15, (0, 400, [(2, 0)]))]), ([(0, 0, 0), (0, 3, 5), (226, 9, 9), (226, 11, 12), (226, 15, 15), (227, 1293, 2092)], []), [(.inr (some (.inl (ck_one 0))), 245, ([], [], [(0, 5, 5, (0, 400, [(1000033, (-1))])), (0, 0, 0, (0, 400, [(1000030, 0)])), (0, 3, 3, (0, 400, [(1000033, (-1))])), (0, 4, 4, (0, 400, [])), (226, 9, 9, (0, 400, [(1000001, 0)])), (226, 12, 12, (4, 6, []))])), (.inr (some (.inl (ck_one 1))), 245, ([], [], [(0, 5, 5, (1, 400, [(1000033, 0)])), (226, 11, 11, (0, 400, [(1000001, 0)])), (0, 3, 3, (1, 400, [(1000033, 0)])), (0, 4, 4, ck_one 0), (226, 9, 9, (0, 400, [(1000001, 0)])), (0, 0, 0, (1, 400, [(30, 1)])), (226, 15, 15, (1, 400, [])), (226, 12, 12, ck_one 4)]))])
set_option maxRecDepth 100000 in
theorem pg_s53_s {X : Int → Int} {LX : Nat} : ck_Ok pg_O X LX 276 pg_s53 := ck_ok_s (O := pg_O) (X := X) (LX := LX) (E := [(277, [pg_s52]), (269, [pg_s43]), (279, [pg_em3])]) (mi := 276) (cuts := [(9, [some (.inr (.inr (.inl 226)))], ([], [], [(0, 5, 5, (1, 400, [(1000033, 0)])), (226, 11, 11, (0, 400, [])), (0, 0, 0, (1, 400, [(30, 1)])), (0, 3, 3, (0, 400, [(1000033, (-1))])), (226, 15, 15, (1, 400, [])), (0, 4, 4, (0, 5, [])), (226, 9, 9, (0, 400, [(1000001, 0)])), (226, 12, 12, ck_one 4)]), 100, .inr (0, 5), true)]) (f := 142) (S := pg_s53) (lx := none) (XF := []) ⟨pg_nmu, ck_E1 (ck_S1 pg_s52_s ck_S0) (ck_E1 (ck_S1 pg_s43_s ck_S0) (ck_E1 (ck_S1 pg_em3_s ck_S0) ck_E0))⟩ ck_X0 ck_l0 (by decide +kernel)
set_option maxRecDepth 100000 in
/-- GlacierMailModel.readCond -/
noncomputable def pg_s54 : ck_Sum := ((17, 0, 0), 245, [.inr (.inr (.inl 226))], ([], [], [(226, 12, 12, ck_one 4), (0, 0, 0, (0, 400, [(30, 0)])), (0, 3, 3, ((-400), 400, [(31, 0)])), (0, 4, 4, ((-400), 400, [(32, 0)])), (0, 5, 5, (1, 400, [(33, 0)])), (226, 9, 9, (0, 400, [(1, 0)])), (226, 15, 15, (0, 400, [(2, 0)]))]), ([(0, 0, 0), (0, 3, 5), (226, 9, 9), (226, 11, 12), (226, 15, 15), (227, 1293, 2092)], []), [(.inr (some (.inl (ck_one 0))), 245, ([], [], [(0, 5, 5, (0, 400, [(1000033, (-1))])), (0, 0, 0, (0, 400, [(1000030, 0)])), (0, 3, 3, (0, 400, [(1000033, (-1))])), (0, 4, 4, (0, 400, [])), (226, 9, 9, (0, 400, [(1000001, 0)])), (226, 12, 12, (4, 6, []))])), (.inr (some (.inl (ck_one 1))), 245, ([], [], [(0, 5, 5, (1, 400, [(1000033, 0)])), (226, 11, 11, (0, 400, [(1000001, 0)])), (0, 3, 3, (1, 400, [(1000033, 0)])), (0, 4, 4, ck_one 0), (226, 9, 9, (0, 400, [(1000001, 0)])), (0, 0, 0, (1, 400, [(30, 1)])), (226, 15, 15, (1, 400, [])), (226, 12, 12, ck_one 4)]))])
set_option maxRecDepth 100000 in
theorem pg_s54_s {X : Int → Int} {LX : Nat} : ck_Ok pg_O X LX 275 pg_s54 := ck_ok_s (O := pg_O) (X := X) (LX := LX) (E := [(276, [pg_s53]), (269, [pg_s47]), (279, [pg_em3])]) (mi := 275) (cuts := [(9, [some (.inr (.inr (.inl 226)))], ([], [], [(0, 5, 5, (1, 400, [(1000033, 0)])), (226, 11, 11, (0, 400, [(1000001, 0)])), (0, 3, 3, (1, 400, [(1000033, 0)])), (0, 4, 4, ck_one 0), (226, 9, 9, (0, 400, [(1000001, 0)])), (0, 0, 0, (1, 400, [(30, 1)])), (226, 15, 15, (1, 400, [])), (226, 12, 12, ck_one 4)]), 100, .inr (0, 5), true)]) (f := 142) (S := pg_s54) (lx := none) (XF := []) ⟨pg_nmu, ck_E1 (ck_S1 pg_s53_s ck_S0) (ck_E1 (ck_S1 pg_s47_s ck_S0) (ck_E1 (ck_S1 pg_em3_s ck_S0) ck_E0))⟩ ck_X0 ck_l0 (by decide +kernel)
set_option maxRecDepth 100000 in
/-- GlacierMailModel.readAtom -/
noncomputable def pg_s55 : ck_Sum := ((18, 0, 0), 245, [.inr (.inr (.inl 226))], ([], [], [(226, 12, 12, ck_one 3), (0, 0, 0, (0, 400, [(30, 0)])), (0, 3, 3, ((-400), 400, [(31, 0)])), (0, 4, 4, ((-400), 400, [(32, 0)])), (0, 5, 5, (1, 400, [(33, 0)])), (226, 9, 9, (0, 400, [(1, 0)])), (226, 15, 15, (0, 400, [(2, 0)]))]), ([(0, 0, 0), (0, 3, 5), (226, 9, 9), (226, 11, 12), (226, 15, 15), (227, 1293, 2092)], []), [(.inr (some (.inl (ck_one 0))), 245, ([], [], [(0, 5, 5, (0, 400, [(1000033, (-1))])), (0, 0, 0, (0, 400, [(1000030, 0)])), (0, 3, 3, (0, 400, [(1000033, (-1))])), (0, 4, 4, (0, 400, [])), (226, 9, 9, (0, 400, [(1000001, 0)])), (226, 12, 12, (3, 6, []))])), (.inr (some (.inl (ck_one 1))), 245, ([], [], [(0, 0, 0, (1, 400, [(30, 1)])), (0, 3, 3, (0, 400, [(1000033, (-1))])), (0, 5, 5, (1, 400, [(1000033, 0)])), (226, 15, 15, (1, 400, [])), (0, 4, 4, (0, 5, [])), (226, 9, 9, (0, 400, [(1000001, 0)])), (226, 12, 12, ck_one 3)]))])
set_option maxRecDepth 100000 in
theorem pg_s55_s {X : Int → Int} {LX : Nat} : ck_Ok pg_O X LX 277 pg_s55 := ck_ok_s (O := pg_O) (X := X) (LX := LX) (E := [(278, [pg_s12, pg_s14, pg_s16, pg_s18]), (269, [pg_s20, pg_s22, pg_s24]), (280, [pg_s39]), (279, [pg_em1, pg_em0, pg_em2]), (277, [pg_s52]), (275, [pg_s54])]) (mi := 277) (cuts := []) (f := 154) (S := pg_s55) (lx := none) (XF := []) ⟨pg_nmu, ck_E1 (ck_S1 pg_s12_s (ck_S1 pg_s14_s (ck_S1 pg_s16_s (ck_S1 pg_s18_s ck_S0)))) (ck_E1 (ck_S1 pg_s20_s (ck_S1 pg_s22_s (ck_S1 pg_s24_s ck_S0))) (ck_E1 (ck_S1 pg_s39_s ck_S0) (ck_E1 (ck_S1 pg_em1_s (ck_S1 pg_em0_s (ck_S1 pg_em2_s ck_S0))) (ck_E1 (ck_S1 pg_s52_s ck_S0) (ck_E1 (ck_S1 pg_s54_s ck_S0) ck_E0)))))⟩ ck_X0 ck_l0 (by decide +kernel)
set_option maxRecDepth 100000 in
/-- GlacierMailModel.readAllOf -/
noncomputable def pg_s56 : ck_Sum := ((19, 0, 0), 245, [.inr (.inr (.inl 226))], ([], [], [(226, 12, 12, ck_one 3), (0, 0, 0, (0, 400, [(30, 0)])), (0, 3, 3, ((-400), 400, [(31, 0)])), (0, 4, 4, ((-400), 400, [(32, 0)])), (0, 5, 5, (1, 400, [(33, 0)])), (226, 9, 9, (0, 400, [(1, 0)])), (226, 15, 15, (0, 400, [(2, 0)]))]), ([(0, 0, 0), (0, 3, 5), (226, 9, 9), (226, 11, 12), (226, 15, 15), (227, 1293, 2092)], []), [(.inr (some (.inl (ck_one 0))), 245, ([], [], [(0, 5, 5, (0, 400, [(1000033, (-1))])), (0, 0, 0, (0, 400, [(1000030, 0)])), (0, 3, 3, (0, 400, [(1000033, (-1))])), (0, 4, 4, (0, 400, [])), (226, 9, 9, (0, 400, [(1000001, 0)])), (226, 12, 12, (3, 6, []))])), (.inr (some (.inl (ck_one 1))), 245, ([], [], [(0, 5, 5, (1, 400, [(1000033, 0)])), (226, 11, 11, (0, 400, [(1000001, 0)])), (0, 3, 3, (1, 400, [(1000033, 0)])), (0, 4, 4, ck_one 0), (226, 9, 9, (0, 400, [(1000001, 0)])), (0, 0, 0, (1, 400, [(30, 1)])), (226, 15, 15, (1, 400, [])), (226, 12, 12, ck_one 3)]))])
set_option maxRecDepth 100000 in
theorem pg_s56_s {X : Int → Int} {LX : Nat} : ck_Ok pg_O X LX 276 pg_s56 := ck_ok_s (O := pg_O) (X := X) (LX := LX) (E := [(277, [pg_s55]), (269, [pg_s43]), (279, [pg_em3])]) (mi := 276) (cuts := [(9, [some (.inr (.inr (.inl 226)))], ([], [], [(0, 5, 5, (1, 400, [(1000033, 0)])), (226, 11, 11, (0, 400, [])), (0, 0, 0, (1, 400, [(30, 1)])), (0, 3, 3, (0, 400, [(1000033, (-1))])), (226, 15, 15, (1, 400, [])), (0, 4, 4, (0, 5, [])), (226, 9, 9, (0, 400, [(1000001, 0)])), (226, 12, 12, ck_one 3)]), 100, .inr (0, 5), true)]) (f := 142) (S := pg_s56) (lx := none) (XF := []) ⟨pg_nmu, ck_E1 (ck_S1 pg_s55_s ck_S0) (ck_E1 (ck_S1 pg_s43_s ck_S0) (ck_E1 (ck_S1 pg_em3_s ck_S0) ck_E0))⟩ ck_X0 ck_l0 (by decide +kernel)
set_option maxRecDepth 100000 in
/-- GlacierMailModel.readCond -/
noncomputable def pg_s57 : ck_Sum := ((20, 0, 0), 245, [.inr (.inr (.inl 226))], ([], [], [(226, 12, 12, ck_one 3), (0, 0, 0, (0, 400, [(30, 0)])), (0, 3, 3, ((-400), 400, [(31, 0)])), (0, 4, 4, ((-400), 400, [(32, 0)])), (0, 5, 5, (1, 400, [(33, 0)])), (226, 9, 9, (0, 400, [(1, 0)])), (226, 15, 15, (0, 400, [(2, 0)]))]), ([(0, 0, 0), (0, 3, 5), (226, 9, 9), (226, 11, 12), (226, 15, 15), (227, 1293, 2092)], []), [(.inr (some (.inl (ck_one 0))), 245, ([], [], [(0, 5, 5, (0, 400, [(1000033, (-1))])), (0, 0, 0, (0, 400, [(1000030, 0)])), (0, 3, 3, (0, 400, [(1000033, (-1))])), (0, 4, 4, (0, 400, [])), (226, 9, 9, (0, 400, [(1000001, 0)])), (226, 12, 12, (3, 6, []))])), (.inr (some (.inl (ck_one 1))), 245, ([], [], [(0, 5, 5, (1, 400, [(1000033, 0)])), (226, 11, 11, (0, 400, [(1000001, 0)])), (0, 3, 3, (1, 400, [(1000033, 0)])), (0, 4, 4, ck_one 0), (226, 9, 9, (0, 400, [(1000001, 0)])), (0, 0, 0, (1, 400, [(30, 1)])), (226, 15, 15, (1, 400, [])), (226, 12, 12, ck_one 3)]))])
set_option maxRecDepth 100000 in
theorem pg_s57_s {X : Int → Int} {LX : Nat} : ck_Ok pg_O X LX 275 pg_s57 := ck_ok_s (O := pg_O) (X := X) (LX := LX) (E := [(276, [pg_s56]), (269, [pg_s47]), (279, [pg_em3])]) (mi := 275) (cuts := [(9, [some (.inr (.inr (.inl 226)))], ([], [], [(0, 5, 5, (1, 400, [(1000033, 0)])), (226, 11, 11, (0, 400, [(1000001, 0)])), (0, 3, 3, (1, 400, [(1000033, 0)])), (0, 4, 4, ck_one 0), (226, 9, 9, (0, 400, [(1000001, 0)])), (0, 0, 0, (1, 400, [(30, 1)])), (226, 15, 15, (1, 400, [])), (226, 12, 12, ck_one 3)]), 100, .inr (0, 5), true)]) (f := 142) (S := pg_s57) (lx := none) (XF := []) ⟨pg_nmu, ck_E1 (ck_S1 pg_s56_s ck_S0) (ck_E1 (ck_S1 pg_s47_s ck_S0) (ck_E1 (ck_S1 pg_em3_s ck_S0) ck_E0))⟩ ck_X0 ck_l0 (by decide +kernel)
set_option maxRecDepth 100000 in
/-- GlacierMailModel.readAtom -/
noncomputable def pg_s58 : ck_Sum := ((21, 0, 0), 245, [.inr (.inr (.inl 226))], ([], [], [(226, 12, 12, ck_one 2), (0, 0, 0, (0, 400, [(30, 0)])), (0, 3, 3, ((-400), 400, [(31, 0)])), (0, 4, 4, ((-400), 400, [(32, 0)])), (0, 5, 5, (1, 400, [(33, 0)])), (226, 9, 9, (0, 400, [(1, 0)])), (226, 15, 15, (0, 400, [(2, 0)]))]), ([(0, 0, 0), (0, 3, 5), (226, 9, 9), (226, 11, 12), (226, 15, 15), (227, 1293, 2092)], []), [(.inr (some (.inl (ck_one 0))), 245, ([], [], [(0, 5, 5, (0, 400, [(1000033, (-1))])), (0, 0, 0, (0, 400, [(1000030, 0)])), (0, 3, 3, (0, 400, [(1000033, (-1))])), (0, 4, 4, (0, 400, [])), (226, 9, 9, (0, 400, [(1000001, 0)])), (226, 12, 12, (2, 6, []))])), (.inr (some (.inl (ck_one 1))), 245, ([], [], [(0, 0, 0, (1, 400, [(30, 1)])), (0, 3, 3, (0, 400, [(1000033, (-1))])), (0, 5, 5, (1, 400, [(1000033, 0)])), (226, 15, 15, (1, 400, [])), (0, 4, 4, (0, 5, [])), (226, 9, 9, (0, 400, [(1000001, 0)])), (226, 12, 12, ck_one 2)]))])
set_option maxRecDepth 100000 in
theorem pg_s58_s {X : Int → Int} {LX : Nat} : ck_Ok pg_O X LX 277 pg_s58 := ck_ok_s (O := pg_O) (X := X) (LX := LX) (E := [(278, [pg_s12, pg_s14, pg_s16, pg_s18]), (269, [pg_s20, pg_s22, pg_s24]), (280, [pg_s39]), (279, [pg_em1, pg_em0, pg_em2]), (277, [pg_s55]), (275, [pg_s57])]) (mi := 277) (cuts := []) (f := 154) (S := pg_s58) (lx := none) (XF := []) ⟨pg_nmu, ck_E1 (ck_S1 pg_s12_s (ck_S1 pg_s14_s (ck_S1 pg_s16_s (ck_S1 pg_s18_s ck_S0)))) (ck_E1 (ck_S1 pg_s20_s (ck_S1 pg_s22_s (ck_S1 pg_s24_s ck_S0))) (ck_E1 (ck_S1 pg_s39_s ck_S0) (ck_E1 (ck_S1 pg_em1_s (ck_S1 pg_em0_s (ck_S1 pg_em2_s ck_S0))) (ck_E1 (ck_S1 pg_s55_s ck_S0) (ck_E1 (ck_S1 pg_s57_s ck_S0) ck_E0)))))⟩ ck_X0 ck_l0 (by decide +kernel)
set_option maxRecDepth 100000 in
/-- GlacierMailModel.readAllOf -/
noncomputable def pg_s59 : ck_Sum := ((22, 0, 0), 245, [.inr (.inr (.inl 226))], ([], [], [(226, 12, 12, ck_one 2), (0, 0, 0, (0, 400, [(30, 0)])), (0, 3, 3, ((-400), 400, [(31, 0)])), (0, 4, 4, ((-400), 400, [(32, 0)])), (0, 5, 5, (1, 400, [(33, 0)])), (226, 9, 9, (0, 400, [(1, 0)])), (226, 15, 15, (0, 400, [(2, 0)]))]), ([(0, 0, 0), (0, 3, 5), (226, 9, 9), (226, 11, 12), (226, 15, 15), (227, 1293, 2092)], []), [(.inr (some (.inl (ck_one 0))), 245, ([], [], [(0, 5, 5, (0, 400, [(1000033, (-1))])), (0, 0, 0, (0, 400, [(1000030, 0)])), (0, 3, 3, (0, 400, [(1000033, (-1))])), (0, 4, 4, (0, 400, [])), (226, 9, 9, (0, 400, [(1000001, 0)])), (226, 12, 12, (2, 6, []))])), (.inr (some (.inl (ck_one 1))), 245, ([], [], [(0, 5, 5, (1, 400, [(1000033, 0)])), (226, 11, 11, (0, 400, [(1000001, 0)])), (0, 3, 3, (1, 400, [(1000033, 0)])), (0, 4, 4, ck_one 0), (226, 9, 9, (0, 400, [(1000001, 0)])), (0, 0, 0, (1, 400, [(30, 1)])), (226, 15, 15, (1, 400, [])), (226, 12, 12, ck_one 2)]))])
set_option maxRecDepth 100000 in
theorem pg_s59_s {X : Int → Int} {LX : Nat} : ck_Ok pg_O X LX 276 pg_s59 := ck_ok_s (O := pg_O) (X := X) (LX := LX) (E := [(277, [pg_s58]), (269, [pg_s43]), (279, [pg_em3])]) (mi := 276) (cuts := [(9, [some (.inr (.inr (.inl 226)))], ([], [], [(0, 5, 5, (1, 400, [(1000033, 0)])), (226, 11, 11, (0, 400, [])), (0, 0, 0, (1, 400, [(30, 1)])), (0, 3, 3, (0, 400, [(1000033, (-1))])), (226, 15, 15, (1, 400, [])), (0, 4, 4, (0, 5, [])), (226, 9, 9, (0, 400, [(1000001, 0)])), (226, 12, 12, ck_one 2)]), 100, .inr (0, 5), true)]) (f := 142) (S := pg_s59) (lx := none) (XF := []) ⟨pg_nmu, ck_E1 (ck_S1 pg_s58_s ck_S0) (ck_E1 (ck_S1 pg_s43_s ck_S0) (ck_E1 (ck_S1 pg_em3_s ck_S0) ck_E0))⟩ ck_X0 ck_l0 (by decide +kernel)
set_option maxRecDepth 100000 in
/-- GlacierMailModel.readCond -/
noncomputable def pg_s60 : ck_Sum := ((23, 0, 0), 245, [.inr (.inr (.inl 226))], ([], [], [(226, 12, 12, ck_one 2), (0, 0, 0, (0, 400, [(30, 0)])), (0, 3, 3, ((-400), 400, [(31, 0)])), (0, 4, 4, ((-400), 400, [(32, 0)])), (0, 5, 5, (1, 400, [(33, 0)])), (226, 9, 9, (0, 400, [(1, 0)])), (226, 15, 15, (0, 400, [(2, 0)]))]), ([(0, 0, 0), (0, 3, 5), (226, 9, 9), (226, 11, 12), (226, 15, 15), (227, 1293, 2092)], []), [(.inr (some (.inl (ck_one 0))), 245, ([], [], [(0, 5, 5, (0, 400, [(1000033, (-1))])), (0, 0, 0, (0, 400, [(1000030, 0)])), (0, 3, 3, (0, 400, [(1000033, (-1))])), (0, 4, 4, (0, 400, [])), (226, 9, 9, (0, 400, [(1000001, 0)])), (226, 12, 12, (2, 6, []))])), (.inr (some (.inl (ck_one 1))), 245, ([], [], [(0, 5, 5, (1, 400, [(1000033, 0)])), (226, 11, 11, (0, 400, [(1000001, 0)])), (0, 3, 3, (1, 400, [(1000033, 0)])), (0, 4, 4, ck_one 0), (226, 9, 9, (0, 400, [(1000001, 0)])), (0, 0, 0, (1, 400, [(30, 1)])), (226, 15, 15, (1, 400, [])), (226, 12, 12, ck_one 2)]))])
set_option maxRecDepth 100000 in
theorem pg_s60_s {X : Int → Int} {LX : Nat} : ck_Ok pg_O X LX 275 pg_s60 := ck_ok_s (O := pg_O) (X := X) (LX := LX) (E := [(276, [pg_s59]), (269, [pg_s47]), (279, [pg_em3])]) (mi := 275) (cuts := [(9, [some (.inr (.inr (.inl 226)))], ([], [], [(0, 5, 5, (1, 400, [(1000033, 0)])), (226, 11, 11, (0, 400, [(1000001, 0)])), (0, 3, 3, (1, 400, [(1000033, 0)])), (0, 4, 4, ck_one 0), (226, 9, 9, (0, 400, [(1000001, 0)])), (0, 0, 0, (1, 400, [(30, 1)])), (226, 15, 15, (1, 400, [])), (226, 12, 12, ck_one 2)]), 100, .inr (0, 5), true)]) (f := 142) (S := pg_s60) (lx := none) (XF := []) ⟨pg_nmu, ck_E1 (ck_S1 pg_s59_s ck_S0) (ck_E1 (ck_S1 pg_s47_s ck_S0) (ck_E1 (ck_S1 pg_em3_s ck_S0) ck_E0))⟩ ck_X0 ck_l0 (by decide +kernel)
set_option maxRecDepth 100000 in
/-- GlacierMailModel.readAtom -/
noncomputable def pg_s61 : ck_Sum := ((24, 0, 0), 245, [.inr (.inr (.inl 226))], ([], [], [(226, 12, 12, ck_one 1), (0, 0, 0, (0, 400, [(30, 0)])), (0, 3, 3, ((-400), 400, [(31, 0)])), (0, 4, 4, ((-400), 400, [(32, 0)])), (0, 5, 5, (1, 400, [(33, 0)])), (226, 9, 9, (0, 400, [(1, 0)])), (226, 15, 15, (0, 400, [(2, 0)]))]), ([(0, 0, 0), (0, 3, 5), (226, 9, 9), (226, 11, 12), (226, 15, 15), (227, 1293, 2092)], []), [(.inr (some (.inl (ck_one 0))), 245, ([], [], [(0, 5, 5, (0, 400, [(1000033, (-1))])), (0, 0, 0, (0, 400, [(1000030, 0)])), (0, 3, 3, (0, 400, [(1000033, (-1))])), (0, 4, 4, (0, 400, [])), (226, 9, 9, (0, 400, [(1000001, 0)])), (226, 12, 12, (1, 6, []))])), (.inr (some (.inl (ck_one 1))), 245, ([], [], [(0, 0, 0, (1, 400, [(30, 1)])), (0, 3, 3, (0, 400, [(1000033, (-1))])), (0, 5, 5, (1, 400, [(1000033, 0)])), (226, 15, 15, (1, 400, [])), (0, 4, 4, (0, 5, [])), (226, 9, 9, (0, 400, [(1000001, 0)])), (226, 12, 12, ck_one 1)]))])
set_option maxRecDepth 100000 in
theorem pg_s61_s {X : Int → Int} {LX : Nat} : ck_Ok pg_O X LX 277 pg_s61 := ck_ok_s (O := pg_O) (X := X) (LX := LX) (E := [(278, [pg_s12, pg_s14, pg_s16, pg_s18]), (269, [pg_s20, pg_s22, pg_s24]), (280, [pg_s39]), (279, [pg_em1, pg_em0, pg_em2]), (277, [pg_s58]), (275, [pg_s60])]) (mi := 277) (cuts := []) (f := 154) (S := pg_s61) (lx := none) (XF := []) ⟨pg_nmu, ck_E1 (ck_S1 pg_s12_s (ck_S1 pg_s14_s (ck_S1 pg_s16_s (ck_S1 pg_s18_s ck_S0)))) (ck_E1 (ck_S1 pg_s20_s (ck_S1 pg_s22_s (ck_S1 pg_s24_s ck_S0))) (ck_E1 (ck_S1 pg_s39_s ck_S0) (ck_E1 (ck_S1 pg_em1_s (ck_S1 pg_em0_s (ck_S1 pg_em2_s ck_S0))) (ck_E1 (ck_S1 pg_s58_s ck_S0) (ck_E1 (ck_S1 pg_s60_s ck_S0) ck_E0)))))⟩ ck_X0 ck_l0 (by decide +kernel)
set_option maxRecDepth 100000 in
/-- GlacierMailModel.readAllOf -/
noncomputable def pg_s62 : ck_Sum := ((25, 0, 0), 245, [.inr (.inr (.inl 226))], ([], [], [(226, 12, 12, ck_one 1), (0, 0, 0, (0, 400, [(30, 0)])), (0, 3, 3, ((-400), 400, [(31, 0)])), (0, 4, 4, ((-400), 400, [(32, 0)])), (0, 5, 5, (1, 400, [(33, 0)])), (226, 9, 9, (0, 400, [(1, 0)])), (226, 15, 15, (0, 400, [(2, 0)]))]), ([(0, 0, 0), (0, 3, 5), (226, 9, 9), (226, 11, 12), (226, 15, 15), (227, 1293, 2092)], []), [(.inr (some (.inl (ck_one 0))), 245, ([], [], [(0, 5, 5, (0, 400, [(1000033, (-1))])), (0, 0, 0, (0, 400, [(1000030, 0)])), (0, 3, 3, (0, 400, [(1000033, (-1))])), (0, 4, 4, (0, 400, [])), (226, 9, 9, (0, 400, [(1000001, 0)])), (226, 12, 12, (1, 6, []))])), (.inr (some (.inl (ck_one 1))), 245, ([], [], [(0, 5, 5, (1, 400, [(1000033, 0)])), (226, 11, 11, (0, 400, [(1000001, 0)])), (0, 3, 3, (1, 400, [(1000033, 0)])), (0, 4, 4, ck_one 0), (226, 9, 9, (0, 400, [(1000001, 0)])), (0, 0, 0, (1, 400, [(30, 1)])), (226, 15, 15, (1, 400, [])), (226, 12, 12, ck_one 1)]))])
set_option maxRecDepth 100000 in
theorem pg_s62_s {X : Int → Int} {LX : Nat} : ck_Ok pg_O X LX 276 pg_s62 := ck_ok_s (O := pg_O) (X := X) (LX := LX) (E := [(277, [pg_s61]), (269, [pg_s43]), (279, [pg_em3])]) (mi := 276) (cuts := [(9, [some (.inr (.inr (.inl 226)))], ([], [], [(0, 5, 5, (1, 400, [(1000033, 0)])), (226, 11, 11, (0, 400, [])), (0, 0, 0, (1, 400, [(30, 1)])), (0, 3, 3, (0, 400, [(1000033, (-1))])), (226, 15, 15, (1, 400, [])), (0, 4, 4, (0, 5, [])), (226, 9, 9, (0, 400, [(1000001, 0)])), (226, 12, 12, ck_one 1)]), 100, .inr (0, 5), true)]) (f := 142) (S := pg_s62) (lx := none) (XF := []) ⟨pg_nmu, ck_E1 (ck_S1 pg_s61_s ck_S0) (ck_E1 (ck_S1 pg_s43_s ck_S0) (ck_E1 (ck_S1 pg_em3_s ck_S0) ck_E0))⟩ ck_X0 ck_l0 (by decide +kernel)
set_option maxRecDepth 100000 in
/-- GlacierMailModel.readCond -/
noncomputable def pg_s63 : ck_Sum := ((26, 0, 0), 245, [.inr (.inr (.inl 226))], ([], [], [(226, 12, 12, ck_one 1), (0, 0, 0, (0, 400, [(30, 0)])), (0, 3, 3, ((-400), 400, [(31, 0)])), (0, 4, 4, ((-400), 400, [(32, 0)])), (0, 5, 5, (1, 400, [(33, 0)])), (226, 9, 9, (0, 400, [(1, 0)])), (226, 15, 15, (0, 400, [(2, 0)]))]), ([(0, 0, 0), (0, 3, 5), (226, 9, 9), (226, 11, 12), (226, 15, 15), (227, 1293, 2092)], []), [(.inr (some (.inl (ck_one 0))), 245, ([], [], [(0, 5, 5, (0, 400, [(1000033, (-1))])), (0, 0, 0, (0, 400, [(1000030, 0)])), (0, 3, 3, (0, 400, [(1000033, (-1))])), (0, 4, 4, (0, 400, [])), (226, 9, 9, (0, 400, [(1000001, 0)])), (226, 12, 12, (1, 6, []))])), (.inr (some (.inl (ck_one 1))), 245, ([], [], [(0, 5, 5, (1, 400, [(1000033, 0)])), (226, 11, 11, (0, 400, [(1000001, 0)])), (0, 3, 3, (1, 400, [(1000033, 0)])), (0, 4, 4, ck_one 0), (226, 9, 9, (0, 400, [(1000001, 0)])), (0, 0, 0, (1, 400, [(30, 1)])), (226, 15, 15, (1, 400, [])), (226, 12, 12, ck_one 1)]))])
set_option maxRecDepth 100000 in
theorem pg_s63_s {X : Int → Int} {LX : Nat} : ck_Ok pg_O X LX 275 pg_s63 := ck_ok_s (O := pg_O) (X := X) (LX := LX) (E := [(276, [pg_s62]), (269, [pg_s47]), (279, [pg_em3])]) (mi := 275) (cuts := [(9, [some (.inr (.inr (.inl 226)))], ([], [], [(0, 5, 5, (1, 400, [(1000033, 0)])), (226, 11, 11, (0, 400, [(1000001, 0)])), (0, 3, 3, (1, 400, [(1000033, 0)])), (0, 4, 4, ck_one 0), (226, 9, 9, (0, 400, [(1000001, 0)])), (0, 0, 0, (1, 400, [(30, 1)])), (226, 15, 15, (1, 400, [])), (226, 12, 12, ck_one 1)]), 100, .inr (0, 5), true)]) (f := 142) (S := pg_s63) (lx := none) (XF := []) ⟨pg_nmu, ck_E1 (ck_S1 pg_s62_s ck_S0) (ck_E1 (ck_S1 pg_s47_s ck_S0) (ck_E1 (ck_S1 pg_em3_s ck_S0) ck_E0))⟩ ck_X0 ck_l0 (by decide +kernel)
end
/-! 73a01.pg -/
section
/-! THE REFERENCE'S law(): its readers, with counted cells (laid by wip/am/g8.py). -/
set_option maxRecDepth 100000 in
/-- GlacierMailModel.readAtom -/
noncomputable def pg_s64 : ck_Sum := ((27, 0, 0), 245, [.inr (.inr (.inl 226))], ([], [], [(226, 12, 12, ck_one 0), (0, 0, 0, (0, 400, [(30, 0)])), (0, 3, 3, ((-400), 400, [(31, 0)])), (0, 4, 4, ((-400), 400, [(32, 0)])), (0, 5, 5, (1, 400, [(33, 0)])), (226, 9, 9, (0, 400, [(1, 0)])), (226, 15, 15, (0, 400, [(2, 0)]))]), ([(0, 0, 0), (0, 3, 5), (226, 9, 9), (226, 11, 12), (226, 15, 15), (227, 1293, 2092)], []), [(.inr (some (.inl (ck_one 0))), 245, ([], [], [(0, 5, 5, (0, 400, [(1000033, (-1))])), (0, 0, 0, (0, 400, [(1000030, 0)])), (0, 3, 3, (0, 400, [(1000033, (-1))])), (0, 4, 4, (0, 400, [])), (226, 9, 9, (0, 400, [(1000001, 0)]))])), (.inr (some (.inl (ck_one 1))), 245, ([], [], [(0, 0, 0, (1, 400, [(30, 1)])), (0, 3, 3, (0, 400, [(1000033, (-1))])), (0, 5, 5, (1, 400, [(1000033, 0)])), (226, 15, 15, (1, 400, [])), (0, 4, 4, (0, 5, [])), (226, 9, 9, (0, 400, [(1000001, 0)])), (226, 12, 12, ck_one 0)]))])
set_option maxRecDepth 100000 in
theorem pg_s64_s {X : Int → Int} {LX : Nat} : ck_Ok pg_O X LX 277 pg_s64 := ck_ok_s (O := pg_O) (X := X) (LX := LX) (E := [(278, [pg_s12, pg_s14, pg_s16, pg_s18]), (269, [pg_s20, pg_s22, pg_s24]), (280, [pg_s39]), (279, [pg_em1, pg_em0, pg_em2]), (277, [pg_s61]), (275, [pg_s63])]) (mi := 277) (cuts := []) (f := 154) (S := pg_s64) (lx := none) (XF := []) ⟨pg_nmu, ck_E1 (ck_S1 pg_s12_s (ck_S1 pg_s14_s (ck_S1 pg_s16_s (ck_S1 pg_s18_s ck_S0)))) (ck_E1 (ck_S1 pg_s20_s (ck_S1 pg_s22_s (ck_S1 pg_s24_s ck_S0))) (ck_E1 (ck_S1 pg_s39_s ck_S0) (ck_E1 (ck_S1 pg_em1_s (ck_S1 pg_em0_s (ck_S1 pg_em2_s ck_S0))) (ck_E1 (ck_S1 pg_s61_s ck_S0) (ck_E1 (ck_S1 pg_s63_s ck_S0) ck_E0)))))⟩ ck_X0 ck_l0 (by decide +kernel)
set_option maxRecDepth 100000 in
/-- GlacierMailModel.readAllOf -/
noncomputable def pg_s65 : ck_Sum := ((28, 0, 0), 245, [.inr (.inr (.inl 226))], ([], [], [(226, 12, 12, ck_one 0), (0, 0, 0, (0, 400, [(30, 0)])), (0, 3, 3, ((-400), 400, [(31, 0)])), (0, 4, 4, ((-400), 400, [(32, 0)])), (0, 5, 5, (1, 400, [(33, 0)])), (226, 9, 9, (0, 400, [(1, 0)])), (226, 15, 15, (0, 400, [(2, 0)]))]), ([(0, 0, 0), (0, 3, 5), (226, 9, 9), (226, 11, 12), (226, 15, 15), (227, 1293, 2092)], []), [(.inr (some (.inl (ck_one 0))), 245, ([], [], [(0, 5, 5, (0, 400, [(1000033, (-1))])), (0, 0, 0, (0, 400, [(1000030, 0)])), (0, 3, 3, (0, 400, [(1000033, (-1))])), (0, 4, 4, (0, 400, [])), (226, 9, 9, (0, 400, [(1000001, 0)]))])), (.inr (some (.inl (ck_one 1))), 245, ([], [], [(0, 5, 5, (1, 400, [(1000033, 0)])), (226, 11, 11, (0, 400, [(1000001, 0)])), (0, 3, 3, (1, 400, [(1000033, 0)])), (0, 4, 4, ck_one 0), (226, 9, 9, (0, 400, [(1000001, 0)])), (0, 0, 0, (1, 400, [(30, 1)])), (226, 15, 15, (1, 400, [])), (226, 12, 12, ck_one 0)]))])
set_option maxRecDepth 100000 in
theorem pg_s65_s {X : Int → Int} {LX : Nat} : ck_Ok pg_O X LX 276 pg_s65 := ck_ok_s (O := pg_O) (X := X) (LX := LX) (E := [(277, [pg_s64]), (269, [pg_s43]), (279, [pg_em3])]) (mi := 276) (cuts := [(9, [some (.inr (.inr (.inl 226)))], ([], [], [(0, 5, 5, (1, 400, [(1000033, 0)])), (226, 11, 11, (0, 400, [])), (0, 0, 0, (1, 400, [(30, 1)])), (0, 3, 3, (0, 400, [(1000033, (-1))])), (226, 15, 15, (1, 400, [])), (0, 4, 4, (0, 5, [])), (226, 9, 9, (0, 400, [(1000001, 0)])), (226, 12, 12, ck_one 0)]), 100, .inr (0, 5), true)]) (f := 142) (S := pg_s65) (lx := none) (XF := []) ⟨pg_nmu, ck_E1 (ck_S1 pg_s64_s ck_S0) (ck_E1 (ck_S1 pg_s43_s ck_S0) (ck_E1 (ck_S1 pg_em3_s ck_S0) ck_E0))⟩ ck_X0 ck_l0 (by decide +kernel)
set_option maxRecDepth 100000 in
/-- GlacierMailModel.readCond -/
noncomputable def pg_s66 : ck_Sum := ((29, 0, 0), 245, [.inr (.inr (.inl 226))], ([], [], [(226, 12, 12, ck_one 0), (0, 0, 0, (0, 400, [(30, 0)])), (0, 3, 3, ((-400), 400, [(31, 0)])), (0, 4, 4, ((-400), 400, [(32, 0)])), (0, 5, 5, (1, 400, [(33, 0)])), (226, 9, 9, (0, 400, [(1, 0)])), (226, 15, 15, (0, 400, [(2, 0)]))]), ([(0, 0, 0), (0, 3, 5), (226, 9, 9), (226, 11, 12), (226, 15, 15), (227, 1293, 2092)], []), [(.inr (some (.inl (ck_one 0))), 245, ([], [], [(0, 5, 5, (0, 400, [(1000033, (-1))])), (0, 0, 0, (0, 400, [(1000030, 0)])), (0, 3, 3, (0, 400, [(1000033, (-1))])), (0, 4, 4, (0, 400, [])), (226, 9, 9, (0, 400, [(1000001, 0)]))])), (.inr (some (.inl (ck_one 1))), 245, ([], [], [(0, 5, 5, (1, 400, [(1000033, 0)])), (226, 11, 11, (0, 400, [(1000001, 0)])), (0, 3, 3, (1, 400, [(1000033, 0)])), (0, 4, 4, ck_one 0), (226, 9, 9, (0, 400, [(1000001, 0)])), (0, 0, 0, (1, 400, [(30, 1)])), (226, 15, 15, (1, 400, [])), (226, 12, 12, ck_one 0)]))])
set_option maxRecDepth 100000 in
theorem pg_s66_s {X : Int → Int} {LX : Nat} : ck_Ok pg_O X LX 275 pg_s66 := ck_ok_s (O := pg_O) (X := X) (LX := LX) (E := [(276, [pg_s65]), (269, [pg_s47]), (279, [pg_em3])]) (mi := 275) (cuts := [(9, [some (.inr (.inr (.inl 226)))], ([], [], [(0, 5, 5, (1, 400, [(1000033, 0)])), (226, 11, 11, (0, 400, [(1000001, 0)])), (0, 3, 3, (1, 400, [(1000033, 0)])), (0, 4, 4, ck_one 0), (226, 9, 9, (0, 400, [(1000001, 0)])), (0, 0, 0, (1, 400, [(30, 1)])), (226, 15, 15, (1, 400, [])), (226, 12, 12, ck_one 0)]), 100, .inr (0, 5), true)]) (f := 142) (S := pg_s66) (lx := none) (XF := []) ⟨pg_nmu, ck_E1 (ck_S1 pg_s65_s ck_S0) (ck_E1 (ck_S1 pg_s47_s ck_S0) (ck_E1 (ck_S1 pg_em3_s ck_S0) ck_E0))⟩ ck_X0 ck_l0 (by decide +kernel)
set_option maxRecDepth 100000 in
/-- GlacierMailModel.readLawLine -/
noncomputable def pg_s67 : ck_Sum := ((30, 0, 0), 245, [.inr (.inr (.inl 226)), .inl (ck_one 0)], ([], [], [(0, 2, 2, ck_one 0), (0, 0, 0, (0, 400, [(30, 0)])), (0, 3, 3, ((-400), 400, [(31, 0)])), (0, 4, 4, ((-400), 400, [(32, 0)])), (0, 5, 5, (0, 400, [(33, 0)])), (0, 6, 6, (0, 1, [])), (226, 9, 9, (0, 400, [(1, 0)])), (226, 15, 15, (0, 400, [(2, 0)]))]), ([(0, 0, 6), (226, 9, 9), (226, 11, 12), (226, 15, 15), (227, 1245, 1248), (227, 1293, 2092)], []), [(.inr (some (.inl (ck_one 0))), 245, ([], [], [(0, 2, 2, ck_one 0), (0, 0, 0, (0, 400, [])), (0, 3, 3, ((-400), 400, [(1000031, 0)])), (0, 4, 4, ((-400), 400, [])), (0, 5, 5, (0, 400, [(1000033, 0)])), (0, 6, 6, (0, 1, [])), (226, 9, 9, (0, 400, [(1000001, 0)]))])), (.inr (some (.inl (ck_one 1))), 245, ([], [], [(0, 0, 0, ck_one 0), (0, 2, 2, ck_one 1), (0, 6, 6, ck_one 0), (0, 5, 5, (0, 400, [(1000033, 0), (1000031, 4)])), (226, 11, 11, (0, 400, [(1000001, 0)])), (0, 3, 3, (0, 400, [(1000033, 0), (1000031, 4)])), (0, 4, 4, ck_one 0), (226, 9, 9, (0, 400, [(1000001, 0)])), (226, 12, 12, ck_one 0), (227, 1246, 1246, (0, 20, [])), (227, 1245, 1245, (0, 2, []))]))])
noncomputable def pg_s67_E : List (Nat × List ck_Sum) := [(250, [pg_s4, pg_s5, pg_s6]), (256, [pg_s8]), (269, [pg_s10]), (275, [pg_s66])]
set_option maxRecDepth 100000 in
noncomputable def pg_s67_F111 : ck_F := ([], [], [(0, 5, 5, (0, 400, [(1000033, 0), (1000031, 4)])), (226, 11, 11, (0, 399, [])), (227, 1246, 1246, (0, 20, [])), (227, 1245, 1245, (0, 2, [])), (0, 4, 4, (1, 4, [])), (0, 2, 2, ck_one 0), (0, 0, 0, (0, 400, [(30, 0)])), (0, 3, 3, ((-400), 400, [(1000031, 0)])), (0, 6, 6, (0, 1, [])), (226, 9, 9, (0, 400, [(1000001, 0)])), (226, 15, 15, (0, 400, [(2, 0)]))])
noncomputable def pg_s67_C111 : ck_C := (rl_A 0, pg_s67_F111, 0, .inl 2, true)
set_option maxRecDepth 100000 in
noncomputable def pg_s67_F147 : ck_F := ([], [], [(0, 5, 5, (0, 400, [(1000033, 0), (1000031, 4)])), (226, 11, 11, (0, 400, [(1000001, 0)])), (0, 3, 3, (0, 400, [(1000033, 0), (1000031, 4)])), (0, 4, 4, ck_one 0), (226, 9, 9, (0, 400, [(1000001, 0)])), (226, 12, 12, ck_one 0), (0, 0, 0, (0, 1, [])), (0, 6, 6, ck_one 1), (227, 1246, 1246, (0, 20, [])), (227, 1245, 1245, (0, 2, [])), (0, 2, 2, ck_one 0), (226, 15, 15, (0, 400, []))])
noncomputable def pg_s67_C147 : ck_C := (rl_A 0, pg_s67_F147, 0, .inl 2, true)
noncomputable def pg_s67_Z : List (Nat × ck_C) := [(147, pg_s67_C147), (111, pg_s67_C111)]
set_option maxRecDepth 100000 in
theorem pg_s67_a : (decide (pg_s67.2.2.1.length ≤ gm_ml 274) && ck_go pg_O none [] pg_s67_E 274 pg_s67.1.1 pg_s67.2.1 pg_s67.2.2.2.2.1 pg_s67.2.2.2.2.2 pg_s67_Z 416 false [(147, pg_s67_C147, 0, 0, 245), (111, pg_s67_C111, 0, 0, 245)] pg_s67.1.2.1 pg_s67.1.2.2 0 (pg_s67.2.2.1.map some ++ List.replicate (gm_ml 274 - pg_s67.2.2.1.length) none) [] pg_s67.2.1 pg_s67.2.2.2.1) = true := by decide +kernel
set_option maxRecDepth 100000 in
theorem pg_s67_b : ck_go pg_O none [] pg_s67_E 274 pg_s67.1.1 245 pg_s67.2.2.2.2.1 pg_s67.2.2.2.2.2 pg_s67_Z 416 false [(147, pg_s67_C147, 0, 0, 245)] 0 0 123 (rl_A 0) [] 245 (rl_F1 0 pg_s67_F111) = true := by decide +kernel
set_option maxRecDepth 100000 in
theorem pg_s67_c : ck_go pg_O none [] pg_s67_E 274 pg_s67.1.1 245 pg_s67.2.2.2.2.1 pg_s67.2.2.2.2.2 pg_s67_Z 416 false [] 0 0 159 (rl_A 0) [] 245 (rl_F2 0 pg_s67_F147) = true := by decide +kernel
theorem pg_s67_u : ck_cu pg_s67_Z = true := by decide +kernel
theorem pg_s67_h {X : Int → Int} {LX : Nat} : ck_nmu pg_O ∧ ck_OkE pg_O X LX pg_s67_E := ⟨pg_nmu, ck_E1 (ck_S1 pg_s4_s (ck_S1 pg_s5_s (ck_S1 pg_s6_s ck_S0))) (ck_E1 (ck_S1 pg_s8_s ck_S0) (ck_E1 (ck_S1 pg_s10_s ck_S0) (ck_E1 (ck_S1 pg_s66_s ck_S0) ck_E0)))⟩
theorem pg_s67_y147 {X : Int → Int} {LX : Nat} {σ σ0 : Nat → Int} {K0 : gm_K} {R0 : gm_R} {M0 : gm_M} (hσ : ∀ s, s < 100 → σ s = σ0 s) : ck_Hy pg_O X LX 274 pg_s67.1.1 pg_s67.2.2.2.2.1 245 K0 R0 M0 (ck_Q pg_O σ0 pg_s67.2.2.2.2.1 245 K0 R0 M0 pg_s67.2.2.2.2.2) σ (147, pg_s67_C147, 0, 0, 245) := rl_147 pg_s67_u pg_s67_h hσ (by decide) (by decide +kernel) (by decide +kernel) ⟨by decide +kernel, by decide +kernel, by decide +kernel, by decide +kernel, by decide +kernel⟩ pg_s67_c (fun _ h => nomatch h)
theorem pg_s67_y111 {X : Int → Int} {LX : Nat} {σ σ0 : Nat → Int} {K0 : gm_K} {R0 : gm_R} {M0 : gm_M} (hσ : ∀ s, s < 100 → σ s = σ0 s) : ck_Hy pg_O X LX 274 pg_s67.1.1 pg_s67.2.2.2.2.1 245 K0 R0 M0 (ck_Q pg_O σ0 pg_s67.2.2.2.2.1 245 K0 R0 M0 pg_s67.2.2.2.2.2) σ (111, pg_s67_C111, 0, 0, 245) := rl_111 pg_s67_u pg_s67_h hσ (by decide) (by decide +kernel) ⟨by decide +kernel, by decide +kernel, by decide +kernel, by decide +kernel⟩ pg_s67_b (fun h hm => by
  rw [List.mem_singleton.mp hm]
  exact ⟨List.mem_cons_self, pg_s67_y147 hσ⟩)
theorem pg_s67_s {X : Int → Int} {LX : Nat} : ck_Ok pg_O X LX 274 pg_s67 := by
  refine ck_ok_st (cuts := pg_s67_Z) pg_s67_u pg_s67_h pg_s67_a (fun h hm => ?_)
  rcases List.mem_cons.mp hm with rfl | hm
  · exact ⟨List.mem_cons_self, fun σ K0 R0 M0 => pg_s67_y147 (fun _ _ => rfl)⟩
  rw [List.mem_singleton.mp hm]
  exact ⟨List.mem_cons_of_mem _ List.mem_cons_self, fun σ K0 R0 M0 => pg_s67_y111 (fun _ _ => rfl)⟩
set_option maxRecDepth 100000 in
/-- GlacierMailModel.readLine -/
noncomputable def pg_s68 : ck_Sum := ((31, 0, 0), 245, [.inr (.inr (.inl 226)), .inl (ck_one 0), .inl (ck_one 0)], ([], [], [(0, 2, 2, ck_one 0), (0, 0, 0, (0, 400, [(30, 0)])), (0, 3, 3, ((-400), 400, [(31, 0)])), (0, 4, 4, ((-400), 400, [(32, 0)])), (0, 5, 5, (0, 400, [(33, 0)])), (0, 6, 6, (0, 1, [])), (226, 9, 9, (0, 400, [(1, 0)])), (226, 15, 15, (0, 400, [(2, 0)]))]), ([(0, 0, 6), (226, 9, 9), (226, 11, 12), (226, 15, 15), (227, 1245, 1248), (227, 1293, 2092)], []), [(.inr (some (.inl (ck_one 0))), 245, ([], [], [(0, 2, 2, ck_one 0), (0, 0, 0, (0, 400, [])), (0, 3, 3, (0, 400, [(1000033, 0)])), (0, 4, 4, ((-400), 400, [])), (0, 5, 5, (0, 400, [(1000033, 0)])), (0, 6, 6, (0, 1, [])), (226, 9, 9, (0, 400, [(1000001, 0)]))])), (.inr (some (.inl (ck_one 1))), 245, ([], [], [(0, 5, 5, (4, 400, [(1000033, 4)])), (226, 11, 11, (0, 400, [(1000001, 0)])), (0, 0, 0, ck_one 0), (0, 2, 2, ck_one 1), (0, 6, 6, ck_one 0), (0, 3, 3, (4, 400, [(1000033, 4)])), (0, 4, 4, ck_one 0), (226, 9, 9, (0, 400, [(1000001, 0)])), (226, 12, 12, ck_one 0), (227, 1246, 1246, (0, 20, [])), (227, 1245, 1245, (0, 2, []))]))])
set_option maxRecDepth 100000 in
theorem pg_s68_s {X : Int → Int} {LX : Nat} : ck_Ok pg_O X LX 247 pg_s68 := ck_ok_s (O := pg_O) (X := X) (LX := LX) (E := [(248, [pg_s3]), (274, [pg_s67])]) (mi := 247) (cuts := []) (f := 102) (S := pg_s68) (lx := none) (XF := []) ⟨pg_nmu, ck_E1 (ck_S1 pg_s3_s ck_S0) (ck_E1 (ck_S1 pg_s67_s ck_S0) ck_E0)⟩ ck_X0 ck_l0 (by decide +kernel)
set_option maxRecDepth 100000 in
/-- GlacierMailModel.readLawLine -/
noncomputable def pg_s69 : ck_Sum := ((30, 0, 0), 245, [.inr (.inr (.inl 226)), .inl (ck_one 1)], ([], [], [(0, 2, 2, ck_one 1), (0, 0, 0, (0, 400, [(30, 0)])), (0, 3, 3, ((-400), 400, [(31, 0)])), (0, 4, 4, ((-400), 400, [(32, 0)])), (0, 5, 5, (0, 400, [(33, 0)])), (0, 6, 6, (0, 1, [])), (226, 9, 9, (0, 400, [(1, 0)])), (226, 15, 15, (0, 400, [(2, 0)]))]), ([(0, 0, 6), (226, 9, 9), (226, 11, 12), (226, 15, 15), (227, 1249, 1252), (227, 1293, 2092)], []), [(.inr (some (.inl (ck_one 0))), 245, ([], [], [(0, 2, 2, ck_one 1), (0, 0, 0, (0, 400, [])), (0, 3, 3, ((-400), 400, [(1000031, 0)])), (0, 4, 4, ((-400), 400, [])), (0, 5, 5, (0, 400, [(1000033, 0)])), (0, 6, 6, (0, 1, [])), (226, 9, 9, (0, 400, [(1000001, 0)]))])), (.inr (some (.inl (ck_one 1))), 245, ([], [], [(0, 0, 0, ck_one 0), (0, 2, 2, ck_one 2), (0, 6, 6, ck_one 0), (0, 5, 5, (0, 400, [(1000033, 0), (1000031, 4)])), (226, 11, 11, (0, 400, [(1000001, 0)])), (0, 3, 3, (0, 400, [(1000033, 0), (1000031, 4)])), (0, 4, 4, ck_one 0), (226, 9, 9, (0, 400, [(1000001, 0)])), (226, 12, 12, ck_one 0), (227, 1250, 1250, (0, 20, [])), (227, 1249, 1249, (0, 2, []))]))])
noncomputable def pg_s69_E : List (Nat × List ck_Sum) := [(250, [pg_s4, pg_s5, pg_s6]), (256, [pg_s8]), (269, [pg_s10]), (275, [pg_s66])]
set_option maxRecDepth 100000 in
noncomputable def pg_s69_F111 : ck_F := ([], [], [(0, 5, 5, (0, 400, [(1000033, 0), (1000031, 4)])), (226, 11, 11, (0, 399, [])), (227, 1250, 1250, (0, 20, [])), (227, 1249, 1249, (0, 2, [])), (0, 4, 4, (1, 4, [])), (0, 2, 2, ck_one 1), (0, 0, 0, (0, 400, [(30, 0)])), (0, 3, 3, ((-400), 400, [(1000031, 0)])), (0, 6, 6, (0, 1, [])), (226, 9, 9, (0, 400, [(1000001, 0)])), (226, 15, 15, (0, 400, [(2, 0)]))])
noncomputable def pg_s69_C111 : ck_C := (rl_A 1, pg_s69_F111, 0, .inl 2, true)
set_option maxRecDepth 100000 in
noncomputable def pg_s69_F147 : ck_F := ([], [], [(0, 5, 5, (0, 400, [(1000033, 0), (1000031, 4)])), (226, 11, 11, (0, 400, [(1000001, 0)])), (0, 3, 3, (0, 400, [(1000033, 0), (1000031, 4)])), (0, 4, 4, ck_one 0), (226, 9, 9, (0, 400, [(1000001, 0)])), (226, 12, 12, ck_one 0), (0, 0, 0, (0, 1, [])), (0, 6, 6, ck_one 1), (227, 1250, 1250, (0, 20, [])), (227, 1249, 1249, (0, 2, [])), (0, 2, 2, ck_one 1), (226, 15, 15, (0, 400, []))])
noncomputable def pg_s69_C147 : ck_C := (rl_A 1, pg_s69_F147, 0, .inl 2, true)
noncomputable def pg_s69_Z : List (Nat × ck_C) := [(147, pg_s69_C147), (111, pg_s69_C111)]
set_option maxRecDepth 100000 in
theorem pg_s69_a : (decide (pg_s69.2.2.1.length ≤ gm_ml 274) && ck_go pg_O none [] pg_s69_E 274 pg_s69.1.1 pg_s69.2.1 pg_s69.2.2.2.2.1 pg_s69.2.2.2.2.2 pg_s69_Z 416 false [(147, pg_s69_C147, 0, 0, 245), (111, pg_s69_C111, 0, 0, 245)] pg_s69.1.2.1 pg_s69.1.2.2 0 (pg_s69.2.2.1.map some ++ List.replicate (gm_ml 274 - pg_s69.2.2.1.length) none) [] pg_s69.2.1 pg_s69.2.2.2.1) = true := by decide +kernel
set_option maxRecDepth 100000 in
theorem pg_s69_b : ck_go pg_O none [] pg_s69_E 274 pg_s69.1.1 245 pg_s69.2.2.2.2.1 pg_s69.2.2.2.2.2 pg_s69_Z 416 false [(147, pg_s69_C147, 0, 0, 245)] 0 0 123 (rl_A 1) [] 245 (rl_F1 1 pg_s69_F111) = true := by decide +kernel
set_option maxRecDepth 100000 in
theorem pg_s69_c : ck_go pg_O none [] pg_s69_E 274 pg_s69.1.1 245 pg_s69.2.2.2.2.1 pg_s69.2.2.2.2.2 pg_s69_Z 416 false [] 0 0 159 (rl_A 1) [] 245 (rl_F2 1 pg_s69_F147) = true := by decide +kernel
theorem pg_s69_u : ck_cu pg_s69_Z = true := by decide +kernel
theorem pg_s69_h {X : Int → Int} {LX : Nat} : ck_nmu pg_O ∧ ck_OkE pg_O X LX pg_s69_E := ⟨pg_nmu, ck_E1 (ck_S1 pg_s4_s (ck_S1 pg_s5_s (ck_S1 pg_s6_s ck_S0))) (ck_E1 (ck_S1 pg_s8_s ck_S0) (ck_E1 (ck_S1 pg_s10_s ck_S0) (ck_E1 (ck_S1 pg_s66_s ck_S0) ck_E0)))⟩
theorem pg_s69_y147 {X : Int → Int} {LX : Nat} {σ σ0 : Nat → Int} {K0 : gm_K} {R0 : gm_R} {M0 : gm_M} (hσ : ∀ s, s < 100 → σ s = σ0 s) : ck_Hy pg_O X LX 274 pg_s69.1.1 pg_s69.2.2.2.2.1 245 K0 R0 M0 (ck_Q pg_O σ0 pg_s69.2.2.2.2.1 245 K0 R0 M0 pg_s69.2.2.2.2.2) σ (147, pg_s69_C147, 0, 0, 245) := rl_147 pg_s69_u pg_s69_h hσ (by decide) (by decide +kernel) (by decide +kernel) ⟨by decide +kernel, by decide +kernel, by decide +kernel, by decide +kernel, by decide +kernel⟩ pg_s69_c (fun _ h => nomatch h)
theorem pg_s69_y111 {X : Int → Int} {LX : Nat} {σ σ0 : Nat → Int} {K0 : gm_K} {R0 : gm_R} {M0 : gm_M} (hσ : ∀ s, s < 100 → σ s = σ0 s) : ck_Hy pg_O X LX 274 pg_s69.1.1 pg_s69.2.2.2.2.1 245 K0 R0 M0 (ck_Q pg_O σ0 pg_s69.2.2.2.2.1 245 K0 R0 M0 pg_s69.2.2.2.2.2) σ (111, pg_s69_C111, 0, 0, 245) := rl_111 pg_s69_u pg_s69_h hσ (by decide) (by decide +kernel) ⟨by decide +kernel, by decide +kernel, by decide +kernel, by decide +kernel⟩ pg_s69_b (fun h hm => by
  rw [List.mem_singleton.mp hm]
  exact ⟨List.mem_cons_self, pg_s69_y147 hσ⟩)
theorem pg_s69_s {X : Int → Int} {LX : Nat} : ck_Ok pg_O X LX 274 pg_s69 := by
  refine ck_ok_st (cuts := pg_s69_Z) pg_s69_u pg_s69_h pg_s69_a (fun h hm => ?_)
  rcases List.mem_cons.mp hm with rfl | hm
  · exact ⟨List.mem_cons_self, fun σ K0 R0 M0 => pg_s69_y147 (fun _ _ => rfl)⟩
  rw [List.mem_singleton.mp hm]
  exact ⟨List.mem_cons_of_mem _ List.mem_cons_self, fun σ K0 R0 M0 => pg_s69_y111 (fun _ _ => rfl)⟩
set_option maxRecDepth 100000 in
/-- GlacierMailModel.readLine -/
noncomputable def pg_s70 : ck_Sum := ((31, 0, 0), 245, [.inr (.inr (.inl 226)), .inl (ck_one 0), .inl (ck_one 1)], ([], [], [(0, 2, 2, ck_one 1), (0, 0, 0, (0, 400, [(30, 0)])), (0, 3, 3, ((-400), 400, [(31, 0)])), (0, 4, 4, ((-400), 400, [(32, 0)])), (0, 5, 5, (0, 400, [(33, 0)])), (0, 6, 6, (0, 1, [])), (226, 9, 9, (0, 400, [(1, 0)])), (226, 15, 15, (0, 400, [(2, 0)]))]), ([(0, 0, 6), (226, 9, 9), (226, 11, 12), (226, 15, 15), (227, 1249, 1252), (227, 1293, 2092)], []), [(.inr (some (.inl (ck_one 0))), 245, ([], [], [(0, 2, 2, ck_one 1), (0, 0, 0, (0, 400, [])), (0, 3, 3, (0, 400, [(1000033, 0)])), (0, 4, 4, ((-400), 400, [])), (0, 5, 5, (0, 400, [(1000033, 0)])), (0, 6, 6, (0, 1, [])), (226, 9, 9, (0, 400, [(1000001, 0)]))])), (.inr (some (.inl (ck_one 1))), 245, ([], [], [(0, 5, 5, (4, 400, [(1000033, 4)])), (226, 11, 11, (0, 400, [(1000001, 0)])), (0, 0, 0, ck_one 0), (0, 2, 2, ck_one 2), (0, 6, 6, ck_one 0), (0, 3, 3, (4, 400, [(1000033, 4)])), (0, 4, 4, ck_one 0), (226, 9, 9, (0, 400, [(1000001, 0)])), (226, 12, 12, ck_one 0), (227, 1250, 1250, (0, 20, [])), (227, 1249, 1249, (0, 2, []))]))])
set_option maxRecDepth 100000 in
theorem pg_s70_s {X : Int → Int} {LX : Nat} : ck_Ok pg_O X LX 247 pg_s70 := ck_ok_s (O := pg_O) (X := X) (LX := LX) (E := [(248, [pg_s3]), (274, [pg_s69])]) (mi := 247) (cuts := []) (f := 102) (S := pg_s70) (lx := none) (XF := []) ⟨pg_nmu, ck_E1 (ck_S1 pg_s3_s ck_S0) (ck_E1 (ck_S1 pg_s69_s ck_S0) ck_E0)⟩ ck_X0 ck_l0 (by decide +kernel)
set_option maxRecDepth 100000 in
/-- GlacierMailModel.readLawLine -/
noncomputable def pg_s71 : ck_Sum := ((30, 0, 0), 245, [.inr (.inr (.inl 226)), .inl (ck_one 2)], ([], [], [(0, 2, 2, ck_one 2), (0, 0, 0, (0, 400, [(30, 0)])), (0, 3, 3, ((-400), 400, [(31, 0)])), (0, 4, 4, ((-400), 400, [(32, 0)])), (0, 5, 5, (0, 400, [(33, 0)])), (0, 6, 6, (0, 1, [])), (226, 9, 9, (0, 400, [(1, 0)])), (226, 15, 15, (0, 400, [(2, 0)]))]), ([(0, 0, 6), (226, 9, 9), (226, 11, 12), (226, 15, 15), (227, 1253, 1256), (227, 1293, 2092)], []), [(.inr (some (.inl (ck_one 0))), 245, ([], [], [(0, 2, 2, ck_one 2), (0, 0, 0, (0, 400, [])), (0, 3, 3, ((-400), 400, [(1000031, 0)])), (0, 4, 4, ((-400), 400, [])), (0, 5, 5, (0, 400, [(1000033, 0)])), (0, 6, 6, (0, 1, [])), (226, 9, 9, (0, 400, [(1000001, 0)]))])), (.inr (some (.inl (ck_one 1))), 245, ([], [], [(0, 0, 0, ck_one 0), (0, 2, 2, ck_one 3), (0, 6, 6, ck_one 0), (0, 5, 5, (0, 400, [(1000033, 0), (1000031, 4)])), (226, 11, 11, (0, 400, [(1000001, 0)])), (0, 3, 3, (0, 400, [(1000033, 0), (1000031, 4)])), (0, 4, 4, ck_one 0), (226, 9, 9, (0, 400, [(1000001, 0)])), (226, 12, 12, ck_one 0), (227, 1254, 1254, (0, 20, [])), (227, 1253, 1253, (0, 2, []))]))])
noncomputable def pg_s71_E : List (Nat × List ck_Sum) := [(250, [pg_s4, pg_s5, pg_s6]), (256, [pg_s8]), (269, [pg_s10]), (275, [pg_s66])]
set_option maxRecDepth 100000 in
noncomputable def pg_s71_F111 : ck_F := ([], [], [(0, 5, 5, (0, 400, [(1000033, 0), (1000031, 4)])), (226, 11, 11, (0, 399, [])), (227, 1254, 1254, (0, 20, [])), (227, 1253, 1253, (0, 2, [])), (0, 4, 4, (1, 4, [])), (0, 2, 2, ck_one 2), (0, 0, 0, (0, 400, [(30, 0)])), (0, 3, 3, ((-400), 400, [(1000031, 0)])), (0, 6, 6, (0, 1, [])), (226, 9, 9, (0, 400, [(1000001, 0)])), (226, 15, 15, (0, 400, [(2, 0)]))])
noncomputable def pg_s71_C111 : ck_C := (rl_A 2, pg_s71_F111, 0, .inl 2, true)
set_option maxRecDepth 100000 in
noncomputable def pg_s71_F147 : ck_F := ([], [], [(0, 5, 5, (0, 400, [(1000033, 0), (1000031, 4)])), (226, 11, 11, (0, 400, [(1000001, 0)])), (0, 3, 3, (0, 400, [(1000033, 0), (1000031, 4)])), (0, 4, 4, ck_one 0), (226, 9, 9, (0, 400, [(1000001, 0)])), (226, 12, 12, ck_one 0), (0, 0, 0, (0, 1, [])), (0, 6, 6, ck_one 1), (227, 1254, 1254, (0, 20, [])), (227, 1253, 1253, (0, 2, [])), (0, 2, 2, ck_one 2), (226, 15, 15, (0, 400, []))])
noncomputable def pg_s71_C147 : ck_C := (rl_A 2, pg_s71_F147, 0, .inl 2, true)
noncomputable def pg_s71_Z : List (Nat × ck_C) := [(147, pg_s71_C147), (111, pg_s71_C111)]
set_option maxRecDepth 100000 in
theorem pg_s71_a : (decide (pg_s71.2.2.1.length ≤ gm_ml 274) && ck_go pg_O none [] pg_s71_E 274 pg_s71.1.1 pg_s71.2.1 pg_s71.2.2.2.2.1 pg_s71.2.2.2.2.2 pg_s71_Z 416 false [(147, pg_s71_C147, 0, 0, 245), (111, pg_s71_C111, 0, 0, 245)] pg_s71.1.2.1 pg_s71.1.2.2 0 (pg_s71.2.2.1.map some ++ List.replicate (gm_ml 274 - pg_s71.2.2.1.length) none) [] pg_s71.2.1 pg_s71.2.2.2.1) = true := by decide +kernel
set_option maxRecDepth 100000 in
theorem pg_s71_b : ck_go pg_O none [] pg_s71_E 274 pg_s71.1.1 245 pg_s71.2.2.2.2.1 pg_s71.2.2.2.2.2 pg_s71_Z 416 false [(147, pg_s71_C147, 0, 0, 245)] 0 0 123 (rl_A 2) [] 245 (rl_F1 2 pg_s71_F111) = true := by decide +kernel
set_option maxRecDepth 100000 in
theorem pg_s71_c : ck_go pg_O none [] pg_s71_E 274 pg_s71.1.1 245 pg_s71.2.2.2.2.1 pg_s71.2.2.2.2.2 pg_s71_Z 416 false [] 0 0 159 (rl_A 2) [] 245 (rl_F2 2 pg_s71_F147) = true := by decide +kernel
theorem pg_s71_u : ck_cu pg_s71_Z = true := by decide +kernel
theorem pg_s71_h {X : Int → Int} {LX : Nat} : ck_nmu pg_O ∧ ck_OkE pg_O X LX pg_s71_E := ⟨pg_nmu, ck_E1 (ck_S1 pg_s4_s (ck_S1 pg_s5_s (ck_S1 pg_s6_s ck_S0))) (ck_E1 (ck_S1 pg_s8_s ck_S0) (ck_E1 (ck_S1 pg_s10_s ck_S0) (ck_E1 (ck_S1 pg_s66_s ck_S0) ck_E0)))⟩
theorem pg_s71_y147 {X : Int → Int} {LX : Nat} {σ σ0 : Nat → Int} {K0 : gm_K} {R0 : gm_R} {M0 : gm_M} (hσ : ∀ s, s < 100 → σ s = σ0 s) : ck_Hy pg_O X LX 274 pg_s71.1.1 pg_s71.2.2.2.2.1 245 K0 R0 M0 (ck_Q pg_O σ0 pg_s71.2.2.2.2.1 245 K0 R0 M0 pg_s71.2.2.2.2.2) σ (147, pg_s71_C147, 0, 0, 245) := rl_147 pg_s71_u pg_s71_h hσ (by decide) (by decide +kernel) (by decide +kernel) ⟨by decide +kernel, by decide +kernel, by decide +kernel, by decide +kernel, by decide +kernel⟩ pg_s71_c (fun _ h => nomatch h)
theorem pg_s71_y111 {X : Int → Int} {LX : Nat} {σ σ0 : Nat → Int} {K0 : gm_K} {R0 : gm_R} {M0 : gm_M} (hσ : ∀ s, s < 100 → σ s = σ0 s) : ck_Hy pg_O X LX 274 pg_s71.1.1 pg_s71.2.2.2.2.1 245 K0 R0 M0 (ck_Q pg_O σ0 pg_s71.2.2.2.2.1 245 K0 R0 M0 pg_s71.2.2.2.2.2) σ (111, pg_s71_C111, 0, 0, 245) := rl_111 pg_s71_u pg_s71_h hσ (by decide) (by decide +kernel) ⟨by decide +kernel, by decide +kernel, by decide +kernel, by decide +kernel⟩ pg_s71_b (fun h hm => by
  rw [List.mem_singleton.mp hm]
  exact ⟨List.mem_cons_self, pg_s71_y147 hσ⟩)
theorem pg_s71_s {X : Int → Int} {LX : Nat} : ck_Ok pg_O X LX 274 pg_s71 := by
  refine ck_ok_st (cuts := pg_s71_Z) pg_s71_u pg_s71_h pg_s71_a (fun h hm => ?_)
  rcases List.mem_cons.mp hm with rfl | hm
  · exact ⟨List.mem_cons_self, fun σ K0 R0 M0 => pg_s71_y147 (fun _ _ => rfl)⟩
  rw [List.mem_singleton.mp hm]
  exact ⟨List.mem_cons_of_mem _ List.mem_cons_self, fun σ K0 R0 M0 => pg_s71_y111 (fun _ _ => rfl)⟩
set_option maxRecDepth 100000 in
/-- GlacierMailModel.readLine -/
noncomputable def pg_s72 : ck_Sum := ((31, 0, 0), 245, [.inr (.inr (.inl 226)), .inl (ck_one 0), .inl (ck_one 2)], ([], [], [(0, 2, 2, ck_one 2), (0, 0, 0, (0, 400, [(30, 0)])), (0, 3, 3, ((-400), 400, [(31, 0)])), (0, 4, 4, ((-400), 400, [(32, 0)])), (0, 5, 5, (0, 400, [(33, 0)])), (0, 6, 6, (0, 1, [])), (226, 9, 9, (0, 400, [(1, 0)])), (226, 15, 15, (0, 400, [(2, 0)]))]), ([(0, 0, 6), (226, 9, 9), (226, 11, 12), (226, 15, 15), (227, 1253, 1256), (227, 1293, 2092)], []), [(.inr (some (.inl (ck_one 0))), 245, ([], [], [(0, 2, 2, ck_one 2), (0, 0, 0, (0, 400, [])), (0, 3, 3, (0, 400, [(1000033, 0)])), (0, 4, 4, ((-400), 400, [])), (0, 5, 5, (0, 400, [(1000033, 0)])), (0, 6, 6, (0, 1, [])), (226, 9, 9, (0, 400, [(1000001, 0)]))])), (.inr (some (.inl (ck_one 1))), 245, ([], [], [(0, 5, 5, (4, 400, [(1000033, 4)])), (226, 11, 11, (0, 400, [(1000001, 0)])), (0, 0, 0, ck_one 0), (0, 2, 2, ck_one 3), (0, 6, 6, ck_one 0), (0, 3, 3, (4, 400, [(1000033, 4)])), (0, 4, 4, ck_one 0), (226, 9, 9, (0, 400, [(1000001, 0)])), (226, 12, 12, ck_one 0), (227, 1254, 1254, (0, 20, [])), (227, 1253, 1253, (0, 2, []))]))])
set_option maxRecDepth 100000 in
theorem pg_s72_s {X : Int → Int} {LX : Nat} : ck_Ok pg_O X LX 247 pg_s72 := ck_ok_s (O := pg_O) (X := X) (LX := LX) (E := [(248, [pg_s3]), (274, [pg_s71])]) (mi := 247) (cuts := []) (f := 102) (S := pg_s72) (lx := none) (XF := []) ⟨pg_nmu, ck_E1 (ck_S1 pg_s3_s ck_S0) (ck_E1 (ck_S1 pg_s71_s ck_S0) ck_E0)⟩ ck_X0 ck_l0 (by decide +kernel)
set_option maxRecDepth 100000 in
/-- GlacierMailModel.readLawLine -/
noncomputable def pg_s73 : ck_Sum := ((30, 0, 0), 245, [.inr (.inr (.inl 226)), .inl (ck_one 3)], ([], [], [(0, 2, 2, ck_one 3), (0, 0, 0, (0, 400, [(30, 0)])), (0, 3, 3, ((-400), 400, [(31, 0)])), (0, 4, 4, ((-400), 400, [(32, 0)])), (0, 5, 5, (0, 400, [(33, 0)])), (0, 6, 6, (0, 1, [])), (226, 9, 9, (0, 400, [(1, 0)])), (226, 15, 15, (0, 400, [(2, 0)]))]), ([(0, 0, 6), (226, 9, 9), (226, 11, 12), (226, 15, 15), (227, 1257, 1260), (227, 1293, 2092)], []), [(.inr (some (.inl (ck_one 0))), 245, ([], [], [(0, 2, 2, ck_one 3), (0, 0, 0, (0, 400, [])), (0, 3, 3, ((-400), 400, [(1000031, 0)])), (0, 4, 4, ((-400), 400, [])), (0, 5, 5, (0, 400, [(1000033, 0)])), (0, 6, 6, (0, 1, [])), (226, 9, 9, (0, 400, [(1000001, 0)]))])), (.inr (some (.inl (ck_one 1))), 245, ([], [], [(0, 0, 0, ck_one 0), (0, 2, 2, ck_one 4), (0, 6, 6, ck_one 0), (0, 5, 5, (0, 400, [(1000033, 0), (1000031, 4)])), (226, 11, 11, (0, 400, [(1000001, 0)])), (0, 3, 3, (0, 400, [(1000033, 0), (1000031, 4)])), (0, 4, 4, ck_one 0), (226, 9, 9, (0, 400, [(1000001, 0)])), (226, 12, 12, ck_one 0), (227, 1258, 1258, (0, 20, [])), (227, 1257, 1257, (0, 2, []))]))])
noncomputable def pg_s73_E : List (Nat × List ck_Sum) := [(250, [pg_s4, pg_s5, pg_s6]), (256, [pg_s8]), (269, [pg_s10]), (275, [pg_s66])]
set_option maxRecDepth 100000 in
noncomputable def pg_s73_F111 : ck_F := ([], [], [(0, 5, 5, (0, 400, [(1000033, 0), (1000031, 4)])), (226, 11, 11, (0, 399, [])), (227, 1258, 1258, (0, 20, [])), (227, 1257, 1257, (0, 2, [])), (0, 4, 4, (1, 4, [])), (0, 2, 2, ck_one 3), (0, 0, 0, (0, 400, [(30, 0)])), (0, 3, 3, ((-400), 400, [(1000031, 0)])), (0, 6, 6, (0, 1, [])), (226, 9, 9, (0, 400, [(1000001, 0)])), (226, 15, 15, (0, 400, [(2, 0)]))])
noncomputable def pg_s73_C111 : ck_C := (rl_A 3, pg_s73_F111, 0, .inl 2, true)
set_option maxRecDepth 100000 in
noncomputable def pg_s73_F147 : ck_F := ([], [], [(0, 5, 5, (0, 400, [(1000033, 0), (1000031, 4)])), (226, 11, 11, (0, 400, [(1000001, 0)])), (0, 3, 3, (0, 400, [(1000033, 0), (1000031, 4)])), (0, 4, 4, ck_one 0), (226, 9, 9, (0, 400, [(1000001, 0)])), (226, 12, 12, ck_one 0), (0, 0, 0, (0, 1, [])), (0, 6, 6, ck_one 1), (227, 1258, 1258, (0, 20, [])), (227, 1257, 1257, (0, 2, [])), (0, 2, 2, ck_one 3), (226, 15, 15, (0, 400, []))])
noncomputable def pg_s73_C147 : ck_C := (rl_A 3, pg_s73_F147, 0, .inl 2, true)
noncomputable def pg_s73_Z : List (Nat × ck_C) := [(147, pg_s73_C147), (111, pg_s73_C111)]
set_option maxRecDepth 100000 in
theorem pg_s73_a : (decide (pg_s73.2.2.1.length ≤ gm_ml 274) && ck_go pg_O none [] pg_s73_E 274 pg_s73.1.1 pg_s73.2.1 pg_s73.2.2.2.2.1 pg_s73.2.2.2.2.2 pg_s73_Z 416 false [(147, pg_s73_C147, 0, 0, 245), (111, pg_s73_C111, 0, 0, 245)] pg_s73.1.2.1 pg_s73.1.2.2 0 (pg_s73.2.2.1.map some ++ List.replicate (gm_ml 274 - pg_s73.2.2.1.length) none) [] pg_s73.2.1 pg_s73.2.2.2.1) = true := by decide +kernel
set_option maxRecDepth 100000 in
theorem pg_s73_b : ck_go pg_O none [] pg_s73_E 274 pg_s73.1.1 245 pg_s73.2.2.2.2.1 pg_s73.2.2.2.2.2 pg_s73_Z 416 false [(147, pg_s73_C147, 0, 0, 245)] 0 0 123 (rl_A 3) [] 245 (rl_F1 3 pg_s73_F111) = true := by decide +kernel
set_option maxRecDepth 100000 in
theorem pg_s73_c : ck_go pg_O none [] pg_s73_E 274 pg_s73.1.1 245 pg_s73.2.2.2.2.1 pg_s73.2.2.2.2.2 pg_s73_Z 416 false [] 0 0 159 (rl_A 3) [] 245 (rl_F2 3 pg_s73_F147) = true := by decide +kernel
theorem pg_s73_u : ck_cu pg_s73_Z = true := by decide +kernel
theorem pg_s73_h {X : Int → Int} {LX : Nat} : ck_nmu pg_O ∧ ck_OkE pg_O X LX pg_s73_E := ⟨pg_nmu, ck_E1 (ck_S1 pg_s4_s (ck_S1 pg_s5_s (ck_S1 pg_s6_s ck_S0))) (ck_E1 (ck_S1 pg_s8_s ck_S0) (ck_E1 (ck_S1 pg_s10_s ck_S0) (ck_E1 (ck_S1 pg_s66_s ck_S0) ck_E0)))⟩
theorem pg_s73_y147 {X : Int → Int} {LX : Nat} {σ σ0 : Nat → Int} {K0 : gm_K} {R0 : gm_R} {M0 : gm_M} (hσ : ∀ s, s < 100 → σ s = σ0 s) : ck_Hy pg_O X LX 274 pg_s73.1.1 pg_s73.2.2.2.2.1 245 K0 R0 M0 (ck_Q pg_O σ0 pg_s73.2.2.2.2.1 245 K0 R0 M0 pg_s73.2.2.2.2.2) σ (147, pg_s73_C147, 0, 0, 245) := rl_147 pg_s73_u pg_s73_h hσ (by decide) (by decide +kernel) (by decide +kernel) ⟨by decide +kernel, by decide +kernel, by decide +kernel, by decide +kernel, by decide +kernel⟩ pg_s73_c (fun _ h => nomatch h)
theorem pg_s73_y111 {X : Int → Int} {LX : Nat} {σ σ0 : Nat → Int} {K0 : gm_K} {R0 : gm_R} {M0 : gm_M} (hσ : ∀ s, s < 100 → σ s = σ0 s) : ck_Hy pg_O X LX 274 pg_s73.1.1 pg_s73.2.2.2.2.1 245 K0 R0 M0 (ck_Q pg_O σ0 pg_s73.2.2.2.2.1 245 K0 R0 M0 pg_s73.2.2.2.2.2) σ (111, pg_s73_C111, 0, 0, 245) := rl_111 pg_s73_u pg_s73_h hσ (by decide) (by decide +kernel) ⟨by decide +kernel, by decide +kernel, by decide +kernel, by decide +kernel⟩ pg_s73_b (fun h hm => by
  rw [List.mem_singleton.mp hm]
  exact ⟨List.mem_cons_self, pg_s73_y147 hσ⟩)
theorem pg_s73_s {X : Int → Int} {LX : Nat} : ck_Ok pg_O X LX 274 pg_s73 := by
  refine ck_ok_st (cuts := pg_s73_Z) pg_s73_u pg_s73_h pg_s73_a (fun h hm => ?_)
  rcases List.mem_cons.mp hm with rfl | hm
  · exact ⟨List.mem_cons_self, fun σ K0 R0 M0 => pg_s73_y147 (fun _ _ => rfl)⟩
  rw [List.mem_singleton.mp hm]
  exact ⟨List.mem_cons_of_mem _ List.mem_cons_self, fun σ K0 R0 M0 => pg_s73_y111 (fun _ _ => rfl)⟩
set_option maxRecDepth 100000 in
/-- GlacierMailModel.readLine -/
noncomputable def pg_s74 : ck_Sum := ((31, 0, 0), 245, [.inr (.inr (.inl 226)), .inl (ck_one 0), .inl (ck_one 3)], ([], [], [(0, 2, 2, ck_one 3), (0, 0, 0, (0, 400, [(30, 0)])), (0, 3, 3, ((-400), 400, [(31, 0)])), (0, 4, 4, ((-400), 400, [(32, 0)])), (0, 5, 5, (0, 400, [(33, 0)])), (0, 6, 6, (0, 1, [])), (226, 9, 9, (0, 400, [(1, 0)])), (226, 15, 15, (0, 400, [(2, 0)]))]), ([(0, 0, 6), (226, 9, 9), (226, 11, 12), (226, 15, 15), (227, 1257, 1260), (227, 1293, 2092)], []), [(.inr (some (.inl (ck_one 0))), 245, ([], [], [(0, 2, 2, ck_one 3), (0, 0, 0, (0, 400, [])), (0, 3, 3, (0, 400, [(1000033, 0)])), (0, 4, 4, ((-400), 400, [])), (0, 5, 5, (0, 400, [(1000033, 0)])), (0, 6, 6, (0, 1, [])), (226, 9, 9, (0, 400, [(1000001, 0)]))])), (.inr (some (.inl (ck_one 1))), 245, ([], [], [(0, 5, 5, (4, 400, [(1000033, 4)])), (226, 11, 11, (0, 400, [(1000001, 0)])), (0, 0, 0, ck_one 0), (0, 2, 2, ck_one 4), (0, 6, 6, ck_one 0), (0, 3, 3, (4, 400, [(1000033, 4)])), (0, 4, 4, ck_one 0), (226, 9, 9, (0, 400, [(1000001, 0)])), (226, 12, 12, ck_one 0), (227, 1258, 1258, (0, 20, [])), (227, 1257, 1257, (0, 2, []))]))])
set_option maxRecDepth 100000 in
theorem pg_s74_s {X : Int → Int} {LX : Nat} : ck_Ok pg_O X LX 247 pg_s74 := ck_ok_s (O := pg_O) (X := X) (LX := LX) (E := [(248, [pg_s3]), (274, [pg_s73])]) (mi := 247) (cuts := []) (f := 102) (S := pg_s74) (lx := none) (XF := []) ⟨pg_nmu, ck_E1 (ck_S1 pg_s3_s ck_S0) (ck_E1 (ck_S1 pg_s73_s ck_S0) ck_E0)⟩ ck_X0 ck_l0 (by decide +kernel)
set_option maxRecDepth 100000 in
/-- GlacierMailModel.readLawLine -/
noncomputable def pg_s75 : ck_Sum := ((30, 0, 0), 245, [.inr (.inr (.inl 226)), .inl (ck_one 4)], ([], [], [(0, 2, 2, ck_one 4), (0, 0, 0, (0, 400, [(30, 0)])), (0, 3, 3, ((-400), 400, [(31, 0)])), (0, 4, 4, ((-400), 400, [(32, 0)])), (0, 5, 5, (0, 400, [(33, 0)])), (0, 6, 6, (0, 1, [])), (226, 9, 9, (0, 400, [(1, 0)])), (226, 15, 15, (0, 400, [(2, 0)]))]), ([(0, 0, 6), (226, 9, 9), (226, 11, 12), (226, 15, 15), (227, 1261, 1264), (227, 1293, 2092)], []), [(.inr (some (.inl (ck_one 0))), 245, ([], [], [(0, 2, 2, ck_one 4), (0, 0, 0, (0, 400, [])), (0, 3, 3, ((-400), 400, [(1000031, 0)])), (0, 4, 4, ((-400), 400, [])), (0, 5, 5, (0, 400, [(1000033, 0)])), (0, 6, 6, (0, 1, [])), (226, 9, 9, (0, 400, [(1000001, 0)]))])), (.inr (some (.inl (ck_one 1))), 245, ([], [], [(0, 0, 0, ck_one 0), (0, 2, 2, ck_one 5), (0, 6, 6, ck_one 0), (0, 5, 5, (0, 400, [(1000033, 0), (1000031, 4)])), (226, 11, 11, (0, 400, [(1000001, 0)])), (0, 3, 3, (0, 400, [(1000033, 0), (1000031, 4)])), (0, 4, 4, ck_one 0), (226, 9, 9, (0, 400, [(1000001, 0)])), (226, 12, 12, ck_one 0), (227, 1262, 1262, (0, 20, [])), (227, 1261, 1261, (0, 2, []))]))])
noncomputable def pg_s75_E : List (Nat × List ck_Sum) := [(250, [pg_s4, pg_s5, pg_s6]), (256, [pg_s8]), (269, [pg_s10]), (275, [pg_s66])]
set_option maxRecDepth 100000 in
noncomputable def pg_s75_F111 : ck_F := ([], [], [(0, 5, 5, (0, 400, [(1000033, 0), (1000031, 4)])), (226, 11, 11, (0, 399, [])), (227, 1262, 1262, (0, 20, [])), (227, 1261, 1261, (0, 2, [])), (0, 4, 4, (1, 4, [])), (0, 2, 2, ck_one 4), (0, 0, 0, (0, 400, [(30, 0)])), (0, 3, 3, ((-400), 400, [(1000031, 0)])), (0, 6, 6, (0, 1, [])), (226, 9, 9, (0, 400, [(1000001, 0)])), (226, 15, 15, (0, 400, [(2, 0)]))])
noncomputable def pg_s75_C111 : ck_C := (rl_A 4, pg_s75_F111, 0, .inl 2, true)
set_option maxRecDepth 100000 in
noncomputable def pg_s75_F147 : ck_F := ([], [], [(0, 5, 5, (0, 400, [(1000033, 0), (1000031, 4)])), (226, 11, 11, (0, 400, [(1000001, 0)])), (0, 3, 3, (0, 400, [(1000033, 0), (1000031, 4)])), (0, 4, 4, ck_one 0), (226, 9, 9, (0, 400, [(1000001, 0)])), (226, 12, 12, ck_one 0), (0, 0, 0, (0, 1, [])), (0, 6, 6, ck_one 1), (227, 1262, 1262, (0, 20, [])), (227, 1261, 1261, (0, 2, [])), (0, 2, 2, ck_one 4), (226, 15, 15, (0, 400, []))])
noncomputable def pg_s75_C147 : ck_C := (rl_A 4, pg_s75_F147, 0, .inl 2, true)
noncomputable def pg_s75_Z : List (Nat × ck_C) := [(147, pg_s75_C147), (111, pg_s75_C111)]
set_option maxRecDepth 100000 in
theorem pg_s75_a : (decide (pg_s75.2.2.1.length ≤ gm_ml 274) && ck_go pg_O none [] pg_s75_E 274 pg_s75.1.1 pg_s75.2.1 pg_s75.2.2.2.2.1 pg_s75.2.2.2.2.2 pg_s75_Z 416 false [(147, pg_s75_C147, 0, 0, 245), (111, pg_s75_C111, 0, 0, 245)] pg_s75.1.2.1 pg_s75.1.2.2 0 (pg_s75.2.2.1.map some ++ List.replicate (gm_ml 274 - pg_s75.2.2.1.length) none) [] pg_s75.2.1 pg_s75.2.2.2.1) = true := by decide +kernel
set_option maxRecDepth 100000 in
theorem pg_s75_b : ck_go pg_O none [] pg_s75_E 274 pg_s75.1.1 245 pg_s75.2.2.2.2.1 pg_s75.2.2.2.2.2 pg_s75_Z 416 false [(147, pg_s75_C147, 0, 0, 245)] 0 0 123 (rl_A 4) [] 245 (rl_F1 4 pg_s75_F111) = true := by decide +kernel
set_option maxRecDepth 100000 in
theorem pg_s75_c : ck_go pg_O none [] pg_s75_E 274 pg_s75.1.1 245 pg_s75.2.2.2.2.1 pg_s75.2.2.2.2.2 pg_s75_Z 416 false [] 0 0 159 (rl_A 4) [] 245 (rl_F2 4 pg_s75_F147) = true := by decide +kernel
theorem pg_s75_u : ck_cu pg_s75_Z = true := by decide +kernel
theorem pg_s75_h {X : Int → Int} {LX : Nat} : ck_nmu pg_O ∧ ck_OkE pg_O X LX pg_s75_E := ⟨pg_nmu, ck_E1 (ck_S1 pg_s4_s (ck_S1 pg_s5_s (ck_S1 pg_s6_s ck_S0))) (ck_E1 (ck_S1 pg_s8_s ck_S0) (ck_E1 (ck_S1 pg_s10_s ck_S0) (ck_E1 (ck_S1 pg_s66_s ck_S0) ck_E0)))⟩
theorem pg_s75_y147 {X : Int → Int} {LX : Nat} {σ σ0 : Nat → Int} {K0 : gm_K} {R0 : gm_R} {M0 : gm_M} (hσ : ∀ s, s < 100 → σ s = σ0 s) : ck_Hy pg_O X LX 274 pg_s75.1.1 pg_s75.2.2.2.2.1 245 K0 R0 M0 (ck_Q pg_O σ0 pg_s75.2.2.2.2.1 245 K0 R0 M0 pg_s75.2.2.2.2.2) σ (147, pg_s75_C147, 0, 0, 245) := rl_147 pg_s75_u pg_s75_h hσ (by decide) (by decide +kernel) (by decide +kernel) ⟨by decide +kernel, by decide +kernel, by decide +kernel, by decide +kernel, by decide +kernel⟩ pg_s75_c (fun _ h => nomatch h)
theorem pg_s75_y111 {X : Int → Int} {LX : Nat} {σ σ0 : Nat → Int} {K0 : gm_K} {R0 : gm_R} {M0 : gm_M} (hσ : ∀ s, s < 100 → σ s = σ0 s) : ck_Hy pg_O X LX 274 pg_s75.1.1 pg_s75.2.2.2.2.1 245 K0 R0 M0 (ck_Q pg_O σ0 pg_s75.2.2.2.2.1 245 K0 R0 M0 pg_s75.2.2.2.2.2) σ (111, pg_s75_C111, 0, 0, 245) := rl_111 pg_s75_u pg_s75_h hσ (by decide) (by decide +kernel) ⟨by decide +kernel, by decide +kernel, by decide +kernel, by decide +kernel⟩ pg_s75_b (fun h hm => by
  rw [List.mem_singleton.mp hm]
  exact ⟨List.mem_cons_self, pg_s75_y147 hσ⟩)
theorem pg_s75_s {X : Int → Int} {LX : Nat} : ck_Ok pg_O X LX 274 pg_s75 := by
  refine ck_ok_st (cuts := pg_s75_Z) pg_s75_u pg_s75_h pg_s75_a (fun h hm => ?_)
  rcases List.mem_cons.mp hm with rfl | hm
  · exact ⟨List.mem_cons_self, fun σ K0 R0 M0 => pg_s75_y147 (fun _ _ => rfl)⟩
  rw [List.mem_singleton.mp hm]
  exact ⟨List.mem_cons_of_mem _ List.mem_cons_self, fun σ K0 R0 M0 => pg_s75_y111 (fun _ _ => rfl)⟩
set_option maxRecDepth 100000 in
/-- GlacierMailModel.readLine -/
noncomputable def pg_s76 : ck_Sum := ((31, 0, 0), 245, [.inr (.inr (.inl 226)), .inl (ck_one 0), .inl (ck_one 4)], ([], [], [(0, 2, 2, ck_one 4), (0, 0, 0, (0, 400, [(30, 0)])), (0, 3, 3, ((-400), 400, [(31, 0)])), (0, 4, 4, ((-400), 400, [(32, 0)])), (0, 5, 5, (0, 400, [(33, 0)])), (0, 6, 6, (0, 1, [])), (226, 9, 9, (0, 400, [(1, 0)])), (226, 15, 15, (0, 400, [(2, 0)]))]), ([(0, 0, 6), (226, 9, 9), (226, 11, 12), (226, 15, 15), (227, 1261, 1264), (227, 1293, 2092)], []), [(.inr (some (.inl (ck_one 0))), 245, ([], [], [(0, 2, 2, ck_one 4), (0, 0, 0, (0, 400, [])), (0, 3, 3, (0, 400, [(1000033, 0)])), (0, 4, 4, ((-400), 400, [])), (0, 5, 5, (0, 400, [(1000033, 0)])), (0, 6, 6, (0, 1, [])), (226, 9, 9, (0, 400, [(1000001, 0)]))])), (.inr (some (.inl (ck_one 1))), 245, ([], [], [(0, 5, 5, (4, 400, [(1000033, 4)])), (226, 11, 11, (0, 400, [(1000001, 0)])), (0, 0, 0, ck_one 0), (0, 2, 2, ck_one 5), (0, 6, 6, ck_one 0), (0, 3, 3, (4, 400, [(1000033, 4)])), (0, 4, 4, ck_one 0), (226, 9, 9, (0, 400, [(1000001, 0)])), (226, 12, 12, ck_one 0), (227, 1262, 1262, (0, 20, [])), (227, 1261, 1261, (0, 2, []))]))])
set_option maxRecDepth 100000 in
theorem pg_s76_s {X : Int → Int} {LX : Nat} : ck_Ok pg_O X LX 247 pg_s76 := ck_ok_s (O := pg_O) (X := X) (LX := LX) (E := [(248, [pg_s3]), (274, [pg_s75])]) (mi := 247) (cuts := []) (f := 102) (S := pg_s76) (lx := none) (XF := []) ⟨pg_nmu, ck_E1 (ck_S1 pg_s3_s ck_S0) (ck_E1 (ck_S1 pg_s75_s ck_S0) ck_E0)⟩ ck_X0 ck_l0 (by decide +kernel)
set_option maxRecDepth 100000 in
/-- GlacierMailModel.readLawLine -/
noncomputable def pg_s77 : ck_Sum := ((30, 0, 0), 245, [.inr (.inr (.inl 226)), .inl (ck_one 5)], ([], [], [(0, 2, 2, ck_one 5), (0, 0, 0, (0, 400, [(30, 0)])), (0, 3, 3, ((-400), 400, [(31, 0)])), (0, 4, 4, ((-400), 400, [(32, 0)])), (0, 5, 5, (0, 400, [(33, 0)])), (0, 6, 6, (0, 1, [])), (226, 9, 9, (0, 400, [(1, 0)])), (226, 15, 15, (0, 400, [(2, 0)]))]), ([(0, 0, 6), (226, 9, 9), (226, 11, 12), (226, 15, 15), (227, 1265, 1268), (227, 1293, 2092)], []), [(.inr (some (.inl (ck_one 0))), 245, ([], [], [(0, 2, 2, ck_one 5), (0, 0, 0, (0, 400, [])), (0, 3, 3, ((-400), 400, [(1000031, 0)])), (0, 4, 4, ((-400), 400, [])), (0, 5, 5, (0, 400, [(1000033, 0)])), (0, 6, 6, (0, 1, [])), (226, 9, 9, (0, 400, [(1000001, 0)]))])), (.inr (some (.inl (ck_one 1))), 245, ([], [], [(0, 0, 0, ck_one 0), (0, 2, 2, ck_one 6), (0, 6, 6, ck_one 0), (0, 5, 5, (0, 400, [(1000033, 0), (1000031, 4)])), (226, 11, 11, (0, 400, [(1000001, 0)])), (0, 3, 3, (0, 400, [(1000033, 0), (1000031, 4)])), (0, 4, 4, ck_one 0), (226, 9, 9, (0, 400, [(1000001, 0)])), (226, 12, 12, ck_one 0), (227, 1266, 1266, (0, 20, [])), (227, 1265, 1265, (0, 2, []))]))])
noncomputable def pg_s77_E : List (Nat × List ck_Sum) := [(250, [pg_s4, pg_s5, pg_s6]), (256, [pg_s8]), (269, [pg_s10]), (275, [pg_s66])]
set_option maxRecDepth 100000 in
noncomputable def pg_s77_F111 : ck_F := ([], [], [(0, 5, 5, (0, 400, [(1000033, 0), (1000031, 4)])), (226, 11, 11, (0, 399, [])), (227, 1266, 1266, (0, 20, [])), (227, 1265, 1265, (0, 2, [])), (0, 4, 4, (1, 4, [])), (0, 2, 2, ck_one 5), (0, 0, 0, (0, 400, [(30, 0)])), (0, 3, 3, ((-400), 400, [(1000031, 0)])), (0, 6, 6, (0, 1, [])), (226, 9, 9, (0, 400, [(1000001, 0)])), (226, 15, 15, (0, 400, [(2, 0)]))])
noncomputable def pg_s77_C111 : ck_C := (rl_A 5, pg_s77_F111, 0, .inl 2, true)
set_option maxRecDepth 100000 in
noncomputable def pg_s77_F147 : ck_F := ([], [], [(0, 5, 5, (0, 400, [(1000033, 0), (1000031, 4)])), (226, 11, 11, (0, 400, [(1000001, 0)])), (0, 3, 3, (0, 400, [(1000033, 0), (1000031, 4)])), (0, 4, 4, ck_one 0), (226, 9, 9, (0, 400, [(1000001, 0)])), (226, 12, 12, ck_one 0), (0, 0, 0, (0, 1, [])), (0, 6, 6, ck_one 1), (227, 1266, 1266, (0, 20, [])), (227, 1265, 1265, (0, 2, [])), (0, 2, 2, ck_one 5), (226, 15, 15, (0, 400, []))])
noncomputable def pg_s77_C147 : ck_C := (rl_A 5, pg_s77_F147, 0, .inl 2, true)
noncomputable def pg_s77_Z : List (Nat × ck_C) := [(147, pg_s77_C147), (111, pg_s77_C111)]
set_option maxRecDepth 100000 in
theorem pg_s77_a : (decide (pg_s77.2.2.1.length ≤ gm_ml 274) && ck_go pg_O none [] pg_s77_E 274 pg_s77.1.1 pg_s77.2.1 pg_s77.2.2.2.2.1 pg_s77.2.2.2.2.2 pg_s77_Z 416 false [(147, pg_s77_C147, 0, 0, 245), (111, pg_s77_C111, 0, 0, 245)] pg_s77.1.2.1 pg_s77.1.2.2 0 (pg_s77.2.2.1.map some ++ List.replicate (gm_ml 274 - pg_s77.2.2.1.length) none) [] pg_s77.2.1 pg_s77.2.2.2.1) = true := by decide +kernel
set_option maxRecDepth 100000 in
theorem pg_s77_b : ck_go pg_O none [] pg_s77_E 274 pg_s77.1.1 245 pg_s77.2.2.2.2.1 pg_s77.2.2.2.2.2 pg_s77_Z 416 false [(147, pg_s77_C147, 0, 0, 245)] 0 0 123 (rl_A 5) [] 245 (rl_F1 5 pg_s77_F111) = true := by decide +kernel
set_option maxRecDepth 100000 in
theorem pg_s77_c : ck_go pg_O none [] pg_s77_E 274 pg_s77.1.1 245 pg_s77.2.2.2.2.1 pg_s77.2.2.2.2.2 pg_s77_Z 416 false [] 0 0 159 (rl_A 5) [] 245 (rl_F2 5 pg_s77_F147) = true := by decide +kernel
theorem pg_s77_u : ck_cu pg_s77_Z = true := by decide +kernel
theorem pg_s77_h {X : Int → Int} {LX : Nat} : ck_nmu pg_O ∧ ck_OkE pg_O X LX pg_s77_E := ⟨pg_nmu, ck_E1 (ck_S1 pg_s4_s (ck_S1 pg_s5_s (ck_S1 pg_s6_s ck_S0))) (ck_E1 (ck_S1 pg_s8_s ck_S0) (ck_E1 (ck_S1 pg_s10_s ck_S0) (ck_E1 (ck_S1 pg_s66_s ck_S0) ck_E0)))⟩
theorem pg_s77_y147 {X : Int → Int} {LX : Nat} {σ σ0 : Nat → Int} {K0 : gm_K} {R0 : gm_R} {M0 : gm_M} (hσ : ∀ s, s < 100 → σ s = σ0 s) : ck_Hy pg_O X LX 274 pg_s77.1.1 pg_s77.2.2.2.2.1 245 K0 R0 M0 (ck_Q pg_O σ0 pg_s77.2.2.2.2.1 245 K0 R0 M0 pg_s77.2.2.2.2.2) σ (147, pg_s77_C147, 0, 0, 245) := rl_147 pg_s77_u pg_s77_h hσ (by decide) (by decide +kernel) (by decide +kernel) ⟨by decide +kernel, by decide +kernel, by decide +kernel, by decide +kernel, by decide +kernel⟩ pg_s77_c (fun _ h => nomatch h)
theorem pg_s77_y111 {X : Int → Int} {LX : Nat} {σ σ0 : Nat → Int} {K0 : gm_K} {R0 : gm_R} {M0 : gm_M} (hσ : ∀ s, s < 100 → σ s = σ0 s) : ck_Hy pg_O X LX 274 pg_s77.1.1 pg_s77.2.2.2.2.1 245 K0 R0 M0 (ck_Q pg_O σ0 pg_s77.2.2.2.2.1 245 K0 R0 M0 pg_s77.2.2.2.2.2) σ (111, pg_s77_C111, 0, 0, 245) := rl_111 pg_s77_u pg_s77_h hσ (by decide) (by decide +kernel) ⟨by decide +kernel, by decide +kernel, by decide +kernel, by decide +kernel⟩ pg_s77_b (fun h hm => by
  rw [List.mem_singleton.mp hm]
  exact ⟨List.mem_cons_self, pg_s77_y147 hσ⟩)
theorem pg_s77_s {X : Int → Int} {LX : Nat} : ck_Ok pg_O X LX 274 pg_s77 := by
  refine ck_ok_st (cuts := pg_s77_Z) pg_s77_u pg_s77_h pg_s77_a (fun h hm => ?_)
  rcases List.mem_cons.mp hm with rfl | hm
  · exact ⟨List.mem_cons_self, fun σ K0 R0 M0 => pg_s77_y147 (fun _ _ => rfl)⟩
  rw [List.mem_singleton.mp hm]
  exact ⟨List.mem_cons_of_mem _ List.mem_cons_self, fun σ K0 R0 M0 => pg_s77_y111 (fun _ _ => rfl)⟩
set_option maxRecDepth 100000 in
/-- GlacierMailModel.readLine -/
noncomputable def pg_s78 : ck_Sum := ((31, 0, 0), 245, [.inr (.inr (.inl 226)), .inl (ck_one 0), .inl (ck_one 5)], ([], [], [(0, 2, 2, ck_one 5), (0, 0, 0, (0, 400, [(30, 0)])), (0, 3, 3, ((-400), 400, [(31, 0)])), (0, 4, 4, ((-400), 400, [(32, 0)])), (0, 5, 5, (0, 400, [(33, 0)])), (0, 6, 6, (0, 1, [])), (226, 9, 9, (0, 400, [(1, 0)])), (226, 15, 15, (0, 400, [(2, 0)]))]), ([(0, 0, 6), (226, 9, 9), (226, 11, 12), (226, 15, 15), (227, 1265, 1268), (227, 1293, 2092)], []), [(.inr (some (.inl (ck_one 0))), 245, ([], [], [(0, 2, 2, ck_one 5), (0, 0, 0, (0, 400, [])), (0, 3, 3, (0, 400, [(1000033, 0)])), (0, 4, 4, ((-400), 400, [])), (0, 5, 5, (0, 400, [(1000033, 0)])), (0, 6, 6, (0, 1, [])), (226, 9, 9, (0, 400, [(1000001, 0)]))])), (.inr (some (.inl (ck_one 1))), 245, ([], [], [(0, 5, 5, (4, 400, [(1000033, 4)])), (226, 11, 11, (0, 400, [(1000001, 0)])), (0, 0, 0, ck_one 0), (0, 2, 2, ck_one 6), (0, 6, 6, ck_one 0), (0, 3, 3, (4, 400, [(1000033, 4)])), (0, 4, 4, ck_one 0), (226, 9, 9, (0, 400, [(1000001, 0)])), (226, 12, 12, ck_one 0), (227, 1266, 1266, (0, 20, [])), (227, 1265, 1265, (0, 2, []))]))])
set_option maxRecDepth 100000 in
theorem pg_s78_s {X : Int → Int} {LX : Nat} : ck_Ok pg_O X LX 247 pg_s78 := ck_ok_s (O := pg_O) (X := X) (LX := LX) (E := [(248, [pg_s3]), (274, [pg_s77])]) (mi := 247) (cuts := []) (f := 102) (S := pg_s78) (lx := none) (XF := []) ⟨pg_nmu, ck_E1 (ck_S1 pg_s3_s ck_S0) (ck_E1 (ck_S1 pg_s77_s ck_S0) ck_E0)⟩ ck_X0 ck_l0 (by decide +kernel)
set_option maxRecDepth 100000 in
/-- GlacierMailModel.readLawLine -/
noncomputable def pg_s79 : ck_Sum := ((30, 0, 0), 245, [.inr (.inr (.inl 226)), .inl (ck_one 6)], ([], [], [(0, 2, 2, ck_one 6), (0, 0, 0, (0, 400, [(30, 0)])), (0, 3, 3, ((-400), 400, [(31, 0)])), (0, 4, 4, ((-400), 400, [(32, 0)])), (0, 5, 5, (0, 400, [(33, 0)])), (0, 6, 6, (0, 1, [])), (226, 9, 9, (0, 400, [(1, 0)])), (226, 15, 15, (0, 400, [(2, 0)]))]), ([(0, 0, 6), (226, 9, 9), (226, 11, 12), (226, 15, 15), (227, 1269, 1272), (227, 1293, 2092)], []), [(.inr (some (.inl (ck_one 0))), 245, ([], [], [(0, 2, 2, ck_one 6), (0, 0, 0, (0, 400, [])), (0, 3, 3, ((-400), 400, [(1000031, 0)])), (0, 4, 4, ((-400), 400, [])), (0, 5, 5, (0, 400, [(1000033, 0)])), (0, 6, 6, (0, 1, [])), (226, 9, 9, (0, 400, [(1000001, 0)]))])), (.inr (some (.inl (ck_one 1))), 245, ([], [], [(0, 0, 0, ck_one 0), (0, 2, 2, ck_one 7), (0, 6, 6, ck_one 0), (0, 5, 5, (0, 400, [(1000033, 0), (1000031, 4)])), (226, 11, 11, (0, 400, [(1000001, 0)])), (0, 3, 3, (0, 400, [(1000033, 0), (1000031, 4)])), (0, 4, 4, ck_one 0), (226, 9, 9, (0, 400, [(1000001, 0)])), (226, 12, 12, ck_one 0), (227, 1270, 1270, (0, 20, [])), (227, 1269, 1269, (0, 2, []))]))])
noncomputable def pg_s79_E : List (Nat × List ck_Sum) := [(250, [pg_s4, pg_s5, pg_s6]), (256, [pg_s8]), (269, [pg_s10]), (275, [pg_s66])]
set_option maxRecDepth 100000 in
noncomputable def pg_s79_F111 : ck_F := ([], [], [(0, 5, 5, (0, 400, [(1000033, 0), (1000031, 4)])), (226, 11, 11, (0, 399, [])), (227, 1270, 1270, (0, 20, [])), (227, 1269, 1269, (0, 2, [])), (0, 4, 4, (1, 4, [])), (0, 2, 2, ck_one 6), (0, 0, 0, (0, 400, [(30, 0)])), (0, 3, 3, ((-400), 400, [(1000031, 0)])), (0, 6, 6, (0, 1, [])), (226, 9, 9, (0, 400, [(1000001, 0)])), (226, 15, 15, (0, 400, [(2, 0)]))])
noncomputable def pg_s79_C111 : ck_C := (rl_A 6, pg_s79_F111, 0, .inl 2, true)
set_option maxRecDepth 100000 in
noncomputable def pg_s79_F147 : ck_F := ([], [], [(0, 5, 5, (0, 400, [(1000033, 0), (1000031, 4)])), (226, 11, 11, (0, 400, [(1000001, 0)])), (0, 3, 3, (0, 400, [(1000033, 0), (1000031, 4)])), (0, 4, 4, ck_one 0), (226, 9, 9, (0, 400, [(1000001, 0)])), (226, 12, 12, ck_one 0), (0, 0, 0, (0, 1, [])), (0, 6, 6, ck_one 1), (227, 1270, 1270, (0, 20, [])), (227, 1269, 1269, (0, 2, [])), (0, 2, 2, ck_one 6), (226, 15, 15, (0, 400, []))])
noncomputable def pg_s79_C147 : ck_C := (rl_A 6, pg_s79_F147, 0, .inl 2, true)
noncomputable def pg_s79_Z : List (Nat × ck_C) := [(147, pg_s79_C147), (111, pg_s79_C111)]
set_option maxRecDepth 100000 in
theorem pg_s79_a : (decide (pg_s79.2.2.1.length ≤ gm_ml 274) && ck_go pg_O none [] pg_s79_E 274 pg_s79.1.1 pg_s79.2.1 pg_s79.2.2.2.2.1 pg_s79.2.2.2.2.2 pg_s79_Z 416 false [(147, pg_s79_C147, 0, 0, 245), (111, pg_s79_C111, 0, 0, 245)] pg_s79.1.2.1 pg_s79.1.2.2 0 (pg_s79.2.2.1.map some ++ List.replicate (gm_ml 274 - pg_s79.2.2.1.length) none) [] pg_s79.2.1 pg_s79.2.2.2.1) = true := by decide +kernel
set_option maxRecDepth 100000 in
theorem pg_s79_b : ck_go pg_O none [] pg_s79_E 274 pg_s79.1.1 245 pg_s79.2.2.2.2.1 pg_s79.2.2.2.2.2 pg_s79_Z 416 false [(147, pg_s79_C147, 0, 0, 245)] 0 0 123 (rl_A 6) [] 245 (rl_F1 6 pg_s79_F111) = true := by decide +kernel
set_option maxRecDepth 100000 in
theorem pg_s79_c : ck_go pg_O none [] pg_s79_E 274 pg_s79.1.1 245 pg_s79.2.2.2.2.1 pg_s79.2.2.2.2.2 pg_s79_Z 416 false [] 0 0 159 (rl_A 6) [] 245 (rl_F2 6 pg_s79_F147) = true := by decide +kernel
theorem pg_s79_u : ck_cu pg_s79_Z = true := by decide +kernel
theorem pg_s79_h {X : Int → Int} {LX : Nat} : ck_nmu pg_O ∧ ck_OkE pg_O X LX pg_s79_E := ⟨pg_nmu, ck_E1 (ck_S1 pg_s4_s (ck_S1 pg_s5_s (ck_S1 pg_s6_s ck_S0))) (ck_E1 (ck_S1 pg_s8_s ck_S0) (ck_E1 (ck_S1 pg_s10_s ck_S0) (ck_E1 (ck_S1 pg_s66_s ck_S0) ck_E0)))⟩
theorem pg_s79_y147 {X : Int → Int} {LX : Nat} {σ σ0 : Nat → Int} {K0 : gm_K} {R0 : gm_R} {M0 : gm_M} (hσ : ∀ s, s < 100 → σ s = σ0 s) : ck_Hy pg_O X LX 274 pg_s79.1.1 pg_s79.2.2.2.2.1 245 K0 R0 M0 (ck_Q pg_O σ0 pg_s79.2.2.2.2.1 245 K0 R0 M0 pg_s79.2.2.2.2.2) σ (147, pg_s79_C147, 0, 0, 245) := rl_147 pg_s79_u pg_s79_h hσ (by decide) (by decide +kernel) (by decide +kernel) ⟨by decide +kernel, by decide +kernel, by decide +kernel, by decide +kernel, by decide +kernel⟩ pg_s79_c (fun _ h => nomatch h)
theorem pg_s79_y111 {X : Int → Int} {LX : Nat} {σ σ0 : Nat → Int} {K0 : gm_K} {R0 : gm_R} {M0 : gm_M} (hσ : ∀ s, s < 100 → σ s = σ0 s) : ck_Hy pg_O X LX 274 pg_s79.1.1 pg_s79.2.2.2.2.1 245 K0 R0 M0 (ck_Q pg_O σ0 pg_s79.2.2.2.2.1 245 K0 R0 M0 pg_s79.2.2.2.2.2) σ (111, pg_s79_C111, 0, 0, 245) := rl_111 pg_s79_u pg_s79_h hσ (by decide) (by decide +kernel) ⟨by decide +kernel, by decide +kernel, by decide +kernel, by decide +kernel⟩ pg_s79_b (fun h hm => by
  rw [List.mem_singleton.mp hm]
  exact ⟨List.mem_cons_self, pg_s79_y147 hσ⟩)
theorem pg_s79_s {X : Int → Int} {LX : Nat} : ck_Ok pg_O X LX 274 pg_s79 := by
  refine ck_ok_st (cuts := pg_s79_Z) pg_s79_u pg_s79_h pg_s79_a (fun h hm => ?_)
  rcases List.mem_cons.mp hm with rfl | hm
  · exact ⟨List.mem_cons_self, fun σ K0 R0 M0 => pg_s79_y147 (fun _ _ => rfl)⟩
  rw [List.mem_singleton.mp hm]
  exact ⟨List.mem_cons_of_mem _ List.mem_cons_self, fun σ K0 R0 M0 => pg_s79_y111 (fun _ _ => rfl)⟩
set_option maxRecDepth 100000 in
/-- GlacierMailModel.readLine -/
noncomputable def pg_s80 : ck_Sum := ((31, 0, 0), 245, [.inr (.inr (.inl 226)), .inl (ck_one 0), .inl (ck_one 6)], ([], [], [(0, 2, 2, ck_one 6), (0, 0, 0, (0, 400, [(30, 0)])), (0, 3, 3, ((-400), 400, [(31, 0)])), (0, 4, 4, ((-400), 400, [(32, 0)])), (0, 5, 5, (0, 400, [(33, 0)])), (0, 6, 6, (0, 1, [])), (226, 9, 9, (0, 400, [(1, 0)])), (226, 15, 15, (0, 400, [(2, 0)]))]), ([(0, 0, 6), (226, 9, 9), (226, 11, 12), (226, 15, 15), (227, 1269, 1272), (227, 1293, 2092)], []), [(.inr (some (.inl (ck_one 0))), 245, ([], [], [(0, 2, 2, ck_one 6), (0, 0, 0, (0, 400, [])), (0, 3, 3, (0, 400, [(1000033, 0)])), (0, 4, 4, ((-400), 400, [])), (0, 5, 5, (0, 400, [(1000033, 0)])), (0, 6, 6, (0, 1, [])), (226, 9, 9, (0, 400, [(1000001, 0)]))])), (.inr (some (.inl (ck_one 1))), 245, ([], [], [(0, 5, 5, (4, 400, [(1000033, 4)])), (226, 11, 11, (0, 400, [(1000001, 0)])), (0, 0, 0, ck_one 0), (0, 2, 2, ck_one 7), (0, 6, 6, ck_one 0), (0, 3, 3, (4, 400, [(1000033, 4)])), (0, 4, 4, ck_one 0), (226, 9, 9, (0, 400, [(1000001, 0)])), (226, 12, 12, ck_one 0), (227, 1270, 1270, (0, 20, [])), (227, 1269, 1269, (0, 2, []))]))])
set_option maxRecDepth 100000 in
theorem pg_s80_s {X : Int → Int} {LX : Nat} : ck_Ok pg_O X LX 247 pg_s80 := ck_ok_s (O := pg_O) (X := X) (LX := LX) (E := [(248, [pg_s3]), (274, [pg_s79])]) (mi := 247) (cuts := []) (f := 102) (S := pg_s80) (lx := none) (XF := []) ⟨pg_nmu, ck_E1 (ck_S1 pg_s3_s ck_S0) (ck_E1 (ck_S1 pg_s79_s ck_S0) ck_E0)⟩ ck_X0 ck_l0 (by decide +kernel)
set_option maxRecDepth 100000 in
/-- GlacierMailModel.readLawLine -/
noncomputable def pg_s81 : ck_Sum := ((30, 0, 0), 245, [.inr (.inr (.inl 226)), .inl (ck_one 7)], ([], [], [(0, 2, 2, ck_one 7), (0, 0, 0, (0, 400, [(30, 0)])), (0, 3, 3, ((-400), 400, [(31, 0)])), (0, 4, 4, ((-400), 400, [(32, 0)])), (0, 5, 5, (0, 400, [(33, 0)])), (0, 6, 6, (0, 1, [])), (226, 9, 9, (0, 400, [(1, 0)])), (226, 15, 15, (0, 400, [(2, 0)]))]), ([(0, 0, 6), (226, 9, 9), (226, 11, 12), (226, 15, 15), (227, 1273, 1276), (227, 1293, 2092)], []), [(.inr (some (.inl (ck_one 0))), 245, ([], [], [(0, 2, 2, ck_one 7), (0, 0, 0, (0, 400, [])), (0, 3, 3, ((-400), 400, [(1000031, 0)])), (0, 4, 4, ((-400), 400, [])), (0, 5, 5, (0, 400, [(1000033, 0)])), (0, 6, 6, (0, 1, [])), (226, 9, 9, (0, 400, [(1000001, 0)]))])), (.inr (some (.inl (ck_one 1))), 245, ([], [], [(0, 0, 0, ck_one 0), (0, 2, 2, ck_one 8), (0, 6, 6, ck_one 0), (0, 5, 5, (0, 400, [(1000033, 0), (1000031, 4)])), (226, 11, 11, (0, 400, [(1000001, 0)])), (0, 3, 3, (0, 400, [(1000033, 0), (1000031, 4)])), (0, 4, 4, ck_one 0), (226, 9, 9, (0, 400, [(1000001, 0)])), (226, 12, 12, ck_one 0), (227, 1274, 1274, (0, 20, [])), (227, 1273, 1273, (0, 2, []))]))])
noncomputable def pg_s81_E : List (Nat × List ck_Sum) := [(250, [pg_s4, pg_s5, pg_s6]), (256, [pg_s8]), (269, [pg_s10]), (275, [pg_s66])]
set_option maxRecDepth 100000 in
noncomputable def pg_s81_F111 : ck_F := ([], [], [(0, 5, 5, (0, 400, [(1000033, 0), (1000031, 4)])), (226, 11, 11, (0, 399, [])), (227, 1274, 1274, (0, 20, [])), (227, 1273, 1273, (0, 2, [])), (0, 4, 4, (1, 4, [])), (0, 2, 2, ck_one 7), (0, 0, 0, (0, 400, [(30, 0)])), (0, 3, 3, ((-400), 400, [(1000031, 0)])), (0, 6, 6, (0, 1, [])), (226, 9, 9, (0, 400, [(1000001, 0)])), (226, 15, 15, (0, 400, [(2, 0)]))])
noncomputable def pg_s81_C111 : ck_C := (rl_A 7, pg_s81_F111, 0, .inl 2, true)
set_option maxRecDepth 100000 in
noncomputable def pg_s81_F147 : ck_F := ([], [], [(0, 5, 5, (0, 400, [(1000033, 0), (1000031, 4)])), (226, 11, 11, (0, 400, [(1000001, 0)])), (0, 3, 3, (0, 400, [(1000033, 0), (1000031, 4)])), (0, 4, 4, ck_one 0), (226, 9, 9, (0, 400, [(1000001, 0)])), (226, 12, 12, ck_one 0), (0, 0, 0, (0, 1, [])), (0, 6, 6, ck_one 1), (227, 1274, 1274, (0, 20, [])), (227, 1273, 1273, (0, 2, [])), (0, 2, 2, ck_one 7), (226, 15, 15, (0, 400, []))])
noncomputable def pg_s81_C147 : ck_C := (rl_A 7, pg_s81_F147, 0, .inl 2, true)
noncomputable def pg_s81_Z : List (Nat × ck_C) := [(147, pg_s81_C147), (111, pg_s81_C111)]
set_option maxRecDepth 100000 in
theorem pg_s81_a : (decide (pg_s81.2.2.1.length ≤ gm_ml 274) && ck_go pg_O none [] pg_s81_E 274 pg_s81.1.1 pg_s81.2.1 pg_s81.2.2.2.2.1 pg_s81.2.2.2.2.2 pg_s81_Z 416 false [(147, pg_s81_C147, 0, 0, 245), (111, pg_s81_C111, 0, 0, 245)] pg_s81.1.2.1 pg_s81.1.2.2 0 (pg_s81.2.2.1.map some ++ List.replicate (gm_ml 274 - pg_s81.2.2.1.length) none) [] pg_s81.2.1 pg_s81.2.2.2.1) = true := by decide +kernel
set_option maxRecDepth 100000 in
theorem pg_s81_b : ck_go pg_O none [] pg_s81_E 274 pg_s81.1.1 245 pg_s81.2.2.2.2.1 pg_s81.2.2.2.2.2 pg_s81_Z 416 false [(147, pg_s81_C147, 0, 0, 245)] 0 0 123 (rl_A 7) [] 245 (rl_F1 7 pg_s81_F111) = true := by decide +kernel
set_option maxRecDepth 100000 in
theorem pg_s81_c : ck_go pg_O none [] pg_s81_E 274 pg_s81.1.1 245 pg_s81.2.2.2.2.1 pg_s81.2.2.2.2.2 pg_s81_Z 416 false [] 0 0 159 (rl_A 7) [] 245 (rl_F2 7 pg_s81_F147) = true := by decide +kernel
theorem pg_s81_u : ck_cu pg_s81_Z = true := by decide +kernel
theorem pg_s81_h {X : Int → Int} {LX : Nat} : ck_nmu pg_O ∧ ck_OkE pg_O X LX pg_s81_E := ⟨pg_nmu, ck_E1 (ck_S1 pg_s4_s (ck_S1 pg_s5_s (ck_S1 pg_s6_s ck_S0))) (ck_E1 (ck_S1 pg_s8_s ck_S0) (ck_E1 (ck_S1 pg_s10_s ck_S0) (ck_E1 (ck_S1 pg_s66_s ck_S0) ck_E0)))⟩
theorem pg_s81_y147 {X : Int → Int} {LX : Nat} {σ σ0 : Nat → Int} {K0 : gm_K} {R0 : gm_R} {M0 : gm_M} (hσ : ∀ s, s < 100 → σ s = σ0 s) : ck_Hy pg_O X LX 274 pg_s81.1.1 pg_s81.2.2.2.2.1 245 K0 R0 M0 (ck_Q pg_O σ0 pg_s81.2.2.2.2.1 245 K0 R0 M0 pg_s81.2.2.2.2.2) σ (147, pg_s81_C147, 0, 0, 245) := rl_147 pg_s81_u pg_s81_h hσ (by decide) (by decide +kernel) (by decide +kernel) ⟨by decide +kernel, by decide +kernel, by decide +kernel, by decide +kernel, by decide +kernel⟩ pg_s81_c (fun _ h => nomatch h)
theorem pg_s81_y111 {X : Int → Int} {LX : Nat} {σ σ0 : Nat → Int} {K0 : gm_K} {R0 : gm_R} {M0 : gm_M} (hσ : ∀ s, s < 100 → σ s = σ0 s) : ck_Hy pg_O X LX 274 pg_s81.1.1 pg_s81.2.2.2.2.1 245 K0 R0 M0 (ck_Q pg_O σ0 pg_s81.2.2.2.2.1 245 K0 R0 M0 pg_s81.2.2.2.2.2) σ (111, pg_s81_C111, 0, 0, 245) := rl_111 pg_s81_u pg_s81_h hσ (by decide) (by decide +kernel) ⟨by decide +kernel, by decide +kernel, by decide +kernel, by decide +kernel⟩ pg_s81_b (fun h hm => by
  rw [List.mem_singleton.mp hm]
  exact ⟨List.mem_cons_self, pg_s81_y147 hσ⟩)
theorem pg_s81_s {X : Int → Int} {LX : Nat} : ck_Ok pg_O X LX 274 pg_s81 := by
  refine ck_ok_st (cuts := pg_s81_Z) pg_s81_u pg_s81_h pg_s81_a (fun h hm => ?_)
  rcases List.mem_cons.mp hm with rfl | hm
  · exact ⟨List.mem_cons_self, fun σ K0 R0 M0 => pg_s81_y147 (fun _ _ => rfl)⟩
  rw [List.mem_singleton.mp hm]
  exact ⟨List.mem_cons_of_mem _ List.mem_cons_self, fun σ K0 R0 M0 => pg_s81_y111 (fun _ _ => rfl)⟩
set_option maxRecDepth 100000 in
/-- GlacierMailModel.readLine -/
noncomputable def pg_s82 : ck_Sum := ((31, 0, 0), 245, [.inr (.inr (.inl 226)), .inl (ck_one 0), .inl (ck_one 7)], ([], [], [(0, 2, 2, ck_one 7), (0, 0, 0, (0, 400, [(30, 0)])), (0, 3, 3, ((-400), 400, [(31, 0)])), (0, 4, 4, ((-400), 400, [(32, 0)])), (0, 5, 5, (0, 400, [(33, 0)])), (0, 6, 6, (0, 1, [])), (226, 9, 9, (0, 400, [(1, 0)])), (226, 15, 15, (0, 400, [(2, 0)]))]), ([(0, 0, 6), (226, 9, 9), (226, 11, 12), (226, 15, 15), (227, 1273, 1276), (227, 1293, 2092)], []), [(.inr (some (.inl (ck_one 0))), 245, ([], [], [(0, 2, 2, ck_one 7), (0, 0, 0, (0, 400, [])), (0, 3, 3, (0, 400, [(1000033, 0)])), (0, 4, 4, ((-400), 400, [])), (0, 5, 5, (0, 400, [(1000033, 0)])), (0, 6, 6, (0, 1, [])), (226, 9, 9, (0, 400, [(1000001, 0)]))])), (.inr (some (.inl (ck_one 1))), 245, ([], [], [(0, 5, 5, (4, 400, [(1000033, 4)])), (226, 11, 11, (0, 400, [(1000001, 0)])), (0, 0, 0, ck_one 0), (0, 2, 2, ck_one 8), (0, 6, 6, ck_one 0), (0, 3, 3, (4, 400, [(1000033, 4)])), (0, 4, 4, ck_one 0), (226, 9, 9, (0, 400, [(1000001, 0)])), (226, 12, 12, ck_one 0), (227, 1274, 1274, (0, 20, [])), (227, 1273, 1273, (0, 2, []))]))])
set_option maxRecDepth 100000 in
theorem pg_s82_s {X : Int → Int} {LX : Nat} : ck_Ok pg_O X LX 247 pg_s82 := ck_ok_s (O := pg_O) (X := X) (LX := LX) (E := [(248, [pg_s3]), (274, [pg_s81])]) (mi := 247) (cuts := []) (f := 102) (S := pg_s82) (lx := none) (XF := []) ⟨pg_nmu, ck_E1 (ck_S1 pg_s3_s ck_S0) (ck_E1 (ck_S1 pg_s81_s ck_S0) ck_E0)⟩ ck_X0 ck_l0 (by decide +kernel)
set_option maxRecDepth 100000 in
/-- GlacierMailModel.readLawLine -/
noncomputable def pg_s83 : ck_Sum := ((30, 0, 0), 245, [.inr (.inr (.inl 226)), .inl (ck_one 8)], ([], [], [(0, 2, 2, ck_one 8), (0, 0, 0, (0, 400, [(30, 0)])), (0, 3, 3, ((-400), 400, [(31, 0)])), (0, 4, 4, ((-400), 400, [(32, 0)])), (0, 5, 5, (0, 400, [(33, 0)])), (0, 6, 6, (0, 1, [])), (226, 9, 9, (0, 400, [(1, 0)])), (226, 15, 15, (0, 400, [(2, 0)]))]), ([(0, 0, 6), (226, 9, 9), (226, 11, 12), (226, 15, 15), (227, 1277, 1280), (227, 1293, 2092)], []), [(.inr (some (.inl (ck_one 0))), 245, ([], [], [(0, 2, 2, ck_one 8), (0, 0, 0, (0, 400, [])), (0, 3, 3, ((-400), 400, [(1000031, 0)])), (0, 4, 4, ((-400), 400, [])), (0, 5, 5, (0, 400, [(1000033, 0)])), (0, 6, 6, (0, 1, [])), (226, 9, 9, (0, 400, [(1000001, 0)]))])), (.inr (some (.inl (ck_one 1))), 245, ([], [], [(0, 0, 0, ck_one 0), (0, 2, 2, ck_one 9), (0, 6, 6, ck_one 0), (0, 5, 5, (0, 400, [(1000033, 0), (1000031, 4)])), (226, 11, 11, (0, 400, [(1000001, 0)])), (0, 3, 3, (0, 400, [(1000033, 0), (1000031, 4)])), (0, 4, 4, ck_one 0), (226, 9, 9, (0, 400, [(1000001, 0)])), (226, 12, 12, ck_one 0), (227, 1278, 1278, (0, 20, [])), (227, 1277, 1277, (0, 2, []))]))])
noncomputable def pg_s83_E : List (Nat × List ck_Sum) := [(250, [pg_s4, pg_s5, pg_s6]), (256, [pg_s8]), (269, [pg_s10]), (275, [pg_s66])]
set_option maxRecDepth 100000 in
noncomputable def pg_s83_F111 : ck_F := ([], [], [(0, 5, 5, (0, 400, [(1000033, 0), (1000031, 4)])), (226, 11, 11, (0, 399, [])), (227, 1278, 1278, (0, 20, [])), (227, 1277, 1277, (0, 2, [])), (0, 4, 4, (1, 4, [])), (0, 2, 2, ck_one 8), (0, 0, 0, (0, 400, [(30, 0)])), (0, 3, 3, ((-400), 400, [(1000031, 0)])), (0, 6, 6, (0, 1, [])), (226, 9, 9, (0, 400, [(1000001, 0)])), (226, 15, 15, (0, 400, [(2, 0)]))])
noncomputable def pg_s83_C111 : ck_C := (rl_A 8, pg_s83_F111, 0, .inl 2, true)
set_option maxRecDepth 100000 in
noncomputable def pg_s83_F147 : ck_F := ([], [], [(0, 5, 5, (0, 400, [(1000033, 0), (1000031, 4)])), (226, 11, 11, (0, 400, [(1000001, 0)])), (0, 3, 3, (0, 400, [(1000033, 0), (1000031, 4)])), (0, 4, 4, ck_one 0), (226, 9, 9, (0, 400, [(1000001, 0)])), (226, 12, 12, ck_one 0), (0, 0, 0, (0, 1, [])), (0, 6, 6, ck_one 1), (227, 1278, 1278, (0, 20, [])), (227, 1277, 1277, (0, 2, [])), (0, 2, 2, ck_one 8), (226, 15, 15, (0, 400, []))])
noncomputable def pg_s83_C147 : ck_C := (rl_A 8, pg_s83_F147, 0, .inl 2, true)
noncomputable def pg_s83_Z : List (Nat × ck_C) := [(147, pg_s83_C147), (111, pg_s83_C111)]
set_option maxRecDepth 100000 in
theorem pg_s83_a : (decide (pg_s83.2.2.1.length ≤ gm_ml 274) && ck_go pg_O none [] pg_s83_E 274 pg_s83.1.1 pg_s83.2.1 pg_s83.2.2.2.2.1 pg_s83.2.2.2.2.2 pg_s83_Z 416 false [(147, pg_s83_C147, 0, 0, 245), (111, pg_s83_C111, 0, 0, 245)] pg_s83.1.2.1 pg_s83.1.2.2 0 (pg_s83.2.2.1.map some ++ List.replicate (gm_ml 274 - pg_s83.2.2.1.length) none) [] pg_s83.2.1 pg_s83.2.2.2.1) = true := by decide +kernel
set_option maxRecDepth 100000 in
theorem pg_s83_b : ck_go pg_O none [] pg_s83_E 274 pg_s83.1.1 245 pg_s83.2.2.2.2.1 pg_s83.2.2.2.2.2 pg_s83_Z 416 false [(147, pg_s83_C147, 0, 0, 245)] 0 0 123 (rl_A 8) [] 245 (rl_F1 8 pg_s83_F111) = true := by decide +kernel
set_option maxRecDepth 100000 in
theorem pg_s83_c : ck_go pg_O none [] pg_s83_E 274 pg_s83.1.1 245 pg_s83.2.2.2.2.1 pg_s83.2.2.2.2.2 pg_s83_Z 416 false [] 0 0 159 (rl_A 8) [] 245 (rl_F2 8 pg_s83_F147) = true := by decide +kernel
theorem pg_s83_u : ck_cu pg_s83_Z = true := by decide +kernel
theorem pg_s83_h {X : Int → Int} {LX : Nat} : ck_nmu pg_O ∧ ck_OkE pg_O X LX pg_s83_E := ⟨pg_nmu, ck_E1 (ck_S1 pg_s4_s (ck_S1 pg_s5_s (ck_S1 pg_s6_s ck_S0))) (ck_E1 (ck_S1 pg_s8_s ck_S0) (ck_E1 (ck_S1 pg_s10_s ck_S0) (ck_E1 (ck_S1 pg_s66_s ck_S0) ck_E0)))⟩
theorem pg_s83_y147 {X : Int → Int} {LX : Nat} {σ σ0 : Nat → Int} {K0 : gm_K} {R0 : gm_R} {M0 : gm_M} (hσ : ∀ s, s < 100 → σ s = σ0 s) : ck_Hy pg_O X LX 274 pg_s83.1.1 pg_s83.2.2.2.2.1 245 K0 R0 M0 (ck_Q pg_O σ0 pg_s83.2.2.2.2.1 245 K0 R0 M0 pg_s83.2.2.2.2.2) σ (147, pg_s83_C147, 0, 0, 245) := rl_147 pg_s83_u pg_s83_h hσ (by decide) (by decide +kernel) (by decide +kernel) ⟨by decide +kernel, by decide +kernel, by decide +kernel, by decide +kernel, by decide +kernel⟩ pg_s83_c (fun _ h => nomatch h)
theorem pg_s83_y111 {X : Int → Int} {LX : Nat} {σ σ0 : Nat → Int} {K0 : gm_K} {R0 : gm_R} {M0 : gm_M} (hσ : ∀ s, s < 100 → σ s = σ0 s) : ck_Hy pg_O X LX 274 pg_s83.1.1 pg_s83.2.2.2.2.1 245 K0 R0 M0 (ck_Q pg_O σ0 pg_s83.2.2.2.2.1 245 K0 R0 M0 pg_s83.2.2.2.2.2) σ (111, pg_s83_C111, 0, 0, 245) := rl_111 pg_s83_u pg_s83_h hσ (by decide) (by decide +kernel) ⟨by decide +kernel, by decide +kernel, by decide +kernel, by decide +kernel⟩ pg_s83_b (fun h hm => by
  rw [List.mem_singleton.mp hm]
  exact ⟨List.mem_cons_self, pg_s83_y147 hσ⟩)
theorem pg_s83_s {X : Int → Int} {LX : Nat} : ck_Ok pg_O X LX 274 pg_s83 := by
  refine ck_ok_st (cuts := pg_s83_Z) pg_s83_u pg_s83_h pg_s83_a (fun h hm => ?_)
  rcases List.mem_cons.mp hm with rfl | hm
  · exact ⟨List.mem_cons_self, fun σ K0 R0 M0 => pg_s83_y147 (fun _ _ => rfl)⟩
  rw [List.mem_singleton.mp hm]
  exact ⟨List.mem_cons_of_mem _ List.mem_cons_self, fun σ K0 R0 M0 => pg_s83_y111 (fun _ _ => rfl)⟩
set_option maxRecDepth 100000 in
/-- GlacierMailModel.readLine -/
noncomputable def pg_s84 : ck_Sum := ((31, 0, 0), 245, [.inr (.inr (.inl 226)), .inl (ck_one 0), .inl (ck_one 8)], ([], [], [(0, 2, 2, ck_one 8), (0, 0, 0, (0, 400, [(30, 0)])), (0, 3, 3, ((-400), 400, [(31, 0)])), (0, 4, 4, ((-400), 400, [(32, 0)])), (0, 5, 5, (0, 400, [(33, 0)])), (0, 6, 6, (0, 1, [])), (226, 9, 9, (0, 400, [(1, 0)])), (226, 15, 15, (0, 400, [(2, 0)]))]), ([(0, 0, 6), (226, 9, 9), (226, 11, 12), (226, 15, 15), (227, 1277, 1280), (227, 1293, 2092)], []), [(.inr (some (.inl (ck_one 0))), 245, ([], [], [(0, 2, 2, ck_one 8), (0, 0, 0, (0, 400, [])), (0, 3, 3, (0, 400, [(1000033, 0)])), (0, 4, 4, ((-400), 400, [])), (0, 5, 5, (0, 400, [(1000033, 0)])), (0, 6, 6, (0, 1, [])), (226, 9, 9, (0, 400, [(1000001, 0)]))])), (.inr (some (.inl (ck_one 1))), 245, ([], [], [(0, 5, 5, (4, 400, [(1000033, 4)])), (226, 11, 11, (0, 400, [(1000001, 0)])), (0, 0, 0, ck_one 0), (0, 2, 2, ck_one 9), (0, 6, 6, ck_one 0), (0, 3, 3, (4, 400, [(1000033, 4)])), (0, 4, 4, ck_one 0), (226, 9, 9, (0, 400, [(1000001, 0)])), (226, 12, 12, ck_one 0), (227, 1278, 1278, (0, 20, [])), (227, 1277, 1277, (0, 2, []))]))])
set_option maxRecDepth 100000 in
theorem pg_s84_s {X : Int → Int} {LX : Nat} : ck_Ok pg_O X LX 247 pg_s84 := ck_ok_s (O := pg_O) (X := X) (LX := LX) (E := [(248, [pg_s3]), (274, [pg_s83])]) (mi := 247) (cuts := []) (f := 102) (S := pg_s84) (lx := none) (XF := []) ⟨pg_nmu, ck_E1 (ck_S1 pg_s3_s ck_S0) (ck_E1 (ck_S1 pg_s83_s ck_S0) ck_E0)⟩ ck_X0 ck_l0 (by decide +kernel)
set_option maxRecDepth 100000 in
/-- GlacierMailModel.readLawLine -/
noncomputable def pg_s85 : ck_Sum := ((30, 0, 0), 245, [.inr (.inr (.inl 226)), .inl (ck_one 9)], ([], [], [(0, 2, 2, ck_one 9), (0, 0, 0, (0, 400, [(30, 0)])), (0, 3, 3, ((-400), 400, [(31, 0)])), (0, 4, 4, ((-400), 400, [(32, 0)])), (0, 5, 5, (0, 400, [(33, 0)])), (0, 6, 6, (0, 1, [])), (226, 9, 9, (0, 400, [(1, 0)])), (226, 15, 15, (0, 400, [(2, 0)]))]), ([(0, 0, 6), (226, 9, 9), (226, 11, 12), (226, 15, 15), (227, 1281, 1284), (227, 1293, 2092)], []), [(.inr (some (.inl (ck_one 0))), 245, ([], [], [(0, 2, 2, ck_one 9), (0, 0, 0, (0, 400, [])), (0, 3, 3, ((-400), 400, [(1000031, 0)])), (0, 4, 4, ((-400), 400, [])), (0, 5, 5, (0, 400, [(1000033, 0)])), (0, 6, 6, (0, 1, [])), (226, 9, 9, (0, 400, [(1000001, 0)]))])), (.inr (some (.inl (ck_one 1))), 245, ([], [], [(0, 0, 0, ck_one 0), (0, 2, 2, ck_one 10), (0, 6, 6, ck_one 0), (0, 5, 5, (0, 400, [(1000033, 0), (1000031, 4)])), (226, 11, 11, (0, 400, [(1000001, 0)])), (0, 3, 3, (0, 400, [(1000033, 0), (1000031, 4)])), (0, 4, 4, ck_one 0), (226, 9, 9, (0, 400, [(1000001, 0)])), (226, 12, 12, ck_one 0), (227, 1282, 1282, (0, 20, [])), (227, 1281, 1281, (0, 2, []))]))])
noncomputable def pg_s85_E : List (Nat × List ck_Sum) := [(250, [pg_s4, pg_s5, pg_s6]), (256, [pg_s8]), (269, [pg_s10]), (275, [pg_s66])]
set_option maxRecDepth 100000 in
noncomputable def pg_s85_F111 : ck_F := ([], [], [(0, 5, 5, (0, 400, [(1000033, 0), (1000031, 4)])), (226, 11, 11, (0, 399, [])), (227, 1282, 1282, (0, 20, [])), (227, 1281, 1281, (0, 2, [])), (0, 4, 4, (1, 4, [])), (0, 2, 2, ck_one 9), (0, 0, 0, (0, 400, [(30, 0)])), (0, 3, 3, ((-400), 400, [(1000031, 0)])), (0, 6, 6, (0, 1, [])), (226, 9, 9, (0, 400, [(1000001, 0)])), (226, 15, 15, (0, 400, [(2, 0)]))])
noncomputable def pg_s85_C111 : ck_C := (rl_A 9, pg_s85_F111, 0, .inl 2, true)
set_option maxRecDepth 100000 in
noncomputable def pg_s85_F147 : ck_F := ([], [], [(0, 5, 5, (0, 400, [(1000033, 0), (1000031, 4)])), (226, 11, 11, (0, 400, [(1000001, 0)])), (0, 3, 3, (0, 400, [(1000033, 0), (1000031, 4)])), (0, 4, 4, ck_one 0), (226, 9, 9, (0, 400, [(1000001, 0)])), (226, 12, 12, ck_one 0), (0, 0, 0, (0, 1, [])), (0, 6, 6, ck_one 1), (227, 1282, 1282, (0, 20, [])), (227, 1281, 1281, (0, 2, [])), (0, 2, 2, ck_one 9), (226, 15, 15, (0, 400, []))])
noncomputable def pg_s85_C147 : ck_C := (rl_A 9, pg_s85_F147, 0, .inl 2, true)
noncomputable def pg_s85_Z : List (Nat × ck_C) := [(147, pg_s85_C147), (111, pg_s85_C111)]
set_option maxRecDepth 100000 in
theorem pg_s85_a : (decide (pg_s85.2.2.1.length ≤ gm_ml 274) && ck_go pg_O none [] pg_s85_E 274 pg_s85.1.1 pg_s85.2.1 pg_s85.2.2.2.2.1 pg_s85.2.2.2.2.2 pg_s85_Z 416 false [(147, pg_s85_C147, 0, 0, 245), (111, pg_s85_C111, 0, 0, 245)] pg_s85.1.2.1 pg_s85.1.2.2 0 (pg_s85.2.2.1.map some ++ List.replicate (gm_ml 274 - pg_s85.2.2.1.length) none) [] pg_s85.2.1 pg_s85.2.2.2.1) = true := by decide +kernel
set_option maxRecDepth 100000 in
theorem pg_s85_b : ck_go pg_O none [] pg_s85_E 274 pg_s85.1.1 245 pg_s85.2.2.2.2.1 pg_s85.2.2.2.2.2 pg_s85_Z 416 false [(147, pg_s85_C147, 0, 0, 245)] 0 0 123 (rl_A 9) [] 245 (rl_F1 9 pg_s85_F111) = true := by decide +kernel
set_option maxRecDepth 100000 in
theorem pg_s85_c : ck_go pg_O none [] pg_s85_E 274 pg_s85.1.1 245 pg_s85.2.2.2.2.1 pg_s85.2.2.2.2.2 pg_s85_Z 416 false [] 0 0 159 (rl_A 9) [] 245 (rl_F2 9 pg_s85_F147) = true := by decide +kernel
theorem pg_s85_u : ck_cu pg_s85_Z = true := by decide +kernel
theorem pg_s85_h {X : Int → Int} {LX : Nat} : ck_nmu pg_O ∧ ck_OkE pg_O X LX pg_s85_E := ⟨pg_nmu, ck_E1 (ck_S1 pg_s4_s (ck_S1 pg_s5_s (ck_S1 pg_s6_s ck_S0))) (ck_E1 (ck_S1 pg_s8_s ck_S0) (ck_E1 (ck_S1 pg_s10_s ck_S0) (ck_E1 (ck_S1 pg_s66_s ck_S0) ck_E0)))⟩
theorem pg_s85_y147 {X : Int → Int} {LX : Nat} {σ σ0 : Nat → Int} {K0 : gm_K} {R0 : gm_R} {M0 : gm_M} (hσ : ∀ s, s < 100 → σ s = σ0 s) : ck_Hy pg_O X LX 274 pg_s85.1.1 pg_s85.2.2.2.2.1 245 K0 R0 M0 (ck_Q pg_O σ0 pg_s85.2.2.2.2.1 245 K0 R0 M0 pg_s85.2.2.2.2.2) σ (147, pg_s85_C147, 0, 0, 245) := rl_147 pg_s85_u pg_s85_h hσ (by decide) (by decide +kernel) (by decide +kernel) ⟨by decide +kernel, by decide +kernel, by decide +kernel, by decide +kernel, by decide +kernel⟩ pg_s85_c (fun _ h => nomatch h)
theorem pg_s85_y111 {X : Int → Int} {LX : Nat} {σ σ0 : Nat → Int} {K0 : gm_K} {R0 : gm_R} {M0 : gm_M} (hσ : ∀ s, s < 100 → σ s = σ0 s) : ck_Hy pg_O X LX 274 pg_s85.1.1 pg_s85.2.2.2.2.1 245 K0 R0 M0 (ck_Q pg_O σ0 pg_s85.2.2.2.2.1 245 K0 R0 M0 pg_s85.2.2.2.2.2) σ (111, pg_s85_C111, 0, 0, 245) := rl_111 pg_s85_u pg_s85_h hσ (by decide) (by decide +kernel) ⟨by decide +kernel, by decide +kernel, by decide +kernel, by decide +kernel⟩ pg_s85_b (fun h hm => by
  rw [List.mem_singleton.mp hm]
  exact ⟨List.mem_cons_self, pg_s85_y147 hσ⟩)
theorem pg_s85_s {X : Int → Int} {LX : Nat} : ck_Ok pg_O X LX 274 pg_s85 := by
  refine ck_ok_st (cuts := pg_s85_Z) pg_s85_u pg_s85_h pg_s85_a (fun h hm => ?_)
  rcases List.mem_cons.mp hm with rfl | hm
  · exact ⟨List.mem_cons_self, fun σ K0 R0 M0 => pg_s85_y147 (fun _ _ => rfl)⟩
  rw [List.mem_singleton.mp hm]
  exact ⟨List.mem_cons_of_mem _ List.mem_cons_self, fun σ K0 R0 M0 => pg_s85_y111 (fun _ _ => rfl)⟩
set_option maxRecDepth 100000 in
/-- GlacierMailModel.readLine -/
noncomputable def pg_s86 : ck_Sum := ((31, 0, 0), 245, [.inr (.inr (.inl 226)), .inl (ck_one 0), .inl (ck_one 9)], ([], [], [(0, 2, 2, ck_one 9), (0, 0, 0, (0, 400, [(30, 0)])), (0, 3, 3, ((-400), 400, [(31, 0)])), (0, 4, 4, ((-400), 400, [(32, 0)])), (0, 5, 5, (0, 400, [(33, 0)])), (0, 6, 6, (0, 1, [])), (226, 9, 9, (0, 400, [(1, 0)])), (226, 15, 15, (0, 400, [(2, 0)]))]), ([(0, 0, 6), (226, 9, 9), (226, 11, 12), (226, 15, 15), (227, 1281, 1284), (227, 1293, 2092)], []), [(.inr (some (.inl (ck_one 0))), 245, ([], [], [(0, 2, 2, ck_one 9), (0, 0, 0, (0, 400, [])), (0, 3, 3, (0, 400, [(1000033, 0)])), (0, 4, 4, ((-400), 400, [])), (0, 5, 5, (0, 400, [(1000033, 0)])), (0, 6, 6, (0, 1, [])), (226, 9, 9, (0, 400, [(1000001, 0)]))])), (.inr (some (.inl (ck_one 1))), 245, ([], [], [(0, 5, 5, (4, 400, [(1000033, 4)])), (226, 11, 11, (0, 400, [(1000001, 0)])), (0, 0, 0, ck_one 0), (0, 2, 2, ck_one 10), (0, 6, 6, ck_one 0), (0, 3, 3, (4, 400, [(1000033, 4)])), (0, 4, 4, ck_one 0), (226, 9, 9, (0, 400, [(1000001, 0)])), (226, 12, 12, ck_one 0), (227, 1282, 1282, (0, 20, [])), (227, 1281, 1281, (0, 2, []))]))])
set_option maxRecDepth 100000 in
theorem pg_s86_s {X : Int → Int} {LX : Nat} : ck_Ok pg_O X LX 247 pg_s86 := ck_ok_s (O := pg_O) (X := X) (LX := LX) (E := [(248, [pg_s3]), (274, [pg_s85])]) (mi := 247) (cuts := []) (f := 102) (S := pg_s86) (lx := none) (XF := []) ⟨pg_nmu, ck_E1 (ck_S1 pg_s3_s ck_S0) (ck_E1 (ck_S1 pg_s85_s ck_S0) ck_E0)⟩ ck_X0 ck_l0 (by decide +kernel)
set_option maxRecDepth 100000 in
/-- GlacierMailModel.readLawLine -/
noncomputable def pg_s87 : ck_Sum := ((30, 0, 0), 245, [.inr (.inr (.inl 226)), .inl (ck_one 10)], ([], [], [(0, 2, 2, ck_one 10), (0, 0, 0, (0, 400, [(30, 0)])), (0, 3, 3, ((-400), 400, [(31, 0)])), (0, 4, 4, ((-400), 400, [(32, 0)])), (0, 5, 5, (0, 400, [(33, 0)])), (0, 6, 6, (0, 1, [])), (226, 9, 9, (0, 400, [(1, 0)])), (226, 15, 15, (0, 400, [(2, 0)]))]), ([(0, 0, 6), (226, 9, 9), (226, 11, 12), (226, 15, 15), (227, 1285, 1288), (227, 1293, 2092)], []), [(.inr (some (.inl (ck_one 0))), 245, ([], [], [(0, 2, 2, ck_one 10), (0, 0, 0, (0, 400, [])), (0, 3, 3, ((-400), 400, [(1000031, 0)])), (0, 4, 4, ((-400), 400, [])), (0, 5, 5, (0, 400, [(1000033, 0)])), (0, 6, 6, (0, 1, [])), (226, 9, 9, (0, 400, [(1000001, 0)]))])), (.inr (some (.inl (ck_one 1))), 245, ([], [], [(0, 0, 0, ck_one 0), (0, 2, 2, ck_one 11), (0, 6, 6, ck_one 0), (0, 5, 5, (0, 400, [(1000033, 0), (1000031, 4)])), (226, 11, 11, (0, 400, [(1000001, 0)])), (0, 3, 3, (0, 400, [(1000033, 0), (1000031, 4)])), (0, 4, 4, ck_one 0), (226, 9, 9, (0, 400, [(1000001, 0)])), (226, 12, 12, ck_one 0), (227, 1286, 1286, (0, 20, [])), (227, 1285, 1285, (0, 2, []))]))])
noncomputable def pg_s87_E : List (Nat × List ck_Sum) := [(250, [pg_s4, pg_s5, pg_s6]), (256, [pg_s8]), (269, [pg_s10]), (275, [pg_s66])]
set_option maxRecDepth 100000 in
noncomputable def pg_s87_F111 : ck_F := ([], [], [(0, 5, 5, (0, 400, [(1000033, 0), (1000031, 4)])), (226, 11, 11, (0, 399, [])), (227, 1286, 1286, (0, 20, [])), (227, 1285, 1285, (0, 2, [])), (0, 4, 4, (1, 4, [])), (0, 2, 2, ck_one 10), (0, 0, 0, (0, 400, [(30, 0)])), (0, 3, 3, ((-400), 400, [(1000031, 0)])), (0, 6, 6, (0, 1, [])), (226, 9, 9, (0, 400, [(1000001, 0)])), (226, 15, 15, (0, 400, [(2, 0)]))])
noncomputable def pg_s87_C111 : ck_C := (rl_A 10, pg_s87_F111, 0, .inl 2, true)
set_option maxRecDepth 100000 in
noncomputable def pg_s87_F147 : ck_F := ([], [], [(0, 5, 5, (0, 400, [(1000033, 0), (1000031, 4)])), (226, 11, 11, (0, 400, [(1000001, 0)])), (0, 3, 3, (0, 400, [(1000033, 0), (1000031, 4)])), (0, 4, 4, ck_one 0), (226, 9, 9, (0, 400, [(1000001, 0)])), (226, 12, 12, ck_one 0), (0, 0, 0, (0, 1, [])), (0, 6, 6, ck_one 1), (227, 1286, 1286, (0, 20, [])), (227, 1285, 1285, (0, 2, [])), (0, 2, 2, ck_one 10), (226, 15, 15, (0, 400, []))])
noncomputable def pg_s87_C147 : ck_C := (rl_A 10, pg_s87_F147, 0, .inl 2, true)
noncomputable def pg_s87_Z : List (Nat × ck_C) := [(147, pg_s87_C147), (111, pg_s87_C111)]
set_option maxRecDepth 100000 in
theorem pg_s87_a : (decide (pg_s87.2.2.1.length ≤ gm_ml 274) && ck_go pg_O none [] pg_s87_E 274 pg_s87.1.1 pg_s87.2.1 pg_s87.2.2.2.2.1 pg_s87.2.2.2.2.2 pg_s87_Z 416 false [(147, pg_s87_C147, 0, 0, 245), (111, pg_s87_C111, 0, 0, 245)] pg_s87.1.2.1 pg_s87.1.2.2 0 (pg_s87.2.2.1.map some ++ List.replicate (gm_ml 274 - pg_s87.2.2.1.length) none) [] pg_s87.2.1 pg_s87.2.2.2.1) = true := by decide +kernel
set_option maxRecDepth 100000 in
theorem pg_s87_b : ck_go pg_O none [] pg_s87_E 274 pg_s87.1.1 245 pg_s87.2.2.2.2.1 pg_s87.2.2.2.2.2 pg_s87_Z 416 false [(147, pg_s87_C147, 0, 0, 245)] 0 0 123 (rl_A 10) [] 245 (rl_F1 10 pg_s87_F111) = true := by decide +kernel
set_option maxRecDepth 100000 in
theorem pg_s87_c : ck_go pg_O none [] pg_s87_E 274 pg_s87.1.1 245 pg_s87.2.2.2.2.1 pg_s87.2.2.2.2.2 pg_s87_Z 416 false [] 0 0 159 (rl_A 10) [] 245 (rl_F2 10 pg_s87_F147) = true := by decide +kernel
theorem pg_s87_u : ck_cu pg_s87_Z = true := by decide +kernel
theorem pg_s87_h {X : Int → Int} {LX : Nat} : ck_nmu pg_O ∧ ck_OkE pg_O X LX pg_s87_E := ⟨pg_nmu, ck_E1 (ck_S1 pg_s4_s (ck_S1 pg_s5_s (ck_S1 pg_s6_s ck_S0))) (ck_E1 (ck_S1 pg_s8_s ck_S0) (ck_E1 (ck_S1 pg_s10_s ck_S0) (ck_E1 (ck_S1 pg_s66_s ck_S0) ck_E0)))⟩
theorem pg_s87_y147 {X : Int → Int} {LX : Nat} {σ σ0 : Nat → Int} {K0 : gm_K} {R0 : gm_R} {M0 : gm_M} (hσ : ∀ s, s < 100 → σ s = σ0 s) : ck_Hy pg_O X LX 274 pg_s87.1.1 pg_s87.2.2.2.2.1 245 K0 R0 M0 (ck_Q pg_O σ0 pg_s87.2.2.2.2.1 245 K0 R0 M0 pg_s87.2.2.2.2.2) σ (147, pg_s87_C147, 0, 0, 245) := rl_147 pg_s87_u pg_s87_h hσ (by decide) (by decide +kernel) (by decide +kernel) ⟨by decide +kernel, by decide +kernel, by decide +kernel, by decide +kernel, by decide +kernel⟩ pg_s87_c (fun _ h => nomatch h)
theorem pg_s87_y111 {X : Int → Int} {LX : Nat} {σ σ0 : Nat → Int} {K0 : gm_K} {R0 : gm_R} {M0 : gm_M} (hσ : ∀ s, s < 100 → σ s = σ0 s) : ck_Hy pg_O X LX 274 pg_s87.1.1 pg_s87.2.2.2.2.1 245 K0 R0 M0 (ck_Q pg_O σ0 pg_s87.2.2.2.2.1 245 K0 R0 M0 pg_s87.2.2.2.2.2) σ (111, pg_s87_C111, 0, 0, 245) := rl_111 pg_s87_u pg_s87_h hσ (by decide) (by decide +kernel) ⟨by decide +kernel, by decide +kernel, by decide +kernel, by decide +kernel⟩ pg_s87_b (fun h hm => by
  rw [List.mem_singleton.mp hm]
  exact ⟨List.mem_cons_self, pg_s87_y147 hσ⟩)
theorem pg_s87_s {X : Int → Int} {LX : Nat} : ck_Ok pg_O X LX 274 pg_s87 := by
  refine ck_ok_st (cuts := pg_s87_Z) pg_s87_u pg_s87_h pg_s87_a (fun h hm => ?_)
  rcases List.mem_cons.mp hm with rfl | hm
  · exact ⟨List.mem_cons_self, fun σ K0 R0 M0 => pg_s87_y147 (fun _ _ => rfl)⟩
  rw [List.mem_singleton.mp hm]
  exact ⟨List.mem_cons_of_mem _ List.mem_cons_self, fun σ K0 R0 M0 => pg_s87_y111 (fun _ _ => rfl)⟩
set_option maxRecDepth 100000 in
/-- GlacierMailModel.readLine -/
noncomputable def pg_s88 : ck_Sum := ((31, 0, 0), 245, [.inr (.inr (.inl 226)), .inl (ck_one 0), .inl (ck_one 10)], ([], [], [(0, 2, 2, ck_one 10), (0, 0, 0, (0, 400, [(30, 0)])), (0, 3, 3, ((-400), 400, [(31, 0)])), (0, 4, 4, ((-400), 400, [(32, 0)])), (0, 5, 5, (0, 400, [(33, 0)])), (0, 6, 6, (0, 1, [])), (226, 9, 9, (0, 400, [(1, 0)])), (226, 15, 15, (0, 400, [(2, 0)]))]), ([(0, 0, 6), (226, 9, 9), (226, 11, 12), (226, 15, 15), (227, 1285, 1288), (227, 1293, 2092)], []), [(.inr (some (.inl (ck_one 0))), 245, ([], [], [(0, 2, 2, ck_one 10), (0, 0, 0, (0, 400, [])), (0, 3, 3, (0, 400, [(1000033, 0)])), (0, 4, 4, ((-400), 400, [])), (0, 5, 5, (0, 400, [(1000033, 0)])), (0, 6, 6, (0, 1, [])), (226, 9, 9, (0, 400, [(1000001, 0)]))])), (.inr (some (.inl (ck_one 1))), 245, ([], [], [(0, 5, 5, (4, 400, [(1000033, 4)])), (226, 11, 11, (0, 400, [(1000001, 0)])), (0, 0, 0, ck_one 0), (0, 2, 2, ck_one 11), (0, 6, 6, ck_one 0), (0, 3, 3, (4, 400, [(1000033, 4)])), (0, 4, 4, ck_one 0), (226, 9, 9, (0, 400, [(1000001, 0)])), (226, 12, 12, ck_one 0), (227, 1286, 1286, (0, 20, [])), (227, 1285, 1285, (0, 2, []))]))])
set_option maxRecDepth 100000 in
theorem pg_s88_s {X : Int → Int} {LX : Nat} : ck_Ok pg_O X LX 247 pg_s88 := ck_ok_s (O := pg_O) (X := X) (LX := LX) (E := [(248, [pg_s3]), (274, [pg_s87])]) (mi := 247) (cuts := []) (f := 102) (S := pg_s88) (lx := none) (XF := []) ⟨pg_nmu, ck_E1 (ck_S1 pg_s3_s ck_S0) (ck_E1 (ck_S1 pg_s87_s ck_S0) ck_E0)⟩ ck_X0 ck_l0 (by decide +kernel)
set_option maxRecDepth 100000 in
/-- GlacierMailModel.readLawLine -/
noncomputable def pg_s89 : ck_Sum := ((30, 0, 0), 245, [.inr (.inr (.inl 226)), .inl (ck_one 11)], ([], [], [(0, 2, 2, ck_one 11), (0, 0, 0, (0, 400, [(30, 0)])), (0, 3, 3, ((-400), 400, [(31, 0)])), (0, 4, 4, ((-400), 400, [(32, 0)])), (0, 5, 5, (0, 400, [(33, 0)])), (0, 6, 6, (0, 1, [])), (226, 9, 9, (0, 400, [(1, 0)])), (226, 15, 15, (0, 400, [(2, 0)]))]), ([(0, 0, 6), (226, 9, 9), (226, 11, 12), (226, 15, 15), (227, 1289, 2092)], []), [(.inr (some (.inl (ck_one 0))), 245, ([], [], [(0, 2, 2, ck_one 11), (0, 0, 0, (0, 400, [])), (0, 3, 3, ((-400), 400, [(1000031, 0)])), (0, 4, 4, ((-400), 400, [])), (0, 5, 5, (0, 400, [(1000033, 0)])), (0, 6, 6, (0, 1, [])), (226, 9, 9, (0, 400, [(1000001, 0)]))])), (.inr (some (.inl (ck_one 1))), 245, ([], [], [(0, 0, 0, ck_one 0), (0, 2, 2, ck_one 12), (0, 6, 6, ck_one 0), (0, 5, 5, (0, 400, [(1000033, 0), (1000031, 4)])), (226, 11, 11, (0, 400, [(1000001, 0)])), (0, 3, 3, (0, 400, [(1000033, 0), (1000031, 4)])), (0, 4, 4, ck_one 0), (226, 9, 9, (0, 400, [(1000001, 0)])), (226, 12, 12, ck_one 0), (227, 1290, 1290, (0, 20, [])), (227, 1289, 1289, (0, 2, []))]))])
noncomputable def pg_s89_E : List (Nat × List ck_Sum) := [(250, [pg_s4, pg_s5, pg_s6]), (256, [pg_s8]), (269, [pg_s10]), (275, [pg_s66])]
set_option maxRecDepth 100000 in
noncomputable def pg_s89_F111 : ck_F := ([], [], [(0, 5, 5, (0, 400, [(1000033, 0), (1000031, 4)])), (226, 11, 11, (0, 399, [])), (227, 1290, 1290, (0, 20, [])), (227, 1289, 1289, (0, 2, [])), (0, 4, 4, (1, 4, [])), (0, 2, 2, ck_one 11), (0, 0, 0, (0, 400, [(30, 0)])), (0, 3, 3, ((-400), 400, [(1000031, 0)])), (0, 6, 6, (0, 1, [])), (226, 9, 9, (0, 400, [(1000001, 0)])), (226, 15, 15, (0, 400, [(2, 0)]))])
noncomputable def pg_s89_C111 : ck_C := (rl_A 11, pg_s89_F111, 0, .inl 2, true)
set_option maxRecDepth 100000 in
noncomputable def pg_s89_F147 : ck_F := ([], [], [(0, 5, 5, (0, 400, [(1000033, 0), (1000031, 4)])), (226, 11, 11, (0, 400, [(1000001, 0)])), (0, 3, 3, (0, 400, [(1000033, 0), (1000031, 4)])), (0, 4, 4, ck_one 0), (226, 9, 9, (0, 400, [(1000001, 0)])), (226, 12, 12, ck_one 0), (0, 0, 0, (0, 1, [])), (0, 6, 6, ck_one 1), (227, 1290, 1290, (0, 20, [])), (227, 1289, 1289, (0, 2, [])), (0, 2, 2, ck_one 11), (226, 15, 15, (0, 400, []))])
noncomputable def pg_s89_C147 : ck_C := (rl_A 11, pg_s89_F147, 0, .inl 2, true)
noncomputable def pg_s89_Z : List (Nat × ck_C) := [(147, pg_s89_C147), (111, pg_s89_C111)]
set_option maxRecDepth 100000 in
theorem pg_s89_a : (decide (pg_s89.2.2.1.length ≤ gm_ml 274) && ck_go pg_O none [] pg_s89_E 274 pg_s89.1.1 pg_s89.2.1 pg_s89.2.2.2.2.1 pg_s89.2.2.2.2.2 pg_s89_Z 416 false [(147, pg_s89_C147, 0, 0, 245), (111, pg_s89_C111, 0, 0, 245)] pg_s89.1.2.1 pg_s89.1.2.2 0 (pg_s89.2.2.1.map some ++ List.replicate (gm_ml 274 - pg_s89.2.2.1.length) none) [] pg_s89.2.1 pg_s89.2.2.2.1) = true := by decide +kernel
set_option maxRecDepth 100000 in
theorem pg_s89_b : ck_go pg_O none [] pg_s89_E 274 pg_s89.1.1 245 pg_s89.2.2.2.2.1 pg_s89.2.2.2.2.2 pg_s89_Z 416 false [(147, pg_s89_C147, 0, 0, 245)] 0 0 123 (rl_A 11) [] 245 (rl_F1 11 pg_s89_F111) = true := by decide +kernel
set_option maxRecDepth 100000 in
theorem pg_s89_c : ck_go pg_O none [] pg_s89_E 274 pg_s89.1.1 245 pg_s89.2.2.2.2.1 pg_s89.2.2.2.2.2 pg_s89_Z 416 false [] 0 0 159 (rl_A 11) [] 245 (rl_F2 11 pg_s89_F147) = true := by decide +kernel
theorem pg_s89_u : ck_cu pg_s89_Z = true := by decide +kernel
theorem pg_s89_h {X : Int → Int} {LX : Nat} : ck_nmu pg_O ∧ ck_OkE pg_O X LX pg_s89_E := ⟨pg_nmu, ck_E1 (ck_S1 pg_s4_s (ck_S1 pg_s5_s (ck_S1 pg_s6_s ck_S0))) (ck_E1 (ck_S1 pg_s8_s ck_S0) (ck_E1 (ck_S1 pg_s10_s ck_S0) (ck_E1 (ck_S1 pg_s66_s ck_S0) ck_E0)))⟩
theorem pg_s89_y147 {X : Int → Int} {LX : Nat} {σ σ0 : Nat → Int} {K0 : gm_K} {R0 : gm_R} {M0 : gm_M} (hσ : ∀ s, s < 100 → σ s = σ0 s) : ck_Hy pg_O X LX 274 pg_s89.1.1 pg_s89.2.2.2.2.1 245 K0 R0 M0 (ck_Q pg_O σ0 pg_s89.2.2.2.2.1 245 K0 R0 M0 pg_s89.2.2.2.2.2) σ (147, pg_s89_C147, 0, 0, 245) := rl_147 pg_s89_u pg_s89_h hσ (by decide) (by decide +kernel) (by decide +kernel) ⟨by decide +kernel, by decide +kernel, by decide +kernel, by decide +kernel, by decide +kernel⟩ pg_s89_c (fun _ h => nomatch h)
theorem pg_s89_y111 {X : Int → Int} {LX : Nat} {σ σ0 : Nat → Int} {K0 : gm_K} {R0 : gm_R} {M0 : gm_M} (hσ : ∀ s, s < 100 → σ s = σ0 s) : ck_Hy pg_O X LX 274 pg_s89.1.1 pg_s89.2.2.2.2.1 245 K0 R0 M0 (ck_Q pg_O σ0 pg_s89.2.2.2.2.1 245 K0 R0 M0 pg_s89.2.2.2.2.2) σ (111, pg_s89_C111, 0, 0, 245) := rl_111 pg_s89_u pg_s89_h hσ (by decide) (by decide +kernel) ⟨by decide +kernel, by decide +kernel, by decide +kernel, by decide +kernel⟩ pg_s89_b (fun h hm => by
  rw [List.mem_singleton.mp hm]
  exact ⟨List.mem_cons_self, pg_s89_y147 hσ⟩)
theorem pg_s89_s {X : Int → Int} {LX : Nat} : ck_Ok pg_O X LX 274 pg_s89 := by
  refine ck_ok_st (cuts := pg_s89_Z) pg_s89_u pg_s89_h pg_s89_a (fun h hm => ?_)
  rcases List.mem_cons.mp hm with rfl | hm
  · exact ⟨List.mem_cons_self, fun σ K0 R0 M0 => pg_s89_y147 (fun _ _ => rfl)⟩
  rw [List.mem_singleton.mp hm]
  exact ⟨List.mem_cons_of_mem _ List.mem_cons_self, fun σ K0 R0 M0 => pg_s89_y111 (fun _ _ => rfl)⟩
set_option maxRecDepth 100000 in
/-- GlacierMailModel.readLine -/
noncomputable def pg_s90 : ck_Sum := ((31, 0, 0), 245, [.inr (.inr (.inl 226)), .inl (ck_one 0), .inl (ck_one 11)], ([], [], [(0, 2, 2, ck_one 11), (0, 0, 0, (0, 400, [(30, 0)])), (0, 3, 3, ((-400), 400, [(31, 0)])), (0, 4, 4, ((-400), 400, [(32, 0)])), (0, 5, 5, (0, 400, [(33, 0)])), (0, 6, 6, (0, 1, [])), (226, 9, 9, (0, 400, [(1, 0)])), (226, 15, 15, (0, 400, [(2, 0)]))]), ([(0, 0, 6), (226, 9, 9), (226, 11, 12), (226, 15, 15), (227, 1289, 2092)], []), [(.inr (some (.inl (ck_one 0))), 245, ([], [], [(0, 2, 2, ck_one 11), (0, 0, 0, (0, 400, [])), (0, 3, 3, (0, 400, [(1000033, 0)])), (0, 4, 4, ((-400), 400, [])), (0, 5, 5, (0, 400, [(1000033, 0)])), (0, 6, 6, (0, 1, [])), (226, 9, 9, (0, 400, [(1000001, 0)]))])), (.inr (some (.inl (ck_one 1))), 245, ([], [], [(0, 5, 5, (4, 400, [(1000033, 4)])), (226, 11, 11, (0, 400, [(1000001, 0)])), (0, 0, 0, ck_one 0), (0, 2, 2, ck_one 12), (0, 6, 6, ck_one 0), (0, 3, 3, (4, 400, [(1000033, 4)])), (0, 4, 4, ck_one 0), (226, 9, 9, (0, 400, [(1000001, 0)])), (226, 12, 12, ck_one 0), (227, 1290, 1290, (0, 20, [])), (227, 1289, 1289, (0, 2, []))]))])
set_option maxRecDepth 100000 in
theorem pg_s90_s {X : Int → Int} {LX : Nat} : ck_Ok pg_O X LX 247 pg_s90 := ck_ok_s (O := pg_O) (X := X) (LX := LX) (E := [(248, [pg_s3]), (274, [pg_s89])]) (mi := 247) (cuts := []) (f := 102) (S := pg_s90) (lx := none) (XF := []) ⟨pg_nmu, ck_E1 (ck_S1 pg_s3_s ck_S0) (ck_E1 (ck_S1 pg_s89_s ck_S0) ck_E0)⟩ ck_X0 ck_l0 (by decide +kernel)
set_option maxRecDepth 100000 in
/-- GlacierMailModel.readLine -/
noncomputable def pg_s91 : ck_Sum := ((3, 0, 0), 245, [.inr (.inr (.inl 226)), .inl (ck_one 0), .inl (ck_one 12)], ([], [], [(0, 3, 3, ((-400), 400, [(31, 0)])), (0, 4, 4, ((-400), 400, [(32, 0)])), (0, 5, 5, (0, 400, [(33, 0)])), (226, 9, 9, (0, 400, [(1, 0)]))]), ([(0, 3, 5), (226, 9, 9), (226, 11, 11)], []), [(.inr (some (.inl (ck_one 0))), 245, ([], [], [(0, 5, 5, (0, 400, [(1000033, 0)])), (226, 11, 11, (0, 400, [(1000001, 0)])), (0, 3, 3, (0, 400, [(1000033, 0)])), (0, 4, 4, (0, 400, [])), (226, 9, 9, (0, 400, [(1000001, 0)]))]))])
set_option maxRecDepth 100000 in
theorem pg_s91_s {X : Int → Int} {LX : Nat} : ck_Ok pg_O X LX 247 pg_s91 := ck_ok_s (O := pg_O) (X := X) (LX := LX) (E := [(248, [pg_s3])]) (mi := 247) (cuts := []) (f := 88) (S := pg_s91) (lx := none) (XF := []) ⟨pg_nmu, ck_E1 (ck_S1 pg_s3_s ck_S0) ck_E0⟩ ck_X0 ck_l0 (by decide +kernel)
set_option maxRecDepth 100000 in
/-- GlacierMailModel.isAt -/
noncomputable def pg_s92 : ck_Sum := ((0, 0, 0), 245, [.inr (.inr (.inl 226)), .inl (ck_one 59), .inl (ck_one 59)], ([], [], [(226, 9, 9, (0, 400, [(1, 0)]))]), ([], []), [(.inr (some (.inl (ck_one 0))), 245, ([], [], [])), (.inr (some (.inl (ck_one 1))), 245, ([], [], [(226, 10, 10, (1, 400, [])), (226, 9, 9, (0, 399, [(1, 0)]))]))])
set_option maxRecDepth 100000 in
theorem pg_s92_s {X : Int → Int} {LX : Nat} : ck_Ok pg_O X LX 246 pg_s92 := ck_ok_s (O := pg_O) (X := X) (LX := LX) (E := []) (mi := 246) (cuts := []) (f := 114) (S := pg_s92) (lx := none) (XF := []) ⟨pg_nmu, ck_E0⟩ ck_X0 ck_l0 (by decide +kernel)
set_option maxRecDepth 100000 in
/-- GlacierMailModel.throwsIf -/
noncomputable def pg_s93 : ck_Sum := ((0, 0, 0), 245, [.inr (.inr (.inl 226)), .inl (ck_one 0), .inl (ck_one 1)], ([], [], []), ([], []), [(.inr (some (.inl (ck_one 0))), 245, ([], [], []))])
set_option maxRecDepth 100000 in
theorem pg_s93_s {X : Int → Int} {LX : Nat} : ck_Ok pg_O X LX 282 pg_s93 := ck_ok_s (O := pg_O) (X := X) (LX := LX) (E := []) (mi := 282) (cuts := []) (f := 78) (S := pg_s93) (lx := none) (XF := []) ⟨pg_nmu, ck_E0⟩ ck_X0 ck_l0 (by decide +kernel)
set_option maxRecDepth 100000 in
/-- GlacierMailModel.throwsIf -/
noncomputable def pg_s94 : ck_Sum := ((0, 0, 0), 245, [.inr (.inr (.inl 226)), .inl (ck_one 1), .inl (ck_one 1)], ([], [], []), ([(226, 0, 0)], []), [(.inr (some (.inl (ck_one 1))), 245, ([], [], [(226, 0, 0, ck_one 1)]))])
set_option maxRecDepth 100000 in
theorem pg_s94_s {X : Int → Int} {LX : Nat} : ck_Ok pg_O X LX 282 pg_s94 := ck_ok_s (O := pg_O) (X := X) (LX := LX) (E := []) (mi := 282) (cuts := []) (f := 84) (S := pg_s94) (lx := none) (XF := []) ⟨pg_nmu, ck_E0⟩ ck_X0 ck_l0 (by decide +kernel)
end
/-! 74.lo -/
section
/-! A STATE WITH A LAW: told.law is 246 (a Law), 247 its codes (of a length not known), 248 its Rows, 249 their numbers. -/
noncomputable def l_fp (k : Nat) : List (Int × Int) := if k = 247 then [(-1, -1)] else j_fp k
noncomputable def l_J (t : List (Int × Int × Int × Int)) (K : gm_K) (M : gm_M) : Prop := j_J t K M ∧ ∃ N : Nat, N ≤ 400 ∧ K 247 = (0, N)
theorem l_h {t : List (Int × Int × Int × Int)} : ∀ (K K' : gm_K) (M M' : gm_M), (∀ k r, r ∈ l_fp k → K' k = K k) → (∀ k r, r ∈ l_fp k → ∀ j, r.1 ≤ j → j ≤ r.2 → M' k j = M k j) → l_J t K M → l_J t K' M' := by
  intro K K' M M' hK hM hJ
  obtain ⟨hJ, N, hN, h7⟩ := hJ
  have e : ∀ k r, r ∈ j_fp k → r ∈ l_fp k := fun k r hr => by
    unfold l_fp
    rw [if_neg]
    · exact hr
    · rintro rfl
      rw [show j_fp 247 = [] by decide] at hr
      cases hr
  exact ⟨j_h K K' M M' (fun k r hr => hK k r (e k r hr)) (fun k r hr => hM k r (e k r hr)) hJ, N, hN, by rw [hK 247 (-1, -1) (by decide)]; exact h7⟩
noncomputable def p2_LG (c : Option (Nat × Nat)) : gm_Or := (fun k => if k < 246 then p2_O.1 k else if k = 246 then some (14, 0) else if k = 247 then c else if k = 248 then some (6, 0) else if k = 249 then some (0, 48) else none, fun k j => if k < 246 then p2_O.2.1 k j else if k = 246 then (if j = 0 then some 248 else if j = 1 then some 247 else none) else if k = 248 then (if j = 2 then some 249 else none) else none, ⟨(fun k => if k < 246 then p2_O.2.2.ty k else if k = 248 then [(0, 0, 12, 12), (1, 1, 4, 4), (3, 3, 0, 12)] else [], l_fp, l_J p2_ty, p2_nm, none), ⟨l_h, fun _ h => nomatch h⟩⟩)
noncomputable abbrev p2_OL : gm_Or := p2_LG none
theorem pl_nmu : ck_nmu p2_OL := p2_nmu
/-- GlacierMail$Law.holds -/
noncomputable def lh_o : List ck_Oc := [(.inr (some (.inl (0, 1, []))), 249, ([], [], []))]
noncomputable def lh_S : ck_Sum := ((0, 0, 0), 249, [.inr (.inr (.inl 246)), .inl (-2147483648, 2147483647, []), .inl (-2147483648, 2147483647, []), .inr (.inr (.inl 204))], ([], [], []), ([], []), lh_o)
noncomputable def lh_C11 : ck_C := ([some (.inr (.inr (.inl 246))), none, some (.inl (-2147483648, 2147483647, [])), some (.inr (.inr (.inl 204))), some (.inl (0, 2147483647, [])), none, none, none, none, none, none, none, none, none], ([], [], []), 0, .inl 4, true)
noncomputable def lh_A31 : ck_AL := [some (.inr (.inr (.inl 246))), none, none, some (.inr (.inr (.inl 204))), some (.inl (0, 2147483647, [])), some (.inl (-2147483648, 400, [(51, 0)])), none, none, none, none, none, none, none, none]
noncomputable def lh_C55 (a : ck_I) : ck_C := ([some (.inr (.inr (.inl 246))), none, none, some (.inr (.inr (.inl 204))), none, some (.inl (-2147483648, 400, [(51, 0)])), some (.inl (-2147483648, 2147483647, [])), some (.inl (-2147483648, 2147483647, [])), some (.inl (-2147483648, 2147483647, [])), some (.inl a), none, none, none, none], ([], [], []), 0, .inl 9, true)
noncomputable def lh_A71 : ck_AL := [some (.inr (.inr (.inl 246))), none, none, some (.inr (.inr (.inl 204))), none, some (.inl (-2147483648, 400, [(51, 0)])), some (.inl (-2147483648, 2147483647, [])), some (.inl (-2147483648, 2147483647, [])), some (.inl (-2147483648, 2147483647, [])), some (.inl (0, 399, [(50, 0)])), some (.inl (-2147483648, 2147483647, [])), none, none, none]
noncomputable def lh_A296 : ck_AL := [none, none, none, none, none, none, some (.inl (-2147483648, 2147483647, [])), none, none, none, none, none, none, none]
theorem lh_a : (decide (lh_S.2.2.1.length ≤ gm_ml 41) && ck_go p2_OL none [] [] 41 lh_S.1.1 lh_S.2.1 lh_S.2.2.2.2.1 lh_S.2.2.2.2.2 [(11, lh_C11)] 60 false [(11, lh_C11, 0, 0, 249)] lh_S.1.2.1 lh_S.1.2.2 0 (lh_S.2.2.1.map some ++ List.replicate (gm_ml 41 - lh_S.2.2.1.length) none) [] lh_S.2.1 lh_S.2.2.2.1) = true := by decide +kernel
theorem lh_g31 : ck_go p2_OL none [] [] 41 0 249 ([], []) lh_o [(55, lh_C55 (0, 2147483647, []))] 60 true [(55, lh_C55 (0, 2147483647, []), 0, 0, 249)] 0 0 31 lh_A31 [] 249 ([], [], []) = true := by decide +kernel
theorem lh_g71 : ck_go p2_OL none [] [] 41 0 249 ([], []) lh_o [(55, lh_C55 (0, 400, [(50, 1)]))] 300 true [(55, lh_C55 (0, 400, [(50, 1)]), 0, 0, 249)] 0 0 71 lh_A71 [] 249 ([], [], []) = true := by decide +kernel
theorem lh_g296 : ck_go p2_OL none [] [] 41 0 249 ([], []) lh_o [] 60 true [] 0 0 296 lh_A296 [] 249 ([], [], []) = true := by decide +kernel
theorem lh_or : (p2_OL.1 246 = some (14, 0) ∧ p2_OL.2.1 246 ((1 : Nat) : Int) = some 247) := by decide +kernel
section LH
variable {X : Int → Int} {LX : Nat}
theorem lh_Qm {W : List (Nat × Int × Int) × List (Nat × Int)} {σ σ' : Nat → Int} {n0 n : Nat} {K0 K : gm_K} {R0 R : gm_R} {M0 M : gm_M} {o : gm_O} (h : ck_Q p2_OL σ W n0 K0 R0 M0 lh_o o n K R M) : ck_Q p2_OL σ' W n0 K0 R0 M0 lh_o o n K R M := by
  obtain ⟨h1, h2, oc, h3, h4, h5, h6⟩ := h
  rw [List.mem_singleton.mp h3] at h4 h5
  refine ⟨h1, h2, _, List.mem_cons_self, ?_, h5, ⟨(fun _ h => nomatch h), (fun _ h => nomatch h), (fun _ h => nomatch h)⟩⟩
  rcases o with u | x
  · rcases u with _ | v
    · exact h4
    · obtain ⟨x, rfl, h7, h8, h9, -⟩ := h4
      exact ⟨x, rfl, h7, h8, h9, fun _ h => nomatch h⟩
  · exact h4
noncomputable def lh_σ (σ : Nat → Int) (a b : Int) : Nat → Int := fun s => if s = 50 then a else if s = 51 then b else σ s
theorem lh_g1 {σ : Nat → Int} {s : Nat} {x : Int} {c : ck_A} {a : ck_I} (h : c = .inl a) (hx : gm_ir x) (h1 : a.1 ≤ x) (h2 : x ≤ a.2.1) (h3 : a.2.2 = [] ∨ a.2.2 = [(s, 0)] ∧ s < 1000000 ∧ σ s = x) : ck_ga σ c (gm_vi x) := by
  subst h
  refine ⟨x, rfl, hx, h1, h2, ?_⟩
  rcases h3 with h3 | ⟨h3, h4, h5⟩
  · rw [h3]
    exact fun _ h => nomatch h
  · rw [h3]
    exact ck_gt1 h4 (by omega)
/-- the loop over the codes -/
theorem lh_lp {N : Nat} {x : Int} {σ : Nat → Int} {K0 : gm_K} {R0 : gm_R} {M0 : gm_M} (hN : N ≤ 400) (hK0 : K0 247 = (0, N)) (hx : x ≤ (N : Int) ∧ gm_ir x) : ∀ (m : Nat) (i : Int) (bc bs : Nat) (L : gm_L) (K : gm_K) (R : gm_R) (M : gm_M) (y6 y7 y8 : Int), x - i ≤ (m : Int) → 0 ≤ i → gm_ir i → gm_Fx p2_OL 249 K R M → ck_fr ([], []) 249 K0 R0 M0 249 K R M → L.length = 14 → L[0]? = some (some (gm_vr 246)) → L[3]? = some (some (gm_vr 204)) → L[5]? = some (some (gm_vi x)) → L[6]? = some (some (gm_vi y6)) → gm_ir y6 → L[7]? = some (some (gm_vi y7)) → gm_ir y7 → L[8]? = some (some (gm_vi y8)) → gm_ir y8 → L[9]? = some (some (gm_vi i)) → gm_Wp X LX 0 bc bs 41 55 L [] 249 K R M (ck_Q p2_OL σ ([], []) 249 K0 R0 M0 lh_o) := by
  intro m
  induction m with
  | zero =>
    intro i bc bs L K R M y6 y7 y8 hm h0 hi hF hfr hL l0 l3 l5 l6 i6 l7 i7 l8 i8 l9
    refine gm_sz (gm_p_load (pc := 55) (i := .iload 9) (sr := 0) (j := 9) (by decide +kernel) rfl l9 rfl) ?_
    refine gm_sz (gm_p_load (pc := 57) (i := .iload 5) (sr := 0) (j := 5) (by decide +kernel) rfl l5 rfl) ?_
    refine gm_b_ic (cc := .ge) (pc := 59) (off := 237) (by decide +kernel) (by decide) (fun _ => ?_) (fun hp => ?_)
    · refine gm_Wp_wk (Nat.le_refl _) (Nat.zero_le _) (Nat.zero_le _) (ck_go_s (σ0 := σ) (cuts := []) (by decide) ⟨pl_nmu, ck_E0⟩ ck_X0 ck_l0 60 true [] 0 0 296 lh_A296 [] 249 ([], [], []) σ L [] K R M (fun _ _ => rfl) (fun _ h => nomatch h) ⟨hF, ⟨by rw [hL]; rfl, fun j b hb => ?_⟩, rfl, ⟨(fun _ h => nomatch h), (fun _ h => nomatch h), (fun _ h => nomatch h)⟩, hfr⟩ lh_g296)
      rcases j with _ | _ | _ | _ | _ | _ | _ | j
      · cases hb
      · cases hb
      · cases hb
      · cases hb
      · cases hb
      · cases hb
      · cases hb; exact ⟨_, l6, lh_g1 (s := 0) rfl i6 i6.1 (by have := i6.2; show y6 ≤ (2147483647 : Int); omega) (Or.inl rfl)⟩
      · rcases j with _ | _ | _ | _ | _ | _ | _ | j <;> cases hb
    · rw [gm_cm_w hi hx.2] at hp
      have hp : ¬ x ≤ i := hp
      omega
  | succ m ih =>
    intro i bc bs L K R M y6 y7 y8 hm h0 hi hF hfr hL l0 l3 l5 l6 i6 l7 i7 l8 i8 l9
    obtain ⟨k1, k2, k3⟩ := hF.1 246 _ lh_or.1
    have kL : (1 ≤ 246 ∧ 246 ≤ 249) ∧ (K 246).1 = 10 + 4 := ⟨⟨by decide, by decide⟩, by rw [k3]⟩
    have rL := (hF.2.1 246 _ _ lh_or.2).2
    have kC : (1 ≤ 247 ∧ 247 ≤ 249) ∧ K 247 = (0, N) := ⟨⟨by decide, by decide⟩, (hfr.2.1 247 (by decide)).trans hK0⟩
    refine gm_sz (gm_p_load (pc := 55) (i := .iload 9) (sr := 0) (j := 9) (by decide +kernel) rfl l9 rfl) ?_
    refine gm_sz (gm_p_load (pc := 57) (i := .iload 5) (sr := 0) (j := 5) (by decide +kernel) rfl l5 rfl) ?_
    refine gm_b_ic (cc := .ge) (pc := 59) (off := 237) (by decide +kernel) (by decide) (fun _ => ?_) (fun hp => ?_)
    · refine gm_Wp_wk (Nat.le_refl _) (Nat.zero_le _) (Nat.zero_le _) (ck_go_s (σ0 := σ) (cuts := []) (by decide) ⟨pl_nmu, ck_E0⟩ ck_X0 ck_l0 60 true [] 0 0 296 lh_A296 [] 249 ([], [], []) σ L [] K R M (fun _ _ => rfl) (fun _ h => nomatch h) ⟨hF, ⟨by rw [hL]; rfl, fun j b hb => ?_⟩, rfl, ⟨(fun _ h => nomatch h), (fun _ h => nomatch h), (fun _ h => nomatch h)⟩, hfr⟩ lh_g296)
      rcases j with _ | _ | _ | _ | _ | _ | _ | j
      · cases hb
      · cases hb
      · cases hb
      · cases hb
      · cases hb
      · cases hb
      · cases hb; exact ⟨_, l6, lh_g1 (s := 0) rfl i6 i6.1 (by have := i6.2; show y6 ≤ (2147483647 : Int); omega) (Or.inl rfl)⟩
      · rcases j with _ | _ | _ | _ | _ | _ | _ | j <;> cases hb
    · rw [gm_cm_w hi hx.2] at hp
      have hp : ¬ x ≤ i := hp
      refine gm_sz (gm_p_load (pc := 62) (i := .aload_n 0) (sr := 2) (j := 0) (by decide +kernel) rfl l0 rfl) ?_
      refine gm_sz (gm_p_get (pc := 63) (ix := 22) (ci := 10) (j := 1) (by decide +kernel) kL.1 kL.2 (by decide +kernel)) ?_
      rw [if_pos (show gm_isr 10 1 = true by decide +kernel), rL]
      refine gm_sz (gm_p_load (pc := 66) (i := .iload 9) (sr := 0) (j := 9) (by decide +kernel) rfl l9 rfl) ?_
      refine gm_sz (gm_p_iald (pc := 68) (by decide +kernel) kC.1 (by rw [kC.2]) (by rw [gm_w_id (by omega) (by omega), kC.2]; omega)) ?_
      refine gm_sz (gm_p_stor (pc := 69) (i := .istore 10) (sr := 0) (j := 10) (by decide +kernel) rfl (show 10 + 0 < L.length by omega) rfl) ?_
      refine ck_nvL ?_
      generalize hc : gm_w (M 247 (gm_w i)) = cd
      have icd : gm_ir cd := by rw [← hc]; exact ck_w_ir _
      rw [show gm_lst L 10 (gm_vi cd) = L.set 10 (some (gm_vi cd)) by
        have e : gm_lc L 10 = L := by
          show (match L[9]? with
            | some (some (.inr (.inl _))) => L.set 9 none
            | _ => L) = L
          rw [l9]
        show (gm_lc L 10).set 10 (some (gm_vi cd)) = _
        rw [e]]
      refine gm_Wp_mono (fun o n K R M h => lh_Qm (σ := lh_σ σ i x) h) ?_
      refine gm_Wp_wk (Nat.le_refl _) (Nat.zero_le _) (Nat.zero_le _) (ck_go_s (σ0 := lh_σ σ i x) (cuts := [(55, lh_C55 (0, 400, [(50, 1)]))]) (by decide +kernel) ⟨pl_nmu, ck_E0⟩ ck_X0 ck_l0 300 true [(55, lh_C55 (0, 400, [(50, 1)]), 0, 0, 249)] 0 0 71 lh_A71 [] 249 ([], [], []) (lh_σ σ i x) _ [] K R M (fun _ _ => rfl) (fun z hz => ?_) ⟨hF, ⟨by rw [List.length_set, hL]; rfl, fun j b hb => ?_⟩, rfl, ⟨(fun _ h => nomatch h), (fun _ h => nomatch h), (fun _ h => nomatch h)⟩, hfr⟩ lh_g71)
      · rw [List.mem_singleton.mp hz]
        refine ⟨List.mem_cons_self, fun v _ bc bs L K R M _ _ hS _ => ?_⟩
        obtain ⟨hF, hl, -, -, hfr⟩ := hS
        obtain ⟨u0, e0, g0⟩ := hl.2 0 (.inr (.inr (.inl 246))) rfl
        cases g0
        obtain ⟨u3, e3, g3⟩ := hl.2 3 (.inr (.inr (.inl 204))) rfl
        cases g3
        obtain ⟨u5, e5, x5, rfl, -, -, -, t5⟩ := hl.2 5 (.inl (-2147483648, 400, [(51, 0)])) rfl
        obtain ⟨u6, e6, x6, rfl, g6, -⟩ := hl.2 6 (.inl (-2147483648, 2147483647, [])) rfl
        obtain ⟨u7, e7, x7, rfl, g7, -⟩ := hl.2 7 (.inl (-2147483648, 2147483647, [])) rfl
        obtain ⟨u8, e8, x8, rfl, g8, -⟩ := hl.2 8 (.inl (-2147483648, 2147483647, [])) rfl
        obtain ⟨u9, e9, x9, rfl, g9, -, -, t9⟩ := hl.2 9 (.inl (0, 400, [(50, 1)])) rfl
        have y5 : x5 = x + 0 := (t5 (51, 0) List.mem_cons_self).1 (show 51 < 1000000 by decide)
        have y9 : x9 = i + 1 := (t9 (50, 1) List.mem_cons_self).1 (show 50 < 1000000 by decide)
        rw [Int.add_zero] at y5
        subst y5 y9
        exact gm_Wp_mono (fun o n K R M h => lh_Qm h) (ih (i + 1) bc bs L K R M x6 x7 x8 (by omega) (by omega) g9 hF hfr hl.1.symm e0 e3 e5 e6 g6 e7 g7 e8 g8 e9)
      · have q : ∀ (j : Nat) (v : gm_V), ¬ j = 10 → L[j]? = some (some v) → (L.set 10 (some (gm_vi cd)))[j]? = some (some v) := fun j v hj hv => by rw [List.getElem?_set, if_neg (fun e => hj e.symm), hv]
        have tp : ∀ {y : Int} {σ : Nat → Int}, gm_ir y → ck_ga σ (.inl (-2147483648, 2147483647, [])) (gm_vi y) := fun h => lh_g1 (s := 0) rfl h h.1 (by have := h.2; show _ ≤ (2147483647 : Int); omega) (Or.inl rfl)
        rcases j with _ | _ | _ | _ | _ | _ | _ | _ | _ | _ | _ | j
        · cases hb; exact ⟨_, q 0 _ (by decide) l0, rfl⟩
        · cases hb
        · cases hb
        · cases hb; exact ⟨_, q 3 _ (by decide) l3, rfl⟩
        · cases hb
        · cases hb; exact ⟨_, q 5 _ (by decide) l5, lh_g1 (s := 51) rfl hx.2 hx.2.1 (by show x ≤ (400 : Int); omega) (Or.inr ⟨rfl, by decide, rfl⟩)⟩
        · cases hb; exact ⟨_, q 6 _ (by decide) l6, tp i6⟩
        · cases hb; exact ⟨_, q 7 _ (by decide) l7, tp i7⟩
        · cases hb; exact ⟨_, q 8 _ (by decide) l8, tp i8⟩
        · cases hb; exact ⟨_, q 9 _ (by decide) l9, lh_g1 (s := 50) rfl hi h0 (by show i ≤ (399 : Int); omega) (Or.inr ⟨rfl, by decide, rfl⟩)⟩
        · cases hb; exact ⟨_, by rw [List.getElem?_set, if_pos rfl, if_pos (by omega)], tp icd⟩
        · rcases j with _ | _ | _ | j <;> cases hb
theorem lh_S_s : ck_Ok p2_OL X LX 41 lh_S := by
  refine ck_ok_st (cuts := [(11, lh_C11)]) (by decide +kernel) ⟨pl_nmu, ck_E0⟩ lh_a (fun h hm => ?_)
  rw [List.mem_singleton.mp hm]
  refine ⟨List.mem_singleton.mpr rfl, fun σ K0 R0 M0 v _ bc bs L K R M _ _ hS _ => ?_⟩
  obtain ⟨hF, hl, -, -, hfr⟩ := hS
  have hF : gm_Fx p2_OL 249 K R M := hF
  have hfr : ck_fr ([], []) 249 K0 R0 M0 249 K R M := hfr
  have hL : L.length = 14 := hl.1.symm
  obtain ⟨N, hN, hK⟩ := hF.2.2.2.2.2
  obtain ⟨u0, l0, g0⟩ := hl.2 0 (.inr (.inr (.inl 246))) rfl
  cases g0
  obtain ⟨u3, l3, g3⟩ := hl.2 3 (.inr (.inr (.inl 204))) rfl
  cases g3
  obtain ⟨u2, l2, to, rfl, i2, -⟩ := hl.2 2 (.inl (-2147483648, 2147483647, [])) rfl
  obtain ⟨u4, l4, bg, rfl, i4, b1, b2, -⟩ := hl.2 4 (.inl (0, 2147483647, [])) rfl
  obtain ⟨k1, k2, k3⟩ := hF.1 246 _ lh_or.1
  have kL : (1 ≤ 246 ∧ 246 ≤ 249) ∧ (K 246).1 = 10 + 4 := ⟨⟨by decide, by decide⟩, by rw [k3]⟩
  have rL := (hF.2.1 246 _ _ lh_or.2).2
  have kC : (1 ≤ 247 ∧ 247 ≤ 249) ∧ K 247 = (0, N) := ⟨⟨by decide, by decide⟩, hK⟩
  have hK0 : K0 247 = (0, N) := (hfr.2.1 247 (by decide)).symm.trans hK
  have tail : ∀ x : Int, x ≤ (N : Int) → gm_ir x → gm_Wp X LX 0 bc bs 41 29 L [gm_vi x] 249 K R M (ck_Q p2_OL σ ([], []) 249 K0 R0 M0 lh_o) := by
    intro x hx ix
    refine gm_sz (gm_p_stor (pc := 29) (i := .istore 5) (sr := 0) (j := 5) (by decide +kernel) rfl (show 5 + 0 < L.length by omega) rfl) ?_
    rw [show gm_lst L 5 (gm_vi x) = L.set 5 (some (gm_vi x)) by
      have e : gm_lc L 5 = L := by
        show (match L[4]? with
          | some (some (.inr (.inl _))) => L.set 4 none
          | _ => L) = L
        rw [l4]
      show (gm_lc L 5).set 5 (some (gm_vi x)) = _
      rw [e]]
    have q : ∀ (j : Nat) (v : gm_V), ¬ j = 5 → L[j]? = some (some v) → (L.set 5 (some (gm_vi x)))[j]? = some (some v) := fun j v hj hv => by rw [List.getElem?_set, if_neg (fun e => hj e.symm), hv]
    refine gm_Wp_mono (fun o n K R M h => lh_Qm (σ := lh_σ σ 0 x) h) ?_
    refine gm_Wp_wk (Nat.le_refl _) (Nat.zero_le _) (Nat.zero_le _) (ck_go_s (σ0 := lh_σ σ 0 x) (cuts := [(55, lh_C55 (0, 2147483647, []))]) (by decide +kernel) ⟨pl_nmu, ck_E0⟩ ck_X0 ck_l0 60 true [(55, lh_C55 (0, 2147483647, []), 0, 0, 249)] 0 0 31 lh_A31 [] 249 ([], [], []) (lh_σ σ 0 x) _ [] K R M (fun _ _ => rfl) (fun z hz => ?_) ⟨hF, ⟨by rw [List.length_set, hL]; rfl, fun j b hb => ?_⟩, rfl, ⟨(fun _ h => nomatch h), (fun _ h => nomatch h), (fun _ h => nomatch h)⟩, hfr⟩ lh_g31)
    · rw [List.mem_singleton.mp hz]
      refine ⟨List.mem_cons_self, fun v _ bc bs L K R M _ _ hS _ => ?_⟩
      obtain ⟨hF, hl, -, -, hfr⟩ := hS
      obtain ⟨u0, e0, g0⟩ := hl.2 0 (.inr (.inr (.inl 246))) rfl
      cases g0
      obtain ⟨u3, e3, g3⟩ := hl.2 3 (.inr (.inr (.inl 204))) rfl
      cases g3
      obtain ⟨u5, e5, x5, rfl, -, -, -, t5⟩ := hl.2 5 (.inl (-2147483648, 400, [(51, 0)])) rfl
      obtain ⟨u6, e6, x6, rfl, g6, -⟩ := hl.2 6 (.inl (-2147483648, 2147483647, [])) rfl
      obtain ⟨u7, e7, x7, rfl, g7, -⟩ := hl.2 7 (.inl (-2147483648, 2147483647, [])) rfl
      obtain ⟨u8, e8, x8, rfl, g8, -⟩ := hl.2 8 (.inl (-2147483648, 2147483647, [])) rfl
      obtain ⟨u9, e9, x9, rfl, g9, g91, -⟩ := hl.2 9 (.inl (0, 2147483647, [])) rfl
      have y5 : x5 = x + 0 := (t5 (51, 0) List.mem_cons_self).1 (show 51 < 1000000 by decide)
      rw [Int.add_zero] at y5
      subst y5
      exact gm_Wp_mono (fun o n K R M h => lh_Qm h) (lh_lp (σ := σ) hN hK0 ⟨hx, ix⟩ (x5 - x9).toNat x9 bc bs L K R M x6 x7 x8 (by omega) (by have g91 : (0 : Int) ≤ x9 := g91; exact g91) g9 hF hfr hl.1.symm e0 e3 e5 e6 g6 e7 g7 e8 g8 e9)
    · rcases j with _ | _ | _ | _ | _ | _ | j
      · cases hb; exact ⟨_, q 0 _ (by decide) l0, rfl⟩
      · cases hb
      · cases hb
      · cases hb; exact ⟨_, q 3 _ (by decide) l3, rfl⟩
      · cases hb; exact ⟨_, q 4 _ (by decide) l4, lh_g1 (s := 0) rfl i4 b1 b2 (Or.inl rfl)⟩
      · cases hb; exact ⟨_, by rw [List.getElem?_set, if_pos rfl, if_pos (by omega)], lh_g1 (s := 51) rfl ix ix.1 (by show x ≤ (400 : Int); omega) (Or.inr ⟨rfl, by decide, rfl⟩)⟩
      · rcases j with _ | _ | _ | _ | _ | _ | _ | _ | j <;> cases hb
  refine gm_sz (gm_p_load (pc := 11) (i := .iload_n 2) (sr := 0) (j := 2) (by decide +kernel) rfl l2 rfl) ?_
  refine gm_sz (gm_p_load (pc := 12) (i := .aload_n 0) (sr := 2) (j := 0) (by decide +kernel) rfl l0 rfl) ?_
  refine gm_sz (gm_p_get (pc := 13) (ix := 22) (ci := 10) (j := 1) (by decide +kernel) kL.1 kL.2 (by decide +kernel)) ?_
  rw [if_pos (show gm_isr 10 1 = true by decide +kernel), rL]
  refine gm_sz (gm_p_alen (pc := 16) (by decide +kernel) kC.1 (by rw [kC.2]; exact Nat.zero_le _)) ?_
  rw [show ((K 247).2 : Int) = (N : Int) by rw [kC.2]]
  refine gm_b_ic (cc := .ge) (pc := 17) (off := 7) (by decide +kernel) (by decide) (fun _ => ?_) (fun hp => ?_)
  · skip
    refine gm_sz (gm_p_load (pc := 24) (i := .aload_n 0) (sr := 2) (j := 0) (by decide +kernel) rfl l0 rfl) ?_
    refine gm_sz (gm_p_get (pc := 25) (ix := 22) (ci := 10) (j := 1) (by decide +kernel) kL.1 kL.2 (by decide +kernel)) ?_
    rw [if_pos (show gm_isr 10 1 = true by decide +kernel), rL]
    refine gm_sz (gm_p_alen (pc := 28) (by decide +kernel) kC.1 (by rw [kC.2]; exact Nat.zero_le _)) ?_
    rw [show ((K 247).2 : Int) = (N : Int) by rw [kC.2]]
    exact tail N (Int.le_refl _) ⟨by omega, by omega⟩
  · rw [gm_cm_w i2 ⟨by omega, by omega⟩] at hp
    have hp : ¬ (N : Int) ≤ to := hp
    refine gm_sz (gm_p_load (pc := 20) (i := .iload_n 2) (sr := 0) (j := 2) (by decide +kernel) rfl l2 rfl) ?_
    refine gm_sz (gm_p_goto (pc := 21) (off := 8) (by decide +kernel) (by decide)) ?_
    exact tail to (by omega) i2
end LH
end
/-! 74a.gl -/
section
/-! YEARS of the class under a law. -/
section GYL
variable {X : Int → Int} {LX : Nat}
end GYL
end
