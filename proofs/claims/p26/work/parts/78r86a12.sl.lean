/-! 78r86a12.sl -/
section
/-! EVERY CALL OF THE CLASS ENDS, under a law (laid by wip/am/p2l.py). -/
set_option maxRecDepth 100000 in
/-- GlacierMail.range -/
def pl_s858 : ck_Sum := ((8, 2, 12), 249, [.inr (.inr (.inl 1)), .inl (0, 5, []), .inl ((-2147483648), (-1), [])], ([], [], []), ([], []), [(.inl 3, 249, ([], [], [])), (.inl 0, 249, ([], [], []))])
set_option maxRecDepth 100000 in
theorem pl_s858_s {X : Int → Int} {LX : Nat} : ck_Ok p2_OL X LX 227 pl_s858 := ck_ok_s (O := p2_OL) (X := X) (LX := LX) (E := [(132, [pl_s159]), (129, [pl_s145])]) (mi := 227) (cuts := []) (f := 82) (S := pl_s858) (lx := none) (XF := []) ⟨pl_nmu, ck_E1 (ck_S1 pl_s159_s ck_S0) (ck_E1 (ck_S1 pl_s145_s ck_S0) ck_E0)⟩ ck_X0 ck_l0 (by decide +kernel)
set_option maxRecDepth 100000 in
/-- GlacierMail.range -/
def pl_s859 : ck_Sum := ((8, 2, 12), 249, [.inr (.inr (.inl 1)), .inl (0, 5, []), .inl (300, 2147483647, [])], ([], [], []), ([], []), [(.inl 3, 249, ([], [], [])), (.inl 0, 249, ([], [], []))])
set_option maxRecDepth 100000 in
theorem pl_s859_s {X : Int → Int} {LX : Nat} : ck_Ok p2_OL X LX 227 pl_s859 := ck_ok_s (O := p2_OL) (X := X) (LX := LX) (E := [(132, [pl_s159]), (129, [pl_s147])]) (mi := 227) (cuts := []) (f := 82) (S := pl_s859) (lx := none) (XF := []) ⟨pl_nmu, ck_E1 (ck_S1 pl_s159_s ck_S0) (ck_E1 (ck_S1 pl_s147_s ck_S0) ck_E0)⟩ ck_X0 ck_l0 (by decide +kernel)
set_option maxRecDepth 100000 in
/-- GlacierMail.range -/
def pl_s860 : ck_Sum := ((8, 1, 6), 249, [.inr (.inr (.inl 1)), .inl (0, 5, []), .inl (0, 299, [])], ([], [(3, 8, 246)], []), (zl229, []), [(.inl 3, 249, ([], [], [])), (.inr (some (.inl ((-2147483648), 2147483647, []))), 249, ([], [], [(206, 4, 4, ck_one (-1))]))])
set_option maxRecDepth 100000 in
theorem pl_s860_s {X : Int → Int} {LX : Nat} : ck_Ok p2_OL X LX 227 pl_s860 := ck_ok_s (O := p2_OL) (X := X) (LX := LX) (E := [(132, [pl_s159]), (129, [pl_s149]), (29, [pl_s691]), (30, [pl_s214])]) (mi := 227) (cuts := []) (f := 120) (S := pl_s860) (lx := none) (XF := []) ⟨pl_nmu, ck_E1 (ck_S1 pl_s159_s ck_S0) (ck_E1 (ck_S1 pl_s149_s ck_S0) (ck_E1 (ck_S1 pl_s691_s ck_S0) (ck_E1 (ck_S1 pl_s214_s ck_S0) ck_E0)))⟩ ck_X0 ck_l0 (by decide +kernel)
set_option maxRecDepth 100000 in
/-- GlacierMail.swiftest -/
def pl_s861 : ck_Sum := ((8, 1, 6), 249, [.inr (.inr (.inl 1)), .inl ((-2147483648), (-1), []), .inl ((-2147483648), 2147483647, [])], ([], [], []), ([], []), [(.inl 3, 249, ([], [], []))])
set_option maxRecDepth 100000 in
theorem pl_s861_s {X : Int → Int} {LX : Nat} : ck_Ok p2_OL X LX 229 pl_s861 := ck_ok_s (O := p2_OL) (X := X) (LX := LX) (E := [(134, [pl_s161])]) (mi := 229) (cuts := []) (f := 76) (S := pl_s861) (lx := none) (XF := []) ⟨pl_nmu, ck_E1 (ck_S1 pl_s161_s ck_S0) ck_E0⟩ ck_X0 ck_l0 (by decide +kernel)
set_option maxRecDepth 100000 in
/-- GlacierMail.swiftest -/
def pl_s862 : ck_Sum := ((8, 1, 6), 249, [.inr (.inr (.inl 1)), .inl (99, 2147483647, []), .inl ((-2147483648), 2147483647, [])], ([], [], []), ([], []), [(.inl 3, 249, ([], [], []))])
set_option maxRecDepth 100000 in
theorem pl_s862_s {X : Int → Int} {LX : Nat} : ck_Ok p2_OL X LX 229 pl_s862 := ck_ok_s (O := p2_OL) (X := X) (LX := LX) (E := [(134, [pl_s164])]) (mi := 229) (cuts := []) (f := 76) (S := pl_s862) (lx := none) (XF := []) ⟨pl_nmu, ck_E1 (ck_S1 pl_s164_s ck_S0) ck_E0⟩ ck_X0 ck_l0 (by decide +kernel)
set_option maxRecDepth 100000 in
/-- GlacierMail.swiftest -/
def pl_s863 : ck_Sum := ((8, 2, 12), 249, [.inr (.inr (.inl 1)), .inl (0, 98, []), .inl ((-2147483648), (-1), [])], ([], [], []), ([], []), [(.inl 3, 249, ([], [], [])), (.inl 0, 249, ([], [], []))])
set_option maxRecDepth 100000 in
theorem pl_s863_s {X : Int → Int} {LX : Nat} : ck_Ok p2_OL X LX 229 pl_s863 := ck_ok_s (O := p2_OL) (X := X) (LX := LX) (E := [(134, [pl_s167]), (129, [pl_s145])]) (mi := 229) (cuts := []) (f := 82) (S := pl_s863) (lx := none) (XF := []) ⟨pl_nmu, ck_E1 (ck_S1 pl_s167_s ck_S0) (ck_E1 (ck_S1 pl_s145_s ck_S0) ck_E0)⟩ ck_X0 ck_l0 (by decide +kernel)
set_option maxRecDepth 100000 in
/-- GlacierMail.swiftest -/
def pl_s864 : ck_Sum := ((8, 2, 12), 249, [.inr (.inr (.inl 1)), .inl (0, 98, []), .inl (300, 2147483647, [])], ([], [], []), ([], []), [(.inl 3, 249, ([], [], [])), (.inl 0, 249, ([], [], []))])
set_option maxRecDepth 100000 in
theorem pl_s864_s {X : Int → Int} {LX : Nat} : ck_Ok p2_OL X LX 229 pl_s864 := ck_ok_s (O := p2_OL) (X := X) (LX := LX) (E := [(134, [pl_s167]), (129, [pl_s147])]) (mi := 229) (cuts := []) (f := 82) (S := pl_s864) (lx := none) (XF := []) ⟨pl_nmu, ck_E1 (ck_S1 pl_s167_s ck_S0) (ck_E1 (ck_S1 pl_s147_s ck_S0) ck_E0)⟩ ck_X0 ck_l0 (by decide +kernel)
set_option maxRecDepth 100000 in
/-- GlacierMail.swiftest -/
def pl_s865 : ck_Sum := ((8, 1, 6), 249, [.inr (.inr (.inl 1)), .inl (0, 98, []), .inl (0, 299, [])], ([], [(3, 8, 246)], []), (zl229, []), [(.inl 3, 249, ([], [], [])), (.inr (some (.inl ((-1), 5, []))), 249, ([], [], []))])
set_option maxRecDepth 100000 in
theorem pl_s865_e : ck_ok p2_OL none [] [(134, [pl_s167]), (129, [pl_s149]), (29, [pl_s691]), (30, [pl_s214])] 229 [(20, [some (.inr (.inr (.inl 1))), some (.inl (0, 98, [])), some (.inl (0, 299, [])), some (.inl ((-1), 5, [])), some (.inl ((-2147483648), 300, [])), some (.inl (0, 6, [])), none], ([], [(3, 8, 246)], []), 100, .inl 5, true)] 210 pl_s865 = true := by decide +kernel
theorem pl_s865_s {X : Int → Int} {LX : Nat} : ck_Ok p2_OL X LX 229 pl_s865 := ck_ok_s ⟨pl_nmu, ck_E1 (ck_S1 pl_s167_s ck_S0) (ck_E1 (ck_S1 pl_s149_s ck_S0) (ck_E1 (ck_S1 pl_s691_s ck_S0) (ck_E1 (ck_S1 pl_s214_s ck_S0) ck_E0)))⟩ ck_X0 ck_l0 pl_s865_e
set_option maxRecDepth 100000 in
/-- GlacierMail.bare -/
def pl_s866 : ck_Sum := ((7, 1, 6), 249, [.inr (.inr (.inl 1)), .inl ((-2147483648), (-1), [])], ([], [], []), ([], []), [(.inl 0, 249, ([], [], []))])
set_option maxRecDepth 100000 in
theorem pl_s866_s {X : Int → Int} {LX : Nat} : ck_Ok p2_OL X LX 231 pl_s866 := ck_ok_s (O := p2_OL) (X := X) (LX := LX) (E := [(129, [pl_s145])]) (mi := 231) (cuts := []) (f := 76) (S := pl_s866) (lx := none) (XF := []) ⟨pl_nmu, ck_E1 (ck_S1 pl_s145_s ck_S0) ck_E0⟩ ck_X0 ck_l0 (by decide +kernel)
set_option maxRecDepth 100000 in
/-- GlacierMail.bare -/
def pl_s867 : ck_Sum := ((7, 1, 6), 249, [.inr (.inr (.inl 1)), .inl (300, 2147483647, [])], ([], [], []), ([], []), [(.inl 0, 249, ([], [], []))])
set_option maxRecDepth 100000 in
theorem pl_s867_s {X : Int → Int} {LX : Nat} : ck_Ok p2_OL X LX 231 pl_s867 := ck_ok_s (O := p2_OL) (X := X) (LX := LX) (E := [(129, [pl_s147])]) (mi := 231) (cuts := []) (f := 76) (S := pl_s867) (lx := none) (XF := []) ⟨pl_nmu, ck_E1 (ck_S1 pl_s147_s ck_S0) ck_E0⟩ ck_X0 ck_l0 (by decide +kernel)
set_option maxRecDepth 100000 in
/-- GlacierMail.bare -/
def pl_s868 : ck_Sum := ((5, 0, 0), 249, [.inr (.inr (.inl 1)), .inl (0, 299, [])], ([], [(3, 8, 246)], []), (zl229, []), [(.inr (some (.inl ((-2147483648), 2147483647, []))), 249, ([], [], []))])
set_option maxRecDepth 100000 in
theorem pl_s868_e : ck_ok p2_OL none [] [(129, [pl_s149]), (9, [pl_s200]), (10, [pl_s204]), (27, [pl_s208]), (148, [pl_s243]), (31, [pl_s209])] 231 [(9, [some (.inr (.inr (.inl 1))), some (.inl (0, 299, [])), some (.inl ((-2147483648), 2147483647, [])), some (.inl (0, 24, []))], ([], [(3, 8, 246)], []), 100, .inl 3, true)] 246 pl_s868 = true := by decide +kernel
theorem pl_s868_s {X : Int → Int} {LX : Nat} : ck_Ok p2_OL X LX 231 pl_s868 := ck_ok_s ⟨pl_nmu, ck_E1 (ck_S1 pl_s149_s ck_S0) (ck_E1 (ck_S1 pl_s200_s ck_S0) (ck_E1 (ck_S1 pl_s204_s ck_S0) (ck_E1 (ck_S1 pl_s208_s ck_S0) (ck_E1 (ck_S1 pl_s243_s ck_S0) (ck_E1 (ck_S1 pl_s209_s ck_S0) ck_E0)))))⟩ ck_X0 ck_l0 pl_s868_e
set_option maxRecDepth 100000 in
/-- GlacierMail$Rows.get -/
def pl_s869 : ck_Sum := ((0, 0, 0), 249, [.inr (.inr (.inl 14)), .inl ((-2147483648), 2147483647, []), .inl ((-2147483648), 2147483647, [])], ([], [], []), ([], []), [(.inr (some (.inl ((-1), 299, []))), 249, ([], [], []))])
set_option maxRecDepth 100000 in
theorem pl_s869_s {X : Int → Int} {LX : Nat} : ck_Ok p2_OL X LX 10 pl_s869 := ck_ok_s (O := p2_OL) (X := X) (LX := LX) (E := []) (mi := 10) (cuts := []) (f := 114) (S := pl_s869) (lx := none) (XF := []) ⟨pl_nmu, ck_E0⟩ ck_X0 ck_l0 (by decide +kernel)
set_option maxRecDepth 100000 in
/-- GlacierMail.log -/
def pl_s870 : ck_Sum := ((6, 1, 6), 249, [.inr (.inr (.inl 1)), .inl ((-2147483648), (-1), []), .inl ((-2147483648), 2147483647, [])], ([], [], []), ([], []), [(.inl 4, 249, ([], [], [])), (.inr (some (.inl ((-1), 299, []))), 249, ([], [], []))])
set_option maxRecDepth 100000 in
theorem pl_s870_s {X : Int → Int} {LX : Nat} : ck_Ok p2_OL X LX 233 pl_s870 := ck_ok_s (O := p2_OL) (X := X) (LX := LX) (E := [(10, [pl_s869])]) (mi := 233) (cuts := []) (f := 94) (S := pl_s870) (lx := none) (XF := []) ⟨pl_nmu, ck_E1 (ck_S1 pl_s869_s ck_S0) ck_E0⟩ ck_X0 ck_l0 (by decide +kernel)
set_option maxRecDepth 100000 in
/-- GlacierMail.log -/
def pl_s871 : ck_Sum := ((6, 1, 6), 249, [.inr (.inr (.inl 1)), .inl (24, 2147483647, []), .inl ((-2147483648), 2147483647, [])], ([], [], []), ([], []), [(.inl 4, 249, ([], [], [])), (.inr (some (.inl ((-1), 299, []))), 249, ([], [], []))])
set_option maxRecDepth 100000 in
theorem pl_s871_s {X : Int → Int} {LX : Nat} : ck_Ok p2_OL X LX 233 pl_s871 := ck_ok_s (O := p2_OL) (X := X) (LX := LX) (E := [(10, [pl_s869])]) (mi := 233) (cuts := []) (f := 94) (S := pl_s871) (lx := none) (XF := []) ⟨pl_nmu, ck_E1 (ck_S1 pl_s869_s ck_S0) ck_E0⟩ ck_X0 ck_l0 (by decide +kernel)
set_option maxRecDepth 100000 in
/-- GlacierMail.log -/
def pl_s872 : ck_Sum := ((6, 1, 6), 249, [.inr (.inr (.inl 1)), .inl (0, 23, []), .inl ((-2147483648), (-1), [])], ([], [], []), ([], []), [(.inl 4, 249, ([], [], []))])
set_option maxRecDepth 100000 in
theorem pl_s872_s {X : Int → Int} {LX : Nat} : ck_Ok p2_OL X LX 233 pl_s872 := ck_ok_s (O := p2_OL) (X := X) (LX := LX) (E := []) (mi := 233) (cuts := []) (f := 76) (S := pl_s872) (lx := none) (XF := []) ⟨pl_nmu, ck_E0⟩ ck_X0 ck_l0 (by decide +kernel)
set_option maxRecDepth 100000 in
/-- GlacierMail.log -/
def pl_s873 : ck_Sum := ((6, 1, 6), 249, [.inr (.inr (.inl 1)), .inl (0, 23, []), .inl (10, 2147483647, [])], ([], [], []), ([], []), [(.inl 4, 249, ([], [], []))])
set_option maxRecDepth 100000 in
theorem pl_s873_s {X : Int → Int} {LX : Nat} : ck_Ok p2_OL X LX 233 pl_s873 := ck_ok_s (O := p2_OL) (X := X) (LX := LX) (E := []) (mi := 233) (cuts := []) (f := 82) (S := pl_s873) (lx := none) (XF := []) ⟨pl_nmu, ck_E0⟩ ck_X0 ck_l0 (by decide +kernel)
set_option maxRecDepth 100000 in
/-- GlacierMail.log -/
def pl_s874 : ck_Sum := ((6, 1, 6), 249, [.inr (.inr (.inl 1)), .inl (0, 23, []), .inl (0, 9, [])], ([], [], []), ([], []), [(.inr (some (.inl ((-1), 299, []))), 249, ([], [], [])), (.inl 4, 249, ([], [], []))])
set_option maxRecDepth 100000 in
theorem pl_s874_s {X : Int → Int} {LX : Nat} : ck_Ok p2_OL X LX 233 pl_s874 := ck_ok_s (O := p2_OL) (X := X) (LX := LX) (E := [(10, [pl_s869])]) (mi := 233) (cuts := []) (f := 94) (S := pl_s874) (lx := none) (XF := []) ⟨pl_nmu, ck_E1 (ck_S1 pl_s869_s ck_S0) ck_E0⟩ ck_X0 ck_l0 (by decide +kernel)
set_option maxRecDepth 100000 in
/-- GlacierMail$History.at -/
def pl_s875 : ck_Sum := ((0, 0, 0), 249, [.inr (.inr (.inl 42)), .inl (0, 11, [])], ([], [], []), ([], []), [(.inr (some (.inr (.inr (.inl 44)))), 249, ([], [], [])), (.inr (some (.inr (.inr (.inl 187)))), 249, ([], [], [])), (.inr (some (.inr (.inr (.inl 174)))), 249, ([], [], [])), (.inr (some (.inr (.inr (.inl 161)))), 249, ([], [], [])), (.inr (some (.inr (.inr (.inl 148)))), 249, ([], [], [])), (.inr (some (.inr (.inr (.inl 135)))), 249, ([], [], [])), (.inr (some (.inr (.inr (.inl 122)))), 249, ([], [], [])), (.inr (some (.inr (.inr (.inl 109)))), 249, ([], [], [])), (.inr (some (.inr (.inr (.inl 96)))), 249, ([], [], [])), (.inr (some (.inr (.inr (.inl 83)))), 249, ([], [], [])), (.inr (some (.inr (.inr (.inl 70)))), 249, ([], [], [])), (.inr (some (.inr (.inr (.inl 57)))), 249, ([], [], []))])
set_option maxRecDepth 100000 in
theorem pl_s875_s {X : Int → Int} {LX : Nat} : ck_Ok p2_OL X LX 56 pl_s875 := ck_ok_s (O := p2_OL) (X := X) (LX := LX) (E := []) (mi := 56) (cuts := []) (f := 96) (S := pl_s875) (lx := none) (XF := []) ⟨pl_nmu, ck_E0⟩ ck_X0 ck_l0 (by decide +kernel)
set_option maxRecDepth 100000 in
/-- GlacierMail$Rows.copyFrom -/
def pl_s876 : ck_Sum := ((1, 0, 0), 249, [.inr (.inr (.inl 4)), .inr (.inr (.inl 45))], ([], [], []), ([(4, 3, 3), (5, 0, 55)], []), [(.inr none, 249, ([], [], []))])
set_option maxRecDepth 100000 in
theorem pl_s876_s {X : Int → Int} {LX : Nat} : ck_Ok p2_OL X LX 58 pl_s876 := ck_ok_s (O := p2_OL) (X := X) (LX := LX) (E := []) (mi := 58) (cuts := []) (f := 114) (S := pl_s876) (lx := none) (XF := []) ⟨pl_nmu, ck_E0⟩ ck_X0 ck_l0 (by decide +kernel)
set_option maxRecDepth 100000 in
/-- GlacierMail$Rows.copyFrom -/
def pl_s877 : ck_Sum := ((1, 0, 0), 249, [.inr (.inr (.inl 6)), .inr (.inr (.inl 47))], ([], [], []), ([(6, 3, 3), (7, 0, 23)], []), [(.inr none, 249, ([], [], []))])
set_option maxRecDepth 100000 in
theorem pl_s877_s {X : Int → Int} {LX : Nat} : ck_Ok p2_OL X LX 58 pl_s877 := ck_ok_s (O := p2_OL) (X := X) (LX := LX) (E := []) (mi := 58) (cuts := []) (f := 114) (S := pl_s877) (lx := none) (XF := []) ⟨pl_nmu, ck_E0⟩ ck_X0 ck_l0 (by decide +kernel)
set_option maxRecDepth 100000 in
/-- GlacierMail$Rows.copyFrom -/
def pl_s878 : ck_Sum := ((1, 0, 0), 249, [.inr (.inr (.inl 8)), .inr (.inr (.inl 49))], ([], [], []), ([(8, 3, 3), (9, 0, 23)], []), [(.inr none, 249, ([], [], []))])
set_option maxRecDepth 100000 in
theorem pl_s878_s {X : Int → Int} {LX : Nat} : ck_Ok p2_OL X LX 58 pl_s878 := ck_ok_s (O := p2_OL) (X := X) (LX := LX) (E := []) (mi := 58) (cuts := []) (f := 114) (S := pl_s878) (lx := none) (XF := []) ⟨pl_nmu, ck_E0⟩ ck_X0 ck_l0 (by decide +kernel)
set_option maxRecDepth 100000 in
/-- GlacierMail$Rows.copyFrom -/
def pl_s879 : ck_Sum := ((1, 0, 0), 249, [.inr (.inr (.inl 10)), .inr (.inr (.inl 51))], ([], [], []), ([(10, 3, 3), (11, 0, 167)], []), [(.inr none, 249, ([], [], []))])
set_option maxRecDepth 100000 in
theorem pl_s879_s {X : Int → Int} {LX : Nat} : ck_Ok p2_OL X LX 58 pl_s879 := ck_ok_s (O := p2_OL) (X := X) (LX := LX) (E := []) (mi := 58) (cuts := []) (f := 114) (S := pl_s879) (lx := none) (XF := []) ⟨pl_nmu, ck_E0⟩ ck_X0 ck_l0 (by decide +kernel)
set_option maxRecDepth 100000 in
/-- GlacierMail$Rows.copyFrom -/
def pl_s880 : ck_Sum := ((1, 0, 0), 249, [.inr (.inr (.inl 12)), .inr (.inr (.inl 53))], ([], [], []), ([(12, 3, 3), (13, 0, 35)], []), [(.inr none, 249, ([], [], []))])
set_option maxRecDepth 100000 in
theorem pl_s880_s {X : Int → Int} {LX : Nat} : ck_Ok p2_OL X LX 58 pl_s880 := ck_ok_s (O := p2_OL) (X := X) (LX := LX) (E := []) (mi := 58) (cuts := []) (f := 114) (S := pl_s880) (lx := none) (XF := []) ⟨pl_nmu, ck_E0⟩ ck_X0 ck_l0 (by decide +kernel)
set_option maxRecDepth 100000 in
/-- GlacierMail$Rows.copyFrom -/
def pl_s881 : ck_Sum := ((1, 0, 0), 249, [.inr (.inr (.inl 14)), .inr (.inr (.inl 55))], ([], [], []), ([(14, 3, 3), (15, 0, 71)], []), [(.inr none, 249, ([], [], []))])
set_option maxRecDepth 100000 in
theorem pl_s881_s {X : Int → Int} {LX : Nat} : ck_Ok p2_OL X LX 58 pl_s881 := ck_ok_s (O := p2_OL) (X := X) (LX := LX) (E := []) (mi := 58) (cuts := []) (f := 114) (S := pl_s881) (lx := none) (XF := []) ⟨pl_nmu, ck_E0⟩ ck_X0 ck_l0 (by decide +kernel)
set_option maxRecDepth 100000 in
/-- GlacierMail$State.copyFrom -/
def pl_s882 : ck_Sum := ((2, 0, 0), 249, [.inr (.inr (.inl 3)), .inr (.inr (.inl 44))], ([], [(3, 8, 246), (44, 8, 100044)], []), (zl1, [(3, 8)]), [(.inr none, 249, ([], [(3, 8, 100044)], []))])
set_option maxRecDepth 100000 in
theorem pl_s882_s {X : Int → Int} {LX : Nat} : ck_Ok p2_OL X LX 57 pl_s882 := ck_ok_s (O := p2_OL) (X := X) (LX := LX) (E := [(58, [pl_s876, pl_s877, pl_s878, pl_s879, pl_s880, pl_s881])]) (mi := 57) (cuts := []) (f := 204) (S := pl_s882) (lx := none) (XF := []) ⟨pl_nmu, ck_E1 (ck_S1 pl_s876_s (ck_S1 pl_s877_s (ck_S1 pl_s878_s (ck_S1 pl_s879_s (ck_S1 pl_s880_s (ck_S1 pl_s881_s ck_S0)))))) ck_E0⟩ ck_X0 ck_l0 (by decide +kernel)
set_option maxRecDepth 100000 in
/-- GlacierMail$Rows.copyFrom -/
def pl_s883 : ck_Sum := ((1, 0, 0), 249, [.inr (.inr (.inl 4)), .inr (.inr (.inl 58))], ([], [], []), ([(4, 3, 3), (5, 0, 55)], []), [(.inr none, 249, ([], [], []))])
set_option maxRecDepth 100000 in
theorem pl_s883_s {X : Int → Int} {LX : Nat} : ck_Ok p2_OL X LX 58 pl_s883 := ck_ok_s (O := p2_OL) (X := X) (LX := LX) (E := []) (mi := 58) (cuts := []) (f := 114) (S := pl_s883) (lx := none) (XF := []) ⟨pl_nmu, ck_E0⟩ ck_X0 ck_l0 (by decide +kernel)
set_option maxRecDepth 100000 in
/-- GlacierMail$Rows.copyFrom -/
def pl_s884 : ck_Sum := ((1, 0, 0), 249, [.inr (.inr (.inl 6)), .inr (.inr (.inl 60))], ([], [], []), ([(6, 3, 3), (7, 0, 23)], []), [(.inr none, 249, ([], [], []))])
set_option maxRecDepth 100000 in
theorem pl_s884_s {X : Int → Int} {LX : Nat} : ck_Ok p2_OL X LX 58 pl_s884 := ck_ok_s (O := p2_OL) (X := X) (LX := LX) (E := []) (mi := 58) (cuts := []) (f := 114) (S := pl_s884) (lx := none) (XF := []) ⟨pl_nmu, ck_E0⟩ ck_X0 ck_l0 (by decide +kernel)
set_option maxRecDepth 100000 in
/-- GlacierMail$Rows.copyFrom -/
def pl_s885 : ck_Sum := ((1, 0, 0), 249, [.inr (.inr (.inl 8)), .inr (.inr (.inl 62))], ([], [], []), ([(8, 3, 3), (9, 0, 23)], []), [(.inr none, 249, ([], [], []))])
set_option maxRecDepth 100000 in
theorem pl_s885_s {X : Int → Int} {LX : Nat} : ck_Ok p2_OL X LX 58 pl_s885 := ck_ok_s (O := p2_OL) (X := X) (LX := LX) (E := []) (mi := 58) (cuts := []) (f := 114) (S := pl_s885) (lx := none) (XF := []) ⟨pl_nmu, ck_E0⟩ ck_X0 ck_l0 (by decide +kernel)
set_option maxRecDepth 100000 in
/-- GlacierMail$Rows.copyFrom -/
def pl_s886 : ck_Sum := ((1, 0, 0), 249, [.inr (.inr (.inl 10)), .inr (.inr (.inl 64))], ([], [], []), ([(10, 3, 3), (11, 0, 167)], []), [(.inr none, 249, ([], [], []))])
set_option maxRecDepth 100000 in
theorem pl_s886_s {X : Int → Int} {LX : Nat} : ck_Ok p2_OL X LX 58 pl_s886 := ck_ok_s (O := p2_OL) (X := X) (LX := LX) (E := []) (mi := 58) (cuts := []) (f := 114) (S := pl_s886) (lx := none) (XF := []) ⟨pl_nmu, ck_E0⟩ ck_X0 ck_l0 (by decide +kernel)
set_option maxRecDepth 100000 in
/-- GlacierMail$Rows.copyFrom -/
def pl_s887 : ck_Sum := ((1, 0, 0), 249, [.inr (.inr (.inl 12)), .inr (.inr (.inl 66))], ([], [], []), ([(12, 3, 3), (13, 0, 35)], []), [(.inr none, 249, ([], [], []))])
set_option maxRecDepth 100000 in
theorem pl_s887_s {X : Int → Int} {LX : Nat} : ck_Ok p2_OL X LX 58 pl_s887 := ck_ok_s (O := p2_OL) (X := X) (LX := LX) (E := []) (mi := 58) (cuts := []) (f := 114) (S := pl_s887) (lx := none) (XF := []) ⟨pl_nmu, ck_E0⟩ ck_X0 ck_l0 (by decide +kernel)
set_option maxRecDepth 100000 in
/-- GlacierMail$Rows.copyFrom -/
def pl_s888 : ck_Sum := ((1, 0, 0), 249, [.inr (.inr (.inl 14)), .inr (.inr (.inl 68))], ([], [], []), ([(14, 3, 3), (15, 0, 71)], []), [(.inr none, 249, ([], [], []))])
set_option maxRecDepth 100000 in
theorem pl_s888_s {X : Int → Int} {LX : Nat} : ck_Ok p2_OL X LX 58 pl_s888 := ck_ok_s (O := p2_OL) (X := X) (LX := LX) (E := []) (mi := 58) (cuts := []) (f := 114) (S := pl_s888) (lx := none) (XF := []) ⟨pl_nmu, ck_E0⟩ ck_X0 ck_l0 (by decide +kernel)
set_option maxRecDepth 100000 in
/-- GlacierMail$State.copyFrom -/
def pl_s889 : ck_Sum := ((2, 0, 0), 249, [.inr (.inr (.inl 3)), .inr (.inr (.inl 57))], ([], [(3, 8, 246), (57, 8, 100057)], []), (zl1, [(3, 8)]), [(.inr none, 249, ([], [(3, 8, 100057)], []))])
set_option maxRecDepth 100000 in
theorem pl_s889_s {X : Int → Int} {LX : Nat} : ck_Ok p2_OL X LX 57 pl_s889 := ck_ok_s (O := p2_OL) (X := X) (LX := LX) (E := [(58, [pl_s883, pl_s884, pl_s885, pl_s886, pl_s887, pl_s888])]) (mi := 57) (cuts := []) (f := 204) (S := pl_s889) (lx := none) (XF := []) ⟨pl_nmu, ck_E1 (ck_S1 pl_s883_s (ck_S1 pl_s884_s (ck_S1 pl_s885_s (ck_S1 pl_s886_s (ck_S1 pl_s887_s (ck_S1 pl_s888_s ck_S0)))))) ck_E0⟩ ck_X0 ck_l0 (by decide +kernel)
set_option maxRecDepth 100000 in
/-- GlacierMail$Rows.copyFrom -/
def pl_s890 : ck_Sum := ((1, 0, 0), 249, [.inr (.inr (.inl 4)), .inr (.inr (.inl 71))], ([], [], []), ([(4, 3, 3), (5, 0, 55)], []), [(.inr none, 249, ([], [], []))])
set_option maxRecDepth 100000 in
theorem pl_s890_s {X : Int → Int} {LX : Nat} : ck_Ok p2_OL X LX 58 pl_s890 := ck_ok_s (O := p2_OL) (X := X) (LX := LX) (E := []) (mi := 58) (cuts := []) (f := 114) (S := pl_s890) (lx := none) (XF := []) ⟨pl_nmu, ck_E0⟩ ck_X0 ck_l0 (by decide +kernel)
set_option maxRecDepth 100000 in
/-- GlacierMail$Rows.copyFrom -/
def pl_s891 : ck_Sum := ((1, 0, 0), 249, [.inr (.inr (.inl 6)), .inr (.inr (.inl 73))], ([], [], []), ([(6, 3, 3), (7, 0, 23)], []), [(.inr none, 249, ([], [], []))])
set_option maxRecDepth 100000 in
theorem pl_s891_s {X : Int → Int} {LX : Nat} : ck_Ok p2_OL X LX 58 pl_s891 := ck_ok_s (O := p2_OL) (X := X) (LX := LX) (E := []) (mi := 58) (cuts := []) (f := 114) (S := pl_s891) (lx := none) (XF := []) ⟨pl_nmu, ck_E0⟩ ck_X0 ck_l0 (by decide +kernel)
set_option maxRecDepth 100000 in
/-- GlacierMail$Rows.copyFrom -/
def pl_s892 : ck_Sum := ((1, 0, 0), 249, [.inr (.inr (.inl 8)), .inr (.inr (.inl 75))], ([], [], []), ([(8, 3, 3), (9, 0, 23)], []), [(.inr none, 249, ([], [], []))])
set_option maxRecDepth 100000 in
theorem pl_s892_s {X : Int → Int} {LX : Nat} : ck_Ok p2_OL X LX 58 pl_s892 := ck_ok_s (O := p2_OL) (X := X) (LX := LX) (E := []) (mi := 58) (cuts := []) (f := 114) (S := pl_s892) (lx := none) (XF := []) ⟨pl_nmu, ck_E0⟩ ck_X0 ck_l0 (by decide +kernel)
set_option maxRecDepth 100000 in
/-- GlacierMail$Rows.copyFrom -/
def pl_s893 : ck_Sum := ((1, 0, 0), 249, [.inr (.inr (.inl 10)), .inr (.inr (.inl 77))], ([], [], []), ([(10, 3, 3), (11, 0, 167)], []), [(.inr none, 249, ([], [], []))])
set_option maxRecDepth 100000 in
theorem pl_s893_s {X : Int → Int} {LX : Nat} : ck_Ok p2_OL X LX 58 pl_s893 := ck_ok_s (O := p2_OL) (X := X) (LX := LX) (E := []) (mi := 58) (cuts := []) (f := 114) (S := pl_s893) (lx := none) (XF := []) ⟨pl_nmu, ck_E0⟩ ck_X0 ck_l0 (by decide +kernel)
set_option maxRecDepth 100000 in
/-- GlacierMail$Rows.copyFrom -/
def pl_s894 : ck_Sum := ((1, 0, 0), 249, [.inr (.inr (.inl 12)), .inr (.inr (.inl 79))], ([], [], []), ([(12, 3, 3), (13, 0, 35)], []), [(.inr none, 249, ([], [], []))])
set_option maxRecDepth 100000 in
theorem pl_s894_s {X : Int → Int} {LX : Nat} : ck_Ok p2_OL X LX 58 pl_s894 := ck_ok_s (O := p2_OL) (X := X) (LX := LX) (E := []) (mi := 58) (cuts := []) (f := 114) (S := pl_s894) (lx := none) (XF := []) ⟨pl_nmu, ck_E0⟩ ck_X0 ck_l0 (by decide +kernel)
set_option maxRecDepth 100000 in
/-- GlacierMail$Rows.copyFrom -/
def pl_s895 : ck_Sum := ((1, 0, 0), 249, [.inr (.inr (.inl 14)), .inr (.inr (.inl 81))], ([], [], []), ([(14, 3, 3), (15, 0, 71)], []), [(.inr none, 249, ([], [], []))])
set_option maxRecDepth 100000 in
theorem pl_s895_s {X : Int → Int} {LX : Nat} : ck_Ok p2_OL X LX 58 pl_s895 := ck_ok_s (O := p2_OL) (X := X) (LX := LX) (E := []) (mi := 58) (cuts := []) (f := 114) (S := pl_s895) (lx := none) (XF := []) ⟨pl_nmu, ck_E0⟩ ck_X0 ck_l0 (by decide +kernel)
set_option maxRecDepth 100000 in
/-- GlacierMail$State.copyFrom -/
def pl_s896 : ck_Sum := ((2, 0, 0), 249, [.inr (.inr (.inl 3)), .inr (.inr (.inl 70))], ([], [(3, 8, 246), (70, 8, 100070)], []), (zl1, [(3, 8)]), [(.inr none, 249, ([], [(3, 8, 100070)], []))])
set_option maxRecDepth 100000 in
theorem pl_s896_s {X : Int → Int} {LX : Nat} : ck_Ok p2_OL X LX 57 pl_s896 := ck_ok_s (O := p2_OL) (X := X) (LX := LX) (E := [(58, [pl_s890, pl_s891, pl_s892, pl_s893, pl_s894, pl_s895])]) (mi := 57) (cuts := []) (f := 204) (S := pl_s896) (lx := none) (XF := []) ⟨pl_nmu, ck_E1 (ck_S1 pl_s890_s (ck_S1 pl_s891_s (ck_S1 pl_s892_s (ck_S1 pl_s893_s (ck_S1 pl_s894_s (ck_S1 pl_s895_s ck_S0)))))) ck_E0⟩ ck_X0 ck_l0 (by decide +kernel)
set_option maxRecDepth 100000 in
/-- GlacierMail$Rows.copyFrom -/
def pl_s897 : ck_Sum := ((1, 0, 0), 249, [.inr (.inr (.inl 4)), .inr (.inr (.inl 84))], ([], [], []), ([(4, 3, 3), (5, 0, 55)], []), [(.inr none, 249, ([], [], []))])
set_option maxRecDepth 100000 in
theorem pl_s897_s {X : Int → Int} {LX : Nat} : ck_Ok p2_OL X LX 58 pl_s897 := ck_ok_s (O := p2_OL) (X := X) (LX := LX) (E := []) (mi := 58) (cuts := []) (f := 114) (S := pl_s897) (lx := none) (XF := []) ⟨pl_nmu, ck_E0⟩ ck_X0 ck_l0 (by decide +kernel)
set_option maxRecDepth 100000 in
/-- GlacierMail$Rows.copyFrom -/
def pl_s898 : ck_Sum := ((1, 0, 0), 249, [.inr (.inr (.inl 6)), .inr (.inr (.inl 86))], ([], [], []), ([(6, 3, 3), (7, 0, 23)], []), [(.inr none, 249, ([], [], []))])
set_option maxRecDepth 100000 in
theorem pl_s898_s {X : Int → Int} {LX : Nat} : ck_Ok p2_OL X LX 58 pl_s898 := ck_ok_s (O := p2_OL) (X := X) (LX := LX) (E := []) (mi := 58) (cuts := []) (f := 114) (S := pl_s898) (lx := none) (XF := []) ⟨pl_nmu, ck_E0⟩ ck_X0 ck_l0 (by decide +kernel)
set_option maxRecDepth 100000 in
/-- GlacierMail$Rows.copyFrom -/
def pl_s899 : ck_Sum := ((1, 0, 0), 249, [.inr (.inr (.inl 8)), .inr (.inr (.inl 88))], ([], [], []), ([(8, 3, 3), (9, 0, 23)], []), [(.inr none, 249, ([], [], []))])
set_option maxRecDepth 100000 in
theorem pl_s899_s {X : Int → Int} {LX : Nat} : ck_Ok p2_OL X LX 58 pl_s899 := ck_ok_s (O := p2_OL) (X := X) (LX := LX) (E := []) (mi := 58) (cuts := []) (f := 114) (S := pl_s899) (lx := none) (XF := []) ⟨pl_nmu, ck_E0⟩ ck_X0 ck_l0 (by decide +kernel)
set_option maxRecDepth 100000 in
/-- GlacierMail$Rows.copyFrom -/
def pl_s900 : ck_Sum := ((1, 0, 0), 249, [.inr (.inr (.inl 10)), .inr (.inr (.inl 90))], ([], [], []), ([(10, 3, 3), (11, 0, 167)], []), [(.inr none, 249, ([], [], []))])
set_option maxRecDepth 100000 in
theorem pl_s900_s {X : Int → Int} {LX : Nat} : ck_Ok p2_OL X LX 58 pl_s900 := ck_ok_s (O := p2_OL) (X := X) (LX := LX) (E := []) (mi := 58) (cuts := []) (f := 114) (S := pl_s900) (lx := none) (XF := []) ⟨pl_nmu, ck_E0⟩ ck_X0 ck_l0 (by decide +kernel)
set_option maxRecDepth 100000 in
/-- GlacierMail$Rows.copyFrom -/
def pl_s901 : ck_Sum := ((1, 0, 0), 249, [.inr (.inr (.inl 12)), .inr (.inr (.inl 92))], ([], [], []), ([(12, 3, 3), (13, 0, 35)], []), [(.inr none, 249, ([], [], []))])
set_option maxRecDepth 100000 in
theorem pl_s901_s {X : Int → Int} {LX : Nat} : ck_Ok p2_OL X LX 58 pl_s901 := ck_ok_s (O := p2_OL) (X := X) (LX := LX) (E := []) (mi := 58) (cuts := []) (f := 114) (S := pl_s901) (lx := none) (XF := []) ⟨pl_nmu, ck_E0⟩ ck_X0 ck_l0 (by decide +kernel)
set_option maxRecDepth 100000 in
/-- GlacierMail$Rows.copyFrom -/
def pl_s902 : ck_Sum := ((1, 0, 0), 249, [.inr (.inr (.inl 14)), .inr (.inr (.inl 94))], ([], [], []), ([(14, 3, 3), (15, 0, 71)], []), [(.inr none, 249, ([], [], []))])
set_option maxRecDepth 100000 in
theorem pl_s902_s {X : Int → Int} {LX : Nat} : ck_Ok p2_OL X LX 58 pl_s902 := ck_ok_s (O := p2_OL) (X := X) (LX := LX) (E := []) (mi := 58) (cuts := []) (f := 114) (S := pl_s902) (lx := none) (XF := []) ⟨pl_nmu, ck_E0⟩ ck_X0 ck_l0 (by decide +kernel)
set_option maxRecDepth 100000 in
/-- GlacierMail$State.copyFrom -/
def pl_s903 : ck_Sum := ((2, 0, 0), 249, [.inr (.inr (.inl 3)), .inr (.inr (.inl 83))], ([], [(3, 8, 246), (83, 8, 100083)], []), (zl1, [(3, 8)]), [(.inr none, 249, ([], [(3, 8, 100083)], []))])
set_option maxRecDepth 100000 in
theorem pl_s903_s {X : Int → Int} {LX : Nat} : ck_Ok p2_OL X LX 57 pl_s903 := ck_ok_s (O := p2_OL) (X := X) (LX := LX) (E := [(58, [pl_s897, pl_s898, pl_s899, pl_s900, pl_s901, pl_s902])]) (mi := 57) (cuts := []) (f := 204) (S := pl_s903) (lx := none) (XF := []) ⟨pl_nmu, ck_E1 (ck_S1 pl_s897_s (ck_S1 pl_s898_s (ck_S1 pl_s899_s (ck_S1 pl_s900_s (ck_S1 pl_s901_s (ck_S1 pl_s902_s ck_S0)))))) ck_E0⟩ ck_X0 ck_l0 (by decide +kernel)
set_option maxRecDepth 100000 in
/-- GlacierMail$Rows.copyFrom -/
def pl_s904 : ck_Sum := ((1, 0, 0), 249, [.inr (.inr (.inl 4)), .inr (.inr (.inl 97))], ([], [], []), ([(4, 3, 3), (5, 0, 55)], []), [(.inr none, 249, ([], [], []))])
set_option maxRecDepth 100000 in
theorem pl_s904_s {X : Int → Int} {LX : Nat} : ck_Ok p2_OL X LX 58 pl_s904 := ck_ok_s (O := p2_OL) (X := X) (LX := LX) (E := []) (mi := 58) (cuts := []) (f := 114) (S := pl_s904) (lx := none) (XF := []) ⟨pl_nmu, ck_E0⟩ ck_X0 ck_l0 (by decide +kernel)
set_option maxRecDepth 100000 in
/-- GlacierMail$Rows.copyFrom -/
def pl_s905 : ck_Sum := ((1, 0, 0), 249, [.inr (.inr (.inl 6)), .inr (.inr (.inl 99))], ([], [], []), ([(6, 3, 3), (7, 0, 23)], []), [(.inr none, 249, ([], [], []))])
set_option maxRecDepth 100000 in
theorem pl_s905_s {X : Int → Int} {LX : Nat} : ck_Ok p2_OL X LX 58 pl_s905 := ck_ok_s (O := p2_OL) (X := X) (LX := LX) (E := []) (mi := 58) (cuts := []) (f := 114) (S := pl_s905) (lx := none) (XF := []) ⟨pl_nmu, ck_E0⟩ ck_X0 ck_l0 (by decide +kernel)
set_option maxRecDepth 100000 in
/-- GlacierMail$Rows.copyFrom -/
def pl_s906 : ck_Sum := ((1, 0, 0), 249, [.inr (.inr (.inl 8)), .inr (.inr (.inl 101))], ([], [], []), ([(8, 3, 3), (9, 0, 23)], []), [(.inr none, 249, ([], [], []))])
set_option maxRecDepth 100000 in
theorem pl_s906_s {X : Int → Int} {LX : Nat} : ck_Ok p2_OL X LX 58 pl_s906 := ck_ok_s (O := p2_OL) (X := X) (LX := LX) (E := []) (mi := 58) (cuts := []) (f := 114) (S := pl_s906) (lx := none) (XF := []) ⟨pl_nmu, ck_E0⟩ ck_X0 ck_l0 (by decide +kernel)
set_option maxRecDepth 100000 in
/-- GlacierMail$Rows.copyFrom -/
def pl_s907 : ck_Sum := ((1, 0, 0), 249, [.inr (.inr (.inl 10)), .inr (.inr (.inl 103))], ([], [], []), ([(10, 3, 3), (11, 0, 167)], []), [(.inr none, 249, ([], [], []))])
set_option maxRecDepth 100000 in
theorem pl_s907_s {X : Int → Int} {LX : Nat} : ck_Ok p2_OL X LX 58 pl_s907 := ck_ok_s (O := p2_OL) (X := X) (LX := LX) (E := []) (mi := 58) (cuts := []) (f := 114) (S := pl_s907) (lx := none) (XF := []) ⟨pl_nmu, ck_E0⟩ ck_X0 ck_l0 (by decide +kernel)
set_option maxRecDepth 100000 in
/-- GlacierMail$Rows.copyFrom -/
def pl_s908 : ck_Sum := ((1, 0, 0), 249, [.inr (.inr (.inl 12)), .inr (.inr (.inl 105))], ([], [], []), ([(12, 3, 3), (13, 0, 35)], []), [(.inr none, 249, ([], [], []))])
set_option maxRecDepth 100000 in
theorem pl_s908_s {X : Int → Int} {LX : Nat} : ck_Ok p2_OL X LX 58 pl_s908 := ck_ok_s (O := p2_OL) (X := X) (LX := LX) (E := []) (mi := 58) (cuts := []) (f := 114) (S := pl_s908) (lx := none) (XF := []) ⟨pl_nmu, ck_E0⟩ ck_X0 ck_l0 (by decide +kernel)
set_option maxRecDepth 100000 in
/-- GlacierMail$Rows.copyFrom -/
def pl_s909 : ck_Sum := ((1, 0, 0), 249, [.inr (.inr (.inl 14)), .inr (.inr (.inl 107))], ([], [], []), ([(14, 3, 3), (15, 0, 71)], []), [(.inr none, 249, ([], [], []))])
set_option maxRecDepth 100000 in
theorem pl_s909_s {X : Int → Int} {LX : Nat} : ck_Ok p2_OL X LX 58 pl_s909 := ck_ok_s (O := p2_OL) (X := X) (LX := LX) (E := []) (mi := 58) (cuts := []) (f := 114) (S := pl_s909) (lx := none) (XF := []) ⟨pl_nmu, ck_E0⟩ ck_X0 ck_l0 (by decide +kernel)
set_option maxRecDepth 100000 in
/-- GlacierMail$State.copyFrom -/
def pl_s910 : ck_Sum := ((2, 0, 0), 249, [.inr (.inr (.inl 3)), .inr (.inr (.inl 96))], ([], [(3, 8, 246), (96, 8, 100096)], []), (zl1, [(3, 8)]), [(.inr none, 249, ([], [(3, 8, 100096)], []))])
set_option maxRecDepth 100000 in
theorem pl_s910_s {X : Int → Int} {LX : Nat} : ck_Ok p2_OL X LX 57 pl_s910 := ck_ok_s (O := p2_OL) (X := X) (LX := LX) (E := [(58, [pl_s904, pl_s905, pl_s906, pl_s907, pl_s908, pl_s909])]) (mi := 57) (cuts := []) (f := 204) (S := pl_s910) (lx := none) (XF := []) ⟨pl_nmu, ck_E1 (ck_S1 pl_s904_s (ck_S1 pl_s905_s (ck_S1 pl_s906_s (ck_S1 pl_s907_s (ck_S1 pl_s908_s (ck_S1 pl_s909_s ck_S0)))))) ck_E0⟩ ck_X0 ck_l0 (by decide +kernel)
set_option maxRecDepth 100000 in
/-- GlacierMail$Rows.copyFrom -/
def pl_s911 : ck_Sum := ((1, 0, 0), 249, [.inr (.inr (.inl 4)), .inr (.inr (.inl 110))], ([], [], []), ([(4, 3, 3), (5, 0, 55)], []), [(.inr none, 249, ([], [], []))])
set_option maxRecDepth 100000 in
theorem pl_s911_s {X : Int → Int} {LX : Nat} : ck_Ok p2_OL X LX 58 pl_s911 := ck_ok_s (O := p2_OL) (X := X) (LX := LX) (E := []) (mi := 58) (cuts := []) (f := 114) (S := pl_s911) (lx := none) (XF := []) ⟨pl_nmu, ck_E0⟩ ck_X0 ck_l0 (by decide +kernel)
set_option maxRecDepth 100000 in
/-- GlacierMail$Rows.copyFrom -/
def pl_s912 : ck_Sum := ((1, 0, 0), 249, [.inr (.inr (.inl 6)), .inr (.inr (.inl 112))], ([], [], []), ([(6, 3, 3), (7, 0, 23)], []), [(.inr none, 249, ([], [], []))])
set_option maxRecDepth 100000 in
theorem pl_s912_s {X : Int → Int} {LX : Nat} : ck_Ok p2_OL X LX 58 pl_s912 := ck_ok_s (O := p2_OL) (X := X) (LX := LX) (E := []) (mi := 58) (cuts := []) (f := 114) (S := pl_s912) (lx := none) (XF := []) ⟨pl_nmu, ck_E0⟩ ck_X0 ck_l0 (by decide +kernel)
set_option maxRecDepth 100000 in
/-- GlacierMail$Rows.copyFrom -/
def pl_s913 : ck_Sum := ((1, 0, 0), 249, [.inr (.inr (.inl 8)), .inr (.inr (.inl 114))], ([], [], []), ([(8, 3, 3), (9, 0, 23)], []), [(.inr none, 249, ([], [], []))])
set_option maxRecDepth 100000 in
theorem pl_s913_s {X : Int → Int} {LX : Nat} : ck_Ok p2_OL X LX 58 pl_s913 := ck_ok_s (O := p2_OL) (X := X) (LX := LX) (E := []) (mi := 58) (cuts := []) (f := 114) (S := pl_s913) (lx := none) (XF := []) ⟨pl_nmu, ck_E0⟩ ck_X0 ck_l0 (by decide +kernel)
set_option maxRecDepth 100000 in
/-- GlacierMail$Rows.copyFrom -/
def pl_s914 : ck_Sum := ((1, 0, 0), 249, [.inr (.inr (.inl 10)), .inr (.inr (.inl 116))], ([], [], []), ([(10, 3, 3), (11, 0, 167)], []), [(.inr none, 249, ([], [], []))])
set_option maxRecDepth 100000 in
theorem pl_s914_s {X : Int → Int} {LX : Nat} : ck_Ok p2_OL X LX 58 pl_s914 := ck_ok_s (O := p2_OL) (X := X) (LX := LX) (E := []) (mi := 58) (cuts := []) (f := 114) (S := pl_s914) (lx := none) (XF := []) ⟨pl_nmu, ck_E0⟩ ck_X0 ck_l0 (by decide +kernel)
set_option maxRecDepth 100000 in
/-- GlacierMail$Rows.copyFrom -/
def pl_s915 : ck_Sum := ((1, 0, 0), 249, [.inr (.inr (.inl 12)), .inr (.inr (.inl 118))], ([], [], []), ([(12, 3, 3), (13, 0, 35)], []), [(.inr none, 249, ([], [], []))])
set_option maxRecDepth 100000 in
theorem pl_s915_s {X : Int → Int} {LX : Nat} : ck_Ok p2_OL X LX 58 pl_s915 := ck_ok_s (O := p2_OL) (X := X) (LX := LX) (E := []) (mi := 58) (cuts := []) (f := 114) (S := pl_s915) (lx := none) (XF := []) ⟨pl_nmu, ck_E0⟩ ck_X0 ck_l0 (by decide +kernel)
set_option maxRecDepth 100000 in
/-- GlacierMail$Rows.copyFrom -/
def pl_s916 : ck_Sum := ((1, 0, 0), 249, [.inr (.inr (.inl 14)), .inr (.inr (.inl 120))], ([], [], []), ([(14, 3, 3), (15, 0, 71)], []), [(.inr none, 249, ([], [], []))])
set_option maxRecDepth 100000 in
theorem pl_s916_s {X : Int → Int} {LX : Nat} : ck_Ok p2_OL X LX 58 pl_s916 := ck_ok_s (O := p2_OL) (X := X) (LX := LX) (E := []) (mi := 58) (cuts := []) (f := 114) (S := pl_s916) (lx := none) (XF := []) ⟨pl_nmu, ck_E0⟩ ck_X0 ck_l0 (by decide +kernel)
set_option maxRecDepth 100000 in
/-- GlacierMail$State.copyFrom -/
def pl_s917 : ck_Sum := ((2, 0, 0), 249, [.inr (.inr (.inl 3)), .inr (.inr (.inl 109))], ([], [(3, 8, 246), (109, 8, 100109)], []), (zl1, [(3, 8)]), [(.inr none, 249, ([], [(3, 8, 100109)], []))])
set_option maxRecDepth 100000 in
theorem pl_s917_s {X : Int → Int} {LX : Nat} : ck_Ok p2_OL X LX 57 pl_s917 := ck_ok_s (O := p2_OL) (X := X) (LX := LX) (E := [(58, [pl_s911, pl_s912, pl_s913, pl_s914, pl_s915, pl_s916])]) (mi := 57) (cuts := []) (f := 204) (S := pl_s917) (lx := none) (XF := []) ⟨pl_nmu, ck_E1 (ck_S1 pl_s911_s (ck_S1 pl_s912_s (ck_S1 pl_s913_s (ck_S1 pl_s914_s (ck_S1 pl_s915_s (ck_S1 pl_s916_s ck_S0)))))) ck_E0⟩ ck_X0 ck_l0 (by decide +kernel)
set_option maxRecDepth 100000 in
/-- GlacierMail$Rows.copyFrom -/
def pl_s918 : ck_Sum := ((1, 0, 0), 249, [.inr (.inr (.inl 4)), .inr (.inr (.inl 123))], ([], [], []), ([(4, 3, 3), (5, 0, 55)], []), [(.inr none, 249, ([], [], []))])
set_option maxRecDepth 100000 in
theorem pl_s918_s {X : Int → Int} {LX : Nat} : ck_Ok p2_OL X LX 58 pl_s918 := ck_ok_s (O := p2_OL) (X := X) (LX := LX) (E := []) (mi := 58) (cuts := []) (f := 114) (S := pl_s918) (lx := none) (XF := []) ⟨pl_nmu, ck_E0⟩ ck_X0 ck_l0 (by decide +kernel)
set_option maxRecDepth 100000 in
/-- GlacierMail$Rows.copyFrom -/
def pl_s919 : ck_Sum := ((1, 0, 0), 249, [.inr (.inr (.inl 6)), .inr (.inr (.inl 125))], ([], [], []), ([(6, 3, 3), (7, 0, 23)], []), [(.inr none, 249, ([], [], []))])
set_option maxRecDepth 100000 in
theorem pl_s919_s {X : Int → Int} {LX : Nat} : ck_Ok p2_OL X LX 58 pl_s919 := ck_ok_s (O := p2_OL) (X := X) (LX := LX) (E := []) (mi := 58) (cuts := []) (f := 114) (S := pl_s919) (lx := none) (XF := []) ⟨pl_nmu, ck_E0⟩ ck_X0 ck_l0 (by decide +kernel)
set_option maxRecDepth 100000 in
/-- GlacierMail$Rows.copyFrom -/
def pl_s920 : ck_Sum := ((1, 0, 0), 249, [.inr (.inr (.inl 8)), .inr (.inr (.inl 127))], ([], [], []), ([(8, 3, 3), (9, 0, 23)], []), [(.inr none, 249, ([], [], []))])
set_option maxRecDepth 100000 in
theorem pl_s920_s {X : Int → Int} {LX : Nat} : ck_Ok p2_OL X LX 58 pl_s920 := ck_ok_s (O := p2_OL) (X := X) (LX := LX) (E := []) (mi := 58) (cuts := []) (f := 114) (S := pl_s920) (lx := none) (XF := []) ⟨pl_nmu, ck_E0⟩ ck_X0 ck_l0 (by decide +kernel)
set_option maxRecDepth 100000 in
/-- GlacierMail$Rows.copyFrom -/
def pl_s921 : ck_Sum := ((1, 0, 0), 249, [.inr (.inr (.inl 10)), .inr (.inr (.inl 129))], ([], [], []), ([(10, 3, 3), (11, 0, 167)], []), [(.inr none, 249, ([], [], []))])
set_option maxRecDepth 100000 in
theorem pl_s921_s {X : Int → Int} {LX : Nat} : ck_Ok p2_OL X LX 58 pl_s921 := ck_ok_s (O := p2_OL) (X := X) (LX := LX) (E := []) (mi := 58) (cuts := []) (f := 114) (S := pl_s921) (lx := none) (XF := []) ⟨pl_nmu, ck_E0⟩ ck_X0 ck_l0 (by decide +kernel)
set_option maxRecDepth 100000 in
/-- GlacierMail$Rows.copyFrom -/
def pl_s922 : ck_Sum := ((1, 0, 0), 249, [.inr (.inr (.inl 12)), .inr (.inr (.inl 131))], ([], [], []), ([(12, 3, 3), (13, 0, 35)], []), [(.inr none, 249, ([], [], []))])
set_option maxRecDepth 100000 in
theorem pl_s922_s {X : Int → Int} {LX : Nat} : ck_Ok p2_OL X LX 58 pl_s922 := ck_ok_s (O := p2_OL) (X := X) (LX := LX) (E := []) (mi := 58) (cuts := []) (f := 114) (S := pl_s922) (lx := none) (XF := []) ⟨pl_nmu, ck_E0⟩ ck_X0 ck_l0 (by decide +kernel)
set_option maxRecDepth 100000 in
/-- GlacierMail$Rows.copyFrom -/
def pl_s923 : ck_Sum := ((1, 0, 0), 249, [.inr (.inr (.inl 14)), .inr (.inr (.inl 133))], ([], [], []), ([(14, 3, 3), (15, 0, 71)], []), [(.inr none, 249, ([], [], []))])
set_option maxRecDepth 100000 in
theorem pl_s923_s {X : Int → Int} {LX : Nat} : ck_Ok p2_OL X LX 58 pl_s923 := ck_ok_s (O := p2_OL) (X := X) (LX := LX) (E := []) (mi := 58) (cuts := []) (f := 114) (S := pl_s923) (lx := none) (XF := []) ⟨pl_nmu, ck_E0⟩ ck_X0 ck_l0 (by decide +kernel)
set_option maxRecDepth 100000 in
/-- GlacierMail$State.copyFrom -/
def pl_s924 : ck_Sum := ((2, 0, 0), 249, [.inr (.inr (.inl 3)), .inr (.inr (.inl 122))], ([], [(3, 8, 246), (122, 8, 100122)], []), (zl1, [(3, 8)]), [(.inr none, 249, ([], [(3, 8, 100122)], []))])
set_option maxRecDepth 100000 in
theorem pl_s924_s {X : Int → Int} {LX : Nat} : ck_Ok p2_OL X LX 57 pl_s924 := ck_ok_s (O := p2_OL) (X := X) (LX := LX) (E := [(58, [pl_s918, pl_s919, pl_s920, pl_s921, pl_s922, pl_s923])]) (mi := 57) (cuts := []) (f := 204) (S := pl_s924) (lx := none) (XF := []) ⟨pl_nmu, ck_E1 (ck_S1 pl_s918_s (ck_S1 pl_s919_s (ck_S1 pl_s920_s (ck_S1 pl_s921_s (ck_S1 pl_s922_s (ck_S1 pl_s923_s ck_S0)))))) ck_E0⟩ ck_X0 ck_l0 (by decide +kernel)
set_option maxRecDepth 100000 in
/-- GlacierMail$Rows.copyFrom -/
def pl_s925 : ck_Sum := ((1, 0, 0), 249, [.inr (.inr (.inl 4)), .inr (.inr (.inl 136))], ([], [], []), ([(4, 3, 3), (5, 0, 55)], []), [(.inr none, 249, ([], [], []))])
set_option maxRecDepth 100000 in
theorem pl_s925_s {X : Int → Int} {LX : Nat} : ck_Ok p2_OL X LX 58 pl_s925 := ck_ok_s (O := p2_OL) (X := X) (LX := LX) (E := []) (mi := 58) (cuts := []) (f := 114) (S := pl_s925) (lx := none) (XF := []) ⟨pl_nmu, ck_E0⟩ ck_X0 ck_l0 (by decide +kernel)
set_option maxRecDepth 100000 in
/-- GlacierMail$Rows.copyFrom -/
def pl_s926 : ck_Sum := ((1, 0, 0), 249, [.inr (.inr (.inl 6)), .inr (.inr (.inl 138))], ([], [], []), ([(6, 3, 3), (7, 0, 23)], []), [(.inr none, 249, ([], [], []))])
set_option maxRecDepth 100000 in
theorem pl_s926_s {X : Int → Int} {LX : Nat} : ck_Ok p2_OL X LX 58 pl_s926 := ck_ok_s (O := p2_OL) (X := X) (LX := LX) (E := []) (mi := 58) (cuts := []) (f := 114) (S := pl_s926) (lx := none) (XF := []) ⟨pl_nmu, ck_E0⟩ ck_X0 ck_l0 (by decide +kernel)
set_option maxRecDepth 100000 in
/-- GlacierMail$Rows.copyFrom -/
def pl_s927 : ck_Sum := ((1, 0, 0), 249, [.inr (.inr (.inl 8)), .inr (.inr (.inl 140))], ([], [], []), ([(8, 3, 3), (9, 0, 23)], []), [(.inr none, 249, ([], [], []))])
set_option maxRecDepth 100000 in
theorem pl_s927_s {X : Int → Int} {LX : Nat} : ck_Ok p2_OL X LX 58 pl_s927 := ck_ok_s (O := p2_OL) (X := X) (LX := LX) (E := []) (mi := 58) (cuts := []) (f := 114) (S := pl_s927) (lx := none) (XF := []) ⟨pl_nmu, ck_E0⟩ ck_X0 ck_l0 (by decide +kernel)
set_option maxRecDepth 100000 in
/-- GlacierMail$Rows.copyFrom -/
def pl_s928 : ck_Sum := ((1, 0, 0), 249, [.inr (.inr (.inl 10)), .inr (.inr (.inl 142))], ([], [], []), ([(10, 3, 3), (11, 0, 167)], []), [(.inr none, 249, ([], [], []))])
set_option maxRecDepth 100000 in
theorem pl_s928_s {X : Int → Int} {LX : Nat} : ck_Ok p2_OL X LX 58 pl_s928 := ck_ok_s (O := p2_OL) (X := X) (LX := LX) (E := []) (mi := 58) (cuts := []) (f := 114) (S := pl_s928) (lx := none) (XF := []) ⟨pl_nmu, ck_E0⟩ ck_X0 ck_l0 (by decide +kernel)
set_option maxRecDepth 100000 in
/-- GlacierMail$Rows.copyFrom -/
def pl_s929 : ck_Sum := ((1, 0, 0), 249, [.inr (.inr (.inl 12)), .inr (.inr (.inl 144))], ([], [], []), ([(12, 3, 3), (13, 0, 35)], []), [(.inr none, 249, ([], [], []))])
set_option maxRecDepth 100000 in
theorem pl_s929_s {X : Int → Int} {LX : Nat} : ck_Ok p2_OL X LX 58 pl_s929 := ck_ok_s (O := p2_OL) (X := X) (LX := LX) (E := []) (mi := 58) (cuts := []) (f := 114) (S := pl_s929) (lx := none) (XF := []) ⟨pl_nmu, ck_E0⟩ ck_X0 ck_l0 (by decide +kernel)
set_option maxRecDepth 100000 in
/-- GlacierMail$Rows.copyFrom -/
def pl_s930 : ck_Sum := ((1, 0, 0), 249, [.inr (.inr (.inl 14)), .inr (.inr (.inl 146))], ([], [], []), ([(14, 3, 3), (15, 0, 71)], []), [(.inr none, 249, ([], [], []))])
set_option maxRecDepth 100000 in
theorem pl_s930_s {X : Int → Int} {LX : Nat} : ck_Ok p2_OL X LX 58 pl_s930 := ck_ok_s (O := p2_OL) (X := X) (LX := LX) (E := []) (mi := 58) (cuts := []) (f := 114) (S := pl_s930) (lx := none) (XF := []) ⟨pl_nmu, ck_E0⟩ ck_X0 ck_l0 (by decide +kernel)
set_option maxRecDepth 100000 in
/-- GlacierMail$State.copyFrom -/
def pl_s931 : ck_Sum := ((2, 0, 0), 249, [.inr (.inr (.inl 3)), .inr (.inr (.inl 135))], ([], [(3, 8, 246), (135, 8, 100135)], []), (zl1, [(3, 8)]), [(.inr none, 249, ([], [(3, 8, 100135)], []))])
set_option maxRecDepth 100000 in
theorem pl_s931_s {X : Int → Int} {LX : Nat} : ck_Ok p2_OL X LX 57 pl_s931 := ck_ok_s (O := p2_OL) (X := X) (LX := LX) (E := [(58, [pl_s925, pl_s926, pl_s927, pl_s928, pl_s929, pl_s930])]) (mi := 57) (cuts := []) (f := 204) (S := pl_s931) (lx := none) (XF := []) ⟨pl_nmu, ck_E1 (ck_S1 pl_s925_s (ck_S1 pl_s926_s (ck_S1 pl_s927_s (ck_S1 pl_s928_s (ck_S1 pl_s929_s (ck_S1 pl_s930_s ck_S0)))))) ck_E0⟩ ck_X0 ck_l0 (by decide +kernel)
set_option maxRecDepth 100000 in
/-- GlacierMail$Rows.copyFrom -/
def pl_s932 : ck_Sum := ((1, 0, 0), 249, [.inr (.inr (.inl 4)), .inr (.inr (.inl 149))], ([], [], []), ([(4, 3, 3), (5, 0, 55)], []), [(.inr none, 249, ([], [], []))])
set_option maxRecDepth 100000 in
theorem pl_s932_s {X : Int → Int} {LX : Nat} : ck_Ok p2_OL X LX 58 pl_s932 := ck_ok_s (O := p2_OL) (X := X) (LX := LX) (E := []) (mi := 58) (cuts := []) (f := 114) (S := pl_s932) (lx := none) (XF := []) ⟨pl_nmu, ck_E0⟩ ck_X0 ck_l0 (by decide +kernel)
set_option maxRecDepth 100000 in
/-- GlacierMail$Rows.copyFrom -/
def pl_s933 : ck_Sum := ((1, 0, 0), 249, [.inr (.inr (.inl 6)), .inr (.inr (.inl 151))], ([], [], []), ([(6, 3, 3), (7, 0, 23)], []), [(.inr none, 249, ([], [], []))])
set_option maxRecDepth 100000 in
theorem pl_s933_s {X : Int → Int} {LX : Nat} : ck_Ok p2_OL X LX 58 pl_s933 := ck_ok_s (O := p2_OL) (X := X) (LX := LX) (E := []) (mi := 58) (cuts := []) (f := 114) (S := pl_s933) (lx := none) (XF := []) ⟨pl_nmu, ck_E0⟩ ck_X0 ck_l0 (by decide +kernel)
set_option maxRecDepth 100000 in
/-- GlacierMail$Rows.copyFrom -/
def pl_s934 : ck_Sum := ((1, 0, 0), 249, [.inr (.inr (.inl 8)), .inr (.inr (.inl 153))], ([], [], []), ([(8, 3, 3), (9, 0, 23)], []), [(.inr none, 249, ([], [], []))])
set_option maxRecDepth 100000 in
theorem pl_s934_s {X : Int → Int} {LX : Nat} : ck_Ok p2_OL X LX 58 pl_s934 := ck_ok_s (O := p2_OL) (X := X) (LX := LX) (E := []) (mi := 58) (cuts := []) (f := 114) (S := pl_s934) (lx := none) (XF := []) ⟨pl_nmu, ck_E0⟩ ck_X0 ck_l0 (by decide +kernel)
set_option maxRecDepth 100000 in
/-- GlacierMail$Rows.copyFrom -/
def pl_s935 : ck_Sum := ((1, 0, 0), 249, [.inr (.inr (.inl 10)), .inr (.inr (.inl 155))], ([], [], []), ([(10, 3, 3), (11, 0, 167)], []), [(.inr none, 249, ([], [], []))])
set_option maxRecDepth 100000 in
theorem pl_s935_s {X : Int → Int} {LX : Nat} : ck_Ok p2_OL X LX 58 pl_s935 := ck_ok_s (O := p2_OL) (X := X) (LX := LX) (E := []) (mi := 58) (cuts := []) (f := 114) (S := pl_s935) (lx := none) (XF := []) ⟨pl_nmu, ck_E0⟩ ck_X0 ck_l0 (by decide +kernel)
set_option maxRecDepth 100000 in
/-- GlacierMail$Rows.copyFrom -/
def pl_s936 : ck_Sum := ((1, 0, 0), 249, [.inr (.inr (.inl 12)), .inr (.inr (.inl 157))], ([], [], []), ([(12, 3, 3), (13, 0, 35)], []), [(.inr none, 249, ([], [], []))])
set_option maxRecDepth 100000 in
theorem pl_s936_s {X : Int → Int} {LX : Nat} : ck_Ok p2_OL X LX 58 pl_s936 := ck_ok_s (O := p2_OL) (X := X) (LX := LX) (E := []) (mi := 58) (cuts := []) (f := 114) (S := pl_s936) (lx := none) (XF := []) ⟨pl_nmu, ck_E0⟩ ck_X0 ck_l0 (by decide +kernel)
set_option maxRecDepth 100000 in
/-- GlacierMail$Rows.copyFrom -/
def pl_s937 : ck_Sum := ((1, 0, 0), 249, [.inr (.inr (.inl 14)), .inr (.inr (.inl 159))], ([], [], []), ([(14, 3, 3), (15, 0, 71)], []), [(.inr none, 249, ([], [], []))])
set_option maxRecDepth 100000 in
theorem pl_s937_s {X : Int → Int} {LX : Nat} : ck_Ok p2_OL X LX 58 pl_s937 := ck_ok_s (O := p2_OL) (X := X) (LX := LX) (E := []) (mi := 58) (cuts := []) (f := 114) (S := pl_s937) (lx := none) (XF := []) ⟨pl_nmu, ck_E0⟩ ck_X0 ck_l0 (by decide +kernel)
set_option maxRecDepth 100000 in
/-- GlacierMail$State.copyFrom -/
def pl_s938 : ck_Sum := ((2, 0, 0), 249, [.inr (.inr (.inl 3)), .inr (.inr (.inl 148))], ([], [(3, 8, 246), (148, 8, 100148)], []), (zl1, [(3, 8)]), [(.inr none, 249, ([], [(3, 8, 100148)], []))])
set_option maxRecDepth 100000 in
theorem pl_s938_s {X : Int → Int} {LX : Nat} : ck_Ok p2_OL X LX 57 pl_s938 := ck_ok_s (O := p2_OL) (X := X) (LX := LX) (E := [(58, [pl_s932, pl_s933, pl_s934, pl_s935, pl_s936, pl_s937])]) (mi := 57) (cuts := []) (f := 204) (S := pl_s938) (lx := none) (XF := []) ⟨pl_nmu, ck_E1 (ck_S1 pl_s932_s (ck_S1 pl_s933_s (ck_S1 pl_s934_s (ck_S1 pl_s935_s (ck_S1 pl_s936_s (ck_S1 pl_s937_s ck_S0)))))) ck_E0⟩ ck_X0 ck_l0 (by decide +kernel)
set_option maxRecDepth 100000 in
/-- GlacierMail$Rows.copyFrom -/
def pl_s939 : ck_Sum := ((1, 0, 0), 249, [.inr (.inr (.inl 4)), .inr (.inr (.inl 162))], ([], [], []), ([(4, 3, 3), (5, 0, 55)], []), [(.inr none, 249, ([], [], []))])
set_option maxRecDepth 100000 in
theorem pl_s939_s {X : Int → Int} {LX : Nat} : ck_Ok p2_OL X LX 58 pl_s939 := ck_ok_s (O := p2_OL) (X := X) (LX := LX) (E := []) (mi := 58) (cuts := []) (f := 114) (S := pl_s939) (lx := none) (XF := []) ⟨pl_nmu, ck_E0⟩ ck_X0 ck_l0 (by decide +kernel)
set_option maxRecDepth 100000 in
/-- GlacierMail$Rows.copyFrom -/
def pl_s940 : ck_Sum := ((1, 0, 0), 249, [.inr (.inr (.inl 6)), .inr (.inr (.inl 164))], ([], [], []), ([(6, 3, 3), (7, 0, 23)], []), [(.inr none, 249, ([], [], []))])
set_option maxRecDepth 100000 in
theorem pl_s940_s {X : Int → Int} {LX : Nat} : ck_Ok p2_OL X LX 58 pl_s940 := ck_ok_s (O := p2_OL) (X := X) (LX := LX) (E := []) (mi := 58) (cuts := []) (f := 114) (S := pl_s940) (lx := none) (XF := []) ⟨pl_nmu, ck_E0⟩ ck_X0 ck_l0 (by decide +kernel)
set_option maxRecDepth 100000 in
/-- GlacierMail$Rows.copyFrom -/
def pl_s941 : ck_Sum := ((1, 0, 0), 249, [.inr (.inr (.inl 8)), .inr (.inr (.inl 166))], ([], [], []), ([(8, 3, 3), (9, 0, 23)], []), [(.inr none, 249, ([], [], []))])
set_option maxRecDepth 100000 in
theorem pl_s941_s {X : Int → Int} {LX : Nat} : ck_Ok p2_OL X LX 58 pl_s941 := ck_ok_s (O := p2_OL) (X := X) (LX := LX) (E := []) (mi := 58) (cuts := []) (f := 114) (S := pl_s941) (lx := none) (XF := []) ⟨pl_nmu, ck_E0⟩ ck_X0 ck_l0 (by decide +kernel)
set_option maxRecDepth 100000 in
/-- GlacierMail$Rows.copyFrom -/
def pl_s942 : ck_Sum := ((1, 0, 0), 249, [.inr (.inr (.inl 10)), .inr (.inr (.inl 168))], ([], [], []), ([(10, 3, 3), (11, 0, 167)], []), [(.inr none, 249, ([], [], []))])
set_option maxRecDepth 100000 in
theorem pl_s942_s {X : Int → Int} {LX : Nat} : ck_Ok p2_OL X LX 58 pl_s942 := ck_ok_s (O := p2_OL) (X := X) (LX := LX) (E := []) (mi := 58) (cuts := []) (f := 114) (S := pl_s942) (lx := none) (XF := []) ⟨pl_nmu, ck_E0⟩ ck_X0 ck_l0 (by decide +kernel)
set_option maxRecDepth 100000 in
/-- GlacierMail$Rows.copyFrom -/
def pl_s943 : ck_Sum := ((1, 0, 0), 249, [.inr (.inr (.inl 12)), .inr (.inr (.inl 170))], ([], [], []), ([(12, 3, 3), (13, 0, 35)], []), [(.inr none, 249, ([], [], []))])
set_option maxRecDepth 100000 in
theorem pl_s943_s {X : Int → Int} {LX : Nat} : ck_Ok p2_OL X LX 58 pl_s943 := ck_ok_s (O := p2_OL) (X := X) (LX := LX) (E := []) (mi := 58) (cuts := []) (f := 114) (S := pl_s943) (lx := none) (XF := []) ⟨pl_nmu, ck_E0⟩ ck_X0 ck_l0 (by decide +kernel)
set_option maxRecDepth 100000 in
/-- GlacierMail$Rows.copyFrom -/
def pl_s944 : ck_Sum := ((1, 0, 0), 249, [.inr (.inr (.inl 14)), .inr (.inr (.inl 172))], ([], [], []), ([(14, 3, 3), (15, 0, 71)], []), [(.inr none, 249, ([], [], []))])
set_option maxRecDepth 100000 in
theorem pl_s944_s {X : Int → Int} {LX : Nat} : ck_Ok p2_OL X LX 58 pl_s944 := ck_ok_s (O := p2_OL) (X := X) (LX := LX) (E := []) (mi := 58) (cuts := []) (f := 114) (S := pl_s944) (lx := none) (XF := []) ⟨pl_nmu, ck_E0⟩ ck_X0 ck_l0 (by decide +kernel)
set_option maxRecDepth 100000 in
/-- GlacierMail$State.copyFrom -/
def pl_s945 : ck_Sum := ((2, 0, 0), 249, [.inr (.inr (.inl 3)), .inr (.inr (.inl 161))], ([], [(3, 8, 246), (161, 8, 100161)], []), (zl1, [(3, 8)]), [(.inr none, 249, ([], [(3, 8, 100161)], []))])
set_option maxRecDepth 100000 in
theorem pl_s945_s {X : Int → Int} {LX : Nat} : ck_Ok p2_OL X LX 57 pl_s945 := ck_ok_s (O := p2_OL) (X := X) (LX := LX) (E := [(58, [pl_s939, pl_s940, pl_s941, pl_s942, pl_s943, pl_s944])]) (mi := 57) (cuts := []) (f := 204) (S := pl_s945) (lx := none) (XF := []) ⟨pl_nmu, ck_E1 (ck_S1 pl_s939_s (ck_S1 pl_s940_s (ck_S1 pl_s941_s (ck_S1 pl_s942_s (ck_S1 pl_s943_s (ck_S1 pl_s944_s ck_S0)))))) ck_E0⟩ ck_X0 ck_l0 (by decide +kernel)
set_option maxRecDepth 100000 in
/-- GlacierMail$Rows.copyFrom -/
def pl_s946 : ck_Sum := ((1, 0, 0), 249, [.inr (.inr (.inl 4)), .inr (.inr (.inl 175))], ([], [], []), ([(4, 3, 3), (5, 0, 55)], []), [(.inr none, 249, ([], [], []))])
set_option maxRecDepth 100000 in
theorem pl_s946_s {X : Int → Int} {LX : Nat} : ck_Ok p2_OL X LX 58 pl_s946 := ck_ok_s (O := p2_OL) (X := X) (LX := LX) (E := []) (mi := 58) (cuts := []) (f := 114) (S := pl_s946) (lx := none) (XF := []) ⟨pl_nmu, ck_E0⟩ ck_X0 ck_l0 (by decide +kernel)
set_option maxRecDepth 100000 in
/-- GlacierMail$Rows.copyFrom -/
def pl_s947 : ck_Sum := ((1, 0, 0), 249, [.inr (.inr (.inl 6)), .inr (.inr (.inl 177))], ([], [], []), ([(6, 3, 3), (7, 0, 23)], []), [(.inr none, 249, ([], [], []))])
set_option maxRecDepth 100000 in
theorem pl_s947_s {X : Int → Int} {LX : Nat} : ck_Ok p2_OL X LX 58 pl_s947 := ck_ok_s (O := p2_OL) (X := X) (LX := LX) (E := []) (mi := 58) (cuts := []) (f := 114) (S := pl_s947) (lx := none) (XF := []) ⟨pl_nmu, ck_E0⟩ ck_X0 ck_l0 (by decide +kernel)
end
/-! 78r86a13.sl -/
section
/-! EVERY CALL OF THE CLASS ENDS, under a law (laid by wip/am/p2l.py). -/
set_option maxRecDepth 100000 in
/-- GlacierMail$Rows.copyFrom -/
def pl_s948 : ck_Sum := ((1, 0, 0), 249, [.inr (.inr (.inl 8)), .inr (.inr (.inl 179))], ([], [], []), ([(8, 3, 3), (9, 0, 23)], []), [(.inr none, 249, ([], [], []))])
set_option maxRecDepth 100000 in
theorem pl_s948_s {X : Int → Int} {LX : Nat} : ck_Ok p2_OL X LX 58 pl_s948 := ck_ok_s (O := p2_OL) (X := X) (LX := LX) (E := []) (mi := 58) (cuts := []) (f := 114) (S := pl_s948) (lx := none) (XF := []) ⟨pl_nmu, ck_E0⟩ ck_X0 ck_l0 (by decide +kernel)
set_option maxRecDepth 100000 in
/-- GlacierMail$Rows.copyFrom -/
def pl_s949 : ck_Sum := ((1, 0, 0), 249, [.inr (.inr (.inl 10)), .inr (.inr (.inl 181))], ([], [], []), ([(10, 3, 3), (11, 0, 167)], []), [(.inr none, 249, ([], [], []))])
set_option maxRecDepth 100000 in
theorem pl_s949_s {X : Int → Int} {LX : Nat} : ck_Ok p2_OL X LX 58 pl_s949 := ck_ok_s (O := p2_OL) (X := X) (LX := LX) (E := []) (mi := 58) (cuts := []) (f := 114) (S := pl_s949) (lx := none) (XF := []) ⟨pl_nmu, ck_E0⟩ ck_X0 ck_l0 (by decide +kernel)
set_option maxRecDepth 100000 in
/-- GlacierMail$Rows.copyFrom -/
def pl_s950 : ck_Sum := ((1, 0, 0), 249, [.inr (.inr (.inl 12)), .inr (.inr (.inl 183))], ([], [], []), ([(12, 3, 3), (13, 0, 35)], []), [(.inr none, 249, ([], [], []))])
set_option maxRecDepth 100000 in
theorem pl_s950_s {X : Int → Int} {LX : Nat} : ck_Ok p2_OL X LX 58 pl_s950 := ck_ok_s (O := p2_OL) (X := X) (LX := LX) (E := []) (mi := 58) (cuts := []) (f := 114) (S := pl_s950) (lx := none) (XF := []) ⟨pl_nmu, ck_E0⟩ ck_X0 ck_l0 (by decide +kernel)
set_option maxRecDepth 100000 in
/-- GlacierMail$Rows.copyFrom -/
def pl_s951 : ck_Sum := ((1, 0, 0), 249, [.inr (.inr (.inl 14)), .inr (.inr (.inl 185))], ([], [], []), ([(14, 3, 3), (15, 0, 71)], []), [(.inr none, 249, ([], [], []))])
set_option maxRecDepth 100000 in
theorem pl_s951_s {X : Int → Int} {LX : Nat} : ck_Ok p2_OL X LX 58 pl_s951 := ck_ok_s (O := p2_OL) (X := X) (LX := LX) (E := []) (mi := 58) (cuts := []) (f := 114) (S := pl_s951) (lx := none) (XF := []) ⟨pl_nmu, ck_E0⟩ ck_X0 ck_l0 (by decide +kernel)
set_option maxRecDepth 100000 in
/-- GlacierMail$State.copyFrom -/
def pl_s952 : ck_Sum := ((2, 0, 0), 249, [.inr (.inr (.inl 3)), .inr (.inr (.inl 174))], ([], [(3, 8, 246), (174, 8, 100174)], []), (zl1, [(3, 8)]), [(.inr none, 249, ([], [(3, 8, 100174)], []))])
set_option maxRecDepth 100000 in
theorem pl_s952_s {X : Int → Int} {LX : Nat} : ck_Ok p2_OL X LX 57 pl_s952 := ck_ok_s (O := p2_OL) (X := X) (LX := LX) (E := [(58, [pl_s946, pl_s947, pl_s948, pl_s949, pl_s950, pl_s951])]) (mi := 57) (cuts := []) (f := 204) (S := pl_s952) (lx := none) (XF := []) ⟨pl_nmu, ck_E1 (ck_S1 pl_s946_s (ck_S1 pl_s947_s (ck_S1 pl_s948_s (ck_S1 pl_s949_s (ck_S1 pl_s950_s (ck_S1 pl_s951_s ck_S0)))))) ck_E0⟩ ck_X0 ck_l0 (by decide +kernel)
set_option maxRecDepth 100000 in
/-- GlacierMail$Rows.copyFrom -/
def pl_s953 : ck_Sum := ((1, 0, 0), 249, [.inr (.inr (.inl 4)), .inr (.inr (.inl 188))], ([], [], []), ([(4, 3, 3), (5, 0, 55)], []), [(.inr none, 249, ([], [], []))])
set_option maxRecDepth 100000 in
theorem pl_s953_s {X : Int → Int} {LX : Nat} : ck_Ok p2_OL X LX 58 pl_s953 := ck_ok_s (O := p2_OL) (X := X) (LX := LX) (E := []) (mi := 58) (cuts := []) (f := 114) (S := pl_s953) (lx := none) (XF := []) ⟨pl_nmu, ck_E0⟩ ck_X0 ck_l0 (by decide +kernel)
set_option maxRecDepth 100000 in
/-- GlacierMail$Rows.copyFrom -/
def pl_s954 : ck_Sum := ((1, 0, 0), 249, [.inr (.inr (.inl 6)), .inr (.inr (.inl 190))], ([], [], []), ([(6, 3, 3), (7, 0, 23)], []), [(.inr none, 249, ([], [], []))])
set_option maxRecDepth 100000 in
theorem pl_s954_s {X : Int → Int} {LX : Nat} : ck_Ok p2_OL X LX 58 pl_s954 := ck_ok_s (O := p2_OL) (X := X) (LX := LX) (E := []) (mi := 58) (cuts := []) (f := 114) (S := pl_s954) (lx := none) (XF := []) ⟨pl_nmu, ck_E0⟩ ck_X0 ck_l0 (by decide +kernel)
set_option maxRecDepth 100000 in
/-- GlacierMail$Rows.copyFrom -/
def pl_s955 : ck_Sum := ((1, 0, 0), 249, [.inr (.inr (.inl 8)), .inr (.inr (.inl 192))], ([], [], []), ([(8, 3, 3), (9, 0, 23)], []), [(.inr none, 249, ([], [], []))])
set_option maxRecDepth 100000 in
theorem pl_s955_s {X : Int → Int} {LX : Nat} : ck_Ok p2_OL X LX 58 pl_s955 := ck_ok_s (O := p2_OL) (X := X) (LX := LX) (E := []) (mi := 58) (cuts := []) (f := 114) (S := pl_s955) (lx := none) (XF := []) ⟨pl_nmu, ck_E0⟩ ck_X0 ck_l0 (by decide +kernel)
set_option maxRecDepth 100000 in
/-- GlacierMail$Rows.copyFrom -/
def pl_s956 : ck_Sum := ((1, 0, 0), 249, [.inr (.inr (.inl 10)), .inr (.inr (.inl 194))], ([], [], []), ([(10, 3, 3), (11, 0, 167)], []), [(.inr none, 249, ([], [], []))])
set_option maxRecDepth 100000 in
theorem pl_s956_s {X : Int → Int} {LX : Nat} : ck_Ok p2_OL X LX 58 pl_s956 := ck_ok_s (O := p2_OL) (X := X) (LX := LX) (E := []) (mi := 58) (cuts := []) (f := 114) (S := pl_s956) (lx := none) (XF := []) ⟨pl_nmu, ck_E0⟩ ck_X0 ck_l0 (by decide +kernel)
set_option maxRecDepth 100000 in
/-- GlacierMail$Rows.copyFrom -/
def pl_s957 : ck_Sum := ((1, 0, 0), 249, [.inr (.inr (.inl 12)), .inr (.inr (.inl 196))], ([], [], []), ([(12, 3, 3), (13, 0, 35)], []), [(.inr none, 249, ([], [], []))])
set_option maxRecDepth 100000 in
theorem pl_s957_s {X : Int → Int} {LX : Nat} : ck_Ok p2_OL X LX 58 pl_s957 := ck_ok_s (O := p2_OL) (X := X) (LX := LX) (E := []) (mi := 58) (cuts := []) (f := 114) (S := pl_s957) (lx := none) (XF := []) ⟨pl_nmu, ck_E0⟩ ck_X0 ck_l0 (by decide +kernel)
set_option maxRecDepth 100000 in
/-- GlacierMail$Rows.copyFrom -/
def pl_s958 : ck_Sum := ((1, 0, 0), 249, [.inr (.inr (.inl 14)), .inr (.inr (.inl 198))], ([], [], []), ([(14, 3, 3), (15, 0, 71)], []), [(.inr none, 249, ([], [], []))])
set_option maxRecDepth 100000 in
theorem pl_s958_s {X : Int → Int} {LX : Nat} : ck_Ok p2_OL X LX 58 pl_s958 := ck_ok_s (O := p2_OL) (X := X) (LX := LX) (E := []) (mi := 58) (cuts := []) (f := 114) (S := pl_s958) (lx := none) (XF := []) ⟨pl_nmu, ck_E0⟩ ck_X0 ck_l0 (by decide +kernel)
set_option maxRecDepth 100000 in
/-- GlacierMail$State.copyFrom -/
def pl_s959 : ck_Sum := ((2, 0, 0), 249, [.inr (.inr (.inl 3)), .inr (.inr (.inl 187))], ([], [(3, 8, 246), (187, 8, 100187)], []), (zl1, [(3, 8)]), [(.inr none, 249, ([], [(3, 8, 100187)], []))])
set_option maxRecDepth 100000 in
theorem pl_s959_s {X : Int → Int} {LX : Nat} : ck_Ok p2_OL X LX 57 pl_s959 := ck_ok_s (O := p2_OL) (X := X) (LX := LX) (E := [(58, [pl_s953, pl_s954, pl_s955, pl_s956, pl_s957, pl_s958])]) (mi := 57) (cuts := []) (f := 204) (S := pl_s959) (lx := none) (XF := []) ⟨pl_nmu, ck_E1 (ck_S1 pl_s953_s (ck_S1 pl_s954_s (ck_S1 pl_s955_s (ck_S1 pl_s956_s (ck_S1 pl_s957_s (ck_S1 pl_s958_s ck_S0)))))) ck_E0⟩ ck_X0 ck_l0 (by decide +kernel)
set_option maxRecDepth 100000 in
/-- GlacierMail$History.takeBack -/
def pl_s960 : ck_Sum := ((3, 0, 0), 249, [.inr (.inr (.inl 42)), .inr (.inr (.inl 3))], ([], zl230, []), (zl208, [(3, 8)]), [(.inr (some (.inl (ck_one 1))), 249, ([], [(3, 8, 100044)], zl209)), (.inr (some (.inl (ck_one 1))), 249, ([], [(3, 8, 100057)], zl209)), (.inr (some (.inl (ck_one 1))), 249, ([], [(3, 8, 100070)], zl209)), (.inr (some (.inl (ck_one 1))), 249, ([], [(3, 8, 100083)], zl209)), (.inr (some (.inl (ck_one 1))), 249, ([], [(3, 8, 100096)], zl209)), (.inr (some (.inl (ck_one 1))), 249, ([], [(3, 8, 100109)], zl209)), (.inr (some (.inl (ck_one 1))), 249, ([], [(3, 8, 100122)], zl209)), (.inr (some (.inl (ck_one 1))), 249, ([], [(3, 8, 100135)], zl209)), (.inr (some (.inl (ck_one 1))), 249, ([], [(3, 8, 100148)], zl209)), (.inr (some (.inl (ck_one 1))), 249, ([], [(3, 8, 100161)], zl209)), (.inr (some (.inl (ck_one 1))), 249, ([], [(3, 8, 100174)], zl209)), (.inr (some (.inl (ck_one 1))), 249, ([], [(3, 8, 100187)], zl209)), (.inr (some (.inl (ck_one 0))), 249, ([], [(3, 8, 246)], [(42, 2, 2, ck_one 0)]))])
set_option maxRecDepth 100000 in
theorem pl_s960_s {X : Int → Int} {LX : Nat} : ck_Ok p2_OL X LX 55 pl_s960 := ck_ok_s (O := p2_OL) (X := X) (LX := LX) (E := [(56, [pl_s875]), (57, [pl_s882, pl_s889, pl_s896, pl_s903, pl_s910, pl_s917, pl_s924, pl_s931, pl_s938, pl_s945, pl_s952, pl_s959])]) (mi := 55) (cuts := []) (f := 132) (S := pl_s960) (lx := none) (XF := []) ⟨pl_nmu, ck_E1 (ck_S1 pl_s875_s ck_S0) (ck_E1 (ck_S1 pl_s882_s (ck_S1 pl_s889_s (ck_S1 pl_s896_s (ck_S1 pl_s903_s (ck_S1 pl_s910_s (ck_S1 pl_s917_s (ck_S1 pl_s924_s (ck_S1 pl_s931_s (ck_S1 pl_s938_s (ck_S1 pl_s945_s (ck_S1 pl_s952_s (ck_S1 pl_s959_s ck_S0)))))))))))) ck_E0)⟩ ck_X0 ck_l0 (by decide +kernel)
set_option maxRecDepth 100000 in
/-- GlacierMail.undo -/
def pl_s961 : ck_Sum := ((4, 0, 0), 249, [.inr (.inr (.inl 1))], ([], zl230, []), (zl210, [(3, 8)]), [(.inr (some (.inl (ck_one 1))), 249, ([], [(3, 8, 100044)], zl211)), (.inr (some (.inl (ck_one 0))), 249, ([], [(3, 8, 246)], [(42, 2, 2, ck_one 0), (1, 15, 15, ck_one 0)])), (.inr (some (.inl (ck_one 1))), 249, ([], [(3, 8, 100187)], zl211)), (.inr (some (.inl (ck_one 1))), 249, ([], [(3, 8, 100174)], zl211)), (.inr (some (.inl (ck_one 1))), 249, ([], [(3, 8, 100161)], zl211)), (.inr (some (.inl (ck_one 1))), 249, ([], [(3, 8, 100148)], zl211)), (.inr (some (.inl (ck_one 1))), 249, ([], [(3, 8, 100135)], zl211)), (.inr (some (.inl (ck_one 1))), 249, ([], [(3, 8, 100122)], zl211)), (.inr (some (.inl (ck_one 1))), 249, ([], [(3, 8, 100109)], zl211)), (.inr (some (.inl (ck_one 1))), 249, ([], [(3, 8, 100096)], zl211)), (.inr (some (.inl (ck_one 1))), 249, ([], [(3, 8, 100083)], zl211)), (.inr (some (.inl (ck_one 1))), 249, ([], [(3, 8, 100070)], zl211)), (.inr (some (.inl (ck_one 1))), 249, ([], [(3, 8, 100057)], zl211))])
set_option maxRecDepth 100000 in
theorem pl_s961_s {X : Int → Int} {LX : Nat} : ck_Ok p2_OL X LX 54 pl_s961 := ck_ok_s (O := p2_OL) (X := X) (LX := LX) (E := [(55, [pl_s960])]) (mi := 54) (cuts := []) (f := 88) (S := pl_s961) (lx := none) (XF := []) ⟨pl_nmu, ck_E1 (ck_S1 pl_s960_s ck_S0) ck_E0⟩ ck_X0 ck_l0 (by decide +kernel)
set_option maxRecDepth 100000 in
/-- GlacierMail$Rows.copyFrom -/
def pl_s962 : ck_Sum := ((1, 0, 0), 249, [.inr (.inr (.inl 30)), .inr (.inr (.inl 4))], ([], [], []), ([(30, 3, 3), (31, 0, 55)], []), [(.inr none, 249, ([], [], []))])
set_option maxRecDepth 100000 in
theorem pl_s962_s {X : Int → Int} {LX : Nat} : ck_Ok p2_OL X LX 58 pl_s962 := ck_ok_s (O := p2_OL) (X := X) (LX := LX) (E := []) (mi := 58) (cuts := []) (f := 114) (S := pl_s962) (lx := none) (XF := []) ⟨pl_nmu, ck_E0⟩ ck_X0 ck_l0 (by decide +kernel)
set_option maxRecDepth 100000 in
/-- GlacierMail$Rows.copyFrom -/
def pl_s963 : ck_Sum := ((1, 0, 0), 249, [.inr (.inr (.inl 32)), .inr (.inr (.inl 6))], ([], [], []), ([(32, 3, 3), (33, 0, 23)], []), [(.inr none, 249, ([], [], []))])
set_option maxRecDepth 100000 in
theorem pl_s963_s {X : Int → Int} {LX : Nat} : ck_Ok p2_OL X LX 58 pl_s963 := ck_ok_s (O := p2_OL) (X := X) (LX := LX) (E := []) (mi := 58) (cuts := []) (f := 114) (S := pl_s963) (lx := none) (XF := []) ⟨pl_nmu, ck_E0⟩ ck_X0 ck_l0 (by decide +kernel)
set_option maxRecDepth 100000 in
/-- GlacierMail$Rows.copyFrom -/
def pl_s964 : ck_Sum := ((1, 0, 0), 249, [.inr (.inr (.inl 34)), .inr (.inr (.inl 8))], ([], [], []), ([(34, 3, 3), (35, 0, 23)], []), [(.inr none, 249, ([], [], []))])
set_option maxRecDepth 100000 in
theorem pl_s964_s {X : Int → Int} {LX : Nat} : ck_Ok p2_OL X LX 58 pl_s964 := ck_ok_s (O := p2_OL) (X := X) (LX := LX) (E := []) (mi := 58) (cuts := []) (f := 114) (S := pl_s964) (lx := none) (XF := []) ⟨pl_nmu, ck_E0⟩ ck_X0 ck_l0 (by decide +kernel)
set_option maxRecDepth 100000 in
/-- GlacierMail$Rows.copyFrom -/
def pl_s965 : ck_Sum := ((1, 0, 0), 249, [.inr (.inr (.inl 36)), .inr (.inr (.inl 10))], ([], [], []), ([(36, 3, 3), (37, 0, 167)], []), [(.inr none, 249, ([], [], []))])
set_option maxRecDepth 100000 in
theorem pl_s965_s {X : Int → Int} {LX : Nat} : ck_Ok p2_OL X LX 58 pl_s965 := ck_ok_s (O := p2_OL) (X := X) (LX := LX) (E := []) (mi := 58) (cuts := []) (f := 114) (S := pl_s965) (lx := none) (XF := []) ⟨pl_nmu, ck_E0⟩ ck_X0 ck_l0 (by decide +kernel)
set_option maxRecDepth 100000 in
/-- GlacierMail$Rows.copyFrom -/
def pl_s966 : ck_Sum := ((1, 0, 0), 249, [.inr (.inr (.inl 38)), .inr (.inr (.inl 12))], ([], [], []), ([(38, 3, 3), (39, 0, 35)], []), [(.inr none, 249, ([], [], []))])
set_option maxRecDepth 100000 in
theorem pl_s966_s {X : Int → Int} {LX : Nat} : ck_Ok p2_OL X LX 58 pl_s966 := ck_ok_s (O := p2_OL) (X := X) (LX := LX) (E := []) (mi := 58) (cuts := []) (f := 114) (S := pl_s966) (lx := none) (XF := []) ⟨pl_nmu, ck_E0⟩ ck_X0 ck_l0 (by decide +kernel)
set_option maxRecDepth 100000 in
/-- GlacierMail$Rows.copyFrom -/
def pl_s967 : ck_Sum := ((1, 0, 0), 249, [.inr (.inr (.inl 40)), .inr (.inr (.inl 14))], ([], [], []), ([(40, 3, 3), (41, 0, 71)], []), [(.inr none, 249, ([], [], []))])
set_option maxRecDepth 100000 in
theorem pl_s967_s {X : Int → Int} {LX : Nat} : ck_Ok p2_OL X LX 58 pl_s967 := ck_ok_s (O := p2_OL) (X := X) (LX := LX) (E := []) (mi := 58) (cuts := []) (f := 114) (S := pl_s967) (lx := none) (XF := []) ⟨pl_nmu, ck_E0⟩ ck_X0 ck_l0 (by decide +kernel)
set_option maxRecDepth 100000 in
/-- GlacierMail$State.copyFrom -/
def pl_s968 : ck_Sum := ((2, 0, 0), 249, [.inr (.inr (.inl 29)), .inr (.inr (.inl 3))], ([], [(3, 8, 246), (29, 8, 100029)], [(3, 6, 6, (0, 299, [(10, 0)]))]), (zl212, [(29, 8)]), [(.inr none, 249, ([], [(29, 8, 246)], [(29, 6, 6, (0, 299, [(10, 0)]))]))])
set_option maxRecDepth 100000 in
theorem pl_s968_s {X : Int → Int} {LX : Nat} : ck_Ok p2_OL X LX 57 pl_s968 := ck_ok_s (O := p2_OL) (X := X) (LX := LX) (E := [(58, [pl_s962, pl_s963, pl_s964, pl_s965, pl_s966, pl_s967])]) (mi := 57) (cuts := []) (f := 204) (S := pl_s968) (lx := none) (XF := []) ⟨pl_nmu, ck_E1 (ck_S1 pl_s962_s (ck_S1 pl_s963_s (ck_S1 pl_s964_s (ck_S1 pl_s965_s (ck_S1 pl_s966_s (ck_S1 pl_s967_s ck_S0)))))) ck_E0⟩ ck_X0 ck_l0 (by decide +kernel)
set_option maxRecDepth 100000 in
/-- GlacierMail.image -/
def pl_s969 : ck_Sum := ((3, 0, 0), 249, [.inr (.inr (.inl 1))], ([], [(3, 8, 246), (29, 8, 100029)], [(3, 6, 6, (0, 299, [(10, 0)]))]), (zl213, [(29, 8)]), [(.inr none, 249, ([], [(29, 8, 246)], zl214))])
set_option maxRecDepth 100000 in
theorem pl_s969_s {X : Int → Int} {LX : Nat} : ck_Ok p2_OL X LX 59 pl_s969 := ck_ok_s (O := p2_OL) (X := X) (LX := LX) (E := [(57, [pl_s968])]) (mi := 59) (cuts := []) (f := 88) (S := pl_s969) (lx := none) (XF := []) ⟨pl_nmu, ck_E1 (ck_S1 pl_s968_s ck_S0) ck_E0⟩ ck_X0 ck_l0 (by decide +kernel)
set_option maxRecDepth 100000 in
/-- GlacierMail$Rows.copyFrom -/
def pl_s970 : ck_Sum := ((1, 0, 0), 249, [.inr (.inr (.inl 4)), .inr (.inr (.inl 30))], ([], [], []), ([(4, 3, 3), (5, 0, 55)], []), [(.inr none, 249, ([], [], []))])
set_option maxRecDepth 100000 in
theorem pl_s970_s {X : Int → Int} {LX : Nat} : ck_Ok p2_OL X LX 58 pl_s970 := ck_ok_s (O := p2_OL) (X := X) (LX := LX) (E := []) (mi := 58) (cuts := []) (f := 114) (S := pl_s970) (lx := none) (XF := []) ⟨pl_nmu, ck_E0⟩ ck_X0 ck_l0 (by decide +kernel)
set_option maxRecDepth 100000 in
/-- GlacierMail$Rows.copyFrom -/
def pl_s971 : ck_Sum := ((1, 0, 0), 249, [.inr (.inr (.inl 6)), .inr (.inr (.inl 32))], ([], [], []), ([(6, 3, 3), (7, 0, 23)], []), [(.inr none, 249, ([], [], []))])
set_option maxRecDepth 100000 in
theorem pl_s971_s {X : Int → Int} {LX : Nat} : ck_Ok p2_OL X LX 58 pl_s971 := ck_ok_s (O := p2_OL) (X := X) (LX := LX) (E := []) (mi := 58) (cuts := []) (f := 114) (S := pl_s971) (lx := none) (XF := []) ⟨pl_nmu, ck_E0⟩ ck_X0 ck_l0 (by decide +kernel)
set_option maxRecDepth 100000 in
/-- GlacierMail$Rows.copyFrom -/
def pl_s972 : ck_Sum := ((1, 0, 0), 249, [.inr (.inr (.inl 8)), .inr (.inr (.inl 34))], ([], [], []), ([(8, 3, 3), (9, 0, 23)], []), [(.inr none, 249, ([], [], []))])
set_option maxRecDepth 100000 in
theorem pl_s972_s {X : Int → Int} {LX : Nat} : ck_Ok p2_OL X LX 58 pl_s972 := ck_ok_s (O := p2_OL) (X := X) (LX := LX) (E := []) (mi := 58) (cuts := []) (f := 114) (S := pl_s972) (lx := none) (XF := []) ⟨pl_nmu, ck_E0⟩ ck_X0 ck_l0 (by decide +kernel)
set_option maxRecDepth 100000 in
/-- GlacierMail$Rows.copyFrom -/
def pl_s973 : ck_Sum := ((1, 0, 0), 249, [.inr (.inr (.inl 10)), .inr (.inr (.inl 36))], ([], [], []), ([(10, 3, 3), (11, 0, 167)], []), [(.inr none, 249, ([], [], []))])
set_option maxRecDepth 100000 in
theorem pl_s973_s {X : Int → Int} {LX : Nat} : ck_Ok p2_OL X LX 58 pl_s973 := ck_ok_s (O := p2_OL) (X := X) (LX := LX) (E := []) (mi := 58) (cuts := []) (f := 114) (S := pl_s973) (lx := none) (XF := []) ⟨pl_nmu, ck_E0⟩ ck_X0 ck_l0 (by decide +kernel)
set_option maxRecDepth 100000 in
/-- GlacierMail$Rows.copyFrom -/
def pl_s974 : ck_Sum := ((1, 0, 0), 249, [.inr (.inr (.inl 12)), .inr (.inr (.inl 38))], ([], [], []), ([(12, 3, 3), (13, 0, 35)], []), [(.inr none, 249, ([], [], []))])
set_option maxRecDepth 100000 in
theorem pl_s974_s {X : Int → Int} {LX : Nat} : ck_Ok p2_OL X LX 58 pl_s974 := ck_ok_s (O := p2_OL) (X := X) (LX := LX) (E := []) (mi := 58) (cuts := []) (f := 114) (S := pl_s974) (lx := none) (XF := []) ⟨pl_nmu, ck_E0⟩ ck_X0 ck_l0 (by decide +kernel)
set_option maxRecDepth 100000 in
/-- GlacierMail$Rows.copyFrom -/
def pl_s975 : ck_Sum := ((1, 0, 0), 249, [.inr (.inr (.inl 14)), .inr (.inr (.inl 40))], ([], [], []), ([(14, 3, 3), (15, 0, 71)], []), [(.inr none, 249, ([], [], []))])
set_option maxRecDepth 100000 in
theorem pl_s975_s {X : Int → Int} {LX : Nat} : ck_Ok p2_OL X LX 58 pl_s975 := ck_ok_s (O := p2_OL) (X := X) (LX := LX) (E := []) (mi := 58) (cuts := []) (f := 114) (S := pl_s975) (lx := none) (XF := []) ⟨pl_nmu, ck_E0⟩ ck_X0 ck_l0 (by decide +kernel)
set_option maxRecDepth 100000 in
/-- GlacierMail$State.copyFrom -/
def pl_s976 : ck_Sum := ((2, 0, 0), 249, [.inr (.inr (.inl 3)), .inr (.inr (.inl 29))], ([], [(3, 8, 246), (29, 8, 100029)], []), (zl1, [(3, 8)]), [(.inr none, 249, ([], [(3, 8, 100029)], []))])
set_option maxRecDepth 100000 in
theorem pl_s976_s {X : Int → Int} {LX : Nat} : ck_Ok p2_OL X LX 57 pl_s976 := ck_ok_s (O := p2_OL) (X := X) (LX := LX) (E := [(58, [pl_s970, pl_s971, pl_s972, pl_s973, pl_s974, pl_s975])]) (mi := 57) (cuts := []) (f := 204) (S := pl_s976) (lx := none) (XF := []) ⟨pl_nmu, ck_E1 (ck_S1 pl_s970_s (ck_S1 pl_s971_s (ck_S1 pl_s972_s (ck_S1 pl_s973_s (ck_S1 pl_s974_s (ck_S1 pl_s975_s ck_S0)))))) ck_E0⟩ ck_X0 ck_l0 (by decide +kernel)
set_option maxRecDepth 100000 in
/-- GlacierMail.back -/
def pl_s977 : ck_Sum := ((4, 0, 0), 249, [.inr (.inr (.inl 1))], ([], [(3, 8, 246), (29, 8, 100029)], [(1, 6, 6, (0, 1, [(9, 0)]))]), (zl215, [(3, 8)]), [(.inr (some (.inl (ck_one 1))), 249, ([], [(3, 8, 100029)], zl216)), (.inr (some (.inl (ck_one 0))), 249, ([], [(3, 8, 246)], [(1, 6, 6, (0, 0, [(9, 0)]))]))])
set_option maxRecDepth 100000 in
theorem pl_s977_s {X : Int → Int} {LX : Nat} : ck_Ok p2_OL X LX 60 pl_s977 := ck_ok_s (O := p2_OL) (X := X) (LX := LX) (E := [(57, [pl_s976]), (61, [pl_s142])]) (mi := 60) (cuts := []) (f := 94) (S := pl_s977) (lx := none) (XF := []) ⟨pl_nmu, ck_E1 (ck_S1 pl_s976_s ck_S0) (ck_E1 (ck_S1 pl_s142_s ck_S0) ck_E0)⟩ ck_X0 ck_l0 (by decide +kernel)
set_option maxRecDepth 100000 in
/-- GlacierMail.count -/
def pl_s978 : ck_Sum := ((0, 0, 0), 249, [.inr (.inr (.inl 1)), .inl ((-2147483648), (-1), [])], ([], [], []), ([], []), [(.inr (some (.inl (ck_one (-1)))), 249, ([], [], []))])
set_option maxRecDepth 100000 in
theorem pl_s978_s {X : Int → Int} {LX : Nat} : ck_Ok p2_OL X LX 63 pl_s978 := ck_ok_s (O := p2_OL) (X := X) (LX := LX) (E := []) (mi := 63) (cuts := []) (f := 78) (S := pl_s978) (lx := none) (XF := []) ⟨pl_nmu, ck_E0⟩ ck_X0 ck_l0 (by decide +kernel)
set_option maxRecDepth 100000 in
/-- GlacierMail$History.size -/
def pl_s979 : ck_Sum := ((0, 0, 0), 249, [.inr (.inr (.inl 42))], ([], [], []), ([], []), [(.inr (some (.inl (0, 12, []))), 249, ([], [], []))])
set_option maxRecDepth 100000 in
theorem pl_s979_s {X : Int → Int} {LX : Nat} : ck_Ok p2_OL X LX 69 pl_s979 := ck_ok_s (O := p2_OL) (X := X) (LX := LX) (E := []) (mi := 69) (cuts := []) (f := 76) (S := pl_s979) (lx := none) (XF := []) ⟨pl_nmu, ck_E0⟩ ck_X0 ck_l0 (by decide +kernel)
set_option maxRecDepth 100000 in
/-- GlacierMail.inIceNow -/
def pl_s980 : ck_Sum := ((6, 0, 0), 249, [.inr (.inr (.inl 1))], ([], [(3, 8, 246)], [(3, 6, 6, (0, 299, [(10, 0)]))]), (zl228, []), [(.inr (some (.inl ((-2147483648), 2147483647, []))), 249, ([], [], [(1, 15, 15, ck_one 1)]))])
set_option maxRecDepth 100000 in
theorem pl_s980_e : ck_ok p2_OL none [] [(24, [pl_s217]), (9, [pl_s200]), (10, [pl_s218]), (67, [pl_s219])] 68 [(8, [some (.inr (.inr (.inl 1))), some (.inl ((-2147483648), 2147483647, [])), some (.inl (0, 24, []))], ([], [(3, 8, 246)], [(1, 15, 15, ck_one 1), (3, 6, 6, (0, 299, [(10, 0)]))]), 100, .inl 2, true)] 174 pl_s980 = true := by decide +kernel
theorem pl_s980_s {X : Int → Int} {LX : Nat} : ck_Ok p2_OL X LX 68 pl_s980 := ck_ok_s ⟨pl_nmu, ck_E1 (ck_S1 pl_s217_s ck_S0) (ck_E1 (ck_S1 pl_s200_s ck_S0) (ck_E1 (ck_S1 pl_s218_s ck_S0) (ck_E1 (ck_S1 pl_s219_s ck_S0) ck_E0)))⟩ ck_X0 ck_l0 pl_s980_e
set_option maxRecDepth 100000 in
/-- GlacierMail.waiting -/
def pl_s981 : ck_Sum := ((6, 0, 0), 249, [.inr (.inr (.inl 1)), .inl (ck_one (-1))], ([], [(3, 8, 246)], [(3, 6, 6, (0, 299, [(10, 0)]))]), (zl228, []), [(.inr (some (.inl ((-2147483648), 2147483647, []))), 249, ([], [], [(1, 15, 15, ck_one 1)]))])
set_option maxRecDepth 100000 in
theorem pl_s981_e : ck_ok p2_OL none [] [(24, [pl_s217]), (9, [pl_s200]), (66, [pl_s220])] 65 [(8, [some (.inr (.inr (.inl 1))), some (.inl (ck_one (-1))), some (.inl ((-2147483648), 2147483647, [])), some (.inl (0, 24, [])), none], ([], [(3, 8, 246)], [(1, 15, 15, ck_one 1), (3, 6, 6, (0, 299, [(10, 0)]))]), 100, .inl 3, true)] 178 pl_s981 = true := by decide +kernel
theorem pl_s981_s {X : Int → Int} {LX : Nat} : ck_Ok p2_OL X LX 65 pl_s981 := ck_ok_s ⟨pl_nmu, ck_E1 (ck_S1 pl_s217_s ck_S0) (ck_E1 (ck_S1 pl_s200_s ck_S0) (ck_E1 (ck_S1 pl_s220_s ck_S0) ck_E0))⟩ ck_X0 ck_l0 pl_s981_e
set_option maxRecDepth 100000 in
/-- GlacierMail$Rows.size -/
def pl_s982 : ck_Sum := ((0, 0, 0), 249, [.inr (.inr (.inl 14))], ([], [], []), ([], []), [(.inr (some (.inl (0, 24, []))), 249, ([], [], []))])
set_option maxRecDepth 100000 in
theorem pl_s982_s {X : Int → Int} {LX : Nat} : ck_Ok p2_OL X LX 9 pl_s982 := ck_ok_s (O := p2_OL) (X := X) (LX := LX) (E := []) (mi := 9) (cuts := []) (f := 76) (S := pl_s982) (lx := none) (XF := []) ⟨pl_nmu, ck_E0⟩ ck_X0 ck_l0 (by decide +kernel)
set_option maxRecDepth 100000 in
/-- GlacierMail.count -/
def pl_s983 : ck_Sum := ((7, 0, 0), 249, [.inr (.inr (.inl 1)), .inl (10, 2147483647, [])], ([], [(3, 8, 246)], [(3, 6, 6, (0, 299, [(10, 0)]))]), (zl228, []), [(.inr (some (.inl ((-2147483648), 2147483647, []))), 249, ([], [], [])), (.inr (some (.inl (0, 9999, []))), 249, ([], [], []))])
set_option maxRecDepth 100000 in
theorem pl_s983_s {X : Int → Int} {LX : Nat} : ck_Ok p2_OL X LX 63 pl_s983 := ck_ok_s (O := p2_OL) (X := X) (LX := LX) (E := [(69, [pl_s979]), (68, [pl_s980]), (65, [pl_s981]), (9, [pl_s982])]) (mi := 63) (cuts := []) (f := 84) (S := pl_s983) (lx := none) (XF := []) ⟨pl_nmu, ck_E1 (ck_S1 pl_s979_s ck_S0) (ck_E1 (ck_S1 pl_s980_s ck_S0) (ck_E1 (ck_S1 pl_s981_s ck_S0) (ck_E1 (ck_S1 pl_s982_s ck_S0) ck_E0)))⟩ ck_X0 ck_l0 (by decide +kernel)
set_option maxRecDepth 100000 in
/-- GlacierMail.lawLines -/
def pl_s984 : ck_Sum := ((1, 0, 0), 249, [.inr (.inr (.inl 1))], ([], [(3, 8, 246)], []), ([], []), [(.inr (some (.inl (0, 12, []))), 249, ([], [], []))])
set_option maxRecDepth 100000 in
theorem pl_s984_s {X : Int → Int} {LX : Nat} : ck_Ok p2_OL X LX 64 pl_s984 := ck_ok_s (O := p2_OL) (X := X) (LX := LX) (E := [(9, [pl_s182])]) (mi := 64) (cuts := []) (f := 90) (S := pl_s984) (lx := none) (XF := []) ⟨pl_nmu, ck_E1 (ck_S1 pl_s182_s ck_S0) ck_E0⟩ ck_X0 ck_l0 (by decide +kernel)
set_option maxRecDepth 100000 in
/-- GlacierMail.count -/
def pl_s985 : ck_Sum := ((2, 0, 0), 249, [.inr (.inr (.inl 1)), .inl (0, 9, [])], ([], [(3, 8, 246)], [(3, 6, 6, (0, 299, [(10, 0)]))]), ([], []), [(.inr (some (.inl (0, 2147483647, []))), 249, ([], [], [])), (.inr (some (.inl ((-2147483648), (-1), []))), 249, ([], [], [(3, 7, 7, ((-2147483648), (-1), []))]))])
set_option maxRecDepth 100000 in
theorem pl_s985_s {X : Int → Int} {LX : Nat} : ck_Ok p2_OL X LX 63 pl_s985 := ck_ok_s (O := p2_OL) (X := X) (LX := LX) (E := [(64, [pl_s984]), (9, [pl_s754, pl_s137, pl_s200, pl_s189, pl_s133])]) (mi := 63) (cuts := []) (f := 84) (S := pl_s985) (lx := none) (XF := []) ⟨pl_nmu, ck_E1 (ck_S1 pl_s984_s ck_S0) (ck_E1 (ck_S1 pl_s754_s (ck_S1 pl_s137_s (ck_S1 pl_s200_s (ck_S1 pl_s189_s (ck_S1 pl_s133_s ck_S0))))) ck_E0)⟩ ck_X0 ck_l0 (by decide +kernel)
end
