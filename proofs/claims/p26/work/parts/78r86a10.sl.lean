/-! 78r86a10.sl -/
section
/-! EVERY CALL OF THE CLASS ENDS, under a law (laid by wip/am/p2l.py). -/
set_option maxRecDepth 100000 in
/-- GlacierMail.throwsFor -/
def pl_s683 : ck_Sum := ((8, 1, 6), 249, [.inr (.inr (.inl 1)), .inl ((-2147483648), (-1), []), .inl ((-2147483648), 2147483647, []), .inl ((-2147483648), 2147483647, []), .inl ((-2147483648), 2147483647, [])], ([], [], []), ([], []), [(.inl 3, 249, ([], [], []))])
set_option maxRecDepth 100000 in
theorem pl_s683_s {X : Int → Int} {LX : Nat} : ck_Ok p2_OL X LX 167 pl_s683 := ck_ok_s (O := p2_OL) (X := X) (LX := LX) (E := [(132, [pl_s153])]) (mi := 167) (cuts := []) (f := 76) (S := pl_s683) (lx := none) (XF := []) ⟨pl_nmu, ck_E1 (ck_S1 pl_s153_s ck_S0) ck_E0⟩ ck_X0 ck_l0 (by decide +kernel)
set_option maxRecDepth 100000 in
/-- GlacierMail.throwsFor -/
def pl_s684 : ck_Sum := ((8, 1, 6), 249, [.inr (.inr (.inl 1)), .inl (6, 2147483647, []), .inl ((-2147483648), 2147483647, []), .inl ((-2147483648), 2147483647, []), .inl ((-2147483648), 2147483647, [])], ([], [], []), ([], []), [(.inl 3, 249, ([], [], []))])
set_option maxRecDepth 100000 in
theorem pl_s684_s {X : Int → Int} {LX : Nat} : ck_Ok p2_OL X LX 167 pl_s684 := ck_ok_s (O := p2_OL) (X := X) (LX := LX) (E := [(132, [pl_s156])]) (mi := 167) (cuts := []) (f := 76) (S := pl_s684) (lx := none) (XF := []) ⟨pl_nmu, ck_E1 (ck_S1 pl_s156_s ck_S0) ck_E0⟩ ck_X0 ck_l0 (by decide +kernel)
set_option maxRecDepth 100000 in
/-- GlacierMail.throwsFor -/
def pl_s685 : ck_Sum := ((8, 2, 12), 249, [.inr (.inr (.inl 1)), .inl (0, 5, []), .inl ((-2147483648), (-1), []), .inl ((-2147483648), 2147483647, []), .inl ((-2147483648), 2147483647, [])], ([], [], []), ([], []), [(.inl 3, 249, ([], [], [])), (.inl 0, 249, ([], [], []))])
set_option maxRecDepth 100000 in
theorem pl_s685_s {X : Int → Int} {LX : Nat} : ck_Ok p2_OL X LX 167 pl_s685 := ck_ok_s (O := p2_OL) (X := X) (LX := LX) (E := [(132, [pl_s159]), (129, [pl_s145])]) (mi := 167) (cuts := []) (f := 82) (S := pl_s685) (lx := none) (XF := []) ⟨pl_nmu, ck_E1 (ck_S1 pl_s159_s ck_S0) (ck_E1 (ck_S1 pl_s145_s ck_S0) ck_E0)⟩ ck_X0 ck_l0 (by decide +kernel)
set_option maxRecDepth 100000 in
/-- GlacierMail.throwsFor -/
def pl_s686 : ck_Sum := ((8, 2, 12), 249, [.inr (.inr (.inl 1)), .inl (0, 5, []), .inl (300, 2147483647, []), .inl ((-2147483648), 2147483647, []), .inl ((-2147483648), 2147483647, [])], ([], [], []), ([], []), [(.inl 3, 249, ([], [], [])), (.inl 0, 249, ([], [], []))])
set_option maxRecDepth 100000 in
theorem pl_s686_s {X : Int → Int} {LX : Nat} : ck_Ok p2_OL X LX 167 pl_s686 := ck_ok_s (O := p2_OL) (X := X) (LX := LX) (E := [(132, [pl_s159]), (129, [pl_s147])]) (mi := 167) (cuts := []) (f := 82) (S := pl_s686) (lx := none) (XF := []) ⟨pl_nmu, ck_E1 (ck_S1 pl_s159_s ck_S0) (ck_E1 (ck_S1 pl_s147_s ck_S0) ck_E0)⟩ ck_X0 ck_l0 (by decide +kernel)
set_option maxRecDepth 100000 in
/-- GlacierMail.throwsFor -/
def pl_s687 : ck_Sum := ((8, 2, 12), 249, [.inr (.inr (.inl 1)), .inl (0, 5, []), .inl (0, 299, []), .inl ((-2147483648), (-1), []), .inl ((-2147483648), 2147483647, [])], ([], [], []), ([], []), [(.inl 3, 249, ([], [], [])), (.inl 0, 249, ([], [], []))])
set_option maxRecDepth 100000 in
theorem pl_s687_s {X : Int → Int} {LX : Nat} : ck_Ok p2_OL X LX 167 pl_s687 := ck_ok_s (O := p2_OL) (X := X) (LX := LX) (E := [(132, [pl_s159]), (129, [pl_s149, pl_s145])]) (mi := 167) (cuts := []) (f := 88) (S := pl_s687) (lx := none) (XF := []) ⟨pl_nmu, ck_E1 (ck_S1 pl_s159_s ck_S0) (ck_E1 (ck_S1 pl_s149_s (ck_S1 pl_s145_s ck_S0)) ck_E0)⟩ ck_X0 ck_l0 (by decide +kernel)
set_option maxRecDepth 100000 in
/-- GlacierMail.throwsFor -/
def pl_s688 : ck_Sum := ((8, 2, 12), 249, [.inr (.inr (.inl 1)), .inl (0, 5, []), .inl (0, 299, []), .inl (300, 2147483647, []), .inl ((-2147483648), 2147483647, [])], ([], [], []), ([], []), [(.inl 3, 249, ([], [], [])), (.inl 0, 249, ([], [], []))])
set_option maxRecDepth 100000 in
theorem pl_s688_s {X : Int → Int} {LX : Nat} : ck_Ok p2_OL X LX 167 pl_s688 := ck_ok_s (O := p2_OL) (X := X) (LX := LX) (E := [(132, [pl_s159]), (129, [pl_s149, pl_s147])]) (mi := 167) (cuts := []) (f := 88) (S := pl_s688) (lx := none) (XF := []) ⟨pl_nmu, ck_E1 (ck_S1 pl_s159_s ck_S0) (ck_E1 (ck_S1 pl_s149_s (ck_S1 pl_s147_s ck_S0)) ck_E0)⟩ ck_X0 ck_l0 (by decide +kernel)
set_option maxRecDepth 100000 in
/-- GlacierMail.throwsFor -/
def pl_s689 : ck_Sum := ((8, 2, 12), 249, [.inr (.inr (.inl 1)), .inl (0, 5, []), .inl (0, 299, []), .inl (0, 299, []), .inl ((-2147483648), (-1), [])], ([], [], [(3, 6, 6, (0, 299, [(10, 0)]))]), ([], []), [(.inl 3, 249, ([], [], [])), (.inl 4, 249, ([], [], [])), (.inl 0, 249, ([], [], [(3, 6, 6, (1, 299, [(10, 0)]))]))])
set_option maxRecDepth 100000 in
theorem pl_s689_s {X : Int → Int} {LX : Nat} : ck_Ok p2_OL X LX 167 pl_s689 := ck_ok_s (O := p2_OL) (X := X) (LX := LX) (E := [(132, [pl_s159]), (129, [pl_s149])]) (mi := 167) (cuts := []) (f := 104) (S := pl_s689) (lx := none) (XF := []) ⟨pl_nmu, ck_E1 (ck_S1 pl_s159_s ck_S0) (ck_E1 (ck_S1 pl_s149_s ck_S0) ck_E0)⟩ ck_X0 ck_l0 (by decide +kernel)
set_option maxRecDepth 100000 in
/-- GlacierMail.throwsFor -/
def pl_s690 : ck_Sum := ((8, 2, 12), 249, [.inr (.inr (.inl 1)), .inl (0, 5, []), .inl (0, 299, []), .inl (0, 299, []), .inl (10, 2147483647, [])], ([], [], [(3, 6, 6, (0, 299, [(10, 0)]))]), ([], []), [(.inl 3, 249, ([], [], [])), (.inl 4, 249, ([], [], [])), (.inl 0, 249, ([], [], [(3, 6, 6, (1, 299, [(10, 0)]))]))])
set_option maxRecDepth 100000 in
theorem pl_s690_s {X : Int → Int} {LX : Nat} : ck_Ok p2_OL X LX 167 pl_s690 := ck_ok_s (O := p2_OL) (X := X) (LX := LX) (E := [(132, [pl_s159]), (129, [pl_s149])]) (mi := 167) (cuts := []) (f := 110) (S := pl_s690) (lx := none) (XF := []) ⟨pl_nmu, ck_E1 (ck_S1 pl_s159_s ck_S0) (ck_E1 (ck_S1 pl_s149_s ck_S0) ck_E0)⟩ ck_X0 ck_l0 (by decide +kernel)
set_option maxRecDepth 100000 in
/-- GlacierMail$Way.start -/
def pl_s691 : ck_Sum := ((0, 0, 0), 249, [.inr (.inr (.inl 206)), .inl ((-2147483648), 2147483647, []), .inl ((-2147483648), 2147483647, []), .inl (0, 299, []), .inl (0, 1, [])], ([], [], []), ([(206, 2, 8)], []), [(.inr none, 249, ([], [], zl183))])
set_option maxRecDepth 100000 in
theorem pl_s691_s {X : Int → Int} {LX : Nat} : ck_Ok p2_OL X LX 29 pl_s691 := ck_ok_s (O := p2_OL) (X := X) (LX := LX) (E := []) (mi := 29) (cuts := []) (f := 114) (S := pl_s691) (lx := none) (XF := []) ⟨pl_nmu, ck_E0⟩ ck_X0 ck_l0 (by decide +kernel)
set_option maxRecDepth 100000 in
/-- GlacierMail.throwsFor -/
def pl_s692 : ck_Sum := ((8, 2, 12), 249, [.inr (.inr (.inl 1)), .inl (0, 5, []), .inl (0, 299, []), .inl (0, 299, []), .inl (0, 9, [])], ([], [(3, 8, 246)], [(3, 6, 6, (0, 299, [(10, 0)]))]), (zl229, []), [(.inl 3, 249, ([], [], [])), (.inl 4, 249, ([], [], [])), (.inl 0, 249, ([], [], [(3, 6, 6, (1, 299, [(10, 0)]))])), (.inr (some (.inl ((-2147483648), 2147483647, []))), 249, ([], [], []))])
set_option maxRecDepth 100000 in
theorem pl_s692_e : ck_ok p2_OL none [] [(132, [pl_s159]), (129, [pl_s149]), (29, [pl_s691]), (30, [pl_s214])] 167 [(71, [some (.inr (.inr (.inl 1))), some (.inl (0, 5, [])), some (.inl (0, 299, [])), some (.inl (0, 299, [])), some (.inl (0, 2, [])), some (.inl ((-2147483648), 2147483647, [])), some (.inl ((-1), 167, [])), some (.inl ((-1), 167, [])), some (.inl (0, 167, []))], ([], [(3, 8, 246)], [(3, 6, 6, (0, 299, [(10, 0)]))]), 100, .inl 8, true)] 210 pl_s692 = true := by decide +kernel
theorem pl_s692_s {X : Int → Int} {LX : Nat} : ck_Ok p2_OL X LX 167 pl_s692 := ck_ok_s ⟨pl_nmu, ck_E1 (ck_S1 pl_s159_s ck_S0) (ck_E1 (ck_S1 pl_s149_s ck_S0) (ck_E1 (ck_S1 pl_s691_s ck_S0) (ck_E1 (ck_S1 pl_s214_s ck_S0) ck_E0)))⟩ ck_X0 ck_l0 pl_s692_e
set_option maxRecDepth 100000 in
/-- GlacierMail.latest -/
def pl_s693 : ck_Sum := ((8, 1, 6), 249, [.inr (.inr (.inl 1)), .inl ((-2147483648), (-1), []), .inl ((-2147483648), 2147483647, [])], ([], [], []), ([], []), [(.inl 3, 249, ([], [], []))])
set_option maxRecDepth 100000 in
theorem pl_s693_s {X : Int → Int} {LX : Nat} : ck_Ok p2_OL X LX 169 pl_s693 := ck_ok_s (O := p2_OL) (X := X) (LX := LX) (E := [(139, [pl_s191])]) (mi := 169) (cuts := []) (f := 76) (S := pl_s693) (lx := none) (XF := []) ⟨pl_nmu, ck_E1 (ck_S1 pl_s191_s ck_S0) ck_E0⟩ ck_X0 ck_l0 (by decide +kernel)
set_option maxRecDepth 100000 in
/-- GlacierMail.latest -/
def pl_s694 : ck_Sum := ((8, 1, 6), 249, [.inr (.inr (.inl 1)), .inl (8, 2147483647, []), .inl ((-2147483648), 2147483647, [])], ([], [], []), ([], []), [(.inl 3, 249, ([], [], []))])
set_option maxRecDepth 100000 in
theorem pl_s694_s {X : Int → Int} {LX : Nat} : ck_Ok p2_OL X LX 169 pl_s694 := ck_ok_s (O := p2_OL) (X := X) (LX := LX) (E := [(139, [pl_s194])]) (mi := 169) (cuts := []) (f := 76) (S := pl_s694) (lx := none) (XF := []) ⟨pl_nmu, ck_E1 (ck_S1 pl_s194_s ck_S0) ck_E0⟩ ck_X0 ck_l0 (by decide +kernel)
set_option maxRecDepth 100000 in
/-- GlacierMail.latest -/
def pl_s695 : ck_Sum := ((8, 2, 12), 249, [.inr (.inr (.inl 1)), .inl (0, 7, []), .inl ((-2147483648), (-1), [])], ([], [], []), ([], []), [(.inl 3, 249, ([], [], [])), (.inl 0, 249, ([], [], []))])
set_option maxRecDepth 100000 in
theorem pl_s695_s {X : Int → Int} {LX : Nat} : ck_Ok p2_OL X LX 169 pl_s695 := ck_ok_s (O := p2_OL) (X := X) (LX := LX) (E := [(139, [pl_s197]), (129, [pl_s145])]) (mi := 169) (cuts := []) (f := 82) (S := pl_s695) (lx := none) (XF := []) ⟨pl_nmu, ck_E1 (ck_S1 pl_s197_s ck_S0) (ck_E1 (ck_S1 pl_s145_s ck_S0) ck_E0)⟩ ck_X0 ck_l0 (by decide +kernel)
set_option maxRecDepth 100000 in
/-- GlacierMail.latest -/
def pl_s696 : ck_Sum := ((8, 2, 12), 249, [.inr (.inr (.inl 1)), .inl (0, 7, []), .inl (300, 2147483647, [])], ([], [], []), ([], []), [(.inl 3, 249, ([], [], [])), (.inl 0, 249, ([], [], []))])
set_option maxRecDepth 100000 in
theorem pl_s696_s {X : Int → Int} {LX : Nat} : ck_Ok p2_OL X LX 169 pl_s696 := ck_ok_s (O := p2_OL) (X := X) (LX := LX) (E := [(139, [pl_s197]), (129, [pl_s147])]) (mi := 169) (cuts := []) (f := 82) (S := pl_s696) (lx := none) (XF := []) ⟨pl_nmu, ck_E1 (ck_S1 pl_s197_s ck_S0) (ck_E1 (ck_S1 pl_s147_s ck_S0) ck_E0)⟩ ck_X0 ck_l0 (by decide +kernel)
set_option maxRecDepth 100000 in
/-- GlacierMail$Way.startHut -/
def pl_s697 : ck_Sum := ((1, 0, 0), 249, [.inr (.inr (.inl 206)), .inl (0, 7, []), .inl (0, 299, [])], ([], [], []), ([(206, 2, 8)], []), [(.inr none, 249, ([], [], zl183))])
set_option maxRecDepth 100000 in
theorem pl_s697_s {X : Int → Int} {LX : Nat} : ck_Ok p2_OL X LX 170 pl_s697 := ck_ok_s (O := p2_OL) (X := X) (LX := LX) (E := [(10, [pl_s224]), (29, [pl_s691])]) (mi := 170) (cuts := []) (f := 104) (S := pl_s697) (lx := none) (XF := []) ⟨pl_nmu, ck_E1 (ck_S1 pl_s224_s ck_S0) (ck_E1 (ck_S1 pl_s691_s ck_S0) ck_E0)⟩ ck_X0 ck_l0 (by decide +kernel)
set_option maxRecDepth 100000 in
/-- GlacierMail.latest -/
def pl_s698 : ck_Sum := ((8, 1, 6), 249, [.inr (.inr (.inl 1)), .inl (0, 7, []), .inl (0, 299, [])], ([], [(3, 8, 246)], [(3, 6, 6, (0, 299, [(10, 0)]))]), (zl229, []), [(.inl 3, 249, ([], [], [])), (.inr (some (.inl (ck_one (-1)))), 249, ([], [], [])), (.inr (some (.inl (0, 299, []))), 249, ([], [], [(206, 4, 4, ck_one (-1))]))])
set_option maxRecDepth 100000 in
theorem pl_s698_e : ck_ok p2_OL none [] [(139, [pl_s197]), (129, [pl_s149]), (170, [pl_s697]), (30, [pl_s214])] 169 [(12, [some (.inr (.inr (.inl 1))), some (.inl (0, 7, [])), some (.inl (0, 299, [])), some (.inl ((-1), 299, []))], ([], [(3, 8, 246)], [(3, 6, 6, (0, 299, [(10, 0)]))]), 100, .inl 3, false)] 166 pl_s698 = true := by decide +kernel
theorem pl_s698_s {X : Int → Int} {LX : Nat} : ck_Ok p2_OL X LX 169 pl_s698 := ck_ok_s ⟨pl_nmu, ck_E1 (ck_S1 pl_s197_s ck_S0) (ck_E1 (ck_S1 pl_s149_s ck_S0) (ck_E1 (ck_S1 pl_s697_s ck_S0) (ck_E1 (ck_S1 pl_s214_s ck_S0) ck_E0)))⟩ ck_X0 ck_l0 pl_s698_e
set_option maxRecDepth 100000 in
/-- GlacierMail.hut -/
def pl_s699 : ck_Sum := ((8, 1, 6), 249, [.inr (.inr (.inl 1)), .inl ((-2147483648), (-1), []), .inl ((-2147483648), 2147483647, [])], ([], [], []), ([], []), [(.inl 3, 249, ([], [], []))])
set_option maxRecDepth 100000 in
theorem pl_s699_s {X : Int → Int} {LX : Nat} : ck_Ok p2_OL X LX 172 pl_s699 := ck_ok_s (O := p2_OL) (X := X) (LX := LX) (E := [(132, [pl_s153])]) (mi := 172) (cuts := []) (f := 76) (S := pl_s699) (lx := none) (XF := []) ⟨pl_nmu, ck_E1 (ck_S1 pl_s153_s ck_S0) ck_E0⟩ ck_X0 ck_l0 (by decide +kernel)
set_option maxRecDepth 100000 in
/-- GlacierMail.hut -/
def pl_s700 : ck_Sum := ((8, 1, 6), 249, [.inr (.inr (.inl 1)), .inl (6, 2147483647, []), .inl ((-2147483648), 2147483647, [])], ([], [], []), ([], []), [(.inl 3, 249, ([], [], []))])
set_option maxRecDepth 100000 in
theorem pl_s700_s {X : Int → Int} {LX : Nat} : ck_Ok p2_OL X LX 172 pl_s700 := ck_ok_s (O := p2_OL) (X := X) (LX := LX) (E := [(132, [pl_s156])]) (mi := 172) (cuts := []) (f := 76) (S := pl_s700) (lx := none) (XF := []) ⟨pl_nmu, ck_E1 (ck_S1 pl_s156_s ck_S0) ck_E0⟩ ck_X0 ck_l0 (by decide +kernel)
set_option maxRecDepth 100000 in
/-- GlacierMail.hut -/
def pl_s701 : ck_Sum := ((8, 2, 12), 249, [.inr (.inr (.inl 1)), .inl (0, 5, []), .inl ((-2147483648), (-1), [])], ([], [], []), ([], []), [(.inl 3, 249, ([], [], [])), (.inl 0, 249, ([], [], []))])
set_option maxRecDepth 100000 in
theorem pl_s701_s {X : Int → Int} {LX : Nat} : ck_Ok p2_OL X LX 172 pl_s701 := ck_ok_s (O := p2_OL) (X := X) (LX := LX) (E := [(132, [pl_s159])]) (mi := 172) (cuts := []) (f := 84) (S := pl_s701) (lx := none) (XF := []) ⟨pl_nmu, ck_E1 (ck_S1 pl_s159_s ck_S0) ck_E0⟩ ck_X0 ck_l0 (by decide +kernel)
set_option maxRecDepth 100000 in
/-- GlacierMail.hut -/
def pl_s702 : ck_Sum := ((8, 2, 12), 249, [.inr (.inr (.inl 1)), .inl (0, 5, []), .inl (300, 2147483647, [])], ([], [], []), ([], []), [(.inl 3, 249, ([], [], [])), (.inl 0, 249, ([], [], []))])
set_option maxRecDepth 100000 in
theorem pl_s702_s {X : Int → Int} {LX : Nat} : ck_Ok p2_OL X LX 172 pl_s702 := ck_ok_s (O := p2_OL) (X := X) (LX := LX) (E := [(132, [pl_s159])]) (mi := 172) (cuts := []) (f := 90) (S := pl_s702) (lx := none) (XF := []) ⟨pl_nmu, ck_E1 (ck_S1 pl_s159_s ck_S0) ck_E0⟩ ck_X0 ck_l0 (by decide +kernel)
set_option maxRecDepth 100000 in
/-- GlacierMail.hut -/
def pl_s703 : ck_Sum := ((8, 2, 12), 249, [.inr (.inr (.inl 1)), .inl (0, 5, []), .inl (0, 299, [])], ([], [(3, 8, 246)], [(3, 6, 6, (0, 299, [(10, 0)]))]), (zl229, []), [(.inl 3, 249, ([], [], [])), (.inl 0, 249, ([], [], [])), (.inr (some (.inl (ck_one (-1)))), 249, ([], [], [])), (.inr (some (.inl (0, 98, []))), 249, ([], [], [(206, 4, 4, ck_one (-1))]))])
set_option maxRecDepth 100000 in
theorem pl_s703_e : ck_ok p2_OL none [] [(132, [pl_s159]), (29, [pl_s691]), (30, [pl_s214])] 172 [(47, [some (.inr (.inr (.inl 1))), some (.inl (0, 5, [])), some (.inl (1, 299, [])), some (.inl (1, 299, [])), some (.inl (0, 167, []))], ([], [(3, 8, 246)], [(3, 6, 6, (0, 299, [(10, 0)]))]), 100, .inl 4, true)] 182 pl_s703 = true := by decide +kernel
theorem pl_s703_s {X : Int → Int} {LX : Nat} : ck_Ok p2_OL X LX 172 pl_s703 := ck_ok_s ⟨pl_nmu, ck_E1 (ck_S1 pl_s159_s ck_S0) (ck_E1 (ck_S1 pl_s691_s ck_S0) (ck_E1 (ck_S1 pl_s214_s ck_S0) ck_E0))⟩ ck_X0 ck_l0 pl_s703_e
set_option maxRecDepth 100000 in
/-- GlacierMail.without -/
def pl_s704 : ck_Sum := ((8, 1, 6), 249, [.inr (.inr (.inl 1)), .inl ((-2147483648), (-1), []), .inl ((-2147483648), 2147483647, [])], ([], [], []), ([], []), [(.inl 3, 249, ([], [], []))])
set_option maxRecDepth 100000 in
theorem pl_s704_s {X : Int → Int} {LX : Nat} : ck_Ok p2_OL X LX 174 pl_s704 := ck_ok_s (O := p2_OL) (X := X) (LX := LX) (E := [(143, [pl_s227])]) (mi := 174) (cuts := []) (f := 76) (S := pl_s704) (lx := none) (XF := []) ⟨pl_nmu, ck_E1 (ck_S1 pl_s227_s ck_S0) ck_E0⟩ ck_X0 ck_l0 (by decide +kernel)
set_option maxRecDepth 100000 in
/-- GlacierMail.without -/
def pl_s705 : ck_Sum := ((8, 1, 6), 249, [.inr (.inr (.inl 1)), .inl (24, 2147483647, []), .inl ((-2147483648), 2147483647, [])], ([], [], []), ([], []), [(.inl 3, 249, ([], [], []))])
set_option maxRecDepth 100000 in
theorem pl_s705_s {X : Int → Int} {LX : Nat} : ck_Ok p2_OL X LX 174 pl_s705 := ck_ok_s (O := p2_OL) (X := X) (LX := LX) (E := [(143, [pl_s230])]) (mi := 174) (cuts := []) (f := 76) (S := pl_s705) (lx := none) (XF := []) ⟨pl_nmu, ck_E1 (ck_S1 pl_s230_s ck_S0) ck_E0⟩ ck_X0 ck_l0 (by decide +kernel)
set_option maxRecDepth 100000 in
/-- GlacierMail.without -/
def pl_s706 : ck_Sum := ((8, 2, 12), 249, [.inr (.inr (.inl 1)), .inl (0, 23, []), .inl ((-2147483648), (-1), [])], ([], [], []), ([], []), [(.inl 3, 249, ([], [], []))])
set_option maxRecDepth 100000 in
theorem pl_s706_s {X : Int → Int} {LX : Nat} : ck_Ok p2_OL X LX 174 pl_s706 := ck_ok_s (O := p2_OL) (X := X) (LX := LX) (E := [(143, [pl_s233]), (9, [pl_s137]), (133, [pl_s190])]) (mi := 174) (cuts := []) (f := 90) (S := pl_s706) (lx := none) (XF := []) ⟨pl_nmu, ck_E1 (ck_S1 pl_s233_s ck_S0) (ck_E1 (ck_S1 pl_s137_s ck_S0) (ck_E1 (ck_S1 pl_s190_s ck_S0) ck_E0))⟩ ck_X0 ck_l0 (by decide +kernel)
set_option maxRecDepth 100000 in
/-- GlacierMail.without -/
def pl_s707 : ck_Sum := ((8, 2, 12), 249, [.inr (.inr (.inl 1)), .inl (0, 23, []), .inl (8, 2147483647, [])], ([], [], []), ([], []), [(.inl 3, 249, ([], [], []))])
set_option maxRecDepth 100000 in
theorem pl_s707_s {X : Int → Int} {LX : Nat} : ck_Ok p2_OL X LX 174 pl_s707 := ck_ok_s (O := p2_OL) (X := X) (LX := LX) (E := [(143, [pl_s233]), (9, [pl_s137]), (133, [pl_s193])]) (mi := 174) (cuts := []) (f := 90) (S := pl_s707) (lx := none) (XF := []) ⟨pl_nmu, ck_E1 (ck_S1 pl_s233_s ck_S0) (ck_E1 (ck_S1 pl_s137_s ck_S0) (ck_E1 (ck_S1 pl_s193_s ck_S0) ck_E0))⟩ ck_X0 ck_l0 (by decide +kernel)
set_option maxRecDepth 100000 in
/-- GlacierMail$Way.leaveOut -/
def pl_s708 : ck_Sum := ((0, 0, 0), 249, [.inr (.inr (.inl 206)), .inl (0, 7, [])], ([], [], []), ([(206, 4, 4)], []), [(.inr none, 249, ([], [], [(206, 4, 4, (0, 7, []))]))])
set_option maxRecDepth 100000 in
theorem pl_s708_s {X : Int → Int} {LX : Nat} : ck_Ok p2_OL X LX 175 pl_s708 := ck_ok_s (O := p2_OL) (X := X) (LX := LX) (E := []) (mi := 175) (cuts := []) (f := 78) (S := pl_s708) (lx := none) (XF := []) ⟨pl_nmu, ck_E0⟩ ck_X0 ck_l0 (by decide +kernel)
set_option maxRecDepth 100000 in
/-- GlacierMail.without -/
def pl_s709 : ck_Sum := ((8, 2, 12), 249, [.inr (.inr (.inl 1)), .inl (0, 23, []), .inl (0, 7, [])], ([], [(3, 8, 246)], []), (zl229, []), [(.inl 3, 249, ([], [], [])), (.inr (some (.inl ((-2147483648), 299, []))), 249, ([], [], zl185))])
set_option maxRecDepth 100000 in
theorem pl_s709_s {X : Int → Int} {LX : Nat} : ck_Ok p2_OL X LX 174 pl_s709 := ck_ok_s (O := p2_OL) (X := X) (LX := LX) (E := [(143, [pl_s233]), (9, [pl_s137]), (133, [pl_s196]), (27, [pl_s208]), (175, [pl_s708]), (30, [pl_s214])]) (mi := 174) (cuts := []) (f := 116) (S := pl_s709) (lx := none) (XF := []) ⟨pl_nmu, ck_E1 (ck_S1 pl_s233_s ck_S0) (ck_E1 (ck_S1 pl_s137_s ck_S0) (ck_E1 (ck_S1 pl_s196_s ck_S0) (ck_E1 (ck_S1 pl_s208_s ck_S0) (ck_E1 (ck_S1 pl_s708_s ck_S0) (ck_E1 (ck_S1 pl_s214_s ck_S0) ck_E0)))))⟩ ck_X0 ck_l0 (by decide +kernel)
set_option maxRecDepth 100000 in
/-- GlacierMail.moved -/
def pl_s710 : ck_Sum := ((8, 1, 6), 249, [.inr (.inr (.inl 1)), .inl ((-2147483648), (-1), [])], ([], [], []), ([], []), [(.inl 3, 249, ([], [], []))])
set_option maxRecDepth 100000 in
theorem pl_s710_s {X : Int → Int} {LX : Nat} : ck_Ok p2_OL X LX 177 pl_s710 := ck_ok_s (O := p2_OL) (X := X) (LX := LX) (E := [(143, [pl_s227])]) (mi := 177) (cuts := []) (f := 76) (S := pl_s710) (lx := none) (XF := []) ⟨pl_nmu, ck_E1 (ck_S1 pl_s227_s ck_S0) ck_E0⟩ ck_X0 ck_l0 (by decide +kernel)
set_option maxRecDepth 100000 in
/-- GlacierMail.moved -/
def pl_s711 : ck_Sum := ((8, 1, 6), 249, [.inr (.inr (.inl 1)), .inl (24, 2147483647, [])], ([], [], []), ([], []), [(.inl 3, 249, ([], [], []))])
set_option maxRecDepth 100000 in
theorem pl_s711_s {X : Int → Int} {LX : Nat} : ck_Ok p2_OL X LX 177 pl_s711 := ck_ok_s (O := p2_OL) (X := X) (LX := LX) (E := [(143, [pl_s230])]) (mi := 177) (cuts := []) (f := 76) (S := pl_s711) (lx := none) (XF := []) ⟨pl_nmu, ck_E1 (ck_S1 pl_s230_s ck_S0) ck_E0⟩ ck_X0 ck_l0 (by decide +kernel)
set_option maxRecDepth 100000 in
/-- GlacierMail.moved -/
def pl_s712 : ck_Sum := ((8, 1, 6), 249, [.inr (.inr (.inl 1)), .inl (0, 23, [])], ([], [(3, 8, 246)], []), (zl229, []), [(.inl 3, 249, ([], [], [])), (.inr (some (.inl ((-2147483648), (-1), []))), 249, ([], [], zl187)), (.inr (some (.inl (0, 2147483647, []))), 249, ([], [], zl188))])
set_option maxRecDepth 100000 in
theorem pl_s712_s {X : Int → Int} {LX : Nat} : ck_Ok p2_OL X LX 177 pl_s712 := ck_ok_s (O := p2_OL) (X := X) (LX := LX) (E := [(143, [pl_s233]), (27, [pl_s208]), (30, [pl_s214])]) (mi := 177) (cuts := []) (f := 102) (S := pl_s712) (lx := none) (XF := []) ⟨pl_nmu, ck_E1 (ck_S1 pl_s233_s ck_S0) (ck_E1 (ck_S1 pl_s208_s ck_S0) (ck_E1 (ck_S1 pl_s214_s ck_S0) ck_E0))⟩ ck_X0 ck_l0 (by decide +kernel)
set_option maxRecDepth 100000 in
/-- GlacierMail.lost -/
def pl_s713 : ck_Sum := ((6, 0, 0), 249, [.inr (.inr (.inl 1))], ([], [(3, 8, 246)], []), (zl228, []), [(.inr (some (.inl ((-2147483648), 2147483647, []))), 249, ([], [], [(1, 15, 15, ck_one 1)]))])
set_option maxRecDepth 100000 in
theorem pl_s713_e : ck_ok p2_OL none [] [(24, [pl_s217]), (9, [pl_s201]), (10, [pl_s218])] 23 [(8, [some (.inr (.inr (.inl 1))), some (.inl ((-2147483648), 2147483647, [])), some (.inl (0, 24, []))], ([], [(3, 8, 246)], [(1, 15, 15, ck_one 1)]), 100, .inl 2, true)] 174 pl_s713 = true := by decide +kernel
theorem pl_s713_s {X : Int → Int} {LX : Nat} : ck_Ok p2_OL X LX 23 pl_s713 := ck_ok_s ⟨pl_nmu, ck_E1 (ck_S1 pl_s217_s ck_S0) (ck_E1 (ck_S1 pl_s201_s ck_S0) (ck_E1 (ck_S1 pl_s218_s ck_S0) ck_E0))⟩ ck_X0 ck_l0 pl_s713_e
set_option maxRecDepth 100000 in
/-- GlacierMail.outIn -/
def pl_s714 : ck_Sum := ((2, 0, 0), 249, [.inr (.inr (.inl 1)), .inl ((-2147483648), 299, []), .inl (ck_one 0)], ([], [], []), ([], []), [(.inr (some (.inl ((-2147483648), 2147483647, []))), 249, ([], [], []))])
set_option maxRecDepth 100000 in
theorem pl_s714_e : ck_ok p2_OL none [] [(9, [pl_s201]), (10, [pl_s218]), (28, [pl_s205])] 47 [(5, [some (.inr (.inr (.inl 1))), some (.inl ((-2147483648), 299, [])), some (.inl (ck_one 0)), some (.inl ((-2147483648), 2147483647, [])), some (.inl (0, 24, []))], ([], [], []), 100, .inl 4, true)] 182 pl_s714 = true := by decide +kernel
theorem pl_s714_s {X : Int → Int} {LX : Nat} : ck_Ok p2_OL X LX 47 pl_s714 := ck_ok_s ⟨pl_nmu, ck_E1 (ck_S1 pl_s201_s ck_S0) (ck_E1 (ck_S1 pl_s218_s ck_S0) (ck_E1 (ck_S1 pl_s205_s ck_S0) ck_E0))⟩ ck_X0 ck_l0 pl_s714_e
set_option maxRecDepth 100000 in
/-- GlacierMail.market -/
def pl_s715 : ck_Sum := ((6, 0, 0), 249, [.inr (.inr (.inl 1)), .inl (0, 1, [])], ([], [(3, 8, 246)], []), (zl228, []), [(.inr (some (.inl ((-2147483648), 299, []))), 249, ([], [], [(1, 15, 15, ck_one 1)])), (.inr (some (.inl (0, 2147483647, []))), 249, ([], [], [(1, 15, 15, ck_one 1)]))])
set_option maxRecDepth 100000 in
theorem pl_s715_e : ck_ok p2_OL none [] [(24, [pl_s217]), (9, [pl_s201]), (10, [pl_s218]), (47, [pl_s714])] 46 [(11, [some (.inr (.inr (.inl 1))), some (.inl (0, 1, [])), some (.inl ((-2147483648), 299, [])), some (.inl (0, 2147483647, [])), some (.inl (0, 24, [])), none, none], ([], [(3, 8, 246)], [(1, 15, 15, ck_one 1)]), 100, .inl 4, true)] 230 pl_s715 = true := by decide +kernel
theorem pl_s715_s {X : Int → Int} {LX : Nat} : ck_Ok p2_OL X LX 46 pl_s715 := ck_ok_s ⟨pl_nmu, ck_E1 (ck_S1 pl_s217_s ck_S0) (ck_E1 (ck_S1 pl_s201_s ck_S0) (ck_E1 (ck_S1 pl_s218_s ck_S0) (ck_E1 (ck_S1 pl_s714_s ck_S0) ck_E0)))⟩ ck_X0 ck_l0 pl_s715_e
set_option maxRecDepth 100000 in
/-- GlacierMail.passes -/
def pl_s716 : ck_Sum := ((8, 1, 6), 249, [.inr (.inr (.inl 1)), .inl ((-2147483648), (-1), [])], ([], [], []), ([], []), [(.inl 3, 249, ([], [], []))])
set_option maxRecDepth 100000 in
theorem pl_s716_s {X : Int → Int} {LX : Nat} : ck_Ok p2_OL X LX 179 pl_s716 := ck_ok_s (O := p2_OL) (X := X) (LX := LX) (E := [(143, [pl_s227])]) (mi := 179) (cuts := []) (f := 76) (S := pl_s716) (lx := none) (XF := []) ⟨pl_nmu, ck_E1 (ck_S1 pl_s227_s ck_S0) ck_E0⟩ ck_X0 ck_l0 (by decide +kernel)
set_option maxRecDepth 100000 in
/-- GlacierMail.passes -/
def pl_s717 : ck_Sum := ((8, 1, 6), 249, [.inr (.inr (.inl 1)), .inl (24, 2147483647, [])], ([], [], []), ([], []), [(.inl 3, 249, ([], [], []))])
set_option maxRecDepth 100000 in
theorem pl_s717_s {X : Int → Int} {LX : Nat} : ck_Ok p2_OL X LX 179 pl_s717 := ck_ok_s (O := p2_OL) (X := X) (LX := LX) (E := [(143, [pl_s230])]) (mi := 179) (cuts := []) (f := 76) (S := pl_s717) (lx := none) (XF := []) ⟨pl_nmu, ck_E1 (ck_S1 pl_s230_s ck_S0) ck_E0⟩ ck_X0 ck_l0 (by decide +kernel)
set_option maxRecDepth 100000 in
/-- GlacierMail.sameLane -/
def pl_s718 : ck_Sum := ((1, 0, 0), 249, [.inr (.inr (.inl 1)), .inl (0, 23, []), .inl (0, 23, [])], ([], [], []), ([], []), [(.inr (some (.inl (ck_one 0))), 249, ([], [], [])), (.inr (some (.inl (ck_one 1))), 249, ([], [], []))])
set_option maxRecDepth 100000 in
theorem pl_s718_s {X : Int → Int} {LX : Nat} : ck_Ok p2_OL X LX 180 pl_s718 := ck_ok_s (O := p2_OL) (X := X) (LX := LX) (E := [(10, [pl_s204])]) (mi := 180) (cuts := []) (f := 102) (S := pl_s718) (lx := none) (XF := []) ⟨pl_nmu, ck_E1 (ck_S1 pl_s204_s ck_S0) ck_E0⟩ ck_X0 ck_l0 (by decide +kernel)
set_option maxRecDepth 100000 in
/-- GlacierMail$Way.start -/
def pl_s719 : ck_Sum := ((0, 0, 0), 249, [.inr (.inr (.inl 207)), .inl ((-1), 299, []), .inl ((-1), 299, []), .inl ((-1), 299, []), .inl (ck_one 0)], ([], [], []), ([(207, 2, 8)], []), [(.inr none, 249, ([], [], zl190))])
set_option maxRecDepth 100000 in
theorem pl_s719_s {X : Int → Int} {LX : Nat} : ck_Ok p2_OL X LX 29 pl_s719 := ck_ok_s (O := p2_OL) (X := X) (LX := LX) (E := []) (mi := 29) (cuts := []) (f := 114) (S := pl_s719) (lx := none) (XF := []) ⟨pl_nmu, ck_E0⟩ ck_X0 ck_l0 (by decide +kernel)
set_option maxRecDepth 100000 in
/-- GlacierMail$Way.start -/
def pl_s720 : ck_Sum := ((0, 0, 0), 249, [.inr (.inr (.inl 207)), .inl ((-1), 299, []), .inl ((-1), 299, []), .inl ((-1), 299, []), .inl (ck_one 1)], ([], [], []), ([(207, 2, 8)], []), [(.inr none, 249, ([], [], zl191))])
set_option maxRecDepth 100000 in
theorem pl_s720_s {X : Int → Int} {LX : Nat} : ck_Ok p2_OL X LX 29 pl_s720 := ck_ok_s (O := p2_OL) (X := X) (LX := LX) (E := []) (mi := 29) (cuts := []) (f := 114) (S := pl_s720) (lx := none) (XF := []) ⟨pl_nmu, ck_E0⟩ ck_X0 ck_l0 (by decide +kernel)
set_option maxRecDepth 100000 in
/-- GlacierMail$Way.startLetter -/
def pl_s721 : ck_Sum := ((2, 0, 0), 249, [.inr (.inr (.inl 207)), .inl (0, 23, [])], ([], [], []), ([(207, 2, 8)], []), [(.inr none, 249, ([], [], zl192))])
set_option maxRecDepth 100000 in
theorem pl_s721_s {X : Int → Int} {LX : Nat} : ck_Ok p2_OL X LX 27 pl_s721 := ck_ok_s (O := p2_OL) (X := X) (LX := LX) (E := [(10, [pl_s204]), (28, [pl_s205]), (29, [pl_s719, pl_s720])]) (mi := 27) (cuts := []) (f := 116) (S := pl_s721) (lx := none) (XF := []) ⟨pl_nmu, ck_E1 (ck_S1 pl_s204_s ck_S0) (ck_E1 (ck_S1 pl_s205_s ck_S0) (ck_E1 (ck_S1 pl_s719_s (ck_S1 pl_s720_s ck_S0)) ck_E0))⟩ ck_X0 ck_l0 (by decide +kernel)
set_option maxRecDepth 100000 in
/-- GlacierMail$Way.isOut -/
def pl_s722 : ck_Sum := ((0, 0, 0), 249, [.inr (.inr (.inl 207))], ([], [], []), ([], []), [(.inr (some (.inl (ck_one 0))), 249, ([], [], [(207, 5, 5, ((-2147483648), 98, []))])), (.inr (some (.inl (ck_one 1))), 249, ([], [], [(207, 5, 5, (10, 2147483647, []))]))])
set_option maxRecDepth 100000 in
theorem pl_s722_s {X : Int → Int} {LX : Nat} : ck_Ok p2_OL X LX 31 pl_s722 := ck_ok_s (O := p2_OL) (X := X) (LX := LX) (E := []) (mi := 31) (cuts := []) (f := 88) (S := pl_s722) (lx := none) (XF := []) ⟨pl_nmu, ck_E0⟩ ck_X0 ck_l0 (by decide +kernel)
set_option maxRecDepth 100000 in
/-- GlacierMail$Way.deepAfter -/
def pl_s723 : ck_Sum := ((1, 0, 0), 249, [.inr (.inr (.inl 207))], ([], [], []), ([], []), [(.inr (some (.inl (0, 99, []))), 249, ([], [], []))])
set_option maxRecDepth 100000 in
theorem pl_s723_s {X : Int → Int} {LX : Nat} : ck_Ok p2_OL X LX 33 pl_s723 := ck_ok_s (O := p2_OL) (X := X) (LX := LX) (E := [(34, [pl_s179])]) (mi := 33) (cuts := []) (f := 110) (S := pl_s723) (lx := none) (XF := []) ⟨pl_nmu, ck_E1 (ck_S1 pl_s179_s ck_S0) ck_E0⟩ ck_X0 ck_l0 (by decide +kernel)
set_option maxRecDepth 100000 in
/-- GlacierMail$Way.takeFloods -/
def pl_s724 : ck_Sum := ((1, 0, 0), 249, [.inr (.inr (.inl 207))], ([], [], []), ([(207, 5, 5), (207, 8, 8)], []), [(.inr none, 249, ([], [], []))])
set_option maxRecDepth 100000 in
theorem pl_s724_e : ck_ok p2_OL none [] [(44, [pl_s211]), (9, [pl_s137]), (10, [pl_s138])] 43 [(22, [some (.inr (.inr (.inl 207))), some (.inr (.inr (.inl 6))), some (.inl ((-2147483648), 2147483647, [])), some (.inl (0, 9, [])), none], ([], [], []), 100, .inl 3, true)] 290 pl_s724 = true := by decide +kernel
theorem pl_s724_s {X : Int → Int} {LX : Nat} : ck_Ok p2_OL X LX 43 pl_s724 := ck_ok_s ⟨pl_nmu, ck_E1 (ck_S1 pl_s211_s ck_S0) (ck_E1 (ck_S1 pl_s137_s ck_S0) (ck_E1 (ck_S1 pl_s138_s ck_S0) ck_E0))⟩ ck_X0 ck_l0 pl_s724_e
set_option maxRecDepth 100000 in
/-- GlacierMail$Way.step -/
def pl_s725 : ck_Sum := ((3, 0, 0), 249, [.inr (.inr (.inl 207))], ([], [(3, 8, 246)], []), (zl247, []), [(.inr none, 249, ([], [], []))])
set_option maxRecDepth 100000 in
theorem pl_s725_s {X : Int → Int} {LX : Nat} : ck_Ok p2_OL X LX 32 pl_s725 := ck_ok_s (O := p2_OL) (X := X) (LX := LX) (E := [(31, [pl_s722]), (33, [pl_s723]), (35, [pl_s187]), (43, [pl_s724])]) (mi := 32) (cuts := []) (f := 134) (S := pl_s725) (lx := none) (XF := []) ⟨pl_nmu, ck_E1 (ck_S1 pl_s722_s ck_S0) (ck_E1 (ck_S1 pl_s723_s ck_S0) (ck_E1 (ck_S1 pl_s187_s ck_S0) (ck_E1 (ck_S1 pl_s724_s ck_S0) ck_E0)))⟩ ck_X0 ck_l0 (by decide +kernel)
set_option maxRecDepth 100000 in
/-- GlacierMail$Way.goOnTo -/
def pl_s726 : ck_Sum := ((4, 0, 0), 249, [.inr (.inr (.inl 207)), .inl (0, 299, [])], ([], [(3, 8, 246)], []), (zl247, []), [(.inr none, 249, ([], [], []))])
set_option maxRecDepth 100000 in
theorem pl_s726_e : ck_ok p2_OL none [] [(32, [pl_s725])] 148 [(5, [some (.inr (.inr (.inl 207))), some (.inl (0, 299, [])), some (.inl ((-2147483648), 2147483647, []))], ([], [(3, 8, 246)], []), 100, .inl 2, true)] 122 pl_s726 = true := by decide +kernel
theorem pl_s726_s {X : Int → Int} {LX : Nat} : ck_Ok p2_OL X LX 148 pl_s726 := ck_ok_s ⟨pl_nmu, ck_E1 (ck_S1 pl_s725_s ck_S0) ck_E0⟩ ck_X0 ck_l0 pl_s726_e
set_option maxRecDepth 100000 in
/-- GlacierMail.startBoth -/
def pl_s727 : ck_Sum := ((5, 0, 0), 249, [.inr (.inr (.inl 1)), .inl (0, 23, []), .inl (0, 23, []), .inl (ck_one 0)], ([], [(3, 8, 246)], []), (zl248, []), [(.inr (some (.inl (0, 299, []))), 249, ([], [], zl86))])
set_option maxRecDepth 100000 in
theorem pl_s727_s {X : Int → Int} {LX : Nat} : ck_Ok p2_OL X LX 182 pl_s727 := ck_ok_s (O := p2_OL) (X := X) (LX := LX) (E := [(27, [pl_s208, pl_s721]), (148, [pl_s243, pl_s726])]) (mi := 182) (cuts := []) (f := 126) (S := pl_s727) (lx := none) (XF := []) ⟨pl_nmu, ck_E1 (ck_S1 pl_s208_s (ck_S1 pl_s721_s ck_S0)) (ck_E1 (ck_S1 pl_s243_s (ck_S1 pl_s726_s ck_S0)) ck_E0)⟩ ck_X0 ck_l0 (by decide +kernel)
set_option maxRecDepth 100000 in
/-- GlacierMail.bothInIce -/
def pl_s728 : ck_Sum := ((1, 0, 0), 249, [.inr (.inr (.inl 1))], ([], [], []), ([], []), [(.inr (some (.inl (ck_one 1))), 249, ([], [], zl193)), (.inr (some (.inl (ck_one 0))), 249, ([], [], []))])
set_option maxRecDepth 100000 in
theorem pl_s728_s {X : Int → Int} {LX : Nat} : ck_Ok p2_OL X LX 183 pl_s728 := ck_ok_s (O := p2_OL) (X := X) (LX := LX) (E := [(31, [pl_s209, pl_s722])]) (mi := 183) (cuts := []) (f := 92) (S := pl_s728) (lx := none) (XF := []) ⟨pl_nmu, ck_E1 (ck_S1 pl_s209_s (ck_S1 pl_s722_s ck_S0)) ck_E0⟩ ck_X0 ck_l0 (by decide +kernel)
set_option maxRecDepth 100000 in
/-- GlacierMail.stepBoth -/
def pl_s729 : ck_Sum := ((4, 0, 0), 249, [.inr (.inr (.inl 1))], ([], [(3, 8, 246)], []), ([(200, 6, 6), (204, 0, 9), (205, 0, 14849), (206, 5, 8), (207, 5, 8)], []), [(.inr none, 249, ([], [], []))])
set_option maxRecDepth 100000 in
theorem pl_s729_s {X : Int → Int} {LX : Nat} : ck_Ok p2_OL X LX 184 pl_s729 := ck_ok_s (O := p2_OL) (X := X) (LX := LX) (E := [(32, [pl_s213, pl_s725])]) (mi := 184) (cuts := []) (f := 84) (S := pl_s729) (lx := none) (XF := []) ⟨pl_nmu, ck_E1 (ck_S1 pl_s213_s (ck_S1 pl_s725_s ck_S0)) ck_E0⟩ ck_X0 ck_l0 (by decide +kernel)
set_option maxRecDepth 100000 in
/-- GlacierMail.passesBy -/
def pl_s730 : ck_Sum := ((6, 0, 0), 249, [.inr (.inr (.inl 1)), .inl (0, 23, []), .inl (0, 23, [])], ([], [(3, 8, 246)], []), (zl248, []), [(.inr (some (.inl (ck_one 0))), 249, ([], [], zl86)), (.inr (some (.inl (ck_one 1))), 249, ([], [], zl194))])
set_option maxRecDepth 100000 in
theorem pl_s730_e : ck_ok p2_OL none [] [(182, [pl_s727]), (183, [pl_s728]), (184, [pl_s729])] 181 [(39, [some (.inr (.inr (.inl 1))), some (.inl (0, 23, [])), some (.inl (0, 23, [])), some (.inl (0, 299, [])), some (.inl (1, 300, []))], ([], [(3, 8, 246)], [(207, 5, 5, ((-2147483648), 98, [])), (206, 5, 5, ((-2147483648), 98, [])), (206, 4, 4, ck_one (-1)), (206, 2, 2, ((-1), 299, []))]), 100, .inl 4, true)] 174 pl_s730 = true := by decide +kernel
theorem pl_s730_s {X : Int → Int} {LX : Nat} : ck_Ok p2_OL X LX 181 pl_s730 := ck_ok_s ⟨pl_nmu, ck_E1 (ck_S1 pl_s727_s ck_S0) (ck_E1 (ck_S1 pl_s728_s ck_S0) (ck_E1 (ck_S1 pl_s729_s ck_S0) ck_E0))⟩ ck_X0 ck_l0 pl_s730_e
set_option maxRecDepth 100000 in
/-- GlacierMail.passes -/
def pl_s731 : ck_Sum := ((8, 1, 6), 249, [.inr (.inr (.inl 1)), .inl (0, 23, [])], ([], [(3, 8, 246)], []), (zl248, []), [(.inl 3, 249, ([], [], [])), (.inr (some (.inl ((-2147483648), 2147483647, []))), 249, ([], [], []))])
set_option maxRecDepth 100000 in
theorem pl_s731_e : ck_ok p2_OL none [] [(143, [pl_s233]), (9, [pl_s200]), (180, [pl_s718]), (181, [pl_s730])] 179 [(9, [some (.inr (.inr (.inl 1))), some (.inl (0, 23, [])), some (.inl ((-2147483648), 2147483647, [])), some (.inl (0, 24, []))], ([], [(3, 8, 246)], []), 100, .inl 3, true)] 182 pl_s731 = true := by decide +kernel
theorem pl_s731_s {X : Int → Int} {LX : Nat} : ck_Ok p2_OL X LX 179 pl_s731 := ck_ok_s ⟨pl_nmu, ck_E1 (ck_S1 pl_s233_s ck_S0) (ck_E1 (ck_S1 pl_s200_s ck_S0) (ck_E1 (ck_S1 pl_s718_s ck_S0) (ck_E1 (ck_S1 pl_s730_s ck_S0) ck_E0)))⟩ ck_X0 ck_l0 pl_s731_e
set_option maxRecDepth 100000 in
/-- GlacierMail.writers -/
def pl_s732 : ck_Sum := ((8, 1, 6), 249, [.inr (.inr (.inl 1)), .inl ((-2147483648), (-1), []), .inl ((-2147483648), 2147483647, []), .inl ((-2147483648), 2147483647, [])], ([], [], []), ([], []), [(.inl 3, 249, ([], [], []))])
set_option maxRecDepth 100000 in
theorem pl_s732_s {X : Int → Int} {LX : Nat} : ck_Ok p2_OL X LX 186 pl_s732 := ck_ok_s (O := p2_OL) (X := X) (LX := LX) (E := [(132, [pl_s153])]) (mi := 186) (cuts := []) (f := 76) (S := pl_s732) (lx := none) (XF := []) ⟨pl_nmu, ck_E1 (ck_S1 pl_s153_s ck_S0) ck_E0⟩ ck_X0 ck_l0 (by decide +kernel)
set_option maxRecDepth 100000 in
/-- GlacierMail.writers -/
def pl_s733 : ck_Sum := ((8, 1, 6), 249, [.inr (.inr (.inl 1)), .inl (6, 2147483647, []), .inl ((-2147483648), 2147483647, []), .inl ((-2147483648), 2147483647, [])], ([], [], []), ([], []), [(.inl 3, 249, ([], [], []))])
set_option maxRecDepth 100000 in
theorem pl_s733_s {X : Int → Int} {LX : Nat} : ck_Ok p2_OL X LX 186 pl_s733 := ck_ok_s (O := p2_OL) (X := X) (LX := LX) (E := [(132, [pl_s156])]) (mi := 186) (cuts := []) (f := 76) (S := pl_s733) (lx := none) (XF := []) ⟨pl_nmu, ck_E1 (ck_S1 pl_s156_s ck_S0) ck_E0⟩ ck_X0 ck_l0 (by decide +kernel)
set_option maxRecDepth 100000 in
/-- GlacierMail.needFind -/
def pl_s734 : ck_Sum := ((7, 1, 6), 249, [.inr (.inr (.inl 1)), .inl ((-2147483648), (-1), []), .inl ((-2147483648), 2147483647, [])], ([], [], []), ([], []), [(.inl 0, 249, ([], [], []))])
set_option maxRecDepth 100000 in
theorem pl_s734_s {X : Int → Int} {LX : Nat} : ck_Ok p2_OL X LX 187 pl_s734 := ck_ok_s (O := p2_OL) (X := X) (LX := LX) (E := [(129, [pl_s145])]) (mi := 187) (cuts := []) (f := 76) (S := pl_s734) (lx := none) (XF := []) ⟨pl_nmu, ck_E1 (ck_S1 pl_s145_s ck_S0) ck_E0⟩ ck_X0 ck_l0 (by decide +kernel)
set_option maxRecDepth 100000 in
/-- GlacierMail.writers -/
def pl_s735 : ck_Sum := ((8, 2, 12), 249, [.inr (.inr (.inl 1)), .inl (0, 5, []), .inl ((-2147483648), (-1), []), .inl ((-2147483648), 2147483647, [])], ([], [], []), ([], []), [(.inl 3, 249, ([], [], [])), (.inl 0, 249, ([], [], []))])
set_option maxRecDepth 100000 in
theorem pl_s735_s {X : Int → Int} {LX : Nat} : ck_Ok p2_OL X LX 186 pl_s735 := ck_ok_s (O := p2_OL) (X := X) (LX := LX) (E := [(132, [pl_s159]), (187, [pl_s734])]) (mi := 186) (cuts := []) (f := 84) (S := pl_s735) (lx := none) (XF := []) ⟨pl_nmu, ck_E1 (ck_S1 pl_s159_s ck_S0) (ck_E1 (ck_S1 pl_s734_s ck_S0) ck_E0)⟩ ck_X0 ck_l0 (by decide +kernel)
set_option maxRecDepth 100000 in
/-- GlacierMail.needFind -/
def pl_s736 : ck_Sum := ((7, 1, 6), 249, [.inr (.inr (.inl 1)), .inl (300, 2147483647, []), .inl ((-2147483648), 2147483647, [])], ([], [], []), ([], []), [(.inl 0, 249, ([], [], []))])
set_option maxRecDepth 100000 in
theorem pl_s736_s {X : Int → Int} {LX : Nat} : ck_Ok p2_OL X LX 187 pl_s736 := ck_ok_s (O := p2_OL) (X := X) (LX := LX) (E := [(129, [pl_s147])]) (mi := 187) (cuts := []) (f := 76) (S := pl_s736) (lx := none) (XF := []) ⟨pl_nmu, ck_E1 (ck_S1 pl_s147_s ck_S0) ck_E0⟩ ck_X0 ck_l0 (by decide +kernel)
set_option maxRecDepth 100000 in
/-- GlacierMail.writers -/
def pl_s737 : ck_Sum := ((8, 2, 12), 249, [.inr (.inr (.inl 1)), .inl (0, 5, []), .inl (300, 2147483647, []), .inl ((-2147483648), 2147483647, [])], ([], [], []), ([], []), [(.inl 3, 249, ([], [], [])), (.inl 0, 249, ([], [], []))])
set_option maxRecDepth 100000 in
theorem pl_s737_s {X : Int → Int} {LX : Nat} : ck_Ok p2_OL X LX 186 pl_s737 := ck_ok_s (O := p2_OL) (X := X) (LX := LX) (E := [(132, [pl_s159]), (187, [pl_s736])]) (mi := 186) (cuts := []) (f := 84) (S := pl_s737) (lx := none) (XF := []) ⟨pl_nmu, ck_E1 (ck_S1 pl_s159_s ck_S0) (ck_E1 (ck_S1 pl_s736_s ck_S0) ck_E0)⟩ ck_X0 ck_l0 (by decide +kernel)
set_option maxRecDepth 100000 in
/-- GlacierMail.needFind -/
def pl_s738 : ck_Sum := ((6, 1, 6), 249, [.inr (.inr (.inl 1)), .inl (0, 299, []), .inl ((-2147483648), (-1), [])], ([], [], []), ([], []), [(.inl 0, 249, ([], [], []))])
set_option maxRecDepth 100000 in
theorem pl_s738_s {X : Int → Int} {LX : Nat} : ck_Ok p2_OL X LX 187 pl_s738 := ck_ok_s (O := p2_OL) (X := X) (LX := LX) (E := [(129, [pl_s149])]) (mi := 187) (cuts := []) (f := 82) (S := pl_s738) (lx := none) (XF := []) ⟨pl_nmu, ck_E1 (ck_S1 pl_s149_s ck_S0) ck_E0⟩ ck_X0 ck_l0 (by decide +kernel)
set_option maxRecDepth 100000 in
/-- GlacierMail.writers -/
def pl_s739 : ck_Sum := ((8, 2, 12), 249, [.inr (.inr (.inl 1)), .inl (0, 5, []), .inl (0, 299, []), .inl ((-2147483648), (-1), [])], ([], [], []), ([], []), [(.inl 3, 249, ([], [], [])), (.inl 0, 249, ([], [], []))])
set_option maxRecDepth 100000 in
theorem pl_s739_s {X : Int → Int} {LX : Nat} : ck_Ok p2_OL X LX 186 pl_s739 := ck_ok_s (O := p2_OL) (X := X) (LX := LX) (E := [(132, [pl_s159]), (187, [pl_s738])]) (mi := 186) (cuts := []) (f := 84) (S := pl_s739) (lx := none) (XF := []) ⟨pl_nmu, ck_E1 (ck_S1 pl_s159_s ck_S0) (ck_E1 (ck_S1 pl_s738_s ck_S0) ck_E0)⟩ ck_X0 ck_l0 (by decide +kernel)
set_option maxRecDepth 100000 in
/-- GlacierMail.needFind -/
def pl_s740 : ck_Sum := ((6, 1, 6), 249, [.inr (.inr (.inl 1)), .inl (0, 299, []), .inl (100, 2147483647, [])], ([], [], []), ([], []), [(.inl 0, 249, ([], [], []))])
set_option maxRecDepth 100000 in
theorem pl_s740_s {X : Int → Int} {LX : Nat} : ck_Ok p2_OL X LX 187 pl_s740 := ck_ok_s (O := p2_OL) (X := X) (LX := LX) (E := [(129, [pl_s149])]) (mi := 187) (cuts := []) (f := 88) (S := pl_s740) (lx := none) (XF := []) ⟨pl_nmu, ck_E1 (ck_S1 pl_s149_s ck_S0) ck_E0⟩ ck_X0 ck_l0 (by decide +kernel)
set_option maxRecDepth 100000 in
/-- GlacierMail.writers -/
def pl_s741 : ck_Sum := ((8, 2, 12), 249, [.inr (.inr (.inl 1)), .inl (0, 5, []), .inl (0, 299, []), .inl (100, 2147483647, [])], ([], [], []), ([], []), [(.inl 3, 249, ([], [], [])), (.inl 0, 249, ([], [], []))])
set_option maxRecDepth 100000 in
theorem pl_s741_s {X : Int → Int} {LX : Nat} : ck_Ok p2_OL X LX 186 pl_s741 := ck_ok_s (O := p2_OL) (X := X) (LX := LX) (E := [(132, [pl_s159]), (187, [pl_s740])]) (mi := 186) (cuts := []) (f := 84) (S := pl_s741) (lx := none) (XF := []) ⟨pl_nmu, ck_E1 (ck_S1 pl_s159_s ck_S0) (ck_E1 (ck_S1 pl_s740_s ck_S0) ck_E0)⟩ ck_X0 ck_l0 (by decide +kernel)
set_option maxRecDepth 100000 in
/-- GlacierMail.needFind -/
def pl_s742 : ck_Sum := ((1, 0, 0), 249, [.inr (.inr (.inl 1)), .inl (0, 299, []), .inl (0, 99, [])], ([], [], []), ([], []), [(.inr none, 249, ([], [], []))])
set_option maxRecDepth 100000 in
theorem pl_s742_s {X : Int → Int} {LX : Nat} : ck_Ok p2_OL X LX 187 pl_s742 := ck_ok_s (O := p2_OL) (X := X) (LX := LX) (E := [(129, [pl_s149])]) (mi := 187) (cuts := []) (f := 88) (S := pl_s742) (lx := none) (XF := []) ⟨pl_nmu, ck_E1 (ck_S1 pl_s149_s ck_S0) ck_E0⟩ ck_X0 ck_l0 (by decide +kernel)
set_option maxRecDepth 100000 in
/-- GlacierMail.latestWriting -/
def pl_s743 : ck_Sum := ((5, 0, 0), 249, [.inr (.inr (.inl 1)), .inl (0, 7, []), .inl (0, 5, []), .inl (0, 299, []), .inl (0, 99, [])], ([], [(3, 8, 246)], []), (zl229, []), [(.inr (some (.inl (ck_one (-1)))), 249, ([], [], [])), (.inr (some (.inl (0, 298, []))), 249, ([], [], [(206, 4, 4, ck_one (-1))]))])
set_option maxRecDepth 100000 in
theorem pl_s743_e : ck_ok p2_OL none [] [(10, [pl_s224]), (170, [pl_s697]), (30, [pl_s214])] 188 [(23, [some (.inr (.inr (.inl 1))), some (.inl (0, 7, [])), some (.inl (0, 5, [])), some (.inl (0, 299, [])), some (.inl (0, 99, [])), some (.inl ((-1), 298, []))], ([], [(3, 8, 246)], []), 100, .inl 5, false)] 174 pl_s743 = true := by decide +kernel
theorem pl_s743_s {X : Int → Int} {LX : Nat} : ck_Ok p2_OL X LX 188 pl_s743 := ck_ok_s ⟨pl_nmu, ck_E1 (ck_S1 pl_s224_s ck_S0) (ck_E1 (ck_S1 pl_s697_s ck_S0) (ck_E1 (ck_S1 pl_s214_s ck_S0) ck_E0))⟩ ck_X0 ck_l0 pl_s743_e
set_option maxRecDepth 100000 in
/-- GlacierMail.writers -/
def pl_s744 : ck_Sum := ((8, 1, 6), 249, [.inr (.inr (.inl 1)), .inl (0, 5, []), .inl (0, 299, []), .inl (0, 99, [])], ([], [(3, 8, 246)], []), (zl229, []), [(.inl 3, 249, ([], [], [])), (.inr (some (.inl ((-2147483648), 2147483647, []))), 249, ([], [], []))])
set_option maxRecDepth 100000 in
theorem pl_s744_e : ck_ok p2_OL none [] [(132, [pl_s159]), (187, [pl_s742]), (9, [pl_s189]), (188, [pl_s743])] 186 [(17, [some (.inr (.inr (.inl 1))), some (.inl (0, 5, [])), some (.inl (0, 299, [])), some (.inl (0, 99, [])), some (.inl ((-2147483648), 2147483647, [])), some (.inl (0, 9, []))], ([], [(3, 8, 246)], []), 100, .inl 5, true)] 182 pl_s744 = true := by decide +kernel
theorem pl_s744_s {X : Int → Int} {LX : Nat} : ck_Ok p2_OL X LX 186 pl_s744 := ck_ok_s ⟨pl_nmu, ck_E1 (ck_S1 pl_s159_s ck_S0) (ck_E1 (ck_S1 pl_s742_s ck_S0) (ck_E1 (ck_S1 pl_s189_s ck_S0) (ck_E1 (ck_S1 pl_s743_s ck_S0) ck_E0)))⟩ ck_X0 ck_l0 pl_s744_e
set_option maxRecDepth 100000 in
/-- GlacierMail.wrote -/
def pl_s745 : ck_Sum := ((8, 1, 6), 249, [.inr (.inr (.inl 1)), .inl ((-2147483648), (-1), []), .inl ((-2147483648), 2147483647, []), .inl ((-2147483648), 2147483647, []), .inl ((-2147483648), 2147483647, [])], ([], [], []), ([], []), [(.inl 3, 249, ([], [], []))])
set_option maxRecDepth 100000 in
theorem pl_s745_s {X : Int → Int} {LX : Nat} : ck_Ok p2_OL X LX 190 pl_s745 := ck_ok_s (O := p2_OL) (X := X) (LX := LX) (E := [(139, [pl_s191])]) (mi := 190) (cuts := []) (f := 76) (S := pl_s745) (lx := none) (XF := []) ⟨pl_nmu, ck_E1 (ck_S1 pl_s191_s ck_S0) ck_E0⟩ ck_X0 ck_l0 (by decide +kernel)
set_option maxRecDepth 100000 in
/-- GlacierMail.wrote -/
def pl_s746 : ck_Sum := ((8, 1, 6), 249, [.inr (.inr (.inl 1)), .inl (8, 2147483647, []), .inl ((-2147483648), 2147483647, []), .inl ((-2147483648), 2147483647, []), .inl ((-2147483648), 2147483647, [])], ([], [], []), ([], []), [(.inl 3, 249, ([], [], []))])
set_option maxRecDepth 100000 in
theorem pl_s746_s {X : Int → Int} {LX : Nat} : ck_Ok p2_OL X LX 190 pl_s746 := ck_ok_s (O := p2_OL) (X := X) (LX := LX) (E := [(139, [pl_s194])]) (mi := 190) (cuts := []) (f := 76) (S := pl_s746) (lx := none) (XF := []) ⟨pl_nmu, ck_E1 (ck_S1 pl_s194_s ck_S0) ck_E0⟩ ck_X0 ck_l0 (by decide +kernel)
set_option maxRecDepth 100000 in
/-- GlacierMail.wrote -/
def pl_s747 : ck_Sum := ((8, 2, 12), 249, [.inr (.inr (.inl 1)), .inl (0, 7, []), .inl ((-2147483648), (-1), []), .inl ((-2147483648), 2147483647, []), .inl ((-2147483648), 2147483647, [])], ([], [], []), ([], []), [(.inl 3, 249, ([], [], []))])
set_option maxRecDepth 100000 in
theorem pl_s747_s {X : Int → Int} {LX : Nat} : ck_Ok p2_OL X LX 190 pl_s747 := ck_ok_s (O := p2_OL) (X := X) (LX := LX) (E := [(139, [pl_s197]), (132, [pl_s153])]) (mi := 190) (cuts := []) (f := 82) (S := pl_s747) (lx := none) (XF := []) ⟨pl_nmu, ck_E1 (ck_S1 pl_s197_s ck_S0) (ck_E1 (ck_S1 pl_s153_s ck_S0) ck_E0)⟩ ck_X0 ck_l0 (by decide +kernel)
set_option maxRecDepth 100000 in
/-- GlacierMail.wrote -/
def pl_s748 : ck_Sum := ((8, 2, 12), 249, [.inr (.inr (.inl 1)), .inl (0, 7, []), .inl (6, 2147483647, []), .inl ((-2147483648), 2147483647, []), .inl ((-2147483648), 2147483647, [])], ([], [], []), ([], []), [(.inl 3, 249, ([], [], []))])
set_option maxRecDepth 100000 in
theorem pl_s748_s {X : Int → Int} {LX : Nat} : ck_Ok p2_OL X LX 190 pl_s748 := ck_ok_s (O := p2_OL) (X := X) (LX := LX) (E := [(139, [pl_s197]), (132, [pl_s156])]) (mi := 190) (cuts := []) (f := 82) (S := pl_s748) (lx := none) (XF := []) ⟨pl_nmu, ck_E1 (ck_S1 pl_s197_s ck_S0) (ck_E1 (ck_S1 pl_s156_s ck_S0) ck_E0)⟩ ck_X0 ck_l0 (by decide +kernel)
set_option maxRecDepth 100000 in
/-- GlacierMail.wrote -/
def pl_s749 : ck_Sum := ((8, 3, 18), 249, [.inr (.inr (.inl 1)), .inl (0, 7, []), .inl (0, 5, []), .inl ((-2147483648), (-1), []), .inl ((-2147483648), 2147483647, [])], ([], [], []), ([], []), [(.inl 3, 249, ([], [], [])), (.inl 0, 249, ([], [], []))])
set_option maxRecDepth 100000 in
theorem pl_s749_s {X : Int → Int} {LX : Nat} : ck_Ok p2_OL X LX 190 pl_s749 := ck_ok_s (O := p2_OL) (X := X) (LX := LX) (E := [(139, [pl_s197]), (132, [pl_s159]), (187, [pl_s734])]) (mi := 190) (cuts := []) (f := 90) (S := pl_s749) (lx := none) (XF := []) ⟨pl_nmu, ck_E1 (ck_S1 pl_s197_s ck_S0) (ck_E1 (ck_S1 pl_s159_s ck_S0) (ck_E1 (ck_S1 pl_s734_s ck_S0) ck_E0))⟩ ck_X0 ck_l0 (by decide +kernel)
set_option maxRecDepth 100000 in
/-- GlacierMail.wrote -/
def pl_s750 : ck_Sum := ((8, 3, 18), 249, [.inr (.inr (.inl 1)), .inl (0, 7, []), .inl (0, 5, []), .inl (300, 2147483647, []), .inl ((-2147483648), 2147483647, [])], ([], [], []), ([], []), [(.inl 3, 249, ([], [], [])), (.inl 0, 249, ([], [], []))])
set_option maxRecDepth 100000 in
theorem pl_s750_s {X : Int → Int} {LX : Nat} : ck_Ok p2_OL X LX 190 pl_s750 := ck_ok_s (O := p2_OL) (X := X) (LX := LX) (E := [(139, [pl_s197]), (132, [pl_s159]), (187, [pl_s736])]) (mi := 190) (cuts := []) (f := 90) (S := pl_s750) (lx := none) (XF := []) ⟨pl_nmu, ck_E1 (ck_S1 pl_s197_s ck_S0) (ck_E1 (ck_S1 pl_s159_s ck_S0) (ck_E1 (ck_S1 pl_s736_s ck_S0) ck_E0))⟩ ck_X0 ck_l0 (by decide +kernel)
set_option maxRecDepth 100000 in
/-- GlacierMail.wrote -/
def pl_s751 : ck_Sum := ((8, 3, 18), 249, [.inr (.inr (.inl 1)), .inl (0, 7, []), .inl (0, 5, []), .inl (0, 299, []), .inl ((-2147483648), (-1), [])], ([], [], []), ([], []), [(.inl 3, 249, ([], [], [])), (.inl 0, 249, ([], [], []))])
set_option maxRecDepth 100000 in
theorem pl_s751_s {X : Int → Int} {LX : Nat} : ck_Ok p2_OL X LX 190 pl_s751 := ck_ok_s (O := p2_OL) (X := X) (LX := LX) (E := [(139, [pl_s197]), (132, [pl_s159]), (187, [pl_s738])]) (mi := 190) (cuts := []) (f := 90) (S := pl_s751) (lx := none) (XF := []) ⟨pl_nmu, ck_E1 (ck_S1 pl_s197_s ck_S0) (ck_E1 (ck_S1 pl_s159_s ck_S0) (ck_E1 (ck_S1 pl_s738_s ck_S0) ck_E0))⟩ ck_X0 ck_l0 (by decide +kernel)
set_option maxRecDepth 100000 in
/-- GlacierMail.wrote -/
def pl_s752 : ck_Sum := ((8, 3, 18), 249, [.inr (.inr (.inl 1)), .inl (0, 7, []), .inl (0, 5, []), .inl (0, 299, []), .inl (100, 2147483647, [])], ([], [], []), ([], []), [(.inl 3, 249, ([], [], [])), (.inl 0, 249, ([], [], []))])
set_option maxRecDepth 100000 in
theorem pl_s752_s {X : Int → Int} {LX : Nat} : ck_Ok p2_OL X LX 190 pl_s752 := ck_ok_s (O := p2_OL) (X := X) (LX := LX) (E := [(139, [pl_s197]), (132, [pl_s159]), (187, [pl_s740])]) (mi := 190) (cuts := []) (f := 90) (S := pl_s752) (lx := none) (XF := []) ⟨pl_nmu, ck_E1 (ck_S1 pl_s197_s ck_S0) (ck_E1 (ck_S1 pl_s159_s ck_S0) (ck_E1 (ck_S1 pl_s740_s ck_S0) ck_E0))⟩ ck_X0 ck_l0 (by decide +kernel)
set_option maxRecDepth 100000 in
/-- GlacierMail.wrote -/
def pl_s753 : ck_Sum := ((8, 2, 12), 249, [.inr (.inr (.inl 1)), .inl (0, 7, []), .inl (0, 5, []), .inl (0, 299, []), .inl (0, 99, [])], ([], [(3, 8, 246)], []), (zl229, []), [(.inl 3, 249, ([], [], [])), (.inr (some (.inl (ck_one (-1)))), 249, ([], [], [])), (.inr (some (.inl (0, 298, []))), 249, ([], [], [(206, 4, 4, ck_one (-1))]))])
set_option maxRecDepth 100000 in
theorem pl_s753_s {X : Int → Int} {LX : Nat} : ck_Ok p2_OL X LX 190 pl_s753 := ck_ok_s (O := p2_OL) (X := X) (LX := LX) (E := [(139, [pl_s197]), (132, [pl_s159]), (187, [pl_s742]), (188, [pl_s743])]) (mi := 190) (cuts := []) (f := 104) (S := pl_s753) (lx := none) (XF := []) ⟨pl_nmu, ck_E1 (ck_S1 pl_s197_s ck_S0) (ck_E1 (ck_S1 pl_s159_s ck_S0) (ck_E1 (ck_S1 pl_s742_s ck_S0) (ck_E1 (ck_S1 pl_s743_s ck_S0) ck_E0)))⟩ ck_X0 ck_l0 (by decide +kernel)
set_option maxRecDepth 100000 in
/-- GlacierMail$Rows.size -/
def pl_s754 : ck_Sum := ((0, 0, 0), 249, [.inr (.inr (.inl 12))], ([], [], []), ([], []), [(.inr (some (.inl (0, 6, []))), 249, ([], [], []))])
set_option maxRecDepth 100000 in
theorem pl_s754_s {X : Int → Int} {LX : Nat} : ck_Ok p2_OL X LX 9 pl_s754 := ck_ok_s (O := p2_OL) (X := X) (LX := LX) (E := []) (mi := 9) (cuts := []) (f := 76) (S := pl_s754) (lx := none) (XF := []) ⟨pl_nmu, ck_E0⟩ ck_X0 ck_l0 (by decide +kernel)
set_option maxRecDepth 100000 in
/-- GlacierMail.need -/
def pl_s755 : ck_Sum := ((6, 1, 6), 249, [.inr (.inr (.inl 1)), .inl ((-2147483648), (-1), []), .inl (0, 6, [])], ([], [], []), ([], []), [(.inl 3, 249, ([], [], []))])
set_option maxRecDepth 100000 in
theorem pl_s755_s {X : Int → Int} {LX : Nat} : ck_Ok p2_OL X LX 133 pl_s755 := ck_ok_s (O := p2_OL) (X := X) (LX := LX) (E := []) (mi := 133) (cuts := []) (f := 76) (S := pl_s755) (lx := none) (XF := []) ⟨pl_nmu, ck_E0⟩ ck_X0 ck_l0 (by decide +kernel)
set_option maxRecDepth 100000 in
/-- GlacierMail.needTable -/
def pl_s756 : ck_Sum := ((7, 1, 6), 249, [.inr (.inr (.inl 1)), .inl ((-2147483648), (-1), [])], ([], [], []), ([], []), [(.inl 3, 249, ([], [], []))])
set_option maxRecDepth 100000 in
theorem pl_s756_s {X : Int → Int} {LX : Nat} : ck_Ok p2_OL X LX 193 pl_s756 := ck_ok_s (O := p2_OL) (X := X) (LX := LX) (E := [(9, [pl_s754]), (133, [pl_s755])]) (mi := 193) (cuts := []) (f := 84) (S := pl_s756) (lx := none) (XF := []) ⟨pl_nmu, ck_E1 (ck_S1 pl_s754_s ck_S0) (ck_E1 (ck_S1 pl_s755_s ck_S0) ck_E0)⟩ ck_X0 ck_l0 (by decide +kernel)
set_option maxRecDepth 100000 in
/-- GlacierMail.table -/
def pl_s757 : ck_Sum := ((8, 1, 6), 249, [.inr (.inr (.inl 1)), .inl ((-2147483648), (-1), []), .inl ((-2147483648), 2147483647, [])], ([], [], []), ([], []), [(.inl 3, 249, ([], [], []))])
set_option maxRecDepth 100000 in
theorem pl_s757_s {X : Int → Int} {LX : Nat} : ck_Ok p2_OL X LX 192 pl_s757 := ck_ok_s (O := p2_OL) (X := X) (LX := LX) (E := [(193, [pl_s756])]) (mi := 192) (cuts := []) (f := 76) (S := pl_s757) (lx := none) (XF := []) ⟨pl_nmu, ck_E1 (ck_S1 pl_s756_s ck_S0) ck_E0⟩ ck_X0 ck_l0 (by decide +kernel)
set_option maxRecDepth 100000 in
/-- GlacierMail.need -/
def pl_s758 : ck_Sum := ((6, 1, 6), 249, [.inr (.inr (.inl 1)), .inl (6, 2147483647, []), .inl (0, 6, [])], ([], [], []), ([], []), [(.inl 3, 249, ([], [], []))])
set_option maxRecDepth 100000 in
theorem pl_s758_s {X : Int → Int} {LX : Nat} : ck_Ok p2_OL X LX 133 pl_s758 := ck_ok_s (O := p2_OL) (X := X) (LX := LX) (E := []) (mi := 133) (cuts := []) (f := 82) (S := pl_s758) (lx := none) (XF := []) ⟨pl_nmu, ck_E0⟩ ck_X0 ck_l0 (by decide +kernel)
set_option maxRecDepth 100000 in
/-- GlacierMail.needTable -/
def pl_s759 : ck_Sum := ((7, 1, 6), 249, [.inr (.inr (.inl 1)), .inl (6, 2147483647, [])], ([], [], []), ([], []), [(.inl 3, 249, ([], [], []))])
set_option maxRecDepth 100000 in
theorem pl_s759_s {X : Int → Int} {LX : Nat} : ck_Ok p2_OL X LX 193 pl_s759 := ck_ok_s (O := p2_OL) (X := X) (LX := LX) (E := [(9, [pl_s754]), (133, [pl_s758])]) (mi := 193) (cuts := []) (f := 84) (S := pl_s759) (lx := none) (XF := []) ⟨pl_nmu, ck_E1 (ck_S1 pl_s754_s ck_S0) (ck_E1 (ck_S1 pl_s758_s ck_S0) ck_E0)⟩ ck_X0 ck_l0 (by decide +kernel)
set_option maxRecDepth 100000 in
/-- GlacierMail.table -/
def pl_s760 : ck_Sum := ((8, 1, 6), 249, [.inr (.inr (.inl 1)), .inl (6, 2147483647, []), .inl ((-2147483648), 2147483647, [])], ([], [], []), ([], []), [(.inl 3, 249, ([], [], []))])
set_option maxRecDepth 100000 in
theorem pl_s760_s {X : Int → Int} {LX : Nat} : ck_Ok p2_OL X LX 192 pl_s760 := ck_ok_s (O := p2_OL) (X := X) (LX := LX) (E := [(193, [pl_s759])]) (mi := 192) (cuts := []) (f := 76) (S := pl_s760) (lx := none) (XF := []) ⟨pl_nmu, ck_E1 (ck_S1 pl_s759_s ck_S0) ck_E0⟩ ck_X0 ck_l0 (by decide +kernel)
set_option maxRecDepth 100000 in
/-- GlacierMail.need -/
def pl_s761 : ck_Sum := ((6, 1, 6), 249, [.inr (.inr (.inl 1)), .inl (0, 5, []), .inl (0, 6, [])], ([], [], []), ([], []), [(.inr none, 249, ([], [], [])), (.inl 3, 249, ([], [], []))])
set_option maxRecDepth 100000 in
theorem pl_s761_s {X : Int → Int} {LX : Nat} : ck_Ok p2_OL X LX 133 pl_s761 := ck_ok_s (O := p2_OL) (X := X) (LX := LX) (E := []) (mi := 133) (cuts := []) (f := 82) (S := pl_s761) (lx := none) (XF := []) ⟨pl_nmu, ck_E0⟩ ck_X0 ck_l0 (by decide +kernel)
set_option maxRecDepth 100000 in
/-- GlacierMail.needTable -/
def pl_s762 : ck_Sum := ((7, 1, 6), 249, [.inr (.inr (.inl 1)), .inl (0, 5, [])], ([], [], []), ([], []), [(.inl 3, 249, ([], [], [])), (.inr none, 249, ([], [], []))])
set_option maxRecDepth 100000 in
theorem pl_s762_s {X : Int → Int} {LX : Nat} : ck_Ok p2_OL X LX 193 pl_s762 := ck_ok_s (O := p2_OL) (X := X) (LX := LX) (E := [(9, [pl_s754]), (133, [pl_s761])]) (mi := 193) (cuts := []) (f := 86) (S := pl_s762) (lx := none) (XF := []) ⟨pl_nmu, ck_E1 (ck_S1 pl_s754_s ck_S0) (ck_E1 (ck_S1 pl_s761_s ck_S0) ck_E0)⟩ ck_X0 ck_l0 (by decide +kernel)
set_option maxRecDepth 100000 in
/-- GlacierMail.table -/
def pl_s763 : ck_Sum := ((8, 2, 12), 249, [.inr (.inr (.inl 1)), .inl (0, 5, []), .inl ((-2147483648), (-1), [])], ([], [], []), ([], []), [(.inl 3, 249, ([], [], []))])
set_option maxRecDepth 100000 in
theorem pl_s763_s {X : Int → Int} {LX : Nat} : ck_Ok p2_OL X LX 192 pl_s763 := ck_ok_s (O := p2_OL) (X := X) (LX := LX) (E := [(193, [pl_s762]), (132, [pl_s153])]) (mi := 192) (cuts := []) (f := 82) (S := pl_s763) (lx := none) (XF := []) ⟨pl_nmu, ck_E1 (ck_S1 pl_s762_s ck_S0) (ck_E1 (ck_S1 pl_s153_s ck_S0) ck_E0)⟩ ck_X0 ck_l0 (by decide +kernel)
set_option maxRecDepth 100000 in
/-- GlacierMail.table -/
def pl_s764 : ck_Sum := ((8, 2, 12), 249, [.inr (.inr (.inl 1)), .inl (0, 5, []), .inl (6, 2147483647, [])], ([], [], []), ([], []), [(.inl 3, 249, ([], [], []))])
set_option maxRecDepth 100000 in
theorem pl_s764_s {X : Int → Int} {LX : Nat} : ck_Ok p2_OL X LX 192 pl_s764 := ck_ok_s (O := p2_OL) (X := X) (LX := LX) (E := [(193, [pl_s762]), (132, [pl_s156])]) (mi := 192) (cuts := []) (f := 82) (S := pl_s764) (lx := none) (XF := []) ⟨pl_nmu, ck_E1 (ck_S1 pl_s762_s ck_S0) (ck_E1 (ck_S1 pl_s156_s ck_S0) ck_E0)⟩ ck_X0 ck_l0 (by decide +kernel)
set_option maxRecDepth 100000 in
/-- GlacierMail$Rows.get -/
def pl_s765 : ck_Sum := ((0, 0, 0), 249, [.inr (.inr (.inl 12)), .inl ((-2147483648), 2147483647, []), .inl ((-2147483648), 2147483647, [])], ([], [], []), ([], []), [(.inr (some (.inl (ck_one (-1)))), 249, ([], [], [])), (.inr (some (.inl (0, 20, []))), 249, ([], [], [(12, 3, 3, (1, 6, []))]))])
set_option maxRecDepth 100000 in
theorem pl_s765_s {X : Int → Int} {LX : Nat} : ck_Ok p2_OL X LX 10 pl_s765 := ck_ok_s (O := p2_OL) (X := X) (LX := LX) (E := []) (mi := 10) (cuts := []) (f := 114) (S := pl_s765) (lx := none) (XF := []) ⟨pl_nmu, ck_E0⟩ ck_X0 ck_l0 (by decide +kernel)
set_option maxRecDepth 100000 in
/-- GlacierMail.table -/
def pl_s766 : ck_Sum := ((8, 2, 12), 249, [.inr (.inr (.inl 1)), .inl (0, 5, []), .inl (0, 5, [])], ([], [], []), ([], []), [(.inl 3, 249, ([], [], [])), (.inr (some (.inl (ck_one (-1)))), 249, ([], [], [])), (.inr (some (.inl (0, 20, []))), 249, ([], [], [(12, 3, 3, (1, 6, []))]))])
set_option maxRecDepth 100000 in
theorem pl_s766_s {X : Int → Int} {LX : Nat} : ck_Ok p2_OL X LX 192 pl_s766 := ck_ok_s (O := p2_OL) (X := X) (LX := LX) (E := [(193, [pl_s762]), (132, [pl_s159]), (10, [pl_s765])]) (mi := 192) (cuts := []) (f := 96) (S := pl_s766) (lx := none) (XF := []) ⟨pl_nmu, ck_E1 (ck_S1 pl_s762_s ck_S0) (ck_E1 (ck_S1 pl_s159_s ck_S0) (ck_E1 (ck_S1 pl_s765_s ck_S0) ck_E0))⟩ ck_X0 ck_l0 (by decide +kernel)
set_option maxRecDepth 100000 in
/-- GlacierMail.apart -/
def pl_s767 : ck_Sum := ((8, 1, 6), 249, [.inr (.inr (.inl 1)), .inl ((-2147483648), (-1), []), .inl ((-2147483648), 2147483647, []), .inl ((-2147483648), 2147483647, [])], ([], [], []), ([], []), [(.inl 3, 249, ([], [], []))])
set_option maxRecDepth 100000 in
theorem pl_s767_s {X : Int → Int} {LX : Nat} : ck_Ok p2_OL X LX 195 pl_s767 := ck_ok_s (O := p2_OL) (X := X) (LX := LX) (E := [(193, [pl_s756])]) (mi := 195) (cuts := []) (f := 76) (S := pl_s767) (lx := none) (XF := []) ⟨pl_nmu, ck_E1 (ck_S1 pl_s756_s ck_S0) ck_E0⟩ ck_X0 ck_l0 (by decide +kernel)
end
/-! 78r86a11.sl -/
section
/-! EVERY CALL OF THE CLASS ENDS, under a law (laid by wip/am/p2l.py). -/
set_option maxRecDepth 100000 in
/-- GlacierMail.apart -/
def pl_s768 : ck_Sum := ((8, 1, 6), 249, [.inr (.inr (.inl 1)), .inl (6, 2147483647, []), .inl ((-2147483648), 2147483647, []), .inl ((-2147483648), 2147483647, [])], ([], [], []), ([], []), [(.inl 3, 249, ([], [], []))])
set_option maxRecDepth 100000 in
theorem pl_s768_s {X : Int → Int} {LX : Nat} : ck_Ok p2_OL X LX 195 pl_s768 := ck_ok_s (O := p2_OL) (X := X) (LX := LX) (E := [(193, [pl_s759])]) (mi := 195) (cuts := []) (f := 76) (S := pl_s768) (lx := none) (XF := []) ⟨pl_nmu, ck_E1 (ck_S1 pl_s759_s ck_S0) ck_E0⟩ ck_X0 ck_l0 (by decide +kernel)
set_option maxRecDepth 100000 in
/-- GlacierMail.apart -/
def pl_s769 : ck_Sum := ((8, 2, 12), 249, [.inr (.inr (.inl 1)), .inl (0, 5, []), .inl ((-2147483648), (-1), []), .inl ((-2147483648), 2147483647, [])], ([], [], []), ([], []), [(.inl 3, 249, ([], [], []))])
set_option maxRecDepth 100000 in
theorem pl_s769_s {X : Int → Int} {LX : Nat} : ck_Ok p2_OL X LX 195 pl_s769 := ck_ok_s (O := p2_OL) (X := X) (LX := LX) (E := [(193, [pl_s762, pl_s756])]) (mi := 195) (cuts := []) (f := 82) (S := pl_s769) (lx := none) (XF := []) ⟨pl_nmu, ck_E1 (ck_S1 pl_s762_s (ck_S1 pl_s756_s ck_S0)) ck_E0⟩ ck_X0 ck_l0 (by decide +kernel)
set_option maxRecDepth 100000 in
/-- GlacierMail.apart -/
def pl_s770 : ck_Sum := ((8, 2, 12), 249, [.inr (.inr (.inl 1)), .inl (0, 5, []), .inl (6, 2147483647, []), .inl ((-2147483648), 2147483647, [])], ([], [], []), ([], []), [(.inl 3, 249, ([], [], []))])
set_option maxRecDepth 100000 in
theorem pl_s770_s {X : Int → Int} {LX : Nat} : ck_Ok p2_OL X LX 195 pl_s770 := ck_ok_s (O := p2_OL) (X := X) (LX := LX) (E := [(193, [pl_s762, pl_s759])]) (mi := 195) (cuts := []) (f := 82) (S := pl_s770) (lx := none) (XF := []) ⟨pl_nmu, ck_E1 (ck_S1 pl_s762_s (ck_S1 pl_s759_s ck_S0)) ck_E0⟩ ck_X0 ck_l0 (by decide +kernel)
set_option maxRecDepth 100000 in
/-- GlacierMail.toldApart -/
def pl_s771 : ck_Sum := ((1, 0, 0), 249, [.inr (.inr (.inl 1)), .inl (0, 5, []), .inl (0, 5, []), .inl ((-2147483648), 2147483647, [])], ([], [], []), ([], []), [(.inr (some (.inl (ck_one 0))), 249, ([], [], [])), (.inr (some (.inl (ck_one 1))), 249, ([], [], [(12, 3, 3, (1, 6, []))]))])
set_option maxRecDepth 100000 in
theorem pl_s771_e : ck_ok p2_OL none [] [(10, [pl_s765])] 51 [(3, [some (.inr (.inr (.inl 1))), some (.inl (0, 5, [])), some (.inl (0, 5, [])), some (.inl ((-2147483648), 2147483647, [])), some (.inl (0, 6, []))], ([], [], []), 100, .inl 4, true)] 202 pl_s771 = true := by decide +kernel
theorem pl_s771_s {X : Int → Int} {LX : Nat} : ck_Ok p2_OL X LX 51 pl_s771 := ck_ok_s ⟨pl_nmu, ck_E1 (ck_S1 pl_s765_s ck_S0) ck_E0⟩ ck_X0 ck_l0 pl_s771_e
set_option maxRecDepth 100000 in
/-- GlacierMail.apart -/
def pl_s772 : ck_Sum := ((8, 2, 12), 249, [.inr (.inr (.inl 1)), .inl (0, 5, []), .inl (0, 5, []), .inl ((-2147483648), 2147483647, [])], ([], [], []), ([], []), [(.inl 3, 249, ([], [], [])), (.inr (some (.inl (ck_one 0))), 249, ([], [], [])), (.inr (some (.inl (ck_one 1))), 249, ([], [], [(12, 3, 3, (1, 6, []))]))])
set_option maxRecDepth 100000 in
theorem pl_s772_s {X : Int → Int} {LX : Nat} : ck_Ok p2_OL X LX 195 pl_s772 := ck_ok_s (O := p2_OL) (X := X) (LX := LX) (E := [(193, [pl_s762]), (51, [pl_s771])]) (mi := 195) (cuts := []) (f := 94) (S := pl_s772) (lx := none) (XF := []) ⟨pl_nmu, ck_E1 (ck_S1 pl_s762_s ck_S0) (ck_E1 (ck_S1 pl_s771_s ck_S0) ck_E0)⟩ ck_X0 ck_l0 (by decide +kernel)
set_option maxRecDepth 100000 in
/-- GlacierMail.allToldApart -/
def pl_s773 : ck_Sum := ((2, 0, 0), 249, [.inr (.inr (.inl 1)), .inl ((-2147483648), 2147483647, [])], ([], [], []), ([], []), [(.inr (some (.inl (ck_one 1))), 249, ([], [], [])), (.inr (some (.inl (ck_one 0))), 249, ([], [], []))])
set_option maxRecDepth 100000 in
theorem pl_s773_e : ck_ok p2_OL none [] [(9, [pl_s754]), (51, [pl_s771])] 50 [(2, [some (.inr (.inr (.inl 1))), some (.inl ((-2147483648), 2147483647, [])), some (.inl (0, 6, [])), none], ([], [], []), 100, .inl 2, true), (20, [some (.inr (.inr (.inl 1))), some (.inl ((-2147483648), 2147483647, [])), some (.inl (0, 5, [(100, 0)])), some (.inl (1, 6, []))], ([], [], []), 300, .inl 3, true)] 200 pl_s773 = true := by decide +kernel
theorem pl_s773_s {X : Int → Int} {LX : Nat} : ck_Ok p2_OL X LX 50 pl_s773 := ck_ok_s ⟨pl_nmu, ck_E1 (ck_S1 pl_s754_s ck_S0) (ck_E1 (ck_S1 pl_s771_s ck_S0) ck_E0)⟩ ck_X0 ck_l0 pl_s773_e
set_option maxRecDepth 100000 in
/-- java/lang/Integer.bitCount -/
def pl_s774 : ck_Sum := ((0, 0, 0), 249, [.inl ((-2147483648), 2147483647, [])], ([], [], []), ([], []), [(.inr (some (.inl (0, 63, []))), 249, ([], [], []))])
set_option maxRecDepth 100000 in
theorem pl_s774_s {X : Int → Int} {LX : Nat} : ck_Ok p2_OL X LX 49 pl_s774 := ck_ok_s (O := p2_OL) (X := X) (LX := LX) (E := []) (mi := 49) (cuts := []) (f := 154) (S := pl_s774) (lx := none) (XF := []) ⟨pl_nmu, ck_E0⟩ ck_X0 ck_l0 (by decide +kernel)
set_option maxRecDepth 100000 in
/-- GlacierMail.poles -/
def pl_s775 : ck_Sum := ((3, 0, 0), 249, [.inr (.inr (.inl 1))], ([], [], []), ([], []), [(.inr (some (.inl ((-1), 2147483646, []))), 249, ([], [], []))])
set_option maxRecDepth 100000 in
theorem pl_s775_e : ck_ok p2_OL none [] [(50, [pl_s773]), (49, [pl_s774])] 48 [(4, [some (.inr (.inr (.inl 1))), some (.inl ((-1), 2147483646, [])), some (.inl (0, 2147483647, [])), none], ([], [], []), 100, .inl 2, true)] 206 pl_s775 = true := by decide +kernel
theorem pl_s775_s {X : Int → Int} {LX : Nat} : ck_Ok p2_OL X LX 48 pl_s775 := ck_ok_s ⟨pl_nmu, ck_E1 (ck_S1 pl_s773_s ck_S0) (ck_E1 (ck_S1 pl_s774_s ck_S0) ck_E0)⟩ ck_X0 ck_l0 pl_s775_e
set_option maxRecDepth 100000 in
/-- GlacierMail.areReadings -/
def pl_s776 : ck_Sum := ((0, 0, 0), 249, [.inr (.inr (.inl 1)), .inl (0, 400, [])], ([], [], []), ([], []), [(.inr (some (.inl (ck_one 0))), 249, ([], [], [])), (.inr (some (.inl (ck_one 1))), 249, ([], [], []))])
set_option maxRecDepth 100000 in
theorem pl_s776_e : ck_ok p2_OL none [] [] 198 [(10, [some (.inr (.inr (.inl 1))), some (.inl (0, 400, [])), some (.inl (0, 400, [])), none, none], ([], [], []), 100, .inl 2, true)] 302 pl_s776 = true := by decide +kernel
theorem pl_s776_s {X : Int → Int} {LX : Nat} : ck_Ok p2_OL X LX 198 pl_s776 := ck_ok_s ⟨pl_nmu, ck_E0⟩ ck_X0 ck_l0 pl_s776_e
set_option maxRecDepth 100000 in
/-- GlacierMail.fitsReadings -/
def pl_s777 : ck_Sum := ((1, 0, 0), 249, [.inr (.inr (.inl 1)), .inl (0, 5, []), .inl (0, 400, [])], ([], [], []), ([], []), [(.inr (some (.inl (ck_one 1))), 249, ([], [], [])), (.inr (some (.inl (ck_one 0))), 249, ([], [], []))])
set_option maxRecDepth 100000 in
theorem pl_s777_e : ck_ok p2_OL none [] [(10, [pl_s765])] 199 [(2, [some (.inr (.inr (.inl 1))), some (.inl (0, 5, [])), some (.inl (0, 400, [])), some (.inl (0, 400, []))], ([], [], []), 100, .inl 3, true)] 214 pl_s777 = true := by decide +kernel
theorem pl_s777_s {X : Int → Int} {LX : Nat} : ck_Ok p2_OL X LX 199 pl_s777 := ck_ok_s ⟨pl_nmu, ck_E1 (ck_S1 pl_s765_s ck_S0) ck_E0⟩ ck_X0 ck_l0 pl_s777_e
set_option maxRecDepth 100000 in
/-- GlacierMail.fit -/
def pl_s778 : ck_Sum := ((6, 1, 6), 249, [.inr (.inr (.inl 1))], ([], [], [(1, 1, 1, (0, 400, [(6, 0)]))]), ([(1, 1, 1)], []), [(.inl 0, 249, ([], [], [(1, 1, 1, ck_one 0)])), (.inr (some (.inl ((-2147483648), 2147483647, []))), 249, ([], [], [(1, 1, 1, ck_one 0)]))])
set_option maxRecDepth 100000 in
theorem pl_s778_e : ck_ok p2_OL none [] [(198, [pl_s776]), (9, [pl_s754]), (199, [pl_s777])] 197 [(33, [some (.inr (.inr (.inl 1))), some (.inl (0, 400, [(6, 0)])), some (.inl ((-2147483648), 2147483647, [])), some (.inl (0, 6, []))], ([], [], [(1, 1, 1, ck_one 0)]), 100, .inl 3, true)] 170 pl_s778 = true := by decide +kernel
theorem pl_s778_s {X : Int → Int} {LX : Nat} : ck_Ok p2_OL X LX 197 pl_s778 := ck_ok_s ⟨pl_nmu, ck_E1 (ck_S1 pl_s776_s ck_S0) (ck_E1 (ck_S1 pl_s754_s ck_S0) (ck_E1 (ck_S1 pl_s777_s ck_S0) ck_E0))⟩ ck_X0 ck_l0 pl_s778_e
set_option maxRecDepth 100000 in
/-- GlacierMail.soonest -/
def pl_s779 : ck_Sum := ((8, 1, 6), 249, [.inr (.inr (.inl 1)), .inl ((-2147483648), (-1), []), .inl ((-2147483648), 2147483647, []), .inl (0, 1, [])], ([], [], []), ([], []), [(.inl 3, 249, ([], [], []))])
set_option maxRecDepth 100000 in
theorem pl_s779_s {X : Int → Int} {LX : Nat} : ck_Ok p2_OL X LX 201 pl_s779 := ck_ok_s (O := p2_OL) (X := X) (LX := LX) (E := [(139, [pl_s191])]) (mi := 201) (cuts := []) (f := 76) (S := pl_s779) (lx := none) (XF := []) ⟨pl_nmu, ck_E1 (ck_S1 pl_s191_s ck_S0) ck_E0⟩ ck_X0 ck_l0 (by decide +kernel)
set_option maxRecDepth 100000 in
/-- GlacierMail.soonest -/
def pl_s780 : ck_Sum := ((8, 1, 6), 249, [.inr (.inr (.inl 1)), .inl (8, 2147483647, []), .inl ((-2147483648), 2147483647, []), .inl (0, 1, [])], ([], [], []), ([], []), [(.inl 3, 249, ([], [], []))])
set_option maxRecDepth 100000 in
theorem pl_s780_s {X : Int → Int} {LX : Nat} : ck_Ok p2_OL X LX 201 pl_s780 := ck_ok_s (O := p2_OL) (X := X) (LX := LX) (E := [(139, [pl_s194])]) (mi := 201) (cuts := []) (f := 76) (S := pl_s780) (lx := none) (XF := []) ⟨pl_nmu, ck_E1 (ck_S1 pl_s194_s ck_S0) ck_E0⟩ ck_X0 ck_l0 (by decide +kernel)
set_option maxRecDepth 100000 in
/-- GlacierMail.soonest -/
def pl_s781 : ck_Sum := ((8, 2, 12), 249, [.inr (.inr (.inl 1)), .inl (0, 7, []), .inl ((-2147483648), (-1), []), .inl (0, 1, [])], ([], [], []), ([], []), [(.inl 3, 249, ([], [], []))])
set_option maxRecDepth 100000 in
theorem pl_s781_s {X : Int → Int} {LX : Nat} : ck_Ok p2_OL X LX 201 pl_s781 := ck_ok_s (O := p2_OL) (X := X) (LX := LX) (E := [(139, [pl_s197, pl_s191])]) (mi := 201) (cuts := []) (f := 82) (S := pl_s781) (lx := none) (XF := []) ⟨pl_nmu, ck_E1 (ck_S1 pl_s197_s (ck_S1 pl_s191_s ck_S0)) ck_E0⟩ ck_X0 ck_l0 (by decide +kernel)
set_option maxRecDepth 100000 in
/-- GlacierMail.soonest -/
def pl_s782 : ck_Sum := ((8, 2, 12), 249, [.inr (.inr (.inl 1)), .inl (0, 7, []), .inl (8, 2147483647, []), .inl (0, 1, [])], ([], [], []), ([], []), [(.inl 3, 249, ([], [], []))])
set_option maxRecDepth 100000 in
theorem pl_s782_s {X : Int → Int} {LX : Nat} : ck_Ok p2_OL X LX 201 pl_s782 := ck_ok_s (O := p2_OL) (X := X) (LX := LX) (E := [(139, [pl_s197, pl_s194])]) (mi := 201) (cuts := []) (f := 82) (S := pl_s782) (lx := none) (XF := []) ⟨pl_nmu, ck_E1 (ck_S1 pl_s197_s (ck_S1 pl_s194_s ck_S0)) ck_E0⟩ ck_X0 ck_l0 (by decide +kernel)
set_option maxRecDepth 100000 in
/-- java/util/Arrays.fill -/
def pl_s783 : ck_Sum := ((0, 0, 0), 249, [.inr (.inr (.inl 210)), .inl (ck_one 0)], ([], [], []), ([(210, 0, 2399)], []), [(.inr none, 249, ([], [], []))])
set_option maxRecDepth 100000 in
theorem pl_s783_e : ck_ok p2_OL none [] [] 8 [(5, [some (.inr (.inr (.inl 210))), some (.inl (ck_one 0)), some (.inl (0, 2400, [])), some (.inl (ck_one 2400))], ([], [], []), 100, .inl 2, true)] 130 pl_s783 = true := by decide +kernel
theorem pl_s783_s {X : Int → Int} {LX : Nat} : ck_Ok p2_OL X LX 8 pl_s783 := ck_ok_s ⟨pl_nmu, ck_E0⟩ ck_X0 ck_l0 pl_s783_e
set_option maxRecDepth 100000 in
/-- GlacierMail$Rows.reset -/
def pl_s784 : ck_Sum := ((1, 0, 0), 249, [.inr (.inr (.inl 209)), .inl (0, 8, [])], ([], [], []), ([(209, 3, 3), (210, 0, 2399)], []), [(.inr none, 249, ([], [], []))])
set_option maxRecDepth 100000 in
theorem pl_s784_s {X : Int → Int} {LX : Nat} : ck_Ok p2_OL X LX 25 pl_s784 := ck_ok_s (O := p2_OL) (X := X) (LX := LX) (E := [(8, [pl_s783])]) (mi := 25) (cuts := []) (f := 96) (S := pl_s784) (lx := none) (XF := []) ⟨pl_nmu, ck_E1 (ck_S1 pl_s783_s ck_S0) ck_E0⟩ ck_X0 ck_l0 (by decide +kernel)
set_option maxRecDepth 100000 in
/-- java/util/Arrays.fill -/
def pl_s785 : ck_Sum := ((0, 0, 0), 249, [.inr (.inr (.inl 212)), .inl (ck_one 0)], ([], [], []), ([(212, 0, 2399)], []), [(.inr none, 249, ([], [], []))])
set_option maxRecDepth 100000 in
theorem pl_s785_e : ck_ok p2_OL none [] [] 8 [(5, [some (.inr (.inr (.inl 212))), some (.inl (ck_one 0)), some (.inl (0, 2400, [])), some (.inl (ck_one 2400))], ([], [], []), 100, .inl 2, true)] 130 pl_s785 = true := by decide +kernel
theorem pl_s785_s {X : Int → Int} {LX : Nat} : ck_Ok p2_OL X LX 8 pl_s785 := ck_ok_s ⟨pl_nmu, ck_E0⟩ ck_X0 ck_l0 pl_s785_e
set_option maxRecDepth 100000 in
/-- GlacierMail$Rows.reset -/
def pl_s786 : ck_Sum := ((1, 0, 0), 249, [.inr (.inr (.inl 211)), .inl (0, 8, [])], ([], [], []), ([(211, 3, 3), (212, 0, 2399)], []), [(.inr none, 249, ([], [], []))])
set_option maxRecDepth 100000 in
theorem pl_s786_s {X : Int → Int} {LX : Nat} : ck_Ok p2_OL X LX 25 pl_s786 := ck_ok_s (O := p2_OL) (X := X) (LX := LX) (E := [(8, [pl_s785])]) (mi := 25) (cuts := []) (f := 96) (S := pl_s786) (lx := none) (XF := []) ⟨pl_nmu, ck_E1 (ck_S1 pl_s785_s ck_S0) ck_E0⟩ ck_X0 ck_l0 (by decide +kernel)
set_option maxRecDepth 100000 in
/-- GlacierMail$Rows.get -/
def pl_s787 : ck_Sum := ((0, 0, 0), 249, [.inr (.inr (.inl 209)), .inl ((-2147483648), 2147483647, []), .inl ((-2147483648), 2147483647, [])], ([], [], []), ([], []), [(.inr (some (.inl ((-2147483648), 2147483647, []))), 249, ([], [], []))])
set_option maxRecDepth 100000 in
theorem pl_s787_s {X : Int → Int} {LX : Nat} : ck_Ok p2_OL X LX 10 pl_s787 := ck_ok_s (O := p2_OL) (X := X) (LX := LX) (E := []) (mi := 10) (cuts := []) (f := 114) (S := pl_s787) (lx := none) (XF := []) ⟨pl_nmu, ck_E0⟩ ck_X0 ck_l0 (by decide +kernel)
set_option maxRecDepth 100000 in
/-- GlacierMail$Rows.put -/
def pl_s788 : ck_Sum := ((0, 0, 0), 249, [.inr (.inr (.inl 211)), .inl (0, 7, []), .inl (0, 299, []), .inl ((-2147483648), 299, [])], ([], [], []), ([(212, 0, 2399)], []), [(.inr none, 249, ([], [], []))])
set_option maxRecDepth 100000 in
theorem pl_s788_s {X : Int → Int} {LX : Nat} : ck_Ok p2_OL X LX 45 pl_s788 := ck_ok_s (O := p2_OL) (X := X) (LX := LX) (E := []) (mi := 45) (cuts := []) (f := 116) (S := pl_s788) (lx := none) (XF := []) ⟨pl_nmu, ck_E0⟩ ck_X0 ck_l0 (by decide +kernel)
set_option maxRecDepth 100000 in
/-- GlacierMail$Rows.put -/
def pl_s789 : ck_Sum := ((0, 0, 0), 249, [.inr (.inr (.inl 209)), .inl (0, 7, []), .inl ((-2147483648), 299, []), .inl (ck_one 1)], ([], [], []), ([(210, 0, 2399)], []), [(.inr none, 249, ([], [], []))])
set_option maxRecDepth 100000 in
theorem pl_s789_s {X : Int → Int} {LX : Nat} : ck_Ok p2_OL X LX 45 pl_s789 := ck_ok_s (O := p2_OL) (X := X) (LX := LX) (E := []) (mi := 45) (cuts := []) (f := 116) (S := pl_s789) (lx := none) (XF := []) ⟨pl_nmu, ck_E0⟩ ck_X0 ck_l0 (by decide +kernel)
set_option maxRecDepth 100000 in
/-- GlacierMail$Answers.throwAgain -/
def pl_s790 : ck_Sum := ((5, 0, 0), 249, [.inr (.inr (.inl 208)), .inl (0, 7, []), .inl (0, 299, []), .inl (ck_one 1), .inl (ck_one 299)], ([], [(3, 8, 246)], []), (zl249, []), [(.inr none, 249, ([], [], [(206, 4, 4, ck_one (-1))]))])
set_option maxRecDepth 100000 in
theorem pl_s790_e : ck_ok p2_OL none [] [(10, [pl_s224, pl_s787]), (170, [pl_s697]), (30, [pl_s214]), (45, [pl_s788, pl_s789]), (9, [pl_s189])] 203 [(59, [some (.inr (.inr (.inl 208))), some (.inl (0, 7, [])), some (.inl (0, 299, [])), some (.inl (ck_one 1)), some (.inl (ck_one 299)), some (.inr (.inr (.inl 8))), some (.inl ((-1), 98, [])), some (.inl ((-2147483648), 299, [])), some (.inl (0, 8, [])), none], ([], [(3, 8, 246)], [(206, 4, 4, ck_one (-1))]), 100, .inl 8, true)] 214 pl_s790 = true := by decide +kernel
theorem pl_s790_s {X : Int → Int} {LX : Nat} : ck_Ok p2_OL X LX 203 pl_s790 := ck_ok_s ⟨pl_nmu, ck_E1 (ck_S1 pl_s224_s (ck_S1 pl_s787_s ck_S0)) (ck_E1 (ck_S1 pl_s697_s ck_S0) (ck_E1 (ck_S1 pl_s214_s ck_S0) (ck_E1 (ck_S1 pl_s788_s (ck_S1 pl_s789_s ck_S0)) (ck_E1 (ck_S1 pl_s189_s ck_S0) ck_E0))))⟩ ck_X0 ck_l0 pl_s790_e
set_option maxRecDepth 100000 in
/-- GlacierMail$Rows.put -/
def pl_s791 : ck_Sum := ((0, 0, 0), 249, [.inr (.inr (.inl 211)), .inl (0, 7, []), .inl (2, 299, []), .inl ((-2147483648), 299, [])], ([], [], []), (zl198, []), [(.inr none, 249, ([], [], []))])
set_option maxRecDepth 100000 in
theorem pl_s791_s {X : Int → Int} {LX : Nat} : ck_Ok p2_OL X LX 45 pl_s791 := ck_ok_s (O := p2_OL) (X := X) (LX := LX) (E := []) (mi := 45) (cuts := []) (f := 116) (S := pl_s791) (lx := none) (XF := []) ⟨pl_nmu, ck_E0⟩ ck_X0 ck_l0 (by decide +kernel)
set_option maxRecDepth 100000 in
/-- GlacierMail$Rows.put -/
def pl_s792 : ck_Sum := ((0, 0, 0), 249, [.inr (.inr (.inl 209)), .inl (0, 7, []), .inl ((-2147483648), 299, []), .inl ((-2147483648), 2147483647, [])], ([], [], []), ([(210, 0, 2399)], []), [(.inr none, 249, ([], [], []))])
set_option maxRecDepth 100000 in
theorem pl_s792_s {X : Int → Int} {LX : Nat} : ck_Ok p2_OL X LX 45 pl_s792 := ck_ok_s (O := p2_OL) (X := X) (LX := LX) (E := []) (mi := 45) (cuts := []) (f := 116) (S := pl_s792) (lx := none) (XF := []) ⟨pl_nmu, ck_E0⟩ ck_X0 ck_l0 (by decide +kernel)
set_option maxRecDepth 100000 in
/-- GlacierMail$Answers.throwAgain -/
def pl_s793 : ck_Sum := ((5, 0, 0), 249, [.inr (.inr (.inl 208)), .inl (0, 7, []), .inl (2, 299, []), .inl ((-2147483648), 2147483647, []), .inl (ck_one 299)], ([], [(3, 8, 246)], []), (zl250, []), [(.inr none, 249, ([], [], [(206, 4, 4, ck_one (-1))]))])
set_option maxRecDepth 100000 in
theorem pl_s793_e : ck_ok p2_OL none [] [(10, [pl_s224, pl_s787]), (170, [pl_s697]), (30, [pl_s214]), (45, [pl_s791, pl_s792]), (9, [pl_s189])] 203 [(59, [some (.inr (.inr (.inl 208))), some (.inl (0, 7, [])), some (.inl (2, 299, [])), some (.inl ((-2147483648), 2147483647, [])), some (.inl (ck_one 299)), some (.inr (.inr (.inl 8))), some (.inl ((-1), 98, [])), some (.inl ((-2147483648), 299, [])), some (.inl (0, 8, [])), none], ([], [(3, 8, 246)], [(206, 4, 4, ck_one (-1))]), 100, .inl 8, true)] 214 pl_s793 = true := by decide +kernel
theorem pl_s793_s {X : Int → Int} {LX : Nat} : ck_Ok p2_OL X LX 203 pl_s793 := ck_ok_s ⟨pl_nmu, ck_E1 (ck_S1 pl_s224_s (ck_S1 pl_s787_s ck_S0)) (ck_E1 (ck_S1 pl_s697_s ck_S0) (ck_E1 (ck_S1 pl_s214_s ck_S0) (ck_E1 (ck_S1 pl_s791_s (ck_S1 pl_s792_s ck_S0)) (ck_E1 (ck_S1 pl_s189_s ck_S0) ck_E0))))⟩ ck_X0 ck_l0 pl_s793_e
set_option maxRecDepth 100000 in
/-- GlacierMail$Answers.spread -/
def pl_s794 : ck_Sum := ((6, 0, 0), 249, [.inr (.inr (.inl 208)), .inl (0, 7, []), .inl (0, 7, []), .inl (ck_one 299)], ([], [(3, 8, 246)], [(3, 6, 6, (0, 299, [(10, 0)]))]), (zl251, []), [(.inr none, 249, ([], [], [(206, 4, 4, ck_one (-1))]))])
set_option maxRecDepth 100000 in
theorem pl_s794_e : ck_ok p2_OL none [] [(9, [pl_s189]), (25, [pl_s784, pl_s786]), (203, [pl_s790, pl_s793]), (10, [pl_s787])] 202 [(59, [some (.inr (.inr (.inl 208))), some (.inl (0, 7, [])), some (.inl (0, 7, [])), some (.inl (ck_one 299)), some (.inl (1, 300, [(1000010, 1)])), none, none], ([], [(3, 8, 246)], [(206, 4, 4, ck_one (-1)), (3, 6, 6, (0, 299, [(10, 0)]))]), 100, .inl 4, true), (82, [some (.inr (.inr (.inl 208))), some (.inl (0, 7, [])), some (.inl (0, 7, [])), some (.inl (ck_one 299)), some (.inl (1, 298, [(100, 0), (1000010, 1)])), some (.inl (0, 8, [])), none], ([], [(3, 8, 246)], [(206, 4, 4, ck_one (-1)), (3, 6, 6, (0, 299, [(10, 0)]))]), 300, .inl 5, true)] 284 pl_s794 = true := by decide +kernel
theorem pl_s794_s {X : Int → Int} {LX : Nat} : ck_Ok p2_OL X LX 202 pl_s794 := ck_ok_s ⟨pl_nmu, ck_E1 (ck_S1 pl_s189_s ck_S0) (ck_E1 (ck_S1 pl_s784_s (ck_S1 pl_s786_s ck_S0)) (ck_E1 (ck_S1 pl_s790_s (ck_S1 pl_s793_s ck_S0)) (ck_E1 (ck_S1 pl_s787_s ck_S0) ck_E0)))⟩ ck_X0 ck_l0 pl_s794_e
set_option maxRecDepth 100000 in
/-- GlacierMail$Answers.firstYear -/
def pl_s795 : ck_Sum := ((1, 0, 0), 249, [.inr (.inr (.inl 208)), .inl (0, 7, [])], ([], [], []), ([], []), [(.inr (some (.inl (ck_one (-1)))), 249, ([], [], [])), (.inr (some (.inl (0, 299, []))), 249, ([], [], []))])
set_option maxRecDepth 100000 in
theorem pl_s795_e : ck_ok p2_OL none [] [(10, [pl_s787])] 204 [(2, [some (.inr (.inr (.inl 208))), some (.inl (0, 7, [])), some (.inl (0, 300, []))], ([], [], []), 100, .inl 2, true)] 138 pl_s795 = true := by decide +kernel
theorem pl_s795_s {X : Int → Int} {LX : Nat} : ck_Ok p2_OL X LX 204 pl_s795 := ck_ok_s ⟨pl_nmu, ck_E1 (ck_S1 pl_s787_s ck_S0) ck_E0⟩ ck_X0 ck_l0 pl_s795_e
set_option maxRecDepth 100000 in
/-- GlacierMail$Answers.fewestThrows -/
def pl_s796 : ck_Sum := ((1, 0, 0), 249, [.inr (.inr (.inl 208)), .inl (0, 7, []), .inl (0, 299, [])], ([], [], []), ([], []), [(.inr (some (.inl ((-2147483648), 2147483647, []))), 249, ([], [], []))])
set_option maxRecDepth 100000 in
theorem pl_s796_s {X : Int → Int} {LX : Nat} : ck_Ok p2_OL X LX 205 pl_s796 := ck_ok_s (O := p2_OL) (X := X) (LX := LX) (E := [(10, [pl_s787])]) (mi := 205) (cuts := []) (f := 82) (S := pl_s796) (lx := none) (XF := []) ⟨pl_nmu, ck_E1 (ck_S1 pl_s787_s ck_S0) ck_E0⟩ ck_X0 ck_l0 (by decide +kernel)
set_option maxRecDepth 100000 in
/-- GlacierMail.soonest -/
def pl_s797 : ck_Sum := ((8, 3, 18), 249, [.inr (.inr (.inl 1)), .inl (0, 7, []), .inl (0, 7, []), .inl (0, 1, [])], ([], [(3, 8, 246)], [(3, 6, 6, (0, 299, [(10, 0)]))]), (zl251, []), [(.inl 3, 249, ([], [], [])), (.inl 0, 249, ([], [], [])), (.inr (some (.inl ((-2147483648), 2147483647, []))), 249, ([], [], [(206, 4, 4, ck_one (-1))])), (.inr (some (.inl (0, 299, []))), 249, ([], [], [(206, 4, 4, ck_one (-1))]))])
set_option maxRecDepth 100000 in
theorem pl_s797_s {X : Int → Int} {LX : Nat} : ck_Ok p2_OL X LX 201 pl_s797 := ck_ok_s (O := p2_OL) (X := X) (LX := LX) (E := [(139, [pl_s197]), (153, [pl_s254]), (202, [pl_s794]), (204, [pl_s795]), (205, [pl_s796])]) (mi := 201) (cuts := []) (f := 136) (S := pl_s797) (lx := none) (XF := []) ⟨pl_nmu, ck_E1 (ck_S1 pl_s197_s ck_S0) (ck_E1 (ck_S1 pl_s254_s ck_S0) (ck_E1 (ck_S1 pl_s794_s ck_S0) (ck_E1 (ck_S1 pl_s795_s ck_S0) (ck_E1 (ck_S1 pl_s796_s ck_S0) ck_E0))))⟩ ck_X0 ck_l0 (by decide +kernel)
set_option maxRecDepth 100000 in
/-- GlacierMail.chain -/
def pl_s798 : ck_Sum := ((8, 1, 6), 249, [.inr (.inr (.inl 1)), .inl ((-2147483648), (-1), []), .inl ((-2147483648), 2147483647, []), .inl ((-2147483648), 2147483647, [])], ([], [], []), ([], []), [(.inl 3, 249, ([], [], []))])
set_option maxRecDepth 100000 in
theorem pl_s798_s {X : Int → Int} {LX : Nat} : ck_Ok p2_OL X LX 207 pl_s798 := ck_ok_s (O := p2_OL) (X := X) (LX := LX) (E := [(139, [pl_s191])]) (mi := 207) (cuts := []) (f := 76) (S := pl_s798) (lx := none) (XF := []) ⟨pl_nmu, ck_E1 (ck_S1 pl_s191_s ck_S0) ck_E0⟩ ck_X0 ck_l0 (by decide +kernel)
set_option maxRecDepth 100000 in
/-- GlacierMail.chain -/
def pl_s799 : ck_Sum := ((8, 1, 6), 249, [.inr (.inr (.inl 1)), .inl (8, 2147483647, []), .inl ((-2147483648), 2147483647, []), .inl ((-2147483648), 2147483647, [])], ([], [], []), ([], []), [(.inl 3, 249, ([], [], []))])
set_option maxRecDepth 100000 in
theorem pl_s799_s {X : Int → Int} {LX : Nat} : ck_Ok p2_OL X LX 207 pl_s799 := ck_ok_s (O := p2_OL) (X := X) (LX := LX) (E := [(139, [pl_s194])]) (mi := 207) (cuts := []) (f := 76) (S := pl_s799) (lx := none) (XF := []) ⟨pl_nmu, ck_E1 (ck_S1 pl_s194_s ck_S0) ck_E0⟩ ck_X0 ck_l0 (by decide +kernel)
set_option maxRecDepth 100000 in
/-- GlacierMail.chain -/
def pl_s800 : ck_Sum := ((8, 2, 12), 249, [.inr (.inr (.inl 1)), .inl (0, 7, []), .inl ((-2147483648), (-1), []), .inl ((-2147483648), 2147483647, [])], ([], [], []), ([], []), [(.inl 3, 249, ([], [], []))])
set_option maxRecDepth 100000 in
theorem pl_s800_s {X : Int → Int} {LX : Nat} : ck_Ok p2_OL X LX 207 pl_s800 := ck_ok_s (O := p2_OL) (X := X) (LX := LX) (E := [(139, [pl_s197, pl_s191])]) (mi := 207) (cuts := []) (f := 82) (S := pl_s800) (lx := none) (XF := []) ⟨pl_nmu, ck_E1 (ck_S1 pl_s197_s (ck_S1 pl_s191_s ck_S0)) ck_E0⟩ ck_X0 ck_l0 (by decide +kernel)
set_option maxRecDepth 100000 in
/-- GlacierMail.chain -/
def pl_s801 : ck_Sum := ((8, 2, 12), 249, [.inr (.inr (.inl 1)), .inl (0, 7, []), .inl (8, 2147483647, []), .inl ((-2147483648), 2147483647, [])], ([], [], []), ([], []), [(.inl 3, 249, ([], [], []))])
set_option maxRecDepth 100000 in
theorem pl_s801_s {X : Int → Int} {LX : Nat} : ck_Ok p2_OL X LX 207 pl_s801 := ck_ok_s (O := p2_OL) (X := X) (LX := LX) (E := [(139, [pl_s197, pl_s194])]) (mi := 207) (cuts := []) (f := 82) (S := pl_s801) (lx := none) (XF := []) ⟨pl_nmu, ck_E1 (ck_S1 pl_s197_s (ck_S1 pl_s194_s ck_S0)) ck_E0⟩ ck_X0 ck_l0 (by decide +kernel)
set_option maxRecDepth 100000 in
/-- GlacierMail$Rows.get -/
def pl_s802 : ck_Sum := ((0, 0, 0), 249, [.inr (.inr (.inl 211)), .inl ((-2147483648), 2147483647, []), .inl ((-2147483648), 2147483647, [])], ([], [], []), ([], []), [(.inr (some (.inl ((-2147483648), 299, []))), 249, ([], [], []))])
set_option maxRecDepth 100000 in
theorem pl_s802_s {X : Int → Int} {LX : Nat} : ck_Ok p2_OL X LX 10 pl_s802 := ck_ok_s (O := p2_OL) (X := X) (LX := LX) (E := []) (mi := 10) (cuts := []) (f := 114) (S := pl_s802) (lx := none) (XF := []) ⟨pl_nmu, ck_E0⟩ ck_X0 ck_l0 (by decide +kernel)
set_option maxRecDepth 100000 in
/-- GlacierMail$Answers.throwAhead -/
def pl_s803 : ck_Sum := ((1, 0, 0), 249, [.inr (.inr (.inl 208)), .inl (0, 2398, []), .inl (0, 299, []), .inl (1, 2147483646, [])], ([], [], [(3, 6, 6, (0, 299, [(10, 0)]))]), ([], []), [(.inr (some (.inl (0, 2398, []))), 249, ([], [], []))])
set_option maxRecDepth 100000 in
theorem pl_s803_e : ck_ok p2_OL none [] [(10, [pl_s224, pl_s787, pl_s802]), (9, [pl_s189])] 209 [(17, [some (.inr (.inr (.inl 208))), some (.inl (0, 2398, [])), some (.inl (0, 299, [])), some (.inl (1, 2147483646, [])), some (.inl ((-1), 98, [])), some (.inl (0, 9, [])), none], ([], [], [(3, 6, 6, (0, 299, [(10, 0)]))]), 100, .inl 5, true), (59, [some (.inr (.inr (.inl 208))), some (.inl (0, 2398, [])), some (.inl (0, 299, [])), some (.inl (1, 2147483646, [])), some (.inl ((-1), 98, [])), some (.inl (0, 7, [(100, 0)])), some (.inl (0, 299, [(1000010, 0)]))], ([], [], [(3, 6, 6, (0, 299, [(10, 0)]))]), 300, .inl 6, true)] 260 pl_s803 = true := by decide +kernel
theorem pl_s803_s {X : Int → Int} {LX : Nat} : ck_Ok p2_OL X LX 209 pl_s803 := ck_ok_s ⟨pl_nmu, ck_E1 (ck_S1 pl_s224_s (ck_S1 pl_s787_s (ck_S1 pl_s802_s ck_S0))) (ck_E1 (ck_S1 pl_s189_s ck_S0) ck_E0)⟩ ck_X0 ck_l0 pl_s803_e
set_option maxRecDepth 100000 in
/-- GlacierMail$Answers.holder -/
def pl_s804 : ck_Sum := ((2, 0, 0), 249, [.inr (.inr (.inl 208)), .inl (0, 7, []), .inl (0, 7, []), .inl (ck_one 0)], ([], [], [(3, 6, 6, (0, 299, [(10, 0)]))]), ([], []), [(.inr (some (.inl (ck_one (-1)))), 249, ([], [], [])), (.inr (some (.inl (0, 7, []))), 249, ([], [], []))])
set_option maxRecDepth 100000 in
theorem pl_s804_e : ck_ok p2_OL none [] [(204, [pl_s795]), (10, [pl_s787]), (209, [pl_s803])] 208 [(44, [some (.inr (.inr (.inl 208))), some (.inl (0, 7, [])), some (.inl (0, 7, [])), some (.inl (ck_one 0)), some (.inl (0, 299, [])), some (.inl (0, 2398, [])), some (.inl (0, 2147483647, [])), some (.inl (0, 2147483647, [])), none], ([], [], [(3, 6, 6, (0, 299, [(10, 0)]))]), 100, .inl 7, false)] 190 pl_s804 = true := by decide +kernel
theorem pl_s804_s {X : Int → Int} {LX : Nat} : ck_Ok p2_OL X LX 208 pl_s804 := ck_ok_s ⟨pl_nmu, ck_E1 (ck_S1 pl_s795_s ck_S0) (ck_E1 (ck_S1 pl_s787_s ck_S0) (ck_E1 (ck_S1 pl_s803_s ck_S0) ck_E0))⟩ ck_X0 ck_l0 pl_s804_e
set_option maxRecDepth 100000 in
/-- GlacierMail.chain -/
def pl_s805 : ck_Sum := ((8, 4, 24), 249, [.inr (.inr (.inl 1)), .inl (0, 7, []), .inl (0, 7, []), .inl ((-2147483648), 0, [])], ([], [(3, 8, 246)], [(3, 6, 6, (0, 299, [(10, 0)]))]), (zl251, []), [(.inl 3, 249, ([], [], [])), (.inl 0, 249, ([], [], [])), (.inr (some (.inl (ck_one (-1)))), 249, ([], [], [(206, 4, 4, ck_one (-1))])), (.inr (some (.inl (0, 7, []))), 249, ([], [], [(206, 4, 4, ck_one (-1))]))])
set_option maxRecDepth 100000 in
theorem pl_s805_s {X : Int → Int} {LX : Nat} : ck_Ok p2_OL X LX 207 pl_s805 := ck_ok_s (O := p2_OL) (X := X) (LX := LX) (E := [(139, [pl_s197]), (153, [pl_s254]), (202, [pl_s794]), (208, [pl_s804])]) (mi := 207) (cuts := []) (f := 120) (S := pl_s805) (lx := none) (XF := []) ⟨pl_nmu, ck_E1 (ck_S1 pl_s197_s ck_S0) (ck_E1 (ck_S1 pl_s254_s ck_S0) (ck_E1 (ck_S1 pl_s794_s ck_S0) (ck_E1 (ck_S1 pl_s804_s ck_S0) ck_E0)))⟩ ck_X0 ck_l0 (by decide +kernel)
set_option maxRecDepth 100000 in
/-- GlacierMail$Answers.throwAhead -/
def pl_s806 : ck_Sum := ((1, 0, 0), 249, [.inr (.inr (.inl 208)), .inl (0, 2398, []), .inl (0, 299, []), .inl (51, 2147483646, [])], ([], [], [(3, 6, 6, (0, 299, [(10, 0)]))]), ([], []), [(.inr (some (.inl (0, 2398, []))), 249, ([], [], []))])
set_option maxRecDepth 100000 in
theorem pl_s806_e : ck_ok p2_OL none [] [(10, [pl_s224, pl_s787, pl_s802]), (9, [pl_s189])] 209 [(17, [some (.inr (.inr (.inl 208))), some (.inl (0, 2398, [])), some (.inl (0, 299, [])), some (.inl (51, 2147483646, [])), some (.inl ((-1), 98, [])), some (.inl (0, 9, [])), none], ([], [], [(3, 6, 6, (0, 299, [(10, 0)]))]), 100, .inl 5, true), (59, [some (.inr (.inr (.inl 208))), some (.inl (0, 2398, [])), some (.inl (0, 299, [])), some (.inl (51, 2147483646, [])), some (.inl ((-1), 98, [])), some (.inl (0, 7, [(100, 0)])), some (.inl (0, 299, [(1000010, 0)]))], ([], [], [(3, 6, 6, (0, 299, [(10, 0)]))]), 300, .inl 6, true)] 260 pl_s806 = true := by decide +kernel
theorem pl_s806_s {X : Int → Int} {LX : Nat} : ck_Ok p2_OL X LX 209 pl_s806 := ck_ok_s ⟨pl_nmu, ck_E1 (ck_S1 pl_s224_s (ck_S1 pl_s787_s (ck_S1 pl_s802_s ck_S0))) (ck_E1 (ck_S1 pl_s189_s ck_S0) ck_E0)⟩ ck_X0 ck_l0 pl_s806_e
set_option maxRecDepth 100000 in
/-- GlacierMail$Answers.holder -/
def pl_s807 : ck_Sum := ((2, 0, 0), 249, [.inr (.inr (.inl 208)), .inl (0, 7, []), .inl (0, 7, []), .inl (51, 2147483647, [])], ([], [], [(3, 6, 6, (0, 299, [(10, 0)]))]), ([], []), [(.inr (some (.inl (ck_one (-1)))), 249, ([], [], [])), (.inr (some (.inl (0, 2398, []))), 249, ([], [], []))])
set_option maxRecDepth 100000 in
theorem pl_s807_e : ck_ok p2_OL none [] [(204, [pl_s795]), (10, [pl_s787]), (209, [pl_s806])] 208 [(44, [some (.inr (.inr (.inl 208))), some (.inl (0, 7, [])), some (.inl (0, 7, [])), some (.inl (51, 2147483647, [])), some (.inl (0, 299, [])), some (.inl (0, 2398, [])), some (.inl (51, 2147483647, [])), some (.inl (51, 2147483647, [])), none], ([], [], [(3, 6, 6, (0, 299, [(10, 0)]))]), 100, .inl 7, false)] 190 pl_s807 = true := by decide +kernel
theorem pl_s807_s {X : Int → Int} {LX : Nat} : ck_Ok p2_OL X LX 208 pl_s807 := ck_ok_s ⟨pl_nmu, ck_E1 (ck_S1 pl_s795_s ck_S0) (ck_E1 (ck_S1 pl_s787_s ck_S0) (ck_E1 (ck_S1 pl_s806_s ck_S0) ck_E0))⟩ ck_X0 ck_l0 pl_s807_e
set_option maxRecDepth 100000 in
/-- GlacierMail.chain -/
def pl_s808 : ck_Sum := ((8, 3, 18), 249, [.inr (.inr (.inl 1)), .inl (0, 7, []), .inl (0, 7, []), .inl (51, 2147483647, [])], ([], [(3, 8, 246)], [(3, 6, 6, (0, 299, [(10, 0)]))]), (zl251, []), zl252)
set_option maxRecDepth 100000 in
theorem pl_s808_s {X : Int → Int} {LX : Nat} : ck_Ok p2_OL X LX 207 pl_s808 := ck_ok_s (O := p2_OL) (X := X) (LX := LX) (E := [(139, [pl_s197]), (153, [pl_s254]), (202, [pl_s794]), (208, [pl_s807])]) (mi := 207) (cuts := []) (f := 120) (S := pl_s808) (lx := none) (XF := []) ⟨pl_nmu, ck_E1 (ck_S1 pl_s197_s ck_S0) (ck_E1 (ck_S1 pl_s254_s ck_S0) (ck_E1 (ck_S1 pl_s794_s ck_S0) (ck_E1 (ck_S1 pl_s807_s ck_S0) ck_E0)))⟩ ck_X0 ck_l0 (by decide +kernel)
set_option maxRecDepth 100000 in
/-- GlacierMail$Answers.holder -/
def pl_s809 : ck_Sum := ((2, 0, 0), 249, [.inr (.inr (.inl 208)), .inl (0, 7, []), .inl (0, 7, []), .inl (1, 50, [])], ([], [], [(3, 6, 6, (0, 299, [(10, 0)]))]), ([], []), [(.inr (some (.inl (ck_one (-1)))), 249, ([], [], [])), (.inr (some (.inl (0, 2398, []))), 249, ([], [], []))])
set_option maxRecDepth 100000 in
theorem pl_s809_e : ck_ok p2_OL none [] [(204, [pl_s795]), (10, [pl_s787]), (209, [pl_s803])] 208 [(44, [some (.inr (.inr (.inl 208))), some (.inl (0, 7, [])), some (.inl (0, 7, [])), some (.inl (1, 50, [])), some (.inl (0, 299, [])), some (.inl (0, 2398, [])), some (.inl (1, 2147483647, [])), some (.inl (1, 2147483647, [])), none], ([], [], [(3, 6, 6, (0, 299, [(10, 0)]))]), 100, .inl 7, false)] 190 pl_s809 = true := by decide +kernel
theorem pl_s809_s {X : Int → Int} {LX : Nat} : ck_Ok p2_OL X LX 208 pl_s809 := ck_ok_s ⟨pl_nmu, ck_E1 (ck_S1 pl_s795_s ck_S0) (ck_E1 (ck_S1 pl_s787_s ck_S0) (ck_E1 (ck_S1 pl_s803_s ck_S0) ck_E0))⟩ ck_X0 ck_l0 pl_s809_e
set_option maxRecDepth 100000 in
/-- GlacierMail.chain -/
def pl_s810 : ck_Sum := ((8, 3, 18), 249, [.inr (.inr (.inl 1)), .inl (0, 7, []), .inl (0, 7, []), .inl (1, 50, [])], ([], [(3, 8, 246)], [(3, 6, 6, (0, 299, [(10, 0)]))]), (zl251, []), zl252)
set_option maxRecDepth 100000 in
theorem pl_s810_s {X : Int → Int} {LX : Nat} : ck_Ok p2_OL X LX 207 pl_s810 := ck_ok_s (O := p2_OL) (X := X) (LX := LX) (E := [(139, [pl_s197]), (153, [pl_s254]), (202, [pl_s794]), (208, [pl_s809])]) (mi := 207) (cuts := []) (f := 120) (S := pl_s810) (lx := none) (XF := []) ⟨pl_nmu, ck_E1 (ck_S1 pl_s197_s ck_S0) (ck_E1 (ck_S1 pl_s254_s ck_S0) (ck_E1 (ck_S1 pl_s794_s ck_S0) (ck_E1 (ck_S1 pl_s809_s ck_S0) ck_E0)))⟩ ck_X0 ck_l0 (by decide +kernel)
set_option maxRecDepth 100000 in
/-- GlacierMail.reached -/
def pl_s811 : ck_Sum := ((8, 1, 6), 249, [.inr (.inr (.inl 1)), .inl ((-2147483648), (-1), []), .inl ((-2147483648), 2147483647, [])], ([], [], []), ([], []), [(.inl 3, 249, ([], [], []))])
set_option maxRecDepth 100000 in
theorem pl_s811_s {X : Int → Int} {LX : Nat} : ck_Ok p2_OL X LX 211 pl_s811 := ck_ok_s (O := p2_OL) (X := X) (LX := LX) (E := [(139, [pl_s191])]) (mi := 211) (cuts := []) (f := 76) (S := pl_s811) (lx := none) (XF := []) ⟨pl_nmu, ck_E1 (ck_S1 pl_s191_s ck_S0) ck_E0⟩ ck_X0 ck_l0 (by decide +kernel)
set_option maxRecDepth 100000 in
/-- GlacierMail.reached -/
def pl_s812 : ck_Sum := ((8, 1, 6), 249, [.inr (.inr (.inl 1)), .inl (8, 2147483647, []), .inl ((-2147483648), 2147483647, [])], ([], [], []), ([], []), [(.inl 3, 249, ([], [], []))])
set_option maxRecDepth 100000 in
theorem pl_s812_s {X : Int → Int} {LX : Nat} : ck_Ok p2_OL X LX 211 pl_s812 := ck_ok_s (O := p2_OL) (X := X) (LX := LX) (E := [(139, [pl_s194])]) (mi := 211) (cuts := []) (f := 76) (S := pl_s812) (lx := none) (XF := []) ⟨pl_nmu, ck_E1 (ck_S1 pl_s194_s ck_S0) ck_E0⟩ ck_X0 ck_l0 (by decide +kernel)
set_option maxRecDepth 100000 in
/-- GlacierMail.reached -/
def pl_s813 : ck_Sum := ((8, 2, 12), 249, [.inr (.inr (.inl 1)), .inl (0, 7, []), .inl ((-2147483648), (-1), [])], ([], [], []), ([], []), [(.inl 3, 249, ([], [], [])), (.inl 0, 249, ([], [], []))])
set_option maxRecDepth 100000 in
theorem pl_s813_s {X : Int → Int} {LX : Nat} : ck_Ok p2_OL X LX 211 pl_s813 := ck_ok_s (O := p2_OL) (X := X) (LX := LX) (E := [(139, [pl_s197]), (129, [pl_s145])]) (mi := 211) (cuts := []) (f := 82) (S := pl_s813) (lx := none) (XF := []) ⟨pl_nmu, ck_E1 (ck_S1 pl_s197_s ck_S0) (ck_E1 (ck_S1 pl_s145_s ck_S0) ck_E0)⟩ ck_X0 ck_l0 (by decide +kernel)
set_option maxRecDepth 100000 in
/-- GlacierMail.reached -/
def pl_s814 : ck_Sum := ((8, 2, 12), 249, [.inr (.inr (.inl 1)), .inl (0, 7, []), .inl (300, 2147483647, [])], ([], [], []), ([], []), [(.inl 3, 249, ([], [], [])), (.inl 0, 249, ([], [], []))])
set_option maxRecDepth 100000 in
theorem pl_s814_s {X : Int → Int} {LX : Nat} : ck_Ok p2_OL X LX 211 pl_s814 := ck_ok_s (O := p2_OL) (X := X) (LX := LX) (E := [(139, [pl_s197]), (129, [pl_s147])]) (mi := 211) (cuts := []) (f := 82) (S := pl_s814) (lx := none) (XF := []) ⟨pl_nmu, ck_E1 (ck_S1 pl_s197_s ck_S0) (ck_E1 (ck_S1 pl_s147_s ck_S0) ck_E0)⟩ ck_X0 ck_l0 (by decide +kernel)
set_option maxRecDepth 100000 in
/-- GlacierMail$Answers.throwAgain -/
def pl_s815 : ck_Sum := ((5, 0, 0), 249, [.inr (.inr (.inl 208)), .inl (0, 7, []), .inl (0, 299, []), .inl (ck_one 1), .inl (0, 299, [])], ([], [(3, 8, 246)], []), (zl249, []), [(.inr none, 249, ([], [], [(206, 4, 4, ck_one (-1))]))])
set_option maxRecDepth 100000 in
theorem pl_s815_e : ck_ok p2_OL none [] [(10, [pl_s224, pl_s787]), (170, [pl_s697]), (30, [pl_s214]), (45, [pl_s788, pl_s789]), (9, [pl_s189])] 203 [(59, [some (.inr (.inr (.inl 208))), some (.inl (0, 7, [])), some (.inl (0, 299, [])), some (.inl (ck_one 1)), some (.inl (0, 299, [])), some (.inr (.inr (.inl 8))), some (.inl ((-1), 98, [])), some (.inl ((-2147483648), 299, [])), some (.inl (0, 8, [])), none], ([], [(3, 8, 246)], [(206, 4, 4, ck_one (-1))]), 100, .inl 8, true)] 214 pl_s815 = true := by decide +kernel
theorem pl_s815_s {X : Int → Int} {LX : Nat} : ck_Ok p2_OL X LX 203 pl_s815 := ck_ok_s ⟨pl_nmu, ck_E1 (ck_S1 pl_s224_s (ck_S1 pl_s787_s ck_S0)) (ck_E1 (ck_S1 pl_s697_s ck_S0) (ck_E1 (ck_S1 pl_s214_s ck_S0) (ck_E1 (ck_S1 pl_s788_s (ck_S1 pl_s789_s ck_S0)) (ck_E1 (ck_S1 pl_s189_s ck_S0) ck_E0))))⟩ ck_X0 ck_l0 pl_s815_e
set_option maxRecDepth 100000 in
/-- GlacierMail$Answers.throwAgain -/
def pl_s816 : ck_Sum := ((5, 0, 0), 249, [.inr (.inr (.inl 208)), .inl (0, 7, []), .inl (2, 299, []), .inl ((-2147483648), 2147483647, []), .inl (2, 299, [])], ([], [(3, 8, 246)], []), (zl250, []), [(.inr none, 249, ([], [], [(206, 4, 4, ck_one (-1))]))])
set_option maxRecDepth 100000 in
theorem pl_s816_e : ck_ok p2_OL none [] [(10, [pl_s224, pl_s787]), (170, [pl_s697]), (30, [pl_s214]), (45, [pl_s791, pl_s792]), (9, [pl_s189])] 203 [(59, [some (.inr (.inr (.inl 208))), some (.inl (0, 7, [])), some (.inl (2, 299, [])), some (.inl ((-2147483648), 2147483647, [])), some (.inl (2, 299, [])), some (.inr (.inr (.inl 8))), some (.inl ((-1), 98, [])), some (.inl ((-2147483648), 299, [])), some (.inl (0, 8, [])), none], ([], [(3, 8, 246)], [(206, 4, 4, ck_one (-1))]), 100, .inl 8, true)] 214 pl_s816 = true := by decide +kernel
theorem pl_s816_s {X : Int → Int} {LX : Nat} : ck_Ok p2_OL X LX 203 pl_s816 := ck_ok_s ⟨pl_nmu, ck_E1 (ck_S1 pl_s224_s (ck_S1 pl_s787_s ck_S0)) (ck_E1 (ck_S1 pl_s697_s ck_S0) (ck_E1 (ck_S1 pl_s214_s ck_S0) (ck_E1 (ck_S1 pl_s791_s (ck_S1 pl_s792_s ck_S0)) (ck_E1 (ck_S1 pl_s189_s ck_S0) ck_E0))))⟩ ck_X0 ck_l0 pl_s816_e
set_option maxRecDepth 100000 in
/-- GlacierMail$Answers.spread -/
def pl_s817 : ck_Sum := ((6, 0, 0), 249, [.inr (.inr (.inl 208)), .inl (0, 7, []), .inl (ck_one (-1)), .inl (0, 299, [])], ([], [(3, 8, 246)], [(3, 6, 6, (0, 299, [(10, 0)]))]), (zl251, []), [(.inr none, 249, ([], [], [(206, 4, 4, ck_one (-1))]))])
set_option maxRecDepth 100000 in
theorem pl_s817_e : ck_ok p2_OL none [] [(9, [pl_s189]), (25, [pl_s784, pl_s786]), (203, [pl_s815, pl_s816]), (10, [pl_s787])] 202 [(59, [some (.inr (.inr (.inl 208))), some (.inl (0, 7, [])), some (.inl (ck_one (-1))), some (.inl (0, 299, [])), some (.inl (1, 300, [(1000010, 1)])), none, none], ([], [(3, 8, 246)], [(206, 4, 4, ck_one (-1)), (3, 6, 6, (0, 299, [(10, 0)]))]), 100, .inl 4, true), (82, [some (.inr (.inr (.inl 208))), some (.inl (0, 7, [])), some (.inl (ck_one (-1))), some (.inl (2, 299, [])), some (.inl (1, 298, [(100, 0), (1000010, 1)])), some (.inl (0, 8, [])), none], ([], [(3, 8, 246)], [(206, 4, 4, ck_one (-1)), (3, 6, 6, (0, 299, [(10, 0)]))]), 300, .inl 5, true)] 284 pl_s817 = true := by decide +kernel
theorem pl_s817_s {X : Int → Int} {LX : Nat} : ck_Ok p2_OL X LX 202 pl_s817 := ck_ok_s ⟨pl_nmu, ck_E1 (ck_S1 pl_s189_s ck_S0) (ck_E1 (ck_S1 pl_s784_s (ck_S1 pl_s786_s ck_S0)) (ck_E1 (ck_S1 pl_s815_s (ck_S1 pl_s816_s ck_S0)) (ck_E1 (ck_S1 pl_s787_s ck_S0) ck_E0)))⟩ ck_X0 ck_l0 pl_s817_e
set_option maxRecDepth 100000 in
/-- GlacierMail.reached -/
def pl_s818 : ck_Sum := ((8, 1, 6), 249, [.inr (.inr (.inl 1)), .inl (0, 7, []), .inl (0, 299, [])], ([], [(3, 8, 246)], [(3, 6, 6, (0, 299, [(10, 0)]))]), (zl251, []), [(.inl 3, 249, ([], [], [])), (.inr (some (.inl ((-2147483648), 2147483647, []))), 249, ([], [], [(206, 4, 4, ck_one (-1))]))])
set_option maxRecDepth 100000 in
theorem pl_s818_e : ck_ok p2_OL none [] [(139, [pl_s197]), (129, [pl_s149]), (202, [pl_s817]), (9, [pl_s189]), (204, [pl_s795])] 211 [(27, [some (.inr (.inr (.inl 1))), some (.inl (0, 7, [])), some (.inl (0, 299, [])), some (.inl ((-2147483648), 2147483647, [])), some (.inl (0, 8, []))], ([], [(3, 8, 246)], [(206, 4, 4, ck_one (-1)), (3, 6, 6, (0, 299, [(10, 0)]))]), 100, .inl 4, true)] 174 pl_s818 = true := by decide +kernel
theorem pl_s818_s {X : Int → Int} {LX : Nat} : ck_Ok p2_OL X LX 211 pl_s818 := ck_ok_s ⟨pl_nmu, ck_E1 (ck_S1 pl_s197_s ck_S0) (ck_E1 (ck_S1 pl_s149_s ck_S0) (ck_E1 (ck_S1 pl_s817_s ck_S0) (ck_E1 (ck_S1 pl_s189_s ck_S0) (ck_E1 (ck_S1 pl_s795_s ck_S0) ck_E0))))⟩ ck_X0 ck_l0 pl_s818_e
set_option maxRecDepth 100000 in
/-- GlacierMail.needThiefYears -/
def pl_s819 : ck_Sum := ((6, 1, 6), 249, [.inr (.inr (.inl 1)), .inl ((-2147483648), (-1), [])], ([], [], []), ([], []), [(.inl 0, 249, ([], [], []))])
set_option maxRecDepth 100000 in
theorem pl_s819_s {X : Int → Int} {LX : Nat} : ck_Ok p2_OL X LX 214 pl_s819 := ck_ok_s (O := p2_OL) (X := X) (LX := LX) (E := []) (mi := 214) (cuts := []) (f := 78) (S := pl_s819) (lx := none) (XF := []) ⟨pl_nmu, ck_E0⟩ ck_X0 ck_l0 (by decide +kernel)
set_option maxRecDepth 100000 in
/-- GlacierMail.thieves -/
def pl_s820 : ck_Sum := ((7, 1, 6), 249, [.inr (.inr (.inl 1)), .inl ((-2147483648), (-1), []), .inl (0, 1, [])], ([], [], []), ([], []), [(.inl 0, 249, ([], [], []))])
set_option maxRecDepth 100000 in
theorem pl_s820_s {X : Int → Int} {LX : Nat} : ck_Ok p2_OL X LX 213 pl_s820 := ck_ok_s (O := p2_OL) (X := X) (LX := LX) (E := [(214, [pl_s819])]) (mi := 213) (cuts := []) (f := 76) (S := pl_s820) (lx := none) (XF := []) ⟨pl_nmu, ck_E1 (ck_S1 pl_s819_s ck_S0) ck_E0⟩ ck_X0 ck_l0 (by decide +kernel)
set_option maxRecDepth 100000 in
/-- GlacierMail.needThiefYears -/
def pl_s821 : ck_Sum := ((6, 1, 6), 249, [.inr (.inr (.inl 1)), .inl (31, 2147483647, [])], ([], [], []), ([], []), [(.inl 0, 249, ([], [], []))])
set_option maxRecDepth 100000 in
theorem pl_s821_s {X : Int → Int} {LX : Nat} : ck_Ok p2_OL X LX 214 pl_s821 := ck_ok_s (O := p2_OL) (X := X) (LX := LX) (E := []) (mi := 214) (cuts := []) (f := 84) (S := pl_s821) (lx := none) (XF := []) ⟨pl_nmu, ck_E0⟩ ck_X0 ck_l0 (by decide +kernel)
set_option maxRecDepth 100000 in
/-- GlacierMail.thieves -/
def pl_s822 : ck_Sum := ((7, 1, 6), 249, [.inr (.inr (.inl 1)), .inl (31, 2147483647, []), .inl (0, 1, [])], ([], [], []), ([], []), [(.inl 0, 249, ([], [], []))])
set_option maxRecDepth 100000 in
theorem pl_s822_s {X : Int → Int} {LX : Nat} : ck_Ok p2_OL X LX 213 pl_s822 := ck_ok_s (O := p2_OL) (X := X) (LX := LX) (E := [(214, [pl_s821])]) (mi := 213) (cuts := []) (f := 76) (S := pl_s822) (lx := none) (XF := []) ⟨pl_nmu, ck_E1 (ck_S1 pl_s821_s ck_S0) ck_E0⟩ ck_X0 ck_l0 (by decide +kernel)
set_option maxRecDepth 100000 in
/-- GlacierMail.needThiefYears -/
def pl_s823 : ck_Sum := ((6, 1, 6), 249, [.inr (.inr (.inl 1)), .inl (0, 30, [])], ([], [], []), ([], []), [(.inl 0, 249, ([], [], [])), (.inr none, 249, ([], [], []))])
set_option maxRecDepth 100000 in
theorem pl_s823_s {X : Int → Int} {LX : Nat} : ck_Ok p2_OL X LX 214 pl_s823 := ck_ok_s (O := p2_OL) (X := X) (LX := LX) (E := []) (mi := 214) (cuts := []) (f := 84) (S := pl_s823) (lx := none) (XF := []) ⟨pl_nmu, ck_E0⟩ ck_X0 ck_l0 (by decide +kernel)
set_option maxRecDepth 100000 in
/-- java/util/Arrays.fill -/
def pl_s824 : ck_Sum := ((0, 0, 0), 249, [.inr (.inr (.inl 223)), .inl (ck_one 0)], ([], [], []), ([(223, 0, 179)], []), [(.inr none, 249, ([], [], []))])
set_option maxRecDepth 100000 in
theorem pl_s824_e : ck_ok p2_OL none [] [] 8 [(5, [some (.inr (.inr (.inl 223))), some (.inl (ck_one 0)), some (.inl (0, 180, [])), some (.inl (ck_one 180))], ([], [], []), 100, .inl 2, true)] 130 pl_s824 = true := by decide +kernel
theorem pl_s824_s {X : Int → Int} {LX : Nat} : ck_Ok p2_OL X LX 8 pl_s824 := ck_ok_s ⟨pl_nmu, ck_E0⟩ ck_X0 ck_l0 pl_s824_e
set_option maxRecDepth 100000 in
/-- GlacierMail$Rows.reset -/
def pl_s825 : ck_Sum := ((1, 0, 0), 249, [.inr (.inr (.inl 222)), .inl (0, 30, [])], ([], [], []), ([(222, 3, 3), (223, 0, 179)], []), [(.inr none, 249, ([], [], []))])
set_option maxRecDepth 100000 in
theorem pl_s825_s {X : Int → Int} {LX : Nat} : ck_Ok p2_OL X LX 25 pl_s825 := ck_ok_s (O := p2_OL) (X := X) (LX := LX) (E := [(8, [pl_s824])]) (mi := 25) (cuts := []) (f := 96) (S := pl_s825) (lx := none) (XF := []) ⟨pl_nmu, ck_E1 (ck_S1 pl_s824_s ck_S0) ck_E0⟩ ck_X0 ck_l0 (by decide +kernel)
set_option maxRecDepth 100000 in
/-- GlacierMail$Rows.get -/
def pl_s826 : ck_Sum := ((0, 0, 0), 249, [.inr (.inr (.inl 222)), .inl ((-2147483648), 2147483647, []), .inl ((-2147483648), 2147483647, [])], ([], [], []), ([], []), [(.inr (some (.inl ((-2147483648), 2147483647, []))), 249, ([], [], []))])
set_option maxRecDepth 100000 in
theorem pl_s826_s {X : Int → Int} {LX : Nat} : ck_Ok p2_OL X LX 10 pl_s826 := ck_ok_s (O := p2_OL) (X := X) (LX := LX) (E := []) (mi := 10) (cuts := []) (f := 114) (S := pl_s826) (lx := none) (XF := []) ⟨pl_nmu, ck_E0⟩ ck_X0 ck_l0 (by decide +kernel)
set_option maxRecDepth 100000 in
/-- GlacierMail$Rows.put -/
def pl_s827 : ck_Sum := ((0, 0, 0), 249, [.inr (.inr (.inl 222)), .inl ((-2147483648), 2147483647, []), .inl ((-1), 299, []), .inl ((-2147483648), 2147483647, [])], ([], [], []), ([(223, 0, 179)], []), [(.inr none, 249, ([], [], []))])
set_option maxRecDepth 100000 in
theorem pl_s827_s {X : Int → Int} {LX : Nat} : ck_Ok p2_OL X LX 45 pl_s827 := ck_ok_s (O := p2_OL) (X := X) (LX := LX) (E := []) (mi := 45) (cuts := []) (f := 116) (S := pl_s827) (lx := none) (XF := []) ⟨pl_nmu, ck_E0⟩ ck_X0 ck_l0 (by decide +kernel)
set_option maxRecDepth 100000 in
/-- GlacierMail.reckonCame -/
def pl_s828 : ck_Sum := ((2, 0, 0), 249, [.inr (.inr (.inl 1)), .inl (0, 30, [])], ([], [], [(3, 6, 6, (0, 299, [(10, 0)]))]), ([(222, 3, 3), (223, 0, 179)], []), [(.inr none, 249, ([], [], []))])
set_option maxRecDepth 100000 in
theorem pl_s828_e : ck_ok p2_OL none [] [(25, [pl_s825]), (9, [pl_s201]), (10, [pl_s218, pl_s204, pl_s826]), (28, [pl_s205]), (45, [pl_s827])] 215 [(10, [some (.inr (.inr (.inl 1))), some (.inl (0, 30, [])), some (.inl (0, 24, [])), none, none], ([], [], [(3, 6, 6, (0, 299, [(10, 0)]))]), 100, .inl 2, true)] 286 pl_s828 = true := by decide +kernel
theorem pl_s828_s {X : Int → Int} {LX : Nat} : ck_Ok p2_OL X LX 215 pl_s828 := ck_ok_s ⟨pl_nmu, ck_E1 (ck_S1 pl_s825_s ck_S0) (ck_E1 (ck_S1 pl_s201_s ck_S0) (ck_E1 (ck_S1 pl_s218_s (ck_S1 pl_s204_s (ck_S1 pl_s826_s ck_S0))) (ck_E1 (ck_S1 pl_s205_s ck_S0) (ck_E1 (ck_S1 pl_s827_s ck_S0) ck_E0))))⟩ ck_X0 ck_l0 pl_s828_e
set_option maxRecDepth 100000 in
/-- java/util/Arrays.fill -/
def pl_s829 : ck_Sum := ((0, 0, 0), 249, [.inr (.inr (.inl 225)), .inl (ck_one 0)], ([], [], []), ([(225, 0, 185)], []), [(.inr none, 249, ([], [], []))])
set_option maxRecDepth 100000 in
theorem pl_s829_e : ck_ok p2_OL none [] [] 8 [(5, [some (.inr (.inr (.inl 225))), some (.inl (ck_one 0)), some (.inl (0, 186, [])), some (.inl (ck_one 186))], ([], [], []), 100, .inl 2, true)] 130 pl_s829 = true := by decide +kernel
theorem pl_s829_s {X : Int → Int} {LX : Nat} : ck_Ok p2_OL X LX 8 pl_s829 := ck_ok_s ⟨pl_nmu, ck_E0⟩ ck_X0 ck_l0 pl_s829_e
set_option maxRecDepth 100000 in
/-- GlacierMail$Rows.reset -/
def pl_s830 : ck_Sum := ((1, 0, 0), 249, [.inr (.inr (.inl 224)), .inl (1, 31, [])], ([], [], []), ([(224, 3, 3), (225, 0, 185)], []), [(.inr none, 249, ([], [], [(224, 3, 3, (1, 31, []))]))])
set_option maxRecDepth 100000 in
theorem pl_s830_s {X : Int → Int} {LX : Nat} : ck_Ok p2_OL X LX 25 pl_s830 := ck_ok_s (O := p2_OL) (X := X) (LX := LX) (E := [(8, [pl_s829])]) (mi := 25) (cuts := []) (f := 96) (S := pl_s830) (lx := none) (XF := []) ⟨pl_nmu, ck_E1 (ck_S1 pl_s829_s ck_S0) ck_E0⟩ ck_X0 ck_l0 (by decide +kernel)
set_option maxRecDepth 100000 in
/-- GlacierMail$Rows.get -/
def pl_s831 : ck_Sum := ((0, 0, 0), 249, [.inr (.inr (.inl 224)), .inl ((-2147483648), 2147483647, []), .inl ((-2147483648), 2147483647, [])], ([], [], []), ([], []), [(.inr (some (.inl ((-2147483648), 2147483647, []))), 249, ([], [], []))])
set_option maxRecDepth 100000 in
theorem pl_s831_s {X : Int → Int} {LX : Nat} : ck_Ok p2_OL X LX 10 pl_s831 := ck_ok_s (O := p2_OL) (X := X) (LX := LX) (E := []) (mi := 10) (cuts := []) (f := 114) (S := pl_s831) (lx := none) (XF := []) ⟨pl_nmu, ck_E0⟩ ck_X0 ck_l0 (by decide +kernel)
set_option maxRecDepth 100000 in
/-- GlacierMail.bestNext -/
def pl_s832 : ck_Sum := ((1, 0, 0), 249, [.inr (.inr (.inl 1)), .inl (1, 30, []), .inl (0, 5, [])], ([], [], []), ([], []), [(.inr (some (.inl ((-2147483648), 2147483647, []))), 249, ([], [], []))])
set_option maxRecDepth 100000 in
theorem pl_s832_s {X : Int → Int} {LX : Nat} : ck_Ok p2_OL X LX 216 pl_s832 := ck_ok_s (O := p2_OL) (X := X) (LX := LX) (E := [(10, [pl_s831])]) (mi := 216) (cuts := []) (f := 118) (S := pl_s832) (lx := none) (XF := []) ⟨pl_nmu, ck_E1 (ck_S1 pl_s831_s ck_S0) ck_E0⟩ ck_X0 ck_l0 (by decide +kernel)
set_option maxRecDepth 100000 in
/-- GlacierMail$Rows.put -/
def pl_s833 : ck_Sum := ((0, 0, 0), 249, [.inr (.inr (.inl 224)), .inl (0, 29, []), .inl (0, 5, []), .inl ((-2147483648), 2147483647, [])], ([], [], []), ([(225, 0, 179)], []), [(.inr none, 249, ([], [], []))])
set_option maxRecDepth 100000 in
theorem pl_s833_s {X : Int → Int} {LX : Nat} : ck_Ok p2_OL X LX 45 pl_s833 := ck_ok_s (O := p2_OL) (X := X) (LX := LX) (E := []) (mi := 45) (cuts := []) (f := 116) (S := pl_s833) (lx := none) (XF := []) ⟨pl_nmu, ck_E0⟩ ck_X0 ck_l0 (by decide +kernel)
set_option maxRecDepth 100000 in
/-- GlacierMail.thieves -/
def pl_s834 : ck_Sum := ((7, 1, 6), 249, [.inr (.inr (.inl 1)), .inl (0, 30, []), .inl (0, 1, [])], ([], [(3, 8, 246)], [(3, 6, 6, (0, 299, [(10, 0)]))]), ([(1, 15, 15), (200, 6, 6), (204, 0, 9), (205, 0, 14849), (206, 2, 8), (220, 3, 3), (221, 0, 47), (222, 3, 3), (223, 0, 179), (224, 3, 3), (225, 0, 185)], []), [(.inl 0, 249, ([], [], [])), (.inr (some (.inl ((-2147483648), 2147483647, []))), 249, ([], [], [(224, 3, 3, (1, 31, [])), (1, 15, 15, ck_one 1)])), (.inr (some (.inl (0, 5, []))), 249, ([], [], [(224, 3, 3, (1, 31, [])), (1, 15, 15, ck_one 1)]))])
set_option maxRecDepth 100000 in
theorem pl_s834_e : ck_ok p2_OL none [] [(214, [pl_s823]), (24, [pl_s217]), (215, [pl_s828]), (25, [pl_s830]), (10, [pl_s831, pl_s826]), (216, [pl_s832]), (45, [pl_s833])] 213 [(28, [some (.inr (.inr (.inl 1))), some (.inl (0, 30, [])), some (.inl (0, 1, [])), some (.inl ((-1), 29, [])), none], ([], [(3, 8, 246)], [(224, 3, 3, (1, 31, [])), (1, 15, 15, ck_one 1), (3, 6, 6, (0, 299, [(10, 0)]))]), 100, .inl 3, false), (94, [some (.inr (.inr (.inl 1))), some (.inl (0, 30, [])), some (.inl (0, 1, [])), some (.inl (0, 5, [])), some (.inl (1, 6, []))], ([], [(3, 8, 246)], [(224, 3, 3, (1, 31, [])), (1, 15, 15, ck_one 1), (3, 6, 6, (0, 299, [(10, 0)]))]), 300, .inl 4, true), (35, [some (.inr (.inr (.inl 1))), some (.inl (0, 30, [])), some (.inl (0, 1, [])), some (.inl (0, 29, [(100, 0)])), some (.inl (0, 6, []))], ([], [(3, 8, 246)], [(224, 3, 3, (1, 31, [])), (1, 15, 15, ck_one 1), (3, 6, 6, (0, 299, [(10, 0)]))]), 500, .inl 4, true)] 330 pl_s834 = true := by decide +kernel
theorem pl_s834_s {X : Int → Int} {LX : Nat} : ck_Ok p2_OL X LX 213 pl_s834 := ck_ok_s ⟨pl_nmu, ck_E1 (ck_S1 pl_s823_s ck_S0) (ck_E1 (ck_S1 pl_s217_s ck_S0) (ck_E1 (ck_S1 pl_s828_s ck_S0) (ck_E1 (ck_S1 pl_s830_s ck_S0) (ck_E1 (ck_S1 pl_s831_s (ck_S1 pl_s826_s ck_S0)) (ck_E1 (ck_S1 pl_s832_s ck_S0) (ck_E1 (ck_S1 pl_s833_s ck_S0) ck_E0))))))⟩ ck_X0 ck_l0 pl_s834_e
set_option maxRecDepth 100000 in
/-- GlacierMail.watchman -/
def pl_s835 : ck_Sum := ((7, 1, 6), 249, [.inr (.inr (.inl 1)), .inl ((-2147483648), (-1), []), .inl (0, 1, [])], ([], [], []), ([], []), [(.inl 0, 249, ([], [], []))])
set_option maxRecDepth 100000 in
theorem pl_s835_s {X : Int → Int} {LX : Nat} : ck_Ok p2_OL X LX 218 pl_s835 := ck_ok_s (O := p2_OL) (X := X) (LX := LX) (E := [(214, [pl_s819])]) (mi := 218) (cuts := []) (f := 76) (S := pl_s835) (lx := none) (XF := []) ⟨pl_nmu, ck_E1 (ck_S1 pl_s819_s ck_S0) ck_E0⟩ ck_X0 ck_l0 (by decide +kernel)
set_option maxRecDepth 100000 in
/-- GlacierMail.watchman -/
def pl_s836 : ck_Sum := ((7, 1, 6), 249, [.inr (.inr (.inl 1)), .inl (31, 2147483647, []), .inl (0, 1, [])], ([], [], []), ([], []), [(.inl 0, 249, ([], [], []))])
set_option maxRecDepth 100000 in
theorem pl_s836_s {X : Int → Int} {LX : Nat} : ck_Ok p2_OL X LX 218 pl_s836 := ck_ok_s (O := p2_OL) (X := X) (LX := LX) (E := [(214, [pl_s821])]) (mi := 218) (cuts := []) (f := 76) (S := pl_s836) (lx := none) (XF := []) ⟨pl_nmu, ck_E1 (ck_S1 pl_s821_s ck_S0) ck_E0⟩ ck_X0 ck_l0 (by decide +kernel)
set_option maxRecDepth 100000 in
/-- GlacierMail.mostBeside -/
def pl_s837 : ck_Sum := ((1, 0, 0), 249, [.inr (.inr (.inl 1)), .inl (0, 5, []), .inl (0, 30, [])], ([], [], []), ([], []), [(.inr (some (.inl (0, 2147483647, []))), 249, ([], [], []))])
set_option maxRecDepth 100000 in
theorem pl_s837_e : ck_ok p2_OL none [] [(10, [pl_s826])] 219 [(5, [some (.inr (.inr (.inl 1))), some (.inl (0, 5, [])), some (.inl (0, 30, [])), some (.inl (0, 2147483647, [])), some (.inl (0, 6, [])), none, none], ([], [], []), 100, .inl 4, true), (23, [some (.inr (.inr (.inl 1))), some (.inl (0, 5, [])), some (.inl (0, 30, [])), some (.inl (0, 2147483647, [])), some (.inl (0, 5, [(100, 0)])), some (.inl ((-2147483648), 2147483647, [])), some (.inl (0, 30, []))], ([], [], []), 300, .inl 6, true)] 194 pl_s837 = true := by decide +kernel
theorem pl_s837_s {X : Int → Int} {LX : Nat} : ck_Ok p2_OL X LX 219 pl_s837 := ck_ok_s ⟨pl_nmu, ck_E1 (ck_S1 pl_s826_s ck_S0) ck_E0⟩ ck_X0 ck_l0 pl_s837_e
set_option maxRecDepth 100000 in
/-- GlacierMail.mostBeside -/
def pl_s838 : ck_Sum := ((1, 0, 0), 249, [.inr (.inr (.inl 1)), .inl (1, 5, []), .inl (0, 30, [])], ([], [], []), ([], []), [(.inr (some (.inl (0, 2147483647, []))), 249, ([], [], []))])
set_option maxRecDepth 100000 in
theorem pl_s838_e : ck_ok p2_OL none [] [(10, [pl_s826])] 219 [(5, [some (.inr (.inr (.inl 1))), some (.inl (1, 5, [])), some (.inl (0, 30, [])), some (.inl (0, 2147483647, [])), some (.inl (0, 6, [])), none, none], ([], [], []), 100, .inl 4, true), (23, [some (.inr (.inr (.inl 1))), some (.inl (1, 5, [])), some (.inl (0, 30, [])), some (.inl (0, 2147483647, [])), some (.inl (0, 5, [(100, 0)])), some (.inl ((-2147483648), 2147483647, [])), some (.inl (0, 30, []))], ([], [], []), 300, .inl 6, true)] 194 pl_s838 = true := by decide +kernel
theorem pl_s838_s {X : Int → Int} {LX : Nat} : ck_Ok p2_OL X LX 219 pl_s838 := ck_ok_s ⟨pl_nmu, ck_E1 (ck_S1 pl_s826_s ck_S0) ck_E0⟩ ck_X0 ck_l0 pl_s838_e
set_option maxRecDepth 100000 in
/-- GlacierMail.watchman -/
def pl_s839 : ck_Sum := ((7, 1, 6), 249, [.inr (.inr (.inl 1)), .inl (0, 30, []), .inl (0, 1, [])], ([], [(3, 8, 246)], [(3, 6, 6, (0, 299, [(10, 0)]))]), ([(1, 15, 15), (200, 6, 6), (204, 0, 9), (205, 0, 14849), (206, 2, 8), (220, 3, 3), (221, 0, 47), (222, 3, 3), (223, 0, 179)], []), [(.inl 0, 249, ([], [], [])), (.inr (some (.inl (0, 2147483647, []))), 249, ([], [], [(1, 15, 15, ck_one 1)]))])
set_option maxRecDepth 100000 in
theorem pl_s839_e : ck_ok p2_OL none [] [(214, [pl_s823]), (24, [pl_s217]), (215, [pl_s828]), (219, [pl_s837, pl_s838])] 218 [(19, [some (.inr (.inr (.inl 1))), some (.inl (0, 30, [])), some (.inl (0, 1, [])), some (.inl (0, 5, [])), some (.inl (1, 6, []))], ([], [(3, 8, 246)], [(1, 15, 15, ck_one 1), (3, 6, 6, (0, 299, [(10, 0)]))]), 100, .inl 4, true)] 166 pl_s839 = true := by decide +kernel
theorem pl_s839_s {X : Int → Int} {LX : Nat} : ck_Ok p2_OL X LX 218 pl_s839 := ck_ok_s ⟨pl_nmu, ck_E1 (ck_S1 pl_s823_s ck_S0) (ck_E1 (ck_S1 pl_s217_s ck_S0) (ck_E1 (ck_S1 pl_s828_s ck_S0) (ck_E1 (ck_S1 pl_s837_s (ck_S1 pl_s838_s ck_S0)) ck_E0)))⟩ ck_X0 ck_l0 pl_s839_e
set_option maxRecDepth 100000 in
/-- GlacierMail.meeting -/
def pl_s840 : ck_Sum := ((8, 1, 6), 249, [.inr (.inr (.inl 1)), .inl ((-2147483648), (-1), []), .inl ((-2147483648), 2147483647, [])], ([], [], []), ([], []), [(.inl 3, 249, ([], [], []))])
set_option maxRecDepth 100000 in
theorem pl_s840_s {X : Int → Int} {LX : Nat} : ck_Ok p2_OL X LX 221 pl_s840 := ck_ok_s (O := p2_OL) (X := X) (LX := LX) (E := [(143, [pl_s227])]) (mi := 221) (cuts := []) (f := 76) (S := pl_s840) (lx := none) (XF := []) ⟨pl_nmu, ck_E1 (ck_S1 pl_s227_s ck_S0) ck_E0⟩ ck_X0 ck_l0 (by decide +kernel)
set_option maxRecDepth 100000 in
/-- GlacierMail.meeting -/
def pl_s841 : ck_Sum := ((8, 1, 6), 249, [.inr (.inr (.inl 1)), .inl (24, 2147483647, []), .inl ((-2147483648), 2147483647, [])], ([], [], []), ([], []), [(.inl 3, 249, ([], [], []))])
set_option maxRecDepth 100000 in
theorem pl_s841_s {X : Int → Int} {LX : Nat} : ck_Ok p2_OL X LX 221 pl_s841 := ck_ok_s (O := p2_OL) (X := X) (LX := LX) (E := [(143, [pl_s230])]) (mi := 221) (cuts := []) (f := 76) (S := pl_s841) (lx := none) (XF := []) ⟨pl_nmu, ck_E1 (ck_S1 pl_s230_s ck_S0) ck_E0⟩ ck_X0 ck_l0 (by decide +kernel)
set_option maxRecDepth 100000 in
/-- GlacierMail.meeting -/
def pl_s842 : ck_Sum := ((8, 2, 12), 249, [.inr (.inr (.inl 1)), .inl (0, 23, []), .inl ((-2147483648), (-1), [])], ([], [], []), ([], []), [(.inl 3, 249, ([], [], []))])
set_option maxRecDepth 100000 in
theorem pl_s842_s {X : Int → Int} {LX : Nat} : ck_Ok p2_OL X LX 221 pl_s842 := ck_ok_s (O := p2_OL) (X := X) (LX := LX) (E := [(143, [pl_s233, pl_s227])]) (mi := 221) (cuts := []) (f := 82) (S := pl_s842) (lx := none) (XF := []) ⟨pl_nmu, ck_E1 (ck_S1 pl_s233_s (ck_S1 pl_s227_s ck_S0)) ck_E0⟩ ck_X0 ck_l0 (by decide +kernel)
set_option maxRecDepth 100000 in
/-- GlacierMail.meeting -/
def pl_s843 : ck_Sum := ((8, 2, 12), 249, [.inr (.inr (.inl 1)), .inl (0, 23, []), .inl (24, 2147483647, [])], ([], [], []), ([], []), [(.inl 3, 249, ([], [], []))])
set_option maxRecDepth 100000 in
theorem pl_s843_s {X : Int → Int} {LX : Nat} : ck_Ok p2_OL X LX 221 pl_s843 := ck_ok_s (O := p2_OL) (X := X) (LX := LX) (E := [(143, [pl_s233, pl_s230])]) (mi := 221) (cuts := []) (f := 82) (S := pl_s843) (lx := none) (XF := []) ⟨pl_nmu, ck_E1 (ck_S1 pl_s233_s (ck_S1 pl_s230_s ck_S0)) ck_E0⟩ ck_X0 ck_l0 (by decide +kernel)
set_option maxRecDepth 100000 in
/-- GlacierMail.needUnlike -/
def pl_s844 : ck_Sum := ((6, 1, 6), 249, [.inr (.inr (.inl 1)), .inl (0, 23, []), .inl (0, 23, [])], ([], [], []), ([], []), [(.inr none, 249, ([], [], [])), (.inl 0, 249, ([], [], []))])
set_option maxRecDepth 100000 in
theorem pl_s844_s {X : Int → Int} {LX : Nat} : ck_Ok p2_OL X LX 153 pl_s844 := ck_ok_s (O := p2_OL) (X := X) (LX := LX) (E := []) (mi := 153) (cuts := []) (f := 78) (S := pl_s844) (lx := none) (XF := []) ⟨pl_nmu, ck_E0⟩ ck_X0 ck_l0 (by decide +kernel)
set_option maxRecDepth 100000 in
/-- GlacierMail.startBoth -/
def pl_s845 : ck_Sum := ((5, 0, 0), 249, [.inr (.inr (.inl 1)), .inl (0, 23, []), .inl (0, 23, []), .inl (0, 299, [])], ([], [(3, 8, 246)], []), (zl248, []), [(.inr (some (.inl (0, 299, []))), 249, ([], [], zl86))])
set_option maxRecDepth 100000 in
theorem pl_s845_s {X : Int → Int} {LX : Nat} : ck_Ok p2_OL X LX 182 pl_s845 := ck_ok_s (O := p2_OL) (X := X) (LX := LX) (E := [(27, [pl_s208, pl_s721]), (148, [pl_s243, pl_s726])]) (mi := 182) (cuts := []) (f := 126) (S := pl_s845) (lx := none) (XF := []) ⟨pl_nmu, ck_E1 (ck_S1 pl_s208_s (ck_S1 pl_s721_s ck_S0)) (ck_E1 (ck_S1 pl_s243_s (ck_S1 pl_s726_s ck_S0)) ck_E0)⟩ ck_X0 ck_l0 (by decide +kernel)
set_option maxRecDepth 100000 in
/-- GlacierMail.meeting -/
def pl_s846 : ck_Sum := ((8, 3, 18), 249, [.inr (.inr (.inl 1)), .inl (0, 23, []), .inl (0, 23, [])], ([], [(3, 8, 246)], [(3, 6, 6, (0, 299, [(10, 0)]))]), (zl248, []), [(.inl 3, 249, ([], [], [])), (.inl 0, 249, ([], [], [])), (.inr (some (.inl (ck_one (-1)))), 249, ([], [], [])), (.inr (some (.inl (0, 299, []))), 249, ([], [], zl207))])
set_option maxRecDepth 100000 in
theorem pl_s846_e : ck_ok p2_OL none [] [(143, [pl_s233]), (153, [pl_s844]), (180, [pl_s718]), (182, [pl_s845]), (183, [pl_s728]), (184, [pl_s729])] 221 [(44, [some (.inr (.inr (.inl 1))), some (.inl (0, 23, [])), some (.inl (0, 23, [])), some (.inl (0, 299, [])), some (.inl (0, 300, []))], ([], [(3, 8, 246)], [(206, 4, 4, ck_one (-1)), (206, 2, 2, ((-1), 299, [])), (3, 6, 6, (0, 299, [(10, 0)]))]), 100, .inl 4, true)] 194 pl_s846 = true := by decide +kernel
theorem pl_s846_s {X : Int → Int} {LX : Nat} : ck_Ok p2_OL X LX 221 pl_s846 := ck_ok_s ⟨pl_nmu, ck_E1 (ck_S1 pl_s233_s ck_S0) (ck_E1 (ck_S1 pl_s844_s ck_S0) (ck_E1 (ck_S1 pl_s718_s ck_S0) (ck_E1 (ck_S1 pl_s845_s ck_S0) (ck_E1 (ck_S1 pl_s728_s ck_S0) (ck_E1 (ck_S1 pl_s729_s ck_S0) ck_E0)))))⟩ ck_X0 ck_l0 pl_s846_e
set_option maxRecDepth 100000 in
/-- GlacierMail.outs -/
def pl_s847 : ck_Sum := ((7, 1, 6), 249, [.inr (.inr (.inl 1)), .inl ((-2147483648), (-1), [])], ([], [], []), ([], []), [(.inl 0, 249, ([], [], []))])
set_option maxRecDepth 100000 in
theorem pl_s847_s {X : Int → Int} {LX : Nat} : ck_Ok p2_OL X LX 223 pl_s847 := ck_ok_s (O := p2_OL) (X := X) (LX := LX) (E := [(129, [pl_s145])]) (mi := 223) (cuts := []) (f := 76) (S := pl_s847) (lx := none) (XF := []) ⟨pl_nmu, ck_E1 (ck_S1 pl_s145_s ck_S0) ck_E0⟩ ck_X0 ck_l0 (by decide +kernel)
set_option maxRecDepth 100000 in
/-- GlacierMail.outs -/
def pl_s848 : ck_Sum := ((7, 1, 6), 249, [.inr (.inr (.inl 1)), .inl (300, 2147483647, [])], ([], [], []), ([], []), [(.inl 0, 249, ([], [], []))])
set_option maxRecDepth 100000 in
theorem pl_s848_s {X : Int → Int} {LX : Nat} : ck_Ok p2_OL X LX 223 pl_s848 := ck_ok_s (O := p2_OL) (X := X) (LX := LX) (E := [(129, [pl_s147])]) (mi := 223) (cuts := []) (f := 76) (S := pl_s848) (lx := none) (XF := []) ⟨pl_nmu, ck_E1 (ck_S1 pl_s147_s ck_S0) ck_E0⟩ ck_X0 ck_l0 (by decide +kernel)
set_option maxRecDepth 100000 in
/-- GlacierMail.outIn -/
def pl_s849 : ck_Sum := ((1, 0, 0), 249, [.inr (.inr (.inl 1)), .inl (0, 299, []), .inl (ck_one 1)], ([], [], []), ([], []), [(.inr (some (.inl ((-2147483648), 2147483647, []))), 249, ([], [], []))])
set_option maxRecDepth 100000 in
theorem pl_s849_e : ck_ok p2_OL none [] [(9, [pl_s201]), (10, [pl_s218])] 47 [(5, [some (.inr (.inr (.inl 1))), some (.inl (0, 299, [])), some (.inl (ck_one 1)), some (.inl ((-2147483648), 2147483647, [])), some (.inl (0, 24, []))], ([], [], []), 100, .inl 4, true)] 162 pl_s849 = true := by decide +kernel
theorem pl_s849_s {X : Int → Int} {LX : Nat} : ck_Ok p2_OL X LX 47 pl_s849 := ck_ok_s ⟨pl_nmu, ck_E1 (ck_S1 pl_s201_s ck_S0) (ck_E1 (ck_S1 pl_s218_s ck_S0) ck_E0)⟩ ck_X0 ck_l0 pl_s849_e
set_option maxRecDepth 100000 in
/-- GlacierMail.outs -/
def pl_s850 : ck_Sum := ((6, 0, 0), 249, [.inr (.inr (.inl 1)), .inl (0, 299, [])], ([], [(3, 8, 246)], []), (zl228, []), [(.inr (some (.inl ((-2147483648), 2147483647, []))), 249, ([], [], [(1, 15, 15, ck_one 1)]))])
set_option maxRecDepth 100000 in
theorem pl_s850_s {X : Int → Int} {LX : Nat} : ck_Ok p2_OL X LX 223 pl_s850 := ck_ok_s (O := p2_OL) (X := X) (LX := LX) (E := [(129, [pl_s149]), (24, [pl_s217]), (47, [pl_s849])]) (mi := 223) (cuts := []) (f := 90) (S := pl_s850) (lx := none) (XF := []) ⟨pl_nmu, ck_E1 (ck_S1 pl_s149_s ck_S0) (ck_E1 (ck_S1 pl_s217_s ck_S0) (ck_E1 (ck_S1 pl_s849_s ck_S0) ck_E0))⟩ ck_X0 ck_l0 (by decide +kernel)
set_option maxRecDepth 100000 in
/-- GlacierMail.outAheadOf -/
def pl_s851 : ck_Sum := ((1, 0, 0), 249, [.inr (.inr (.inl 1)), .inl (0, 23, [])], ([], [], []), ([], []), [(.inr (some (.inl ((-2147483648), 2147483647, []))), 249, ([], [], []))])
set_option maxRecDepth 100000 in
theorem pl_s851_e : ck_ok p2_OL none [] [(10, [pl_s218]), (9, [pl_s201])] 53 [(15, [some (.inr (.inr (.inl 1))), some (.inl (0, 23, [])), some (.inl ((-2147483648), 299, [])), some (.inl ((-2147483648), 2147483647, [])), some (.inl (0, 24, [])), none, none], ([], [], []), 100, .inl 4, true)] 214 pl_s851 = true := by decide +kernel
theorem pl_s851_s {X : Int → Int} {LX : Nat} : ck_Ok p2_OL X LX 53 pl_s851 := ck_ok_s ⟨pl_nmu, ck_E1 (ck_S1 pl_s218_s ck_S0) (ck_E1 (ck_S1 pl_s201_s ck_S0) ck_E0)⟩ ck_X0 ck_l0 pl_s851_e
set_option maxRecDepth 100000 in
/-- GlacierMail.order -/
def pl_s852 : ck_Sum := ((6, 0, 0), 249, [.inr (.inr (.inl 1)), .inl ((-2147483648), 2147483647, [])], ([], [(3, 8, 246)], []), (zl228, []), [(.inr (some (.inl (ck_one (-1)))), 249, ([], [], [(1, 15, 15, ck_one 1)])), (.inr (some (.inl (0, 23, []))), 249, ([], [], [(1, 15, 15, ck_one 1)]))])
set_option maxRecDepth 100000 in
theorem pl_s852_e : ck_ok p2_OL none [] [(24, [pl_s217]), (9, [pl_s201]), (10, [pl_s218]), (53, [pl_s851])] 52 [(6, [some (.inr (.inr (.inl 1))), some (.inl ((-2147483648), 2147483647, [])), some (.inl (0, 24, []))], ([], [(3, 8, 246)], [(1, 15, 15, ck_one 1)]), 100, .inl 2, true)] 170 pl_s852 = true := by decide +kernel
theorem pl_s852_s {X : Int → Int} {LX : Nat} : ck_Ok p2_OL X LX 52 pl_s852 := ck_ok_s ⟨pl_nmu, ck_E1 (ck_S1 pl_s217_s ck_S0) (ck_E1 (ck_S1 pl_s201_s ck_S0) (ck_E1 (ck_S1 pl_s218_s ck_S0) (ck_E1 (ck_S1 pl_s851_s ck_S0) ck_E0)))⟩ ck_X0 ck_l0 pl_s852_e
set_option maxRecDepth 100000 in
/-- GlacierMail.streams -/
def pl_s853 : ck_Sum := ((7, 1, 6), 249, [.inr (.inr (.inl 1)), .inl ((-2147483648), (-1), []), .inl (0, 1, [])], ([], [], []), ([], []), [(.inl 0, 249, ([], [], []))])
set_option maxRecDepth 100000 in
theorem pl_s853_s {X : Int → Int} {LX : Nat} : ck_Ok p2_OL X LX 225 pl_s853 := ck_ok_s (O := p2_OL) (X := X) (LX := LX) (E := [(129, [pl_s145])]) (mi := 225) (cuts := []) (f := 76) (S := pl_s853) (lx := none) (XF := []) ⟨pl_nmu, ck_E1 (ck_S1 pl_s145_s ck_S0) ck_E0⟩ ck_X0 ck_l0 (by decide +kernel)
set_option maxRecDepth 100000 in
/-- GlacierMail.streams -/
def pl_s854 : ck_Sum := ((7, 1, 6), 249, [.inr (.inr (.inl 1)), .inl (300, 2147483647, []), .inl (0, 1, [])], ([], [], []), ([], []), [(.inl 0, 249, ([], [], []))])
set_option maxRecDepth 100000 in
theorem pl_s854_s {X : Int → Int} {LX : Nat} : ck_Ok p2_OL X LX 225 pl_s854 := ck_ok_s (O := p2_OL) (X := X) (LX := LX) (E := [(129, [pl_s147])]) (mi := 225) (cuts := []) (f := 76) (S := pl_s854) (lx := none) (XF := []) ⟨pl_nmu, ck_E1 (ck_S1 pl_s147_s ck_S0) ck_E0⟩ ck_X0 ck_l0 (by decide +kernel)
set_option maxRecDepth 100000 in
/-- GlacierMail.streams -/
def pl_s855 : ck_Sum := ((6, 0, 0), 249, [.inr (.inr (.inl 1)), .inl (0, 299, []), .inl (0, 1, [])], ([], [(3, 8, 246)], []), (zl228, []), [(.inr (some (.inl ((-2147483648), 2147483647, []))), 249, ([], [], [(1, 15, 15, ck_one 1)]))])
set_option maxRecDepth 100000 in
theorem pl_s855_e : ck_ok p2_OL none [] [(129, [pl_s149]), (24, [pl_s217]), (9, [pl_s201]), (10, [pl_s204, pl_s218]), (67, [pl_s219])] 225 [(14, [some (.inr (.inr (.inl 1))), some (.inl (0, 299, [])), some (.inl (0, 1, [])), some (.inl ((-2147483648), 2147483647, [])), some (.inl (0, 24, [])), none], ([], [(3, 8, 246)], [(1, 15, 15, ck_one 1)]), 100, .inl 4, true)] 226 pl_s855 = true := by decide +kernel
theorem pl_s855_s {X : Int → Int} {LX : Nat} : ck_Ok p2_OL X LX 225 pl_s855 := ck_ok_s ⟨pl_nmu, ck_E1 (ck_S1 pl_s149_s ck_S0) (ck_E1 (ck_S1 pl_s217_s ck_S0) (ck_E1 (ck_S1 pl_s201_s ck_S0) (ck_E1 (ck_S1 pl_s204_s (ck_S1 pl_s218_s ck_S0)) (ck_E1 (ck_S1 pl_s219_s ck_S0) ck_E0))))⟩ ck_X0 ck_l0 pl_s855_e
set_option maxRecDepth 100000 in
/-- GlacierMail.range -/
def pl_s856 : ck_Sum := ((8, 1, 6), 249, [.inr (.inr (.inl 1)), .inl ((-2147483648), (-1), []), .inl ((-2147483648), 2147483647, [])], ([], [], []), ([], []), [(.inl 3, 249, ([], [], []))])
set_option maxRecDepth 100000 in
theorem pl_s856_s {X : Int → Int} {LX : Nat} : ck_Ok p2_OL X LX 227 pl_s856 := ck_ok_s (O := p2_OL) (X := X) (LX := LX) (E := [(132, [pl_s153])]) (mi := 227) (cuts := []) (f := 76) (S := pl_s856) (lx := none) (XF := []) ⟨pl_nmu, ck_E1 (ck_S1 pl_s153_s ck_S0) ck_E0⟩ ck_X0 ck_l0 (by decide +kernel)
set_option maxRecDepth 100000 in
/-- GlacierMail.range -/
def pl_s857 : ck_Sum := ((8, 1, 6), 249, [.inr (.inr (.inl 1)), .inl (6, 2147483647, []), .inl ((-2147483648), 2147483647, [])], ([], [], []), ([], []), [(.inl 3, 249, ([], [], []))])
set_option maxRecDepth 100000 in
theorem pl_s857_s {X : Int → Int} {LX : Nat} : ck_Ok p2_OL X LX 227 pl_s857 := ck_ok_s (O := p2_OL) (X := X) (LX := LX) (E := [(132, [pl_s156])]) (mi := 227) (cuts := []) (f := 76) (S := pl_s857) (lx := none) (XF := []) ⟨pl_nmu, ck_E1 (ck_S1 pl_s156_s ck_S0) ck_E0⟩ ck_X0 ck_l0 (by decide +kernel)
end
