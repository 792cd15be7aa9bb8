/-! 78r86a10.sl -/
section
/-! EVERY CALL OF THE CLASS ENDS, under a law (laid by wip/am/p2l.py). -/
set_option maxRecDepth 100000 in
/-- GlacierMail.throwsFor -/
def pl_s683 : ck_Sum := ((8, 1, 6), 249, [.inr (.inr (.inl 1)), .inl ((-2147483648), (-1), []), .inl ((-2147483648), 2147483647, []), .inl ((-2147483648), 2147483647, []), .inl ((-2147483648), 2147483647, [])], ([], [], []), ([], []), [(.inl 3, 249, ([], [], []))])
set_option maxRecDepth 100000 in
theorem pl_s683_e : ck_ok p2_OL none [] [(132, [pl_s153])] 167 [] 76 pl_s683 = true := by decide +kernel
theorem pl_s683_s {X : Int → Int} {LX : Nat} : ck_Ok p2_OL X LX 167 pl_s683 := ck_ok_s ⟨pl_nmu, ck_E1 (ck_S1 pl_s153_s ck_S0) ck_E0⟩ ck_X0 ck_l0 pl_s683_e
set_option maxRecDepth 100000 in
/-- GlacierMail.throwsFor -/
def pl_s684 : ck_Sum := ((8, 1, 6), 249, [.inr (.inr (.inl 1)), .inl (6, 2147483647, []), .inl ((-2147483648), 2147483647, []), .inl ((-2147483648), 2147483647, []), .inl ((-2147483648), 2147483647, [])], ([], [], []), ([], []), [(.inl 3, 249, ([], [], []))])
set_option maxRecDepth 100000 in
theorem pl_s684_e : ck_ok p2_OL none [] [(132, [pl_s156])] 167 [] 76 pl_s684 = true := by decide +kernel
theorem pl_s684_s {X : Int → Int} {LX : Nat} : ck_Ok p2_OL X LX 167 pl_s684 := ck_ok_s ⟨pl_nmu, ck_E1 (ck_S1 pl_s156_s ck_S0) ck_E0⟩ ck_X0 ck_l0 pl_s684_e
set_option maxRecDepth 100000 in
/-- GlacierMail.throwsFor -/
def pl_s685 : ck_Sum := ((8, 2, 12), 249, [.inr (.inr (.inl 1)), .inl (0, 5, []), .inl ((-2147483648), (-1), []), .inl ((-2147483648), 2147483647, []), .inl ((-2147483648), 2147483647, [])], ([], [], []), ([], []), [(.inl 3, 249, ([], [], [])), (.inl 0, 249, ([], [], []))])
set_option maxRecDepth 100000 in
theorem pl_s685_e : ck_ok p2_OL none [] [(132, [pl_s159]), (129, [pl_s145])] 167 [] 82 pl_s685 = true := by decide +kernel
theorem pl_s685_s {X : Int → Int} {LX : Nat} : ck_Ok p2_OL X LX 167 pl_s685 := ck_ok_s ⟨pl_nmu, ck_E1 (ck_S1 pl_s159_s ck_S0) (ck_E1 (ck_S1 pl_s145_s ck_S0) ck_E0)⟩ ck_X0 ck_l0 pl_s685_e
set_option maxRecDepth 100000 in
/-- GlacierMail.throwsFor -/
def pl_s686 : ck_Sum := ((8, 2, 12), 249, [.inr (.inr (.inl 1)), .inl (0, 5, []), .inl (300, 2147483647, []), .inl ((-2147483648), 2147483647, []), .inl ((-2147483648), 2147483647, [])], ([], [], []), ([], []), [(.inl 3, 249, ([], [], [])), (.inl 0, 249, ([], [], []))])
set_option maxRecDepth 100000 in
theorem pl_s686_e : ck_ok p2_OL none [] [(132, [pl_s159]), (129, [pl_s147])] 167 [] 82 pl_s686 = true := by decide +kernel
theorem pl_s686_s {X : Int → Int} {LX : Nat} : ck_Ok p2_OL X LX 167 pl_s686 := ck_ok_s ⟨pl_nmu, ck_E1 (ck_S1 pl_s159_s ck_S0) (ck_E1 (ck_S1 pl_s147_s ck_S0) ck_E0)⟩ ck_X0 ck_l0 pl_s686_e
set_option maxRecDepth 100000 in
/-- GlacierMail.throwsFor -/
def pl_s687 : ck_Sum := ((8, 2, 12), 249, [.inr (.inr (.inl 1)), .inl (0, 5, []), .inl (0, 299, []), .inl ((-2147483648), (-1), []), .inl ((-2147483648), 2147483647, [])], ([], [], []), ([], []), [(.inl 3, 249, ([], [], [])), (.inl 0, 249, ([], [], []))])
set_option maxRecDepth 100000 in
theorem pl_s687_e : ck_ok p2_OL none [] [(132, [pl_s159]), (129, [pl_s149, pl_s145])] 167 [] 88 pl_s687 = true := by decide +kernel
theorem pl_s687_s {X : Int → Int} {LX : Nat} : ck_Ok p2_OL X LX 167 pl_s687 := ck_ok_s ⟨pl_nmu, ck_E1 (ck_S1 pl_s159_s ck_S0) (ck_E1 (ck_S1 pl_s149_s (ck_S1 pl_s145_s ck_S0)) ck_E0)⟩ ck_X0 ck_l0 pl_s687_e
set_option maxRecDepth 100000 in
/-- GlacierMail.throwsFor -/
def pl_s688 : ck_Sum := ((8, 2, 12), 249, [.inr (.inr (.inl 1)), .inl (0, 5, []), .inl (0, 299, []), .inl (300, 2147483647, []), .inl ((-2147483648), 2147483647, [])], ([], [], []), ([], []), [(.inl 3, 249, ([], [], [])), (.inl 0, 249, ([], [], []))])
set_option maxRecDepth 100000 in
theorem pl_s688_e : ck_ok p2_OL none [] [(132, [pl_s159]), (129, [pl_s149, pl_s147])] 167 [] 88 pl_s688 = true := by decide +kernel
theorem pl_s688_s {X : Int → Int} {LX : Nat} : ck_Ok p2_OL X LX 167 pl_s688 := ck_ok_s ⟨pl_nmu, ck_E1 (ck_S1 pl_s159_s ck_S0) (ck_E1 (ck_S1 pl_s149_s (ck_S1 pl_s147_s ck_S0)) ck_E0)⟩ ck_X0 ck_l0 pl_s688_e
set_option maxRecDepth 100000 in
/-- GlacierMail.throwsFor -/
def pl_s689 : ck_Sum := ((8, 2, 12), 249, [.inr (.inr (.inl 1)), .inl (0, 5, []), .inl (0, 299, []), .inl (0, 299, []), .inl ((-2147483648), (-1), [])], ([], [], [(3, 6, 6, (0, 299, [(10, 0)]))]), ([], []), [(.inl 3, 249, ([], [], [])), (.inl 4, 249, ([], [], [])), (.inl 0, 249, ([], [], [(3, 6, 6, (1, 299, [(10, 0)]))]))])
set_option maxRecDepth 100000 in
theorem pl_s689_e : ck_ok p2_OL none [] [(132, [pl_s159]), (129, [pl_s149])] 167 [] 104 pl_s689 = true := by decide +kernel
theorem pl_s689_s {X : Int → Int} {LX : Nat} : ck_Ok p2_OL X LX 167 pl_s689 := ck_ok_s ⟨pl_nmu, ck_E1 (ck_S1 pl_s159_s ck_S0) (ck_E1 (ck_S1 pl_s149_s ck_S0) ck_E0)⟩ ck_X0 ck_l0 pl_s689_e
set_option maxRecDepth 100000 in
/-- GlacierMail.throwsFor -/
def pl_s690 : ck_Sum := ((8, 2, 12), 249, [.inr (.inr (.inl 1)), .inl (0, 5, []), .inl (0, 299, []), .inl (0, 299, []), .inl (10, 2147483647, [])], ([], [], [(3, 6, 6, (0, 299, [(10, 0)]))]), ([], []), [(.inl 3, 249, ([], [], [])), (.inl 4, 249, ([], [], [])), (.inl 0, 249, ([], [], [(3, 6, 6, (1, 299, [(10, 0)]))]))])
set_option maxRecDepth 100000 in
theorem pl_s690_e : ck_ok p2_OL none [] [(132, [pl_s159]), (129, [pl_s149])] 167 [] 110 pl_s690 = true := by decide +kernel
theorem pl_s690_s {X : Int → Int} {LX : Nat} : ck_Ok p2_OL X LX 167 pl_s690 := ck_ok_s ⟨pl_nmu, ck_E1 (ck_S1 pl_s159_s ck_S0) (ck_E1 (ck_S1 pl_s149_s ck_S0) ck_E0)⟩ ck_X0 ck_l0 pl_s690_e
set_option maxRecDepth 100000 in
/-- GlacierMail$Way.start -/
def pl_s691 : ck_Sum := ((0, 0, 0), 249, [.inr (.inr (.inl 206)), .inl ((-2147483648), 2147483647, []), .inl ((-2147483648), 2147483647, []), .inl (0, 299, []), .inl (0, 1, [])], ([], [], []), ([(206, 2, 8)], []), [(.inr none, 249, ([], [], zl183))])
set_option maxRecDepth 100000 in
theorem pl_s691_e : ck_ok p2_OL none [] [] 29 [] 114 pl_s691 = true := by decide +kernel
theorem pl_s691_s {X : Int → Int} {LX : Nat} : ck_Ok p2_OL X LX 29 pl_s691 := ck_ok_s ⟨pl_nmu, ck_E0⟩ ck_X0 ck_l0 pl_s691_e
set_option maxRecDepth 100000 in
/-- GlacierMail.throwsFor -/
def pl_s692 : ck_Sum := ((8, 2, 12), 249, [.inr (.inr (.inl 1)), .inl (0, 5, []), .inl (0, 299, []), .inl (0, 299, []), .inl (0, 9, [])], ([], [(3, 8, 246)], [(3, 6, 6, (0, 299, [(10, 0)]))]), (zl229, []), [(.inl 3, 249, ([], [], [])), (.inl 4, 249, ([], [], [])), (.inl 0, 249, ([], [], [(3, 6, 6, (1, 299, [(10, 0)]))])), (.inr (some (.inl ((-2147483648), 2147483647, []))), 249, ([], [], []))])
set_option maxRecDepth 100000 in
theorem pl_s692_e : ck_ok p2_OL none [] [(132, [pl_s159]), (129, [pl_s149]), (29, [pl_s691]), (30, [pl_s214])] 167 [(71, [some (.inr (.inr (.inl 1))), some (.inl (0, 5, [])), some (.inl (0, 299, [])), some (.inl (0, 299, [])), some (.inl (0, 2, [])), some (.inl ((-2147483648), 2147483647, [])), some (.inl ((-1), 167, [])), some (.inl ((-1), 167, [])), some (.inl (0, 167, []))], ([], [(3, 8, 246)], [(3, 6, 6, (0, 299, [(10, 0)]))]), 100, .inl 8, true)] 210 pl_s692 = true := by decide +kernel
theorem pl_s692_s {X : Int → Int} {LX : Nat} : ck_Ok p2_OL X LX 167 pl_s692 := ck_ok_s ⟨pl_nmu, ck_E1 (ck_S1 pl_s159_s ck_S0) (ck_E1 (ck_S1 pl_s149_s ck_S0) (ck_E1 (ck_S1 pl_s691_s ck_S0) (ck_E1 (ck_S1 pl_s214_s ck_S0) ck_E0)))⟩ ck_X0 ck_l0 pl_s692_e
set_option maxRecDepth 100000 in
/-- GlacierMail.latest -/
def pl_s693 : ck_Sum := ((8, 1, 6), 249, [.inr (.inr (.inl 1)), .inl ((-2147483648), (-1), []), .inl ((-2147483648), 2147483647, [])], ([], [], []), ([], []), [(.inl 3, 249, ([], [], []))])
set_option maxRecDepth 100000 in
theorem pl_s693_e : ck_ok p2_OL none [] [(139, [pl_s191])] 169 [] 76 pl_s693 = true := by decide +kernel
theorem pl_s693_s {X : Int → Int} {LX : Nat} : ck_Ok p2_OL X LX 169 pl_s693 := ck_ok_s ⟨pl_nmu, ck_E1 (ck_S1 pl_s191_s ck_S0) ck_E0⟩ ck_X0 ck_l0 pl_s693_e
set_option maxRecDepth 100000 in
/-- GlacierMail.latest -/
def pl_s694 : ck_Sum := ((8, 1, 6), 249, [.inr (.inr (.inl 1)), .inl (8, 2147483647, []), .inl ((-2147483648), 2147483647, [])], ([], [], []), ([], []), [(.inl 3, 249, ([], [], []))])
set_option maxRecDepth 100000 in
theorem pl_s694_e : ck_ok p2_OL none [] [(139, [pl_s194])] 169 [] 76 pl_s694 = true := by decide +kernel
theorem pl_s694_s {X : Int → Int} {LX : Nat} : ck_Ok p2_OL X LX 169 pl_s694 := ck_ok_s ⟨pl_nmu, ck_E1 (ck_S1 pl_s194_s ck_S0) ck_E0⟩ ck_X0 ck_l0 pl_s694_e
set_option maxRecDepth 100000 in
/-- GlacierMail.latest -/
def pl_s695 : ck_Sum := ((8, 2, 12), 249, [.inr (.inr (.inl 1)), .inl (0, 7, []), .inl ((-2147483648), (-1), [])], ([], [], []), ([], []), [(.inl 3, 249, ([], [], [])), (.inl 0, 249, ([], [], []))])
set_option maxRecDepth 100000 in
theorem pl_s695_e : ck_ok p2_OL none [] [(139, [pl_s197]), (129, [pl_s145])] 169 [] 82 pl_s695 = true := by decide +kernel
theorem pl_s695_s {X : Int → Int} {LX : Nat} : ck_Ok p2_OL X LX 169 pl_s695 := ck_ok_s ⟨pl_nmu, ck_E1 (ck_S1 pl_s197_s ck_S0) (ck_E1 (ck_S1 pl_s145_s ck_S0) ck_E0)⟩ ck_X0 ck_l0 pl_s695_e
set_option maxRecDepth 100000 in
/-- GlacierMail.latest -/
def pl_s696 : ck_Sum := ((8, 2, 12), 249, [.inr (.inr (.inl 1)), .inl (0, 7, []), .inl (300, 2147483647, [])], ([], [], []), ([], []), [(.inl 3, 249, ([], [], [])), (.inl 0, 249, ([], [], []))])
set_option maxRecDepth 100000 in
theorem pl_s696_e : ck_ok p2_OL none [] [(139, [pl_s197]), (129, [pl_s147])] 169 [] 82 pl_s696 = true := by decide +kernel
theorem pl_s696_s {X : Int → Int} {LX : Nat} : ck_Ok p2_OL X LX 169 pl_s696 := ck_ok_s ⟨pl_nmu, ck_E1 (ck_S1 pl_s197_s ck_S0) (ck_E1 (ck_S1 pl_s147_s ck_S0) ck_E0)⟩ ck_X0 ck_l0 pl_s696_e
set_option maxRecDepth 100000 in
/-- GlacierMail$Way.startHut -/
def pl_s697 : ck_Sum := ((1, 0, 0), 249, [.inr (.inr (.inl 206)), .inl (0, 7, []), .inl (0, 299, [])], ([], [], []), ([(206, 2, 8)], []), [(.inr none, 249, ([], [], zl183))])
set_option maxRecDepth 100000 in
theorem pl_s697_e : ck_ok p2_OL none [] [(10, [pl_s224]), (29, [pl_s691])] 170 [] 104 pl_s697 = true := by decide +kernel
theorem pl_s697_s {X : Int → Int} {LX : Nat} : ck_Ok p2_OL X LX 170 pl_s697 := ck_ok_s ⟨pl_nmu, ck_E1 (ck_S1 pl_s224_s ck_S0) (ck_E1 (ck_S1 pl_s691_s ck_S0) ck_E0)⟩ ck_X0 ck_l0 pl_s697_e
set_option maxRecDepth 100000 in
/-- GlacierMail.latest -/
def pl_s698 : ck_Sum := ((8, 1, 6), 249, [.inr (.inr (.inl 1)), .inl (0, 7, []), .inl (0, 299, [])], ([], [(3, 8, 246)], [(3, 6, 6, (0, 299, [(10, 0)]))]), (zl229, []), [(.inl 3, 249, ([], [], [])), (.inr (some (.inl (ck_one (-1)))), 249, ([], [], [])), (.inr (some (.inl (0, 299, []))), 249, ([], [], [(206, 4, 4, ck_one (-1))]))])
set_option maxRecDepth 100000 in
theorem pl_s698_e : ck_ok p2_OL none [] [(139, [pl_s197]), (129, [pl_s149]), (170, [pl_s697]), (30, [pl_s214])] 169 [(12, [some (.inr (.inr (.inl 1))), some (.inl (0, 7, [])), some (.inl (0, 299, [])), some (.inl ((-1), 299, []))], ([], [(3, 8, 246)], [(3, 6, 6, (0, 299, [(10, 0)]))]), 100, .inl 3, false)] 166 pl_s698 = true := by decide +kernel
theorem pl_s698_s {X : Int → Int} {LX : Nat} : ck_Ok p2_OL X LX 169 pl_s698 := ck_ok_s ⟨pl_nmu, ck_E1 (ck_S1 pl_s197_s ck_S0) (ck_E1 (ck_S1 pl_s149_s ck_S0) (ck_E1 (ck_S1 pl_s697_s ck_S0) (ck_E1 (ck_S1 pl_s214_s ck_S0) ck_E0)))⟩ ck_X0 ck_l0 pl_s698_e
set_option maxRecDepth 100000 in
/-- GlacierMail.hut -/
def pl_s699 : ck_Sum := ((8, 1, 6), 249, [.inr (.inr (.inl 1)), .inl ((-2147483648), (-1), []), .inl ((-2147483648), 2147483647, [])], ([], [], []), ([], []), [(.inl 3, 249, ([], [], []))])
set_option maxRecDepth 100000 in
theorem pl_s699_e : ck_ok p2_OL none [] [(132, [pl_s153])] 172 [] 76 pl_s699 = true := by decide +kernel
theorem pl_s699_s {X : Int → Int} {LX : Nat} : ck_Ok p2_OL X LX 172 pl_s699 := ck_ok_s ⟨pl_nmu, ck_E1 (ck_S1 pl_s153_s ck_S0) ck_E0⟩ ck_X0 ck_l0 pl_s699_e
set_option maxRecDepth 100000 in
/-- GlacierMail.hut -/
def pl_s700 : ck_Sum := ((8, 1, 6), 249, [.inr (.inr (.inl 1)), .inl (6, 2147483647, []), .inl ((-2147483648), 2147483647, [])], ([], [], []), ([], []), [(.inl 3, 249, ([], [], []))])
set_option maxRecDepth 100000 in
theorem pl_s700_e : ck_ok p2_OL none [] [(132, [pl_s156])] 172 [] 76 pl_s700 = true := by decide +kernel
theorem pl_s700_s {X : Int → Int} {LX : Nat} : ck_Ok p2_OL X LX 172 pl_s700 := ck_ok_s ⟨pl_nmu, ck_E1 (ck_S1 pl_s156_s ck_S0) ck_E0⟩ ck_X0 ck_l0 pl_s700_e
set_option maxRecDepth 100000 in
/-- GlacierMail.hut -/
def pl_s701 : ck_Sum := ((8, 2, 12), 249, [.inr (.inr (.inl 1)), .inl (0, 5, []), .inl ((-2147483648), (-1), [])], ([], [], []), ([], []), [(.inl 3, 249, ([], [], [])), (.inl 0, 249, ([], [], []))])
set_option maxRecDepth 100000 in
theorem pl_s701_e : ck_ok p2_OL none [] [(132, [pl_s159])] 172 [] 84 pl_s701 = true := by decide +kernel
theorem pl_s701_s {X : Int → Int} {LX : Nat} : ck_Ok p2_OL X LX 172 pl_s701 := ck_ok_s ⟨pl_nmu, ck_E1 (ck_S1 pl_s159_s ck_S0) ck_E0⟩ ck_X0 ck_l0 pl_s701_e
set_option maxRecDepth 100000 in
/-- GlacierMail.hut -/
def pl_s702 : ck_Sum := ((8, 2, 12), 249, [.inr (.inr (.inl 1)), .inl (0, 5, []), .inl (300, 2147483647, [])], ([], [], []), ([], []), [(.inl 3, 249, ([], [], [])), (.inl 0, 249, ([], [], []))])
set_option maxRecDepth 100000 in
theorem pl_s702_e : ck_ok p2_OL none [] [(132, [pl_s159])] 172 [] 90 pl_s702 = true := by decide +kernel
theorem pl_s702_s {X : Int → Int} {LX : Nat} : ck_Ok p2_OL X LX 172 pl_s702 := ck_ok_s ⟨pl_nmu, ck_E1 (ck_S1 pl_s159_s ck_S0) ck_E0⟩ ck_X0 ck_l0 pl_s702_e
set_option maxRecDepth 100000 in
/-- GlacierMail.hut -/
def pl_s703 : ck_Sum := ((8, 2, 12), 249, [.inr (.inr (.inl 1)), .inl (0, 5, []), .inl (0, 299, [])], ([], [(3, 8, 246)], [(3, 6, 6, (0, 299, [(10, 0)]))]), (zl229, []), [(.inl 3, 249, ([], [], [])), (.inl 0, 249, ([], [], [])), (.inr (some (.inl (ck_one (-1)))), 249, ([], [], [])), (.inr (some (.inl (0, 98, []))), 249, ([], [], [(206, 4, 4, ck_one (-1))]))])
set_option maxRecDepth 100000 in
theorem pl_s703_e : ck_ok p2_OL none [] [(132, [pl_s159]), (29, [pl_s691]), (30, [pl_s214])] 172 [(47, [some (.inr (.inr (.inl 1))), some (.inl (0, 5, [])), some (.inl (1, 299, [])), some (.inl (1, 299, [])), some (.inl (0, 167, []))], ([], [(3, 8, 246)], [(3, 6, 6, (0, 299, [(10, 0)]))]), 100, .inl 4, true)] 182 pl_s703 = true := by decide +kernel
theorem pl_s703_s {X : Int → Int} {LX : Nat} : ck_Ok p2_OL X LX 172 pl_s703 := ck_ok_s ⟨pl_nmu, ck_E1 (ck_S1 pl_s159_s ck_S0) (ck_E1 (ck_S1 pl_s691_s ck_S0) (ck_E1 (ck_S1 pl_s214_s ck_S0) ck_E0))⟩ ck_X0 ck_l0 pl_s703_e
set_option maxRecDepth 100000 in
/-- GlacierMail.without -/
def pl_s704 : ck_Sum := ((8, 1, 6), 249, [.inr (.inr (.inl 1)), .inl ((-2147483648), (-1), []), .inl ((-2147483648), 2147483647, [])], ([], [], []), ([], []), [(.inl 3, 249, ([], [], []))])
set_option maxRecDepth 100000 in
theorem pl_s704_e : ck_ok p2_OL none [] [(143, [pl_s227])] 174 [] 76 pl_s704 = true := by decide +kernel
theorem pl_s704_s {X : Int → Int} {LX : Nat} : ck_Ok p2_OL X LX 174 pl_s704 := ck_ok_s ⟨pl_nmu, ck_E1 (ck_S1 pl_s227_s ck_S0) ck_E0⟩ ck_X0 ck_l0 pl_s704_e
set_option maxRecDepth 100000 in
/-- GlacierMail.without -/
def pl_s705 : ck_Sum := ((8, 1, 6), 249, [.inr (.inr (.inl 1)), .inl (24, 2147483647, []), .inl ((-2147483648), 2147483647, [])], ([], [], []), ([], []), [(.inl 3, 249, ([], [], []))])
set_option maxRecDepth 100000 in
theorem pl_s705_e : ck_ok p2_OL none [] [(143, [pl_s230])] 174 [] 76 pl_s705 = true := by decide +kernel
theorem pl_s705_s {X : Int → Int} {LX : Nat} : ck_Ok p2_OL X LX 174 pl_s705 := ck_ok_s ⟨pl_nmu, ck_E1 (ck_S1 pl_s230_s ck_S0) ck_E0⟩ ck_X0 ck_l0 pl_s705_e
set_option maxRecDepth 100000 in
/-- GlacierMail.without -/
def pl_s706 : ck_Sum := ((8, 2, 12), 249, [.inr (.inr (.inl 1)), .inl (0, 23, []), .inl ((-2147483648), (-1), [])], ([], [], []), ([], []), [(.inl 3, 249, ([], [], []))])
set_option maxRecDepth 100000 in
theorem pl_s706_e : ck_ok p2_OL none [] [(143, [pl_s233]), (9, [pl_s137]), (133, [pl_s190])] 174 [] 90 pl_s706 = true := by decide +kernel
theorem pl_s706_s {X : Int → Int} {LX : Nat} : ck_Ok p2_OL X LX 174 pl_s706 := ck_ok_s ⟨pl_nmu, ck_E1 (ck_S1 pl_s233_s ck_S0) (ck_E1 (ck_S1 pl_s137_s ck_S0) (ck_E1 (ck_S1 pl_s190_s ck_S0) ck_E0))⟩ ck_X0 ck_l0 pl_s706_e
set_option maxRecDepth 100000 in
/-- GlacierMail.without -/
def pl_s707 : ck_Sum := ((8, 2, 12), 249, [.inr (.inr (.inl 1)), .inl (0, 23, []), .inl (8, 2147483647, [])], ([], [], []), ([], []), [(.inl 3, 249, ([], [], []))])
set_option maxRecDepth 100000 in
theorem pl_s707_e : ck_ok p2_OL none [] [(143, [pl_s233]), (9, [pl_s137]), (133, [pl_s193])] 174 [] 90 pl_s707 = true := by decide +kernel
theorem pl_s707_s {X : Int → Int} {LX : Nat} : ck_Ok p2_OL X LX 174 pl_s707 := ck_ok_s ⟨pl_nmu, ck_E1 (ck_S1 pl_s233_s ck_S0) (ck_E1 (ck_S1 pl_s137_s ck_S0) (ck_E1 (ck_S1 pl_s193_s ck_S0) ck_E0))⟩ ck_X0 ck_l0 pl_s707_e
set_option maxRecDepth 100000 in
/-- GlacierMail$Way.leaveOut -/
def pl_s708 : ck_Sum := ((0, 0, 0), 249, [.inr (.inr (.inl 206)), .inl (0, 7, [])], ([], [], []), ([(206, 4, 4)], []), [(.inr none, 249, ([], [], [(206, 4, 4, (0, 7, []))]))])
set_option maxRecDepth 100000 in
theorem pl_s708_e : ck_ok p2_OL none [] [] 175 [] 78 pl_s708 = true := by decide +kernel
theorem pl_s708_s {X : Int → Int} {LX : Nat} : ck_Ok p2_OL X LX 175 pl_s708 := ck_ok_s ⟨pl_nmu, ck_E0⟩ ck_X0 ck_l0 pl_s708_e
set_option maxRecDepth 100000 in
/-- GlacierMail.without -/
def pl_s709 : ck_Sum := ((8, 2, 12), 249, [.inr (.inr (.inl 1)), .inl (0, 23, []), .inl (0, 7, [])], ([], [(3, 8, 246)], []), (zl229, []), [(.inl 3, 249, ([], [], [])), (.inr (some (.inl ((-2147483648), 299, []))), 249, ([], [], zl185))])
set_option maxRecDepth 100000 in
theorem pl_s709_e : ck_ok p2_OL none [] [(143, [pl_s233]), (9, [pl_s137]), (133, [pl_s196]), (27, [pl_s208]), (175, [pl_s708]), (30, [pl_s214])] 174 [] 116 pl_s709 = true := by decide +kernel
theorem pl_s709_s {X : Int → Int} {LX : Nat} : ck_Ok p2_OL X LX 174 pl_s709 := ck_ok_s ⟨pl_nmu, ck_E1 (ck_S1 pl_s233_s ck_S0) (ck_E1 (ck_S1 pl_s137_s ck_S0) (ck_E1 (ck_S1 pl_s196_s ck_S0) (ck_E1 (ck_S1 pl_s208_s ck_S0) (ck_E1 (ck_S1 pl_s708_s ck_S0) (ck_E1 (ck_S1 pl_s214_s ck_S0) ck_E0)))))⟩ ck_X0 ck_l0 pl_s709_e
set_option maxRecDepth 100000 in
/-- GlacierMail.moved -/
def pl_s710 : ck_Sum := ((8, 1, 6), 249, [.inr (.inr (.inl 1)), .inl ((-2147483648), (-1), [])], ([], [], []), ([], []), [(.inl 3, 249, ([], [], []))])
set_option maxRecDepth 100000 in
theorem pl_s710_e : ck_ok p2_OL none [] [(143, [pl_s227])] 177 [] 76 pl_s710 = true := by decide +kernel
theorem pl_s710_s {X : Int → Int} {LX : Nat} : ck_Ok p2_OL X LX 177 pl_s710 := ck_ok_s ⟨pl_nmu, ck_E1 (ck_S1 pl_s227_s ck_S0) ck_E0⟩ ck_X0 ck_l0 pl_s710_e
set_option maxRecDepth 100000 in
/-- GlacierMail.moved -/
def pl_s711 : ck_Sum := ((8, 1, 6), 249, [.inr (.inr (.inl 1)), .inl (24, 2147483647, [])], ([], [], []), ([], []), [(.inl 3, 249, ([], [], []))])
set_option maxRecDepth 100000 in
theorem pl_s711_e : ck_ok p2_OL none [] [(143, [pl_s230])] 177 [] 76 pl_s711 = true := by decide +kernel
theorem pl_s711_s {X : Int → Int} {LX : Nat} : ck_Ok p2_OL X LX 177 pl_s711 := ck_ok_s ⟨pl_nmu, ck_E1 (ck_S1 pl_s230_s ck_S0) ck_E0⟩ ck_X0 ck_l0 pl_s711_e
set_option maxRecDepth 100000 in
/-- GlacierMail.moved -/
def pl_s712 : ck_Sum := ((8, 1, 6), 249, [.inr (.inr (.inl 1)), .inl (0, 23, [])], ([], [(3, 8, 246)], []), (zl229, []), [(.inl 3, 249, ([], [], [])), (.inr (some (.inl ((-2147483648), (-1), []))), 249, ([], [], zl187)), (.inr (some (.inl (0, 2147483647, []))), 249, ([], [], zl188))])
set_option maxRecDepth 100000 in
theorem pl_s712_e : ck_ok p2_OL none [] [(143, [pl_s233]), (27, [pl_s208]), (30, [pl_s214])] 177 [] 102 pl_s712 = true := by decide +kernel
theorem pl_s712_s {X : Int → Int} {LX : Nat} : ck_Ok p2_OL X LX 177 pl_s712 := ck_ok_s ⟨pl_nmu, ck_E1 (ck_S1 pl_s233_s ck_S0) (ck_E1 (ck_S1 pl_s208_s ck_S0) (ck_E1 (ck_S1 pl_s214_s ck_S0) ck_E0))⟩ ck_X0 ck_l0 pl_s712_e
set_option maxRecDepth 100000 in
/-- GlacierMail.lost -/
def pl_s713 : ck_Sum := ((6, 0, 0), 249, [.inr (.inr (.inl 1))], ([], [(3, 8, 246)], []), (zl228, []), [(.inr (some (.inl ((-2147483648), 2147483647, []))), 249, ([], [], [(1, 15, 15, ck_one 1)]))])
set_option maxRecDepth 100000 in
theorem pl_s713_e : ck_ok p2_OL none [] [(24, [pl_s217]), (9, [pl_s201]), (10, [pl_s218])] 23 [(8, [some (.inr (.inr (.inl 1))), some (.inl ((-2147483648), 2147483647, [])), some (.inl (0, 24, []))], ([], [(3, 8, 246)], [(1, 15, 15, ck_one 1)]), 100, .inl 2, true)] 174 pl_s713 = true := by decide +kernel
theorem pl_s713_s {X : Int → Int} {LX : Nat} : ck_Ok p2_OL X LX 23 pl_s713 := ck_ok_s ⟨pl_nmu, ck_E1 (ck_S1 pl_s217_s ck_S0) (ck_E1 (ck_S1 pl_s201_s ck_S0) (ck_E1 (ck_S1 pl_s218_s ck_S0) ck_E0))⟩ ck_X0 ck_l0 pl_s713_e
set_option maxRecDepth 100000 in
/-- GlacierMail.outIn -/
def pl_s714 : ck_Sum := ((2, 0, 0), 249, [.inr (.inr (.inl 1)), .inl ((-2147483648), 299, []), .inl (ck_one 0)], ([], [], []), ([], []), [(.inr (some (.inl ((-2147483648), 2147483647, []))), 249, ([], [], []))])
set_option maxRecDepth 100000 in
theorem pl_s714_e : ck_ok p2_OL none [] [(9, [pl_s201]), (10, [pl_s218]), (28, [pl_s205])] 47 [(5, [some (.inr (.inr (.inl 1))), some (.inl ((-2147483648), 299, [])), some (.inl (ck_one 0)), some (.inl ((-2147483648), 2147483647, [])), some (.inl (0, 24, []))], ([], [], []), 100, .inl 4, true)] 182 pl_s714 = true := by decide +kernel
theorem pl_s714_s {X : Int → Int} {LX : Nat} : ck_Ok p2_OL X LX 47 pl_s714 := ck_ok_s ⟨pl_nmu, ck_E1 (ck_S1 pl_s201_s ck_S0) (ck_E1 (ck_S1 pl_s218_s ck_S0) (ck_E1 (ck_S1 pl_s205_s ck_S0) ck_E0))⟩ ck_X0 ck_l0 pl_s714_e
set_option maxRecDepth 100000 in
/-- GlacierMail.market -/
def pl_s715 : ck_Sum := ((6, 0, 0), 249, [.inr (.inr (.inl 1)), .inl (0, 1, [])], ([], [(3, 8, 246)], []), (zl228, []), [(.inr (some (.inl ((-2147483648), 299, []))), 249, ([], [], [(1, 15, 15, ck_one 1)])), (.inr (some (.inl (0, 2147483647, []))), 249, ([], [], [(1, 15, 15, ck_one 1)]))])
set_option maxRecDepth 100000 in
theorem pl_s715_e : ck_ok p2_OL none [] [(24, [pl_s217]), (9, [pl_s201]), (10, [pl_s218]), (47, [pl_s714])] 46 [(11, [some (.inr (.inr (.inl 1))), some (.inl (0, 1, [])), some (.inl ((-2147483648), 299, [])), some (.inl (0, 2147483647, [])), some (.inl (0, 24, [])), none, none], ([], [(3, 8, 246)], [(1, 15, 15, ck_one 1)]), 100, .inl 4, true)] 230 pl_s715 = true := by decide +kernel
theorem pl_s715_s {X : Int → Int} {LX : Nat} : ck_Ok p2_OL X LX 46 pl_s715 := ck_ok_s ⟨pl_nmu, ck_E1 (ck_S1 pl_s217_s ck_S0) (ck_E1 (ck_S1 pl_s201_s ck_S0) (ck_E1 (ck_S1 pl_s218_s ck_S0) (ck_E1 (ck_S1 pl_s714_s ck_S0) ck_E0)))⟩ ck_X0 ck_l0 pl_s715_e
set_option maxRecDepth 100000 in
/-- GlacierMail.passes -/
def pl_s716 : ck_Sum := ((8, 1, 6), 249, [.inr (.inr (.inl 1)), .inl ((-2147483648), (-1), [])], ([], [], []), ([], []), [(.inl 3, 249, ([], [], []))])
set_option maxRecDepth 100000 in
theorem pl_s716_e : ck_ok p2_OL none [] [(143, [pl_s227])] 179 [] 76 pl_s716 = true := by decide +kernel
theorem pl_s716_s {X : Int → Int} {LX : Nat} : ck_Ok p2_OL X LX 179 pl_s716 := ck_ok_s ⟨pl_nmu, ck_E1 (ck_S1 pl_s227_s ck_S0) ck_E0⟩ ck_X0 ck_l0 pl_s716_e
set_option maxRecDepth 100000 in
/-- GlacierMail.passes -/
def pl_s717 : ck_Sum := ((8, 1, 6), 249, [.inr (.inr (.inl 1)), .inl (24, 2147483647, [])], ([], [], []), ([], []), [(.inl 3, 249, ([], [], []))])
set_option maxRecDepth 100000 in
theorem pl_s717_e : ck_ok p2_OL none [] [(143, [pl_s230])] 179 [] 76 pl_s717 = true := by decide +kernel
theorem pl_s717_s {X : Int → Int} {LX : Nat} : ck_Ok p2_OL X LX 179 pl_s717 := ck_ok_s ⟨pl_nmu, ck_E1 (ck_S1 pl_s230_s ck_S0) ck_E0⟩ ck_X0 ck_l0 pl_s717_e
set_option maxRecDepth 100000 in
/-- GlacierMail.sameLane -/
def pl_s718 : ck_Sum := ((1, 0, 0), 249, [.inr (.inr (.inl 1)), .inl (0, 23, []), .inl (0, 23, [])], ([], [], []), ([], []), [(.inr (some (.inl (ck_one 0))), 249, ([], [], [])), (.inr (some (.inl (ck_one 1))), 249, ([], [], []))])
set_option maxRecDepth 100000 in
theorem pl_s718_e : ck_ok p2_OL none [] [(10, [pl_s204])] 180 [] 102 pl_s718 = true := by decide +kernel
theorem pl_s718_s {X : Int → Int} {LX : Nat} : ck_Ok p2_OL X LX 180 pl_s718 := ck_ok_s ⟨pl_nmu, ck_E1 (ck_S1 pl_s204_s ck_S0) ck_E0⟩ ck_X0 ck_l0 pl_s718_e
set_option maxRecDepth 100000 in
/-- GlacierMail$Way.start -/
def pl_s719 : ck_Sum := ((0, 0, 0), 249, [.inr (.inr (.inl 207)), .inl ((-1), 299, []), .inl ((-1), 299, []), .inl ((-1), 299, []), .inl (ck_one 0)], ([], [], []), ([(207, 2, 8)], []), [(.inr none, 249, ([], [], zl190))])
set_option maxRecDepth 100000 in
theorem pl_s719_e : ck_ok p2_OL none [] [] 29 [] 114 pl_s719 = true := by decide +kernel
theorem pl_s719_s {X : Int → Int} {LX : Nat} : ck_Ok p2_OL X LX 29 pl_s719 := ck_ok_s ⟨pl_nmu, ck_E0⟩ ck_X0 ck_l0 pl_s719_e
set_option maxRecDepth 100000 in
/-- GlacierMail$Way.start -/
def pl_s720 : ck_Sum := ((0, 0, 0), 249, [.inr (.inr (.inl 207)), .inl ((-1), 299, []), .inl ((-1), 299, []), .inl ((-1), 299, []), .inl (ck_one 1)], ([], [], []), ([(207, 2, 8)], []), [(.inr none, 249, ([], [], zl191))])
set_option maxRecDepth 100000 in
theorem pl_s720_e : ck_ok p2_OL none [] [] 29 [] 114 pl_s720 = true := by decide +kernel
theorem pl_s720_s {X : Int → Int} {LX : Nat} : ck_Ok p2_OL X LX 29 pl_s720 := ck_ok_s ⟨pl_nmu, ck_E0⟩ ck_X0 ck_l0 pl_s720_e
set_option maxRecDepth 100000 in
/-- GlacierMail$Way.startLetter -/
def pl_s721 : ck_Sum := ((2, 0, 0), 249, [.inr (.inr (.inl 207)), .inl (0, 23, [])], ([], [], []), ([(207, 2, 8)], []), [(.inr none, 249, ([], [], zl192))])
set_option maxRecDepth 100000 in
theorem pl_s721_e : ck_ok p2_OL none [] [(10, [pl_s204]), (28, [pl_s205]), (29, [pl_s719, pl_s720])] 27 [] 116 pl_s721 = true := by decide +kernel
theorem pl_s721_s {X : Int → Int} {LX : Nat} : ck_Ok p2_OL X LX 27 pl_s721 := ck_ok_s ⟨pl_nmu, ck_E1 (ck_S1 pl_s204_s ck_S0) (ck_E1 (ck_S1 pl_s205_s ck_S0) (ck_E1 (ck_S1 pl_s719_s (ck_S1 pl_s720_s ck_S0)) ck_E0))⟩ ck_X0 ck_l0 pl_s721_e
set_option maxRecDepth 100000 in
/-- GlacierMail$Way.isOut -/
def pl_s722 : ck_Sum := ((0, 0, 0), 249, [.inr (.inr (.inl 207))], ([], [], []), ([], []), [(.inr (some (.inl (ck_one 0))), 249, ([], [], [(207, 5, 5, ((-2147483648), 98, []))])), (.inr (some (.inl (ck_one 1))), 249, ([], [], [(207, 5, 5, (10, 2147483647, []))]))])
set_option maxRecDepth 100000 in
theorem pl_s722_e : ck_ok p2_OL none [] [] 31 [] 88 pl_s722 = true := by decide +kernel
theorem pl_s722_s {X : Int → Int} {LX : Nat} : ck_Ok p2_OL X LX 31 pl_s722 := ck_ok_s ⟨pl_nmu, ck_E0⟩ ck_X0 ck_l0 pl_s722_e
set_option maxRecDepth 100000 in
/-- GlacierMail$Way.deepAfter -/
def pl_s723 : ck_Sum := ((1, 0, 0), 249, [.inr (.inr (.inl 207))], ([], [], []), ([], []), [(.inr (some (.inl (0, 99, []))), 249, ([], [], []))])
set_option maxRecDepth 100000 in
theorem pl_s723_e : ck_ok p2_OL none [] [(34, [pl_s179])] 33 [] 110 pl_s723 = true := by decide +kernel
theorem pl_s723_s {X : Int → Int} {LX : Nat} : ck_Ok p2_OL X LX 33 pl_s723 := ck_ok_s ⟨pl_nmu, ck_E1 (ck_S1 pl_s179_s ck_S0) ck_E0⟩ ck_X0 ck_l0 pl_s723_e
set_option maxRecDepth 100000 in
/-- GlacierMail$Way.takeFloods -/
def pl_s724 : ck_Sum := ((1, 0, 0), 249, [.inr (.inr (.inl 207))], ([], [], []), ([(207, 5, 5), (207, 8, 8)], []), [(.inr none, 249, ([], [], []))])
set_option maxRecDepth 100000 in
theorem pl_s724_e : ck_ok p2_OL none [] [(44, [pl_s211]), (9, [pl_s137]), (10, [pl_s138])] 43 [(22, [some (.inr (.inr (.inl 207))), some (.inr (.inr (.inl 6))), some (.inl ((-2147483648), 2147483647, [])), some (.inl (0, 9, [])), none], ([], [], []), 100, .inl 3, true)] 290 pl_s724 = true := by decide +kernel
theorem pl_s724_s {X : Int → Int} {LX : Nat} : ck_Ok p2_OL X LX 43 pl_s724 := ck_ok_s ⟨pl_nmu, ck_E1 (ck_S1 pl_s211_s ck_S0) (ck_E1 (ck_S1 pl_s137_s ck_S0) (ck_E1 (ck_S1 pl_s138_s ck_S0) ck_E0))⟩ ck_X0 ck_l0 pl_s724_e
set_option maxRecDepth 100000 in
/-- GlacierMail$Way.step -/
def pl_s725 : ck_Sum := ((3, 0, 0), 249, [.inr (.inr (.inl 207))], ([], [(3, 8, 246)], []), (zl247, []), [(.inr none, 249, ([], [], []))])
set_option maxRecDepth 100000 in
theorem pl_s725_e : ck_ok p2_OL none [] [(31, [pl_s722]), (33, [pl_s723]), (35, [pl_s187]), (43, [pl_s724])] 32 [] 134 pl_s725 = true := by decide +kernel
theorem pl_s725_s {X : Int → Int} {LX : Nat} : ck_Ok p2_OL X LX 32 pl_s725 := ck_ok_s ⟨pl_nmu, ck_E1 (ck_S1 pl_s722_s ck_S0) (ck_E1 (ck_S1 pl_s723_s ck_S0) (ck_E1 (ck_S1 pl_s187_s ck_S0) (ck_E1 (ck_S1 pl_s724_s ck_S0) ck_E0)))⟩ ck_X0 ck_l0 pl_s725_e
set_option maxRecDepth 100000 in
/-- GlacierMail$Way.goOnTo -/
def pl_s726 : ck_Sum := ((4, 0, 0), 249, [.inr (.inr (.inl 207)), .inl (0, 299, [])], ([], [(3, 8, 246)], []), (zl247, []), [(.inr none, 249, ([], [], []))])
set_option maxRecDepth 100000 in
theorem pl_s726_e : ck_ok p2_OL none [] [(32, [pl_s725])] 148 [(5, [some (.inr (.inr (.inl 207))), some (.inl (0, 299, [])), some (.inl ((-2147483648), 2147483647, []))], ([], [(3, 8, 246)], []), 100, .inl 2, true)] 122 pl_s726 = true := by decide +kernel
theorem pl_s726_s {X : Int → Int} {LX : Nat} : ck_Ok p2_OL X LX 148 pl_s726 := ck_ok_s ⟨pl_nmu, ck_E1 (ck_S1 pl_s725_s ck_S0) ck_E0⟩ ck_X0 ck_l0 pl_s726_e
set_option maxRecDepth 100000 in
/-- GlacierMail.startBoth -/
def pl_s727 : ck_Sum := ((5, 0, 0), 249, [.inr (.inr (.inl 1)), .inl (0, 23, []), .inl (0, 23, []), .inl (ck_one 0)], ([], [(3, 8, 246)], []), (zl248, []), [(.inr (some (.inl (0, 299, []))), 249, ([], [], zl86))])
set_option maxRecDepth 100000 in
theorem pl_s727_e : ck_ok p2_OL none [] [(27, [pl_s208, pl_s721]), (148, [pl_s243, pl_s726])] 182 [] 126 pl_s727 = true := by decide +kernel
theorem pl_s727_s {X : Int → Int} {LX : Nat} : ck_Ok p2_OL X LX 182 pl_s727 := ck_ok_s ⟨pl_nmu, ck_E1 (ck_S1 pl_s208_s (ck_S1 pl_s721_s ck_S0)) (ck_E1 (ck_S1 pl_s243_s (ck_S1 pl_s726_s ck_S0)) ck_E0)⟩ ck_X0 ck_l0 pl_s727_e
set_option maxRecDepth 100000 in
/-- GlacierMail.bothInIce -/
def pl_s728 : ck_Sum := ((1, 0, 0), 249, [.inr (.inr (.inl 1))], ([], [], []), ([], []), [(.inr (some (.inl (ck_one 1))), 249, ([], [], zl193)), (.inr (some (.inl (ck_one 0))), 249, ([], [], []))])
set_option maxRecDepth 100000 in
theorem pl_s728_e : ck_ok p2_OL none [] [(31, [pl_s209, pl_s722])] 183 [] 92 pl_s728 = true := by decide +kernel
theorem pl_s728_s {X : Int → Int} {LX : Nat} : ck_Ok p2_OL X LX 183 pl_s728 := ck_ok_s ⟨pl_nmu, ck_E1 (ck_S1 pl_s209_s (ck_S1 pl_s722_s ck_S0)) ck_E0⟩ ck_X0 ck_l0 pl_s728_e
set_option maxRecDepth 100000 in
/-- GlacierMail.stepBoth -/
def pl_s729 : ck_Sum := ((4, 0, 0), 249, [.inr (.inr (.inl 1))], ([], [(3, 8, 246)], []), ([(200, 6, 6), (204, 0, 9), (205, 0, 14849), (206, 5, 8), (207, 5, 8)], []), [(.inr none, 249, ([], [], []))])
set_option maxRecDepth 100000 in
theorem pl_s729_e : ck_ok p2_OL none [] [(32, [pl_s213, pl_s725])] 184 [] 84 pl_s729 = true := by decide +kernel
theorem pl_s729_s {X : Int → Int} {LX : Nat} : ck_Ok p2_OL X LX 184 pl_s729 := ck_ok_s ⟨pl_nmu, ck_E1 (ck_S1 pl_s213_s (ck_S1 pl_s725_s ck_S0)) ck_E0⟩ ck_X0 ck_l0 pl_s729_e
set_option maxRecDepth 100000 in
/-- GlacierMail.passesBy -/
def pl_s730 : ck_Sum := ((6, 0, 0), 249, [.inr (.inr (.inl 1)), .inl (0, 23, []), .inl (0, 23, [])], ([], [(3, 8, 246)], []), (zl248, []), [(.inr (some (.inl (ck_one 0))), 249, ([], [], zl86)), (.inr (some (.inl (ck_one 1))), 249, ([], [], zl194))])
set_option maxRecDepth 100000 in
theorem pl_s730_e : ck_ok p2_OL none [] [(182, [pl_s727]), (183, [pl_s728]), (184, [pl_s729])] 181 [(39, [some (.inr (.inr (.inl 1))), some (.inl (0, 23, [])), some (.inl (0, 23, [])), some (.inl (0, 299, [])), some (.inl (1, 300, []))], ([], [(3, 8, 246)], [(207, 5, 5, ((-2147483648), 98, [])), (206, 5, 5, ((-2147483648), 98, [])), (206, 4, 4, ck_one (-1)), (206, 2, 2, ((-1), 299, []))]), 100, .inl 4, true)] 174 pl_s730 = true := by decide +kernel
theorem pl_s730_s {X : Int → Int} {LX : Nat} : ck_Ok p2_OL X LX 181 pl_s730 := ck_ok_s ⟨pl_nmu, ck_E1 (ck_S1 pl_s727_s ck_S0) (ck_E1 (ck_S1 pl_s728_s ck_S0) (ck_E1 (ck_S1 pl_s729_s ck_S0) ck_E0))⟩ ck_X0 ck_l0 pl_s730_e
set_option maxRecDepth 100000 in
/-- GlacierMail.passes -/
def pl_s731 : ck_Sum := ((8, 1, 6), 249, [.inr (.inr (.inl 1)), .inl (0, 23, [])], ([], [(3, 8, 246)], []), (zl248, []), [(.inl 3, 249, ([], [], [])), (.inr (some (.inl ((-2147483648), 2147483647, []))), 249, ([], [], []))])
set_option maxRecDepth 100000 in
theorem pl_s731_e : ck_ok p2_OL none [] [(143, [pl_s233]), (9, [pl_s200]), (180, [pl_s718]), (181, [pl_s730])] 179 [(9, [some (.inr (.inr (.inl 1))), some (.inl (0, 23, [])), some (.inl ((-2147483648), 2147483647, [])), some (.inl (0, 24, []))], ([], [(3, 8, 246)], []), 100, .inl 3, true)] 182 pl_s731 = true := by decide +kernel
theorem pl_s731_s {X : Int → Int} {LX : Nat} : ck_Ok p2_OL X LX 179 pl_s731 := ck_ok_s ⟨pl_nmu, ck_E1 (ck_S1 pl_s233_s ck_S0) (ck_E1 (ck_S1 pl_s200_s ck_S0) (ck_E1 (ck_S1 pl_s718_s ck_S0) (ck_E1 (ck_S1 pl_s730_s ck_S0) ck_E0)))⟩ ck_X0 ck_l0 pl_s731_e
set_option maxRecDepth 100000 in
/-- GlacierMail.writers -/
def pl_s732 : ck_Sum := ((8, 1, 6), 249, [.inr (.inr (.inl 1)), .inl ((-2147483648), (-1), []), .inl ((-2147483648), 2147483647, []), .inl ((-2147483648), 2147483647, [])], ([], [], []), ([], []), [(.inl 3, 249, ([], [], []))])
set_option maxRecDepth 100000 in
theorem pl_s732_e : ck_ok p2_OL none [] [(132, [pl_s153])] 186 [] 76 pl_s732 = true := by decide +kernel
theorem pl_s732_s {X : Int → Int} {LX : Nat} : ck_Ok p2_OL X LX 186 pl_s732 := ck_ok_s ⟨pl_nmu, ck_E1 (ck_S1 pl_s153_s ck_S0) ck_E0⟩ ck_X0 ck_l0 pl_s732_e
set_option maxRecDepth 100000 in
/-- GlacierMail.writers -/
def pl_s733 : ck_Sum := ((8, 1, 6), 249, [.inr (.inr (.inl 1)), .inl (6, 2147483647, []), .inl ((-2147483648), 2147483647, []), .inl ((-2147483648), 2147483647, [])], ([], [], []), ([], []), [(.inl 3, 249, ([], [], []))])
set_option maxRecDepth 100000 in
theorem pl_s733_e : ck_ok p2_OL none [] [(132, [pl_s156])] 186 [] 76 pl_s733 = true := by decide +kernel
theorem pl_s733_s {X : Int → Int} {LX : Nat} : ck_Ok p2_OL X LX 186 pl_s733 := ck_ok_s ⟨pl_nmu, ck_E1 (ck_S1 pl_s156_s ck_S0) ck_E0⟩ ck_X0 ck_l0 pl_s733_e
set_option maxRecDepth 100000 in
/-- GlacierMail.needFind -/
def pl_s734 : ck_Sum := ((7, 1, 6), 249, [.inr (.inr (.inl 1)), .inl ((-2147483648), (-1), []), .inl ((-2147483648), 2147483647, [])], ([], [], []), ([], []), [(.inl 0, 249, ([], [], []))])
set_option maxRecDepth 100000 in
theorem pl_s734_e : ck_ok p2_OL none [] [(129, [pl_s145])] 187 [] 76 pl_s734 = true := by decide +kernel
theorem pl_s734_s {X : Int → Int} {LX : Nat} : ck_Ok p2_OL X LX 187 pl_s734 := ck_ok_s ⟨pl_nmu, ck_E1 (ck_S1 pl_s145_s ck_S0) ck_E0⟩ ck_X0 ck_l0 pl_s734_e
set_option maxRecDepth 100000 in
/-- GlacierMail.writers -/
def pl_s735 : ck_Sum := ((8, 2, 12), 249, [.inr (.inr (.inl 1)), .inl (0, 5, []), .inl ((-2147483648), (-1), []), .inl ((-2147483648), 2147483647, [])], ([], [], []), ([], []), [(.inl 3, 249, ([], [], [])), (.inl 0, 249, ([], [], []))])
set_option maxRecDepth 100000 in
theorem pl_s735_e : ck_ok p2_OL none [] [(132, [pl_s159]), (187, [pl_s734])] 186 [] 84 pl_s735 = true := by decide +kernel
theorem pl_s735_s {X : Int → Int} {LX : Nat} : ck_Ok p2_OL X LX 186 pl_s735 := ck_ok_s ⟨pl_nmu, ck_E1 (ck_S1 pl_s159_s ck_S0) (ck_E1 (ck_S1 pl_s734_s ck_S0) ck_E0)⟩ ck_X0 ck_l0 pl_s735_e
set_option maxRecDepth 100000 in
/-- GlacierMail.needFind -/
def pl_s736 : ck_Sum := ((7, 1, 6), 249, [.inr (.inr (.inl 1)), .inl (300, 2147483647, []), .inl ((-2147483648), 2147483647, [])], ([], [], []), ([], []), [(.inl 0, 249, ([], [], []))])
set_option maxRecDepth 100000 in
theorem pl_s736_e : ck_ok p2_OL none [] [(129, [pl_s147])] 187 [] 76 pl_s736 = true := by decide +kernel
theorem pl_s736_s {X : Int → Int} {LX : Nat} : ck_Ok p2_OL X LX 187 pl_s736 := ck_ok_s ⟨pl_nmu, ck_E1 (ck_S1 pl_s147_s ck_S0) ck_E0⟩ ck_X0 ck_l0 pl_s736_e
set_option maxRecDepth 100000 in
/-- GlacierMail.writers -/
def pl_s737 : ck_Sum := ((8, 2, 12), 249, [.inr (.inr (.inl 1)), .inl (0, 5, []), .inl (300, 2147483647, []), .inl ((-2147483648), 2147483647, [])], ([], [], []), ([], []), [(.inl 3, 249, ([], [], [])), (.inl 0, 249, ([], [], []))])
set_option maxRecDepth 100000 in
theorem pl_s737_e : ck_ok p2_OL none [] [(132, [pl_s159]), (187, [pl_s736])] 186 [] 84 pl_s737 = true := by decide +kernel
theorem pl_s737_s {X : Int → Int} {LX : Nat} : ck_Ok p2_OL X LX 186 pl_s737 := ck_ok_s ⟨pl_nmu, ck_E1 (ck_S1 pl_s159_s ck_S0) (ck_E1 (ck_S1 pl_s736_s ck_S0) ck_E0)⟩ ck_X0 ck_l0 pl_s737_e
set_option maxRecDepth 100000 in
/-- GlacierMail.needFind -/
def pl_s738 : ck_Sum := ((6, 1, 6), 249, [.inr (.inr (.inl 1)), .inl (0, 299, []), .inl ((-2147483648), (-1), [])], ([], [], []), ([], []), [(.inl 0, 249, ([], [], []))])
set_option maxRecDepth 100000 in
theorem pl_s738_e : ck_ok p2_OL none [] [(129, [pl_s149])] 187 [] 82 pl_s738 = true := by decide +kernel
theorem pl_s738_s {X : Int → Int} {LX : Nat} : ck_Ok p2_OL X LX 187 pl_s738 := ck_ok_s ⟨pl_nmu, ck_E1 (ck_S1 pl_s149_s ck_S0) ck_E0⟩ ck_X0 ck_l0 pl_s738_e
set_option maxRecDepth 100000 in
/-- GlacierMail.writers -/
def pl_s739 : ck_Sum := ((8, 2, 12), 249, [.inr (.inr (.inl 1)), .inl (0, 5, []), .inl (0, 299, []), .inl ((-2147483648), (-1), [])], ([], [], []), ([], []), [(.inl 3, 249, ([], [], [])), (.inl 0, 249, ([], [], []))])
set_option maxRecDepth 100000 in
theorem pl_s739_e : ck_ok p2_OL none [] [(132, [pl_s159]), (187, [pl_s738])] 186 [] 84 pl_s739 = true := by decide +kernel
theorem pl_s739_s {X : Int → Int} {LX : Nat} : ck_Ok p2_OL X LX 186 pl_s739 := ck_ok_s ⟨pl_nmu, ck_E1 (ck_S1 pl_s159_s ck_S0) (ck_E1 (ck_S1 pl_s738_s ck_S0) ck_E0)⟩ ck_X0 ck_l0 pl_s739_e
set_option maxRecDepth 100000 in
/-- GlacierMail.needFind -/
def pl_s740 : ck_Sum := ((6, 1, 6), 249, [.inr (.inr (.inl 1)), .inl (0, 299, []), .inl (100, 2147483647, [])], ([], [], []), ([], []), [(.inl 0, 249, ([], [], []))])
set_option maxRecDepth 100000 in
theorem pl_s740_e : ck_ok p2_OL none [] [(129, [pl_s149])] 187 [] 88 pl_s740 = true := by decide +kernel
theorem pl_s740_s {X : Int → Int} {LX : Nat} : ck_Ok p2_OL X LX 187 pl_s740 := ck_ok_s ⟨pl_nmu, ck_E1 (ck_S1 pl_s149_s ck_S0) ck_E0⟩ ck_X0 ck_l0 pl_s740_e
set_option maxRecDepth 100000 in
/-- GlacierMail.writers -/
def pl_s741 : ck_Sum := ((8, 2, 12), 249, [.inr (.inr (.inl 1)), .inl (0, 5, []), .inl (0, 299, []), .inl (100, 2147483647, [])], ([], [], []), ([], []), [(.inl 3, 249, ([], [], [])), (.inl 0, 249, ([], [], []))])
set_option maxRecDepth 100000 in
theorem pl_s741_e : ck_ok p2_OL none [] [(132, [pl_s159]), (187, [pl_s740])] 186 [] 84 pl_s741 = true := by decide +kernel
theorem pl_s741_s {X : Int → Int} {LX : Nat} : ck_Ok p2_OL X LX 186 pl_s741 := ck_ok_s ⟨pl_nmu, ck_E1 (ck_S1 pl_s159_s ck_S0) (ck_E1 (ck_S1 pl_s740_s ck_S0) ck_E0)⟩ ck_X0 ck_l0 pl_s741_e
set_option maxRecDepth 100000 in
/-- GlacierMail.needFind -/
def pl_s742 : ck_Sum := ((1, 0, 0), 249, [.inr (.inr (.inl 1)), .inl (0, 299, []), .inl (0, 99, [])], ([], [], []), ([], []), [(.inr none, 249, ([], [], []))])
set_option maxRecDepth 100000 in
theorem pl_s742_e : ck_ok p2_OL none [] [(129, [pl_s149])] 187 [] 88 pl_s742 = true := by decide +kernel
theorem pl_s742_s {X : Int → Int} {LX : Nat} : ck_Ok p2_OL X LX 187 pl_s742 := ck_ok_s ⟨pl_nmu, ck_E1 (ck_S1 pl_s149_s ck_S0) ck_E0⟩ ck_X0 ck_l0 pl_s742_e
set_option maxRecDepth 100000 in
/-- GlacierMail.latestWriting -/
def pl_s743 : ck_Sum := ((5, 0, 0), 249, [.inr (.inr (.inl 1)), .inl (0, 7, []), .inl (0, 5, []), .inl (0, 299, []), .inl (0, 99, [])], ([], [(3, 8, 246)], []), (zl229, []), [(.inr (some (.inl (ck_one (-1)))), 249, ([], [], [])), (.inr (some (.inl (0, 298, []))), 249, ([], [], [(206, 4, 4, ck_one (-1))]))])
set_option maxRecDepth 100000 in
theorem pl_s743_e : ck_ok p2_OL none [] [(10, [pl_s224]), (170, [pl_s697]), (30, [pl_s214])] 188 [(23, [some (.inr (.inr (.inl 1))), some (.inl (0, 7, [])), some (.inl (0, 5, [])), some (.inl (0, 299, [])), some (.inl (0, 99, [])), some (.inl ((-1), 298, []))], ([], [(3, 8, 246)], []), 100, .inl 5, false)] 174 pl_s743 = true := by decide +kernel
theorem pl_s743_s {X : Int → Int} {LX : Nat} : ck_Ok p2_OL X LX 188 pl_s743 := ck_ok_s ⟨pl_nmu, ck_E1 (ck_S1 pl_s224_s ck_S0) (ck_E1 (ck_S1 pl_s697_s ck_S0) (ck_E1 (ck_S1 pl_s214_s ck_S0) ck_E0))⟩ ck_X0 ck_l0 pl_s743_e
set_option maxRecDepth 100000 in
/-- GlacierMail.writers -/
def pl_s744 : ck_Sum := ((8, 1, 6), 249, [.inr (.inr (.inl 1)), .inl (0, 5, []), .inl (0, 299, []), .inl (0, 99, [])], ([], [(3, 8, 246)], []), (zl229, []), [(.inl 3, 249, ([], [], [])), (.inr (some (.inl ((-2147483648), 2147483647, []))), 249, ([], [], []))])
set_option maxRecDepth 100000 in
theorem pl_s744_e : ck_ok p2_OL none [] [(132, [pl_s159]), (187, [pl_s742]), (9, [pl_s189]), (188, [pl_s743])] 186 [(17, [some (.inr (.inr (.inl 1))), some (.inl (0, 5, [])), some (.inl (0, 299, [])), some (.inl (0, 99, [])), some (.inl ((-2147483648), 2147483647, [])), some (.inl (0, 9, []))], ([], [(3, 8, 246)], []), 100, .inl 5, true)] 182 pl_s744 = true := by decide +kernel
theorem pl_s744_s {X : Int → Int} {LX : Nat} : ck_Ok p2_OL X LX 186 pl_s744 := ck_ok_s ⟨pl_nmu, ck_E1 (ck_S1 pl_s159_s ck_S0) (ck_E1 (ck_S1 pl_s742_s ck_S0) (ck_E1 (ck_S1 pl_s189_s ck_S0) (ck_E1 (ck_S1 pl_s743_s ck_S0) ck_E0)))⟩ ck_X0 ck_l0 pl_s744_e
set_option maxRecDepth 100000 in
/-- GlacierMail.wrote -/
def pl_s745 : ck_Sum := ((8, 1, 6), 249, [.inr (.inr (.inl 1)), .inl ((-2147483648), (-1), []), .inl ((-2147483648), 2147483647, []), .inl ((-2147483648), 2147483647, []), .inl ((-2147483648), 2147483647, [])], ([], [], []), ([], []), [(.inl 3, 249, ([], [], []))])
set_option maxRecDepth 100000 in
theorem pl_s745_e : ck_ok p2_OL none [] [(139, [pl_s191])] 190 [] 76 pl_s745 = true := by decide +kernel
theorem pl_s745_s {X : Int → Int} {LX : Nat} : ck_Ok p2_OL X LX 190 pl_s745 := ck_ok_s ⟨pl_nmu, ck_E1 (ck_S1 pl_s191_s ck_S0) ck_E0⟩ ck_X0 ck_l0 pl_s745_e
set_option maxRecDepth 100000 in
/-- GlacierMail.wrote -/
def pl_s746 : ck_Sum := ((8, 1, 6), 249, [.inr (.inr (.inl 1)), .inl (8, 2147483647, []), .inl ((-2147483648), 2147483647, []), .inl ((-2147483648), 2147483647, []), .inl ((-2147483648), 2147483647, [])], ([], [], []), ([], []), [(.inl 3, 249, ([], [], []))])
set_option maxRecDepth 100000 in
theorem pl_s746_e : ck_ok p2_OL none [] [(139, [pl_s194])] 190 [] 76 pl_s746 = true := by decide +kernel
theorem pl_s746_s {X : Int → Int} {LX : Nat} : ck_Ok p2_OL X LX 190 pl_s746 := ck_ok_s ⟨pl_nmu, ck_E1 (ck_S1 pl_s194_s ck_S0) ck_E0⟩ ck_X0 ck_l0 pl_s746_e
set_option maxRecDepth 100000 in
/-- GlacierMail.wrote -/
def pl_s747 : ck_Sum := ((8, 2, 12), 249, [.inr (.inr (.inl 1)), .inl (0, 7, []), .inl ((-2147483648), (-1), []), .inl ((-2147483648), 2147483647, []), .inl ((-2147483648), 2147483647, [])], ([], [], []), ([], []), [(.inl 3, 249, ([], [], []))])
set_option maxRecDepth 100000 in
theorem pl_s747_e : ck_ok p2_OL none [] [(139, [pl_s197]), (132, [pl_s153])] 190 [] 82 pl_s747 = true := by decide +kernel
theorem pl_s747_s {X : Int → Int} {LX : Nat} : ck_Ok p2_OL X LX 190 pl_s747 := ck_ok_s ⟨pl_nmu, ck_E1 (ck_S1 pl_s197_s ck_S0) (ck_E1 (ck_S1 pl_s153_s ck_S0) ck_E0)⟩ ck_X0 ck_l0 pl_s747_e
set_option maxRecDepth 100000 in
/-- GlacierMail.wrote -/
def pl_s748 : ck_Sum := ((8, 2, 12), 249, [.inr (.inr (.inl 1)), .inl (0, 7, []), .inl (6, 2147483647, []), .inl ((-2147483648), 2147483647, []), .inl ((-2147483648), 2147483647, [])], ([], [], []), ([], []), [(.inl 3, 249, ([], [], []))])
set_option maxRecDepth 100000 in
theorem pl_s748_e : ck_ok p2_OL none [] [(139, [pl_s197]), (132, [pl_s156])] 190 [] 82 pl_s748 = true := by decide +kernel
theorem pl_s748_s {X : Int → Int} {LX : Nat} : ck_Ok p2_OL X LX 190 pl_s748 := ck_ok_s ⟨pl_nmu, ck_E1 (ck_S1 pl_s197_s ck_S0) (ck_E1 (ck_S1 pl_s156_s ck_S0) ck_E0)⟩ ck_X0 ck_l0 pl_s748_e
set_option maxRecDepth 100000 in
/-- GlacierMail.wrote -/
def pl_s749 : ck_Sum := ((8, 3, 18), 249, [.inr (.inr (.inl 1)), .inl (0, 7, []), .inl (0, 5, []), .inl ((-2147483648), (-1), []), .inl ((-2147483648), 2147483647, [])], ([], [], []), ([], []), [(.inl 3, 249, ([], [], [])), (.inl 0, 249, ([], [], []))])
set_option maxRecDepth 100000 in
theorem pl_s749_e : ck_ok p2_OL none [] [(139, [pl_s197]), (132, [pl_s159]), (187, [pl_s734])] 190 [] 90 pl_s749 = true := by decide +kernel
theorem pl_s749_s {X : Int → Int} {LX : Nat} : ck_Ok p2_OL X LX 190 pl_s749 := ck_ok_s ⟨pl_nmu, ck_E1 (ck_S1 pl_s197_s ck_S0) (ck_E1 (ck_S1 pl_s159_s ck_S0) (ck_E1 (ck_S1 pl_s734_s ck_S0) ck_E0))⟩ ck_X0 ck_l0 pl_s749_e
set_option maxRecDepth 100000 in
/-- GlacierMail.wrote -/
def pl_s750 : ck_Sum := ((8, 3, 18), 249, [.inr (.inr (.inl 1)), .inl (0, 7, []), .inl (0, 5, []), .inl (300, 2147483647, []), .inl ((-2147483648), 2147483647, [])], ([], [], []), ([], []), [(.inl 3, 249, ([], [], [])), (.inl 0, 249, ([], [], []))])
set_option maxRecDepth 100000 in
theorem pl_s750_e : ck_ok p2_OL none [] [(139, [pl_s197]), (132, [pl_s159]), (187, [pl_s736])] 190 [] 90 pl_s750 = true := by decide +kernel
theorem pl_s750_s {X : Int → Int} {LX : Nat} : ck_Ok p2_OL X LX 190 pl_s750 := ck_ok_s ⟨pl_nmu, ck_E1 (ck_S1 pl_s197_s ck_S0) (ck_E1 (ck_S1 pl_s159_s ck_S0) (ck_E1 (ck_S1 pl_s736_s ck_S0) ck_E0))⟩ ck_X0 ck_l0 pl_s750_e
set_option maxRecDepth 100000 in
/-- GlacierMail.wrote -/
def pl_s751 : ck_Sum := ((8, 3, 18), 249, [.inr (.inr (.inl 1)), .inl (0, 7, []), .inl (0, 5, []), .inl (0, 299, []), .inl ((-2147483648), (-1), [])], ([], [], []), ([], []), [(.inl 3, 249, ([], [], [])), (.inl 0, 249, ([], [], []))])
set_option maxRecDepth 100000 in
theorem pl_s751_e : ck_ok p2_OL none [] [(139, [pl_s197]), (132, [pl_s159]), (187, [pl_s738])] 190 [] 90 pl_s751 = true := by decide +kernel
theorem pl_s751_s {X : Int → Int} {LX : Nat} : ck_Ok p2_OL X LX 190 pl_s751 := ck_ok_s ⟨pl_nmu, ck_E1 (ck_S1 pl_s197_s ck_S0) (ck_E1 (ck_S1 pl_s159_s ck_S0) (ck_E1 (ck_S1 pl_s738_s ck_S0) ck_E0))⟩ ck_X0 ck_l0 pl_s751_e
set_option maxRecDepth 100000 in
/-- GlacierMail.wrote -/
def pl_s752 : ck_Sum := ((8, 3, 18), 249, [.inr (.inr (.inl 1)), .inl (0, 7, []), .inl (0, 5, []), .inl (0, 299, []), .inl (100, 2147483647, [])], ([], [], []), ([], []), [(.inl 3, 249, ([], [], [])), (.inl 0, 249, ([], [], []))])
set_option maxRecDepth 100000 in
theorem pl_s752_e : ck_ok p2_OL none [] [(139, [pl_s197]), (132, [pl_s159]), (187, [pl_s740])] 190 [] 90 pl_s752 = true := by decide +kernel
theorem pl_s752_s {X : Int → Int} {LX : Nat} : ck_Ok p2_OL X LX 190 pl_s752 := ck_ok_s ⟨pl_nmu, ck_E1 (ck_S1 pl_s197_s ck_S0) (ck_E1 (ck_S1 pl_s159_s ck_S0) (ck_E1 (ck_S1 pl_s740_s ck_S0) ck_E0))⟩ ck_X0 ck_l0 pl_s752_e
set_option maxRecDepth 100000 in
/-- GlacierMail.wrote -/
def pl_s753 : ck_Sum := ((8, 2, 12), 249, [.inr (.inr (.inl 1)), .inl (0, 7, []), .inl (0, 5, []), .inl (0, 299, []), .inl (0, 99, [])], ([], [(3, 8, 246)], []), (zl229, []), [(.inl 3, 249, ([], [], [])), (.inr (some (.inl (ck_one (-1)))), 249, ([], [], [])), (.inr (some (.inl (0, 298, []))), 249, ([], [], [(206, 4, 4, ck_one (-1))]))])
set_option maxRecDepth 100000 in
theorem pl_s753_e : ck_ok p2_OL none [] [(139, [pl_s197]), (132, [pl_s159]), (187, [pl_s742]), (188, [pl_s743])] 190 [] 104 pl_s753 = true := by decide +kernel
theorem pl_s753_s {X : Int → Int} {LX : Nat} : ck_Ok p2_OL X LX 190 pl_s753 := ck_ok_s ⟨pl_nmu, ck_E1 (ck_S1 pl_s197_s ck_S0) (ck_E1 (ck_S1 pl_s159_s ck_S0) (ck_E1 (ck_S1 pl_s742_s ck_S0) (ck_E1 (ck_S1 pl_s743_s ck_S0) ck_E0)))⟩ ck_X0 ck_l0 pl_s753_e
set_option maxRecDepth 100000 in
/-- GlacierMail$Rows.size -/
def pl_s754 : ck_Sum := ((0, 0, 0), 249, [.inr (.inr (.inl 12))], ([], [], []), ([], []), [(.inr (some (.inl (0, 6, []))), 249, ([], [], []))])
set_option maxRecDepth 100000 in
theorem pl_s754_e : ck_ok p2_OL none [] [] 9 [] 76 pl_s754 = true := by decide +kernel
theorem pl_s754_s {X : Int → Int} {LX : Nat} : ck_Ok p2_OL X LX 9 pl_s754 := ck_ok_s ⟨pl_nmu, ck_E0⟩ ck_X0 ck_l0 pl_s754_e
set_option maxRecDepth 100000 in
/-- GlacierMail.need -/
def pl_s755 : ck_Sum := ((6, 1, 6), 249, [.inr (.inr (.inl 1)), .inl ((-2147483648), (-1), []), .inl (0, 6, [])], ([], [], []), ([], []), [(.inl 3, 249, ([], [], []))])
set_option maxRecDepth 100000 in
theorem pl_s755_e : ck_ok p2_OL none [] [] 133 [] 76 pl_s755 = true := by decide +kernel
theorem pl_s755_s {X : Int → Int} {LX : Nat} : ck_Ok p2_OL X LX 133 pl_s755 := ck_ok_s ⟨pl_nmu, ck_E0⟩ ck_X0 ck_l0 pl_s755_e
set_option maxRecDepth 100000 in
/-- GlacierMail.needTable -/
def pl_s756 : ck_Sum := ((7, 1, 6), 249, [.inr (.inr (.inl 1)), .inl ((-2147483648), (-1), [])], ([], [], []), ([], []), [(.inl 3, 249, ([], [], []))])
set_option maxRecDepth 100000 in
theorem pl_s756_e : ck_ok p2_OL none [] [(9, [pl_s754]), (133, [pl_s755])] 193 [] 84 pl_s756 = true := by decide +kernel
theorem pl_s756_s {X : Int → Int} {LX : Nat} : ck_Ok p2_OL X LX 193 pl_s756 := ck_ok_s ⟨pl_nmu, ck_E1 (ck_S1 pl_s754_s ck_S0) (ck_E1 (ck_S1 pl_s755_s ck_S0) ck_E0)⟩ ck_X0 ck_l0 pl_s756_e
set_option maxRecDepth 100000 in
/-- GlacierMail.table -/
def pl_s757 : ck_Sum := ((8, 1, 6), 249, [.inr (.inr (.inl 1)), .inl ((-2147483648), (-1), []), .inl ((-2147483648), 2147483647, [])], ([], [], []), ([], []), [(.inl 3, 249, ([], [], []))])
set_option maxRecDepth 100000 in
theorem pl_s757_e : ck_ok p2_OL none [] [(193, [pl_s756])] 192 [] 76 pl_s757 = true := by decide +kernel
theorem pl_s757_s {X : Int → Int} {LX : Nat} : ck_Ok p2_OL X LX 192 pl_s757 := ck_ok_s ⟨pl_nmu, ck_E1 (ck_S1 pl_s756_s ck_S0) ck_E0⟩ ck_X0 ck_l0 pl_s757_e
set_option maxRecDepth 100000 in
/-- GlacierMail.need -/
def pl_s758 : ck_Sum := ((6, 1, 6), 249, [.inr (.inr (.inl 1)), .inl (6, 2147483647, []), .inl (0, 6, [])], ([], [], []), ([], []), [(.inl 3, 249, ([], [], []))])
set_option maxRecDepth 100000 in
theorem pl_s758_e : ck_ok p2_OL none [] [] 133 [] 82 pl_s758 = true := by decide +kernel
theorem pl_s758_s {X : Int → Int} {LX : Nat} : ck_Ok p2_OL X LX 133 pl_s758 := ck_ok_s ⟨pl_nmu, ck_E0⟩ ck_X0 ck_l0 pl_s758_e
set_option maxRecDepth 100000 in
/-- GlacierMail.needTable -/
def pl_s759 : ck_Sum := ((7, 1, 6), 249, [.inr (.inr (.inl 1)), .inl (6, 2147483647, [])], ([], [], []), ([], []), [(.inl 3, 249, ([], [], []))])
set_option maxRecDepth 100000 in
theorem pl_s759_e : ck_ok p2_OL none [] [(9, [pl_s754]), (133, [pl_s758])] 193 [] 84 pl_s759 = true := by decide +kernel
theorem pl_s759_s {X : Int → Int} {LX : Nat} : ck_Ok p2_OL X LX 193 pl_s759 := ck_ok_s ⟨pl_nmu, ck_E1 (ck_S1 pl_s754_s ck_S0) (ck_E1 (ck_S1 pl_s758_s ck_S0) ck_E0)⟩ ck_X0 ck_l0 pl_s759_e
set_option maxRecDepth 100000 in
/-- GlacierMail.table -/
def pl_s760 : ck_Sum := ((8, 1, 6), 249, [.inr (.inr (.inl 1)), .inl (6, 2147483647, []), .inl ((-2147483648), 2147483647, [])], ([], [], []), ([], []), [(.inl 3, 249, ([], [], []))])
set_option maxRecDepth 100000 in
theorem pl_s760_e : ck_ok p2_OL none [] [(193, [pl_s759])] 192 [] 76 pl_s760 = true := by decide +kernel
theorem pl_s760_s {X : Int → Int} {LX : Nat} : ck_Ok p2_OL X LX 192 pl_s760 := ck_ok_s ⟨pl_nmu, ck_E1 (ck_S1 pl_s759_s ck_S0) ck_E0⟩ ck_X0 ck_l0 pl_s760_e
set_option maxRecDepth 100000 in
/-- GlacierMail.need -/
def pl_s761 : ck_Sum := ((6, 1, 6), 249, [.inr (.inr (.inl 1)), .inl (0, 5, []), .inl (0, 6, [])], ([], [], []), ([], []), [(.inr none, 249, ([], [], [])), (.inl 3, 249, ([], [], []))])
set_option maxRecDepth 100000 in
theorem pl_s761_e : ck_ok p2_OL none [] [] 133 [] 82 pl_s761 = true := by decide +kernel
theorem pl_s761_s {X : Int → Int} {LX : Nat} : ck_Ok p2_OL X LX 133 pl_s761 := ck_ok_s ⟨pl_nmu, ck_E0⟩ ck_X0 ck_l0 pl_s761_e
set_option maxRecDepth 100000 in
/-- GlacierMail.needTable -/
def pl_s762 : ck_Sum := ((7, 1, 6), 249, [.inr (.inr (.inl 1)), .inl (0, 5, [])], ([], [], []), ([], []), [(.inl 3, 249, ([], [], [])), (.inr none, 249, ([], [], []))])
set_option maxRecDepth 100000 in
theorem pl_s762_e : ck_ok p2_OL none [] [(9, [pl_s754]), (133, [pl_s761])] 193 [] 86 pl_s762 = true := by decide +kernel
theorem pl_s762_s {X : Int → Int} {LX : Nat} : ck_Ok p2_OL X LX 193 pl_s762 := ck_ok_s ⟨pl_nmu, ck_E1 (ck_S1 pl_s754_s ck_S0) (ck_E1 (ck_S1 pl_s761_s ck_S0) ck_E0)⟩ ck_X0 ck_l0 pl_s762_e
set_option maxRecDepth 100000 in
/-- GlacierMail.table -/
def pl_s763 : ck_Sum := ((8, 2, 12), 249, [.inr (.inr (.inl 1)), .inl (0, 5, []), .inl ((-2147483648), (-1), [])], ([], [], []), ([], []), [(.inl 3, 249, ([], [], []))])
set_option maxRecDepth 100000 in
theorem pl_s763_e : ck_ok p2_OL none [] [(193, [pl_s762]), (132, [pl_s153])] 192 [] 82 pl_s763 = true := by decide +kernel
theorem pl_s763_s {X : Int → Int} {LX : Nat} : ck_Ok p2_OL X LX 192 pl_s763 := ck_ok_s ⟨pl_nmu, ck_E1 (ck_S1 pl_s762_s ck_S0) (ck_E1 (ck_S1 pl_s153_s ck_S0) ck_E0)⟩ ck_X0 ck_l0 pl_s763_e
set_option maxRecDepth 100000 in
/-- GlacierMail.table -/
def pl_s764 : ck_Sum := ((8, 2, 12), 249, [.inr (.inr (.inl 1)), .inl (0, 5, []), .inl (6, 2147483647, [])], ([], [], []), ([], []), [(.inl 3, 249, ([], [], []))])
set_option maxRecDepth 100000 in
theorem pl_s764_e : ck_ok p2_OL none [] [(193, [pl_s762]), (132, [pl_s156])] 192 [] 82 pl_s764 = true := by decide +kernel
theorem pl_s764_s {X : Int → Int} {LX : Nat} : ck_Ok p2_OL X LX 192 pl_s764 := ck_ok_s ⟨pl_nmu, ck_E1 (ck_S1 pl_s762_s ck_S0) (ck_E1 (ck_S1 pl_s156_s ck_S0) ck_E0)⟩ ck_X0 ck_l0 pl_s764_e
set_option maxRecDepth 100000 in
/-- GlacierMail$Rows.get -/
def pl_s765 : ck_Sum := ((0, 0, 0), 249, [.inr (.inr (.inl 12)), .inl ((-2147483648), 2147483647, []), .inl ((-2147483648), 2147483647, [])], ([], [], []), ([], []), [(.inr (some (.inl (ck_one (-1)))), 249, ([], [], [])), (.inr (some (.inl (0, 20, []))), 249, ([], [], [(12, 3, 3, (1, 6, []))]))])
set_option maxRecDepth 100000 in
theorem pl_s765_e : ck_ok p2_OL none [] [] 10 [] 114 pl_s765 = true := by decide +kernel
theorem pl_s765_s {X : Int → Int} {LX : Nat} : ck_Ok p2_OL X LX 10 pl_s765 := ck_ok_s ⟨pl_nmu, ck_E0⟩ ck_X0 ck_l0 pl_s765_e
set_option maxRecDepth 100000 in
/-- GlacierMail.table -/
def pl_s766 : ck_Sum := ((8, 2, 12), 249, [.inr (.inr (.inl 1)), .inl (0, 5, []), .inl (0, 5, [])], ([], [], []), ([], []), [(.inl 3, 249, ([], [], [])), (.inr (some (.inl (ck_one (-1)))), 249, ([], [], [])), (.inr (some (.inl (0, 20, []))), 249, ([], [], [(12, 3, 3, (1, 6, []))]))])
set_option maxRecDepth 100000 in
theorem pl_s766_e : ck_ok p2_OL none [] [(193, [pl_s762]), (132, [pl_s159]), (10, [pl_s765])] 192 [] 96 pl_s766 = true := by decide +kernel
theorem pl_s766_s {X : Int → Int} {LX : Nat} : ck_Ok p2_OL X LX 192 pl_s766 := ck_ok_s ⟨pl_nmu, ck_E1 (ck_S1 pl_s762_s ck_S0) (ck_E1 (ck_S1 pl_s159_s ck_S0) (ck_E1 (ck_S1 pl_s765_s ck_S0) ck_E0))⟩ ck_X0 ck_l0 pl_s766_e
set_option maxRecDepth 100000 in
/-- GlacierMail.apart -/
def pl_s767 : ck_Sum := ((8, 1, 6), 249, [.inr (.inr (.inl 1)), .inl ((-2147483648), (-1), []), .inl ((-2147483648), 2147483647, []), .inl ((-2147483648), 2147483647, [])], ([], [], []), ([], []), [(.inl 3, 249, ([], [], []))])
set_option maxRecDepth 100000 in
theorem pl_s767_e : ck_ok p2_OL none [] [(193, [pl_s756])] 195 [] 76 pl_s767 = true := by decide +kernel
theorem pl_s767_s {X : Int → Int} {LX : Nat} : ck_Ok p2_OL X LX 195 pl_s767 := ck_ok_s ⟨pl_nmu, ck_E1 (ck_S1 pl_s756_s ck_S0) ck_E0⟩ ck_X0 ck_l0 pl_s767_e
end
/-! 78r86a11.sl -/
section
/-! EVERY CALL OF THE CLASS ENDS, under a law (laid by wip/am/p2l.py). -/
set_option maxRecDepth 100000 in
/-- GlacierMail.apart -/
def pl_s768 : ck_Sum := ((8, 1, 6), 249, [.inr (.inr (.inl 1)), .inl (6, 2147483647, []), .inl ((-2147483648), 2147483647, []), .inl ((-2147483648), 2147483647, [])], ([], [], []), ([], []), [(.inl 3, 249, ([], [], []))])
set_option maxRecDepth 100000 in
theorem pl_s768_e : ck_ok p2_OL none [] [(193, [pl_s759])] 195 [] 76 pl_s768 = true := by decide +kernel
theorem pl_s768_s {X : Int → Int} {LX : Nat} : ck_Ok p2_OL X LX 195 pl_s768 := ck_ok_s ⟨pl_nmu, ck_E1 (ck_S1 pl_s759_s ck_S0) ck_E0⟩ ck_X0 ck_l0 pl_s768_e
set_option maxRecDepth 100000 in
/-- GlacierMail.apart -/
def pl_s769 : ck_Sum := ((8, 2, 12), 249, [.inr (.inr (.inl 1)), .inl (0, 5, []), .inl ((-2147483648), (-1), []), .inl ((-2147483648), 2147483647, [])], ([], [], []), ([], []), [(.inl 3, 249, ([], [], []))])
set_option maxRecDepth 100000 in
theorem pl_s769_e : ck_ok p2_OL none [] [(193, [pl_s762, pl_s756])] 195 [] 82 pl_s769 = true := by decide +kernel
theorem pl_s769_s {X : Int → Int} {LX : Nat} : ck_Ok p2_OL X LX 195 pl_s769 := ck_ok_s ⟨pl_nmu, ck_E1 (ck_S1 pl_s762_s (ck_S1 pl_s756_s ck_S0)) ck_E0⟩ ck_X0 ck_l0 pl_s769_e
set_option maxRecDepth 100000 in
/-- GlacierMail.apart -/
def pl_s770 : ck_Sum := ((8, 2, 12), 249, [.inr (.inr (.inl 1)), .inl (0, 5, []), .inl (6, 2147483647, []), .inl ((-2147483648), 2147483647, [])], ([], [], []), ([], []), [(.inl 3, 249, ([], [], []))])
set_option maxRecDepth 100000 in
theorem pl_s770_e : ck_ok p2_OL none [] [(193, [pl_s762, pl_s759])] 195 [] 82 pl_s770 = true := by decide +kernel
theorem pl_s770_s {X : Int → Int} {LX : Nat} : ck_Ok p2_OL X LX 195 pl_s770 := ck_ok_s ⟨pl_nmu, ck_E1 (ck_S1 pl_s762_s (ck_S1 pl_s759_s ck_S0)) ck_E0⟩ ck_X0 ck_l0 pl_s770_e
set_option maxRecDepth 100000 in
/-- GlacierMail.toldApart -/
def pl_s771 : ck_Sum := ((1, 0, 0), 249, [.inr (.inr (.inl 1)), .inl (0, 5, []), .inl (0, 5, []), .inl ((-2147483648), 2147483647, [])], ([], [], []), ([], []), [(.inr (some (.inl (ck_one 0))), 249, ([], [], [])), (.inr (some (.inl (ck_one 1))), 249, ([], [], [(12, 3, 3, (1, 6, []))]))])
set_option maxRecDepth 100000 in
theorem pl_s771_e : ck_ok p2_OL none [] [(10, [pl_s765])] 51 [(3, [some (.inr (.inr (.inl 1))), some (.inl (0, 5, [])), some (.inl (0, 5, [])), some (.inl ((-2147483648), 2147483647, [])), some (.inl (0, 6, []))], ([], [], []), 100, .inl 4, true)] 202 pl_s771 = true := by decide +kernel
theorem pl_s771_s {X : Int → Int} {LX : Nat} : ck_Ok p2_OL X LX 51 pl_s771 := ck_ok_s ⟨pl_nmu, ck_E1 (ck_S1 pl_s765_s ck_S0) ck_E0⟩ ck_X0 ck_l0 pl_s771_e
set_option maxRecDepth 100000 in
/-- GlacierMail.apart -/
def pl_s772 : ck_Sum := ((8, 2, 12), 249, [.inr (.inr (.inl 1)), .inl (0, 5, []), .inl (0, 5, []), .inl ((-2147483648), 2147483647, [])], ([], [], []), ([], []), [(.inl 3, 249, ([], [], [])), (.inr (some (.inl (ck_one 0))), 249, ([], [], [])), (.inr (some (.inl (ck_one 1))), 249, ([], [], [(12, 3, 3, (1, 6, []))]))])
set_option maxRecDepth 100000 in
theorem pl_s772_e : ck_ok p2_OL none [] [(193, [pl_s762]), (51, [pl_s771])] 195 [] 94 pl_s772 = true := by decide +kernel
theorem pl_s772_s {X : Int → Int} {LX : Nat} : ck_Ok p2_OL X LX 195 pl_s772 := ck_ok_s ⟨pl_nmu, ck_E1 (ck_S1 pl_s762_s ck_S0) (ck_E1 (ck_S1 pl_s771_s ck_S0) ck_E0)⟩ ck_X0 ck_l0 pl_s772_e
set_option maxRecDepth 100000 in
/-- GlacierMail.allToldApart -/
def pl_s773 : ck_Sum := ((2, 0, 0), 249, [.inr (.inr (.inl 1)), .inl ((-2147483648), 2147483647, [])], ([], [], []), ([], []), [(.inr (some (.inl (ck_one 1))), 249, ([], [], [])), (.inr (some (.inl (ck_one 0))), 249, ([], [], []))])
set_option maxRecDepth 100000 in
theorem pl_s773_e : ck_ok p2_OL none [] [(9, [pl_s754]), (51, [pl_s771])] 50 [(2, [some (.inr (.inr (.inl 1))), some (.inl ((-2147483648), 2147483647, [])), some (.inl (0, 6, [])), none], ([], [], []), 100, .inl 2, true), (20, [some (.inr (.inr (.inl 1))), some (.inl ((-2147483648), 2147483647, [])), some (.inl (0, 5, [(100, 0)])), some (.inl (1, 6, []))], ([], [], []), 300, .inl 3, true)] 200 pl_s773 = true := by decide +kernel
theorem pl_s773_s {X : Int → Int} {LX : Nat} : ck_Ok p2_OL X LX 50 pl_s773 := ck_ok_s ⟨pl_nmu, ck_E1 (ck_S1 pl_s754_s ck_S0) (ck_E1 (ck_S1 pl_s771_s ck_S0) ck_E0)⟩ ck_X0 ck_l0 pl_s773_e
set_option maxRecDepth 100000 in
/-- java/lang/Integer.bitCount -/
def pl_s774 : ck_Sum := ((0, 0, 0), 249, [.inl ((-2147483648), 2147483647, [])], ([], [], []), ([], []), [(.inr (some (.inl (0, 63, []))), 249, ([], [], []))])
set_option maxRecDepth 100000 in
theorem pl_s774_e : ck_ok p2_OL none [] [] 49 [] 154 pl_s774 = true := by decide +kernel
theorem pl_s774_s {X : Int → Int} {LX : Nat} : ck_Ok p2_OL X LX 49 pl_s774 := ck_ok_s ⟨pl_nmu, ck_E0⟩ ck_X0 ck_l0 pl_s774_e
set_option maxRecDepth 100000 in
/-- GlacierMail.poles -/
def pl_s775 : ck_Sum := ((3, 0, 0), 249, [.inr (.inr (.inl 1))], ([], [], []), ([], []), [(.inr (some (.inl ((-1), 2147483646, []))), 249, ([], [], []))])
set_option maxRecDepth 100000 in
theorem pl_s775_e : ck_ok p2_OL none [] [(50, [pl_s773]), (49, [pl_s774])] 48 [(4, [some (.inr (.inr (.inl 1))), some (.inl ((-1), 2147483646, [])), some (.inl (0, 2147483647, [])), none], ([], [], []), 100, .inl 2, true)] 206 pl_s775 = true := by decide +kernel
theorem pl_s775_s {X : Int → Int} {LX : Nat} : ck_Ok p2_OL X LX 48 pl_s775 := ck_ok_s ⟨pl_nmu, ck_E1 (ck_S1 pl_s773_s ck_S0) (ck_E1 (ck_S1 pl_s774_s ck_S0) ck_E0)⟩ ck_X0 ck_l0 pl_s775_e
set_option maxRecDepth 100000 in
/-- GlacierMail.areReadings -/
def pl_s776 : ck_Sum := ((0, 0, 0), 249, [.inr (.inr (.inl 1)), .inl (0, 400, [])], ([], [], []), ([], []), [(.inr (some (.inl (ck_one 0))), 249, ([], [], [])), (.inr (some (.inl (ck_one 1))), 249, ([], [], []))])
set_option maxRecDepth 100000 in
theorem pl_s776_e : ck_ok p2_OL none [] [] 198 [(10, [some (.inr (.inr (.inl 1))), some (.inl (0, 400, [])), some (.inl (0, 400, [])), none, none], ([], [], []), 100, .inl 2, true)] 302 pl_s776 = true := by decide +kernel
theorem pl_s776_s {X : Int → Int} {LX : Nat} : ck_Ok p2_OL X LX 198 pl_s776 := ck_ok_s ⟨pl_nmu, ck_E0⟩ ck_X0 ck_l0 pl_s776_e
set_option maxRecDepth 100000 in
/-- GlacierMail.fitsReadings -/
def pl_s777 : ck_Sum := ((1, 0, 0), 249, [.inr (.inr (.inl 1)), .inl (0, 5, []), .inl (0, 400, [])], ([], [], []), ([], []), [(.inr (some (.inl (ck_one 1))), 249, ([], [], [])), (.inr (some (.inl (ck_one 0))), 249, ([], [], []))])
set_option maxRecDepth 100000 in
theorem pl_s777_e : ck_ok p2_OL none [] [(10, [pl_s765])] 199 [(2, [some (.inr (.inr (.inl 1))), some (.inl (0, 5, [])), some (.inl (0, 400, [])), some (.inl (0, 400, []))], ([], [], []), 100, .inl 3, true)] 214 pl_s777 = true := by decide +kernel
theorem pl_s777_s {X : Int → Int} {LX : Nat} : ck_Ok p2_OL X LX 199 pl_s777 := ck_ok_s ⟨pl_nmu, ck_E1 (ck_S1 pl_s765_s ck_S0) ck_E0⟩ ck_X0 ck_l0 pl_s777_e
set_option maxRecDepth 100000 in
/-- GlacierMail.fit -/
def pl_s778 : ck_Sum := ((6, 1, 6), 249, [.inr (.inr (.inl 1))], ([], [], [(1, 1, 1, (0, 400, [(6, 0)]))]), ([(1, 1, 1)], []), [(.inl 0, 249, ([], [], [(1, 1, 1, ck_one 0)])), (.inr (some (.inl ((-2147483648), 2147483647, []))), 249, ([], [], [(1, 1, 1, ck_one 0)]))])
set_option maxRecDepth 100000 in
theorem pl_s778_e : ck_ok p2_OL none [] [(198, [pl_s776]), (9, [pl_s754]), (199, [pl_s777])] 197 [(33, [some (.inr (.inr (.inl 1))), some (.inl (0, 400, [(6, 0)])), some (.inl ((-2147483648), 2147483647, [])), some (.inl (0, 6, []))], ([], [], [(1, 1, 1, ck_one 0)]), 100, .inl 3, true)] 170 pl_s778 = true := by decide +kernel
theorem pl_s778_s {X : Int → Int} {LX : Nat} : ck_Ok p2_OL X LX 197 pl_s778 := ck_ok_s ⟨pl_nmu, ck_E1 (ck_S1 pl_s776_s ck_S0) (ck_E1 (ck_S1 pl_s754_s ck_S0) (ck_E1 (ck_S1 pl_s777_s ck_S0) ck_E0))⟩ ck_X0 ck_l0 pl_s778_e
set_option maxRecDepth 100000 in
/-- GlacierMail.soonest -/
def pl_s779 : ck_Sum := ((8, 1, 6), 249, [.inr (.inr (.inl 1)), .inl ((-2147483648), (-1), []), .inl ((-2147483648), 2147483647, []), .inl (0, 1, [])], ([], [], []), ([], []), [(.inl 3, 249, ([], [], []))])
set_option maxRecDepth 100000 in
theorem pl_s779_e : ck_ok p2_OL none [] [(139, [pl_s191])] 201 [] 76 pl_s779 = true := by decide +kernel
theorem pl_s779_s {X : Int → Int} {LX : Nat} : ck_Ok p2_OL X LX 201 pl_s779 := ck_ok_s ⟨pl_nmu, ck_E1 (ck_S1 pl_s191_s ck_S0) ck_E0⟩ ck_X0 ck_l0 pl_s779_e
set_option maxRecDepth 100000 in
/-- GlacierMail.soonest -/
def pl_s780 : ck_Sum := ((8, 1, 6), 249, [.inr (.inr (.inl 1)), .inl (8, 2147483647, []), .inl ((-2147483648), 2147483647, []), .inl (0, 1, [])], ([], [], []), ([], []), [(.inl 3, 249, ([], [], []))])
set_option maxRecDepth 100000 in
theorem pl_s780_e : ck_ok p2_OL none [] [(139, [pl_s194])] 201 [] 76 pl_s780 = true := by decide +kernel
theorem pl_s780_s {X : Int → Int} {LX : Nat} : ck_Ok p2_OL X LX 201 pl_s780 := ck_ok_s ⟨pl_nmu, ck_E1 (ck_S1 pl_s194_s ck_S0) ck_E0⟩ ck_X0 ck_l0 pl_s780_e
set_option maxRecDepth 100000 in
/-- GlacierMail.soonest -/
def pl_s781 : ck_Sum := ((8, 2, 12), 249, [.inr (.inr (.inl 1)), .inl (0, 7, []), .inl ((-2147483648), (-1), []), .inl (0, 1, [])], ([], [], []), ([], []), [(.inl 3, 249, ([], [], []))])
set_option maxRecDepth 100000 in
theorem pl_s781_e : ck_ok p2_OL none [] [(139, [pl_s197, pl_s191])] 201 [] 82 pl_s781 = true := by decide +kernel
theorem pl_s781_s {X : Int → Int} {LX : Nat} : ck_Ok p2_OL X LX 201 pl_s781 := ck_ok_s ⟨pl_nmu, ck_E1 (ck_S1 pl_s197_s (ck_S1 pl_s191_s ck_S0)) ck_E0⟩ ck_X0 ck_l0 pl_s781_e
set_option maxRecDepth 100000 in
/-- GlacierMail.soonest -/
def pl_s782 : ck_Sum := ((8, 2, 12), 249, [.inr (.inr (.inl 1)), .inl (0, 7, []), .inl (8, 2147483647, []), .inl (0, 1, [])], ([], [], []), ([], []), [(.inl 3, 249, ([], [], []))])
set_option maxRecDepth 100000 in
theorem pl_s782_e : ck_ok p2_OL none [] [(139, [pl_s197, pl_s194])] 201 [] 82 pl_s782 = true := by decide +kernel
theorem pl_s782_s {X : Int → Int} {LX : Nat} : ck_Ok p2_OL X LX 201 pl_s782 := ck_ok_s ⟨pl_nmu, ck_E1 (ck_S1 pl_s197_s (ck_S1 pl_s194_s ck_S0)) ck_E0⟩ ck_X0 ck_l0 pl_s782_e
set_option maxRecDepth 100000 in
/-- java/util/Arrays.fill -/
def pl_s783 : ck_Sum := ((0, 0, 0), 249, [.inr (.inr (.inl 210)), .inl (ck_one 0)], ([], [], []), ([(210, 0, 2399)], []), [(.inr none, 249, ([], [], []))])
set_option maxRecDepth 100000 in
theorem pl_s783_e : ck_ok p2_OL none [] [] 8 [(5, [some (.inr (.inr (.inl 210))), some (.inl (ck_one 0)), some (.inl (0, 2400, [])), some (.inl (ck_one 2400))], ([], [], []), 100, .inl 2, true)] 130 pl_s783 = true := by decide +kernel
theorem pl_s783_s {X : Int → Int} {LX : Nat} : ck_Ok p2_OL X LX 8 pl_s783 := ck_ok_s ⟨pl_nmu, ck_E0⟩ ck_X0 ck_l0 pl_s783_e
set_option maxRecDepth 100000 in
/-- GlacierMail$Rows.reset -/
def pl_s784 : ck_Sum := ((1, 0, 0), 249, [.inr (.inr (.inl 209)), .inl (0, 8, [])], ([], [], []), ([(209, 3, 3), (210, 0, 2399)], []), [(.inr none, 249, ([], [], []))])
set_option maxRecDepth 100000 in
theorem pl_s784_e : ck_ok p2_OL none [] [(8, [pl_s783])] 25 [] 96 pl_s784 = true := by decide +kernel
theorem pl_s784_s {X : Int → Int} {LX : Nat} : ck_Ok p2_OL X LX 25 pl_s784 := ck_ok_s ⟨pl_nmu, ck_E1 (ck_S1 pl_s783_s ck_S0) ck_E0⟩ ck_X0 ck_l0 pl_s784_e
set_option maxRecDepth 100000 in
/-- java/util/Arrays.fill -/
def pl_s785 : ck_Sum := ((0, 0, 0), 249, [.inr (.inr (.inl 212)), .inl (ck_one 0)], ([], [], []), ([(212, 0, 2399)], []), [(.inr none, 249, ([], [], []))])
set_option maxRecDepth 100000 in
theorem pl_s785_e : ck_ok p2_OL none [] [] 8 [(5, [some (.inr (.inr (.inl 212))), some (.inl (ck_one 0)), some (.inl (0, 2400, [])), some (.inl (ck_one 2400))], ([], [], []), 100, .inl 2, true)] 130 pl_s785 = true := by decide +kernel
theorem pl_s785_s {X : Int → Int} {LX : Nat} : ck_Ok p2_OL X LX 8 pl_s785 := ck_ok_s ⟨pl_nmu, ck_E0⟩ ck_X0 ck_l0 pl_s785_e
set_option maxRecDepth 100000 in
/-- GlacierMail$Rows.reset -/
def pl_s786 : ck_Sum := ((1, 0, 0), 249, [.inr (.inr (.inl 211)), .inl (0, 8, [])], ([], [], []), ([(211, 3, 3), (212, 0, 2399)], []), [(.inr none, 249, ([], [], []))])
set_option maxRecDepth 100000 in
theorem pl_s786_e : ck_ok p2_OL none [] [(8, [pl_s785])] 25 [] 96 pl_s786 = true := by decide +kernel
theorem pl_s786_s {X : Int → Int} {LX : Nat} : ck_Ok p2_OL X LX 25 pl_s786 := ck_ok_s ⟨pl_nmu, ck_E1 (ck_S1 pl_s785_s ck_S0) ck_E0⟩ ck_X0 ck_l0 pl_s786_e
set_option maxRecDepth 100000 in
/-- GlacierMail$Rows.get -/
def pl_s787 : ck_Sum := ((0, 0, 0), 249, [.inr (.inr (.inl 209)), .inl ((-2147483648), 2147483647, []), .inl ((-2147483648), 2147483647, [])], ([], [], []), ([], []), [(.inr (some (.inl ((-2147483648), 2147483647, []))), 249, ([], [], []))])
set_option maxRecDepth 100000 in
theorem pl_s787_e : ck_ok p2_OL none [] [] 10 [] 114 pl_s787 = true := by decide +kernel
theorem pl_s787_s {X : Int → Int} {LX : Nat} : ck_Ok p2_OL X LX 10 pl_s787 := ck_ok_s ⟨pl_nmu, ck_E0⟩ ck_X0 ck_l0 pl_s787_e
set_option maxRecDepth 100000 in
/-- GlacierMail$Rows.put -/
def pl_s788 : ck_Sum := ((0, 0, 0), 249, [.inr (.inr (.inl 211)), .inl (0, 7, []), .inl (0, 299, []), .inl ((-2147483648), 299, [])], ([], [], []), ([(212, 0, 2399)], []), [(.inr none, 249, ([], [], []))])
set_option maxRecDepth 100000 in
theorem pl_s788_e : ck_ok p2_OL none [] [] 45 [] 116 pl_s788 = true := by decide +kernel
theorem pl_s788_s {X : Int → Int} {LX : Nat} : ck_Ok p2_OL X LX 45 pl_s788 := ck_ok_s ⟨pl_nmu, ck_E0⟩ ck_X0 ck_l0 pl_s788_e
set_option maxRecDepth 100000 in
/-- GlacierMail$Rows.put -/
def pl_s789 : ck_Sum := ((0, 0, 0), 249, [.inr (.inr (.inl 209)), .inl (0, 7, []), .inl ((-2147483648), 299, []), .inl (ck_one 1)], ([], [], []), ([(210, 0, 2399)], []), [(.inr none, 249, ([], [], []))])
set_option maxRecDepth 100000 in
theorem pl_s789_e : ck_ok p2_OL none [] [] 45 [] 116 pl_s789 = true := by decide +kernel
theorem pl_s789_s {X : Int → Int} {LX : Nat} : ck_Ok p2_OL X LX 45 pl_s789 := ck_ok_s ⟨pl_nmu, ck_E0⟩ ck_X0 ck_l0 pl_s789_e
set_option maxRecDepth 100000 in
/-- GlacierMail$Answers.throwAgain -/
def pl_s790 : ck_Sum := ((5, 0, 0), 249, [.inr (.inr (.inl 208)), .inl (0, 7, []), .inl (0, 299, []), .inl (ck_one 1), .inl (ck_one 299)], ([], [(3, 8, 246)], []), (zl249, []), [(.inr none, 249, ([], [], [(206, 4, 4, ck_one (-1))]))])
set_option maxRecDepth 100000 in
theorem pl_s790_e : ck_ok p2_OL none [] [(10, [pl_s224, pl_s787]), (170, [pl_s697]), (30, [pl_s214]), (45, [pl_s788, pl_s789]), (9, [pl_s189])] 203 [(59, [some (.inr (.inr (.inl 208))), some (.inl (0, 7, [])), some (.inl (0, 299, [])), some (.inl (ck_one 1)), some (.inl (ck_one 299)), some (.inr (.inr (.inl 8))), some (.inl ((-1), 98, [])), some (.inl ((-2147483648), 299, [])), some (.inl (0, 8, [])), none], ([], [(3, 8, 246)], [(206, 4, 4, ck_one (-1))]), 100, .inl 8, true)] 214 pl_s790 = true := by decide +kernel
theorem pl_s790_s {X : Int → Int} {LX : Nat} : ck_Ok p2_OL X LX 203 pl_s790 := ck_ok_s ⟨pl_nmu, ck_E1 (ck_S1 pl_s224_s (ck_S1 pl_s787_s ck_S0)) (ck_E1 (ck_S1 pl_s697_s ck_S0) (ck_E1 (ck_S1 pl_s214_s ck_S0) (ck_E1 (ck_S1 pl_s788_s (ck_S1 pl_s789_s ck_S0)) (ck_E1 (ck_S1 pl_s189_s ck_S0) ck_E0))))⟩ ck_X0 ck_l0 pl_s790_e
set_option maxRecDepth 100000 in
/-- GlacierMail$Rows.put -/
def pl_s791 : ck_Sum := ((0, 0, 0), 249, [.inr (.inr (.inl 211)), .inl (0, 7, []), .inl (2, 299, []), .inl ((-2147483648), 299, [])], ([], [], []), (zl198, []), [(.inr none, 249, ([], [], []))])
set_option maxRecDepth 100000 in
theorem pl_s791_e : ck_ok p2_OL none [] [] 45 [] 116 pl_s791 = true := by decide +kernel
theorem pl_s791_s {X : Int → Int} {LX : Nat} : ck_Ok p2_OL X LX 45 pl_s791 := ck_ok_s ⟨pl_nmu, ck_E0⟩ ck_X0 ck_l0 pl_s791_e
set_option maxRecDepth 100000 in
/-- GlacierMail$Rows.put -/
def pl_s792 : ck_Sum := ((0, 0, 0), 249, [.inr (.inr (.inl 209)), .inl (0, 7, []), .inl ((-2147483648), 299, []), .inl ((-2147483648), 2147483647, [])], ([], [], []), ([(210, 0, 2399)], []), [(.inr none, 249, ([], [], []))])
set_option maxRecDepth 100000 in
theorem pl_s792_e : ck_ok p2_OL none [] [] 45 [] 116 pl_s792 = true := by decide +kernel
theorem pl_s792_s {X : Int → Int} {LX : Nat} : ck_Ok p2_OL X LX 45 pl_s792 := ck_ok_s ⟨pl_nmu, ck_E0⟩ ck_X0 ck_l0 pl_s792_e
set_option maxRecDepth 100000 in
/-- GlacierMail$Answers.throwAgain -/
def pl_s793 : ck_Sum := ((5, 0, 0), 249, [.inr (.inr (.inl 208)), .inl (0, 7, []), .inl (2, 299, []), .inl ((-2147483648), 2147483647, []), .inl (ck_one 299)], ([], [(3, 8, 246)], []), (zl250, []), [(.inr none, 249, ([], [], [(206, 4, 4, ck_one (-1))]))])
set_option maxRecDepth 100000 in
theorem pl_s793_e : ck_ok p2_OL none [] [(10, [pl_s224, pl_s787]), (170, [pl_s697]), (30, [pl_s214]), (45, [pl_s791, pl_s792]), (9, [pl_s189])] 203 [(59, [some (.inr (.inr (.inl 208))), some (.inl (0, 7, [])), some (.inl (2, 299, [])), some (.inl ((-2147483648), 2147483647, [])), some (.inl (ck_one 299)), some (.inr (.inr (.inl 8))), some (.inl ((-1), 98, [])), some (.inl ((-2147483648), 299, [])), some (.inl (0, 8, [])), none], ([], [(3, 8, 246)], [(206, 4, 4, ck_one (-1))]), 100, .inl 8, true)] 214 pl_s793 = true := by decide +kernel
theorem pl_s793_s {X : Int → Int} {LX : Nat} : ck_Ok p2_OL X LX 203 pl_s793 := ck_ok_s ⟨pl_nmu, ck_E1 (ck_S1 pl_s224_s (ck_S1 pl_s787_s ck_S0)) (ck_E1 (ck_S1 pl_s697_s ck_S0) (ck_E1 (ck_S1 pl_s214_s ck_S0) (ck_E1 (ck_S1 pl_s791_s (ck_S1 pl_s792_s ck_S0)) (ck_E1 (ck_S1 pl_s189_s ck_S0) ck_E0))))⟩ ck_X0 ck_l0 pl_s793_e
set_option maxRecDepth 100000 in
/-- GlacierMail$Answers.spread -/
def pl_s794 : ck_Sum := ((6, 0, 0), 249, [.inr (.inr (.inl 208)), .inl (0, 7, []), .inl (0, 7, []), .inl (ck_one 299)], ([], [(3, 8, 246)], [(3, 6, 6, (0, 299, [(10, 0)]))]), (zl251, []), [(.inr none, 249, ([], [], [(206, 4, 4, ck_one (-1))]))])
set_option maxRecDepth 100000 in
theorem pl_s794_e : ck_ok p2_OL none [] [(9, [pl_s189]), (25, [pl_s784, pl_s786]), (203, [pl_s790, pl_s793]), (10, [pl_s787])] 202 [(59, [some (.inr (.inr (.inl 208))), some (.inl (0, 7, [])), some (.inl (0, 7, [])), some (.inl (ck_one 299)), some (.inl (1, 300, [(1000010, 1)])), none, none], ([], [(3, 8, 246)], [(206, 4, 4, ck_one (-1)), (3, 6, 6, (0, 299, [(10, 0)]))]), 100, .inl 4, true), (82, [some (.inr (.inr (.inl 208))), some (.inl (0, 7, [])), some (.inl (0, 7, [])), some (.inl (ck_one 299)), some (.inl (1, 298, [(100, 0), (1000010, 1)])), some (.inl (0, 8, [])), none], ([], [(3, 8, 246)], [(206, 4, 4, ck_one (-1)), (3, 6, 6, (0, 299, [(10, 0)]))]), 300, .inl 5, true)] 284 pl_s794 = true := by decide +kernel
theorem pl_s794_s {X : Int → Int} {LX : Nat} : ck_Ok p2_OL X LX 202 pl_s794 := ck_ok_s ⟨pl_nmu, ck_E1 (ck_S1 pl_s189_s ck_S0) (ck_E1 (ck_S1 pl_s784_s (ck_S1 pl_s786_s ck_S0)) (ck_E1 (ck_S1 pl_s790_s (ck_S1 pl_s793_s ck_S0)) (ck_E1 (ck_S1 pl_s787_s ck_S0) ck_E0)))⟩ ck_X0 ck_l0 pl_s794_e
set_option maxRecDepth 100000 in
/-- GlacierMail$Answers.firstYear -/
def pl_s795 : ck_Sum := ((1, 0, 0), 249, [.inr (.inr (.inl 208)), .inl (0, 7, [])], ([], [], []), ([], []), [(.inr (some (.inl (ck_one (-1)))), 249, ([], [], [])), (.inr (some (.inl (0, 299, []))), 249, ([], [], []))])
set_option maxRecDepth 100000 in
theorem pl_s795_e : ck_ok p2_OL none [] [(10, [pl_s787])] 204 [(2, [some (.inr (.inr (.inl 208))), some (.inl (0, 7, [])), some (.inl (0, 300, []))], ([], [], []), 100, .inl 2, true)] 138 pl_s795 = true := by decide +kernel
theorem pl_s795_s {X : Int → Int} {LX : Nat} : ck_Ok p2_OL X LX 204 pl_s795 := ck_ok_s ⟨pl_nmu, ck_E1 (ck_S1 pl_s787_s ck_S0) ck_E0⟩ ck_X0 ck_l0 pl_s795_e
set_option maxRecDepth 100000 in
/-- GlacierMail$Answers.fewestThrows -/
def pl_s796 : ck_Sum := ((1, 0, 0), 249, [.inr (.inr (.inl 208)), .inl (0, 7, []), .inl (0, 299, [])], ([], [], []), ([], []), [(.inr (some (.inl ((-2147483648), 2147483647, []))), 249, ([], [], []))])
set_option maxRecDepth 100000 in
theorem pl_s796_e : ck_ok p2_OL none [] [(10, [pl_s787])] 205 [] 82 pl_s796 = true := by decide +kernel
theorem pl_s796_s {X : Int → Int} {LX : Nat} : ck_Ok p2_OL X LX 205 pl_s796 := ck_ok_s ⟨pl_nmu, ck_E1 (ck_S1 pl_s787_s ck_S0) ck_E0⟩ ck_X0 ck_l0 pl_s796_e
set_option maxRecDepth 100000 in
/-- GlacierMail.soonest -/
def pl_s797 : ck_Sum := ((8, 3, 18), 249, [.inr (.inr (.inl 1)), .inl (0, 7, []), .inl (0, 7, []), .inl (0, 1, [])], ([], [(3, 8, 246)], [(3, 6, 6, (0, 299, [(10, 0)]))]), (zl251, []), [(.inl 3, 249, ([], [], [])), (.inl 0, 249, ([], [], [])), (.inr (some (.inl ((-2147483648), 2147483647, []))), 249, ([], [], [(206, 4, 4, ck_one (-1))])), (.inr (some (.inl (0, 299, []))), 249, ([], [], [(206, 4, 4, ck_one (-1))]))])
set_option maxRecDepth 100000 in
theorem pl_s797_e : ck_ok p2_OL none [] [(139, [pl_s197]), (153, [pl_s254]), (202, [pl_s794]), (204, [pl_s795]), (205, [pl_s796])] 201 [] 136 pl_s797 = true := by decide +kernel
theorem pl_s797_s {X : Int → Int} {LX : Nat} : ck_Ok p2_OL X LX 201 pl_s797 := ck_ok_s ⟨pl_nmu, ck_E1 (ck_S1 pl_s197_s ck_S0) (ck_E1 (ck_S1 pl_s254_s ck_S0) (ck_E1 (ck_S1 pl_s794_s ck_S0) (ck_E1 (ck_S1 pl_s795_s ck_S0) (ck_E1 (ck_S1 pl_s796_s ck_S0) ck_E0))))⟩ ck_X0 ck_l0 pl_s797_e
set_option maxRecDepth 100000 in
/-- GlacierMail.chain -/
def pl_s798 : ck_Sum := ((8, 1, 6), 249, [.inr (.inr (.inl 1)), .inl ((-2147483648), (-1), []), .inl ((-2147483648), 2147483647, []), .inl ((-2147483648), 2147483647, [])], ([], [], []), ([], []), [(.inl 3, 249, ([], [], []))])
set_option maxRecDepth 100000 in
theorem pl_s798_e : ck_ok p2_OL none [] [(139, [pl_s191])] 207 [] 76 pl_s798 = true := by decide +kernel
theorem pl_s798_s {X : Int → Int} {LX : Nat} : ck_Ok p2_OL X LX 207 pl_s798 := ck_ok_s ⟨pl_nmu, ck_E1 (ck_S1 pl_s191_s ck_S0) ck_E0⟩ ck_X0 ck_l0 pl_s798_e
set_option maxRecDepth 100000 in
/-- GlacierMail.chain -/
def pl_s799 : ck_Sum := ((8, 1, 6), 249, [.inr (.inr (.inl 1)), .inl (8, 2147483647, []), .inl ((-2147483648), 2147483647, []), .inl ((-2147483648), 2147483647, [])], ([], [], []), ([], []), [(.inl 3, 249, ([], [], []))])
set_option maxRecDepth 100000 in
theorem pl_s799_e : ck_ok p2_OL none [] [(139, [pl_s194])] 207 [] 76 pl_s799 = true := by decide +kernel
theorem pl_s799_s {X : Int → Int} {LX : Nat} : ck_Ok p2_OL X LX 207 pl_s799 := ck_ok_s ⟨pl_nmu, ck_E1 (ck_S1 pl_s194_s ck_S0) ck_E0⟩ ck_X0 ck_l0 pl_s799_e
set_option maxRecDepth 100000 in
/-- GlacierMail.chain -/
def pl_s800 : ck_Sum := ((8, 2, 12), 249, [.inr (.inr (.inl 1)), .inl (0, 7, []), .inl ((-2147483648), (-1), []), .inl ((-2147483648), 2147483647, [])], ([], [], []), ([], []), [(.inl 3, 249, ([], [], []))])
set_option maxRecDepth 100000 in
theorem pl_s800_e : ck_ok p2_OL none [] [(139, [pl_s197, pl_s191])] 207 [] 82 pl_s800 = true := by decide +kernel
theorem pl_s800_s {X : Int → Int} {LX : Nat} : ck_Ok p2_OL X LX 207 pl_s800 := ck_ok_s ⟨pl_nmu, ck_E1 (ck_S1 pl_s197_s (ck_S1 pl_s191_s ck_S0)) ck_E0⟩ ck_X0 ck_l0 pl_s800_e
set_option maxRecDepth 100000 in
/-- GlacierMail.chain -/
def pl_s801 : ck_Sum := ((8, 2, 12), 249, [.inr (.inr (.inl 1)), .inl (0, 7, []), .inl (8, 2147483647, []), .inl ((-2147483648), 2147483647, [])], ([], [], []), ([], []), [(.inl 3, 249, ([], [], []))])
set_option maxRecDepth 100000 in
theorem pl_s801_e : ck_ok p2_OL none [] [(139, [pl_s197, pl_s194])] 207 [] 82 pl_s801 = true := by decide +kernel
theorem pl_s801_s {X : Int → Int} {LX : Nat} : ck_Ok p2_OL X LX 207 pl_s801 := ck_ok_s ⟨pl_nmu, ck_E1 (ck_S1 pl_s197_s (ck_S1 pl_s194_s ck_S0)) ck_E0⟩ ck_X0 ck_l0 pl_s801_e
set_option maxRecDepth 100000 in
/-- GlacierMail$Rows.get -/
def pl_s802 : ck_Sum := ((0, 0, 0), 249, [.inr (.inr (.inl 211)), .inl ((-2147483648), 2147483647, []), .inl ((-2147483648), 2147483647, [])], ([], [], []), ([], []), [(.inr (some (.inl ((-2147483648), 299, []))), 249, ([], [], []))])
set_option maxRecDepth 100000 in
theorem pl_s802_e : ck_ok p2_OL none [] [] 10 [] 114 pl_s802 = true := by decide +kernel
theorem pl_s802_s {X : Int → Int} {LX : Nat} : ck_Ok p2_OL X LX 10 pl_s802 := ck_ok_s ⟨pl_nmu, ck_E0⟩ ck_X0 ck_l0 pl_s802_e
set_option maxRecDepth 100000 in
/-- GlacierMail$Answers.throwAhead -/
def pl_s803 : ck_Sum := ((1, 0, 0), 249, [.inr (.inr (.inl 208)), .inl (0, 2398, []), .inl (0, 299, []), .inl (1, 2147483646, [])], ([], [], [(3, 6, 6, (0, 299, [(10, 0)]))]), ([], []), [(.inr (some (.inl (0, 2398, []))), 249, ([], [], []))])
set_option maxRecDepth 100000 in
theorem pl_s803_e : ck_ok p2_OL none [] [(10, [pl_s224, pl_s787, pl_s802]), (9, [pl_s189])] 209 [(17, [some (.inr (.inr (.inl 208))), some (.inl (0, 2398, [])), some (.inl (0, 299, [])), some (.inl (1, 2147483646, [])), some (.inl ((-1), 98, [])), some (.inl (0, 9, [])), none], ([], [], [(3, 6, 6, (0, 299, [(10, 0)]))]), 100, .inl 5, true), (59, [some (.inr (.inr (.inl 208))), some (.inl (0, 2398, [])), some (.inl (0, 299, [])), some (.inl (1, 2147483646, [])), some (.inl ((-1), 98, [])), some (.inl (0, 7, [(100, 0)])), some (.inl (0, 299, [(1000010, 0)]))], ([], [], [(3, 6, 6, (0, 299, [(10, 0)]))]), 300, .inl 6, true)] 260 pl_s803 = true := by decide +kernel
theorem pl_s803_s {X : Int → Int} {LX : Nat} : ck_Ok p2_OL X LX 209 pl_s803 := ck_ok_s ⟨pl_nmu, ck_E1 (ck_S1 pl_s224_s (ck_S1 pl_s787_s (ck_S1 pl_s802_s ck_S0))) (ck_E1 (ck_S1 pl_s189_s ck_S0) ck_E0)⟩ ck_X0 ck_l0 pl_s803_e
set_option maxRecDepth 100000 in
/-- GlacierMail$Answers.holder -/
def pl_s804 : ck_Sum := ((2, 0, 0), 249, [.inr (.inr (.inl 208)), .inl (0, 7, []), .inl (0, 7, []), .inl (ck_one 0)], ([], [], [(3, 6, 6, (0, 299, [(10, 0)]))]), ([], []), [(.inr (some (.inl (ck_one (-1)))), 249, ([], [], [])), (.inr (some (.inl (0, 7, []))), 249, ([], [], []))])
set_option maxRecDepth 100000 in
theorem pl_s804_e : ck_ok p2_OL none [] [(204, [pl_s795]), (10, [pl_s787]), (209, [pl_s803])] 208 [(44, [some (.inr (.inr (.inl 208))), some (.inl (0, 7, [])), some (.inl (0, 7, [])), some (.inl (ck_one 0)), some (.inl (0, 299, [])), some (.inl (0, 2398, [])), some (.inl (0, 2147483647, [])), some (.inl (0, 2147483647, [])), none], ([], [], [(3, 6, 6, (0, 299, [(10, 0)]))]), 100, .inl 7, false)] 190 pl_s804 = true := by decide +kernel
theorem pl_s804_s {X : Int → Int} {LX : Nat} : ck_Ok p2_OL X LX 208 pl_s804 := ck_ok_s ⟨pl_nmu, ck_E1 (ck_S1 pl_s795_s ck_S0) (ck_E1 (ck_S1 pl_s787_s ck_S0) (ck_E1 (ck_S1 pl_s803_s ck_S0) ck_E0))⟩ ck_X0 ck_l0 pl_s804_e
set_option maxRecDepth 100000 in
/-- GlacierMail.chain -/
def pl_s805 : ck_Sum := ((8, 4, 24), 249, [.inr (.inr (.inl 1)), .inl (0, 7, []), .inl (0, 7, []), .inl ((-2147483648), 0, [])], ([], [(3, 8, 246)], [(3, 6, 6, (0, 299, [(10, 0)]))]), (zl251, []), [(.inl 3, 249, ([], [], [])), (.inl 0, 249, ([], [], [])), (.inr (some (.inl (ck_one (-1)))), 249, ([], [], [(206, 4, 4, ck_one (-1))])), (.inr (some (.inl (0, 7, []))), 249, ([], [], [(206, 4, 4, ck_one (-1))]))])
set_option maxRecDepth 100000 in
theorem pl_s805_e : ck_ok p2_OL none [] [(139, [pl_s197]), (153, [pl_s254]), (202, [pl_s794]), (208, [pl_s804])] 207 [] 120 pl_s805 = true := by decide +kernel
theorem pl_s805_s {X : Int → Int} {LX : Nat} : ck_Ok p2_OL X LX 207 pl_s805 := ck_ok_s ⟨pl_nmu, ck_E1 (ck_S1 pl_s197_s ck_S0) (ck_E1 (ck_S1 pl_s254_s ck_S0) (ck_E1 (ck_S1 pl_s794_s ck_S0) (ck_E1 (ck_S1 pl_s804_s ck_S0) ck_E0)))⟩ ck_X0 ck_l0 pl_s805_e
set_option maxRecDepth 100000 in
/-- GlacierMail$Answers.throwAhead -/
def pl_s806 : ck_Sum := ((1, 0, 0), 249, [.inr (.inr (.inl 208)), .inl (0, 2398, []), .inl (0, 299, []), .inl (51, 2147483646, [])], ([], [], [(3, 6, 6, (0, 299, [(10, 0)]))]), ([], []), [(.inr (some (.inl (0, 2398, []))), 249, ([], [], []))])
set_option maxRecDepth 100000 in
theorem pl_s806_e : ck_ok p2_OL none [] [(10, [pl_s224, pl_s787, pl_s802]), (9, [pl_s189])] 209 [(17, [some (.inr (.inr (.inl 208))), some (.inl (0, 2398, [])), some (.inl (0, 299, [])), some (.inl (51, 2147483646, [])), some (.inl ((-1), 98, [])), some (.inl (0, 9, [])), none], ([], [], [(3, 6, 6, (0, 299, [(10, 0)]))]), 100, .inl 5, true), (59, [some (.inr (.inr (.inl 208))), some (.inl (0, 2398, [])), some (.inl (0, 299, [])), some (.inl (51, 2147483646, [])), some (.inl ((-1), 98, [])), some (.inl (0, 7, [(100, 0)])), some (.inl (0, 299, [(1000010, 0)]))], ([], [], [(3, 6, 6, (0, 299, [(10, 0)]))]), 300, .inl 6, true)] 260 pl_s806 = true := by decide +kernel
theorem pl_s806_s {X : Int → Int} {LX : Nat} : ck_Ok p2_OL X LX 209 pl_s806 := ck_ok_s ⟨pl_nmu, ck_E1 (ck_S1 pl_s224_s (ck_S1 pl_s787_s (ck_S1 pl_s802_s ck_S0))) (ck_E1 (ck_S1 pl_s189_s ck_S0) ck_E0)⟩ ck_X0 ck_l0 pl_s806_e
set_option maxRecDepth 100000 in
/-- GlacierMail$Answers.holder -/
def pl_s807 : ck_Sum := ((2, 0, 0), 249, [.inr (.inr (.inl 208)), .inl (0, 7, []), .inl (0, 7, []), .inl (51, 2147483647, [])], ([], [], [(3, 6, 6, (0, 299, [(10, 0)]))]), ([], []), [(.inr (some (.inl (ck_one (-1)))), 249, ([], [], [])), (.inr (some (.inl (0, 2398, []))), 249, ([], [], []))])
set_option maxRecDepth 100000 in
theorem pl_s807_e : ck_ok p2_OL none [] [(204, [pl_s795]), (10, [pl_s787]), (209, [pl_s806])] 208 [(44, [some (.inr (.inr (.inl 208))), some (.inl (0, 7, [])), some (.inl (0, 7, [])), some (.inl (51, 2147483647, [])), some (.inl (0, 299, [])), some (.inl (0, 2398, [])), some (.inl (51, 2147483647, [])), some (.inl (51, 2147483647, [])), none], ([], [], [(3, 6, 6, (0, 299, [(10, 0)]))]), 100, .inl 7, false)] 190 pl_s807 = true := by decide +kernel
theorem pl_s807_s {X : Int → Int} {LX : Nat} : ck_Ok p2_OL X LX 208 pl_s807 := ck_ok_s ⟨pl_nmu, ck_E1 (ck_S1 pl_s795_s ck_S0) (ck_E1 (ck_S1 pl_s787_s ck_S0) (ck_E1 (ck_S1 pl_s806_s ck_S0) ck_E0))⟩ ck_X0 ck_l0 pl_s807_e
set_option maxRecDepth 100000 in
/-- GlacierMail.chain -/
def pl_s808 : ck_Sum := ((8, 3, 18), 249, [.inr (.inr (.inl 1)), .inl (0, 7, []), .inl (0, 7, []), .inl (51, 2147483647, [])], ([], [(3, 8, 246)], [(3, 6, 6, (0, 299, [(10, 0)]))]), (zl251, []), zl252)
set_option maxRecDepth 100000 in
theorem pl_s808_e : ck_ok p2_OL none [] [(139, [pl_s197]), (153, [pl_s254]), (202, [pl_s794]), (208, [pl_s807])] 207 [] 120 pl_s808 = true := by decide +kernel
theorem pl_s808_s {X : Int → Int} {LX : Nat} : ck_Ok p2_OL X LX 207 pl_s808 := ck_ok_s ⟨pl_nmu, ck_E1 (ck_S1 pl_s197_s ck_S0) (ck_E1 (ck_S1 pl_s254_s ck_S0) (ck_E1 (ck_S1 pl_s794_s ck_S0) (ck_E1 (ck_S1 pl_s807_s ck_S0) ck_E0)))⟩ ck_X0 ck_l0 pl_s808_e
set_option maxRecDepth 100000 in
/-- GlacierMail$Answers.holder -/
def pl_s809 : ck_Sum := ((2, 0, 0), 249, [.inr (.inr (.inl 208)), .inl (0, 7, []), .inl (0, 7, []), .inl (1, 50, [])], ([], [], [(3, 6, 6, (0, 299, [(10, 0)]))]), ([], []), [(.inr (some (.inl (ck_one (-1)))), 249, ([], [], [])), (.inr (some (.inl (0, 2398, []))), 249, ([], [], []))])
set_option maxRecDepth 100000 in
theorem pl_s809_e : ck_ok p2_OL none [] [(204, [pl_s795]), (10, [pl_s787]), (209, [pl_s803])] 208 [(44, [some (.inr (.inr (.inl 208))), some (.inl (0, 7, [])), some (.inl (0, 7, [])), some (.inl (1, 50, [])), some (.inl (0, 299, [])), some (.inl (0, 2398, [])), some (.inl (1, 2147483647, [])), some (.inl (1, 2147483647, [])), none], ([], [], [(3, 6, 6, (0, 299, [(10, 0)]))]), 100, .inl 7, false)] 190 pl_s809 = true := by decide +kernel
theorem pl_s809_s {X : Int → Int} {LX : Nat} : ck_Ok p2_OL X LX 208 pl_s809 := ck_ok_s ⟨pl_nmu, ck_E1 (ck_S1 pl_s795_s ck_S0) (ck_E1 (ck_S1 pl_s787_s ck_S0) (ck_E1 (ck_S1 pl_s803_s ck_S0) ck_E0))⟩ ck_X0 ck_l0 pl_s809_e
set_option maxRecDepth 100000 in
/-- GlacierMail.chain -/
def pl_s810 : ck_Sum := ((8, 3, 18), 249, [.inr (.inr (.inl 1)), .inl (0, 7, []), .inl (0, 7, []), .inl (1, 50, [])], ([], [(3, 8, 246)], [(3, 6, 6, (0, 299, [(10, 0)]))]), (zl251, []), zl252)
set_option maxRecDepth 100000 in
theorem pl_s810_e : ck_ok p2_OL none [] [(139, [pl_s197]), (153, [pl_s254]), (202, [pl_s794]), (208, [pl_s809])] 207 [] 120 pl_s810 = true := by decide +kernel
theorem pl_s810_s {X : Int → Int} {LX : Nat} : ck_Ok p2_OL X LX 207 pl_s810 := ck_ok_s ⟨pl_nmu, ck_E1 (ck_S1 pl_s197_s ck_S0) (ck_E1 (ck_S1 pl_s254_s ck_S0) (ck_E1 (ck_S1 pl_s794_s ck_S0) (ck_E1 (ck_S1 pl_s809_s ck_S0) ck_E0)))⟩ ck_X0 ck_l0 pl_s810_e
set_option maxRecDepth 100000 in
/-- GlacierMail.reached -/
def pl_s811 : ck_Sum := ((8, 1, 6), 249, [.inr (.inr (.inl 1)), .inl ((-2147483648), (-1), []), .inl ((-2147483648), 2147483647, [])], ([], [], []), ([], []), [(.inl 3, 249, ([], [], []))])
set_option maxRecDepth 100000 in
theorem pl_s811_e : ck_ok p2_OL none [] [(139, [pl_s191])] 211 [] 76 pl_s811 = true := by decide +kernel
theorem pl_s811_s {X : Int → Int} {LX : Nat} : ck_Ok p2_OL X LX 211 pl_s811 := ck_ok_s ⟨pl_nmu, ck_E1 (ck_S1 pl_s191_s ck_S0) ck_E0⟩ ck_X0 ck_l0 pl_s811_e
set_option maxRecDepth 100000 in
/-- GlacierMail.reached -/
def pl_s812 : ck_Sum := ((8, 1, 6), 249, [.inr (.inr (.inl 1)), .inl (8, 2147483647, []), .inl ((-2147483648), 2147483647, [])], ([], [], []), ([], []), [(.inl 3, 249, ([], [], []))])
set_option maxRecDepth 100000 in
theorem pl_s812_e : ck_ok p2_OL none [] [(139, [pl_s194])] 211 [] 76 pl_s812 = true := by decide +kernel
theorem pl_s812_s {X : Int → Int} {LX : Nat} : ck_Ok p2_OL X LX 211 pl_s812 := ck_ok_s ⟨pl_nmu, ck_E1 (ck_S1 pl_s194_s ck_S0) ck_E0⟩ ck_X0 ck_l0 pl_s812_e
set_option maxRecDepth 100000 in
/-- GlacierMail.reached -/
def pl_s813 : ck_Sum := ((8, 2, 12), 249, [.inr (.inr (.inl 1)), .inl (0, 7, []), .inl ((-2147483648), (-1), [])], ([], [], []), ([], []), [(.inl 3, 249, ([], [], [])), (.inl 0, 249, ([], [], []))])
set_option maxRecDepth 100000 in
theorem pl_s813_e : ck_ok p2_OL none [] [(139, [pl_s197]), (129, [pl_s145])] 211 [] 82 pl_s813 = true := by decide +kernel
theorem pl_s813_s {X : Int → Int} {LX : Nat} : ck_Ok p2_OL X LX 211 pl_s813 := ck_ok_s ⟨pl_nmu, ck_E1 (ck_S1 pl_s197_s ck_S0) (ck_E1 (ck_S1 pl_s145_s ck_S0) ck_E0)⟩ ck_X0 ck_l0 pl_s813_e
set_option maxRecDepth 100000 in
/-- GlacierMail.reached -/
def pl_s814 : ck_Sum := ((8, 2, 12), 249, [.inr (.inr (.inl 1)), .inl (0, 7, []), .inl (300, 2147483647, [])], ([], [], []), ([], []), [(.inl 3, 249, ([], [], [])), (.inl 0, 249, ([], [], []))])
set_option maxRecDepth 100000 in
theorem pl_s814_e : ck_ok p2_OL none [] [(139, [pl_s197]), (129, [pl_s147])] 211 [] 82 pl_s814 = true := by decide +kernel
theorem pl_s814_s {X : Int → Int} {LX : Nat} : ck_Ok p2_OL X LX 211 pl_s814 := ck_ok_s ⟨pl_nmu, ck_E1 (ck_S1 pl_s197_s ck_S0) (ck_E1 (ck_S1 pl_s147_s ck_S0) ck_E0)⟩ ck_X0 ck_l0 pl_s814_e
set_option maxRecDepth 100000 in
/-- GlacierMail$Answers.throwAgain -/
def pl_s815 : ck_Sum := ((5, 0, 0), 249, [.inr (.inr (.inl 208)), .inl (0, 7, []), .inl (0, 299, []), .inl (ck_one 1), .inl (0, 299, [])], ([], [(3, 8, 246)], []), (zl249, []), [(.inr none, 249, ([], [], [(206, 4, 4, ck_one (-1))]))])
set_option maxRecDepth 100000 in
theorem pl_s815_e : ck_ok p2_OL none [] [(10, [pl_s224, pl_s787]), (170, [pl_s697]), (30, [pl_s214]), (45, [pl_s788, pl_s789]), (9, [pl_s189])] 203 [(59, [some (.inr (.inr (.inl 208))), some (.inl (0, 7, [])), some (.inl (0, 299, [])), some (.inl (ck_one 1)), some (.inl (0, 299, [])), some (.inr (.inr (.inl 8))), some (.inl ((-1), 98, [])), some (.inl ((-2147483648), 299, [])), some (.inl (0, 8, [])), none], ([], [(3, 8, 246)], [(206, 4, 4, ck_one (-1))]), 100, .inl 8, true)] 214 pl_s815 = true := by decide +kernel
theorem pl_s815_s {X : Int → Int} {LX : Nat} : ck_Ok p2_OL X LX 203 pl_s815 := ck_ok_s ⟨pl_nmu, ck_E1 (ck_S1 pl_s224_s (ck_S1 pl_s787_s ck_S0)) (ck_E1 (ck_S1 pl_s697_s ck_S0) (ck_E1 (ck_S1 pl_s214_s ck_S0) (ck_E1 (ck_S1 pl_s788_s (ck_S1 pl_s789_s ck_S0)) (ck_E1 (ck_S1 pl_s189_s ck_S0) ck_E0))))⟩ ck_X0 ck_l0 pl_s815_e
set_option maxRecDepth 100000 in
/-- GlacierMail$Answers.throwAgain -/
def pl_s816 : ck_Sum := ((5, 0, 0), 249, [.inr (.inr (.inl 208)), .inl (0, 7, []), .inl (2, 299, []), .inl ((-2147483648), 2147483647, []), .inl (2, 299, [])], ([], [(3, 8, 246)], []), (zl250, []), [(.inr none, 249, ([], [], [(206, 4, 4, ck_one (-1))]))])
set_option maxRecDepth 100000 in
theorem pl_s816_e : ck_ok p2_OL none [] [(10, [pl_s224, pl_s787]), (170, [pl_s697]), (30, [pl_s214]), (45, [pl_s791, pl_s792]), (9, [pl_s189])] 203 [(59, [some (.inr (.inr (.inl 208))), some (.inl (0, 7, [])), some (.inl (2, 299, [])), some (.inl ((-2147483648), 2147483647, [])), some (.inl (2, 299, [])), some (.inr (.inr (.inl 8))), some (.inl ((-1), 98, [])), some (.inl ((-2147483648), 299, [])), some (.inl (0, 8, [])), none], ([], [(3, 8, 246)], [(206, 4, 4, ck_one (-1))]), 100, .inl 8, true)] 214 pl_s816 = true := by decide +kernel
theorem pl_s816_s {X : Int → Int} {LX : Nat} : ck_Ok p2_OL X LX 203 pl_s816 := ck_ok_s ⟨pl_nmu, ck_E1 (ck_S1 pl_s224_s (ck_S1 pl_s787_s ck_S0)) (ck_E1 (ck_S1 pl_s697_s ck_S0) (ck_E1 (ck_S1 pl_s214_s ck_S0) (ck_E1 (ck_S1 pl_s791_s (ck_S1 pl_s792_s ck_S0)) (ck_E1 (ck_S1 pl_s189_s ck_S0) ck_E0))))⟩ ck_X0 ck_l0 pl_s816_e
set_option maxRecDepth 100000 in
/-- GlacierMail$Answers.spread -/
def pl_s817 : ck_Sum := ((6, 0, 0), 249, [.inr (.inr (.inl 208)), .inl (0, 7, []), .inl (ck_one (-1)), .inl (0, 299, [])], ([], [(3, 8, 246)], [(3, 6, 6, (0, 299, [(10, 0)]))]), (zl251, []), [(.inr none, 249, ([], [], [(206, 4, 4, ck_one (-1))]))])
set_option maxRecDepth 100000 in
theorem pl_s817_e : ck_ok p2_OL none [] [(9, [pl_s189]), (25, [pl_s784, pl_s786]), (203, [pl_s815, pl_s816]), (10, [pl_s787])] 202 [(59, [some (.inr (.inr (.inl 208))), some (.inl (0, 7, [])), some (.inl (ck_one (-1))), some (.inl (0, 299, [])), some (.inl (1, 300, [(1000010, 1)])), none, none], ([], [(3, 8, 246)], [(206, 4, 4, ck_one (-1)), (3, 6, 6, (0, 299, [(10, 0)]))]), 100, .inl 4, true), (82, [some (.inr (.inr (.inl 208))), some (.inl (0, 7, [])), some (.inl (ck_one (-1))), some (.inl (2, 299, [])), some (.inl (1, 298, [(100, 0), (1000010, 1)])), some (.inl (0, 8, [])), none], ([], [(3, 8, 246)], [(206, 4, 4, ck_one (-1)), (3, 6, 6, (0, 299, [(10, 0)]))]), 300, .inl 5, true)] 284 pl_s817 = true := by decide +kernel
theorem pl_s817_s {X : Int → Int} {LX : Nat} : ck_Ok p2_OL X LX 202 pl_s817 := ck_ok_s ⟨pl_nmu, ck_E1 (ck_S1 pl_s189_s ck_S0) (ck_E1 (ck_S1 pl_s784_s (ck_S1 pl_s786_s ck_S0)) (ck_E1 (ck_S1 pl_s815_s (ck_S1 pl_s816_s ck_S0)) (ck_E1 (ck_S1 pl_s787_s ck_S0) ck_E0)))⟩ ck_X0 ck_l0 pl_s817_e
set_option maxRecDepth 100000 in
/-- GlacierMail.reached -/
def pl_s818 : ck_Sum := ((8, 1, 6), 249, [.inr (.inr (.inl 1)), .inl (0, 7, []), .inl (0, 299, [])], ([], [(3, 8, 246)], [(3, 6, 6, (0, 299, [(10, 0)]))]), (zl251, []), [(.inl 3, 249, ([], [], [])), (.inr (some (.inl ((-2147483648), 2147483647, []))), 249, ([], [], [(206, 4, 4, ck_one (-1))]))])
set_option maxRecDepth 100000 in
theorem pl_s818_e : ck_ok p2_OL none [] [(139, [pl_s197]), (129, [pl_s149]), (202, [pl_s817]), (9, [pl_s189]), (204, [pl_s795])] 211 [(27, [some (.inr (.inr (.inl 1))), some (.inl (0, 7, [])), some (.inl (0, 299, [])), some (.inl ((-2147483648), 2147483647, [])), some (.inl (0, 8, []))], ([], [(3, 8, 246)], [(206, 4, 4, ck_one (-1)), (3, 6, 6, (0, 299, [(10, 0)]))]), 100, .inl 4, true)] 174 pl_s818 = true := by decide +kernel
theorem pl_s818_s {X : Int → Int} {LX : Nat} : ck_Ok p2_OL X LX 211 pl_s818 := ck_ok_s ⟨pl_nmu, ck_E1 (ck_S1 pl_s197_s ck_S0) (ck_E1 (ck_S1 pl_s149_s ck_S0) (ck_E1 (ck_S1 pl_s817_s ck_S0) (ck_E1 (ck_S1 pl_s189_s ck_S0) (ck_E1 (ck_S1 pl_s795_s ck_S0) ck_E0))))⟩ ck_X0 ck_l0 pl_s818_e
set_option maxRecDepth 100000 in
/-- GlacierMail.needThiefYears -/
def pl_s819 : ck_Sum := ((6, 1, 6), 249, [.inr (.inr (.inl 1)), .inl ((-2147483648), (-1), [])], ([], [], []), ([], []), [(.inl 0, 249, ([], [], []))])
set_option maxRecDepth 100000 in
theorem pl_s819_e : ck_ok p2_OL none [] [] 214 [] 78 pl_s819 = true := by decide +kernel
theorem pl_s819_s {X : Int → Int} {LX : Nat} : ck_Ok p2_OL X LX 214 pl_s819 := ck_ok_s ⟨pl_nmu, ck_E0⟩ ck_X0 ck_l0 pl_s819_e
set_option maxRecDepth 100000 in
/-- GlacierMail.thieves -/
def pl_s820 : ck_Sum := ((7, 1, 6), 249, [.inr (.inr (.inl 1)), .inl ((-2147483648), (-1), []), .inl (0, 1, [])], ([], [], []), ([], []), [(.inl 0, 249, ([], [], []))])
set_option maxRecDepth 100000 in
theorem pl_s820_e : ck_ok p2_OL none [] [(214, [pl_s819])] 213 [] 76 pl_s820 = true := by decide +kernel
theorem pl_s820_s {X : Int → Int} {LX : Nat} : ck_Ok p2_OL X LX 213 pl_s820 := ck_ok_s ⟨pl_nmu, ck_E1 (ck_S1 pl_s819_s ck_S0) ck_E0⟩ ck_X0 ck_l0 pl_s820_e
set_option maxRecDepth 100000 in
/-- GlacierMail.needThiefYears -/
def pl_s821 : ck_Sum := ((6, 1, 6), 249, [.inr (.inr (.inl 1)), .inl (31, 2147483647, [])], ([], [], []), ([], []), [(.inl 0, 249, ([], [], []))])
set_option maxRecDepth 100000 in
theorem pl_s821_e : ck_ok p2_OL none [] [] 214 [] 84 pl_s821 = true := by decide +kernel
theorem pl_s821_s {X : Int → Int} {LX : Nat} : ck_Ok p2_OL X LX 214 pl_s821 := ck_ok_s ⟨pl_nmu, ck_E0⟩ ck_X0 ck_l0 pl_s821_e
set_option maxRecDepth 100000 in
/-- GlacierMail.thieves -/
def pl_s822 : ck_Sum := ((7, 1, 6), 249, [.inr (.inr (.inl 1)), .inl (31, 2147483647, []), .inl (0, 1, [])], ([], [], []), ([], []), [(.inl 0, 249, ([], [], []))])
set_option maxRecDepth 100000 in
theorem pl_s822_e : ck_ok p2_OL none [] [(214, [pl_s821])] 213 [] 76 pl_s822 = true := by decide +kernel
theorem pl_s822_s {X : Int → Int} {LX : Nat} : ck_Ok p2_OL X LX 213 pl_s822 := ck_ok_s ⟨pl_nmu, ck_E1 (ck_S1 pl_s821_s ck_S0) ck_E0⟩ ck_X0 ck_l0 pl_s822_e
set_option maxRecDepth 100000 in
/-- GlacierMail.needThiefYears -/
def pl_s823 : ck_Sum := ((6, 1, 6), 249, [.inr (.inr (.inl 1)), .inl (0, 30, [])], ([], [], []), ([], []), [(.inl 0, 249, ([], [], [])), (.inr none, 249, ([], [], []))])
set_option maxRecDepth 100000 in
theorem pl_s823_e : ck_ok p2_OL none [] [] 214 [] 84 pl_s823 = true := by decide +kernel
theorem pl_s823_s {X : Int → Int} {LX : Nat} : ck_Ok p2_OL X LX 214 pl_s823 := ck_ok_s ⟨pl_nmu, ck_E0⟩ ck_X0 ck_l0 pl_s823_e
set_option maxRecDepth 100000 in
/-- java/util/Arrays.fill -/
def pl_s824 : ck_Sum := ((0, 0, 0), 249, [.inr (.inr (.inl 223)), .inl (ck_one 0)], ([], [], []), ([(223, 0, 179)], []), [(.inr none, 249, ([], [], []))])
set_option maxRecDepth 100000 in
theorem pl_s824_e : ck_ok p2_OL none [] [] 8 [(5, [some (.inr (.inr (.inl 223))), some (.inl (ck_one 0)), some (.inl (0, 180, [])), some (.inl (ck_one 180))], ([], [], []), 100, .inl 2, true)] 130 pl_s824 = true := by decide +kernel
theorem pl_s824_s {X : Int → Int} {LX : Nat} : ck_Ok p2_OL X LX 8 pl_s824 := ck_ok_s ⟨pl_nmu, ck_E0⟩ ck_X0 ck_l0 pl_s824_e
set_option maxRecDepth 100000 in
/-- GlacierMail$Rows.reset -/
def pl_s825 : ck_Sum := ((1, 0, 0), 249, [.inr (.inr (.inl 222)), .inl (0, 30, [])], ([], [], []), ([(222, 3, 3), (223, 0, 179)], []), [(.inr none, 249, ([], [], []))])
set_option maxRecDepth 100000 in
theorem pl_s825_e : ck_ok p2_OL none [] [(8, [pl_s824])] 25 [] 96 pl_s825 = true := by decide +kernel
theorem pl_s825_s {X : Int → Int} {LX : Nat} : ck_Ok p2_OL X LX 25 pl_s825 := ck_ok_s ⟨pl_nmu, ck_E1 (ck_S1 pl_s824_s ck_S0) ck_E0⟩ ck_X0 ck_l0 pl_s825_e
set_option maxRecDepth 100000 in
/-- GlacierMail$Rows.get -/
def pl_s826 : ck_Sum := ((0, 0, 0), 249, [.inr (.inr (.inl 222)), .inl ((-2147483648), 2147483647, []), .inl ((-2147483648), 2147483647, [])], ([], [], []), ([], []), [(.inr (some (.inl ((-2147483648), 2147483647, []))), 249, ([], [], []))])
set_option maxRecDepth 100000 in
theorem pl_s826_e : ck_ok p2_OL none [] [] 10 [] 114 pl_s826 = true := by decide +kernel
theorem pl_s826_s {X : Int → Int} {LX : Nat} : ck_Ok p2_OL X LX 10 pl_s826 := ck_ok_s ⟨pl_nmu, ck_E0⟩ ck_X0 ck_l0 pl_s826_e
set_option maxRecDepth 100000 in
/-- GlacierMail$Rows.put -/
def pl_s827 : ck_Sum := ((0, 0, 0), 249, [.inr (.inr (.inl 222)), .inl ((-2147483648), 2147483647, []), .inl ((-1), 299, []), .inl ((-2147483648), 2147483647, [])], ([], [], []), ([(223, 0, 179)], []), [(.inr none, 249, ([], [], []))])
set_option maxRecDepth 100000 in
theorem pl_s827_e : ck_ok p2_OL none [] [] 45 [] 116 pl_s827 = true := by decide +kernel
theorem pl_s827_s {X : Int → Int} {LX : Nat} : ck_Ok p2_OL X LX 45 pl_s827 := ck_ok_s ⟨pl_nmu, ck_E0⟩ ck_X0 ck_l0 pl_s827_e
set_option maxRecDepth 100000 in
/-- GlacierMail.reckonCame -/
def pl_s828 : ck_Sum := ((2, 0, 0), 249, [.inr (.inr (.inl 1)), .inl (0, 30, [])], ([], [], [(3, 6, 6, (0, 299, [(10, 0)]))]), ([(222, 3, 3), (223, 0, 179)], []), [(.inr none, 249, ([], [], []))])
set_option maxRecDepth 100000 in
theorem pl_s828_e : ck_ok p2_OL none [] [(25, [pl_s825]), (9, [pl_s201]), (10, [pl_s218, pl_s204, pl_s826]), (28, [pl_s205]), (45, [pl_s827])] 215 [(10, [some (.inr (.inr (.inl 1))), some (.inl (0, 30, [])), some (.inl (0, 24, [])), none, none], ([], [], [(3, 6, 6, (0, 299, [(10, 0)]))]), 100, .inl 2, true)] 286 pl_s828 = true := by decide +kernel
theorem pl_s828_s {X : Int → Int} {LX : Nat} : ck_Ok p2_OL X LX 215 pl_s828 := ck_ok_s ⟨pl_nmu, ck_E1 (ck_S1 pl_s825_s ck_S0) (ck_E1 (ck_S1 pl_s201_s ck_S0) (ck_E1 (ck_S1 pl_s218_s (ck_S1 pl_s204_s (ck_S1 pl_s826_s ck_S0))) (ck_E1 (ck_S1 pl_s205_s ck_S0) (ck_E1 (ck_S1 pl_s827_s ck_S0) ck_E0))))⟩ ck_X0 ck_l0 pl_s828_e
set_option maxRecDepth 100000 in
/-- java/util/Arrays.fill -/
def pl_s829 : ck_Sum := ((0, 0, 0), 249, [.inr (.inr (.inl 225)), .inl (ck_one 0)], ([], [], []), ([(225, 0, 185)], []), [(.inr none, 249, ([], [], []))])
set_option maxRecDepth 100000 in
theorem pl_s829_e : ck_ok p2_OL none [] [] 8 [(5, [some (.inr (.inr (.inl 225))), some (.inl (ck_one 0)), some (.inl (0, 186, [])), some (.inl (ck_one 186))], ([], [], []), 100, .inl 2, true)] 130 pl_s829 = true := by decide +kernel
theorem pl_s829_s {X : Int → Int} {LX : Nat} : ck_Ok p2_OL X LX 8 pl_s829 := ck_ok_s ⟨pl_nmu, ck_E0⟩ ck_X0 ck_l0 pl_s829_e
set_option maxRecDepth 100000 in
/-- GlacierMail$Rows.reset -/
def pl_s830 : ck_Sum := ((1, 0, 0), 249, [.inr (.inr (.inl 224)), .inl (1, 31, [])], ([], [], []), ([(224, 3, 3), (225, 0, 185)], []), [(.inr none, 249, ([], [], [(224, 3, 3, (1, 31, []))]))])
set_option maxRecDepth 100000 in
theorem pl_s830_e : ck_ok p2_OL none [] [(8, [pl_s829])] 25 [] 96 pl_s830 = true := by decide +kernel
theorem pl_s830_s {X : Int → Int} {LX : Nat} : ck_Ok p2_OL X LX 25 pl_s830 := ck_ok_s ⟨pl_nmu, ck_E1 (ck_S1 pl_s829_s ck_S0) ck_E0⟩ ck_X0 ck_l0 pl_s830_e
set_option maxRecDepth 100000 in
/-- GlacierMail$Rows.get -/
def pl_s831 : ck_Sum := ((0, 0, 0), 249, [.inr (.inr (.inl 224)), .inl ((-2147483648), 2147483647, []), .inl ((-2147483648), 2147483647, [])], ([], [], []), ([], []), [(.inr (some (.inl ((-2147483648), 2147483647, []))), 249, ([], [], []))])
set_option maxRecDepth 100000 in
theorem pl_s831_e : ck_ok p2_OL none [] [] 10 [] 114 pl_s831 = true := by decide +kernel
theorem pl_s831_s {X : Int → Int} {LX : Nat} : ck_Ok p2_OL X LX 10 pl_s831 := ck_ok_s ⟨pl_nmu, ck_E0⟩ ck_X0 ck_l0 pl_s831_e
set_option maxRecDepth 100000 in
/-- GlacierMail.bestNext -/
def pl_s832 : ck_Sum := ((1, 0, 0), 249, [.inr (.inr (.inl 1)), .inl (1, 30, []), .inl (0, 5, [])], ([], [], []), ([], []), [(.inr (some (.inl ((-2147483648), 2147483647, []))), 249, ([], [], []))])
set_option maxRecDepth 100000 in
theorem pl_s832_e : ck_ok p2_OL none [] [(10, [pl_s831])] 216 [] 118 pl_s832 = true := by decide +kernel
theorem pl_s832_s {X : Int → Int} {LX : Nat} : ck_Ok p2_OL X LX 216 pl_s832 := ck_ok_s ⟨pl_nmu, ck_E1 (ck_S1 pl_s831_s ck_S0) ck_E0⟩ ck_X0 ck_l0 pl_s832_e
set_option maxRecDepth 100000 in
/-- GlacierMail$Rows.put -/
def pl_s833 : ck_Sum := ((0, 0, 0), 249, [.inr (.inr (.inl 224)), .inl (0, 29, []), .inl (0, 5, []), .inl ((-2147483648), 2147483647, [])], ([], [], []), ([(225, 0, 179)], []), [(.inr none, 249, ([], [], []))])
set_option maxRecDepth 100000 in
theorem pl_s833_e : ck_ok p2_OL none [] [] 45 [] 116 pl_s833 = true := by decide +kernel
theorem pl_s833_s {X : Int → Int} {LX : Nat} : ck_Ok p2_OL X LX 45 pl_s833 := ck_ok_s ⟨pl_nmu, ck_E0⟩ ck_X0 ck_l0 pl_s833_e
set_option maxRecDepth 100000 in
/-- GlacierMail.thieves -/
def pl_s834 : ck_Sum := ((7, 1, 6), 249, [.inr (.inr (.inl 1)), .inl (0, 30, []), .inl (0, 1, [])], ([], [(3, 8, 246)], [(3, 6, 6, (0, 299, [(10, 0)]))]), ([(1, 15, 15), (200, 6, 6), (204, 0, 9), (205, 0, 14849), (206, 2, 8), (220, 3, 3), (221, 0, 47), (222, 3, 3), (223, 0, 179), (224, 3, 3), (225, 0, 185)], []), [(.inl 0, 249, ([], [], [])), (.inr (some (.inl ((-2147483648), 2147483647, []))), 249, ([], [], [(224, 3, 3, (1, 31, [])), (1, 15, 15, ck_one 1)])), (.inr (some (.inl (0, 5, []))), 249, ([], [], [(224, 3, 3, (1, 31, [])), (1, 15, 15, ck_one 1)]))])
set_option maxRecDepth 100000 in
theorem pl_s834_e : ck_ok p2_OL none [] [(214, [pl_s823]), (24, [pl_s217]), (215, [pl_s828]), (25, [pl_s830]), (10, [pl_s831, pl_s826]), (216, [pl_s832]), (45, [pl_s833])] 213 [(28, [some (.inr (.inr (.inl 1))), some (.inl (0, 30, [])), some (.inl (0, 1, [])), some (.inl ((-1), 29, [])), none], ([], [(3, 8, 246)], [(224, 3, 3, (1, 31, [])), (1, 15, 15, ck_one 1), (3, 6, 6, (0, 299, [(10, 0)]))]), 100, .inl 3, false), (94, [some (.inr (.inr (.inl 1))), some (.inl (0, 30, [])), some (.inl (0, 1, [])), some (.inl (0, 5, [])), some (.inl (1, 6, []))], ([], [(3, 8, 246)], [(224, 3, 3, (1, 31, [])), (1, 15, 15, ck_one 1), (3, 6, 6, (0, 299, [(10, 0)]))]), 300, .inl 4, true), (35, [some (.inr (.inr (.inl 1))), some (.inl (0, 30, [])), some (.inl (0, 1, [])), some (.inl (0, 29, [(100, 0)])), some (.inl (0, 6, []))], ([], [(3, 8, 246)], [(224, 3, 3, (1, 31, [])), (1, 15, 15, ck_one 1), (3, 6, 6, (0, 299, [(10, 0)]))]), 500, .inl 4, true)] 330 pl_s834 = true := by decide +kernel
theorem pl_s834_s {X : Int → Int} {LX : Nat} : ck_Ok p2_OL X LX 213 pl_s834 := ck_ok_s ⟨pl_nmu, ck_E1 (ck_S1 pl_s823_s ck_S0) (ck_E1 (ck_S1 pl_s217_s ck_S0) (ck_E1 (ck_S1 pl_s828_s ck_S0) (ck_E1 (ck_S1 pl_s830_s ck_S0) (ck_E1 (ck_S1 pl_s831_s (ck_S1 pl_s826_s ck_S0)) (ck_E1 (ck_S1 pl_s832_s ck_S0) (ck_E1 (ck_S1 pl_s833_s ck_S0) ck_E0))))))⟩ ck_X0 ck_l0 pl_s834_e
set_option maxRecDepth 100000 in
/-- GlacierMail.watchman -/
def pl_s835 : ck_Sum := ((7, 1, 6), 249, [.inr (.inr (.inl 1)), .inl ((-2147483648), (-1), []), .inl (0, 1, [])], ([], [], []), ([], []), [(.inl 0, 249, ([], [], []))])
set_option maxRecDepth 100000 in
theorem pl_s835_e : ck_ok p2_OL none [] [(214, [pl_s819])] 218 [] 76 pl_s835 = true := by decide +kernel
theorem pl_s835_s {X : Int → Int} {LX : Nat} : ck_Ok p2_OL X LX 218 pl_s835 := ck_ok_s ⟨pl_nmu, ck_E1 (ck_S1 pl_s819_s ck_S0) ck_E0⟩ ck_X0 ck_l0 pl_s835_e
set_option maxRecDepth 100000 in
/-- GlacierMail.watchman -/
def pl_s836 : ck_Sum := ((7, 1, 6), 249, [.inr (.inr (.inl 1)), .inl (31, 2147483647, []), .inl (0, 1, [])], ([], [], []), ([], []), [(.inl 0, 249, ([], [], []))])
set_option maxRecDepth 100000 in
theorem pl_s836_e : ck_ok p2_OL none [] [(214, [pl_s821])] 218 [] 76 pl_s836 = true := by decide +kernel
theorem pl_s836_s {X : Int → Int} {LX : Nat} : ck_Ok p2_OL X LX 218 pl_s836 := ck_ok_s ⟨pl_nmu, ck_E1 (ck_S1 pl_s821_s ck_S0) ck_E0⟩ ck_X0 ck_l0 pl_s836_e
set_option maxRecDepth 100000 in
/-- GlacierMail.mostBeside -/
def pl_s837 : ck_Sum := ((1, 0, 0), 249, [.inr (.inr (.inl 1)), .inl (0, 5, []), .inl (0, 30, [])], ([], [], []), ([], []), [(.inr (some (.inl (0, 2147483647, []))), 249, ([], [], []))])
set_option maxRecDepth 100000 in
theorem pl_s837_e : ck_ok p2_OL none [] [(10, [pl_s826])] 219 [(5, [some (.inr (.inr (.inl 1))), some (.inl (0, 5, [])), some (.inl (0, 30, [])), some (.inl (0, 2147483647, [])), some (.inl (0, 6, [])), none, none], ([], [], []), 100, .inl 4, true), (23, [some (.inr (.inr (.inl 1))), some (.inl (0, 5, [])), some (.inl (0, 30, [])), some (.inl (0, 2147483647, [])), some (.inl (0, 5, [(100, 0)])), some (.inl ((-2147483648), 2147483647, [])), some (.inl (0, 30, []))], ([], [], []), 300, .inl 6, true)] 194 pl_s837 = true := by decide +kernel
theorem pl_s837_s {X : Int → Int} {LX : Nat} : ck_Ok p2_OL X LX 219 pl_s837 := ck_ok_s ⟨pl_nmu, ck_E1 (ck_S1 pl_s826_s ck_S0) ck_E0⟩ ck_X0 ck_l0 pl_s837_e
set_option maxRecDepth 100000 in
/-- GlacierMail.mostBeside -/
def pl_s838 : ck_Sum := ((1, 0, 0), 249, [.inr (.inr (.inl 1)), .inl (1, 5, []), .inl (0, 30, [])], ([], [], []), ([], []), [(.inr (some (.inl (0, 2147483647, []))), 249, ([], [], []))])
set_option maxRecDepth 100000 in
theorem pl_s838_e : ck_ok p2_OL none [] [(10, [pl_s826])] 219 [(5, [some (.inr (.inr (.inl 1))), some (.inl (1, 5, [])), some (.inl (0, 30, [])), some (.inl (0, 2147483647, [])), some (.inl (0, 6, [])), none, none], ([], [], []), 100, .inl 4, true), (23, [some (.inr (.inr (.inl 1))), some (.inl (1, 5, [])), some (.inl (0, 30, [])), some (.inl (0, 2147483647, [])), some (.inl (0, 5, [(100, 0)])), some (.inl ((-2147483648), 2147483647, [])), some (.inl (0, 30, []))], ([], [], []), 300, .inl 6, true)] 194 pl_s838 = true := by decide +kernel
theorem pl_s838_s {X : Int → Int} {LX : Nat} : ck_Ok p2_OL X LX 219 pl_s838 := ck_ok_s ⟨pl_nmu, ck_E1 (ck_S1 pl_s826_s ck_S0) ck_E0⟩ ck_X0 ck_l0 pl_s838_e
set_option maxRecDepth 100000 in
/-- GlacierMail.watchman -/
def pl_s839 : ck_Sum := ((7, 1, 6), 249, [.inr (.inr (.inl 1)), .inl (0, 30, []), .inl (0, 1, [])], ([], [(3, 8, 246)], [(3, 6, 6, (0, 299, [(10, 0)]))]), ([(1, 15, 15), (200, 6, 6), (204, 0, 9), (205, 0, 14849), (206, 2, 8), (220, 3, 3), (221, 0, 47), (222, 3, 3), (223, 0, 179)], []), [(.inl 0, 249, ([], [], [])), (.inr (some (.inl (0, 2147483647, []))), 249, ([], [], [(1, 15, 15, ck_one 1)]))])
set_option maxRecDepth 100000 in
theorem pl_s839_e : ck_ok p2_OL none [] [(214, [pl_s823]), (24, [pl_s217]), (215, [pl_s828]), (219, [pl_s837, pl_s838])] 218 [(19, [some (.inr (.inr (.inl 1))), some (.inl (0, 30, [])), some (.inl (0, 1, [])), some (.inl (0, 5, [])), some (.inl (1, 6, []))], ([], [(3, 8, 246)], [(1, 15, 15, ck_one 1), (3, 6, 6, (0, 299, [(10, 0)]))]), 100, .inl 4, true)] 166 pl_s839 = true := by decide +kernel
theorem pl_s839_s {X : Int → Int} {LX : Nat} : ck_Ok p2_OL X LX 218 pl_s839 := ck_ok_s ⟨pl_nmu, ck_E1 (ck_S1 pl_s823_s ck_S0) (ck_E1 (ck_S1 pl_s217_s ck_S0) (ck_E1 (ck_S1 pl_s828_s ck_S0) (ck_E1 (ck_S1 pl_s837_s (ck_S1 pl_s838_s ck_S0)) ck_E0)))⟩ ck_X0 ck_l0 pl_s839_e
set_option maxRecDepth 100000 in
/-- GlacierMail.meeting -/
def pl_s840 : ck_Sum := ((8, 1, 6), 249, [.inr (.inr (.inl 1)), .inl ((-2147483648), (-1), []), .inl ((-2147483648), 2147483647, [])], ([], [], []), ([], []), [(.inl 3, 249, ([], [], []))])
set_option maxRecDepth 100000 in
theorem pl_s840_e : ck_ok p2_OL none [] [(143, [pl_s227])] 221 [] 76 pl_s840 = true := by decide +kernel
theorem pl_s840_s {X : Int → Int} {LX : Nat} : ck_Ok p2_OL X LX 221 pl_s840 := ck_ok_s ⟨pl_nmu, ck_E1 (ck_S1 pl_s227_s ck_S0) ck_E0⟩ ck_X0 ck_l0 pl_s840_e
set_option maxRecDepth 100000 in
/-- GlacierMail.meeting -/
def pl_s841 : ck_Sum := ((8, 1, 6), 249, [.inr (.inr (.inl 1)), .inl (24, 2147483647, []), .inl ((-2147483648), 2147483647, [])], ([], [], []), ([], []), [(.inl 3, 249, ([], [], []))])
set_option maxRecDepth 100000 in
theorem pl_s841_e : ck_ok p2_OL none [] [(143, [pl_s230])] 221 [] 76 pl_s841 = true := by decide +kernel
theorem pl_s841_s {X : Int → Int} {LX : Nat} : ck_Ok p2_OL X LX 221 pl_s841 := ck_ok_s ⟨pl_nmu, ck_E1 (ck_S1 pl_s230_s ck_S0) ck_E0⟩ ck_X0 ck_l0 pl_s841_e
set_option maxRecDepth 100000 in
/-- GlacierMail.meeting -/
def pl_s842 : ck_Sum := ((8, 2, 12), 249, [.inr (.inr (.inl 1)), .inl (0, 23, []), .inl ((-2147483648), (-1), [])], ([], [], []), ([], []), [(.inl 3, 249, ([], [], []))])
set_option maxRecDepth 100000 in
theorem pl_s842_e : ck_ok p2_OL none [] [(143, [pl_s233, pl_s227])] 221 [] 82 pl_s842 = true := by decide +kernel
theorem pl_s842_s {X : Int → Int} {LX : Nat} : ck_Ok p2_OL X LX 221 pl_s842 := ck_ok_s ⟨pl_nmu, ck_E1 (ck_S1 pl_s233_s (ck_S1 pl_s227_s ck_S0)) ck_E0⟩ ck_X0 ck_l0 pl_s842_e
set_option maxRecDepth 100000 in
/-- GlacierMail.meeting -/
def pl_s843 : ck_Sum := ((8, 2, 12), 249, [.inr (.inr (.inl 1)), .inl (0, 23, []), .inl (24, 2147483647, [])], ([], [], []), ([], []), [(.inl 3, 249, ([], [], []))])
set_option maxRecDepth 100000 in
theorem pl_s843_e : ck_ok p2_OL none [] [(143, [pl_s233, pl_s230])] 221 [] 82 pl_s843 = true := by decide +kernel
theorem pl_s843_s {X : Int → Int} {LX : Nat} : ck_Ok p2_OL X LX 221 pl_s843 := ck_ok_s ⟨pl_nmu, ck_E1 (ck_S1 pl_s233_s (ck_S1 pl_s230_s ck_S0)) ck_E0⟩ ck_X0 ck_l0 pl_s843_e
set_option maxRecDepth 100000 in
/-- GlacierMail.needUnlike -/
def pl_s844 : ck_Sum := ((6, 1, 6), 249, [.inr (.inr (.inl 1)), .inl (0, 23, []), .inl (0, 23, [])], ([], [], []), ([], []), [(.inr none, 249, ([], [], [])), (.inl 0, 249, ([], [], []))])
set_option maxRecDepth 100000 in
theorem pl_s844_e : ck_ok p2_OL none [] [] 153 [] 78 pl_s844 = true := by decide +kernel
theorem pl_s844_s {X : Int → Int} {LX : Nat} : ck_Ok p2_OL X LX 153 pl_s844 := ck_ok_s ⟨pl_nmu, ck_E0⟩ ck_X0 ck_l0 pl_s844_e
set_option maxRecDepth 100000 in
/-- GlacierMail.startBoth -/
def pl_s845 : ck_Sum := ((5, 0, 0), 249, [.inr (.inr (.inl 1)), .inl (0, 23, []), .inl (0, 23, []), .inl (0, 299, [])], ([], [(3, 8, 246)], []), (zl248, []), [(.inr (some (.inl (0, 299, []))), 249, ([], [], zl86))])
set_option maxRecDepth 100000 in
theorem pl_s845_e : ck_ok p2_OL none [] [(27, [pl_s208, pl_s721]), (148, [pl_s243, pl_s726])] 182 [] 126 pl_s845 = true := by decide +kernel
theorem pl_s845_s {X : Int → Int} {LX : Nat} : ck_Ok p2_OL X LX 182 pl_s845 := ck_ok_s ⟨pl_nmu, ck_E1 (ck_S1 pl_s208_s (ck_S1 pl_s721_s ck_S0)) (ck_E1 (ck_S1 pl_s243_s (ck_S1 pl_s726_s ck_S0)) ck_E0)⟩ ck_X0 ck_l0 pl_s845_e
set_option maxRecDepth 100000 in
/-- GlacierMail.meeting -/
def pl_s846 : ck_Sum := ((8, 3, 18), 249, [.inr (.inr (.inl 1)), .inl (0, 23, []), .inl (0, 23, [])], ([], [(3, 8, 246)], [(3, 6, 6, (0, 299, [(10, 0)]))]), (zl248, []), [(.inl 3, 249, ([], [], [])), (.inl 0, 249, ([], [], [])), (.inr (some (.inl (ck_one (-1)))), 249, ([], [], [])), (.inr (some (.inl (0, 299, []))), 249, ([], [], zl207))])
set_option maxRecDepth 100000 in
theorem pl_s846_e : ck_ok p2_OL none [] [(143, [pl_s233]), (153, [pl_s844]), (180, [pl_s718]), (182, [pl_s845]), (183, [pl_s728]), (184, [pl_s729])] 221 [(44, [some (.inr (.inr (.inl 1))), some (.inl (0, 23, [])), some (.inl (0, 23, [])), some (.inl (0, 299, [])), some (.inl (0, 300, []))], ([], [(3, 8, 246)], [(206, 4, 4, ck_one (-1)), (206, 2, 2, ((-1), 299, [])), (3, 6, 6, (0, 299, [(10, 0)]))]), 100, .inl 4, true)] 194 pl_s846 = true := by decide +kernel
theorem pl_s846_s {X : Int → Int} {LX : Nat} : ck_Ok p2_OL X LX 221 pl_s846 := ck_ok_s ⟨pl_nmu, ck_E1 (ck_S1 pl_s233_s ck_S0) (ck_E1 (ck_S1 pl_s844_s ck_S0) (ck_E1 (ck_S1 pl_s718_s ck_S0) (ck_E1 (ck_S1 pl_s845_s ck_S0) (ck_E1 (ck_S1 pl_s728_s ck_S0) (ck_E1 (ck_S1 pl_s729_s ck_S0) ck_E0)))))⟩ ck_X0 ck_l0 pl_s846_e
set_option maxRecDepth 100000 in
/-- GlacierMail.outs -/
def pl_s847 : ck_Sum := ((7, 1, 6), 249, [.inr (.inr (.inl 1)), .inl ((-2147483648), (-1), [])], ([], [], []), ([], []), [(.inl 0, 249, ([], [], []))])
set_option maxRecDepth 100000 in
theorem pl_s847_e : ck_ok p2_OL none [] [(129, [pl_s145])] 223 [] 76 pl_s847 = true := by decide +kernel
theorem pl_s847_s {X : Int → Int} {LX : Nat} : ck_Ok p2_OL X LX 223 pl_s847 := ck_ok_s ⟨pl_nmu, ck_E1 (ck_S1 pl_s145_s ck_S0) ck_E0⟩ ck_X0 ck_l0 pl_s847_e
set_option maxRecDepth 100000 in
/-- GlacierMail.outs -/
def pl_s848 : ck_Sum := ((7, 1, 6), 249, [.inr (.inr (.inl 1)), .inl (300, 2147483647, [])], ([], [], []), ([], []), [(.inl 0, 249, ([], [], []))])
set_option maxRecDepth 100000 in
theorem pl_s848_e : ck_ok p2_OL none [] [(129, [pl_s147])] 223 [] 76 pl_s848 = true := by decide +kernel
theorem pl_s848_s {X : Int → Int} {LX : Nat} : ck_Ok p2_OL X LX 223 pl_s848 := ck_ok_s ⟨pl_nmu, ck_E1 (ck_S1 pl_s147_s ck_S0) ck_E0⟩ ck_X0 ck_l0 pl_s848_e
set_option maxRecDepth 100000 in
/-- GlacierMail.outIn -/
def pl_s849 : ck_Sum := ((1, 0, 0), 249, [.inr (.inr (.inl 1)), .inl (0, 299, []), .inl (ck_one 1)], ([], [], []), ([], []), [(.inr (some (.inl ((-2147483648), 2147483647, []))), 249, ([], [], []))])
set_option maxRecDepth 100000 in
theorem pl_s849_e : ck_ok p2_OL none [] [(9, [pl_s201]), (10, [pl_s218])] 47 [(5, [some (.inr (.inr (.inl 1))), some (.inl (0, 299, [])), some (.inl (ck_one 1)), some (.inl ((-2147483648), 2147483647, [])), some (.inl (0, 24, []))], ([], [], []), 100, .inl 4, true)] 162 pl_s849 = true := by decide +kernel
theorem pl_s849_s {X : Int → Int} {LX : Nat} : ck_Ok p2_OL X LX 47 pl_s849 := ck_ok_s ⟨pl_nmu, ck_E1 (ck_S1 pl_s201_s ck_S0) (ck_E1 (ck_S1 pl_s218_s ck_S0) ck_E0)⟩ ck_X0 ck_l0 pl_s849_e
set_option maxRecDepth 100000 in
/-- GlacierMail.outs -/
def pl_s850 : ck_Sum := ((6, 0, 0), 249, [.inr (.inr (.inl 1)), .inl (0, 299, [])], ([], [(3, 8, 246)], []), (zl228, []), [(.inr (some (.inl ((-2147483648), 2147483647, []))), 249, ([], [], [(1, 15, 15, ck_one 1)]))])
set_option maxRecDepth 100000 in
theorem pl_s850_e : ck_ok p2_OL none [] [(129, [pl_s149]), (24, [pl_s217]), (47, [pl_s849])] 223 [] 90 pl_s850 = true := by decide +kernel
theorem pl_s850_s {X : Int → Int} {LX : Nat} : ck_Ok p2_OL X LX 223 pl_s850 := ck_ok_s ⟨pl_nmu, ck_E1 (ck_S1 pl_s149_s ck_S0) (ck_E1 (ck_S1 pl_s217_s ck_S0) (ck_E1 (ck_S1 pl_s849_s ck_S0) ck_E0))⟩ ck_X0 ck_l0 pl_s850_e
set_option maxRecDepth 100000 in
/-- GlacierMail.outAheadOf -/
def pl_s851 : ck_Sum := ((1, 0, 0), 249, [.inr (.inr (.inl 1)), .inl (0, 23, [])], ([], [], []), ([], []), [(.inr (some (.inl ((-2147483648), 2147483647, []))), 249, ([], [], []))])
set_option maxRecDepth 100000 in
theorem pl_s851_e : ck_ok p2_OL none [] [(10, [pl_s218]), (9, [pl_s201])] 53 [(15, [some (.inr (.inr (.inl 1))), some (.inl (0, 23, [])), some (.inl ((-2147483648), 299, [])), some (.inl ((-2147483648), 2147483647, [])), some (.inl (0, 24, [])), none, none], ([], [], []), 100, .inl 4, true)] 214 pl_s851 = true := by decide +kernel
theorem pl_s851_s {X : Int → Int} {LX : Nat} : ck_Ok p2_OL X LX 53 pl_s851 := ck_ok_s ⟨pl_nmu, ck_E1 (ck_S1 pl_s218_s ck_S0) (ck_E1 (ck_S1 pl_s201_s ck_S0) ck_E0)⟩ ck_X0 ck_l0 pl_s851_e
set_option maxRecDepth 100000 in
/-- GlacierMail.order -/
def pl_s852 : ck_Sum := ((6, 0, 0), 249, [.inr (.inr (.inl 1)), .inl ((-2147483648), 2147483647, [])], ([], [(3, 8, 246)], []), (zl228, []), [(.inr (some (.inl (ck_one (-1)))), 249, ([], [], [(1, 15, 15, ck_one 1)])), (.inr (some (.inl (0, 23, []))), 249, ([], [], [(1, 15, 15, ck_one 1)]))])
set_option maxRecDepth 100000 in
theorem pl_s852_e : ck_ok p2_OL none [] [(24, [pl_s217]), (9, [pl_s201]), (10, [pl_s218]), (53, [pl_s851])] 52 [(6, [some (.inr (.inr (.inl 1))), some (.inl ((-2147483648), 2147483647, [])), some (.inl (0, 24, []))], ([], [(3, 8, 246)], [(1, 15, 15, ck_one 1)]), 100, .inl 2, true)] 170 pl_s852 = true := by decide +kernel
theorem pl_s852_s {X : Int → Int} {LX : Nat} : ck_Ok p2_OL X LX 52 pl_s852 := ck_ok_s ⟨pl_nmu, ck_E1 (ck_S1 pl_s217_s ck_S0) (ck_E1 (ck_S1 pl_s201_s ck_S0) (ck_E1 (ck_S1 pl_s218_s ck_S0) (ck_E1 (ck_S1 pl_s851_s ck_S0) ck_E0)))⟩ ck_X0 ck_l0 pl_s852_e
set_option maxRecDepth 100000 in
/-- GlacierMail.streams -/
def pl_s853 : ck_Sum := ((7, 1, 6), 249, [.inr (.inr (.inl 1)), .inl ((-2147483648), (-1), []), .inl (0, 1, [])], ([], [], []), ([], []), [(.inl 0, 249, ([], [], []))])
set_option maxRecDepth 100000 in
theorem pl_s853_e : ck_ok p2_OL none [] [(129, [pl_s145])] 225 [] 76 pl_s853 = true := by decide +kernel
theorem pl_s853_s {X : Int → Int} {LX : Nat} : ck_Ok p2_OL X LX 225 pl_s853 := ck_ok_s ⟨pl_nmu, ck_E1 (ck_S1 pl_s145_s ck_S0) ck_E0⟩ ck_X0 ck_l0 pl_s853_e
set_option maxRecDepth 100000 in
/-- GlacierMail.streams -/
def pl_s854 : ck_Sum := ((7, 1, 6), 249, [.inr (.inr (.inl 1)), .inl (300, 2147483647, []), .inl (0, 1, [])], ([], [], []), ([], []), [(.inl 0, 249, ([], [], []))])
set_option maxRecDepth 100000 in
theorem pl_s854_e : ck_ok p2_OL none [] [(129, [pl_s147])] 225 [] 76 pl_s854 = true := by decide +kernel
theorem pl_s854_s {X : Int → Int} {LX : Nat} : ck_Ok p2_OL X LX 225 pl_s854 := ck_ok_s ⟨pl_nmu, ck_E1 (ck_S1 pl_s147_s ck_S0) ck_E0⟩ ck_X0 ck_l0 pl_s854_e
set_option maxRecDepth 100000 in
/-- GlacierMail.streams -/
def pl_s855 : ck_Sum := ((6, 0, 0), 249, [.inr (.inr (.inl 1)), .inl (0, 299, []), .inl (0, 1, [])], ([], [(3, 8, 246)], []), (zl228, []), [(.inr (some (.inl ((-2147483648), 2147483647, []))), 249, ([], [], [(1, 15, 15, ck_one 1)]))])
set_option maxRecDepth 100000 in
theorem pl_s855_e : ck_ok p2_OL none [] [(129, [pl_s149]), (24, [pl_s217]), (9, [pl_s201]), (10, [pl_s204, pl_s218]), (67, [pl_s219])] 225 [(14, [some (.inr (.inr (.inl 1))), some (.inl (0, 299, [])), some (.inl (0, 1, [])), some (.inl ((-2147483648), 2147483647, [])), some (.inl (0, 24, [])), none], ([], [(3, 8, 246)], [(1, 15, 15, ck_one 1)]), 100, .inl 4, true)] 226 pl_s855 = true := by decide +kernel
theorem pl_s855_s {X : Int → Int} {LX : Nat} : ck_Ok p2_OL X LX 225 pl_s855 := ck_ok_s ⟨pl_nmu, ck_E1 (ck_S1 pl_s149_s ck_S0) (ck_E1 (ck_S1 pl_s217_s ck_S0) (ck_E1 (ck_S1 pl_s201_s ck_S0) (ck_E1 (ck_S1 pl_s204_s (ck_S1 pl_s218_s ck_S0)) (ck_E1 (ck_S1 pl_s219_s ck_S0) ck_E0))))⟩ ck_X0 ck_l0 pl_s855_e
set_option maxRecDepth 100000 in
/-- GlacierMail.range -/
def pl_s856 : ck_Sum := ((8, 1, 6), 249, [.inr (.inr (.inl 1)), .inl ((-2147483648), (-1), []), .inl ((-2147483648), 2147483647, [])], ([], [], []), ([], []), [(.inl 3, 249, ([], [], []))])
set_option maxRecDepth 100000 in
theorem pl_s856_e : ck_ok p2_OL none [] [(132, [pl_s153])] 227 [] 76 pl_s856 = true := by decide +kernel
theorem pl_s856_s {X : Int → Int} {LX : Nat} : ck_Ok p2_OL X LX 227 pl_s856 := ck_ok_s ⟨pl_nmu, ck_E1 (ck_S1 pl_s153_s ck_S0) ck_E0⟩ ck_X0 ck_l0 pl_s856_e
set_option maxRecDepth 100000 in
/-- GlacierMail.range -/
def pl_s857 : ck_Sum := ((8, 1, 6), 249, [.inr (.inr (.inl 1)), .inl (6, 2147483647, []), .inl ((-2147483648), 2147483647, [])], ([], [], []), ([], []), [(.inl 3, 249, ([], [], []))])
set_option maxRecDepth 100000 in
theorem pl_s857_e : ck_ok p2_OL none [] [(132, [pl_s156])] 227 [] 76 pl_s857 = true := by decide +kernel
theorem pl_s857_s {X : Int → Int} {LX : Nat} : ck_Ok p2_OL X LX 227 pl_s857 := ck_ok_s ⟨pl_nmu, ck_E1 (ck_S1 pl_s156_s ck_S0) ck_E0⟩ ck_X0 ck_l0 pl_s857_e
end
