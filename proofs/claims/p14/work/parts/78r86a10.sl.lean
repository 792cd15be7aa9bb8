/-! EVERY CALL OF THE CLASS ENDS, under a law (laid by wip/am/p2l.py). -/
set_option maxRecDepth 100000 in
/-- GlacierMail.throwsFor -/
def pl_s683 : ck_Sum := ((8, 1, 6), 249, [.inr (.inr (.inl 1)), .inl ((-2147483648), (-1), []), .inl ((-2147483648), 2147483647, []), .inl ((-2147483648), 2147483647, []), .inl ((-2147483648), 2147483647, [])], ([], [], []), ([], []), [(.inl 3, 249, ([], [], []))])
set_option maxRecDepth 100000 in
theorem pl_s683_e : ck_ok p2_OL none [] [(132, [pl_s153])] 167 [] 76 pl_s683 = true := by decide +kernel
theorem pl_s683_s {X : Int → Int} {LX : Nat} : ck_Ok p2_OL X LX 167 pl_s683 := ck_ok_s ⟨pl_nmu, ck_E1 (ck_S1 pl_s153_s ck_S0) ck_E0⟩ ck_X0 ck_l0 pl_s683_e
set_option maxRecDepth 100000 in
/-- GlacierMail.throwsFor -/
def pl_s684 : ck_Sum := ((8, 1, 6), 249, [.inr (.inr (.inl 1)), .inl (6, 2147483647, []), .inl ((-2147483648), 2147483647, []), .inl ((-2147483648), 2147483647, []), .inl ((-2147483648), 2147483647, [])], ([], [], []), ([], []), [(.inl 3, 249, ([], [], []))])
set_option maxRecDepth 100000 in
theorem pl_s684_e : ck_ok p2_OL none [] [(132, [pl_s156])] 167 [] 76 pl_s684 = true := by decide +kernel
theorem pl_s684_s {X : Int → Int} {LX : Nat} : ck_Ok p2_OL X LX 167 pl_s684 := ck_ok_s ⟨pl_nmu, ck_E1 (ck_S1 pl_s156_s ck_S0) ck_E0⟩ ck_X0 ck_l0 pl_s684_e
set_option maxRecDepth 100000 in
/-- GlacierMail.throwsFor -/
def pl_s685 : ck_Sum := ((8, 2, 12), 249, [.inr (.inr (.inl 1)), .inl (0, 5, []), .inl ((-2147483648), (-1), []), .inl ((-2147483648), 2147483647, []), .inl ((-2147483648), 2147483647, [])], ([], [], []), ([], []), [(.inl 3, 249, ([], [], [])), (.inl 0, 249, ([], [], []))])
set_option maxRecDepth 100000 in
theorem pl_s685_e : ck_ok p2_OL none [] [(132, [pl_s159]), (129, [pl_s145])] 167 [] 82 pl_s685 = true := by decide +kernel
theorem pl_s685_s {X : Int → Int} {LX : Nat} : ck_Ok p2_OL X LX 167 pl_s685 := ck_ok_s ⟨pl_nmu, ck_E1 (ck_S1 pl_s159_s ck_S0) (ck_E1 (ck_S1 pl_s145_s ck_S0) ck_E0)⟩ ck_X0 ck_l0 pl_s685_e
set_option maxRecDepth 100000 in
/-- GlacierMail.throwsFor -/
def pl_s686 : ck_Sum := ((8, 2, 12), 249, [.inr (.inr (.inl 1)), .inl (0, 5, []), .inl (300, 2147483647, []), .inl ((-2147483648), 2147483647, []), .inl ((-2147483648), 2147483647, [])], ([], [], []), ([], []), [(.inl 3, 249, ([], [], [])), (.inl 0, 249, ([], [], []))])
set_option maxRecDepth 100000 in
theorem pl_s686_e : ck_ok p2_OL none [] [(132, [pl_s159]), (129, [pl_s147])] 167 [] 82 pl_s686 = true := by decide +kernel
theorem pl_s686_s {X : Int → Int} {LX : Nat} : ck_Ok p2_OL X LX 167 pl_s686 := ck_ok_s ⟨pl_nmu, ck_E1 (ck_S1 pl_s159_s ck_S0) (ck_E1 (ck_S1 pl_s147_s ck_S0) ck_E0)⟩ ck_X0 ck_l0 pl_s686_e
set_option maxRecDepth 100000 in
/-- GlacierMail.throwsFor -/
def pl_s687 : ck_Sum := ((8, 2, 12), 249, [.inr (.inr (.inl 1)), .inl (0, 5, []), .inl (0, 299, []), .inl ((-2147483648), (-1), []), .inl ((-2147483648), 2147483647, [])], ([], [], []), ([], []), [(.inl 3, 249, ([], [], [])), (.inl 0, 249, ([], [], []))])
set_option maxRecDepth 100000 in
theorem pl_s687_e : ck_ok p2_OL none [] [(132, [pl_s159]), (129, [pl_s149, pl_s145])] 167 [] 88 pl_s687 = true := by decide +kernel
theorem pl_s687_s {X : Int → Int} {LX : Nat} : ck_Ok p2_OL X LX 167 pl_s687 := ck_ok_s ⟨pl_nmu, ck_E1 (ck_S1 pl_s159_s ck_S0) (ck_E1 (ck_S1 pl_s149_s (ck_S1 pl_s145_s ck_S0)) ck_E0)⟩ ck_X0 ck_l0 pl_s687_e
set_option maxRecDepth 100000 in
/-- GlacierMail.throwsFor -/
def pl_s688 : ck_Sum := ((8, 2, 12), 249, [.inr (.inr (.inl 1)), .inl (0, 5, []), .inl (0, 299, []), .inl (300, 2147483647, []), .inl ((-2147483648), 2147483647, [])], ([], [], []), ([], []), [(.inl 3, 249, ([], [], [])), (.inl 0, 249, ([], [], []))])
set_option maxRecDepth 100000 in
theorem pl_s688_e : ck_ok p2_OL none [] [(132, [pl_s159]), (129, [pl_s149, pl_s147])] 167 [] 88 pl_s688 = true := by decide +kernel
theorem pl_s688_s {X : Int → Int} {LX : Nat} : ck_Ok p2_OL X LX 167 pl_s688 := ck_ok_s ⟨pl_nmu, ck_E1 (ck_S1 pl_s159_s ck_S0) (ck_E1 (ck_S1 pl_s149_s (ck_S1 pl_s147_s ck_S0)) ck_E0)⟩ ck_X0 ck_l0 pl_s688_e
set_option maxRecDepth 100000 in
/-- GlacierMail.throwsFor -/
def pl_s689 : ck_Sum := ((8, 2, 12), 249, [.inr (.inr (.inl 1)), .inl (0, 5, []), .inl (0, 299, []), .inl (0, 299, []), .inl ((-2147483648), (-1), [])], ([], [], [(3, 6, 6, (0, 299, [(10, 0)]))]), ([], []), [(.inl 3, 249, ([], [], [])), (.inl 4, 249, ([], [], [])), (.inl 0, 249, ([], [], [(3, 6, 6, (1, 299, [(10, 0)]))]))])
set_option maxRecDepth 100000 in
theorem pl_s689_e : ck_ok p2_OL none [] [(132, [pl_s159]), (129, [pl_s149])] 167 [] 104 pl_s689 = true := by decide +kernel
theorem pl_s689_s {X : Int → Int} {LX : Nat} : ck_Ok p2_OL X LX 167 pl_s689 := ck_ok_s ⟨pl_nmu, ck_E1 (ck_S1 pl_s159_s ck_S0) (ck_E1 (ck_S1 pl_s149_s ck_S0) ck_E0)⟩ ck_X0 ck_l0 pl_s689_e
set_option maxRecDepth 100000 in
/-- GlacierMail.throwsFor -/
def pl_s690 : ck_Sum := ((8, 2, 12), 249, [.inr (.inr (.inl 1)), .inl (0, 5, []), .inl (0, 299, []), .inl (0, 299, []), .inl (10, 2147483647, [])], ([], [], [(3, 6, 6, (0, 299, [(10, 0)]))]), ([], []), [(.inl 3, 249, ([], [], [])), (.inl 4, 249, ([], [], [])), (.inl 0, 249, ([], [], [(3, 6, 6, (1, 299, [(10, 0)]))]))])
set_option maxRecDepth 100000 in
theorem pl_s690_e : ck_ok p2_OL none [] [(132, [pl_s159]), (129, [pl_s149])] 167 [] 110 pl_s690 = true := by decide +kernel
theorem pl_s690_s {X : Int → Int} {LX : Nat} : ck_Ok p2_OL X LX 167 pl_s690 := ck_ok_s ⟨pl_nmu, ck_E1 (ck_S1 pl_s159_s ck_S0) (ck_E1 (ck_S1 pl_s149_s ck_S0) ck_E0)⟩ ck_X0 ck_l0 pl_s690_e
set_option maxRecDepth 100000 in
/-- GlacierMail$Way.start -/
def pl_s691 : ck_Sum := ((0, 0, 0), 249, [.inr (.inr (.inl 206)), .inl ((-2147483648), 2147483647, []), .inl ((-2147483648), 2147483647, []), .inl (0, 299, []), .inl (0, 1, [])], ([], [], []), ([(206, 2, 8)], []), [(.inr none, 249, ([], [], [(206, 8, 8, ck_one 0), (206, 6, 6, ck_one 0), (206, 4, 4, ck_one (-1)), (206, 7, 7, (0, 299, []))]))])
set_option maxRecDepth 100000 in
theorem pl_s691_e : ck_ok p2_OL none [] [] 29 [] 114 pl_s691 = true := by decide +kernel
theorem pl_s691_s {X : Int → Int} {LX : Nat} : ck_Ok p2_OL X LX 29 pl_s691 := ck_ok_s ⟨pl_nmu, ck_E0⟩ ck_X0 ck_l0 pl_s691_e
set_option maxRecDepth 100000 in
/-- GlacierMail.throwsFor -/
def pl_s692 : ck_Sum := ((8, 2, 12), 249, [.inr (.inr (.inl 1)), .inl (0, 5, []), .inl (0, 299, []), .inl (0, 299, []), .inl (0, 9, [])], ([], [(3, 8, 246)], [(3, 6, 6, (0, 299, [(10, 0)]))]), ([(200, 6, 6), (204, 0, 9), (205, 0, 14849), (206, 2, 8)], []), [(.inl 3, 249, ([], [], [])), (.inl 4, 249, ([], [], [])), (.inl 0, 249, ([], [], [(3, 6, 6, (1, 299, [(10, 0)]))])), (.inr (some (.inl ((-2147483648), 2147483647, []))), 249, ([], [], []))])
set_option maxRecDepth 100000 in
theorem pl_s692_e : ck_ok p2_OL none [] [(132, [pl_s159]), (129, [pl_s149]), (29, [pl_s691]), (30, [pl_s214])] 167 [(71, [some (.inr (.inr (.inl 1))), some (.inl (0, 5, [])), some (.inl (0, 299, [])), some (.inl (0, 299, [])), some (.inl (0, 2, [])), some (.inl ((-2147483648), 2147483647, [])), some (.inl ((-1), 167, [])), some (.inl ((-1), 167, [])), some (.inl (0, 167, []))], ([], [(3, 8, 246)], [(3, 6, 6, (0, 299, [(10, 0)]))]), 100, .inl 8, true)] 210 pl_s692 = true := by decide +kernel
theorem pl_s692_s {X : Int → Int} {LX : Nat} : ck_Ok p2_OL X LX 167 pl_s692 := ck_ok_s ⟨pl_nmu, ck_E1 (ck_S1 pl_s159_s ck_S0) (ck_E1 (ck_S1 pl_s149_s ck_S0) (ck_E1 (ck_S1 pl_s691_s ck_S0) (ck_E1 (ck_S1 pl_s214_s ck_S0) ck_E0)))⟩ ck_X0 ck_l0 pl_s692_e
set_option maxRecDepth 100000 in
/-- GlacierMail.latest -/
def pl_s693 : ck_Sum := ((8, 1, 6), 249, [.inr (.inr (.inl 1)), .inl ((-2147483648), (-1), []), .inl ((-2147483648), 2147483647, [])], ([], [], []), ([], []), [(.inl 3, 249, ([], [], []))])
set_option maxRecDepth 100000 in
theorem pl_s693_e : ck_ok p2_OL none [] [(139, [pl_s191])] 169 [] 76 pl_s693 = true := by decide +kernel
theorem pl_s693_s {X : Int → Int} {LX : Nat} : ck_Ok p2_OL X LX 169 pl_s693 := ck_ok_s ⟨pl_nmu, ck_E1 (ck_S1 pl_s191_s ck_S0) ck_E0⟩ ck_X0 ck_l0 pl_s693_e
set_option maxRecDepth 100000 in
/-- GlacierMail.latest -/
def pl_s694 : ck_Sum := ((8, 1, 6), 249, [.inr (.inr (.inl 1)), .inl (8, 2147483647, []), .inl ((-2147483648), 2147483647, [])], ([], [], []), ([], []), [(.inl 3, 249, ([], [], []))])
set_option maxRecDepth 100000 in
theorem pl_s694_e : ck_ok p2_OL none [] [(139, [pl_s194])] 169 [] 76 pl_s694 = true := by decide +kernel
theorem pl_s694_s {X : Int → Int} {LX : Nat} : ck_Ok p2_OL X LX 169 pl_s694 := ck_ok_s ⟨pl_nmu, ck_E1 (ck_S1 pl_s194_s ck_S0) ck_E0⟩ ck_X0 ck_l0 pl_s694_e
set_option maxRecDepth 100000 in
/-- GlacierMail.latest -/
def pl_s695 : ck_Sum := ((8, 2, 12), 249, [.inr (.inr (.inl 1)), .inl (0, 7, []), .inl ((-2147483648), (-1), [])], ([], [], []), ([], []), [(.inl 3, 249, ([], [], [])), (.inl 0, 249, ([], [], []))])
set_option maxRecDepth 100000 in
theorem pl_s695_e : ck_ok p2_OL none [] [(139, [pl_s197]), (129, [pl_s145])] 169 [] 82 pl_s695 = true := by decide +kernel
theorem pl_s695_s {X : Int → Int} {LX : Nat} : ck_Ok p2_OL X LX 169 pl_s695 := ck_ok_s ⟨pl_nmu, ck_E1 (ck_S1 pl_s197_s ck_S0) (ck_E1 (ck_S1 pl_s145_s ck_S0) ck_E0)⟩ ck_X0 ck_l0 pl_s695_e
set_option maxRecDepth 100000 in
/-- GlacierMail.latest -/
def pl_s696 : ck_Sum := ((8, 2, 12), 249, [.inr (.inr (.inl 1)), .inl (0, 7, []), .inl (300, 2147483647, [])], ([], [], []), ([], []), [(.inl 3, 249, ([], [], [])), (.inl 0, 249, ([], [], []))])
set_option maxRecDepth 100000 in
theorem pl_s696_e : ck_ok p2_OL none [] [(139, [pl_s197]), (129, [pl_s147])] 169 [] 82 pl_s696 = true := by decide +kernel
theorem pl_s696_s {X : Int → Int} {LX : Nat} : ck_Ok p2_OL X LX 169 pl_s696 := ck_ok_s ⟨pl_nmu, ck_E1 (ck_S1 pl_s197_s ck_S0) (ck_E1 (ck_S1 pl_s147_s ck_S0) ck_E0)⟩ ck_X0 ck_l0 pl_s696_e
set_option maxRecDepth 100000 in
/-- GlacierMail$Way.startHut -/
def pl_s697 : ck_Sum := ((1, 0, 0), 249, [.inr (.inr (.inl 206)), .inl (0, 7, []), .inl (0, 299, [])], ([], [], []), ([(206, 2, 8)], []), [(.inr none, 249, ([], [], [(206, 8, 8, ck_one 0), (206, 6, 6, ck_one 0), (206, 4, 4, ck_one (-1)), (206, 7, 7, (0, 299, []))]))])
set_option maxRecDepth 100000 in
theorem pl_s697_e : ck_ok p2_OL none [] [(10, [pl_s224]), (29, [pl_s691])] 170 [] 104 pl_s697 = true := by decide +kernel
theorem pl_s697_s {X : Int → Int} {LX : Nat} : ck_Ok p2_OL X LX 170 pl_s697 := ck_ok_s ⟨pl_nmu, ck_E1 (ck_S1 pl_s224_s ck_S0) (ck_E1 (ck_S1 pl_s691_s ck_S0) ck_E0)⟩ ck_X0 ck_l0 pl_s697_e
set_option maxRecDepth 100000 in
/-- GlacierMail.latest -/
def pl_s698 : ck_Sum := ((8, 1, 6), 249, [.inr (.inr (.inl 1)), .inl (0, 7, []), .inl (0, 299, [])], ([], [(3, 8, 246)], [(3, 6, 6, (0, 299, [(10, 0)]))]), ([(200, 6, 6), (204, 0, 9), (205, 0, 14849), (206, 2, 8)], []), [(.inl 3, 249, ([], [], [])), (.inr (some (.inl (ck_one (-1)))), 249, ([], [], [])), (.inr (some (.inl (0, 299, []))), 249, ([], [], [(206, 4, 4, ck_one (-1))]))])
set_option maxRecDepth 100000 in
theorem pl_s698_e : ck_ok p2_OL none [] [(139, [pl_s197]), (129, [pl_s149]), (170, [pl_s697]), (30, [pl_s214])] 169 [(12, [some (.inr (.inr (.inl 1))), some (.inl (0, 7, [])), some (.inl (0, 299, [])), some (.inl ((-1), 299, []))], ([], [(3, 8, 246)], [(3, 6, 6, (0, 299, [(10, 0)]))]), 100, .inl 3, false)] 166 pl_s698 = true := by decide +kernel
theorem pl_s698_s {X : Int → Int} {LX : Nat} : ck_Ok p2_OL X LX 169 pl_s698 := ck_ok_s ⟨pl_nmu, ck_E1 (ck_S1 pl_s197_s ck_S0) (ck_E1 (ck_S1 pl_s149_s ck_S0) (ck_E1 (ck_S1 pl_s697_s ck_S0) (ck_E1 (ck_S1 pl_s214_s ck_S0) ck_E0)))⟩ ck_X0 ck_l0 pl_s698_e
set_option maxRecDepth 100000 in
/-- GlacierMail.hut -/
def pl_s699 : ck_Sum := ((8, 1, 6), 249, [.inr (.inr (.inl 1)), .inl ((-2147483648), (-1), []), .inl ((-2147483648), 2147483647, [])], ([], [], []), ([], []), [(.inl 3, 249, ([], [], []))])
set_option maxRecDepth 100000 in
theorem pl_s699_e : ck_ok p2_OL none [] [(132, [pl_s153])] 172 [] 76 pl_s699 = true := by decide +kernel
theorem pl_s699_s {X : Int → Int} {LX : Nat} : ck_Ok p2_OL X LX 172 pl_s699 := ck_ok_s ⟨pl_nmu, ck_E1 (ck_S1 pl_s153_s ck_S0) ck_E0⟩ ck_X0 ck_l0 pl_s699_e
set_option maxRecDepth 100000 in
/-- GlacierMail.hut -/
def pl_s700 : ck_Sum := ((8, 1, 6), 249, [.inr (.inr (.inl 1)), .inl (6, 2147483647, []), .inl ((-2147483648), 2147483647, [])], ([], [], []), ([], []), [(.inl 3, 249, ([], [], []))])
set_option maxRecDepth 100000 in
theorem pl_s700_e : ck_ok p2_OL none [] [(132, [pl_s156])] 172 [] 76 pl_s700 = true := by decide +kernel
theorem pl_s700_s {X : Int → Int} {LX : Nat} : ck_Ok p2_OL X LX 172 pl_s700 := ck_ok_s ⟨pl_nmu, ck_E1 (ck_S1 pl_s156_s ck_S0) ck_E0⟩ ck_X0 ck_l0 pl_s700_e
set_option maxRecDepth 100000 in
/-- GlacierMail.hut -/
def pl_s701 : ck_Sum := ((8, 2, 12), 249, [.inr (.inr (.inl 1)), .inl (0, 5, []), .inl ((-2147483648), (-1), [])], ([], [], []), ([], []), [(.inl 3, 249, ([], [], [])), (.inl 0, 249, ([], [], []))])
set_option maxRecDepth 100000 in
theorem pl_s701_e : ck_ok p2_OL none [] [(132, [pl_s159])] 172 [] 84 pl_s701 = true := by decide +kernel
theorem pl_s701_s {X : Int → Int} {LX : Nat} : ck_Ok p2_OL X LX 172 pl_s701 := ck_ok_s ⟨pl_nmu, ck_E1 (ck_S1 pl_s159_s ck_S0) ck_E0⟩ ck_X0 ck_l0 pl_s701_e
set_option maxRecDepth 100000 in
/-- GlacierMail.hut -/
def pl_s702 : ck_Sum := ((8, 2, 12), 249, [.inr (.inr (.inl 1)), .inl (0, 5, []), .inl (300, 2147483647, [])], ([], [], []), ([], []), [(.inl 3, 249, ([], [], [])), (.inl 0, 249, ([], [], []))])
set_option maxRecDepth 100000 in
theorem pl_s702_e : ck_ok p2_OL none [] [(132, [pl_s159])] 172 [] 90 pl_s702 = true := by decide +kernel
theorem pl_s702_s {X : Int → Int} {LX : Nat} : ck_Ok p2_OL X LX 172 pl_s702 := ck_ok_s ⟨pl_nmu, ck_E1 (ck_S1 pl_s159_s ck_S0) ck_E0⟩ ck_X0 ck_l0 pl_s702_e
set_option maxRecDepth 100000 in
/-- GlacierMail.hut -/
def pl_s703 : ck_Sum := ((8, 2, 12), 249, [.inr (.inr (.inl 1)), .inl (0, 5, []), .inl (0, 299, [])], ([], [(3, 8, 246)], [(3, 6, 6, (0, 299, [(10, 0)]))]), ([(200, 6, 6), (204, 0, 9), (205, 0, 14849), (206, 2, 8)], []), [(.inl 3, 249, ([], [], [])), (.inl 0, 249, ([], [], [])), (.inr (some (.inl (ck_one (-1)))), 249, ([], [], [])), (.inr (some (.inl (0, 98, []))), 249, ([], [], [(206, 4, 4, ck_one (-1))]))])
set_option maxRecDepth 100000 in
theorem pl_s703_e : ck_ok p2_OL none [] [(132, [pl_s159]), (29, [pl_s691]), (30, [pl_s214])] 172 [(47, [some (.inr (.inr (.inl 1))), some (.inl (0, 5, [])), some (.inl (1, 299, [])), some (.inl (1, 299, [])), some (.inl (0, 167, []))], ([], [(3, 8, 246)], [(3, 6, 6, (0, 299, [(10, 0)]))]), 100, .inl 4, true)] 182 pl_s703 = true := by decide +kernel
theorem pl_s703_s {X : Int → Int} {LX : Nat} : ck_Ok p2_OL X LX 172 pl_s703 := ck_ok_s ⟨pl_nmu, ck_E1 (ck_S1 pl_s159_s ck_S0) (ck_E1 (ck_S1 pl_s691_s ck_S0) (ck_E1 (ck_S1 pl_s214_s ck_S0) ck_E0))⟩ ck_X0 ck_l0 pl_s703_e
set_option maxRecDepth 100000 in
/-- GlacierMail.without -/
def pl_s704 : ck_Sum := ((8, 1, 6), 249, [.inr (.inr (.inl 1)), .inl ((-2147483648), (-1), []), .inl ((-2147483648), 2147483647, [])], ([], [], []), ([], []), [(.inl 3, 249, ([], [], []))])
set_option maxRecDepth 100000 in
theorem pl_s704_e : ck_ok p2_OL none [] [(143, [pl_s227])] 174 [] 76 pl_s704 = true := by decide +kernel
theorem pl_s704_s {X : Int → Int} {LX : Nat} : ck_Ok p2_OL X LX 174 pl_s704 := ck_ok_s ⟨pl_nmu, ck_E1 (ck_S1 pl_s227_s ck_S0) ck_E0⟩ ck_X0 ck_l0 pl_s704_e
set_option maxRecDepth 100000 in
/-- GlacierMail.without -/
def pl_s705 : ck_Sum := ((8, 1, 6), 249, [.inr (.inr (.inl 1)), .inl (24, 2147483647, []), .inl ((-2147483648), 2147483647, [])], ([], [], []), ([], []), [(.inl 3, 249, ([], [], []))])
set_option maxRecDepth 100000 in
theorem pl_s705_e : ck_ok p2_OL none [] [(143, [pl_s230])] 174 [] 76 pl_s705 = true := by decide +kernel
theorem pl_s705_s {X : Int → Int} {LX : Nat} : ck_Ok p2_OL X LX 174 pl_s705 := ck_ok_s ⟨pl_nmu, ck_E1 (ck_S1 pl_s230_s ck_S0) ck_E0⟩ ck_X0 ck_l0 pl_s705_e
set_option maxRecDepth 100000 in
/-- GlacierMail.without -/
def pl_s706 : ck_Sum := ((8, 2, 12), 249, [.inr (.inr (.inl 1)), .inl (0, 23, []), .inl ((-2147483648), (-1), [])], ([], [], []), ([], []), [(.inl 3, 249, ([], [], []))])
set_option maxRecDepth 100000 in
theorem pl_s706_e : ck_ok p2_OL none [] [(143, [pl_s233]), (9, [pl_s137]), (133, [pl_s190])] 174 [] 90 pl_s706 = true := by decide +kernel
theorem pl_s706_s {X : Int → Int} {LX : Nat} : ck_Ok p2_OL X LX 174 pl_s706 := ck_ok_s ⟨pl_nmu, ck_E1 (ck_S1 pl_s233_s ck_S0) (ck_E1 (ck_S1 pl_s137_s ck_S0) (ck_E1 (ck_S1 pl_s190_s ck_S0) ck_E0))⟩ ck_X0 ck_l0 pl_s706_e
set_option maxRecDepth 100000 in
/-- GlacierMail.without -/
def pl_s707 : ck_Sum := ((8, 2, 12), 249, [.inr (.inr (.inl 1)), .inl (0, 23, []), .inl (8, 2147483647, [])], ([], [], []), ([], []), [(.inl 3, 249, ([], [], []))])
set_option maxRecDepth 100000 in
theorem pl_s707_e : ck_ok p2_OL none [] [(143, [pl_s233]), (9, [pl_s137]), (133, [pl_s193])] 174 [] 90 pl_s707 = true := by decide +kernel
theorem pl_s707_s {X : Int → Int} {LX : Nat} : ck_Ok p2_OL X LX 174 pl_s707 := ck_ok_s ⟨pl_nmu, ck_E1 (ck_S1 pl_s233_s ck_S0) (ck_E1 (ck_S1 pl_s137_s ck_S0) (ck_E1 (ck_S1 pl_s193_s ck_S0) ck_E0))⟩ ck_X0 ck_l0 pl_s707_e
set_option maxRecDepth 100000 in
/-- GlacierMail$Way.leaveOut -/
def pl_s708 : ck_Sum := ((0, 0, 0), 249, [.inr (.inr (.inl 206)), .inl (0, 7, [])], ([], [], []), ([(206, 4, 4)], []), [(.inr none, 249, ([], [], [(206, 4, 4, (0, 7, []))]))])
set_option maxRecDepth 100000 in
theorem pl_s708_e : ck_ok p2_OL none [] [] 175 [] 78 pl_s708 = true := by decide +kernel
theorem pl_s708_s {X : Int → Int} {LX : Nat} : ck_Ok p2_OL X LX 175 pl_s708 := ck_ok_s ⟨pl_nmu, ck_E0⟩ ck_X0 ck_l0 pl_s708_e
set_option maxRecDepth 100000 in
/-- GlacierMail.without -/
def pl_s709 : ck_Sum := ((8, 2, 12), 249, [.inr (.inr (.inl 1)), .inl (0, 23, []), .inl (0, 7, [])], ([], [(3, 8, 246)], []), ([(200, 6, 6), (204, 0, 9), (205, 0, 14849), (206, 2, 8)], []), [(.inl 3, 249, ([], [], [])), (.inr (some (.inl ((-2147483648), 299, []))), 249, ([], [], [(206, 4, 4, (0, 7, [])), (206, 2, 2, ((-1), 299, []))]))])
set_option maxRecDepth 100000 in
theorem pl_s709_e : ck_ok p2_OL none [] [(143, [pl_s233]), (9, [pl_s137]), (133, [pl_s196]), (27, [pl_s208]), (175, [pl_s708]), (30, [pl_s214])] 174 [] 116 pl_s709 = true := by decide +kernel
theorem pl_s709_s {X : Int → Int} {LX : Nat} : ck_Ok p2_OL X LX 174 pl_s709 := ck_ok_s ⟨pl_nmu, ck_E1 (ck_S1 pl_s233_s ck_S0) (ck_E1 (ck_S1 pl_s137_s ck_S0) (ck_E1 (ck_S1 pl_s196_s ck_S0) (ck_E1 (ck_S1 pl_s208_s ck_S0) (ck_E1 (ck_S1 pl_s708_s ck_S0) (ck_E1 (ck_S1 pl_s214_s ck_S0) ck_E0)))))⟩ ck_X0 ck_l0 pl_s709_e
set_option maxRecDepth 100000 in
/-- GlacierMail.moved -/
def pl_s710 : ck_Sum := ((8, 1, 6), 249, [.inr (.inr (.inl 1)), .inl ((-2147483648), (-1), [])], ([], [], []), ([], []), [(.inl 3, 249, ([], [], []))])
set_option maxRecDepth 100000 in
theorem pl_s710_e : ck_ok p2_OL none [] [(143, [pl_s227])] 177 [] 76 pl_s710 = true := by decide +kernel
theorem pl_s710_s {X : Int → Int} {LX : Nat} : ck_Ok p2_OL X LX 177 pl_s710 := ck_ok_s ⟨pl_nmu, ck_E1 (ck_S1 pl_s227_s ck_S0) ck_E0⟩ ck_X0 ck_l0 pl_s710_e
set_option maxRecDepth 100000 in
/-- GlacierMail.moved -/
def pl_s711 : ck_Sum := ((8, 1, 6), 249, [.inr (.inr (.inl 1)), .inl (24, 2147483647, [])], ([], [], []), ([], []), [(.inl 3, 249, ([], [], []))])
set_option maxRecDepth 100000 in
theorem pl_s711_e : ck_ok p2_OL none [] [(143, [pl_s230])] 177 [] 76 pl_s711 = true := by decide +kernel
theorem pl_s711_s {X : Int → Int} {LX : Nat} : ck_Ok p2_OL X LX 177 pl_s711 := ck_ok_s ⟨pl_nmu, ck_E1 (ck_S1 pl_s230_s ck_S0) ck_E0⟩ ck_X0 ck_l0 pl_s711_e
set_option maxRecDepth 100000 in
/-- GlacierMail.moved -/
def pl_s712 : ck_Sum := ((8, 1, 6), 249, [.inr (.inr (.inl 1)), .inl (0, 23, [])], ([], [(3, 8, 246)], []), ([(200, 6, 6), (204, 0, 9), (205, 0, 14849), (206, 2, 8)], []), [(.inl 3, 249, ([], [], [])), (.inr (some (.inl ((-2147483648), (-1), []))), 249, ([], [], [(206, 8, 8, ((-2147483648), (-1), [])), (206, 4, 4, ck_one (-1)), (206, 2, 2, ((-1), 299, []))])), (.inr (some (.inl (0, 2147483647, []))), 249, ([], [], [(206, 8, 8, (0, 2147483647, [])), (206, 4, 4, ck_one (-1)), (206, 2, 2, ((-1), 299, []))]))])
set_option maxRecDepth 100000 in
theorem pl_s712_e : ck_ok p2_OL none [] [(143, [pl_s233]), (27, [pl_s208]), (30, [pl_s214])] 177 [] 102 pl_s712 = true := by decide +kernel
theorem pl_s712_s {X : Int → Int} {LX : Nat} : ck_Ok p2_OL X LX 177 pl_s712 := ck_ok_s ⟨pl_nmu, ck_E1 (ck_S1 pl_s233_s ck_S0) (ck_E1 (ck_S1 pl_s208_s ck_S0) (ck_E1 (ck_S1 pl_s214_s ck_S0) ck_E0))⟩ ck_X0 ck_l0 pl_s712_e
set_option maxRecDepth 100000 in
/-- GlacierMail.lost -/
def pl_s713 : ck_Sum := ((6, 0, 0), 249, [.inr (.inr (.inl 1))], ([], [(3, 8, 246)], []), ([(1, 15, 15), (200, 6, 6), (204, 0, 9), (205, 0, 14849), (206, 2, 8), (220, 3, 3), (221, 0, 47)], []), [(.inr (some (.inl ((-2147483648), 2147483647, []))), 249, ([], [], [(1, 15, 15, ck_one 1)]))])
set_option maxRecDepth 100000 in
theorem pl_s713_e : ck_ok p2_OL none [] [(24, [pl_s217]), (9, [pl_s201]), (10, [pl_s218])] 23 [(8, [some (.inr (.inr (.inl 1))), some (.inl ((-2147483648), 2147483647, [])), some (.inl (0, 24, []))], ([], [(3, 8, 246)], [(1, 15, 15, ck_one 1)]), 100, .inl 2, true)] 174 pl_s713 = true := by decide +kernel
theorem pl_s713_s {X : Int → Int} {LX : Nat} : ck_Ok p2_OL X LX 23 pl_s713 := ck_ok_s ⟨pl_nmu, ck_E1 (ck_S1 pl_s217_s ck_S0) (ck_E1 (ck_S1 pl_s201_s ck_S0) (ck_E1 (ck_S1 pl_s218_s ck_S0) ck_E0))⟩ ck_X0 ck_l0 pl_s713_e
set_option maxRecDepth 100000 in
/-- GlacierMail.outIn -/
def pl_s714 : ck_Sum := ((2, 0, 0), 249, [.inr (.inr (.inl 1)), .inl ((-2147483648), 299, []), .inl (ck_one 0)], ([], [], []), ([], []), [(.inr (some (.inl ((-2147483648), 2147483647, []))), 249, ([], [], []))])
set_option maxRecDepth 100000 in
theorem pl_s714_e : ck_ok p2_OL none [] [(9, [pl_s201]), (10, [pl_s218]), (28, [pl_s205])] 47 [(5, [some (.inr (.inr (.inl 1))), some (.inl ((-2147483648), 299, [])), some (.inl (ck_one 0)), some (.inl ((-2147483648), 2147483647, [])), some (.inl (0, 24, []))], ([], [], []), 100, .inl 4, true)] 182 pl_s714 = true := by decide +kernel
theorem pl_s714_s {X : Int → Int} {LX : Nat} : ck_Ok p2_OL X LX 47 pl_s714 := ck_ok_s ⟨pl_nmu, ck_E1 (ck_S1 pl_s201_s ck_S0) (ck_E1 (ck_S1 pl_s218_s ck_S0) (ck_E1 (ck_S1 pl_s205_s ck_S0) ck_E0))⟩ ck_X0 ck_l0 pl_s714_e
set_option maxRecDepth 100000 in
/-- GlacierMail.market -/
def pl_s715 : ck_Sum := ((6, 0, 0), 249, [.inr (.inr (.inl 1)), .inl (0, 1, [])], ([], [(3, 8, 246)], []), ([(1, 15, 15), (200, 6, 6), (204, 0, 9), (205, 0, 14849), (206, 2, 8), (220, 3, 3), (221, 0, 47)], []), [(.inr (some (.inl ((-2147483648), 299, []))), 249, ([], [], [(1, 15, 15, ck_one 1)])), (.inr (some (.inl (0, 2147483647, []))), 249, ([], [], [(1, 15, 15, ck_one 1)]))])
set_option maxRecDepth 100000 in
theorem pl_s715_e : ck_ok p2_OL none [] [(24, [pl_s217]), (9, [pl_s201]), (10, [pl_s218]), (47, [pl_s714])] 46 [(11, [some (.inr (.inr (.inl 1))), some (.inl (0, 1, [])), some (.inl ((-2147483648), 299, [])), some (.inl (0, 2147483647, [])), some (.inl (0, 24, [])), none, none], ([], [(3, 8, 246)], [(1, 15, 15, ck_one 1)]), 100, .inl 4, true)] 230 pl_s715 = true := by decide +kernel
theorem pl_s715_s {X : Int → Int} {LX : Nat} : ck_Ok p2_OL X LX 46 pl_s715 := ck_ok_s ⟨pl_nmu, ck_E1 (ck_S1 pl_s217_s ck_S0) (ck_E1 (ck_S1 pl_s201_s ck_S0) (ck_E1 (ck_S1 pl_s218_s ck_S0) (ck_E1 (ck_S1 pl_s714_s ck_S0) ck_E0)))⟩ ck_X0 ck_l0 pl_s715_e
set_option maxRecDepth 100000 in
/-- GlacierMail.passes -/
def pl_s716 : ck_Sum := ((8, 1, 6), 249, [.inr (.inr (.inl 1)), .inl ((-2147483648), (-1), [])], ([], [], []), ([], []), [(.inl 3, 249, ([], [], []))])
set_option maxRecDepth 100000 in
theorem pl_s716_e : ck_ok p2_OL none [] [(143, [pl_s227])] 179 [] 76 pl_s716 = true := by decide +kernel
theorem pl_s716_s {X : Int → Int} {LX : Nat} : ck_Ok p2_OL X LX 179 pl_s716 := ck_ok_s ⟨pl_nmu, ck_E1 (ck_S1 pl_s227_s ck_S0) ck_E0⟩ ck_X0 ck_l0 pl_s716_e
set_option maxRecDepth 100000 in
/-- GlacierMail.passes -/
def pl_s717 : ck_Sum := ((8, 1, 6), 249, [.inr (.inr (.inl 1)), .inl (24, 2147483647, [])], ([], [], []), ([], []), [(.inl 3, 249, ([], [], []))])
set_option maxRecDepth 100000 in
theorem pl_s717_e : ck_ok p2_OL none [] [(143, [pl_s230])] 179 [] 76 pl_s717 = true := by decide +kernel
theorem pl_s717_s {X : Int → Int} {LX : Nat} : ck_Ok p2_OL X LX 179 pl_s717 := ck_ok_s ⟨pl_nmu, ck_E1 (ck_S1 pl_s230_s ck_S0) ck_E0⟩ ck_X0 ck_l0 pl_s717_e
set_option maxRecDepth 100000 in
/-- GlacierMail.sameLane -/
def pl_s718 : ck_Sum := ((1, 0, 0), 249, [.inr (.inr (.inl 1)), .inl (0, 23, []), .inl (0, 23, [])], ([], [], []), ([], []), [(.inr (some (.inl (ck_one 0))), 249, ([], [], [])), (.inr (some (.inl (ck_one 1))), 249, ([], [], []))])
set_option maxRecDepth 100000 in
theorem pl_s718_e : ck_ok p2_OL none [] [(10, [pl_s204])] 180 [] 102 pl_s718 = true := by decide +kernel
theorem pl_s718_s {X : Int → Int} {LX : Nat} : ck_Ok p2_OL X LX 180 pl_s718 := ck_ok_s ⟨pl_nmu, ck_E1 (ck_S1 pl_s204_s ck_S0) ck_E0⟩ ck_X0 ck_l0 pl_s718_e
set_option maxRecDepth 100000 in
/-- GlacierMail$Way.start -/
def pl_s719 : ck_Sum := ((0, 0, 0), 249, [.inr (.inr (.inl 207)), .inl ((-1), 299, []), .inl ((-1), 299, []), .inl ((-1), 299, []), .inl (ck_one 0)], ([], [], []), ([(207, 2, 8)], []), [(.inr none, 249, ([], [], [(207, 8, 8, ck_one 0), (207, 6, 6, ck_one 0), (207, 3, 3, ck_one 0), (207, 7, 7, ((-1), 299, [])), (207, 5, 5, ((-1), 299, []))]))])
set_option maxRecDepth 100000 in
theorem pl_s719_e : ck_ok p2_OL none [] [] 29 [] 114 pl_s719 = true := by decide +kernel
theorem pl_s719_s {X : Int → Int} {LX : Nat} : ck_Ok p2_OL X LX 29 pl_s719 := ck_ok_s ⟨pl_nmu, ck_E0⟩ ck_X0 ck_l0 pl_s719_e
set_option maxRecDepth 100000 in
/-- GlacierMail$Way.start -/
def pl_s720 : ck_Sum := ((0, 0, 0), 249, [.inr (.inr (.inl 207)), .inl ((-1), 299, []), .inl ((-1), 299, []), .inl ((-1), 299, []), .inl (ck_one 1)], ([], [], []), ([(207, 2, 8)], []), [(.inr none, 249, ([], [], [(207, 8, 8, ck_one 0), (207, 6, 6, ck_one 0), (207, 3, 3, ck_one 1), (207, 7, 7, ((-1), 299, [])), (207, 5, 5, ((-1), 299, []))]))])
set_option maxRecDepth 100000 in
theorem pl_s720_e : ck_ok p2_OL none [] [] 29 [] 114 pl_s720 = true := by decide +kernel
theorem pl_s720_s {X : Int → Int} {LX : Nat} : ck_Ok p2_OL X LX 29 pl_s720 := ck_ok_s ⟨pl_nmu, ck_E0⟩ ck_X0 ck_l0 pl_s720_e
set_option maxRecDepth 100000 in
/-- GlacierMail$Way.startLetter -/
def pl_s721 : ck_Sum := ((2, 0, 0), 249, [.inr (.inr (.inl 207)), .inl (0, 23, [])], ([], [], []), ([(207, 2, 8)], []), [(.inr none, 249, ([], [], [(207, 8, 8, ck_one 0), (207, 6, 6, ck_one 0), (207, 7, 7, ((-1), 299, [])), (207, 5, 5, ((-1), 299, []))]))])
set_option maxRecDepth 100000 in
theorem pl_s721_e : ck_ok p2_OL none [] [(10, [pl_s204]), (28, [pl_s205]), (29, [pl_s719, pl_s720])] 27 [] 116 pl_s721 = true := by decide +kernel
theorem pl_s721_s {X : Int → Int} {LX : Nat} : ck_Ok p2_OL X LX 27 pl_s721 := ck_ok_s ⟨pl_nmu, ck_E1 (ck_S1 pl_s204_s ck_S0) (ck_E1 (ck_S1 pl_s205_s ck_S0) (ck_E1 (ck_S1 pl_s719_s (ck_S1 pl_s720_s ck_S0)) ck_E0))⟩ ck_X0 ck_l0 pl_s721_e
set_option maxRecDepth 100000 in
/-- GlacierMail$Way.isOut -/
def pl_s722 : ck_Sum := ((0, 0, 0), 249, [.inr (.inr (.inl 207))], ([], [], []), ([], []), [(.inr (some (.inl (ck_one 0))), 249, ([], [], [(207, 5, 5, ((-2147483648), 98, []))])), (.inr (some (.inl (ck_one 1))), 249, ([], [], [(207, 5, 5, (10, 2147483647, []))]))])
set_option maxRecDepth 100000 in
theorem pl_s722_e : ck_ok p2_OL none [] [] 31 [] 88 pl_s722 = true := by decide +kernel
theorem pl_s722_s {X : Int → Int} {LX : Nat} : ck_Ok p2_OL X LX 31 pl_s722 := ck_ok_s ⟨pl_nmu, ck_E0⟩ ck_X0 ck_l0 pl_s722_e
set_option maxRecDepth 100000 in
/-- GlacierMail$Way.deepAfter -/
def pl_s723 : ck_Sum := ((1, 0, 0), 249, [.inr (.inr (.inl 207))], ([], [], []), ([], []), [(.inr (some (.inl (0, 99, []))), 249, ([], [], []))])
set_option maxRecDepth 100000 in
theorem pl_s723_e : ck_ok p2_OL none [] [(34, [pl_s179])] 33 [] 110 pl_s723 = true := by decide +kernel
theorem pl_s723_s {X : Int → Int} {LX : Nat} : ck_Ok p2_OL X LX 33 pl_s723 := ck_ok_s ⟨pl_nmu, ck_E1 (ck_S1 pl_s179_s ck_S0) ck_E0⟩ ck_X0 ck_l0 pl_s723_e
set_option maxRecDepth 100000 in
/-- GlacierMail$Way.takeFloods -/
def pl_s724 : ck_Sum := ((1, 0, 0), 249, [.inr (.inr (.inl 207))], ([], [], []), ([(207, 5, 5), (207, 8, 8)], []), [(.inr none, 249, ([], [], []))])
set_option maxRecDepth 100000 in
theorem pl_s724_e : ck_ok p2_OL none [] [(44, [pl_s211]), (9, [pl_s137]), (10, [pl_s138])] 43 [(22, [some (.inr (.inr (.inl 207))), some (.inr (.inr (.inl 6))), some (.inl ((-2147483648), 2147483647, [])), some (.inl (0, 9, [])), none], ([], [], []), 100, .inl 3, true)] 290 pl_s724 = true := by decide +kernel
theorem pl_s724_s {X : Int → Int} {LX : Nat} : ck_Ok p2_OL X LX 43 pl_s724 := ck_ok_s ⟨pl_nmu, ck_E1 (ck_S1 pl_s211_s ck_S0) (ck_E1 (ck_S1 pl_s137_s ck_S0) (ck_E1 (ck_S1 pl_s138_s ck_S0) ck_E0))⟩ ck_X0 ck_l0 pl_s724_e
set_option maxRecDepth 100000 in
/-- GlacierMail$Way.step -/
def pl_s725 : ck_Sum := ((3, 0, 0), 249, [.inr (.inr (.inl 207))], ([], [(3, 8, 246)], []), ([(200, 6, 6), (204, 0, 9), (205, 0, 14849), (207, 5, 8)], []), [(.inr none, 249, ([], [], []))])
set_option maxRecDepth 100000 in
theorem pl_s725_e : ck_ok p2_OL none [] [(31, [pl_s722]), (33, [pl_s723]), (35, [pl_s187]), (43, [pl_s724])] 32 [] 134 pl_s725 = true := by decide +kernel
theorem pl_s725_s {X : Int → Int} {LX : Nat} : ck_Ok p2_OL X LX 32 pl_s725 := ck_ok_s ⟨pl_nmu, ck_E1 (ck_S1 pl_s722_s ck_S0) (ck_E1 (ck_S1 pl_s723_s ck_S0) (ck_E1 (ck_S1 pl_s187_s ck_S0) (ck_E1 (ck_S1 pl_s724_s ck_S0) ck_E0)))⟩ ck_X0 ck_l0 pl_s725_e
set_option maxRecDepth 100000 in
/-- GlacierMail$Way.goOnTo -/
def pl_s726 : ck_Sum := ((4, 0, 0), 249, [.inr (.inr (.inl 207)), .inl (0, 299, [])], ([], [(3, 8, 246)], []), ([(200, 6, 6), (204, 0, 9), (205, 0, 14849), (207, 5, 8)], []), [(.inr none, 249, ([], [], []))])
set_option maxRecDepth 100000 in
theorem pl_s726_e : ck_ok p2_OL none [] [(32, [pl_s725])] 148 [(5, [some (.inr (.inr (.inl 207))), some (.inl (0, 299, [])), some (.inl ((-2147483648), 2147483647, []))], ([], [(3, 8, 246)], []), 100, .inl 2, true)] 122 pl_s726 = true := by decide +kernel
theorem pl_s726_s {X : Int → Int} {LX : Nat} : ck_Ok p2_OL X LX 148 pl_s726 := ck_ok_s ⟨pl_nmu, ck_E1 (ck_S1 pl_s725_s ck_S0) ck_E0⟩ ck_X0 ck_l0 pl_s726_e
set_option maxRecDepth 100000 in
/-- GlacierMail.startBoth -/
def pl_s727 : ck_Sum := ((5, 0, 0), 249, [.inr (.inr (.inl 1)), .inl (0, 23, []), .inl (0, 23, []), .inl (ck_one 0)], ([], [(3, 8, 246)], []), ([(200, 6, 6), (204, 0, 9), (205, 0, 14849), (206, 2, 8), (207, 2, 8)], []), [(.inr (some (.inl (0, 299, []))), 249, ([], [], [(206, 4, 4, ck_one (-1)), (206, 2, 2, ((-1), 299, []))]))])
set_option maxRecDepth 100000 in
theorem pl_s727_e : ck_ok p2_OL none [] [(27, [pl_s208, pl_s721]), (148, [pl_s243, pl_s726])] 182 [] 126 pl_s727 = true := by decide +kernel
theorem pl_s727_s {X : Int → Int} {LX : Nat} : ck_Ok p2_OL X LX 182 pl_s727 := ck_ok_s ⟨pl_nmu, ck_E1 (ck_S1 pl_s208_s (ck_S1 pl_s721_s ck_S0)) (ck_E1 (ck_S1 pl_s243_s (ck_S1 pl_s726_s ck_S0)) ck_E0)⟩ ck_X0 ck_l0 pl_s727_e
set_option maxRecDepth 100000 in
/-- GlacierMail.bothInIce -/
def pl_s728 : ck_Sum := ((1, 0, 0), 249, [.inr (.inr (.inl 1))], ([], [], []), ([], []), [(.inr (some (.inl (ck_one 1))), 249, ([], [], [(207, 5, 5, ((-2147483648), 98, [])), (206, 5, 5, ((-2147483648), 98, []))])), (.inr (some (.inl (ck_one 0))), 249, ([], [], []))])
set_option maxRecDepth 100000 in
theorem pl_s728_e : ck_ok p2_OL none [] [(31, [pl_s209, pl_s722])] 183 [] 92 pl_s728 = true := by decide +kernel
theorem pl_s728_s {X : Int → Int} {LX : Nat} : ck_Ok p2_OL X LX 183 pl_s728 := ck_ok_s ⟨pl_nmu, ck_E1 (ck_S1 pl_s209_s (ck_S1 pl_s722_s ck_S0)) ck_E0⟩ ck_X0 ck_l0 pl_s728_e
set_option maxRecDepth 100000 in
/-- GlacierMail.stepBoth -/
def pl_s729 : ck_Sum := ((4, 0, 0), 249, [.inr (.inr (.inl 1))], ([], [(3, 8, 246)], []), ([(200, 6, 6), (204, 0, 9), (205, 0, 14849), (206, 5, 8), (207, 5, 8)], []), [(.inr none, 249, ([], [], []))])
set_option maxRecDepth 100000 in
theorem pl_s729_e : ck_ok p2_OL none [] [(32, [pl_s213, pl_s725])] 184 [] 84 pl_s729 = true := by decide +kernel
theorem pl_s729_s {X : Int → Int} {LX : Nat} : ck_Ok p2_OL X LX 184 pl_s729 := ck_ok_s ⟨pl_nmu, ck_E1 (ck_S1 pl_s213_s (ck_S1 pl_s725_s ck_S0)) ck_E0⟩ ck_X0 ck_l0 pl_s729_e
set_option maxRecDepth 100000 in
/-- GlacierMail.passesBy -/
def pl_s730 : ck_Sum := ((6, 0, 0), 249, [.inr (.inr (.inl 1)), .inl (0, 23, []), .inl (0, 23, [])], ([], [(3, 8, 246)], []), ([(200, 6, 6), (204, 0, 9), (205, 0, 14849), (206, 2, 8), (207, 2, 8)], []), [(.inr (some (.inl (ck_one 0))), 249, ([], [], [(206, 4, 4, ck_one (-1)), (206, 2, 2, ((-1), 299, []))])), (.inr (some (.inl (ck_one 1))), 249, ([], [], [(207, 5, 5, ((-2147483648), 97, [])), (206, 5, 5, ((-2147483647), 98, [])), (206, 4, 4, ck_one (-1)), (206, 2, 2, ((-1), 299, []))]))])
set_option maxRecDepth 100000 in
theorem pl_s730_e : ck_ok p2_OL none [] [(182, [pl_s727]), (183, [pl_s728]), (184, [pl_s729])] 181 [(39, [some (.inr (.inr (.inl 1))), some (.inl (0, 23, [])), some (.inl (0, 23, [])), some (.inl (0, 299, [])), some (.inl (1, 300, []))], ([], [(3, 8, 246)], [(207, 5, 5, ((-2147483648), 98, [])), (206, 5, 5, ((-2147483648), 98, [])), (206, 4, 4, ck_one (-1)), (206, 2, 2, ((-1), 299, []))]), 100, .inl 4, true)] 174 pl_s730 = true := by decide +kernel
theorem pl_s730_s {X : Int → Int} {LX : Nat} : ck_Ok p2_OL X LX 181 pl_s730 := ck_ok_s ⟨pl_nmu, ck_E1 (ck_S1 pl_s727_s ck_S0) (ck_E1 (ck_S1 pl_s728_s ck_S0) (ck_E1 (ck_S1 pl_s729_s ck_S0) ck_E0))⟩ ck_X0 ck_l0 pl_s730_e
set_option maxRecDepth 100000 in
/-- GlacierMail.passes -/
def pl_s731 : ck_Sum := ((8, 1, 6), 249, [.inr (.inr (.inl 1)), .inl (0, 23, [])], ([], [(3, 8, 246)], []), ([(200, 6, 6), (204, 0, 9), (205, 0, 14849), (206, 2, 8), (207, 2, 8)], []), [(.inl 3, 249, ([], [], [])), (.inr (some (.inl ((-2147483648), 2147483647, []))), 249, ([], [], []))])
set_option maxRecDepth 100000 in
theorem pl_s731_e : ck_ok p2_OL none [] [(143, [pl_s233]), (9, [pl_s200]), (180, [pl_s718]), (181, [pl_s730])] 179 [(9, [some (.inr (.inr (.inl 1))), some (.inl (0, 23, [])), some (.inl ((-2147483648), 2147483647, [])), some (.inl (0, 24, []))], ([], [(3, 8, 246)], []), 100, .inl 3, true)] 182 pl_s731 = true := by decide +kernel
theorem pl_s731_s {X : Int → Int} {LX : Nat} : ck_Ok p2_OL X LX 179 pl_s731 := ck_ok_s ⟨pl_nmu, ck_E1 (ck_S1 pl_s233_s ck_S0) (ck_E1 (ck_S1 pl_s200_s ck_S0) (ck_E1 (ck_S1 pl_s718_s ck_S0) (ck_E1 (ck_S1 pl_s730_s ck_S0) ck_E0)))⟩ ck_X0 ck_l0 pl_s731_e
set_option maxRecDepth 100000 in
/-- GlacierMail.writers -/
def pl_s732 : ck_Sum := ((8, 1, 6), 249, [.inr (.inr (.inl 1)), .inl ((-2147483648), (-1), []), .inl ((-2147483648), 2147483647, []), .inl ((-2147483648), 2147483647, [])], ([], [], []), ([], []), [(.inl 3, 249, ([], [], []))])
set_option maxRecDepth 100000 in
theorem pl_s732_e : ck_ok p2_OL none [] [(132, [pl_s153])] 186 [] 76 pl_s732 = true := by decide +kernel
theorem pl_s732_s {X : Int → Int} {LX : Nat} : ck_Ok p2_OL X LX 186 pl_s732 := ck_ok_s ⟨pl_nmu, ck_E1 (ck_S1 pl_s153_s ck_S0) ck_E0⟩ ck_X0 ck_l0 pl_s732_e
set_option maxRecDepth 100000 in
/-- GlacierMail.writers -/
def pl_s733 : ck_Sum := ((8, 1, 6), 249, [.inr (.inr (.inl 1)), .inl (6, 2147483647, []), .inl ((-2147483648), 2147483647, []), .inl ((-2147483648), 2147483647, [])], ([], [], []), ([], []), [(.inl 3, 249, ([], [], []))])
set_option maxRecDepth 100000 in
theorem pl_s733_e : ck_ok p2_OL none [] [(132, [pl_s156])] 186 [] 76 pl_s733 = true := by decide +kernel
theorem pl_s733_s {X : Int → Int} {LX : Nat} : ck_Ok p2_OL X LX 186 pl_s733 := ck_ok_s ⟨pl_nmu, ck_E1 (ck_S1 pl_s156_s ck_S0) ck_E0⟩ ck_X0 ck_l0 pl_s733_e
set_option maxRecDepth 100000 in
/-- GlacierMail.needFind -/
def pl_s734 : ck_Sum := ((7, 1, 6), 249, [.inr (.inr (.inl 1)), .inl ((-2147483648), (-1), []), .inl ((-2147483648), 2147483647, [])], ([], [], []), ([], []), [(.inl 0, 249, ([], [], []))])
set_option maxRecDepth 100000 in
theorem pl_s734_e : ck_ok p2_OL none [] [(129, [pl_s145])] 187 [] 76 pl_s734 = true := by decide +kernel
theorem pl_s734_s {X : Int → Int} {LX : Nat} : ck_Ok p2_OL X LX 187 pl_s734 := ck_ok_s ⟨pl_nmu, ck_E1 (ck_S1 pl_s145_s ck_S0) ck_E0⟩ ck_X0 ck_l0 pl_s734_e
set_option maxRecDepth 100000 in
/-- GlacierMail.writers -/
def pl_s735 : ck_Sum := ((8, 2, 12), 249, [.inr (.inr (.inl 1)), .inl (0, 5, []), .inl ((-2147483648), (-1), []), .inl ((-2147483648), 2147483647, [])], ([], [], []), ([], []), [(.inl 3, 249, ([], [], [])), (.inl 0, 249, ([], [], []))])
set_option maxRecDepth 100000 in
theorem pl_s735_e : ck_ok p2_OL none [] [(132, [pl_s159]), (187, [pl_s734])] 186 [] 84 pl_s735 = true := by decide +kernel
theorem pl_s735_s {X : Int → Int} {LX : Nat} : ck_Ok p2_OL X LX 186 pl_s735 := ck_ok_s ⟨pl_nmu, ck_E1 (ck_S1 pl_s159_s ck_S0) (ck_E1 (ck_S1 pl_s734_s ck_S0) ck_E0)⟩ ck_X0 ck_l0 pl_s735_e
set_option maxRecDepth 100000 in
/-- GlacierMail.needFind -/
def pl_s736 : ck_Sum := ((7, 1, 6), 249, [.inr (.inr (.inl 1)), .inl (300, 2147483647, []), .inl ((-2147483648), 2147483647, [])], ([], [], []), ([], []), [(.inl 0, 249, ([], [], []))])
set_option maxRecDepth 100000 in
theorem pl_s736_e : ck_ok p2_OL none [] [(129, [pl_s147])] 187 [] 76 pl_s736 = true := by decide +kernel
theorem pl_s736_s {X : Int → Int} {LX : Nat} : ck_Ok p2_OL X LX 187 pl_s736 := ck_ok_s ⟨pl_nmu, ck_E1 (ck_S1 pl_s147_s ck_S0) ck_E0⟩ ck_X0 ck_l0 pl_s736_e
set_option maxRecDepth 100000 in
/-- GlacierMail.writers -/
def pl_s737 : ck_Sum := ((8, 2, 12), 249, [.inr (.inr (.inl 1)), .inl (0, 5, []), .inl (300, 2147483647, []), .inl ((-2147483648), 2147483647, [])], ([], [], []), ([], []), [(.inl 3, 249, ([], [], [])), (.inl 0, 249, ([], [], []))])
set_option maxRecDepth 100000 in
theorem pl_s737_e : ck_ok p2_OL none [] [(132, [pl_s159]), (187, [pl_s736])] 186 [] 84 pl_s737 = true := by decide +kernel
theorem pl_s737_s {X : Int → Int} {LX : Nat} : ck_Ok p2_OL X LX 186 pl_s737 := ck_ok_s ⟨pl_nmu, ck_E1 (ck_S1 pl_s159_s ck_S0) (ck_E1 (ck_S1 pl_s736_s ck_S0) ck_E0)⟩ ck_X0 ck_l0 pl_s737_e
set_option maxRecDepth 100000 in
/-- GlacierMail.needFind -/
def pl_s738 : ck_Sum := ((6, 1, 6), 249, [.inr (.inr (.inl 1)), .inl (0, 299, []), .inl ((-2147483648), (-1), [])], ([], [], []), ([], []), [(.inl 0, 249, ([], [], []))])
set_option maxRecDepth 100000 in
theorem pl_s738_e : ck_ok p2_OL none [] [(129, [pl_s149])] 187 [] 82 pl_s738 = true := by decide +kernel
theorem pl_s738_s {X : Int → Int} {LX : Nat} : ck_Ok p2_OL X LX 187 pl_s738 := ck_ok_s ⟨pl_nmu, ck_E1 (ck_S1 pl_s149_s ck_S0) ck_E0⟩ ck_X0 ck_l0 pl_s738_e
set_option maxRecDepth 100000 in
/-- GlacierMail.writers -/
def pl_s739 : ck_Sum := ((8, 2, 12), 249, [.inr (.inr (.inl 1)), .inl (0, 5, []), .inl (0, 299, []), .inl ((-2147483648), (-1), [])], ([], [], []), ([], []), [(.inl 3, 249, ([], [], [])), (.inl 0, 249, ([], [], []))])
set_option maxRecDepth 100000 in
theorem pl_s739_e : ck_ok p2_OL none [] [(132, [pl_s159]), (187, [pl_s738])] 186 [] 84 pl_s739 = true := by decide +kernel
theorem pl_s739_s {X : Int → Int} {LX : Nat} : ck_Ok p2_OL X LX 186 pl_s739 := ck_ok_s ⟨pl_nmu, ck_E1 (ck_S1 pl_s159_s ck_S0) (ck_E1 (ck_S1 pl_s738_s ck_S0) ck_E0)⟩ ck_X0 ck_l0 pl_s739_e
set_option maxRecDepth 100000 in
/-- GlacierMail.needFind -/
def pl_s740 : ck_Sum := ((6, 1, 6), 249, [.inr (.inr (.inl 1)), .inl (0, 299, []), .inl (100, 2147483647, [])], ([], [], []), ([], []), [(.inl 0, 249, ([], [], []))])
set_option maxRecDepth 100000 in
theorem pl_s740_e : ck_ok p2_OL none [] [(129, [pl_s149])] 187 [] 88 pl_s740 = true := by decide +kernel
theorem pl_s740_s {X : Int → Int} {LX : Nat} : ck_Ok p2_OL X LX 187 pl_s740 := ck_ok_s ⟨pl_nmu, ck_E1 (ck_S1 pl_s149_s ck_S0) ck_E0⟩ ck_X0 ck_l0 pl_s740_e
set_option maxRecDepth 100000 in
/-- GlacierMail.writers -/
def pl_s741 : ck_Sum := ((8, 2, 12), 249, [.inr (.inr (.inl 1)), .inl (0, 5, []), .inl (0, 299, []), .inl (100, 2147483647, [])], ([], [], []), ([], []), [(.inl 3, 249, ([], [], [])), (.inl 0, 249, ([], [], []))])
set_option maxRecDepth 100000 in
theorem pl_s741_e : ck_ok p2_OL none [] [(132, [pl_s159]), (187, [pl_s740])] 186 [] 84 pl_s741 = true := by decide +kernel
theorem pl_s741_s {X : Int → Int} {LX : Nat} : ck_Ok p2_OL X LX 186 pl_s741 := ck_ok_s ⟨pl_nmu, ck_E1 (ck_S1 pl_s159_s ck_S0) (ck_E1 (ck_S1 pl_s740_s ck_S0) ck_E0)⟩ ck_X0 ck_l0 pl_s741_e
set_option maxRecDepth 100000 in
/-- GlacierMail.needFind -/
def pl_s742 : ck_Sum := ((1, 0, 0), 249, [.inr (.inr (.inl 1)), .inl (0, 299, []), .inl (0, 99, [])], ([], [], []), ([], []), [(.inr none, 249, ([], [], []))])
set_option maxRecDepth 100000 in
theorem pl_s742_e : ck_ok p2_OL none [] [(129, [pl_s149])] 187 [] 88 pl_s742 = true := by decide +kernel
theorem pl_s742_s {X : Int → Int} {LX : Nat} : ck_Ok p2_OL X LX 187 pl_s742 := ck_ok_s ⟨pl_nmu, ck_E1 (ck_S1 pl_s149_s ck_S0) ck_E0⟩ ck_X0 ck_l0 pl_s742_e
set_option maxRecDepth 100000 in
/-- GlacierMail.latestWriting -/
def pl_s743 : ck_Sum := ((5, 0, 0), 249, [.inr (.inr (.inl 1)), .inl (0, 7, []), .inl (0, 5, []), .inl (0, 299, []), .inl (0, 99, [])], ([], [(3, 8, 246)], []), ([(200, 6, 6), (204, 0, 9), (205, 0, 14849), (206, 2, 8)], []), [(.inr (some (.inl (ck_one (-1)))), 249, ([], [], [])), (.inr (some (.inl (0, 298, []))), 249, ([], [], [(206, 4, 4, ck_one (-1))]))])
set_option maxRecDepth 100000 in
theorem pl_s743_e : ck_ok p2_OL none [] [(10, [pl_s224]), (170, [pl_s697]), (30, [pl_s214])] 188 [(23, [some (.inr (.inr (.inl 1))), some (.inl (0, 7, [])), some (.inl (0, 5, [])), some (.inl (0, 299, [])), some (.inl (0, 99, [])), some (.inl ((-1), 298, []))], ([], [(3, 8, 246)], []), 100, .inl 5, false)] 174 pl_s743 = true := by decide +kernel
theorem pl_s743_s {X : Int → Int} {LX : Nat} : ck_Ok p2_OL X LX 188 pl_s743 := ck_ok_s ⟨pl_nmu, ck_E1 (ck_S1 pl_s224_s ck_S0) (ck_E1 (ck_S1 pl_s697_s ck_S0) (ck_E1 (ck_S1 pl_s214_s ck_S0) ck_E0))⟩ ck_X0 ck_l0 pl_s743_e
set_option maxRecDepth 100000 in
/-- GlacierMail.writers -/
def pl_s744 : ck_Sum := ((8, 1, 6), 249, [.inr (.inr (.inl 1)), .inl (0, 5, []), .inl (0, 299, []), .inl (0, 99, [])], ([], [(3, 8, 246)], []), ([(200, 6, 6), (204, 0, 9), (205, 0, 14849), (206, 2, 8)], []), [(.inl 3, 249, ([], [], [])), (.inr (some (.inl ((-2147483648), 2147483647, []))), 249, ([], [], []))])
set_option maxRecDepth 100000 in
theorem pl_s744_e : ck_ok p2_OL none [] [(132, [pl_s159]), (187, [pl_s742]), (9, [pl_s189]), (188, [pl_s743])] 186 [(17, [some (.inr (.inr (.inl 1))), some (.inl (0, 5, [])), some (.inl (0, 299, [])), some (.inl (0, 99, [])), some (.inl ((-2147483648), 2147483647, [])), some (.inl (0, 9, []))], ([], [(3, 8, 246)], []), 100, .inl 5, true)] 182 pl_s744 = true := by decide +kernel
theorem pl_s744_s {X : Int → Int} {LX : Nat} : ck_Ok p2_OL X LX 186 pl_s744 := ck_ok_s ⟨pl_nmu, ck_E1 (ck_S1 pl_s159_s ck_S0) (ck_E1 (ck_S1 pl_s742_s ck_S0) (ck_E1 (ck_S1 pl_s189_s ck_S0) (ck_E1 (ck_S1 pl_s743_s ck_S0) ck_E0)))⟩ ck_X0 ck_l0 pl_s744_e
set_option maxRecDepth 100000 in
/-- GlacierMail.wrote -/
def pl_s745 : ck_Sum := ((8, 1, 6), 249, [.inr (.inr (.inl 1)), .inl ((-2147483648), (-1), []), .inl ((-2147483648), 2147483647, []), .inl ((-2147483648), 2147483647, []), .inl ((-2147483648), 2147483647, [])], ([], [], []), ([], []), [(.inl 3, 249, ([], [], []))])
set_option maxRecDepth 100000 in
theorem pl_s745_e : ck_ok p2_OL none [] [(139, [pl_s191])] 190 [] 76 pl_s745 = true := by decide +kernel
theorem pl_s745_s {X : Int → Int} {LX : Nat} : ck_Ok p2_OL X LX 190 pl_s745 := ck_ok_s ⟨pl_nmu, ck_E1 (ck_S1 pl_s191_s ck_S0) ck_E0⟩ ck_X0 ck_l0 pl_s745_e
set_option maxRecDepth 100000 in
/-- GlacierMail.wrote -/
def pl_s746 : ck_Sum := ((8, 1, 6), 249, [.inr (.inr (.inl 1)), .inl (8, 2147483647, []), .inl ((-2147483648), 2147483647, []), .inl ((-2147483648), 2147483647, []), .inl ((-2147483648), 2147483647, [])], ([], [], []), ([], []), [(.inl 3, 249, ([], [], []))])
set_option maxRecDepth 100000 in
theorem pl_s746_e : ck_ok p2_OL none [] [(139, [pl_s194])] 190 [] 76 pl_s746 = true := by decide +kernel
theorem pl_s746_s {X : Int → Int} {LX : Nat} : ck_Ok p2_OL X LX 190 pl_s746 := ck_ok_s ⟨pl_nmu, ck_E1 (ck_S1 pl_s194_s ck_S0) ck_E0⟩ ck_X0 ck_l0 pl_s746_e
set_option maxRecDepth 100000 in
/-- GlacierMail.wrote -/
def pl_s747 : ck_Sum := ((8, 2, 12), 249, [.inr (.inr (.inl 1)), .inl (0, 7, []), .inl ((-2147483648), (-1), []), .inl ((-2147483648), 2147483647, []), .inl ((-2147483648), 2147483647, [])], ([], [], []), ([], []), [(.inl 3, 249, ([], [], []))])
set_option maxRecDepth 100000 in
theorem pl_s747_e : ck_ok p2_OL none [] [(139, [pl_s197]), (132, [pl_s153])] 190 [] 82 pl_s747 = true := by decide +kernel
theorem pl_s747_s {X : Int → Int} {LX : Nat} : ck_Ok p2_OL X LX 190 pl_s747 := ck_ok_s ⟨pl_nmu, ck_E1 (ck_S1 pl_s197_s ck_S0) (ck_E1 (ck_S1 pl_s153_s ck_S0) ck_E0)⟩ ck_X0 ck_l0 pl_s747_e
set_option maxRecDepth 100000 in
/-- GlacierMail.wrote -/
def pl_s748 : ck_Sum := ((8, 2, 12), 249, [.inr (.inr (.inl 1)), .inl (0, 7, []), .inl (6, 2147483647, []), .inl ((-2147483648), 2147483647, []), .inl ((-2147483648), 2147483647, [])], ([], [], []), ([], []), [(.inl 3, 249, ([], [], []))])
set_option maxRecDepth 100000 in
theorem pl_s748_e : ck_ok p2_OL none [] [(139, [pl_s197]), (132, [pl_s156])] 190 [] 82 pl_s748 = true := by decide +kernel
theorem pl_s748_s {X : Int → Int} {LX : Nat} : ck_Ok p2_OL X LX 190 pl_s748 := ck_ok_s ⟨pl_nmu, ck_E1 (ck_S1 pl_s197_s ck_S0) (ck_E1 (ck_S1 pl_s156_s ck_S0) ck_E0)⟩ ck_X0 ck_l0 pl_s748_e
set_option maxRecDepth 100000 in
/-- GlacierMail.wrote -/
def pl_s749 : ck_Sum := ((8, 3, 18), 249, [.inr (.inr (.inl 1)), .inl (0, 7, []), .inl (0, 5, []), .inl ((-2147483648), (-1), []), .inl ((-2147483648), 2147483647, [])], ([], [], []), ([], []), [(.inl 3, 249, ([], [], [])), (.inl 0, 249, ([], [], []))])
set_option maxRecDepth 100000 in
theorem pl_s749_e : ck_ok p2_OL none [] [(139, [pl_s197]), (132, [pl_s159]), (187, [pl_s734])] 190 [] 90 pl_s749 = true := by decide +kernel
theorem pl_s749_s {X : Int → Int} {LX : Nat} : ck_Ok p2_OL X LX 190 pl_s749 := ck_ok_s ⟨pl_nmu, ck_E1 (ck_S1 pl_s197_s ck_S0) (ck_E1 (ck_S1 pl_s159_s ck_S0) (ck_E1 (ck_S1 pl_s734_s ck_S0) ck_E0))⟩ ck_X0 ck_l0 pl_s749_e
set_option maxRecDepth 100000 in
/-- GlacierMail.wrote -/
def pl_s750 : ck_Sum := ((8, 3, 18), 249, [.inr (.inr (.inl 1)), .inl (0, 7, []), .inl (0, 5, []), .inl (300, 2147483647, []), .inl ((-2147483648), 2147483647, [])], ([], [], []), ([], []), [(.inl 3, 249, ([], [], [])), (.inl 0, 249, ([], [], []))])
set_option maxRecDepth 100000 in
theorem pl_s750_e : ck_ok p2_OL none [] [(139, [pl_s197]), (132, [pl_s159]), (187, [pl_s736])] 190 [] 90 pl_s750 = true := by decide +kernel
theorem pl_s750_s {X : Int → Int} {LX : Nat} : ck_Ok p2_OL X LX 190 pl_s750 := ck_ok_s ⟨pl_nmu, ck_E1 (ck_S1 pl_s197_s ck_S0) (ck_E1 (ck_S1 pl_s159_s ck_S0) (ck_E1 (ck_S1 pl_s736_s ck_S0) ck_E0))⟩ ck_X0 ck_l0 pl_s750_e
set_option maxRecDepth 100000 in
/-- GlacierMail.wrote -/
def pl_s751 : ck_Sum := ((8, 3, 18), 249, [.inr (.inr (.inl 1)), .inl (0, 7, []), .inl (0, 5, []), .inl (0, 299, []), .inl ((-2147483648), (-1), [])], ([], [], []), ([], []), [(.inl 3, 249, ([], [], [])), (.inl 0, 249, ([], [], []))])
set_option maxRecDepth 100000 in
theorem pl_s751_e : ck_ok p2_OL none [] [(139, [pl_s197]), (132, [pl_s159]), (187, [pl_s738])] 190 [] 90 pl_s751 = true := by decide +kernel
theorem pl_s751_s {X : Int → Int} {LX : Nat} : ck_Ok p2_OL X LX 190 pl_s751 := ck_ok_s ⟨pl_nmu, ck_E1 (ck_S1 pl_s197_s ck_S0) (ck_E1 (ck_S1 pl_s159_s ck_S0) (ck_E1 (ck_S1 pl_s738_s ck_S0) ck_E0))⟩ ck_X0 ck_l0 pl_s751_e
set_option maxRecDepth 100000 in
/-- GlacierMail.wrote -/
def pl_s752 : ck_Sum := ((8, 3, 18), 249, [.inr (.inr (.inl 1)), .inl (0, 7, []), .inl (0, 5, []), .inl (0, 299, []), .inl (100, 2147483647, [])], ([], [], []), ([], []), [(.inl 3, 249, ([], [], [])), (.inl 0, 249, ([], [], []))])
set_option maxRecDepth 100000 in
theorem pl_s752_e : ck_ok p2_OL none [] [(139, [pl_s197]), (132, [pl_s159]), (187, [pl_s740])] 190 [] 90 pl_s752 = true := by decide +kernel
theorem pl_s752_s {X : Int → Int} {LX : Nat} : ck_Ok p2_OL X LX 190 pl_s752 := ck_ok_s ⟨pl_nmu, ck_E1 (ck_S1 pl_s197_s ck_S0) (ck_E1 (ck_S1 pl_s159_s ck_S0) (ck_E1 (ck_S1 pl_s740_s ck_S0) ck_E0))⟩ ck_X0 ck_l0 pl_s752_e
set_option maxRecDepth 100000 in
/-- GlacierMail.wrote -/
def pl_s753 : ck_Sum := ((8, 2, 12), 249, [.inr (.inr (.inl 1)), .inl (0, 7, []), .inl (0, 5, []), .inl (0, 299, []), .inl (0, 99, [])], ([], [(3, 8, 246)], []), ([(200, 6, 6), (204, 0, 9), (205, 0, 14849), (206, 2, 8)], []), [(.inl 3, 249, ([], [], [])), (.inr (some (.inl (ck_one (-1)))), 249, ([], [], [])), (.inr (some (.inl (0, 298, []))), 249, ([], [], [(206, 4, 4, ck_one (-1))]))])
set_option maxRecDepth 100000 in
theorem pl_s753_e : ck_ok p2_OL none [] [(139, [pl_s197]), (132, [pl_s159]), (187, [pl_s742]), (188, [pl_s743])] 190 [] 104 pl_s753 = true := by decide +kernel
theorem pl_s753_s {X : Int → Int} {LX : Nat} : ck_Ok p2_OL X LX 190 pl_s753 := ck_ok_s ⟨pl_nmu, ck_E1 (ck_S1 pl_s197_s ck_S0) (ck_E1 (ck_S1 pl_s159_s ck_S0) (ck_E1 (ck_S1 pl_s742_s ck_S0) (ck_E1 (ck_S1 pl_s743_s ck_S0) ck_E0)))⟩ ck_X0 ck_l0 pl_s753_e
set_option maxRecDepth 100000 in
/-- GlacierMail$Rows.size -/
def pl_s754 : ck_Sum := ((0, 0, 0), 249, [.inr (.inr (.inl 12))], ([], [], []), ([], []), [(.inr (some (.inl (0, 6, []))), 249, ([], [], []))])
set_option maxRecDepth 100000 in
theorem pl_s754_e : ck_ok p2_OL none [] [] 9 [] 76 pl_s754 = true := by decide +kernel
theorem pl_s754_s {X : Int → Int} {LX : Nat} : ck_Ok p2_OL X LX 9 pl_s754 := ck_ok_s ⟨pl_nmu, ck_E0⟩ ck_X0 ck_l0 pl_s754_e
set_option maxRecDepth 100000 in
/-- GlacierMail.need -/
def pl_s755 : ck_Sum := ((6, 1, 6), 249, [.inr (.inr (.inl 1)), .inl ((-2147483648), (-1), []), .inl (0, 6, [])], ([], [], []), ([], []), [(.inl 3, 249, ([], [], []))])
set_option maxRecDepth 100000 in
theorem pl_s755_e : ck_ok p2_OL none [] [] 133 [] 76 pl_s755 = true := by decide +kernel
theorem pl_s755_s {X : Int → Int} {LX : Nat} : ck_Ok p2_OL X LX 133 pl_s755 := ck_ok_s ⟨pl_nmu, ck_E0⟩ ck_X0 ck_l0 pl_s755_e
set_option maxRecDepth 100000 in
/-- GlacierMail.needTable -/
def pl_s756 : ck_Sum := ((7, 1, 6), 249, [.inr (.inr (.inl 1)), .inl ((-2147483648), (-1), [])], ([], [], []), ([], []), [(.inl 3, 249, ([], [], []))])
set_option maxRecDepth 100000 in
theorem pl_s756_e : ck_ok p2_OL none [] [(9, [pl_s754]), (133, [pl_s755])] 193 [] 84 pl_s756 = true := by decide +kernel
theorem pl_s756_s {X : Int → Int} {LX : Nat} : ck_Ok p2_OL X LX 193 pl_s756 := ck_ok_s ⟨pl_nmu, ck_E1 (ck_S1 pl_s754_s ck_S0) (ck_E1 (ck_S1 pl_s755_s ck_S0) ck_E0)⟩ ck_X0 ck_l0 pl_s756_e
set_option maxRecDepth 100000 in
/-- GlacierMail.table -/
def pl_s757 : ck_Sum := ((8, 1, 6), 249, [.inr (.inr (.inl 1)), .inl ((-2147483648), (-1), []), .inl ((-2147483648), 2147483647, [])], ([], [], []), ([], []), [(.inl 3, 249, ([], [], []))])
set_option maxRecDepth 100000 in
theorem pl_s757_e : ck_ok p2_OL none [] [(193, [pl_s756])] 192 [] 76 pl_s757 = true := by decide +kernel
theorem pl_s757_s {X : Int → Int} {LX : Nat} : ck_Ok p2_OL X LX 192 pl_s757 := ck_ok_s ⟨pl_nmu, ck_E1 (ck_S1 pl_s756_s ck_S0) ck_E0⟩ ck_X0 ck_l0 pl_s757_e
set_option maxRecDepth 100000 in
/-- GlacierMail.need -/
def pl_s758 : ck_Sum := ((6, 1, 6), 249, [.inr (.inr (.inl 1)), .inl (6, 2147483647, []), .inl (0, 6, [])], ([], [], []), ([], []), [(.inl 3, 249, ([], [], []))])
set_option maxRecDepth 100000 in
theorem pl_s758_e : ck_ok p2_OL none [] [] 133 [] 82 pl_s758 = true := by decide +kernel
theorem pl_s758_s {X : Int → Int} {LX : Nat} : ck_Ok p2_OL X LX 133 pl_s758 := ck_ok_s ⟨pl_nmu, ck_E0⟩ ck_X0 ck_l0 pl_s758_e
set_option maxRecDepth 100000 in
/-- GlacierMail.needTable -/
def pl_s759 : ck_Sum := ((7, 1, 6), 249, [.inr (.inr (.inl 1)), .inl (6, 2147483647, [])], ([], [], []), ([], []), [(.inl 3, 249, ([], [], []))])
set_option maxRecDepth 100000 in
theorem pl_s759_e : ck_ok p2_OL none [] [(9, [pl_s754]), (133, [pl_s758])] 193 [] 84 pl_s759 = true := by decide +kernel
theorem pl_s759_s {X : Int → Int} {LX : Nat} : ck_Ok p2_OL X LX 193 pl_s759 := ck_ok_s ⟨pl_nmu, ck_E1 (ck_S1 pl_s754_s ck_S0) (ck_E1 (ck_S1 pl_s758_s ck_S0) ck_E0)⟩ ck_X0 ck_l0 pl_s759_e
set_option maxRecDepth 100000 in
/-- GlacierMail.table -/
def pl_s760 : ck_Sum := ((8, 1, 6), 249, [.inr (.inr (.inl 1)), .inl (6, 2147483647, []), .inl ((-2147483648), 2147483647, [])], ([], [], []), ([], []), [(.inl 3, 249, ([], [], []))])
set_option maxRecDepth 100000 in
theorem pl_s760_e : ck_ok p2_OL none [] [(193, [pl_s759])] 192 [] 76 pl_s760 = true := by decide +kernel
theorem pl_s760_s {X : Int → Int} {LX : Nat} : ck_Ok p2_OL X LX 192 pl_s760 := ck_ok_s ⟨pl_nmu, ck_E1 (ck_S1 pl_s759_s ck_S0) ck_E0⟩ ck_X0 ck_l0 pl_s760_e
set_option maxRecDepth 100000 in
/-- GlacierMail.need -/
def pl_s761 : ck_Sum := ((6, 1, 6), 249, [.inr (.inr (.inl 1)), .inl (0, 5, []), .inl (0, 6, [])], ([], [], []), ([], []), [(.inr none, 249, ([], [], [])), (.inl 3, 249, ([], [], []))])
set_option maxRecDepth 100000 in
theorem pl_s761_e : ck_ok p2_OL none [] [] 133 [] 82 pl_s761 = true := by decide +kernel
theorem pl_s761_s {X : Int → Int} {LX : Nat} : ck_Ok p2_OL X LX 133 pl_s761 := ck_ok_s ⟨pl_nmu, ck_E0⟩ ck_X0 ck_l0 pl_s761_e
set_option maxRecDepth 100000 in
/-- GlacierMail.needTable -/
def pl_s762 : ck_Sum := ((7, 1, 6), 249, [.inr (.inr (.inl 1)), .inl (0, 5, [])], ([], [], []), ([], []), [(.inl 3, 249, ([], [], [])), (.inr none, 249, ([], [], []))])
set_option maxRecDepth 100000 in
theorem pl_s762_e : ck_ok p2_OL none [] [(9, [pl_s754]), (133, [pl_s761])] 193 [] 86 pl_s762 = true := by decide +kernel
theorem pl_s762_s {X : Int → Int} {LX : Nat} : ck_Ok p2_OL X LX 193 pl_s762 := ck_ok_s ⟨pl_nmu, ck_E1 (ck_S1 pl_s754_s ck_S0) (ck_E1 (ck_S1 pl_s761_s ck_S0) ck_E0)⟩ ck_X0 ck_l0 pl_s762_e
set_option maxRecDepth 100000 in
/-- GlacierMail.table -/
def pl_s763 : ck_Sum := ((8, 2, 12), 249, [.inr (.inr (.inl 1)), .inl (0, 5, []), .inl ((-2147483648), (-1), [])], ([], [], []), ([], []), [(.inl 3, 249, ([], [], []))])
set_option maxRecDepth 100000 in
theorem pl_s763_e : ck_ok p2_OL none [] [(193, [pl_s762]), (132, [pl_s153])] 192 [] 82 pl_s763 = true := by decide +kernel
theorem pl_s763_s {X : Int → Int} {LX : Nat} : ck_Ok p2_OL X LX 192 pl_s763 := ck_ok_s ⟨pl_nmu, ck_E1 (ck_S1 pl_s762_s ck_S0) (ck_E1 (ck_S1 pl_s153_s ck_S0) ck_E0)⟩ ck_X0 ck_l0 pl_s763_e
set_option maxRecDepth 100000 in
/-- GlacierMail.table -/
def pl_s764 : ck_Sum := ((8, 2, 12), 249, [.inr (.inr (.inl 1)), .inl (0, 5, []), .inl (6, 2147483647, [])], ([], [], []), ([], []), [(.inl 3, 249, ([], [], []))])
set_option maxRecDepth 100000 in
theorem pl_s764_e : ck_ok p2_OL none [] [(193, [pl_s762]), (132, [pl_s156])] 192 [] 82 pl_s764 = true := by decide +kernel
theorem pl_s764_s {X : Int → Int} {LX : Nat} : ck_Ok p2_OL X LX 192 pl_s764 := ck_ok_s ⟨pl_nmu, ck_E1 (ck_S1 pl_s762_s ck_S0) (ck_E1 (ck_S1 pl_s156_s ck_S0) ck_E0)⟩ ck_X0 ck_l0 pl_s764_e
set_option maxRecDepth 100000 in
/-- GlacierMail$Rows.get -/
def pl_s765 : ck_Sum := ((0, 0, 0), 249, [.inr (.inr (.inl 12)), .inl ((-2147483648), 2147483647, []), .inl ((-2147483648), 2147483647, [])], ([], [], []), ([], []), [(.inr (some (.inl (ck_one (-1)))), 249, ([], [], [])), (.inr (some (.inl (0, 20, []))), 249, ([], [], [(12, 3, 3, (1, 6, []))]))])
set_option maxRecDepth 100000 in
theorem pl_s765_e : ck_ok p2_OL none [] [] 10 [] 114 pl_s765 = true := by decide +kernel
theorem pl_s765_s {X : Int → Int} {LX : Nat} : ck_Ok p2_OL X LX 10 pl_s765 := ck_ok_s ⟨pl_nmu, ck_E0⟩ ck_X0 ck_l0 pl_s765_e
set_option maxRecDepth 100000 in
/-- GlacierMail.table -/
def pl_s766 : ck_Sum := ((8, 2, 12), 249, [.inr (.inr (.inl 1)), .inl (0, 5, []), .inl (0, 5, [])], ([], [], []), ([], []), [(.inl 3, 249, ([], [], [])), (.inr (some (.inl (ck_one (-1)))), 249, ([], [], [])), (.inr (some (.inl (0, 20, []))), 249, ([], [], [(12, 3, 3, (1, 6, []))]))])
set_option maxRecDepth 100000 in
theorem pl_s766_e : ck_ok p2_OL none [] [(193, [pl_s762]), (132, [pl_s159]), (10, [pl_s765])] 192 [] 96 pl_s766 = true := by decide +kernel
theorem pl_s766_s {X : Int → Int} {LX : Nat} : ck_Ok p2_OL X LX 192 pl_s766 := ck_ok_s ⟨pl_nmu, ck_E1 (ck_S1 pl_s762_s ck_S0) (ck_E1 (ck_S1 pl_s159_s ck_S0) (ck_E1 (ck_S1 pl_s765_s ck_S0) ck_E0))⟩ ck_X0 ck_l0 pl_s766_e
set_option maxRecDepth 100000 in
/-- GlacierMail.apart -/
def pl_s767 : ck_Sum := ((8, 1, 6), 249, [.inr (.inr (.inl 1)), .inl ((-2147483648), (-1), []), .inl ((-2147483648), 2147483647, []), .inl ((-2147483648), 2147483647, [])], ([], [], []), ([], []), [(.inl 3, 249, ([], [], []))])
set_option maxRecDepth 100000 in
theorem pl_s767_e : ck_ok p2_OL none [] [(193, [pl_s756])] 195 [] 76 pl_s767 = true := by decide +kernel
theorem pl_s767_s {X : Int → Int} {LX : Nat} : ck_Ok p2_OL X LX 195 pl_s767 := ck_ok_s ⟨pl_nmu, ck_E1 (ck_S1 pl_s756_s ck_S0) ck_E0⟩ ck_X0 ck_l0 pl_s767_e
