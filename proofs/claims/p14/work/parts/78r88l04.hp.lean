/-! THE LAW'S OWN METHODS (laid by wip/am/p2n.py). -/
set_option maxRecDepth 100000 in
/-- GlacierMailLaw.throwsFor -/
def pl_h124 : ck_Sum := ((9, 1, 6), 249, [.inr (.inr (.inl 1)), .inl ((-2147483648), (-1), []), .inl ((-2147483648), 2147483647, []), .inl ((-2147483648), 2147483647, []), .inl ((-2147483648), 2147483647, []), .inr (.inr (.inl 245))], ([], [], []), ([], []), [(.inr (some (.inl (ck_one 1))), 249, ([], [], []))])
set_option maxRecDepth 100000 in
theorem pl_h124_e : ck_ok p2_OL none [] [(167, [pl_s683])] 166 [] 92 pl_h124 = true := by decide +kernel
theorem pl_h124_s {X : Int → Int} {LX : Nat} : ck_Ok p2_OL X LX 166 pl_h124 := ck_ok_s ⟨pl_nmu, ck_E1 (ck_S1 pl_s683_s ck_S0) ck_E0⟩ ck_X0 ck_l0 pl_h124_e
set_option maxRecDepth 100000 in
/-- GlacierMailLaw.throwsFor -/
def pl_h125 : ck_Sum := ((9, 1, 6), 249, [.inr (.inr (.inl 1)), .inl (6, 2147483647, []), .inl ((-2147483648), 2147483647, []), .inl ((-2147483648), 2147483647, []), .inl ((-2147483648), 2147483647, []), .inr (.inr (.inl 245))], ([], [], []), ([], []), [(.inr (some (.inl (ck_one 1))), 249, ([], [], []))])
set_option maxRecDepth 100000 in
theorem pl_h125_e : ck_ok p2_OL none [] [(167, [pl_s684])] 166 [] 92 pl_h125 = true := by decide +kernel
theorem pl_h125_s {X : Int → Int} {LX : Nat} : ck_Ok p2_OL X LX 166 pl_h125 := ck_ok_s ⟨pl_nmu, ck_E1 (ck_S1 pl_s684_s ck_S0) ck_E0⟩ ck_X0 ck_l0 pl_h125_e
set_option maxRecDepth 100000 in
/-- GlacierMailLaw.throwsFor -/
def pl_h126 : ck_Sum := ((9, 2, 12), 249, [.inr (.inr (.inl 1)), .inl (0, 5, []), .inl ((-2147483648), (-1), []), .inl ((-2147483648), 2147483647, []), .inl ((-2147483648), 2147483647, []), .inr (.inr (.inl 245))], ([], [], []), ([], []), [(.inr (some (.inl (ck_one 1))), 249, ([], [], [])), (.inr (some (.inl (ck_one 2))), 249, ([], [], []))])
set_option maxRecDepth 100000 in
theorem pl_h126_e : ck_ok p2_OL none [] [(167, [pl_s685])] 166 [] 92 pl_h126 = true := by decide +kernel
theorem pl_h126_s {X : Int → Int} {LX : Nat} : ck_Ok p2_OL X LX 166 pl_h126 := ck_ok_s ⟨pl_nmu, ck_E1 (ck_S1 pl_s685_s ck_S0) ck_E0⟩ ck_X0 ck_l0 pl_h126_e
set_option maxRecDepth 100000 in
/-- GlacierMailLaw.throwsFor -/
def pl_h127 : ck_Sum := ((9, 2, 12), 249, [.inr (.inr (.inl 1)), .inl (0, 5, []), .inl (300, 2147483647, []), .inl ((-2147483648), 2147483647, []), .inl ((-2147483648), 2147483647, []), .inr (.inr (.inl 245))], ([], [], []), ([], []), [(.inr (some (.inl (ck_one 1))), 249, ([], [], [])), (.inr (some (.inl (ck_one 2))), 249, ([], [], []))])
set_option maxRecDepth 100000 in
theorem pl_h127_e : ck_ok p2_OL none [] [(167, [pl_s686])] 166 [] 92 pl_h127 = true := by decide +kernel
theorem pl_h127_s {X : Int → Int} {LX : Nat} : ck_Ok p2_OL X LX 166 pl_h127 := ck_ok_s ⟨pl_nmu, ck_E1 (ck_S1 pl_s686_s ck_S0) ck_E0⟩ ck_X0 ck_l0 pl_h127_e
set_option maxRecDepth 100000 in
/-- GlacierMailLaw.throwsFor -/
def pl_h128 : ck_Sum := ((9, 2, 12), 249, [.inr (.inr (.inl 1)), .inl (0, 5, []), .inl (0, 299, []), .inl ((-2147483648), (-1), []), .inl ((-2147483648), 2147483647, []), .inr (.inr (.inl 245))], ([], [], []), ([], []), [(.inr (some (.inl (ck_one 1))), 249, ([], [], [])), (.inr (some (.inl (ck_one 2))), 249, ([], [], []))])
set_option maxRecDepth 100000 in
theorem pl_h128_e : ck_ok p2_OL none [] [(167, [pl_s687])] 166 [] 92 pl_h128 = true := by decide +kernel
theorem pl_h128_s {X : Int → Int} {LX : Nat} : ck_Ok p2_OL X LX 166 pl_h128 := ck_ok_s ⟨pl_nmu, ck_E1 (ck_S1 pl_s687_s ck_S0) ck_E0⟩ ck_X0 ck_l0 pl_h128_e
set_option maxRecDepth 100000 in
/-- GlacierMailLaw.throwsFor -/
def pl_h129 : ck_Sum := ((9, 2, 12), 249, [.inr (.inr (.inl 1)), .inl (0, 5, []), .inl (0, 299, []), .inl (300, 2147483647, []), .inl ((-2147483648), 2147483647, []), .inr (.inr (.inl 245))], ([], [], []), ([], []), [(.inr (some (.inl (ck_one 1))), 249, ([], [], [])), (.inr (some (.inl (ck_one 2))), 249, ([], [], []))])
set_option maxRecDepth 100000 in
theorem pl_h129_e : ck_ok p2_OL none [] [(167, [pl_s688])] 166 [] 92 pl_h129 = true := by decide +kernel
theorem pl_h129_s {X : Int → Int} {LX : Nat} : ck_Ok p2_OL X LX 166 pl_h129 := ck_ok_s ⟨pl_nmu, ck_E1 (ck_S1 pl_s688_s ck_S0) ck_E0⟩ ck_X0 ck_l0 pl_h129_e
set_option maxRecDepth 100000 in
/-- GlacierMailLaw.throwsFor -/
def pl_h130 : ck_Sum := ((9, 2, 12), 249, [.inr (.inr (.inl 1)), .inl (0, 5, []), .inl (0, 299, []), .inl (0, 299, []), .inl ((-2147483648), (-1), []), .inr (.inr (.inl 245))], ([], [], [(3, 6, 6, (0, 299, [(10, 0)]))]), ([], []), [(.inr (some (.inl (ck_one 1))), 249, ([], [], [])), (.inr (some (.inl (ck_one 2))), 249, ([], [], [(3, 6, 6, (1, 299, [(10, 0)]))])), (.inr (some (.inl (ck_one 3))), 249, ([], [], []))])
set_option maxRecDepth 100000 in
theorem pl_h130_e : ck_ok p2_OL none [] [(167, [pl_s689])] 166 [] 92 pl_h130 = true := by decide +kernel
theorem pl_h130_s {X : Int → Int} {LX : Nat} : ck_Ok p2_OL X LX 166 pl_h130 := ck_ok_s ⟨pl_nmu, ck_E1 (ck_S1 pl_s689_s ck_S0) ck_E0⟩ ck_X0 ck_l0 pl_h130_e
set_option maxRecDepth 100000 in
/-- GlacierMailLaw.throwsFor -/
def pl_h131 : ck_Sum := ((9, 2, 12), 249, [.inr (.inr (.inl 1)), .inl (0, 5, []), .inl (0, 299, []), .inl (0, 299, []), .inl (10, 2147483647, []), .inr (.inr (.inl 245))], ([], [], [(3, 6, 6, (0, 299, [(10, 0)]))]), ([], []), [(.inr (some (.inl (ck_one 1))), 249, ([], [], [])), (.inr (some (.inl (ck_one 2))), 249, ([], [], [(3, 6, 6, (1, 299, [(10, 0)]))])), (.inr (some (.inl (ck_one 3))), 249, ([], [], []))])
set_option maxRecDepth 100000 in
theorem pl_h131_e : ck_ok p2_OL none [] [(167, [pl_s690])] 166 [] 92 pl_h131 = true := by decide +kernel
theorem pl_h131_s {X : Int → Int} {LX : Nat} : ck_Ok p2_OL X LX 166 pl_h131 := ck_ok_s ⟨pl_nmu, ck_E1 (ck_S1 pl_s690_s ck_S0) ck_E0⟩ ck_X0 ck_l0 pl_h131_e
set_option maxRecDepth 100000 in
/-- GlacierMailLaw.throwsFor -/
def pl_h132 : ck_Sum := ((9, 2, 12), 249, [.inr (.inr (.inl 1)), .inl (0, 5, []), .inl (0, 299, []), .inl (0, 299, []), .inl (0, 9, []), .inr (.inr (.inl 245))], ([], [(3, 8, 246)], [(3, 6, 6, (0, 299, [(10, 0)]))]), ([(200, 6, 6), (204, 0, 9), (205, 0, 14849), (206, 2, 8), (245, 0, 0)], []), [(.inr (some (.inl (ck_one 1))), 249, ([], [], [])), (.inr (some (.inl (ck_one 0))), 249, ([], [], [])), (.inr (some (.inl (ck_one 2))), 249, ([], [], [(3, 6, 6, (1, 299, [(10, 0)]))])), (.inr (some (.inl (ck_one 3))), 249, ([], [], []))])
set_option maxRecDepth 100000 in
theorem pl_h132_e : ck_ok p2_OL none [] [(167, [pl_s692])] 166 [] 96 pl_h132 = true := by decide +kernel
theorem pl_h132_s {X : Int → Int} {LX : Nat} : ck_Ok p2_OL X LX 166 pl_h132 := ck_ok_s ⟨pl_nmu, ck_E1 (ck_S1 pl_s692_s ck_S0) ck_E0⟩ ck_X0 ck_l0 pl_h132_e
set_option maxRecDepth 100000 in
/-- GlacierMailLaw.latest -/
def pl_h133 : ck_Sum := ((9, 1, 6), 249, [.inr (.inr (.inl 1)), .inl ((-2147483648), (-1), []), .inl ((-2147483648), 2147483647, []), .inr (.inr (.inl 245))], ([], [], []), ([], []), [(.inr (some (.inl (ck_one 1))), 249, ([], [], []))])
set_option maxRecDepth 100000 in
theorem pl_h133_e : ck_ok p2_OL none [] [(169, [pl_s693])] 168 [] 88 pl_h133 = true := by decide +kernel
theorem pl_h133_s {X : Int → Int} {LX : Nat} : ck_Ok p2_OL X LX 168 pl_h133 := ck_ok_s ⟨pl_nmu, ck_E1 (ck_S1 pl_s693_s ck_S0) ck_E0⟩ ck_X0 ck_l0 pl_h133_e
set_option maxRecDepth 100000 in
/-- GlacierMailLaw.latest -/
def pl_h134 : ck_Sum := ((9, 1, 6), 249, [.inr (.inr (.inl 1)), .inl (8, 2147483647, []), .inl ((-2147483648), 2147483647, []), .inr (.inr (.inl 245))], ([], [], []), ([], []), [(.inr (some (.inl (ck_one 1))), 249, ([], [], []))])
set_option maxRecDepth 100000 in
theorem pl_h134_e : ck_ok p2_OL none [] [(169, [pl_s694])] 168 [] 88 pl_h134 = true := by decide +kernel
theorem pl_h134_s {X : Int → Int} {LX : Nat} : ck_Ok p2_OL X LX 168 pl_h134 := ck_ok_s ⟨pl_nmu, ck_E1 (ck_S1 pl_s694_s ck_S0) ck_E0⟩ ck_X0 ck_l0 pl_h134_e
set_option maxRecDepth 100000 in
/-- GlacierMailLaw.latest -/
def pl_h135 : ck_Sum := ((9, 2, 12), 249, [.inr (.inr (.inl 1)), .inl (0, 7, []), .inl ((-2147483648), (-1), []), .inr (.inr (.inl 245))], ([], [], []), ([], []), [(.inr (some (.inl (ck_one 1))), 249, ([], [], [])), (.inr (some (.inl (ck_one 2))), 249, ([], [], []))])
set_option maxRecDepth 100000 in
theorem pl_h135_e : ck_ok p2_OL none [] [(169, [pl_s695])] 168 [] 88 pl_h135 = true := by decide +kernel
theorem pl_h135_s {X : Int → Int} {LX : Nat} : ck_Ok p2_OL X LX 168 pl_h135 := ck_ok_s ⟨pl_nmu, ck_E1 (ck_S1 pl_s695_s ck_S0) ck_E0⟩ ck_X0 ck_l0 pl_h135_e
set_option maxRecDepth 100000 in
/-- GlacierMailLaw.latest -/
def pl_h136 : ck_Sum := ((9, 2, 12), 249, [.inr (.inr (.inl 1)), .inl (0, 7, []), .inl (300, 2147483647, []), .inr (.inr (.inl 245))], ([], [], []), ([], []), [(.inr (some (.inl (ck_one 1))), 249, ([], [], [])), (.inr (some (.inl (ck_one 2))), 249, ([], [], []))])
set_option maxRecDepth 100000 in
theorem pl_h136_e : ck_ok p2_OL none [] [(169, [pl_s696])] 168 [] 88 pl_h136 = true := by decide +kernel
theorem pl_h136_s {X : Int → Int} {LX : Nat} : ck_Ok p2_OL X LX 168 pl_h136 := ck_ok_s ⟨pl_nmu, ck_E1 (ck_S1 pl_s696_s ck_S0) ck_E0⟩ ck_X0 ck_l0 pl_h136_e
set_option maxRecDepth 100000 in
/-- GlacierMailLaw.latest -/
def pl_h137 : ck_Sum := ((9, 1, 6), 249, [.inr (.inr (.inl 1)), .inl (0, 7, []), .inl (0, 299, []), .inr (.inr (.inl 245))], ([], [(3, 8, 246)], [(3, 6, 6, (0, 299, [(10, 0)]))]), ([(200, 6, 6), (204, 0, 9), (205, 0, 14849), (206, 2, 8), (245, 0, 0)], []), [(.inr (some (.inl (ck_one 1))), 249, ([], [], [])), (.inr (some (.inl (ck_one 0))), 249, ([], [], [(245, 0, 0, ((-1), 299, []))]))])
set_option maxRecDepth 100000 in
theorem pl_h137_e : ck_ok p2_OL none [] [(169, [pl_s698])] 168 [] 92 pl_h137 = true := by decide +kernel
theorem pl_h137_s {X : Int → Int} {LX : Nat} : ck_Ok p2_OL X LX 168 pl_h137 := ck_ok_s ⟨pl_nmu, ck_E1 (ck_S1 pl_s698_s ck_S0) ck_E0⟩ ck_X0 ck_l0 pl_h137_e
set_option maxRecDepth 100000 in
/-- GlacierMailLaw.hut -/
def pl_h138 : ck_Sum := ((9, 1, 6), 249, [.inr (.inr (.inl 1)), .inl ((-2147483648), (-1), []), .inl ((-2147483648), 2147483647, []), .inr (.inr (.inl 245))], ([], [], []), ([], []), [(.inr (some (.inl (ck_one 1))), 249, ([], [], []))])
set_option maxRecDepth 100000 in
theorem pl_h138_e : ck_ok p2_OL none [] [(172, [pl_s699])] 171 [] 88 pl_h138 = true := by decide +kernel
theorem pl_h138_s {X : Int → Int} {LX : Nat} : ck_Ok p2_OL X LX 171 pl_h138 := ck_ok_s ⟨pl_nmu, ck_E1 (ck_S1 pl_s699_s ck_S0) ck_E0⟩ ck_X0 ck_l0 pl_h138_e
set_option maxRecDepth 100000 in
/-- GlacierMailLaw.hut -/
def pl_h139 : ck_Sum := ((9, 1, 6), 249, [.inr (.inr (.inl 1)), .inl (6, 2147483647, []), .inl ((-2147483648), 2147483647, []), .inr (.inr (.inl 245))], ([], [], []), ([], []), [(.inr (some (.inl (ck_one 1))), 249, ([], [], []))])
set_option maxRecDepth 100000 in
theorem pl_h139_e : ck_ok p2_OL none [] [(172, [pl_s700])] 171 [] 88 pl_h139 = true := by decide +kernel
theorem pl_h139_s {X : Int → Int} {LX : Nat} : ck_Ok p2_OL X LX 171 pl_h139 := ck_ok_s ⟨pl_nmu, ck_E1 (ck_S1 pl_s700_s ck_S0) ck_E0⟩ ck_X0 ck_l0 pl_h139_e
set_option maxRecDepth 100000 in
/-- GlacierMailLaw.hut -/
def pl_h140 : ck_Sum := ((9, 2, 12), 249, [.inr (.inr (.inl 1)), .inl (0, 5, []), .inl ((-2147483648), (-1), []), .inr (.inr (.inl 245))], ([], [], []), ([], []), [(.inr (some (.inl (ck_one 1))), 249, ([], [], [])), (.inr (some (.inl (ck_one 2))), 249, ([], [], []))])
set_option maxRecDepth 100000 in
theorem pl_h140_e : ck_ok p2_OL none [] [(172, [pl_s701])] 171 [] 88 pl_h140 = true := by decide +kernel
theorem pl_h140_s {X : Int → Int} {LX : Nat} : ck_Ok p2_OL X LX 171 pl_h140 := ck_ok_s ⟨pl_nmu, ck_E1 (ck_S1 pl_s701_s ck_S0) ck_E0⟩ ck_X0 ck_l0 pl_h140_e
set_option maxRecDepth 100000 in
/-- GlacierMailLaw.hut -/
def pl_h141 : ck_Sum := ((9, 2, 12), 249, [.inr (.inr (.inl 1)), .inl (0, 5, []), .inl (300, 2147483647, []), .inr (.inr (.inl 245))], ([], [], []), ([], []), [(.inr (some (.inl (ck_one 1))), 249, ([], [], [])), (.inr (some (.inl (ck_one 2))), 249, ([], [], []))])
set_option maxRecDepth 100000 in
theorem pl_h141_e : ck_ok p2_OL none [] [(172, [pl_s702])] 171 [] 88 pl_h141 = true := by decide +kernel
theorem pl_h141_s {X : Int → Int} {LX : Nat} : ck_Ok p2_OL X LX 171 pl_h141 := ck_ok_s ⟨pl_nmu, ck_E1 (ck_S1 pl_s702_s ck_S0) ck_E0⟩ ck_X0 ck_l0 pl_h141_e
set_option maxRecDepth 100000 in
/-- GlacierMailLaw.hut -/
def pl_h142 : ck_Sum := ((9, 2, 12), 249, [.inr (.inr (.inl 1)), .inl (0, 5, []), .inl (0, 299, []), .inr (.inr (.inl 245))], ([], [(3, 8, 246)], [(3, 6, 6, (0, 299, [(10, 0)]))]), ([(200, 6, 6), (204, 0, 9), (205, 0, 14849), (206, 2, 8), (245, 0, 0)], []), [(.inr (some (.inl (ck_one 1))), 249, ([], [], [])), (.inr (some (.inl (ck_one 0))), 249, ([], [], [(245, 0, 0, ((-1), 98, []))])), (.inr (some (.inl (ck_one 2))), 249, ([], [], []))])
set_option maxRecDepth 100000 in
theorem pl_h142_e : ck_ok p2_OL none [] [(172, [pl_s703])] 171 [] 92 pl_h142 = true := by decide +kernel
theorem pl_h142_s {X : Int → Int} {LX : Nat} : ck_Ok p2_OL X LX 171 pl_h142 := ck_ok_s ⟨pl_nmu, ck_E1 (ck_S1 pl_s703_s ck_S0) ck_E0⟩ ck_X0 ck_l0 pl_h142_e
set_option maxRecDepth 100000 in
/-- GlacierMailLaw.without -/
def pl_h143 : ck_Sum := ((9, 1, 6), 249, [.inr (.inr (.inl 1)), .inl ((-2147483648), (-1), []), .inl ((-2147483648), 2147483647, []), .inr (.inr (.inl 245))], ([], [], []), ([], []), [(.inr (some (.inl (ck_one 1))), 249, ([], [], []))])
set_option maxRecDepth 100000 in
theorem pl_h143_e : ck_ok p2_OL none [] [(174, [pl_s704])] 173 [] 88 pl_h143 = true := by decide +kernel
theorem pl_h143_s {X : Int → Int} {LX : Nat} : ck_Ok p2_OL X LX 173 pl_h143 := ck_ok_s ⟨pl_nmu, ck_E1 (ck_S1 pl_s704_s ck_S0) ck_E0⟩ ck_X0 ck_l0 pl_h143_e
set_option maxRecDepth 100000 in
/-- GlacierMailLaw.without -/
def pl_h144 : ck_Sum := ((9, 1, 6), 249, [.inr (.inr (.inl 1)), .inl (24, 2147483647, []), .inl ((-2147483648), 2147483647, []), .inr (.inr (.inl 245))], ([], [], []), ([], []), [(.inr (some (.inl (ck_one 1))), 249, ([], [], []))])
set_option maxRecDepth 100000 in
theorem pl_h144_e : ck_ok p2_OL none [] [(174, [pl_s705])] 173 [] 88 pl_h144 = true := by decide +kernel
theorem pl_h144_s {X : Int → Int} {LX : Nat} : ck_Ok p2_OL X LX 173 pl_h144 := ck_ok_s ⟨pl_nmu, ck_E1 (ck_S1 pl_s705_s ck_S0) ck_E0⟩ ck_X0 ck_l0 pl_h144_e
set_option maxRecDepth 100000 in
/-- GlacierMailLaw.without -/
def pl_h145 : ck_Sum := ((9, 2, 12), 249, [.inr (.inr (.inl 1)), .inl (0, 23, []), .inl ((-2147483648), (-1), []), .inr (.inr (.inl 245))], ([], [], []), ([], []), [(.inr (some (.inl (ck_one 1))), 249, ([], [], []))])
set_option maxRecDepth 100000 in
theorem pl_h145_e : ck_ok p2_OL none [] [(174, [pl_s706])] 173 [] 88 pl_h145 = true := by decide +kernel
theorem pl_h145_s {X : Int → Int} {LX : Nat} : ck_Ok p2_OL X LX 173 pl_h145 := ck_ok_s ⟨pl_nmu, ck_E1 (ck_S1 pl_s706_s ck_S0) ck_E0⟩ ck_X0 ck_l0 pl_h145_e
set_option maxRecDepth 100000 in
/-- GlacierMailLaw.without -/
def pl_h146 : ck_Sum := ((9, 2, 12), 249, [.inr (.inr (.inl 1)), .inl (0, 23, []), .inl (8, 2147483647, []), .inr (.inr (.inl 245))], ([], [], []), ([], []), [(.inr (some (.inl (ck_one 1))), 249, ([], [], []))])
set_option maxRecDepth 100000 in
theorem pl_h146_e : ck_ok p2_OL none [] [(174, [pl_s707])] 173 [] 88 pl_h146 = true := by decide +kernel
theorem pl_h146_s {X : Int → Int} {LX : Nat} : ck_Ok p2_OL X LX 173 pl_h146 := ck_ok_s ⟨pl_nmu, ck_E1 (ck_S1 pl_s707_s ck_S0) ck_E0⟩ ck_X0 ck_l0 pl_h146_e
set_option maxRecDepth 100000 in
/-- GlacierMailLaw.without -/
def pl_h147 : ck_Sum := ((9, 2, 12), 249, [.inr (.inr (.inl 1)), .inl (0, 23, []), .inl (0, 7, []), .inr (.inr (.inl 245))], ([], [(3, 8, 246)], []), ([(200, 6, 6), (204, 0, 9), (205, 0, 14849), (206, 2, 8), (245, 0, 0)], []), [(.inr (some (.inl (ck_one 1))), 249, ([], [], [])), (.inr (some (.inl (ck_one 0))), 249, ([], [], [(245, 0, 0, ((-2147483648), 299, [])), (206, 4, 4, (0, 7, [])), (206, 2, 2, ((-1), 299, []))]))])
set_option maxRecDepth 100000 in
theorem pl_h147_e : ck_ok p2_OL none [] [(174, [pl_s709])] 173 [] 92 pl_h147 = true := by decide +kernel
theorem pl_h147_s {X : Int → Int} {LX : Nat} : ck_Ok p2_OL X LX 173 pl_h147 := ck_ok_s ⟨pl_nmu, ck_E1 (ck_S1 pl_s709_s ck_S0) ck_E0⟩ ck_X0 ck_l0 pl_h147_e
set_option maxRecDepth 100000 in
/-- GlacierMailLaw.moved -/
def pl_h148 : ck_Sum := ((9, 1, 6), 249, [.inr (.inr (.inl 1)), .inl ((-2147483648), (-1), []), .inr (.inr (.inl 245))], ([], [], []), ([], []), [(.inr (some (.inl (ck_one 1))), 249, ([], [], []))])
set_option maxRecDepth 100000 in
theorem pl_h148_e : ck_ok p2_OL none [] [(177, [pl_s710])] 176 [] 86 pl_h148 = true := by decide +kernel
theorem pl_h148_s {X : Int → Int} {LX : Nat} : ck_Ok p2_OL X LX 176 pl_h148 := ck_ok_s ⟨pl_nmu, ck_E1 (ck_S1 pl_s710_s ck_S0) ck_E0⟩ ck_X0 ck_l0 pl_h148_e
set_option maxRecDepth 100000 in
/-- GlacierMailLaw.moved -/
def pl_h149 : ck_Sum := ((9, 1, 6), 249, [.inr (.inr (.inl 1)), .inl (24, 2147483647, []), .inr (.inr (.inl 245))], ([], [], []), ([], []), [(.inr (some (.inl (ck_one 1))), 249, ([], [], []))])
set_option maxRecDepth 100000 in
theorem pl_h149_e : ck_ok p2_OL none [] [(177, [pl_s711])] 176 [] 86 pl_h149 = true := by decide +kernel
theorem pl_h149_s {X : Int → Int} {LX : Nat} : ck_Ok p2_OL X LX 176 pl_h149 := ck_ok_s ⟨pl_nmu, ck_E1 (ck_S1 pl_s711_s ck_S0) ck_E0⟩ ck_X0 ck_l0 pl_h149_e
set_option maxRecDepth 100000 in
/-- GlacierMailLaw.moved -/
def pl_h150 : ck_Sum := ((9, 1, 6), 249, [.inr (.inr (.inl 1)), .inl (0, 23, []), .inr (.inr (.inl 245))], ([], [(3, 8, 246)], []), ([(200, 6, 6), (204, 0, 9), (205, 0, 14849), (206, 2, 8), (245, 0, 0)], []), [(.inr (some (.inl (ck_one 1))), 249, ([], [], [])), (.inr (some (.inl (ck_one 0))), 249, ([], [], [(206, 4, 4, ck_one (-1)), (206, 2, 2, ((-1), 299, []))]))])
set_option maxRecDepth 100000 in
theorem pl_h150_e : ck_ok p2_OL none [] [(177, [pl_s712])] 176 [] 90 pl_h150 = true := by decide +kernel
theorem pl_h150_s {X : Int → Int} {LX : Nat} : ck_Ok p2_OL X LX 176 pl_h150 := ck_ok_s ⟨pl_nmu, ck_E1 (ck_S1 pl_s712_s ck_S0) ck_E0⟩ ck_X0 ck_l0 pl_h150_e
set_option maxRecDepth 100000 in
/-- GlacierMailLaw.passes -/
def pl_h151 : ck_Sum := ((9, 1, 6), 249, [.inr (.inr (.inl 1)), .inl ((-2147483648), (-1), []), .inr (.inr (.inl 245))], ([], [], []), ([], []), [(.inr (some (.inl (ck_one 1))), 249, ([], [], []))])
set_option maxRecDepth 100000 in
theorem pl_h151_e : ck_ok p2_OL none [] [(179, [pl_s716])] 178 [] 86 pl_h151 = true := by decide +kernel
theorem pl_h151_s {X : Int → Int} {LX : Nat} : ck_Ok p2_OL X LX 178 pl_h151 := ck_ok_s ⟨pl_nmu, ck_E1 (ck_S1 pl_s716_s ck_S0) ck_E0⟩ ck_X0 ck_l0 pl_h151_e
set_option maxRecDepth 100000 in
/-- GlacierMailLaw.passes -/
def pl_h152 : ck_Sum := ((9, 1, 6), 249, [.inr (.inr (.inl 1)), .inl (24, 2147483647, []), .inr (.inr (.inl 245))], ([], [], []), ([], []), [(.inr (some (.inl (ck_one 1))), 249, ([], [], []))])
set_option maxRecDepth 100000 in
theorem pl_h152_e : ck_ok p2_OL none [] [(179, [pl_s717])] 178 [] 86 pl_h152 = true := by decide +kernel
theorem pl_h152_s {X : Int → Int} {LX : Nat} : ck_Ok p2_OL X LX 178 pl_h152 := ck_ok_s ⟨pl_nmu, ck_E1 (ck_S1 pl_s717_s ck_S0) ck_E0⟩ ck_X0 ck_l0 pl_h152_e
set_option maxRecDepth 100000 in
/-- GlacierMailLaw.passes -/
def pl_h153 : ck_Sum := ((9, 1, 6), 249, [.inr (.inr (.inl 1)), .inl (0, 23, []), .inr (.inr (.inl 245))], ([], [(3, 8, 246)], []), ([(200, 6, 6), (204, 0, 9), (205, 0, 14849), (206, 2, 8), (207, 2, 8), (245, 0, 0)], []), [(.inr (some (.inl (ck_one 1))), 249, ([], [], [])), (.inr (some (.inl (ck_one 0))), 249, ([], [], []))])
set_option maxRecDepth 100000 in
theorem pl_h153_e : ck_ok p2_OL none [] [(179, [pl_s731])] 178 [] 90 pl_h153 = true := by decide +kernel
theorem pl_h153_s {X : Int → Int} {LX : Nat} : ck_Ok p2_OL X LX 178 pl_h153 := ck_ok_s ⟨pl_nmu, ck_E1 (ck_S1 pl_s731_s ck_S0) ck_E0⟩ ck_X0 ck_l0 pl_h153_e
set_option maxRecDepth 100000 in
/-- GlacierMailLaw.writers -/
def pl_h154 : ck_Sum := ((9, 1, 6), 249, [.inr (.inr (.inl 1)), .inl ((-2147483648), (-1), []), .inl ((-2147483648), 2147483647, []), .inl ((-2147483648), 2147483647, []), .inr (.inr (.inl 245))], ([], [], []), ([], []), [(.inr (some (.inl (ck_one 1))), 249, ([], [], []))])
set_option maxRecDepth 100000 in
theorem pl_h154_e : ck_ok p2_OL none [] [(186, [pl_s732])] 185 [] 90 pl_h154 = true := by decide +kernel
theorem pl_h154_s {X : Int → Int} {LX : Nat} : ck_Ok p2_OL X LX 185 pl_h154 := ck_ok_s ⟨pl_nmu, ck_E1 (ck_S1 pl_s732_s ck_S0) ck_E0⟩ ck_X0 ck_l0 pl_h154_e
set_option maxRecDepth 100000 in
/-- GlacierMailLaw.writers -/
def pl_h155 : ck_Sum := ((9, 1, 6), 249, [.inr (.inr (.inl 1)), .inl (6, 2147483647, []), .inl ((-2147483648), 2147483647, []), .inl ((-2147483648), 2147483647, []), .inr (.inr (.inl 245))], ([], [], []), ([], []), [(.inr (some (.inl (ck_one 1))), 249, ([], [], []))])
set_option maxRecDepth 100000 in
theorem pl_h155_e : ck_ok p2_OL none [] [(186, [pl_s733])] 185 [] 90 pl_h155 = true := by decide +kernel
theorem pl_h155_s {X : Int → Int} {LX : Nat} : ck_Ok p2_OL X LX 185 pl_h155 := ck_ok_s ⟨pl_nmu, ck_E1 (ck_S1 pl_s733_s ck_S0) ck_E0⟩ ck_X0 ck_l0 pl_h155_e
set_option maxRecDepth 100000 in
/-- GlacierMailLaw.writers -/
def pl_h156 : ck_Sum := ((9, 2, 12), 249, [.inr (.inr (.inl 1)), .inl (0, 5, []), .inl ((-2147483648), (-1), []), .inl ((-2147483648), 2147483647, []), .inr (.inr (.inl 245))], ([], [], []), ([], []), [(.inr (some (.inl (ck_one 1))), 249, ([], [], [])), (.inr (some (.inl (ck_one 2))), 249, ([], [], []))])
set_option maxRecDepth 100000 in
theorem pl_h156_e : ck_ok p2_OL none [] [(186, [pl_s735])] 185 [] 90 pl_h156 = true := by decide +kernel
theorem pl_h156_s {X : Int → Int} {LX : Nat} : ck_Ok p2_OL X LX 185 pl_h156 := ck_ok_s ⟨pl_nmu, ck_E1 (ck_S1 pl_s735_s ck_S0) ck_E0⟩ ck_X0 ck_l0 pl_h156_e
set_option maxRecDepth 100000 in
/-- GlacierMailLaw.writers -/
def pl_h157 : ck_Sum := ((9, 2, 12), 249, [.inr (.inr (.inl 1)), .inl (0, 5, []), .inl (300, 2147483647, []), .inl ((-2147483648), 2147483647, []), .inr (.inr (.inl 245))], ([], [], []), ([], []), [(.inr (some (.inl (ck_one 1))), 249, ([], [], [])), (.inr (some (.inl (ck_one 2))), 249, ([], [], []))])
set_option maxRecDepth 100000 in
theorem pl_h157_e : ck_ok p2_OL none [] [(186, [pl_s737])] 185 [] 90 pl_h157 = true := by decide +kernel
theorem pl_h157_s {X : Int → Int} {LX : Nat} : ck_Ok p2_OL X LX 185 pl_h157 := ck_ok_s ⟨pl_nmu, ck_E1 (ck_S1 pl_s737_s ck_S0) ck_E0⟩ ck_X0 ck_l0 pl_h157_e
set_option maxRecDepth 100000 in
/-- GlacierMailLaw.writers -/
def pl_h158 : ck_Sum := ((9, 2, 12), 249, [.inr (.inr (.inl 1)), .inl (0, 5, []), .inl (0, 299, []), .inl ((-2147483648), (-1), []), .inr (.inr (.inl 245))], ([], [], []), ([], []), [(.inr (some (.inl (ck_one 1))), 249, ([], [], [])), (.inr (some (.inl (ck_one 2))), 249, ([], [], []))])
set_option maxRecDepth 100000 in
theorem pl_h158_e : ck_ok p2_OL none [] [(186, [pl_s739])] 185 [] 90 pl_h158 = true := by decide +kernel
theorem pl_h158_s {X : Int → Int} {LX : Nat} : ck_Ok p2_OL X LX 185 pl_h158 := ck_ok_s ⟨pl_nmu, ck_E1 (ck_S1 pl_s739_s ck_S0) ck_E0⟩ ck_X0 ck_l0 pl_h158_e
set_option maxRecDepth 100000 in
/-- GlacierMailLaw.writers -/
def pl_h159 : ck_Sum := ((9, 2, 12), 249, [.inr (.inr (.inl 1)), .inl (0, 5, []), .inl (0, 299, []), .inl (100, 2147483647, []), .inr (.inr (.inl 245))], ([], [], []), ([], []), [(.inr (some (.inl (ck_one 1))), 249, ([], [], [])), (.inr (some (.inl (ck_one 2))), 249, ([], [], []))])
set_option maxRecDepth 100000 in
theorem pl_h159_e : ck_ok p2_OL none [] [(186, [pl_s741])] 185 [] 90 pl_h159 = true := by decide +kernel
theorem pl_h159_s {X : Int → Int} {LX : Nat} : ck_Ok p2_OL X LX 185 pl_h159 := ck_ok_s ⟨pl_nmu, ck_E1 (ck_S1 pl_s741_s ck_S0) ck_E0⟩ ck_X0 ck_l0 pl_h159_e
set_option maxRecDepth 100000 in
/-- GlacierMailLaw.writers -/
def pl_h160 : ck_Sum := ((9, 1, 6), 249, [.inr (.inr (.inl 1)), .inl (0, 5, []), .inl (0, 299, []), .inl (0, 99, []), .inr (.inr (.inl 245))], ([], [(3, 8, 246)], []), ([(200, 6, 6), (204, 0, 9), (205, 0, 14849), (206, 2, 8), (245, 0, 0)], []), [(.inr (some (.inl (ck_one 1))), 249, ([], [], [])), (.inr (some (.inl (ck_one 0))), 249, ([], [], []))])
set_option maxRecDepth 100000 in
theorem pl_h160_e : ck_ok p2_OL none [] [(186, [pl_s744])] 185 [] 94 pl_h160 = true := by decide +kernel
theorem pl_h160_s {X : Int → Int} {LX : Nat} : ck_Ok p2_OL X LX 185 pl_h160 := ck_ok_s ⟨pl_nmu, ck_E1 (ck_S1 pl_s744_s ck_S0) ck_E0⟩ ck_X0 ck_l0 pl_h160_e
set_option maxRecDepth 100000 in
/-- GlacierMailLaw.wrote -/
def pl_h161 : ck_Sum := ((9, 1, 6), 249, [.inr (.inr (.inl 1)), .inl ((-2147483648), (-1), []), .inl ((-2147483648), 2147483647, []), .inl ((-2147483648), 2147483647, []), .inl ((-2147483648), 2147483647, []), .inr (.inr (.inl 245))], ([], [], []), ([], []), [(.inr (some (.inl (ck_one 1))), 249, ([], [], []))])
set_option maxRecDepth 100000 in
theorem pl_h161_e : ck_ok p2_OL none [] [(190, [pl_s745])] 189 [] 92 pl_h161 = true := by decide +kernel
theorem pl_h161_s {X : Int → Int} {LX : Nat} : ck_Ok p2_OL X LX 189 pl_h161 := ck_ok_s ⟨pl_nmu, ck_E1 (ck_S1 pl_s745_s ck_S0) ck_E0⟩ ck_X0 ck_l0 pl_h161_e
set_option maxRecDepth 100000 in
/-- GlacierMailLaw.wrote -/
def pl_h162 : ck_Sum := ((9, 1, 6), 249, [.inr (.inr (.inl 1)), .inl (8, 2147483647, []), .inl ((-2147483648), 2147483647, []), .inl ((-2147483648), 2147483647, []), .inl ((-2147483648), 2147483647, []), .inr (.inr (.inl 245))], ([], [], []), ([], []), [(.inr (some (.inl (ck_one 1))), 249, ([], [], []))])
set_option maxRecDepth 100000 in
theorem pl_h162_e : ck_ok p2_OL none [] [(190, [pl_s746])] 189 [] 92 pl_h162 = true := by decide +kernel
theorem pl_h162_s {X : Int → Int} {LX : Nat} : ck_Ok p2_OL X LX 189 pl_h162 := ck_ok_s ⟨pl_nmu, ck_E1 (ck_S1 pl_s746_s ck_S0) ck_E0⟩ ck_X0 ck_l0 pl_h162_e
set_option maxRecDepth 100000 in
/-- GlacierMailLaw.wrote -/
def pl_h163 : ck_Sum := ((9, 2, 12), 249, [.inr (.inr (.inl 1)), .inl (0, 7, []), .inl ((-2147483648), (-1), []), .inl ((-2147483648), 2147483647, []), .inl ((-2147483648), 2147483647, []), .inr (.inr (.inl 245))], ([], [], []), ([], []), [(.inr (some (.inl (ck_one 1))), 249, ([], [], []))])
set_option maxRecDepth 100000 in
theorem pl_h163_e : ck_ok p2_OL none [] [(190, [pl_s747])] 189 [] 92 pl_h163 = true := by decide +kernel
theorem pl_h163_s {X : Int → Int} {LX : Nat} : ck_Ok p2_OL X LX 189 pl_h163 := ck_ok_s ⟨pl_nmu, ck_E1 (ck_S1 pl_s747_s ck_S0) ck_E0⟩ ck_X0 ck_l0 pl_h163_e
set_option maxRecDepth 100000 in
/-- GlacierMailLaw.wrote -/
def pl_h164 : ck_Sum := ((9, 2, 12), 249, [.inr (.inr (.inl 1)), .inl (0, 7, []), .inl (6, 2147483647, []), .inl ((-2147483648), 2147483647, []), .inl ((-2147483648), 2147483647, []), .inr (.inr (.inl 245))], ([], [], []), ([], []), [(.inr (some (.inl (ck_one 1))), 249, ([], [], []))])
set_option maxRecDepth 100000 in
theorem pl_h164_e : ck_ok p2_OL none [] [(190, [pl_s748])] 189 [] 92 pl_h164 = true := by decide +kernel
theorem pl_h164_s {X : Int → Int} {LX : Nat} : ck_Ok p2_OL X LX 189 pl_h164 := ck_ok_s ⟨pl_nmu, ck_E1 (ck_S1 pl_s748_s ck_S0) ck_E0⟩ ck_X0 ck_l0 pl_h164_e
set_option maxRecDepth 100000 in
/-- GlacierMailLaw.wrote -/
def pl_h165 : ck_Sum := ((9, 3, 18), 249, [.inr (.inr (.inl 1)), .inl (0, 7, []), .inl (0, 5, []), .inl ((-2147483648), (-1), []), .inl ((-2147483648), 2147483647, []), .inr (.inr (.inl 245))], ([], [], []), ([], []), [(.inr (some (.inl (ck_one 1))), 249, ([], [], [])), (.inr (some (.inl (ck_one 2))), 249, ([], [], []))])
set_option maxRecDepth 100000 in
theorem pl_h165_e : ck_ok p2_OL none [] [(190, [pl_s749])] 189 [] 92 pl_h165 = true := by decide +kernel
theorem pl_h165_s {X : Int → Int} {LX : Nat} : ck_Ok p2_OL X LX 189 pl_h165 := ck_ok_s ⟨pl_nmu, ck_E1 (ck_S1 pl_s749_s ck_S0) ck_E0⟩ ck_X0 ck_l0 pl_h165_e
set_option maxRecDepth 100000 in
/-- GlacierMailLaw.wrote -/
def pl_h166 : ck_Sum := ((9, 3, 18), 249, [.inr (.inr (.inl 1)), .inl (0, 7, []), .inl (0, 5, []), .inl (300, 2147483647, []), .inl ((-2147483648), 2147483647, []), .inr (.inr (.inl 245))], ([], [], []), ([], []), [(.inr (some (.inl (ck_one 1))), 249, ([], [], [])), (.inr (some (.inl (ck_one 2))), 249, ([], [], []))])
set_option maxRecDepth 100000 in
theorem pl_h166_e : ck_ok p2_OL none [] [(190, [pl_s750])] 189 [] 92 pl_h166 = true := by decide +kernel
theorem pl_h166_s {X : Int → Int} {LX : Nat} : ck_Ok p2_OL X LX 189 pl_h166 := ck_ok_s ⟨pl_nmu, ck_E1 (ck_S1 pl_s750_s ck_S0) ck_E0⟩ ck_X0 ck_l0 pl_h166_e
set_option maxRecDepth 100000 in
/-- GlacierMailLaw.wrote -/
def pl_h167 : ck_Sum := ((9, 3, 18), 249, [.inr (.inr (.inl 1)), .inl (0, 7, []), .inl (0, 5, []), .inl (0, 299, []), .inl ((-2147483648), (-1), []), .inr (.inr (.inl 245))], ([], [], []), ([], []), [(.inr (some (.inl (ck_one 1))), 249, ([], [], [])), (.inr (some (.inl (ck_one 2))), 249, ([], [], []))])
set_option maxRecDepth 100000 in
theorem pl_h167_e : ck_ok p2_OL none [] [(190, [pl_s751])] 189 [] 92 pl_h167 = true := by decide +kernel
theorem pl_h167_s {X : Int → Int} {LX : Nat} : ck_Ok p2_OL X LX 189 pl_h167 := ck_ok_s ⟨pl_nmu, ck_E1 (ck_S1 pl_s751_s ck_S0) ck_E0⟩ ck_X0 ck_l0 pl_h167_e
set_option maxRecDepth 100000 in
/-- GlacierMailLaw.wrote -/
def pl_h168 : ck_Sum := ((9, 3, 18), 249, [.inr (.inr (.inl 1)), .inl (0, 7, []), .inl (0, 5, []), .inl (0, 299, []), .inl (100, 2147483647, []), .inr (.inr (.inl 245))], ([], [], []), ([], []), [(.inr (some (.inl (ck_one 1))), 249, ([], [], [])), (.inr (some (.inl (ck_one 2))), 249, ([], [], []))])
set_option maxRecDepth 100000 in
theorem pl_h168_e : ck_ok p2_OL none [] [(190, [pl_s752])] 189 [] 92 pl_h168 = true := by decide +kernel
theorem pl_h168_s {X : Int → Int} {LX : Nat} : ck_Ok p2_OL X LX 189 pl_h168 := ck_ok_s ⟨pl_nmu, ck_E1 (ck_S1 pl_s752_s ck_S0) ck_E0⟩ ck_X0 ck_l0 pl_h168_e
set_option maxRecDepth 100000 in
/-- GlacierMailLaw.wrote -/
def pl_h169 : ck_Sum := ((9, 2, 12), 249, [.inr (.inr (.inl 1)), .inl (0, 7, []), .inl (0, 5, []), .inl (0, 299, []), .inl (0, 99, []), .inr (.inr (.inl 245))], ([], [(3, 8, 246)], []), ([(200, 6, 6), (204, 0, 9), (205, 0, 14849), (206, 2, 8), (245, 0, 0)], []), [(.inr (some (.inl (ck_one 1))), 249, ([], [], [])), (.inr (some (.inl (ck_one 0))), 249, ([], [], [(245, 0, 0, ((-1), 298, []))]))])
set_option maxRecDepth 100000 in
theorem pl_h169_e : ck_ok p2_OL none [] [(190, [pl_s753])] 189 [] 96 pl_h169 = true := by decide +kernel
theorem pl_h169_s {X : Int → Int} {LX : Nat} : ck_Ok p2_OL X LX 189 pl_h169 := ck_ok_s ⟨pl_nmu, ck_E1 (ck_S1 pl_s753_s ck_S0) ck_E0⟩ ck_X0 ck_l0 pl_h169_e
set_option maxRecDepth 100000 in
/-- GlacierMailLaw.table -/
def pl_h170 : ck_Sum := ((9, 1, 6), 249, [.inr (.inr (.inl 1)), .inl ((-2147483648), (-1), []), .inl ((-2147483648), 2147483647, []), .inr (.inr (.inl 245))], ([], [], []), ([], []), [(.inr (some (.inl (ck_one 1))), 249, ([], [], []))])
set_option maxRecDepth 100000 in
theorem pl_h170_e : ck_ok p2_OL none [] [(192, [pl_s757])] 191 [] 88 pl_h170 = true := by decide +kernel
theorem pl_h170_s {X : Int → Int} {LX : Nat} : ck_Ok p2_OL X LX 191 pl_h170 := ck_ok_s ⟨pl_nmu, ck_E1 (ck_S1 pl_s757_s ck_S0) ck_E0⟩ ck_X0 ck_l0 pl_h170_e
set_option maxRecDepth 100000 in
/-- GlacierMailLaw.table -/
def pl_h171 : ck_Sum := ((9, 1, 6), 249, [.inr (.inr (.inl 1)), .inl (6, 2147483647, []), .inl ((-2147483648), 2147483647, []), .inr (.inr (.inl 245))], ([], [], []), ([], []), [(.inr (some (.inl (ck_one 1))), 249, ([], [], []))])
set_option maxRecDepth 100000 in
theorem pl_h171_e : ck_ok p2_OL none [] [(192, [pl_s760])] 191 [] 88 pl_h171 = true := by decide +kernel
theorem pl_h171_s {X : Int → Int} {LX : Nat} : ck_Ok p2_OL X LX 191 pl_h171 := ck_ok_s ⟨pl_nmu, ck_E1 (ck_S1 pl_s760_s ck_S0) ck_E0⟩ ck_X0 ck_l0 pl_h171_e
set_option maxRecDepth 100000 in
/-- GlacierMailLaw.table -/
def pl_h172 : ck_Sum := ((9, 2, 12), 249, [.inr (.inr (.inl 1)), .inl (0, 5, []), .inl ((-2147483648), (-1), []), .inr (.inr (.inl 245))], ([], [], []), ([], []), [(.inr (some (.inl (ck_one 1))), 249, ([], [], []))])
set_option maxRecDepth 100000 in
theorem pl_h172_e : ck_ok p2_OL none [] [(192, [pl_s763])] 191 [] 88 pl_h172 = true := by decide +kernel
theorem pl_h172_s {X : Int → Int} {LX : Nat} : ck_Ok p2_OL X LX 191 pl_h172 := ck_ok_s ⟨pl_nmu, ck_E1 (ck_S1 pl_s763_s ck_S0) ck_E0⟩ ck_X0 ck_l0 pl_h172_e
set_option maxRecDepth 100000 in
/-- GlacierMailLaw.table -/
def pl_h173 : ck_Sum := ((9, 2, 12), 249, [.inr (.inr (.inl 1)), .inl (0, 5, []), .inl (6, 2147483647, []), .inr (.inr (.inl 245))], ([], [], []), ([], []), [(.inr (some (.inl (ck_one 1))), 249, ([], [], []))])
set_option maxRecDepth 100000 in
theorem pl_h173_e : ck_ok p2_OL none [] [(192, [pl_s764])] 191 [] 88 pl_h173 = true := by decide +kernel
theorem pl_h173_s {X : Int → Int} {LX : Nat} : ck_Ok p2_OL X LX 191 pl_h173 := ck_ok_s ⟨pl_nmu, ck_E1 (ck_S1 pl_s764_s ck_S0) ck_E0⟩ ck_X0 ck_l0 pl_h173_e
set_option maxRecDepth 100000 in
/-- GlacierMailLaw.table -/
def pl_h174 : ck_Sum := ((9, 2, 12), 249, [.inr (.inr (.inl 1)), .inl (0, 5, []), .inl (0, 5, []), .inr (.inr (.inl 245))], ([], [], []), ([(245, 0, 0)], []), [(.inr (some (.inl (ck_one 1))), 249, ([], [], [])), (.inr (some (.inl (ck_one 0))), 249, ([], [], [(245, 0, 0, ((-1), 20, []))]))])
set_option maxRecDepth 100000 in
theorem pl_h174_e : ck_ok p2_OL none [] [(192, [pl_s766])] 191 [] 92 pl_h174 = true := by decide +kernel
theorem pl_h174_s {X : Int → Int} {LX : Nat} : ck_Ok p2_OL X LX 191 pl_h174 := ck_ok_s ⟨pl_nmu, ck_E1 (ck_S1 pl_s766_s ck_S0) ck_E0⟩ ck_X0 ck_l0 pl_h174_e
set_option maxRecDepth 100000 in
/-- GlacierMailLaw.apart -/
def pl_h175 : ck_Sum := ((9, 1, 6), 249, [.inr (.inr (.inl 1)), .inl ((-2147483648), (-1), []), .inl ((-2147483648), 2147483647, []), .inl ((-2147483648), 2147483647, []), .inr (.inr (.inl 245))], ([], [], []), ([], []), [(.inr (some (.inl (ck_one 1))), 249, ([], [], []))])
set_option maxRecDepth 100000 in
theorem pl_h175_e : ck_ok p2_OL none [] [(195, [pl_s767])] 194 [] 90 pl_h175 = true := by decide +kernel
theorem pl_h175_s {X : Int → Int} {LX : Nat} : ck_Ok p2_OL X LX 194 pl_h175 := ck_ok_s ⟨pl_nmu, ck_E1 (ck_S1 pl_s767_s ck_S0) ck_E0⟩ ck_X0 ck_l0 pl_h175_e
set_option maxRecDepth 100000 in
/-- GlacierMailLaw.apart -/
def pl_h176 : ck_Sum := ((9, 1, 6), 249, [.inr (.inr (.inl 1)), .inl (6, 2147483647, []), .inl ((-2147483648), 2147483647, []), .inl ((-2147483648), 2147483647, []), .inr (.inr (.inl 245))], ([], [], []), ([], []), [(.inr (some (.inl (ck_one 1))), 249, ([], [], []))])
set_option maxRecDepth 100000 in
theorem pl_h176_e : ck_ok p2_OL none [] [(195, [pl_s768])] 194 [] 90 pl_h176 = true := by decide +kernel
theorem pl_h176_s {X : Int → Int} {LX : Nat} : ck_Ok p2_OL X LX 194 pl_h176 := ck_ok_s ⟨pl_nmu, ck_E1 (ck_S1 pl_s768_s ck_S0) ck_E0⟩ ck_X0 ck_l0 pl_h176_e
set_option maxRecDepth 100000 in
/-- GlacierMailLaw.apart -/
def pl_h177 : ck_Sum := ((9, 2, 12), 249, [.inr (.inr (.inl 1)), .inl (0, 5, []), .inl ((-2147483648), (-1), []), .inl ((-2147483648), 2147483647, []), .inr (.inr (.inl 245))], ([], [], []), ([], []), [(.inr (some (.inl (ck_one 1))), 249, ([], [], []))])
set_option maxRecDepth 100000 in
theorem pl_h177_e : ck_ok p2_OL none [] [(195, [pl_s769])] 194 [] 90 pl_h177 = true := by decide +kernel
theorem pl_h177_s {X : Int → Int} {LX : Nat} : ck_Ok p2_OL X LX 194 pl_h177 := ck_ok_s ⟨pl_nmu, ck_E1 (ck_S1 pl_s769_s ck_S0) ck_E0⟩ ck_X0 ck_l0 pl_h177_e
set_option maxRecDepth 100000 in
/-- GlacierMailLaw.apart -/
def pl_h178 : ck_Sum := ((9, 2, 12), 249, [.inr (.inr (.inl 1)), .inl (0, 5, []), .inl (6, 2147483647, []), .inl ((-2147483648), 2147483647, []), .inr (.inr (.inl 245))], ([], [], []), ([], []), [(.inr (some (.inl (ck_one 1))), 249, ([], [], []))])
set_option maxRecDepth 100000 in
theorem pl_h178_e : ck_ok p2_OL none [] [(195, [pl_s770])] 194 [] 90 pl_h178 = true := by decide +kernel
theorem pl_h178_s {X : Int → Int} {LX : Nat} : ck_Ok p2_OL X LX 194 pl_h178 := ck_ok_s ⟨pl_nmu, ck_E1 (ck_S1 pl_s770_s ck_S0) ck_E0⟩ ck_X0 ck_l0 pl_h178_e
set_option maxRecDepth 100000 in
/-- GlacierMailLaw.apart -/
def pl_h179 : ck_Sum := ((9, 2, 12), 249, [.inr (.inr (.inl 1)), .inl (0, 5, []), .inl (0, 5, []), .inl ((-2147483648), 2147483647, []), .inr (.inr (.inl 245))], ([], [], []), ([(245, 0, 0)], []), [(.inr (some (.inl (ck_one 1))), 249, ([], [], [])), (.inr (some (.inl (ck_one 0))), 249, ([], [], [(245, 0, 0, (0, 1, []))]))])
set_option maxRecDepth 100000 in
theorem pl_h179_e : ck_ok p2_OL none [] [(195, [pl_s772])] 194 [] 98 pl_h179 = true := by decide +kernel
theorem pl_h179_s {X : Int → Int} {LX : Nat} : ck_Ok p2_OL X LX 194 pl_h179 := ck_ok_s ⟨pl_nmu, ck_E1 (ck_S1 pl_s772_s ck_S0) ck_E0⟩ ck_X0 ck_l0 pl_h179_e
set_option maxRecDepth 100000 in
/-- GlacierMailLaw.fit -/
def pl_h180 : ck_Sum := ((7, 1, 6), 249, [.inr (.inr (.inl 1)), .inr (.inr (.inl 245))], ([], [], [(1, 1, 1, (0, 400, [(6, 0)]))]), ([(1, 1, 1), (245, 0, 0)], []), [(.inr (some (.inl (ck_one 1))), 249, ([], [], [(1, 1, 1, ck_one 0)])), (.inr (some (.inl (ck_one 0))), 249, ([], [], [(1, 1, 1, ck_one 0)]))])
set_option maxRecDepth 100000 in
theorem pl_h180_e : ck_ok p2_OL none [] [(197, [pl_s778])] 196 [] 88 pl_h180 = true := by decide +kernel
theorem pl_h180_s {X : Int → Int} {LX : Nat} : ck_Ok p2_OL X LX 196 pl_h180 := ck_ok_s ⟨pl_nmu, ck_E1 (ck_S1 pl_s778_s ck_S0) ck_E0⟩ ck_X0 ck_l0 pl_h180_e
set_option maxRecDepth 100000 in
/-- GlacierMailLaw.soonest -/
def pl_h181 : ck_Sum := ((9, 1, 6), 249, [.inr (.inr (.inl 1)), .inl ((-2147483648), (-1), []), .inl ((-2147483648), 2147483647, []), .inl (0, 1, []), .inr (.inr (.inl 245))], ([], [], []), ([], []), [(.inr (some (.inl (ck_one 1))), 249, ([], [], []))])
set_option maxRecDepth 100000 in
theorem pl_h181_e : ck_ok p2_OL none [] [(201, [pl_s779])] 200 [] 90 pl_h181 = true := by decide +kernel
theorem pl_h181_s {X : Int → Int} {LX : Nat} : ck_Ok p2_OL X LX 200 pl_h181 := ck_ok_s ⟨pl_nmu, ck_E1 (ck_S1 pl_s779_s ck_S0) ck_E0⟩ ck_X0 ck_l0 pl_h181_e
set_option maxRecDepth 100000 in
/-- GlacierMailLaw.soonest -/
def pl_h182 : ck_Sum := ((9, 1, 6), 249, [.inr (.inr (.inl 1)), .inl (8, 2147483647, []), .inl ((-2147483648), 2147483647, []), .inl (0, 1, []), .inr (.inr (.inl 245))], ([], [], []), ([], []), [(.inr (some (.inl (ck_one 1))), 249, ([], [], []))])
set_option maxRecDepth 100000 in
theorem pl_h182_e : ck_ok p2_OL none [] [(201, [pl_s780])] 200 [] 90 pl_h182 = true := by decide +kernel
theorem pl_h182_s {X : Int → Int} {LX : Nat} : ck_Ok p2_OL X LX 200 pl_h182 := ck_ok_s ⟨pl_nmu, ck_E1 (ck_S1 pl_s780_s ck_S0) ck_E0⟩ ck_X0 ck_l0 pl_h182_e
set_option maxRecDepth 100000 in
/-- GlacierMailLaw.soonest -/
def pl_h183 : ck_Sum := ((9, 2, 12), 249, [.inr (.inr (.inl 1)), .inl (0, 7, []), .inl ((-2147483648), (-1), []), .inl (0, 1, []), .inr (.inr (.inl 245))], ([], [], []), ([], []), [(.inr (some (.inl (ck_one 1))), 249, ([], [], []))])
set_option maxRecDepth 100000 in
theorem pl_h183_e : ck_ok p2_OL none [] [(201, [pl_s781])] 200 [] 90 pl_h183 = true := by decide +kernel
theorem pl_h183_s {X : Int → Int} {LX : Nat} : ck_Ok p2_OL X LX 200 pl_h183 := ck_ok_s ⟨pl_nmu, ck_E1 (ck_S1 pl_s781_s ck_S0) ck_E0⟩ ck_X0 ck_l0 pl_h183_e
set_option maxRecDepth 100000 in
/-- GlacierMailLaw.soonest -/
def pl_h184 : ck_Sum := ((9, 2, 12), 249, [.inr (.inr (.inl 1)), .inl (0, 7, []), .inl (8, 2147483647, []), .inl (0, 1, []), .inr (.inr (.inl 245))], ([], [], []), ([], []), [(.inr (some (.inl (ck_one 1))), 249, ([], [], []))])
set_option maxRecDepth 100000 in
theorem pl_h184_e : ck_ok p2_OL none [] [(201, [pl_s782])] 200 [] 90 pl_h184 = true := by decide +kernel
theorem pl_h184_s {X : Int → Int} {LX : Nat} : ck_Ok p2_OL X LX 200 pl_h184 := ck_ok_s ⟨pl_nmu, ck_E1 (ck_S1 pl_s782_s ck_S0) ck_E0⟩ ck_X0 ck_l0 pl_h184_e
set_option maxRecDepth 100000 in
/-- GlacierMailLaw.soonest -/
def pl_h185 : ck_Sum := ((9, 3, 18), 249, [.inr (.inr (.inl 1)), .inl (0, 7, []), .inl (0, 7, []), .inl (0, 1, []), .inr (.inr (.inl 245))], ([], [(3, 8, 246)], [(3, 6, 6, (0, 299, [(10, 0)]))]), ([(200, 6, 6), (204, 0, 9), (205, 0, 14849), (206, 2, 8), (209, 3, 3), (210, 0, 2399), (211, 3, 3), (212, 0, 2399), (245, 0, 0)], []), [(.inr (some (.inl (ck_one 1))), 249, ([], [], [])), (.inr (some (.inl (ck_one 0))), 249, ([], [], [(206, 4, 4, ck_one (-1))])), (.inr (some (.inl (ck_one 2))), 249, ([], [], []))])
set_option maxRecDepth 100000 in
theorem pl_h185_e : ck_ok p2_OL none [] [(201, [pl_s797])] 200 [] 94 pl_h185 = true := by decide +kernel
theorem pl_h185_s {X : Int → Int} {LX : Nat} : ck_Ok p2_OL X LX 200 pl_h185 := ck_ok_s ⟨pl_nmu, ck_E1 (ck_S1 pl_s797_s ck_S0) ck_E0⟩ ck_X0 ck_l0 pl_h185_e
set_option maxRecDepth 100000 in
/-- GlacierMailLaw.chain -/
def pl_h186 : ck_Sum := ((9, 1, 6), 249, [.inr (.inr (.inl 1)), .inl ((-2147483648), (-1), []), .inl ((-2147483648), 2147483647, []), .inl ((-2147483648), 2147483647, []), .inr (.inr (.inl 245))], ([], [], []), ([], []), [(.inr (some (.inl (ck_one 1))), 249, ([], [], []))])
set_option maxRecDepth 100000 in
theorem pl_h186_e : ck_ok p2_OL none [] [(207, [pl_s798])] 206 [] 90 pl_h186 = true := by decide +kernel
theorem pl_h186_s {X : Int → Int} {LX : Nat} : ck_Ok p2_OL X LX 206 pl_h186 := ck_ok_s ⟨pl_nmu, ck_E1 (ck_S1 pl_s798_s ck_S0) ck_E0⟩ ck_X0 ck_l0 pl_h186_e
set_option maxRecDepth 100000 in
/-- GlacierMailLaw.chain -/
def pl_h187 : ck_Sum := ((9, 1, 6), 249, [.inr (.inr (.inl 1)), .inl (8, 2147483647, []), .inl ((-2147483648), 2147483647, []), .inl ((-2147483648), 2147483647, []), .inr (.inr (.inl 245))], ([], [], []), ([], []), [(.inr (some (.inl (ck_one 1))), 249, ([], [], []))])
set_option maxRecDepth 100000 in
theorem pl_h187_e : ck_ok p2_OL none [] [(207, [pl_s799])] 206 [] 90 pl_h187 = true := by decide +kernel
theorem pl_h187_s {X : Int → Int} {LX : Nat} : ck_Ok p2_OL X LX 206 pl_h187 := ck_ok_s ⟨pl_nmu, ck_E1 (ck_S1 pl_s799_s ck_S0) ck_E0⟩ ck_X0 ck_l0 pl_h187_e
set_option maxRecDepth 100000 in
/-- GlacierMailLaw.chain -/
def pl_h188 : ck_Sum := ((9, 2, 12), 249, [.inr (.inr (.inl 1)), .inl (0, 7, []), .inl ((-2147483648), (-1), []), .inl ((-2147483648), 2147483647, []), .inr (.inr (.inl 245))], ([], [], []), ([], []), [(.inr (some (.inl (ck_one 1))), 249, ([], [], []))])
set_option maxRecDepth 100000 in
theorem pl_h188_e : ck_ok p2_OL none [] [(207, [pl_s800])] 206 [] 90 pl_h188 = true := by decide +kernel
theorem pl_h188_s {X : Int → Int} {LX : Nat} : ck_Ok p2_OL X LX 206 pl_h188 := ck_ok_s ⟨pl_nmu, ck_E1 (ck_S1 pl_s800_s ck_S0) ck_E0⟩ ck_X0 ck_l0 pl_h188_e
set_option maxRecDepth 100000 in
/-- GlacierMailLaw.chain -/
def pl_h189 : ck_Sum := ((9, 2, 12), 249, [.inr (.inr (.inl 1)), .inl (0, 7, []), .inl (8, 2147483647, []), .inl ((-2147483648), 2147483647, []), .inr (.inr (.inl 245))], ([], [], []), ([], []), [(.inr (some (.inl (ck_one 1))), 249, ([], [], []))])
set_option maxRecDepth 100000 in
theorem pl_h189_e : ck_ok p2_OL none [] [(207, [pl_s801])] 206 [] 90 pl_h189 = true := by decide +kernel
theorem pl_h189_s {X : Int → Int} {LX : Nat} : ck_Ok p2_OL X LX 206 pl_h189 := ck_ok_s ⟨pl_nmu, ck_E1 (ck_S1 pl_s801_s ck_S0) ck_E0⟩ ck_X0 ck_l0 pl_h189_e
set_option maxRecDepth 100000 in
/-- GlacierMailLaw.chain -/
def pl_h190 : ck_Sum := ((9, 4, 24), 249, [.inr (.inr (.inl 1)), .inl (0, 7, []), .inl (0, 7, []), .inl ((-2147483648), 0, []), .inr (.inr (.inl 245))], ([], [(3, 8, 246)], [(3, 6, 6, (0, 299, [(10, 0)]))]), ([(200, 6, 6), (204, 0, 9), (205, 0, 14849), (206, 2, 8), (209, 3, 3), (210, 0, 2399), (211, 3, 3), (212, 0, 2399), (245, 0, 0)], []), [(.inr (some (.inl (ck_one 1))), 249, ([], [], [])), (.inr (some (.inl (ck_one 0))), 249, ([], [], [(245, 0, 0, ((-1), 7, [])), (206, 4, 4, ck_one (-1))])), (.inr (some (.inl (ck_one 2))), 249, ([], [], []))])
set_option maxRecDepth 100000 in
theorem pl_h190_e : ck_ok p2_OL none [] [(207, [pl_s805])] 206 [] 94 pl_h190 = true := by decide +kernel
theorem pl_h190_s {X : Int → Int} {LX : Nat} : ck_Ok p2_OL X LX 206 pl_h190 := ck_ok_s ⟨pl_nmu, ck_E1 (ck_S1 pl_s805_s ck_S0) ck_E0⟩ ck_X0 ck_l0 pl_h190_e
set_option maxRecDepth 100000 in
/-- GlacierMailLaw.chain -/
def pl_h191 : ck_Sum := ((9, 3, 18), 249, [.inr (.inr (.inl 1)), .inl (0, 7, []), .inl (0, 7, []), .inl (51, 2147483647, []), .inr (.inr (.inl 245))], ([], [(3, 8, 246)], [(3, 6, 6, (0, 299, [(10, 0)]))]), ([(200, 6, 6), (204, 0, 9), (205, 0, 14849), (206, 2, 8), (209, 3, 3), (210, 0, 2399), (211, 3, 3), (212, 0, 2399), (245, 0, 0)], []), [(.inr (some (.inl (ck_one 1))), 249, ([], [], [])), (.inr (some (.inl (ck_one 0))), 249, ([], [], [(245, 0, 0, ((-1), 2398, [])), (206, 4, 4, ck_one (-1))])), (.inr (some (.inl (ck_one 2))), 249, ([], [], []))])
set_option maxRecDepth 100000 in
theorem pl_h191_e : ck_ok p2_OL none [] [(207, [pl_s808])] 206 [] 94 pl_h191 = true := by decide +kernel
theorem pl_h191_s {X : Int → Int} {LX : Nat} : ck_Ok p2_OL X LX 206 pl_h191 := ck_ok_s ⟨pl_nmu, ck_E1 (ck_S1 pl_s808_s ck_S0) ck_E0⟩ ck_X0 ck_l0 pl_h191_e
set_option maxRecDepth 100000 in
/-- GlacierMailLaw.chain -/
def pl_h192 : ck_Sum := ((9, 3, 18), 249, [.inr (.inr (.inl 1)), .inl (0, 7, []), .inl (0, 7, []), .inl (1, 50, []), .inr (.inr (.inl 245))], ([], [(3, 8, 246)], [(3, 6, 6, (0, 299, [(10, 0)]))]), ([(200, 6, 6), (204, 0, 9), (205, 0, 14849), (206, 2, 8), (209, 3, 3), (210, 0, 2399), (211, 3, 3), (212, 0, 2399), (245, 0, 0)], []), [(.inr (some (.inl (ck_one 1))), 249, ([], [], [])), (.inr (some (.inl (ck_one 0))), 249, ([], [], [(245, 0, 0, ((-1), 2398, [])), (206, 4, 4, ck_one (-1))])), (.inr (some (.inl (ck_one 2))), 249, ([], [], []))])
set_option maxRecDepth 100000 in
theorem pl_h192_e : ck_ok p2_OL none [] [(207, [pl_s810])] 206 [] 94 pl_h192 = true := by decide +kernel
theorem pl_h192_s {X : Int → Int} {LX : Nat} : ck_Ok p2_OL X LX 206 pl_h192 := ck_ok_s ⟨pl_nmu, ck_E1 (ck_S1 pl_s810_s ck_S0) ck_E0⟩ ck_X0 ck_l0 pl_h192_e
set_option maxRecDepth 100000 in
/-- GlacierMailLaw.reached -/
def pl_h193 : ck_Sum := ((9, 1, 6), 249, [.inr (.inr (.inl 1)), .inl ((-2147483648), (-1), []), .inl ((-2147483648), 2147483647, []), .inr (.inr (.inl 245))], ([], [], []), ([], []), [(.inr (some (.inl (ck_one 1))), 249, ([], [], []))])
set_option maxRecDepth 100000 in
theorem pl_h193_e : ck_ok p2_OL none [] [(211, [pl_s811])] 210 [] 88 pl_h193 = true := by decide +kernel
theorem pl_h193_s {X : Int → Int} {LX : Nat} : ck_Ok p2_OL X LX 210 pl_h193 := ck_ok_s ⟨pl_nmu, ck_E1 (ck_S1 pl_s811_s ck_S0) ck_E0⟩ ck_X0 ck_l0 pl_h193_e
set_option maxRecDepth 100000 in
/-- GlacierMailLaw.reached -/
def pl_h194 : ck_Sum := ((9, 1, 6), 249, [.inr (.inr (.inl 1)), .inl (8, 2147483647, []), .inl ((-2147483648), 2147483647, []), .inr (.inr (.inl 245))], ([], [], []), ([], []), [(.inr (some (.inl (ck_one 1))), 249, ([], [], []))])
set_option maxRecDepth 100000 in
theorem pl_h194_e : ck_ok p2_OL none [] [(211, [pl_s812])] 210 [] 88 pl_h194 = true := by decide +kernel
theorem pl_h194_s {X : Int → Int} {LX : Nat} : ck_Ok p2_OL X LX 210 pl_h194 := ck_ok_s ⟨pl_nmu, ck_E1 (ck_S1 pl_s812_s ck_S0) ck_E0⟩ ck_X0 ck_l0 pl_h194_e
set_option maxRecDepth 100000 in
/-- GlacierMailLaw.reached -/
def pl_h195 : ck_Sum := ((9, 2, 12), 249, [.inr (.inr (.inl 1)), .inl (0, 7, []), .inl ((-2147483648), (-1), []), .inr (.inr (.inl 245))], ([], [], []), ([], []), [(.inr (some (.inl (ck_one 1))), 249, ([], [], [])), (.inr (some (.inl (ck_one 2))), 249, ([], [], []))])
set_option maxRecDepth 100000 in
theorem pl_h195_e : ck_ok p2_OL none [] [(211, [pl_s813])] 210 [] 88 pl_h195 = true := by decide +kernel
theorem pl_h195_s {X : Int → Int} {LX : Nat} : ck_Ok p2_OL X LX 210 pl_h195 := ck_ok_s ⟨pl_nmu, ck_E1 (ck_S1 pl_s813_s ck_S0) ck_E0⟩ ck_X0 ck_l0 pl_h195_e
set_option maxRecDepth 100000 in
/-- GlacierMailLaw.reached -/
def pl_h196 : ck_Sum := ((9, 2, 12), 249, [.inr (.inr (.inl 1)), .inl (0, 7, []), .inl (300, 2147483647, []), .inr (.inr (.inl 245))], ([], [], []), ([], []), [(.inr (some (.inl (ck_one 1))), 249, ([], [], [])), (.inr (some (.inl (ck_one 2))), 249, ([], [], []))])
set_option maxRecDepth 100000 in
theorem pl_h196_e : ck_ok p2_OL none [] [(211, [pl_s814])] 210 [] 88 pl_h196 = true := by decide +kernel
theorem pl_h196_s {X : Int → Int} {LX : Nat} : ck_Ok p2_OL X LX 210 pl_h196 := ck_ok_s ⟨pl_nmu, ck_E1 (ck_S1 pl_s814_s ck_S0) ck_E0⟩ ck_X0 ck_l0 pl_h196_e
set_option maxRecDepth 100000 in
/-- GlacierMailLaw.reached -/
def pl_h197 : ck_Sum := ((9, 1, 6), 249, [.inr (.inr (.inl 1)), .inl (0, 7, []), .inl (0, 299, []), .inr (.inr (.inl 245))], ([], [(3, 8, 246)], [(3, 6, 6, (0, 299, [(10, 0)]))]), ([(200, 6, 6), (204, 0, 9), (205, 0, 14849), (206, 2, 8), (209, 3, 3), (210, 0, 2399), (211, 3, 3), (212, 0, 2399), (245, 0, 0)], []), [(.inr (some (.inl (ck_one 1))), 249, ([], [], [])), (.inr (some (.inl (ck_one 0))), 249, ([], [], [(206, 4, 4, ck_one (-1))]))])
set_option maxRecDepth 100000 in
theorem pl_h197_e : ck_ok p2_OL none [] [(211, [pl_s818])] 210 [] 92 pl_h197 = true := by decide +kernel
theorem pl_h197_s {X : Int → Int} {LX : Nat} : ck_Ok p2_OL X LX 210 pl_h197 := ck_ok_s ⟨pl_nmu, ck_E1 (ck_S1 pl_s818_s ck_S0) ck_E0⟩ ck_X0 ck_l0 pl_h197_e
set_option maxRecDepth 100000 in
/-- GlacierMailLaw.thieves -/
def pl_h198 : ck_Sum := ((8, 1, 6), 249, [.inr (.inr (.inl 1)), .inl ((-2147483648), (-1), []), .inl (0, 1, []), .inr (.inr (.inl 245))], ([], [], []), ([], []), [(.inr (some (.inl (ck_one 1))), 249, ([], [], []))])
set_option maxRecDepth 100000 in
theorem pl_h198_e : ck_ok p2_OL none [] [(213, [pl_s820])] 212 [] 88 pl_h198 = true := by decide +kernel
theorem pl_h198_s {X : Int → Int} {LX : Nat} : ck_Ok p2_OL X LX 212 pl_h198 := ck_ok_s ⟨pl_nmu, ck_E1 (ck_S1 pl_s820_s ck_S0) ck_E0⟩ ck_X0 ck_l0 pl_h198_e
set_option maxRecDepth 100000 in
/-- GlacierMailLaw.thieves -/
def pl_h199 : ck_Sum := ((8, 1, 6), 249, [.inr (.inr (.inl 1)), .inl (31, 2147483647, []), .inl (0, 1, []), .inr (.inr (.inl 245))], ([], [], []), ([], []), [(.inr (some (.inl (ck_one 1))), 249, ([], [], []))])
set_option maxRecDepth 100000 in
theorem pl_h199_e : ck_ok p2_OL none [] [(213, [pl_s822])] 212 [] 88 pl_h199 = true := by decide +kernel
theorem pl_h199_s {X : Int → Int} {LX : Nat} : ck_Ok p2_OL X LX 212 pl_h199 := ck_ok_s ⟨pl_nmu, ck_E1 (ck_S1 pl_s822_s ck_S0) ck_E0⟩ ck_X0 ck_l0 pl_h199_e
set_option maxRecDepth 100000 in
/-- GlacierMailLaw.thieves -/
def pl_h200 : ck_Sum := ((8, 1, 6), 249, [.inr (.inr (.inl 1)), .inl (0, 30, []), .inl (0, 1, []), .inr (.inr (.inl 245))], ([], [(3, 8, 246)], [(3, 6, 6, (0, 299, [(10, 0)]))]), ([(1, 15, 15), (200, 6, 6), (204, 0, 9), (205, 0, 14849), (206, 2, 8), (220, 3, 3), (221, 0, 47), (222, 3, 3), (223, 0, 179), (224, 3, 3), (225, 0, 185), (245, 0, 0)], []), [(.inr (some (.inl (ck_one 1))), 249, ([], [], [])), (.inr (some (.inl (ck_one 0))), 249, ([], [], [(224, 3, 3, (1, 31, [])), (1, 15, 15, ck_one 1)]))])
set_option maxRecDepth 100000 in
theorem pl_h200_e : ck_ok p2_OL none [] [(213, [pl_s834])] 212 [] 92 pl_h200 = true := by decide +kernel
theorem pl_h200_s {X : Int → Int} {LX : Nat} : ck_Ok p2_OL X LX 212 pl_h200 := ck_ok_s ⟨pl_nmu, ck_E1 (ck_S1 pl_s834_s ck_S0) ck_E0⟩ ck_X0 ck_l0 pl_h200_e
set_option maxRecDepth 100000 in
/-- GlacierMailLaw.watchman -/
def pl_h201 : ck_Sum := ((8, 1, 6), 249, [.inr (.inr (.inl 1)), .inl ((-2147483648), (-1), []), .inl (0, 1, []), .inr (.inr (.inl 245))], ([], [], []), ([], []), [(.inr (some (.inl (ck_one 1))), 249, ([], [], []))])
set_option maxRecDepth 100000 in
theorem pl_h201_e : ck_ok p2_OL none [] [(218, [pl_s835])] 217 [] 88 pl_h201 = true := by decide +kernel
theorem pl_h201_s {X : Int → Int} {LX : Nat} : ck_Ok p2_OL X LX 217 pl_h201 := ck_ok_s ⟨pl_nmu, ck_E1 (ck_S1 pl_s835_s ck_S0) ck_E0⟩ ck_X0 ck_l0 pl_h201_e
set_option maxRecDepth 100000 in
/-- GlacierMailLaw.watchman -/
def pl_h202 : ck_Sum := ((8, 1, 6), 249, [.inr (.inr (.inl 1)), .inl (31, 2147483647, []), .inl (0, 1, []), .inr (.inr (.inl 245))], ([], [], []), ([], []), [(.inr (some (.inl (ck_one 1))), 249, ([], [], []))])
set_option maxRecDepth 100000 in
theorem pl_h202_e : ck_ok p2_OL none [] [(218, [pl_s836])] 217 [] 88 pl_h202 = true := by decide +kernel
theorem pl_h202_s {X : Int → Int} {LX : Nat} : ck_Ok p2_OL X LX 217 pl_h202 := ck_ok_s ⟨pl_nmu, ck_E1 (ck_S1 pl_s836_s ck_S0) ck_E0⟩ ck_X0 ck_l0 pl_h202_e
