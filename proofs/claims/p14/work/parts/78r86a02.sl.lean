/-! EVERY CALL OF THE CLASS ENDS, under a law (laid by wip/am/p2l.py). -/
set_option maxRecDepth 100000 in
/-- GlacierMail$Ice.setFacts -/
def pl_s180 : ck_Sum := ((1, 0, 0), 249, [.inr (.inr (.inl 200)), .inl ((-2147483648), 2147483647, []), .inl ((-2147483648), 2147483647, []), .inl ((-2147483648), 2147483647, []), .inl (ck_one 0)], ([], [], []), ([(204, 0, 9)], []), [(.inr none, 249, ([], [], [(204, 9, 9, (0, 1, [])), (204, 8, 8, (0, 1, [])), (204, 7, 7, ck_one 0), (204, 6, 6, ck_one 0), (204, 5, 5, ck_one 0), (204, 4, 4, ck_one 0), (204, 3, 3, (0, 9, []))]))])
set_option maxRecDepth 100000 in
theorem pl_s180_e : ck_ok p2_OL none [] [(34, [pl_s179])] 39 [] 208 pl_s180 = true := by decide +kernel
theorem pl_s180_s {X : Int → Int} {LX : Nat} : ck_Ok p2_OL X LX 39 pl_s180 := ck_ok_s ⟨pl_nmu, ck_E1 (ck_S1 pl_s179_s ck_S0) ck_E0⟩ ck_X0 ck_l0 pl_s180_e
set_option maxRecDepth 100000 in
/-- GlacierMail$Ice.setFacts -/
def pl_s181 : ck_Sum := ((1, 0, 0), 249, [.inr (.inr (.inl 200)), .inl ((-2147483648), 2147483647, []), .inl ((-2147483648), 2147483647, []), .inl ((-2147483648), 2147483647, []), .inl ((-1), 98, [])], ([], [], []), ([(204, 0, 9)], []), [(.inr none, 249, ([], [], [(204, 9, 9, (0, 1, [])), (204, 8, 8, (0, 1, [])), (204, 7, 7, ck_one 0), (204, 6, 6, ck_one 0), (204, 5, 5, ck_one 0), (204, 4, 4, ((-1), 98, [])), (204, 3, 3, (0, 9, []))]))])
set_option maxRecDepth 100000 in
theorem pl_s181_e : ck_ok p2_OL none [] [(34, [pl_s179])] 39 [] 208 pl_s181 = true := by decide +kernel
theorem pl_s181_s {X : Int → Int} {LX : Nat} : ck_Ok p2_OL X LX 39 pl_s181 := ck_ok_s ⟨pl_nmu, ck_E1 (ck_S1 pl_s179_s ck_S0) ck_E0⟩ ck_X0 ck_l0 pl_s181_e
set_option maxRecDepth 100000 in
/-- GlacierMail$Rows.size -/
def pl_s182 : ck_Sum := ((0, 0, 0), 249, [.inr (.inr (.inl 248))], ([], [], []), ([], []), [(.inr (some (.inl (0, 12, []))), 249, ([], [], []))])
set_option maxRecDepth 100000 in
theorem pl_s182_e : ck_ok p2_OL none [] [] 9 [] 76 pl_s182 = true := by decide +kernel
theorem pl_s182_s {X : Int → Int} {LX : Nat} : ck_Ok p2_OL X LX 9 pl_s182 := ck_ok_s ⟨pl_nmu, ck_E0⟩ ck_X0 ck_l0 pl_s182_e
set_option maxRecDepth 100000 in
/-- GlacierMail$Rows.get -/
def pl_s183 : ck_Sum := ((0, 0, 0), 249, [.inr (.inr (.inl 248)), .inl ((-2147483648), 2147483647, []), .inl ((-2147483648), 2147483647, [])], ([], [], []), ([], []), [(.inr (some (.inl ((-2147483648), 2147483647, []))), 249, ([], [], []))])
set_option maxRecDepth 100000 in
theorem pl_s183_e : ck_ok p2_OL none [] [] 10 [] 114 pl_s183 = true := by decide +kernel
theorem pl_s183_s {X : Int → Int} {LX : Nat} : ck_Ok p2_OL X LX 10 pl_s183 := ck_ok_s ⟨pl_nmu, ck_E0⟩ ck_X0 ck_l0 pl_s183_e
set_option maxRecDepth 100000 in
/-- GlacierMail$Law.faster -/
def pl_s185 : ck_Sum := ((1, 0, 0), 249, [.inr (.inr (.inl 246)), .inr (.inr (.inl 204))], ([], [], []), ([], []), [(.inr (some (.inl ((-2147483648), 2147483647, []))), 249, ([], [], []))])
set_option maxRecDepth 100000 in
theorem pl_s185_e : ck_ok p2_OL none [] [(9, [pl_s182]), (10, [pl_s183]), (41, [lh_S])] 40 [(4, [some (.inr (.inr (.inl 246))), some (.inr (.inr (.inl 204))), some (.inl ((-2147483648), 2147483647, [])), some (.inl (0, 12, [])), none], ([], [], []), 100, .inl 3, true)] 258 pl_s185 = true := by decide +kernel
theorem pl_s185_s {X : Int → Int} {LX : Nat} : ck_Ok p2_OL X LX 40 pl_s185 := ck_ok_s ⟨pl_nmu, ck_E1 (ck_S1 pl_s182_s ck_S0) (ck_E1 (ck_S1 pl_s183_s ck_S0) (ck_E1 (ck_S1 lh_S_s ck_S0) ck_E0))⟩ ck_X0 ck_l0 pl_s185_e
set_option maxRecDepth 100000 in
/-- GlacierMail$Ice.keepFlow -/
def pl_s186 : ck_Sum := ((0, 0, 0), 249, [.inr (.inr (.inl 200)), .inl ((-2147483648), 2147483647, []), .inl (0, 30, [])], ([], [], []), ([(205, 0, 14849)], []), [(.inr none, 249, ([], [], []))])
set_option maxRecDepth 100000 in
def pl_s186a : ck_Sum := ((0, 0, 0), 249, [.inr (.inr (.inl 200)), .inl ((-2147483648), (-1), []), .inl (0, 30, [])], ([], [], []), ([(205, 0, 14849)], []), [(.inr none, 249, ([], [], []))])
set_option maxRecDepth 100000 in
def pl_s186b : ck_Sum := ((0, 0, 0), 249, [.inr (.inr (.inl 200)), .inl (0, 2147483647, []), .inl (0, 30, [])], ([], [], []), ([(205, 0, 14849)], []), [(.inr none, 249, ([], [], []))])
set_option maxRecDepth 100000 in
theorem pl_s186a_e : ck_ok p2_OL none [] [] 42 [] 154 pl_s186a = true := by decide +kernel
set_option maxRecDepth 100000 in
theorem pl_s186b_e : ck_ok p2_OL none [] [] 42 [] 154 pl_s186b = true := by decide +kernel
/-- a number below 0, or not: its quotient is looked at in both -/
theorem pl_s186_s {X : Int → Int} {LX : Nat} : ck_Ok p2_OL X LX 42 pl_s186 := by
  have ha : ck_Ok p2_OL X LX 42 pl_s186a := ck_ok_s ⟨pl_nmu, ck_E0⟩ ck_X0 ck_l0 pl_s186a_e
  have hb : ck_Ok p2_OL X LX 42 pl_s186b := ck_ok_s ⟨pl_nmu, ck_E0⟩ ck_X0 ck_l0 pl_s186b_e
  intro d σ vs n K R M hd hn hvs hnm hF hf
  have hs : ck_gas σ pl_s186a.2.2.1 vs ∨ ck_gas σ pl_s186b.2.2.1 vs := by
    obtain ⟨v0, w0, rfl, g0, g1⟩ : ∃ v ws, vs = v :: ws ∧ ck_ga σ (.inr (.inr (.inl 200))) v ∧ ck_gas σ (.inl ((-2147483648), 2147483647, []) :: [.inl (0, 30, [])]) ws := hvs
    obtain ⟨v1, w1, rfl, ⟨x, rfl, rx, x1, x2, x3⟩, g2⟩ : ∃ v ws, w0 = v :: ws ∧ ck_ga σ (.inl ((-2147483648), 2147483647, [])) v ∧ ck_gas σ [.inl (0, 30, [])] ws := g1
    by_cases hx : x < 0
    · have h1 : ∃ v ws, gm_vi x :: w1 = v :: ws ∧ ck_ga σ (.inl ((-2147483648), (-1), [])) v ∧ ck_gas σ [.inl (0, 30, [])] ws := ⟨_, _, rfl, ⟨x, rfl, rx, x1, by show x ≤ -1; omega, x3⟩, g2⟩
      have h2 : ∃ v ws, v0 :: gm_vi x :: w1 = v :: ws ∧ ck_ga σ (.inr (.inr (.inl 200))) v ∧ ck_gas σ (.inl ((-2147483648), (-1), []) :: [.inl (0, 30, [])]) ws := ⟨_, _, rfl, g0, h1⟩
      exact Or.inl h2
    · have h1 : ∃ v ws, gm_vi x :: w1 = v :: ws ∧ ck_ga σ (.inl (0, 2147483647, [])) v ∧ ck_gas σ [.inl (0, 30, [])] ws := ⟨_, _, rfl, ⟨x, rfl, rx, by show 0 ≤ x; omega, x2, x3⟩, g2⟩
      have h2 : ∃ v ws, v0 :: gm_vi x :: w1 = v :: ws ∧ ck_ga σ (.inr (.inr (.inl 200))) v ∧ ck_gas σ (.inl (0, 2147483647, []) :: [.inl (0, 30, [])]) ws := ⟨_, _, rfl, g0, h1⟩
      exact Or.inr h2
  rcases hs with h | h
  · exact ha d σ vs n K R M hd hn h hnm hF hf
  · exact hb d σ vs n K R M hd hn h hnm hF hf
set_option maxRecDepth 100000 in
/-- GlacierMail$Ice.flowAt -/
def pl_s187 : ck_Sum := ((2, 0, 0), 249, [.inr (.inr (.inl 200)), .inl ((-2147483648), 2147483647, []), .inl ((-2147483648), 2147483647, []), .inl ((-2147483648), 2147483647, [])], ([], [(3, 8, 246)], []), ([(200, 6, 6), (204, 0, 9), (205, 0, 14849)], []), [(.inr (some (.inl (0, 30, []))), 249, ([], [], [(200, 6, 6, ck_one 0)]))])
set_option maxRecDepth 100000 in
theorem pl_s187_e : ck_ok p2_OL none [] [(36, [pl_s176]), (37, [pl_s178]), (39, [pl_s180, pl_s181]), (40, [pl_s185]), (42, [pl_s186])] 35 [] 172 pl_s187 = true := by decide +kernel
theorem pl_s187_s {X : Int → Int} {LX : Nat} : ck_Ok p2_OL X LX 35 pl_s187 := ck_ok_s ⟨pl_nmu, ck_E1 (ck_S1 pl_s176_s ck_S0) (ck_E1 (ck_S1 pl_s178_s ck_S0) (ck_E1 (ck_S1 pl_s180_s (ck_S1 pl_s181_s ck_S0)) (ck_E1 (ck_S1 pl_s185_s ck_S0) (ck_E1 (ck_S1 pl_s186_s ck_S0) ck_E0))))⟩ ck_X0 ck_l0 pl_s187_e
set_option maxRecDepth 100000 in
/-- GlacierMail.flow -/
def pl_s188 : ck_Sum := ((8, 2, 12), 249, [.inr (.inr (.inl 1)), .inl (0, 5, []), .inl (0, 98, []), .inl (0, 299, [])], ([], [(3, 8, 246)], []), ([(200, 6, 6), (204, 0, 9), (205, 0, 14849)], []), [(.inl 3, 249, ([], [], [])), (.inr (some (.inl (0, 30, []))), 249, ([], [], [(200, 6, 6, ck_one 0)]))])
set_option maxRecDepth 100000 in
theorem pl_s188_e : ck_ok p2_OL none [] [(132, [pl_s159]), (134, [pl_s167]), (129, [pl_s149]), (35, [pl_s187])] 136 [] 102 pl_s188 = true := by decide +kernel
theorem pl_s188_s {X : Int → Int} {LX : Nat} : ck_Ok p2_OL X LX 136 pl_s188 := ck_ok_s ⟨pl_nmu, ck_E1 (ck_S1 pl_s159_s ck_S0) (ck_E1 (ck_S1 pl_s167_s ck_S0) (ck_E1 (ck_S1 pl_s149_s ck_S0) (ck_E1 (ck_S1 pl_s187_s ck_S0) ck_E0)))⟩ ck_X0 ck_l0 pl_s188_e
set_option maxRecDepth 100000 in
/-- GlacierMail$Rows.size -/
def pl_s189 : ck_Sum := ((0, 0, 0), 249, [.inr (.inr (.inl 8))], ([], [], []), ([], []), [(.inr (some (.inl (0, 8, []))), 249, ([], [], []))])
set_option maxRecDepth 100000 in
theorem pl_s189_e : ck_ok p2_OL none [] [] 9 [] 76 pl_s189 = true := by decide +kernel
theorem pl_s189_s {X : Int → Int} {LX : Nat} : ck_Ok p2_OL X LX 9 pl_s189 := ck_ok_s ⟨pl_nmu, ck_E0⟩ ck_X0 ck_l0 pl_s189_e
set_option maxRecDepth 100000 in
/-- GlacierMail.need -/
def pl_s190 : ck_Sum := ((6, 1, 6), 249, [.inr (.inr (.inl 1)), .inl ((-2147483648), (-1), []), .inl (0, 8, [])], ([], [], []), ([], []), [(.inl 3, 249, ([], [], []))])
set_option maxRecDepth 100000 in
theorem pl_s190_e : ck_ok p2_OL none [] [] 133 [] 76 pl_s190 = true := by decide +kernel
theorem pl_s190_s {X : Int → Int} {LX : Nat} : ck_Ok p2_OL X LX 133 pl_s190 := ck_ok_s ⟨pl_nmu, ck_E0⟩ ck_X0 ck_l0 pl_s190_e
set_option maxRecDepth 100000 in
/-- GlacierMail.needPerson -/
def pl_s191 : ck_Sum := ((7, 1, 6), 249, [.inr (.inr (.inl 1)), .inl ((-2147483648), (-1), [])], ([], [], []), ([], []), [(.inl 3, 249, ([], [], []))])
set_option maxRecDepth 100000 in
theorem pl_s191_e : ck_ok p2_OL none [] [(9, [pl_s189]), (133, [pl_s190])] 139 [] 84 pl_s191 = true := by decide +kernel
theorem pl_s191_s {X : Int → Int} {LX : Nat} : ck_Ok p2_OL X LX 139 pl_s191 := ck_ok_s ⟨pl_nmu, ck_E1 (ck_S1 pl_s189_s ck_S0) (ck_E1 (ck_S1 pl_s190_s ck_S0) ck_E0)⟩ ck_X0 ck_l0 pl_s191_e
set_option maxRecDepth 100000 in
/-- GlacierMail.person -/
def pl_s192 : ck_Sum := ((8, 1, 6), 249, [.inr (.inr (.inl 1)), .inl ((-2147483648), (-1), []), .inl ((-2147483648), 2147483647, [])], ([], [], []), ([], []), [(.inl 3, 249, ([], [], []))])
set_option maxRecDepth 100000 in
theorem pl_s192_e : ck_ok p2_OL none [] [(139, [pl_s191])] 138 [] 76 pl_s192 = true := by decide +kernel
theorem pl_s192_s {X : Int → Int} {LX : Nat} : ck_Ok p2_OL X LX 138 pl_s192 := ck_ok_s ⟨pl_nmu, ck_E1 (ck_S1 pl_s191_s ck_S0) ck_E0⟩ ck_X0 ck_l0 pl_s192_e
set_option maxRecDepth 100000 in
/-- GlacierMail.need -/
def pl_s193 : ck_Sum := ((6, 1, 6), 249, [.inr (.inr (.inl 1)), .inl (8, 2147483647, []), .inl (0, 8, [])], ([], [], []), ([], []), [(.inl 3, 249, ([], [], []))])
set_option maxRecDepth 100000 in
theorem pl_s193_e : ck_ok p2_OL none [] [] 133 [] 82 pl_s193 = true := by decide +kernel
theorem pl_s193_s {X : Int → Int} {LX : Nat} : ck_Ok p2_OL X LX 133 pl_s193 := ck_ok_s ⟨pl_nmu, ck_E0⟩ ck_X0 ck_l0 pl_s193_e
set_option maxRecDepth 100000 in
/-- GlacierMail.needPerson -/
def pl_s194 : ck_Sum := ((7, 1, 6), 249, [.inr (.inr (.inl 1)), .inl (8, 2147483647, [])], ([], [], []), ([], []), [(.inl 3, 249, ([], [], []))])
set_option maxRecDepth 100000 in
theorem pl_s194_e : ck_ok p2_OL none [] [(9, [pl_s189]), (133, [pl_s193])] 139 [] 84 pl_s194 = true := by decide +kernel
theorem pl_s194_s {X : Int → Int} {LX : Nat} : ck_Ok p2_OL X LX 139 pl_s194 := ck_ok_s ⟨pl_nmu, ck_E1 (ck_S1 pl_s189_s ck_S0) (ck_E1 (ck_S1 pl_s193_s ck_S0) ck_E0)⟩ ck_X0 ck_l0 pl_s194_e
set_option maxRecDepth 100000 in
/-- GlacierMail.person -/
def pl_s195 : ck_Sum := ((8, 1, 6), 249, [.inr (.inr (.inl 1)), .inl (8, 2147483647, []), .inl ((-2147483648), 2147483647, [])], ([], [], []), ([], []), [(.inl 3, 249, ([], [], []))])
set_option maxRecDepth 100000 in
theorem pl_s195_e : ck_ok p2_OL none [] [(139, [pl_s194])] 138 [] 76 pl_s195 = true := by decide +kernel
theorem pl_s195_s {X : Int → Int} {LX : Nat} : ck_Ok p2_OL X LX 138 pl_s195 := ck_ok_s ⟨pl_nmu, ck_E1 (ck_S1 pl_s194_s ck_S0) ck_E0⟩ ck_X0 ck_l0 pl_s195_e
set_option maxRecDepth 100000 in
/-- GlacierMail.need -/
def pl_s196 : ck_Sum := ((6, 1, 6), 249, [.inr (.inr (.inl 1)), .inl (0, 7, []), .inl (0, 8, [])], ([], [], []), ([], []), [(.inr none, 249, ([], [], [])), (.inl 3, 249, ([], [], []))])
set_option maxRecDepth 100000 in
theorem pl_s196_e : ck_ok p2_OL none [] [] 133 [] 82 pl_s196 = true := by decide +kernel
theorem pl_s196_s {X : Int → Int} {LX : Nat} : ck_Ok p2_OL X LX 133 pl_s196 := ck_ok_s ⟨pl_nmu, ck_E0⟩ ck_X0 ck_l0 pl_s196_e
set_option maxRecDepth 100000 in
/-- GlacierMail.needPerson -/
def pl_s197 : ck_Sum := ((7, 1, 6), 249, [.inr (.inr (.inl 1)), .inl (0, 7, [])], ([], [], []), ([], []), [(.inl 3, 249, ([], [], [])), (.inr none, 249, ([], [], []))])
set_option maxRecDepth 100000 in
theorem pl_s197_e : ck_ok p2_OL none [] [(9, [pl_s189]), (133, [pl_s196])] 139 [] 86 pl_s197 = true := by decide +kernel
theorem pl_s197_s {X : Int → Int} {LX : Nat} : ck_Ok p2_OL X LX 139 pl_s197 := ck_ok_s ⟨pl_nmu, ck_E1 (ck_S1 pl_s189_s ck_S0) (ck_E1 (ck_S1 pl_s196_s ck_S0) ck_E0)⟩ ck_X0 ck_l0 pl_s197_e
set_option maxRecDepth 100000 in
/-- GlacierMail.person -/
def pl_s198 : ck_Sum := ((8, 2, 12), 249, [.inr (.inr (.inl 1)), .inl (0, 7, []), .inl ((-2147483648), (-1), [])], ([], [], []), ([], []), [(.inl 3, 249, ([], [], [])), (.inl 4, 249, ([], [], []))])
set_option maxRecDepth 100000 in
theorem pl_s198_e : ck_ok p2_OL none [] [(139, [pl_s197])] 138 [] 82 pl_s198 = true := by decide +kernel
theorem pl_s198_s {X : Int → Int} {LX : Nat} : ck_Ok p2_OL X LX 138 pl_s198 := ck_ok_s ⟨pl_nmu, ck_E1 (ck_S1 pl_s197_s ck_S0) ck_E0⟩ ck_X0 ck_l0 pl_s198_e
set_option maxRecDepth 100000 in
/-- GlacierMail.person -/
def pl_s199 : ck_Sum := ((8, 2, 12), 249, [.inr (.inr (.inl 1)), .inl (0, 7, []), .inl (10, 2147483647, [])], ([], [], []), ([], []), [(.inl 3, 249, ([], [], [])), (.inl 4, 249, ([], [], []))])
set_option maxRecDepth 100000 in
theorem pl_s199_e : ck_ok p2_OL none [] [(139, [pl_s197])] 138 [] 82 pl_s199 = true := by decide +kernel
theorem pl_s199_s {X : Int → Int} {LX : Nat} : ck_Ok p2_OL X LX 138 pl_s199 := ck_ok_s ⟨pl_nmu, ck_E1 (ck_S1 pl_s197_s ck_S0) ck_E0⟩ ck_X0 ck_l0 pl_s199_e
set_option maxRecDepth 100000 in
/-- GlacierMail$Rows.size -/
def pl_s200 : ck_Sum := ((0, 0, 0), 249, [.inr (.inr (.inl 10))], ([], [], []), ([], []), [(.inr (some (.inl (0, 24, []))), 249, ([], [], []))])
set_option maxRecDepth 100000 in
theorem pl_s200_e : ck_ok p2_OL none [] [] 9 [] 76 pl_s200 = true := by decide +kernel
theorem pl_s200_s {X : Int → Int} {LX : Nat} : ck_Ok p2_OL X LX 9 pl_s200 := ck_ok_s ⟨pl_nmu, ck_E0⟩ ck_X0 ck_l0 pl_s200_e
set_option maxRecDepth 100000 in
/-- GlacierMail$Rows.size -/
def pl_s201 : ck_Sum := ((0, 0, 0), 249, [.inr (.inr (.inl 220))], ([], [], []), ([], []), [(.inr (some (.inl (0, 24, []))), 249, ([], [], []))])
set_option maxRecDepth 100000 in
theorem pl_s201_e : ck_ok p2_OL none [] [] 9 [] 76 pl_s201 = true := by decide +kernel
theorem pl_s201_s {X : Int → Int} {LX : Nat} : ck_Ok p2_OL X LX 9 pl_s201 := ck_ok_s ⟨pl_nmu, ck_E0⟩ ck_X0 ck_l0 pl_s201_e
set_option maxRecDepth 100000 in
/-- java/util/Arrays.fill -/
def pl_s202 : ck_Sum := ((0, 0, 0), 249, [.inr (.inr (.inl 221)), .inl (ck_one 0)], ([], [], []), ([(221, 0, 47)], []), [(.inr none, 249, ([], [], []))])
set_option maxRecDepth 100000 in
theorem pl_s202_e : ck_ok p2_OL none [] [] 8 [(5, [some (.inr (.inr (.inl 221))), some (.inl (ck_one 0)), some (.inl (0, 48, [])), some (.inl (ck_one 48))], ([], [], []), 100, .inl 2, true)] 130 pl_s202 = true := by decide +kernel
theorem pl_s202_s {X : Int → Int} {LX : Nat} : ck_Ok p2_OL X LX 8 pl_s202 := ck_ok_s ⟨pl_nmu, ck_E0⟩ ck_X0 ck_l0 pl_s202_e
set_option maxRecDepth 100000 in
/-- GlacierMail$Rows.reset -/
def pl_s203 : ck_Sum := ((1, 0, 0), 249, [.inr (.inr (.inl 220)), .inl (0, 24, [])], ([], [], []), ([(220, 3, 3), (221, 0, 47)], []), [(.inr none, 249, ([], [], []))])
set_option maxRecDepth 100000 in
theorem pl_s203_e : ck_ok p2_OL none [] [(8, [pl_s202])] 25 [] 96 pl_s203 = true := by decide +kernel
theorem pl_s203_s {X : Int → Int} {LX : Nat} : ck_Ok p2_OL X LX 25 pl_s203 := ck_ok_s ⟨pl_nmu, ck_E1 (ck_S1 pl_s202_s ck_S0) ck_E0⟩ ck_X0 ck_l0 pl_s203_e
set_option maxRecDepth 100000 in
/-- GlacierMail$Rows.get -/
def pl_s204 : ck_Sum := ((0, 0, 0), 249, [.inr (.inr (.inl 10)), .inl ((-2147483648), 2147483647, []), .inl ((-2147483648), 2147483647, [])], ([], [], []), ([], []), [(.inr (some (.inl ((-1), 299, []))), 249, ([], [], []))])
set_option maxRecDepth 100000 in
theorem pl_s204_e : ck_ok p2_OL none [] [] 10 [] 114 pl_s204 = true := by decide +kernel
theorem pl_s204_s {X : Int → Int} {LX : Nat} : ck_Ok p2_OL X LX 10 pl_s204 := ck_ok_s ⟨pl_nmu, ck_E0⟩ ck_X0 ck_l0 pl_s204_e
set_option maxRecDepth 100000 in
/-- GlacierMail$State.isRock -/
def pl_s205 : ck_Sum := ((1, 0, 0), 249, [.inr (.inr (.inl 3)), .inl (0, 23, [])], ([], [], []), ([], []), [(.inr (some (.inl (ck_one 0))), 249, ([], [], [])), (.inr (some (.inl (ck_one 1))), 249, ([], [], []))])
set_option maxRecDepth 100000 in
theorem pl_s205_e : ck_ok p2_OL none [] [(10, [pl_s204])] 28 [] 90 pl_s205 = true := by decide +kernel
theorem pl_s205_s {X : Int → Int} {LX : Nat} : ck_Ok p2_OL X LX 28 pl_s205 := ck_ok_s ⟨pl_nmu, ck_E1 (ck_S1 pl_s204_s ck_S0) ck_E0⟩ ck_X0 ck_l0 pl_s205_e
set_option maxRecDepth 100000 in
/-- GlacierMail$Way.start -/
def pl_s206 : ck_Sum := ((0, 0, 0), 249, [.inr (.inr (.inl 206)), .inl ((-1), 299, []), .inl ((-1), 299, []), .inl ((-1), 299, []), .inl (ck_one 0)], ([], [], []), ([(206, 2, 8)], []), [(.inr none, 249, ([], [], [(206, 8, 8, ck_one 0), (206, 6, 6, ck_one 0), (206, 4, 4, ck_one (-1)), (206, 3, 3, ck_one 0), (206, 7, 7, ((-1), 299, [])), (206, 5, 5, ((-1), 299, [])), (206, 2, 2, ((-1), 299, []))]))])
set_option maxRecDepth 100000 in
theorem pl_s206_e : ck_ok p2_OL none [] [] 29 [] 114 pl_s206 = true := by decide +kernel
theorem pl_s206_s {X : Int → Int} {LX : Nat} : ck_Ok p2_OL X LX 29 pl_s206 := ck_ok_s ⟨pl_nmu, ck_E0⟩ ck_X0 ck_l0 pl_s206_e
set_option maxRecDepth 100000 in
/-- GlacierMail$Way.start -/
def pl_s207 : ck_Sum := ((0, 0, 0), 249, [.inr (.inr (.inl 206)), .inl ((-1), 299, []), .inl ((-1), 299, []), .inl ((-1), 299, []), .inl (ck_one 1)], ([], [], []), ([(206, 2, 8)], []), [(.inr none, 249, ([], [], [(206, 8, 8, ck_one 0), (206, 6, 6, ck_one 0), (206, 4, 4, ck_one (-1)), (206, 3, 3, ck_one 1), (206, 7, 7, ((-1), 299, [])), (206, 5, 5, ((-1), 299, [])), (206, 2, 2, ((-1), 299, []))]))])
set_option maxRecDepth 100000 in
theorem pl_s207_e : ck_ok p2_OL none [] [] 29 [] 114 pl_s207 = true := by decide +kernel
theorem pl_s207_s {X : Int → Int} {LX : Nat} : ck_Ok p2_OL X LX 29 pl_s207 := ck_ok_s ⟨pl_nmu, ck_E0⟩ ck_X0 ck_l0 pl_s207_e
set_option maxRecDepth 100000 in
/-- GlacierMail$Way.startLetter -/
def pl_s208 : ck_Sum := ((2, 0, 0), 249, [.inr (.inr (.inl 206)), .inl (0, 23, [])], ([], [], []), ([(206, 2, 8)], []), [(.inr none, 249, ([], [], [(206, 8, 8, ck_one 0), (206, 6, 6, ck_one 0), (206, 4, 4, ck_one (-1)), (206, 7, 7, ((-1), 299, [])), (206, 5, 5, ((-1), 299, [])), (206, 2, 2, ((-1), 299, []))]))])
set_option maxRecDepth 100000 in
theorem pl_s208_e : ck_ok p2_OL none [] [(10, [pl_s204]), (28, [pl_s205]), (29, [pl_s206, pl_s207])] 27 [] 116 pl_s208 = true := by decide +kernel
theorem pl_s208_s {X : Int → Int} {LX : Nat} : ck_Ok p2_OL X LX 27 pl_s208 := ck_ok_s ⟨pl_nmu, ck_E1 (ck_S1 pl_s204_s ck_S0) (ck_E1 (ck_S1 pl_s205_s ck_S0) (ck_E1 (ck_S1 pl_s206_s (ck_S1 pl_s207_s ck_S0)) ck_E0))⟩ ck_X0 ck_l0 pl_s208_e
set_option maxRecDepth 100000 in
/-- GlacierMail$Way.isOut -/
def pl_s209 : ck_Sum := ((0, 0, 0), 249, [.inr (.inr (.inl 206))], ([], [], []), ([], []), [(.inr (some (.inl (ck_one 0))), 249, ([], [], [(206, 5, 5, ((-2147483648), 98, []))])), (.inr (some (.inl (ck_one 1))), 249, ([], [], [(206, 5, 5, (10, 2147483647, []))]))])
set_option maxRecDepth 100000 in
theorem pl_s209_e : ck_ok p2_OL none [] [] 31 [] 88 pl_s209 = true := by decide +kernel
theorem pl_s209_s {X : Int → Int} {LX : Nat} : ck_Ok p2_OL X LX 31 pl_s209 := ck_ok_s ⟨pl_nmu, ck_E0⟩ ck_X0 ck_l0 pl_s209_e
set_option maxRecDepth 100000 in
/-- GlacierMail$Way.deepAfter -/
def pl_s210 : ck_Sum := ((1, 0, 0), 249, [.inr (.inr (.inl 206))], ([], [], []), ([], []), [(.inr (some (.inl (0, 99, []))), 249, ([], [], []))])
set_option maxRecDepth 100000 in
theorem pl_s210_e : ck_ok p2_OL none [] [(34, [pl_s179])] 33 [] 110 pl_s210 = true := by decide +kernel
theorem pl_s210_s {X : Int → Int} {LX : Nat} : ck_Ok p2_OL X LX 33 pl_s210 := ck_ok_s ⟨pl_nmu, ck_E1 (ck_S1 pl_s179_s ck_S0) ck_E0⟩ ck_X0 ck_l0 pl_s210_e
set_option maxRecDepth 100000 in
/-- GlacierMail$Ice.floodsIn -/
def pl_s211 : ck_Sum := ((0, 0, 0), 249, [.inr (.inr (.inl 200)), .inl ((-2147483648), 2147483647, [])], ([], [], []), ([], []), [(.inr (some (.inl (ck_one 0))), 249, ([], [], [])), (.inr (some (.inl ((-2147483648), 2147483647, []))), 249, ([], [], []))])
set_option maxRecDepth 100000 in
theorem pl_s211_e : ck_ok p2_OL none [] [] 44 [] 92 pl_s211 = true := by decide +kernel
theorem pl_s211_s {X : Int → Int} {LX : Nat} : ck_Ok p2_OL X LX 44 pl_s211 := ck_ok_s ⟨pl_nmu, ck_E0⟩ ck_X0 ck_l0 pl_s211_e
set_option maxRecDepth 100000 in
/-- GlacierMail$Way.takeFloods -/
def pl_s212 : ck_Sum := ((1, 0, 0), 249, [.inr (.inr (.inl 206))], ([], [], []), ([(206, 5, 5), (206, 8, 8)], []), [(.inr none, 249, ([], [], []))])
set_option maxRecDepth 100000 in
theorem pl_s212_e : ck_ok p2_OL none [] [(44, [pl_s211]), (9, [pl_s137]), (10, [pl_s138])] 43 [(22, [some (.inr (.inr (.inl 206))), some (.inr (.inr (.inl 6))), some (.inl ((-2147483648), 2147483647, [])), some (.inl (0, 9, [])), none], ([], [], []), 100, .inl 3, true)] 290 pl_s212 = true := by decide +kernel
theorem pl_s212_s {X : Int → Int} {LX : Nat} : ck_Ok p2_OL X LX 43 pl_s212 := ck_ok_s ⟨pl_nmu, ck_E1 (ck_S1 pl_s211_s ck_S0) (ck_E1 (ck_S1 pl_s137_s ck_S0) (ck_E1 (ck_S1 pl_s138_s ck_S0) ck_E0))⟩ ck_X0 ck_l0 pl_s212_e
set_option maxRecDepth 100000 in
/-- GlacierMail$Way.step -/
def pl_s213 : ck_Sum := ((3, 0, 0), 249, [.inr (.inr (.inl 206))], ([], [(3, 8, 246)], []), ([(200, 6, 6), (204, 0, 9), (205, 0, 14849), (206, 5, 8)], []), [(.inr none, 249, ([], [], []))])
set_option maxRecDepth 100000 in
theorem pl_s213_e : ck_ok p2_OL none [] [(31, [pl_s209]), (33, [pl_s210]), (35, [pl_s187]), (43, [pl_s212])] 32 [] 134 pl_s213 = true := by decide +kernel
theorem pl_s213_s {X : Int → Int} {LX : Nat} : ck_Ok p2_OL X LX 32 pl_s213 := ck_ok_s ⟨pl_nmu, ck_E1 (ck_S1 pl_s209_s ck_S0) (ck_E1 (ck_S1 pl_s210_s ck_S0) (ck_E1 (ck_S1 pl_s187_s ck_S0) (ck_E1 (ck_S1 pl_s212_s ck_S0) ck_E0)))⟩ ck_X0 ck_l0 pl_s213_e
set_option maxRecDepth 100000 in
/-- GlacierMail$Way.runOut -/
def pl_s214 : ck_Sum := ((4, 0, 0), 249, [.inr (.inr (.inl 206)), .inl (0, 299, [])], ([], [(3, 8, 246)], []), ([(200, 6, 6), (204, 0, 9), (205, 0, 14849), (206, 5, 8)], []), [(.inr (some (.inl ((-2147483648), 299, []))), 249, ([], [], []))])
set_option maxRecDepth 100000 in
theorem pl_s214_e : ck_ok p2_OL none [] [(31, [pl_s209]), (32, [pl_s213])] 30 [(5, [some (.inr (.inr (.inl 206))), some (.inl (0, 299, [])), some (.inl ((-2147483648), 2147483647, []))], ([], [(3, 8, 246)], []), 100, .inl 2, true)] 134 pl_s214 = true := by decide +kernel
theorem pl_s214_s {X : Int → Int} {LX : Nat} : ck_Ok p2_OL X LX 30 pl_s214 := ck_ok_s ⟨pl_nmu, ck_E1 (ck_S1 pl_s209_s ck_S0) (ck_E1 (ck_S1 pl_s213_s ck_S0) ck_E0)⟩ ck_X0 ck_l0 pl_s214_e
set_option maxRecDepth 100000 in
/-- GlacierMail$Rows.put -/
def pl_s215 : ck_Sum := ((0, 0, 0), 249, [.inr (.inr (.inl 220)), .inl (0, 23, []), .inl (ck_one 0), .inl ((-2147483648), 299, [])], ([], [], []), ([(221, 0, 0), (221, 2, 2), (221, 4, 4), (221, 6, 6), (221, 8, 8), (221, 10, 10), (221, 12, 12), (221, 14, 14), (221, 16, 16), (221, 18, 18), (221, 20, 20), (221, 22, 22), (221, 24, 24), (221, 26, 26), (221, 28, 28), (221, 30, 30), (221, 32, 32), (221, 34, 34), (221, 36, 36), (221, 38, 38), (221, 40, 40), (221, 42, 42), (221, 44, 44), (221, 46, 46)], []), [(.inr none, 249, ([], [], []))])
set_option maxRecDepth 100000 in
theorem pl_s215_e : ck_ok p2_OL none [] [] 45 [] 116 pl_s215 = true := by decide +kernel
theorem pl_s215_s {X : Int → Int} {LX : Nat} : ck_Ok p2_OL X LX 45 pl_s215 := ck_ok_s ⟨pl_nmu, ck_E0⟩ ck_X0 ck_l0 pl_s215_e
set_option maxRecDepth 100000 in
/-- GlacierMail$Rows.put -/
def pl_s216 : ck_Sum := ((0, 0, 0), 249, [.inr (.inr (.inl 220)), .inl (0, 23, []), .inl (ck_one 1), .inl (0, 99, [])], ([], [], []), ([(221, 1, 1), (221, 3, 3), (221, 5, 5), (221, 7, 7), (221, 9, 9), (221, 11, 11), (221, 13, 13), (221, 15, 15), (221, 17, 17), (221, 19, 19), (221, 21, 21), (221, 23, 23), (221, 25, 25), (221, 27, 27), (221, 29, 29), (221, 31, 31), (221, 33, 33), (221, 35, 35), (221, 37, 37), (221, 39, 39), (221, 41, 41), (221, 43, 43), (221, 45, 45), (221, 47, 47)], []), [(.inr none, 249, ([], [], []))])
set_option maxRecDepth 100000 in
theorem pl_s216_e : ck_ok p2_OL none [] [] 45 [] 116 pl_s216 = true := by decide +kernel
theorem pl_s216_s {X : Int → Int} {LX : Nat} : ck_Ok p2_OL X LX 45 pl_s216 := ck_ok_s ⟨pl_nmu, ck_E0⟩ ck_X0 ck_l0 pl_s216_e
set_option maxRecDepth 100000 in
/-- GlacierMail.reckonEnds -/
def pl_s217 : ck_Sum := ((5, 0, 0), 249, [.inr (.inr (.inl 1))], ([], [(3, 8, 246)], []), ([(1, 15, 15), (200, 6, 6), (204, 0, 9), (205, 0, 14849), (206, 2, 8), (220, 3, 3), (221, 0, 47)], []), [(.inr none, 249, ([], [], [(1, 15, 15, ck_one 1)]))])
set_option maxRecDepth 100000 in
theorem pl_s217_e : ck_ok p2_OL none [] [(9, [pl_s200, pl_s201]), (25, [pl_s203]), (27, [pl_s208]), (30, [pl_s214]), (45, [pl_s215, pl_s216])] 24 [(27, [some (.inr (.inr (.inl 1))), some (.inl (0, 24, []))], ([], [(3, 8, 246)], [(1, 15, 15, ck_one 0)]), 100, .inl 1, true)] 206 pl_s217 = true := by decide +kernel
theorem pl_s217_s {X : Int → Int} {LX : Nat} : ck_Ok p2_OL X LX 24 pl_s217 := ck_ok_s ⟨pl_nmu, ck_E1 (ck_S1 pl_s200_s (ck_S1 pl_s201_s ck_S0)) (ck_E1 (ck_S1 pl_s203_s ck_S0) (ck_E1 (ck_S1 pl_s208_s ck_S0) (ck_E1 (ck_S1 pl_s214_s ck_S0) (ck_E1 (ck_S1 pl_s215_s (ck_S1 pl_s216_s ck_S0)) ck_E0))))⟩ ck_X0 ck_l0 pl_s217_e
set_option maxRecDepth 100000 in
/-- GlacierMail$Rows.get -/
def pl_s218 : ck_Sum := ((0, 0, 0), 249, [.inr (.inr (.inl 220)), .inl ((-2147483648), 2147483647, []), .inl ((-2147483648), 2147483647, [])], ([], [], []), ([], []), [(.inr (some (.inl ((-2147483648), 299, []))), 249, ([], [], []))])
set_option maxRecDepth 100000 in
theorem pl_s218_e : ck_ok p2_OL none [] [] 10 [] 114 pl_s218 = true := by decide +kernel
theorem pl_s218_s {X : Int → Int} {LX : Nat} : ck_Ok p2_OL X LX 10 pl_s218 := ck_ok_s ⟨pl_nmu, ck_E0⟩ ck_X0 ck_l0 pl_s218_e
set_option maxRecDepth 100000 in
/-- GlacierMail.isOutBy -/
def pl_s219 : ck_Sum := ((0, 0, 0), 249, [.inr (.inr (.inl 1)), .inl ((-2147483648), 299, []), .inl (0, 299, [])], ([], [], []), ([], []), [(.inr (some (.inl (ck_one 0))), 249, ([], [], [])), (.inr (some (.inl (ck_one 1))), 249, ([], [], []))])
set_option maxRecDepth 100000 in
theorem pl_s219_e : ck_ok p2_OL none [] [] 67 [] 88 pl_s219 = true := by decide +kernel
theorem pl_s219_s {X : Int → Int} {LX : Nat} : ck_Ok p2_OL X LX 67 pl_s219 := ck_ok_s ⟨pl_nmu, ck_E0⟩ ck_X0 ck_l0 pl_s219_e
set_option maxRecDepth 100000 in
/-- GlacierMail.waits -/
def pl_s220 : ck_Sum := ((2, 0, 0), 249, [.inr (.inr (.inl 1)), .inl (0, 23, [])], ([], [], [(3, 6, 6, (0, 299, [(10, 0)]))]), ([], []), [(.inr (some (.inl (ck_one 0))), 249, ([], [], [])), (.inr (some (.inl (ck_one 1))), 249, ([], [], []))])
set_option maxRecDepth 100000 in
theorem pl_s220_e : ck_ok p2_OL none [] [(28, [pl_s205]), (10, [pl_s204, pl_s218]), (67, [pl_s219])] 66 [] 134 pl_s220 = true := by decide +kernel
theorem pl_s220_s {X : Int → Int} {LX : Nat} : ck_Ok p2_OL X LX 66 pl_s220 := ck_ok_s ⟨pl_nmu, ck_E1 (ck_S1 pl_s205_s ck_S0) (ck_E1 (ck_S1 pl_s204_s (ck_S1 pl_s218_s ck_S0)) (ck_E1 (ck_S1 pl_s219_s ck_S0) ck_E0))⟩ ck_X0 ck_l0 pl_s220_e
set_option maxRecDepth 100000 in
/-- GlacierMail.waiting -/
def pl_s221 : ck_Sum := ((6, 0, 0), 249, [.inr (.inr (.inl 1)), .inl (0, 7, [])], ([], [(3, 8, 246)], [(3, 6, 6, (0, 299, [(10, 0)]))]), ([(1, 15, 15), (200, 6, 6), (204, 0, 9), (205, 0, 14849), (206, 2, 8), (220, 3, 3), (221, 0, 47)], []), [(.inr (some (.inl ((-2147483648), 2147483647, []))), 249, ([], [], [(1, 15, 15, ck_one 1)]))])
set_option maxRecDepth 100000 in
theorem pl_s221_e : ck_ok p2_OL none [] [(24, [pl_s217]), (9, [pl_s200]), (10, [pl_s204]), (66, [pl_s220])] 65 [(8, [some (.inr (.inr (.inl 1))), some (.inl (0, 7, [])), some (.inl ((-2147483648), 2147483647, [])), some (.inl (0, 24, [])), none], ([], [(3, 8, 246)], [(1, 15, 15, ck_one 1), (3, 6, 6, (0, 299, [(10, 0)]))]), 100, .inl 3, true)] 210 pl_s221 = true := by decide +kernel
theorem pl_s221_s {X : Int → Int} {LX : Nat} : ck_Ok p2_OL X LX 65 pl_s221 := ck_ok_s ⟨pl_nmu, ck_E1 (ck_S1 pl_s217_s ck_S0) (ck_E1 (ck_S1 pl_s200_s ck_S0) (ck_E1 (ck_S1 pl_s204_s ck_S0) (ck_E1 (ck_S1 pl_s220_s ck_S0) ck_E0)))⟩ ck_X0 ck_l0 pl_s221_e
set_option maxRecDepth 100000 in
/-- GlacierMail.lettersWith -/
def pl_s222 : ck_Sum := ((1, 0, 0), 249, [.inr (.inr (.inl 1)), .inl (ck_one 5), .inl (0, 7, [])], ([], [], []), ([], []), [(.inr (some (.inl ((-2147483648), 2147483647, []))), 249, ([], [], []))])
set_option maxRecDepth 100000 in
theorem pl_s222_e : ck_ok p2_OL none [] [(9, [pl_s200]), (10, [pl_s204])] 140 [(5, [some (.inr (.inr (.inl 1))), some (.inl (ck_one 5)), some (.inl (0, 7, [])), some (.inl ((-2147483648), 2147483647, [])), some (.inl (0, 24, []))], ([], [], []), 100, .inl 4, true)] 162 pl_s222 = true := by decide +kernel
theorem pl_s222_s {X : Int → Int} {LX : Nat} : ck_Ok p2_OL X LX 140 pl_s222 := ck_ok_s ⟨pl_nmu, ck_E1 (ck_S1 pl_s200_s ck_S0) (ck_E1 (ck_S1 pl_s204_s ck_S0) ck_E0)⟩ ck_X0 ck_l0 pl_s222_e
set_option maxRecDepth 100000 in
/-- GlacierMail.lettersWith -/
def pl_s223 : ck_Sum := ((1, 0, 0), 249, [.inr (.inr (.inl 1)), .inl (ck_one 0), .inl (0, 7, [])], ([], [], []), ([], []), [(.inr (some (.inl ((-2147483648), 2147483647, []))), 249, ([], [], []))])
set_option maxRecDepth 100000 in
theorem pl_s223_e : ck_ok p2_OL none [] [(9, [pl_s200]), (10, [pl_s204])] 140 [(5, [some (.inr (.inr (.inl 1))), some (.inl (ck_one 0)), some (.inl (0, 7, [])), some (.inl ((-2147483648), 2147483647, [])), some (.inl (0, 24, []))], ([], [], []), 100, .inl 4, true)] 162 pl_s223 = true := by decide +kernel
theorem pl_s223_s {X : Int → Int} {LX : Nat} : ck_Ok p2_OL X LX 140 pl_s223 := ck_ok_s ⟨pl_nmu, ck_E1 (ck_S1 pl_s200_s ck_S0) (ck_E1 (ck_S1 pl_s204_s ck_S0) ck_E0)⟩ ck_X0 ck_l0 pl_s223_e
set_option maxRecDepth 100000 in
/-- GlacierMail$Rows.get -/
def pl_s224 : ck_Sum := ((0, 0, 0), 249, [.inr (.inr (.inl 8)), .inl ((-2147483648), 2147483647, []), .inl ((-2147483648), 2147483647, [])], ([], [], []), ([], []), [(.inr (some (.inl ((-1), 98, []))), 249, ([], [], []))])
set_option maxRecDepth 100000 in
theorem pl_s224_e : ck_ok p2_OL none [] [] 10 [] 114 pl_s224 = true := by decide +kernel
theorem pl_s224_s {X : Int → Int} {LX : Nat} : ck_Ok p2_OL X LX 10 pl_s224 := ck_ok_s ⟨pl_nmu, ck_E0⟩ ck_X0 ck_l0 pl_s224_e
set_option maxRecDepth 100000 in
/-- GlacierMail.person -/
def pl_s225 : ck_Sum := ((8, 2, 12), 249, [.inr (.inr (.inl 1)), .inl (0, 7, []), .inl (0, 9, [])], ([], [(3, 8, 246)], [(3, 6, 6, (0, 299, [(10, 0)]))]), ([(1, 15, 15), (200, 6, 6), (204, 0, 9), (205, 0, 14849), (206, 2, 8), (220, 3, 3), (221, 0, 47)], []), [(.inl 3, 249, ([], [], [])), (.inl 4, 249, ([], [], [])), (.inr (some (.inl ((-2147483648), 2147483647, []))), 249, ([], [], []))])
set_option maxRecDepth 100000 in
theorem pl_s225_e : ck_ok p2_OL none [] [(139, [pl_s197]), (65, [pl_s221]), (140, [pl_s222, pl_s223]), (10, [pl_s224])] 138 [] 94 pl_s225 = true := by decide +kernel
theorem pl_s225_s {X : Int → Int} {LX : Nat} : ck_Ok p2_OL X LX 138 pl_s225 := ck_ok_s ⟨pl_nmu, ck_E1 (ck_S1 pl_s197_s ck_S0) (ck_E1 (ck_S1 pl_s221_s ck_S0) (ck_E1 (ck_S1 pl_s222_s (ck_S1 pl_s223_s ck_S0)) (ck_E1 (ck_S1 pl_s224_s ck_S0) ck_E0)))⟩ ck_X0 ck_l0 pl_s225_e
set_option maxRecDepth 100000 in
/-- GlacierMail.need -/
def pl_s226 : ck_Sum := ((6, 1, 6), 249, [.inr (.inr (.inl 1)), .inl ((-2147483648), (-1), []), .inl (0, 24, [])], ([], [], []), ([], []), [(.inl 3, 249, ([], [], []))])
set_option maxRecDepth 100000 in
theorem pl_s226_e : ck_ok p2_OL none [] [] 133 [] 76 pl_s226 = true := by decide +kernel
theorem pl_s226_s {X : Int → Int} {LX : Nat} : ck_Ok p2_OL X LX 133 pl_s226 := ck_ok_s ⟨pl_nmu, ck_E0⟩ ck_X0 ck_l0 pl_s226_e
set_option maxRecDepth 100000 in
/-- GlacierMail.needLetter -/
def pl_s227 : ck_Sum := ((7, 1, 6), 249, [.inr (.inr (.inl 1)), .inl ((-2147483648), (-1), [])], ([], [], []), ([], []), [(.inl 3, 249, ([], [], []))])
set_option maxRecDepth 100000 in
theorem pl_s227_e : ck_ok p2_OL none [] [(9, [pl_s200]), (133, [pl_s226])] 143 [] 84 pl_s227 = true := by decide +kernel
theorem pl_s227_s {X : Int → Int} {LX : Nat} : ck_Ok p2_OL X LX 143 pl_s227 := ck_ok_s ⟨pl_nmu, ck_E1 (ck_S1 pl_s200_s ck_S0) (ck_E1 (ck_S1 pl_s226_s ck_S0) ck_E0)⟩ ck_X0 ck_l0 pl_s227_e
set_option maxRecDepth 100000 in
/-- GlacierMail.letter -/
def pl_s228 : ck_Sum := ((8, 1, 6), 249, [.inr (.inr (.inl 1)), .inl ((-2147483648), (-1), []), .inl ((-2147483648), 2147483647, [])], ([], [], []), ([], []), [(.inl 3, 249, ([], [], []))])
set_option maxRecDepth 100000 in
theorem pl_s228_e : ck_ok p2_OL none [] [(143, [pl_s227])] 142 [] 76 pl_s228 = true := by decide +kernel
theorem pl_s228_s {X : Int → Int} {LX : Nat} : ck_Ok p2_OL X LX 142 pl_s228 := ck_ok_s ⟨pl_nmu, ck_E1 (ck_S1 pl_s227_s ck_S0) ck_E0⟩ ck_X0 ck_l0 pl_s228_e
set_option maxRecDepth 100000 in
/-- GlacierMail.need -/
def pl_s229 : ck_Sum := ((6, 1, 6), 249, [.inr (.inr (.inl 1)), .inl (24, 2147483647, []), .inl (0, 24, [])], ([], [], []), ([], []), [(.inl 3, 249, ([], [], []))])
set_option maxRecDepth 100000 in
theorem pl_s229_e : ck_ok p2_OL none [] [] 133 [] 82 pl_s229 = true := by decide +kernel
theorem pl_s229_s {X : Int → Int} {LX : Nat} : ck_Ok p2_OL X LX 133 pl_s229 := ck_ok_s ⟨pl_nmu, ck_E0⟩ ck_X0 ck_l0 pl_s229_e
set_option maxRecDepth 100000 in
/-- GlacierMail.needLetter -/
def pl_s230 : ck_Sum := ((7, 1, 6), 249, [.inr (.inr (.inl 1)), .inl (24, 2147483647, [])], ([], [], []), ([], []), [(.inl 3, 249, ([], [], []))])
set_option maxRecDepth 100000 in
theorem pl_s230_e : ck_ok p2_OL none [] [(9, [pl_s200]), (133, [pl_s229])] 143 [] 84 pl_s230 = true := by decide +kernel
theorem pl_s230_s {X : Int → Int} {LX : Nat} : ck_Ok p2_OL X LX 143 pl_s230 := ck_ok_s ⟨pl_nmu, ck_E1 (ck_S1 pl_s200_s ck_S0) (ck_E1 (ck_S1 pl_s229_s ck_S0) ck_E0)⟩ ck_X0 ck_l0 pl_s230_e
set_option maxRecDepth 100000 in
/-- GlacierMail.letter -/
def pl_s231 : ck_Sum := ((8, 1, 6), 249, [.inr (.inr (.inl 1)), .inl (24, 2147483647, []), .inl ((-2147483648), 2147483647, [])], ([], [], []), ([], []), [(.inl 3, 249, ([], [], []))])
set_option maxRecDepth 100000 in
theorem pl_s231_e : ck_ok p2_OL none [] [(143, [pl_s230])] 142 [] 76 pl_s231 = true := by decide +kernel
theorem pl_s231_s {X : Int → Int} {LX : Nat} : ck_Ok p2_OL X LX 142 pl_s231 := ck_ok_s ⟨pl_nmu, ck_E1 (ck_S1 pl_s230_s ck_S0) ck_E0⟩ ck_X0 ck_l0 pl_s231_e
set_option maxRecDepth 100000 in
/-- GlacierMail.need -/
def pl_s232 : ck_Sum := ((6, 1, 6), 249, [.inr (.inr (.inl 1)), .inl (0, 23, []), .inl (0, 24, [])], ([], [], []), ([], []), [(.inr none, 249, ([], [], [])), (.inl 3, 249, ([], [], []))])
set_option maxRecDepth 100000 in
theorem pl_s232_e : ck_ok p2_OL none [] [] 133 [] 82 pl_s232 = true := by decide +kernel
theorem pl_s232_s {X : Int → Int} {LX : Nat} : ck_Ok p2_OL X LX 133 pl_s232 := ck_ok_s ⟨pl_nmu, ck_E0⟩ ck_X0 ck_l0 pl_s232_e
set_option maxRecDepth 100000 in
/-- GlacierMail.needLetter -/
def pl_s233 : ck_Sum := ((7, 1, 6), 249, [.inr (.inr (.inl 1)), .inl (0, 23, [])], ([], [], []), ([], []), [(.inl 3, 249, ([], [], [])), (.inr none, 249, ([], [], []))])
set_option maxRecDepth 100000 in
theorem pl_s233_e : ck_ok p2_OL none [] [(9, [pl_s200]), (133, [pl_s232])] 143 [] 86 pl_s233 = true := by decide +kernel
theorem pl_s233_s {X : Int → Int} {LX : Nat} : ck_Ok p2_OL X LX 143 pl_s233 := ck_ok_s ⟨pl_nmu, ck_E1 (ck_S1 pl_s200_s ck_S0) (ck_E1 (ck_S1 pl_s232_s ck_S0) ck_E0)⟩ ck_X0 ck_l0 pl_s233_e
set_option maxRecDepth 100000 in
/-- GlacierMail.letter -/
def pl_s234 : ck_Sum := ((8, 2, 12), 249, [.inr (.inr (.inl 1)), .inl (0, 23, []), .inl ((-2147483648), (-1), [])], ([], [], []), ([], []), [(.inl 3, 249, ([], [], [])), (.inl 4, 249, ([], [], []))])
set_option maxRecDepth 100000 in
theorem pl_s234_e : ck_ok p2_OL none [] [(143, [pl_s233])] 142 [] 82 pl_s234 = true := by decide +kernel
theorem pl_s234_s {X : Int → Int} {LX : Nat} : ck_Ok p2_OL X LX 142 pl_s234 := ck_ok_s ⟨pl_nmu, ck_E1 (ck_S1 pl_s233_s ck_S0) ck_E0⟩ ck_X0 ck_l0 pl_s234_e
set_option maxRecDepth 100000 in
/-- GlacierMail.letter -/
def pl_s235 : ck_Sum := ((8, 2, 12), 249, [.inr (.inr (.inl 1)), .inl (0, 23, []), .inl (10, 2147483647, [])], ([], [], []), ([], []), [(.inl 3, 249, ([], [], [])), (.inl 4, 249, ([], [], []))])
set_option maxRecDepth 100000 in
theorem pl_s235_e : ck_ok p2_OL none [] [(143, [pl_s233])] 142 [] 82 pl_s235 = true := by decide +kernel
theorem pl_s235_s {X : Int → Int} {LX : Nat} : ck_Ok p2_OL X LX 142 pl_s235 := ck_ok_s ⟨pl_nmu, ck_E1 (ck_S1 pl_s233_s ck_S0) ck_E0⟩ ck_X0 ck_l0 pl_s235_e
set_option maxRecDepth 100000 in
/-- GlacierMail.firstBare -/
def pl_s236 : ck_Sum := ((4, 0, 0), 249, [.inr (.inr (.inl 1)), .inl (0, 23, [])], ([], [(3, 8, 246)], []), ([(200, 6, 6), (204, 0, 9), (205, 0, 14849), (206, 2, 8)], []), [(.inr (some (.inl (ck_one (-1)))), 249, ([], [], [(206, 4, 4, ck_one (-1)), (206, 2, 2, ((-1), 299, []))])), (.inr (some (.inl (0, 299, []))), 249, ([], [], [(206, 6, 6, ck_one 0), (206, 5, 5, ((-2147483648), 98, [])), (206, 4, 4, ck_one (-1)), (206, 2, 2, ((-1), 299, []))]))])
set_option maxRecDepth 100000 in
theorem pl_s236_e : ck_ok p2_OL none [] [(27, [pl_s208]), (32, [pl_s213]), (31, [pl_s209])] 145 [(18, [some (.inr (.inr (.inl 1))), some (.inl (0, 23, [])), some (.inl (0, 300, []))], ([], [(3, 8, 246)], [(206, 6, 6, (0, 99, [])), (206, 4, 4, ck_one (-1)), (206, 5, 5, ((-2147483648), 299, [])), (206, 2, 2, ((-1), 299, []))]), 100, .inl 2, true)] 158 pl_s236 = true := by decide +kernel
theorem pl_s236_s {X : Int → Int} {LX : Nat} : ck_Ok p2_OL X LX 145 pl_s236 := ck_ok_s ⟨pl_nmu, ck_E1 (ck_S1 pl_s208_s ck_S0) (ck_E1 (ck_S1 pl_s213_s ck_S0) (ck_E1 (ck_S1 pl_s209_s ck_S0) ck_E0))⟩ ck_X0 ck_l0 pl_s236_e
set_option maxRecDepth 100000 in
/-- GlacierMail.outOf -/
def pl_s237 : ck_Sum := ((5, 0, 0), 249, [.inr (.inr (.inl 1)), .inl (0, 23, [])], ([], [(3, 8, 246)], []), ([(200, 6, 6), (204, 0, 9), (205, 0, 14849), (206, 2, 8)], []), [(.inr (some (.inl ((-2147483648), 299, []))), 249, ([], [], [(206, 4, 4, ck_one (-1)), (206, 2, 2, ((-1), 299, []))]))])
set_option maxRecDepth 100000 in
theorem pl_s237_e : ck_ok p2_OL none [] [(27, [pl_s208]), (30, [pl_s214])] 144 [] 88 pl_s237 = true := by decide +kernel
theorem pl_s237_s {X : Int → Int} {LX : Nat} : ck_Ok p2_OL X LX 144 pl_s237 := ck_ok_s ⟨pl_nmu, ck_E1 (ck_S1 pl_s208_s ck_S0) (ck_E1 (ck_S1 pl_s214_s ck_S0) ck_E0)⟩ ck_X0 ck_l0 pl_s237_e
set_option maxRecDepth 100000 in
/-- GlacierMail.letter -/
def pl_s238 : ck_Sum := ((8, 1, 6), 249, [.inr (.inr (.inl 1)), .inl (0, 23, []), .inl (0, 9, [])], ([], [(3, 8, 246)], []), ([(200, 6, 6), (204, 0, 9), (205, 0, 14849), (206, 2, 8)], []), [(.inl 3, 249, ([], [], [])), (.inr (some (.inl ((-2147483648), 299, []))), 249, ([], [], [])), (.inr (some (.inl (0, 299, []))), 249, ([], [], [(206, 4, 4, ck_one (-1)), (206, 2, 2, ((-1), 299, []))]))])
set_option maxRecDepth 100000 in
theorem pl_s238_e : ck_ok p2_OL none [] [(143, [pl_s233]), (10, [pl_s204]), (145, [pl_s236]), (144, [pl_s237])] 142 [] 98 pl_s238 = true := by decide +kernel
theorem pl_s238_s {X : Int → Int} {LX : Nat} : ck_Ok p2_OL X LX 142 pl_s238 := ck_ok_s ⟨pl_nmu, ck_E1 (ck_S1 pl_s233_s ck_S0) (ck_E1 (ck_S1 pl_s204_s ck_S0) (ck_E1 (ck_S1 pl_s236_s ck_S0) (ck_E1 (ck_S1 pl_s237_s ck_S0) ck_E0)))⟩ ck_X0 ck_l0 pl_s238_e
set_option maxRecDepth 100000 in
/-- GlacierMail.where -/
def pl_s239 : ck_Sum := ((8, 1, 6), 249, [.inr (.inr (.inl 1)), .inl ((-2147483648), (-1), []), .inl ((-2147483648), 2147483647, [])], ([], [], []), ([], []), [(.inl 3, 249, ([], [], []))])
set_option maxRecDepth 100000 in
theorem pl_s239_e : ck_ok p2_OL none [] [(143, [pl_s227])] 147 [] 76 pl_s239 = true := by decide +kernel
theorem pl_s239_s {X : Int → Int} {LX : Nat} : ck_Ok p2_OL X LX 147 pl_s239 := ck_ok_s ⟨pl_nmu, ck_E1 (ck_S1 pl_s227_s ck_S0) ck_E0⟩ ck_X0 ck_l0 pl_s239_e
set_option maxRecDepth 100000 in
/-- GlacierMail.where -/
def pl_s240 : ck_Sum := ((8, 1, 6), 249, [.inr (.inr (.inl 1)), .inl (24, 2147483647, []), .inl ((-2147483648), 2147483647, [])], ([], [], []), ([], []), [(.inl 3, 249, ([], [], []))])
set_option maxRecDepth 100000 in
theorem pl_s240_e : ck_ok p2_OL none [] [(143, [pl_s230])] 147 [] 76 pl_s240 = true := by decide +kernel
theorem pl_s240_s {X : Int → Int} {LX : Nat} : ck_Ok p2_OL X LX 147 pl_s240 := ck_ok_s ⟨pl_nmu, ck_E1 (ck_S1 pl_s230_s ck_S0) ck_E0⟩ ck_X0 ck_l0 pl_s240_e
set_option maxRecDepth 100000 in
/-- GlacierMail.where -/
def pl_s241 : ck_Sum := ((8, 2, 12), 249, [.inr (.inr (.inl 1)), .inl (0, 23, []), .inl ((-2147483648), (-1), [])], ([], [], []), ([], []), [(.inl 3, 249, ([], [], [])), (.inl 0, 249, ([], [], []))])
set_option maxRecDepth 100000 in
theorem pl_s241_e : ck_ok p2_OL none [] [(143, [pl_s233]), (129, [pl_s145])] 147 [] 82 pl_s241 = true := by decide +kernel
theorem pl_s241_s {X : Int → Int} {LX : Nat} : ck_Ok p2_OL X LX 147 pl_s241 := ck_ok_s ⟨pl_nmu, ck_E1 (ck_S1 pl_s233_s ck_S0) (ck_E1 (ck_S1 pl_s145_s ck_S0) ck_E0)⟩ ck_X0 ck_l0 pl_s241_e
set_option maxRecDepth 100000 in
/-- GlacierMail.where -/
def pl_s242 : ck_Sum := ((8, 2, 12), 249, [.inr (.inr (.inl 1)), .inl (0, 23, []), .inl (300, 2147483647, [])], ([], [], []), ([], []), [(.inl 3, 249, ([], [], [])), (.inl 0, 249, ([], [], []))])
set_option maxRecDepth 100000 in
theorem pl_s242_e : ck_ok p2_OL none [] [(143, [pl_s233]), (129, [pl_s147])] 147 [] 82 pl_s242 = true := by decide +kernel
theorem pl_s242_s {X : Int → Int} {LX : Nat} : ck_Ok p2_OL X LX 147 pl_s242 := ck_ok_s ⟨pl_nmu, ck_E1 (ck_S1 pl_s233_s ck_S0) (ck_E1 (ck_S1 pl_s147_s ck_S0) ck_E0)⟩ ck_X0 ck_l0 pl_s242_e
set_option maxRecDepth 100000 in
/-- GlacierMail$Way.goOnTo -/
def pl_s243 : ck_Sum := ((4, 0, 0), 249, [.inr (.inr (.inl 206)), .inl (0, 299, [])], ([], [(3, 8, 246)], []), ([(200, 6, 6), (204, 0, 9), (205, 0, 14849), (206, 5, 8)], []), [(.inr none, 249, ([], [], []))])
set_option maxRecDepth 100000 in
theorem pl_s243_e : ck_ok p2_OL none [] [(32, [pl_s213])] 148 [(5, [some (.inr (.inr (.inl 206))), some (.inl (0, 299, [])), some (.inl ((-2147483648), 2147483647, []))], ([], [(3, 8, 246)], []), 100, .inl 2, true)] 122 pl_s243 = true := by decide +kernel
theorem pl_s243_s {X : Int → Int} {LX : Nat} : ck_Ok p2_OL X LX 148 pl_s243 := ck_ok_s ⟨pl_nmu, ck_E1 (ck_S1 pl_s213_s ck_S0) ck_E0⟩ ck_X0 ck_l0 pl_s243_e
set_option maxRecDepth 100000 in
/-- GlacierMail.where -/
def pl_s244 : ck_Sum := ((8, 1, 6), 249, [.inr (.inr (.inl 1)), .inl (0, 23, []), .inl (0, 299, [])], ([], [(3, 8, 246)], []), ([(200, 6, 6), (204, 0, 9), (205, 0, 14849), (206, 2, 8)], []), [(.inl 3, 249, ([], [], [])), (.inr (some (.inl ((-2147483648), 99, []))), 249, ([], [], []))])
set_option maxRecDepth 100000 in
theorem pl_s244_e : ck_ok p2_OL none [] [(143, [pl_s233]), (129, [pl_s149]), (10, [pl_s204]), (27, [pl_s208]), (148, [pl_s243])] 147 [] 130 pl_s244 = true := by decide +kernel
theorem pl_s244_s {X : Int → Int} {LX : Nat} : ck_Ok p2_OL X LX 147 pl_s244 := ck_ok_s ⟨pl_nmu, ck_E1 (ck_S1 pl_s233_s ck_S0) (ck_E1 (ck_S1 pl_s149_s ck_S0) (ck_E1 (ck_S1 pl_s204_s ck_S0) (ck_E1 (ck_S1 pl_s208_s ck_S0) (ck_E1 (ck_S1 pl_s243_s ck_S0) ck_E0))))⟩ ck_X0 ck_l0 pl_s244_e
set_option maxRecDepth 100000 in
/-- GlacierMail.deep -/
def pl_s245 : ck_Sum := ((8, 1, 6), 249, [.inr (.inr (.inl 1)), .inl ((-2147483648), (-1), []), .inl ((-2147483648), 2147483647, [])], ([], [], []), ([], []), [(.inl 3, 249, ([], [], []))])
set_option maxRecDepth 100000 in
theorem pl_s245_e : ck_ok p2_OL none [] [(143, [pl_s227])] 150 [] 76 pl_s245 = true := by decide +kernel
theorem pl_s245_s {X : Int → Int} {LX : Nat} : ck_Ok p2_OL X LX 150 pl_s245 := ck_ok_s ⟨pl_nmu, ck_E1 (ck_S1 pl_s227_s ck_S0) ck_E0⟩ ck_X0 ck_l0 pl_s245_e
set_option maxRecDepth 100000 in
/-- GlacierMail.deep -/
def pl_s246 : ck_Sum := ((8, 1, 6), 249, [.inr (.inr (.inl 1)), .inl (24, 2147483647, []), .inl ((-2147483648), 2147483647, [])], ([], [], []), ([], []), [(.inl 3, 249, ([], [], []))])
set_option maxRecDepth 100000 in
theorem pl_s246_e : ck_ok p2_OL none [] [(143, [pl_s230])] 150 [] 76 pl_s246 = true := by decide +kernel
theorem pl_s246_s {X : Int → Int} {LX : Nat} : ck_Ok p2_OL X LX 150 pl_s246 := ck_ok_s ⟨pl_nmu, ck_E1 (ck_S1 pl_s230_s ck_S0) ck_E0⟩ ck_X0 ck_l0 pl_s246_e
set_option maxRecDepth 100000 in
/-- GlacierMail.deep -/
def pl_s247 : ck_Sum := ((8, 2, 12), 249, [.inr (.inr (.inl 1)), .inl (0, 23, []), .inl ((-2147483648), (-1), [])], ([], [], []), ([], []), [(.inl 3, 249, ([], [], [])), (.inl 0, 249, ([], [], []))])
set_option maxRecDepth 100000 in
theorem pl_s247_e : ck_ok p2_OL none [] [(143, [pl_s233]), (129, [pl_s145])] 150 [] 82 pl_s247 = true := by decide +kernel
theorem pl_s247_s {X : Int → Int} {LX : Nat} : ck_Ok p2_OL X LX 150 pl_s247 := ck_ok_s ⟨pl_nmu, ck_E1 (ck_S1 pl_s233_s ck_S0) (ck_E1 (ck_S1 pl_s145_s ck_S0) ck_E0)⟩ ck_X0 ck_l0 pl_s247_e
set_option maxRecDepth 100000 in
/-- GlacierMail.deep -/
def pl_s248 : ck_Sum := ((8, 2, 12), 249, [.inr (.inr (.inl 1)), .inl (0, 23, []), .inl (300, 2147483647, [])], ([], [], []), ([], []), [(.inl 3, 249, ([], [], [])), (.inl 0, 249, ([], [], []))])
set_option maxRecDepth 100000 in
theorem pl_s248_e : ck_ok p2_OL none [] [(143, [pl_s233]), (129, [pl_s147])] 150 [] 82 pl_s248 = true := by decide +kernel
theorem pl_s248_s {X : Int → Int} {LX : Nat} : ck_Ok p2_OL X LX 150 pl_s248 := ck_ok_s ⟨pl_nmu, ck_E1 (ck_S1 pl_s233_s ck_S0) (ck_E1 (ck_S1 pl_s147_s ck_S0) ck_E0)⟩ ck_X0 ck_l0 pl_s248_e
set_option maxRecDepth 100000 in
/-- GlacierMail.deep -/
def pl_s249 : ck_Sum := ((8, 1, 6), 249, [.inr (.inr (.inl 1)), .inl (0, 23, []), .inl (0, 299, [])], ([], [(3, 8, 246)], []), ([(200, 6, 6), (204, 0, 9), (205, 0, 14849), (206, 2, 8)], []), [(.inl 3, 249, ([], [], [])), (.inr (some (.inl (0, 99, []))), 249, ([], [], [(206, 4, 4, ck_one (-1)), (206, 2, 2, ((-1), 299, []))])), (.inr (some (.inl (ck_one (-1)))), 249, ([], [], []))])
set_option maxRecDepth 100000 in
theorem pl_s249_e : ck_ok p2_OL none [] [(143, [pl_s233]), (129, [pl_s149]), (10, [pl_s204]), (27, [pl_s208]), (148, [pl_s243])] 150 [] 122 pl_s249 = true := by decide +kernel
theorem pl_s249_s {X : Int → Int} {LX : Nat} : ck_Ok p2_OL X LX 150 pl_s249 := ck_ok_s ⟨pl_nmu, ck_E1 (ck_S1 pl_s233_s ck_S0) (ck_E1 (ck_S1 pl_s149_s ck_S0) (ck_E1 (ck_S1 pl_s204_s ck_S0) (ck_E1 (ck_S1 pl_s208_s ck_S0) (ck_E1 (ck_S1 pl_s243_s ck_S0) ck_E0))))⟩ ck_X0 ck_l0 pl_s249_e
set_option maxRecDepth 100000 in
/-- GlacierMail.post -/
def pl_s250 : ck_Sum := ((8, 1, 6), 249, [.inr (.inr (.inl 1)), .inl ((-2147483648), (-1), []), .inl ((-2147483648), 2147483647, [])], ([], [], []), ([], []), [(.inl 3, 249, ([], [], []))])
set_option maxRecDepth 100000 in
theorem pl_s250_e : ck_ok p2_OL none [] [(139, [pl_s191])] 152 [] 76 pl_s250 = true := by decide +kernel
theorem pl_s250_s {X : Int → Int} {LX : Nat} : ck_Ok p2_OL X LX 152 pl_s250 := ck_ok_s ⟨pl_nmu, ck_E1 (ck_S1 pl_s191_s ck_S0) ck_E0⟩ ck_X0 ck_l0 pl_s250_e
set_option maxRecDepth 100000 in
/-- GlacierMail.post -/
def pl_s251 : ck_Sum := ((8, 1, 6), 249, [.inr (.inr (.inl 1)), .inl (8, 2147483647, []), .inl ((-2147483648), 2147483647, [])], ([], [], []), ([], []), [(.inl 3, 249, ([], [], []))])
set_option maxRecDepth 100000 in
theorem pl_s251_e : ck_ok p2_OL none [] [(139, [pl_s194])] 152 [] 76 pl_s251 = true := by decide +kernel
theorem pl_s251_s {X : Int → Int} {LX : Nat} : ck_Ok p2_OL X LX 152 pl_s251 := ck_ok_s ⟨pl_nmu, ck_E1 (ck_S1 pl_s194_s ck_S0) ck_E0⟩ ck_X0 ck_l0 pl_s251_e
set_option maxRecDepth 100000 in
/-- GlacierMail.post -/
def pl_s252 : ck_Sum := ((8, 2, 12), 249, [.inr (.inr (.inl 1)), .inl (0, 7, []), .inl ((-2147483648), (-1), [])], ([], [], []), ([], []), [(.inl 3, 249, ([], [], []))])
set_option maxRecDepth 100000 in
theorem pl_s252_e : ck_ok p2_OL none [] [(139, [pl_s197, pl_s191])] 152 [] 82 pl_s252 = true := by decide +kernel
theorem pl_s252_s {X : Int → Int} {LX : Nat} : ck_Ok p2_OL X LX 152 pl_s252 := ck_ok_s ⟨pl_nmu, ck_E1 (ck_S1 pl_s197_s (ck_S1 pl_s191_s ck_S0)) ck_E0⟩ ck_X0 ck_l0 pl_s252_e
set_option maxRecDepth 100000 in
/-- GlacierMail.post -/
def pl_s253 : ck_Sum := ((8, 2, 12), 249, [.inr (.inr (.inl 1)), .inl (0, 7, []), .inl (8, 2147483647, [])], ([], [], []), ([], []), [(.inl 3, 249, ([], [], []))])
set_option maxRecDepth 100000 in
theorem pl_s253_e : ck_ok p2_OL none [] [(139, [pl_s197, pl_s194])] 152 [] 82 pl_s253 = true := by decide +kernel
theorem pl_s253_s {X : Int → Int} {LX : Nat} : ck_Ok p2_OL X LX 152 pl_s253 := ck_ok_s ⟨pl_nmu, ck_E1 (ck_S1 pl_s197_s (ck_S1 pl_s194_s ck_S0)) ck_E0⟩ ck_X0 ck_l0 pl_s253_e
set_option maxRecDepth 100000 in
/-- GlacierMail.needUnlike -/
def pl_s254 : ck_Sum := ((6, 1, 6), 249, [.inr (.inr (.inl 1)), .inl (0, 7, []), .inl (0, 7, [])], ([], [], []), ([], []), [(.inr none, 249, ([], [], [])), (.inl 0, 249, ([], [], []))])
set_option maxRecDepth 100000 in
theorem pl_s254_e : ck_ok p2_OL none [] [] 153 [] 78 pl_s254 = true := by decide +kernel
theorem pl_s254_s {X : Int → Int} {LX : Nat} : ck_Ok p2_OL X LX 153 pl_s254 := ck_ok_s ⟨pl_nmu, ck_E0⟩ ck_X0 ck_l0 pl_s254_e
set_option maxRecDepth 100000 in
/-- GlacierMail$Rows.isFull -/
def pl_s255 : ck_Sum := ((0, 0, 0), 249, [.inr (.inr (.inl 10))], ([], [], []), ([], []), [(.inr (some (.inl (ck_one 0))), 249, ([], [], [(10, 3, 3, (0, 23, []))])), (.inr (some (.inl (ck_one 1))), 249, ([], [], [(10, 3, 3, ck_one 24)]))])
set_option maxRecDepth 100000 in
theorem pl_s255_e : ck_ok p2_OL none [] [] 108 [] 86 pl_s255 = true := by decide +kernel
theorem pl_s255_s {X : Int → Int} {LX : Nat} : ck_Ok p2_OL X LX 108 pl_s255 := ck_ok_s ⟨pl_nmu, ck_E0⟩ ck_X0 ck_l0 pl_s255_e
set_option maxRecDepth 100000 in
/-- GlacierMail$History.at -/
def pl_s256 : ck_Sum := ((0, 0, 0), 249, [.inr (.inr (.inl 42)), .inl (0, 12, [])], ([], [], []), ([], []), [(.inr (some (.inr (.inr (.inl 0)))), 249, ([], [], [])), (.inr (some (.inr (.inr (.inl 44)))), 249, ([], [], [])), (.inr (some (.inr (.inr (.inl 187)))), 249, ([], [], [])), (.inr (some (.inr (.inr (.inl 174)))), 249, ([], [], [])), (.inr (some (.inr (.inr (.inl 161)))), 249, ([], [], [])), (.inr (some (.inr (.inr (.inl 148)))), 249, ([], [], [])), (.inr (some (.inr (.inr (.inl 135)))), 249, ([], [], [])), (.inr (some (.inr (.inr (.inl 122)))), 249, ([], [], [])), (.inr (some (.inr (.inr (.inl 109)))), 249, ([], [], [])), (.inr (some (.inr (.inr (.inl 96)))), 249, ([], [], [])), (.inr (some (.inr (.inr (.inl 83)))), 249, ([], [], [])), (.inr (some (.inr (.inr (.inl 70)))), 249, ([], [], [])), (.inr (some (.inr (.inr (.inl 57)))), 249, ([], [], []))])
set_option maxRecDepth 100000 in
theorem pl_s256_e : ck_ok p2_OL none [] [] 56 [] 96 pl_s256 = true := by decide +kernel
theorem pl_s256_s {X : Int → Int} {LX : Nat} : ck_Ok p2_OL X LX 56 pl_s256 := ck_ok_s ⟨pl_nmu, ck_E0⟩ ck_X0 ck_l0 pl_s256_e
set_option maxRecDepth 100000 in
/-- GlacierMail$Rows.copyFrom -/
def pl_s257 : ck_Sum := ((1, 0, 0), 249, [.inr (.inr (.inl 58)), .inr (.inr (.inl 4))], ([], [], []), ([(58, 3, 3), (59, 0, 55)], []), [(.inr none, 249, ([], [], []))])
set_option maxRecDepth 100000 in
theorem pl_s257_e : ck_ok p2_OL none [] [] 58 [] 114 pl_s257 = true := by decide +kernel
theorem pl_s257_s {X : Int → Int} {LX : Nat} : ck_Ok p2_OL X LX 58 pl_s257 := ck_ok_s ⟨pl_nmu, ck_E0⟩ ck_X0 ck_l0 pl_s257_e
set_option maxRecDepth 100000 in
/-- GlacierMail$Rows.copyFrom -/
def pl_s258 : ck_Sum := ((1, 0, 0), 249, [.inr (.inr (.inl 60)), .inr (.inr (.inl 6))], ([], [], []), ([(60, 3, 3), (61, 0, 23)], []), [(.inr none, 249, ([], [], []))])
set_option maxRecDepth 100000 in
theorem pl_s258_e : ck_ok p2_OL none [] [] 58 [] 114 pl_s258 = true := by decide +kernel
theorem pl_s258_s {X : Int → Int} {LX : Nat} : ck_Ok p2_OL X LX 58 pl_s258 := ck_ok_s ⟨pl_nmu, ck_E0⟩ ck_X0 ck_l0 pl_s258_e
set_option maxRecDepth 100000 in
/-- GlacierMail$Rows.copyFrom -/
def pl_s259 : ck_Sum := ((1, 0, 0), 249, [.inr (.inr (.inl 62)), .inr (.inr (.inl 8))], ([], [], []), ([(62, 3, 3), (63, 0, 23)], []), [(.inr none, 249, ([], [], []))])
set_option maxRecDepth 100000 in
theorem pl_s259_e : ck_ok p2_OL none [] [] 58 [] 114 pl_s259 = true := by decide +kernel
theorem pl_s259_s {X : Int → Int} {LX : Nat} : ck_Ok p2_OL X LX 58 pl_s259 := ck_ok_s ⟨pl_nmu, ck_E0⟩ ck_X0 ck_l0 pl_s259_e
set_option maxRecDepth 100000 in
/-- GlacierMail$Rows.copyFrom -/
def pl_s260 : ck_Sum := ((1, 0, 0), 249, [.inr (.inr (.inl 64)), .inr (.inr (.inl 10))], ([], [], []), ([(64, 3, 3), (65, 0, 167)], []), [(.inr none, 249, ([], [], []))])
set_option maxRecDepth 100000 in
theorem pl_s260_e : ck_ok p2_OL none [] [] 58 [] 114 pl_s260 = true := by decide +kernel
theorem pl_s260_s {X : Int → Int} {LX : Nat} : ck_Ok p2_OL X LX 58 pl_s260 := ck_ok_s ⟨pl_nmu, ck_E0⟩ ck_X0 ck_l0 pl_s260_e
set_option maxRecDepth 100000 in
/-- GlacierMail$Rows.copyFrom -/
def pl_s261 : ck_Sum := ((1, 0, 0), 249, [.inr (.inr (.inl 66)), .inr (.inr (.inl 12))], ([], [], []), ([(66, 3, 3), (67, 0, 35)], []), [(.inr none, 249, ([], [], []))])
set_option maxRecDepth 100000 in
theorem pl_s261_e : ck_ok p2_OL none [] [] 58 [] 114 pl_s261 = true := by decide +kernel
theorem pl_s261_s {X : Int → Int} {LX : Nat} : ck_Ok p2_OL X LX 58 pl_s261 := ck_ok_s ⟨pl_nmu, ck_E0⟩ ck_X0 ck_l0 pl_s261_e
set_option maxRecDepth 100000 in
/-- GlacierMail$Rows.copyFrom -/
def pl_s262 : ck_Sum := ((1, 0, 0), 249, [.inr (.inr (.inl 68)), .inr (.inr (.inl 14))], ([], [], []), ([(68, 3, 3), (69, 0, 71)], []), [(.inr none, 249, ([], [], []))])
set_option maxRecDepth 100000 in
theorem pl_s262_e : ck_ok p2_OL none [] [] 58 [] 114 pl_s262 = true := by decide +kernel
theorem pl_s262_s {X : Int → Int} {LX : Nat} : ck_Ok p2_OL X LX 58 pl_s262 := ck_ok_s ⟨pl_nmu, ck_E0⟩ ck_X0 ck_l0 pl_s262_e
set_option maxRecDepth 100000 in
/-- GlacierMail$State.copyFrom -/
def pl_s263 : ck_Sum := ((2, 0, 0), 249, [.inr (.inr (.inl 57)), .inr (.inr (.inl 3))], ([], [(3, 8, 246), (57, 8, 100057)], [(3, 6, 6, (0, 299, [(10, 0)]))]), ([(57, 0, 7), (58, 3, 3), (59, 0, 55), (60, 3, 3), (61, 0, 23), (62, 3, 3), (63, 0, 23), (64, 3, 3), (65, 0, 167), (66, 3, 3), (67, 0, 35), (68, 3, 3), (69, 0, 71)], [(57, 8)]), [(.inr none, 249, ([], [(57, 8, 246)], [(57, 6, 6, (0, 299, [(10, 0)]))]))])
set_option maxRecDepth 100000 in
theorem pl_s263_e : ck_ok p2_OL none [] [(58, [pl_s257, pl_s258, pl_s259, pl_s260, pl_s261, pl_s262])] 57 [] 204 pl_s263 = true := by decide +kernel
theorem pl_s263_s {X : Int → Int} {LX : Nat} : ck_Ok p2_OL X LX 57 pl_s263 := ck_ok_s ⟨pl_nmu, ck_E1 (ck_S1 pl_s257_s (ck_S1 pl_s258_s (ck_S1 pl_s259_s (ck_S1 pl_s260_s (ck_S1 pl_s261_s (ck_S1 pl_s262_s ck_S0)))))) ck_E0⟩ ck_X0 ck_l0 pl_s263_e
set_option maxRecDepth 100000 in
/-- GlacierMail$Rows.copyFrom -/
def pl_s264 : ck_Sum := ((1, 0, 0), 249, [.inr (.inr (.inl 71)), .inr (.inr (.inl 4))], ([], [], []), ([(71, 3, 3), (72, 0, 55)], []), [(.inr none, 249, ([], [], []))])
set_option maxRecDepth 100000 in
theorem pl_s264_e : ck_ok p2_OL none [] [] 58 [] 114 pl_s264 = true := by decide +kernel
theorem pl_s264_s {X : Int → Int} {LX : Nat} : ck_Ok p2_OL X LX 58 pl_s264 := ck_ok_s ⟨pl_nmu, ck_E0⟩ ck_X0 ck_l0 pl_s264_e
set_option maxRecDepth 100000 in
/-- GlacierMail$Rows.copyFrom -/
def pl_s265 : ck_Sum := ((1, 0, 0), 249, [.inr (.inr (.inl 73)), .inr (.inr (.inl 6))], ([], [], []), ([(73, 3, 3), (74, 0, 23)], []), [(.inr none, 249, ([], [], []))])
set_option maxRecDepth 100000 in
theorem pl_s265_e : ck_ok p2_OL none [] [] 58 [] 114 pl_s265 = true := by decide +kernel
theorem pl_s265_s {X : Int → Int} {LX : Nat} : ck_Ok p2_OL X LX 58 pl_s265 := ck_ok_s ⟨pl_nmu, ck_E0⟩ ck_X0 ck_l0 pl_s265_e
set_option maxRecDepth 100000 in
/-- GlacierMail$Rows.copyFrom -/
def pl_s266 : ck_Sum := ((1, 0, 0), 249, [.inr (.inr (.inl 75)), .inr (.inr (.inl 8))], ([], [], []), ([(75, 3, 3), (76, 0, 23)], []), [(.inr none, 249, ([], [], []))])
set_option maxRecDepth 100000 in
theorem pl_s266_e : ck_ok p2_OL none [] [] 58 [] 114 pl_s266 = true := by decide +kernel
theorem pl_s266_s {X : Int → Int} {LX : Nat} : ck_Ok p2_OL X LX 58 pl_s266 := ck_ok_s ⟨pl_nmu, ck_E0⟩ ck_X0 ck_l0 pl_s266_e
set_option maxRecDepth 100000 in
/-- GlacierMail$Rows.copyFrom -/
def pl_s267 : ck_Sum := ((1, 0, 0), 249, [.inr (.inr (.inl 77)), .inr (.inr (.inl 10))], ([], [], []), ([(77, 3, 3), (78, 0, 167)], []), [(.inr none, 249, ([], [], []))])
set_option maxRecDepth 100000 in
theorem pl_s267_e : ck_ok p2_OL none [] [] 58 [] 114 pl_s267 = true := by decide +kernel
theorem pl_s267_s {X : Int → Int} {LX : Nat} : ck_Ok p2_OL X LX 58 pl_s267 := ck_ok_s ⟨pl_nmu, ck_E0⟩ ck_X0 ck_l0 pl_s267_e
set_option maxRecDepth 100000 in
/-- GlacierMail$Rows.copyFrom -/
def pl_s268 : ck_Sum := ((1, 0, 0), 249, [.inr (.inr (.inl 79)), .inr (.inr (.inl 12))], ([], [], []), ([(79, 3, 3), (80, 0, 35)], []), [(.inr none, 249, ([], [], []))])
set_option maxRecDepth 100000 in
theorem pl_s268_e : ck_ok p2_OL none [] [] 58 [] 114 pl_s268 = true := by decide +kernel
theorem pl_s268_s {X : Int → Int} {LX : Nat} : ck_Ok p2_OL X LX 58 pl_s268 := ck_ok_s ⟨pl_nmu, ck_E0⟩ ck_X0 ck_l0 pl_s268_e
set_option maxRecDepth 100000 in
/-- GlacierMail$Rows.copyFrom -/
def pl_s269 : ck_Sum := ((1, 0, 0), 249, [.inr (.inr (.inl 81)), .inr (.inr (.inl 14))], ([], [], []), ([(81, 3, 3), (82, 0, 71)], []), [(.inr none, 249, ([], [], []))])
set_option maxRecDepth 100000 in
theorem pl_s269_e : ck_ok p2_OL none [] [] 58 [] 114 pl_s269 = true := by decide +kernel
theorem pl_s269_s {X : Int → Int} {LX : Nat} : ck_Ok p2_OL X LX 58 pl_s269 := ck_ok_s ⟨pl_nmu, ck_E0⟩ ck_X0 ck_l0 pl_s269_e
set_option maxRecDepth 100000 in
/-- GlacierMail$State.copyFrom -/
def pl_s270 : ck_Sum := ((2, 0, 0), 249, [.inr (.inr (.inl 70)), .inr (.inr (.inl 3))], ([], [(3, 8, 246), (70, 8, 100070)], [(3, 6, 6, (0, 299, [(10, 0)]))]), ([(70, 0, 7), (71, 3, 3), (72, 0, 55), (73, 3, 3), (74, 0, 23), (75, 3, 3), (76, 0, 23), (77, 3, 3), (78, 0, 167), (79, 3, 3), (80, 0, 35), (81, 3, 3), (82, 0, 71)], [(70, 8)]), [(.inr none, 249, ([], [(70, 8, 246)], [(70, 6, 6, (0, 299, [(10, 0)]))]))])
set_option maxRecDepth 100000 in
theorem pl_s270_e : ck_ok p2_OL none [] [(58, [pl_s264, pl_s265, pl_s266, pl_s267, pl_s268, pl_s269])] 57 [] 204 pl_s270 = true := by decide +kernel
theorem pl_s270_s {X : Int → Int} {LX : Nat} : ck_Ok p2_OL X LX 57 pl_s270 := ck_ok_s ⟨pl_nmu, ck_E1 (ck_S1 pl_s264_s (ck_S1 pl_s265_s (ck_S1 pl_s266_s (ck_S1 pl_s267_s (ck_S1 pl_s268_s (ck_S1 pl_s269_s ck_S0)))))) ck_E0⟩ ck_X0 ck_l0 pl_s270_e
