/-! 78r86a11.sl -/
section
/-! EVERY CALL OF THE CLASS ENDS, under a law (laid by wip/am/p2l.py). -/
set_option maxRecDepth 100000 in
/-- GlacierMail.apart -/
def pl_s768 : ck_Sum := ((8, 1, 6), 249, [.inr (.inr (.inl 1)), .inl (6, 2147483647, []), .inl ((-2147483648), 2147483647, []), .inl ((-2147483648), 2147483647, [])], ([], [], []), ([], []), [(.inl 3, 249, ([], [], []))])
set_option maxRecDepth 100000 in
theorem pl_s768_s {X : Int → Int} {LX : Nat} : ck_Ok p2_OL X LX 195 pl_s768 := ck_ok_s (O := p2_OL) (X := X) (LX := LX) (E := [(193, [pl_s759])]) (mi := 195) (cuts := []) (f := 76) (S := pl_s768) (lx := none) (XF := []) ⟨pl_nmu, ck_E1 (ck_S1 pl_s759_s ck_S0) ck_E0⟩ ck_X0 ck_l0 (by decide +kernel)
set_option maxRecDepth 100000 in
/-- GlacierMail.apart -/
def pl_s769 : ck_Sum := ((8, 2, 12), 249, [.inr (.inr (.inl 1)), .inl (0, 5, []), .inl ((-2147483648), (-1), []), .inl ((-2147483648), 2147483647, [])], ([], [], []), ([], []), [(.inl 3, 249, ([], [], []))])
set_option maxRecDepth 100000 in
theorem pl_s769_s {X : Int → Int} {LX : Nat} : ck_Ok p2_OL X LX 195 pl_s769 := ck_ok_s (O := p2_OL) (X := X) (LX := LX) (E := [(193, [pl_s762, pl_s756])]) (mi := 195) (cuts := []) (f := 82) (S := pl_s769) (lx := none) (XF := []) ⟨pl_nmu, ck_E1 (ck_S1 pl_s762_s (ck_S1 pl_s756_s ck_S0)) ck_E0⟩ ck_X0 ck_l0 (by decide +kernel)
set_option maxRecDepth 100000 in
/-- GlacierMail.apart -/
def pl_s770 : ck_Sum := ((8, 2, 12), 249, [.inr (.inr (.inl 1)), .inl (0, 5, []), .inl (6, 2147483647, []), .inl ((-2147483648), 2147483647, [])], ([], [], []), ([], []), [(.inl 3, 249, ([], [], []))])
set_option maxRecDepth 100000 in
theorem pl_s770_s {X : Int → Int} {LX : Nat} : ck_Ok p2_OL X LX 195 pl_s770 := ck_ok_s (O := p2_OL) (X := X) (LX := LX) (E := [(193, [pl_s762, pl_s759])]) (mi := 195) (cuts := []) (f := 82) (S := pl_s770) (lx := none) (XF := []) ⟨pl_nmu, ck_E1 (ck_S1 pl_s762_s (ck_S1 pl_s759_s ck_S0)) ck_E0⟩ ck_X0 ck_l0 (by decide +kernel)
set_option maxRecDepth 100000 in
/-- GlacierMail.toldApart -/
def pl_s771 : ck_Sum := ((1, 0, 0), 249, [.inr (.inr (.inl 1)), .inl (0, 5, []), .inl (0, 5, []), .inl ((-2147483648), 2147483647, [])], ([], [], []), ([], []), [(.inr (some (.inl (ck_one 0))), 249, ([], [], [])), (.inr (some (.inl (ck_one 1))), 249, ([], [], [(12, 3, 3, (1, 6, []))]))])
set_option maxRecDepth 100000 in
theorem pl_s771_s {X : Int → Int} {LX : Nat} : ck_Ok p2_OL X LX 51 pl_s771 := ck_ok_s (O := p2_OL) (X := X) (LX := LX) (E := [(10, [pl_s765])]) (mi := 51) (cuts := [(3, [some (.inr (.inr (.inl 1))), some (.inl (0, 5, [])), some (.inl (0, 5, [])), some (.inl ((-2147483648), 2147483647, [])), some (.inl (0, 6, []))], ([], [], []), 100, .inl 4, true)]) (f := 202) (S := pl_s771) (lx := none) (XF := []) ⟨pl_nmu, ck_E1 (ck_S1 pl_s765_s ck_S0) ck_E0⟩ ck_X0 ck_l0 (by decide +kernel)
set_option maxRecDepth 100000 in
/-- GlacierMail.apart -/
def pl_s772 : ck_Sum := ((8, 2, 12), 249, [.inr (.inr (.inl 1)), .inl (0, 5, []), .inl (0, 5, []), .inl ((-2147483648), 2147483647, [])], ([], [], []), ([], []), [(.inl 3, 249, ([], [], [])), (.inr (some (.inl (ck_one 0))), 249, ([], [], [])), (.inr (some (.inl (ck_one 1))), 249, ([], [], [(12, 3, 3, (1, 6, []))]))])
set_option maxRecDepth 100000 in
theorem pl_s772_s {X : Int → Int} {LX : Nat} : ck_Ok p2_OL X LX 195 pl_s772 := ck_ok_s (O := p2_OL) (X := X) (LX := LX) (E := [(193, [pl_s762]), (51, [pl_s771])]) (mi := 195) (cuts := []) (f := 94) (S := pl_s772) (lx := none) (XF := []) ⟨pl_nmu, ck_E1 (ck_S1 pl_s762_s ck_S0) (ck_E1 (ck_S1 pl_s771_s ck_S0) ck_E0)⟩ ck_X0 ck_l0 (by decide +kernel)
set_option maxRecDepth 100000 in
/-- GlacierMail.allToldApart -/
def pl_s773 : ck_Sum := ((2, 0, 0), 249, [.inr (.inr (.inl 1)), .inl ((-2147483648), 2147483647, [])], ([], [], []), ([], []), [(.inr (some (.inl (ck_one 1))), 249, ([], [], [])), (.inr (some (.inl (ck_one 0))), 249, ([], [], []))])
set_option maxRecDepth 100000 in
theorem pl_s773_s {X : Int → Int} {LX : Nat} : ck_Ok p2_OL X LX 50 pl_s773 := ck_ok_s (O := p2_OL) (X := X) (LX := LX) (E := [(9, [pl_s754]), (51, [pl_s771])]) (mi := 50) (cuts := [(2, [some (.inr (.inr (.inl 1))), some (.inl ((-2147483648), 2147483647, [])), some (.inl (0, 6, [])), none], ([], [], []), 100, .inl 2, true), (20, [some (.inr (.inr (.inl 1))), some (.inl ((-2147483648), 2147483647, [])), some (.inl (0, 5, [(100, 0)])), some (.inl (1, 6, []))], ([], [], []), 300, .inl 3, true)]) (f := 200) (S := pl_s773) (lx := none) (XF := []) ⟨pl_nmu, ck_E1 (ck_S1 pl_s754_s ck_S0) (ck_E1 (ck_S1 pl_s771_s ck_S0) ck_E0)⟩ ck_X0 ck_l0 (by decide +kernel)
set_option maxRecDepth 100000 in
/-- java/lang/Integer.bitCount -/
def pl_s774 : ck_Sum := ((0, 0, 0), 249, [.inl ((-2147483648), 2147483647, [])], ([], [], []), ([], []), [(.inr (some (.inl (0, 63, []))), 249, ([], [], []))])
set_option maxRecDepth 100000 in
theorem pl_s774_s {X : Int → Int} {LX : Nat} : ck_Ok p2_OL X LX 49 pl_s774 := ck_ok_s (O := p2_OL) (X := X) (LX := LX) (E := []) (mi := 49) (cuts := []) (f := 154) (S := pl_s774) (lx := none) (XF := []) ⟨pl_nmu, ck_E0⟩ ck_X0 ck_l0 (by decide +kernel)
set_option maxRecDepth 100000 in
/-- GlacierMail.poles -/
def pl_s775 : ck_Sum := ((3, 0, 0), 249, [.inr (.inr (.inl 1))], ([], [], []), ([], []), [(.inr (some (.inl ((-1), 2147483646, []))), 249, ([], [], []))])
set_option maxRecDepth 100000 in
theorem pl_s775_s {X : Int → Int} {LX : Nat} : ck_Ok p2_OL X LX 48 pl_s775 := ck_ok_s (O := p2_OL) (X := X) (LX := LX) (E := [(50, [pl_s773]), (49, [pl_s774])]) (mi := 48) (cuts := [(4, [some (.inr (.inr (.inl 1))), some (.inl ((-1), 2147483646, [])), some (.inl (0, 2147483647, [])), none], ([], [], []), 100, .inl 2, true)]) (f := 206) (S := pl_s775) (lx := none) (XF := []) ⟨pl_nmu, ck_E1 (ck_S1 pl_s773_s ck_S0) (ck_E1 (ck_S1 pl_s774_s ck_S0) ck_E0)⟩ ck_X0 ck_l0 (by decide +kernel)
set_option maxRecDepth 100000 in
/-- GlacierMail.areReadings -/
def pl_s776 : ck_Sum := ((0, 0, 0), 249, [.inr (.inr (.inl 1)), .inl (0, 400, [])], ([], [], []), ([], []), [(.inr (some (.inl (ck_one 0))), 249, ([], [], [])), (.inr (some (.inl (ck_one 1))), 249, ([], [], []))])
set_option maxRecDepth 100000 in
theorem pl_s776_s {X : Int → Int} {LX : Nat} : ck_Ok p2_OL X LX 198 pl_s776 := ck_ok_s (O := p2_OL) (X := X) (LX := LX) (E := []) (mi := 198) (cuts := [(10, [some (.inr (.inr (.inl 1))), some (.inl (0, 400, [])), some (.inl (0, 400, [])), none, none], ([], [], []), 100, .inl 2, true)]) (f := 302) (S := pl_s776) (lx := none) (XF := []) ⟨pl_nmu, ck_E0⟩ ck_X0 ck_l0 (by decide +kernel)
set_option maxRecDepth 100000 in
/-- GlacierMail.fitsReadings -/
def pl_s777 : ck_Sum := ((1, 0, 0), 249, [.inr (.inr (.inl 1)), .inl (0, 5, []), .inl (0, 400, [])], ([], [], []), ([], []), [(.inr (some (.inl (ck_one 1))), 249, ([], [], [])), (.inr (some (.inl (ck_one 0))), 249, ([], [], []))])
set_option maxRecDepth 100000 in
theorem pl_s777_s {X : Int → Int} {LX : Nat} : ck_Ok p2_OL X LX 199 pl_s777 := ck_ok_s (O := p2_OL) (X := X) (LX := LX) (E := [(10, [pl_s765])]) (mi := 199) (cuts := [(2, [some (.inr (.inr (.inl 1))), some (.inl (0, 5, [])), some (.inl (0, 400, [])), some (.inl (0, 400, []))], ([], [], []), 100, .inl 3, true)]) (f := 214) (S := pl_s777) (lx := none) (XF := []) ⟨pl_nmu, ck_E1 (ck_S1 pl_s765_s ck_S0) ck_E0⟩ ck_X0 ck_l0 (by decide +kernel)
set_option maxRecDepth 100000 in
/-- GlacierMail.fit -/
def pl_s778 : ck_Sum := ((6, 1, 6), 249, [.inr (.inr (.inl 1))], ([], [], [(1, 1, 1, (0, 400, [(6, 0)]))]), ([(1, 1, 1)], []), [(.inl 0, 249, ([], [], [(1, 1, 1, ck_one 0)])), (.inr (some (.inl ((-2147483648), 2147483647, []))), 249, ([], [], [(1, 1, 1, ck_one 0)]))])
set_option maxRecDepth 100000 in
theorem pl_s778_s {X : Int → Int} {LX : Nat} : ck_Ok p2_OL X LX 197 pl_s778 := ck_ok_s (O := p2_OL) (X := X) (LX := LX) (E := [(198, [pl_s776]), (9, [pl_s754]), (199, [pl_s777])]) (mi := 197) (cuts := [(33, [some (.inr (.inr (.inl 1))), some (.inl (0, 400, [(6, 0)])), some (.inl ((-2147483648), 2147483647, [])), some (.inl (0, 6, []))], ([], [], [(1, 1, 1, ck_one 0)]), 100, .inl 3, true)]) (f := 170) (S := pl_s778) (lx := none) (XF := []) ⟨pl_nmu, ck_E1 (ck_S1 pl_s776_s ck_S0) (ck_E1 (ck_S1 pl_s754_s ck_S0) (ck_E1 (ck_S1 pl_s777_s ck_S0) ck_E0))⟩ ck_X0 ck_l0 (by decide +kernel)
set_option maxRecDepth 100000 in
/-- GlacierMail.soonest -/
def pl_s779 : ck_Sum := ((8, 1, 6), 249, [.inr (.inr (.inl 1)), .inl ((-2147483648), (-1), []), .inl ((-2147483648), 2147483647, []), .inl (0, 1, [])], ([], [], []), ([], []), [(.inl 3, 249, ([], [], []))])
set_option maxRecDepth 100000 in
theorem pl_s779_s {X : Int → Int} {LX : Nat} : ck_Ok p2_OL X LX 201 pl_s779 := ck_ok_s (O := p2_OL) (X := X) (LX := LX) (E := [(139, [pl_s191])]) (mi := 201) (cuts := []) (f := 76) (S := pl_s779) (lx := none) (XF := []) ⟨pl_nmu, ck_E1 (ck_S1 pl_s191_s ck_S0) ck_E0⟩ ck_X0 ck_l0 (by decide +kernel)
set_option maxRecDepth 100000 in
/-- GlacierMail.soonest -/
def pl_s780 : ck_Sum := ((8, 1, 6), 249, [.inr (.inr (.inl 1)), .inl (8, 2147483647, []), .inl ((-2147483648), 2147483647, []), .inl (0, 1, [])], ([], [], []), ([], []), [(.inl 3, 249, ([], [], []))])
set_option maxRecDepth 100000 in
theorem pl_s780_s {X : Int → Int} {LX : Nat} : ck_Ok p2_OL X LX 201 pl_s780 := ck_ok_s (O := p2_OL) (X := X) (LX := LX) (E := [(139, [pl_s194])]) (mi := 201) (cuts := []) (f := 76) (S := pl_s780) (lx := none) (XF := []) ⟨pl_nmu, ck_E1 (ck_S1 pl_s194_s ck_S0) ck_E0⟩ ck_X0 ck_l0 (by decide +kernel)
set_option maxRecDepth 100000 in
/-- GlacierMail.soonest -/
def pl_s781 : ck_Sum := ((8, 2, 12), 249, [.inr (.inr (.inl 1)), .inl (0, 7, []), .inl ((-2147483648), (-1), []), .inl (0, 1, [])], ([], [], []), ([], []), [(.inl 3, 249, ([], [], []))])
set_option maxRecDepth 100000 in
theorem pl_s781_s {X : Int → Int} {LX : Nat} : ck_Ok p2_OL X LX 201 pl_s781 := ck_ok_s (O := p2_OL) (X := X) (LX := LX) (E := [(139, [pl_s197, pl_s191])]) (mi := 201) (cuts := []) (f := 82) (S := pl_s781) (lx := none) (XF := []) ⟨pl_nmu, ck_E1 (ck_S1 pl_s197_s (ck_S1 pl_s191_s ck_S0)) ck_E0⟩ ck_X0 ck_l0 (by decide +kernel)
set_option maxRecDepth 100000 in
/-- GlacierMail.soonest -/
def pl_s782 : ck_Sum := ((8, 2, 12), 249, [.inr (.inr (.inl 1)), .inl (0, 7, []), .inl (8, 2147483647, []), .inl (0, 1, [])], ([], [], []), ([], []), [(.inl 3, 249, ([], [], []))])
set_option maxRecDepth 100000 in
theorem pl_s782_s {X : Int → Int} {LX : Nat} : ck_Ok p2_OL X LX 201 pl_s782 := ck_ok_s (O := p2_OL) (X := X) (LX := LX) (E := [(139, [pl_s197, pl_s194])]) (mi := 201) (cuts := []) (f := 82) (S := pl_s782) (lx := none) (XF := []) ⟨pl_nmu, ck_E1 (ck_S1 pl_s197_s (ck_S1 pl_s194_s ck_S0)) ck_E0⟩ ck_X0 ck_l0 (by decide +kernel)
set_option maxRecDepth 100000 in
/-- java/util/Arrays.fill -/
def pl_s783 : ck_Sum := ((0, 0, 0), 249, [.inr (.inr (.inl 210)), .inl (ck_one 0)], ([], [], []), ([(210, 0, 2399)], []), [(.inr none, 249, ([], [], []))])
set_option maxRecDepth 100000 in
theorem pl_s783_s {X : Int → Int} {LX : Nat} : ck_Ok p2_OL X LX 8 pl_s783 := ck_ok_s (O := p2_OL) (X := X) (LX := LX) (E := []) (mi := 8) (cuts := [(5, [some (.inr (.inr (.inl 210))), some (.inl (ck_one 0)), some (.inl (0, 2400, [])), some (.inl (ck_one 2400))], ([], [], []), 100, .inl 2, true)]) (f := 130) (S := pl_s783) (lx := none) (XF := []) ⟨pl_nmu, ck_E0⟩ ck_X0 ck_l0 (by decide +kernel)
set_option maxRecDepth 100000 in
/-- GlacierMail$Rows.reset -/
def pl_s784 : ck_Sum := ((1, 0, 0), 249, [.inr (.inr (.inl 209)), .inl (0, 8, [])], ([], [], []), ([(209, 3, 3), (210, 0, 2399)], []), [(.inr none, 249, ([], [], []))])
set_option maxRecDepth 100000 in
theorem pl_s784_s {X : Int → Int} {LX : Nat} : ck_Ok p2_OL X LX 25 pl_s784 := ck_ok_s (O := p2_OL) (X := X) (LX := LX) (E := [(8, [pl_s783])]) (mi := 25) (cuts := []) (f := 96) (S := pl_s784) (lx := none) (XF := []) ⟨pl_nmu, ck_E1 (ck_S1 pl_s783_s ck_S0) ck_E0⟩ ck_X0 ck_l0 (by decide +kernel)
set_option maxRecDepth 100000 in
/-- java/util/Arrays.fill -/
def pl_s785 : ck_Sum := ((0, 0, 0), 249, [.inr (.inr (.inl 212)), .inl (ck_one 0)], ([], [], []), ([(212, 0, 2399)], []), [(.inr none, 249, ([], [], []))])
set_option maxRecDepth 100000 in
theorem pl_s785_s {X : Int → Int} {LX : Nat} : ck_Ok p2_OL X LX 8 pl_s785 := ck_ok_s (O := p2_OL) (X := X) (LX := LX) (E := []) (mi := 8) (cuts := [(5, [some (.inr (.inr (.inl 212))), some (.inl (ck_one 0)), some (.inl (0, 2400, [])), some (.inl (ck_one 2400))], ([], [], []), 100, .inl 2, true)]) (f := 130) (S := pl_s785) (lx := none) (XF := []) ⟨pl_nmu, ck_E0⟩ ck_X0 ck_l0 (by decide +kernel)
set_option maxRecDepth 100000 in
/-- GlacierMail$Rows.reset -/
def pl_s786 : ck_Sum := ((1, 0, 0), 249, [.inr (.inr (.inl 211)), .inl (0, 8, [])], ([], [], []), ([(211, 3, 3), (212, 0, 2399)], []), [(.inr none, 249, ([], [], []))])
set_option maxRecDepth 100000 in
theorem pl_s786_s {X : Int → Int} {LX : Nat} : ck_Ok p2_OL X LX 25 pl_s786 := ck_ok_s (O := p2_OL) (X := X) (LX := LX) (E := [(8, [pl_s785])]) (mi := 25) (cuts := []) (f := 96) (S := pl_s786) (lx := none) (XF := []) ⟨pl_nmu, ck_E1 (ck_S1 pl_s785_s ck_S0) ck_E0⟩ ck_X0 ck_l0 (by decide +kernel)
set_option maxRecDepth 100000 in
/-- GlacierMail$Rows.get -/
def pl_s787 : ck_Sum := ((0, 0, 0), 249, [.inr (.inr (.inl 209)), .inl ((-2147483648), 2147483647, []), .inl ((-2147483648), 2147483647, [])], ([], [], []), ([], []), [(.inr (some (.inl ((-2147483648), 2147483647, []))), 249, ([], [], []))])
set_option maxRecDepth 100000 in
theorem pl_s787_s {X : Int → Int} {LX : Nat} : ck_Ok p2_OL X LX 10 pl_s787 := ck_ok_s (O := p2_OL) (X := X) (LX := LX) (E := []) (mi := 10) (cuts := []) (f := 114) (S := pl_s787) (lx := none) (XF := []) ⟨pl_nmu, ck_E0⟩ ck_X0 ck_l0 (by decide +kernel)
set_option maxRecDepth 100000 in
/-- GlacierMail$Rows.put -/
def pl_s788 : ck_Sum := ((0, 0, 0), 249, [.inr (.inr (.inl 211)), .inl (0, 7, []), .inl (0, 299, []), .inl ((-2147483648), 299, [])], ([], [], []), ([(212, 0, 2399)], []), [(.inr none, 249, ([], [], []))])
set_option maxRecDepth 100000 in
theorem pl_s788_s {X : Int → Int} {LX : Nat} : ck_Ok p2_OL X LX 45 pl_s788 := ck_ok_s (O := p2_OL) (X := X) (LX := LX) (E := []) (mi := 45) (cuts := []) (f := 116) (S := pl_s788) (lx := none) (XF := []) ⟨pl_nmu, ck_E0⟩ ck_X0 ck_l0 (by decide +kernel)
set_option maxRecDepth 100000 in
/-- GlacierMail$Rows.put -/
def pl_s789 : ck_Sum := ((0, 0, 0), 249, [.inr (.inr (.inl 209)), .inl (0, 7, []), .inl ((-2147483648), 299, []), .inl (ck_one 1)], ([], [], []), ([(210, 0, 2399)], []), [(.inr none, 249, ([], [], []))])
set_option maxRecDepth 100000 in
theorem pl_s789_s {X : Int → Int} {LX : Nat} : ck_Ok p2_OL X LX 45 pl_s789 := ck_ok_s (O := p2_OL) (X := X) (LX := LX) (E := []) (mi := 45) (cuts := []) (f := 116) (S := pl_s789) (lx := none) (XF := []) ⟨pl_nmu, ck_E0⟩ ck_X0 ck_l0 (by decide +kernel)
set_option maxRecDepth 100000 in
/-- GlacierMail$Answers.throwAgain -/
def pl_s790 : ck_Sum := ((5, 0, 0), 249, [.inr (.inr (.inl 208)), .inl (0, 7, []), .inl (0, 299, []), .inl (ck_one 1), .inl (ck_one 299)], ([], [(3, 8, 246)], []), (zl249, []), [(.inr none, 249, ([], [], [(206, 4, 4, ck_one (-1))]))])
set_option maxRecDepth 100000 in
theorem pl_s790_s {X : Int → Int} {LX : Nat} : ck_Ok p2_OL X LX 203 pl_s790 := ck_ok_s (O := p2_OL) (X := X) (LX := LX) (E := [(10, [pl_s224, pl_s787]), (170, [pl_s697]), (30, [pl_s214]), (45, [pl_s788, pl_s789]), (9, [pl_s189])]) (mi := 203) (cuts := [(59, [some (.inr (.inr (.inl 208))), some (.inl (0, 7, [])), some (.inl (0, 299, [])), some (.inl (ck_one 1)), some (.inl (ck_one 299)), some (.inr (.inr (.inl 8))), some (.inl ((-1), 98, [])), some (.inl ((-2147483648), 299, [])), some (.inl (0, 8, [])), none], ([], [(3, 8, 246)], [(206, 4, 4, ck_one (-1))]), 100, .inl 8, true)]) (f := 214) (S := pl_s790) (lx := none) (XF := []) ⟨pl_nmu, ck_E1 (ck_S1 pl_s224_s (ck_S1 pl_s787_s ck_S0)) (ck_E1 (ck_S1 pl_s697_s ck_S0) (ck_E1 (ck_S1 pl_s214_s ck_S0) (ck_E1 (ck_S1 pl_s788_s (ck_S1 pl_s789_s ck_S0)) (ck_E1 (ck_S1 pl_s189_s ck_S0) ck_E0))))⟩ ck_X0 ck_l0 (by decide +kernel)
set_option maxRecDepth 100000 in
/-- GlacierMail$Rows.put -/
def pl_s791 : ck_Sum := ((0, 0, 0), 249, [.inr (.inr (.inl 211)), .inl (0, 7, []), .inl (2, 299, []), .inl ((-2147483648), 299, [])], ([], [], []), (zl198, []), [(.inr none, 249, ([], [], []))])
set_option maxRecDepth 100000 in
theorem pl_s791_s {X : Int → Int} {LX : Nat} : ck_Ok p2_OL X LX 45 pl_s791 := ck_ok_s (O := p2_OL) (X := X) (LX := LX) (E := []) (mi := 45) (cuts := []) (f := 116) (S := pl_s791) (lx := none) (XF := []) ⟨pl_nmu, ck_E0⟩ ck_X0 ck_l0 (by decide +kernel)
set_option maxRecDepth 100000 in
/-- GlacierMail$Rows.put -/
def pl_s792 : ck_Sum := ((0, 0, 0), 249, [.inr (.inr (.inl 209)), .inl (0, 7, []), .inl ((-2147483648), 299, []), .inl ((-2147483648), 2147483647, [])], ([], [], []), ([(210, 0, 2399)], []), [(.inr none, 249, ([], [], []))])
set_option maxRecDepth 100000 in
theorem pl_s792_s {X : Int → Int} {LX : Nat} : ck_Ok p2_OL X LX 45 pl_s792 := ck_ok_s (O := p2_OL) (X := X) (LX := LX) (E := []) (mi := 45) (cuts := []) (f := 116) (S := pl_s792) (lx := none) (XF := []) ⟨pl_nmu, ck_E0⟩ ck_X0 ck_l0 (by decide +kernel)
set_option maxRecDepth 100000 in
/-- GlacierMail$Answers.throwAgain -/
def pl_s793 : ck_Sum := ((5, 0, 0), 249, [.inr (.inr (.inl 208)), .inl (0, 7, []), .inl (2, 299, []), .inl ((-2147483648), 2147483647, []), .inl (ck_one 299)], ([], [(3, 8, 246)], []), (zl250, []), [(.inr none, 249, ([], [], [(206, 4, 4, ck_one (-1))]))])
set_option maxRecDepth 100000 in
theorem pl_s793_s {X : Int → Int} {LX : Nat} : ck_Ok p2_OL X LX 203 pl_s793 := ck_ok_s (O := p2_OL) (X := X) (LX := LX) (E := [(10, [pl_s224, pl_s787]), (170, [pl_s697]), (30, [pl_s214]), (45, [pl_s791, pl_s792]), (9, [pl_s189])]) (mi := 203) (cuts := [(59, [some (.inr (.inr (.inl 208))), some (.inl (0, 7, [])), some (.inl (2, 299, [])), some (.inl ((-2147483648), 2147483647, [])), some (.inl (ck_one 299)), some (.inr (.inr (.inl 8))), some (.inl ((-1), 98, [])), some (.inl ((-2147483648), 299, [])), some (.inl (0, 8, [])), none], ([], [(3, 8, 246)], [(206, 4, 4, ck_one (-1))]), 100, .inl 8, true)]) (f := 214) (S := pl_s793) (lx := none) (XF := []) ⟨pl_nmu, ck_E1 (ck_S1 pl_s224_s (ck_S1 pl_s787_s ck_S0)) (ck_E1 (ck_S1 pl_s697_s ck_S0) (ck_E1 (ck_S1 pl_s214_s ck_S0) (ck_E1 (ck_S1 pl_s791_s (ck_S1 pl_s792_s ck_S0)) (ck_E1 (ck_S1 pl_s189_s ck_S0) ck_E0))))⟩ ck_X0 ck_l0 (by decide +kernel)
set_option maxRecDepth 100000 in
/-- GlacierMail$Answers.spread -/
def pl_s794 : ck_Sum := ((6, 0, 0), 249, [.inr (.inr (.inl 208)), .inl (0, 7, []), .inl (0, 7, []), .inl (ck_one 299)], ([], [(3, 8, 246)], [(3, 6, 6, (0, 299, [(10, 0)]))]), (zl251, []), [(.inr none, 249, ([], [], [(206, 4, 4, ck_one (-1))]))])
set_option maxRecDepth 100000 in
theorem pl_s794_s {X : Int → Int} {LX : Nat} : ck_Ok p2_OL X LX 202 pl_s794 := ck_ok_s (O := p2_OL) (X := X) (LX := LX) (E := [(9, [pl_s189]), (25, [pl_s784, pl_s786]), (203, [pl_s790, pl_s793]), (10, [pl_s787])]) (mi := 202) (cuts := [(59, [some (.inr (.inr (.inl 208))), some (.inl (0, 7, [])), some (.inl (0, 7, [])), some (.inl (ck_one 299)), some (.inl (1, 300, [(1000010, 1)])), none, none], ([], [(3, 8, 246)], [(206, 4, 4, ck_one (-1)), (3, 6, 6, (0, 299, [(10, 0)]))]), 100, .inl 4, true), (82, [some (.inr (.inr (.inl 208))), some (.inl (0, 7, [])), some (.inl (0, 7, [])), some (.inl (ck_one 299)), some (.inl (1, 298, [(100, 0), (1000010, 1)])), some (.inl (0, 8, [])), none], ([], [(3, 8, 246)], [(206, 4, 4, ck_one (-1)), (3, 6, 6, (0, 299, [(10, 0)]))]), 300, .inl 5, true)]) (f := 284) (S := pl_s794) (lx := none) (XF := []) ⟨pl_nmu, ck_E1 (ck_S1 pl_s189_s ck_S0) (ck_E1 (ck_S1 pl_s784_s (ck_S1 pl_s786_s ck_S0)) (ck_E1 (ck_S1 pl_s790_s (ck_S1 pl_s793_s ck_S0)) (ck_E1 (ck_S1 pl_s787_s ck_S0) ck_E0)))⟩ ck_X0 ck_l0 (by decide +kernel)
set_option maxRecDepth 100000 in
/-- GlacierMail$Answers.firstYear -/
def pl_s795 : ck_Sum := ((1, 0, 0), 249, [.inr (.inr (.inl 208)), .inl (0, 7, [])], ([], [], []), ([], []), [(.inr (some (.inl (ck_one (-1)))), 249, ([], [], [])), (.inr (some (.inl (0, 299, []))), 249, ([], [], []))])
set_option maxRecDepth 100000 in
theorem pl_s795_s {X : Int → Int} {LX : Nat} : ck_Ok p2_OL X LX 204 pl_s795 := ck_ok_s (O := p2_OL) (X := X) (LX := LX) (E := [(10, [pl_s787])]) (mi := 204) (cuts := [(2, [some (.inr (.inr (.inl 208))), some (.inl (0, 7, [])), some (.inl (0, 300, []))], ([], [], []), 100, .inl 2, true)]) (f := 138) (S := pl_s795) (lx := none) (XF := []) ⟨pl_nmu, ck_E1 (ck_S1 pl_s787_s ck_S0) ck_E0⟩ ck_X0 ck_l0 (by decide +kernel)
set_option maxRecDepth 100000 in
/-- GlacierMail$Answers.fewestThrows -/
def pl_s796 : ck_Sum := ((1, 0, 0), 249, [.inr (.inr (.inl 208)), .inl (0, 7, []), .inl (0, 299, [])], ([], [], []), ([], []), [(.inr (some (.inl ((-2147483648), 2147483647, []))), 249, ([], [], []))])
set_option maxRecDepth 100000 in
theorem pl_s796_s {X : Int → Int} {LX : Nat} : ck_Ok p2_OL X LX 205 pl_s796 := ck_ok_s (O := p2_OL) (X := X) (LX := LX) (E := [(10, [pl_s787])]) (mi := 205) (cuts := []) (f := 82) (S := pl_s796) (lx := none) (XF := []) ⟨pl_nmu, ck_E1 (ck_S1 pl_s787_s ck_S0) ck_E0⟩ ck_X0 ck_l0 (by decide +kernel)
set_option maxRecDepth 100000 in
/-- GlacierMail.soonest -/
def pl_s797 : ck_Sum := ((8, 3, 18), 249, [.inr (.inr (.inl 1)), .inl (0, 7, []), .inl (0, 7, []), .inl (0, 1, [])], ([], [(3, 8, 246)], [(3, 6, 6, (0, 299, [(10, 0)]))]), (zl251, []), [(.inl 3, 249, ([], [], [])), (.inl 0, 249, ([], [], [])), (.inr (some (.inl ((-2147483648), 2147483647, []))), 249, ([], [], [(206, 4, 4, ck_one (-1))])), (.inr (some (.inl (0, 299, []))), 249, ([], [], [(206, 4, 4, ck_one (-1))]))])
set_option maxRecDepth 100000 in
theorem pl_s797_s {X : Int → Int} {LX : Nat} : ck_Ok p2_OL X LX 201 pl_s797 := ck_ok_s (O := p2_OL) (X := X) (LX := LX) (E := [(139, [pl_s197]), (153, [pl_s254]), (202, [pl_s794]), (204, [pl_s795]), (205, [pl_s796])]) (mi := 201) (cuts := []) (f := 136) (S := pl_s797) (lx := none) (XF := []) ⟨pl_nmu, ck_E1 (ck_S1 pl_s197_s ck_S0) (ck_E1 (ck_S1 pl_s254_s ck_S0) (ck_E1 (ck_S1 pl_s794_s ck_S0) (ck_E1 (ck_S1 pl_s795_s ck_S0) (ck_E1 (ck_S1 pl_s796_s ck_S0) ck_E0))))⟩ ck_X0 ck_l0 (by decide +kernel)
set_option maxRecDepth 100000 in
/-- GlacierMail.chain -/
def pl_s798 : ck_Sum := ((8, 1, 6), 249, [.inr (.inr (.inl 1)), .inl ((-2147483648), (-1), []), .inl ((-2147483648), 2147483647, []), .inl ((-2147483648), 2147483647, [])], ([], [], []), ([], []), [(.inl 3, 249, ([], [], []))])
set_option maxRecDepth 100000 in
theorem pl_s798_s {X : Int → Int} {LX : Nat} : ck_Ok p2_OL X LX 207 pl_s798 := ck_ok_s (O := p2_OL) (X := X) (LX := LX) (E := [(139, [pl_s191])]) (mi := 207) (cuts := []) (f := 76) (S := pl_s798) (lx := none) (XF := []) ⟨pl_nmu, ck_E1 (ck_S1 pl_s191_s ck_S0) ck_E0⟩ ck_X0 ck_l0 (by decide +kernel)
set_option maxRecDepth 100000 in
/-- GlacierMail.chain -/
def pl_s799 : ck_Sum := ((8, 1, 6), 249, [.inr (.inr (.inl 1)), .inl (8, 2147483647, []), .inl ((-2147483648), 2147483647, []), .inl ((-2147483648), 2147483647, [])], ([], [], []), ([], []), [(.inl 3, 249, ([], [], []))])
set_option maxRecDepth 100000 in
theorem pl_s799_s {X : Int → Int} {LX : Nat} : ck_Ok p2_OL X LX 207 pl_s799 := ck_ok_s (O := p2_OL) (X := X) (LX := LX) (E := [(139, [pl_s194])]) (mi := 207) (cuts := []) (f := 76) (S := pl_s799) (lx := none) (XF := []) ⟨pl_nmu, ck_E1 (ck_S1 pl_s194_s ck_S0) ck_E0⟩ ck_X0 ck_l0 (by decide +kernel)
set_option maxRecDepth 100000 in
/-- GlacierMail.chain -/
def pl_s800 : ck_Sum := ((8, 2, 12), 249, [.inr (.inr (.inl 1)), .inl (0, 7, []), .inl ((-2147483648), (-1), []), .inl ((-2147483648), 2147483647, [])], ([], [], []), ([], []), [(.inl 3, 249, ([], [], []))])
set_option maxRecDepth 100000 in
theorem pl_s800_s {X : Int → Int} {LX : Nat} : ck_Ok p2_OL X LX 207 pl_s800 := ck_ok_s (O := p2_OL) (X := X) (LX := LX) (E := [(139, [pl_s197, pl_s191])]) (mi := 207) (cuts := []) (f := 82) (S := pl_s800) (lx := none) (XF := []) ⟨pl_nmu, ck_E1 (ck_S1 pl_s197_s (ck_S1 pl_s191_s ck_S0)) ck_E0⟩ ck_X0 ck_l0 (by decide +kernel)
set_option maxRecDepth 100000 in
/-- GlacierMail.chain -/
def pl_s801 : ck_Sum := ((8, 2, 12), 249, [.inr (.inr (.inl 1)), .inl (0, 7, []), .inl (8, 2147483647, []), .inl ((-2147483648), 2147483647, [])], ([], [], []), ([], []), [(.inl 3, 249, ([], [], []))])
set_option maxRecDepth 100000 in
theorem pl_s801_s {X : Int → Int} {LX : Nat} : ck_Ok p2_OL X LX 207 pl_s801 := ck_ok_s (O := p2_OL) (X := X) (LX := LX) (E := [(139, [pl_s197, pl_s194])]) (mi := 207) (cuts := []) (f := 82) (S := pl_s801) (lx := none) (XF := []) ⟨pl_nmu, ck_E1 (ck_S1 pl_s197_s (ck_S1 pl_s194_s ck_S0)) ck_E0⟩ ck_X0 ck_l0 (by decide +kernel)
set_option maxRecDepth 100000 in
/-- GlacierMail$Rows.get -/
def pl_s802 : ck_Sum := ((0, 0, 0), 249, [.inr (.inr (.inl 211)), .inl ((-2147483648), 2147483647, []), .inl ((-2147483648), 2147483647, [])], ([], [], []), ([], []), [(.inr (some (.inl ((-2147483648), 299, []))), 249, ([], [], []))])
set_option maxRecDepth 100000 in
theorem pl_s802_s {X : Int → Int} {LX : Nat} : ck_Ok p2_OL X LX 10 pl_s802 := ck_ok_s (O := p2_OL) (X := X) (LX := LX) (E := []) (mi := 10) (cuts := []) (f := 114) (S := pl_s802) (lx := none) (XF := []) ⟨pl_nmu, ck_E0⟩ ck_X0 ck_l0 (by decide +kernel)
set_option maxRecDepth 100000 in
/-- GlacierMail$Answers.throwAhead -/
def pl_s803 : ck_Sum := ((1, 0, 0), 249, [.inr (.inr (.inl 208)), .inl (0, 2398, []), .inl (0, 299, []), .inl (1, 2147483646, [])], ([], [], [(3, 6, 6, (0, 299, [(10, 0)]))]), ([], []), [(.inr (some (.inl (0, 2398, []))), 249, ([], [], []))])
set_option maxRecDepth 100000 in
theorem pl_s803_s {X : Int → Int} {LX : Nat} : ck_Ok p2_OL X LX 209 pl_s803 := ck_ok_s (O := p2_OL) (X := X) (LX := LX) (E := [(10, [pl_s224, pl_s787, pl_s802]), (9, [pl_s189])]) (mi := 209) (cuts := [(17, [some (.inr (.inr (.inl 208))), some (.inl (0, 2398, [])), some (.inl (0, 299, [])), some (.inl (1, 2147483646, [])), some (.inl ((-1), 98, [])), some (.inl (0, 9, [])), none], ([], [], [(3, 6, 6, (0, 299, [(10, 0)]))]), 100, .inl 5, true), (59, [some (.inr (.inr (.inl 208))), some (.inl (0, 2398, [])), some (.inl (0, 299, [])), some (.inl (1, 2147483646, [])), some (.inl ((-1), 98, [])), some (.inl (0, 7, [(100, 0)])), some (.inl (0, 299, [(1000010, 0)]))], ([], [], [(3, 6, 6, (0, 299, [(10, 0)]))]), 300, .inl 6, true)]) (f := 260) (S := pl_s803) (lx := none) (XF := []) ⟨pl_nmu, ck_E1 (ck_S1 pl_s224_s (ck_S1 pl_s787_s (ck_S1 pl_s802_s ck_S0))) (ck_E1 (ck_S1 pl_s189_s ck_S0) ck_E0)⟩ ck_X0 ck_l0 (by decide +kernel)
set_option maxRecDepth 100000 in
/-- GlacierMail$Answers.holder -/
def pl_s804 : ck_Sum := ((2, 0, 0), 249, [.inr (.inr (.inl 208)), .inl (0, 7, []), .inl (0, 7, []), .inl (ck_one 0)], ([], [], [(3, 6, 6, (0, 299, [(10, 0)]))]), ([], []), [(.inr (some (.inl (ck_one (-1)))), 249, ([], [], [])), (.inr (some (.inl (0, 7, []))), 249, ([], [], []))])
set_option maxRecDepth 100000 in
theorem pl_s804_s {X : Int → Int} {LX : Nat} : ck_Ok p2_OL X LX 208 pl_s804 := ck_ok_s (O := p2_OL) (X := X) (LX := LX) (E := [(204, [pl_s795]), (10, [pl_s787]), (209, [pl_s803])]) (mi := 208) (cuts := [(44, [some (.inr (.inr (.inl 208))), some (.inl (0, 7, [])), some (.inl (0, 7, [])), some (.inl (ck_one 0)), some (.inl (0, 299, [])), some (.inl (0, 2398, [])), some (.inl (0, 2147483647, [])), some (.inl (0, 2147483647, [])), none], ([], [], [(3, 6, 6, (0, 299, [(10, 0)]))]), 100, .inl 7, false)]) (f := 190) (S := pl_s804) (lx := none) (XF := []) ⟨pl_nmu, ck_E1 (ck_S1 pl_s795_s ck_S0) (ck_E1 (ck_S1 pl_s787_s ck_S0) (ck_E1 (ck_S1 pl_s803_s ck_S0) ck_E0))⟩ ck_X0 ck_l0 (by decide +kernel)
set_option maxRecDepth 100000 in
/-- GlacierMail.chain -/
def pl_s805 : ck_Sum := ((8, 4, 24), 249, [.inr (.inr (.inl 1)), .inl (0, 7, []), .inl (0, 7, []), .inl ((-2147483648), 0, [])], ([], [(3, 8, 246)], [(3, 6, 6, (0, 299, [(10, 0)]))]), (zl251, []), [(.inl 3, 249, ([], [], [])), (.inl 0, 249, ([], [], [])), (.inr (some (.inl (ck_one (-1)))), 249, ([], [], [(206, 4, 4, ck_one (-1))])), (.inr (some (.inl (0, 7, []))), 249, ([], [], [(206, 4, 4, ck_one (-1))]))])
set_option maxRecDepth 100000 in
theorem pl_s805_s {X : Int → Int} {LX : Nat} : ck_Ok p2_OL X LX 207 pl_s805 := ck_ok_s (O := p2_OL) (X := X) (LX := LX) (E := [(139, [pl_s197]), (153, [pl_s254]), (202, [pl_s794]), (208, [pl_s804])]) (mi := 207) (cuts := []) (f := 120) (S := pl_s805) (lx := none) (XF := []) ⟨pl_nmu, ck_E1 (ck_S1 pl_s197_s ck_S0) (ck_E1 (ck_S1 pl_s254_s ck_S0) (ck_E1 (ck_S1 pl_s794_s ck_S0) (ck_E1 (ck_S1 pl_s804_s ck_S0) ck_E0)))⟩ ck_X0 ck_l0 (by decide +kernel)
set_option maxRecDepth 100000 in
/-- GlacierMail$Answers.throwAhead -/
def pl_s806 : ck_Sum := ((1, 0, 0), 249, [.inr (.inr (.inl 208)), .inl (0, 2398, []), .inl (0, 299, []), .inl (51, 2147483646, [])], ([], [], [(3, 6, 6, (0, 299, [(10, 0)]))]), ([], []), [(.inr (some (.inl (0, 2398, []))), 249, ([], [], []))])
set_option maxRecDepth 100000 in
theorem pl_s806_s {X : Int → Int} {LX : Nat} : ck_Ok p2_OL X LX 209 pl_s806 := ck_ok_s (O := p2_OL) (X := X) (LX := LX) (E := [(10, [pl_s224, pl_s787, pl_s802]), (9, [pl_s189])]) (mi := 209) (cuts := [(17, [some (.inr (.inr (.inl 208))), some (.inl (0, 2398, [])), some (.inl (0, 299, [])), some (.inl (51, 2147483646, [])), some (.inl ((-1), 98, [])), some (.inl (0, 9, [])), none], ([], [], [(3, 6, 6, (0, 299, [(10, 0)]))]), 100, .inl 5, true), (59, [some (.inr (.inr (.inl 208))), some (.inl (0, 2398, [])), some (.inl (0, 299, [])), some (.inl (51, 2147483646, [])), some (.inl ((-1), 98, [])), some (.inl (0, 7, [(100, 0)])), some (.inl (0, 299, [(1000010, 0)]))], ([], [], [(3, 6, 6, (0, 299, [(10, 0)]))]), 300, .inl 6, true)]) (f := 260) (S := pl_s806) (lx := none) (XF := []) ⟨pl_nmu, ck_E1 (ck_S1 pl_s224_s (ck_S1 pl_s787_s (ck_S1 pl_s802_s ck_S0))) (ck_E1 (ck_S1 pl_s189_s ck_S0) ck_E0)⟩ ck_X0 ck_l0 (by decide +kernel)
set_option maxRecDepth 100000 in
/-- GlacierMail$Answers.holder -/
def pl_s807 : ck_Sum := ((2, 0, 0), 249, [.inr (.inr (.inl 208)), .inl (0, 7, []), .inl (0, 7, []), .inl (51, 2147483647, [])], ([], [], [(3, 6, 6, (0, 299, [(10, 0)]))]), ([], []), [(.inr (some (.inl (ck_one (-1)))), 249, ([], [], [])), (.inr (some (.inl (0, 2398, []))), 249, ([], [], []))])
set_option maxRecDepth 100000 in
theorem pl_s807_s {X : Int → Int} {LX : Nat} : ck_Ok p2_OL X LX 208 pl_s807 := ck_ok_s (O := p2_OL) (X := X) (LX := LX) (E := [(204, [pl_s795]), (10, [pl_s787]), (209, [pl_s806])]) (mi := 208) (cuts := [(44, [some (.inr (.inr (.inl 208))), some (.inl (0, 7, [])), some (.inl (0, 7, [])), some (.inl (51, 2147483647, [])), some (.inl (0, 299, [])), some (.inl (0, 2398, [])), some (.inl (51, 2147483647, [])), some (.inl (51, 2147483647, [])), none], ([], [], [(3, 6, 6, (0, 299, [(10, 0)]))]), 100, .inl 7, false)]) (f := 190) (S := pl_s807) (lx := none) (XF := []) ⟨pl_nmu, ck_E1 (ck_S1 pl_s795_s ck_S0) (ck_E1 (ck_S1 pl_s787_s ck_S0) (ck_E1 (ck_S1 pl_s806_s ck_S0) ck_E0))⟩ ck_X0 ck_l0 (by decide +kernel)
set_option maxRecDepth 100000 in
/-- GlacierMail.chain -/
def pl_s808 : ck_Sum := ((8, 3, 18), 249, [.inr (.inr (.inl 1)), .inl (0, 7, []), .inl (0, 7, []), .inl (51, 2147483647, [])], ([], [(3, 8, 246)], [(3, 6, 6, (0, 299, [(10, 0)]))]), (zl251, []), zl252)
set_option maxRecDepth 100000 in
theorem pl_s808_s {X : Int → Int} {LX : Nat} : ck_Ok p2_OL X LX 207 pl_s808 := ck_ok_s (O := p2_OL) (X := X) (LX := LX) (E := [(139, [pl_s197]), (153, [pl_s254]), (202, [pl_s794]), (208, [pl_s807])]) (mi := 207) (cuts := []) (f := 120) (S := pl_s808) (lx := none) (XF := []) ⟨pl_nmu, ck_E1 (ck_S1 pl_s197_s ck_S0) (ck_E1 (ck_S1 pl_s254_s ck_S0) (ck_E1 (ck_S1 pl_s794_s ck_S0) (ck_E1 (ck_S1 pl_s807_s ck_S0) ck_E0)))⟩ ck_X0 ck_l0 (by decide +kernel)
set_option maxRecDepth 100000 in
/-- GlacierMail$Answers.holder -/
def pl_s809 : ck_Sum := ((2, 0, 0), 249, [.inr (.inr (.inl 208)), .inl (0, 7, []), .inl (0, 7, []), .inl (1, 50, [])], ([], [], [(3, 6, 6, (0, 299, [(10, 0)]))]), ([], []), [(.inr (some (.inl (ck_one (-1)))), 249, ([], [], [])), (.inr (some (.inl (0, 2398, []))), 249, ([], [], []))])
set_option maxRecDepth 100000 in
theorem pl_s809_s {X : Int → Int} {LX : Nat} : ck_Ok p2_OL X LX 208 pl_s809 := ck_ok_s (O := p2_OL) (X := X) (LX := LX) (E := [(204, [pl_s795]), (10, [pl_s787]), (209, [pl_s803])]) (mi := 208) (cuts := [(44, [some (.inr (.inr (.inl 208))), some (.inl (0, 7, [])), some (.inl (0, 7, [])), some (.inl (1, 50, [])), some (.inl (0, 299, [])), some (.inl (0, 2398, [])), some (.inl (1, 2147483647, [])), some (.inl (1, 2147483647, [])), none], ([], [], [(3, 6, 6, (0, 299, [(10, 0)]))]), 100, .inl 7, false)]) (f := 190) (S := pl_s809) (lx := none) (XF := []) ⟨pl_nmu, ck_E1 (ck_S1 pl_s795_s ck_S0) (ck_E1 (ck_S1 pl_s787_s ck_S0) (ck_E1 (ck_S1 pl_s803_s ck_S0) ck_E0))⟩ ck_X0 ck_l0 (by decide +kernel)
set_option maxRecDepth 100000 in
/-- GlacierMail.chain -/
def pl_s810 : ck_Sum := ((8, 3, 18), 249, [.inr (.inr (.inl 1)), .inl (0, 7, []), .inl (0, 7, []), .inl (1, 50, [])], ([], [(3, 8, 246)], [(3, 6, 6, (0, 299, [(10, 0)]))]), (zl251, []), zl252)
set_option maxRecDepth 100000 in
theorem pl_s810_s {X : Int → Int} {LX : Nat} : ck_Ok p2_OL X LX 207 pl_s810 := ck_ok_s (O := p2_OL) (X := X) (LX := LX) (E := [(139, [pl_s197]), (153, [pl_s254]), (202, [pl_s794]), (208, [pl_s809])]) (mi := 207) (cuts := []) (f := 120) (S := pl_s810) (lx := none) (XF := []) ⟨pl_nmu, ck_E1 (ck_S1 pl_s197_s ck_S0) (ck_E1 (ck_S1 pl_s254_s ck_S0) (ck_E1 (ck_S1 pl_s794_s ck_S0) (ck_E1 (ck_S1 pl_s809_s ck_S0) ck_E0)))⟩ ck_X0 ck_l0 (by decide +kernel)
set_option maxRecDepth 100000 in
/-- GlacierMail.reached -/
def pl_s811 : ck_Sum := ((8, 1, 6), 249, [.inr (.inr (.inl 1)), .inl ((-2147483648), (-1), []), .inl ((-2147483648), 2147483647, [])], ([], [], []), ([], []), [(.inl 3, 249, ([], [], []))])
set_option maxRecDepth 100000 in
theorem pl_s811_s {X : Int → Int} {LX : Nat} : ck_Ok p2_OL X LX 211 pl_s811 := ck_ok_s (O := p2_OL) (X := X) (LX := LX) (E := [(139, [pl_s191])]) (mi := 211) (cuts := []) (f := 76) (S := pl_s811) (lx := none) (XF := []) ⟨pl_nmu, ck_E1 (ck_S1 pl_s191_s ck_S0) ck_E0⟩ ck_X0 ck_l0 (by decide +kernel)
set_option maxRecDepth 100000 in
/-- GlacierMail.reached -/
def pl_s812 : ck_Sum := ((8, 1, 6), 249, [.inr (.inr (.inl 1)), .inl (8, 2147483647, []), .inl ((-2147483648), 2147483647, [])], ([], [], []), ([], []), [(.inl 3, 249, ([], [], []))])
set_option maxRecDepth 100000 in
theorem pl_s812_s {X : Int → Int} {LX : Nat} : ck_Ok p2_OL X LX 211 pl_s812 := ck_ok_s (O := p2_OL) (X := X) (LX := LX) (E := [(139, [pl_s194])]) (mi := 211) (cuts := []) (f := 76) (S := pl_s812) (lx := none) (XF := []) ⟨pl_nmu, ck_E1 (ck_S1 pl_s194_s ck_S0) ck_E0⟩ ck_X0 ck_l0 (by decide +kernel)
set_option maxRecDepth 100000 in
/-- GlacierMail.reached -/
def pl_s813 : ck_Sum := ((8, 2, 12), 249, [.inr (.inr (.inl 1)), .inl (0, 7, []), .inl ((-2147483648), (-1), [])], ([], [], []), ([], []), [(.inl 3, 249, ([], [], [])), (.inl 0, 249, ([], [], []))])
set_option maxRecDepth 100000 in
theorem pl_s813_s {X : Int → Int} {LX : Nat} : ck_Ok p2_OL X LX 211 pl_s813 := ck_ok_s (O := p2_OL) (X := X) (LX := LX) (E := [(139, [pl_s197]), (129, [pl_s145])]) (mi := 211) (cuts := []) (f := 82) (S := pl_s813) (lx := none) (XF := []) ⟨pl_nmu, ck_E1 (ck_S1 pl_s197_s ck_S0) (ck_E1 (ck_S1 pl_s145_s ck_S0) ck_E0)⟩ ck_X0 ck_l0 (by decide +kernel)
set_option maxRecDepth 100000 in
/-- GlacierMail.reached -/
def pl_s814 : ck_Sum := ((8, 2, 12), 249, [.inr (.inr (.inl 1)), .inl (0, 7, []), .inl (300, 2147483647, [])], ([], [], []), ([], []), [(.inl 3, 249, ([], [], [])), (.inl 0, 249, ([], [], []))])
set_option maxRecDepth 100000 in
theorem pl_s814_s {X : Int → Int} {LX : Nat} : ck_Ok p2_OL X LX 211 pl_s814 := ck_ok_s (O := p2_OL) (X := X) (LX := LX) (E := [(139, [pl_s197]), (129, [pl_s147])]) (mi := 211) (cuts := []) (f := 82) (S := pl_s814) (lx := none) (XF := []) ⟨pl_nmu, ck_E1 (ck_S1 pl_s197_s ck_S0) (ck_E1 (ck_S1 pl_s147_s ck_S0) ck_E0)⟩ ck_X0 ck_l0 (by decide +kernel)
set_option maxRecDepth 100000 in
/-- GlacierMail$Answers.throwAgain -/
def pl_s815 : ck_Sum := ((5, 0, 0), 249, [.inr (.inr (.inl 208)), .inl (0, 7, []), .inl (0, 299, []), .inl (ck_one 1), .inl (0, 299, [])], ([], [(3, 8, 246)], []), (zl249, []), [(.inr none, 249, ([], [], [(206, 4, 4, ck_one (-1))]))])
set_option maxRecDepth 100000 in
theorem pl_s815_s {X : Int → Int} {LX : Nat} : ck_Ok p2_OL X LX 203 pl_s815 := ck_ok_s (O := p2_OL) (X := X) (LX := LX) (E := [(10, [pl_s224, pl_s787]), (170, [pl_s697]), (30, [pl_s214]), (45, [pl_s788, pl_s789]), (9, [pl_s189])]) (mi := 203) (cuts := [(59, [some (.inr (.inr (.inl 208))), some (.inl (0, 7, [])), some (.inl (0, 299, [])), some (.inl (ck_one 1)), some (.inl (0, 299, [])), some (.inr (.inr (.inl 8))), some (.inl ((-1), 98, [])), some (.inl ((-2147483648), 299, [])), some (.inl (0, 8, [])), none], ([], [(3, 8, 246)], [(206, 4, 4, ck_one (-1))]), 100, .inl 8, true)]) (f := 214) (S := pl_s815) (lx := none) (XF := []) ⟨pl_nmu, ck_E1 (ck_S1 pl_s224_s (ck_S1 pl_s787_s ck_S0)) (ck_E1 (ck_S1 pl_s697_s ck_S0) (ck_E1 (ck_S1 pl_s214_s ck_S0) (ck_E1 (ck_S1 pl_s788_s (ck_S1 pl_s789_s ck_S0)) (ck_E1 (ck_S1 pl_s189_s ck_S0) ck_E0))))⟩ ck_X0 ck_l0 (by decide +kernel)
set_option maxRecDepth 100000 in
/-- GlacierMail$Answers.throwAgain -/
def pl_s816 : ck_Sum := ((5, 0, 0), 249, [.inr (.inr (.inl 208)), .inl (0, 7, []), .inl (2, 299, []), .inl ((-2147483648), 2147483647, []), .inl (2, 299, [])], ([], [(3, 8, 246)], []), (zl250, []), [(.inr none, 249, ([], [], [(206, 4, 4, ck_one (-1))]))])
set_option maxRecDepth 100000 in
theorem pl_s816_s {X : Int → Int} {LX : Nat} : ck_Ok p2_OL X LX 203 pl_s816 := ck_ok_s (O := p2_OL) (X := X) (LX := LX) (E := [(10, [pl_s224, pl_s787]), (170, [pl_s697]), (30, [pl_s214]), (45, [pl_s791, pl_s792]), (9, [pl_s189])]) (mi := 203) (cuts := [(59, [some (.inr (.inr (.inl 208))), some (.inl (0, 7, [])), some (.inl (2, 299, [])), some (.inl ((-2147483648), 2147483647, [])), some (.inl (2, 299, [])), some (.inr (.inr (.inl 8))), some (.inl ((-1), 98, [])), some (.inl ((-2147483648), 299, [])), some (.inl (0, 8, [])), none], ([], [(3, 8, 246)], [(206, 4, 4, ck_one (-1))]), 100, .inl 8, true)]) (f := 214) (S := pl_s816) (lx := none) (XF := []) ⟨pl_nmu, ck_E1 (ck_S1 pl_s224_s (ck_S1 pl_s787_s ck_S0)) (ck_E1 (ck_S1 pl_s697_s ck_S0) (ck_E1 (ck_S1 pl_s214_s ck_S0) (ck_E1 (ck_S1 pl_s791_s (ck_S1 pl_s792_s ck_S0)) (ck_E1 (ck_S1 pl_s189_s ck_S0) ck_E0))))⟩ ck_X0 ck_l0 (by decide +kernel)
set_option maxRecDepth 100000 in
/-- GlacierMail$Answers.spread -/
def pl_s817 : ck_Sum := ((6, 0, 0), 249, [.inr (.inr (.inl 208)), .inl (0, 7, []), .inl (ck_one (-1)), .inl (0, 299, [])], ([], [(3, 8, 246)], [(3, 6, 6, (0, 299, [(10, 0)]))]), (zl251, []), [(.inr none, 249, ([], [], [(206, 4, 4, ck_one (-1))]))])
set_option maxRecDepth 100000 in
theorem pl_s817_s {X : Int → Int} {LX : Nat} : ck_Ok p2_OL X LX 202 pl_s817 := ck_ok_s (O := p2_OL) (X := X) (LX := LX) (E := [(9, [pl_s189]), (25, [pl_s784, pl_s786]), (203, [pl_s815, pl_s816]), (10, [pl_s787])]) (mi := 202) (cuts := [(59, [some (.inr (.inr (.inl 208))), some (.inl (0, 7, [])), some (.inl (ck_one (-1))), some (.inl (0, 299, [])), some (.inl (1, 300, [(1000010, 1)])), none, none], ([], [(3, 8, 246)], [(206, 4, 4, ck_one (-1)), (3, 6, 6, (0, 299, [(10, 0)]))]), 100, .inl 4, true), (82, [some (.inr (.inr (.inl 208))), some (.inl (0, 7, [])), some (.inl (ck_one (-1))), some (.inl (2, 299, [])), some (.inl (1, 298, [(100, 0), (1000010, 1)])), some (.inl (0, 8, [])), none], ([], [(3, 8, 246)], [(206, 4, 4, ck_one (-1)), (3, 6, 6, (0, 299, [(10, 0)]))]), 300, .inl 5, true)]) (f := 284) (S := pl_s817) (lx := none) (XF := []) ⟨pl_nmu, ck_E1 (ck_S1 pl_s189_s ck_S0) (ck_E1 (ck_S1 pl_s784_s (ck_S1 pl_s786_s ck_S0)) (ck_E1 (ck_S1 pl_s815_s (ck_S1 pl_s816_s ck_S0)) (ck_E1 (ck_S1 pl_s787_s ck_S0) ck_E0)))⟩ ck_X0 ck_l0 (by decide +kernel)
set_option maxRecDepth 100000 in
/-- GlacierMail.reached -/
def pl_s818 : ck_Sum := ((8, 1, 6), 249, [.inr (.inr (.inl 1)), .inl (0, 7, []), .inl (0, 299, [])], ([], [(3, 8, 246)], [(3, 6, 6, (0, 299, [(10, 0)]))]), (zl251, []), [(.inl 3, 249, ([], [], [])), (.inr (some (.inl ((-2147483648), 2147483647, []))), 249, ([], [], [(206, 4, 4, ck_one (-1))]))])
set_option maxRecDepth 100000 in
theorem pl_s818_s {X : Int → Int} {LX : Nat} : ck_Ok p2_OL X LX 211 pl_s818 := ck_ok_s (O := p2_OL) (X := X) (LX := LX) (E := [(139, [pl_s197]), (129, [pl_s149]), (202, [pl_s817]), (9, [pl_s189]), (204, [pl_s795])]) (mi := 211) (cuts := [(27, [some (.inr (.inr (.inl 1))), some (.inl (0, 7, [])), some (.inl (0, 299, [])), some (.inl ((-2147483648), 2147483647, [])), some (.inl (0, 8, []))], ([], [(3, 8, 246)], [(206, 4, 4, ck_one (-1)), (3, 6, 6, (0, 299, [(10, 0)]))]), 100, .inl 4, true)]) (f := 174) (S := pl_s818) (lx := none) (XF := []) ⟨pl_nmu, ck_E1 (ck_S1 pl_s197_s ck_S0) (ck_E1 (ck_S1 pl_s149_s ck_S0) (ck_E1 (ck_S1 pl_s817_s ck_S0) (ck_E1 (ck_S1 pl_s189_s ck_S0) (ck_E1 (ck_S1 pl_s795_s ck_S0) ck_E0))))⟩ ck_X0 ck_l0 (by decide +kernel)
set_option maxRecDepth 100000 in
/-- GlacierMail.needThiefYears -/
def pl_s819 : ck_Sum := ((6, 1, 6), 249, [.inr (.inr (.inl 1)), .inl ((-2147483648), (-1), [])], ([], [], []), ([], []), [(.inl 0, 249, ([], [], []))])
set_option maxRecDepth 100000 in
theorem pl_s819_s {X : Int → Int} {LX : Nat} : ck_Ok p2_OL X LX 214 pl_s819 := ck_ok_s (O := p2_OL) (X := X) (LX := LX) (E := []) (mi := 214) (cuts := []) (f := 78) (S := pl_s819) (lx := none) (XF := []) ⟨pl_nmu, ck_E0⟩ ck_X0 ck_l0 (by decide +kernel)
set_option maxRecDepth 100000 in
/-- GlacierMail.thieves -/
def pl_s820 : ck_Sum := ((7, 1, 6), 249, [.inr (.inr (.inl 1)), .inl ((-2147483648), (-1), []), .inl (0, 1, [])], ([], [], []), ([], []), [(.inl 0, 249, ([], [], []))])
set_option maxRecDepth 100000 in
theorem pl_s820_s {X : Int → Int} {LX : Nat} : ck_Ok p2_OL X LX 213 pl_s820 := ck_ok_s (O := p2_OL) (X := X) (LX := LX) (E := [(214, [pl_s819])]) (mi := 213) (cuts := []) (f := 76) (S := pl_s820) (lx := none) (XF := []) ⟨pl_nmu, ck_E1 (ck_S1 pl_s819_s ck_S0) ck_E0⟩ ck_X0 ck_l0 (by decide +kernel)
set_option maxRecDepth 100000 in
/-- GlacierMail.needThiefYears -/
def pl_s821 : ck_Sum := ((6, 1, 6), 249, [.inr (.inr (.inl 1)), .inl (31, 2147483647, [])], ([], [], []), ([], []), [(.inl 0, 249, ([], [], []))])
set_option maxRecDepth 100000 in
theorem pl_s821_s {X : Int → Int} {LX : Nat} : ck_Ok p2_OL X LX 214 pl_s821 := ck_ok_s (O := p2_OL) (X := X) (LX := LX) (E := []) (mi := 214) (cuts := []) (f := 84) (S := pl_s821) (lx := none) (XF := []) ⟨pl_nmu, ck_E0⟩ ck_X0 ck_l0 (by decide +kernel)
set_option maxRecDepth 100000 in
/-- GlacierMail.thieves -/
def pl_s822 : ck_Sum := ((7, 1, 6), 249, [.inr (.inr (.inl 1)), .inl (31, 2147483647, []), .inl (0, 1, [])], ([], [], []), ([], []), [(.inl 0, 249, ([], [], []))])
set_option maxRecDepth 100000 in
theorem pl_s822_s {X : Int → Int} {LX : Nat} : ck_Ok p2_OL X LX 213 pl_s822 := ck_ok_s (O := p2_OL) (X := X) (LX := LX) (E := [(214, [pl_s821])]) (mi := 213) (cuts := []) (f := 76) (S := pl_s822) (lx := none) (XF := []) ⟨pl_nmu, ck_E1 (ck_S1 pl_s821_s ck_S0) ck_E0⟩ ck_X0 ck_l0 (by decide +kernel)
set_option maxRecDepth 100000 in
/-- GlacierMail.needThiefYears -/
def pl_s823 : ck_Sum := ((6, 1, 6), 249, [.inr (.inr (.inl 1)), .inl (0, 30, [])], ([], [], []), ([], []), [(.inl 0, 249, ([], [], [])), (.inr none, 249, ([], [], []))])
set_option maxRecDepth 100000 in
theorem pl_s823_s {X : Int → Int} {LX : Nat} : ck_Ok p2_OL X LX 214 pl_s823 := ck_ok_s (O := p2_OL) (X := X) (LX := LX) (E := []) (mi := 214) (cuts := []) (f := 84) (S := pl_s823) (lx := none) (XF := []) ⟨pl_nmu, ck_E0⟩ ck_X0 ck_l0 (by decide +kernel)
set_option maxRecDepth 100000 in
/-- java/util/Arrays.fill -/
def pl_s824 : ck_Sum := ((0, 0, 0), 249, [.inr (.inr (.inl 223)), .inl (ck_one 0)], ([], [], []), ([(223, 0, 179)], []), [(.inr none, 249, ([], [], []))])
set_option maxRecDepth 100000 in
theorem pl_s824_s {X : Int → Int} {LX : Nat} : ck_Ok p2_OL X LX 8 pl_s824 := ck_ok_s (O := p2_OL) (X := X) (LX := LX) (E := []) (mi := 8) (cuts := [(5, [some (.inr (.inr (.inl 223))), some (.inl (ck_one 0)), some (.inl (0, 180, [])), some (.inl (ck_one 180))], ([], [], []), 100, .inl 2, true)]) (f := 130) (S := pl_s824) (lx := none) (XF := []) ⟨pl_nmu, ck_E0⟩ ck_X0 ck_l0 (by decide +kernel)
set_option maxRecDepth 100000 in
/-- GlacierMail$Rows.reset -/
def pl_s825 : ck_Sum := ((1, 0, 0), 249, [.inr (.inr (.inl 222)), .inl (0, 30, [])], ([], [], []), ([(222, 3, 3), (223, 0, 179)], []), [(.inr none, 249, ([], [], []))])
set_option maxRecDepth 100000 in
theorem pl_s825_s {X : Int → Int} {LX : Nat} : ck_Ok p2_OL X LX 25 pl_s825 := ck_ok_s (O := p2_OL) (X := X) (LX := LX) (E := [(8, [pl_s824])]) (mi := 25) (cuts := []) (f := 96) (S := pl_s825) (lx := none) (XF := []) ⟨pl_nmu, ck_E1 (ck_S1 pl_s824_s ck_S0) ck_E0⟩ ck_X0 ck_l0 (by decide +kernel)
set_option maxRecDepth 100000 in
/-- GlacierMail$Rows.get -/
def pl_s826 : ck_Sum := ((0, 0, 0), 249, [.inr (.inr (.inl 222)), .inl ((-2147483648), 2147483647, []), .inl ((-2147483648), 2147483647, [])], ([], [], []), ([], []), [(.inr (some (.inl ((-2147483648), 2147483647, []))), 249, ([], [], []))])
set_option maxRecDepth 100000 in
theorem pl_s826_s {X : Int → Int} {LX : Nat} : ck_Ok p2_OL X LX 10 pl_s826 := ck_ok_s (O := p2_OL) (X := X) (LX := LX) (E := []) (mi := 10) (cuts := []) (f := 114) (S := pl_s826) (lx := none) (XF := []) ⟨pl_nmu, ck_E0⟩ ck_X0 ck_l0 (by decide +kernel)
set_option maxRecDepth 100000 in
/-- GlacierMail$Rows.put -/
def pl_s827 : ck_Sum := ((0, 0, 0), 249, [.inr (.inr (.inl 222)), .inl ((-2147483648), 2147483647, []), .inl ((-1), 299, []), .inl ((-2147483648), 2147483647, [])], ([], [], []), ([(223, 0, 179)], []), [(.inr none, 249, ([], [], []))])
set_option maxRecDepth 100000 in
theorem pl_s827_s {X : Int → Int} {LX : Nat} : ck_Ok p2_OL X LX 45 pl_s827 := ck_ok_s (O := p2_OL) (X := X) (LX := LX) (E := []) (mi := 45) (cuts := []) (f := 116) (S := pl_s827) (lx := none) (XF := []) ⟨pl_nmu, ck_E0⟩ ck_X0 ck_l0 (by decide +kernel)
set_option maxRecDepth 100000 in
/-- GlacierMail.reckonCame -/
def pl_s828 : ck_Sum := ((2, 0, 0), 249, [.inr (.inr (.inl 1)), .inl (0, 30, [])], ([], [], [(3, 6, 6, (0, 299, [(10, 0)]))]), ([(222, 3, 3), (223, 0, 179)], []), [(.inr none, 249, ([], [], []))])
set_option maxRecDepth 100000 in
theorem pl_s828_s {X : Int → Int} {LX : Nat} : ck_Ok p2_OL X LX 215 pl_s828 := ck_ok_s (O := p2_OL) (X := X) (LX := LX) (E := [(25, [pl_s825]), (9, [pl_s201]), (10, [pl_s218, pl_s204, pl_s826]), (28, [pl_s205]), (45, [pl_s827])]) (mi := 215) (cuts := [(10, [some (.inr (.inr (.inl 1))), some (.inl (0, 30, [])), some (.inl (0, 24, [])), none, none], ([], [], [(3, 6, 6, (0, 299, [(10, 0)]))]), 100, .inl 2, true)]) (f := 286) (S := pl_s828) (lx := none) (XF := []) ⟨pl_nmu, ck_E1 (ck_S1 pl_s825_s ck_S0) (ck_E1 (ck_S1 pl_s201_s ck_S0) (ck_E1 (ck_S1 pl_s218_s (ck_S1 pl_s204_s (ck_S1 pl_s826_s ck_S0))) (ck_E1 (ck_S1 pl_s205_s ck_S0) (ck_E1 (ck_S1 pl_s827_s ck_S0) ck_E0))))⟩ ck_X0 ck_l0 (by decide +kernel)
set_option maxRecDepth 100000 in
/-- java/util/Arrays.fill -/
def pl_s829 : ck_Sum := ((0, 0, 0), 249, [.inr (.inr (.inl 225)), .inl (ck_one 0)], ([], [], []), ([(225, 0, 185)], []), [(.inr none, 249, ([], [], []))])
set_option maxRecDepth 100000 in
theorem pl_s829_s {X : Int → Int} {LX : Nat} : ck_Ok p2_OL X LX 8 pl_s829 := ck_ok_s (O := p2_OL) (X := X) (LX := LX) (E := []) (mi := 8) (cuts := [(5, [some (.inr (.inr (.inl 225))), some (.inl (ck_one 0)), some (.inl (0, 186, [])), some (.inl (ck_one 186))], ([], [], []), 100, .inl 2, true)]) (f := 130) (S := pl_s829) (lx := none) (XF := []) ⟨pl_nmu, ck_E0⟩ ck_X0 ck_l0 (by decide +kernel)
set_option maxRecDepth 100000 in
/-- GlacierMail$Rows.reset -/
def pl_s830 : ck_Sum := ((1, 0, 0), 249, [.inr (.inr (.inl 224)), .inl (1, 31, [])], ([], [], []), ([(224, 3, 3), (225, 0, 185)], []), [(.inr none, 249, ([], [], [(224, 3, 3, (1, 31, []))]))])
set_option maxRecDepth 100000 in
theorem pl_s830_s {X : Int → Int} {LX : Nat} : ck_Ok p2_OL X LX 25 pl_s830 := ck_ok_s (O := p2_OL) (X := X) (LX := LX) (E := [(8, [pl_s829])]) (mi := 25) (cuts := []) (f := 96) (S := pl_s830) (lx := none) (XF := []) ⟨pl_nmu, ck_E1 (ck_S1 pl_s829_s ck_S0) ck_E0⟩ ck_X0 ck_l0 (by decide +kernel)
set_option maxRecDepth 100000 in
/-- GlacierMail$Rows.get -/
def pl_s831 : ck_Sum := ((0, 0, 0), 249, [.inr (.inr (.inl 224)), .inl ((-2147483648), 2147483647, []), .inl ((-2147483648), 2147483647, [])], ([], [], []), ([], []), [(.inr (some (.inl ((-2147483648), 2147483647, []))), 249, ([], [], []))])
set_option maxRecDepth 100000 in
theorem pl_s831_s {X : Int → Int} {LX : Nat} : ck_Ok p2_OL X LX 10 pl_s831 := ck_ok_s (O := p2_OL) (X := X) (LX := LX) (E := []) (mi := 10) (cuts := []) (f := 114) (S := pl_s831) (lx := none) (XF := []) ⟨pl_nmu, ck_E0⟩ ck_X0 ck_l0 (by decide +kernel)
set_option maxRecDepth 100000 in
/-- GlacierMail.bestNext -/
def pl_s832 : ck_Sum := ((1, 0, 0), 249, [.inr (.inr (.inl 1)), .inl (1, 30, []), .inl (0, 5, [])], ([], [], []), ([], []), [(.inr (some (.inl ((-2147483648), 2147483647, []))), 249, ([], [], []))])
set_option maxRecDepth 100000 in
theorem pl_s832_s {X : Int → Int} {LX : Nat} : ck_Ok p2_OL X LX 216 pl_s832 := ck_ok_s (O := p2_OL) (X := X) (LX := LX) (E := [(10, [pl_s831])]) (mi := 216) (cuts := []) (f := 118) (S := pl_s832) (lx := none) (XF := []) ⟨pl_nmu, ck_E1 (ck_S1 pl_s831_s ck_S0) ck_E0⟩ ck_X0 ck_l0 (by decide +kernel)
set_option maxRecDepth 100000 in
/-- GlacierMail$Rows.put -/
def pl_s833 : ck_Sum := ((0, 0, 0), 249, [.inr (.inr (.inl 224)), .inl (0, 29, []), .inl (0, 5, []), .inl ((-2147483648), 2147483647, [])], ([], [], []), ([(225, 0, 179)], []), [(.inr none, 249, ([], [], []))])
set_option maxRecDepth 100000 in
theorem pl_s833_s {X : Int → Int} {LX : Nat} : ck_Ok p2_OL X LX 45 pl_s833 := ck_ok_s (O := p2_OL) (X := X) (LX := LX) (E := []) (mi := 45) (cuts := []) (f := 116) (S := pl_s833) (lx := none) (XF := []) ⟨pl_nmu, ck_E0⟩ ck_X0 ck_l0 (by decide +kernel)
set_option maxRecDepth 100000 in
/-- GlacierMail.thieves -/
def pl_s834 : ck_Sum := ((7, 1, 6), 249, [.inr (.inr (.inl 1)), .inl (0, 30, []), .inl (0, 1, [])], ([], [(3, 8, 246)], [(3, 6, 6, (0, 299, [(10, 0)]))]), ([(1, 15, 15), (200, 6, 6), (204, 0, 9), (205, 0, 14849), (206, 2, 8), (220, 3, 3), (221, 0, 47), (222, 3, 3), (223, 0, 179), (224, 3, 3), (225, 0, 185)], []), [(.inl 0, 249, ([], [], [])), (.inr (some (.inl ((-2147483648), 2147483647, []))), 249, ([], [], [(224, 3, 3, (1, 31, [])), (1, 15, 15, ck_one 1)])), (.inr (some (.inl (0, 5, []))), 249, ([], [], [(224, 3, 3, (1, 31, [])), (1, 15, 15, ck_one 1)]))])
set_option maxRecDepth 100000 in
theorem pl_s834_s {X : Int → Int} {LX : Nat} : ck_Ok p2_OL X LX 213 pl_s834 := ck_ok_s (O := p2_OL) (X := X) (LX := LX) (E := [(214, [pl_s823]), (24, [pl_s217]), (215, [pl_s828]), (25, [pl_s830]), (10, [pl_s831, pl_s826]), (216, [pl_s832]), (45, [pl_s833])]) (mi := 213) (cuts := [(28, [some (.inr (.inr (.inl 1))), some (.inl (0, 30, [])), some (.inl (0, 1, [])), some (.inl ((-1), 29, [])), none], ([], [(3, 8, 246)], [(224, 3, 3, (1, 31, [])), (1, 15, 15, ck_one 1), (3, 6, 6, (0, 299, [(10, 0)]))]), 100, .inl 3, false), (94, [some (.inr (.inr (.inl 1))), some (.inl (0, 30, [])), some (.inl (0, 1, [])), some (.inl (0, 5, [])), some (.inl (1, 6, []))], ([], [(3, 8, 246)], [(224, 3, 3, (1, 31, [])), (1, 15, 15, ck_one 1), (3, 6, 6, (0, 299, [(10, 0)]))]), 300, .inl 4, true), (35, [some (.inr (.inr (.inl 1))), some (.inl (0, 30, [])), some (.inl (0, 1, [])), some (.inl (0, 29, [(100, 0)])), some (.inl (0, 6, []))], ([], [(3, 8, 246)], [(224, 3, 3, (1, 31, [])), (1, 15, 15, ck_one 1), (3, 6, 6, (0, 299, [(10, 0)]))]), 500, .inl 4, true)]) (f := 330) (S := pl_s834) (lx := none) (XF := []) ⟨pl_nmu, ck_E1 (ck_S1 pl_s823_s ck_S0) (ck_E1 (ck_S1 pl_s217_s ck_S0) (ck_E1 (ck_S1 pl_s828_s ck_S0) (ck_E1 (ck_S1 pl_s830_s ck_S0) (ck_E1 (ck_S1 pl_s831_s (ck_S1 pl_s826_s ck_S0)) (ck_E1 (ck_S1 pl_s832_s ck_S0) (ck_E1 (ck_S1 pl_s833_s ck_S0) ck_E0))))))⟩ ck_X0 ck_l0 (by decide +kernel)
set_option maxRecDepth 100000 in
/-- GlacierMail.watchman -/
def pl_s835 : ck_Sum := ((7, 1, 6), 249, [.inr (.inr (.inl 1)), .inl ((-2147483648), (-1), []), .inl (0, 1, [])], ([], [], []), ([], []), [(.inl 0, 249, ([], [], []))])
set_option maxRecDepth 100000 in
theorem pl_s835_s {X : Int → Int} {LX : Nat} : ck_Ok p2_OL X LX 218 pl_s835 := ck_ok_s (O := p2_OL) (X := X) (LX := LX) (E := [(214, [pl_s819])]) (mi := 218) (cuts := []) (f := 76) (S := pl_s835) (lx := none) (XF := []) ⟨pl_nmu, ck_E1 (ck_S1 pl_s819_s ck_S0) ck_E0⟩ ck_X0 ck_l0 (by decide +kernel)
set_option maxRecDepth 100000 in
/-- GlacierMail.watchman -/
def pl_s836 : ck_Sum := ((7, 1, 6), 249, [.inr (.inr (.inl 1)), .inl (31, 2147483647, []), .inl (0, 1, [])], ([], [], []), ([], []), [(.inl 0, 249, ([], [], []))])
set_option maxRecDepth 100000 in
theorem pl_s836_s {X : Int → Int} {LX : Nat} : ck_Ok p2_OL X LX 218 pl_s836 := ck_ok_s (O := p2_OL) (X := X) (LX := LX) (E := [(214, [pl_s821])]) (mi := 218) (cuts := []) (f := 76) (S := pl_s836) (lx := none) (XF := []) ⟨pl_nmu, ck_E1 (ck_S1 pl_s821_s ck_S0) ck_E0⟩ ck_X0 ck_l0 (by decide +kernel)
set_option maxRecDepth 100000 in
/-- GlacierMail.mostBeside -/
def pl_s837 : ck_Sum := ((1, 0, 0), 249, [.inr (.inr (.inl 1)), .inl (0, 5, []), .inl (0, 30, [])], ([], [], []), ([], []), [(.inr (some (.inl (0, 2147483647, []))), 249, ([], [], []))])
set_option maxRecDepth 100000 in
theorem pl_s837_s {X : Int → Int} {LX : Nat} : ck_Ok p2_OL X LX 219 pl_s837 := ck_ok_s (O := p2_OL) (X := X) (LX := LX) (E := [(10, [pl_s826])]) (mi := 219) (cuts := [(5, [some (.inr (.inr (.inl 1))), some (.inl (0, 5, [])), some (.inl (0, 30, [])), some (.inl (0, 2147483647, [])), some (.inl (0, 6, [])), none, none], ([], [], []), 100, .inl 4, true), (23, [some (.inr (.inr (.inl 1))), some (.inl (0, 5, [])), some (.inl (0, 30, [])), some (.inl (0, 2147483647, [])), some (.inl (0, 5, [(100, 0)])), some (.inl ((-2147483648), 2147483647, [])), some (.inl (0, 30, []))], ([], [], []), 300, .inl 6, true)]) (f := 194) (S := pl_s837) (lx := none) (XF := []) ⟨pl_nmu, ck_E1 (ck_S1 pl_s826_s ck_S0) ck_E0⟩ ck_X0 ck_l0 (by decide +kernel)
set_option maxRecDepth 100000 in
/-- GlacierMail.mostBeside -/
def pl_s838 : ck_Sum := ((1, 0, 0), 249, [.inr (.inr (.inl 1)), .inl (1, 5, []), .inl (0, 30, [])], ([], [], []), ([], []), [(.inr (some (.inl (0, 2147483647, []))), 249, ([], [], []))])
set_option maxRecDepth 100000 in
theorem pl_s838_s {X : Int → Int} {LX : Nat} : ck_Ok p2_OL X LX 219 pl_s838 := ck_ok_s (O := p2_OL) (X := X) (LX := LX) (E := [(10, [pl_s826])]) (mi := 219) (cuts := [(5, [some (.inr (.inr (.inl 1))), some (.inl (1, 5, [])), some (.inl (0, 30, [])), some (.inl (0, 2147483647, [])), some (.inl (0, 6, [])), none, none], ([], [], []), 100, .inl 4, true), (23, [some (.inr (.inr (.inl 1))), some (.inl (1, 5, [])), some (.inl (0, 30, [])), some (.inl (0, 2147483647, [])), some (.inl (0, 5, [(100, 0)])), some (.inl ((-2147483648), 2147483647, [])), some (.inl (0, 30, []))], ([], [], []), 300, .inl 6, true)]) (f := 194) (S := pl_s838) (lx := none) (XF := []) ⟨pl_nmu, ck_E1 (ck_S1 pl_s826_s ck_S0) ck_E0⟩ ck_X0 ck_l0 (by decide +kernel)
set_option maxRecDepth 100000 in
/-- GlacierMail.watchman -/
def pl_s839 : ck_Sum := ((7, 1, 6), 249, [.inr (.inr (.inl 1)), .inl (0, 30, []), .inl (0, 1, [])], ([], [(3, 8, 246)], [(3, 6, 6, (0, 299, [(10, 0)]))]), ([(1, 15, 15), (200, 6, 6), (204, 0, 9), (205, 0, 14849), (206, 2, 8), (220, 3, 3), (221, 0, 47), (222, 3, 3), (223, 0, 179)], []), [(.inl 0, 249, ([], [], [])), (.inr (some (.inl (0, 2147483647, []))), 249, ([], [], [(1, 15, 15, ck_one 1)]))])
set_option maxRecDepth 100000 in
theorem pl_s839_s {X : Int → Int} {LX : Nat} : ck_Ok p2_OL X LX 218 pl_s839 := ck_ok_s (O := p2_OL) (X := X) (LX := LX) (E := [(214, [pl_s823]), (24, [pl_s217]), (215, [pl_s828]), (219, [pl_s837, pl_s838])]) (mi := 218) (cuts := [(19, [some (.inr (.inr (.inl 1))), some (.inl (0, 30, [])), some (.inl (0, 1, [])), some (.inl (0, 5, [])), some (.inl (1, 6, []))], ([], [(3, 8, 246)], [(1, 15, 15, ck_one 1), (3, 6, 6, (0, 299, [(10, 0)]))]), 100, .inl 4, true)]) (f := 166) (S := pl_s839) (lx := none) (XF := []) ⟨pl_nmu, ck_E1 (ck_S1 pl_s823_s ck_S0) (ck_E1 (ck_S1 pl_s217_s ck_S0) (ck_E1 (ck_S1 pl_s828_s ck_S0) (ck_E1 (ck_S1 pl_s837_s (ck_S1 pl_s838_s ck_S0)) ck_E0)))⟩ ck_X0 ck_l0 (by decide +kernel)
set_option maxRecDepth 100000 in
/-- GlacierMail.meeting -/
def pl_s840 : ck_Sum := ((8, 1, 6), 249, [.inr (.inr (.inl 1)), .inl ((-2147483648), (-1), []), .inl ((-2147483648), 2147483647, [])], ([], [], []), ([], []), [(.inl 3, 249, ([], [], []))])
set_option maxRecDepth 100000 in
theorem pl_s840_s {X : Int → Int} {LX : Nat} : ck_Ok p2_OL X LX 221 pl_s840 := ck_ok_s (O := p2_OL) (X := X) (LX := LX) (E := [(143, [pl_s227])]) (mi := 221) (cuts := []) (f := 76) (S := pl_s840) (lx := none) (XF := []) ⟨pl_nmu, ck_E1 (ck_S1 pl_s227_s ck_S0) ck_E0⟩ ck_X0 ck_l0 (by decide +kernel)
set_option maxRecDepth 100000 in
/-- GlacierMail.meeting -/
def pl_s841 : ck_Sum := ((8, 1, 6), 249, [.inr (.inr (.inl 1)), .inl (24, 2147483647, []), .inl ((-2147483648), 2147483647, [])], ([], [], []), ([], []), [(.inl 3, 249, ([], [], []))])
set_option maxRecDepth 100000 in
theorem pl_s841_s {X : Int → Int} {LX : Nat} : ck_Ok p2_OL X LX 221 pl_s841 := ck_ok_s (O := p2_OL) (X := X) (LX := LX) (E := [(143, [pl_s230])]) (mi := 221) (cuts := []) (f := 76) (S := pl_s841) (lx := none) (XF := []) ⟨pl_nmu, ck_E1 (ck_S1 pl_s230_s ck_S0) ck_E0⟩ ck_X0 ck_l0 (by decide +kernel)
set_option maxRecDepth 100000 in
/-- GlacierMail.meeting -/
def pl_s842 : ck_Sum := ((8, 2, 12), 249, [.inr (.inr (.inl 1)), .inl (0, 23, []), .inl ((-2147483648), (-1), [])], ([], [], []), ([], []), [(.inl 3, 249, ([], [], []))])
set_option maxRecDepth 100000 in
theorem pl_s842_s {X : Int → Int} {LX : Nat} : ck_Ok p2_OL X LX 221 pl_s842 := ck_ok_s (O := p2_OL) (X := X) (LX := LX) (E := [(143, [pl_s233, pl_s227])]) (mi := 221) (cuts := []) (f := 82) (S := pl_s842) (lx := none) (XF := []) ⟨pl_nmu, ck_E1 (ck_S1 pl_s233_s (ck_S1 pl_s227_s ck_S0)) ck_E0⟩ ck_X0 ck_l0 (by decide +kernel)
set_option maxRecDepth 100000 in
/-- GlacierMail.meeting -/
def pl_s843 : ck_Sum := ((8, 2, 12), 249, [.inr (.inr (.inl 1)), .inl (0, 23, []), .inl (24, 2147483647, [])], ([], [], []), ([], []), [(.inl 3, 249, ([], [], []))])
set_option maxRecDepth 100000 in
theorem pl_s843_s {X : Int → Int} {LX : Nat} : ck_Ok p2_OL X LX 221 pl_s843 := ck_ok_s (O := p2_OL) (X := X) (LX := LX) (E := [(143, [pl_s233, pl_s230])]) (mi := 221) (cuts := []) (f := 82) (S := pl_s843) (lx := none) (XF := []) ⟨pl_nmu, ck_E1 (ck_S1 pl_s233_s (ck_S1 pl_s230_s ck_S0)) ck_E0⟩ ck_X0 ck_l0 (by decide +kernel)
set_option maxRecDepth 100000 in
/-- GlacierMail.needUnlike -/
def pl_s844 : ck_Sum := ((6, 1, 6), 249, [.inr (.inr (.inl 1)), .inl (0, 23, []), .inl (0, 23, [])], ([], [], []), ([], []), [(.inr none, 249, ([], [], [])), (.inl 0, 249, ([], [], []))])
set_option maxRecDepth 100000 in
theorem pl_s844_s {X : Int → Int} {LX : Nat} : ck_Ok p2_OL X LX 153 pl_s844 := ck_ok_s (O := p2_OL) (X := X) (LX := LX) (E := []) (mi := 153) (cuts := []) (f := 78) (S := pl_s844) (lx := none) (XF := []) ⟨pl_nmu, ck_E0⟩ ck_X0 ck_l0 (by decide +kernel)
set_option maxRecDepth 100000 in
/-- GlacierMail.startBoth -/
def pl_s845 : ck_Sum := ((5, 0, 0), 249, [.inr (.inr (.inl 1)), .inl (0, 23, []), .inl (0, 23, []), .inl (0, 299, [])], ([], [(3, 8, 246)], []), (zl248, []), [(.inr (some (.inl (0, 299, []))), 249, ([], [], zl86))])
set_option maxRecDepth 100000 in
theorem pl_s845_s {X : Int → Int} {LX : Nat} : ck_Ok p2_OL X LX 182 pl_s845 := ck_ok_s (O := p2_OL) (X := X) (LX := LX) (E := [(27, [pl_s208, pl_s721]), (148, [pl_s243, pl_s726])]) (mi := 182) (cuts := []) (f := 126) (S := pl_s845) (lx := none) (XF := []) ⟨pl_nmu, ck_E1 (ck_S1 pl_s208_s (ck_S1 pl_s721_s ck_S0)) (ck_E1 (ck_S1 pl_s243_s (ck_S1 pl_s726_s ck_S0)) ck_E0)⟩ ck_X0 ck_l0 (by decide +kernel)
set_option maxRecDepth 100000 in
/-- GlacierMail.meeting -/
def pl_s846 : ck_Sum := ((8, 3, 18), 249, [.inr (.inr (.inl 1)), .inl (0, 23, []), .inl (0, 23, [])], ([], [(3, 8, 246)], [(3, 6, 6, (0, 299, [(10, 0)]))]), (zl248, []), [(.inl 3, 249, ([], [], [])), (.inl 0, 249, ([], [], [])), (.inr (some (.inl (ck_one (-1)))), 249, ([], [], [])), (.inr (some (.inl (0, 299, []))), 249, ([], [], zl207))])
set_option maxRecDepth 100000 in
theorem pl_s846_s {X : Int → Int} {LX : Nat} : ck_Ok p2_OL X LX 221 pl_s846 := ck_ok_s (O := p2_OL) (X := X) (LX := LX) (E := [(143, [pl_s233]), (153, [pl_s844]), (180, [pl_s718]), (182, [pl_s845]), (183, [pl_s728]), (184, [pl_s729])]) (mi := 221) (cuts := [(44, [some (.inr (.inr (.inl 1))), some (.inl (0, 23, [])), some (.inl (0, 23, [])), some (.inl (0, 299, [])), some (.inl (0, 300, []))], ([], [(3, 8, 246)], [(206, 4, 4, ck_one (-1)), (206, 2, 2, ((-1), 299, [])), (3, 6, 6, (0, 299, [(10, 0)]))]), 100, .inl 4, true)]) (f := 194) (S := pl_s846) (lx := none) (XF := []) ⟨pl_nmu, ck_E1 (ck_S1 pl_s233_s ck_S0) (ck_E1 (ck_S1 pl_s844_s ck_S0) (ck_E1 (ck_S1 pl_s718_s ck_S0) (ck_E1 (ck_S1 pl_s845_s ck_S0) (ck_E1 (ck_S1 pl_s728_s ck_S0) (ck_E1 (ck_S1 pl_s729_s ck_S0) ck_E0)))))⟩ ck_X0 ck_l0 (by decide +kernel)
set_option maxRecDepth 100000 in
/-- GlacierMail.outs -/
def pl_s847 : ck_Sum := ((7, 1, 6), 249, [.inr (.inr (.inl 1)), .inl ((-2147483648), (-1), [])], ([], [], []), ([], []), [(.inl 0, 249, ([], [], []))])
set_option maxRecDepth 100000 in
theorem pl_s847_s {X : Int → Int} {LX : Nat} : ck_Ok p2_OL X LX 223 pl_s847 := ck_ok_s (O := p2_OL) (X := X) (LX := LX) (E := [(129, [pl_s145])]) (mi := 223) (cuts := []) (f := 76) (S := pl_s847) (lx := none) (XF := []) ⟨pl_nmu, ck_E1 (ck_S1 pl_s145_s ck_S0) ck_E0⟩ ck_X0 ck_l0 (by decide +kernel)
set_option maxRecDepth 100000 in
/-- GlacierMail.outs -/
def pl_s848 : ck_Sum := ((7, 1, 6), 249, [.inr (.inr (.inl 1)), .inl (300, 2147483647, [])], ([], [], []), ([], []), [(.inl 0, 249, ([], [], []))])
set_option maxRecDepth 100000 in
theorem pl_s848_s {X : Int → Int} {LX : Nat} : ck_Ok p2_OL X LX 223 pl_s848 := ck_ok_s (O := p2_OL) (X := X) (LX := LX) (E := [(129, [pl_s147])]) (mi := 223) (cuts := []) (f := 76) (S := pl_s848) (lx := none) (XF := []) ⟨pl_nmu, ck_E1 (ck_S1 pl_s147_s ck_S0) ck_E0⟩ ck_X0 ck_l0 (by decide +kernel)
set_option maxRecDepth 100000 in
/-- GlacierMail.outIn -/
def pl_s849 : ck_Sum := ((1, 0, 0), 249, [.inr (.inr (.inl 1)), .inl (0, 299, []), .inl (ck_one 1)], ([], [], []), ([], []), [(.inr (some (.inl ((-2147483648), 2147483647, []))), 249, ([], [], []))])
set_option maxRecDepth 100000 in
theorem pl_s849_s {X : Int → Int} {LX : Nat} : ck_Ok p2_OL X LX 47 pl_s849 := ck_ok_s (O := p2_OL) (X := X) (LX := LX) (E := [(9, [pl_s201]), (10, [pl_s218])]) (mi := 47) (cuts := [(5, [some (.inr (.inr (.inl 1))), some (.inl (0, 299, [])), some (.inl (ck_one 1)), some (.inl ((-2147483648), 2147483647, [])), some (.inl (0, 24, []))], ([], [], []), 100, .inl 4, true)]) (f := 162) (S := pl_s849) (lx := none) (XF := []) ⟨pl_nmu, ck_E1 (ck_S1 pl_s201_s ck_S0) (ck_E1 (ck_S1 pl_s218_s ck_S0) ck_E0)⟩ ck_X0 ck_l0 (by decide +kernel)
set_option maxRecDepth 100000 in
/-- GlacierMail.outs -/
def pl_s850 : ck_Sum := ((6, 0, 0), 249, [.inr (.inr (.inl 1)), .inl (0, 299, [])], ([], [(3, 8, 246)], []), (zl228, []), [(.inr (some (.inl ((-2147483648), 2147483647, []))), 249, ([], [], [(1, 15, 15, ck_one 1)]))])
set_option maxRecDepth 100000 in
theorem pl_s850_s {X : Int → Int} {LX : Nat} : ck_Ok p2_OL X LX 223 pl_s850 := ck_ok_s (O := p2_OL) (X := X) (LX := LX) (E := [(129, [pl_s149]), (24, [pl_s217]), (47, [pl_s849])]) (mi := 223) (cuts := []) (f := 90) (S := pl_s850) (lx := none) (XF := []) ⟨pl_nmu, ck_E1 (ck_S1 pl_s149_s ck_S0) (ck_E1 (ck_S1 pl_s217_s ck_S0) (ck_E1 (ck_S1 pl_s849_s ck_S0) ck_E0))⟩ ck_X0 ck_l0 (by decide +kernel)
set_option maxRecDepth 100000 in
/-- GlacierMail.outAheadOf -/
def pl_s851 : ck_Sum := ((1, 0, 0), 249, [.inr (.inr (.inl 1)), .inl (0, 23, [])], ([], [], []), ([], []), [(.inr (some (.inl ((-2147483648), 2147483647, []))), 249, ([], [], []))])
set_option maxRecDepth 100000 in
theorem pl_s851_s {X : Int → Int} {LX : Nat} : ck_Ok p2_OL X LX 53 pl_s851 := ck_ok_s (O := p2_OL) (X := X) (LX := LX) (E := [(10, [pl_s218]), (9, [pl_s201])]) (mi := 53) (cuts := [(15, [some (.inr (.inr (.inl 1))), some (.inl (0, 23, [])), some (.inl ((-2147483648), 299, [])), some (.inl ((-2147483648), 2147483647, [])), some (.inl (0, 24, [])), none, none], ([], [], []), 100, .inl 4, true)]) (f := 214) (S := pl_s851) (lx := none) (XF := []) ⟨pl_nmu, ck_E1 (ck_S1 pl_s218_s ck_S0) (ck_E1 (ck_S1 pl_s201_s ck_S0) ck_E0)⟩ ck_X0 ck_l0 (by decide +kernel)
set_option maxRecDepth 100000 in
/-- GlacierMail.order -/
def pl_s852 : ck_Sum := ((6, 0, 0), 249, [.inr (.inr (.inl 1)), .inl ((-2147483648), 2147483647, [])], ([], [(3, 8, 246)], []), (zl228, []), [(.inr (some (.inl (ck_one (-1)))), 249, ([], [], [(1, 15, 15, ck_one 1)])), (.inr (some (.inl (0, 23, []))), 249, ([], [], [(1, 15, 15, ck_one 1)]))])
set_option maxRecDepth 100000 in
theorem pl_s852_s {X : Int → Int} {LX : Nat} : ck_Ok p2_OL X LX 52 pl_s852 := ck_ok_s (O := p2_OL) (X := X) (LX := LX) (E := [(24, [pl_s217]), (9, [pl_s201]), (10, [pl_s218]), (53, [pl_s851])]) (mi := 52) (cuts := [(6, [some (.inr (.inr (.inl 1))), some (.inl ((-2147483648), 2147483647, [])), some (.inl (0, 24, []))], ([], [(3, 8, 246)], [(1, 15, 15, ck_one 1)]), 100, .inl 2, true)]) (f := 170) (S := pl_s852) (lx := none) (XF := []) ⟨pl_nmu, ck_E1 (ck_S1 pl_s217_s ck_S0) (ck_E1 (ck_S1 pl_s201_s ck_S0) (ck_E1 (ck_S1 pl_s218_s ck_S0) (ck_E1 (ck_S1 pl_s851_s ck_S0) ck_E0)))⟩ ck_X0 ck_l0 (by decide +kernel)
set_option maxRecDepth 100000 in
/-- GlacierMail.streams -/
def pl_s853 : ck_Sum := ((7, 1, 6), 249, [.inr (.inr (.inl 1)), .inl ((-2147483648), (-1), []), .inl (0, 1, [])], ([], [], []), ([], []), [(.inl 0, 249, ([], [], []))])
set_option maxRecDepth 100000 in
theorem pl_s853_s {X : Int → Int} {LX : Nat} : ck_Ok p2_OL X LX 225 pl_s853 := ck_ok_s (O := p2_OL) (X := X) (LX := LX) (E := [(129, [pl_s145])]) (mi := 225) (cuts := []) (f := 76) (S := pl_s853) (lx := none) (XF := []) ⟨pl_nmu, ck_E1 (ck_S1 pl_s145_s ck_S0) ck_E0⟩ ck_X0 ck_l0 (by decide +kernel)
set_option maxRecDepth 100000 in
/-- GlacierMail.streams -/
def pl_s854 : ck_Sum := ((7, 1, 6), 249, [.inr (.inr (.inl 1)), .inl (300, 2147483647, []), .inl (0, 1, [])], ([], [], []), ([], []), [(.inl 0, 249, ([], [], []))])
set_option maxRecDepth 100000 in
theorem pl_s854_s {X : Int → Int} {LX : Nat} : ck_Ok p2_OL X LX 225 pl_s854 := ck_ok_s (O := p2_OL) (X := X) (LX := LX) (E := [(129, [pl_s147])]) (mi := 225) (cuts := []) (f := 76) (S := pl_s854) (lx := none) (XF := []) ⟨pl_nmu, ck_E1 (ck_S1 pl_s147_s ck_S0) ck_E0⟩ ck_X0 ck_l0 (by decide +kernel)
set_option maxRecDepth 100000 in
/-- GlacierMail.streams -/
def pl_s855 : ck_Sum := ((6, 0, 0), 249, [.inr (.inr (.inl 1)), .inl (0, 299, []), .inl (0, 1, [])], ([], [(3, 8, 246)], []), (zl228, []), [(.inr (some (.inl ((-2147483648), 2147483647, []))), 249, ([], [], [(1, 15, 15, ck_one 1)]))])
set_option maxRecDepth 100000 in
theorem pl_s855_s {X : Int → Int} {LX : Nat} : ck_Ok p2_OL X LX 225 pl_s855 := ck_ok_s (O := p2_OL) (X := X) (LX := LX) (E := [(129, [pl_s149]), (24, [pl_s217]), (9, [pl_s201]), (10, [pl_s204, pl_s218]), (67, [pl_s219])]) (mi := 225) (cuts := [(14, [some (.inr (.inr (.inl 1))), some (.inl (0, 299, [])), some (.inl (0, 1, [])), some (.inl ((-2147483648), 2147483647, [])), some (.inl (0, 24, [])), none], ([], [(3, 8, 246)], [(1, 15, 15, ck_one 1)]), 100, .inl 4, true)]) (f := 226) (S := pl_s855) (lx := none) (XF := []) ⟨pl_nmu, ck_E1 (ck_S1 pl_s149_s ck_S0) (ck_E1 (ck_S1 pl_s217_s ck_S0) (ck_E1 (ck_S1 pl_s201_s ck_S0) (ck_E1 (ck_S1 pl_s204_s (ck_S1 pl_s218_s ck_S0)) (ck_E1 (ck_S1 pl_s219_s ck_S0) ck_E0))))⟩ ck_X0 ck_l0 (by decide +kernel)
set_option maxRecDepth 100000 in
/-- GlacierMail.range -/
def pl_s856 : ck_Sum := ((8, 1, 6), 249, [.inr (.inr (.inl 1)), .inl ((-2147483648), (-1), []), .inl ((-2147483648), 2147483647, [])], ([], [], []), ([], []), [(.inl 3, 249, ([], [], []))])
set_option maxRecDepth 100000 in
theorem pl_s856_s {X : Int → Int} {LX : Nat} : ck_Ok p2_OL X LX 227 pl_s856 := ck_ok_s (O := p2_OL) (X := X) (LX := LX) (E := [(132, [pl_s153])]) (mi := 227) (cuts := []) (f := 76) (S := pl_s856) (lx := none) (XF := []) ⟨pl_nmu, ck_E1 (ck_S1 pl_s153_s ck_S0) ck_E0⟩ ck_X0 ck_l0 (by decide +kernel)
set_option maxRecDepth 100000 in
/-- GlacierMail.range -/
def pl_s857 : ck_Sum := ((8, 1, 6), 249, [.inr (.inr (.inl 1)), .inl (6, 2147483647, []), .inl ((-2147483648), 2147483647, [])], ([], [], []), ([], []), [(.inl 3, 249, ([], [], []))])
set_option maxRecDepth 100000 in
theorem pl_s857_s {X : Int → Int} {LX : Nat} : ck_Ok p2_OL X LX 227 pl_s857 := ck_ok_s (O := p2_OL) (X := X) (LX := LX) (E := [(132, [pl_s156])]) (mi := 227) (cuts := []) (f := 76) (S := pl_s857) (lx := none) (XF := []) ⟨pl_nmu, ck_E1 (ck_S1 pl_s156_s ck_S0) ck_E0⟩ ck_X0 ck_l0 (by decide +kernel)
end
/-! 78r86a12.sl -/
section
/-! EVERY CALL OF THE CLASS ENDS, under a law (laid by wip/am/p2l.py). -/
set_option maxRecDepth 100000 in
/-- GlacierMail.range -/
def pl_s858 : ck_Sum := ((8, 2, 12), 249, [.inr (.inr (.inl 1)), .inl (0, 5, []), .inl ((-2147483648), (-1), [])], ([], [], []), ([], []), [(.inl 3, 249, ([], [], [])), (.inl 0, 249, ([], [], []))])
set_option maxRecDepth 100000 in
theorem pl_s858_s {X : Int → Int} {LX : Nat} : ck_Ok p2_OL X LX 227 pl_s858 := ck_ok_s (O := p2_OL) (X := X) (LX := LX) (E := [(132, [pl_s159]), (129, [pl_s145])]) (mi := 227) (cuts := []) (f := 82) (S := pl_s858) (lx := none) (XF := []) ⟨pl_nmu, ck_E1 (ck_S1 pl_s159_s ck_S0) (ck_E1 (ck_S1 pl_s145_s ck_S0) ck_E0)⟩ ck_X0 ck_l0 (by decide +kernel)
set_option maxRecDepth 100000 in
/-- GlacierMail.range -/
def pl_s859 : ck_Sum := ((8, 2, 12), 249, [.inr (.inr (.inl 1)), .inl (0, 5, []), .inl (300, 2147483647, [])], ([], [], []), ([], []), [(.inl 3, 249, ([], [], [])), (.inl 0, 249, ([], [], []))])
set_option maxRecDepth 100000 in
theorem pl_s859_s {X : Int → Int} {LX : Nat} : ck_Ok p2_OL X LX 227 pl_s859 := ck_ok_s (O := p2_OL) (X := X) (LX := LX) (E := [(132, [pl_s159]), (129, [pl_s147])]) (mi := 227) (cuts := []) (f := 82) (S := pl_s859) (lx := none) (XF := []) ⟨pl_nmu, ck_E1 (ck_S1 pl_s159_s ck_S0) (ck_E1 (ck_S1 pl_s147_s ck_S0) ck_E0)⟩ ck_X0 ck_l0 (by decide +kernel)
set_option maxRecDepth 100000 in
/-- GlacierMail.range -/
def pl_s860 : ck_Sum := ((8, 1, 6), 249, [.inr (.inr (.inl 1)), .inl (0, 5, []), .inl (0, 299, [])], ([], [(3, 8, 246)], []), (zl229, []), [(.inl 3, 249, ([], [], [])), (.inr (some (.inl ((-2147483648), 2147483647, []))), 249, ([], [], [(206, 4, 4, ck_one (-1))]))])
set_option maxRecDepth 100000 in
theorem pl_s860_s {X : Int → Int} {LX : Nat} : ck_Ok p2_OL X LX 227 pl_s860 := ck_ok_s (O := p2_OL) (X := X) (LX := LX) (E := [(132, [pl_s159]), (129, [pl_s149]), (29, [pl_s691]), (30, [pl_s214])]) (mi := 227) (cuts := []) (f := 120) (S := pl_s860) (lx := none) (XF := []) ⟨pl_nmu, ck_E1 (ck_S1 pl_s159_s ck_S0) (ck_E1 (ck_S1 pl_s149_s ck_S0) (ck_E1 (ck_S1 pl_s691_s ck_S0) (ck_E1 (ck_S1 pl_s214_s ck_S0) ck_E0)))⟩ ck_X0 ck_l0 (by decide +kernel)
set_option maxRecDepth 100000 in
/-- GlacierMail.swiftest -/
def pl_s861 : ck_Sum := ((8, 1, 6), 249, [.inr (.inr (.inl 1)), .inl ((-2147483648), (-1), []), .inl ((-2147483648), 2147483647, [])], ([], [], []), ([], []), [(.inl 3, 249, ([], [], []))])
set_option maxRecDepth 100000 in
theorem pl_s861_s {X : Int → Int} {LX : Nat} : ck_Ok p2_OL X LX 229 pl_s861 := ck_ok_s (O := p2_OL) (X := X) (LX := LX) (E := [(134, [pl_s161])]) (mi := 229) (cuts := []) (f := 76) (S := pl_s861) (lx := none) (XF := []) ⟨pl_nmu, ck_E1 (ck_S1 pl_s161_s ck_S0) ck_E0⟩ ck_X0 ck_l0 (by decide +kernel)
set_option maxRecDepth 100000 in
/-- GlacierMail.swiftest -/
def pl_s862 : ck_Sum := ((8, 1, 6), 249, [.inr (.inr (.inl 1)), .inl (99, 2147483647, []), .inl ((-2147483648), 2147483647, [])], ([], [], []), ([], []), [(.inl 3, 249, ([], [], []))])
set_option maxRecDepth 100000 in
theorem pl_s862_s {X : Int → Int} {LX : Nat} : ck_Ok p2_OL X LX 229 pl_s862 := ck_ok_s (O := p2_OL) (X := X) (LX := LX) (E := [(134, [pl_s164])]) (mi := 229) (cuts := []) (f := 76) (S := pl_s862) (lx := none) (XF := []) ⟨pl_nmu, ck_E1 (ck_S1 pl_s164_s ck_S0) ck_E0⟩ ck_X0 ck_l0 (by decide +kernel)
set_option maxRecDepth 100000 in
/-- GlacierMail.swiftest -/
def pl_s863 : ck_Sum := ((8, 2, 12), 249, [.inr (.inr (.inl 1)), .inl (0, 98, []), .inl ((-2147483648), (-1), [])], ([], [], []), ([], []), [(.inl 3, 249, ([], [], [])), (.inl 0, 249, ([], [], []))])
set_option maxRecDepth 100000 in
theorem pl_s863_s {X : Int → Int} {LX : Nat} : ck_Ok p2_OL X LX 229 pl_s863 := ck_ok_s (O := p2_OL) (X := X) (LX := LX) (E := [(134, [pl_s167]), (129, [pl_s145])]) (mi := 229) (cuts := []) (f := 82) (S := pl_s863) (lx := none) (XF := []) ⟨pl_nmu, ck_E1 (ck_S1 pl_s167_s ck_S0) (ck_E1 (ck_S1 pl_s145_s ck_S0) ck_E0)⟩ ck_X0 ck_l0 (by decide +kernel)
set_option maxRecDepth 100000 in
/-- GlacierMail.swiftest -/
def pl_s864 : ck_Sum := ((8, 2, 12), 249, [.inr (.inr (.inl 1)), .inl (0, 98, []), .inl (300, 2147483647, [])], ([], [], []), ([], []), [(.inl 3, 249, ([], [], [])), (.inl 0, 249, ([], [], []))])
set_option maxRecDepth 100000 in
theorem pl_s864_s {X : Int → Int} {LX : Nat} : ck_Ok p2_OL X LX 229 pl_s864 := ck_ok_s (O := p2_OL) (X := X) (LX := LX) (E := [(134, [pl_s167]), (129, [pl_s147])]) (mi := 229) (cuts := []) (f := 82) (S := pl_s864) (lx := none) (XF := []) ⟨pl_nmu, ck_E1 (ck_S1 pl_s167_s ck_S0) (ck_E1 (ck_S1 pl_s147_s ck_S0) ck_E0)⟩ ck_X0 ck_l0 (by decide +kernel)
set_option maxRecDepth 100000 in
/-- GlacierMail.swiftest -/
def pl_s865 : ck_Sum := ((8, 1, 6), 249, [.inr (.inr (.inl 1)), .inl (0, 98, []), .inl (0, 299, [])], ([], [(3, 8, 246)], []), (zl229, []), [(.inl 3, 249, ([], [], [])), (.inr (some (.inl ((-1), 5, []))), 249, ([], [], []))])
set_option maxRecDepth 100000 in
theorem pl_s865_s {X : Int → Int} {LX : Nat} : ck_Ok p2_OL X LX 229 pl_s865 := ck_ok_s (O := p2_OL) (X := X) (LX := LX) (E := [(134, [pl_s167]), (129, [pl_s149]), (29, [pl_s691]), (30, [pl_s214])]) (mi := 229) (cuts := [(20, [some (.inr (.inr (.inl 1))), some (.inl (0, 98, [])), some (.inl (0, 299, [])), some (.inl ((-1), 5, [])), some (.inl ((-2147483648), 300, [])), some (.inl (0, 6, [])), none], ([], [(3, 8, 246)], []), 100, .inl 5, true)]) (f := 210) (S := pl_s865) (lx := none) (XF := []) ⟨pl_nmu, ck_E1 (ck_S1 pl_s167_s ck_S0) (ck_E1 (ck_S1 pl_s149_s ck_S0) (ck_E1 (ck_S1 pl_s691_s ck_S0) (ck_E1 (ck_S1 pl_s214_s ck_S0) ck_E0)))⟩ ck_X0 ck_l0 (by decide +kernel)
set_option maxRecDepth 100000 in
/-- GlacierMail.bare -/
def pl_s866 : ck_Sum := ((7, 1, 6), 249, [.inr (.inr (.inl 1)), .inl ((-2147483648), (-1), [])], ([], [], []), ([], []), [(.inl 0, 249, ([], [], []))])
set_option maxRecDepth 100000 in
theorem pl_s866_s {X : Int → Int} {LX : Nat} : ck_Ok p2_OL X LX 231 pl_s866 := ck_ok_s (O := p2_OL) (X := X) (LX := LX) (E := [(129, [pl_s145])]) (mi := 231) (cuts := []) (f := 76) (S := pl_s866) (lx := none) (XF := []) ⟨pl_nmu, ck_E1 (ck_S1 pl_s145_s ck_S0) ck_E0⟩ ck_X0 ck_l0 (by decide +kernel)
set_option maxRecDepth 100000 in
/-- GlacierMail.bare -/
def pl_s867 : ck_Sum := ((7, 1, 6), 249, [.inr (.inr (.inl 1)), .inl (300, 2147483647, [])], ([], [], []), ([], []), [(.inl 0, 249, ([], [], []))])
set_option maxRecDepth 100000 in
theorem pl_s867_s {X : Int → Int} {LX : Nat} : ck_Ok p2_OL X LX 231 pl_s867 := ck_ok_s (O := p2_OL) (X := X) (LX := LX) (E := [(129, [pl_s147])]) (mi := 231) (cuts := []) (f := 76) (S := pl_s867) (lx := none) (XF := []) ⟨pl_nmu, ck_E1 (ck_S1 pl_s147_s ck_S0) ck_E0⟩ ck_X0 ck_l0 (by decide +kernel)
set_option maxRecDepth 100000 in
/-- GlacierMail.bare -/
def pl_s868 : ck_Sum := ((5, 0, 0), 249, [.inr (.inr (.inl 1)), .inl (0, 299, [])], ([], [(3, 8, 246)], []), (zl229, []), [(.inr (some (.inl ((-2147483648), 2147483647, []))), 249, ([], [], []))])
set_option maxRecDepth 100000 in
theorem pl_s868_s {X : Int → Int} {LX : Nat} : ck_Ok p2_OL X LX 231 pl_s868 := ck_ok_s (O := p2_OL) (X := X) (LX := LX) (E := [(129, [pl_s149]), (9, [pl_s200]), (10, [pl_s204]), (27, [pl_s208]), (148, [pl_s243]), (31, [pl_s209])]) (mi := 231) (cuts := [(9, [some (.inr (.inr (.inl 1))), some (.inl (0, 299, [])), some (.inl ((-2147483648), 2147483647, [])), some (.inl (0, 24, []))], ([], [(3, 8, 246)], []), 100, .inl 3, true)]) (f := 246) (S := pl_s868) (lx := none) (XF := []) ⟨pl_nmu, ck_E1 (ck_S1 pl_s149_s ck_S0) (ck_E1 (ck_S1 pl_s200_s ck_S0) (ck_E1 (ck_S1 pl_s204_s ck_S0) (ck_E1 (ck_S1 pl_s208_s ck_S0) (ck_E1 (ck_S1 pl_s243_s ck_S0) (ck_E1 (ck_S1 pl_s209_s ck_S0) ck_E0)))))⟩ ck_X0 ck_l0 (by decide +kernel)
set_option maxRecDepth 100000 in
/-- GlacierMail$Rows.get -/
def pl_s869 : ck_Sum := ((0, 0, 0), 249, [.inr (.inr (.inl 14)), .inl ((-2147483648), 2147483647, []), .inl ((-2147483648), 2147483647, [])], ([], [], []), ([], []), [(.inr (some (.inl ((-1), 299, []))), 249, ([], [], []))])
set_option maxRecDepth 100000 in
theorem pl_s869_s {X : Int → Int} {LX : Nat} : ck_Ok p2_OL X LX 10 pl_s869 := ck_ok_s (O := p2_OL) (X := X) (LX := LX) (E := []) (mi := 10) (cuts := []) (f := 114) (S := pl_s869) (lx := none) (XF := []) ⟨pl_nmu, ck_E0⟩ ck_X0 ck_l0 (by decide +kernel)
set_option maxRecDepth 100000 in
/-- GlacierMail.log -/
def pl_s870 : ck_Sum := ((6, 1, 6), 249, [.inr (.inr (.inl 1)), .inl ((-2147483648), (-1), []), .inl ((-2147483648), 2147483647, [])], ([], [], []), ([], []), [(.inl 4, 249, ([], [], [])), (.inr (some (.inl ((-1), 299, []))), 249, ([], [], []))])
set_option maxRecDepth 100000 in
theorem pl_s870_s {X : Int → Int} {LX : Nat} : ck_Ok p2_OL X LX 233 pl_s870 := ck_ok_s (O := p2_OL) (X := X) (LX := LX) (E := [(10, [pl_s869])]) (mi := 233) (cuts := []) (f := 94) (S := pl_s870) (lx := none) (XF := []) ⟨pl_nmu, ck_E1 (ck_S1 pl_s869_s ck_S0) ck_E0⟩ ck_X0 ck_l0 (by decide +kernel)
set_option maxRecDepth 100000 in
/-- GlacierMail.log -/
def pl_s871 : ck_Sum := ((6, 1, 6), 249, [.inr (.inr (.inl 1)), .inl (24, 2147483647, []), .inl ((-2147483648), 2147483647, [])], ([], [], []), ([], []), [(.inl 4, 249, ([], [], [])), (.inr (some (.inl ((-1), 299, []))), 249, ([], [], []))])
set_option maxRecDepth 100000 in
theorem pl_s871_s {X : Int → Int} {LX : Nat} : ck_Ok p2_OL X LX 233 pl_s871 := ck_ok_s (O := p2_OL) (X := X) (LX := LX) (E := [(10, [pl_s869])]) (mi := 233) (cuts := []) (f := 94) (S := pl_s871) (lx := none) (XF := []) ⟨pl_nmu, ck_E1 (ck_S1 pl_s869_s ck_S0) ck_E0⟩ ck_X0 ck_l0 (by decide +kernel)
set_option maxRecDepth 100000 in
/-- GlacierMail.log -/
def pl_s872 : ck_Sum := ((6, 1, 6), 249, [.inr (.inr (.inl 1)), .inl (0, 23, []), .inl ((-2147483648), (-1), [])], ([], [], []), ([], []), [(.inl 4, 249, ([], [], []))])
set_option maxRecDepth 100000 in
theorem pl_s872_s {X : Int → Int} {LX : Nat} : ck_Ok p2_OL X LX 233 pl_s872 := ck_ok_s (O := p2_OL) (X := X) (LX := LX) (E := []) (mi := 233) (cuts := []) (f := 76) (S := pl_s872) (lx := none) (XF := []) ⟨pl_nmu, ck_E0⟩ ck_X0 ck_l0 (by decide +kernel)
set_option maxRecDepth 100000 in
/-- GlacierMail.log -/
def pl_s873 : ck_Sum := ((6, 1, 6), 249, [.inr (.inr (.inl 1)), .inl (0, 23, []), .inl (10, 2147483647, [])], ([], [], []), ([], []), [(.inl 4, 249, ([], [], []))])
set_option maxRecDepth 100000 in
theorem pl_s873_s {X : Int → Int} {LX : Nat} : ck_Ok p2_OL X LX 233 pl_s873 := ck_ok_s (O := p2_OL) (X := X) (LX := LX) (E := []) (mi := 233) (cuts := []) (f := 82) (S := pl_s873) (lx := none) (XF := []) ⟨pl_nmu, ck_E0⟩ ck_X0 ck_l0 (by decide +kernel)
set_option maxRecDepth 100000 in
/-- GlacierMail.log -/
def pl_s874 : ck_Sum := ((6, 1, 6), 249, [.inr (.inr (.inl 1)), .inl (0, 23, []), .inl (0, 9, [])], ([], [], []), ([], []), [(.inr (some (.inl ((-1), 299, []))), 249, ([], [], [])), (.inl 4, 249, ([], [], []))])
set_option maxRecDepth 100000 in
theorem pl_s874_s {X : Int → Int} {LX : Nat} : ck_Ok p2_OL X LX 233 pl_s874 := ck_ok_s (O := p2_OL) (X := X) (LX := LX) (E := [(10, [pl_s869])]) (mi := 233) (cuts := []) (f := 94) (S := pl_s874) (lx := none) (XF := []) ⟨pl_nmu, ck_E1 (ck_S1 pl_s869_s ck_S0) ck_E0⟩ ck_X0 ck_l0 (by decide +kernel)
set_option maxRecDepth 100000 in
/-- GlacierMail$History.at -/
def pl_s875 : ck_Sum := ((0, 0, 0), 249, [.inr (.inr (.inl 42)), .inl (0, 11, [])], ([], [], []), ([], []), [(.inr (some (.inr (.inr (.inl 44)))), 249, ([], [], [])), (.inr (some (.inr (.inr (.inl 187)))), 249, ([], [], [])), (.inr (some (.inr (.inr (.inl 174)))), 249, ([], [], [])), (.inr (some (.inr (.inr (.inl 161)))), 249, ([], [], [])), (.inr (some (.inr (.inr (.inl 148)))), 249, ([], [], [])), (.inr (some (.inr (.inr (.inl 135)))), 249, ([], [], [])), (.inr (some (.inr (.inr (.inl 122)))), 249, ([], [], [])), (.inr (some (.inr (.inr (.inl 109)))), 249, ([], [], [])), (.inr (some (.inr (.inr (.inl 96)))), 249, ([], [], [])), (.inr (some (.inr (.inr (.inl 83)))), 249, ([], [], [])), (.inr (some (.inr (.inr (.inl 70)))), 249, ([], [], [])), (.inr (some (.inr (.inr (.inl 57)))), 249, ([], [], []))])
set_option maxRecDepth 100000 in
theorem pl_s875_s {X : Int → Int} {LX : Nat} : ck_Ok p2_OL X LX 56 pl_s875 := ck_ok_s (O := p2_OL) (X := X) (LX := LX) (E := []) (mi := 56) (cuts := []) (f := 96) (S := pl_s875) (lx := none) (XF := []) ⟨pl_nmu, ck_E0⟩ ck_X0 ck_l0 (by decide +kernel)
set_option maxRecDepth 100000 in
/-- GlacierMail$Rows.copyFrom -/
def pl_s876 : ck_Sum := ((1, 0, 0), 249, [.inr (.inr (.inl 4)), .inr (.inr (.inl 45))], ([], [], []), ([(4, 3, 3), (5, 0, 55)], []), [(.inr none, 249, ([], [], []))])
set_option maxRecDepth 100000 in
theorem pl_s876_s {X : Int → Int} {LX : Nat} : ck_Ok p2_OL X LX 58 pl_s876 := ck_ok_s (O := p2_OL) (X := X) (LX := LX) (E := []) (mi := 58) (cuts := []) (f := 114) (S := pl_s876) (lx := none) (XF := []) ⟨pl_nmu, ck_E0⟩ ck_X0 ck_l0 (by decide +kernel)
set_option maxRecDepth 100000 in
/-- GlacierMail$Rows.copyFrom -/
def pl_s877 : ck_Sum := ((1, 0, 0), 249, [.inr (.inr (.inl 6)), .inr (.inr (.inl 47))], ([], [], []), ([(6, 3, 3), (7, 0, 23)], []), [(.inr none, 249, ([], [], []))])
set_option maxRecDepth 100000 in
theorem pl_s877_s {X : Int → Int} {LX : Nat} : ck_Ok p2_OL X LX 58 pl_s877 := ck_ok_s (O := p2_OL) (X := X) (LX := LX) (E := []) (mi := 58) (cuts := []) (f := 114) (S := pl_s877) (lx := none) (XF := []) ⟨pl_nmu, ck_E0⟩ ck_X0 ck_l0 (by decide +kernel)
set_option maxRecDepth 100000 in
/-- GlacierMail$Rows.copyFrom -/
def pl_s878 : ck_Sum := ((1, 0, 0), 249, [.inr (.inr (.inl 8)), .inr (.inr (.inl 49))], ([], [], []), ([(8, 3, 3), (9, 0, 23)], []), [(.inr none, 249, ([], [], []))])
set_option maxRecDepth 100000 in
theorem pl_s878_s {X : Int → Int} {LX : Nat} : ck_Ok p2_OL X LX 58 pl_s878 := ck_ok_s (O := p2_OL) (X := X) (LX := LX) (E := []) (mi := 58) (cuts := []) (f := 114) (S := pl_s878) (lx := none) (XF := []) ⟨pl_nmu, ck_E0⟩ ck_X0 ck_l0 (by decide +kernel)
set_option maxRecDepth 100000 in
/-- GlacierMail$Rows.copyFrom -/
def pl_s879 : ck_Sum := ((1, 0, 0), 249, [.inr (.inr (.inl 10)), .inr (.inr (.inl 51))], ([], [], []), ([(10, 3, 3), (11, 0, 167)], []), [(.inr none, 249, ([], [], []))])
set_option maxRecDepth 100000 in
theorem pl_s879_s {X : Int → Int} {LX : Nat} : ck_Ok p2_OL X LX 58 pl_s879 := ck_ok_s (O := p2_OL) (X := X) (LX := LX) (E := []) (mi := 58) (cuts := []) (f := 114) (S := pl_s879) (lx := none) (XF := []) ⟨pl_nmu, ck_E0⟩ ck_X0 ck_l0 (by decide +kernel)
set_option maxRecDepth 100000 in
/-- GlacierMail$Rows.copyFrom -/
def pl_s880 : ck_Sum := ((1, 0, 0), 249, [.inr (.inr (.inl 12)), .inr (.inr (.inl 53))], ([], [], []), ([(12, 3, 3), (13, 0, 35)], []), [(.inr none, 249, ([], [], []))])
set_option maxRecDepth 100000 in
theorem pl_s880_s {X : Int → Int} {LX : Nat} : ck_Ok p2_OL X LX 58 pl_s880 := ck_ok_s (O := p2_OL) (X := X) (LX := LX) (E := []) (mi := 58) (cuts := []) (f := 114) (S := pl_s880) (lx := none) (XF := []) ⟨pl_nmu, ck_E0⟩ ck_X0 ck_l0 (by decide +kernel)
set_option maxRecDepth 100000 in
/-- GlacierMail$Rows.copyFrom -/
def pl_s881 : ck_Sum := ((1, 0, 0), 249, [.inr (.inr (.inl 14)), .inr (.inr (.inl 55))], ([], [], []), ([(14, 3, 3), (15, 0, 71)], []), [(.inr none, 249, ([], [], []))])
set_option maxRecDepth 100000 in
theorem pl_s881_s {X : Int → Int} {LX : Nat} : ck_Ok p2_OL X LX 58 pl_s881 := ck_ok_s (O := p2_OL) (X := X) (LX := LX) (E := []) (mi := 58) (cuts := []) (f := 114) (S := pl_s881) (lx := none) (XF := []) ⟨pl_nmu, ck_E0⟩ ck_X0 ck_l0 (by decide +kernel)
set_option maxRecDepth 100000 in
/-- GlacierMail$State.copyFrom -/
def pl_s882 : ck_Sum := ((2, 0, 0), 249, [.inr (.inr (.inl 3)), .inr (.inr (.inl 44))], ([], [(3, 8, 246), (44, 8, 100044)], []), (zl1, [(3, 8)]), [(.inr none, 249, ([], [(3, 8, 100044)], []))])
set_option maxRecDepth 100000 in
theorem pl_s882_s {X : Int → Int} {LX : Nat} : ck_Ok p2_OL X LX 57 pl_s882 := ck_ok_s (O := p2_OL) (X := X) (LX := LX) (E := [(58, [pl_s876, pl_s877, pl_s878, pl_s879, pl_s880, pl_s881])]) (mi := 57) (cuts := []) (f := 204) (S := pl_s882) (lx := none) (XF := []) ⟨pl_nmu, ck_E1 (ck_S1 pl_s876_s (ck_S1 pl_s877_s (ck_S1 pl_s878_s (ck_S1 pl_s879_s (ck_S1 pl_s880_s (ck_S1 pl_s881_s ck_S0)))))) ck_E0⟩ ck_X0 ck_l0 (by decide +kernel)
set_option maxRecDepth 100000 in
/-- GlacierMail$Rows.copyFrom -/
def pl_s883 : ck_Sum := ((1, 0, 0), 249, [.inr (.inr (.inl 4)), .inr (.inr (.inl 58))], ([], [], []), ([(4, 3, 3), (5, 0, 55)], []), [(.inr none, 249, ([], [], []))])
set_option maxRecDepth 100000 in
theorem pl_s883_s {X : Int → Int} {LX : Nat} : ck_Ok p2_OL X LX 58 pl_s883 := ck_ok_s (O := p2_OL) (X := X) (LX := LX) (E := []) (mi := 58) (cuts := []) (f := 114) (S := pl_s883) (lx := none) (XF := []) ⟨pl_nmu, ck_E0⟩ ck_X0 ck_l0 (by decide +kernel)
set_option maxRecDepth 100000 in
/-- GlacierMail$Rows.copyFrom -/
def pl_s884 : ck_Sum := ((1, 0, 0), 249, [.inr (.inr (.inl 6)), .inr (.inr (.inl 60))], ([], [], []), ([(6, 3, 3), (7, 0, 23)], []), [(.inr none, 249, ([], [], []))])
set_option maxRecDepth 100000 in
theorem pl_s884_s {X : Int → Int} {LX : Nat} : ck_Ok p2_OL X LX 58 pl_s884 := ck_ok_s (O := p2_OL) (X := X) (LX := LX) (E := []) (mi := 58) (cuts := []) (f := 114) (S := pl_s884) (lx := none) (XF := []) ⟨pl_nmu, ck_E0⟩ ck_X0 ck_l0 (by decide +kernel)
set_option maxRecDepth 100000 in
/-- GlacierMail$Rows.copyFrom -/
def pl_s885 : ck_Sum := ((1, 0, 0), 249, [.inr (.inr (.inl 8)), .inr (.inr (.inl 62))], ([], [], []), ([(8, 3, 3), (9, 0, 23)], []), [(.inr none, 249, ([], [], []))])
set_option maxRecDepth 100000 in
theorem pl_s885_s {X : Int → Int} {LX : Nat} : ck_Ok p2_OL X LX 58 pl_s885 := ck_ok_s (O := p2_OL) (X := X) (LX := LX) (E := []) (mi := 58) (cuts := []) (f := 114) (S := pl_s885) (lx := none) (XF := []) ⟨pl_nmu, ck_E0⟩ ck_X0 ck_l0 (by decide +kernel)
set_option maxRecDepth 100000 in
/-- GlacierMail$Rows.copyFrom -/
def pl_s886 : ck_Sum := ((1, 0, 0), 249, [.inr (.inr (.inl 10)), .inr (.inr (.inl 64))], ([], [], []), ([(10, 3, 3), (11, 0, 167)], []), [(.inr none, 249, ([], [], []))])
set_option maxRecDepth 100000 in
theorem pl_s886_s {X : Int → Int} {LX : Nat} : ck_Ok p2_OL X LX 58 pl_s886 := ck_ok_s (O := p2_OL) (X := X) (LX := LX) (E := []) (mi := 58) (cuts := []) (f := 114) (S := pl_s886) (lx := none) (XF := []) ⟨pl_nmu, ck_E0⟩ ck_X0 ck_l0 (by decide +kernel)
set_option maxRecDepth 100000 in
/-- GlacierMail$Rows.copyFrom -/
def pl_s887 : ck_Sum := ((1, 0, 0), 249, [.inr (.inr (.inl 12)), .inr (.inr (.inl 66))], ([], [], []), ([(12, 3, 3), (13, 0, 35)], []), [(.inr none, 249, ([], [], []))])
set_option maxRecDepth 100000 in
theorem pl_s887_s {X : Int → Int} {LX : Nat} : ck_Ok p2_OL X LX 58 pl_s887 := ck_ok_s (O := p2_OL) (X := X) (LX := LX) (E := []) (mi := 58) (cuts := []) (f := 114) (S := pl_s887) (lx := none) (XF := []) ⟨pl_nmu, ck_E0⟩ ck_X0 ck_l0 (by decide +kernel)
set_option maxRecDepth 100000 in
/-- GlacierMail$Rows.copyFrom -/
def pl_s888 : ck_Sum := ((1, 0, 0), 249, [.inr (.inr (.inl 14)), .inr (.inr (.inl 68))], ([], [], []), ([(14, 3, 3), (15, 0, 71)], []), [(.inr none, 249, ([], [], []))])
set_option maxRecDepth 100000 in
theorem pl_s888_s {X : Int → Int} {LX : Nat} : ck_Ok p2_OL X LX 58 pl_s888 := ck_ok_s (O := p2_OL) (X := X) (LX := LX) (E := []) (mi := 58) (cuts := []) (f := 114) (S := pl_s888) (lx := none) (XF := []) ⟨pl_nmu, ck_E0⟩ ck_X0 ck_l0 (by decide +kernel)
set_option maxRecDepth 100000 in
/-- GlacierMail$State.copyFrom -/
def pl_s889 : ck_Sum := ((2, 0, 0), 249, [.inr (.inr (.inl 3)), .inr (.inr (.inl 57))], ([], [(3, 8, 246), (57, 8, 100057)], []), (zl1, [(3, 8)]), [(.inr none, 249, ([], [(3, 8, 100057)], []))])
set_option maxRecDepth 100000 in
theorem pl_s889_s {X : Int → Int} {LX : Nat} : ck_Ok p2_OL X LX 57 pl_s889 := ck_ok_s (O := p2_OL) (X := X) (LX := LX) (E := [(58, [pl_s883, pl_s884, pl_s885, pl_s886, pl_s887, pl_s888])]) (mi := 57) (cuts := []) (f := 204) (S := pl_s889) (lx := none) (XF := []) ⟨pl_nmu, ck_E1 (ck_S1 pl_s883_s (ck_S1 pl_s884_s (ck_S1 pl_s885_s (ck_S1 pl_s886_s (ck_S1 pl_s887_s (ck_S1 pl_s888_s ck_S0)))))) ck_E0⟩ ck_X0 ck_l0 (by decide +kernel)
set_option maxRecDepth 100000 in
/-- GlacierMail$Rows.copyFrom -/
def pl_s890 : ck_Sum := ((1, 0, 0), 249, [.inr (.inr (.inl 4)), .inr (.inr (.inl 71))], ([], [], []), ([(4, 3, 3), (5, 0, 55)], []), [(.inr none, 249, ([], [], []))])
set_option maxRecDepth 100000 in
theorem pl_s890_s {X : Int → Int} {LX : Nat} : ck_Ok p2_OL X LX 58 pl_s890 := ck_ok_s (O := p2_OL) (X := X) (LX := LX) (E := []) (mi := 58) (cuts := []) (f := 114) (S := pl_s890) (lx := none) (XF := []) ⟨pl_nmu, ck_E0⟩ ck_X0 ck_l0 (by decide +kernel)
set_option maxRecDepth 100000 in
/-- GlacierMail$Rows.copyFrom -/
def pl_s891 : ck_Sum := ((1, 0, 0), 249, [.inr (.inr (.inl 6)), .inr (.inr (.inl 73))], ([], [], []), ([(6, 3, 3), (7, 0, 23)], []), [(.inr none, 249, ([], [], []))])
set_option maxRecDepth 100000 in
theorem pl_s891_s {X : Int → Int} {LX : Nat} : ck_Ok p2_OL X LX 58 pl_s891 := ck_ok_s (O := p2_OL) (X := X) (LX := LX) (E := []) (mi := 58) (cuts := []) (f := 114) (S := pl_s891) (lx := none) (XF := []) ⟨pl_nmu, ck_E0⟩ ck_X0 ck_l0 (by decide +kernel)
set_option maxRecDepth 100000 in
/-- GlacierMail$Rows.copyFrom -/
def pl_s892 : ck_Sum := ((1, 0, 0), 249, [.inr (.inr (.inl 8)), .inr (.inr (.inl 75))], ([], [], []), ([(8, 3, 3), (9, 0, 23)], []), [(.inr none, 249, ([], [], []))])
set_option maxRecDepth 100000 in
theorem pl_s892_s {X : Int → Int} {LX : Nat} : ck_Ok p2_OL X LX 58 pl_s892 := ck_ok_s (O := p2_OL) (X := X) (LX := LX) (E := []) (mi := 58) (cuts := []) (f := 114) (S := pl_s892) (lx := none) (XF := []) ⟨pl_nmu, ck_E0⟩ ck_X0 ck_l0 (by decide +kernel)
set_option maxRecDepth 100000 in
/-- GlacierMail$Rows.copyFrom -/
def pl_s893 : ck_Sum := ((1, 0, 0), 249, [.inr (.inr (.inl 10)), .inr (.inr (.inl 77))], ([], [], []), ([(10, 3, 3), (11, 0, 167)], []), [(.inr none, 249, ([], [], []))])
set_option maxRecDepth 100000 in
theorem pl_s893_s {X : Int → Int} {LX : Nat} : ck_Ok p2_OL X LX 58 pl_s893 := ck_ok_s (O := p2_OL) (X := X) (LX := LX) (E := []) (mi := 58) (cuts := []) (f := 114) (S := pl_s893) (lx := none) (XF := []) ⟨pl_nmu, ck_E0⟩ ck_X0 ck_l0 (by decide +kernel)
set_option maxRecDepth 100000 in
/-- GlacierMail$Rows.copyFrom -/
def pl_s894 : ck_Sum := ((1, 0, 0), 249, [.inr (.inr (.inl 12)), .inr (.inr (.inl 79))], ([], [], []), ([(12, 3, 3), (13, 0, 35)], []), [(.inr none, 249, ([], [], []))])
set_option maxRecDepth 100000 in
theorem pl_s894_s {X : Int → Int} {LX : Nat} : ck_Ok p2_OL X LX 58 pl_s894 := ck_ok_s (O := p2_OL) (X := X) (LX := LX) (E := []) (mi := 58) (cuts := []) (f := 114) (S := pl_s894) (lx := none) (XF := []) ⟨pl_nmu, ck_E0⟩ ck_X0 ck_l0 (by decide +kernel)
set_option maxRecDepth 100000 in
/-- GlacierMail$Rows.copyFrom -/
def pl_s895 : ck_Sum := ((1, 0, 0), 249, [.inr (.inr (.inl 14)), .inr (.inr (.inl 81))], ([], [], []), ([(14, 3, 3), (15, 0, 71)], []), [(.inr none, 249, ([], [], []))])
set_option maxRecDepth 100000 in
theorem pl_s895_s {X : Int → Int} {LX : Nat} : ck_Ok p2_OL X LX 58 pl_s895 := ck_ok_s (O := p2_OL) (X := X) (LX := LX) (E := []) (mi := 58) (cuts := []) (f := 114) (S := pl_s895) (lx := none) (XF := []) ⟨pl_nmu, ck_E0⟩ ck_X0 ck_l0 (by decide +kernel)
set_option maxRecDepth 100000 in
/-- GlacierMail$State.copyFrom -/
def pl_s896 : ck_Sum := ((2, 0, 0), 249, [.inr (.inr (.inl 3)), .inr (.inr (.inl 70))], ([], [(3, 8, 246), (70, 8, 100070)], []), (zl1, [(3, 8)]), [(.inr none, 249, ([], [(3, 8, 100070)], []))])
set_option maxRecDepth 100000 in
theorem pl_s896_s {X : Int → Int} {LX : Nat} : ck_Ok p2_OL X LX 57 pl_s896 := ck_ok_s (O := p2_OL) (X := X) (LX := LX) (E := [(58, [pl_s890, pl_s891, pl_s892, pl_s893, pl_s894, pl_s895])]) (mi := 57) (cuts := []) (f := 204) (S := pl_s896) (lx := none) (XF := []) ⟨pl_nmu, ck_E1 (ck_S1 pl_s890_s (ck_S1 pl_s891_s (ck_S1 pl_s892_s (ck_S1 pl_s893_s (ck_S1 pl_s894_s (ck_S1 pl_s895_s ck_S0)))))) ck_E0⟩ ck_X0 ck_l0 (by decide +kernel)
set_option maxRecDepth 100000 in
/-- GlacierMail$Rows.copyFrom -/
def pl_s897 : ck_Sum := ((1, 0, 0), 249, [.inr (.inr (.inl 4)), .inr (.inr (.inl 84))], ([], [], []), ([(4, 3, 3), (5, 0, 55)], []), [(.inr none, 249, ([], [], []))])
set_option maxRecDepth 100000 in
theorem pl_s897_s {X : Int → Int} {LX : Nat} : ck_Ok p2_OL X LX 58 pl_s897 := ck_ok_s (O := p2_OL) (X := X) (LX := LX) (E := []) (mi := 58) (cuts := []) (f := 114) (S := pl_s897) (lx := none) (XF := []) ⟨pl_nmu, ck_E0⟩ ck_X0 ck_l0 (by decide +kernel)
set_option maxRecDepth 100000 in
/-- GlacierMail$Rows.copyFrom -/
def pl_s898 : ck_Sum := ((1, 0, 0), 249, [.inr (.inr (.inl 6)), .inr (.inr (.inl 86))], ([], [], []), ([(6, 3, 3), (7, 0, 23)], []), [(.inr none, 249, ([], [], []))])
set_option maxRecDepth 100000 in
theorem pl_s898_s {X : Int → Int} {LX : Nat} : ck_Ok p2_OL X LX 58 pl_s898 := ck_ok_s (O := p2_OL) (X := X) (LX := LX) (E := []) (mi := 58) (cuts := []) (f := 114) (S := pl_s898) (lx := none) (XF := []) ⟨pl_nmu, ck_E0⟩ ck_X0 ck_l0 (by decide +kernel)
set_option maxRecDepth 100000 in
/-- GlacierMail$Rows.copyFrom -/
def pl_s899 : ck_Sum := ((1, 0, 0), 249, [.inr (.inr (.inl 8)), .inr (.inr (.inl 88))], ([], [], []), ([(8, 3, 3), (9, 0, 23)], []), [(.inr none, 249, ([], [], []))])
set_option maxRecDepth 100000 in
theorem pl_s899_s {X : Int → Int} {LX : Nat} : ck_Ok p2_OL X LX 58 pl_s899 := ck_ok_s (O := p2_OL) (X := X) (LX := LX) (E := []) (mi := 58) (cuts := []) (f := 114) (S := pl_s899) (lx := none) (XF := []) ⟨pl_nmu, ck_E0⟩ ck_X0 ck_l0 (by decide +kernel)
set_option maxRecDepth 100000 in
/-- GlacierMail$Rows.copyFrom -/
def pl_s900 : ck_Sum := ((1, 0, 0), 249, [.inr (.inr (.inl 10)), .inr (.inr (.inl 90))], ([], [], []), ([(10, 3, 3), (11, 0, 167)], []), [(.inr none, 249, ([], [], []))])
set_option maxRecDepth 100000 in
theorem pl_s900_s {X : Int → Int} {LX : Nat} : ck_Ok p2_OL X LX 58 pl_s900 := ck_ok_s (O := p2_OL) (X := X) (LX := LX) (E := []) (mi := 58) (cuts := []) (f := 114) (S := pl_s900) (lx := none) (XF := []) ⟨pl_nmu, ck_E0⟩ ck_X0 ck_l0 (by decide +kernel)
set_option maxRecDepth 100000 in
/-- GlacierMail$Rows.copyFrom -/
def pl_s901 : ck_Sum := ((1, 0, 0), 249, [.inr (.inr (.inl 12)), .inr (.inr (.inl 92))], ([], [], []), ([(12, 3, 3), (13, 0, 35)], []), [(.inr none, 249, ([], [], []))])
set_option maxRecDepth 100000 in
theorem pl_s901_s {X : Int → Int} {LX : Nat} : ck_Ok p2_OL X LX 58 pl_s901 := ck_ok_s (O := p2_OL) (X := X) (LX := LX) (E := []) (mi := 58) (cuts := []) (f := 114) (S := pl_s901) (lx := none) (XF := []) ⟨pl_nmu, ck_E0⟩ ck_X0 ck_l0 (by decide +kernel)
set_option maxRecDepth 100000 in
/-- GlacierMail$Rows.copyFrom -/
def pl_s902 : ck_Sum := ((1, 0, 0), 249, [.inr (.inr (.inl 14)), .inr (.inr (.inl 94))], ([], [], []), ([(14, 3, 3), (15, 0, 71)], []), [(.inr none, 249, ([], [], []))])
set_option maxRecDepth 100000 in
theorem pl_s902_s {X : Int → Int} {LX : Nat} : ck_Ok p2_OL X LX 58 pl_s902 := ck_ok_s (O := p2_OL) (X := X) (LX := LX) (E := []) (mi := 58) (cuts := []) (f := 114) (S := pl_s902) (lx := none) (XF := []) ⟨pl_nmu, ck_E0⟩ ck_X0 ck_l0 (by decide +kernel)
set_option maxRecDepth 100000 in
/-- GlacierMail$State.copyFrom -/
def pl_s903 : ck_Sum := ((2, 0, 0), 249, [.inr (.inr (.inl 3)), .inr (.inr (.inl 83))], ([], [(3, 8, 246), (83, 8, 100083)], []), (zl1, [(3, 8)]), [(.inr none, 249, ([], [(3, 8, 100083)], []))])
set_option maxRecDepth 100000 in
theorem pl_s903_s {X : Int → Int} {LX : Nat} : ck_Ok p2_OL X LX 57 pl_s903 := ck_ok_s (O := p2_OL) (X := X) (LX := LX) (E := [(58, [pl_s897, pl_s898, pl_s899, pl_s900, pl_s901, pl_s902])]) (mi := 57) (cuts := []) (f := 204) (S := pl_s903) (lx := none) (XF := []) ⟨pl_nmu, ck_E1 (ck_S1 pl_s897_s (ck_S1 pl_s898_s (ck_S1 pl_s899_s (ck_S1 pl_s900_s (ck_S1 pl_s901_s (ck_S1 pl_s902_s ck_S0)))))) ck_E0⟩ ck_X0 ck_l0 (by decide +kernel)
set_option maxRecDepth 100000 in
/-- GlacierMail$Rows.copyFrom -/
def pl_s904 : ck_Sum := ((1, 0, 0), 249, [.inr (.inr (.inl 4)), .inr (.inr (.inl 97))], ([], [], []), ([(4, 3, 3), (5, 0, 55)], []), [(.inr none, 249, ([], [], []))])
set_option maxRecDepth 100000 in
theorem pl_s904_s {X : Int → Int} {LX : Nat} : ck_Ok p2_OL X LX 58 pl_s904 := ck_ok_s (O := p2_OL) (X := X) (LX := LX) (E := []) (mi := 58) (cuts := []) (f := 114) (S := pl_s904) (lx := none) (XF := []) ⟨pl_nmu, ck_E0⟩ ck_X0 ck_l0 (by decide +kernel)
set_option maxRecDepth 100000 in
/-- GlacierMail$Rows.copyFrom -/
def pl_s905 : ck_Sum := ((1, 0, 0), 249, [.inr (.inr (.inl 6)), .inr (.inr (.inl 99))], ([], [], []), ([(6, 3, 3), (7, 0, 23)], []), [(.inr none, 249, ([], [], []))])
set_option maxRecDepth 100000 in
theorem pl_s905_s {X : Int → Int} {LX : Nat} : ck_Ok p2_OL X LX 58 pl_s905 := ck_ok_s (O := p2_OL) (X := X) (LX := LX) (E := []) (mi := 58) (cuts := []) (f := 114) (S := pl_s905) (lx := none) (XF := []) ⟨pl_nmu, ck_E0⟩ ck_X0 ck_l0 (by decide +kernel)
set_option maxRecDepth 100000 in
/-- GlacierMail$Rows.copyFrom -/
def pl_s906 : ck_Sum := ((1, 0, 0), 249, [.inr (.inr (.inl 8)), .inr (.inr (.inl 101))], ([], [], []), ([(8, 3, 3), (9, 0, 23)], []), [(.inr none, 249, ([], [], []))])
set_option maxRecDepth 100000 in
theorem pl_s906_s {X : Int → Int} {LX : Nat} : ck_Ok p2_OL X LX 58 pl_s906 := ck_ok_s (O := p2_OL) (X := X) (LX := LX) (E := []) (mi := 58) (cuts := []) (f := 114) (S := pl_s906) (lx := none) (XF := []) ⟨pl_nmu, ck_E0⟩ ck_X0 ck_l0 (by decide +kernel)
set_option maxRecDepth 100000 in
/-- GlacierMail$Rows.copyFrom -/
def pl_s907 : ck_Sum := ((1, 0, 0), 249, [.inr (.inr (.inl 10)), .inr (.inr (.inl 103))], ([], [], []), ([(10, 3, 3), (11, 0, 167)], []), [(.inr none, 249, ([], [], []))])
set_option maxRecDepth 100000 in
theorem pl_s907_s {X : Int → Int} {LX : Nat} : ck_Ok p2_OL X LX 58 pl_s907 := ck_ok_s (O := p2_OL) (X := X) (LX := LX) (E := []) (mi := 58) (cuts := []) (f := 114) (S := pl_s907) (lx := none) (XF := []) ⟨pl_nmu, ck_E0⟩ ck_X0 ck_l0 (by decide +kernel)
set_option maxRecDepth 100000 in
/-- GlacierMail$Rows.copyFrom -/
def pl_s908 : ck_Sum := ((1, 0, 0), 249, [.inr (.inr (.inl 12)), .inr (.inr (.inl 105))], ([], [], []), ([(12, 3, 3), (13, 0, 35)], []), [(.inr none, 249, ([], [], []))])
set_option maxRecDepth 100000 in
theorem pl_s908_s {X : Int → Int} {LX : Nat} : ck_Ok p2_OL X LX 58 pl_s908 := ck_ok_s (O := p2_OL) (X := X) (LX := LX) (E := []) (mi := 58) (cuts := []) (f := 114) (S := pl_s908) (lx := none) (XF := []) ⟨pl_nmu, ck_E0⟩ ck_X0 ck_l0 (by decide +kernel)
set_option maxRecDepth 100000 in
/-- GlacierMail$Rows.copyFrom -/
def pl_s909 : ck_Sum := ((1, 0, 0), 249, [.inr (.inr (.inl 14)), .inr (.inr (.inl 107))], ([], [], []), ([(14, 3, 3), (15, 0, 71)], []), [(.inr none, 249, ([], [], []))])
set_option maxRecDepth 100000 in
theorem pl_s909_s {X : Int → Int} {LX : Nat} : ck_Ok p2_OL X LX 58 pl_s909 := ck_ok_s (O := p2_OL) (X := X) (LX := LX) (E := []) (mi := 58) (cuts := []) (f := 114) (S := pl_s909) (lx := none) (XF := []) ⟨pl_nmu, ck_E0⟩ ck_X0 ck_l0 (by decide +kernel)
set_option maxRecDepth 100000 in
/-- GlacierMail$State.copyFrom -/
def pl_s910 : ck_Sum := ((2, 0, 0), 249, [.inr (.inr (.inl 3)), .inr (.inr (.inl 96))], ([], [(3, 8, 246), (96, 8, 100096)], []), (zl1, [(3, 8)]), [(.inr none, 249, ([], [(3, 8, 100096)], []))])
set_option maxRecDepth 100000 in
theorem pl_s910_s {X : Int → Int} {LX : Nat} : ck_Ok p2_OL X LX 57 pl_s910 := ck_ok_s (O := p2_OL) (X := X) (LX := LX) (E := [(58, [pl_s904, pl_s905, pl_s906, pl_s907, pl_s908, pl_s909])]) (mi := 57) (cuts := []) (f := 204) (S := pl_s910) (lx := none) (XF := []) ⟨pl_nmu, ck_E1 (ck_S1 pl_s904_s (ck_S1 pl_s905_s (ck_S1 pl_s906_s (ck_S1 pl_s907_s (ck_S1 pl_s908_s (ck_S1 pl_s909_s ck_S0)))))) ck_E0⟩ ck_X0 ck_l0 (by decide +kernel)
set_option maxRecDepth 100000 in
/-- GlacierMail$Rows.copyFrom -/
def pl_s911 : ck_Sum := ((1, 0, 0), 249, [.inr (.inr (.inl 4)), .inr (.inr (.inl 110))], ([], [], []), ([(4, 3, 3), (5, 0, 55)], []), [(.inr none, 249, ([], [], []))])
set_option maxRecDepth 100000 in
theorem pl_s911_s {X : Int → Int} {LX : Nat} : ck_Ok p2_OL X LX 58 pl_s911 := ck_ok_s (O := p2_OL) (X := X) (LX := LX) (E := []) (mi := 58) (cuts := []) (f := 114) (S := pl_s911) (lx := none) (XF := []) ⟨pl_nmu, ck_E0⟩ ck_X0 ck_l0 (by decide +kernel)
set_option maxRecDepth 100000 in
/-- GlacierMail$Rows.copyFrom -/
def pl_s912 : ck_Sum := ((1, 0, 0), 249, [.inr (.inr (.inl 6)), .inr (.inr (.inl 112))], ([], [], []), ([(6, 3, 3), (7, 0, 23)], []), [(.inr none, 249, ([], [], []))])
set_option maxRecDepth 100000 in
theorem pl_s912_s {X : Int → Int} {LX : Nat} : ck_Ok p2_OL X LX 58 pl_s912 := ck_ok_s (O := p2_OL) (X := X) (LX := LX) (E := []) (mi := 58) (cuts := []) (f := 114) (S := pl_s912) (lx := none) (XF := []) ⟨pl_nmu, ck_E0⟩ ck_X0 ck_l0 (by decide +kernel)
set_option maxRecDepth 100000 in
/-- GlacierMail$Rows.copyFrom -/
def pl_s913 : ck_Sum := ((1, 0, 0), 249, [.inr (.inr (.inl 8)), .inr (.inr (.inl 114))], ([], [], []), ([(8, 3, 3), (9, 0, 23)], []), [(.inr none, 249, ([], [], []))])
set_option maxRecDepth 100000 in
theorem pl_s913_s {X : Int → Int} {LX : Nat} : ck_Ok p2_OL X LX 58 pl_s913 := ck_ok_s (O := p2_OL) (X := X) (LX := LX) (E := []) (mi := 58) (cuts := []) (f := 114) (S := pl_s913) (lx := none) (XF := []) ⟨pl_nmu, ck_E0⟩ ck_X0 ck_l0 (by decide +kernel)
set_option maxRecDepth 100000 in
/-- GlacierMail$Rows.copyFrom -/
def pl_s914 : ck_Sum := ((1, 0, 0), 249, [.inr (.inr (.inl 10)), .inr (.inr (.inl 116))], ([], [], []), ([(10, 3, 3), (11, 0, 167)], []), [(.inr none, 249, ([], [], []))])
set_option maxRecDepth 100000 in
theorem pl_s914_s {X : Int → Int} {LX : Nat} : ck_Ok p2_OL X LX 58 pl_s914 := ck_ok_s (O := p2_OL) (X := X) (LX := LX) (E := []) (mi := 58) (cuts := []) (f := 114) (S := pl_s914) (lx := none) (XF := []) ⟨pl_nmu, ck_E0⟩ ck_X0 ck_l0 (by decide +kernel)
set_option maxRecDepth 100000 in
/-- GlacierMail$Rows.copyFrom -/
def pl_s915 : ck_Sum := ((1, 0, 0), 249, [.inr (.inr (.inl 12)), .inr (.inr (.inl 118))], ([], [], []), ([(12, 3, 3), (13, 0, 35)], []), [(.inr none, 249, ([], [], []))])
set_option maxRecDepth 100000 in
theorem pl_s915_s {X : Int → Int} {LX : Nat} : ck_Ok p2_OL X LX 58 pl_s915 := ck_ok_s (O := p2_OL) (X := X) (LX := LX) (E := []) (mi := 58) (cuts := []) (f := 114) (S := pl_s915) (lx := none) (XF := []) ⟨pl_nmu, ck_E0⟩ ck_X0 ck_l0 (by decide +kernel)
set_option maxRecDepth 100000 in
/-- GlacierMail$Rows.copyFrom -/
def pl_s916 : ck_Sum := ((1, 0, 0), 249, [.inr (.inr (.inl 14)), .inr (.inr (.inl 120))], ([], [], []), ([(14, 3, 3), (15, 0, 71)], []), [(.inr none, 249, ([], [], []))])
set_option maxRecDepth 100000 in
theorem pl_s916_s {X : Int → Int} {LX : Nat} : ck_Ok p2_OL X LX 58 pl_s916 := ck_ok_s (O := p2_OL) (X := X) (LX := LX) (E := []) (mi := 58) (cuts := []) (f := 114) (S := pl_s916) (lx := none) (XF := []) ⟨pl_nmu, ck_E0⟩ ck_X0 ck_l0 (by decide +kernel)
set_option maxRecDepth 100000 in
/-- GlacierMail$State.copyFrom -/
def pl_s917 : ck_Sum := ((2, 0, 0), 249, [.inr (.inr (.inl 3)), .inr (.inr (.inl 109))], ([], [(3, 8, 246), (109, 8, 100109)], []), (zl1, [(3, 8)]), [(.inr none, 249, ([], [(3, 8, 100109)], []))])
set_option maxRecDepth 100000 in
theorem pl_s917_s {X : Int → Int} {LX : Nat} : ck_Ok p2_OL X LX 57 pl_s917 := ck_ok_s (O := p2_OL) (X := X) (LX := LX) (E := [(58, [pl_s911, pl_s912, pl_s913, pl_s914, pl_s915, pl_s916])]) (mi := 57) (cuts := []) (f := 204) (S := pl_s917) (lx := none) (XF := []) ⟨pl_nmu, ck_E1 (ck_S1 pl_s911_s (ck_S1 pl_s912_s (ck_S1 pl_s913_s (ck_S1 pl_s914_s (ck_S1 pl_s915_s (ck_S1 pl_s916_s ck_S0)))))) ck_E0⟩ ck_X0 ck_l0 (by decide +kernel)
set_option maxRecDepth 100000 in
/-- GlacierMail$Rows.copyFrom -/
def pl_s918 : ck_Sum := ((1, 0, 0), 249, [.inr (.inr (.inl 4)), .inr (.inr (.inl 123))], ([], [], []), ([(4, 3, 3), (5, 0, 55)], []), [(.inr none, 249, ([], [], []))])
set_option maxRecDepth 100000 in
theorem pl_s918_s {X : Int → Int} {LX : Nat} : ck_Ok p2_OL X LX 58 pl_s918 := ck_ok_s (O := p2_OL) (X := X) (LX := LX) (E := []) (mi := 58) (cuts := []) (f := 114) (S := pl_s918) (lx := none) (XF := []) ⟨pl_nmu, ck_E0⟩ ck_X0 ck_l0 (by decide +kernel)
set_option maxRecDepth 100000 in
/-- GlacierMail$Rows.copyFrom -/
def pl_s919 : ck_Sum := ((1, 0, 0), 249, [.inr (.inr (.inl 6)), .inr (.inr (.inl 125))], ([], [], []), ([(6, 3, 3), (7, 0, 23)], []), [(.inr none, 249, ([], [], []))])
set_option maxRecDepth 100000 in
theorem pl_s919_s {X : Int → Int} {LX : Nat} : ck_Ok p2_OL X LX 58 pl_s919 := ck_ok_s (O := p2_OL) (X := X) (LX := LX) (E := []) (mi := 58) (cuts := []) (f := 114) (S := pl_s919) (lx := none) (XF := []) ⟨pl_nmu, ck_E0⟩ ck_X0 ck_l0 (by decide +kernel)
set_option maxRecDepth 100000 in
/-- GlacierMail$Rows.copyFrom -/
def pl_s920 : ck_Sum := ((1, 0, 0), 249, [.inr (.inr (.inl 8)), .inr (.inr (.inl 127))], ([], [], []), ([(8, 3, 3), (9, 0, 23)], []), [(.inr none, 249, ([], [], []))])
set_option maxRecDepth 100000 in
theorem pl_s920_s {X : Int → Int} {LX : Nat} : ck_Ok p2_OL X LX 58 pl_s920 := ck_ok_s (O := p2_OL) (X := X) (LX := LX) (E := []) (mi := 58) (cuts := []) (f := 114) (S := pl_s920) (lx := none) (XF := []) ⟨pl_nmu, ck_E0⟩ ck_X0 ck_l0 (by decide +kernel)
set_option maxRecDepth 100000 in
/-- GlacierMail$Rows.copyFrom -/
def pl_s921 : ck_Sum := ((1, 0, 0), 249, [.inr (.inr (.inl 10)), .inr (.inr (.inl 129))], ([], [], []), ([(10, 3, 3), (11, 0, 167)], []), [(.inr none, 249, ([], [], []))])
set_option maxRecDepth 100000 in
theorem pl_s921_s {X : Int → Int} {LX : Nat} : ck_Ok p2_OL X LX 58 pl_s921 := ck_ok_s (O := p2_OL) (X := X) (LX := LX) (E := []) (mi := 58) (cuts := []) (f := 114) (S := pl_s921) (lx := none) (XF := []) ⟨pl_nmu, ck_E0⟩ ck_X0 ck_l0 (by decide +kernel)
set_option maxRecDepth 100000 in
/-- GlacierMail$Rows.copyFrom -/
def pl_s922 : ck_Sum := ((1, 0, 0), 249, [.inr (.inr (.inl 12)), .inr (.inr (.inl 131))], ([], [], []), ([(12, 3, 3), (13, 0, 35)], []), [(.inr none, 249, ([], [], []))])
set_option maxRecDepth 100000 in
theorem pl_s922_s {X : Int → Int} {LX : Nat} : ck_Ok p2_OL X LX 58 pl_s922 := ck_ok_s (O := p2_OL) (X := X) (LX := LX) (E := []) (mi := 58) (cuts := []) (f := 114) (S := pl_s922) (lx := none) (XF := []) ⟨pl_nmu, ck_E0⟩ ck_X0 ck_l0 (by decide +kernel)
set_option maxRecDepth 100000 in
/-- GlacierMail$Rows.copyFrom -/
def pl_s923 : ck_Sum := ((1, 0, 0), 249, [.inr (.inr (.inl 14)), .inr (.inr (.inl 133))], ([], [], []), ([(14, 3, 3), (15, 0, 71)], []), [(.inr none, 249, ([], [], []))])
set_option maxRecDepth 100000 in
theorem pl_s923_s {X : Int → Int} {LX : Nat} : ck_Ok p2_OL X LX 58 pl_s923 := ck_ok_s (O := p2_OL) (X := X) (LX := LX) (E := []) (mi := 58) (cuts := []) (f := 114) (S := pl_s923) (lx := none) (XF := []) ⟨pl_nmu, ck_E0⟩ ck_X0 ck_l0 (by decide +kernel)
set_option maxRecDepth 100000 in
/-- GlacierMail$State.copyFrom -/
def pl_s924 : ck_Sum := ((2, 0, 0), 249, [.inr (.inr (.inl 3)), .inr (.inr (.inl 122))], ([], [(3, 8, 246), (122, 8, 100122)], []), (zl1, [(3, 8)]), [(.inr none, 249, ([], [(3, 8, 100122)], []))])
set_option maxRecDepth 100000 in
theorem pl_s924_s {X : Int → Int} {LX : Nat} : ck_Ok p2_OL X LX 57 pl_s924 := ck_ok_s (O := p2_OL) (X := X) (LX := LX) (E := [(58, [pl_s918, pl_s919, pl_s920, pl_s921, pl_s922, pl_s923])]) (mi := 57) (cuts := []) (f := 204) (S := pl_s924) (lx := none) (XF := []) ⟨pl_nmu, ck_E1 (ck_S1 pl_s918_s (ck_S1 pl_s919_s (ck_S1 pl_s920_s (ck_S1 pl_s921_s (ck_S1 pl_s922_s (ck_S1 pl_s923_s ck_S0)))))) ck_E0⟩ ck_X0 ck_l0 (by decide +kernel)
set_option maxRecDepth 100000 in
/-- GlacierMail$Rows.copyFrom -/
def pl_s925 : ck_Sum := ((1, 0, 0), 249, [.inr (.inr (.inl 4)), .inr (.inr (.inl 136))], ([], [], []), ([(4, 3, 3), (5, 0, 55)], []), [(.inr none, 249, ([], [], []))])
set_option maxRecDepth 100000 in
theorem pl_s925_s {X : Int → Int} {LX : Nat} : ck_Ok p2_OL X LX 58 pl_s925 := ck_ok_s (O := p2_OL) (X := X) (LX := LX) (E := []) (mi := 58) (cuts := []) (f := 114) (S := pl_s925) (lx := none) (XF := []) ⟨pl_nmu, ck_E0⟩ ck_X0 ck_l0 (by decide +kernel)
set_option maxRecDepth 100000 in
/-- GlacierMail$Rows.copyFrom -/
def pl_s926 : ck_Sum := ((1, 0, 0), 249, [.inr (.inr (.inl 6)), .inr (.inr (.inl 138))], ([], [], []), ([(6, 3, 3), (7, 0, 23)], []), [(.inr none, 249, ([], [], []))])
set_option maxRecDepth 100000 in
theorem pl_s926_s {X : Int → Int} {LX : Nat} : ck_Ok p2_OL X LX 58 pl_s926 := ck_ok_s (O := p2_OL) (X := X) (LX := LX) (E := []) (mi := 58) (cuts := []) (f := 114) (S := pl_s926) (lx := none) (XF := []) ⟨pl_nmu, ck_E0⟩ ck_X0 ck_l0 (by decide +kernel)
set_option maxRecDepth 100000 in
/-- GlacierMail$Rows.copyFrom -/
def pl_s927 : ck_Sum := ((1, 0, 0), 249, [.inr (.inr (.inl 8)), .inr (.inr (.inl 140))], ([], [], []), ([(8, 3, 3), (9, 0, 23)], []), [(.inr none, 249, ([], [], []))])
set_option maxRecDepth 100000 in
theorem pl_s927_s {X : Int → Int} {LX : Nat} : ck_Ok p2_OL X LX 58 pl_s927 := ck_ok_s (O := p2_OL) (X := X) (LX := LX) (E := []) (mi := 58) (cuts := []) (f := 114) (S := pl_s927) (lx := none) (XF := []) ⟨pl_nmu, ck_E0⟩ ck_X0 ck_l0 (by decide +kernel)
set_option maxRecDepth 100000 in
/-- GlacierMail$Rows.copyFrom -/
def pl_s928 : ck_Sum := ((1, 0, 0), 249, [.inr (.inr (.inl 10)), .inr (.inr (.inl 142))], ([], [], []), ([(10, 3, 3), (11, 0, 167)], []), [(.inr none, 249, ([], [], []))])
set_option maxRecDepth 100000 in
theorem pl_s928_s {X : Int → Int} {LX : Nat} : ck_Ok p2_OL X LX 58 pl_s928 := ck_ok_s (O := p2_OL) (X := X) (LX := LX) (E := []) (mi := 58) (cuts := []) (f := 114) (S := pl_s928) (lx := none) (XF := []) ⟨pl_nmu, ck_E0⟩ ck_X0 ck_l0 (by decide +kernel)
set_option maxRecDepth 100000 in
/-- GlacierMail$Rows.copyFrom -/
def pl_s929 : ck_Sum := ((1, 0, 0), 249, [.inr (.inr (.inl 12)), .inr (.inr (.inl 144))], ([], [], []), ([(12, 3, 3), (13, 0, 35)], []), [(.inr none, 249, ([], [], []))])
set_option maxRecDepth 100000 in
theorem pl_s929_s {X : Int → Int} {LX : Nat} : ck_Ok p2_OL X LX 58 pl_s929 := ck_ok_s (O := p2_OL) (X := X) (LX := LX) (E := []) (mi := 58) (cuts := []) (f := 114) (S := pl_s929) (lx := none) (XF := []) ⟨pl_nmu, ck_E0⟩ ck_X0 ck_l0 (by decide +kernel)
set_option maxRecDepth 100000 in
/-- GlacierMail$Rows.copyFrom -/
def pl_s930 : ck_Sum := ((1, 0, 0), 249, [.inr (.inr (.inl 14)), .inr (.inr (.inl 146))], ([], [], []), ([(14, 3, 3), (15, 0, 71)], []), [(.inr none, 249, ([], [], []))])
set_option maxRecDepth 100000 in
theorem pl_s930_s {X : Int → Int} {LX : Nat} : ck_Ok p2_OL X LX 58 pl_s930 := ck_ok_s (O := p2_OL) (X := X) (LX := LX) (E := []) (mi := 58) (cuts := []) (f := 114) (S := pl_s930) (lx := none) (XF := []) ⟨pl_nmu, ck_E0⟩ ck_X0 ck_l0 (by decide +kernel)
set_option maxRecDepth 100000 in
/-- GlacierMail$State.copyFrom -/
def pl_s931 : ck_Sum := ((2, 0, 0), 249, [.inr (.inr (.inl 3)), .inr (.inr (.inl 135))], ([], [(3, 8, 246), (135, 8, 100135)], []), (zl1, [(3, 8)]), [(.inr none, 249, ([], [(3, 8, 100135)], []))])
set_option maxRecDepth 100000 in
theorem pl_s931_s {X : Int → Int} {LX : Nat} : ck_Ok p2_OL X LX 57 pl_s931 := ck_ok_s (O := p2_OL) (X := X) (LX := LX) (E := [(58, [pl_s925, pl_s926, pl_s927, pl_s928, pl_s929, pl_s930])]) (mi := 57) (cuts := []) (f := 204) (S := pl_s931) (lx := none) (XF := []) ⟨pl_nmu, ck_E1 (ck_S1 pl_s925_s (ck_S1 pl_s926_s (ck_S1 pl_s927_s (ck_S1 pl_s928_s (ck_S1 pl_s929_s (ck_S1 pl_s930_s ck_S0)))))) ck_E0⟩ ck_X0 ck_l0 (by decide +kernel)
set_option maxRecDepth 100000 in
/-- GlacierMail$Rows.copyFrom -/
def pl_s932 : ck_Sum := ((1, 0, 0), 249, [.inr (.inr (.inl 4)), .inr (.inr (.inl 149))], ([], [], []), ([(4, 3, 3), (5, 0, 55)], []), [(.inr none, 249, ([], [], []))])
set_option maxRecDepth 100000 in
theorem pl_s932_s {X : Int → Int} {LX : Nat} : ck_Ok p2_OL X LX 58 pl_s932 := ck_ok_s (O := p2_OL) (X := X) (LX := LX) (E := []) (mi := 58) (cuts := []) (f := 114) (S := pl_s932) (lx := none) (XF := []) ⟨pl_nmu, ck_E0⟩ ck_X0 ck_l0 (by decide +kernel)
set_option maxRecDepth 100000 in
/-- GlacierMail$Rows.copyFrom -/
def pl_s933 : ck_Sum := ((1, 0, 0), 249, [.inr (.inr (.inl 6)), .inr (.inr (.inl 151))], ([], [], []), ([(6, 3, 3), (7, 0, 23)], []), [(.inr none, 249, ([], [], []))])
set_option maxRecDepth 100000 in
theorem pl_s933_s {X : Int → Int} {LX : Nat} : ck_Ok p2_OL X LX 58 pl_s933 := ck_ok_s (O := p2_OL) (X := X) (LX := LX) (E := []) (mi := 58) (cuts := []) (f := 114) (S := pl_s933) (lx := none) (XF := []) ⟨pl_nmu, ck_E0⟩ ck_X0 ck_l0 (by decide +kernel)
set_option maxRecDepth 100000 in
/-- GlacierMail$Rows.copyFrom -/
def pl_s934 : ck_Sum := ((1, 0, 0), 249, [.inr (.inr (.inl 8)), .inr (.inr (.inl 153))], ([], [], []), ([(8, 3, 3), (9, 0, 23)], []), [(.inr none, 249, ([], [], []))])
set_option maxRecDepth 100000 in
theorem pl_s934_s {X : Int → Int} {LX : Nat} : ck_Ok p2_OL X LX 58 pl_s934 := ck_ok_s (O := p2_OL) (X := X) (LX := LX) (E := []) (mi := 58) (cuts := []) (f := 114) (S := pl_s934) (lx := none) (XF := []) ⟨pl_nmu, ck_E0⟩ ck_X0 ck_l0 (by decide +kernel)
set_option maxRecDepth 100000 in
/-- GlacierMail$Rows.copyFrom -/
def pl_s935 : ck_Sum := ((1, 0, 0), 249, [.inr (.inr (.inl 10)), .inr (.inr (.inl 155))], ([], [], []), ([(10, 3, 3), (11, 0, 167)], []), [(.inr none, 249, ([], [], []))])
set_option maxRecDepth 100000 in
theorem pl_s935_s {X : Int → Int} {LX : Nat} : ck_Ok p2_OL X LX 58 pl_s935 := ck_ok_s (O := p2_OL) (X := X) (LX := LX) (E := []) (mi := 58) (cuts := []) (f := 114) (S := pl_s935) (lx := none) (XF := []) ⟨pl_nmu, ck_E0⟩ ck_X0 ck_l0 (by decide +kernel)
set_option maxRecDepth 100000 in
/-- GlacierMail$Rows.copyFrom -/
def pl_s936 : ck_Sum := ((1, 0, 0), 249, [.inr (.inr (.inl 12)), .inr (.inr (.inl 157))], ([], [], []), ([(12, 3, 3), (13, 0, 35)], []), [(.inr none, 249, ([], [], []))])
set_option maxRecDepth 100000 in
theorem pl_s936_s {X : Int → Int} {LX : Nat} : ck_Ok p2_OL X LX 58 pl_s936 := ck_ok_s (O := p2_OL) (X := X) (LX := LX) (E := []) (mi := 58) (cuts := []) (f := 114) (S := pl_s936) (lx := none) (XF := []) ⟨pl_nmu, ck_E0⟩ ck_X0 ck_l0 (by decide +kernel)
set_option maxRecDepth 100000 in
/-- GlacierMail$Rows.copyFrom -/
def pl_s937 : ck_Sum := ((1, 0, 0), 249, [.inr (.inr (.inl 14)), .inr (.inr (.inl 159))], ([], [], []), ([(14, 3, 3), (15, 0, 71)], []), [(.inr none, 249, ([], [], []))])
set_option maxRecDepth 100000 in
theorem pl_s937_s {X : Int → Int} {LX : Nat} : ck_Ok p2_OL X LX 58 pl_s937 := ck_ok_s (O := p2_OL) (X := X) (LX := LX) (E := []) (mi := 58) (cuts := []) (f := 114) (S := pl_s937) (lx := none) (XF := []) ⟨pl_nmu, ck_E0⟩ ck_X0 ck_l0 (by decide +kernel)
set_option maxRecDepth 100000 in
/-- GlacierMail$State.copyFrom -/
def pl_s938 : ck_Sum := ((2, 0, 0), 249, [.inr (.inr (.inl 3)), .inr (.inr (.inl 148))], ([], [(3, 8, 246), (148, 8, 100148)], []), (zl1, [(3, 8)]), [(.inr none, 249, ([], [(3, 8, 100148)], []))])
set_option maxRecDepth 100000 in
theorem pl_s938_s {X : Int → Int} {LX : Nat} : ck_Ok p2_OL X LX 57 pl_s938 := ck_ok_s (O := p2_OL) (X := X) (LX := LX) (E := [(58, [pl_s932, pl_s933, pl_s934, pl_s935, pl_s936, pl_s937])]) (mi := 57) (cuts := []) (f := 204) (S := pl_s938) (lx := none) (XF := []) ⟨pl_nmu, ck_E1 (ck_S1 pl_s932_s (ck_S1 pl_s933_s (ck_S1 pl_s934_s (ck_S1 pl_s935_s (ck_S1 pl_s936_s (ck_S1 pl_s937_s ck_S0)))))) ck_E0⟩ ck_X0 ck_l0 (by decide +kernel)
set_option maxRecDepth 100000 in
/-- GlacierMail$Rows.copyFrom -/
def pl_s939 : ck_Sum := ((1, 0, 0), 249, [.inr (.inr (.inl 4)), .inr (.inr (.inl 162))], ([], [], []), ([(4, 3, 3), (5, 0, 55)], []), [(.inr none, 249, ([], [], []))])
set_option maxRecDepth 100000 in
theorem pl_s939_s {X : Int → Int} {LX : Nat} : ck_Ok p2_OL X LX 58 pl_s939 := ck_ok_s (O := p2_OL) (X := X) (LX := LX) (E := []) (mi := 58) (cuts := []) (f := 114) (S := pl_s939) (lx := none) (XF := []) ⟨pl_nmu, ck_E0⟩ ck_X0 ck_l0 (by decide +kernel)
set_option maxRecDepth 100000 in
/-- GlacierMail$Rows.copyFrom -/
def pl_s940 : ck_Sum := ((1, 0, 0), 249, [.inr (.inr (.inl 6)), .inr (.inr (.inl 164))], ([], [], []), ([(6, 3, 3), (7, 0, 23)], []), [(.inr none, 249, ([], [], []))])
set_option maxRecDepth 100000 in
theorem pl_s940_s {X : Int → Int} {LX : Nat} : ck_Ok p2_OL X LX 58 pl_s940 := ck_ok_s (O := p2_OL) (X := X) (LX := LX) (E := []) (mi := 58) (cuts := []) (f := 114) (S := pl_s940) (lx := none) (XF := []) ⟨pl_nmu, ck_E0⟩ ck_X0 ck_l0 (by decide +kernel)
set_option maxRecDepth 100000 in
/-- GlacierMail$Rows.copyFrom -/
def pl_s941 : ck_Sum := ((1, 0, 0), 249, [.inr (.inr (.inl 8)), .inr (.inr (.inl 166))], ([], [], []), ([(8, 3, 3), (9, 0, 23)], []), [(.inr none, 249, ([], [], []))])
set_option maxRecDepth 100000 in
theorem pl_s941_s {X : Int → Int} {LX : Nat} : ck_Ok p2_OL X LX 58 pl_s941 := ck_ok_s (O := p2_OL) (X := X) (LX := LX) (E := []) (mi := 58) (cuts := []) (f := 114) (S := pl_s941) (lx := none) (XF := []) ⟨pl_nmu, ck_E0⟩ ck_X0 ck_l0 (by decide +kernel)
set_option maxRecDepth 100000 in
/-- GlacierMail$Rows.copyFrom -/
def pl_s942 : ck_Sum := ((1, 0, 0), 249, [.inr (.inr (.inl 10)), .inr (.inr (.inl 168))], ([], [], []), ([(10, 3, 3), (11, 0, 167)], []), [(.inr none, 249, ([], [], []))])
set_option maxRecDepth 100000 in
theorem pl_s942_s {X : Int → Int} {LX : Nat} : ck_Ok p2_OL X LX 58 pl_s942 := ck_ok_s (O := p2_OL) (X := X) (LX := LX) (E := []) (mi := 58) (cuts := []) (f := 114) (S := pl_s942) (lx := none) (XF := []) ⟨pl_nmu, ck_E0⟩ ck_X0 ck_l0 (by decide +kernel)
set_option maxRecDepth 100000 in
/-- GlacierMail$Rows.copyFrom -/
def pl_s943 : ck_Sum := ((1, 0, 0), 249, [.inr (.inr (.inl 12)), .inr (.inr (.inl 170))], ([], [], []), ([(12, 3, 3), (13, 0, 35)], []), [(.inr none, 249, ([], [], []))])
set_option maxRecDepth 100000 in
theorem pl_s943_s {X : Int → Int} {LX : Nat} : ck_Ok p2_OL X LX 58 pl_s943 := ck_ok_s (O := p2_OL) (X := X) (LX := LX) (E := []) (mi := 58) (cuts := []) (f := 114) (S := pl_s943) (lx := none) (XF := []) ⟨pl_nmu, ck_E0⟩ ck_X0 ck_l0 (by decide +kernel)
set_option maxRecDepth 100000 in
/-- GlacierMail$Rows.copyFrom -/
def pl_s944 : ck_Sum := ((1, 0, 0), 249, [.inr (.inr (.inl 14)), .inr (.inr (.inl 172))], ([], [], []), ([(14, 3, 3), (15, 0, 71)], []), [(.inr none, 249, ([], [], []))])
set_option maxRecDepth 100000 in
theorem pl_s944_s {X : Int → Int} {LX : Nat} : ck_Ok p2_OL X LX 58 pl_s944 := ck_ok_s (O := p2_OL) (X := X) (LX := LX) (E := []) (mi := 58) (cuts := []) (f := 114) (S := pl_s944) (lx := none) (XF := []) ⟨pl_nmu, ck_E0⟩ ck_X0 ck_l0 (by decide +kernel)
set_option maxRecDepth 100000 in
/-- GlacierMail$State.copyFrom -/
def pl_s945 : ck_Sum := ((2, 0, 0), 249, [.inr (.inr (.inl 3)), .inr (.inr (.inl 161))], ([], [(3, 8, 246), (161, 8, 100161)], []), (zl1, [(3, 8)]), [(.inr none, 249, ([], [(3, 8, 100161)], []))])
set_option maxRecDepth 100000 in
theorem pl_s945_s {X : Int → Int} {LX : Nat} : ck_Ok p2_OL X LX 57 pl_s945 := ck_ok_s (O := p2_OL) (X := X) (LX := LX) (E := [(58, [pl_s939, pl_s940, pl_s941, pl_s942, pl_s943, pl_s944])]) (mi := 57) (cuts := []) (f := 204) (S := pl_s945) (lx := none) (XF := []) ⟨pl_nmu, ck_E1 (ck_S1 pl_s939_s (ck_S1 pl_s940_s (ck_S1 pl_s941_s (ck_S1 pl_s942_s (ck_S1 pl_s943_s (ck_S1 pl_s944_s ck_S0)))))) ck_E0⟩ ck_X0 ck_l0 (by decide +kernel)
set_option maxRecDepth 100000 in
/-- GlacierMail$Rows.copyFrom -/
def pl_s946 : ck_Sum := ((1, 0, 0), 249, [.inr (.inr (.inl 4)), .inr (.inr (.inl 175))], ([], [], []), ([(4, 3, 3), (5, 0, 55)], []), [(.inr none, 249, ([], [], []))])
set_option maxRecDepth 100000 in
theorem pl_s946_s {X : Int → Int} {LX : Nat} : ck_Ok p2_OL X LX 58 pl_s946 := ck_ok_s (O := p2_OL) (X := X) (LX := LX) (E := []) (mi := 58) (cuts := []) (f := 114) (S := pl_s946) (lx := none) (XF := []) ⟨pl_nmu, ck_E0⟩ ck_X0 ck_l0 (by decide +kernel)
set_option maxRecDepth 100000 in
/-- GlacierMail$Rows.copyFrom -/
def pl_s947 : ck_Sum := ((1, 0, 0), 249, [.inr (.inr (.inl 6)), .inr (.inr (.inl 177))], ([], [], []), ([(6, 3, 3), (7, 0, 23)], []), [(.inr none, 249, ([], [], []))])
set_option maxRecDepth 100000 in
theorem pl_s947_s {X : Int → Int} {LX : Nat} : ck_Ok p2_OL X LX 58 pl_s947 := ck_ok_s (O := p2_OL) (X := X) (LX := LX) (E := []) (mi := 58) (cuts := []) (f := 114) (S := pl_s947) (lx := none) (XF := []) ⟨pl_nmu, ck_E0⟩ ck_X0 ck_l0 (by decide +kernel)
end
/-! 78r86a13.sl -/
section
/-! EVERY CALL OF THE CLASS ENDS, under a law (laid by wip/am/p2l.py). -/
set_option maxRecDepth 100000 in
/-- GlacierMail$Rows.copyFrom -/
def pl_s948 : ck_Sum := ((1, 0, 0), 249, [.inr (.inr (.inl 8)), .inr (.inr (.inl 179))], ([], [], []), ([(8, 3, 3), (9, 0, 23)], []), [(.inr none, 249, ([], [], []))])
set_option maxRecDepth 100000 in
theorem pl_s948_s {X : Int → Int} {LX : Nat} : ck_Ok p2_OL X LX 58 pl_s948 := ck_ok_s (O := p2_OL) (X := X) (LX := LX) (E := []) (mi := 58) (cuts := []) (f := 114) (S := pl_s948) (lx := none) (XF := []) ⟨pl_nmu, ck_E0⟩ ck_X0 ck_l0 (by decide +kernel)
set_option maxRecDepth 100000 in
/-- GlacierMail$Rows.copyFrom -/
def pl_s949 : ck_Sum := ((1, 0, 0), 249, [.inr (.inr (.inl 10)), .inr (.inr (.inl 181))], ([], [], []), ([(10, 3, 3), (11, 0, 167)], []), [(.inr none, 249, ([], [], []))])
set_option maxRecDepth 100000 in
theorem pl_s949_s {X : Int → Int} {LX : Nat} : ck_Ok p2_OL X LX 58 pl_s949 := ck_ok_s (O := p2_OL) (X := X) (LX := LX) (E := []) (mi := 58) (cuts := []) (f := 114) (S := pl_s949) (lx := none) (XF := []) ⟨pl_nmu, ck_E0⟩ ck_X0 ck_l0 (by decide +kernel)
set_option maxRecDepth 100000 in
/-- GlacierMail$Rows.copyFrom -/
def pl_s950 : ck_Sum := ((1, 0, 0), 249, [.inr (.inr (.inl 12)), .inr (.inr (.inl 183))], ([], [], []), ([(12, 3, 3), (13, 0, 35)], []), [(.inr none, 249, ([], [], []))])
set_option maxRecDepth 100000 in
theorem pl_s950_s {X : Int → Int} {LX : Nat} : ck_Ok p2_OL X LX 58 pl_s950 := ck_ok_s (O := p2_OL) (X := X) (LX := LX) (E := []) (mi := 58) (cuts := []) (f := 114) (S := pl_s950) (lx := none) (XF := []) ⟨pl_nmu, ck_E0⟩ ck_X0 ck_l0 (by decide +kernel)
set_option maxRecDepth 100000 in
/-- GlacierMail$Rows.copyFrom -/
def pl_s951 : ck_Sum := ((1, 0, 0), 249, [.inr (.inr (.inl 14)), .inr (.inr (.inl 185))], ([], [], []), ([(14, 3, 3), (15, 0, 71)], []), [(.inr none, 249, ([], [], []))])
set_option maxRecDepth 100000 in
theorem pl_s951_s {X : Int → Int} {LX : Nat} : ck_Ok p2_OL X LX 58 pl_s951 := ck_ok_s (O := p2_OL) (X := X) (LX := LX) (E := []) (mi := 58) (cuts := []) (f := 114) (S := pl_s951) (lx := none) (XF := []) ⟨pl_nmu, ck_E0⟩ ck_X0 ck_l0 (by decide +kernel)
set_option maxRecDepth 100000 in
/-- GlacierMail$State.copyFrom -/
def pl_s952 : ck_Sum := ((2, 0, 0), 249, [.inr (.inr (.inl 3)), .inr (.inr (.inl 174))], ([], [(3, 8, 246), (174, 8, 100174)], []), (zl1, [(3, 8)]), [(.inr none, 249, ([], [(3, 8, 100174)], []))])
set_option maxRecDepth 100000 in
theorem pl_s952_s {X : Int → Int} {LX : Nat} : ck_Ok p2_OL X LX 57 pl_s952 := ck_ok_s (O := p2_OL) (X := X) (LX := LX) (E := [(58, [pl_s946, pl_s947, pl_s948, pl_s949, pl_s950, pl_s951])]) (mi := 57) (cuts := []) (f := 204) (S := pl_s952) (lx := none) (XF := []) ⟨pl_nmu, ck_E1 (ck_S1 pl_s946_s (ck_S1 pl_s947_s (ck_S1 pl_s948_s (ck_S1 pl_s949_s (ck_S1 pl_s950_s (ck_S1 pl_s951_s ck_S0)))))) ck_E0⟩ ck_X0 ck_l0 (by decide +kernel)
set_option maxRecDepth 100000 in
/-- GlacierMail$Rows.copyFrom -/
def pl_s953 : ck_Sum := ((1, 0, 0), 249, [.inr (.inr (.inl 4)), .inr (.inr (.inl 188))], ([], [], []), ([(4, 3, 3), (5, 0, 55)], []), [(.inr none, 249, ([], [], []))])
set_option maxRecDepth 100000 in
theorem pl_s953_s {X : Int → Int} {LX : Nat} : ck_Ok p2_OL X LX 58 pl_s953 := ck_ok_s (O := p2_OL) (X := X) (LX := LX) (E := []) (mi := 58) (cuts := []) (f := 114) (S := pl_s953) (lx := none) (XF := []) ⟨pl_nmu, ck_E0⟩ ck_X0 ck_l0 (by decide +kernel)
set_option maxRecDepth 100000 in
/-- GlacierMail$Rows.copyFrom -/
def pl_s954 : ck_Sum := ((1, 0, 0), 249, [.inr (.inr (.inl 6)), .inr (.inr (.inl 190))], ([], [], []), ([(6, 3, 3), (7, 0, 23)], []), [(.inr none, 249, ([], [], []))])
set_option maxRecDepth 100000 in
theorem pl_s954_s {X : Int → Int} {LX : Nat} : ck_Ok p2_OL X LX 58 pl_s954 := ck_ok_s (O := p2_OL) (X := X) (LX := LX) (E := []) (mi := 58) (cuts := []) (f := 114) (S := pl_s954) (lx := none) (XF := []) ⟨pl_nmu, ck_E0⟩ ck_X0 ck_l0 (by decide +kernel)
set_option maxRecDepth 100000 in
/-- GlacierMail$Rows.copyFrom -/
def pl_s955 : ck_Sum := ((1, 0, 0), 249, [.inr (.inr (.inl 8)), .inr (.inr (.inl 192))], ([], [], []), ([(8, 3, 3), (9, 0, 23)], []), [(.inr none, 249, ([], [], []))])
set_option maxRecDepth 100000 in
theorem pl_s955_s {X : Int → Int} {LX : Nat} : ck_Ok p2_OL X LX 58 pl_s955 := ck_ok_s (O := p2_OL) (X := X) (LX := LX) (E := []) (mi := 58) (cuts := []) (f := 114) (S := pl_s955) (lx := none) (XF := []) ⟨pl_nmu, ck_E0⟩ ck_X0 ck_l0 (by decide +kernel)
set_option maxRecDepth 100000 in
/-- GlacierMail$Rows.copyFrom -/
def pl_s956 : ck_Sum := ((1, 0, 0), 249, [.inr (.inr (.inl 10)), .inr (.inr (.inl 194))], ([], [], []), ([(10, 3, 3), (11, 0, 167)], []), [(.inr none, 249, ([], [], []))])
set_option maxRecDepth 100000 in
theorem pl_s956_s {X : Int → Int} {LX : Nat} : ck_Ok p2_OL X LX 58 pl_s956 := ck_ok_s (O := p2_OL) (X := X) (LX := LX) (E := []) (mi := 58) (cuts := []) (f := 114) (S := pl_s956) (lx := none) (XF := []) ⟨pl_nmu, ck_E0⟩ ck_X0 ck_l0 (by decide +kernel)
set_option maxRecDepth 100000 in
/-- GlacierMail$Rows.copyFrom -/
def pl_s957 : ck_Sum := ((1, 0, 0), 249, [.inr (.inr (.inl 12)), .inr (.inr (.inl 196))], ([], [], []), ([(12, 3, 3), (13, 0, 35)], []), [(.inr none, 249, ([], [], []))])
set_option maxRecDepth 100000 in
theorem pl_s957_s {X : Int → Int} {LX : Nat} : ck_Ok p2_OL X LX 58 pl_s957 := ck_ok_s (O := p2_OL) (X := X) (LX := LX) (E := []) (mi := 58) (cuts := []) (f := 114) (S := pl_s957) (lx := none) (XF := []) ⟨pl_nmu, ck_E0⟩ ck_X0 ck_l0 (by decide +kernel)
set_option maxRecDepth 100000 in
/-- GlacierMail$Rows.copyFrom -/
def pl_s958 : ck_Sum := ((1, 0, 0), 249, [.inr (.inr (.inl 14)), .inr (.inr (.inl 198))], ([], [], []), ([(14, 3, 3), (15, 0, 71)], []), [(.inr none, 249, ([], [], []))])
set_option maxRecDepth 100000 in
theorem pl_s958_s {X : Int → Int} {LX : Nat} : ck_Ok p2_OL X LX 58 pl_s958 := ck_ok_s (O := p2_OL) (X := X) (LX := LX) (E := []) (mi := 58) (cuts := []) (f := 114) (S := pl_s958) (lx := none) (XF := []) ⟨pl_nmu, ck_E0⟩ ck_X0 ck_l0 (by decide +kernel)
set_option maxRecDepth 100000 in
/-- GlacierMail$State.copyFrom -/
def pl_s959 : ck_Sum := ((2, 0, 0), 249, [.inr (.inr (.inl 3)), .inr (.inr (.inl 187))], ([], [(3, 8, 246), (187, 8, 100187)], []), (zl1, [(3, 8)]), [(.inr none, 249, ([], [(3, 8, 100187)], []))])
set_option maxRecDepth 100000 in
theorem pl_s959_s {X : Int → Int} {LX : Nat} : ck_Ok p2_OL X LX 57 pl_s959 := ck_ok_s (O := p2_OL) (X := X) (LX := LX) (E := [(58, [pl_s953, pl_s954, pl_s955, pl_s956, pl_s957, pl_s958])]) (mi := 57) (cuts := []) (f := 204) (S := pl_s959) (lx := none) (XF := []) ⟨pl_nmu, ck_E1 (ck_S1 pl_s953_s (ck_S1 pl_s954_s (ck_S1 pl_s955_s (ck_S1 pl_s956_s (ck_S1 pl_s957_s (ck_S1 pl_s958_s ck_S0)))))) ck_E0⟩ ck_X0 ck_l0 (by decide +kernel)
set_option maxRecDepth 100000 in
/-- GlacierMail$History.takeBack -/
def pl_s960 : ck_Sum := ((3, 0, 0), 249, [.inr (.inr (.inl 42)), .inr (.inr (.inl 3))], ([], zl230, []), (zl208, [(3, 8)]), [(.inr (some (.inl (ck_one 1))), 249, ([], [(3, 8, 100044)], zl209)), (.inr (some (.inl (ck_one 1))), 249, ([], [(3, 8, 100057)], zl209)), (.inr (some (.inl (ck_one 1))), 249, ([], [(3, 8, 100070)], zl209)), (.inr (some (.inl (ck_one 1))), 249, ([], [(3, 8, 100083)], zl209)), (.inr (some (.inl (ck_one 1))), 249, ([], [(3, 8, 100096)], zl209)), (.inr (some (.inl (ck_one 1))), 249, ([], [(3, 8, 100109)], zl209)), (.inr (some (.inl (ck_one 1))), 249, ([], [(3, 8, 100122)], zl209)), (.inr (some (.inl (ck_one 1))), 249, ([], [(3, 8, 100135)], zl209)), (.inr (some (.inl (ck_one 1))), 249, ([], [(3, 8, 100148)], zl209)), (.inr (some (.inl (ck_one 1))), 249, ([], [(3, 8, 100161)], zl209)), (.inr (some (.inl (ck_one 1))), 249, ([], [(3, 8, 100174)], zl209)), (.inr (some (.inl (ck_one 1))), 249, ([], [(3, 8, 100187)], zl209)), (.inr (some (.inl (ck_one 0))), 249, ([], [(3, 8, 246)], [(42, 2, 2, ck_one 0)]))])
set_option maxRecDepth 100000 in
theorem pl_s960_s {X : Int → Int} {LX : Nat} : ck_Ok p2_OL X LX 55 pl_s960 := ck_ok_s (O := p2_OL) (X := X) (LX := LX) (E := [(56, [pl_s875]), (57, [pl_s882, pl_s889, pl_s896, pl_s903, pl_s910, pl_s917, pl_s924, pl_s931, pl_s938, pl_s945, pl_s952, pl_s959])]) (mi := 55) (cuts := []) (f := 132) (S := pl_s960) (lx := none) (XF := []) ⟨pl_nmu, ck_E1 (ck_S1 pl_s875_s ck_S0) (ck_E1 (ck_S1 pl_s882_s (ck_S1 pl_s889_s (ck_S1 pl_s896_s (ck_S1 pl_s903_s (ck_S1 pl_s910_s (ck_S1 pl_s917_s (ck_S1 pl_s924_s (ck_S1 pl_s931_s (ck_S1 pl_s938_s (ck_S1 pl_s945_s (ck_S1 pl_s952_s (ck_S1 pl_s959_s ck_S0)))))))))))) ck_E0)⟩ ck_X0 ck_l0 (by decide +kernel)
set_option maxRecDepth 100000 in
/-- GlacierMail.undo -/
def pl_s961 : ck_Sum := ((4, 0, 0), 249, [.inr (.inr (.inl 1))], ([], zl230, []), (zl210, [(3, 8)]), [(.inr (some (.inl (ck_one 1))), 249, ([], [(3, 8, 100044)], zl211)), (.inr (some (.inl (ck_one 0))), 249, ([], [(3, 8, 246)], [(42, 2, 2, ck_one 0), (1, 15, 15, ck_one 0)])), (.inr (some (.inl (ck_one 1))), 249, ([], [(3, 8, 100187)], zl211)), (.inr (some (.inl (ck_one 1))), 249, ([], [(3, 8, 100174)], zl211)), (.inr (some (.inl (ck_one 1))), 249, ([], [(3, 8, 100161)], zl211)), (.inr (some (.inl (ck_one 1))), 249, ([], [(3, 8, 100148)], zl211)), (.inr (some (.inl (ck_one 1))), 249, ([], [(3, 8, 100135)], zl211)), (.inr (some (.inl (ck_one 1))), 249, ([], [(3, 8, 100122)], zl211)), (.inr (some (.inl (ck_one 1))), 249, ([], [(3, 8, 100109)], zl211)), (.inr (some (.inl (ck_one 1))), 249, ([], [(3, 8, 100096)], zl211)), (.inr (some (.inl (ck_one 1))), 249, ([], [(3, 8, 100083)], zl211)), (.inr (some (.inl (ck_one 1))), 249, ([], [(3, 8, 100070)], zl211)), (.inr (some (.inl (ck_one 1))), 249, ([], [(3, 8, 100057)], zl211))])
set_option maxRecDepth 100000 in
theorem pl_s961_s {X : Int → Int} {LX : Nat} : ck_Ok p2_OL X LX 54 pl_s961 := ck_ok_s (O := p2_OL) (X := X) (LX := LX) (E := [(55, [pl_s960])]) (mi := 54) (cuts := []) (f := 88) (S := pl_s961) (lx := none) (XF := []) ⟨pl_nmu, ck_E1 (ck_S1 pl_s960_s ck_S0) ck_E0⟩ ck_X0 ck_l0 (by decide +kernel)
set_option maxRecDepth 100000 in
/-- GlacierMail$Rows.copyFrom -/
def pl_s962 : ck_Sum := ((1, 0, 0), 249, [.inr (.inr (.inl 30)), .inr (.inr (.inl 4))], ([], [], []), ([(30, 3, 3), (31, 0, 55)], []), [(.inr none, 249, ([], [], []))])
set_option maxRecDepth 100000 in
theorem pl_s962_s {X : Int → Int} {LX : Nat} : ck_Ok p2_OL X LX 58 pl_s962 := ck_ok_s (O := p2_OL) (X := X) (LX := LX) (E := []) (mi := 58) (cuts := []) (f := 114) (S := pl_s962) (lx := none) (XF := []) ⟨pl_nmu, ck_E0⟩ ck_X0 ck_l0 (by decide +kernel)
set_option maxRecDepth 100000 in
/-- GlacierMail$Rows.copyFrom -/
def pl_s963 : ck_Sum := ((1, 0, 0), 249, [.inr (.inr (.inl 32)), .inr (.inr (.inl 6))], ([], [], []), ([(32, 3, 3), (33, 0, 23)], []), [(.inr none, 249, ([], [], []))])
set_option maxRecDepth 100000 in
theorem pl_s963_s {X : Int → Int} {LX : Nat} : ck_Ok p2_OL X LX 58 pl_s963 := ck_ok_s (O := p2_OL) (X := X) (LX := LX) (E := []) (mi := 58) (cuts := []) (f := 114) (S := pl_s963) (lx := none) (XF := []) ⟨pl_nmu, ck_E0⟩ ck_X0 ck_l0 (by decide +kernel)
set_option maxRecDepth 100000 in
/-- GlacierMail$Rows.copyFrom -/
def pl_s964 : ck_Sum := ((1, 0, 0), 249, [.inr (.inr (.inl 34)), .inr (.inr (.inl 8))], ([], [], []), ([(34, 3, 3), (35, 0, 23)], []), [(.inr none, 249, ([], [], []))])
set_option maxRecDepth 100000 in
theorem pl_s964_s {X : Int → Int} {LX : Nat} : ck_Ok p2_OL X LX 58 pl_s964 := ck_ok_s (O := p2_OL) (X := X) (LX := LX) (E := []) (mi := 58) (cuts := []) (f := 114) (S := pl_s964) (lx := none) (XF := []) ⟨pl_nmu, ck_E0⟩ ck_X0 ck_l0 (by decide +kernel)
set_option maxRecDepth 100000 in
/-- GlacierMail$Rows.copyFrom -/
def pl_s965 : ck_Sum := ((1, 0, 0), 249, [.inr (.inr (.inl 36)), .inr (.inr (.inl 10))], ([], [], []), ([(36, 3, 3), (37, 0, 167)], []), [(.inr none, 249, ([], [], []))])
set_option maxRecDepth 100000 in
theorem pl_s965_s {X : Int → Int} {LX : Nat} : ck_Ok p2_OL X LX 58 pl_s965 := ck_ok_s (O := p2_OL) (X := X) (LX := LX) (E := []) (mi := 58) (cuts := []) (f := 114) (S := pl_s965) (lx := none) (XF := []) ⟨pl_nmu, ck_E0⟩ ck_X0 ck_l0 (by decide +kernel)
set_option maxRecDepth 100000 in
/-- GlacierMail$Rows.copyFrom -/
def pl_s966 : ck_Sum := ((1, 0, 0), 249, [.inr (.inr (.inl 38)), .inr (.inr (.inl 12))], ([], [], []), ([(38, 3, 3), (39, 0, 35)], []), [(.inr none, 249, ([], [], []))])
set_option maxRecDepth 100000 in
theorem pl_s966_s {X : Int → Int} {LX : Nat} : ck_Ok p2_OL X LX 58 pl_s966 := ck_ok_s (O := p2_OL) (X := X) (LX := LX) (E := []) (mi := 58) (cuts := []) (f := 114) (S := pl_s966) (lx := none) (XF := []) ⟨pl_nmu, ck_E0⟩ ck_X0 ck_l0 (by decide +kernel)
set_option maxRecDepth 100000 in
/-- GlacierMail$Rows.copyFrom -/
def pl_s967 : ck_Sum := ((1, 0, 0), 249, [.inr (.inr (.inl 40)), .inr (.inr (.inl 14))], ([], [], []), ([(40, 3, 3), (41, 0, 71)], []), [(.inr none, 249, ([], [], []))])
set_option maxRecDepth 100000 in
theorem pl_s967_s {X : Int → Int} {LX : Nat} : ck_Ok p2_OL X LX 58 pl_s967 := ck_ok_s (O := p2_OL) (X := X) (LX := LX) (E := []) (mi := 58) (cuts := []) (f := 114) (S := pl_s967) (lx := none) (XF := []) ⟨pl_nmu, ck_E0⟩ ck_X0 ck_l0 (by decide +kernel)
set_option maxRecDepth 100000 in
/-- GlacierMail$State.copyFrom -/
def pl_s968 : ck_Sum := ((2, 0, 0), 249, [.inr (.inr (.inl 29)), .inr (.inr (.inl 3))], ([], [(3, 8, 246), (29, 8, 100029)], [(3, 6, 6, (0, 299, [(10, 0)]))]), (zl212, [(29, 8)]), [(.inr none, 249, ([], [(29, 8, 246)], [(29, 6, 6, (0, 299, [(10, 0)]))]))])
set_option maxRecDepth 100000 in
theorem pl_s968_s {X : Int → Int} {LX : Nat} : ck_Ok p2_OL X LX 57 pl_s968 := ck_ok_s (O := p2_OL) (X := X) (LX := LX) (E := [(58, [pl_s962, pl_s963, pl_s964, pl_s965, pl_s966, pl_s967])]) (mi := 57) (cuts := []) (f := 204) (S := pl_s968) (lx := none) (XF := []) ⟨pl_nmu, ck_E1 (ck_S1 pl_s962_s (ck_S1 pl_s963_s (ck_S1 pl_s964_s (ck_S1 pl_s965_s (ck_S1 pl_s966_s (ck_S1 pl_s967_s ck_S0)))))) ck_E0⟩ ck_X0 ck_l0 (by decide +kernel)
set_option maxRecDepth 100000 in
/-- GlacierMail.image -/
def pl_s969 : ck_Sum := ((3, 0, 0), 249, [.inr (.inr (.inl 1))], ([], [(3, 8, 246), (29, 8, 100029)], [(3, 6, 6, (0, 299, [(10, 0)]))]), (zl213, [(29, 8)]), [(.inr none, 249, ([], [(29, 8, 246)], zl214))])
set_option maxRecDepth 100000 in
theorem pl_s969_s {X : Int → Int} {LX : Nat} : ck_Ok p2_OL X LX 59 pl_s969 := ck_ok_s (O := p2_OL) (X := X) (LX := LX) (E := [(57, [pl_s968])]) (mi := 59) (cuts := []) (f := 88) (S := pl_s969) (lx := none) (XF := []) ⟨pl_nmu, ck_E1 (ck_S1 pl_s968_s ck_S0) ck_E0⟩ ck_X0 ck_l0 (by decide +kernel)
set_option maxRecDepth 100000 in
/-- GlacierMail$Rows.copyFrom -/
def pl_s970 : ck_Sum := ((1, 0, 0), 249, [.inr (.inr (.inl 4)), .inr (.inr (.inl 30))], ([], [], []), ([(4, 3, 3), (5, 0, 55)], []), [(.inr none, 249, ([], [], []))])
set_option maxRecDepth 100000 in
theorem pl_s970_s {X : Int → Int} {LX : Nat} : ck_Ok p2_OL X LX 58 pl_s970 := ck_ok_s (O := p2_OL) (X := X) (LX := LX) (E := []) (mi := 58) (cuts := []) (f := 114) (S := pl_s970) (lx := none) (XF := []) ⟨pl_nmu, ck_E0⟩ ck_X0 ck_l0 (by decide +kernel)
set_option maxRecDepth 100000 in
/-- GlacierMail$Rows.copyFrom -/
def pl_s971 : ck_Sum := ((1, 0, 0), 249, [.inr (.inr (.inl 6)), .inr (.inr (.inl 32))], ([], [], []), ([(6, 3, 3), (7, 0, 23)], []), [(.inr none, 249, ([], [], []))])
set_option maxRecDepth 100000 in
theorem pl_s971_s {X : Int → Int} {LX : Nat} : ck_Ok p2_OL X LX 58 pl_s971 := ck_ok_s (O := p2_OL) (X := X) (LX := LX) (E := []) (mi := 58) (cuts := []) (f := 114) (S := pl_s971) (lx := none) (XF := []) ⟨pl_nmu, ck_E0⟩ ck_X0 ck_l0 (by decide +kernel)
set_option maxRecDepth 100000 in
/-- GlacierMail$Rows.copyFrom -/
def pl_s972 : ck_Sum := ((1, 0, 0), 249, [.inr (.inr (.inl 8)), .inr (.inr (.inl 34))], ([], [], []), ([(8, 3, 3), (9, 0, 23)], []), [(.inr none, 249, ([], [], []))])
set_option maxRecDepth 100000 in
theorem pl_s972_s {X : Int → Int} {LX : Nat} : ck_Ok p2_OL X LX 58 pl_s972 := ck_ok_s (O := p2_OL) (X := X) (LX := LX) (E := []) (mi := 58) (cuts := []) (f := 114) (S := pl_s972) (lx := none) (XF := []) ⟨pl_nmu, ck_E0⟩ ck_X0 ck_l0 (by decide +kernel)
set_option maxRecDepth 100000 in
/-- GlacierMail$Rows.copyFrom -/
def pl_s973 : ck_Sum := ((1, 0, 0), 249, [.inr (.inr (.inl 10)), .inr (.inr (.inl 36))], ([], [], []), ([(10, 3, 3), (11, 0, 167)], []), [(.inr none, 249, ([], [], []))])
set_option maxRecDepth 100000 in
theorem pl_s973_s {X : Int → Int} {LX : Nat} : ck_Ok p2_OL X LX 58 pl_s973 := ck_ok_s (O := p2_OL) (X := X) (LX := LX) (E := []) (mi := 58) (cuts := []) (f := 114) (S := pl_s973) (lx := none) (XF := []) ⟨pl_nmu, ck_E0⟩ ck_X0 ck_l0 (by decide +kernel)
set_option maxRecDepth 100000 in
/-- GlacierMail$Rows.copyFrom -/
def pl_s974 : ck_Sum := ((1, 0, 0), 249, [.inr (.inr (.inl 12)), .inr (.inr (.inl 38))], ([], [], []), ([(12, 3, 3), (13, 0, 35)], []), [(.inr none, 249, ([], [], []))])
set_option maxRecDepth 100000 in
theorem pl_s974_s {X : Int → Int} {LX : Nat} : ck_Ok p2_OL X LX 58 pl_s974 := ck_ok_s (O := p2_OL) (X := X) (LX := LX) (E := []) (mi := 58) (cuts := []) (f := 114) (S := pl_s974) (lx := none) (XF := []) ⟨pl_nmu, ck_E0⟩ ck_X0 ck_l0 (by decide +kernel)
set_option maxRecDepth 100000 in
/-- GlacierMail$Rows.copyFrom -/
def pl_s975 : ck_Sum := ((1, 0, 0), 249, [.inr (.inr (.inl 14)), .inr (.inr (.inl 40))], ([], [], []), ([(14, 3, 3), (15, 0, 71)], []), [(.inr none, 249, ([], [], []))])
set_option maxRecDepth 100000 in
theorem pl_s975_s {X : Int → Int} {LX : Nat} : ck_Ok p2_OL X LX 58 pl_s975 := ck_ok_s (O := p2_OL) (X := X) (LX := LX) (E := []) (mi := 58) (cuts := []) (f := 114) (S := pl_s975) (lx := none) (XF := []) ⟨pl_nmu, ck_E0⟩ ck_X0 ck_l0 (by decide +kernel)
set_option maxRecDepth 100000 in
/-- GlacierMail$State.copyFrom -/
def pl_s976 : ck_Sum := ((2, 0, 0), 249, [.inr (.inr (.inl 3)), .inr (.inr (.inl 29))], ([], [(3, 8, 246), (29, 8, 100029)], []), (zl1, [(3, 8)]), [(.inr none, 249, ([], [(3, 8, 100029)], []))])
set_option maxRecDepth 100000 in
theorem pl_s976_s {X : Int → Int} {LX : Nat} : ck_Ok p2_OL X LX 57 pl_s976 := ck_ok_s (O := p2_OL) (X := X) (LX := LX) (E := [(58, [pl_s970, pl_s971, pl_s972, pl_s973, pl_s974, pl_s975])]) (mi := 57) (cuts := []) (f := 204) (S := pl_s976) (lx := none) (XF := []) ⟨pl_nmu, ck_E1 (ck_S1 pl_s970_s (ck_S1 pl_s971_s (ck_S1 pl_s972_s (ck_S1 pl_s973_s (ck_S1 pl_s974_s (ck_S1 pl_s975_s ck_S0)))))) ck_E0⟩ ck_X0 ck_l0 (by decide +kernel)
set_option maxRecDepth 100000 in
/-- GlacierMail.back -/
def pl_s977 : ck_Sum := ((4, 0, 0), 249, [.inr (.inr (.inl 1))], ([], [(3, 8, 246), (29, 8, 100029)], [(1, 6, 6, (0, 1, [(9, 0)]))]), (zl215, [(3, 8)]), [(.inr (some (.inl (ck_one 1))), 249, ([], [(3, 8, 100029)], zl216)), (.inr (some (.inl (ck_one 0))), 249, ([], [(3, 8, 246)], [(1, 6, 6, (0, 0, [(9, 0)]))]))])
set_option maxRecDepth 100000 in
theorem pl_s977_s {X : Int → Int} {LX : Nat} : ck_Ok p2_OL X LX 60 pl_s977 := ck_ok_s (O := p2_OL) (X := X) (LX := LX) (E := [(57, [pl_s976]), (61, [pl_s142])]) (mi := 60) (cuts := []) (f := 94) (S := pl_s977) (lx := none) (XF := []) ⟨pl_nmu, ck_E1 (ck_S1 pl_s976_s ck_S0) (ck_E1 (ck_S1 pl_s142_s ck_S0) ck_E0)⟩ ck_X0 ck_l0 (by decide +kernel)
set_option maxRecDepth 100000 in
/-- GlacierMail.count -/
def pl_s978 : ck_Sum := ((0, 0, 0), 249, [.inr (.inr (.inl 1)), .inl ((-2147483648), (-1), [])], ([], [], []), ([], []), [(.inr (some (.inl (ck_one (-1)))), 249, ([], [], []))])
set_option maxRecDepth 100000 in
theorem pl_s978_s {X : Int → Int} {LX : Nat} : ck_Ok p2_OL X LX 63 pl_s978 := ck_ok_s (O := p2_OL) (X := X) (LX := LX) (E := []) (mi := 63) (cuts := []) (f := 78) (S := pl_s978) (lx := none) (XF := []) ⟨pl_nmu, ck_E0⟩ ck_X0 ck_l0 (by decide +kernel)
set_option maxRecDepth 100000 in
/-- GlacierMail$History.size -/
def pl_s979 : ck_Sum := ((0, 0, 0), 249, [.inr (.inr (.inl 42))], ([], [], []), ([], []), [(.inr (some (.inl (0, 12, []))), 249, ([], [], []))])
set_option maxRecDepth 100000 in
theorem pl_s979_s {X : Int → Int} {LX : Nat} : ck_Ok p2_OL X LX 69 pl_s979 := ck_ok_s (O := p2_OL) (X := X) (LX := LX) (E := []) (mi := 69) (cuts := []) (f := 76) (S := pl_s979) (lx := none) (XF := []) ⟨pl_nmu, ck_E0⟩ ck_X0 ck_l0 (by decide +kernel)
set_option maxRecDepth 100000 in
/-- GlacierMail.inIceNow -/
def pl_s980 : ck_Sum := ((6, 0, 0), 249, [.inr (.inr (.inl 1))], ([], [(3, 8, 246)], [(3, 6, 6, (0, 299, [(10, 0)]))]), (zl228, []), [(.inr (some (.inl ((-2147483648), 2147483647, []))), 249, ([], [], [(1, 15, 15, ck_one 1)]))])
set_option maxRecDepth 100000 in
theorem pl_s980_s {X : Int → Int} {LX : Nat} : ck_Ok p2_OL X LX 68 pl_s980 := ck_ok_s (O := p2_OL) (X := X) (LX := LX) (E := [(24, [pl_s217]), (9, [pl_s200]), (10, [pl_s218]), (67, [pl_s219])]) (mi := 68) (cuts := [(8, [some (.inr (.inr (.inl 1))), some (.inl ((-2147483648), 2147483647, [])), some (.inl (0, 24, []))], ([], [(3, 8, 246)], [(1, 15, 15, ck_one 1), (3, 6, 6, (0, 299, [(10, 0)]))]), 100, .inl 2, true)]) (f := 174) (S := pl_s980) (lx := none) (XF := []) ⟨pl_nmu, ck_E1 (ck_S1 pl_s217_s ck_S0) (ck_E1 (ck_S1 pl_s200_s ck_S0) (ck_E1 (ck_S1 pl_s218_s ck_S0) (ck_E1 (ck_S1 pl_s219_s ck_S0) ck_E0)))⟩ ck_X0 ck_l0 (by decide +kernel)
set_option maxRecDepth 100000 in
/-- GlacierMail.waiting -/
def pl_s981 : ck_Sum := ((6, 0, 0), 249, [.inr (.inr (.inl 1)), .inl (ck_one (-1))], ([], [(3, 8, 246)], [(3, 6, 6, (0, 299, [(10, 0)]))]), (zl228, []), [(.inr (some (.inl ((-2147483648), 2147483647, []))), 249, ([], [], [(1, 15, 15, ck_one 1)]))])
set_option maxRecDepth 100000 in
theorem pl_s981_s {X : Int → Int} {LX : Nat} : ck_Ok p2_OL X LX 65 pl_s981 := ck_ok_s (O := p2_OL) (X := X) (LX := LX) (E := [(24, [pl_s217]), (9, [pl_s200]), (66, [pl_s220])]) (mi := 65) (cuts := [(8, [some (.inr (.inr (.inl 1))), some (.inl (ck_one (-1))), some (.inl ((-2147483648), 2147483647, [])), some (.inl (0, 24, [])), none], ([], [(3, 8, 246)], [(1, 15, 15, ck_one 1), (3, 6, 6, (0, 299, [(10, 0)]))]), 100, .inl 3, true)]) (f := 178) (S := pl_s981) (lx := none) (XF := []) ⟨pl_nmu, ck_E1 (ck_S1 pl_s217_s ck_S0) (ck_E1 (ck_S1 pl_s200_s ck_S0) (ck_E1 (ck_S1 pl_s220_s ck_S0) ck_E0))⟩ ck_X0 ck_l0 (by decide +kernel)
set_option maxRecDepth 100000 in
/-- GlacierMail$Rows.size -/
def pl_s982 : ck_Sum := ((0, 0, 0), 249, [.inr (.inr (.inl 14))], ([], [], []), ([], []), [(.inr (some (.inl (0, 24, []))), 249, ([], [], []))])
set_option maxRecDepth 100000 in
theorem pl_s982_s {X : Int → Int} {LX : Nat} : ck_Ok p2_OL X LX 9 pl_s982 := ck_ok_s (O := p2_OL) (X := X) (LX := LX) (E := []) (mi := 9) (cuts := []) (f := 76) (S := pl_s982) (lx := none) (XF := []) ⟨pl_nmu, ck_E0⟩ ck_X0 ck_l0 (by decide +kernel)
set_option maxRecDepth 100000 in
/-- GlacierMail.count -/
def pl_s983 : ck_Sum := ((7, 0, 0), 249, [.inr (.inr (.inl 1)), .inl (10, 2147483647, [])], ([], [(3, 8, 246)], [(3, 6, 6, (0, 299, [(10, 0)]))]), (zl228, []), [(.inr (some (.inl ((-2147483648), 2147483647, []))), 249, ([], [], [])), (.inr (some (.inl (0, 9999, []))), 249, ([], [], []))])
set_option maxRecDepth 100000 in
theorem pl_s983_s {X : Int → Int} {LX : Nat} : ck_Ok p2_OL X LX 63 pl_s983 := ck_ok_s (O := p2_OL) (X := X) (LX := LX) (E := [(69, [pl_s979]), (68, [pl_s980]), (65, [pl_s981]), (9, [pl_s982])]) (mi := 63) (cuts := []) (f := 84) (S := pl_s983) (lx := none) (XF := []) ⟨pl_nmu, ck_E1 (ck_S1 pl_s979_s ck_S0) (ck_E1 (ck_S1 pl_s980_s ck_S0) (ck_E1 (ck_S1 pl_s981_s ck_S0) (ck_E1 (ck_S1 pl_s982_s ck_S0) ck_E0)))⟩ ck_X0 ck_l0 (by decide +kernel)
set_option maxRecDepth 100000 in
/-- GlacierMail.lawLines -/
def pl_s984 : ck_Sum := ((1, 0, 0), 249, [.inr (.inr (.inl 1))], ([], [(3, 8, 246)], []), ([], []), [(.inr (some (.inl (0, 12, []))), 249, ([], [], []))])
set_option maxRecDepth 100000 in
theorem pl_s984_s {X : Int → Int} {LX : Nat} : ck_Ok p2_OL X LX 64 pl_s984 := ck_ok_s (O := p2_OL) (X := X) (LX := LX) (E := [(9, [pl_s182])]) (mi := 64) (cuts := []) (f := 90) (S := pl_s984) (lx := none) (XF := []) ⟨pl_nmu, ck_E1 (ck_S1 pl_s182_s ck_S0) ck_E0⟩ ck_X0 ck_l0 (by decide +kernel)
set_option maxRecDepth 100000 in
/-- GlacierMail.count -/
def pl_s985 : ck_Sum := ((2, 0, 0), 249, [.inr (.inr (.inl 1)), .inl (0, 9, [])], ([], [(3, 8, 246)], [(3, 6, 6, (0, 299, [(10, 0)]))]), ([], []), [(.inr (some (.inl (0, 2147483647, []))), 249, ([], [], [])), (.inr (some (.inl ((-2147483648), (-1), []))), 249, ([], [], [(3, 7, 7, ((-2147483648), (-1), []))]))])
set_option maxRecDepth 100000 in
theorem pl_s985_s {X : Int → Int} {LX : Nat} : ck_Ok p2_OL X LX 63 pl_s985 := ck_ok_s (O := p2_OL) (X := X) (LX := LX) (E := [(64, [pl_s984]), (9, [pl_s754, pl_s137, pl_s200, pl_s189, pl_s133])]) (mi := 63) (cuts := []) (f := 84) (S := pl_s985) (lx := none) (XF := []) ⟨pl_nmu, ck_E1 (ck_S1 pl_s984_s ck_S0) (ck_E1 (ck_S1 pl_s754_s (ck_S1 pl_s137_s (ck_S1 pl_s200_s (ck_S1 pl_s189_s (ck_S1 pl_s133_s ck_S0))))) ck_E0)⟩ ck_X0 ck_l0 (by decide +kernel)
end
