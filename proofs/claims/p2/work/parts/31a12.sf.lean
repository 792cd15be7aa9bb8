/-! EVERY CALL ENDS, whatever was done before (laid by wip/am/p2g.py). -/
set_option maxRecDepth 100000 in
/-- GlacierMailModel.has -/
def p2_s1788 : ck_Sum := ((0, 0, 0), 245, [.inl ((-2147483648), 2147483647, []), .inl (0, 5, [])], ([], [], []), ([], []), [(.inr (some (.inl (ck_one 0))), 245, ([], [], [])), (.inr (some (.inl (ck_one 1))), 245, ([], [], []))])
set_option maxRecDepth 100000 in
theorem p2_s1788_e : ck_ok p2_O none [] [] 346 [] 90 p2_s1788 = true := by decide +kernel
theorem p2_s1788_s {X : Int → Int} {LX : Nat} : ck_Ok p2_O X LX 346 p2_s1788 := ck_ok_s ⟨p2_nmu, ck_E0⟩ ck_X0 ck_l0 p2_s1788_e
set_option maxRecDepth 100000 in
/-- GlacierMailModel.areApart -/
def p2_s1793 : ck_Sum := ((1, 0, 0), 245, [.inr (.inr (.inl 226)), .inl (0, 5, []), .inl (0, 5, []), .inl ((-2147483648), 2147483647, [])], ([], [], []), ([], []), [(.inr (some (.inl (0, 1, []))), 245, ([], [], []))])
set_option maxRecDepth 100000 in
theorem p2_s1793_e : ck_ok p2_O none [] [(261, [p2_s184]), (346, [p2_s1788]), (343, [p2_s1776])] 345 [(6, [some (.inr (.inr (.inl 226))), some (.inl (0, 5, [])), some (.inl (0, 5, [])), some (.inl ((-2147483648), 2147483647, [])), some (.inl (0, 1, [])), some (.inl (0, 6, []))], ([], [], []), 100, .inl 5, true)] 190 p2_s1793 = true := by decide +kernel
theorem p2_s1793_s {X : Int → Int} {LX : Nat} : ck_Ok p2_O X LX 345 p2_s1793 := ck_ok_s ⟨p2_nmu, ck_E1 (ck_S1 p2_s184_s ck_S0) (ck_E1 (ck_S1 p2_s1788_s ck_S0) (ck_E1 (ck_S1 p2_s1776_s ck_S0) ck_E0))⟩ ck_X0 ck_l0 p2_s1793_e
set_option maxRecDepth 100000 in
/-- GlacierMailModel.apart -/
def p2_s1794 : ck_Sum := ((2, 0, 0), 245, [.inr (.inr (.inl 226)), .inl (0, 5, []), .inl (0, 5, []), .inl ((-2147483648), 2147483647, [])], ([], [], [(227, 6, 6, (0, 6, [(24, 0)]))]), ([(226, 0, 0)], []), [(.inr (some (.inl (ck_one 0))), 245, ([], [], [(226, 0, 0, (0, 1, []))])), (.inr (some (.inl (ck_one 1))), 245, ([], [], [(226, 0, 0, ck_one 0)]))])
set_option maxRecDepth 100000 in
theorem p2_s1794_e : ck_ok p2_O none [] [(342, [p2_s1773]), (282, [p2_s268, p2_s269]), (345, [p2_s1793])] 344 [] 120 p2_s1794 = true := by decide +kernel
theorem p2_s1794_s {X : Int → Int} {LX : Nat} : ck_Ok p2_O X LX 344 p2_s1794 := ck_ok_s ⟨p2_nmu, ck_E1 (ck_S1 p2_s1773_s ck_S0) (ck_E1 (ck_S1 p2_s268_s (ck_S1 p2_s269_s ck_S0)) (ck_E1 (ck_S1 p2_s1793_s ck_S0) ck_E0))⟩ ck_X0 ck_l0 p2_s1794_e
set_option maxRecDepth 100000 in
/-- GlacierMail.allToldApart -/
def p2_s1795 : ck_Sum := ((2, 0, 0), 245, [.inr (.inr (.inl 1)), .inl ((-2147483648), 2147483647, [])], ([], [], []), ([], []), [(.inr (some (.inl (ck_one 1))), 245, ([], [], [])), (.inr (some (.inl (ck_one 0))), 245, ([], [], []))])
set_option maxRecDepth 100000 in
theorem p2_s1795_e : ck_ok p2_O none [] [(9, [p2_s1756]), (51, [p2_s1782])] 50 [(2, [some (.inr (.inr (.inl 1))), some (.inl ((-2147483648), 2147483647, [])), some (.inl (0, 6, [])), none], ([], [], []), 100, .inl 2, true), (20, [some (.inr (.inr (.inl 1))), some (.inl ((-2147483648), 2147483647, [])), some (.inl (0, 5, [(100, 0)])), some (.inl (1, 6, []))], ([], [], []), 300, .inl 3, true)] 200 p2_s1795 = true := by decide +kernel
theorem p2_s1795_s {X : Int → Int} {LX : Nat} : ck_Ok p2_O X LX 50 p2_s1795 := ck_ok_s ⟨p2_nmu, ck_E1 (ck_S1 p2_s1756_s ck_S0) (ck_E1 (ck_S1 p2_s1782_s ck_S0) ck_E0)⟩ ck_X0 ck_l0 p2_s1795_e
set_option maxRecDepth 100000 in
/-- java/lang/Integer.bitCount -/
def p2_s1796 : ck_Sum := ((0, 0, 0), 245, [.inl ((-2147483648), 2147483647, [])], ([], [], []), ([], []), [(.inr (some (.inl (0, 63, []))), 245, ([], [], []))])
set_option maxRecDepth 100000 in
theorem p2_s1796_e : ck_ok p2_O none [] [] 49 [] 154 p2_s1796 = true := by decide +kernel
theorem p2_s1796_s {X : Int → Int} {LX : Nat} : ck_Ok p2_O X LX 49 p2_s1796 := ck_ok_s ⟨p2_nmu, ck_E0⟩ ck_X0 ck_l0 p2_s1796_e
set_option maxRecDepth 100000 in
/-- GlacierMail.poles -/
def p2_s1797 : ck_Sum := ((3, 0, 0), 245, [.inr (.inr (.inl 1))], ([], [], []), ([], []), [(.inr (some (.inl ((-1), 2147483646, []))), 245, ([], [], []))])
set_option maxRecDepth 100000 in
theorem p2_s1797_e : ck_ok p2_O none [] [(50, [p2_s1795]), (49, [p2_s1796])] 48 [(4, [some (.inr (.inr (.inl 1))), some (.inl ((-1), 2147483646, [])), some (.inl (0, 2147483647, [])), none], ([], [], []), 100, .inl 2, true)] 206 p2_s1797 = true := by decide +kernel
theorem p2_s1797_s {X : Int → Int} {LX : Nat} : ck_Ok p2_O X LX 48 p2_s1797 := ck_ok_s ⟨p2_nmu, ck_E1 (ck_S1 p2_s1795_s ck_S0) (ck_E1 (ck_S1 p2_s1796_s ck_S0) ck_E0)⟩ ck_X0 ck_l0 p2_s1797_e
set_option maxRecDepth 100000 in
/-- GlacierMailModel.poles -/
def p2_s1798 : ck_Sum := ((2, 0, 0), 245, [.inr (.inr (.inl 226))], ([], [], [(227, 6, 6, (0, 6, [(24, 0)]))]), ([(226, 0, 0)], []), [(.inr (some (.inl ((-1), 2147483646, []))), 245, ([], [], [(226, 0, 0, ck_one 0)]))])
set_option maxRecDepth 100000 in
theorem p2_s1798_e : ck_ok p2_O none [] [(261, [p2_s184]), (49, [p2_s1796]), (345, [p2_s1793])] 347 [(9, [some (.inr (.inr (.inl 226))), some (.inl ((-1), 2147483646, [])), some (.inl (0, 2147483647, [])), none, none, none], ([], [], [(226, 0, 0, ck_one 0), (227, 6, 6, (0, 6, [(24, 0)]))]), 100, .inl 2, true), (43, [some (.inr (.inr (.inl 226))), some (.inl ((-1), 2147483646, [])), some (.inl (0, 2147483646, [(100, 0)])), some (.inl (0, 1, [])), some (.inl (0, 6, [])), none], ([], [], [(226, 0, 0, ck_one 0), (227, 6, 6, (0, 6, [(24, 0)]))]), 300, .inl 4, true), (58, [some (.inr (.inr (.inl 226))), some (.inl ((-1), 2147483646, [])), some (.inl (0, 2147483646, [(100, 0)])), some (.inl (0, 1, [])), some (.inl (0, 5, [(300, 0)])), some (.inl (0, 5, []))], ([], [], [(227, 6, 6, (1, 6, [(24, 0)])), (226, 0, 0, ck_one 0)]), 500, .inl 5, true)] 282 p2_s1798 = true := by decide +kernel
theorem p2_s1798_s {X : Int → Int} {LX : Nat} : ck_Ok p2_O X LX 347 p2_s1798 := ck_ok_s ⟨p2_nmu, ck_E1 (ck_S1 p2_s184_s ck_S0) (ck_E1 (ck_S1 p2_s1796_s ck_S0) (ck_E1 (ck_S1 p2_s1793_s ck_S0) ck_E0))⟩ ck_X0 ck_l0 p2_s1798_e
set_option maxRecDepth 100000 in
/-- GlacierMail.areReadings -/
def p2_s1799 : ck_Sum := ((0, 0, 0), 245, [.inr (.inr (.inl 1)), .inl (0, 400, [])], ([], [], []), ([], []), [(.inr (some (.inl (ck_one 0))), 245, ([], [], [])), (.inr (some (.inl (ck_one 1))), 245, ([], [], []))])
set_option maxRecDepth 100000 in
theorem p2_s1799_e : ck_ok p2_O none [] [] 198 [(10, [some (.inr (.inr (.inl 1))), some (.inl (0, 400, [])), some (.inl (0, 400, [])), none, none], ([], [], []), 100, .inl 2, true)] 302 p2_s1799 = true := by decide +kernel
theorem p2_s1799_s {X : Int → Int} {LX : Nat} : ck_Ok p2_O X LX 198 p2_s1799 := ck_ok_s ⟨p2_nmu, ck_E0⟩ ck_X0 ck_l0 p2_s1799_e
set_option maxRecDepth 100000 in
/-- GlacierMail.fitsReadings -/
def p2_s1804 : ck_Sum := ((1, 0, 0), 245, [.inr (.inr (.inl 1)), .inl (0, 5, []), .inl (0, 400, [])], ([], [], []), ([], []), [(.inr (some (.inl (ck_one 1))), 245, ([], [], [])), (.inr (some (.inl (ck_one 0))), 245, ([], [], []))])
set_option maxRecDepth 100000 in
theorem p2_s1804_e : ck_ok p2_O none [] [(10, [p2_s1767])] 199 [(2, [some (.inr (.inr (.inl 1))), some (.inl (0, 5, [])), some (.inl (0, 400, [])), some (.inl (0, 400, []))], ([], [], []), 100, .inl 3, true)] 214 p2_s1804 = true := by decide +kernel
theorem p2_s1804_s {X : Int → Int} {LX : Nat} : ck_Ok p2_O X LX 199 p2_s1804 := ck_ok_s ⟨p2_nmu, ck_E1 (ck_S1 p2_s1767_s ck_S0) ck_E0⟩ ck_X0 ck_l0 p2_s1804_e
set_option maxRecDepth 100000 in
/-- GlacierMail.fit -/
def p2_s1805 : ck_Sum := ((6, 1, 6), 245, [.inr (.inr (.inl 1))], ([], [], [(1, 1, 1, (0, 400, [(6, 0)]))]), ([(1, 1, 1)], []), [(.inl 0, 245, ([], [], [(1, 1, 1, ck_one 0)])), (.inr (some (.inl ((-2147483648), 2147483647, []))), 245, ([], [], [(1, 1, 1, ck_one 0)]))])
set_option maxRecDepth 100000 in
theorem p2_s1805_e : ck_ok p2_O none [] [(198, [p2_s1799]), (9, [p2_s1756]), (199, [p2_s1804])] 197 [(33, [some (.inr (.inr (.inl 1))), some (.inl (0, 400, [(6, 0)])), some (.inl ((-2147483648), 2147483647, [])), some (.inl (0, 6, []))], ([], [], [(1, 1, 1, ck_one 0)]), 100, .inl 3, true)] 170 p2_s1805 = true := by decide +kernel
theorem p2_s1805_s {X : Int → Int} {LX : Nat} : ck_Ok p2_O X LX 197 p2_s1805 := ck_ok_s ⟨p2_nmu, ck_E1 (ck_S1 p2_s1799_s ck_S0) (ck_E1 (ck_S1 p2_s1756_s ck_S0) (ck_E1 (ck_S1 p2_s1804_s ck_S0) ck_E0))⟩ ck_X0 ck_l0 p2_s1805_e
set_option maxRecDepth 100000 in
/-- GlacierMailModel.in -/
def p2_s1806 : ck_Sum := ((0, 0, 0), 245, [.inl ((-128), 127, []), .inl (ck_one 0), .inl ((-1), 5, [])], ([], [], []), ([], []), [(.inr (some (.inl (ck_one 0))), 245, ([], [], [])), (.inr (some (.inl (ck_one 1))), 245, ([], [], []))])
set_option maxRecDepth 100000 in
theorem p2_s1806_e : ck_ok p2_O none [] [] 286 [] 88 p2_s1806 = true := by decide +kernel
theorem p2_s1806_s {X : Int → Int} {LX : Nat} : ck_Ok p2_O X LX 286 p2_s1806 := ck_ok_s ⟨p2_nmu, ck_E0⟩ ck_X0 ck_l0 p2_s1806_e
set_option maxRecDepth 100000 in
/-- GlacierMailModel.noLane -/
def p2_s1807 : ck_Sum := ((1, 0, 0), 245, [.inr (.inr (.inl 226)), .inl ((-128), 127, [])], ([], [], []), ([], []), [(.inr (some (.inl (ck_one 1))), 245, ([], [], [])), (.inr (some (.inl (ck_one 0))), 245, ([], [], []))])
set_option maxRecDepth 100000 in
theorem p2_s1807_e : ck_ok p2_O none [] [(261, [p2_s184]), (286, [p2_s1806])] 288 [] 92 p2_s1807 = true := by decide +kernel
theorem p2_s1807_s {X : Int → Int} {LX : Nat} : ck_Ok p2_O X LX 288 p2_s1807 := ck_ok_s ⟨p2_nmu, ck_E1 (ck_S1 p2_s184_s ck_S0) (ck_E1 (ck_S1 p2_s1806_s ck_S0) ck_E0)⟩ ck_X0 ck_l0 p2_s1807_e
set_option maxRecDepth 100000 in
/-- GlacierMailModel.in -/
def p2_s1808 : ck_Sum := ((0, 0, 0), 245, [.inl ((-128), 127, []), .inl (ck_one 0), .inl (ck_one 20)], ([], [], []), ([], []), [(.inr (some (.inl (ck_one 0))), 245, ([], [], [])), (.inr (some (.inl (ck_one 1))), 245, ([], [], []))])
set_option maxRecDepth 100000 in
theorem p2_s1808_e : ck_ok p2_O none [] [] 286 [] 88 p2_s1808 = true := by decide +kernel
theorem p2_s1808_s {X : Int → Int} {LX : Nat} : ck_Ok p2_O X LX 286 p2_s1808 := ck_ok_s ⟨p2_nmu, ck_E0⟩ ck_X0 ck_l0 p2_s1808_e
set_option maxRecDepth 100000 in
/-- GlacierMailModel.ofTable -/
def p2_s1814 : ck_Sum := ((0, 0, 0), 245, [.inr (.inr (.inl 226)), .inl (0, 5, []), .inl ((-128), 127, [])], ([], [], []), ([], []), [(.inr (some (.inl ((-1), 999, []))), 245, ([], [], []))])
set_option maxRecDepth 100000 in
theorem p2_s1814_e : ck_ok p2_O none [] [] 343 [] 92 p2_s1814 = true := by decide +kernel
theorem p2_s1814_s {X : Int → Int} {LX : Nat} : ck_Ok p2_O X LX 343 p2_s1814 := ck_ok_s ⟨p2_nmu, ck_E0⟩ ck_X0 ck_l0 p2_s1814_e
set_option maxRecDepth 100000 in
/-- GlacierMail.soonest -/
def p2_s1816 : ck_Sum := ((8, 1, 6), 245, [.inr (.inr (.inl 1)), .inl ((-2147483648), (-1), []), .inl ((-2147483648), 2147483647, []), .inl (0, 1, [])], ([], [], []), ([], []), [(.inl 3, 245, ([], [], []))])
set_option maxRecDepth 100000 in
theorem p2_s1816_e : ck_ok p2_O none [] [(139, [p2_s362])] 201 [] 76 p2_s1816 = true := by decide +kernel
theorem p2_s1816_s {X : Int → Int} {LX : Nat} : ck_Ok p2_O X LX 201 p2_s1816 := ck_ok_s ⟨p2_nmu, ck_E1 (ck_S1 p2_s362_s ck_S0) ck_E0⟩ ck_X0 ck_l0 p2_s1816_e
set_option maxRecDepth 100000 in
/-- GlacierMail.soonest -/
def p2_s1817 : ck_Sum := ((8, 1, 6), 245, [.inr (.inr (.inl 1)), .inl (8, 2147483647, []), .inl ((-2147483648), 2147483647, []), .inl (0, 1, [])], ([], [], []), ([], []), [(.inl 3, 245, ([], [], []))])
set_option maxRecDepth 100000 in
theorem p2_s1817_e : ck_ok p2_O none [] [(139, [p2_s365])] 201 [] 76 p2_s1817 = true := by decide +kernel
theorem p2_s1817_s {X : Int → Int} {LX : Nat} : ck_Ok p2_O X LX 201 p2_s1817 := ck_ok_s ⟨p2_nmu, ck_E1 (ck_S1 p2_s365_s ck_S0) ck_E0⟩ ck_X0 ck_l0 p2_s1817_e
set_option maxRecDepth 100000 in
/-- GlacierMail.soonest -/
def p2_s1818 : ck_Sum := ((8, 2, 12), 245, [.inr (.inr (.inl 1)), .inl (0, 7, []), .inl ((-2147483648), (-1), []), .inl (0, 1, [])], ([], [], []), ([], []), [(.inl 3, 245, ([], [], []))])
set_option maxRecDepth 100000 in
theorem p2_s1818_e : ck_ok p2_O none [] [(139, [p2_s368, p2_s362])] 201 [] 82 p2_s1818 = true := by decide +kernel
theorem p2_s1818_s {X : Int → Int} {LX : Nat} : ck_Ok p2_O X LX 201 p2_s1818 := ck_ok_s ⟨p2_nmu, ck_E1 (ck_S1 p2_s368_s (ck_S1 p2_s362_s ck_S0)) ck_E0⟩ ck_X0 ck_l0 p2_s1818_e
set_option maxRecDepth 100000 in
/-- GlacierMail.soonest -/
def p2_s1819 : ck_Sum := ((8, 2, 12), 245, [.inr (.inr (.inl 1)), .inl (0, 7, []), .inl (8, 2147483647, []), .inl (0, 1, [])], ([], [], []), ([], []), [(.inl 3, 245, ([], [], []))])
set_option maxRecDepth 100000 in
theorem p2_s1819_e : ck_ok p2_O none [] [(139, [p2_s368, p2_s365])] 201 [] 82 p2_s1819 = true := by decide +kernel
theorem p2_s1819_s {X : Int → Int} {LX : Nat} : ck_Ok p2_O X LX 201 p2_s1819 := ck_ok_s ⟨p2_nmu, ck_E1 (ck_S1 p2_s368_s (ck_S1 p2_s365_s ck_S0)) ck_E0⟩ ck_X0 ck_l0 p2_s1819_e
set_option maxRecDepth 100000 in
/-- java/util/Arrays.fill -/
def p2_s1820 : ck_Sum := ((0, 0, 0), 245, [.inr (.inr (.inl 210)), .inl (ck_one 0)], ([], [], []), ([(210, 0, 2399)], []), [(.inr none, 245, ([], [], []))])
set_option maxRecDepth 100000 in
theorem p2_s1820_e : ck_ok p2_O none [] [] 8 [(5, [some (.inr (.inr (.inl 210))), some (.inl (ck_one 0)), some (.inl (0, 2400, [])), some (.inl (ck_one 2400))], ([], [], []), 100, .inl 2, true)] 130 p2_s1820 = true := by decide +kernel
theorem p2_s1820_s {X : Int → Int} {LX : Nat} : ck_Ok p2_O X LX 8 p2_s1820 := ck_ok_s ⟨p2_nmu, ck_E0⟩ ck_X0 ck_l0 p2_s1820_e
set_option maxRecDepth 100000 in
/-- GlacierMail$Rows.reset -/
def p2_s1821 : ck_Sum := ((1, 0, 0), 245, [.inr (.inr (.inl 209)), .inl (0, 8, [])], ([], [], []), ([(209, 3, 3), (210, 0, 2399)], []), [(.inr none, 245, ([], [], []))])
set_option maxRecDepth 100000 in
theorem p2_s1821_e : ck_ok p2_O none [] [(8, [p2_s1820])] 25 [] 96 p2_s1821 = true := by decide +kernel
theorem p2_s1821_s {X : Int → Int} {LX : Nat} : ck_Ok p2_O X LX 25 p2_s1821 := ck_ok_s ⟨p2_nmu, ck_E1 (ck_S1 p2_s1820_s ck_S0) ck_E0⟩ ck_X0 ck_l0 p2_s1821_e
set_option maxRecDepth 100000 in
/-- java/util/Arrays.fill -/
def p2_s1822 : ck_Sum := ((0, 0, 0), 245, [.inr (.inr (.inl 212)), .inl (ck_one 0)], ([], [], []), ([(212, 0, 2399)], []), [(.inr none, 245, ([], [], []))])
set_option maxRecDepth 100000 in
theorem p2_s1822_e : ck_ok p2_O none [] [] 8 [(5, [some (.inr (.inr (.inl 212))), some (.inl (ck_one 0)), some (.inl (0, 2400, [])), some (.inl (ck_one 2400))], ([], [], []), 100, .inl 2, true)] 130 p2_s1822 = true := by decide +kernel
theorem p2_s1822_s {X : Int → Int} {LX : Nat} : ck_Ok p2_O X LX 8 p2_s1822 := ck_ok_s ⟨p2_nmu, ck_E0⟩ ck_X0 ck_l0 p2_s1822_e
set_option maxRecDepth 100000 in
/-- GlacierMail$Rows.reset -/
def p2_s1823 : ck_Sum := ((1, 0, 0), 245, [.inr (.inr (.inl 211)), .inl (0, 8, [])], ([], [], []), ([(211, 3, 3), (212, 0, 2399)], []), [(.inr none, 245, ([], [], []))])
set_option maxRecDepth 100000 in
theorem p2_s1823_e : ck_ok p2_O none [] [(8, [p2_s1822])] 25 [] 96 p2_s1823 = true := by decide +kernel
theorem p2_s1823_s {X : Int → Int} {LX : Nat} : ck_Ok p2_O X LX 25 p2_s1823 := ck_ok_s ⟨p2_nmu, ck_E1 (ck_S1 p2_s1822_s ck_S0) ck_E0⟩ ck_X0 ck_l0 p2_s1823_e
set_option maxRecDepth 100000 in
/-- GlacierMail$Rows.get -/
def p2_s1825 : ck_Sum := ((0, 0, 0), 245, [.inr (.inr (.inl 209)), .inl ((-2147483648), 2147483647, []), .inl ((-2147483648), 2147483647, [])], ([], [], []), ([], []), [(.inr (some (.inl ((-2147483648), 2147483647, []))), 245, ([], [], []))])
set_option maxRecDepth 100000 in
theorem p2_s1825_e : ck_ok p2_O none [] [] 10 [] 114 p2_s1825 = true := by decide +kernel
theorem p2_s1825_s {X : Int → Int} {LX : Nat} : ck_Ok p2_O X LX 10 p2_s1825 := ck_ok_s ⟨p2_nmu, ck_E0⟩ ck_X0 ck_l0 p2_s1825_e
set_option maxRecDepth 100000 in
/-- GlacierMail$Rows.put -/
def p2_s1824 : ck_Sum := ((0, 0, 0), 245, [.inr (.inr (.inl 211)), .inl (0, 7, []), .inl (0, 299, []), .inl ((-2147483648), 299, [])], ([], [], []), ([(212, 0, 2399)], []), [(.inr none, 245, ([], [], []))])
set_option maxRecDepth 100000 in
theorem p2_s1824_e : ck_ok p2_O none [] [] 45 [] 116 p2_s1824 = true := by decide +kernel
theorem p2_s1824_s {X : Int → Int} {LX : Nat} : ck_Ok p2_O X LX 45 p2_s1824 := ck_ok_s ⟨p2_nmu, ck_E0⟩ ck_X0 ck_l0 p2_s1824_e
set_option maxRecDepth 100000 in
/-- GlacierMail$Rows.put -/
def p2_s1833 : ck_Sum := ((0, 0, 0), 245, [.inr (.inr (.inl 209)), .inl (0, 7, []), .inl ((-2147483648), 299, []), .inl (ck_one 1)], ([], [], []), ([(210, 0, 2399)], []), [(.inr none, 245, ([], [], []))])
set_option maxRecDepth 100000 in
theorem p2_s1833_e : ck_ok p2_O none [] [] 45 [] 116 p2_s1833 = true := by decide +kernel
theorem p2_s1833_s {X : Int → Int} {LX : Nat} : ck_Ok p2_O X LX 45 p2_s1833 := ck_ok_s ⟨p2_nmu, ck_E0⟩ ck_X0 ck_l0 p2_s1833_e
set_option maxRecDepth 100000 in
/-- GlacierMail$Answers.throwAgain -/
def p2_s1834 : ck_Sum := ((4, 0, 0), 245, [.inr (.inr (.inl 208)), .inl (0, 7, []), .inl (0, 299, []), .inl (ck_one 1), .inl (ck_one 299)], ([], [(3, 8, 0)], []), ([(206, 2, 8), (210, 0, 2399), (212, 0, 2399)], []), [(.inr none, 245, ([], [], [(206, 4, 4, ck_one (-1))]))])
set_option maxRecDepth 100000 in
theorem p2_s1834_e : ck_ok p2_O none [] [(10, [p2_s450, p2_s1825]), (170, [p2_s1549]), (30, [p2_s386]), (45, [p2_s1824, p2_s1833]), (9, [p2_s360])] 203 [(59, [some (.inr (.inr (.inl 208))), some (.inl (0, 7, [])), some (.inl (0, 299, [])), some (.inl (ck_one 1)), some (.inl (ck_one 299)), some (.inr (.inr (.inl 8))), some (.inl ((-1), 98, [])), some (.inl ((-2147483648), 299, [])), some (.inl (0, 8, [])), none], ([], [(3, 8, 0)], [(206, 4, 4, ck_one (-1))]), 100, .inl 8, true)] 214 p2_s1834 = true := by decide +kernel
theorem p2_s1834_s {X : Int → Int} {LX : Nat} : ck_Ok p2_O X LX 203 p2_s1834 := ck_ok_s ⟨p2_nmu, ck_E1 (ck_S1 p2_s450_s (ck_S1 p2_s1825_s ck_S0)) (ck_E1 (ck_S1 p2_s1549_s ck_S0) (ck_E1 (ck_S1 p2_s386_s ck_S0) (ck_E1 (ck_S1 p2_s1824_s (ck_S1 p2_s1833_s ck_S0)) (ck_E1 (ck_S1 p2_s360_s ck_S0) ck_E0))))⟩ ck_X0 ck_l0 p2_s1834_e
set_option maxRecDepth 100000 in
/-- GlacierMail$Rows.put -/
def p2_s1855 : ck_Sum := ((0, 0, 0), 245, [.inr (.inr (.inl 211)), .inl (0, 7, []), .inl (2, 299, []), .inl ((-2147483648), 299, [])], ([], [], []), ([(212, 2, 299), (212, 302, 599), (212, 602, 899), (212, 902, 1199), (212, 1202, 1499), (212, 1502, 1799), (212, 1802, 2099), (212, 2102, 2399)], []), [(.inr none, 245, ([], [], []))])
set_option maxRecDepth 100000 in
theorem p2_s1855_e : ck_ok p2_O none [] [] 45 [] 116 p2_s1855 = true := by decide +kernel
theorem p2_s1855_s {X : Int → Int} {LX : Nat} : ck_Ok p2_O X LX 45 p2_s1855 := ck_ok_s ⟨p2_nmu, ck_E0⟩ ck_X0 ck_l0 p2_s1855_e
set_option maxRecDepth 100000 in
/-- GlacierMail$Rows.put -/
def p2_s1843 : ck_Sum := ((0, 0, 0), 245, [.inr (.inr (.inl 209)), .inl (0, 7, []), .inl ((-2147483648), 299, []), .inl ((-2147483648), 2147483647, [])], ([], [], []), ([(210, 0, 2399)], []), [(.inr none, 245, ([], [], []))])
set_option maxRecDepth 100000 in
theorem p2_s1843_e : ck_ok p2_O none [] [] 45 [] 116 p2_s1843 = true := by decide +kernel
theorem p2_s1843_s {X : Int → Int} {LX : Nat} : ck_Ok p2_O X LX 45 p2_s1843 := ck_ok_s ⟨p2_nmu, ck_E0⟩ ck_X0 ck_l0 p2_s1843_e
set_option maxRecDepth 100000 in
/-- GlacierMail$Answers.throwAgain -/
def p2_s1856 : ck_Sum := ((4, 0, 0), 245, [.inr (.inr (.inl 208)), .inl (0, 7, []), .inl (2, 299, []), .inl ((-2147483648), 2147483647, []), .inl (ck_one 299)], ([], [(3, 8, 0)], []), ([(206, 2, 8), (210, 0, 2399), (212, 2, 299), (212, 302, 599), (212, 602, 899), (212, 902, 1199), (212, 1202, 1499), (212, 1502, 1799), (212, 1802, 2099), (212, 2102, 2399)], []), [(.inr none, 245, ([], [], [(206, 4, 4, ck_one (-1))]))])
set_option maxRecDepth 100000 in
theorem p2_s1856_e : ck_ok p2_O none [] [(10, [p2_s450, p2_s1825]), (170, [p2_s1549]), (30, [p2_s386]), (45, [p2_s1855, p2_s1843]), (9, [p2_s360])] 203 [(59, [some (.inr (.inr (.inl 208))), some (.inl (0, 7, [])), some (.inl (2, 299, [])), some (.inl ((-2147483648), 2147483647, [])), some (.inl (ck_one 299)), some (.inr (.inr (.inl 8))), some (.inl ((-1), 98, [])), some (.inl ((-2147483648), 299, [])), some (.inl (0, 8, [])), none], ([], [(3, 8, 0)], [(206, 4, 4, ck_one (-1))]), 100, .inl 8, true)] 214 p2_s1856 = true := by decide +kernel
theorem p2_s1856_s {X : Int → Int} {LX : Nat} : ck_Ok p2_O X LX 203 p2_s1856 := ck_ok_s ⟨p2_nmu, ck_E1 (ck_S1 p2_s450_s (ck_S1 p2_s1825_s ck_S0)) (ck_E1 (ck_S1 p2_s1549_s ck_S0) (ck_E1 (ck_S1 p2_s386_s ck_S0) (ck_E1 (ck_S1 p2_s1855_s (ck_S1 p2_s1843_s ck_S0)) (ck_E1 (ck_S1 p2_s360_s ck_S0) ck_E0))))⟩ ck_X0 ck_l0 p2_s1856_e
set_option maxRecDepth 100000 in
/-- GlacierMail$Answers.spread -/
def p2_s1857 : ck_Sum := ((5, 0, 0), 245, [.inr (.inr (.inl 208)), .inl (0, 7, []), .inl (0, 7, []), .inl (ck_one 299)], ([], [(3, 8, 0)], [(3, 6, 6, (0, 299, [(10, 0)]))]), ([(206, 2, 8), (209, 3, 3), (210, 0, 2399), (211, 3, 3), (212, 0, 2399)], []), [(.inr none, 245, ([], [], [(206, 4, 4, ck_one (-1))]))])
set_option maxRecDepth 100000 in
theorem p2_s1857_e : ck_ok p2_O none [] [(9, [p2_s360]), (25, [p2_s1821, p2_s1823]), (203, [p2_s1834, p2_s1856]), (10, [p2_s1825])] 202 [(59, [some (.inr (.inr (.inl 208))), some (.inl (0, 7, [])), some (.inl (0, 7, [])), some (.inl (ck_one 299)), some (.inl (1, 300, [(1000010, 1)])), none, none], ([], [(3, 8, 0)], [(206, 4, 4, ck_one (-1)), (3, 6, 6, (0, 299, [(10, 0)]))]), 100, .inl 4, true), (82, [some (.inr (.inr (.inl 208))), some (.inl (0, 7, [])), some (.inl (0, 7, [])), some (.inl (ck_one 299)), some (.inl (1, 298, [(100, 0), (1000010, 1)])), some (.inl (0, 8, [])), none], ([], [(3, 8, 0)], [(206, 4, 4, ck_one (-1)), (3, 6, 6, (0, 299, [(10, 0)]))]), 300, .inl 5, true)] 284 p2_s1857 = true := by decide +kernel
theorem p2_s1857_s {X : Int → Int} {LX : Nat} : ck_Ok p2_O X LX 202 p2_s1857 := ck_ok_s ⟨p2_nmu, ck_E1 (ck_S1 p2_s360_s ck_S0) (ck_E1 (ck_S1 p2_s1821_s (ck_S1 p2_s1823_s ck_S0)) (ck_E1 (ck_S1 p2_s1834_s (ck_S1 p2_s1856_s ck_S0)) (ck_E1 (ck_S1 p2_s1825_s ck_S0) ck_E0)))⟩ ck_X0 ck_l0 p2_s1857_e
set_option maxRecDepth 100000 in
/-- GlacierMail$Answers.firstYear -/
def p2_s1858 : ck_Sum := ((1, 0, 0), 245, [.inr (.inr (.inl 208)), .inl (0, 7, [])], ([], [], []), ([], []), [(.inr (some (.inl (ck_one (-1)))), 245, ([], [], [])), (.inr (some (.inl (0, 299, []))), 245, ([], [], []))])
set_option maxRecDepth 100000 in
theorem p2_s1858_e : ck_ok p2_O none [] [(10, [p2_s1825])] 204 [(2, [some (.inr (.inr (.inl 208))), some (.inl (0, 7, [])), some (.inl (0, 300, []))], ([], [], []), 100, .inl 2, true)] 138 p2_s1858 = true := by decide +kernel
theorem p2_s1858_s {X : Int → Int} {LX : Nat} : ck_Ok p2_O X LX 204 p2_s1858 := ck_ok_s ⟨p2_nmu, ck_E1 (ck_S1 p2_s1825_s ck_S0) ck_E0⟩ ck_X0 ck_l0 p2_s1858_e
set_option maxRecDepth 100000 in
/-- GlacierMail$Answers.fewestThrows -/
def p2_s1859 : ck_Sum := ((1, 0, 0), 245, [.inr (.inr (.inl 208)), .inl (0, 7, []), .inl (0, 299, [])], ([], [], []), ([], []), [(.inr (some (.inl ((-2147483648), 2147483647, []))), 245, ([], [], []))])
set_option maxRecDepth 100000 in
theorem p2_s1859_e : ck_ok p2_O none [] [(10, [p2_s1825])] 205 [] 82 p2_s1859 = true := by decide +kernel
theorem p2_s1859_s {X : Int → Int} {LX : Nat} : ck_Ok p2_O X LX 205 p2_s1859 := ck_ok_s ⟨p2_nmu, ck_E1 (ck_S1 p2_s1825_s ck_S0) ck_E0⟩ ck_X0 ck_l0 p2_s1859_e
set_option maxRecDepth 100000 in
/-- GlacierMail.soonest -/
def p2_s1860 : ck_Sum := ((8, 3, 18), 245, [.inr (.inr (.inl 1)), .inl (0, 7, []), .inl (0, 7, []), .inl (0, 1, [])], ([], [(3, 8, 0)], [(3, 6, 6, (0, 299, [(10, 0)]))]), ([(206, 2, 8), (209, 3, 3), (210, 0, 2399), (211, 3, 3), (212, 0, 2399)], []), [(.inl 3, 245, ([], [], [])), (.inl 0, 245, ([], [], [])), (.inr (some (.inl ((-2147483648), 2147483647, []))), 245, ([], [], [(206, 4, 4, ck_one (-1))])), (.inr (some (.inl (0, 299, []))), 245, ([], [], [(206, 4, 4, ck_one (-1))]))])
set_option maxRecDepth 100000 in
theorem p2_s1860_e : ck_ok p2_O none [] [(139, [p2_s368]), (153, [p2_s580]), (202, [p2_s1857]), (204, [p2_s1858]), (205, [p2_s1859])] 201 [] 136 p2_s1860 = true := by decide +kernel
theorem p2_s1860_s {X : Int → Int} {LX : Nat} : ck_Ok p2_O X LX 201 p2_s1860 := ck_ok_s ⟨p2_nmu, ck_E1 (ck_S1 p2_s368_s ck_S0) (ck_E1 (ck_S1 p2_s580_s ck_S0) (ck_E1 (ck_S1 p2_s1857_s ck_S0) (ck_E1 (ck_S1 p2_s1858_s ck_S0) (ck_E1 (ck_S1 p2_s1859_s ck_S0) ck_E0))))⟩ ck_X0 ck_l0 p2_s1860_e
set_option maxRecDepth 100000 in
/-- GlacierMailModel.soonest -/
def p2_s1861 : ck_Sum := ((2, 0, 0), 245, [.inr (.inr (.inl 226)), .inl ((-2147483648), (-1), []), .inl ((-2147483648), 2147483647, []), .inl (0, 1, [])], ([], [], [(227, 3, 3, (0, 8, [(21, 0)]))]), ([(226, 0, 0)], []), [(.inr (some (.inl (ck_one 0))), 245, ([], [], [(226, 0, 0, ck_one 1)]))])
set_option maxRecDepth 100000 in
theorem p2_s1861_e : ck_ok p2_O none [] [(298, [p2_s453]), (282, [p2_s268])] 349 [] 100 p2_s1861 = true := by decide +kernel
theorem p2_s1861_s {X : Int → Int} {LX : Nat} : ck_Ok p2_O X LX 349 p2_s1861 := ck_ok_s ⟨p2_nmu, ck_E1 (ck_S1 p2_s453_s ck_S0) (ck_E1 (ck_S1 p2_s268_s ck_S0) ck_E0)⟩ ck_X0 ck_l0 p2_s1861_e
set_option maxRecDepth 100000 in
/-- GlacierMailModel.soonest -/
def p2_s1862 : ck_Sum := ((2, 0, 0), 245, [.inr (.inr (.inl 226)), .inl (8, 2147483647, []), .inl ((-2147483648), 2147483647, []), .inl (0, 1, [])], ([], [], [(227, 3, 3, (0, 8, [(21, 0)]))]), ([(226, 0, 0)], []), [(.inr (some (.inl (ck_one 0))), 245, ([], [], [(226, 0, 0, ck_one 1)]))])
set_option maxRecDepth 100000 in
theorem p2_s1862_e : ck_ok p2_O none [] [(298, [p2_s456]), (282, [p2_s268])] 349 [] 100 p2_s1862 = true := by decide +kernel
theorem p2_s1862_s {X : Int → Int} {LX : Nat} : ck_Ok p2_O X LX 349 p2_s1862 := ck_ok_s ⟨p2_nmu, ck_E1 (ck_S1 p2_s456_s ck_S0) (ck_E1 (ck_S1 p2_s268_s ck_S0) ck_E0)⟩ ck_X0 ck_l0 p2_s1862_e
set_option maxRecDepth 100000 in
/-- GlacierMailModel.soonest -/
def p2_s1863 : ck_Sum := ((2, 0, 0), 245, [.inr (.inr (.inl 226)), .inl (0, 7, []), .inl ((-2147483648), (-1), []), .inl (0, 1, [])], ([], [], [(227, 3, 3, (0, 8, [(21, 0)]))]), ([(226, 0, 0)], []), [(.inr (some (.inl (ck_one 0))), 245, ([], [], [(226, 0, 0, ck_one 1)]))])
set_option maxRecDepth 100000 in
theorem p2_s1863_e : ck_ok p2_O none [] [(298, [p2_s459, p2_s453]), (282, [p2_s268])] 349 [] 108 p2_s1863 = true := by decide +kernel
theorem p2_s1863_s {X : Int → Int} {LX : Nat} : ck_Ok p2_O X LX 349 p2_s1863 := ck_ok_s ⟨p2_nmu, ck_E1 (ck_S1 p2_s459_s (ck_S1 p2_s453_s ck_S0)) (ck_E1 (ck_S1 p2_s268_s ck_S0) ck_E0)⟩ ck_X0 ck_l0 p2_s1863_e
set_option maxRecDepth 100000 in
/-- GlacierMailModel.soonest -/
def p2_s1864 : ck_Sum := ((2, 0, 0), 245, [.inr (.inr (.inl 226)), .inl (0, 7, []), .inl (8, 2147483647, []), .inl (0, 1, [])], ([], [], [(227, 3, 3, (0, 8, [(21, 0)]))]), ([(226, 0, 0)], []), [(.inr (some (.inl (ck_one 0))), 245, ([], [], [(226, 0, 0, ck_one 1)]))])
set_option maxRecDepth 100000 in
theorem p2_s1864_e : ck_ok p2_O none [] [(298, [p2_s459, p2_s456]), (282, [p2_s268])] 349 [] 108 p2_s1864 = true := by decide +kernel
theorem p2_s1864_s {X : Int → Int} {LX : Nat} : ck_Ok p2_O X LX 349 p2_s1864 := ck_ok_s ⟨p2_nmu, ck_E1 (ck_S1 p2_s459_s (ck_S1 p2_s456_s ck_S0)) (ck_E1 (ck_S1 p2_s268_s ck_S0) ck_E0)⟩ ck_X0 ck_l0 p2_s1864_e
set_option maxRecDepth 100000 in
/-- GlacierMailModel.at -/
def p2_s1865 : ck_Sum := ((0, 0, 0), 245, [.inl (0, 7, []), .inl (0, 300, [])], ([], [], []), ([], []), [(.inr (some (.inl (0, 2407, []))), 245, ([], [], []))])
set_option maxRecDepth 100000 in
theorem p2_s1865_e : ck_ok p2_O none [] [] 351 [] 82 p2_s1865 = true := by decide +kernel
theorem p2_s1865_s {X : Int → Int} {LX : Nat} : ck_Ok p2_O X LX 351 p2_s1865 := ck_ok_s ⟨p2_nmu, ck_E0⟩ ck_X0 ck_l0 p2_s1865_e
set_option maxRecDepth 100000 in
/-- GlacierMailModel.isWatching -/
def p2_s1866 : ck_Sum := ((1, 0, 0), 245, [.inr (.inr (.inl 226)), .inl (0, 7, []), .inl (0, 7, [])], ([], [], []), ([], []), [(.inr (some (.inl (ck_one 0))), 245, ([], [], [])), (.inr (some (.inl (ck_one 1))), 245, ([], [], []))])
set_option maxRecDepth 100000 in
theorem p2_s1866_e : ck_ok p2_O none [] [(299, [p2_s710, p2_s691])] 352 [] 94 p2_s1866 = true := by decide +kernel
theorem p2_s1866_s {X : Int → Int} {LX : Nat} : ck_Ok p2_O X LX 352 p2_s1866 := ck_ok_s ⟨p2_nmu, ck_E1 (ck_S1 p2_s710_s (ck_S1 p2_s691_s ck_S0)) ck_E0⟩ ck_X0 ck_l0 p2_s1866_e
set_option maxRecDepth 100000 in
/-- GlacierMailModel.hasIn -/
def p2_s1868 : ck_Sum := ((1, 0, 0), 245, [.inr (.inr (.inl 226)), .inl (0, 7, [])], ([], [], []), ([], []), [(.inr (some (.inl (ck_one (-1)))), 245, ([], [], [])), (.inr (some (.inl (0, 299, []))), 245, ([], [], []))])
set_option maxRecDepth 100000 in
theorem p2_s1868_e : ck_ok p2_O none [] [(351, [p2_s1865])] 353 [(2, [some (.inr (.inr (.inl 226))), some (.inl (0, 7, [])), some (.inl (0, 300, []))], ([], [], []), 100, .inl 2, true)] 146 p2_s1868 = true := by decide +kernel
theorem p2_s1868_s {X : Int → Int} {LX : Nat} : ck_Ok p2_O X LX 353 p2_s1868 := ck_ok_s ⟨p2_nmu, ck_E1 (ck_S1 p2_s1865_s ck_S0) ck_E0⟩ ck_X0 ck_l0 p2_s1868_e
set_option maxRecDepth 100000 in
/-- GlacierMail.chain -/
def p2_s1870 : ck_Sum := ((8, 1, 6), 245, [.inr (.inr (.inl 1)), .inl ((-2147483648), (-1), []), .inl ((-2147483648), 2147483647, []), .inl ((-2147483648), 2147483647, [])], ([], [], []), ([], []), [(.inl 3, 245, ([], [], []))])
set_option maxRecDepth 100000 in
theorem p2_s1870_e : ck_ok p2_O none [] [(139, [p2_s362])] 207 [] 76 p2_s1870 = true := by decide +kernel
theorem p2_s1870_s {X : Int → Int} {LX : Nat} : ck_Ok p2_O X LX 207 p2_s1870 := ck_ok_s ⟨p2_nmu, ck_E1 (ck_S1 p2_s362_s ck_S0) ck_E0⟩ ck_X0 ck_l0 p2_s1870_e
set_option maxRecDepth 100000 in
/-- GlacierMail.chain -/
def p2_s1871 : ck_Sum := ((8, 1, 6), 245, [.inr (.inr (.inl 1)), .inl (8, 2147483647, []), .inl ((-2147483648), 2147483647, []), .inl ((-2147483648), 2147483647, [])], ([], [], []), ([], []), [(.inl 3, 245, ([], [], []))])
set_option maxRecDepth 100000 in
theorem p2_s1871_e : ck_ok p2_O none [] [(139, [p2_s365])] 207 [] 76 p2_s1871 = true := by decide +kernel
theorem p2_s1871_s {X : Int → Int} {LX : Nat} : ck_Ok p2_O X LX 207 p2_s1871 := ck_ok_s ⟨p2_nmu, ck_E1 (ck_S1 p2_s365_s ck_S0) ck_E0⟩ ck_X0 ck_l0 p2_s1871_e
set_option maxRecDepth 100000 in
/-- GlacierMail.chain -/
def p2_s1872 : ck_Sum := ((8, 2, 12), 245, [.inr (.inr (.inl 1)), .inl (0, 7, []), .inl ((-2147483648), (-1), []), .inl ((-2147483648), 2147483647, [])], ([], [], []), ([], []), [(.inl 3, 245, ([], [], []))])
set_option maxRecDepth 100000 in
theorem p2_s1872_e : ck_ok p2_O none [] [(139, [p2_s368, p2_s362])] 207 [] 82 p2_s1872 = true := by decide +kernel
theorem p2_s1872_s {X : Int → Int} {LX : Nat} : ck_Ok p2_O X LX 207 p2_s1872 := ck_ok_s ⟨p2_nmu, ck_E1 (ck_S1 p2_s368_s (ck_S1 p2_s362_s ck_S0)) ck_E0⟩ ck_X0 ck_l0 p2_s1872_e
set_option maxRecDepth 100000 in
/-- GlacierMail.chain -/
def p2_s1873 : ck_Sum := ((8, 2, 12), 245, [.inr (.inr (.inl 1)), .inl (0, 7, []), .inl (8, 2147483647, []), .inl ((-2147483648), 2147483647, [])], ([], [], []), ([], []), [(.inl 3, 245, ([], [], []))])
set_option maxRecDepth 100000 in
theorem p2_s1873_e : ck_ok p2_O none [] [(139, [p2_s368, p2_s365])] 207 [] 82 p2_s1873 = true := by decide +kernel
theorem p2_s1873_s {X : Int → Int} {LX : Nat} : ck_Ok p2_O X LX 207 p2_s1873 := ck_ok_s ⟨p2_nmu, ck_E1 (ck_S1 p2_s368_s (ck_S1 p2_s365_s ck_S0)) ck_E0⟩ ck_X0 ck_l0 p2_s1873_e
set_option maxRecDepth 100000 in
/-- GlacierMail$Rows.get -/
def p2_s1874 : ck_Sum := ((0, 0, 0), 245, [.inr (.inr (.inl 211)), .inl ((-2147483648), 2147483647, []), .inl ((-2147483648), 2147483647, [])], ([], [], []), ([], []), [(.inr (some (.inl ((-2147483648), 299, []))), 245, ([], [], []))])
set_option maxRecDepth 100000 in
theorem p2_s1874_e : ck_ok p2_O none [] [] 10 [] 114 p2_s1874 = true := by decide +kernel
theorem p2_s1874_s {X : Int → Int} {LX : Nat} : ck_Ok p2_O X LX 10 p2_s1874 := ck_ok_s ⟨p2_nmu, ck_E0⟩ ck_X0 ck_l0 p2_s1874_e
set_option maxRecDepth 100000 in
/-- GlacierMail$Answers.throwAhead -/
def p2_s1876 : ck_Sum := ((1, 0, 0), 245, [.inr (.inr (.inl 208)), .inl (0, 2398, []), .inl (0, 299, []), .inl (1, 2147483646, [])], ([], [], [(3, 6, 6, (0, 299, [(10, 0)]))]), ([], []), [(.inr (some (.inl (0, 2398, []))), 245, ([], [], []))])
set_option maxRecDepth 100000 in
theorem p2_s1876_e : ck_ok p2_O none [] [(10, [p2_s450, p2_s1825, p2_s1874]), (9, [p2_s360])] 209 [(17, [some (.inr (.inr (.inl 208))), some (.inl (0, 2398, [])), some (.inl (0, 299, [])), some (.inl (1, 2147483646, [])), some (.inl ((-1), 98, [])), some (.inl (0, 9, [])), none], ([], [], [(3, 6, 6, (0, 299, [(10, 0)]))]), 100, .inl 5, true), (59, [some (.inr (.inr (.inl 208))), some (.inl (0, 2398, [])), some (.inl (0, 299, [])), some (.inl (1, 2147483646, [])), some (.inl ((-1), 98, [])), some (.inl (0, 7, [(100, 0)])), some (.inl (0, 299, [(1000010, 0)]))], ([], [], [(3, 6, 6, (0, 299, [(10, 0)]))]), 300, .inl 6, true)] 260 p2_s1876 = true := by decide +kernel
theorem p2_s1876_s {X : Int → Int} {LX : Nat} : ck_Ok p2_O X LX 209 p2_s1876 := ck_ok_s ⟨p2_nmu, ck_E1 (ck_S1 p2_s450_s (ck_S1 p2_s1825_s (ck_S1 p2_s1874_s ck_S0))) (ck_E1 (ck_S1 p2_s360_s ck_S0) ck_E0)⟩ ck_X0 ck_l0 p2_s1876_e
set_option maxRecDepth 100000 in
/-- GlacierMail$Answers.holder -/
def p2_s1877 : ck_Sum := ((2, 0, 0), 245, [.inr (.inr (.inl 208)), .inl (0, 7, []), .inl (0, 7, []), .inl (ck_one 0)], ([], [], [(3, 6, 6, (0, 299, [(10, 0)]))]), ([], []), [(.inr (some (.inl (ck_one (-1)))), 245, ([], [], [])), (.inr (some (.inl (0, 7, []))), 245, ([], [], []))])
set_option maxRecDepth 100000 in
theorem p2_s1877_e : ck_ok p2_O none [] [(204, [p2_s1858]), (10, [p2_s1825]), (209, [p2_s1876])] 208 [(44, [some (.inr (.inr (.inl 208))), some (.inl (0, 7, [])), some (.inl (0, 7, [])), some (.inl (ck_one 0)), some (.inl (0, 299, [])), some (.inl (0, 2398, [])), some (.inl (0, 2147483647, [])), some (.inl (0, 2147483647, [])), none], ([], [], [(3, 6, 6, (0, 299, [(10, 0)]))]), 100, .inl 7, false)] 190 p2_s1877 = true := by decide +kernel
theorem p2_s1877_s {X : Int → Int} {LX : Nat} : ck_Ok p2_O X LX 208 p2_s1877 := ck_ok_s ⟨p2_nmu, ck_E1 (ck_S1 p2_s1858_s ck_S0) (ck_E1 (ck_S1 p2_s1825_s ck_S0) (ck_E1 (ck_S1 p2_s1876_s ck_S0) ck_E0))⟩ ck_X0 ck_l0 p2_s1877_e
set_option maxRecDepth 100000 in
/-- GlacierMail.chain -/
def p2_s1878 : ck_Sum := ((8, 4, 24), 245, [.inr (.inr (.inl 1)), .inl (0, 7, []), .inl (0, 7, []), .inl ((-2147483648), 0, [])], ([], [(3, 8, 0)], [(3, 6, 6, (0, 299, [(10, 0)]))]), ([(206, 2, 8), (209, 3, 3), (210, 0, 2399), (211, 3, 3), (212, 0, 2399)], []), [(.inl 3, 245, ([], [], [])), (.inl 0, 245, ([], [], [])), (.inr (some (.inl (ck_one (-1)))), 245, ([], [], [(206, 4, 4, ck_one (-1))])), (.inr (some (.inl (0, 7, []))), 245, ([], [], [(206, 4, 4, ck_one (-1))]))])
set_option maxRecDepth 100000 in
theorem p2_s1878_e : ck_ok p2_O none [] [(139, [p2_s368]), (153, [p2_s580]), (202, [p2_s1857]), (208, [p2_s1877])] 207 [] 120 p2_s1878 = true := by decide +kernel
theorem p2_s1878_s {X : Int → Int} {LX : Nat} : ck_Ok p2_O X LX 207 p2_s1878 := ck_ok_s ⟨p2_nmu, ck_E1 (ck_S1 p2_s368_s ck_S0) (ck_E1 (ck_S1 p2_s580_s ck_S0) (ck_E1 (ck_S1 p2_s1857_s ck_S0) (ck_E1 (ck_S1 p2_s1877_s ck_S0) ck_E0)))⟩ ck_X0 ck_l0 p2_s1878_e
set_option maxRecDepth 100000 in
/-- GlacierMail$Answers.throwAhead -/
def p2_s1880 : ck_Sum := ((1, 0, 0), 245, [.inr (.inr (.inl 208)), .inl (0, 2398, []), .inl (0, 299, []), .inl (51, 2147483646, [])], ([], [], [(3, 6, 6, (0, 299, [(10, 0)]))]), ([], []), [(.inr (some (.inl (0, 2398, []))), 245, ([], [], []))])
set_option maxRecDepth 100000 in
theorem p2_s1880_e : ck_ok p2_O none [] [(10, [p2_s450, p2_s1825, p2_s1874]), (9, [p2_s360])] 209 [(17, [some (.inr (.inr (.inl 208))), some (.inl (0, 2398, [])), some (.inl (0, 299, [])), some (.inl (51, 2147483646, [])), some (.inl ((-1), 98, [])), some (.inl (0, 9, [])), none], ([], [], [(3, 6, 6, (0, 299, [(10, 0)]))]), 100, .inl 5, true), (59, [some (.inr (.inr (.inl 208))), some (.inl (0, 2398, [])), some (.inl (0, 299, [])), some (.inl (51, 2147483646, [])), some (.inl ((-1), 98, [])), some (.inl (0, 7, [(100, 0)])), some (.inl (0, 299, [(1000010, 0)]))], ([], [], [(3, 6, 6, (0, 299, [(10, 0)]))]), 300, .inl 6, true)] 260 p2_s1880 = true := by decide +kernel
theorem p2_s1880_s {X : Int → Int} {LX : Nat} : ck_Ok p2_O X LX 209 p2_s1880 := ck_ok_s ⟨p2_nmu, ck_E1 (ck_S1 p2_s450_s (ck_S1 p2_s1825_s (ck_S1 p2_s1874_s ck_S0))) (ck_E1 (ck_S1 p2_s360_s ck_S0) ck_E0)⟩ ck_X0 ck_l0 p2_s1880_e
set_option maxRecDepth 100000 in
/-- GlacierMail$Answers.holder -/
def p2_s1881 : ck_Sum := ((2, 0, 0), 245, [.inr (.inr (.inl 208)), .inl (0, 7, []), .inl (0, 7, []), .inl (51, 2147483647, [])], ([], [], [(3, 6, 6, (0, 299, [(10, 0)]))]), ([], []), [(.inr (some (.inl (ck_one (-1)))), 245, ([], [], [])), (.inr (some (.inl (0, 2398, []))), 245, ([], [], []))])
set_option maxRecDepth 100000 in
theorem p2_s1881_e : ck_ok p2_O none [] [(204, [p2_s1858]), (10, [p2_s1825]), (209, [p2_s1880])] 208 [(44, [some (.inr (.inr (.inl 208))), some (.inl (0, 7, [])), some (.inl (0, 7, [])), some (.inl (51, 2147483647, [])), some (.inl (0, 299, [])), some (.inl (0, 2398, [])), some (.inl (51, 2147483647, [])), some (.inl (51, 2147483647, [])), none], ([], [], [(3, 6, 6, (0, 299, [(10, 0)]))]), 100, .inl 7, false)] 190 p2_s1881 = true := by decide +kernel
theorem p2_s1881_s {X : Int → Int} {LX : Nat} : ck_Ok p2_O X LX 208 p2_s1881 := ck_ok_s ⟨p2_nmu, ck_E1 (ck_S1 p2_s1858_s ck_S0) (ck_E1 (ck_S1 p2_s1825_s ck_S0) (ck_E1 (ck_S1 p2_s1880_s ck_S0) ck_E0))⟩ ck_X0 ck_l0 p2_s1881_e
set_option maxRecDepth 100000 in
/-- GlacierMail.chain -/
def p2_s1882 : ck_Sum := ((8, 3, 18), 245, [.inr (.inr (.inl 1)), .inl (0, 7, []), .inl (0, 7, []), .inl (51, 2147483647, [])], ([], [(3, 8, 0)], [(3, 6, 6, (0, 299, [(10, 0)]))]), ([(206, 2, 8), (209, 3, 3), (210, 0, 2399), (211, 3, 3), (212, 0, 2399)], []), [(.inl 3, 245, ([], [], [])), (.inl 0, 245, ([], [], [])), (.inr (some (.inl (ck_one (-1)))), 245, ([], [], [(206, 4, 4, ck_one (-1))])), (.inr (some (.inl (0, 2398, []))), 245, ([], [], [(206, 4, 4, ck_one (-1))]))])
set_option maxRecDepth 100000 in
theorem p2_s1882_e : ck_ok p2_O none [] [(139, [p2_s368]), (153, [p2_s580]), (202, [p2_s1857]), (208, [p2_s1881])] 207 [] 120 p2_s1882 = true := by decide +kernel
theorem p2_s1882_s {X : Int → Int} {LX : Nat} : ck_Ok p2_O X LX 207 p2_s1882 := ck_ok_s ⟨p2_nmu, ck_E1 (ck_S1 p2_s368_s ck_S0) (ck_E1 (ck_S1 p2_s580_s ck_S0) (ck_E1 (ck_S1 p2_s1857_s ck_S0) (ck_E1 (ck_S1 p2_s1881_s ck_S0) ck_E0)))⟩ ck_X0 ck_l0 p2_s1882_e
set_option maxRecDepth 100000 in
/-- GlacierMail$Answers.holder -/
def p2_s1883 : ck_Sum := ((2, 0, 0), 245, [.inr (.inr (.inl 208)), .inl (0, 7, []), .inl (0, 7, []), .inl (1, 50, [])], ([], [], [(3, 6, 6, (0, 299, [(10, 0)]))]), ([], []), [(.inr (some (.inl (ck_one (-1)))), 245, ([], [], [])), (.inr (some (.inl (0, 2398, []))), 245, ([], [], []))])
set_option maxRecDepth 100000 in
theorem p2_s1883_e : ck_ok p2_O none [] [(204, [p2_s1858]), (10, [p2_s1825]), (209, [p2_s1876])] 208 [(44, [some (.inr (.inr (.inl 208))), some (.inl (0, 7, [])), some (.inl (0, 7, [])), some (.inl (1, 50, [])), some (.inl (0, 299, [])), some (.inl (0, 2398, [])), some (.inl (1, 2147483647, [])), some (.inl (1, 2147483647, [])), none], ([], [], [(3, 6, 6, (0, 299, [(10, 0)]))]), 100, .inl 7, false)] 190 p2_s1883 = true := by decide +kernel
theorem p2_s1883_s {X : Int → Int} {LX : Nat} : ck_Ok p2_O X LX 208 p2_s1883 := ck_ok_s ⟨p2_nmu, ck_E1 (ck_S1 p2_s1858_s ck_S0) (ck_E1 (ck_S1 p2_s1825_s ck_S0) (ck_E1 (ck_S1 p2_s1876_s ck_S0) ck_E0))⟩ ck_X0 ck_l0 p2_s1883_e
set_option maxRecDepth 100000 in
/-- GlacierMail.chain -/
def p2_s1884 : ck_Sum := ((8, 3, 18), 245, [.inr (.inr (.inl 1)), .inl (0, 7, []), .inl (0, 7, []), .inl (1, 50, [])], ([], [(3, 8, 0)], [(3, 6, 6, (0, 299, [(10, 0)]))]), ([(206, 2, 8), (209, 3, 3), (210, 0, 2399), (211, 3, 3), (212, 0, 2399)], []), [(.inl 3, 245, ([], [], [])), (.inl 0, 245, ([], [], [])), (.inr (some (.inl (ck_one (-1)))), 245, ([], [], [(206, 4, 4, ck_one (-1))])), (.inr (some (.inl (0, 2398, []))), 245, ([], [], [(206, 4, 4, ck_one (-1))]))])
set_option maxRecDepth 100000 in
theorem p2_s1884_e : ck_ok p2_O none [] [(139, [p2_s368]), (153, [p2_s580]), (202, [p2_s1857]), (208, [p2_s1883])] 207 [] 120 p2_s1884 = true := by decide +kernel
theorem p2_s1884_s {X : Int → Int} {LX : Nat} : ck_Ok p2_O X LX 207 p2_s1884 := ck_ok_s ⟨p2_nmu, ck_E1 (ck_S1 p2_s368_s ck_S0) (ck_E1 (ck_S1 p2_s580_s ck_S0) (ck_E1 (ck_S1 p2_s1857_s ck_S0) (ck_E1 (ck_S1 p2_s1883_s ck_S0) ck_E0)))⟩ ck_X0 ck_l0 p2_s1884_e
set_option maxRecDepth 100000 in
/-- GlacierMailModel.chain -/
def p2_s1885 : ck_Sum := ((2, 0, 0), 245, [.inr (.inr (.inl 226)), .inl ((-2147483648), (-1), []), .inl ((-2147483648), 2147483647, []), .inl ((-2147483648), 2147483647, [])], ([], [], [(227, 3, 3, (0, 8, [(21, 0)]))]), ([(226, 0, 0)], []), [(.inr (some (.inl (ck_one 0))), 245, ([], [], [(226, 0, 0, ck_one 1)]))])
set_option maxRecDepth 100000 in
theorem p2_s1885_e : ck_ok p2_O none [] [(298, [p2_s453]), (282, [p2_s268])] 354 [] 100 p2_s1885 = true := by decide +kernel
theorem p2_s1885_s {X : Int → Int} {LX : Nat} : ck_Ok p2_O X LX 354 p2_s1885 := ck_ok_s ⟨p2_nmu, ck_E1 (ck_S1 p2_s453_s ck_S0) (ck_E1 (ck_S1 p2_s268_s ck_S0) ck_E0)⟩ ck_X0 ck_l0 p2_s1885_e
set_option maxRecDepth 100000 in
/-- GlacierMailModel.chain -/
def p2_s1886 : ck_Sum := ((2, 0, 0), 245, [.inr (.inr (.inl 226)), .inl (8, 2147483647, []), .inl ((-2147483648), 2147483647, []), .inl ((-2147483648), 2147483647, [])], ([], [], [(227, 3, 3, (0, 8, [(21, 0)]))]), ([(226, 0, 0)], []), [(.inr (some (.inl (ck_one 0))), 245, ([], [], [(226, 0, 0, ck_one 1)]))])
set_option maxRecDepth 100000 in
theorem p2_s1886_e : ck_ok p2_O none [] [(298, [p2_s456]), (282, [p2_s268])] 354 [] 100 p2_s1886 = true := by decide +kernel
theorem p2_s1886_s {X : Int → Int} {LX : Nat} : ck_Ok p2_O X LX 354 p2_s1886 := ck_ok_s ⟨p2_nmu, ck_E1 (ck_S1 p2_s456_s ck_S0) (ck_E1 (ck_S1 p2_s268_s ck_S0) ck_E0)⟩ ck_X0 ck_l0 p2_s1886_e
set_option maxRecDepth 100000 in
/-- GlacierMailModel.chain -/
def p2_s1887 : ck_Sum := ((2, 0, 0), 245, [.inr (.inr (.inl 226)), .inl (0, 7, []), .inl ((-2147483648), (-1), []), .inl ((-2147483648), 2147483647, [])], ([], [], [(227, 3, 3, (0, 8, [(21, 0)]))]), ([(226, 0, 0)], []), [(.inr (some (.inl (ck_one 0))), 245, ([], [], [(226, 0, 0, ck_one 1)]))])
set_option maxRecDepth 100000 in
theorem p2_s1887_e : ck_ok p2_O none [] [(298, [p2_s459, p2_s453]), (282, [p2_s268])] 354 [] 108 p2_s1887 = true := by decide +kernel
theorem p2_s1887_s {X : Int → Int} {LX : Nat} : ck_Ok p2_O X LX 354 p2_s1887 := ck_ok_s ⟨p2_nmu, ck_E1 (ck_S1 p2_s459_s (ck_S1 p2_s453_s ck_S0)) (ck_E1 (ck_S1 p2_s268_s ck_S0) ck_E0)⟩ ck_X0 ck_l0 p2_s1887_e
set_option maxRecDepth 100000 in
/-- GlacierMailModel.chain -/
def p2_s1888 : ck_Sum := ((2, 0, 0), 245, [.inr (.inr (.inl 226)), .inl (0, 7, []), .inl (8, 2147483647, []), .inl ((-2147483648), 2147483647, [])], ([], [], [(227, 3, 3, (0, 8, [(21, 0)]))]), ([(226, 0, 0)], []), [(.inr (some (.inl (ck_one 0))), 245, ([], [], [(226, 0, 0, ck_one 1)]))])
set_option maxRecDepth 100000 in
theorem p2_s1888_e : ck_ok p2_O none [] [(298, [p2_s459, p2_s456]), (282, [p2_s268])] 354 [] 108 p2_s1888 = true := by decide +kernel
theorem p2_s1888_s {X : Int → Int} {LX : Nat} : ck_Ok p2_O X LX 354 p2_s1888 := ck_ok_s ⟨p2_nmu, ck_E1 (ck_S1 p2_s459_s (ck_S1 p2_s456_s ck_S0)) (ck_E1 (ck_S1 p2_s268_s ck_S0) ck_E0)⟩ ck_X0 ck_l0 p2_s1888_e
set_option maxRecDepth 100000 in
/-- GlacierMailModel.of -/
def p2_s1890 : ck_Sum := ((0, 0, 0), 245, [.inr (.inr (.inl 226)), .inl ((-1), 7, []), .inl (ck_one 2)], ([], [], []), ([], []), [(.inr (some (.inl (0, 20, []))), 245, ([], [], [])), (.inr (some (.inl (ck_one (-1)))), 245, ([], [], []))])
set_option maxRecDepth 100000 in
theorem p2_s1890_e : ck_ok p2_O none [] [] 299 [] 92 p2_s1890 = true := by decide +kernel
theorem p2_s1890_s {X : Int → Int} {LX : Nat} : ck_Ok p2_O X LX 299 p2_s1890 := ck_ok_s ⟨p2_nmu, ck_E0⟩ ck_X0 ck_l0 p2_s1890_e
set_option maxRecDepth 100000 in
/-- GlacierMailModel.isWatching -/
def p2_s1897 : ck_Sum := ((1, 0, 0), 245, [.inr (.inr (.inl 226)), .inl ((-1), 7, []), .inl (0, 7, [])], ([], [], []), ([], []), [(.inr (some (.inl (ck_one 0))), 245, ([], [], [])), (.inr (some (.inl (ck_one 1))), 245, ([], [], []))])
set_option maxRecDepth 100000 in
theorem p2_s1897_e : ck_ok p2_O none [] [(299, [p2_s1890, p2_s691])] 352 [] 94 p2_s1897 = true := by decide +kernel
theorem p2_s1897_s {X : Int → Int} {LX : Nat} : ck_Ok p2_O X LX 352 p2_s1897 := ck_ok_s ⟨p2_nmu, ck_E1 (ck_S1 p2_s1890_s (ck_S1 p2_s691_s ck_S0)) ck_E0⟩ ck_X0 ck_l0 p2_s1897_e
set_option maxRecDepth 100000 in
/-- GlacierMailModel.thrower -/
def p2_s1898 : ck_Sum := ((2, 0, 0), 245, [.inr (.inr (.inl 226)), .inl ((-1), 7, []), .inl ((-1), 299, []), .inl (1, 1000, [])], ([], [], [(227, 3, 3, (0, 8, [(21, 0)])), (227, 9, 9, (0, 299, [(11, 0)]))]), ([(226, 36, 36)], []), [(.inr (some (.inl (ck_one (-1)))), 245, ([], [], [])), (.inr (some (.inl (0, 7, []))), 245, ([], [], [(226, 36, 36, (0, 298, [(1000011, 0)])), (227, 3, 3, (1, 8, [(21, 0)]))]))])
set_option maxRecDepth 100000 in
theorem p2_s1898_e : ck_ok p2_O none [] [(253, [p2_s214]), (266, [p2_s207]), (352, [p2_s1897]), (351, [p2_s1865])] 355 [(3, [some (.inr (.inr (.inl 226))), some (.inl ((-1), 7, [])), some (.inl ((-1), 299, [])), some (.inl (1, 1000, [])), some (.inl (0, 8, [])), none], ([], [], [(227, 3, 3, (0, 8, [(21, 0)])), (227, 9, 9, (0, 299, [(11, 0)]))]), 100, .inl 4, true), (18, [some (.inr (.inr (.inl 226))), some (.inl ((-1), 7, [])), some (.inl ((-1), 299, [])), some (.inl (1, 1000, [])), some (.inl (0, 7, [(100, 0)])), some (.inl (0, 299, [(1000011, 0)]))], ([], [], [(227, 3, 3, (1, 8, [(21, 0)])), (227, 9, 9, (0, 299, [(11, 0)]))]), 300, .inl 5, true)] 284 p2_s1898 = true := by decide +kernel
theorem p2_s1898_s {X : Int → Int} {LX : Nat} : ck_Ok p2_O X LX 355 p2_s1898 := ck_ok_s ⟨p2_nmu, ck_E1 (ck_S1 p2_s214_s ck_S0) (ck_E1 (ck_S1 p2_s207_s ck_S0) (ck_E1 (ck_S1 p2_s1897_s ck_S0) (ck_E1 (ck_S1 p2_s1865_s ck_S0) ck_E0)))⟩ ck_X0 ck_l0 p2_s1898_e
set_option maxRecDepth 100000 in
/-- GlacierMailModel.thrower -/
def p2_s1901 : ck_Sum := ((2, 0, 0), 245, [.inr (.inr (.inl 226)), .inl ((-1), 7, []), .inl ((-1), 299, []), .inl (52, 1000, [])], ([], [], [(227, 3, 3, (0, 8, [(21, 0)])), (227, 9, 9, (0, 299, [(11, 0)]))]), ([(226, 36, 36)], []), [(.inr (some (.inl (ck_one (-1)))), 245, ([], [], [])), (.inr (some (.inl (0, 7, []))), 245, ([], [], [(226, 36, 36, (0, 298, [(1000011, 0)])), (227, 3, 3, (1, 8, [(21, 0)]))]))])
set_option maxRecDepth 100000 in
theorem p2_s1901_e : ck_ok p2_O none [] [(253, [p2_s214]), (266, [p2_s207]), (352, [p2_s1897]), (351, [p2_s1865])] 355 [(3, [some (.inr (.inr (.inl 226))), some (.inl ((-1), 7, [])), some (.inl ((-1), 299, [])), some (.inl (52, 1000, [])), some (.inl (0, 8, [])), none], ([], [], [(227, 3, 3, (0, 8, [(21, 0)])), (227, 9, 9, (0, 299, [(11, 0)]))]), 100, .inl 4, true), (18, [some (.inr (.inr (.inl 226))), some (.inl ((-1), 7, [])), some (.inl ((-1), 299, [])), some (.inl (52, 1000, [])), some (.inl (0, 7, [(100, 0)])), some (.inl (0, 299, [(1000011, 0)]))], ([], [], [(227, 3, 3, (1, 8, [(21, 0)])), (227, 9, 9, (0, 299, [(11, 0)]))]), 300, .inl 5, true)] 284 p2_s1901 = true := by decide +kernel
theorem p2_s1901_s {X : Int → Int} {LX : Nat} : ck_Ok p2_O X LX 355 p2_s1901 := ck_ok_s ⟨p2_nmu, ck_E1 (ck_S1 p2_s214_s ck_S0) (ck_E1 (ck_S1 p2_s207_s ck_S0) (ck_E1 (ck_S1 p2_s1897_s ck_S0) (ck_E1 (ck_S1 p2_s1865_s ck_S0) ck_E0)))⟩ ck_X0 ck_l0 p2_s1901_e
set_option maxRecDepth 100000 in
/-- GlacierMailModel.thrower -/
def p2_s1905 : ck_Sum := ((2, 0, 0), 245, [.inr (.inr (.inl 226)), .inl ((-1), 7, []), .inl ((-1), 299, []), .inl (2, 1000, [])], ([], [], [(227, 3, 3, (0, 8, [(21, 0)])), (227, 9, 9, (0, 299, [(11, 0)]))]), ([(226, 36, 36)], []), [(.inr (some (.inl (ck_one (-1)))), 245, ([], [], [])), (.inr (some (.inl (0, 7, []))), 245, ([], [], [(226, 36, 36, (0, 298, [(1000011, 0)])), (227, 3, 3, (1, 8, [(21, 0)]))]))])
set_option maxRecDepth 100000 in
theorem p2_s1905_e : ck_ok p2_O none [] [(253, [p2_s214]), (266, [p2_s207]), (352, [p2_s1897]), (351, [p2_s1865])] 355 [(3, [some (.inr (.inr (.inl 226))), some (.inl ((-1), 7, [])), some (.inl ((-1), 299, [])), some (.inl (2, 1000, [])), some (.inl (0, 8, [])), none], ([], [], [(227, 3, 3, (0, 8, [(21, 0)])), (227, 9, 9, (0, 299, [(11, 0)]))]), 100, .inl 4, true), (18, [some (.inr (.inr (.inl 226))), some (.inl ((-1), 7, [])), some (.inl ((-1), 299, [])), some (.inl (2, 1000, [])), some (.inl (0, 7, [(100, 0)])), some (.inl (0, 299, [(1000011, 0)]))], ([], [], [(227, 3, 3, (1, 8, [(21, 0)])), (227, 9, 9, (0, 299, [(11, 0)]))]), 300, .inl 5, true)] 284 p2_s1905 = true := by decide +kernel
theorem p2_s1905_s {X : Int → Int} {LX : Nat} : ck_Ok p2_O X LX 355 p2_s1905 := ck_ok_s ⟨p2_nmu, ck_E1 (ck_S1 p2_s214_s ck_S0) (ck_E1 (ck_S1 p2_s207_s ck_S0) (ck_E1 (ck_S1 p2_s1897_s ck_S0) (ck_E1 (ck_S1 p2_s1865_s ck_S0) ck_E0)))⟩ ck_X0 ck_l0 p2_s1905_e
set_option maxRecDepth 100000 in
/-- GlacierMail.reached -/
def p2_s1907 : ck_Sum := ((8, 1, 6), 245, [.inr (.inr (.inl 1)), .inl ((-2147483648), (-1), []), .inl ((-2147483648), 2147483647, [])], ([], [], []), ([], []), [(.inl 3, 245, ([], [], []))])
set_option maxRecDepth 100000 in
theorem p2_s1907_e : ck_ok p2_O none [] [(139, [p2_s362])] 211 [] 76 p2_s1907 = true := by decide +kernel
theorem p2_s1907_s {X : Int → Int} {LX : Nat} : ck_Ok p2_O X LX 211 p2_s1907 := ck_ok_s ⟨p2_nmu, ck_E1 (ck_S1 p2_s362_s ck_S0) ck_E0⟩ ck_X0 ck_l0 p2_s1907_e
set_option maxRecDepth 100000 in
/-- GlacierMail.reached -/
def p2_s1908 : ck_Sum := ((8, 1, 6), 245, [.inr (.inr (.inl 1)), .inl (8, 2147483647, []), .inl ((-2147483648), 2147483647, [])], ([], [], []), ([], []), [(.inl 3, 245, ([], [], []))])
set_option maxRecDepth 100000 in
theorem p2_s1908_e : ck_ok p2_O none [] [(139, [p2_s365])] 211 [] 76 p2_s1908 = true := by decide +kernel
theorem p2_s1908_s {X : Int → Int} {LX : Nat} : ck_Ok p2_O X LX 211 p2_s1908 := ck_ok_s ⟨p2_nmu, ck_E1 (ck_S1 p2_s365_s ck_S0) ck_E0⟩ ck_X0 ck_l0 p2_s1908_e
set_option maxRecDepth 100000 in
/-- GlacierMail.reached -/
def p2_s1909 : ck_Sum := ((8, 2, 12), 245, [.inr (.inr (.inl 1)), .inl (0, 7, []), .inl ((-2147483648), (-1), [])], ([], [], []), ([], []), [(.inl 3, 245, ([], [], [])), (.inl 0, 245, ([], [], []))])
set_option maxRecDepth 100000 in
theorem p2_s1909_e : ck_ok p2_O none [] [(139, [p2_s368]), (129, [p2_s276])] 211 [] 82 p2_s1909 = true := by decide +kernel
theorem p2_s1909_s {X : Int → Int} {LX : Nat} : ck_Ok p2_O X LX 211 p2_s1909 := ck_ok_s ⟨p2_nmu, ck_E1 (ck_S1 p2_s368_s ck_S0) (ck_E1 (ck_S1 p2_s276_s ck_S0) ck_E0)⟩ ck_X0 ck_l0 p2_s1909_e
set_option maxRecDepth 100000 in
/-- GlacierMail.reached -/
def p2_s1910 : ck_Sum := ((8, 2, 12), 245, [.inr (.inr (.inl 1)), .inl (0, 7, []), .inl (300, 2147483647, [])], ([], [], []), ([], []), [(.inl 3, 245, ([], [], [])), (.inl 0, 245, ([], [], []))])
set_option maxRecDepth 100000 in
theorem p2_s1910_e : ck_ok p2_O none [] [(139, [p2_s368]), (129, [p2_s278])] 211 [] 82 p2_s1910 = true := by decide +kernel
theorem p2_s1910_s {X : Int → Int} {LX : Nat} : ck_Ok p2_O X LX 211 p2_s1910 := ck_ok_s ⟨p2_nmu, ck_E1 (ck_S1 p2_s368_s ck_S0) (ck_E1 (ck_S1 p2_s278_s ck_S0) ck_E0)⟩ ck_X0 ck_l0 p2_s1910_e
set_option maxRecDepth 100000 in
/-- GlacierMail$Answers.throwAgain -/
def p2_s1911 : ck_Sum := ((4, 0, 0), 245, [.inr (.inr (.inl 208)), .inl (0, 7, []), .inl (0, 299, []), .inl (ck_one 1), .inl (0, 299, [])], ([], [(3, 8, 0)], []), ([(206, 2, 8), (210, 0, 2399), (212, 0, 2399)], []), [(.inr none, 245, ([], [], [(206, 4, 4, ck_one (-1))]))])
set_option maxRecDepth 100000 in
theorem p2_s1911_e : ck_ok p2_O none [] [(10, [p2_s450, p2_s1825]), (170, [p2_s1549]), (30, [p2_s386]), (45, [p2_s1824, p2_s1833]), (9, [p2_s360])] 203 [(59, [some (.inr (.inr (.inl 208))), some (.inl (0, 7, [])), some (.inl (0, 299, [])), some (.inl (ck_one 1)), some (.inl (0, 299, [])), some (.inr (.inr (.inl 8))), some (.inl ((-1), 98, [])), some (.inl ((-2147483648), 299, [])), some (.inl (0, 8, [])), none], ([], [(3, 8, 0)], [(206, 4, 4, ck_one (-1))]), 100, .inl 8, true)] 214 p2_s1911 = true := by decide +kernel
theorem p2_s1911_s {X : Int → Int} {LX : Nat} : ck_Ok p2_O X LX 203 p2_s1911 := ck_ok_s ⟨p2_nmu, ck_E1 (ck_S1 p2_s450_s (ck_S1 p2_s1825_s ck_S0)) (ck_E1 (ck_S1 p2_s1549_s ck_S0) (ck_E1 (ck_S1 p2_s386_s ck_S0) (ck_E1 (ck_S1 p2_s1824_s (ck_S1 p2_s1833_s ck_S0)) (ck_E1 (ck_S1 p2_s360_s ck_S0) ck_E0))))⟩ ck_X0 ck_l0 p2_s1911_e
set_option maxRecDepth 100000 in
/-- GlacierMail$Answers.throwAgain -/
def p2_s1918 : ck_Sum := ((4, 0, 0), 245, [.inr (.inr (.inl 208)), .inl (0, 7, []), .inl (2, 299, []), .inl ((-2147483648), 2147483647, []), .inl (2, 299, [])], ([], [(3, 8, 0)], []), ([(206, 2, 8), (210, 0, 2399), (212, 2, 299), (212, 302, 599), (212, 602, 899), (212, 902, 1199), (212, 1202, 1499), (212, 1502, 1799), (212, 1802, 2099), (212, 2102, 2399)], []), [(.inr none, 245, ([], [], [(206, 4, 4, ck_one (-1))]))])
set_option maxRecDepth 100000 in
theorem p2_s1918_e : ck_ok p2_O none [] [(10, [p2_s450, p2_s1825]), (170, [p2_s1549]), (30, [p2_s386]), (45, [p2_s1855, p2_s1843]), (9, [p2_s360])] 203 [(59, [some (.inr (.inr (.inl 208))), some (.inl (0, 7, [])), some (.inl (2, 299, [])), some (.inl ((-2147483648), 2147483647, [])), some (.inl (2, 299, [])), some (.inr (.inr (.inl 8))), some (.inl ((-1), 98, [])), some (.inl ((-2147483648), 299, [])), some (.inl (0, 8, [])), none], ([], [(3, 8, 0)], [(206, 4, 4, ck_one (-1))]), 100, .inl 8, true)] 214 p2_s1918 = true := by decide +kernel
theorem p2_s1918_s {X : Int → Int} {LX : Nat} : ck_Ok p2_O X LX 203 p2_s1918 := ck_ok_s ⟨p2_nmu, ck_E1 (ck_S1 p2_s450_s (ck_S1 p2_s1825_s ck_S0)) (ck_E1 (ck_S1 p2_s1549_s ck_S0) (ck_E1 (ck_S1 p2_s386_s ck_S0) (ck_E1 (ck_S1 p2_s1855_s (ck_S1 p2_s1843_s ck_S0)) (ck_E1 (ck_S1 p2_s360_s ck_S0) ck_E0))))⟩ ck_X0 ck_l0 p2_s1918_e
set_option maxRecDepth 100000 in
/-- GlacierMail$Answers.spread -/
def p2_s1919 : ck_Sum := ((5, 0, 0), 245, [.inr (.inr (.inl 208)), .inl (0, 7, []), .inl (ck_one (-1)), .inl (0, 299, [])], ([], [(3, 8, 0)], [(3, 6, 6, (0, 299, [(10, 0)]))]), ([(206, 2, 8), (209, 3, 3), (210, 0, 2399), (211, 3, 3), (212, 0, 2399)], []), [(.inr none, 245, ([], [], [(206, 4, 4, ck_one (-1))]))])
set_option maxRecDepth 100000 in
theorem p2_s1919_e : ck_ok p2_O none [] [(9, [p2_s360]), (25, [p2_s1821, p2_s1823]), (203, [p2_s1911, p2_s1918]), (10, [p2_s1825])] 202 [(59, [some (.inr (.inr (.inl 208))), some (.inl (0, 7, [])), some (.inl (ck_one (-1))), some (.inl (0, 299, [])), some (.inl (1, 300, [(1000010, 1)])), none, none], ([], [(3, 8, 0)], [(206, 4, 4, ck_one (-1)), (3, 6, 6, (0, 299, [(10, 0)]))]), 100, .inl 4, true), (82, [some (.inr (.inr (.inl 208))), some (.inl (0, 7, [])), some (.inl (ck_one (-1))), some (.inl (2, 299, [])), some (.inl (1, 298, [(100, 0), (1000010, 1)])), some (.inl (0, 8, [])), none], ([], [(3, 8, 0)], [(206, 4, 4, ck_one (-1)), (3, 6, 6, (0, 299, [(10, 0)]))]), 300, .inl 5, true)] 284 p2_s1919 = true := by decide +kernel
theorem p2_s1919_s {X : Int → Int} {LX : Nat} : ck_Ok p2_O X LX 202 p2_s1919 := ck_ok_s ⟨p2_nmu, ck_E1 (ck_S1 p2_s360_s ck_S0) (ck_E1 (ck_S1 p2_s1821_s (ck_S1 p2_s1823_s ck_S0)) (ck_E1 (ck_S1 p2_s1911_s (ck_S1 p2_s1918_s ck_S0)) (ck_E1 (ck_S1 p2_s1825_s ck_S0) ck_E0)))⟩ ck_X0 ck_l0 p2_s1919_e
set_option maxRecDepth 100000 in
/-- GlacierMail.reached -/
def p2_s1926 : ck_Sum := ((8, 1, 6), 245, [.inr (.inr (.inl 1)), .inl (0, 7, []), .inl (0, 299, [])], ([], [(3, 8, 0)], [(3, 6, 6, (0, 299, [(10, 0)]))]), ([(206, 2, 8), (209, 3, 3), (210, 0, 2399), (211, 3, 3), (212, 0, 2399)], []), [(.inl 3, 245, ([], [], [])), (.inr (some (.inl ((-2147483648), 2147483647, []))), 245, ([], [], [(206, 4, 4, ck_one (-1))]))])
set_option maxRecDepth 100000 in
theorem p2_s1926_e : ck_ok p2_O none [] [(139, [p2_s368]), (129, [p2_s280]), (202, [p2_s1919]), (9, [p2_s360]), (204, [p2_s1858])] 211 [(27, [some (.inr (.inr (.inl 1))), some (.inl (0, 7, [])), some (.inl (0, 299, [])), some (.inl ((-2147483648), 2147483647, [])), some (.inl (0, 8, []))], ([], [(3, 8, 0)], [(206, 4, 4, ck_one (-1)), (3, 6, 6, (0, 299, [(10, 0)]))]), 100, .inl 4, true)] 174 p2_s1926 = true := by decide +kernel
theorem p2_s1926_s {X : Int → Int} {LX : Nat} : ck_Ok p2_O X LX 211 p2_s1926 := ck_ok_s ⟨p2_nmu, ck_E1 (ck_S1 p2_s368_s ck_S0) (ck_E1 (ck_S1 p2_s280_s ck_S0) (ck_E1 (ck_S1 p2_s1919_s ck_S0) (ck_E1 (ck_S1 p2_s360_s ck_S0) (ck_E1 (ck_S1 p2_s1858_s ck_S0) ck_E0))))⟩ ck_X0 ck_l0 p2_s1926_e
set_option maxRecDepth 100000 in
/-- GlacierMailModel.reached -/
def p2_s1927 : ck_Sum := ((2, 0, 0), 245, [.inr (.inr (.inl 226)), .inl ((-2147483648), (-1), []), .inl ((-2147483648), 2147483647, [])], ([], [], [(227, 3, 3, (0, 8, [(21, 0)]))]), ([(226, 0, 0)], []), [(.inr (some (.inl (ck_one 0))), 245, ([], [], [(226, 0, 0, ck_one 1)]))])
set_option maxRecDepth 100000 in
theorem p2_s1927_e : ck_ok p2_O none [] [(298, [p2_s453]), (282, [p2_s268])] 356 [] 94 p2_s1927 = true := by decide +kernel
theorem p2_s1927_s {X : Int → Int} {LX : Nat} : ck_Ok p2_O X LX 356 p2_s1927 := ck_ok_s ⟨p2_nmu, ck_E1 (ck_S1 p2_s453_s ck_S0) (ck_E1 (ck_S1 p2_s268_s ck_S0) ck_E0)⟩ ck_X0 ck_l0 p2_s1927_e
set_option maxRecDepth 100000 in
/-- GlacierMailModel.reached -/
def p2_s1928 : ck_Sum := ((2, 0, 0), 245, [.inr (.inr (.inl 226)), .inl (8, 2147483647, []), .inl ((-2147483648), 2147483647, [])], ([], [], [(227, 3, 3, (0, 8, [(21, 0)]))]), ([(226, 0, 0)], []), [(.inr (some (.inl (ck_one 0))), 245, ([], [], [(226, 0, 0, ck_one 1)]))])
set_option maxRecDepth 100000 in
theorem p2_s1928_e : ck_ok p2_O none [] [(298, [p2_s456]), (282, [p2_s268])] 356 [] 94 p2_s1928 = true := by decide +kernel
theorem p2_s1928_s {X : Int → Int} {LX : Nat} : ck_Ok p2_O X LX 356 p2_s1928 := ck_ok_s ⟨p2_nmu, ck_E1 (ck_S1 p2_s456_s ck_S0) (ck_E1 (ck_S1 p2_s268_s ck_S0) ck_E0)⟩ ck_X0 ck_l0 p2_s1928_e
set_option maxRecDepth 100000 in
/-- GlacierMailModel.reached -/
def p2_s1929 : ck_Sum := ((2, 0, 0), 245, [.inr (.inr (.inl 226)), .inl (0, 7, []), .inl ((-2147483648), (-1), [])], ([], [], [(227, 3, 3, (0, 8, [(21, 0)]))]), ([(226, 0, 0)], []), [(.inr (some (.inl (ck_one 0))), 245, ([], [], [(226, 0, 0, (1, 2, []))]))])
set_option maxRecDepth 100000 in
theorem p2_s1929_e : ck_ok p2_O none [] [(298, [p2_s459]), (282, [p2_s268, p2_s269, p2_s272]), (285, [p2_s284])] 356 [] 106 p2_s1929 = true := by decide +kernel
theorem p2_s1929_s {X : Int → Int} {LX : Nat} : ck_Ok p2_O X LX 356 p2_s1929 := ck_ok_s ⟨p2_nmu, ck_E1 (ck_S1 p2_s459_s ck_S0) (ck_E1 (ck_S1 p2_s268_s (ck_S1 p2_s269_s (ck_S1 p2_s272_s ck_S0))) (ck_E1 (ck_S1 p2_s284_s ck_S0) ck_E0))⟩ ck_X0 ck_l0 p2_s1929_e
set_option maxRecDepth 100000 in
/-- GlacierMailModel.reached -/
def p2_s1930 : ck_Sum := ((2, 0, 0), 245, [.inr (.inr (.inl 226)), .inl (0, 7, []), .inl (300, 2147483647, [])], ([], [], [(227, 3, 3, (0, 8, [(21, 0)]))]), ([(226, 0, 0)], []), [(.inr (some (.inl (ck_one 0))), 245, ([], [], [(226, 0, 0, (1, 2, []))]))])
set_option maxRecDepth 100000 in
theorem p2_s1930_e : ck_ok p2_O none [] [(298, [p2_s459]), (282, [p2_s268, p2_s269, p2_s272]), (285, [p2_s287])] 356 [] 106 p2_s1930 = true := by decide +kernel
theorem p2_s1930_s {X : Int → Int} {LX : Nat} : ck_Ok p2_O X LX 356 p2_s1930 := ck_ok_s ⟨p2_nmu, ck_E1 (ck_S1 p2_s459_s ck_S0) (ck_E1 (ck_S1 p2_s268_s (ck_S1 p2_s269_s (ck_S1 p2_s272_s ck_S0))) (ck_E1 (ck_S1 p2_s287_s ck_S0) ck_E0))⟩ ck_X0 ck_l0 p2_s1930_e
set_option maxRecDepth 100000 in
/-- GlacierMail.needThiefYears -/
def p2_s1939 : ck_Sum := ((6, 1, 6), 245, [.inr (.inr (.inl 1)), .inl ((-2147483648), (-1), [])], ([], [], []), ([], []), [(.inl 0, 245, ([], [], []))])
set_option maxRecDepth 100000 in
theorem p2_s1939_e : ck_ok p2_O none [] [] 214 [] 78 p2_s1939 = true := by decide +kernel
theorem p2_s1939_s {X : Int → Int} {LX : Nat} : ck_Ok p2_O X LX 214 p2_s1939 := ck_ok_s ⟨p2_nmu, ck_E0⟩ ck_X0 ck_l0 p2_s1939_e
set_option maxRecDepth 100000 in
/-- GlacierMail.thieves -/
def p2_s1940 : ck_Sum := ((7, 1, 6), 245, [.inr (.inr (.inl 1)), .inl ((-2147483648), (-1), []), .inl (0, 1, [])], ([], [], []), ([], []), [(.inl 0, 245, ([], [], []))])
set_option maxRecDepth 100000 in
theorem p2_s1940_e : ck_ok p2_O none [] [(214, [p2_s1939])] 213 [] 76 p2_s1940 = true := by decide +kernel
theorem p2_s1940_s {X : Int → Int} {LX : Nat} : ck_Ok p2_O X LX 213 p2_s1940 := ck_ok_s ⟨p2_nmu, ck_E1 (ck_S1 p2_s1939_s ck_S0) ck_E0⟩ ck_X0 ck_l0 p2_s1940_e
set_option maxRecDepth 100000 in
/-- GlacierMail.needThiefYears -/
def p2_s1941 : ck_Sum := ((6, 1, 6), 245, [.inr (.inr (.inl 1)), .inl (31, 2147483647, [])], ([], [], []), ([], []), [(.inl 0, 245, ([], [], []))])
set_option maxRecDepth 100000 in
theorem p2_s1941_e : ck_ok p2_O none [] [] 214 [] 84 p2_s1941 = true := by decide +kernel
theorem p2_s1941_s {X : Int → Int} {LX : Nat} : ck_Ok p2_O X LX 214 p2_s1941 := ck_ok_s ⟨p2_nmu, ck_E0⟩ ck_X0 ck_l0 p2_s1941_e
set_option maxRecDepth 100000 in
/-- GlacierMail.thieves -/
def p2_s1942 : ck_Sum := ((7, 1, 6), 245, [.inr (.inr (.inl 1)), .inl (31, 2147483647, []), .inl (0, 1, [])], ([], [], []), ([], []), [(.inl 0, 245, ([], [], []))])
set_option maxRecDepth 100000 in
theorem p2_s1942_e : ck_ok p2_O none [] [(214, [p2_s1941])] 213 [] 76 p2_s1942 = true := by decide +kernel
theorem p2_s1942_s {X : Int → Int} {LX : Nat} : ck_Ok p2_O X LX 213 p2_s1942 := ck_ok_s ⟨p2_nmu, ck_E1 (ck_S1 p2_s1941_s ck_S0) ck_E0⟩ ck_X0 ck_l0 p2_s1942_e
set_option maxRecDepth 100000 in
/-- GlacierMail.needThiefYears -/
def p2_s1943 : ck_Sum := ((6, 1, 6), 245, [.inr (.inr (.inl 1)), .inl (0, 30, [])], ([], [], []), ([], []), [(.inl 0, 245, ([], [], [])), (.inr none, 245, ([], [], []))])
set_option maxRecDepth 100000 in
theorem p2_s1943_e : ck_ok p2_O none [] [] 214 [] 84 p2_s1943 = true := by decide +kernel
theorem p2_s1943_s {X : Int → Int} {LX : Nat} : ck_Ok p2_O X LX 214 p2_s1943 := ck_ok_s ⟨p2_nmu, ck_E0⟩ ck_X0 ck_l0 p2_s1943_e
set_option maxRecDepth 100000 in
/-- java/util/Arrays.fill -/
def p2_s1944 : ck_Sum := ((0, 0, 0), 245, [.inr (.inr (.inl 223)), .inl (ck_one 0)], ([], [], []), ([(223, 0, 179)], []), [(.inr none, 245, ([], [], []))])
set_option maxRecDepth 100000 in
theorem p2_s1944_e : ck_ok p2_O none [] [] 8 [(5, [some (.inr (.inr (.inl 223))), some (.inl (ck_one 0)), some (.inl (0, 180, [])), some (.inl (ck_one 180))], ([], [], []), 100, .inl 2, true)] 130 p2_s1944 = true := by decide +kernel
theorem p2_s1944_s {X : Int → Int} {LX : Nat} : ck_Ok p2_O X LX 8 p2_s1944 := ck_ok_s ⟨p2_nmu, ck_E0⟩ ck_X0 ck_l0 p2_s1944_e
set_option maxRecDepth 100000 in
/-- GlacierMail$Rows.reset -/
def p2_s1945 : ck_Sum := ((1, 0, 0), 245, [.inr (.inr (.inl 222)), .inl (0, 30, [])], ([], [], []), ([(222, 3, 3), (223, 0, 179)], []), [(.inr none, 245, ([], [], []))])
set_option maxRecDepth 100000 in
theorem p2_s1945_e : ck_ok p2_O none [] [(8, [p2_s1944])] 25 [] 96 p2_s1945 = true := by decide +kernel
theorem p2_s1945_s {X : Int → Int} {LX : Nat} : ck_Ok p2_O X LX 25 p2_s1945 := ck_ok_s ⟨p2_nmu, ck_E1 (ck_S1 p2_s1944_s ck_S0) ck_E0⟩ ck_X0 ck_l0 p2_s1945_e
set_option maxRecDepth 100000 in
/-- GlacierMail$Rows.get -/
def p2_s1946 : ck_Sum := ((0, 0, 0), 245, [.inr (.inr (.inl 222)), .inl ((-2147483648), 2147483647, []), .inl ((-2147483648), 2147483647, [])], ([], [], []), ([], []), [(.inr (some (.inl ((-2147483648), 2147483647, []))), 245, ([], [], []))])
set_option maxRecDepth 100000 in
theorem p2_s1946_e : ck_ok p2_O none [] [] 10 [] 114 p2_s1946 = true := by decide +kernel
theorem p2_s1946_s {X : Int → Int} {LX : Nat} : ck_Ok p2_O X LX 10 p2_s1946 := ck_ok_s ⟨p2_nmu, ck_E0⟩ ck_X0 ck_l0 p2_s1946_e
set_option maxRecDepth 100000 in
/-- GlacierMail$Rows.put -/
def p2_s1947 : ck_Sum := ((0, 0, 0), 245, [.inr (.inr (.inl 222)), .inl ((-2147483648), 2147483647, []), .inl ((-1), 299, []), .inl ((-2147483648), 2147483647, [])], ([], [], []), ([(223, 0, 179)], []), [(.inr none, 245, ([], [], []))])
set_option maxRecDepth 100000 in
theorem p2_s1947_e : ck_ok p2_O none [] [] 45 [] 116 p2_s1947 = true := by decide +kernel
theorem p2_s1947_s {X : Int → Int} {LX : Nat} : ck_Ok p2_O X LX 45 p2_s1947 := ck_ok_s ⟨p2_nmu, ck_E0⟩ ck_X0 ck_l0 p2_s1947_e
set_option maxRecDepth 100000 in
/-- GlacierMail.reckonCame -/
def p2_s1949 : ck_Sum := ((2, 0, 0), 245, [.inr (.inr (.inl 1)), .inl (0, 30, [])], ([], [], [(3, 6, 6, (0, 299, [(10, 0)]))]), ([(222, 3, 3), (223, 0, 179)], []), [(.inr none, 245, ([], [], []))])
set_option maxRecDepth 100000 in
theorem p2_s1949_e : ck_ok p2_O none [] [(25, [p2_s1945]), (9, [p2_s374]), (10, [p2_s419, p2_s375, p2_s1946]), (28, [p2_s376]), (45, [p2_s1947])] 215 [(10, [some (.inr (.inr (.inl 1))), some (.inl (0, 30, [])), some (.inl (0, 24, [])), none, none], ([], [], [(3, 6, 6, (0, 299, [(10, 0)]))]), 100, .inl 2, true)] 286 p2_s1949 = true := by decide +kernel
theorem p2_s1949_s {X : Int → Int} {LX : Nat} : ck_Ok p2_O X LX 215 p2_s1949 := ck_ok_s ⟨p2_nmu, ck_E1 (ck_S1 p2_s1945_s ck_S0) (ck_E1 (ck_S1 p2_s374_s ck_S0) (ck_E1 (ck_S1 p2_s419_s (ck_S1 p2_s375_s (ck_S1 p2_s1946_s ck_S0))) (ck_E1 (ck_S1 p2_s376_s ck_S0) (ck_E1 (ck_S1 p2_s1947_s ck_S0) ck_E0))))⟩ ck_X0 ck_l0 p2_s1949_e
set_option maxRecDepth 100000 in
/-- java/util/Arrays.fill -/
def p2_s1950 : ck_Sum := ((0, 0, 0), 245, [.inr (.inr (.inl 225)), .inl (ck_one 0)], ([], [], []), ([(225, 0, 185)], []), [(.inr none, 245, ([], [], []))])
set_option maxRecDepth 100000 in
theorem p2_s1950_e : ck_ok p2_O none [] [] 8 [(5, [some (.inr (.inr (.inl 225))), some (.inl (ck_one 0)), some (.inl (0, 186, [])), some (.inl (ck_one 186))], ([], [], []), 100, .inl 2, true)] 130 p2_s1950 = true := by decide +kernel
theorem p2_s1950_s {X : Int → Int} {LX : Nat} : ck_Ok p2_O X LX 8 p2_s1950 := ck_ok_s ⟨p2_nmu, ck_E0⟩ ck_X0 ck_l0 p2_s1950_e
set_option maxRecDepth 100000 in
/-- GlacierMail$Rows.reset -/
def p2_s1951 : ck_Sum := ((1, 0, 0), 245, [.inr (.inr (.inl 224)), .inl (1, 31, [])], ([], [], []), ([(224, 3, 3), (225, 0, 185)], []), [(.inr none, 245, ([], [], [(224, 3, 3, (1, 31, []))]))])
set_option maxRecDepth 100000 in
theorem p2_s1951_e : ck_ok p2_O none [] [(8, [p2_s1950])] 25 [] 96 p2_s1951 = true := by decide +kernel
theorem p2_s1951_s {X : Int → Int} {LX : Nat} : ck_Ok p2_O X LX 25 p2_s1951 := ck_ok_s ⟨p2_nmu, ck_E1 (ck_S1 p2_s1950_s ck_S0) ck_E0⟩ ck_X0 ck_l0 p2_s1951_e
set_option maxRecDepth 100000 in
/-- GlacierMail$Rows.get -/
def p2_s1952 : ck_Sum := ((0, 0, 0), 245, [.inr (.inr (.inl 224)), .inl ((-2147483648), 2147483647, []), .inl ((-2147483648), 2147483647, [])], ([], [], []), ([], []), [(.inr (some (.inl ((-2147483648), 2147483647, []))), 245, ([], [], []))])
set_option maxRecDepth 100000 in
theorem p2_s1952_e : ck_ok p2_O none [] [] 10 [] 114 p2_s1952 = true := by decide +kernel
theorem p2_s1952_s {X : Int → Int} {LX : Nat} : ck_Ok p2_O X LX 10 p2_s1952 := ck_ok_s ⟨p2_nmu, ck_E0⟩ ck_X0 ck_l0 p2_s1952_e
set_option maxRecDepth 100000 in
/-- GlacierMail.bestNext -/
def p2_s1963 : ck_Sum := ((1, 0, 0), 245, [.inr (.inr (.inl 1)), .inl (1, 30, []), .inl (0, 5, [])], ([], [], []), ([], []), [(.inr (some (.inl ((-2147483648), 2147483647, []))), 245, ([], [], []))])
set_option maxRecDepth 100000 in
theorem p2_s1963_e : ck_ok p2_O none [] [(10, [p2_s1952])] 216 [] 118 p2_s1963 = true := by decide +kernel
theorem p2_s1963_s {X : Int → Int} {LX : Nat} : ck_Ok p2_O X LX 216 p2_s1963 := ck_ok_s ⟨p2_nmu, ck_E1 (ck_S1 p2_s1952_s ck_S0) ck_E0⟩ ck_X0 ck_l0 p2_s1963_e
set_option maxRecDepth 100000 in
/-- GlacierMail$Rows.put -/
def p2_s1964 : ck_Sum := ((0, 0, 0), 245, [.inr (.inr (.inl 224)), .inl (0, 29, []), .inl (0, 5, []), .inl ((-2147483648), 2147483647, [])], ([], [], []), ([(225, 0, 179)], []), [(.inr none, 245, ([], [], []))])
set_option maxRecDepth 100000 in
theorem p2_s1964_e : ck_ok p2_O none [] [] 45 [] 116 p2_s1964 = true := by decide +kernel
theorem p2_s1964_s {X : Int → Int} {LX : Nat} : ck_Ok p2_O X LX 45 p2_s1964 := ck_ok_s ⟨p2_nmu, ck_E0⟩ ck_X0 ck_l0 p2_s1964_e
set_option maxRecDepth 100000 in
/-- GlacierMail.thieves -/
def p2_s1965 : ck_Sum := ((7, 1, 6), 245, [.inr (.inr (.inl 1)), .inl (0, 30, []), .inl (0, 1, [])], ([], [(3, 8, 0)], [(3, 6, 6, (0, 299, [(10, 0)]))]), ([(1, 15, 15), (206, 2, 8), (220, 3, 3), (221, 0, 47), (222, 3, 3), (223, 0, 179), (224, 3, 3), (225, 0, 185)], []), [(.inl 0, 245, ([], [], [])), (.inr (some (.inl ((-2147483648), 2147483647, []))), 245, ([], [], [(224, 3, 3, (1, 31, [])), (1, 15, 15, ck_one 1)])), (.inr (some (.inl (0, 5, []))), 245, ([], [], [(224, 3, 3, (1, 31, [])), (1, 15, 15, ck_one 1)]))])
set_option maxRecDepth 100000 in
theorem p2_s1965_e : ck_ok p2_O none [] [(214, [p2_s1943]), (24, [p2_s417]), (215, [p2_s1949]), (25, [p2_s1951]), (10, [p2_s1952, p2_s1946]), (216, [p2_s1963]), (45, [p2_s1964])] 213 [(28, [some (.inr (.inr (.inl 1))), some (.inl (0, 30, [])), some (.inl (0, 1, [])), some (.inl ((-1), 29, [])), none], ([], [(3, 8, 0)], [(224, 3, 3, (1, 31, [])), (1, 15, 15, ck_one 1), (3, 6, 6, (0, 299, [(10, 0)]))]), 100, .inl 3, false), (94, [some (.inr (.inr (.inl 1))), some (.inl (0, 30, [])), some (.inl (0, 1, [])), some (.inl (0, 5, [])), some (.inl (1, 6, []))], ([], [(3, 8, 0)], [(224, 3, 3, (1, 31, [])), (1, 15, 15, ck_one 1), (3, 6, 6, (0, 299, [(10, 0)]))]), 300, .inl 4, true), (35, [some (.inr (.inr (.inl 1))), some (.inl (0, 30, [])), some (.inl (0, 1, [])), some (.inl (0, 29, [(100, 0)])), some (.inl (0, 6, []))], ([], [(3, 8, 0)], [(224, 3, 3, (1, 31, [])), (1, 15, 15, ck_one 1), (3, 6, 6, (0, 299, [(10, 0)]))]), 500, .inl 4, true)] 330 p2_s1965 = true := by decide +kernel
theorem p2_s1965_s {X : Int → Int} {LX : Nat} : ck_Ok p2_O X LX 213 p2_s1965 := ck_ok_s ⟨p2_nmu, ck_E1 (ck_S1 p2_s1943_s ck_S0) (ck_E1 (ck_S1 p2_s417_s ck_S0) (ck_E1 (ck_S1 p2_s1949_s ck_S0) (ck_E1 (ck_S1 p2_s1951_s ck_S0) (ck_E1 (ck_S1 p2_s1952_s (ck_S1 p2_s1946_s ck_S0)) (ck_E1 (ck_S1 p2_s1963_s ck_S0) (ck_E1 (ck_S1 p2_s1964_s ck_S0) ck_E0))))))⟩ ck_X0 ck_l0 p2_s1965_e
set_option maxRecDepth 100000 in
/-- GlacierMailModel.in -/
def p2_s1966 : ck_Sum := ((0, 0, 0), 245, [.inl ((-2147483648), (-1), []), .inl (ck_one 1), .inl (ck_one 30)], ([], [], []), ([], []), [(.inr (some (.inl (ck_one 0))), 245, ([], [], []))])
set_option maxRecDepth 100000 in
theorem p2_s1966_e : ck_ok p2_O none [] [] 286 [] 80 p2_s1966 = true := by decide +kernel
theorem p2_s1966_s {X : Int → Int} {LX : Nat} : ck_Ok p2_O X LX 286 p2_s1966 := ck_ok_s ⟨p2_nmu, ck_E0⟩ ck_X0 ck_l0 p2_s1966_e
set_option maxRecDepth 100000 in
/-- GlacierMailModel.thieves -/
def p2_s1967 : ck_Sum := ((1, 0, 0), 245, [.inr (.inr (.inl 226)), .inl ((-2147483648), (-1), []), .inl (0, 1, [])], ([], [], []), ([(226, 0, 0)], []), [(.inr (some (.inl (ck_one 0))), 245, ([], [], [(226, 0, 0, ck_one 1)]))])
set_option maxRecDepth 100000 in
theorem p2_s1967_e : ck_ok p2_O none [] [(286, [p2_s1966]), (282, [p2_s268])] 357 [] 102 p2_s1967 = true := by decide +kernel
theorem p2_s1967_s {X : Int → Int} {LX : Nat} : ck_Ok p2_O X LX 357 p2_s1967 := ck_ok_s ⟨p2_nmu, ck_E1 (ck_S1 p2_s1966_s ck_S0) (ck_E1 (ck_S1 p2_s268_s ck_S0) ck_E0)⟩ ck_X0 ck_l0 p2_s1967_e
set_option maxRecDepth 100000 in
/-- GlacierMailModel.in -/
def p2_s1968 : ck_Sum := ((0, 0, 0), 245, [.inl (31, 2147483647, []), .inl (ck_one 1), .inl (ck_one 30)], ([], [], []), ([], []), [(.inr (some (.inl (ck_one 0))), 245, ([], [], []))])
set_option maxRecDepth 100000 in
theorem p2_s1968_e : ck_ok p2_O none [] [] 286 [] 86 p2_s1968 = true := by decide +kernel
theorem p2_s1968_s {X : Int → Int} {LX : Nat} : ck_Ok p2_O X LX 286 p2_s1968 := ck_ok_s ⟨p2_nmu, ck_E0⟩ ck_X0 ck_l0 p2_s1968_e
set_option maxRecDepth 100000 in
/-- GlacierMailModel.thieves -/
def p2_s1969 : ck_Sum := ((1, 0, 0), 245, [.inr (.inr (.inl 226)), .inl (31, 2147483647, []), .inl (0, 1, [])], ([], [], []), ([(226, 0, 0)], []), [(.inr (some (.inl (ck_one 0))), 245, ([], [], [(226, 0, 0, ck_one 1)]))])
set_option maxRecDepth 100000 in
theorem p2_s1969_e : ck_ok p2_O none [] [(286, [p2_s1968]), (282, [p2_s268])] 357 [] 102 p2_s1969 = true := by decide +kernel
theorem p2_s1969_s {X : Int → Int} {LX : Nat} : ck_Ok p2_O X LX 357 p2_s1969 := ck_ok_s ⟨p2_nmu, ck_E1 (ck_S1 p2_s1968_s ck_S0) (ck_E1 (ck_S1 p2_s268_s ck_S0) ck_E0)⟩ ck_X0 ck_l0 p2_s1969_e
set_option maxRecDepth 100000 in
/-- GlacierMailModel.in -/
def p2_s1970 : ck_Sum := ((0, 0, 0), 245, [.inl (0, 30, []), .inl (ck_one 1), .inl (ck_one 30)], ([], [], []), ([], []), [(.inr (some (.inl (ck_one 0))), 245, ([], [], [])), (.inr (some (.inl (ck_one 1))), 245, ([], [], []))])
set_option maxRecDepth 100000 in
theorem p2_s1970_e : ck_ok p2_O none [] [] 286 [] 88 p2_s1970 = true := by decide +kernel
theorem p2_s1970_s {X : Int → Int} {LX : Nat} : ck_Ok p2_O X LX 286 p2_s1970 := ck_ok_s ⟨p2_nmu, ck_E0⟩ ck_X0 ck_l0 p2_s1970_e
set_option maxRecDepth 100000 in
/-- GlacierMailModel.outsIn -/
def p2_s1982 : ck_Sum := ((2, 0, 0), 245, [.inr (.inr (.inl 226)), .inl (0, 328, []), .inl (0, 5, []), .inl (ck_one 0)], ([], [], [(227, 4, 4, (0, 24, [(22, 0)]))]), ([], []), [(.inr (some (.inl ((-2147483648), 2147483647, []))), 245, ([], [], []))])
set_option maxRecDepth 100000 in
theorem p2_s1982_e : ck_ok p2_O none [] [(254, [p2_s196]), (301, [p2_s469]), (303, [p2_s473])] 333 [(6, [some (.inr (.inr (.inl 226))), some (.inl (0, 328, [])), some (.inl (0, 5, [])), some (.inl (ck_one 0)), some (.inl ((-2147483648), 2147483647, [])), some (.inl (0, 24, []))], ([], [], [(227, 4, 4, (0, 24, [(22, 0)]))]), 100, .inl 5, true)] 218 p2_s1982 = true := by decide +kernel
theorem p2_s1982_s {X : Int → Int} {LX : Nat} : ck_Ok p2_O X LX 333 p2_s1982 := ck_ok_s ⟨p2_nmu, ck_E1 (ck_S1 p2_s196_s ck_S0) (ck_E1 (ck_S1 p2_s469_s ck_S0) (ck_E1 (ck_S1 p2_s473_s ck_S0) ck_E0))⟩ ck_X0 ck_l0 p2_s1982_e
set_option maxRecDepth 100000 in
/-- GlacierMailModel.outsIn -/
def p2_s1983 : ck_Sum := ((2, 0, 0), 245, [.inr (.inr (.inl 226)), .inl (0, 327, []), .inl (0, 5, []), .inl (ck_one 0)], ([], [], [(227, 4, 4, (0, 24, [(22, 0)]))]), ([], []), [(.inr (some (.inl ((-2147483648), 2147483647, []))), 245, ([], [], []))])
set_option maxRecDepth 100000 in
theorem p2_s1983_e : ck_ok p2_O none [] [(254, [p2_s196]), (301, [p2_s469]), (303, [p2_s473])] 333 [(6, [some (.inr (.inr (.inl 226))), some (.inl (0, 327, [])), some (.inl (0, 5, [])), some (.inl (ck_one 0)), some (.inl ((-2147483648), 2147483647, [])), some (.inl (0, 24, []))], ([], [], [(227, 4, 4, (0, 24, [(22, 0)]))]), 100, .inl 5, true)] 218 p2_s1983 = true := by decide +kernel
theorem p2_s1983_s {X : Int → Int} {LX : Nat} : ck_Ok p2_O X LX 333 p2_s1983 := ck_ok_s ⟨p2_nmu, ck_E1 (ck_S1 p2_s196_s ck_S0) (ck_E1 (ck_S1 p2_s469_s ck_S0) (ck_E1 (ck_S1 p2_s473_s ck_S0) ck_E0))⟩ ck_X0 ck_l0 p2_s1983_e
set_option maxRecDepth 100000 in
/-- GlacierMailModel.outsIn -/
def p2_s1980 : ck_Sum := ((2, 0, 0), 245, [.inr (.inr (.inl 226)), .inl (0, 327, []), .inl (0, 4, []), .inl (ck_one 0)], ([], [], [(227, 4, 4, (0, 24, [(22, 0)]))]), ([], []), [(.inr (some (.inl ((-2147483648), 2147483647, []))), 245, ([], [], []))])
set_option maxRecDepth 100000 in
theorem p2_s1980_e : ck_ok p2_O none [] [(254, [p2_s196]), (301, [p2_s469]), (303, [p2_s473])] 333 [(6, [some (.inr (.inr (.inl 226))), some (.inl (0, 327, [])), some (.inl (0, 4, [])), some (.inl (ck_one 0)), some (.inl ((-2147483648), 2147483647, [])), some (.inl (0, 24, []))], ([], [], [(227, 4, 4, (0, 24, [(22, 0)]))]), 100, .inl 5, true)] 218 p2_s1980 = true := by decide +kernel
theorem p2_s1980_s {X : Int → Int} {LX : Nat} : ck_Ok p2_O X LX 333 p2_s1980 := ck_ok_s ⟨p2_nmu, ck_E1 (ck_S1 p2_s196_s ck_S0) (ck_E1 (ck_S1 p2_s469_s ck_S0) (ck_E1 (ck_S1 p2_s473_s ck_S0) ck_E0))⟩ ck_X0 ck_l0 p2_s1980_e
set_option maxRecDepth 100000 in
/-- GlacierMailModel.outsIn -/
def p2_s1972 : ck_Sum := ((2, 0, 0), 245, [.inr (.inr (.inl 226)), .inl (0, 327, []), .inl (ck_one 0), .inl (ck_one 0)], ([], [], [(227, 4, 4, (0, 24, [(22, 0)]))]), ([], []), [(.inr (some (.inl ((-2147483648), 2147483647, []))), 245, ([], [], []))])
set_option maxRecDepth 100000 in
theorem p2_s1972_e : ck_ok p2_O none [] [(254, [p2_s196]), (301, [p2_s469]), (303, [p2_s473])] 333 [(6, [some (.inr (.inr (.inl 226))), some (.inl (0, 327, [])), some (.inl (ck_one 0)), some (.inl (ck_one 0)), some (.inl ((-2147483648), 2147483647, [])), some (.inl (0, 24, []))], ([], [], [(227, 4, 4, (0, 24, [(22, 0)]))]), 100, .inl 5, true)] 218 p2_s1972 = true := by decide +kernel
theorem p2_s1972_s {X : Int → Int} {LX : Nat} : ck_Ok p2_O X LX 333 p2_s1972 := ck_ok_s ⟨p2_nmu, ck_E1 (ck_S1 p2_s196_s ck_S0) (ck_E1 (ck_S1 p2_s469_s ck_S0) (ck_E1 (ck_S1 p2_s473_s ck_S0) ck_E0))⟩ ck_X0 ck_l0 p2_s1972_e
set_option maxRecDepth 100000 in
/-- GlacierMailModel.outsIn -/
def p2_s1984 : ck_Sum := ((2, 0, 0), 245, [.inr (.inr (.inl 226)), .inl (0, 327, []), .inl (1, 5, []), .inl (ck_one 0)], ([], [], [(227, 4, 4, (0, 24, [(22, 0)]))]), ([], []), [(.inr (some (.inl ((-2147483648), 2147483647, []))), 245, ([], [], []))])
set_option maxRecDepth 100000 in
theorem p2_s1984_e : ck_ok p2_O none [] [(254, [p2_s196]), (301, [p2_s469]), (303, [p2_s473])] 333 [(6, [some (.inr (.inr (.inl 226))), some (.inl (0, 327, [])), some (.inl (1, 5, [])), some (.inl (ck_one 0)), some (.inl ((-2147483648), 2147483647, [])), some (.inl (0, 24, []))], ([], [], [(227, 4, 4, (0, 24, [(22, 0)]))]), 100, .inl 5, true)] 218 p2_s1984 = true := by decide +kernel
theorem p2_s1984_s {X : Int → Int} {LX : Nat} : ck_Ok p2_O X LX 333 p2_s1984 := ck_ok_s ⟨p2_nmu, ck_E1 (ck_S1 p2_s196_s ck_S0) (ck_E1 (ck_S1 p2_s469_s ck_S0) (ck_E1 (ck_S1 p2_s473_s ck_S0) ck_E0))⟩ ck_X0 ck_l0 p2_s1984_e
