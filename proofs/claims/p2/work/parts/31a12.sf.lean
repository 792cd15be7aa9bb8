/-! EVERY CALL ENDS, whatever was done before (laid by wip/am/p2g.py). -/
set_option maxRecDepth 100000 in
/-- GlacierMail.need -/
def p2_s1748 : ck_Sum := ((6, 1, 6), 245, [.inr (.inr (.inl 1)), .inl (6, 2147483647, []), .inl (0, 6, [])], ([], [], []), ([], []), [(.inl 3, 245, ([], [], []))])
set_option maxRecDepth 100000 in
theorem p2_s1748_e : ck_ok p2_O none [] [] 133 [] 82 p2_s1748 = true := by decide +kernel
theorem p2_s1748_s {X : Int → Int} {LX : Nat} : ck_Ok p2_O X LX 133 p2_s1748 := ck_ok_s ⟨p2_nmu, ck_E0⟩ ck_X0 ck_l0 p2_s1748_e
set_option maxRecDepth 100000 in
/-- GlacierMail.needTable -/
def p2_s1749 : ck_Sum := ((7, 1, 6), 245, [.inr (.inr (.inl 1)), .inl (6, 2147483647, [])], ([], [], []), ([], []), [(.inl 3, 245, ([], [], []))])
set_option maxRecDepth 100000 in
theorem p2_s1749_e : ck_ok p2_O none [] [(9, [p2_s1744]), (133, [p2_s1748])] 193 [] 84 p2_s1749 = true := by decide +kernel
theorem p2_s1749_s {X : Int → Int} {LX : Nat} : ck_Ok p2_O X LX 193 p2_s1749 := ck_ok_s ⟨p2_nmu, ck_E1 (ck_S1 p2_s1744_s ck_S0) (ck_E1 (ck_S1 p2_s1748_s ck_S0) ck_E0)⟩ ck_X0 ck_l0 p2_s1749_e
set_option maxRecDepth 100000 in
/-- GlacierMail.table -/
def p2_s1750 : ck_Sum := ((8, 1, 6), 245, [.inr (.inr (.inl 1)), .inl (6, 2147483647, []), .inl ((-2147483648), 2147483647, [])], ([], [], []), ([], []), [(.inl 3, 245, ([], [], []))])
set_option maxRecDepth 100000 in
theorem p2_s1750_e : ck_ok p2_O none [] [(193, [p2_s1749])] 192 [] 76 p2_s1750 = true := by decide +kernel
theorem p2_s1750_s {X : Int → Int} {LX : Nat} : ck_Ok p2_O X LX 192 p2_s1750 := ck_ok_s ⟨p2_nmu, ck_E1 (ck_S1 p2_s1749_s ck_S0) ck_E0⟩ ck_X0 ck_l0 p2_s1750_e
set_option maxRecDepth 100000 in
/-- GlacierMail.need -/
def p2_s1751 : ck_Sum := ((6, 1, 6), 245, [.inr (.inr (.inl 1)), .inl (0, 5, []), .inl (0, 6, [])], ([], [], []), ([], []), [(.inr none, 245, ([], [], [])), (.inl 3, 245, ([], [], []))])
set_option maxRecDepth 100000 in
theorem p2_s1751_e : ck_ok p2_O none [] [] 133 [] 82 p2_s1751 = true := by decide +kernel
theorem p2_s1751_s {X : Int → Int} {LX : Nat} : ck_Ok p2_O X LX 133 p2_s1751 := ck_ok_s ⟨p2_nmu, ck_E0⟩ ck_X0 ck_l0 p2_s1751_e
set_option maxRecDepth 100000 in
/-- GlacierMail.needTable -/
def p2_s1752 : ck_Sum := ((7, 1, 6), 245, [.inr (.inr (.inl 1)), .inl (0, 5, [])], ([], [], []), ([], []), [(.inl 3, 245, ([], [], [])), (.inr none, 245, ([], [], []))])
set_option maxRecDepth 100000 in
theorem p2_s1752_e : ck_ok p2_O none [] [(9, [p2_s1744]), (133, [p2_s1751])] 193 [] 86 p2_s1752 = true := by decide +kernel
theorem p2_s1752_s {X : Int → Int} {LX : Nat} : ck_Ok p2_O X LX 193 p2_s1752 := ck_ok_s ⟨p2_nmu, ck_E1 (ck_S1 p2_s1744_s ck_S0) (ck_E1 (ck_S1 p2_s1751_s ck_S0) ck_E0)⟩ ck_X0 ck_l0 p2_s1752_e
set_option maxRecDepth 100000 in
/-- GlacierMail.table -/
def p2_s1753 : ck_Sum := ((8, 2, 12), 245, [.inr (.inr (.inl 1)), .inl (0, 5, []), .inl ((-2147483648), (-1), [])], ([], [], []), ([], []), [(.inl 3, 245, ([], [], []))])
set_option maxRecDepth 100000 in
theorem p2_s1753_e : ck_ok p2_O none [] [(193, [p2_s1752]), (132, [p2_s293])] 192 [] 82 p2_s1753 = true := by decide +kernel
theorem p2_s1753_s {X : Int → Int} {LX : Nat} : ck_Ok p2_O X LX 192 p2_s1753 := ck_ok_s ⟨p2_nmu, ck_E1 (ck_S1 p2_s1752_s ck_S0) (ck_E1 (ck_S1 p2_s293_s ck_S0) ck_E0)⟩ ck_X0 ck_l0 p2_s1753_e
set_option maxRecDepth 100000 in
/-- GlacierMail.table -/
def p2_s1754 : ck_Sum := ((8, 2, 12), 245, [.inr (.inr (.inl 1)), .inl (0, 5, []), .inl (6, 2147483647, [])], ([], [], []), ([], []), [(.inl 3, 245, ([], [], []))])
set_option maxRecDepth 100000 in
theorem p2_s1754_e : ck_ok p2_O none [] [(193, [p2_s1752]), (132, [p2_s296])] 192 [] 82 p2_s1754 = true := by decide +kernel
theorem p2_s1754_s {X : Int → Int} {LX : Nat} : ck_Ok p2_O X LX 192 p2_s1754 := ck_ok_s ⟨p2_nmu, ck_E1 (ck_S1 p2_s1752_s ck_S0) (ck_E1 (ck_S1 p2_s296_s ck_S0) ck_E0)⟩ ck_X0 ck_l0 p2_s1754_e
set_option maxRecDepth 100000 in
/-- GlacierMail$Rows.get -/
def p2_s1755 : ck_Sum := ((0, 0, 0), 245, [.inr (.inr (.inl 12)), .inl ((-2147483648), 2147483647, []), .inl ((-2147483648), 2147483647, [])], ([], [], []), ([], []), [(.inr (some (.inl (ck_one (-1)))), 245, ([], [], [])), (.inr (some (.inl (0, 20, []))), 245, ([], [], [(12, 3, 3, (1, 6, []))]))])
set_option maxRecDepth 100000 in
theorem p2_s1755_e : ck_ok p2_O none [] [] 10 [] 114 p2_s1755 = true := by decide +kernel
theorem p2_s1755_s {X : Int → Int} {LX : Nat} : ck_Ok p2_O X LX 10 p2_s1755 := ck_ok_s ⟨p2_nmu, ck_E0⟩ ck_X0 ck_l0 p2_s1755_e
set_option maxRecDepth 100000 in
/-- GlacierMail.table -/
def p2_s1756 : ck_Sum := ((8, 2, 12), 245, [.inr (.inr (.inl 1)), .inl (0, 5, []), .inl (0, 5, [])], ([], [], []), ([], []), [(.inl 3, 245, ([], [], [])), (.inr (some (.inl (ck_one (-1)))), 245, ([], [], [])), (.inr (some (.inl (0, 20, []))), 245, ([], [], [(12, 3, 3, (1, 6, []))]))])
set_option maxRecDepth 100000 in
theorem p2_s1756_e : ck_ok p2_O none [] [(193, [p2_s1752]), (132, [p2_s299]), (10, [p2_s1755])] 192 [] 96 p2_s1756 = true := by decide +kernel
theorem p2_s1756_s {X : Int → Int} {LX : Nat} : ck_Ok p2_O X LX 192 p2_s1756 := ck_ok_s ⟨p2_nmu, ck_E1 (ck_S1 p2_s1752_s ck_S0) (ck_E1 (ck_S1 p2_s299_s ck_S0) (ck_E1 (ck_S1 p2_s1755_s ck_S0) ck_E0))⟩ ck_X0 ck_l0 p2_s1756_e
set_option maxRecDepth 100000 in
/-- GlacierMailModel.in -/
def p2_s1757 : ck_Sum := ((0, 0, 0), 245, [.inl ((-2147483648), (-1), []), .inl (ck_one 0), .inl ((-1), 5, [])], ([], [], []), ([], []), [(.inr (some (.inl (ck_one 0))), 245, ([], [], []))])
set_option maxRecDepth 100000 in
theorem p2_s1757_e : ck_ok p2_O none [] [] 286 [] 80 p2_s1757 = true := by decide +kernel
theorem p2_s1757_s {X : Int → Int} {LX : Nat} : ck_Ok p2_O X LX 286 p2_s1757 := ck_ok_s ⟨p2_nmu, ck_E0⟩ ck_X0 ck_l0 p2_s1757_e
set_option maxRecDepth 100000 in
/-- GlacierMailModel.noTable -/
def p2_s1758 : ck_Sum := ((1, 0, 0), 245, [.inr (.inr (.inl 226)), .inl ((-2147483648), (-1), [])], ([], [], [(227, 6, 6, (0, 6, [(24, 0)]))]), ([], []), [(.inr (some (.inl (ck_one 1))), 245, ([], [], []))])
set_option maxRecDepth 100000 in
theorem p2_s1758_e : ck_ok p2_O none [] [(286, [p2_s1757])] 342 [] 96 p2_s1758 = true := by decide +kernel
theorem p2_s1758_s {X : Int → Int} {LX : Nat} : ck_Ok p2_O X LX 342 p2_s1758 := ck_ok_s ⟨p2_nmu, ck_E1 (ck_S1 p2_s1757_s ck_S0) ck_E0⟩ ck_X0 ck_l0 p2_s1758_e
set_option maxRecDepth 100000 in
/-- GlacierMailModel.table -/
def p2_s1759 : ck_Sum := ((2, 0, 0), 245, [.inr (.inr (.inl 226)), .inl ((-2147483648), (-1), []), .inl ((-2147483648), 2147483647, [])], ([], [], [(227, 6, 6, (0, 6, [(24, 0)]))]), ([(226, 0, 0)], []), [(.inr (some (.inl (ck_one 0))), 245, ([], [], [(226, 0, 0, ck_one 1)]))])
set_option maxRecDepth 100000 in
theorem p2_s1759_e : ck_ok p2_O none [] [(342, [p2_s1758]), (282, [p2_s268])] 341 [] 102 p2_s1759 = true := by decide +kernel
theorem p2_s1759_s {X : Int → Int} {LX : Nat} : ck_Ok p2_O X LX 341 p2_s1759 := ck_ok_s ⟨p2_nmu, ck_E1 (ck_S1 p2_s1758_s ck_S0) (ck_E1 (ck_S1 p2_s268_s ck_S0) ck_E0)⟩ ck_X0 ck_l0 p2_s1759_e
set_option maxRecDepth 100000 in
/-- GlacierMailModel.in -/
def p2_s1760 : ck_Sum := ((0, 0, 0), 245, [.inl (6, 2147483647, []), .inl (ck_one 0), .inl ((-1), 5, [])], ([], [], []), ([], []), [(.inr (some (.inl (ck_one 0))), 245, ([], [], []))])
set_option maxRecDepth 100000 in
theorem p2_s1760_e : ck_ok p2_O none [] [] 286 [] 86 p2_s1760 = true := by decide +kernel
theorem p2_s1760_s {X : Int → Int} {LX : Nat} : ck_Ok p2_O X LX 286 p2_s1760 := ck_ok_s ⟨p2_nmu, ck_E0⟩ ck_X0 ck_l0 p2_s1760_e
set_option maxRecDepth 100000 in
/-- GlacierMailModel.noTable -/
def p2_s1761 : ck_Sum := ((1, 0, 0), 245, [.inr (.inr (.inl 226)), .inl (6, 2147483647, [])], ([], [], [(227, 6, 6, (0, 6, [(24, 0)]))]), ([], []), [(.inr (some (.inl (ck_one 1))), 245, ([], [], []))])
set_option maxRecDepth 100000 in
theorem p2_s1761_e : ck_ok p2_O none [] [(286, [p2_s1760])] 342 [] 96 p2_s1761 = true := by decide +kernel
theorem p2_s1761_s {X : Int → Int} {LX : Nat} : ck_Ok p2_O X LX 342 p2_s1761 := ck_ok_s ⟨p2_nmu, ck_E1 (ck_S1 p2_s1760_s ck_S0) ck_E0⟩ ck_X0 ck_l0 p2_s1761_e
set_option maxRecDepth 100000 in
/-- GlacierMailModel.table -/
def p2_s1762 : ck_Sum := ((2, 0, 0), 245, [.inr (.inr (.inl 226)), .inl (6, 2147483647, []), .inl ((-2147483648), 2147483647, [])], ([], [], [(227, 6, 6, (0, 6, [(24, 0)]))]), ([(226, 0, 0)], []), [(.inr (some (.inl (ck_one 0))), 245, ([], [], [(226, 0, 0, ck_one 1)]))])
set_option maxRecDepth 100000 in
theorem p2_s1762_e : ck_ok p2_O none [] [(342, [p2_s1761]), (282, [p2_s268])] 341 [] 102 p2_s1762 = true := by decide +kernel
theorem p2_s1762_s {X : Int → Int} {LX : Nat} : ck_Ok p2_O X LX 341 p2_s1762 := ck_ok_s ⟨p2_nmu, ck_E1 (ck_S1 p2_s1761_s ck_S0) (ck_E1 (ck_S1 p2_s268_s ck_S0) ck_E0)⟩ ck_X0 ck_l0 p2_s1762_e
set_option maxRecDepth 100000 in
/-- GlacierMailModel.in -/
def p2_s1763 : ck_Sum := ((0, 0, 0), 245, [.inl (0, 5, []), .inl (ck_one 0), .inl ((-1), 5, [])], ([], [], []), ([], []), [(.inr (some (.inl (ck_one 0))), 245, ([], [], [])), (.inr (some (.inl (ck_one 1))), 245, ([], [], []))])
set_option maxRecDepth 100000 in
theorem p2_s1763_e : ck_ok p2_O none [] [] 286 [] 88 p2_s1763 = true := by decide +kernel
theorem p2_s1763_s {X : Int → Int} {LX : Nat} : ck_Ok p2_O X LX 286 p2_s1763 := ck_ok_s ⟨p2_nmu, ck_E0⟩ ck_X0 ck_l0 p2_s1763_e
set_option maxRecDepth 100000 in
/-- GlacierMailModel.noTable -/
def p2_s1764 : ck_Sum := ((1, 0, 0), 245, [.inr (.inr (.inl 226)), .inl (0, 5, [])], ([], [], [(227, 6, 6, (0, 6, [(24, 0)]))]), ([], []), [(.inr (some (.inl (ck_one 1))), 245, ([], [], [])), (.inr (some (.inl (ck_one 0))), 245, ([], [], []))])
set_option maxRecDepth 100000 in
theorem p2_s1764_e : ck_ok p2_O none [] [(286, [p2_s1763])] 342 [] 96 p2_s1764 = true := by decide +kernel
theorem p2_s1764_s {X : Int → Int} {LX : Nat} : ck_Ok p2_O X LX 342 p2_s1764 := ck_ok_s ⟨p2_nmu, ck_E1 (ck_S1 p2_s1763_s ck_S0) ck_E0⟩ ck_X0 ck_l0 p2_s1764_e
set_option maxRecDepth 100000 in
/-- GlacierMailModel.table -/
def p2_s1765 : ck_Sum := ((2, 0, 0), 245, [.inr (.inr (.inl 226)), .inl (0, 5, []), .inl ((-2147483648), (-1), [])], ([], [], [(227, 6, 6, (0, 6, [(24, 0)]))]), ([(226, 0, 0)], []), [(.inr (some (.inl (ck_one 0))), 245, ([], [], [(226, 0, 0, ck_one 1)]))])
set_option maxRecDepth 100000 in
theorem p2_s1765_e : ck_ok p2_O none [] [(342, [p2_s1764]), (282, [p2_s268]), (288, [p2_s311])] 341 [] 110 p2_s1765 = true := by decide +kernel
theorem p2_s1765_s {X : Int → Int} {LX : Nat} : ck_Ok p2_O X LX 341 p2_s1765 := ck_ok_s ⟨p2_nmu, ck_E1 (ck_S1 p2_s1764_s ck_S0) (ck_E1 (ck_S1 p2_s268_s ck_S0) (ck_E1 (ck_S1 p2_s311_s ck_S0) ck_E0))⟩ ck_X0 ck_l0 p2_s1765_e
set_option maxRecDepth 100000 in
/-- GlacierMailModel.table -/
def p2_s1766 : ck_Sum := ((2, 0, 0), 245, [.inr (.inr (.inl 226)), .inl (0, 5, []), .inl (6, 2147483647, [])], ([], [], [(227, 6, 6, (0, 6, [(24, 0)]))]), ([(226, 0, 0)], []), [(.inr (some (.inl (ck_one 0))), 245, ([], [], [(226, 0, 0, ck_one 1)]))])
set_option maxRecDepth 100000 in
theorem p2_s1766_e : ck_ok p2_O none [] [(342, [p2_s1764]), (282, [p2_s268]), (288, [p2_s314])] 341 [] 110 p2_s1766 = true := by decide +kernel
theorem p2_s1766_s {X : Int → Int} {LX : Nat} : ck_Ok p2_O X LX 341 p2_s1766 := ck_ok_s ⟨p2_nmu, ck_E1 (ck_S1 p2_s1764_s ck_S0) (ck_E1 (ck_S1 p2_s268_s ck_S0) (ck_E1 (ck_S1 p2_s314_s ck_S0) ck_E0))⟩ ck_X0 ck_l0 p2_s1766_e
set_option maxRecDepth 100000 in
/-- GlacierMailModel.ofTable -/
def p2_s1767 : ck_Sum := ((0, 0, 0), 245, [.inr (.inr (.inl 226)), .inl (0, 5, []), .inl (0, 5, [])], ([], [], []), ([], []), [(.inr (some (.inl (0, 20, []))), 245, ([], [], []))])
set_option maxRecDepth 100000 in
theorem p2_s1767_e : ck_ok p2_O none [] [] 343 [] 92 p2_s1767 = true := by decide +kernel
theorem p2_s1767_s {X : Int → Int} {LX : Nat} : ck_Ok p2_O X LX 343 p2_s1767 := ck_ok_s ⟨p2_nmu, ck_E0⟩ ck_X0 ck_l0 p2_s1767_e
set_option maxRecDepth 100000 in
/-- GlacierMailModel.table -/
def p2_s1768 : ck_Sum := ((2, 0, 0), 245, [.inr (.inr (.inl 226)), .inl (0, 5, []), .inl (0, 5, [])], ([], [], [(227, 6, 6, (0, 6, [(24, 0)]))]), ([(226, 0, 0)], []), [(.inr (some (.inl (0, 20, []))), 245, ([], [], [(226, 0, 0, (0, 1, []))]))])
set_option maxRecDepth 100000 in
theorem p2_s1768_e : ck_ok p2_O none [] [(342, [p2_s1764]), (282, [p2_s268, p2_s269]), (288, [p2_s317]), (343, [p2_s1767])] 341 [] 112 p2_s1768 = true := by decide +kernel
theorem p2_s1768_s {X : Int → Int} {LX : Nat} : ck_Ok p2_O X LX 341 p2_s1768 := ck_ok_s ⟨p2_nmu, ck_E1 (ck_S1 p2_s1764_s ck_S0) (ck_E1 (ck_S1 p2_s268_s (ck_S1 p2_s269_s ck_S0)) (ck_E1 (ck_S1 p2_s317_s ck_S0) (ck_E1 (ck_S1 p2_s1767_s ck_S0) ck_E0)))⟩ ck_X0 ck_l0 p2_s1768_e
set_option maxRecDepth 100000 in
/-- GlacierMail.apart -/
def p2_s1769 : ck_Sum := ((8, 1, 6), 245, [.inr (.inr (.inl 1)), .inl ((-2147483648), (-1), []), .inl ((-2147483648), 2147483647, []), .inl ((-2147483648), 2147483647, [])], ([], [], []), ([], []), [(.inl 3, 245, ([], [], []))])
set_option maxRecDepth 100000 in
theorem p2_s1769_e : ck_ok p2_O none [] [(193, [p2_s1746])] 195 [] 76 p2_s1769 = true := by decide +kernel
theorem p2_s1769_s {X : Int → Int} {LX : Nat} : ck_Ok p2_O X LX 195 p2_s1769 := ck_ok_s ⟨p2_nmu, ck_E1 (ck_S1 p2_s1746_s ck_S0) ck_E0⟩ ck_X0 ck_l0 p2_s1769_e
set_option maxRecDepth 100000 in
/-- GlacierMail.apart -/
def p2_s1770 : ck_Sum := ((8, 1, 6), 245, [.inr (.inr (.inl 1)), .inl (6, 2147483647, []), .inl ((-2147483648), 2147483647, []), .inl ((-2147483648), 2147483647, [])], ([], [], []), ([], []), [(.inl 3, 245, ([], [], []))])
set_option maxRecDepth 100000 in
theorem p2_s1770_e : ck_ok p2_O none [] [(193, [p2_s1749])] 195 [] 76 p2_s1770 = true := by decide +kernel
theorem p2_s1770_s {X : Int → Int} {LX : Nat} : ck_Ok p2_O X LX 195 p2_s1770 := ck_ok_s ⟨p2_nmu, ck_E1 (ck_S1 p2_s1749_s ck_S0) ck_E0⟩ ck_X0 ck_l0 p2_s1770_e
set_option maxRecDepth 100000 in
/-- GlacierMail.apart -/
def p2_s1771 : ck_Sum := ((8, 2, 12), 245, [.inr (.inr (.inl 1)), .inl (0, 5, []), .inl ((-2147483648), (-1), []), .inl ((-2147483648), 2147483647, [])], ([], [], []), ([], []), [(.inl 3, 245, ([], [], []))])
set_option maxRecDepth 100000 in
theorem p2_s1771_e : ck_ok p2_O none [] [(193, [p2_s1752, p2_s1746])] 195 [] 82 p2_s1771 = true := by decide +kernel
theorem p2_s1771_s {X : Int → Int} {LX : Nat} : ck_Ok p2_O X LX 195 p2_s1771 := ck_ok_s ⟨p2_nmu, ck_E1 (ck_S1 p2_s1752_s (ck_S1 p2_s1746_s ck_S0)) ck_E0⟩ ck_X0 ck_l0 p2_s1771_e
set_option maxRecDepth 100000 in
/-- GlacierMail.apart -/
def p2_s1772 : ck_Sum := ((8, 2, 12), 245, [.inr (.inr (.inl 1)), .inl (0, 5, []), .inl (6, 2147483647, []), .inl ((-2147483648), 2147483647, [])], ([], [], []), ([], []), [(.inl 3, 245, ([], [], []))])
set_option maxRecDepth 100000 in
theorem p2_s1772_e : ck_ok p2_O none [] [(193, [p2_s1752, p2_s1749])] 195 [] 82 p2_s1772 = true := by decide +kernel
theorem p2_s1772_s {X : Int → Int} {LX : Nat} : ck_Ok p2_O X LX 195 p2_s1772 := ck_ok_s ⟨p2_nmu, ck_E1 (ck_S1 p2_s1752_s (ck_S1 p2_s1749_s ck_S0)) ck_E0⟩ ck_X0 ck_l0 p2_s1772_e
set_option maxRecDepth 100000 in
/-- GlacierMail.toldApart -/
def p2_s1773 : ck_Sum := ((1, 0, 0), 245, [.inr (.inr (.inl 1)), .inl (0, 5, []), .inl (0, 5, []), .inl ((-2147483648), 2147483647, [])], ([], [], []), ([], []), [(.inr (some (.inl (ck_one 0))), 245, ([], [], [])), (.inr (some (.inl (ck_one 1))), 245, ([], [], [(12, 3, 3, (1, 6, []))]))])
set_option maxRecDepth 100000 in
theorem p2_s1773_e : ck_ok p2_O none [] [(10, [p2_s1755])] 51 [(3, [some (.inr (.inr (.inl 1))), some (.inl (0, 5, [])), some (.inl (0, 5, [])), some (.inl ((-2147483648), 2147483647, [])), some (.inl (0, 6, []))], ([], [], []), 100, .inl 4, true)] 202 p2_s1773 = true := by decide +kernel
theorem p2_s1773_s {X : Int → Int} {LX : Nat} : ck_Ok p2_O X LX 51 p2_s1773 := ck_ok_s ⟨p2_nmu, ck_E1 (ck_S1 p2_s1755_s ck_S0) ck_E0⟩ ck_X0 ck_l0 p2_s1773_e
set_option maxRecDepth 100000 in
/-- GlacierMail.apart -/
def p2_s1774 : ck_Sum := ((8, 2, 12), 245, [.inr (.inr (.inl 1)), .inl (0, 5, []), .inl (0, 5, []), .inl ((-2147483648), 2147483647, [])], ([], [], []), ([], []), [(.inl 3, 245, ([], [], [])), (.inr (some (.inl (ck_one 0))), 245, ([], [], [])), (.inr (some (.inl (ck_one 1))), 245, ([], [], [(12, 3, 3, (1, 6, []))]))])
set_option maxRecDepth 100000 in
theorem p2_s1774_e : ck_ok p2_O none [] [(193, [p2_s1752]), (51, [p2_s1773])] 195 [] 94 p2_s1774 = true := by decide +kernel
theorem p2_s1774_s {X : Int → Int} {LX : Nat} : ck_Ok p2_O X LX 195 p2_s1774 := ck_ok_s ⟨p2_nmu, ck_E1 (ck_S1 p2_s1752_s ck_S0) (ck_E1 (ck_S1 p2_s1773_s ck_S0) ck_E0)⟩ ck_X0 ck_l0 p2_s1774_e
set_option maxRecDepth 100000 in
/-- GlacierMailModel.apart -/
def p2_s1775 : ck_Sum := ((2, 0, 0), 245, [.inr (.inr (.inl 226)), .inl ((-2147483648), (-1), []), .inl ((-2147483648), 2147483647, []), .inl ((-2147483648), 2147483647, [])], ([], [], [(227, 6, 6, (0, 6, [(24, 0)]))]), ([(226, 0, 0)], []), [(.inr (some (.inl (ck_one 0))), 245, ([], [], [(226, 0, 0, ck_one 1)]))])
set_option maxRecDepth 100000 in
theorem p2_s1775_e : ck_ok p2_O none [] [(342, [p2_s1758]), (282, [p2_s268])] 344 [] 100 p2_s1775 = true := by decide +kernel
theorem p2_s1775_s {X : Int → Int} {LX : Nat} : ck_Ok p2_O X LX 344 p2_s1775 := ck_ok_s ⟨p2_nmu, ck_E1 (ck_S1 p2_s1758_s ck_S0) (ck_E1 (ck_S1 p2_s268_s ck_S0) ck_E0)⟩ ck_X0 ck_l0 p2_s1775_e
set_option maxRecDepth 100000 in
/-- GlacierMailModel.apart -/
def p2_s1776 : ck_Sum := ((2, 0, 0), 245, [.inr (.inr (.inl 226)), .inl (6, 2147483647, []), .inl ((-2147483648), 2147483647, []), .inl ((-2147483648), 2147483647, [])], ([], [], [(227, 6, 6, (0, 6, [(24, 0)]))]), ([(226, 0, 0)], []), [(.inr (some (.inl (ck_one 0))), 245, ([], [], [(226, 0, 0, ck_one 1)]))])
set_option maxRecDepth 100000 in
theorem p2_s1776_e : ck_ok p2_O none [] [(342, [p2_s1761]), (282, [p2_s268])] 344 [] 100 p2_s1776 = true := by decide +kernel
theorem p2_s1776_s {X : Int → Int} {LX : Nat} : ck_Ok p2_O X LX 344 p2_s1776 := ck_ok_s ⟨p2_nmu, ck_E1 (ck_S1 p2_s1761_s ck_S0) (ck_E1 (ck_S1 p2_s268_s ck_S0) ck_E0)⟩ ck_X0 ck_l0 p2_s1776_e
set_option maxRecDepth 100000 in
/-- GlacierMailModel.apart -/
def p2_s1777 : ck_Sum := ((2, 0, 0), 245, [.inr (.inr (.inl 226)), .inl (0, 5, []), .inl ((-2147483648), (-1), []), .inl ((-2147483648), 2147483647, [])], ([], [], [(227, 6, 6, (0, 6, [(24, 0)]))]), ([(226, 0, 0)], []), [(.inr (some (.inl (ck_one 0))), 245, ([], [], [(226, 0, 0, ck_one 1)]))])
set_option maxRecDepth 100000 in
theorem p2_s1777_e : ck_ok p2_O none [] [(342, [p2_s1764, p2_s1758]), (282, [p2_s268])] 344 [] 108 p2_s1777 = true := by decide +kernel
theorem p2_s1777_s {X : Int → Int} {LX : Nat} : ck_Ok p2_O X LX 344 p2_s1777 := ck_ok_s ⟨p2_nmu, ck_E1 (ck_S1 p2_s1764_s (ck_S1 p2_s1758_s ck_S0)) (ck_E1 (ck_S1 p2_s268_s ck_S0) ck_E0)⟩ ck_X0 ck_l0 p2_s1777_e
set_option maxRecDepth 100000 in
/-- GlacierMailModel.apart -/
def p2_s1778 : ck_Sum := ((2, 0, 0), 245, [.inr (.inr (.inl 226)), .inl (0, 5, []), .inl (6, 2147483647, []), .inl ((-2147483648), 2147483647, [])], ([], [], [(227, 6, 6, (0, 6, [(24, 0)]))]), ([(226, 0, 0)], []), [(.inr (some (.inl (ck_one 0))), 245, ([], [], [(226, 0, 0, ck_one 1)]))])
set_option maxRecDepth 100000 in
theorem p2_s1778_e : ck_ok p2_O none [] [(342, [p2_s1764, p2_s1761]), (282, [p2_s268])] 344 [] 108 p2_s1778 = true := by decide +kernel
theorem p2_s1778_s {X : Int → Int} {LX : Nat} : ck_Ok p2_O X LX 344 p2_s1778 := ck_ok_s ⟨p2_nmu, ck_E1 (ck_S1 p2_s1764_s (ck_S1 p2_s1761_s ck_S0)) (ck_E1 (ck_S1 p2_s268_s ck_S0) ck_E0)⟩ ck_X0 ck_l0 p2_s1778_e
set_option maxRecDepth 100000 in
/-- GlacierMailModel.has -/
def p2_s1779 : ck_Sum := ((0, 0, 0), 245, [.inl ((-2147483648), 2147483647, []), .inl (0, 5, [])], ([], [], []), ([], []), [(.inr (some (.inl (ck_one 0))), 245, ([], [], [])), (.inr (some (.inl (ck_one 1))), 245, ([], [], []))])
set_option maxRecDepth 100000 in
theorem p2_s1779_e : ck_ok p2_O none [] [] 346 [] 90 p2_s1779 = true := by decide +kernel
theorem p2_s1779_s {X : Int → Int} {LX : Nat} : ck_Ok p2_O X LX 346 p2_s1779 := ck_ok_s ⟨p2_nmu, ck_E0⟩ ck_X0 ck_l0 p2_s1779_e
set_option maxRecDepth 100000 in
/-- GlacierMailModel.areApart -/
def p2_s1784 : ck_Sum := ((1, 0, 0), 245, [.inr (.inr (.inl 226)), .inl (0, 5, []), .inl (0, 5, []), .inl ((-2147483648), 2147483647, [])], ([], [], []), ([], []), [(.inr (some (.inl (0, 1, []))), 245, ([], [], []))])
set_option maxRecDepth 100000 in
theorem p2_s1784_e : ck_ok p2_O none [] [(261, [p2_s184]), (346, [p2_s1779]), (343, [p2_s1767])] 345 [(6, [some (.inr (.inr (.inl 226))), some (.inl (0, 5, [])), some (.inl (0, 5, [])), some (.inl ((-2147483648), 2147483647, [])), some (.inl (0, 1, [])), some (.inl (0, 6, []))], ([], [], []), 100, .inl 5, true)] 190 p2_s1784 = true := by decide +kernel
theorem p2_s1784_s {X : Int → Int} {LX : Nat} : ck_Ok p2_O X LX 345 p2_s1784 := ck_ok_s ⟨p2_nmu, ck_E1 (ck_S1 p2_s184_s ck_S0) (ck_E1 (ck_S1 p2_s1779_s ck_S0) (ck_E1 (ck_S1 p2_s1767_s ck_S0) ck_E0))⟩ ck_X0 ck_l0 p2_s1784_e
set_option maxRecDepth 100000 in
/-- GlacierMailModel.apart -/
def p2_s1785 : ck_Sum := ((2, 0, 0), 245, [.inr (.inr (.inl 226)), .inl (0, 5, []), .inl (0, 5, []), .inl ((-2147483648), 2147483647, [])], ([], [], [(227, 6, 6, (0, 6, [(24, 0)]))]), ([(226, 0, 0)], []), [(.inr (some (.inl (ck_one 0))), 245, ([], [], [(226, 0, 0, (0, 1, []))])), (.inr (some (.inl (ck_one 1))), 245, ([], [], [(226, 0, 0, ck_one 0)]))])
set_option maxRecDepth 100000 in
theorem p2_s1785_e : ck_ok p2_O none [] [(342, [p2_s1764]), (282, [p2_s268, p2_s269]), (345, [p2_s1784])] 344 [] 120 p2_s1785 = true := by decide +kernel
theorem p2_s1785_s {X : Int → Int} {LX : Nat} : ck_Ok p2_O X LX 344 p2_s1785 := ck_ok_s ⟨p2_nmu, ck_E1 (ck_S1 p2_s1764_s ck_S0) (ck_E1 (ck_S1 p2_s268_s (ck_S1 p2_s269_s ck_S0)) (ck_E1 (ck_S1 p2_s1784_s ck_S0) ck_E0))⟩ ck_X0 ck_l0 p2_s1785_e
set_option maxRecDepth 100000 in
/-- GlacierMail.allToldApart -/
def p2_s1786 : ck_Sum := ((2, 0, 0), 245, [.inr (.inr (.inl 1)), .inl ((-2147483648), 2147483647, [])], ([], [], []), ([], []), [(.inr (some (.inl (ck_one 1))), 245, ([], [], [])), (.inr (some (.inl (ck_one 0))), 245, ([], [], []))])
set_option maxRecDepth 100000 in
theorem p2_s1786_e : ck_ok p2_O none [] [(9, [p2_s1744]), (51, [p2_s1773])] 50 [(2, [some (.inr (.inr (.inl 1))), some (.inl ((-2147483648), 2147483647, [])), some (.inl (0, 6, [])), none], ([], [], []), 100, .inl 2, true), (20, [some (.inr (.inr (.inl 1))), some (.inl ((-2147483648), 2147483647, [])), some (.inl (0, 5, [(100, 0)])), some (.inl (1, 6, []))], ([], [], []), 300, .inl 3, true)] 200 p2_s1786 = true := by decide +kernel
theorem p2_s1786_s {X : Int → Int} {LX : Nat} : ck_Ok p2_O X LX 50 p2_s1786 := ck_ok_s ⟨p2_nmu, ck_E1 (ck_S1 p2_s1744_s ck_S0) (ck_E1 (ck_S1 p2_s1773_s ck_S0) ck_E0)⟩ ck_X0 ck_l0 p2_s1786_e
set_option maxRecDepth 100000 in
/-- java/lang/Integer.bitCount -/
def p2_s1787 : ck_Sum := ((0, 0, 0), 245, [.inl ((-2147483648), 2147483647, [])], ([], [], []), ([], []), [(.inr (some (.inl (0, 63, []))), 245, ([], [], []))])
set_option maxRecDepth 100000 in
theorem p2_s1787_e : ck_ok p2_O none [] [] 49 [] 154 p2_s1787 = true := by decide +kernel
theorem p2_s1787_s {X : Int → Int} {LX : Nat} : ck_Ok p2_O X LX 49 p2_s1787 := ck_ok_s ⟨p2_nmu, ck_E0⟩ ck_X0 ck_l0 p2_s1787_e
set_option maxRecDepth 100000 in
/-- GlacierMail.poles -/
def p2_s1788 : ck_Sum := ((3, 0, 0), 245, [.inr (.inr (.inl 1))], ([], [], []), ([], []), [(.inr (some (.inl ((-1), 2147483646, []))), 245, ([], [], []))])
set_option maxRecDepth 100000 in
theorem p2_s1788_e : ck_ok p2_O none [] [(50, [p2_s1786]), (49, [p2_s1787])] 48 [(4, [some (.inr (.inr (.inl 1))), some (.inl ((-1), 2147483646, [])), some (.inl (0, 2147483647, [])), none], ([], [], []), 100, .inl 2, true)] 206 p2_s1788 = true := by decide +kernel
theorem p2_s1788_s {X : Int → Int} {LX : Nat} : ck_Ok p2_O X LX 48 p2_s1788 := ck_ok_s ⟨p2_nmu, ck_E1 (ck_S1 p2_s1786_s ck_S0) (ck_E1 (ck_S1 p2_s1787_s ck_S0) ck_E0)⟩ ck_X0 ck_l0 p2_s1788_e
set_option maxRecDepth 100000 in
/-- GlacierMailModel.poles -/
def p2_s1789 : ck_Sum := ((2, 0, 0), 245, [.inr (.inr (.inl 226))], ([], [], [(227, 6, 6, (0, 6, [(24, 0)]))]), ([(226, 0, 0)], []), [(.inr (some (.inl ((-1), 2147483646, []))), 245, ([], [], [(226, 0, 0, ck_one 0)]))])
set_option maxRecDepth 100000 in
theorem p2_s1789_e : ck_ok p2_O none [] [(261, [p2_s184]), (49, [p2_s1787]), (345, [p2_s1784])] 347 [(9, [some (.inr (.inr (.inl 226))), some (.inl ((-1), 2147483646, [])), some (.inl (0, 2147483647, [])), none, none, none], ([], [], [(226, 0, 0, ck_one 0), (227, 6, 6, (0, 6, [(24, 0)]))]), 100, .inl 2, true), (43, [some (.inr (.inr (.inl 226))), some (.inl ((-1), 2147483646, [])), some (.inl (0, 2147483646, [(100, 0)])), some (.inl (0, 1, [])), some (.inl (0, 6, [])), none], ([], [], [(226, 0, 0, ck_one 0), (227, 6, 6, (0, 6, [(24, 0)]))]), 300, .inl 4, true), (58, [some (.inr (.inr (.inl 226))), some (.inl ((-1), 2147483646, [])), some (.inl (0, 2147483646, [(100, 0)])), some (.inl (0, 1, [])), some (.inl (0, 5, [(300, 0)])), some (.inl (0, 5, []))], ([], [], [(227, 6, 6, (1, 6, [(24, 0)])), (226, 0, 0, ck_one 0)]), 500, .inl 5, true)] 282 p2_s1789 = true := by decide +kernel
theorem p2_s1789_s {X : Int → Int} {LX : Nat} : ck_Ok p2_O X LX 347 p2_s1789 := ck_ok_s ⟨p2_nmu, ck_E1 (ck_S1 p2_s184_s ck_S0) (ck_E1 (ck_S1 p2_s1787_s ck_S0) (ck_E1 (ck_S1 p2_s1784_s ck_S0) ck_E0))⟩ ck_X0 ck_l0 p2_s1789_e
set_option maxRecDepth 100000 in
/-- GlacierMail.areReadings -/
def p2_s1790 : ck_Sum := ((0, 0, 0), 245, [.inr (.inr (.inl 1)), .inl (0, 400, [])], ([], [], []), ([], []), [(.inr (some (.inl (ck_one 0))), 245, ([], [], [])), (.inr (some (.inl (ck_one 1))), 245, ([], [], []))])
set_option maxRecDepth 100000 in
theorem p2_s1790_e : ck_ok p2_O none [] [] 198 [(10, [some (.inr (.inr (.inl 1))), some (.inl (0, 400, [])), some (.inl (0, 400, [])), none, none], ([], [], []), 100, .inl 2, true)] 302 p2_s1790 = true := by decide +kernel
theorem p2_s1790_s {X : Int → Int} {LX : Nat} : ck_Ok p2_O X LX 198 p2_s1790 := ck_ok_s ⟨p2_nmu, ck_E0⟩ ck_X0 ck_l0 p2_s1790_e
set_option maxRecDepth 100000 in
/-- GlacierMail.fitsReadings -/
def p2_s1795 : ck_Sum := ((1, 0, 0), 245, [.inr (.inr (.inl 1)), .inl (0, 5, []), .inl (0, 400, [])], ([], [], []), ([], []), [(.inr (some (.inl (ck_one 1))), 245, ([], [], [])), (.inr (some (.inl (ck_one 0))), 245, ([], [], []))])
set_option maxRecDepth 100000 in
theorem p2_s1795_e : ck_ok p2_O none [] [(10, [p2_s1755])] 199 [(2, [some (.inr (.inr (.inl 1))), some (.inl (0, 5, [])), some (.inl (0, 400, [])), some (.inl (0, 400, []))], ([], [], []), 100, .inl 3, true)] 214 p2_s1795 = true := by decide +kernel
theorem p2_s1795_s {X : Int → Int} {LX : Nat} : ck_Ok p2_O X LX 199 p2_s1795 := ck_ok_s ⟨p2_nmu, ck_E1 (ck_S1 p2_s1755_s ck_S0) ck_E0⟩ ck_X0 ck_l0 p2_s1795_e
set_option maxRecDepth 100000 in
/-- GlacierMail.fit -/
def p2_s1796 : ck_Sum := ((6, 1, 6), 245, [.inr (.inr (.inl 1))], ([], [], [(1, 1, 1, (0, 400, [(6, 0)]))]), ([(1, 1, 1)], []), [(.inl 0, 245, ([], [], [(1, 1, 1, ck_one 0)])), (.inr (some (.inl ((-2147483648), 2147483647, []))), 245, ([], [], [(1, 1, 1, ck_one 0)]))])
set_option maxRecDepth 100000 in
theorem p2_s1796_e : ck_ok p2_O none [] [(198, [p2_s1790]), (9, [p2_s1744]), (199, [p2_s1795])] 197 [(33, [some (.inr (.inr (.inl 1))), some (.inl (0, 400, [(6, 0)])), some (.inl ((-2147483648), 2147483647, [])), some (.inl (0, 6, []))], ([], [], [(1, 1, 1, ck_one 0)]), 100, .inl 3, true)] 170 p2_s1796 = true := by decide +kernel
theorem p2_s1796_s {X : Int → Int} {LX : Nat} : ck_Ok p2_O X LX 197 p2_s1796 := ck_ok_s ⟨p2_nmu, ck_E1 (ck_S1 p2_s1790_s ck_S0) (ck_E1 (ck_S1 p2_s1744_s ck_S0) (ck_E1 (ck_S1 p2_s1795_s ck_S0) ck_E0))⟩ ck_X0 ck_l0 p2_s1796_e
set_option maxRecDepth 100000 in
/-- GlacierMailModel.in -/
def p2_s1797 : ck_Sum := ((0, 0, 0), 245, [.inl ((-128), 127, []), .inl (ck_one 0), .inl (0, 5, [])], ([], [], []), ([], []), [(.inr (some (.inl (ck_one 0))), 245, ([], [], [])), (.inr (some (.inl (ck_one 1))), 245, ([], [], []))])
set_option maxRecDepth 100000 in
theorem p2_s1797_e : ck_ok p2_O none [] [] 286 [] 88 p2_s1797 = true := by decide +kernel
theorem p2_s1797_s {X : Int → Int} {LX : Nat} : ck_Ok p2_O X LX 286 p2_s1797 := ck_ok_s ⟨p2_nmu, ck_E0⟩ ck_X0 ck_l0 p2_s1797_e
set_option maxRecDepth 100000 in
/-- GlacierMailModel.noLane -/
def p2_s1798 : ck_Sum := ((1, 0, 0), 245, [.inr (.inr (.inl 226)), .inl ((-128), 127, [])], ([], [], []), ([], []), [(.inr (some (.inl (ck_one 1))), 245, ([], [], [])), (.inr (some (.inl (ck_one 0))), 245, ([], [], []))])
set_option maxRecDepth 100000 in
theorem p2_s1798_e : ck_ok p2_O none [] [(261, [p2_s184]), (286, [p2_s1797])] 288 [] 92 p2_s1798 = true := by decide +kernel
theorem p2_s1798_s {X : Int → Int} {LX : Nat} : ck_Ok p2_O X LX 288 p2_s1798 := ck_ok_s ⟨p2_nmu, ck_E1 (ck_S1 p2_s184_s ck_S0) (ck_E1 (ck_S1 p2_s1797_s ck_S0) ck_E0)⟩ ck_X0 ck_l0 p2_s1798_e
set_option maxRecDepth 100000 in
/-- GlacierMailModel.in -/
def p2_s1799 : ck_Sum := ((0, 0, 0), 245, [.inl ((-128), 127, []), .inl (ck_one 0), .inl (ck_one 20)], ([], [], []), ([], []), [(.inr (some (.inl (ck_one 0))), 245, ([], [], [])), (.inr (some (.inl (ck_one 1))), 245, ([], [], []))])
set_option maxRecDepth 100000 in
theorem p2_s1799_e : ck_ok p2_O none [] [] 286 [] 88 p2_s1799 = true := by decide +kernel
theorem p2_s1799_s {X : Int → Int} {LX : Nat} : ck_Ok p2_O X LX 286 p2_s1799 := ck_ok_s ⟨p2_nmu, ck_E0⟩ ck_X0 ck_l0 p2_s1799_e
set_option maxRecDepth 100000 in
/-- GlacierMailModel.ofTable -/
def p2_s1805 : ck_Sum := ((0, 0, 0), 245, [.inr (.inr (.inl 226)), .inl (0, 5, []), .inl ((-128), 127, [])], ([], [], []), ([], []), [(.inr (some (.inl ((-1), 299, []))), 245, ([], [], []))])
set_option maxRecDepth 100000 in
theorem p2_s1805_e : ck_ok p2_O none [] [] 343 [] 92 p2_s1805 = true := by decide +kernel
theorem p2_s1805_s {X : Int → Int} {LX : Nat} : ck_Ok p2_O X LX 343 p2_s1805 := ck_ok_s ⟨p2_nmu, ck_E0⟩ ck_X0 ck_l0 p2_s1805_e
set_option maxRecDepth 100000 in
/-- GlacierMail.soonest -/
def p2_s1807 : ck_Sum := ((8, 1, 6), 245, [.inr (.inr (.inl 1)), .inl ((-2147483648), (-1), []), .inl ((-2147483648), 2147483647, []), .inl (0, 1, [])], ([], [], []), ([], []), [(.inl 3, 245, ([], [], []))])
set_option maxRecDepth 100000 in
theorem p2_s1807_e : ck_ok p2_O none [] [(139, [p2_s350])] 201 [] 76 p2_s1807 = true := by decide +kernel
theorem p2_s1807_s {X : Int → Int} {LX : Nat} : ck_Ok p2_O X LX 201 p2_s1807 := ck_ok_s ⟨p2_nmu, ck_E1 (ck_S1 p2_s350_s ck_S0) ck_E0⟩ ck_X0 ck_l0 p2_s1807_e
set_option maxRecDepth 100000 in
/-- GlacierMail.soonest -/
def p2_s1808 : ck_Sum := ((8, 1, 6), 245, [.inr (.inr (.inl 1)), .inl (8, 2147483647, []), .inl ((-2147483648), 2147483647, []), .inl (0, 1, [])], ([], [], []), ([], []), [(.inl 3, 245, ([], [], []))])
set_option maxRecDepth 100000 in
theorem p2_s1808_e : ck_ok p2_O none [] [(139, [p2_s353])] 201 [] 76 p2_s1808 = true := by decide +kernel
theorem p2_s1808_s {X : Int → Int} {LX : Nat} : ck_Ok p2_O X LX 201 p2_s1808 := ck_ok_s ⟨p2_nmu, ck_E1 (ck_S1 p2_s353_s ck_S0) ck_E0⟩ ck_X0 ck_l0 p2_s1808_e
set_option maxRecDepth 100000 in
/-- GlacierMail.soonest -/
def p2_s1809 : ck_Sum := ((8, 2, 12), 245, [.inr (.inr (.inl 1)), .inl (0, 7, []), .inl ((-2147483648), (-1), []), .inl (0, 1, [])], ([], [], []), ([], []), [(.inl 3, 245, ([], [], []))])
set_option maxRecDepth 100000 in
theorem p2_s1809_e : ck_ok p2_O none [] [(139, [p2_s356, p2_s350])] 201 [] 82 p2_s1809 = true := by decide +kernel
theorem p2_s1809_s {X : Int → Int} {LX : Nat} : ck_Ok p2_O X LX 201 p2_s1809 := ck_ok_s ⟨p2_nmu, ck_E1 (ck_S1 p2_s356_s (ck_S1 p2_s350_s ck_S0)) ck_E0⟩ ck_X0 ck_l0 p2_s1809_e
set_option maxRecDepth 100000 in
/-- GlacierMail.soonest -/
def p2_s1810 : ck_Sum := ((8, 2, 12), 245, [.inr (.inr (.inl 1)), .inl (0, 7, []), .inl (8, 2147483647, []), .inl (0, 1, [])], ([], [], []), ([], []), [(.inl 3, 245, ([], [], []))])
set_option maxRecDepth 100000 in
theorem p2_s1810_e : ck_ok p2_O none [] [(139, [p2_s356, p2_s353])] 201 [] 82 p2_s1810 = true := by decide +kernel
theorem p2_s1810_s {X : Int → Int} {LX : Nat} : ck_Ok p2_O X LX 201 p2_s1810 := ck_ok_s ⟨p2_nmu, ck_E1 (ck_S1 p2_s356_s (ck_S1 p2_s353_s ck_S0)) ck_E0⟩ ck_X0 ck_l0 p2_s1810_e
set_option maxRecDepth 100000 in
/-- java/util/Arrays.fill -/
def p2_s1811 : ck_Sum := ((0, 0, 0), 245, [.inr (.inr (.inl 210)), .inl (ck_one 0)], ([], [], []), ([(210, 0, 2399)], []), [(.inr none, 245, ([], [], []))])
set_option maxRecDepth 100000 in
theorem p2_s1811_e : ck_ok p2_O none [] [] 8 [(5, [some (.inr (.inr (.inl 210))), some (.inl (ck_one 0)), some (.inl (0, 2400, [])), some (.inl (ck_one 2400))], ([], [], []), 100, .inl 2, true)] 130 p2_s1811 = true := by decide +kernel
theorem p2_s1811_s {X : Int → Int} {LX : Nat} : ck_Ok p2_O X LX 8 p2_s1811 := ck_ok_s ⟨p2_nmu, ck_E0⟩ ck_X0 ck_l0 p2_s1811_e
set_option maxRecDepth 100000 in
/-- GlacierMail$Rows.reset -/
def p2_s1812 : ck_Sum := ((1, 0, 0), 245, [.inr (.inr (.inl 209)), .inl (0, 8, [])], ([], [], []), ([(209, 3, 3), (210, 0, 2399)], []), [(.inr none, 245, ([], [], []))])
set_option maxRecDepth 100000 in
theorem p2_s1812_e : ck_ok p2_O none [] [(8, [p2_s1811])] 25 [] 96 p2_s1812 = true := by decide +kernel
theorem p2_s1812_s {X : Int → Int} {LX : Nat} : ck_Ok p2_O X LX 25 p2_s1812 := ck_ok_s ⟨p2_nmu, ck_E1 (ck_S1 p2_s1811_s ck_S0) ck_E0⟩ ck_X0 ck_l0 p2_s1812_e
set_option maxRecDepth 100000 in
/-- java/util/Arrays.fill -/
def p2_s1813 : ck_Sum := ((0, 0, 0), 245, [.inr (.inr (.inl 212)), .inl (ck_one 0)], ([], [], []), ([(212, 0, 2399)], []), [(.inr none, 245, ([], [], []))])
set_option maxRecDepth 100000 in
theorem p2_s1813_e : ck_ok p2_O none [] [] 8 [(5, [some (.inr (.inr (.inl 212))), some (.inl (ck_one 0)), some (.inl (0, 2400, [])), some (.inl (ck_one 2400))], ([], [], []), 100, .inl 2, true)] 130 p2_s1813 = true := by decide +kernel
theorem p2_s1813_s {X : Int → Int} {LX : Nat} : ck_Ok p2_O X LX 8 p2_s1813 := ck_ok_s ⟨p2_nmu, ck_E0⟩ ck_X0 ck_l0 p2_s1813_e
set_option maxRecDepth 100000 in
/-- GlacierMail$Rows.reset -/
def p2_s1814 : ck_Sum := ((1, 0, 0), 245, [.inr (.inr (.inl 211)), .inl (0, 8, [])], ([], [], []), ([(211, 3, 3), (212, 0, 2399)], []), [(.inr none, 245, ([], [], []))])
set_option maxRecDepth 100000 in
theorem p2_s1814_e : ck_ok p2_O none [] [(8, [p2_s1813])] 25 [] 96 p2_s1814 = true := by decide +kernel
theorem p2_s1814_s {X : Int → Int} {LX : Nat} : ck_Ok p2_O X LX 25 p2_s1814 := ck_ok_s ⟨p2_nmu, ck_E1 (ck_S1 p2_s1813_s ck_S0) ck_E0⟩ ck_X0 ck_l0 p2_s1814_e
set_option maxRecDepth 100000 in
/-- GlacierMail$Rows.get -/
def p2_s1816 : ck_Sum := ((0, 0, 0), 245, [.inr (.inr (.inl 209)), .inl ((-2147483648), 2147483647, []), .inl ((-2147483648), 2147483647, [])], ([], [], []), ([], []), [(.inr (some (.inl ((-2147483648), 2147483647, []))), 245, ([], [], []))])
set_option maxRecDepth 100000 in
theorem p2_s1816_e : ck_ok p2_O none [] [] 10 [] 114 p2_s1816 = true := by decide +kernel
theorem p2_s1816_s {X : Int → Int} {LX : Nat} : ck_Ok p2_O X LX 10 p2_s1816 := ck_ok_s ⟨p2_nmu, ck_E0⟩ ck_X0 ck_l0 p2_s1816_e
set_option maxRecDepth 100000 in
/-- GlacierMail$Rows.put -/
def p2_s1815 : ck_Sum := ((0, 0, 0), 245, [.inr (.inr (.inl 211)), .inl (0, 7, []), .inl (0, 299, []), .inl ((-2147483648), 299, [])], ([], [], []), ([(212, 0, 2399)], []), [(.inr none, 245, ([], [], []))])
set_option maxRecDepth 100000 in
theorem p2_s1815_e : ck_ok p2_O none [] [] 45 [] 116 p2_s1815 = true := by decide +kernel
theorem p2_s1815_s {X : Int → Int} {LX : Nat} : ck_Ok p2_O X LX 45 p2_s1815 := ck_ok_s ⟨p2_nmu, ck_E0⟩ ck_X0 ck_l0 p2_s1815_e
set_option maxRecDepth 100000 in
/-- GlacierMail$Rows.put -/
def p2_s1824 : ck_Sum := ((0, 0, 0), 245, [.inr (.inr (.inl 209)), .inl (0, 7, []), .inl ((-2147483648), 299, []), .inl (ck_one 1)], ([], [], []), ([(210, 0, 2399)], []), [(.inr none, 245, ([], [], []))])
set_option maxRecDepth 100000 in
theorem p2_s1824_e : ck_ok p2_O none [] [] 45 [] 116 p2_s1824 = true := by decide +kernel
theorem p2_s1824_s {X : Int → Int} {LX : Nat} : ck_Ok p2_O X LX 45 p2_s1824 := ck_ok_s ⟨p2_nmu, ck_E0⟩ ck_X0 ck_l0 p2_s1824_e
set_option maxRecDepth 100000 in
/-- GlacierMail$Answers.throwAgain -/
def p2_s1825 : ck_Sum := ((4, 0, 0), 245, [.inr (.inr (.inl 208)), .inl (0, 7, []), .inl (0, 299, []), .inl (ck_one 1), .inl (ck_one 299)], ([], [(3, 8, 0)], []), ([(206, 2, 8), (210, 0, 2399), (212, 0, 2399)], []), [(.inr none, 245, ([], [], [(206, 4, 4, ck_one (-1))]))])
set_option maxRecDepth 100000 in
theorem p2_s1825_e : ck_ok p2_O none [] [(10, [p2_s438, p2_s1816]), (170, [p2_s1537]), (30, [p2_s374]), (45, [p2_s1815, p2_s1824]), (9, [p2_s348])] 203 [(59, [some (.inr (.inr (.inl 208))), some (.inl (0, 7, [])), some (.inl (0, 299, [])), some (.inl (ck_one 1)), some (.inl (ck_one 299)), some (.inr (.inr (.inl 8))), some (.inl ((-1), 98, [])), some (.inl ((-2147483648), 299, [])), some (.inl (0, 8, [])), none], ([], [(3, 8, 0)], [(206, 4, 4, ck_one (-1))]), 100, .inl 8, true)] 214 p2_s1825 = true := by decide +kernel
theorem p2_s1825_s {X : Int → Int} {LX : Nat} : ck_Ok p2_O X LX 203 p2_s1825 := ck_ok_s ⟨p2_nmu, ck_E1 (ck_S1 p2_s438_s (ck_S1 p2_s1816_s ck_S0)) (ck_E1 (ck_S1 p2_s1537_s ck_S0) (ck_E1 (ck_S1 p2_s374_s ck_S0) (ck_E1 (ck_S1 p2_s1815_s (ck_S1 p2_s1824_s ck_S0)) (ck_E1 (ck_S1 p2_s348_s ck_S0) ck_E0))))⟩ ck_X0 ck_l0 p2_s1825_e
set_option maxRecDepth 100000 in
/-- GlacierMail$Rows.put -/
def p2_s1846 : ck_Sum := ((0, 0, 0), 245, [.inr (.inr (.inl 211)), .inl (0, 7, []), .inl (2, 299, []), .inl ((-2147483648), 299, [])], ([], [], []), ([(212, 2, 299), (212, 302, 599), (212, 602, 899), (212, 902, 1199), (212, 1202, 1499), (212, 1502, 1799), (212, 1802, 2099), (212, 2102, 2399)], []), [(.inr none, 245, ([], [], []))])
set_option maxRecDepth 100000 in
theorem p2_s1846_e : ck_ok p2_O none [] [] 45 [] 116 p2_s1846 = true := by decide +kernel
theorem p2_s1846_s {X : Int → Int} {LX : Nat} : ck_Ok p2_O X LX 45 p2_s1846 := ck_ok_s ⟨p2_nmu, ck_E0⟩ ck_X0 ck_l0 p2_s1846_e
set_option maxRecDepth 100000 in
/-- GlacierMail$Rows.put -/
def p2_s1834 : ck_Sum := ((0, 0, 0), 245, [.inr (.inr (.inl 209)), .inl (0, 7, []), .inl ((-2147483648), 299, []), .inl ((-2147483648), 2147483647, [])], ([], [], []), ([(210, 0, 2399)], []), [(.inr none, 245, ([], [], []))])
set_option maxRecDepth 100000 in
theorem p2_s1834_e : ck_ok p2_O none [] [] 45 [] 116 p2_s1834 = true := by decide +kernel
theorem p2_s1834_s {X : Int → Int} {LX : Nat} : ck_Ok p2_O X LX 45 p2_s1834 := ck_ok_s ⟨p2_nmu, ck_E0⟩ ck_X0 ck_l0 p2_s1834_e
set_option maxRecDepth 100000 in
/-- GlacierMail$Answers.throwAgain -/
def p2_s1847 : ck_Sum := ((4, 0, 0), 245, [.inr (.inr (.inl 208)), .inl (0, 7, []), .inl (2, 299, []), .inl ((-2147483648), 2147483647, []), .inl (ck_one 299)], ([], [(3, 8, 0)], []), ([(206, 2, 8), (210, 0, 2399), (212, 2, 299), (212, 302, 599), (212, 602, 899), (212, 902, 1199), (212, 1202, 1499), (212, 1502, 1799), (212, 1802, 2099), (212, 2102, 2399)], []), [(.inr none, 245, ([], [], [(206, 4, 4, ck_one (-1))]))])
set_option maxRecDepth 100000 in
theorem p2_s1847_e : ck_ok p2_O none [] [(10, [p2_s438, p2_s1816]), (170, [p2_s1537]), (30, [p2_s374]), (45, [p2_s1846, p2_s1834]), (9, [p2_s348])] 203 [(59, [some (.inr (.inr (.inl 208))), some (.inl (0, 7, [])), some (.inl (2, 299, [])), some (.inl ((-2147483648), 2147483647, [])), some (.inl (ck_one 299)), some (.inr (.inr (.inl 8))), some (.inl ((-1), 98, [])), some (.inl ((-2147483648), 299, [])), some (.inl (0, 8, [])), none], ([], [(3, 8, 0)], [(206, 4, 4, ck_one (-1))]), 100, .inl 8, true)] 214 p2_s1847 = true := by decide +kernel
theorem p2_s1847_s {X : Int → Int} {LX : Nat} : ck_Ok p2_O X LX 203 p2_s1847 := ck_ok_s ⟨p2_nmu, ck_E1 (ck_S1 p2_s438_s (ck_S1 p2_s1816_s ck_S0)) (ck_E1 (ck_S1 p2_s1537_s ck_S0) (ck_E1 (ck_S1 p2_s374_s ck_S0) (ck_E1 (ck_S1 p2_s1846_s (ck_S1 p2_s1834_s ck_S0)) (ck_E1 (ck_S1 p2_s348_s ck_S0) ck_E0))))⟩ ck_X0 ck_l0 p2_s1847_e
set_option maxRecDepth 100000 in
/-- GlacierMail$Answers.spread -/
def p2_s1848 : ck_Sum := ((5, 0, 0), 245, [.inr (.inr (.inl 208)), .inl (0, 7, []), .inl (0, 7, []), .inl (ck_one 299)], ([], [(3, 8, 0)], [(3, 6, 6, (0, 299, [(10, 0)]))]), ([(206, 2, 8), (209, 3, 3), (210, 0, 2399), (211, 3, 3), (212, 0, 2399)], []), [(.inr none, 245, ([], [], [(206, 4, 4, ck_one (-1))]))])
set_option maxRecDepth 100000 in
theorem p2_s1848_e : ck_ok p2_O none [] [(9, [p2_s348]), (25, [p2_s1812, p2_s1814]), (203, [p2_s1825, p2_s1847]), (10, [p2_s1816])] 202 [(59, [some (.inr (.inr (.inl 208))), some (.inl (0, 7, [])), some (.inl (0, 7, [])), some (.inl (ck_one 299)), some (.inl (1, 300, [(1000010, 1)])), none, none], ([], [(3, 8, 0)], [(206, 4, 4, ck_one (-1)), (3, 6, 6, (0, 299, [(10, 0)]))]), 100, .inl 4, true), (82, [some (.inr (.inr (.inl 208))), some (.inl (0, 7, [])), some (.inl (0, 7, [])), some (.inl (ck_one 299)), some (.inl (1, 298, [(100, 0), (1000010, 1)])), some (.inl (0, 8, [])), none], ([], [(3, 8, 0)], [(206, 4, 4, ck_one (-1)), (3, 6, 6, (0, 299, [(10, 0)]))]), 300, .inl 5, true)] 284 p2_s1848 = true := by decide +kernel
theorem p2_s1848_s {X : Int → Int} {LX : Nat} : ck_Ok p2_O X LX 202 p2_s1848 := ck_ok_s ⟨p2_nmu, ck_E1 (ck_S1 p2_s348_s ck_S0) (ck_E1 (ck_S1 p2_s1812_s (ck_S1 p2_s1814_s ck_S0)) (ck_E1 (ck_S1 p2_s1825_s (ck_S1 p2_s1847_s ck_S0)) (ck_E1 (ck_S1 p2_s1816_s ck_S0) ck_E0)))⟩ ck_X0 ck_l0 p2_s1848_e
set_option maxRecDepth 100000 in
/-- GlacierMail$Answers.firstYear -/
def p2_s1849 : ck_Sum := ((1, 0, 0), 245, [.inr (.inr (.inl 208)), .inl (0, 7, [])], ([], [], []), ([], []), [(.inr (some (.inl (ck_one (-1)))), 245, ([], [], [])), (.inr (some (.inl (0, 299, []))), 245, ([], [], []))])
set_option maxRecDepth 100000 in
theorem p2_s1849_e : ck_ok p2_O none [] [(10, [p2_s1816])] 204 [(2, [some (.inr (.inr (.inl 208))), some (.inl (0, 7, [])), some (.inl (0, 300, []))], ([], [], []), 100, .inl 2, true)] 138 p2_s1849 = true := by decide +kernel
theorem p2_s1849_s {X : Int → Int} {LX : Nat} : ck_Ok p2_O X LX 204 p2_s1849 := ck_ok_s ⟨p2_nmu, ck_E1 (ck_S1 p2_s1816_s ck_S0) ck_E0⟩ ck_X0 ck_l0 p2_s1849_e
set_option maxRecDepth 100000 in
/-- GlacierMail$Answers.fewestThrows -/
def p2_s1850 : ck_Sum := ((1, 0, 0), 245, [.inr (.inr (.inl 208)), .inl (0, 7, []), .inl (0, 299, [])], ([], [], []), ([], []), [(.inr (some (.inl ((-2147483648), 2147483647, []))), 245, ([], [], []))])
set_option maxRecDepth 100000 in
theorem p2_s1850_e : ck_ok p2_O none [] [(10, [p2_s1816])] 205 [] 82 p2_s1850 = true := by decide +kernel
theorem p2_s1850_s {X : Int → Int} {LX : Nat} : ck_Ok p2_O X LX 205 p2_s1850 := ck_ok_s ⟨p2_nmu, ck_E1 (ck_S1 p2_s1816_s ck_S0) ck_E0⟩ ck_X0 ck_l0 p2_s1850_e
set_option maxRecDepth 100000 in
/-- GlacierMail.soonest -/
def p2_s1851 : ck_Sum := ((8, 3, 18), 245, [.inr (.inr (.inl 1)), .inl (0, 7, []), .inl (0, 7, []), .inl (0, 1, [])], ([], [(3, 8, 0)], [(3, 6, 6, (0, 299, [(10, 0)]))]), ([(206, 2, 8), (209, 3, 3), (210, 0, 2399), (211, 3, 3), (212, 0, 2399)], []), [(.inl 3, 245, ([], [], [])), (.inl 0, 245, ([], [], [])), (.inr (some (.inl ((-2147483648), 2147483647, []))), 245, ([], [], [(206, 4, 4, ck_one (-1))])), (.inr (some (.inl (0, 299, []))), 245, ([], [], [(206, 4, 4, ck_one (-1))]))])
set_option maxRecDepth 100000 in
theorem p2_s1851_e : ck_ok p2_O none [] [(139, [p2_s356]), (153, [p2_s568]), (202, [p2_s1848]), (204, [p2_s1849]), (205, [p2_s1850])] 201 [] 136 p2_s1851 = true := by decide +kernel
theorem p2_s1851_s {X : Int → Int} {LX : Nat} : ck_Ok p2_O X LX 201 p2_s1851 := ck_ok_s ⟨p2_nmu, ck_E1 (ck_S1 p2_s356_s ck_S0) (ck_E1 (ck_S1 p2_s568_s ck_S0) (ck_E1 (ck_S1 p2_s1848_s ck_S0) (ck_E1 (ck_S1 p2_s1849_s ck_S0) (ck_E1 (ck_S1 p2_s1850_s ck_S0) ck_E0))))⟩ ck_X0 ck_l0 p2_s1851_e
set_option maxRecDepth 100000 in
/-- GlacierMailModel.soonest -/
def p2_s1852 : ck_Sum := ((2, 0, 0), 245, [.inr (.inr (.inl 226)), .inl ((-2147483648), (-1), []), .inl ((-2147483648), 2147483647, []), .inl (0, 1, [])], ([], [], [(227, 3, 3, (0, 8, [(21, 0)]))]), ([(226, 0, 0)], []), [(.inr (some (.inl (ck_one 0))), 245, ([], [], [(226, 0, 0, ck_one 1)]))])
set_option maxRecDepth 100000 in
theorem p2_s1852_e : ck_ok p2_O none [] [(298, [p2_s441]), (282, [p2_s268])] 349 [] 100 p2_s1852 = true := by decide +kernel
theorem p2_s1852_s {X : Int → Int} {LX : Nat} : ck_Ok p2_O X LX 349 p2_s1852 := ck_ok_s ⟨p2_nmu, ck_E1 (ck_S1 p2_s441_s ck_S0) (ck_E1 (ck_S1 p2_s268_s ck_S0) ck_E0)⟩ ck_X0 ck_l0 p2_s1852_e
set_option maxRecDepth 100000 in
/-- GlacierMailModel.soonest -/
def p2_s1853 : ck_Sum := ((2, 0, 0), 245, [.inr (.inr (.inl 226)), .inl (8, 2147483647, []), .inl ((-2147483648), 2147483647, []), .inl (0, 1, [])], ([], [], [(227, 3, 3, (0, 8, [(21, 0)]))]), ([(226, 0, 0)], []), [(.inr (some (.inl (ck_one 0))), 245, ([], [], [(226, 0, 0, ck_one 1)]))])
set_option maxRecDepth 100000 in
theorem p2_s1853_e : ck_ok p2_O none [] [(298, [p2_s444]), (282, [p2_s268])] 349 [] 100 p2_s1853 = true := by decide +kernel
theorem p2_s1853_s {X : Int → Int} {LX : Nat} : ck_Ok p2_O X LX 349 p2_s1853 := ck_ok_s ⟨p2_nmu, ck_E1 (ck_S1 p2_s444_s ck_S0) (ck_E1 (ck_S1 p2_s268_s ck_S0) ck_E0)⟩ ck_X0 ck_l0 p2_s1853_e
set_option maxRecDepth 100000 in
/-- GlacierMailModel.soonest -/
def p2_s1854 : ck_Sum := ((2, 0, 0), 245, [.inr (.inr (.inl 226)), .inl (0, 7, []), .inl ((-2147483648), (-1), []), .inl (0, 1, [])], ([], [], [(227, 3, 3, (0, 8, [(21, 0)]))]), ([(226, 0, 0)], []), [(.inr (some (.inl (ck_one 0))), 245, ([], [], [(226, 0, 0, ck_one 1)]))])
set_option maxRecDepth 100000 in
theorem p2_s1854_e : ck_ok p2_O none [] [(298, [p2_s447, p2_s441]), (282, [p2_s268])] 349 [] 108 p2_s1854 = true := by decide +kernel
theorem p2_s1854_s {X : Int → Int} {LX : Nat} : ck_Ok p2_O X LX 349 p2_s1854 := ck_ok_s ⟨p2_nmu, ck_E1 (ck_S1 p2_s447_s (ck_S1 p2_s441_s ck_S0)) (ck_E1 (ck_S1 p2_s268_s ck_S0) ck_E0)⟩ ck_X0 ck_l0 p2_s1854_e
set_option maxRecDepth 100000 in
/-- GlacierMailModel.soonest -/
def p2_s1855 : ck_Sum := ((2, 0, 0), 245, [.inr (.inr (.inl 226)), .inl (0, 7, []), .inl (8, 2147483647, []), .inl (0, 1, [])], ([], [], [(227, 3, 3, (0, 8, [(21, 0)]))]), ([(226, 0, 0)], []), [(.inr (some (.inl (ck_one 0))), 245, ([], [], [(226, 0, 0, ck_one 1)]))])
set_option maxRecDepth 100000 in
theorem p2_s1855_e : ck_ok p2_O none [] [(298, [p2_s447, p2_s444]), (282, [p2_s268])] 349 [] 108 p2_s1855 = true := by decide +kernel
theorem p2_s1855_s {X : Int → Int} {LX : Nat} : ck_Ok p2_O X LX 349 p2_s1855 := ck_ok_s ⟨p2_nmu, ck_E1 (ck_S1 p2_s447_s (ck_S1 p2_s444_s ck_S0)) (ck_E1 (ck_S1 p2_s268_s ck_S0) ck_E0)⟩ ck_X0 ck_l0 p2_s1855_e
set_option maxRecDepth 100000 in
/-- GlacierMailModel.at -/
def p2_s1856 : ck_Sum := ((0, 0, 0), 245, [.inl (0, 7, []), .inl (0, 300, [])], ([], [], []), ([], []), [(.inr (some (.inl (0, 2407, []))), 245, ([], [], []))])
set_option maxRecDepth 100000 in
theorem p2_s1856_e : ck_ok p2_O none [] [] 351 [] 82 p2_s1856 = true := by decide +kernel
theorem p2_s1856_s {X : Int → Int} {LX : Nat} : ck_Ok p2_O X LX 351 p2_s1856 := ck_ok_s ⟨p2_nmu, ck_E0⟩ ck_X0 ck_l0 p2_s1856_e
set_option maxRecDepth 100000 in
/-- GlacierMailModel.isWatching -/
def p2_s1857 : ck_Sum := ((1, 0, 0), 245, [.inr (.inr (.inl 226)), .inl (0, 7, []), .inl (0, 7, [])], ([], [], []), ([], []), [(.inr (some (.inl (ck_one 0))), 245, ([], [], [])), (.inr (some (.inl (ck_one 1))), 245, ([], [], []))])
set_option maxRecDepth 100000 in
theorem p2_s1857_e : ck_ok p2_O none [] [(299, [p2_s698, p2_s679])] 352 [] 94 p2_s1857 = true := by decide +kernel
theorem p2_s1857_s {X : Int → Int} {LX : Nat} : ck_Ok p2_O X LX 352 p2_s1857 := ck_ok_s ⟨p2_nmu, ck_E1 (ck_S1 p2_s698_s (ck_S1 p2_s679_s ck_S0)) ck_E0⟩ ck_X0 ck_l0 p2_s1857_e
set_option maxRecDepth 100000 in
/-- GlacierMailModel.hasIn -/
def p2_s1859 : ck_Sum := ((1, 0, 0), 245, [.inr (.inr (.inl 226)), .inl (0, 7, [])], ([], [], []), ([], []), [(.inr (some (.inl (ck_one (-1)))), 245, ([], [], [])), (.inr (some (.inl (0, 299, []))), 245, ([], [], []))])
set_option maxRecDepth 100000 in
theorem p2_s1859_e : ck_ok p2_O none [] [(351, [p2_s1856])] 353 [(2, [some (.inr (.inr (.inl 226))), some (.inl (0, 7, [])), some (.inl (0, 300, []))], ([], [], []), 100, .inl 2, true)] 146 p2_s1859 = true := by decide +kernel
theorem p2_s1859_s {X : Int → Int} {LX : Nat} : ck_Ok p2_O X LX 353 p2_s1859 := ck_ok_s ⟨p2_nmu, ck_E1 (ck_S1 p2_s1856_s ck_S0) ck_E0⟩ ck_X0 ck_l0 p2_s1859_e
set_option maxRecDepth 100000 in
/-- GlacierMail.chain -/
def p2_s1861 : ck_Sum := ((8, 1, 6), 245, [.inr (.inr (.inl 1)), .inl ((-2147483648), (-1), []), .inl ((-2147483648), 2147483647, []), .inl ((-2147483648), 2147483647, [])], ([], [], []), ([], []), [(.inl 3, 245, ([], [], []))])
set_option maxRecDepth 100000 in
theorem p2_s1861_e : ck_ok p2_O none [] [(139, [p2_s350])] 207 [] 76 p2_s1861 = true := by decide +kernel
theorem p2_s1861_s {X : Int → Int} {LX : Nat} : ck_Ok p2_O X LX 207 p2_s1861 := ck_ok_s ⟨p2_nmu, ck_E1 (ck_S1 p2_s350_s ck_S0) ck_E0⟩ ck_X0 ck_l0 p2_s1861_e
set_option maxRecDepth 100000 in
/-- GlacierMail.chain -/
def p2_s1862 : ck_Sum := ((8, 1, 6), 245, [.inr (.inr (.inl 1)), .inl (8, 2147483647, []), .inl ((-2147483648), 2147483647, []), .inl ((-2147483648), 2147483647, [])], ([], [], []), ([], []), [(.inl 3, 245, ([], [], []))])
set_option maxRecDepth 100000 in
theorem p2_s1862_e : ck_ok p2_O none [] [(139, [p2_s353])] 207 [] 76 p2_s1862 = true := by decide +kernel
theorem p2_s1862_s {X : Int → Int} {LX : Nat} : ck_Ok p2_O X LX 207 p2_s1862 := ck_ok_s ⟨p2_nmu, ck_E1 (ck_S1 p2_s353_s ck_S0) ck_E0⟩ ck_X0 ck_l0 p2_s1862_e
set_option maxRecDepth 100000 in
/-- GlacierMail.chain -/
def p2_s1863 : ck_Sum := ((8, 2, 12), 245, [.inr (.inr (.inl 1)), .inl (0, 7, []), .inl ((-2147483648), (-1), []), .inl ((-2147483648), 2147483647, [])], ([], [], []), ([], []), [(.inl 3, 245, ([], [], []))])
set_option maxRecDepth 100000 in
theorem p2_s1863_e : ck_ok p2_O none [] [(139, [p2_s356, p2_s350])] 207 [] 82 p2_s1863 = true := by decide +kernel
theorem p2_s1863_s {X : Int → Int} {LX : Nat} : ck_Ok p2_O X LX 207 p2_s1863 := ck_ok_s ⟨p2_nmu, ck_E1 (ck_S1 p2_s356_s (ck_S1 p2_s350_s ck_S0)) ck_E0⟩ ck_X0 ck_l0 p2_s1863_e
set_option maxRecDepth 100000 in
/-- GlacierMail.chain -/
def p2_s1864 : ck_Sum := ((8, 2, 12), 245, [.inr (.inr (.inl 1)), .inl (0, 7, []), .inl (8, 2147483647, []), .inl ((-2147483648), 2147483647, [])], ([], [], []), ([], []), [(.inl 3, 245, ([], [], []))])
set_option maxRecDepth 100000 in
theorem p2_s1864_e : ck_ok p2_O none [] [(139, [p2_s356, p2_s353])] 207 [] 82 p2_s1864 = true := by decide +kernel
theorem p2_s1864_s {X : Int → Int} {LX : Nat} : ck_Ok p2_O X LX 207 p2_s1864 := ck_ok_s ⟨p2_nmu, ck_E1 (ck_S1 p2_s356_s (ck_S1 p2_s353_s ck_S0)) ck_E0⟩ ck_X0 ck_l0 p2_s1864_e
set_option maxRecDepth 100000 in
/-- GlacierMail$Rows.get -/
def p2_s1865 : ck_Sum := ((0, 0, 0), 245, [.inr (.inr (.inl 211)), .inl ((-2147483648), 2147483647, []), .inl ((-2147483648), 2147483647, [])], ([], [], []), ([], []), [(.inr (some (.inl ((-2147483648), 299, []))), 245, ([], [], []))])
set_option maxRecDepth 100000 in
theorem p2_s1865_e : ck_ok p2_O none [] [] 10 [] 114 p2_s1865 = true := by decide +kernel
theorem p2_s1865_s {X : Int → Int} {LX : Nat} : ck_Ok p2_O X LX 10 p2_s1865 := ck_ok_s ⟨p2_nmu, ck_E0⟩ ck_X0 ck_l0 p2_s1865_e
set_option maxRecDepth 100000 in
/-- GlacierMail$Answers.throwAhead -/
def p2_s1867 : ck_Sum := ((1, 0, 0), 245, [.inr (.inr (.inl 208)), .inl (0, 2398, []), .inl (0, 299, []), .inl (1, 2147483646, [])], ([], [], [(3, 6, 6, (0, 299, [(10, 0)]))]), ([], []), [(.inr (some (.inl (0, 2398, []))), 245, ([], [], []))])
set_option maxRecDepth 100000 in
theorem p2_s1867_e : ck_ok p2_O none [] [(10, [p2_s438, p2_s1816, p2_s1865]), (9, [p2_s348])] 209 [(17, [some (.inr (.inr (.inl 208))), some (.inl (0, 2398, [])), some (.inl (0, 299, [])), some (.inl (1, 2147483646, [])), some (.inl ((-1), 98, [])), some (.inl (0, 9, [])), none], ([], [], [(3, 6, 6, (0, 299, [(10, 0)]))]), 100, .inl 5, true), (59, [some (.inr (.inr (.inl 208))), some (.inl (0, 2398, [])), some (.inl (0, 299, [])), some (.inl (1, 2147483646, [])), some (.inl ((-1), 98, [])), some (.inl (0, 7, [(100, 0)])), some (.inl (0, 299, [(1000010, 0)]))], ([], [], [(3, 6, 6, (0, 299, [(10, 0)]))]), 300, .inl 6, true)] 260 p2_s1867 = true := by decide +kernel
theorem p2_s1867_s {X : Int → Int} {LX : Nat} : ck_Ok p2_O X LX 209 p2_s1867 := ck_ok_s ⟨p2_nmu, ck_E1 (ck_S1 p2_s438_s (ck_S1 p2_s1816_s (ck_S1 p2_s1865_s ck_S0))) (ck_E1 (ck_S1 p2_s348_s ck_S0) ck_E0)⟩ ck_X0 ck_l0 p2_s1867_e
set_option maxRecDepth 100000 in
/-- GlacierMail$Answers.holder -/
def p2_s1868 : ck_Sum := ((2, 0, 0), 245, [.inr (.inr (.inl 208)), .inl (0, 7, []), .inl (0, 7, []), .inl (ck_one 0)], ([], [], [(3, 6, 6, (0, 299, [(10, 0)]))]), ([], []), [(.inr (some (.inl (ck_one (-1)))), 245, ([], [], [])), (.inr (some (.inl (0, 7, []))), 245, ([], [], []))])
set_option maxRecDepth 100000 in
theorem p2_s1868_e : ck_ok p2_O none [] [(204, [p2_s1849]), (10, [p2_s1816]), (209, [p2_s1867])] 208 [(44, [some (.inr (.inr (.inl 208))), some (.inl (0, 7, [])), some (.inl (0, 7, [])), some (.inl (ck_one 0)), some (.inl (0, 299, [])), some (.inl (0, 2398, [])), some (.inl (0, 2147483647, [])), some (.inl (0, 2147483647, [])), none], ([], [], [(3, 6, 6, (0, 299, [(10, 0)]))]), 100, .inl 7, false)] 190 p2_s1868 = true := by decide +kernel
theorem p2_s1868_s {X : Int → Int} {LX : Nat} : ck_Ok p2_O X LX 208 p2_s1868 := ck_ok_s ⟨p2_nmu, ck_E1 (ck_S1 p2_s1849_s ck_S0) (ck_E1 (ck_S1 p2_s1816_s ck_S0) (ck_E1 (ck_S1 p2_s1867_s ck_S0) ck_E0))⟩ ck_X0 ck_l0 p2_s1868_e
set_option maxRecDepth 100000 in
/-- GlacierMail.chain -/
def p2_s1869 : ck_Sum := ((8, 4, 24), 245, [.inr (.inr (.inl 1)), .inl (0, 7, []), .inl (0, 7, []), .inl ((-2147483648), 0, [])], ([], [(3, 8, 0)], [(3, 6, 6, (0, 299, [(10, 0)]))]), ([(206, 2, 8), (209, 3, 3), (210, 0, 2399), (211, 3, 3), (212, 0, 2399)], []), [(.inl 3, 245, ([], [], [])), (.inl 0, 245, ([], [], [])), (.inr (some (.inl (ck_one (-1)))), 245, ([], [], [(206, 4, 4, ck_one (-1))])), (.inr (some (.inl (0, 7, []))), 245, ([], [], [(206, 4, 4, ck_one (-1))]))])
set_option maxRecDepth 100000 in
theorem p2_s1869_e : ck_ok p2_O none [] [(139, [p2_s356]), (153, [p2_s568]), (202, [p2_s1848]), (208, [p2_s1868])] 207 [] 120 p2_s1869 = true := by decide +kernel
theorem p2_s1869_s {X : Int → Int} {LX : Nat} : ck_Ok p2_O X LX 207 p2_s1869 := ck_ok_s ⟨p2_nmu, ck_E1 (ck_S1 p2_s356_s ck_S0) (ck_E1 (ck_S1 p2_s568_s ck_S0) (ck_E1 (ck_S1 p2_s1848_s ck_S0) (ck_E1 (ck_S1 p2_s1868_s ck_S0) ck_E0)))⟩ ck_X0 ck_l0 p2_s1869_e
set_option maxRecDepth 100000 in
/-- GlacierMail$Answers.throwAhead -/
def p2_s1871 : ck_Sum := ((1, 0, 0), 245, [.inr (.inr (.inl 208)), .inl (0, 2398, []), .inl (0, 299, []), .inl (51, 2147483646, [])], ([], [], [(3, 6, 6, (0, 299, [(10, 0)]))]), ([], []), [(.inr (some (.inl (0, 2398, []))), 245, ([], [], []))])
set_option maxRecDepth 100000 in
theorem p2_s1871_e : ck_ok p2_O none [] [(10, [p2_s438, p2_s1816, p2_s1865]), (9, [p2_s348])] 209 [(17, [some (.inr (.inr (.inl 208))), some (.inl (0, 2398, [])), some (.inl (0, 299, [])), some (.inl (51, 2147483646, [])), some (.inl ((-1), 98, [])), some (.inl (0, 9, [])), none], ([], [], [(3, 6, 6, (0, 299, [(10, 0)]))]), 100, .inl 5, true), (59, [some (.inr (.inr (.inl 208))), some (.inl (0, 2398, [])), some (.inl (0, 299, [])), some (.inl (51, 2147483646, [])), some (.inl ((-1), 98, [])), some (.inl (0, 7, [(100, 0)])), some (.inl (0, 299, [(1000010, 0)]))], ([], [], [(3, 6, 6, (0, 299, [(10, 0)]))]), 300, .inl 6, true)] 260 p2_s1871 = true := by decide +kernel
theorem p2_s1871_s {X : Int → Int} {LX : Nat} : ck_Ok p2_O X LX 209 p2_s1871 := ck_ok_s ⟨p2_nmu, ck_E1 (ck_S1 p2_s438_s (ck_S1 p2_s1816_s (ck_S1 p2_s1865_s ck_S0))) (ck_E1 (ck_S1 p2_s348_s ck_S0) ck_E0)⟩ ck_X0 ck_l0 p2_s1871_e
set_option maxRecDepth 100000 in
/-- GlacierMail$Answers.holder -/
def p2_s1872 : ck_Sum := ((2, 0, 0), 245, [.inr (.inr (.inl 208)), .inl (0, 7, []), .inl (0, 7, []), .inl (51, 2147483647, [])], ([], [], [(3, 6, 6, (0, 299, [(10, 0)]))]), ([], []), [(.inr (some (.inl (ck_one (-1)))), 245, ([], [], [])), (.inr (some (.inl (0, 2398, []))), 245, ([], [], []))])
set_option maxRecDepth 100000 in
theorem p2_s1872_e : ck_ok p2_O none [] [(204, [p2_s1849]), (10, [p2_s1816]), (209, [p2_s1871])] 208 [(44, [some (.inr (.inr (.inl 208))), some (.inl (0, 7, [])), some (.inl (0, 7, [])), some (.inl (51, 2147483647, [])), some (.inl (0, 299, [])), some (.inl (0, 2398, [])), some (.inl (51, 2147483647, [])), some (.inl (51, 2147483647, [])), none], ([], [], [(3, 6, 6, (0, 299, [(10, 0)]))]), 100, .inl 7, false)] 190 p2_s1872 = true := by decide +kernel
theorem p2_s1872_s {X : Int → Int} {LX : Nat} : ck_Ok p2_O X LX 208 p2_s1872 := ck_ok_s ⟨p2_nmu, ck_E1 (ck_S1 p2_s1849_s ck_S0) (ck_E1 (ck_S1 p2_s1816_s ck_S0) (ck_E1 (ck_S1 p2_s1871_s ck_S0) ck_E0))⟩ ck_X0 ck_l0 p2_s1872_e
set_option maxRecDepth 100000 in
/-- GlacierMail.chain -/
def p2_s1873 : ck_Sum := ((8, 3, 18), 245, [.inr (.inr (.inl 1)), .inl (0, 7, []), .inl (0, 7, []), .inl (51, 2147483647, [])], ([], [(3, 8, 0)], [(3, 6, 6, (0, 299, [(10, 0)]))]), ([(206, 2, 8), (209, 3, 3), (210, 0, 2399), (211, 3, 3), (212, 0, 2399)], []), [(.inl 3, 245, ([], [], [])), (.inl 0, 245, ([], [], [])), (.inr (some (.inl (ck_one (-1)))), 245, ([], [], [(206, 4, 4, ck_one (-1))])), (.inr (some (.inl (0, 2398, []))), 245, ([], [], [(206, 4, 4, ck_one (-1))]))])
set_option maxRecDepth 100000 in
theorem p2_s1873_e : ck_ok p2_O none [] [(139, [p2_s356]), (153, [p2_s568]), (202, [p2_s1848]), (208, [p2_s1872])] 207 [] 120 p2_s1873 = true := by decide +kernel
theorem p2_s1873_s {X : Int → Int} {LX : Nat} : ck_Ok p2_O X LX 207 p2_s1873 := ck_ok_s ⟨p2_nmu, ck_E1 (ck_S1 p2_s356_s ck_S0) (ck_E1 (ck_S1 p2_s568_s ck_S0) (ck_E1 (ck_S1 p2_s1848_s ck_S0) (ck_E1 (ck_S1 p2_s1872_s ck_S0) ck_E0)))⟩ ck_X0 ck_l0 p2_s1873_e
set_option maxRecDepth 100000 in
/-- GlacierMail$Answers.holder -/
def p2_s1874 : ck_Sum := ((2, 0, 0), 245, [.inr (.inr (.inl 208)), .inl (0, 7, []), .inl (0, 7, []), .inl (1, 50, [])], ([], [], [(3, 6, 6, (0, 299, [(10, 0)]))]), ([], []), [(.inr (some (.inl (ck_one (-1)))), 245, ([], [], [])), (.inr (some (.inl (0, 2398, []))), 245, ([], [], []))])
set_option maxRecDepth 100000 in
theorem p2_s1874_e : ck_ok p2_O none [] [(204, [p2_s1849]), (10, [p2_s1816]), (209, [p2_s1867])] 208 [(44, [some (.inr (.inr (.inl 208))), some (.inl (0, 7, [])), some (.inl (0, 7, [])), some (.inl (1, 50, [])), some (.inl (0, 299, [])), some (.inl (0, 2398, [])), some (.inl (1, 2147483647, [])), some (.inl (1, 2147483647, [])), none], ([], [], [(3, 6, 6, (0, 299, [(10, 0)]))]), 100, .inl 7, false)] 190 p2_s1874 = true := by decide +kernel
theorem p2_s1874_s {X : Int → Int} {LX : Nat} : ck_Ok p2_O X LX 208 p2_s1874 := ck_ok_s ⟨p2_nmu, ck_E1 (ck_S1 p2_s1849_s ck_S0) (ck_E1 (ck_S1 p2_s1816_s ck_S0) (ck_E1 (ck_S1 p2_s1867_s ck_S0) ck_E0))⟩ ck_X0 ck_l0 p2_s1874_e
set_option maxRecDepth 100000 in
/-- GlacierMail.chain -/
def p2_s1875 : ck_Sum := ((8, 3, 18), 245, [.inr (.inr (.inl 1)), .inl (0, 7, []), .inl (0, 7, []), .inl (1, 50, [])], ([], [(3, 8, 0)], [(3, 6, 6, (0, 299, [(10, 0)]))]), ([(206, 2, 8), (209, 3, 3), (210, 0, 2399), (211, 3, 3), (212, 0, 2399)], []), [(.inl 3, 245, ([], [], [])), (.inl 0, 245, ([], [], [])), (.inr (some (.inl (ck_one (-1)))), 245, ([], [], [(206, 4, 4, ck_one (-1))])), (.inr (some (.inl (0, 2398, []))), 245, ([], [], [(206, 4, 4, ck_one (-1))]))])
set_option maxRecDepth 100000 in
theorem p2_s1875_e : ck_ok p2_O none [] [(139, [p2_s356]), (153, [p2_s568]), (202, [p2_s1848]), (208, [p2_s1874])] 207 [] 120 p2_s1875 = true := by decide +kernel
theorem p2_s1875_s {X : Int → Int} {LX : Nat} : ck_Ok p2_O X LX 207 p2_s1875 := ck_ok_s ⟨p2_nmu, ck_E1 (ck_S1 p2_s356_s ck_S0) (ck_E1 (ck_S1 p2_s568_s ck_S0) (ck_E1 (ck_S1 p2_s1848_s ck_S0) (ck_E1 (ck_S1 p2_s1874_s ck_S0) ck_E0)))⟩ ck_X0 ck_l0 p2_s1875_e
set_option maxRecDepth 100000 in
/-- GlacierMailModel.chain -/
def p2_s1876 : ck_Sum := ((2, 0, 0), 245, [.inr (.inr (.inl 226)), .inl ((-2147483648), (-1), []), .inl ((-2147483648), 2147483647, []), .inl ((-2147483648), 2147483647, [])], ([], [], [(227, 3, 3, (0, 8, [(21, 0)]))]), ([(226, 0, 0)], []), [(.inr (some (.inl (ck_one 0))), 245, ([], [], [(226, 0, 0, ck_one 1)]))])
set_option maxRecDepth 100000 in
theorem p2_s1876_e : ck_ok p2_O none [] [(298, [p2_s441]), (282, [p2_s268])] 354 [] 100 p2_s1876 = true := by decide +kernel
theorem p2_s1876_s {X : Int → Int} {LX : Nat} : ck_Ok p2_O X LX 354 p2_s1876 := ck_ok_s ⟨p2_nmu, ck_E1 (ck_S1 p2_s441_s ck_S0) (ck_E1 (ck_S1 p2_s268_s ck_S0) ck_E0)⟩ ck_X0 ck_l0 p2_s1876_e
set_option maxRecDepth 100000 in
/-- GlacierMailModel.chain -/
def p2_s1877 : ck_Sum := ((2, 0, 0), 245, [.inr (.inr (.inl 226)), .inl (8, 2147483647, []), .inl ((-2147483648), 2147483647, []), .inl ((-2147483648), 2147483647, [])], ([], [], [(227, 3, 3, (0, 8, [(21, 0)]))]), ([(226, 0, 0)], []), [(.inr (some (.inl (ck_one 0))), 245, ([], [], [(226, 0, 0, ck_one 1)]))])
set_option maxRecDepth 100000 in
theorem p2_s1877_e : ck_ok p2_O none [] [(298, [p2_s444]), (282, [p2_s268])] 354 [] 100 p2_s1877 = true := by decide +kernel
theorem p2_s1877_s {X : Int → Int} {LX : Nat} : ck_Ok p2_O X LX 354 p2_s1877 := ck_ok_s ⟨p2_nmu, ck_E1 (ck_S1 p2_s444_s ck_S0) (ck_E1 (ck_S1 p2_s268_s ck_S0) ck_E0)⟩ ck_X0 ck_l0 p2_s1877_e
set_option maxRecDepth 100000 in
/-- GlacierMailModel.chain -/
def p2_s1878 : ck_Sum := ((2, 0, 0), 245, [.inr (.inr (.inl 226)), .inl (0, 7, []), .inl ((-2147483648), (-1), []), .inl ((-2147483648), 2147483647, [])], ([], [], [(227, 3, 3, (0, 8, [(21, 0)]))]), ([(226, 0, 0)], []), [(.inr (some (.inl (ck_one 0))), 245, ([], [], [(226, 0, 0, ck_one 1)]))])
set_option maxRecDepth 100000 in
theorem p2_s1878_e : ck_ok p2_O none [] [(298, [p2_s447, p2_s441]), (282, [p2_s268])] 354 [] 108 p2_s1878 = true := by decide +kernel
theorem p2_s1878_s {X : Int → Int} {LX : Nat} : ck_Ok p2_O X LX 354 p2_s1878 := ck_ok_s ⟨p2_nmu, ck_E1 (ck_S1 p2_s447_s (ck_S1 p2_s441_s ck_S0)) (ck_E1 (ck_S1 p2_s268_s ck_S0) ck_E0)⟩ ck_X0 ck_l0 p2_s1878_e
set_option maxRecDepth 100000 in
/-- GlacierMailModel.chain -/
def p2_s1879 : ck_Sum := ((2, 0, 0), 245, [.inr (.inr (.inl 226)), .inl (0, 7, []), .inl (8, 2147483647, []), .inl ((-2147483648), 2147483647, [])], ([], [], [(227, 3, 3, (0, 8, [(21, 0)]))]), ([(226, 0, 0)], []), [(.inr (some (.inl (ck_one 0))), 245, ([], [], [(226, 0, 0, ck_one 1)]))])
set_option maxRecDepth 100000 in
theorem p2_s1879_e : ck_ok p2_O none [] [(298, [p2_s447, p2_s444]), (282, [p2_s268])] 354 [] 108 p2_s1879 = true := by decide +kernel
theorem p2_s1879_s {X : Int → Int} {LX : Nat} : ck_Ok p2_O X LX 354 p2_s1879 := ck_ok_s ⟨p2_nmu, ck_E1 (ck_S1 p2_s447_s (ck_S1 p2_s444_s ck_S0)) (ck_E1 (ck_S1 p2_s268_s ck_S0) ck_E0)⟩ ck_X0 ck_l0 p2_s1879_e
set_option maxRecDepth 100000 in
/-- GlacierMailModel.of -/
def p2_s1881 : ck_Sum := ((0, 0, 0), 245, [.inr (.inr (.inl 226)), .inl ((-1), 7, []), .inl (ck_one 2)], ([], [], []), ([], []), [(.inr (some (.inl (0, 20, []))), 245, ([], [], [])), (.inr (some (.inl (ck_one (-1)))), 245, ([], [], []))])
set_option maxRecDepth 100000 in
theorem p2_s1881_e : ck_ok p2_O none [] [] 299 [] 92 p2_s1881 = true := by decide +kernel
theorem p2_s1881_s {X : Int → Int} {LX : Nat} : ck_Ok p2_O X LX 299 p2_s1881 := ck_ok_s ⟨p2_nmu, ck_E0⟩ ck_X0 ck_l0 p2_s1881_e
set_option maxRecDepth 100000 in
/-- GlacierMailModel.isWatching -/
def p2_s1888 : ck_Sum := ((1, 0, 0), 245, [.inr (.inr (.inl 226)), .inl ((-1), 7, []), .inl (0, 7, [])], ([], [], []), ([], []), [(.inr (some (.inl (ck_one 0))), 245, ([], [], [])), (.inr (some (.inl (ck_one 1))), 245, ([], [], []))])
set_option maxRecDepth 100000 in
theorem p2_s1888_e : ck_ok p2_O none [] [(299, [p2_s1881, p2_s679])] 352 [] 94 p2_s1888 = true := by decide +kernel
theorem p2_s1888_s {X : Int → Int} {LX : Nat} : ck_Ok p2_O X LX 352 p2_s1888 := ck_ok_s ⟨p2_nmu, ck_E1 (ck_S1 p2_s1881_s (ck_S1 p2_s679_s ck_S0)) ck_E0⟩ ck_X0 ck_l0 p2_s1888_e
set_option maxRecDepth 100000 in
/-- GlacierMailModel.thrower -/
def p2_s1889 : ck_Sum := ((2, 0, 0), 245, [.inr (.inr (.inl 226)), .inl ((-1), 7, []), .inl ((-1), 299, []), .inl (1, 1000, [])], ([], [], [(227, 3, 3, (0, 8, [(21, 0)])), (227, 9, 9, (0, 299, [(11, 0)]))]), ([(226, 36, 36)], []), [(.inr (some (.inl (ck_one (-1)))), 245, ([], [], [])), (.inr (some (.inl (0, 7, []))), 245, ([], [], [(226, 36, 36, (0, 298, [(1000011, 0)])), (227, 3, 3, (1, 8, [(21, 0)]))]))])
set_option maxRecDepth 100000 in
theorem p2_s1889_e : ck_ok p2_O none [] [(253, [p2_s214]), (266, [p2_s207]), (352, [p2_s1888]), (351, [p2_s1856])] 355 [(3, [some (.inr (.inr (.inl 226))), some (.inl ((-1), 7, [])), some (.inl ((-1), 299, [])), some (.inl (1, 1000, [])), some (.inl (0, 8, [])), none], ([], [], [(227, 3, 3, (0, 8, [(21, 0)])), (227, 9, 9, (0, 299, [(11, 0)]))]), 100, .inl 4, true), (18, [some (.inr (.inr (.inl 226))), some (.inl ((-1), 7, [])), some (.inl ((-1), 299, [])), some (.inl (1, 1000, [])), some (.inl (0, 7, [(100, 0)])), some (.inl (0, 299, [(1000011, 0)]))], ([], [], [(227, 3, 3, (1, 8, [(21, 0)])), (227, 9, 9, (0, 299, [(11, 0)]))]), 300, .inl 5, true)] 284 p2_s1889 = true := by decide +kernel
theorem p2_s1889_s {X : Int → Int} {LX : Nat} : ck_Ok p2_O X LX 355 p2_s1889 := ck_ok_s ⟨p2_nmu, ck_E1 (ck_S1 p2_s214_s ck_S0) (ck_E1 (ck_S1 p2_s207_s ck_S0) (ck_E1 (ck_S1 p2_s1888_s ck_S0) (ck_E1 (ck_S1 p2_s1856_s ck_S0) ck_E0)))⟩ ck_X0 ck_l0 p2_s1889_e
set_option maxRecDepth 100000 in
/-- GlacierMailModel.thrower -/
def p2_s1892 : ck_Sum := ((2, 0, 0), 245, [.inr (.inr (.inl 226)), .inl ((-1), 7, []), .inl ((-1), 299, []), .inl (52, 1000, [])], ([], [], [(227, 3, 3, (0, 8, [(21, 0)])), (227, 9, 9, (0, 299, [(11, 0)]))]), ([(226, 36, 36)], []), [(.inr (some (.inl (ck_one (-1)))), 245, ([], [], [])), (.inr (some (.inl (0, 7, []))), 245, ([], [], [(226, 36, 36, (0, 298, [(1000011, 0)])), (227, 3, 3, (1, 8, [(21, 0)]))]))])
set_option maxRecDepth 100000 in
theorem p2_s1892_e : ck_ok p2_O none [] [(253, [p2_s214]), (266, [p2_s207]), (352, [p2_s1888]), (351, [p2_s1856])] 355 [(3, [some (.inr (.inr (.inl 226))), some (.inl ((-1), 7, [])), some (.inl ((-1), 299, [])), some (.inl (52, 1000, [])), some (.inl (0, 8, [])), none], ([], [], [(227, 3, 3, (0, 8, [(21, 0)])), (227, 9, 9, (0, 299, [(11, 0)]))]), 100, .inl 4, true), (18, [some (.inr (.inr (.inl 226))), some (.inl ((-1), 7, [])), some (.inl ((-1), 299, [])), some (.inl (52, 1000, [])), some (.inl (0, 7, [(100, 0)])), some (.inl (0, 299, [(1000011, 0)]))], ([], [], [(227, 3, 3, (1, 8, [(21, 0)])), (227, 9, 9, (0, 299, [(11, 0)]))]), 300, .inl 5, true)] 284 p2_s1892 = true := by decide +kernel
theorem p2_s1892_s {X : Int → Int} {LX : Nat} : ck_Ok p2_O X LX 355 p2_s1892 := ck_ok_s ⟨p2_nmu, ck_E1 (ck_S1 p2_s214_s ck_S0) (ck_E1 (ck_S1 p2_s207_s ck_S0) (ck_E1 (ck_S1 p2_s1888_s ck_S0) (ck_E1 (ck_S1 p2_s1856_s ck_S0) ck_E0)))⟩ ck_X0 ck_l0 p2_s1892_e
set_option maxRecDepth 100000 in
/-- GlacierMailModel.thrower -/
def p2_s1896 : ck_Sum := ((2, 0, 0), 245, [.inr (.inr (.inl 226)), .inl ((-1), 7, []), .inl ((-1), 299, []), .inl (2, 1000, [])], ([], [], [(227, 3, 3, (0, 8, [(21, 0)])), (227, 9, 9, (0, 299, [(11, 0)]))]), ([(226, 36, 36)], []), [(.inr (some (.inl (ck_one (-1)))), 245, ([], [], [])), (.inr (some (.inl (0, 7, []))), 245, ([], [], [(226, 36, 36, (0, 298, [(1000011, 0)])), (227, 3, 3, (1, 8, [(21, 0)]))]))])
set_option maxRecDepth 100000 in
theorem p2_s1896_e : ck_ok p2_O none [] [(253, [p2_s214]), (266, [p2_s207]), (352, [p2_s1888]), (351, [p2_s1856])] 355 [(3, [some (.inr (.inr (.inl 226))), some (.inl ((-1), 7, [])), some (.inl ((-1), 299, [])), some (.inl (2, 1000, [])), some (.inl (0, 8, [])), none], ([], [], [(227, 3, 3, (0, 8, [(21, 0)])), (227, 9, 9, (0, 299, [(11, 0)]))]), 100, .inl 4, true), (18, [some (.inr (.inr (.inl 226))), some (.inl ((-1), 7, [])), some (.inl ((-1), 299, [])), some (.inl (2, 1000, [])), some (.inl (0, 7, [(100, 0)])), some (.inl (0, 299, [(1000011, 0)]))], ([], [], [(227, 3, 3, (1, 8, [(21, 0)])), (227, 9, 9, (0, 299, [(11, 0)]))]), 300, .inl 5, true)] 284 p2_s1896 = true := by decide +kernel
theorem p2_s1896_s {X : Int → Int} {LX : Nat} : ck_Ok p2_O X LX 355 p2_s1896 := ck_ok_s ⟨p2_nmu, ck_E1 (ck_S1 p2_s214_s ck_S0) (ck_E1 (ck_S1 p2_s207_s ck_S0) (ck_E1 (ck_S1 p2_s1888_s ck_S0) (ck_E1 (ck_S1 p2_s1856_s ck_S0) ck_E0)))⟩ ck_X0 ck_l0 p2_s1896_e
set_option maxRecDepth 100000 in
/-- GlacierMail.reached -/
def p2_s1898 : ck_Sum := ((8, 1, 6), 245, [.inr (.inr (.inl 1)), .inl ((-2147483648), (-1), []), .inl ((-2147483648), 2147483647, [])], ([], [], []), ([], []), [(.inl 3, 245, ([], [], []))])
set_option maxRecDepth 100000 in
theorem p2_s1898_e : ck_ok p2_O none [] [(139, [p2_s350])] 211 [] 76 p2_s1898 = true := by decide +kernel
theorem p2_s1898_s {X : Int → Int} {LX : Nat} : ck_Ok p2_O X LX 211 p2_s1898 := ck_ok_s ⟨p2_nmu, ck_E1 (ck_S1 p2_s350_s ck_S0) ck_E0⟩ ck_X0 ck_l0 p2_s1898_e
set_option maxRecDepth 100000 in
/-- GlacierMail.reached -/
def p2_s1899 : ck_Sum := ((8, 1, 6), 245, [.inr (.inr (.inl 1)), .inl (8, 2147483647, []), .inl ((-2147483648), 2147483647, [])], ([], [], []), ([], []), [(.inl 3, 245, ([], [], []))])
set_option maxRecDepth 100000 in
theorem p2_s1899_e : ck_ok p2_O none [] [(139, [p2_s353])] 211 [] 76 p2_s1899 = true := by decide +kernel
theorem p2_s1899_s {X : Int → Int} {LX : Nat} : ck_Ok p2_O X LX 211 p2_s1899 := ck_ok_s ⟨p2_nmu, ck_E1 (ck_S1 p2_s353_s ck_S0) ck_E0⟩ ck_X0 ck_l0 p2_s1899_e
set_option maxRecDepth 100000 in
/-- GlacierMail.reached -/
def p2_s1900 : ck_Sum := ((8, 2, 12), 245, [.inr (.inr (.inl 1)), .inl (0, 7, []), .inl ((-2147483648), (-1), [])], ([], [], []), ([], []), [(.inl 3, 245, ([], [], [])), (.inl 0, 245, ([], [], []))])
set_option maxRecDepth 100000 in
theorem p2_s1900_e : ck_ok p2_O none [] [(139, [p2_s356]), (129, [p2_s276])] 211 [] 82 p2_s1900 = true := by decide +kernel
theorem p2_s1900_s {X : Int → Int} {LX : Nat} : ck_Ok p2_O X LX 211 p2_s1900 := ck_ok_s ⟨p2_nmu, ck_E1 (ck_S1 p2_s356_s ck_S0) (ck_E1 (ck_S1 p2_s276_s ck_S0) ck_E0)⟩ ck_X0 ck_l0 p2_s1900_e
set_option maxRecDepth 100000 in
/-- GlacierMail.reached -/
def p2_s1901 : ck_Sum := ((8, 2, 12), 245, [.inr (.inr (.inl 1)), .inl (0, 7, []), .inl (300, 2147483647, [])], ([], [], []), ([], []), [(.inl 3, 245, ([], [], [])), (.inl 0, 245, ([], [], []))])
set_option maxRecDepth 100000 in
theorem p2_s1901_e : ck_ok p2_O none [] [(139, [p2_s356]), (129, [p2_s278])] 211 [] 82 p2_s1901 = true := by decide +kernel
theorem p2_s1901_s {X : Int → Int} {LX : Nat} : ck_Ok p2_O X LX 211 p2_s1901 := ck_ok_s ⟨p2_nmu, ck_E1 (ck_S1 p2_s356_s ck_S0) (ck_E1 (ck_S1 p2_s278_s ck_S0) ck_E0)⟩ ck_X0 ck_l0 p2_s1901_e
set_option maxRecDepth 100000 in
/-- GlacierMail$Answers.throwAgain -/
def p2_s1902 : ck_Sum := ((4, 0, 0), 245, [.inr (.inr (.inl 208)), .inl (0, 7, []), .inl (0, 299, []), .inl (ck_one 1), .inl (0, 299, [])], ([], [(3, 8, 0)], []), ([(206, 2, 8), (210, 0, 2399), (212, 0, 2399)], []), [(.inr none, 245, ([], [], [(206, 4, 4, ck_one (-1))]))])
set_option maxRecDepth 100000 in
theorem p2_s1902_e : ck_ok p2_O none [] [(10, [p2_s438, p2_s1816]), (170, [p2_s1537]), (30, [p2_s374]), (45, [p2_s1815, p2_s1824]), (9, [p2_s348])] 203 [(59, [some (.inr (.inr (.inl 208))), some (.inl (0, 7, [])), some (.inl (0, 299, [])), some (.inl (ck_one 1)), some (.inl (0, 299, [])), some (.inr (.inr (.inl 8))), some (.inl ((-1), 98, [])), some (.inl ((-2147483648), 299, [])), some (.inl (0, 8, [])), none], ([], [(3, 8, 0)], [(206, 4, 4, ck_one (-1))]), 100, .inl 8, true)] 214 p2_s1902 = true := by decide +kernel
theorem p2_s1902_s {X : Int → Int} {LX : Nat} : ck_Ok p2_O X LX 203 p2_s1902 := ck_ok_s ⟨p2_nmu, ck_E1 (ck_S1 p2_s438_s (ck_S1 p2_s1816_s ck_S0)) (ck_E1 (ck_S1 p2_s1537_s ck_S0) (ck_E1 (ck_S1 p2_s374_s ck_S0) (ck_E1 (ck_S1 p2_s1815_s (ck_S1 p2_s1824_s ck_S0)) (ck_E1 (ck_S1 p2_s348_s ck_S0) ck_E0))))⟩ ck_X0 ck_l0 p2_s1902_e
set_option maxRecDepth 100000 in
/-- GlacierMail$Answers.throwAgain -/
def p2_s1909 : ck_Sum := ((4, 0, 0), 245, [.inr (.inr (.inl 208)), .inl (0, 7, []), .inl (2, 299, []), .inl ((-2147483648), 2147483647, []), .inl (2, 299, [])], ([], [(3, 8, 0)], []), ([(206, 2, 8), (210, 0, 2399), (212, 2, 299), (212, 302, 599), (212, 602, 899), (212, 902, 1199), (212, 1202, 1499), (212, 1502, 1799), (212, 1802, 2099), (212, 2102, 2399)], []), [(.inr none, 245, ([], [], [(206, 4, 4, ck_one (-1))]))])
set_option maxRecDepth 100000 in
theorem p2_s1909_e : ck_ok p2_O none [] [(10, [p2_s438, p2_s1816]), (170, [p2_s1537]), (30, [p2_s374]), (45, [p2_s1846, p2_s1834]), (9, [p2_s348])] 203 [(59, [some (.inr (.inr (.inl 208))), some (.inl (0, 7, [])), some (.inl (2, 299, [])), some (.inl ((-2147483648), 2147483647, [])), some (.inl (2, 299, [])), some (.inr (.inr (.inl 8))), some (.inl ((-1), 98, [])), some (.inl ((-2147483648), 299, [])), some (.inl (0, 8, [])), none], ([], [(3, 8, 0)], [(206, 4, 4, ck_one (-1))]), 100, .inl 8, true)] 214 p2_s1909 = true := by decide +kernel
theorem p2_s1909_s {X : Int → Int} {LX : Nat} : ck_Ok p2_O X LX 203 p2_s1909 := ck_ok_s ⟨p2_nmu, ck_E1 (ck_S1 p2_s438_s (ck_S1 p2_s1816_s ck_S0)) (ck_E1 (ck_S1 p2_s1537_s ck_S0) (ck_E1 (ck_S1 p2_s374_s ck_S0) (ck_E1 (ck_S1 p2_s1846_s (ck_S1 p2_s1834_s ck_S0)) (ck_E1 (ck_S1 p2_s348_s ck_S0) ck_E0))))⟩ ck_X0 ck_l0 p2_s1909_e
set_option maxRecDepth 100000 in
/-- GlacierMail$Answers.spread -/
def p2_s1910 : ck_Sum := ((5, 0, 0), 245, [.inr (.inr (.inl 208)), .inl (0, 7, []), .inl (ck_one (-1)), .inl (0, 299, [])], ([], [(3, 8, 0)], [(3, 6, 6, (0, 299, [(10, 0)]))]), ([(206, 2, 8), (209, 3, 3), (210, 0, 2399), (211, 3, 3), (212, 0, 2399)], []), [(.inr none, 245, ([], [], [(206, 4, 4, ck_one (-1))]))])
set_option maxRecDepth 100000 in
theorem p2_s1910_e : ck_ok p2_O none [] [(9, [p2_s348]), (25, [p2_s1812, p2_s1814]), (203, [p2_s1902, p2_s1909]), (10, [p2_s1816])] 202 [(59, [some (.inr (.inr (.inl 208))), some (.inl (0, 7, [])), some (.inl (ck_one (-1))), some (.inl (0, 299, [])), some (.inl (1, 300, [(1000010, 1)])), none, none], ([], [(3, 8, 0)], [(206, 4, 4, ck_one (-1)), (3, 6, 6, (0, 299, [(10, 0)]))]), 100, .inl 4, true), (82, [some (.inr (.inr (.inl 208))), some (.inl (0, 7, [])), some (.inl (ck_one (-1))), some (.inl (2, 299, [])), some (.inl (1, 298, [(100, 0), (1000010, 1)])), some (.inl (0, 8, [])), none], ([], [(3, 8, 0)], [(206, 4, 4, ck_one (-1)), (3, 6, 6, (0, 299, [(10, 0)]))]), 300, .inl 5, true)] 284 p2_s1910 = true := by decide +kernel
theorem p2_s1910_s {X : Int → Int} {LX : Nat} : ck_Ok p2_O X LX 202 p2_s1910 := ck_ok_s ⟨p2_nmu, ck_E1 (ck_S1 p2_s348_s ck_S0) (ck_E1 (ck_S1 p2_s1812_s (ck_S1 p2_s1814_s ck_S0)) (ck_E1 (ck_S1 p2_s1902_s (ck_S1 p2_s1909_s ck_S0)) (ck_E1 (ck_S1 p2_s1816_s ck_S0) ck_E0)))⟩ ck_X0 ck_l0 p2_s1910_e
