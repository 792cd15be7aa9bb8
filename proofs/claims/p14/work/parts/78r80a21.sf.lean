/-! EVERY CALL ENDS, whatever was done before (laid by wip/am/p2k.py). -/
set_option maxRecDepth 100000 in
/-- GlacierMail$Rows.copyFrom -/
def p2_s1668 : ck_Sum := ((1, 0, 0), 245, [.inr (.inr (.inl 10)), .inr (.inr (.inl 64))], ([], [], []), ([(10, 3, 3), (11, 0, 167)], []), [(.inr none, 245, ([], [], []))])
set_option maxRecDepth 100000 in
theorem p2_s1668_e : ck_ok p2_O none [] [] 58 [] 114 p2_s1668 = true := by decide +kernel
theorem p2_s1668_s {X : Int → Int} {LX : Nat} : ck_Ok p2_O X LX 58 p2_s1668 := ck_ok_s ⟨p2_nmu, ck_E0⟩ ck_X0 ck_l0 p2_s1668_e
set_option maxRecDepth 100000 in
/-- GlacierMail$Rows.copyFrom -/
def p2_s1669 : ck_Sum := ((1, 0, 0), 245, [.inr (.inr (.inl 12)), .inr (.inr (.inl 66))], ([], [], []), ([(12, 3, 3), (13, 0, 35)], []), [(.inr none, 245, ([], [], []))])
set_option maxRecDepth 100000 in
theorem p2_s1669_e : ck_ok p2_O none [] [] 58 [] 114 p2_s1669 = true := by decide +kernel
theorem p2_s1669_s {X : Int → Int} {LX : Nat} : ck_Ok p2_O X LX 58 p2_s1669 := ck_ok_s ⟨p2_nmu, ck_E0⟩ ck_X0 ck_l0 p2_s1669_e
set_option maxRecDepth 100000 in
/-- GlacierMail$Rows.copyFrom -/
def p2_s1670 : ck_Sum := ((1, 0, 0), 245, [.inr (.inr (.inl 14)), .inr (.inr (.inl 68))], ([], [], []), ([(14, 3, 3), (15, 0, 71)], []), [(.inr none, 245, ([], [], []))])
set_option maxRecDepth 100000 in
theorem p2_s1670_e : ck_ok p2_O none [] [] 58 [] 114 p2_s1670 = true := by decide +kernel
theorem p2_s1670_s {X : Int → Int} {LX : Nat} : ck_Ok p2_O X LX 58 p2_s1670 := ck_ok_s ⟨p2_nmu, ck_E0⟩ ck_X0 ck_l0 p2_s1670_e
set_option maxRecDepth 100000 in
/-- GlacierMail$State.copyFrom -/
def p2_s1671 : ck_Sum := ((2, 0, 0), 245, [.inr (.inr (.inl 3)), .inr (.inr (.inl 57))], ([], [(3, 8, 0), (57, 8, 100057)], []), ([(3, 0, 7), (4, 3, 3), (5, 0, 55), (6, 3, 3), (7, 0, 23), (8, 3, 3), (9, 0, 23), (10, 3, 3), (11, 0, 167), (12, 3, 3), (13, 0, 35), (14, 3, 3), (15, 0, 71)], [(3, 8)]), [(.inr none, 245, ([], [(3, 8, 100057)], []))])
set_option maxRecDepth 100000 in
theorem p2_s1671_e : ck_ok p2_O none [] [(58, [p2_s1665, p2_s1666, p2_s1667, p2_s1668, p2_s1669, p2_s1670])] 57 [] 204 p2_s1671 = true := by decide +kernel
theorem p2_s1671_s {X : Int → Int} {LX : Nat} : ck_Ok p2_O X LX 57 p2_s1671 := ck_ok_s ⟨p2_nmu, ck_E1 (ck_S1 p2_s1665_s (ck_S1 p2_s1666_s (ck_S1 p2_s1667_s (ck_S1 p2_s1668_s (ck_S1 p2_s1669_s (ck_S1 p2_s1670_s ck_S0)))))) ck_E0⟩ ck_X0 ck_l0 p2_s1671_e
set_option maxRecDepth 100000 in
/-- GlacierMail$Rows.copyFrom -/
def p2_s1672 : ck_Sum := ((1, 0, 0), 245, [.inr (.inr (.inl 4)), .inr (.inr (.inl 71))], ([], [], []), ([(4, 3, 3), (5, 0, 55)], []), [(.inr none, 245, ([], [], []))])
set_option maxRecDepth 100000 in
theorem p2_s1672_e : ck_ok p2_O none [] [] 58 [] 114 p2_s1672 = true := by decide +kernel
theorem p2_s1672_s {X : Int → Int} {LX : Nat} : ck_Ok p2_O X LX 58 p2_s1672 := ck_ok_s ⟨p2_nmu, ck_E0⟩ ck_X0 ck_l0 p2_s1672_e
set_option maxRecDepth 100000 in
/-- GlacierMail$Rows.copyFrom -/
def p2_s1673 : ck_Sum := ((1, 0, 0), 245, [.inr (.inr (.inl 6)), .inr (.inr (.inl 73))], ([], [], []), ([(6, 3, 3), (7, 0, 23)], []), [(.inr none, 245, ([], [], []))])
set_option maxRecDepth 100000 in
theorem p2_s1673_e : ck_ok p2_O none [] [] 58 [] 114 p2_s1673 = true := by decide +kernel
theorem p2_s1673_s {X : Int → Int} {LX : Nat} : ck_Ok p2_O X LX 58 p2_s1673 := ck_ok_s ⟨p2_nmu, ck_E0⟩ ck_X0 ck_l0 p2_s1673_e
set_option maxRecDepth 100000 in
/-- GlacierMail$Rows.copyFrom -/
def p2_s1674 : ck_Sum := ((1, 0, 0), 245, [.inr (.inr (.inl 8)), .inr (.inr (.inl 75))], ([], [], []), ([(8, 3, 3), (9, 0, 23)], []), [(.inr none, 245, ([], [], []))])
set_option maxRecDepth 100000 in
theorem p2_s1674_e : ck_ok p2_O none [] [] 58 [] 114 p2_s1674 = true := by decide +kernel
theorem p2_s1674_s {X : Int → Int} {LX : Nat} : ck_Ok p2_O X LX 58 p2_s1674 := ck_ok_s ⟨p2_nmu, ck_E0⟩ ck_X0 ck_l0 p2_s1674_e
set_option maxRecDepth 100000 in
/-- GlacierMail$Rows.copyFrom -/
def p2_s1675 : ck_Sum := ((1, 0, 0), 245, [.inr (.inr (.inl 10)), .inr (.inr (.inl 77))], ([], [], []), ([(10, 3, 3), (11, 0, 167)], []), [(.inr none, 245, ([], [], []))])
set_option maxRecDepth 100000 in
theorem p2_s1675_e : ck_ok p2_O none [] [] 58 [] 114 p2_s1675 = true := by decide +kernel
theorem p2_s1675_s {X : Int → Int} {LX : Nat} : ck_Ok p2_O X LX 58 p2_s1675 := ck_ok_s ⟨p2_nmu, ck_E0⟩ ck_X0 ck_l0 p2_s1675_e
set_option maxRecDepth 100000 in
/-- GlacierMail$Rows.copyFrom -/
def p2_s1676 : ck_Sum := ((1, 0, 0), 245, [.inr (.inr (.inl 12)), .inr (.inr (.inl 79))], ([], [], []), ([(12, 3, 3), (13, 0, 35)], []), [(.inr none, 245, ([], [], []))])
set_option maxRecDepth 100000 in
theorem p2_s1676_e : ck_ok p2_O none [] [] 58 [] 114 p2_s1676 = true := by decide +kernel
theorem p2_s1676_s {X : Int → Int} {LX : Nat} : ck_Ok p2_O X LX 58 p2_s1676 := ck_ok_s ⟨p2_nmu, ck_E0⟩ ck_X0 ck_l0 p2_s1676_e
set_option maxRecDepth 100000 in
/-- GlacierMail$Rows.copyFrom -/
def p2_s1677 : ck_Sum := ((1, 0, 0), 245, [.inr (.inr (.inl 14)), .inr (.inr (.inl 81))], ([], [], []), ([(14, 3, 3), (15, 0, 71)], []), [(.inr none, 245, ([], [], []))])
set_option maxRecDepth 100000 in
theorem p2_s1677_e : ck_ok p2_O none [] [] 58 [] 114 p2_s1677 = true := by decide +kernel
theorem p2_s1677_s {X : Int → Int} {LX : Nat} : ck_Ok p2_O X LX 58 p2_s1677 := ck_ok_s ⟨p2_nmu, ck_E0⟩ ck_X0 ck_l0 p2_s1677_e
set_option maxRecDepth 100000 in
/-- GlacierMail$State.copyFrom -/
def p2_s1678 : ck_Sum := ((2, 0, 0), 245, [.inr (.inr (.inl 3)), .inr (.inr (.inl 70))], ([], [(3, 8, 0), (70, 8, 100070)], []), ([(3, 0, 7), (4, 3, 3), (5, 0, 55), (6, 3, 3), (7, 0, 23), (8, 3, 3), (9, 0, 23), (10, 3, 3), (11, 0, 167), (12, 3, 3), (13, 0, 35), (14, 3, 3), (15, 0, 71)], [(3, 8)]), [(.inr none, 245, ([], [(3, 8, 100070)], []))])
set_option maxRecDepth 100000 in
theorem p2_s1678_e : ck_ok p2_O none [] [(58, [p2_s1672, p2_s1673, p2_s1674, p2_s1675, p2_s1676, p2_s1677])] 57 [] 204 p2_s1678 = true := by decide +kernel
theorem p2_s1678_s {X : Int → Int} {LX : Nat} : ck_Ok p2_O X LX 57 p2_s1678 := ck_ok_s ⟨p2_nmu, ck_E1 (ck_S1 p2_s1672_s (ck_S1 p2_s1673_s (ck_S1 p2_s1674_s (ck_S1 p2_s1675_s (ck_S1 p2_s1676_s (ck_S1 p2_s1677_s ck_S0)))))) ck_E0⟩ ck_X0 ck_l0 p2_s1678_e
set_option maxRecDepth 100000 in
/-- GlacierMail$Rows.copyFrom -/
def p2_s1679 : ck_Sum := ((1, 0, 0), 245, [.inr (.inr (.inl 4)), .inr (.inr (.inl 84))], ([], [], []), ([(4, 3, 3), (5, 0, 55)], []), [(.inr none, 245, ([], [], []))])
set_option maxRecDepth 100000 in
theorem p2_s1679_e : ck_ok p2_O none [] [] 58 [] 114 p2_s1679 = true := by decide +kernel
theorem p2_s1679_s {X : Int → Int} {LX : Nat} : ck_Ok p2_O X LX 58 p2_s1679 := ck_ok_s ⟨p2_nmu, ck_E0⟩ ck_X0 ck_l0 p2_s1679_e
set_option maxRecDepth 100000 in
/-- GlacierMail$Rows.copyFrom -/
def p2_s1680 : ck_Sum := ((1, 0, 0), 245, [.inr (.inr (.inl 6)), .inr (.inr (.inl 86))], ([], [], []), ([(6, 3, 3), (7, 0, 23)], []), [(.inr none, 245, ([], [], []))])
set_option maxRecDepth 100000 in
theorem p2_s1680_e : ck_ok p2_O none [] [] 58 [] 114 p2_s1680 = true := by decide +kernel
theorem p2_s1680_s {X : Int → Int} {LX : Nat} : ck_Ok p2_O X LX 58 p2_s1680 := ck_ok_s ⟨p2_nmu, ck_E0⟩ ck_X0 ck_l0 p2_s1680_e
set_option maxRecDepth 100000 in
/-- GlacierMail$Rows.copyFrom -/
def p2_s1681 : ck_Sum := ((1, 0, 0), 245, [.inr (.inr (.inl 8)), .inr (.inr (.inl 88))], ([], [], []), ([(8, 3, 3), (9, 0, 23)], []), [(.inr none, 245, ([], [], []))])
set_option maxRecDepth 100000 in
theorem p2_s1681_e : ck_ok p2_O none [] [] 58 [] 114 p2_s1681 = true := by decide +kernel
theorem p2_s1681_s {X : Int → Int} {LX : Nat} : ck_Ok p2_O X LX 58 p2_s1681 := ck_ok_s ⟨p2_nmu, ck_E0⟩ ck_X0 ck_l0 p2_s1681_e
set_option maxRecDepth 100000 in
/-- GlacierMail$Rows.copyFrom -/
def p2_s1682 : ck_Sum := ((1, 0, 0), 245, [.inr (.inr (.inl 10)), .inr (.inr (.inl 90))], ([], [], []), ([(10, 3, 3), (11, 0, 167)], []), [(.inr none, 245, ([], [], []))])
set_option maxRecDepth 100000 in
theorem p2_s1682_e : ck_ok p2_O none [] [] 58 [] 114 p2_s1682 = true := by decide +kernel
theorem p2_s1682_s {X : Int → Int} {LX : Nat} : ck_Ok p2_O X LX 58 p2_s1682 := ck_ok_s ⟨p2_nmu, ck_E0⟩ ck_X0 ck_l0 p2_s1682_e
set_option maxRecDepth 100000 in
/-- GlacierMail$Rows.copyFrom -/
def p2_s1683 : ck_Sum := ((1, 0, 0), 245, [.inr (.inr (.inl 12)), .inr (.inr (.inl 92))], ([], [], []), ([(12, 3, 3), (13, 0, 35)], []), [(.inr none, 245, ([], [], []))])
set_option maxRecDepth 100000 in
theorem p2_s1683_e : ck_ok p2_O none [] [] 58 [] 114 p2_s1683 = true := by decide +kernel
theorem p2_s1683_s {X : Int → Int} {LX : Nat} : ck_Ok p2_O X LX 58 p2_s1683 := ck_ok_s ⟨p2_nmu, ck_E0⟩ ck_X0 ck_l0 p2_s1683_e
set_option maxRecDepth 100000 in
/-- GlacierMail$Rows.copyFrom -/
def p2_s1684 : ck_Sum := ((1, 0, 0), 245, [.inr (.inr (.inl 14)), .inr (.inr (.inl 94))], ([], [], []), ([(14, 3, 3), (15, 0, 71)], []), [(.inr none, 245, ([], [], []))])
set_option maxRecDepth 100000 in
theorem p2_s1684_e : ck_ok p2_O none [] [] 58 [] 114 p2_s1684 = true := by decide +kernel
theorem p2_s1684_s {X : Int → Int} {LX : Nat} : ck_Ok p2_O X LX 58 p2_s1684 := ck_ok_s ⟨p2_nmu, ck_E0⟩ ck_X0 ck_l0 p2_s1684_e
set_option maxRecDepth 100000 in
/-- GlacierMail$State.copyFrom -/
def p2_s1685 : ck_Sum := ((2, 0, 0), 245, [.inr (.inr (.inl 3)), .inr (.inr (.inl 83))], ([], [(3, 8, 0), (83, 8, 100083)], []), ([(3, 0, 7), (4, 3, 3), (5, 0, 55), (6, 3, 3), (7, 0, 23), (8, 3, 3), (9, 0, 23), (10, 3, 3), (11, 0, 167), (12, 3, 3), (13, 0, 35), (14, 3, 3), (15, 0, 71)], [(3, 8)]), [(.inr none, 245, ([], [(3, 8, 100083)], []))])
set_option maxRecDepth 100000 in
theorem p2_s1685_e : ck_ok p2_O none [] [(58, [p2_s1679, p2_s1680, p2_s1681, p2_s1682, p2_s1683, p2_s1684])] 57 [] 204 p2_s1685 = true := by decide +kernel
theorem p2_s1685_s {X : Int → Int} {LX : Nat} : ck_Ok p2_O X LX 57 p2_s1685 := ck_ok_s ⟨p2_nmu, ck_E1 (ck_S1 p2_s1679_s (ck_S1 p2_s1680_s (ck_S1 p2_s1681_s (ck_S1 p2_s1682_s (ck_S1 p2_s1683_s (ck_S1 p2_s1684_s ck_S0)))))) ck_E0⟩ ck_X0 ck_l0 p2_s1685_e
set_option maxRecDepth 100000 in
/-- GlacierMail$Rows.copyFrom -/
def p2_s1686 : ck_Sum := ((1, 0, 0), 245, [.inr (.inr (.inl 4)), .inr (.inr (.inl 97))], ([], [], []), ([(4, 3, 3), (5, 0, 55)], []), [(.inr none, 245, ([], [], []))])
set_option maxRecDepth 100000 in
theorem p2_s1686_e : ck_ok p2_O none [] [] 58 [] 114 p2_s1686 = true := by decide +kernel
theorem p2_s1686_s {X : Int → Int} {LX : Nat} : ck_Ok p2_O X LX 58 p2_s1686 := ck_ok_s ⟨p2_nmu, ck_E0⟩ ck_X0 ck_l0 p2_s1686_e
set_option maxRecDepth 100000 in
/-- GlacierMail$Rows.copyFrom -/
def p2_s1687 : ck_Sum := ((1, 0, 0), 245, [.inr (.inr (.inl 6)), .inr (.inr (.inl 99))], ([], [], []), ([(6, 3, 3), (7, 0, 23)], []), [(.inr none, 245, ([], [], []))])
set_option maxRecDepth 100000 in
theorem p2_s1687_e : ck_ok p2_O none [] [] 58 [] 114 p2_s1687 = true := by decide +kernel
theorem p2_s1687_s {X : Int → Int} {LX : Nat} : ck_Ok p2_O X LX 58 p2_s1687 := ck_ok_s ⟨p2_nmu, ck_E0⟩ ck_X0 ck_l0 p2_s1687_e
set_option maxRecDepth 100000 in
/-- GlacierMail$Rows.copyFrom -/
def p2_s1688 : ck_Sum := ((1, 0, 0), 245, [.inr (.inr (.inl 8)), .inr (.inr (.inl 101))], ([], [], []), ([(8, 3, 3), (9, 0, 23)], []), [(.inr none, 245, ([], [], []))])
set_option maxRecDepth 100000 in
theorem p2_s1688_e : ck_ok p2_O none [] [] 58 [] 114 p2_s1688 = true := by decide +kernel
theorem p2_s1688_s {X : Int → Int} {LX : Nat} : ck_Ok p2_O X LX 58 p2_s1688 := ck_ok_s ⟨p2_nmu, ck_E0⟩ ck_X0 ck_l0 p2_s1688_e
set_option maxRecDepth 100000 in
/-- GlacierMail$Rows.copyFrom -/
def p2_s1689 : ck_Sum := ((1, 0, 0), 245, [.inr (.inr (.inl 10)), .inr (.inr (.inl 103))], ([], [], []), ([(10, 3, 3), (11, 0, 167)], []), [(.inr none, 245, ([], [], []))])
set_option maxRecDepth 100000 in
theorem p2_s1689_e : ck_ok p2_O none [] [] 58 [] 114 p2_s1689 = true := by decide +kernel
theorem p2_s1689_s {X : Int → Int} {LX : Nat} : ck_Ok p2_O X LX 58 p2_s1689 := ck_ok_s ⟨p2_nmu, ck_E0⟩ ck_X0 ck_l0 p2_s1689_e
set_option maxRecDepth 100000 in
/-- GlacierMail$Rows.copyFrom -/
def p2_s1690 : ck_Sum := ((1, 0, 0), 245, [.inr (.inr (.inl 12)), .inr (.inr (.inl 105))], ([], [], []), ([(12, 3, 3), (13, 0, 35)], []), [(.inr none, 245, ([], [], []))])
set_option maxRecDepth 100000 in
theorem p2_s1690_e : ck_ok p2_O none [] [] 58 [] 114 p2_s1690 = true := by decide +kernel
theorem p2_s1690_s {X : Int → Int} {LX : Nat} : ck_Ok p2_O X LX 58 p2_s1690 := ck_ok_s ⟨p2_nmu, ck_E0⟩ ck_X0 ck_l0 p2_s1690_e
set_option maxRecDepth 100000 in
/-- GlacierMail$Rows.copyFrom -/
def p2_s1691 : ck_Sum := ((1, 0, 0), 245, [.inr (.inr (.inl 14)), .inr (.inr (.inl 107))], ([], [], []), ([(14, 3, 3), (15, 0, 71)], []), [(.inr none, 245, ([], [], []))])
set_option maxRecDepth 100000 in
theorem p2_s1691_e : ck_ok p2_O none [] [] 58 [] 114 p2_s1691 = true := by decide +kernel
theorem p2_s1691_s {X : Int → Int} {LX : Nat} : ck_Ok p2_O X LX 58 p2_s1691 := ck_ok_s ⟨p2_nmu, ck_E0⟩ ck_X0 ck_l0 p2_s1691_e
set_option maxRecDepth 100000 in
/-- GlacierMail$State.copyFrom -/
def p2_s1692 : ck_Sum := ((2, 0, 0), 245, [.inr (.inr (.inl 3)), .inr (.inr (.inl 96))], ([], [(3, 8, 0), (96, 8, 100096)], []), ([(3, 0, 7), (4, 3, 3), (5, 0, 55), (6, 3, 3), (7, 0, 23), (8, 3, 3), (9, 0, 23), (10, 3, 3), (11, 0, 167), (12, 3, 3), (13, 0, 35), (14, 3, 3), (15, 0, 71)], [(3, 8)]), [(.inr none, 245, ([], [(3, 8, 100096)], []))])
set_option maxRecDepth 100000 in
theorem p2_s1692_e : ck_ok p2_O none [] [(58, [p2_s1686, p2_s1687, p2_s1688, p2_s1689, p2_s1690, p2_s1691])] 57 [] 204 p2_s1692 = true := by decide +kernel
theorem p2_s1692_s {X : Int → Int} {LX : Nat} : ck_Ok p2_O X LX 57 p2_s1692 := ck_ok_s ⟨p2_nmu, ck_E1 (ck_S1 p2_s1686_s (ck_S1 p2_s1687_s (ck_S1 p2_s1688_s (ck_S1 p2_s1689_s (ck_S1 p2_s1690_s (ck_S1 p2_s1691_s ck_S0)))))) ck_E0⟩ ck_X0 ck_l0 p2_s1692_e
set_option maxRecDepth 100000 in
/-- GlacierMail$Rows.copyFrom -/
def p2_s1693 : ck_Sum := ((1, 0, 0), 245, [.inr (.inr (.inl 4)), .inr (.inr (.inl 110))], ([], [], []), ([(4, 3, 3), (5, 0, 55)], []), [(.inr none, 245, ([], [], []))])
set_option maxRecDepth 100000 in
theorem p2_s1693_e : ck_ok p2_O none [] [] 58 [] 114 p2_s1693 = true := by decide +kernel
theorem p2_s1693_s {X : Int → Int} {LX : Nat} : ck_Ok p2_O X LX 58 p2_s1693 := ck_ok_s ⟨p2_nmu, ck_E0⟩ ck_X0 ck_l0 p2_s1693_e
set_option maxRecDepth 100000 in
/-- GlacierMail$Rows.copyFrom -/
def p2_s1694 : ck_Sum := ((1, 0, 0), 245, [.inr (.inr (.inl 6)), .inr (.inr (.inl 112))], ([], [], []), ([(6, 3, 3), (7, 0, 23)], []), [(.inr none, 245, ([], [], []))])
set_option maxRecDepth 100000 in
theorem p2_s1694_e : ck_ok p2_O none [] [] 58 [] 114 p2_s1694 = true := by decide +kernel
theorem p2_s1694_s {X : Int → Int} {LX : Nat} : ck_Ok p2_O X LX 58 p2_s1694 := ck_ok_s ⟨p2_nmu, ck_E0⟩ ck_X0 ck_l0 p2_s1694_e
set_option maxRecDepth 100000 in
/-- GlacierMail$Rows.copyFrom -/
def p2_s1695 : ck_Sum := ((1, 0, 0), 245, [.inr (.inr (.inl 8)), .inr (.inr (.inl 114))], ([], [], []), ([(8, 3, 3), (9, 0, 23)], []), [(.inr none, 245, ([], [], []))])
set_option maxRecDepth 100000 in
theorem p2_s1695_e : ck_ok p2_O none [] [] 58 [] 114 p2_s1695 = true := by decide +kernel
theorem p2_s1695_s {X : Int → Int} {LX : Nat} : ck_Ok p2_O X LX 58 p2_s1695 := ck_ok_s ⟨p2_nmu, ck_E0⟩ ck_X0 ck_l0 p2_s1695_e
set_option maxRecDepth 100000 in
/-- GlacierMail$Rows.copyFrom -/
def p2_s1696 : ck_Sum := ((1, 0, 0), 245, [.inr (.inr (.inl 10)), .inr (.inr (.inl 116))], ([], [], []), ([(10, 3, 3), (11, 0, 167)], []), [(.inr none, 245, ([], [], []))])
set_option maxRecDepth 100000 in
theorem p2_s1696_e : ck_ok p2_O none [] [] 58 [] 114 p2_s1696 = true := by decide +kernel
theorem p2_s1696_s {X : Int → Int} {LX : Nat} : ck_Ok p2_O X LX 58 p2_s1696 := ck_ok_s ⟨p2_nmu, ck_E0⟩ ck_X0 ck_l0 p2_s1696_e
set_option maxRecDepth 100000 in
/-- GlacierMail$Rows.copyFrom -/
def p2_s1697 : ck_Sum := ((1, 0, 0), 245, [.inr (.inr (.inl 12)), .inr (.inr (.inl 118))], ([], [], []), ([(12, 3, 3), (13, 0, 35)], []), [(.inr none, 245, ([], [], []))])
set_option maxRecDepth 100000 in
theorem p2_s1697_e : ck_ok p2_O none [] [] 58 [] 114 p2_s1697 = true := by decide +kernel
theorem p2_s1697_s {X : Int → Int} {LX : Nat} : ck_Ok p2_O X LX 58 p2_s1697 := ck_ok_s ⟨p2_nmu, ck_E0⟩ ck_X0 ck_l0 p2_s1697_e
set_option maxRecDepth 100000 in
/-- GlacierMail$Rows.copyFrom -/
def p2_s1698 : ck_Sum := ((1, 0, 0), 245, [.inr (.inr (.inl 14)), .inr (.inr (.inl 120))], ([], [], []), ([(14, 3, 3), (15, 0, 71)], []), [(.inr none, 245, ([], [], []))])
set_option maxRecDepth 100000 in
theorem p2_s1698_e : ck_ok p2_O none [] [] 58 [] 114 p2_s1698 = true := by decide +kernel
theorem p2_s1698_s {X : Int → Int} {LX : Nat} : ck_Ok p2_O X LX 58 p2_s1698 := ck_ok_s ⟨p2_nmu, ck_E0⟩ ck_X0 ck_l0 p2_s1698_e
set_option maxRecDepth 100000 in
/-- GlacierMail$State.copyFrom -/
def p2_s1699 : ck_Sum := ((2, 0, 0), 245, [.inr (.inr (.inl 3)), .inr (.inr (.inl 109))], ([], [(3, 8, 0), (109, 8, 100109)], []), ([(3, 0, 7), (4, 3, 3), (5, 0, 55), (6, 3, 3), (7, 0, 23), (8, 3, 3), (9, 0, 23), (10, 3, 3), (11, 0, 167), (12, 3, 3), (13, 0, 35), (14, 3, 3), (15, 0, 71)], [(3, 8)]), [(.inr none, 245, ([], [(3, 8, 100109)], []))])
set_option maxRecDepth 100000 in
theorem p2_s1699_e : ck_ok p2_O none [] [(58, [p2_s1693, p2_s1694, p2_s1695, p2_s1696, p2_s1697, p2_s1698])] 57 [] 204 p2_s1699 = true := by decide +kernel
theorem p2_s1699_s {X : Int → Int} {LX : Nat} : ck_Ok p2_O X LX 57 p2_s1699 := ck_ok_s ⟨p2_nmu, ck_E1 (ck_S1 p2_s1693_s (ck_S1 p2_s1694_s (ck_S1 p2_s1695_s (ck_S1 p2_s1696_s (ck_S1 p2_s1697_s (ck_S1 p2_s1698_s ck_S0)))))) ck_E0⟩ ck_X0 ck_l0 p2_s1699_e
set_option maxRecDepth 100000 in
/-- GlacierMail$Rows.copyFrom -/
def p2_s1700 : ck_Sum := ((1, 0, 0), 245, [.inr (.inr (.inl 4)), .inr (.inr (.inl 123))], ([], [], []), ([(4, 3, 3), (5, 0, 55)], []), [(.inr none, 245, ([], [], []))])
set_option maxRecDepth 100000 in
theorem p2_s1700_e : ck_ok p2_O none [] [] 58 [] 114 p2_s1700 = true := by decide +kernel
theorem p2_s1700_s {X : Int → Int} {LX : Nat} : ck_Ok p2_O X LX 58 p2_s1700 := ck_ok_s ⟨p2_nmu, ck_E0⟩ ck_X0 ck_l0 p2_s1700_e
set_option maxRecDepth 100000 in
/-- GlacierMail$Rows.copyFrom -/
def p2_s1701 : ck_Sum := ((1, 0, 0), 245, [.inr (.inr (.inl 6)), .inr (.inr (.inl 125))], ([], [], []), ([(6, 3, 3), (7, 0, 23)], []), [(.inr none, 245, ([], [], []))])
set_option maxRecDepth 100000 in
theorem p2_s1701_e : ck_ok p2_O none [] [] 58 [] 114 p2_s1701 = true := by decide +kernel
theorem p2_s1701_s {X : Int → Int} {LX : Nat} : ck_Ok p2_O X LX 58 p2_s1701 := ck_ok_s ⟨p2_nmu, ck_E0⟩ ck_X0 ck_l0 p2_s1701_e
set_option maxRecDepth 100000 in
/-- GlacierMail$Rows.copyFrom -/
def p2_s1702 : ck_Sum := ((1, 0, 0), 245, [.inr (.inr (.inl 8)), .inr (.inr (.inl 127))], ([], [], []), ([(8, 3, 3), (9, 0, 23)], []), [(.inr none, 245, ([], [], []))])
set_option maxRecDepth 100000 in
theorem p2_s1702_e : ck_ok p2_O none [] [] 58 [] 114 p2_s1702 = true := by decide +kernel
theorem p2_s1702_s {X : Int → Int} {LX : Nat} : ck_Ok p2_O X LX 58 p2_s1702 := ck_ok_s ⟨p2_nmu, ck_E0⟩ ck_X0 ck_l0 p2_s1702_e
set_option maxRecDepth 100000 in
/-- GlacierMail$Rows.copyFrom -/
def p2_s1703 : ck_Sum := ((1, 0, 0), 245, [.inr (.inr (.inl 10)), .inr (.inr (.inl 129))], ([], [], []), ([(10, 3, 3), (11, 0, 167)], []), [(.inr none, 245, ([], [], []))])
set_option maxRecDepth 100000 in
theorem p2_s1703_e : ck_ok p2_O none [] [] 58 [] 114 p2_s1703 = true := by decide +kernel
theorem p2_s1703_s {X : Int → Int} {LX : Nat} : ck_Ok p2_O X LX 58 p2_s1703 := ck_ok_s ⟨p2_nmu, ck_E0⟩ ck_X0 ck_l0 p2_s1703_e
set_option maxRecDepth 100000 in
/-- GlacierMail$Rows.copyFrom -/
def p2_s1704 : ck_Sum := ((1, 0, 0), 245, [.inr (.inr (.inl 12)), .inr (.inr (.inl 131))], ([], [], []), ([(12, 3, 3), (13, 0, 35)], []), [(.inr none, 245, ([], [], []))])
set_option maxRecDepth 100000 in
theorem p2_s1704_e : ck_ok p2_O none [] [] 58 [] 114 p2_s1704 = true := by decide +kernel
theorem p2_s1704_s {X : Int → Int} {LX : Nat} : ck_Ok p2_O X LX 58 p2_s1704 := ck_ok_s ⟨p2_nmu, ck_E0⟩ ck_X0 ck_l0 p2_s1704_e
set_option maxRecDepth 100000 in
/-- GlacierMail$Rows.copyFrom -/
def p2_s1705 : ck_Sum := ((1, 0, 0), 245, [.inr (.inr (.inl 14)), .inr (.inr (.inl 133))], ([], [], []), ([(14, 3, 3), (15, 0, 71)], []), [(.inr none, 245, ([], [], []))])
set_option maxRecDepth 100000 in
theorem p2_s1705_e : ck_ok p2_O none [] [] 58 [] 114 p2_s1705 = true := by decide +kernel
theorem p2_s1705_s {X : Int → Int} {LX : Nat} : ck_Ok p2_O X LX 58 p2_s1705 := ck_ok_s ⟨p2_nmu, ck_E0⟩ ck_X0 ck_l0 p2_s1705_e
set_option maxRecDepth 100000 in
/-- GlacierMail$State.copyFrom -/
def p2_s1706 : ck_Sum := ((2, 0, 0), 245, [.inr (.inr (.inl 3)), .inr (.inr (.inl 122))], ([], [(3, 8, 0), (122, 8, 100122)], []), ([(3, 0, 7), (4, 3, 3), (5, 0, 55), (6, 3, 3), (7, 0, 23), (8, 3, 3), (9, 0, 23), (10, 3, 3), (11, 0, 167), (12, 3, 3), (13, 0, 35), (14, 3, 3), (15, 0, 71)], [(3, 8)]), [(.inr none, 245, ([], [(3, 8, 100122)], []))])
set_option maxRecDepth 100000 in
theorem p2_s1706_e : ck_ok p2_O none [] [(58, [p2_s1700, p2_s1701, p2_s1702, p2_s1703, p2_s1704, p2_s1705])] 57 [] 204 p2_s1706 = true := by decide +kernel
theorem p2_s1706_s {X : Int → Int} {LX : Nat} : ck_Ok p2_O X LX 57 p2_s1706 := ck_ok_s ⟨p2_nmu, ck_E1 (ck_S1 p2_s1700_s (ck_S1 p2_s1701_s (ck_S1 p2_s1702_s (ck_S1 p2_s1703_s (ck_S1 p2_s1704_s (ck_S1 p2_s1705_s ck_S0)))))) ck_E0⟩ ck_X0 ck_l0 p2_s1706_e
set_option maxRecDepth 100000 in
/-- GlacierMail$Rows.copyFrom -/
def p2_s1707 : ck_Sum := ((1, 0, 0), 245, [.inr (.inr (.inl 4)), .inr (.inr (.inl 136))], ([], [], []), ([(4, 3, 3), (5, 0, 55)], []), [(.inr none, 245, ([], [], []))])
set_option maxRecDepth 100000 in
theorem p2_s1707_e : ck_ok p2_O none [] [] 58 [] 114 p2_s1707 = true := by decide +kernel
theorem p2_s1707_s {X : Int → Int} {LX : Nat} : ck_Ok p2_O X LX 58 p2_s1707 := ck_ok_s ⟨p2_nmu, ck_E0⟩ ck_X0 ck_l0 p2_s1707_e
set_option maxRecDepth 100000 in
/-- GlacierMail$Rows.copyFrom -/
def p2_s1708 : ck_Sum := ((1, 0, 0), 245, [.inr (.inr (.inl 6)), .inr (.inr (.inl 138))], ([], [], []), ([(6, 3, 3), (7, 0, 23)], []), [(.inr none, 245, ([], [], []))])
set_option maxRecDepth 100000 in
theorem p2_s1708_e : ck_ok p2_O none [] [] 58 [] 114 p2_s1708 = true := by decide +kernel
theorem p2_s1708_s {X : Int → Int} {LX : Nat} : ck_Ok p2_O X LX 58 p2_s1708 := ck_ok_s ⟨p2_nmu, ck_E0⟩ ck_X0 ck_l0 p2_s1708_e
set_option maxRecDepth 100000 in
/-- GlacierMail$Rows.copyFrom -/
def p2_s1709 : ck_Sum := ((1, 0, 0), 245, [.inr (.inr (.inl 8)), .inr (.inr (.inl 140))], ([], [], []), ([(8, 3, 3), (9, 0, 23)], []), [(.inr none, 245, ([], [], []))])
set_option maxRecDepth 100000 in
theorem p2_s1709_e : ck_ok p2_O none [] [] 58 [] 114 p2_s1709 = true := by decide +kernel
theorem p2_s1709_s {X : Int → Int} {LX : Nat} : ck_Ok p2_O X LX 58 p2_s1709 := ck_ok_s ⟨p2_nmu, ck_E0⟩ ck_X0 ck_l0 p2_s1709_e
set_option maxRecDepth 100000 in
/-- GlacierMail$Rows.copyFrom -/
def p2_s1710 : ck_Sum := ((1, 0, 0), 245, [.inr (.inr (.inl 10)), .inr (.inr (.inl 142))], ([], [], []), ([(10, 3, 3), (11, 0, 167)], []), [(.inr none, 245, ([], [], []))])
set_option maxRecDepth 100000 in
theorem p2_s1710_e : ck_ok p2_O none [] [] 58 [] 114 p2_s1710 = true := by decide +kernel
theorem p2_s1710_s {X : Int → Int} {LX : Nat} : ck_Ok p2_O X LX 58 p2_s1710 := ck_ok_s ⟨p2_nmu, ck_E0⟩ ck_X0 ck_l0 p2_s1710_e
set_option maxRecDepth 100000 in
/-- GlacierMail$Rows.copyFrom -/
def p2_s1711 : ck_Sum := ((1, 0, 0), 245, [.inr (.inr (.inl 12)), .inr (.inr (.inl 144))], ([], [], []), ([(12, 3, 3), (13, 0, 35)], []), [(.inr none, 245, ([], [], []))])
set_option maxRecDepth 100000 in
theorem p2_s1711_e : ck_ok p2_O none [] [] 58 [] 114 p2_s1711 = true := by decide +kernel
theorem p2_s1711_s {X : Int → Int} {LX : Nat} : ck_Ok p2_O X LX 58 p2_s1711 := ck_ok_s ⟨p2_nmu, ck_E0⟩ ck_X0 ck_l0 p2_s1711_e
set_option maxRecDepth 100000 in
/-- GlacierMail$Rows.copyFrom -/
def p2_s1712 : ck_Sum := ((1, 0, 0), 245, [.inr (.inr (.inl 14)), .inr (.inr (.inl 146))], ([], [], []), ([(14, 3, 3), (15, 0, 71)], []), [(.inr none, 245, ([], [], []))])
set_option maxRecDepth 100000 in
theorem p2_s1712_e : ck_ok p2_O none [] [] 58 [] 114 p2_s1712 = true := by decide +kernel
theorem p2_s1712_s {X : Int → Int} {LX : Nat} : ck_Ok p2_O X LX 58 p2_s1712 := ck_ok_s ⟨p2_nmu, ck_E0⟩ ck_X0 ck_l0 p2_s1712_e
set_option maxRecDepth 100000 in
/-- GlacierMail$State.copyFrom -/
def p2_s1713 : ck_Sum := ((2, 0, 0), 245, [.inr (.inr (.inl 3)), .inr (.inr (.inl 135))], ([], [(3, 8, 0), (135, 8, 100135)], []), ([(3, 0, 7), (4, 3, 3), (5, 0, 55), (6, 3, 3), (7, 0, 23), (8, 3, 3), (9, 0, 23), (10, 3, 3), (11, 0, 167), (12, 3, 3), (13, 0, 35), (14, 3, 3), (15, 0, 71)], [(3, 8)]), [(.inr none, 245, ([], [(3, 8, 100135)], []))])
set_option maxRecDepth 100000 in
theorem p2_s1713_e : ck_ok p2_O none [] [(58, [p2_s1707, p2_s1708, p2_s1709, p2_s1710, p2_s1711, p2_s1712])] 57 [] 204 p2_s1713 = true := by decide +kernel
theorem p2_s1713_s {X : Int → Int} {LX : Nat} : ck_Ok p2_O X LX 57 p2_s1713 := ck_ok_s ⟨p2_nmu, ck_E1 (ck_S1 p2_s1707_s (ck_S1 p2_s1708_s (ck_S1 p2_s1709_s (ck_S1 p2_s1710_s (ck_S1 p2_s1711_s (ck_S1 p2_s1712_s ck_S0)))))) ck_E0⟩ ck_X0 ck_l0 p2_s1713_e
set_option maxRecDepth 100000 in
/-- GlacierMail$Rows.copyFrom -/
def p2_s1714 : ck_Sum := ((1, 0, 0), 245, [.inr (.inr (.inl 4)), .inr (.inr (.inl 149))], ([], [], []), ([(4, 3, 3), (5, 0, 55)], []), [(.inr none, 245, ([], [], []))])
set_option maxRecDepth 100000 in
theorem p2_s1714_e : ck_ok p2_O none [] [] 58 [] 114 p2_s1714 = true := by decide +kernel
theorem p2_s1714_s {X : Int → Int} {LX : Nat} : ck_Ok p2_O X LX 58 p2_s1714 := ck_ok_s ⟨p2_nmu, ck_E0⟩ ck_X0 ck_l0 p2_s1714_e
set_option maxRecDepth 100000 in
/-- GlacierMail$Rows.copyFrom -/
def p2_s1715 : ck_Sum := ((1, 0, 0), 245, [.inr (.inr (.inl 6)), .inr (.inr (.inl 151))], ([], [], []), ([(6, 3, 3), (7, 0, 23)], []), [(.inr none, 245, ([], [], []))])
set_option maxRecDepth 100000 in
theorem p2_s1715_e : ck_ok p2_O none [] [] 58 [] 114 p2_s1715 = true := by decide +kernel
theorem p2_s1715_s {X : Int → Int} {LX : Nat} : ck_Ok p2_O X LX 58 p2_s1715 := ck_ok_s ⟨p2_nmu, ck_E0⟩ ck_X0 ck_l0 p2_s1715_e
set_option maxRecDepth 100000 in
/-- GlacierMail$Rows.copyFrom -/
def p2_s1716 : ck_Sum := ((1, 0, 0), 245, [.inr (.inr (.inl 8)), .inr (.inr (.inl 153))], ([], [], []), ([(8, 3, 3), (9, 0, 23)], []), [(.inr none, 245, ([], [], []))])
set_option maxRecDepth 100000 in
theorem p2_s1716_e : ck_ok p2_O none [] [] 58 [] 114 p2_s1716 = true := by decide +kernel
theorem p2_s1716_s {X : Int → Int} {LX : Nat} : ck_Ok p2_O X LX 58 p2_s1716 := ck_ok_s ⟨p2_nmu, ck_E0⟩ ck_X0 ck_l0 p2_s1716_e
set_option maxRecDepth 100000 in
/-- GlacierMail$Rows.copyFrom -/
def p2_s1717 : ck_Sum := ((1, 0, 0), 245, [.inr (.inr (.inl 10)), .inr (.inr (.inl 155))], ([], [], []), ([(10, 3, 3), (11, 0, 167)], []), [(.inr none, 245, ([], [], []))])
set_option maxRecDepth 100000 in
theorem p2_s1717_e : ck_ok p2_O none [] [] 58 [] 114 p2_s1717 = true := by decide +kernel
theorem p2_s1717_s {X : Int → Int} {LX : Nat} : ck_Ok p2_O X LX 58 p2_s1717 := ck_ok_s ⟨p2_nmu, ck_E0⟩ ck_X0 ck_l0 p2_s1717_e
set_option maxRecDepth 100000 in
/-- GlacierMail$Rows.copyFrom -/
def p2_s1718 : ck_Sum := ((1, 0, 0), 245, [.inr (.inr (.inl 12)), .inr (.inr (.inl 157))], ([], [], []), ([(12, 3, 3), (13, 0, 35)], []), [(.inr none, 245, ([], [], []))])
set_option maxRecDepth 100000 in
theorem p2_s1718_e : ck_ok p2_O none [] [] 58 [] 114 p2_s1718 = true := by decide +kernel
theorem p2_s1718_s {X : Int → Int} {LX : Nat} : ck_Ok p2_O X LX 58 p2_s1718 := ck_ok_s ⟨p2_nmu, ck_E0⟩ ck_X0 ck_l0 p2_s1718_e
set_option maxRecDepth 100000 in
/-- GlacierMail$Rows.copyFrom -/
def p2_s1719 : ck_Sum := ((1, 0, 0), 245, [.inr (.inr (.inl 14)), .inr (.inr (.inl 159))], ([], [], []), ([(14, 3, 3), (15, 0, 71)], []), [(.inr none, 245, ([], [], []))])
set_option maxRecDepth 100000 in
theorem p2_s1719_e : ck_ok p2_O none [] [] 58 [] 114 p2_s1719 = true := by decide +kernel
theorem p2_s1719_s {X : Int → Int} {LX : Nat} : ck_Ok p2_O X LX 58 p2_s1719 := ck_ok_s ⟨p2_nmu, ck_E0⟩ ck_X0 ck_l0 p2_s1719_e
set_option maxRecDepth 100000 in
/-- GlacierMail$State.copyFrom -/
def p2_s1720 : ck_Sum := ((2, 0, 0), 245, [.inr (.inr (.inl 3)), .inr (.inr (.inl 148))], ([], [(3, 8, 0), (148, 8, 100148)], []), ([(3, 0, 7), (4, 3, 3), (5, 0, 55), (6, 3, 3), (7, 0, 23), (8, 3, 3), (9, 0, 23), (10, 3, 3), (11, 0, 167), (12, 3, 3), (13, 0, 35), (14, 3, 3), (15, 0, 71)], [(3, 8)]), [(.inr none, 245, ([], [(3, 8, 100148)], []))])
set_option maxRecDepth 100000 in
theorem p2_s1720_e : ck_ok p2_O none [] [(58, [p2_s1714, p2_s1715, p2_s1716, p2_s1717, p2_s1718, p2_s1719])] 57 [] 204 p2_s1720 = true := by decide +kernel
theorem p2_s1720_s {X : Int → Int} {LX : Nat} : ck_Ok p2_O X LX 57 p2_s1720 := ck_ok_s ⟨p2_nmu, ck_E1 (ck_S1 p2_s1714_s (ck_S1 p2_s1715_s (ck_S1 p2_s1716_s (ck_S1 p2_s1717_s (ck_S1 p2_s1718_s (ck_S1 p2_s1719_s ck_S0)))))) ck_E0⟩ ck_X0 ck_l0 p2_s1720_e
set_option maxRecDepth 100000 in
/-- GlacierMail$Rows.copyFrom -/
def p2_s1721 : ck_Sum := ((1, 0, 0), 245, [.inr (.inr (.inl 4)), .inr (.inr (.inl 162))], ([], [], []), ([(4, 3, 3), (5, 0, 55)], []), [(.inr none, 245, ([], [], []))])
set_option maxRecDepth 100000 in
theorem p2_s1721_e : ck_ok p2_O none [] [] 58 [] 114 p2_s1721 = true := by decide +kernel
theorem p2_s1721_s {X : Int → Int} {LX : Nat} : ck_Ok p2_O X LX 58 p2_s1721 := ck_ok_s ⟨p2_nmu, ck_E0⟩ ck_X0 ck_l0 p2_s1721_e
set_option maxRecDepth 100000 in
/-- GlacierMail$Rows.copyFrom -/
def p2_s1722 : ck_Sum := ((1, 0, 0), 245, [.inr (.inr (.inl 6)), .inr (.inr (.inl 164))], ([], [], []), ([(6, 3, 3), (7, 0, 23)], []), [(.inr none, 245, ([], [], []))])
set_option maxRecDepth 100000 in
theorem p2_s1722_e : ck_ok p2_O none [] [] 58 [] 114 p2_s1722 = true := by decide +kernel
theorem p2_s1722_s {X : Int → Int} {LX : Nat} : ck_Ok p2_O X LX 58 p2_s1722 := ck_ok_s ⟨p2_nmu, ck_E0⟩ ck_X0 ck_l0 p2_s1722_e
set_option maxRecDepth 100000 in
/-- GlacierMail$Rows.copyFrom -/
def p2_s1723 : ck_Sum := ((1, 0, 0), 245, [.inr (.inr (.inl 8)), .inr (.inr (.inl 166))], ([], [], []), ([(8, 3, 3), (9, 0, 23)], []), [(.inr none, 245, ([], [], []))])
set_option maxRecDepth 100000 in
theorem p2_s1723_e : ck_ok p2_O none [] [] 58 [] 114 p2_s1723 = true := by decide +kernel
theorem p2_s1723_s {X : Int → Int} {LX : Nat} : ck_Ok p2_O X LX 58 p2_s1723 := ck_ok_s ⟨p2_nmu, ck_E0⟩ ck_X0 ck_l0 p2_s1723_e
set_option maxRecDepth 100000 in
/-- GlacierMail$Rows.copyFrom -/
def p2_s1724 : ck_Sum := ((1, 0, 0), 245, [.inr (.inr (.inl 10)), .inr (.inr (.inl 168))], ([], [], []), ([(10, 3, 3), (11, 0, 167)], []), [(.inr none, 245, ([], [], []))])
set_option maxRecDepth 100000 in
theorem p2_s1724_e : ck_ok p2_O none [] [] 58 [] 114 p2_s1724 = true := by decide +kernel
theorem p2_s1724_s {X : Int → Int} {LX : Nat} : ck_Ok p2_O X LX 58 p2_s1724 := ck_ok_s ⟨p2_nmu, ck_E0⟩ ck_X0 ck_l0 p2_s1724_e
set_option maxRecDepth 100000 in
/-- GlacierMail$Rows.copyFrom -/
def p2_s1725 : ck_Sum := ((1, 0, 0), 245, [.inr (.inr (.inl 12)), .inr (.inr (.inl 170))], ([], [], []), ([(12, 3, 3), (13, 0, 35)], []), [(.inr none, 245, ([], [], []))])
set_option maxRecDepth 100000 in
theorem p2_s1725_e : ck_ok p2_O none [] [] 58 [] 114 p2_s1725 = true := by decide +kernel
theorem p2_s1725_s {X : Int → Int} {LX : Nat} : ck_Ok p2_O X LX 58 p2_s1725 := ck_ok_s ⟨p2_nmu, ck_E0⟩ ck_X0 ck_l0 p2_s1725_e
set_option maxRecDepth 100000 in
/-- GlacierMail$Rows.copyFrom -/
def p2_s1726 : ck_Sum := ((1, 0, 0), 245, [.inr (.inr (.inl 14)), .inr (.inr (.inl 172))], ([], [], []), ([(14, 3, 3), (15, 0, 71)], []), [(.inr none, 245, ([], [], []))])
set_option maxRecDepth 100000 in
theorem p2_s1726_e : ck_ok p2_O none [] [] 58 [] 114 p2_s1726 = true := by decide +kernel
theorem p2_s1726_s {X : Int → Int} {LX : Nat} : ck_Ok p2_O X LX 58 p2_s1726 := ck_ok_s ⟨p2_nmu, ck_E0⟩ ck_X0 ck_l0 p2_s1726_e
set_option maxRecDepth 100000 in
/-- GlacierMail$State.copyFrom -/
def p2_s1727 : ck_Sum := ((2, 0, 0), 245, [.inr (.inr (.inl 3)), .inr (.inr (.inl 161))], ([], [(3, 8, 0), (161, 8, 100161)], []), ([(3, 0, 7), (4, 3, 3), (5, 0, 55), (6, 3, 3), (7, 0, 23), (8, 3, 3), (9, 0, 23), (10, 3, 3), (11, 0, 167), (12, 3, 3), (13, 0, 35), (14, 3, 3), (15, 0, 71)], [(3, 8)]), [(.inr none, 245, ([], [(3, 8, 100161)], []))])
set_option maxRecDepth 100000 in
theorem p2_s1727_e : ck_ok p2_O none [] [(58, [p2_s1721, p2_s1722, p2_s1723, p2_s1724, p2_s1725, p2_s1726])] 57 [] 204 p2_s1727 = true := by decide +kernel
theorem p2_s1727_s {X : Int → Int} {LX : Nat} : ck_Ok p2_O X LX 57 p2_s1727 := ck_ok_s ⟨p2_nmu, ck_E1 (ck_S1 p2_s1721_s (ck_S1 p2_s1722_s (ck_S1 p2_s1723_s (ck_S1 p2_s1724_s (ck_S1 p2_s1725_s (ck_S1 p2_s1726_s ck_S0)))))) ck_E0⟩ ck_X0 ck_l0 p2_s1727_e
set_option maxRecDepth 100000 in
/-- GlacierMail$Rows.copyFrom -/
def p2_s1728 : ck_Sum := ((1, 0, 0), 245, [.inr (.inr (.inl 4)), .inr (.inr (.inl 175))], ([], [], []), ([(4, 3, 3), (5, 0, 55)], []), [(.inr none, 245, ([], [], []))])
set_option maxRecDepth 100000 in
theorem p2_s1728_e : ck_ok p2_O none [] [] 58 [] 114 p2_s1728 = true := by decide +kernel
theorem p2_s1728_s {X : Int → Int} {LX : Nat} : ck_Ok p2_O X LX 58 p2_s1728 := ck_ok_s ⟨p2_nmu, ck_E0⟩ ck_X0 ck_l0 p2_s1728_e
set_option maxRecDepth 100000 in
/-- GlacierMail$Rows.copyFrom -/
def p2_s1729 : ck_Sum := ((1, 0, 0), 245, [.inr (.inr (.inl 6)), .inr (.inr (.inl 177))], ([], [], []), ([(6, 3, 3), (7, 0, 23)], []), [(.inr none, 245, ([], [], []))])
set_option maxRecDepth 100000 in
theorem p2_s1729_e : ck_ok p2_O none [] [] 58 [] 114 p2_s1729 = true := by decide +kernel
theorem p2_s1729_s {X : Int → Int} {LX : Nat} : ck_Ok p2_O X LX 58 p2_s1729 := ck_ok_s ⟨p2_nmu, ck_E0⟩ ck_X0 ck_l0 p2_s1729_e
set_option maxRecDepth 100000 in
/-- GlacierMail$Rows.copyFrom -/
def p2_s1730 : ck_Sum := ((1, 0, 0), 245, [.inr (.inr (.inl 8)), .inr (.inr (.inl 179))], ([], [], []), ([(8, 3, 3), (9, 0, 23)], []), [(.inr none, 245, ([], [], []))])
set_option maxRecDepth 100000 in
theorem p2_s1730_e : ck_ok p2_O none [] [] 58 [] 114 p2_s1730 = true := by decide +kernel
theorem p2_s1730_s {X : Int → Int} {LX : Nat} : ck_Ok p2_O X LX 58 p2_s1730 := ck_ok_s ⟨p2_nmu, ck_E0⟩ ck_X0 ck_l0 p2_s1730_e
set_option maxRecDepth 100000 in
/-- GlacierMail$Rows.copyFrom -/
def p2_s1731 : ck_Sum := ((1, 0, 0), 245, [.inr (.inr (.inl 10)), .inr (.inr (.inl 181))], ([], [], []), ([(10, 3, 3), (11, 0, 167)], []), [(.inr none, 245, ([], [], []))])
set_option maxRecDepth 100000 in
theorem p2_s1731_e : ck_ok p2_O none [] [] 58 [] 114 p2_s1731 = true := by decide +kernel
theorem p2_s1731_s {X : Int → Int} {LX : Nat} : ck_Ok p2_O X LX 58 p2_s1731 := ck_ok_s ⟨p2_nmu, ck_E0⟩ ck_X0 ck_l0 p2_s1731_e
set_option maxRecDepth 100000 in
/-- GlacierMail$Rows.copyFrom -/
def p2_s1732 : ck_Sum := ((1, 0, 0), 245, [.inr (.inr (.inl 12)), .inr (.inr (.inl 183))], ([], [], []), ([(12, 3, 3), (13, 0, 35)], []), [(.inr none, 245, ([], [], []))])
set_option maxRecDepth 100000 in
theorem p2_s1732_e : ck_ok p2_O none [] [] 58 [] 114 p2_s1732 = true := by decide +kernel
theorem p2_s1732_s {X : Int → Int} {LX : Nat} : ck_Ok p2_O X LX 58 p2_s1732 := ck_ok_s ⟨p2_nmu, ck_E0⟩ ck_X0 ck_l0 p2_s1732_e
set_option maxRecDepth 100000 in
/-- GlacierMail$Rows.copyFrom -/
def p2_s1733 : ck_Sum := ((1, 0, 0), 245, [.inr (.inr (.inl 14)), .inr (.inr (.inl 185))], ([], [], []), ([(14, 3, 3), (15, 0, 71)], []), [(.inr none, 245, ([], [], []))])
set_option maxRecDepth 100000 in
theorem p2_s1733_e : ck_ok p2_O none [] [] 58 [] 114 p2_s1733 = true := by decide +kernel
theorem p2_s1733_s {X : Int → Int} {LX : Nat} : ck_Ok p2_O X LX 58 p2_s1733 := ck_ok_s ⟨p2_nmu, ck_E0⟩ ck_X0 ck_l0 p2_s1733_e
set_option maxRecDepth 100000 in
/-- GlacierMail$State.copyFrom -/
def p2_s1734 : ck_Sum := ((2, 0, 0), 245, [.inr (.inr (.inl 3)), .inr (.inr (.inl 174))], ([], [(3, 8, 0), (174, 8, 100174)], []), ([(3, 0, 7), (4, 3, 3), (5, 0, 55), (6, 3, 3), (7, 0, 23), (8, 3, 3), (9, 0, 23), (10, 3, 3), (11, 0, 167), (12, 3, 3), (13, 0, 35), (14, 3, 3), (15, 0, 71)], [(3, 8)]), [(.inr none, 245, ([], [(3, 8, 100174)], []))])
set_option maxRecDepth 100000 in
theorem p2_s1734_e : ck_ok p2_O none [] [(58, [p2_s1728, p2_s1729, p2_s1730, p2_s1731, p2_s1732, p2_s1733])] 57 [] 204 p2_s1734 = true := by decide +kernel
theorem p2_s1734_s {X : Int → Int} {LX : Nat} : ck_Ok p2_O X LX 57 p2_s1734 := ck_ok_s ⟨p2_nmu, ck_E1 (ck_S1 p2_s1728_s (ck_S1 p2_s1729_s (ck_S1 p2_s1730_s (ck_S1 p2_s1731_s (ck_S1 p2_s1732_s (ck_S1 p2_s1733_s ck_S0)))))) ck_E0⟩ ck_X0 ck_l0 p2_s1734_e
set_option maxRecDepth 100000 in
/-- GlacierMail$Rows.copyFrom -/
def p2_s1735 : ck_Sum := ((1, 0, 0), 245, [.inr (.inr (.inl 4)), .inr (.inr (.inl 188))], ([], [], []), ([(4, 3, 3), (5, 0, 55)], []), [(.inr none, 245, ([], [], []))])
set_option maxRecDepth 100000 in
theorem p2_s1735_e : ck_ok p2_O none [] [] 58 [] 114 p2_s1735 = true := by decide +kernel
theorem p2_s1735_s {X : Int → Int} {LX : Nat} : ck_Ok p2_O X LX 58 p2_s1735 := ck_ok_s ⟨p2_nmu, ck_E0⟩ ck_X0 ck_l0 p2_s1735_e
set_option maxRecDepth 100000 in
/-- GlacierMail$Rows.copyFrom -/
def p2_s1736 : ck_Sum := ((1, 0, 0), 245, [.inr (.inr (.inl 6)), .inr (.inr (.inl 190))], ([], [], []), ([(6, 3, 3), (7, 0, 23)], []), [(.inr none, 245, ([], [], []))])
set_option maxRecDepth 100000 in
theorem p2_s1736_e : ck_ok p2_O none [] [] 58 [] 114 p2_s1736 = true := by decide +kernel
theorem p2_s1736_s {X : Int → Int} {LX : Nat} : ck_Ok p2_O X LX 58 p2_s1736 := ck_ok_s ⟨p2_nmu, ck_E0⟩ ck_X0 ck_l0 p2_s1736_e
set_option maxRecDepth 100000 in
/-- GlacierMail$Rows.copyFrom -/
def p2_s1737 : ck_Sum := ((1, 0, 0), 245, [.inr (.inr (.inl 8)), .inr (.inr (.inl 192))], ([], [], []), ([(8, 3, 3), (9, 0, 23)], []), [(.inr none, 245, ([], [], []))])
set_option maxRecDepth 100000 in
theorem p2_s1737_e : ck_ok p2_O none [] [] 58 [] 114 p2_s1737 = true := by decide +kernel
theorem p2_s1737_s {X : Int → Int} {LX : Nat} : ck_Ok p2_O X LX 58 p2_s1737 := ck_ok_s ⟨p2_nmu, ck_E0⟩ ck_X0 ck_l0 p2_s1737_e
set_option maxRecDepth 100000 in
/-- GlacierMail$Rows.copyFrom -/
def p2_s1738 : ck_Sum := ((1, 0, 0), 245, [.inr (.inr (.inl 10)), .inr (.inr (.inl 194))], ([], [], []), ([(10, 3, 3), (11, 0, 167)], []), [(.inr none, 245, ([], [], []))])
set_option maxRecDepth 100000 in
theorem p2_s1738_e : ck_ok p2_O none [] [] 58 [] 114 p2_s1738 = true := by decide +kernel
theorem p2_s1738_s {X : Int → Int} {LX : Nat} : ck_Ok p2_O X LX 58 p2_s1738 := ck_ok_s ⟨p2_nmu, ck_E0⟩ ck_X0 ck_l0 p2_s1738_e
set_option maxRecDepth 100000 in
/-- GlacierMail$Rows.copyFrom -/
def p2_s1739 : ck_Sum := ((1, 0, 0), 245, [.inr (.inr (.inl 12)), .inr (.inr (.inl 196))], ([], [], []), ([(12, 3, 3), (13, 0, 35)], []), [(.inr none, 245, ([], [], []))])
set_option maxRecDepth 100000 in
theorem p2_s1739_e : ck_ok p2_O none [] [] 58 [] 114 p2_s1739 = true := by decide +kernel
theorem p2_s1739_s {X : Int → Int} {LX : Nat} : ck_Ok p2_O X LX 58 p2_s1739 := ck_ok_s ⟨p2_nmu, ck_E0⟩ ck_X0 ck_l0 p2_s1739_e
set_option maxRecDepth 100000 in
/-- GlacierMail$Rows.copyFrom -/
def p2_s1740 : ck_Sum := ((1, 0, 0), 245, [.inr (.inr (.inl 14)), .inr (.inr (.inl 198))], ([], [], []), ([(14, 3, 3), (15, 0, 71)], []), [(.inr none, 245, ([], [], []))])
set_option maxRecDepth 100000 in
theorem p2_s1740_e : ck_ok p2_O none [] [] 58 [] 114 p2_s1740 = true := by decide +kernel
theorem p2_s1740_s {X : Int → Int} {LX : Nat} : ck_Ok p2_O X LX 58 p2_s1740 := ck_ok_s ⟨p2_nmu, ck_E0⟩ ck_X0 ck_l0 p2_s1740_e
set_option maxRecDepth 100000 in
/-- GlacierMail$State.copyFrom -/
def p2_s1741 : ck_Sum := ((2, 0, 0), 245, [.inr (.inr (.inl 3)), .inr (.inr (.inl 187))], ([], [(3, 8, 0), (187, 8, 100187)], []), ([(3, 0, 7), (4, 3, 3), (5, 0, 55), (6, 3, 3), (7, 0, 23), (8, 3, 3), (9, 0, 23), (10, 3, 3), (11, 0, 167), (12, 3, 3), (13, 0, 35), (14, 3, 3), (15, 0, 71)], [(3, 8)]), [(.inr none, 245, ([], [(3, 8, 100187)], []))])
set_option maxRecDepth 100000 in
theorem p2_s1741_e : ck_ok p2_O none [] [(58, [p2_s1735, p2_s1736, p2_s1737, p2_s1738, p2_s1739, p2_s1740])] 57 [] 204 p2_s1741 = true := by decide +kernel
theorem p2_s1741_s {X : Int → Int} {LX : Nat} : ck_Ok p2_O X LX 57 p2_s1741 := ck_ok_s ⟨p2_nmu, ck_E1 (ck_S1 p2_s1735_s (ck_S1 p2_s1736_s (ck_S1 p2_s1737_s (ck_S1 p2_s1738_s (ck_S1 p2_s1739_s (ck_S1 p2_s1740_s ck_S0)))))) ck_E0⟩ ck_X0 ck_l0 p2_s1741_e
set_option maxRecDepth 100000 in
/-- GlacierMail$History.takeBack -/
def p2_s1742 : ck_Sum := ((3, 0, 0), 245, [.inr (.inr (.inl 42)), .inr (.inr (.inl 3))], ([], [(3, 8, 0), (44, 8, 100044), (57, 8, 100057), (70, 8, 100070), (83, 8, 100083), (96, 8, 100096), (109, 8, 100109), (122, 8, 100122), (135, 8, 100135), (148, 8, 100148), (161, 8, 100161), (174, 8, 100174), (187, 8, 100187)], []), ([(3, 0, 7), (4, 3, 3), (5, 0, 55), (6, 3, 3), (7, 0, 23), (8, 3, 3), (9, 0, 23), (10, 3, 3), (11, 0, 167), (12, 3, 3), (13, 0, 35), (14, 3, 3), (15, 0, 71), (42, 1, 2)], [(3, 8)]), [(.inr (some (.inl (ck_one 1))), 245, ([], [(3, 8, 100044)], [(42, 2, 2, (0, 11, [])), (42, 1, 1, (0, 11, []))])), (.inr (some (.inl (ck_one 1))), 245, ([], [(3, 8, 100057)], [(42, 2, 2, (0, 11, [])), (42, 1, 1, (0, 11, []))])), (.inr (some (.inl (ck_one 1))), 245, ([], [(3, 8, 100070)], [(42, 2, 2, (0, 11, [])), (42, 1, 1, (0, 11, []))])), (.inr (some (.inl (ck_one 1))), 245, ([], [(3, 8, 100083)], [(42, 2, 2, (0, 11, [])), (42, 1, 1, (0, 11, []))])), (.inr (some (.inl (ck_one 1))), 245, ([], [(3, 8, 100096)], [(42, 2, 2, (0, 11, [])), (42, 1, 1, (0, 11, []))])), (.inr (some (.inl (ck_one 1))), 245, ([], [(3, 8, 100109)], [(42, 2, 2, (0, 11, [])), (42, 1, 1, (0, 11, []))])), (.inr (some (.inl (ck_one 1))), 245, ([], [(3, 8, 100122)], [(42, 2, 2, (0, 11, [])), (42, 1, 1, (0, 11, []))])), (.inr (some (.inl (ck_one 1))), 245, ([], [(3, 8, 100135)], [(42, 2, 2, (0, 11, [])), (42, 1, 1, (0, 11, []))])), (.inr (some (.inl (ck_one 1))), 245, ([], [(3, 8, 100148)], [(42, 2, 2, (0, 11, [])), (42, 1, 1, (0, 11, []))])), (.inr (some (.inl (ck_one 1))), 245, ([], [(3, 8, 100161)], [(42, 2, 2, (0, 11, [])), (42, 1, 1, (0, 11, []))])), (.inr (some (.inl (ck_one 1))), 245, ([], [(3, 8, 100174)], [(42, 2, 2, (0, 11, [])), (42, 1, 1, (0, 11, []))])), (.inr (some (.inl (ck_one 1))), 245, ([], [(3, 8, 100187)], [(42, 2, 2, (0, 11, [])), (42, 1, 1, (0, 11, []))])), (.inr (some (.inl (ck_one 0))), 245, ([], [(3, 8, 0)], [(42, 2, 2, ck_one 0)]))])
set_option maxRecDepth 100000 in
theorem p2_s1742_e : ck_ok p2_O none [] [(56, [p2_s1657]), (57, [p2_s1664, p2_s1671, p2_s1678, p2_s1685, p2_s1692, p2_s1699, p2_s1706, p2_s1713, p2_s1720, p2_s1727, p2_s1734, p2_s1741])] 55 [] 132 p2_s1742 = true := by decide +kernel
theorem p2_s1742_s {X : Int → Int} {LX : Nat} : ck_Ok p2_O X LX 55 p2_s1742 := ck_ok_s ⟨p2_nmu, ck_E1 (ck_S1 p2_s1657_s ck_S0) (ck_E1 (ck_S1 p2_s1664_s (ck_S1 p2_s1671_s (ck_S1 p2_s1678_s (ck_S1 p2_s1685_s (ck_S1 p2_s1692_s (ck_S1 p2_s1699_s (ck_S1 p2_s1706_s (ck_S1 p2_s1713_s (ck_S1 p2_s1720_s (ck_S1 p2_s1727_s (ck_S1 p2_s1734_s (ck_S1 p2_s1741_s ck_S0)))))))))))) ck_E0)⟩ ck_X0 ck_l0 p2_s1742_e
set_option maxRecDepth 100000 in
/-- GlacierMail.undo -/
def p2_s1743 : ck_Sum := ((4, 0, 0), 245, [.inr (.inr (.inl 1))], ([], [(3, 8, 0), (44, 8, 100044), (57, 8, 100057), (70, 8, 100070), (83, 8, 100083), (96, 8, 100096), (109, 8, 100109), (122, 8, 100122), (135, 8, 100135), (148, 8, 100148), (161, 8, 100161), (174, 8, 100174), (187, 8, 100187)], []), ([(1, 15, 15), (3, 0, 7), (4, 3, 3), (5, 0, 55), (6, 3, 3), (7, 0, 23), (8, 3, 3), (9, 0, 23), (10, 3, 3), (11, 0, 167), (12, 3, 3), (13, 0, 35), (14, 3, 3), (15, 0, 71), (42, 1, 2)], [(3, 8)]), [(.inr (some (.inl (ck_one 1))), 245, ([], [(3, 8, 100044)], [(42, 2, 2, (0, 11, [])), (42, 1, 1, (0, 11, [])), (1, 15, 15, ck_one 0)])), (.inr (some (.inl (ck_one 0))), 245, ([], [(3, 8, 0)], [(42, 2, 2, ck_one 0), (1, 15, 15, ck_one 0)])), (.inr (some (.inl (ck_one 1))), 245, ([], [(3, 8, 100187)], [(42, 2, 2, (0, 11, [])), (42, 1, 1, (0, 11, [])), (1, 15, 15, ck_one 0)])), (.inr (some (.inl (ck_one 1))), 245, ([], [(3, 8, 100174)], [(42, 2, 2, (0, 11, [])), (42, 1, 1, (0, 11, [])), (1, 15, 15, ck_one 0)])), (.inr (some (.inl (ck_one 1))), 245, ([], [(3, 8, 100161)], [(42, 2, 2, (0, 11, [])), (42, 1, 1, (0, 11, [])), (1, 15, 15, ck_one 0)])), (.inr (some (.inl (ck_one 1))), 245, ([], [(3, 8, 100148)], [(42, 2, 2, (0, 11, [])), (42, 1, 1, (0, 11, [])), (1, 15, 15, ck_one 0)])), (.inr (some (.inl (ck_one 1))), 245, ([], [(3, 8, 100135)], [(42, 2, 2, (0, 11, [])), (42, 1, 1, (0, 11, [])), (1, 15, 15, ck_one 0)])), (.inr (some (.inl (ck_one 1))), 245, ([], [(3, 8, 100122)], [(42, 2, 2, (0, 11, [])), (42, 1, 1, (0, 11, [])), (1, 15, 15, ck_one 0)])), (.inr (some (.inl (ck_one 1))), 245, ([], [(3, 8, 100109)], [(42, 2, 2, (0, 11, [])), (42, 1, 1, (0, 11, [])), (1, 15, 15, ck_one 0)])), (.inr (some (.inl (ck_one 1))), 245, ([], [(3, 8, 100096)], [(42, 2, 2, (0, 11, [])), (42, 1, 1, (0, 11, [])), (1, 15, 15, ck_one 0)])), (.inr (some (.inl (ck_one 1))), 245, ([], [(3, 8, 100083)], [(42, 2, 2, (0, 11, [])), (42, 1, 1, (0, 11, [])), (1, 15, 15, ck_one 0)])), (.inr (some (.inl (ck_one 1))), 245, ([], [(3, 8, 100070)], [(42, 2, 2, (0, 11, [])), (42, 1, 1, (0, 11, [])), (1, 15, 15, ck_one 0)])), (.inr (some (.inl (ck_one 1))), 245, ([], [(3, 8, 100057)], [(42, 2, 2, (0, 11, [])), (42, 1, 1, (0, 11, [])), (1, 15, 15, ck_one 0)]))])
set_option maxRecDepth 100000 in
theorem p2_s1743_e : ck_ok p2_O none [] [(55, [p2_s1742])] 54 [] 88 p2_s1743 = true := by decide +kernel
theorem p2_s1743_s {X : Int → Int} {LX : Nat} : ck_Ok p2_O X LX 54 p2_s1743 := ck_ok_s ⟨p2_nmu, ck_E1 (ck_S1 p2_s1742_s ck_S0) ck_E0⟩ ck_X0 ck_l0 p2_s1743_e
set_option maxRecDepth 100000 in
/-- GlacierMailModel.undo -/
def p2_s1744 : ck_Sum := ((0, 0, 0), 245, [.inr (.inr (.inl 226))], ([], [], [(227, 2, 2, (0, 8, [(20, 0)])), (227, 3, 3, (0, 8, [(21, 0)])), (227, 4, 4, (0, 24, [(22, 0)])), (227, 5, 5, (0, 8, [(23, 0)])), (227, 6, 6, (0, 6, [(24, 0)])), (227, 7, 7, (0, 12, [(25, 0)])), (227, 14, 14, (0, 24, [(26, 0)])), (226, 6, 6, (0, 12, [(27, 0)])), (227, 9, 9, (0, 299, [(11, 0)]))]), ([(226, 0, 0), (226, 6, 6), (227, 0, 394)], []), [(.inr (some (.inl (ck_one 0))), 245, ([], [], [(226, 6, 6, (0, 0, [(27, 0)])), (226, 0, 0, ck_one 0), (227, 2, 2, (0, 8, [(20, 0)])), (227, 3, 3, (0, 8, [(21, 0)])), (227, 4, 4, (0, 24, [(22, 0)])), (227, 5, 5, (0, 8, [(23, 0)])), (227, 6, 6, (0, 6, [(24, 0)])), (227, 7, 7, (0, 12, [(25, 0)])), (227, 14, 14, (0, 24, [(26, 0)])), (227, 9, 9, (0, 299, [(11, 0)]))])), (.inr (some (.inl (ck_one 1))), 245, ([], [], [(226, 6, 6, (0, 11, [(27, (-1))])), (226, 0, 0, ck_one 0)]))])
def p2_s1744_E : List (Nat × List ck_Sum) := []
set_option maxRecDepth 100000 in
def p2_s1744_C26 : ck_C := ([some (.inr (.inr (.inl 226))), some (.inl (ck_one 0))], ([], [], [(226, 6, 6, (0, 11, [(27, (-1))])), (226, 0, 0, ck_one 0), (227, 2, 2, (0, 8, [(20, 0)])), (227, 3, 3, (0, 8, [(21, 0)])), (227, 4, 4, (0, 24, [(22, 0)])), (227, 5, 5, (0, 8, [(23, 0)])), (227, 6, 6, (0, 6, [(24, 0)])), (227, 7, 7, (0, 12, [(25, 0)])), (227, 14, 14, (0, 24, [(26, 0)])), (227, 9, 9, (0, 299, [(11, 0)]))]), 0, .inl 1, true)
set_option maxRecDepth 100000 in
def p2_s1744_Z : List (Nat × ck_C) := [(26, p2_s1744_C26)]
set_option maxRecDepth 100000 in
theorem p2_s1744_a : (decide (p2_s1744.2.2.1.length ≤ gm_ml 238) && ck_go p2_O none [] p2_s1744_E 238 p2_s1744.1.1 p2_s1744.2.1 p2_s1744.2.2.2.2.1 p2_s1744.2.2.2.2.2 p2_s1744_Z 150 false [(26, p2_s1744_C26, 0, 0, 245)] p2_s1744.1.2.1 p2_s1744.1.2.2 0 (p2_s1744.2.2.1.map some ++ List.replicate (gm_ml 238 - p2_s1744.2.2.1.length) none) [] p2_s1744.2.1 p2_s1744.2.2.2.1) = true := by decide +kernel
theorem p2_s1744_u : ck_cu p2_s1744_Z = true := by decide +kernel
theorem p2_s1744_h {X : Int → Int} {LX : Nat} : ck_nmu p2_O ∧ ck_OkE p2_O X LX p2_s1744_E := ⟨p2_nmu, ck_E0⟩
set_option maxRecDepth 100000 in
theorem p2_s1744_g26 : ck_go p2_O none [] p2_s1744_E 238 p2_s1744.1.1 p2_s1744.2.1 p2_s1744.2.2.2.2.1 p2_s1744.2.2.2.2.2 p2_s1744_Z 150 false [] 0 0 60 (p2_s1744_C26.1.set 1 (some (.inl (ck_one 395)))) [] 245 (p2_s1744_C26.2.1.1, p2_s1744_C26.2.1.2.1, ck_cws [(227, 0, 394)] p2_s1744_C26.2.1.2.2) = true := by decide +kernel
theorem p2_s1744_y26 {X : Int → Int} {LX : Nat} {σ σ0 : Nat → Int} {K0 : gm_K} {R0 : gm_R} {M0 : gm_M} (hσ : ∀ s, s < 100 → σ s = σ0 s) : ck_Hy p2_O X LX 238 p2_s1744.1.1 p2_s1744.2.2.2.2.1 p2_s1744.2.1 K0 R0 M0 (ck_Q p2_O σ0 p2_s1744.2.2.2.2.1 p2_s1744.2.1 K0 R0 M0 p2_s1744.2.2.2.2.2) σ (26, p2_s1744_C26, 0, 0, 245) := by
  refine ck_cpH (v := 1) (A := 227) (B := 230) (N := 395) (wa := 0) (wb := 394) (pc' := 60) p2_s1744_u p2_s1744_h hσ ⟨by decide, by decide⟩ (by decide +kernel) (fun bc bs L K R M hS => ?_) p2_s1744_g26 (fun _ h => nomatch h)
  · obtain ⟨hF, hl, -, hf, -⟩ := hS
    obtain ⟨u0, l0, g0⟩ := hl.2 0 (.inr (.inr (.inl 226))) rfl
    cases g0
    obtain ⟨u1, lv, x1, rfl, -, e1, e2, -⟩ := hl.2 1 (.inl (ck_one 0)) rfl
    have e1 : (0 : Int) ≤ x1 := e1
    have e2 : x1 ≤ (0 : Int) := e2
    have e3 : x1 = 0 := by omega
    subst e3
    have h6 := (ck_fi_s hf (show ck_fi p2_s1744_C26.2.1 226 6 6 = some (0, 11, [(27, (-1))]) by decide +kernel)).2 6 (Int.le_refl _) (Int.le_refl _)
    have h61 : (0 : Int) ≤ M 226 6 := h6.2.1
    have h62 : M 226 6 ≤ (11 : Int) := h6.2.2.1
    have h63 : M 226 ((6 : Nat) : Int) = M 226 6 := rfl
    have kA : (K 227).2 = 2093 := (md_kd hF md_o.1.2).2
    have kB : (K 230).2 = 4740 := (md_kd hF md_o.2.2).2
    refine ⟨0, 395 * M 226 ((6 : Nat) : Int), ⟨by omega, by omega⟩, gm_Fx_cpy hF (md_un hF ⟨by omega, by omega⟩) (jj_undo (K := K) hF.2.2.2.2 ⟨by omega, by omega⟩), fun Q hx => ?_⟩
    exact cp_lp (iv := .iload_n 1) (v := 1) (ixA := 13) (ixB := 23) (jA := 1) (jB := 4) (A := 227) (B := 230) (mo := 226) (p := 26) (qA := 38) (qB := 52) (N := 395) (offe := 30) (offb := (-31)) (by decide) (md_mo hF) (md_kd hF md_o.1.2).1 (md_kd hF md_o.2.2).1 (md_rf hF md_r.1.1) (md_rf hF md_r.2.2) (by decide +kernel) (by decide +kernel) (by decide +kernel) (by decide +kernel) ⟨by omega, ⟨by omega, by omega⟩, ⟨by omega, by omega⟩, by omega, by omega⟩ (fun e => absurd e (by decide)) (by decide) (by decide +kernel) l0 lv ⟨rfl, rfl⟩ ⟨gm_vr 226, l0, by simp [gm_sort]⟩ (by decide +kernel) (by decide +kernel) (by decide +kernel) (by decide) (by decide +kernel) (by decide +kernel) (cp_sg_i (iv := .iload_n 1) lv ⟨rfl, rfl⟩ (by decide +kernel)) (by decide +kernel) (by decide +kernel) (cp_sg_cr (iv := .iload_n 1) (c := 395) (ix := 79) (j := 6) (by decide) l0 lv ⟨rfl, rfl⟩ (by decide +kernel) (md_mo hF) (by decide +kernel) (by decide +kernel) (by decide +kernel) (by decide +kernel) (by decide +kernel) (by decide +kernel) (by decide +kernel) (by decide +kernel)) (by decide +kernel) (by decide +kernel) (by decide +kernel) (by decide +kernel) (by decide) (by decide) hx
theorem p2_s1744_s {X : Int → Int} {LX : Nat} : ck_Ok p2_O X LX 238 p2_s1744 := by
  refine ck_ok_st (cuts := p2_s1744_Z) p2_s1744_u p2_s1744_h p2_s1744_a (fun h hm => ?_)
  rcases List.mem_cons.mp hm with rfl | hm
  · exact ⟨by unfold p2_s1744_Z; exact List.mem_cons_self, fun σ K0 R0 M0 => p2_s1744_y26 (fun _ _ => rfl)⟩
  cases hm
set_option maxRecDepth 100000 in
/-- GlacierMail$Rows.copyFrom -/
def p2_s1745 : ck_Sum := ((1, 0, 0), 245, [.inr (.inr (.inl 30)), .inr (.inr (.inl 4))], ([], [], []), ([(30, 3, 3), (31, 0, 55)], []), [(.inr none, 245, ([], [], []))])
set_option maxRecDepth 100000 in
theorem p2_s1745_e : ck_ok p2_O none [] [] 58 [] 114 p2_s1745 = true := by decide +kernel
theorem p2_s1745_s {X : Int → Int} {LX : Nat} : ck_Ok p2_O X LX 58 p2_s1745 := ck_ok_s ⟨p2_nmu, ck_E0⟩ ck_X0 ck_l0 p2_s1745_e
set_option maxRecDepth 100000 in
/-- GlacierMail$Rows.copyFrom -/
def p2_s1746 : ck_Sum := ((1, 0, 0), 245, [.inr (.inr (.inl 32)), .inr (.inr (.inl 6))], ([], [], []), ([(32, 3, 3), (33, 0, 23)], []), [(.inr none, 245, ([], [], []))])
set_option maxRecDepth 100000 in
theorem p2_s1746_e : ck_ok p2_O none [] [] 58 [] 114 p2_s1746 = true := by decide +kernel
theorem p2_s1746_s {X : Int → Int} {LX : Nat} : ck_Ok p2_O X LX 58 p2_s1746 := ck_ok_s ⟨p2_nmu, ck_E0⟩ ck_X0 ck_l0 p2_s1746_e
set_option maxRecDepth 100000 in
/-- GlacierMail$Rows.copyFrom -/
def p2_s1747 : ck_Sum := ((1, 0, 0), 245, [.inr (.inr (.inl 34)), .inr (.inr (.inl 8))], ([], [], []), ([(34, 3, 3), (35, 0, 23)], []), [(.inr none, 245, ([], [], []))])
set_option maxRecDepth 100000 in
theorem p2_s1747_e : ck_ok p2_O none [] [] 58 [] 114 p2_s1747 = true := by decide +kernel
theorem p2_s1747_s {X : Int → Int} {LX : Nat} : ck_Ok p2_O X LX 58 p2_s1747 := ck_ok_s ⟨p2_nmu, ck_E0⟩ ck_X0 ck_l0 p2_s1747_e
set_option maxRecDepth 100000 in
/-- GlacierMail$Rows.copyFrom -/
def p2_s1748 : ck_Sum := ((1, 0, 0), 245, [.inr (.inr (.inl 36)), .inr (.inr (.inl 10))], ([], [], []), ([(36, 3, 3), (37, 0, 167)], []), [(.inr none, 245, ([], [], []))])
set_option maxRecDepth 100000 in
theorem p2_s1748_e : ck_ok p2_O none [] [] 58 [] 114 p2_s1748 = true := by decide +kernel
theorem p2_s1748_s {X : Int → Int} {LX : Nat} : ck_Ok p2_O X LX 58 p2_s1748 := ck_ok_s ⟨p2_nmu, ck_E0⟩ ck_X0 ck_l0 p2_s1748_e
set_option maxRecDepth 100000 in
/-- GlacierMail$Rows.copyFrom -/
def p2_s1749 : ck_Sum := ((1, 0, 0), 245, [.inr (.inr (.inl 38)), .inr (.inr (.inl 12))], ([], [], []), ([(38, 3, 3), (39, 0, 35)], []), [(.inr none, 245, ([], [], []))])
set_option maxRecDepth 100000 in
theorem p2_s1749_e : ck_ok p2_O none [] [] 58 [] 114 p2_s1749 = true := by decide +kernel
theorem p2_s1749_s {X : Int → Int} {LX : Nat} : ck_Ok p2_O X LX 58 p2_s1749 := ck_ok_s ⟨p2_nmu, ck_E0⟩ ck_X0 ck_l0 p2_s1749_e
set_option maxRecDepth 100000 in
/-- GlacierMail$Rows.copyFrom -/
def p2_s1750 : ck_Sum := ((1, 0, 0), 245, [.inr (.inr (.inl 40)), .inr (.inr (.inl 14))], ([], [], []), ([(40, 3, 3), (41, 0, 71)], []), [(.inr none, 245, ([], [], []))])
set_option maxRecDepth 100000 in
theorem p2_s1750_e : ck_ok p2_O none [] [] 58 [] 114 p2_s1750 = true := by decide +kernel
theorem p2_s1750_s {X : Int → Int} {LX : Nat} : ck_Ok p2_O X LX 58 p2_s1750 := ck_ok_s ⟨p2_nmu, ck_E0⟩ ck_X0 ck_l0 p2_s1750_e
set_option maxRecDepth 100000 in
/-- GlacierMail$State.copyFrom -/
def p2_s1751 : ck_Sum := ((2, 0, 0), 245, [.inr (.inr (.inl 29)), .inr (.inr (.inl 3))], ([], [(3, 8, 0), (29, 8, 100029)], [(3, 6, 6, (0, 299, [(10, 0)]))]), ([(29, 0, 7), (30, 3, 3), (31, 0, 55), (32, 3, 3), (33, 0, 23), (34, 3, 3), (35, 0, 23), (36, 3, 3), (37, 0, 167), (38, 3, 3), (39, 0, 35), (40, 3, 3), (41, 0, 71)], [(29, 8)]), [(.inr none, 245, ([], [(29, 8, 0)], [(29, 6, 6, (0, 299, [(10, 0)]))]))])
set_option maxRecDepth 100000 in
theorem p2_s1751_e : ck_ok p2_O none [] [(58, [p2_s1745, p2_s1746, p2_s1747, p2_s1748, p2_s1749, p2_s1750])] 57 [] 204 p2_s1751 = true := by decide +kernel
theorem p2_s1751_s {X : Int → Int} {LX : Nat} : ck_Ok p2_O X LX 57 p2_s1751 := ck_ok_s ⟨p2_nmu, ck_E1 (ck_S1 p2_s1745_s (ck_S1 p2_s1746_s (ck_S1 p2_s1747_s (ck_S1 p2_s1748_s (ck_S1 p2_s1749_s (ck_S1 p2_s1750_s ck_S0)))))) ck_E0⟩ ck_X0 ck_l0 p2_s1751_e
set_option maxRecDepth 100000 in
/-- GlacierMail.image -/
def p2_s1752 : ck_Sum := ((3, 0, 0), 245, [.inr (.inr (.inl 1))], ([], [(3, 8, 0), (29, 8, 100029)], [(3, 6, 6, (0, 299, [(10, 0)]))]), ([(1, 6, 6), (29, 0, 7), (30, 3, 3), (31, 0, 55), (32, 3, 3), (33, 0, 23), (34, 3, 3), (35, 0, 23), (36, 3, 3), (37, 0, 167), (38, 3, 3), (39, 0, 35), (40, 3, 3), (41, 0, 71)], [(29, 8)]), [(.inr none, 245, ([], [(29, 8, 0)], [(1, 6, 6, ck_one 1), (29, 6, 6, (0, 299, [(10, 0)]))]))])
set_option maxRecDepth 100000 in
theorem p2_s1752_e : ck_ok p2_O none [] [(57, [p2_s1751])] 59 [] 88 p2_s1752 = true := by decide +kernel
theorem p2_s1752_s {X : Int → Int} {LX : Nat} : ck_Ok p2_O X LX 59 p2_s1752 := ck_ok_s ⟨p2_nmu, ck_E1 (ck_S1 p2_s1751_s ck_S0) ck_E0⟩ ck_X0 ck_l0 p2_s1752_e
set_option maxRecDepth 100000 in
/-- GlacierMailModel.image -/
def p2_s1753 : ck_Sum := ((0, 0, 0), 245, [.inr (.inr (.inl 226))], ([], [], [(226, 5, 5, (0, 1, [(8, 0)]))]), ([(226, 0, 0), (226, 5, 5), (228, 0, 1243)], []), [(.inr none, 245, ([], [], [(226, 5, 5, ck_one 1), (226, 0, 0, ck_one 0)]))])
def p2_s1753_E : List (Nat × List ck_Sum) := []
set_option maxRecDepth 100000 in
def p2_s1753_C7 : ck_C := ([some (.inr (.inr (.inl 226))), some (.inl (ck_one 0))], ([], [], [(226, 0, 0, ck_one 0), (226, 5, 5, (0, 1, [(8, 0)]))]), 0, .inl 1, true)
set_option maxRecDepth 100000 in
def p2_s1753_Z : List (Nat × ck_C) := [(7, p2_s1753_C7)]
set_option maxRecDepth 100000 in
theorem p2_s1753_a : (decide (p2_s1753.2.2.1.length ≤ gm_ml 236) && ck_go p2_O none [] p2_s1753_E 236 p2_s1753.1.1 p2_s1753.2.1 p2_s1753.2.2.2.2.1 p2_s1753.2.2.2.2.2 p2_s1753_Z 114 false [(7, p2_s1753_C7, 0, 0, 245)] p2_s1753.1.2.1 p2_s1753.1.2.2 0 (p2_s1753.2.2.1.map some ++ List.replicate (gm_ml 236 - p2_s1753.2.2.1.length) none) [] p2_s1753.2.1 p2_s1753.2.2.2.1) = true := by decide +kernel
theorem p2_s1753_u : ck_cu p2_s1753_Z = true := by decide +kernel
theorem p2_s1753_h {X : Int → Int} {LX : Nat} : ck_nmu p2_O ∧ ck_OkE p2_O X LX p2_s1753_E := ⟨p2_nmu, ck_E0⟩
set_option maxRecDepth 100000 in
theorem p2_s1753_g7 : ck_go p2_O none [] p2_s1753_E 236 p2_s1753.1.1 p2_s1753.2.1 p2_s1753.2.2.2.2.1 p2_s1753.2.2.2.2.2 p2_s1753_Z 114 false [] 0 0 32 (p2_s1753_C7.1.set 1 (some (.inl (ck_one 1244)))) [] 245 (p2_s1753_C7.2.1.1, p2_s1753_C7.2.1.2.1, ck_cws [(228, 0, 1243)] p2_s1753_C7.2.1.2.2) = true := by decide +kernel
set_option maxRecDepth 100000 in
theorem p2_s1753_t7 : cp_tc p2_O 228 227 0 0 1244 = true := by decide +kernel
theorem p2_s1753_y7 {X : Int → Int} {LX : Nat} {σ σ0 : Nat → Int} {K0 : gm_K} {R0 : gm_R} {M0 : gm_M} (hσ : ∀ s, s < 100 → σ s = σ0 s) : ck_Hy p2_O X LX 236 p2_s1753.1.1 p2_s1753.2.2.2.2.1 p2_s1753.2.1 K0 R0 M0 (ck_Q p2_O σ0 p2_s1753.2.2.2.2.1 p2_s1753.2.1 K0 R0 M0 p2_s1753.2.2.2.2.2) σ (7, p2_s1753_C7, 0, 0, 245) := by
  refine ck_cpH (v := 1) (A := 228) (B := 227) (N := 1244) (wa := 0) (wb := 1243) (pc' := 32) p2_s1753_u p2_s1753_h hσ ⟨by decide, by decide⟩ (by decide +kernel) (fun bc bs L K R M hS => ?_) p2_s1753_g7 (fun _ h => nomatch h)
  · obtain ⟨hF, hl, -, hf, -⟩ := hS
    obtain ⟨u0, l0, g0⟩ := hl.2 0 (.inr (.inr (.inl 226))) rfl
    cases g0
    obtain ⟨u1, lv, x1, rfl, -, e1, e2, -⟩ := hl.2 1 (.inl (ck_one 0)) rfl
    have e1 : (0 : Int) ≤ x1 := e1
    have e2 : x1 ≤ (0 : Int) := e2
    have e3 : x1 = 0 := by omega
    subst e3
    have kA : (K 228).2 = 1244 := (md_kd hF md_o.2.1.1).2
    have kB : (K 227).2 = 2093 := (md_kd hF md_o.1.2).2
    refine ⟨0, 0, ⟨by omega, by omega⟩, gm_Fx_cpy hF (cp_tc_s hF p2_s1753_t7) (jj_image (K := K) hF.2.2.2.2), fun Q hx => ?_⟩
    exact cp_lp (iv := .iload_n 1) (v := 1) (ixA := 17) (ixB := 13) (jA := 2) (jB := 1) (A := 228) (B := 227) (mo := 226) (p := 7) (qA := 19) (qB := 24) (N := 1244) (offe := 21) (offb := (-22)) (by decide) (md_mo hF) (md_kd hF md_o.2.1.1).1 (md_kd hF md_o.1.2).1 (md_rf hF md_r.1.2) (md_rf hF md_r.1.1) (by decide +kernel) (by decide +kernel) (by decide +kernel) (by decide +kernel) ⟨by omega, ⟨by omega, by omega⟩, ⟨by omega, by omega⟩, by omega, by omega⟩ (fun e => absurd e (by decide)) (by decide) (by decide +kernel) l0 lv ⟨rfl, rfl⟩ ⟨gm_vr 226, l0, by simp [gm_sort]⟩ (by decide +kernel) (by decide +kernel) (by decide +kernel) (by decide) (by decide +kernel) (by decide +kernel) (cp_sg_i (iv := .iload_n 1) lv ⟨rfl, rfl⟩ (by decide +kernel)) (by decide +kernel) (by decide +kernel) (cp_sg_i (iv := .iload_n 1) lv ⟨rfl, rfl⟩ (by decide +kernel)) (by decide +kernel) (by decide +kernel) (by decide +kernel) (by decide +kernel) (by decide) (by decide) hx
theorem p2_s1753_s {X : Int → Int} {LX : Nat} : ck_Ok p2_O X LX 236 p2_s1753 := by
  refine ck_ok_st (cuts := p2_s1753_Z) p2_s1753_u p2_s1753_h p2_s1753_a (fun h hm => ?_)
  rcases List.mem_cons.mp hm with rfl | hm
  · exact ⟨by unfold p2_s1753_Z; exact List.mem_cons_self, fun σ K0 R0 M0 => p2_s1753_y7 (fun _ _ => rfl)⟩
  cases hm
set_option maxRecDepth 100000 in
/-- GlacierMail$Rows.copyFrom -/
def p2_s1754 : ck_Sum := ((1, 0, 0), 245, [.inr (.inr (.inl 4)), .inr (.inr (.inl 30))], ([], [], []), ([(4, 3, 3), (5, 0, 55)], []), [(.inr none, 245, ([], [], []))])
set_option maxRecDepth 100000 in
theorem p2_s1754_e : ck_ok p2_O none [] [] 58 [] 114 p2_s1754 = true := by decide +kernel
theorem p2_s1754_s {X : Int → Int} {LX : Nat} : ck_Ok p2_O X LX 58 p2_s1754 := ck_ok_s ⟨p2_nmu, ck_E0⟩ ck_X0 ck_l0 p2_s1754_e
set_option maxRecDepth 100000 in
/-- GlacierMail$Rows.copyFrom -/
def p2_s1755 : ck_Sum := ((1, 0, 0), 245, [.inr (.inr (.inl 6)), .inr (.inr (.inl 32))], ([], [], []), ([(6, 3, 3), (7, 0, 23)], []), [(.inr none, 245, ([], [], []))])
set_option maxRecDepth 100000 in
theorem p2_s1755_e : ck_ok p2_O none [] [] 58 [] 114 p2_s1755 = true := by decide +kernel
theorem p2_s1755_s {X : Int → Int} {LX : Nat} : ck_Ok p2_O X LX 58 p2_s1755 := ck_ok_s ⟨p2_nmu, ck_E0⟩ ck_X0 ck_l0 p2_s1755_e
set_option maxRecDepth 100000 in
/-- GlacierMail$Rows.copyFrom -/
def p2_s1756 : ck_Sum := ((1, 0, 0), 245, [.inr (.inr (.inl 8)), .inr (.inr (.inl 34))], ([], [], []), ([(8, 3, 3), (9, 0, 23)], []), [(.inr none, 245, ([], [], []))])
set_option maxRecDepth 100000 in
theorem p2_s1756_e : ck_ok p2_O none [] [] 58 [] 114 p2_s1756 = true := by decide +kernel
theorem p2_s1756_s {X : Int → Int} {LX : Nat} : ck_Ok p2_O X LX 58 p2_s1756 := ck_ok_s ⟨p2_nmu, ck_E0⟩ ck_X0 ck_l0 p2_s1756_e
set_option maxRecDepth 100000 in
/-- GlacierMail$Rows.copyFrom -/
def p2_s1757 : ck_Sum := ((1, 0, 0), 245, [.inr (.inr (.inl 10)), .inr (.inr (.inl 36))], ([], [], []), ([(10, 3, 3), (11, 0, 167)], []), [(.inr none, 245, ([], [], []))])
set_option maxRecDepth 100000 in
theorem p2_s1757_e : ck_ok p2_O none [] [] 58 [] 114 p2_s1757 = true := by decide +kernel
theorem p2_s1757_s {X : Int → Int} {LX : Nat} : ck_Ok p2_O X LX 58 p2_s1757 := ck_ok_s ⟨p2_nmu, ck_E0⟩ ck_X0 ck_l0 p2_s1757_e
